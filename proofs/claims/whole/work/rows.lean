section
-- ===== PART A: goes FIRST, ahead of the names: the tables' words, and 'selects' of the private methods out of them =====
/-- a private method of a class that the tables say can be made, by its rows of tables_1 -/
def lw_okq (q : MethodName × Nat) : Prop := (q.1.cls ≠ "java/lang/invoke/MethodHandle" ∧ q.1.cls ≠ "java/lang/invoke/VarHandle") ∧ Cond.instantiable q.1.cls q.2 ∈ tables_1 ∧ Cond.privateMethod q.1 ∈ tables_1 ∧ Cond.instanceMethod q.1 ∈ tables_1
theorem lw_p0 : lw_okq (⟨"RunBitmaps", "draftColumn", "(III)V"⟩, 5) := ⟨⟨by decide +kernel, by decide +kernel⟩, List.mem_of_getElem? (i := 8) (by decide +kernel), List.mem_of_getElem? (i := 66) (by decide +kernel), List.mem_of_getElem? (i := 67) (by decide +kernel)⟩
theorem lw_p1 : lw_okq (⟨"RunBitmaps$Shelf", "takeGroup", "()I"⟩, 3) := ⟨⟨by decide +kernel, by decide +kernel⟩, List.mem_of_getElem? (i := 16) (by decide +kernel), List.mem_of_getElem? (i := 100) (by decide +kernel), List.mem_of_getElem? (i := 101) (by decide +kernel)⟩
theorem lw_p2 : lw_okq (⟨"RunBitmaps$Shelf", "lastWord", "()I"⟩, 3) := ⟨⟨by decide +kernel, by decide +kernel⟩, List.mem_of_getElem? (i := 16) (by decide +kernel), List.mem_of_getElem? (i := 104) (by decide +kernel), List.mem_of_getElem? (i := 105) (by decide +kernel)⟩
theorem lw_p3 : lw_okq (⟨"RunBitmaps$Shelf", "addGroups", "(II)V"⟩, 3) := ⟨⟨by decide +kernel, by decide +kernel⟩, List.mem_of_getElem? (i := 16) (by decide +kernel), List.mem_of_getElem? (i := 121) (by decide +kernel), List.mem_of_getElem? (i := 122) (by decide +kernel)⟩
theorem lw_p4 : lw_okq (⟨"RunBitmaps$Shelf", "addWord", "(I)V"⟩, 3) := ⟨⟨by decide +kernel, by decide +kernel⟩, List.mem_of_getElem? (i := 16) (by decide +kernel), List.mem_of_getElem? (i := 125) (by decide +kernel), List.mem_of_getElem? (i := 126) (by decide +kernel)⟩
theorem lw_p5 : lw_okq (⟨"RunBitmaps", "stackUp", "(LRunBitmaps$Shelf;I)I"⟩, 5) := ⟨⟨by decide +kernel, by decide +kernel⟩, List.mem_of_getElem? (i := 8) (by decide +kernel), List.mem_of_getElem? (i := 134) (by decide +kernel), List.mem_of_getElem? (i := 135) (by decide +kernel)⟩
theorem lw_p6 : lw_okq (⟨"RunBitmaps$Shelf", "groupsAt", "(I)I"⟩, 3) := ⟨⟨by decide +kernel, by decide +kernel⟩, List.mem_of_getElem? (i := 16) (by decide +kernel), List.mem_of_getElem? (i := 151) (by decide +kernel), List.mem_of_getElem? (i := 152) (by decide +kernel)⟩
theorem lw_p7 : lw_okq (⟨"RunBitmaps", "replaceTop", "(I)I"⟩, 5) := ⟨⟨by decide +kernel, by decide +kernel⟩, List.mem_of_getElem? (i := 8) (by decide +kernel), List.mem_of_getElem? (i := 158) (by decide +kernel), List.mem_of_getElem? (i := 159) (by decide +kernel)⟩
theorem lw_p8 : lw_okq (⟨"RunBitmapsModel", "layValue", "(III)I"⟩, 10) := ⟨⟨by decide +kernel, by decide +kernel⟩, List.mem_of_getElem? (i := 233) (by decide +kernel), List.mem_of_getElem? (i := 281) (by decide +kernel), List.mem_of_getElem? (i := 282) (by decide +kernel)⟩
theorem lw_p9 : lw_okq (⟨"RunBitmapsModel", "goAlong", "(III)I"⟩, 10) := ⟨⟨by decide +kernel, by decide +kernel⟩, List.mem_of_getElem? (i := 233) (by decide +kernel), List.mem_of_getElem? (i := 285) (by decide +kernel), List.mem_of_getElem? (i := 286) (by decide +kernel)⟩
theorem lw_p10 : lw_okq (⟨"RunBitmapsModel", "see", "(I)V"⟩, 10) := ⟨⟨by decide +kernel, by decide +kernel⟩, List.mem_of_getElem? (i := 233) (by decide +kernel), List.mem_of_getElem? (i := 291) (by decide +kernel), List.mem_of_getElem? (i := 292) (by decide +kernel)⟩
theorem lw_p11 : lw_okq (⟨"RunBitmapsModel", "literal", "(II)I"⟩, 10) := ⟨⟨by decide +kernel, by decide +kernel⟩, List.mem_of_getElem? (i := 233) (by decide +kernel), List.mem_of_getElem? (i := 295) (by decide +kernel), List.mem_of_getElem? (i := 296) (by decide +kernel)⟩
theorem lw_p12 : lw_okq (⟨"RunBitmapsModel", "wordsOf", "(I)I"⟩, 10) := ⟨⟨by decide +kernel, by decide +kernel⟩, List.mem_of_getElem? (i := 233) (by decide +kernel), List.mem_of_getElem? (i := 309) (by decide +kernel), List.mem_of_getElem? (i := 310) (by decide +kernel)⟩
theorem lw_p13 : lw_okq (⟨"RunBitmapsModel", "comes", "(I)Z"⟩, 10) := ⟨⟨by decide +kernel, by decide +kernel⟩, List.mem_of_getElem? (i := 233) (by decide +kernel), List.mem_of_getElem? (i := 317) (by decide +kernel), List.mem_of_getElem? (i := 318) (by decide +kernel)⟩
theorem lw_p14 : lw_okq (⟨"RunBitmapsModel", "layJoined", "(IIIIII)I"⟩, 10) := ⟨⟨by decide +kernel, by decide +kernel⟩, List.mem_of_getElem? (i := 233) (by decide +kernel), List.mem_of_getElem? (i := 330) (by decide +kernel), List.mem_of_getElem? (i := 331) (by decide +kernel)⟩
theorem lw_p15 : lw_okq (⟨"RunBitmapsModel", "become", "(II)Z"⟩, 10) := ⟨⟨by decide +kernel, by decide +kernel⟩, List.mem_of_getElem? (i := 233) (by decide +kernel), List.mem_of_getElem? (i := 337) (by decide +kernel), List.mem_of_getElem? (i := 338) (by decide +kernel)⟩
def lw_privs_1 : List (MethodName × Nat) := [(⟨"RunBitmaps", "draftColumn", "(III)V"⟩, 5), (⟨"RunBitmaps$Shelf", "takeGroup", "()I"⟩, 3), (⟨"RunBitmaps$Shelf", "lastWord", "()I"⟩, 3), (⟨"RunBitmaps$Shelf", "addGroups", "(II)V"⟩, 3), (⟨"RunBitmaps$Shelf", "addWord", "(I)V"⟩, 3), (⟨"RunBitmaps", "stackUp", "(LRunBitmaps$Shelf;I)I"⟩, 5), (⟨"RunBitmaps$Shelf", "groupsAt", "(I)I"⟩, 3), (⟨"RunBitmaps", "replaceTop", "(I)I"⟩, 5), (⟨"RunBitmapsModel", "layValue", "(III)I"⟩, 10), (⟨"RunBitmapsModel", "goAlong", "(III)I"⟩, 10), (⟨"RunBitmapsModel", "see", "(I)V"⟩, 10), (⟨"RunBitmapsModel", "literal", "(II)I"⟩, 10), (⟨"RunBitmapsModel", "wordsOf", "(I)I"⟩, 10), (⟨"RunBitmapsModel", "comes", "(I)Z"⟩, 10), (⟨"RunBitmapsModel", "layJoined", "(IIIIII)I"⟩, 10), (⟨"RunBitmapsModel", "become", "(II)Z"⟩, 10)]
theorem lw_r1 : ∀ q ∈ lw_privs_1, lw_okq q := List.forall_mem_cons.mpr ⟨lw_p0, List.forall_mem_cons.mpr ⟨lw_p1, List.forall_mem_cons.mpr ⟨lw_p2, List.forall_mem_cons.mpr ⟨lw_p3, List.forall_mem_cons.mpr ⟨lw_p4, List.forall_mem_cons.mpr ⟨lw_p5, List.forall_mem_cons.mpr ⟨lw_p6, List.forall_mem_cons.mpr ⟨lw_p7, List.forall_mem_cons.mpr ⟨lw_p8, List.forall_mem_cons.mpr ⟨lw_p9, List.forall_mem_cons.mpr ⟨lw_p10, List.forall_mem_cons.mpr ⟨lw_p11, List.forall_mem_cons.mpr ⟨lw_p12, List.forall_mem_cons.mpr ⟨lw_p13, List.forall_mem_cons.mpr ⟨lw_p14, List.forall_mem_cons.mpr ⟨lw_p15, fun _ h => absurd h List.not_mem_nil⟩⟩⟩⟩⟩⟩⟩⟩⟩⟩⟩⟩⟩⟩⟩⟩
def lw_privs : List (MethodName × Nat) := lw_privs_1
def lw_tbl : List Cond := k2_sels lw_privs ++ tables_1
theorem lw_privs_ok : ∀ q ∈ lw_privs, lw_okq q := lw_r1
end
section
/-! names of the classes, their fields, their methods -/
def R_S : String := "RunBitmaps$Shelf"
def F_S : u_T := fun k => match k with
  | 0 => ("RunBitmaps$Shelf", "line", "[I", true)
  | 1 => ("RunBitmaps$Shelf", "bounds", "[I", true)
  | _ => ("RunBitmaps$Shelf", "sets", "I", false)
def t_S : Nat → FieldType := fun k => match k with
  | 0 => .array .int
  | 1 => .array .int
  | _ => .int
theorem n_S : ∀ a, a < 3 → ∀ b, b < 3 → a ≠ b → (F_S a).2.1 ≠ (F_S b).2.1 := by decide +kernel
theorem t_S_ok : ∀ k, k < 3 → parseFieldDescriptor (F_S k).2.2.1 = some (t_S k) := by decide +kernel
def R_B : String := "RunBitmaps"
def F_B : u_T := fun k => match k with
  | 0 => ("RunBitmaps", "columns", "LRunBitmaps$Shelf;", false)
  | 1 => ("RunBitmaps", "draft", "LRunBitmaps$Shelf;", false)
  | 2 => ("RunBitmaps", "stack", "LRunBitmaps$Shelf;", true)
  | 3 => ("RunBitmaps", "result", "LRunBitmaps$Shelf;", true)
  | _ => ("RunBitmaps", "rowCount", "I", false)
def t_B : Nat → FieldType := fun k => match k with
  | 0 => .object "RunBitmaps$Shelf"
  | 1 => .object "RunBitmaps$Shelf"
  | 2 => .object "RunBitmaps$Shelf"
  | 3 => .object "RunBitmaps$Shelf"
  | _ => .int
theorem n_B : ∀ a, a < 5 → ∀ b, b < 5 → a ≠ b → (F_B a).2.1 ≠ (F_B b).2.1 := by decide +kernel
theorem t_B_ok : ∀ k, k < 5 → parseFieldDescriptor (F_B k).2.2.1 = some (t_B k) := by decide +kernel
def R_M : String := "RunBitmapsModel"
def F_M : u_T := fun k => match k with
  | 0 => ("RunBitmapsModel", "ends", "[I", true)
  | 1 => ("RunBitmapsModel", "values", "[I", true)
  | 2 => ("RunBitmapsModel", "runs", "I", false)
  | 3 => ("RunBitmapsModel", "lines", "[I", true)
  | 4 => ("RunBitmapsModel", "begins", "[I", true)
  | 5 => ("RunBitmapsModel", "sets", "I", false)
  | 6 => ("RunBitmapsModel", "place", "I", false)
  | 7 => ("RunBitmapsModel", "wordsSeen", "I", false)
  | 8 => ("RunBitmapsModel", "wordWanted", "I", false)
  | _ => ("RunBitmapsModel", "wordFound", "I", false)
def t_M : Nat → FieldType := fun k => match k with
  | 0 => .array .int
  | 1 => .array .int
  | 2 => .int
  | 3 => .array .int
  | 4 => .array .int
  | 5 => .int
  | 6 => .int
  | 7 => .int
  | 8 => .int
  | _ => .int
theorem n_M : ∀ a, a < 10 → ∀ b, b < 10 → a ≠ b → (F_M a).2.1 ≠ (F_M b).2.1 := by decide +kernel
theorem t_M_ok : ∀ k, k < 10 → parseFieldDescriptor (F_M k).2.2.1 = some (t_M k) := by decide +kernel
def R_I : String := "java/lang/Integer"
def R_L : String := "RunBitmapsLaw"
abbrev classes : List vw_C := [(R_S, F_S, 3), (R_B, F_B, 5), (R_M, F_M, 10)]
abbrev b_B_init : ByteArray := prog_1_method_1_code
def y_B_init : MethodName := ⟨R_B, "<init>", "()V"⟩
abbrev b_S_init : ByteArray := prog_2_method_1_code
def y_S_init : MethodName := ⟨R_S, "<init>", "(II)V"⟩
abbrev b_S_open : ByteArray := prog_2_method_3_code
def y_S_open : MethodName := ⟨R_S, "open", "()V"⟩
abbrev b_B_append : ByteArray := prog_1_method_2_code
def y_B_append : MethodName := ⟨R_B, "append", "(III)I"⟩
abbrev b_B_isValue : ByteArray := prog_1_method_15_code
def y_B_isValue : MethodName := ⟨R_B, "isValue", "(I)Z"⟩
abbrev b_S_clear : ByteArray := prog_2_method_2_code
def y_S_clear : MethodName := ⟨R_S, "clear", "()V"⟩
abbrev b_B_draftColumn : ByteArray := prog_1_method_16_code
def y_B_draftColumn : MethodName := ⟨R_B, "draftColumn", "(III)V"⟩
abbrev b_S_addSet : ByteArray := prog_2_method_12_code
def y_S_addSet : MethodName := ⟨R_S, "addSet", "(LRunBitmaps$Shelf;I)V"⟩
abbrev b_S_size : ByteArray := prog_2_method_7_code
def y_S_size : MethodName := ⟨R_S, "size", "(I)I"⟩
abbrev b_S_startOf : ByteArray := prog_2_method_6_code
def y_S_startOf : MethodName := ⟨R_S, "startOf", "(I)I"⟩
abbrev b_S_used : ByteArray := prog_2_method_5_code
def y_S_used : MethodName := ⟨R_S, "used", "()I"⟩
abbrev b_S_addRows : ByteArray := prog_2_method_13_code
def y_S_addRows : MethodName := ⟨R_S, "addRows", "(ZII)V"⟩
abbrev b_S_takeGroup : ByteArray := prog_2_method_18_code
def y_S_takeGroup : MethodName := ⟨R_S, "takeGroup", "()I"⟩
abbrev b_S_lastWord : ByteArray := prog_2_method_19_code
def y_S_lastWord : MethodName := ⟨R_S, "lastWord", "()I"⟩
abbrev b_B_groupsOf : ByteArray := prog_1_method_20_code
def y_B_groupsOf : MethodName := ⟨R_B, "groupsOf", "(I)I"⟩
abbrev b_B_bitsOf : ByteArray := prog_1_method_21_code
def y_B_bitsOf : MethodName := ⟨R_B, "bitsOf", "(I)I"⟩
abbrev b_B_fillOf : ByteArray := prog_1_method_19_code
def y_B_fillOf : MethodName := ⟨R_B, "fillOf", "(II)I"⟩
abbrev b_B_firstBits : ByteArray := prog_1_method_22_code
def y_B_firstBits : MethodName := ⟨R_B, "firstBits", "(I)I"⟩
abbrev b_S_addGroups : ByteArray := prog_2_method_17_code
def y_S_addGroups : MethodName := ⟨R_S, "addGroups", "(II)V"⟩
abbrev b_S_addWord : ByteArray := prog_2_method_20_code
def y_S_addWord : MethodName := ⟨R_S, "addWord", "(I)V"⟩
abbrev b_B_push : ByteArray := prog_1_method_3_code
def y_B_push : MethodName := ⟨R_B, "push", "(II)I"⟩
abbrev b_B_stackUp : ByteArray := prog_1_method_17_code
def y_B_stackUp : MethodName := ⟨R_B, "stackUp", "(LRunBitmaps$Shelf;I)I"⟩
abbrev b_B_copy : ByteArray := prog_1_method_4_code
def y_B_copy : MethodName := ⟨R_B, "copy", "()I"⟩
abbrev b_B_join : ByteArray := prog_1_method_5_code
def y_B_join : MethodName := ⟨R_B, "join", "(I)I"⟩
abbrev b_S_addJoined : ByteArray := prog_2_method_14_code
def y_S_addJoined : MethodName := ⟨R_S, "addJoined", "(LRunBitmaps$Shelf;III)V"⟩
abbrev b_S_groupsAt : ByteArray := prog_2_method_15_code
def y_S_groupsAt : MethodName := ⟨R_S, "groupsAt", "(I)I"⟩
abbrev b_B_joinedBits : ByteArray := prog_1_method_23_code
def y_B_joinedBits : MethodName := ⟨R_B, "joinedBits", "(III)I"⟩
abbrev b_B_replaceTop : ByteArray := prog_1_method_18_code
def y_B_replaceTop : MethodName := ⟨R_B, "replaceTop", "(I)I"⟩
abbrev b_S_drop : ByteArray := prog_2_method_4_code
def y_S_drop : MethodName := ⟨R_S, "drop", "()V"⟩
abbrev b_B_not : ByteArray := prog_1_method_6_code
def y_B_not : MethodName := ⟨R_B, "not", "()I"⟩
abbrev b_S_addOthers : ByteArray := prog_2_method_16_code
def y_S_addOthers : MethodName := ⟨R_S, "addOthers", "(LRunBitmaps$Shelf;II)V"⟩
abbrev b_B_count : ByteArray := prog_1_method_7_code
def y_B_count : MethodName := ⟨R_B, "count", "()I"⟩
abbrev b_S_rowsOf : ByteArray := prog_2_method_9_code
def y_S_rowsOf : MethodName := ⟨R_S, "rowsOf", "(I)I"⟩
abbrev b_I_bitCount : ByteArray := prog_5_method_49_code
def y_I_bitCount : MethodName := ⟨R_I, "bitCount", "(I)I"⟩
abbrev b_B_after : ByteArray := prog_1_method_8_code
def y_B_after : MethodName := ⟨R_B, "after", "(I)I"⟩
abbrev b_S_firstFrom : ByteArray := prog_2_method_10_code
def y_S_firstFrom : MethodName := ⟨R_S, "firstFrom", "(II)I"⟩
abbrev b_S_firstInWord : ByteArray := prog_2_method_11_code
def y_S_firstInWord : MethodName := ⟨R_S, "firstInWord", "(II)I"⟩
abbrev b_I_numberOfTrailingZeros : ByteArray := prog_5_method_48_code
def y_I_numberOfTrailingZeros : MethodName := ⟨R_I, "numberOfTrailingZeros", "(I)I"⟩
abbrev b_B_words : ByteArray := prog_1_method_9_code
def y_B_words : MethodName := ⟨R_B, "words", "()I"⟩
abbrev b_B_word : ByteArray := prog_1_method_10_code
def y_B_word : MethodName := ⟨R_B, "word", "(I)I"⟩
abbrev b_S_wordOf : ByteArray := prog_2_method_8_code
def y_S_wordOf : MethodName := ⟨R_S, "wordOf", "(II)I"⟩
abbrev b_B_pop : ByteArray := prog_1_method_11_code
def y_B_pop : MethodName := ⟨R_B, "pop", "()I"⟩
abbrev b_B_room : ByteArray := prog_1_method_12_code
def y_B_room : MethodName := ⟨R_B, "room", "()I"⟩
abbrev b_B_stackRoom : ByteArray := prog_1_method_13_code
def y_B_stackRoom : MethodName := ⟨R_B, "stackRoom", "()I"⟩
abbrev b_B_rows : ByteArray := prog_1_method_14_code
def y_B_rows : MethodName := ⟨R_B, "rows", "()I"⟩
abbrev b_M_init : ByteArray := prog_4_method_1_code
def y_M_init : MethodName := ⟨R_M, "<init>", "()V"⟩
abbrev b_M_rows : ByteArray := prog_4_method_2_code
def y_M_rows : MethodName := ⟨R_M, "rows", "()I"⟩
abbrev b_M_room : ByteArray := prog_4_method_7_code
def y_M_room : MethodName := ⟨R_M, "room", "()I"⟩
abbrev b_M_layValue : ByteArray := prog_4_method_6_code
def y_M_layValue : MethodName := ⟨R_M, "layValue", "(III)I"⟩
abbrev b_M_goAlong : ByteArray := prog_4_method_5_code
def y_M_goAlong : MethodName := ⟨R_M, "goAlong", "(III)I"⟩
abbrev b_M_see : ByteArray := prog_4_method_3_code
def y_M_see : MethodName := ⟨R_M, "see", "(I)V"⟩
abbrev b_M_literal : ByteArray := prog_4_method_4_code
def y_M_literal : MethodName := ⟨R_M, "literal", "(II)I"⟩
abbrev b_M_append : ByteArray := prog_4_method_8_code
def y_M_append : MethodName := ⟨R_M, "append", "(III)I"⟩
abbrev b_M_stackRoom : ByteArray := prog_4_method_10_code
def y_M_stackRoom : MethodName := ⟨R_M, "stackRoom", "()I"⟩
abbrev b_M_wordsOf : ByteArray := prog_4_method_9_code
def y_M_wordsOf : MethodName := ⟨R_M, "wordsOf", "(I)I"⟩
abbrev b_M_push : ByteArray := prog_4_method_12_code
def y_M_push : MethodName := ⟨R_M, "push", "(II)I"⟩
abbrev b_M_comes : ByteArray := prog_4_method_11_code
def y_M_comes : MethodName := ⟨R_M, "comes", "(I)Z"⟩
abbrev b_M_copy : ByteArray := prog_4_method_13_code
def y_M_copy : MethodName := ⟨R_M, "copy", "()I"⟩
abbrev b_M_join : ByteArray := prog_4_method_17_code
def y_M_join : MethodName := ⟨R_M, "join", "(I)I"⟩
abbrev b_M_layJoined : ByteArray := prog_4_method_16_code
def y_M_layJoined : MethodName := ⟨R_M, "layJoined", "(IIIIII)I"⟩
abbrev b_M_is : ByteArray := prog_4_method_15_code
def y_M_is : MethodName := ⟨R_M, "is", "(IZZ)Z"⟩
abbrev b_M_become : ByteArray := prog_4_method_14_code
def y_M_become : MethodName := ⟨R_M, "become", "(II)Z"⟩
abbrev b_M_not : ByteArray := prog_4_method_18_code
def y_M_not : MethodName := ⟨R_M, "not", "()I"⟩
abbrev b_M_count : ByteArray := prog_4_method_19_code
def y_M_count : MethodName := ⟨R_M, "count", "()I"⟩
abbrev b_M_after : ByteArray := prog_4_method_20_code
def y_M_after : MethodName := ⟨R_M, "after", "(I)I"⟩
abbrev b_M_words : ByteArray := prog_4_method_21_code
def y_M_words : MethodName := ⟨R_M, "words", "()I"⟩
abbrev b_M_word : ByteArray := prog_4_method_22_code
def y_M_word : MethodName := ⟨R_M, "word", "(I)I"⟩
abbrev b_M_pop : ByteArray := prog_4_method_23_code
def y_M_pop : MethodName := ⟨R_M, "pop", "()I"⟩
end
section
/-! MY ROWS: the kit's rows over a bundle: the world ws, the locals lv, the operand stack st. -/
def gw : List Cond := lw_tbl.filter goodWord
theorem gw_good : ∀ w ∈ gw, (w.onTables && w.keeps) = true ∨ ∃ ty, w = Cond.arrayClass ty := fun w h => good_of_word (List.mem_filter.mp h).2
theorem gw_in {y : Cond} (hy : y ∈ gw) : GoodIn gw (y :: gw) := fun w hw => by
  rcases List.mem_cons.mp hw with rfl | h
  · exact ⟨hy, gw_good _ hy⟩
  · exact ⟨h, gw_good w h⟩
def isNest : Cond → Bool
  | .fieldLinkNest .. => true
  | .methodLinkNest .. => true
  | _ => false
def nw : List Cond := lw_tbl.filter isNest
def Nw (U : State) : Prop := ∀ w ∈ nw, va_Nw w U
theorem Nw.warm {s U : State} (hW : s.WarmedH U.vm) (h : Nw s) : Nw U := fun w hw => by
  have hk := (List.mem_filter.mp hw).2
  have h1 := h w hw
  cases w <;> first | exact va_Nw.warmF hW h1 | exact va_Nw.warmM hW h1 | (simp [isNest] at hk; done)
theorem Nw.same {s U : State} (e : s.vm = U.vm) (h : Nw s) : Nw U := fun w hw => by
  have hk := (List.mem_filter.mp hw).2
  have h1 := h w hw
  cases w <;> first | exact va_Nw.same rfl e h1 | (simp [isNest] at hk; done)
abbrev Sint : List (ClassId × FieldType) → ClassId → Prop := fun t cA => t = [(cA, FieldType.int)]
/-- what is fixed in a method's walk -/
def Cx (p : Program) (s : State) (m : MethodId) (args : Array Value) (meth : Method) (c : Code) (cc : ByteArray) (nL : Nat) (own : String) (D : va_G) (cA : ClassId) (A : Nat → Prop) : Prop :=
  p.tables.exec = Jvm.exec ∧ c.code = cc ∧ c.maxLocals = nL ∧ s.vm.findClass own = some m.cls ∧ (∀ w ∈ gw, w.before args s = true) ∧ va_K D classes [(cA, .int)] s ∧ Nw s ∧ (∀ q : Nat, s.heap.size ≤ q → A q) ∧ meth.locks = false
def X (p : Program) (l : Launch) (e : Env) (R : Room) (s : State) (m : MethodId) (args : Array Value) (below : List Frame) (meth : Method) (c : Code) (D : va_G) (A : Nat → Prop) (nL cells slots : Nat) (Q : State → Prop) (ws : va_W) (pc : Nat) (lv : List (Nat × Value)) (st : List Value) : Prop :=
  ∀ (H : Heap) (locs : List Loc) (ls : Array Slot), va_P D classes ws H → va_D A ws → va_S A s.heap H locs → lv_has ls nL lv → W p l e R s m args below meth c H locs cells slots Q (F0 m pc ls st)
def Pw (D : va_G) (cA : ClassId) (sz : Nat) (wc : va_W) (U : State) : Prop := U.heap.size = sz ∧ va_P D classes wc U.heap ∧ (va_K D classes [(cA, .int)] U ∧ Nw U) ∧ va_D (fun _ => True) wc
theorem Pw.blind {As : List Value} {D : va_G} {cA : ClassId} {sz : Nat} {wc : va_W} : FrameBlind (va_Pc As (Pw D cA sz wc)) := fun a U g mk q => by
  obtain ⟨q0, q1, qP, ⟨qK, qN⟩, qD⟩ := q
  exact ⟨q0, q1, qP, ⟨va_K.moved (u := U) (U := U.calling g mk a) (Vm.Alike.refl U.vm) qK, Nw.same (s := U) (U := U.calling g mk a) rfl qN⟩, qD⟩
def Bw {S : Type} (D : va_G) (A : Nat → Prop) (w1 : S → va_W) (u : S) (t : State) : Prop := va_P D classes (w1 u) t.heap ∧ va_D A (w1 u)
/-- contracts: an int comes back; nothing comes back -/
def CtI (l : Launch) (D : va_G) (cA : ClassId) (y : MethodName) (bytes : ByteArray) (maxL : Nat) (rt : Option FieldType) (rm : Room) (As : List Value) (wc : va_W) {S : Type} (post : Int32 → S → Prop) (w1 : S → va_W) : Prop :=
  ∀ sz : Nat, Met l y (.code y bytes maxL rt :: gw) rm (va_Pc As (Pw D cA sz wc)) (va_Qi post (Bw D (va_A wc sz) w1) (va_A wc sz)) rm.cells rm.slots (va_A wc sz)
def CtV (l : Launch) (D : va_G) (cA : ClassId) (y : MethodName) (bytes : ByteArray) (maxL : Nat) (rm : Room) (As : List Value) (wc : va_W) {S : Type} (post : S → Prop) (w1 : S → va_W) : Prop :=
  ∀ sz : Nat, Met l y (.code y bytes maxL none :: gw) rm (va_Pc As (Pw D cA sz wc)) (va_Qv post (Bw D (va_A wc sz) w1) (va_A wc sz)) rm.cells rm.slots (va_A wc sz)
section MK
variable {p : Program} {l : Launch} {e : Env} {R : Room} {s : State} {m : MethodId} {args : Array Value} {below : List Frame} {meth : Method} {c : Code} {D : va_G} {A : Nat → Prop} {nL cells slots : Nat} {Q : State → Prop}
variable {cc : ByteArray} {own : String} {cA : ClassId} {ws : va_W} {pc : Nat} {lv : List (Nat × Value)} {rest : List Value}
theorem lk_at {ls : Array Slot} {i : Nat} {v : Value} (h : lv_has ls nL lv) (hk : lv.lookup i = some v) : ls[i]? = some (.val v) := by
  refine h.2.2 (i, v) ?_
  clear h
  induction lv with
  | nil => cases hk
  | cons q lv ih =>
    rw [List.lookup_cons] at hk
    by_cases hq : i = q.1
    · subst hq
      simp at hk
      subst hk
      exact List.mem_cons_self
    · have hb : (i == q.1) = false := by simp [hq]
      rw [hb] at hk
      exact List.mem_cons_of_mem _ (ih hk)
/-- a new value for the top of the stack -/
theorem x_top {x y : Int32} (h : x = y) (k : X p l e R s m args below meth c D A nL cells slots Q ws pc lv (.int y :: rest)) : X p l e R s m args below meth c D A nL cells slots Q ws pc lv (.int x :: rest) := h ▸ k
/-- the world in another order -/
theorem x_perm {ws' : va_W} (is : List Nat) (hn : va_nd is = true) (h : is.map (fun i => ws[i]?) = ws'.map some) (k : X p l e R s m args below meth c D A nL cells slots Q ws' pc lv rest) : X p l e R s m args below meth c D A nL cells slots Q ws pc lv rest := fun H locs ls hP hD hS hl => by
  refine k H locs ls (fun j q hq => ?_) (hD.sub is hn h) hS hl
  have h1 : (is.map (fun i => ws[i]?))[j]? = some (some q) := by rw [h, List.getElem?_map, hq]; rfl
  rw [List.getElem?_map] at h1
  cases hi : is[j]? with
  | none => rw [hi] at h1; cases h1
  | some i => rw [hi] at h1; exact hP i q (Option.some.inj h1)
/-- fewer locals known -/
theorem x_lv {lv' : List (Nat × Value)} (h : lv'.all (fun q => decide (lv.lookup q.1 = some q.2)) = true ∨ ∀ q ∈ lv', lv.lookup q.1 = some q.2) (k : X p l e R s m args below meth c D A nL cells slots Q ws pc lv' rest) : X p l e R s m args below meth c D A nL cells slots Q ws pc lv rest := fun H locs ls hP hD hS hl => by
  refine k H locs ls hP hD hS ⟨hl.1, hl.2.1, fun q hq => lk_at hl ?_⟩
  rcases h with h | h
  · simpa using List.all_eq_true.mp h q hq
  · exact h q hq
theorem x_eq {ws' : va_W} (h : ws = ws') (k : X p l e R s m args below meth c D A nL cells slots Q ws' pc lv rest) : X p l e R s m args below meth c D A nL cells slots Q ws pc lv rest := h ▸ k

theorem x_iconst (C : Cx p s m args meth c cc nL own D cA A) {n : Int} {v : Int32} (hdg : decode cc pc = .ok (.iconst n, 1)) (hv : Int32.ofInt n = v) (k : X p l e R s m args below meth c D A nL cells slots Q ws (pc + 1) lv (.int v :: rest)) : X p l e R s m args below meth c D A nL cells slots Q ws pc lv rest := fun H locs ls hP hD hS hl => lv_iconst C.1 C.2.1 hdg hv (k H locs ls hP hD hS hl)
theorem x_bipush (C : Cx p s m args meth c cc nL own D cA A) {n : Int} {v : Int32} (hdg : decode cc pc = .ok (.bipush n, 2)) (hv : (Int8.ofInt n).toInt32 = v) (k : X p l e R s m args below meth c D A nL cells slots Q ws (pc + 2) lv (.int v :: rest)) : X p l e R s m args below meth c D A nL cells slots Q ws pc lv rest := fun H locs ls hP hD hS hl => lv_bipush C.1 C.2.1 hdg hv (k H locs ls hP hD hS hl)
theorem x_sipush (C : Cx p s m args meth c cc nL own D cA A) {n : Int} {v : Int32} (hdg : decode cc pc = .ok (.sipush n, 3)) (hv : (Int16.ofInt n).toInt32 = v) (k : X p l e R s m args below meth c D A nL cells slots Q ws (pc + 3) lv (.int v :: rest)) : X p l e R s m args below meth c D A nL cells slots Q ws pc lv rest := fun H locs ls hP hD hS hl => lv_sipush C.1 C.2.1 hdg hv (k H locs ls hP hD hS hl)
theorem x_ldc (C : Cx p s m args meth c cc nL own D cA A) {index : Nat} {v : Int32} (hdg : decode cc pc = .ok (.ldc index, 2)) (hv : Cond.constant own index v ∈ gw) (k : X p l e R s m args below meth c D A nL cells slots Q ws (pc + 2) lv (.int v :: rest)) : X p l e R s m args below meth c D A nL cells slots Q ws pc lv rest := fun H locs ls hP hD hS hl => lv_ldc C.1 C.2.1 C.2.2.2.1 (C.2.2.2.2.1 _ hv) hdg (k H locs ls hP hD hS hl)
theorem x_ldcw (C : Cx p s m args meth c cc nL own D cA A) {index : Nat} {v : Int32} (hdg : decode cc pc = .ok (.ldc_w index, 3)) (hv : Cond.constant own index v ∈ gw) (k : X p l e R s m args below meth c D A nL cells slots Q ws (pc + 3) lv (.int v :: rest)) : X p l e R s m args below meth c D A nL cells slots Q ws pc lv rest := fun H locs ls hP hD hS hl => lv_ldcw C.1 C.2.1 C.2.2.2.1 (C.2.2.2.2.1 _ hv) hdg (k H locs ls hP hD hS hl)
theorem x_iload_n (C : Cx p s m args meth c cc nL own D cA A) {k0 : Fin 4} {i : Nat} {x : Int32} (hdg : decode cc pc = .ok (.iload_n k0, 1)) (hi : (k0 : Nat) = i) (hv : lv.lookup i = some (.int x)) (k : X p l e R s m args below meth c D A nL cells slots Q ws (pc + 1) lv (.int x :: rest)) : X p l e R s m args below meth c D A nL cells slots Q ws pc lv rest := fun H locs ls hP hD hS hl => lv_iload_n C.1 C.2.1 hdg hi (lk_at hl hv) (k H locs ls hP hD hS hl)
theorem x_iload (C : Cx p s m args meth c cc nL own D cA A) {i : Nat} {x : Int32} (hdg : decode cc pc = .ok (.iload i, 2)) (hv : lv.lookup i = some (.int x)) (k : X p l e R s m args below meth c D A nL cells slots Q ws (pc + 2) lv (.int x :: rest)) : X p l e R s m args below meth c D A nL cells slots Q ws pc lv rest := fun H locs ls hP hD hS hl => lv_iload C.1 C.2.1 hdg (lk_at hl hv) (k H locs ls hP hD hS hl)
theorem x_aload_n (C : Cx p s m args meth c cc nL own D cA A) {k0 : Fin 4} {i : Nat} {x : Nat} (hdg : decode cc pc = .ok (.aload_n k0, 1)) (hi : (k0 : Nat) = i) (hv : lv.lookup i = some (.ref x)) (k : X p l e R s m args below meth c D A nL cells slots Q ws (pc + 1) lv (.ref x :: rest)) : X p l e R s m args below meth c D A nL cells slots Q ws pc lv rest := fun H locs ls hP hD hS hl => lv_aload_n C.1 C.2.1 hdg hi (lk_at hl hv) (k H locs ls hP hD hS hl)
theorem x_aload (C : Cx p s m args meth c cc nL own D cA A) {i : Nat} {x : Nat} (hdg : decode cc pc = .ok (.aload i, 2)) (hv : lv.lookup i = some (.ref x)) (k : X p l e R s m args below meth c D A nL cells slots Q ws (pc + 2) lv (.ref x :: rest)) : X p l e R s m args below meth c D A nL cells slots Q ws pc lv rest := fun H locs ls hP hD hS hl => lv_aload C.1 C.2.1 hdg (lk_at hl hv) (k H locs ls hP hD hS hl)
theorem x_istore_n (C : Cx p s m args meth c cc nL own D cA A) {k0 : Fin 4} {i : Nat} {x : Int32} {lv' : List (Nat × Value)} (hdg : decode cc pc = .ok (.istore_n k0, 1)) (hi : (k0 : Nat) = i) (hn : i < nL) (hv : (i, Value.int x) :: lv.filter (fun q => !(q.1 == i) && !(q.1 + 1 == i && q.2.category == 2)) = lv') (k : X p l e R s m args below meth c D A nL cells slots Q ws (pc + 1) lv' rest) : X p l e R s m args below meth c D A nL cells slots Q ws pc lv (Value.int x :: rest) := fun H locs ls hP hD hS hl => lv_istore_n C.1 C.2.1 hdg hi hl hn hv (fun ls hl => k H locs ls hP hD hS hl)
theorem x_istore (C : Cx p s m args meth c cc nL own D cA A) {i : Nat} {x : Int32} {lv' : List (Nat × Value)} (hdg : decode cc pc = .ok (.istore i, 2)) (hn : i < nL) (hv : (i, Value.int x) :: lv.filter (fun q => !(q.1 == i) && !(q.1 + 1 == i && q.2.category == 2)) = lv') (k : X p l e R s m args below meth c D A nL cells slots Q ws (pc + 2) lv' rest) : X p l e R s m args below meth c D A nL cells slots Q ws pc lv (Value.int x :: rest) := fun H locs ls hP hD hS hl => lv_istore C.1 C.2.1 hdg hl hn hv (fun ls hl => k H locs ls hP hD hS hl)
theorem x_astore_n (C : Cx p s m args meth c cc nL own D cA A) {k0 : Fin 4} {i : Nat} {x : Nat} {lv' : List (Nat × Value)} (hdg : decode cc pc = .ok (.astore_n k0, 1)) (hi : (k0 : Nat) = i) (hn : i < nL) (hv : (i, Value.ref x) :: lv.filter (fun q => !(q.1 == i) && !(q.1 + 1 == i && q.2.category == 2)) = lv') (k : X p l e R s m args below meth c D A nL cells slots Q ws (pc + 1) lv' rest) : X p l e R s m args below meth c D A nL cells slots Q ws pc lv (Value.ref x :: rest) := fun H locs ls hP hD hS hl => lv_astore_n C.1 C.2.1 hdg hi hl hn hv (fun ls hl => k H locs ls hP hD hS hl)
theorem x_astore (C : Cx p s m args meth c cc nL own D cA A) {i : Nat} {x : Nat} {lv' : List (Nat × Value)} (hdg : decode cc pc = .ok (.astore i, 2)) (hn : i < nL) (hv : (i, Value.ref x) :: lv.filter (fun q => !(q.1 == i) && !(q.1 + 1 == i && q.2.category == 2)) = lv') (k : X p l e R s m args below meth c D A nL cells slots Q ws (pc + 2) lv' rest) : X p l e R s m args below meth c D A nL cells slots Q ws pc lv (Value.ref x :: rest) := fun H locs ls hP hD hS hl => lv_astore C.1 C.2.1 hdg hl hn hv (fun ls hl => k H locs ls hP hD hS hl)
theorem x_iinc (C : Cx p s m args meth c cc nL own D cA A) {i : Nat} {n : Int} {x v : Int32} {lv' : List (Nat × Value)} (hdg : decode cc pc = .ok (.iinc i n, 3)) (hx : lv.lookup i = some (.int x)) (hv : x + Int32.ofInt n = v) (hn : i < nL) (hl' : (i, Value.int v) :: lv.filter (fun q => !(q.1 == i) && !(q.1 + 1 == i && q.2.category == 2)) = lv') (k : X p l e R s m args below meth c D A nL cells slots Q ws (pc + 3) lv' rest) : X p l e R s m args below meth c D A nL cells slots Q ws pc lv rest := fun H locs ls hP hD hS hl => by
  have h2 : lv_has ls nL ((i, Value.int x) :: lv) := ⟨hl.1, hl.2.1, fun q hq => by
    rcases List.mem_cons.mp hq with rfl | h
    · exact lk_at hl hx
    · exact hl.2.2 q h⟩
  refine lv_iinc (k := 0) C.1 C.2.1 hdg h2 rfl hv hn (lv' := lv') ?_ (fun ls hl => k H locs ls hP hD hS hl)
  rw [List.filter_cons_of_neg (by simp)]
  exact hl'
theorem x_iadd (C : Cx p s m args meth c cc nL own D cA A) {x y : Int32} (hdg : decode cc pc = .ok (.iadd, 1)) (k : X p l e R s m args below meth c D A nL cells slots Q ws (pc + 1) lv (.int (x + y) :: rest)) : X p l e R s m args below meth c D A nL cells slots Q ws pc lv (.int y :: .int x :: rest) := fun H locs ls hP hD hS hl => lv_iadd C.1 C.2.1 hdg (k H locs ls hP hD hS hl)
theorem x_isub (C : Cx p s m args meth c cc nL own D cA A) {x y : Int32} (hdg : decode cc pc = .ok (.isub, 1)) (k : X p l e R s m args below meth c D A nL cells slots Q ws (pc + 1) lv (.int (x - y) :: rest)) : X p l e R s m args below meth c D A nL cells slots Q ws pc lv (.int y :: .int x :: rest) := fun H locs ls hP hD hS hl => lv_isub C.1 C.2.1 hdg (k H locs ls hP hD hS hl)
theorem x_imul (C : Cx p s m args meth c cc nL own D cA A) {x y : Int32} (hdg : decode cc pc = .ok (.imul, 1)) (k : X p l e R s m args below meth c D A nL cells slots Q ws (pc + 1) lv (.int (x * y) :: rest)) : X p l e R s m args below meth c D A nL cells slots Q ws pc lv (.int y :: .int x :: rest) := fun H locs ls hP hD hS hl => lv_imul C.1 C.2.1 hdg (k H locs ls hP hD hS hl)
theorem x_iand (C : Cx p s m args meth c cc nL own D cA A) {x y : Int32} (hdg : decode cc pc = .ok (.iand, 1)) (k : X p l e R s m args below meth c D A nL cells slots Q ws (pc + 1) lv (.int (x &&& y) :: rest)) : X p l e R s m args below meth c D A nL cells slots Q ws pc lv (.int y :: .int x :: rest) := fun H locs ls hP hD hS hl => lv_iand C.1 C.2.1 hdg (k H locs ls hP hD hS hl)
theorem x_ior (C : Cx p s m args meth c cc nL own D cA A) {x y : Int32} (hdg : decode cc pc = .ok (.ior, 1)) (k : X p l e R s m args below meth c D A nL cells slots Q ws (pc + 1) lv (.int (x ||| y) :: rest)) : X p l e R s m args below meth c D A nL cells slots Q ws pc lv (.int y :: .int x :: rest) := fun H locs ls hP hD hS hl => lv_ior C.1 C.2.1 hdg (k H locs ls hP hD hS hl)
theorem x_ixor (C : Cx p s m args meth c cc nL own D cA A) {x y : Int32} (hdg : decode cc pc = .ok (.ixor, 1)) (k : X p l e R s m args below meth c D A nL cells slots Q ws (pc + 1) lv (.int (x ^^^ y) :: rest)) : X p l e R s m args below meth c D A nL cells slots Q ws pc lv (.int y :: .int x :: rest) := fun H locs ls hP hD hS hl => lv_ixor C.1 C.2.1 hdg (k H locs ls hP hD hS hl)
theorem x_ishl (C : Cx p s m args meth c cc nL own D cA A) {x y : Int32} (hdg : decode cc pc = .ok (.ishl, 1)) (k : X p l e R s m args below meth c D A nL cells slots Q ws (pc + 1) lv (.int (x <<< (y &&& 31)) :: rest)) : X p l e R s m args below meth c D A nL cells slots Q ws pc lv (.int y :: .int x :: rest) := fun H locs ls hP hD hS hl => lv_ishl C.1 C.2.1 hdg (k H locs ls hP hD hS hl)
theorem x_ishr (C : Cx p s m args meth c cc nL own D cA A) {x y : Int32} (hdg : decode cc pc = .ok (.ishr, 1)) (k : X p l e R s m args below meth c D A nL cells slots Q ws (pc + 1) lv (.int (x >>> (y &&& 31)) :: rest)) : X p l e R s m args below meth c D A nL cells slots Q ws pc lv (.int y :: .int x :: rest) := fun H locs ls hP hD hS hl => lv_ishr C.1 C.2.1 hdg (k H locs ls hP hD hS hl)
theorem x_iushr (C : Cx p s m args meth c cc nL own D cA A) {x y v : Int32} (hdg : decode cc pc = .ok (.iushr, 1)) (hv : (x.toUInt32 >>> (y.toUInt32 &&& Int32.toUInt32 31)).toInt32 = v) (k : X p l e R s m args below meth c D A nL cells slots Q ws (pc + 1) lv (.int v :: rest)) : X p l e R s m args below meth c D A nL cells slots Q ws pc lv (.int y :: .int x :: rest) := fun H locs ls hP hD hS hl => lv_iushr C.1 C.2.1 hdg hv (k H locs ls hP hD hS hl)
theorem x_idiv (C : Cx p s m args meth c cc nL own D cA A) {x y : Int32} (hdg : decode cc pc = .ok (.idiv, 1)) (hv : ¬ y = 0) (k : X p l e R s m args below meth c D A nL cells slots Q ws (pc + 1) lv (.int (x / y) :: rest)) : X p l e R s m args below meth c D A nL cells slots Q ws pc lv (.int y :: .int x :: rest) := fun H locs ls hP hD hS hl => lv_idiv C.1 C.2.1 hdg hv (k H locs ls hP hD hS hl)
theorem x_irem (C : Cx p s m args meth c cc nL own D cA A) {x y : Int32} (hdg : decode cc pc = .ok (.irem, 1)) (hv : ¬ y = 0) (k : X p l e R s m args below meth c D A nL cells slots Q ws (pc + 1) lv (.int (x - x / y * y) :: rest)) : X p l e R s m args below meth c D A nL cells slots Q ws pc lv (.int y :: .int x :: rest) := fun H locs ls hP hD hS hl => lv_irem C.1 C.2.1 hdg hv (k H locs ls hP hD hS hl)
theorem x_ineg (C : Cx p s m args meth c cc nL own D cA A) {x : Int32} (hdg : decode cc pc = .ok (.ineg, 1)) (k : X p l e R s m args below meth c D A nL cells slots Q ws (pc + 1) lv (.int (-x) :: rest)) : X p l e R s m args below meth c D A nL cells slots Q ws pc lv (.int x :: rest) := fun H locs ls hP hD hS hl => lv_ineg C.1 C.2.1 hdg (k H locs ls hP hD hS hl)
theorem x_dup (C : Cx p s m args meth c cc nL own D cA A) {v : Value} (hdg : decode cc pc = .ok (.dup, 1)) (hv : v.category = 1) (k : X p l e R s m args below meth c D A nL cells slots Q ws (pc + 1) lv (v :: v :: rest)) : X p l e R s m args below meth c D A nL cells slots Q ws pc lv (v :: rest) := fun H locs ls hP hD hS hl => lv_dup C.1 C.2.1 hdg hv (k H locs ls hP hD hS hl)
theorem x_dup_x1 (C : Cx p s m args meth c cc nL own D cA A) {v w : Value} (hdg : decode cc pc = .ok (.dup_x1, 1)) (hv : v.category = 1) (hw : w.category = 1) (k : X p l e R s m args below meth c D A nL cells slots Q ws (pc + 1) lv (v :: w :: v :: rest)) : X p l e R s m args below meth c D A nL cells slots Q ws pc lv (v :: w :: rest) := fun H locs ls hP hD hS hl => lv_dup_x1 C.1 C.2.1 hdg hv hw (k H locs ls hP hD hS hl)
theorem x_dup2 (C : Cx p s m args meth c cc nL own D cA A) {v w : Value} (hdg : decode cc pc = .ok (.dup2, 1)) (hv : v.category = 1) (hw : w.category = 1) (k : X p l e R s m args below meth c D A nL cells slots Q ws (pc + 1) lv (v :: w :: v :: w :: rest)) : X p l e R s m args below meth c D A nL cells slots Q ws pc lv (v :: w :: rest) := fun H locs ls hP hD hS hl => lv_dup2_11 C.1 C.2.1 hdg hv hw (k H locs ls hP hD hS hl)
theorem x_pop (C : Cx p s m args meth c cc nL own D cA A) {v : Value} (hdg : decode cc pc = .ok (.pop, 1)) (hv : v.category = 1) (k : X p l e R s m args below meth c D A nL cells slots Q ws (pc + 1) lv rest) : X p l e R s m args below meth c D A nL cells slots Q ws pc lv (v :: rest) := fun H locs ls hP hD hS hl => lv_pop C.1 C.2.1 hdg hv (k H locs ls hP hD hS hl)
theorem x_iaddN (C : Cx p s m args meth c cc nL own D cA A) {a b : Nat} (hdg : decode cc pc = .ok (.iadd, 1)) (k : X p l e R s m args below meth c D A nL cells slots Q ws (pc + 1) lv (.int (nI (a + b)) :: rest)) : X p l e R s m args below meth c D A nL cells slots Q ws pc lv (.int (nI b) :: .int (nI a) :: rest) := x_iadd C hdg (x_top (nI_add a b) k)
theorem x_isubN (C : Cx p s m args meth c cc nL own D cA A) {a b : Nat} (hdg : decode cc pc = .ok (.isub, 1)) (h : b ≤ a) (k : X p l e R s m args below meth c D A nL cells slots Q ws (pc + 1) lv (.int (nI (a - b)) :: rest)) : X p l e R s m args below meth c D A nL cells slots Q ws pc lv (.int (nI b) :: .int (nI a) :: rest) := x_isub C hdg (x_top (pk_sub h) k)
theorem x_imulN (C : Cx p s m args meth c cc nL own D cA A) {a b : Nat} (hdg : decode cc pc = .ok (.imul, 1)) (k : X p l e R s m args below meth c D A nL cells slots Q ws (pc + 1) lv (.int (nI (a * b)) :: rest)) : X p l e R s m args below meth c D A nL cells slots Q ws pc lv (.int (nI b) :: .int (nI a) :: rest) := x_imul C hdg (x_top (pk_mul a b) k)
theorem x_idivN (C : Cx p s m args meth c cc nL own D cA A) {a b : Nat} (hdg : decode cc pc = .ok (.idiv, 1)) (ha : a < 2 ^ 31) (h0 : 0 < b) (hb : b < 2 ^ 31) (k : X p l e R s m args below meth c D A nL cells slots Q ws (pc + 1) lv (.int (nI (a / b)) :: rest)) : X p l e R s m args below meth c D A nL cells slots Q ws pc lv (.int (nI b) :: .int (nI a) :: rest) := x_idiv C hdg (nI_ne0 h0 hb) (x_top (pk_div ha h0 hb) k)
theorem x_iremN (C : Cx p s m args meth c cc nL own D cA A) {a b : Nat} (hdg : decode cc pc = .ok (.irem, 1)) (ha : a < 2 ^ 31) (h0 : 0 < b) (hb : b < 2 ^ 31) (k : X p l e R s m args below meth c D A nL cells slots Q ws (pc + 1) lv (.int (nI (a % b)) :: rest)) : X p l e R s m args below meth c D A nL cells slots Q ws pc lv (.int (nI b) :: .int (nI a) :: rest) := x_irem C hdg (nI_ne0 h0 hb) (x_top (pk_rem ha h0 hb) k)
theorem x_iincN (C : Cx p s m args meth c cc nL own D cA A) {i a : Nat} {lv' : List (Nat × Value)} (hdg : decode cc pc = .ok (.iinc i 1, 3)) (hx : lv.lookup i = some (.int (nI a))) (hn : i < nL) (hl' : (i, Value.int (nI (a + 1))) :: lv.filter (fun q => !(q.1 == i) && !(q.1 + 1 == i && q.2.category == 2)) = lv') (k : X p l e R s m args below meth c D A nL cells slots Q ws (pc + 3) lv' rest) : X p l e R s m args below meth c D A nL cells slots Q ws pc lv rest := x_iinc C hdg hx (nI_1 a) hn hl' k
theorem x_if_eq (C : Cx p s m args meth c cc nL own D cA A) {x : Int32} {off : Int} {tgt : Nat} (hdg : decode cc pc = .ok (.ifCond .eq off, 3)) (ht : (pc : Int) + off = (tgt : Int)) (kt : x = 0 → X p l e R s m args below meth c D A nL cells slots Q ws tgt lv rest) (kf : ¬ x = 0 → X p l e R s m args below meth c D A nL cells slots Q ws (pc + 3) lv rest) : X p l e R s m args below meth c D A nL cells slots Q ws pc lv (.int x :: rest) := fun H locs ls hP hD hS hl => lv_if_eq C.1 C.2.1 hdg ht (fun q => kt q H locs ls hP hD hS hl) (fun q => kf q H locs ls hP hD hS hl)
theorem x_if_ne (C : Cx p s m args meth c cc nL own D cA A) {x : Int32} {off : Int} {tgt : Nat} (hdg : decode cc pc = .ok (.ifCond .ne off, 3)) (ht : (pc : Int) + off = (tgt : Int)) (kt : ¬ x = 0 → X p l e R s m args below meth c D A nL cells slots Q ws tgt lv rest) (kf : x = 0 → X p l e R s m args below meth c D A nL cells slots Q ws (pc + 3) lv rest) : X p l e R s m args below meth c D A nL cells slots Q ws pc lv (.int x :: rest) := fun H locs ls hP hD hS hl => lv_if_ne C.1 C.2.1 hdg ht (fun q => kt q H locs ls hP hD hS hl) (fun q => kf q H locs ls hP hD hS hl)
theorem x_if_lt (C : Cx p s m args meth c cc nL own D cA A) {x : Int32} {off : Int} {tgt : Nat} (hdg : decode cc pc = .ok (.ifCond .lt off, 3)) (ht : (pc : Int) + off = (tgt : Int)) (kt : x < 0 → X p l e R s m args below meth c D A nL cells slots Q ws tgt lv rest) (kf : ¬ x < 0 → X p l e R s m args below meth c D A nL cells slots Q ws (pc + 3) lv rest) : X p l e R s m args below meth c D A nL cells slots Q ws pc lv (.int x :: rest) := fun H locs ls hP hD hS hl => lv_if_lt C.1 C.2.1 hdg ht (fun q => kt q H locs ls hP hD hS hl) (fun q => kf q H locs ls hP hD hS hl)
theorem x_if_ge (C : Cx p s m args meth c cc nL own D cA A) {x : Int32} {off : Int} {tgt : Nat} (hdg : decode cc pc = .ok (.ifCond .ge off, 3)) (ht : (pc : Int) + off = (tgt : Int)) (kt : 0 ≤ x → X p l e R s m args below meth c D A nL cells slots Q ws tgt lv rest) (kf : ¬ 0 ≤ x → X p l e R s m args below meth c D A nL cells slots Q ws (pc + 3) lv rest) : X p l e R s m args below meth c D A nL cells slots Q ws pc lv (.int x :: rest) := fun H locs ls hP hD hS hl => lv_if_ge C.1 C.2.1 hdg ht (fun q => kt q H locs ls hP hD hS hl) (fun q => kf q H locs ls hP hD hS hl)
theorem x_if_gt (C : Cx p s m args meth c cc nL own D cA A) {x : Int32} {off : Int} {tgt : Nat} (hdg : decode cc pc = .ok (.ifCond .gt off, 3)) (ht : (pc : Int) + off = (tgt : Int)) (kt : 0 < x → X p l e R s m args below meth c D A nL cells slots Q ws tgt lv rest) (kf : ¬ 0 < x → X p l e R s m args below meth c D A nL cells slots Q ws (pc + 3) lv rest) : X p l e R s m args below meth c D A nL cells slots Q ws pc lv (.int x :: rest) := fun H locs ls hP hD hS hl => lv_if_gt C.1 C.2.1 hdg ht (fun q => kt q H locs ls hP hD hS hl) (fun q => kf q H locs ls hP hD hS hl)
theorem x_if_le (C : Cx p s m args meth c cc nL own D cA A) {x : Int32} {off : Int} {tgt : Nat} (hdg : decode cc pc = .ok (.ifCond .le off, 3)) (ht : (pc : Int) + off = (tgt : Int)) (kt : x ≤ 0 → X p l e R s m args below meth c D A nL cells slots Q ws tgt lv rest) (kf : ¬ x ≤ 0 → X p l e R s m args below meth c D A nL cells slots Q ws (pc + 3) lv rest) : X p l e R s m args below meth c D A nL cells slots Q ws pc lv (.int x :: rest) := fun H locs ls hP hD hS hl => lv_if_le C.1 C.2.1 hdg ht (fun q => kt q H locs ls hP hD hS hl) (fun q => kf q H locs ls hP hD hS hl)
theorem x_icmp_eq (C : Cx p s m args meth c cc nL own D cA A) {x y : Int32} {off : Int} {tgt : Nat} (hdg : decode cc pc = .ok (.if_icmp .eq off, 3)) (ht : (pc : Int) + off = (tgt : Int)) (kt : x = y → X p l e R s m args below meth c D A nL cells slots Q ws tgt lv rest) (kf : ¬ x = y → X p l e R s m args below meth c D A nL cells slots Q ws (pc + 3) lv rest) : X p l e R s m args below meth c D A nL cells slots Q ws pc lv (.int y :: .int x :: rest) := fun H locs ls hP hD hS hl => lv_icmp_eq C.1 C.2.1 hdg ht (fun q => kt q H locs ls hP hD hS hl) (fun q => kf q H locs ls hP hD hS hl)
theorem x_icmp_ne (C : Cx p s m args meth c cc nL own D cA A) {x y : Int32} {off : Int} {tgt : Nat} (hdg : decode cc pc = .ok (.if_icmp .ne off, 3)) (ht : (pc : Int) + off = (tgt : Int)) (kt : ¬ x = y → X p l e R s m args below meth c D A nL cells slots Q ws tgt lv rest) (kf : x = y → X p l e R s m args below meth c D A nL cells slots Q ws (pc + 3) lv rest) : X p l e R s m args below meth c D A nL cells slots Q ws pc lv (.int y :: .int x :: rest) := fun H locs ls hP hD hS hl => lv_icmp_ne C.1 C.2.1 hdg ht (fun q => kt q H locs ls hP hD hS hl) (fun q => kf q H locs ls hP hD hS hl)
theorem x_icmp_lt (C : Cx p s m args meth c cc nL own D cA A) {x y : Int32} {off : Int} {tgt : Nat} (hdg : decode cc pc = .ok (.if_icmp .lt off, 3)) (ht : (pc : Int) + off = (tgt : Int)) (kt : x < y → X p l e R s m args below meth c D A nL cells slots Q ws tgt lv rest) (kf : ¬ x < y → X p l e R s m args below meth c D A nL cells slots Q ws (pc + 3) lv rest) : X p l e R s m args below meth c D A nL cells slots Q ws pc lv (.int y :: .int x :: rest) := fun H locs ls hP hD hS hl => lv_icmp_lt C.1 C.2.1 hdg ht (fun q => kt q H locs ls hP hD hS hl) (fun q => kf q H locs ls hP hD hS hl)
theorem x_icmp_ge (C : Cx p s m args meth c cc nL own D cA A) {x y : Int32} {off : Int} {tgt : Nat} (hdg : decode cc pc = .ok (.if_icmp .ge off, 3)) (ht : (pc : Int) + off = (tgt : Int)) (kt : y ≤ x → X p l e R s m args below meth c D A nL cells slots Q ws tgt lv rest) (kf : ¬ y ≤ x → X p l e R s m args below meth c D A nL cells slots Q ws (pc + 3) lv rest) : X p l e R s m args below meth c D A nL cells slots Q ws pc lv (.int y :: .int x :: rest) := fun H locs ls hP hD hS hl => lv_icmp_ge C.1 C.2.1 hdg ht (fun q => kt q H locs ls hP hD hS hl) (fun q => kf q H locs ls hP hD hS hl)
theorem x_icmp_gt (C : Cx p s m args meth c cc nL own D cA A) {x y : Int32} {off : Int} {tgt : Nat} (hdg : decode cc pc = .ok (.if_icmp .gt off, 3)) (ht : (pc : Int) + off = (tgt : Int)) (kt : y < x → X p l e R s m args below meth c D A nL cells slots Q ws tgt lv rest) (kf : ¬ y < x → X p l e R s m args below meth c D A nL cells slots Q ws (pc + 3) lv rest) : X p l e R s m args below meth c D A nL cells slots Q ws pc lv (.int y :: .int x :: rest) := fun H locs ls hP hD hS hl => lv_icmp_gt C.1 C.2.1 hdg ht (fun q => kt q H locs ls hP hD hS hl) (fun q => kf q H locs ls hP hD hS hl)
theorem x_icmp_le (C : Cx p s m args meth c cc nL own D cA A) {x y : Int32} {off : Int} {tgt : Nat} (hdg : decode cc pc = .ok (.if_icmp .le off, 3)) (ht : (pc : Int) + off = (tgt : Int)) (kt : x ≤ y → X p l e R s m args below meth c D A nL cells slots Q ws tgt lv rest) (kf : ¬ x ≤ y → X p l e R s m args below meth c D A nL cells slots Q ws (pc + 3) lv rest) : X p l e R s m args below meth c D A nL cells slots Q ws pc lv (.int y :: .int x :: rest) := fun H locs ls hP hD hS hl => lv_icmp_le C.1 C.2.1 hdg ht (fun q => kt q H locs ls hP hD hS hl) (fun q => kf q H locs ls hP hD hS hl)
theorem x_icmp_eqN (C : Cx p s m args meth c cc nL own D cA A) {a b : Nat} {off : Int} {tgt : Nat} (hdg : decode cc pc = .ok (.if_icmp .eq off, 3)) (ht : (pc : Int) + off = (tgt : Int)) (ha : a < 2 ^ 31) (hb : b < 2 ^ 31) (kt : a = b → X p l e R s m args below meth c D A nL cells slots Q ws tgt lv rest) (kf : a ≠ b → X p l e R s m args below meth c D A nL cells slots Q ws (pc + 3) lv rest) : X p l e R s m args below meth c D A nL cells slots Q ws pc lv (.int (nI b) :: .int (nI a) :: rest) := x_icmp_eq C hdg ht (fun q => kt ((nI_eq ha hb).mp q)) (fun q => kf (fun z => q ((nI_eq ha hb).mpr z)))
theorem x_icmp_neN (C : Cx p s m args meth c cc nL own D cA A) {a b : Nat} {off : Int} {tgt : Nat} (hdg : decode cc pc = .ok (.if_icmp .ne off, 3)) (ht : (pc : Int) + off = (tgt : Int)) (ha : a < 2 ^ 31) (hb : b < 2 ^ 31) (kt : a ≠ b → X p l e R s m args below meth c D A nL cells slots Q ws tgt lv rest) (kf : a = b → X p l e R s m args below meth c D A nL cells slots Q ws (pc + 3) lv rest) : X p l e R s m args below meth c D A nL cells slots Q ws pc lv (.int (nI b) :: .int (nI a) :: rest) := x_icmp_ne C hdg ht (fun q => kt (fun z => q ((nI_eq ha hb).mpr z))) (fun q => kf ((nI_eq ha hb).mp q))
theorem x_icmp_ltN (C : Cx p s m args meth c cc nL own D cA A) {a b : Nat} {off : Int} {tgt : Nat} (hdg : decode cc pc = .ok (.if_icmp .lt off, 3)) (ht : (pc : Int) + off = (tgt : Int)) (ha : a < 2 ^ 31) (hb : b < 2 ^ 31) (kt : a < b → X p l e R s m args below meth c D A nL cells slots Q ws tgt lv rest) (kf : b ≤ a → X p l e R s m args below meth c D A nL cells slots Q ws (pc + 3) lv rest) : X p l e R s m args below meth c D A nL cells slots Q ws pc lv (.int (nI b) :: .int (nI a) :: rest) := x_icmp_lt C hdg ht (fun q => kt ((nI_ltI ha hb).mp q)) (fun q => kf (Nat.not_lt.mp fun z => q ((nI_ltI ha hb).mpr z)))
theorem x_icmp_geN (C : Cx p s m args meth c cc nL own D cA A) {a b : Nat} {off : Int} {tgt : Nat} (hdg : decode cc pc = .ok (.if_icmp .ge off, 3)) (ht : (pc : Int) + off = (tgt : Int)) (ha : a < 2 ^ 31) (hb : b < 2 ^ 31) (kt : b ≤ a → X p l e R s m args below meth c D A nL cells slots Q ws tgt lv rest) (kf : a < b → X p l e R s m args below meth c D A nL cells slots Q ws (pc + 3) lv rest) : X p l e R s m args below meth c D A nL cells slots Q ws pc lv (.int (nI b) :: .int (nI a) :: rest) := x_icmp_ge C hdg ht (fun q => kt ((nI_leI hb ha).mp q)) (fun q => kf (Nat.not_le.mp fun z => q ((nI_leI hb ha).mpr z)))
theorem x_icmp_gtN (C : Cx p s m args meth c cc nL own D cA A) {a b : Nat} {off : Int} {tgt : Nat} (hdg : decode cc pc = .ok (.if_icmp .gt off, 3)) (ht : (pc : Int) + off = (tgt : Int)) (ha : a < 2 ^ 31) (hb : b < 2 ^ 31) (kt : b < a → X p l e R s m args below meth c D A nL cells slots Q ws tgt lv rest) (kf : a ≤ b → X p l e R s m args below meth c D A nL cells slots Q ws (pc + 3) lv rest) : X p l e R s m args below meth c D A nL cells slots Q ws pc lv (.int (nI b) :: .int (nI a) :: rest) := x_icmp_gt C hdg ht (fun q => kt ((nI_ltI hb ha).mp q)) (fun q => kf (Nat.not_lt.mp fun z => q ((nI_ltI hb ha).mpr z)))
theorem x_icmp_leN (C : Cx p s m args meth c cc nL own D cA A) {a b : Nat} {off : Int} {tgt : Nat} (hdg : decode cc pc = .ok (.if_icmp .le off, 3)) (ht : (pc : Int) + off = (tgt : Int)) (ha : a < 2 ^ 31) (hb : b < 2 ^ 31) (kt : a ≤ b → X p l e R s m args below meth c D A nL cells slots Q ws tgt lv rest) (kf : b < a → X p l e R s m args below meth c D A nL cells slots Q ws (pc + 3) lv rest) : X p l e R s m args below meth c D A nL cells slots Q ws pc lv (.int (nI b) :: .int (nI a) :: rest) := x_icmp_le C hdg ht (fun q => kt ((nI_leI ha hb).mp q)) (fun q => kf (Nat.not_le.mp fun z => q ((nI_leI ha hb).mpr z)))
theorem x_if_eqN (C : Cx p s m args meth c cc nL own D cA A) {a : Nat} {off : Int} {tgt : Nat} (hdg : decode cc pc = .ok (.ifCond .eq off, 3)) (ht : (pc : Int) + off = (tgt : Int)) (ha : a < 2 ^ 31) (kt : a = 0 → X p l e R s m args below meth c D A nL cells slots Q ws tgt lv rest) (kf : 0 < a → X p l e R s m args below meth c D A nL cells slots Q ws (pc + 3) lv rest) : X p l e R s m args below meth c D A nL cells slots Q ws pc lv (.int (nI a) :: rest) := x_if_eq C hdg ht (fun q => kt (by rcases Nat.eq_zero_or_pos a with z | z; exact z; exact absurd q (nI_ne0 z ha))) (fun q => kf (Nat.pos_of_ne_zero fun z => q (by rw [z]; rfl)))
theorem x_if_neN (C : Cx p s m args meth c cc nL own D cA A) {a : Nat} {off : Int} {tgt : Nat} (hdg : decode cc pc = .ok (.ifCond .ne off, 3)) (ht : (pc : Int) + off = (tgt : Int)) (ha : a < 2 ^ 31) (kt : 0 < a → X p l e R s m args below meth c D A nL cells slots Q ws tgt lv rest) (kf : a = 0 → X p l e R s m args below meth c D A nL cells slots Q ws (pc + 3) lv rest) : X p l e R s m args below meth c D A nL cells slots Q ws pc lv (.int (nI a) :: rest) := x_if_ne C hdg ht (fun q => kt (Nat.pos_of_ne_zero fun z => q (by rw [z]; rfl))) (fun q => kf (by rcases Nat.eq_zero_or_pos a with z | z; exact z; exact absurd q (nI_ne0 z ha)))
theorem x_if_gtN (C : Cx p s m args meth c cc nL own D cA A) {a : Nat} {off : Int} {tgt : Nat} (hdg : decode cc pc = .ok (.ifCond .gt off, 3)) (ht : (pc : Int) + off = (tgt : Int)) (ha : a < 2 ^ 31) (kt : 0 < a → X p l e R s m args below meth c D A nL cells slots Q ws tgt lv rest) (kf : a = 0 → X p l e R s m args below meth c D A nL cells slots Q ws (pc + 3) lv rest) : X p l e R s m args below meth c D A nL cells slots Q ws pc lv (.int (nI a) :: rest) := x_if_gt C hdg ht (fun q => kt (Nat.pos_of_ne_zero fun z => absurd q (by rw [z]; decide))) (fun q => kf (by rcases Nat.eq_zero_or_pos a with z | z; exact z; exact absurd (nI_lt z ha) q))
theorem x_if_leN (C : Cx p s m args meth c cc nL own D cA A) {a : Nat} {off : Int} {tgt : Nat} (hdg : decode cc pc = .ok (.ifCond .le off, 3)) (ht : (pc : Int) + off = (tgt : Int)) (ha : a < 2 ^ 31) (kt : a = 0 → X p l e R s m args below meth c D A nL cells slots Q ws tgt lv rest) (kf : 0 < a → X p l e R s m args below meth c D A nL cells slots Q ws (pc + 3) lv rest) : X p l e R s m args below meth c D A nL cells slots Q ws pc lv (.int (nI a) :: rest) := x_if_le C hdg ht (fun q => kt (by rcases Nat.eq_zero_or_pos a with z | z; exact z; exact absurd q (nI_nle z ha))) (fun q => kf (Nat.pos_of_ne_zero fun z => q (by rw [z]; decide)))
theorem x_if_ltN (C : Cx p s m args meth c cc nL own D cA A) {a : Nat} {off : Int} {tgt : Nat} (hdg : decode cc pc = .ok (.ifCond .lt off, 3)) (ht : (pc : Int) + off = (tgt : Int)) (ha : a < 2 ^ 31) (kf : X p l e R s m args below meth c D A nL cells slots Q ws (pc + 3) lv rest) : X p l e R s m args below meth c D A nL cells slots Q ws pc lv (.int (nI a) :: rest) := x_if_lt C hdg ht (fun q => absurd q (nI_pos ha)) (fun _ => kf)
theorem x_if_geN (C : Cx p s m args meth c cc nL own D cA A) {a : Nat} {off : Int} {tgt : Nat} (hdg : decode cc pc = .ok (.ifCond .ge off, 3)) (ht : (pc : Int) + off = (tgt : Int)) (ha : a < 2 ^ 31) (kt : X p l e R s m args below meth c D A nL cells slots Q ws tgt lv rest) : X p l e R s m args below meth c D A nL cells slots Q ws pc lv (.int (nI a) :: rest) := x_if_ge C hdg ht (fun _ => kt) (fun q => absurd (nI_pos' ha) q)
theorem x_goto (C : Cx p s m args meth c cc nL own D cA A) {off : Int} {tgt : Nat} (hdg : decode cc pc = .ok (.goto off, 3)) (ht : (pc : Int) + off = (tgt : Int)) (k : X p l e R s m args below meth c D A nL cells slots Q ws tgt lv rest) : X p l e R s m args below meth c D A nL cells slots Q ws pc lv rest := fun H locs ls hP hD hS hl => lv_goto C.1 C.2.1 hdg ht (k H locs ls hP hD hS hl)
theorem x_get (C : Cx p s m args meth c cc nL own D cA A) {a : Nat} {ref C0 : String} {T : u_T} {N ci index : Nat} (hdg : decode cc pc = .ok (.getfield index, 3)) (q0 : Nat) {fs : List Value} (he : ws[q0]? = some (a, .inr (ci, fs))) (hc : classes[ci]? = some (C0, T, N)) (hin : ∀ w ∈ u_ws C0 T N, w ∈ gw) (k0 : Nat) (hk : k0 < N) (hlink : Cond.fieldLink own index ref (T k0).2.1 (T k0).2.2.1 ∈ gw) (hsame : (T k0).1 = ref) {v : Value} (hv : fs[k0]? = some v) (k : X p l e R s m args below meth c D A nL cells slots Q ws (pc + 3) lv (v :: rest)) : X p l e R s m args below meth c D A nL cells slots Q ws pc lv (.ref a :: rest) := fun H locs ls hP hD hS hl => by
  obtain ⟨hx, hb, hml, hown, hts, hK, hN, hA, hlk⟩ := C
  exact va_get hx hb hts hin hown hK hP q0 he hc k0 hk (hts _ hlink) (fun x h => by rw [← hsame]; exact h) hv hdg (k H locs ls hP hD hS hl)
theorem x_getN (C : Cx p s m args meth c cc nL own D cA A) {a : Nat} {ref C0 host : String} {T : u_T} {N ci index : Nat} (hdg : decode cc pc = .ok (.getfield index, 3)) (q0 : Nat) {fs : List Value} (he : ws[q0]? = some (a, .inr (ci, fs))) (hc : classes[ci]? = some (C0, T, N)) (hin : ∀ w ∈ u_ws C0 T N, w ∈ gw) (k0 : Nat) (hk : k0 < N) (hlink : Cond.fieldLinkNest own index ref (T k0).2.1 (T k0).2.2.1 host ∈ nw) (hsame : (T k0).1 = ref) {v : Value} (hv : fs[k0]? = some v) (k : X p l e R s m args below meth c D A nL cells slots Q ws (pc + 3) lv (v :: rest)) : X p l e R s m args below meth c D A nL cells slots Q ws pc lv (.ref a :: rest) := fun H locs ls hP hD hS hl => by
  obtain ⟨hx, hb, hml, hown, hts, hK, hN, hA, hlk⟩ := C
  exact va_getN hx hb hts hin hown hK hP q0 he hc k0 hk (va_Nw.use rfl (hN _ hlink)) (fun x h => by rw [← hsame]; exact h) hv hdg (k H locs ls hP hD hS hl)
theorem x_put (C : Cx p s m args meth c cc nL own D cA A) {a : Nat} {ref C0 : String} {T : u_T} {N ci index : Nat} (hdg : decode cc pc = .ok (.putfield index, 3)) (q0 : Nat) {fs : List Value} (he : ws[q0]? = some (a, .inr (ci, fs))) (hc : classes[ci]? = some (C0, T, N)) (hin : ∀ w ∈ u_ws C0 T N, w ∈ gw) (ty0 : Nat → FieldType) (hty : ∀ k, k < N → parseFieldDescriptor (T k).2.2.1 = some (ty0 k)) (hnm : ∀ a, a < N → ∀ b, b < N → a ≠ b → (T a).2.1 ≠ (T b).2.1) (k0 : Nat) (hk : k0 < N) (hlink : Cond.fieldLink own index ref (T k0).2.1 (T k0).2.2.1 ∈ gw) (hsame : (T k0).1 = ref) (hfin : (T k0).2.2.2 = false) {ty : FieldType} {v : Value} (hd : parseFieldDescriptor (T k0).2.2.1 = some ty) (hn : narrow ty v = v) (hfit : fits ty v = true) (hlen : k0 < fs.length) {ws' : va_W} (hw : ws.set q0 (a, .inr (ci, fs.set k0 v)) = ws') (k : X p l e R s m args below meth c D A nL cells slots Q ws' (pc + 3) lv rest) : X p l e R s m args below meth c D A nL cells slots Q ws pc lv (v :: .ref a :: rest) := fun H locs ls hP hD hS hl => by
  obtain ⟨hx, hb, hml, hown, hts, hK, hN, hA, hlk⟩ := C
  subst hw
  exact va_put hx hb hts hin ty0 hty hnm hown hK hP hD hS q0 he hc k0 hk (hts _ hlink) (fun x h => by rw [← hsame]; exact h) hfin hd hn hfit hlen hdg (fun H1 locs1 hP hD hS => k H1 locs1 ls hP hD hS hl)
theorem x_putN (C : Cx p s m args meth c cc nL own D cA A) {a : Nat} {ref C0 host : String} {T : u_T} {N ci index : Nat} (hdg : decode cc pc = .ok (.putfield index, 3)) (q0 : Nat) {fs : List Value} (he : ws[q0]? = some (a, .inr (ci, fs))) (hc : classes[ci]? = some (C0, T, N)) (hin : ∀ w ∈ u_ws C0 T N, w ∈ gw) (ty0 : Nat → FieldType) (hty : ∀ k, k < N → parseFieldDescriptor (T k).2.2.1 = some (ty0 k)) (hnm : ∀ a, a < N → ∀ b, b < N → a ≠ b → (T a).2.1 ≠ (T b).2.1) (k0 : Nat) (hk : k0 < N) (hlink : Cond.fieldLinkNest own index ref (T k0).2.1 (T k0).2.2.1 host ∈ nw) (hsame : (T k0).1 = ref) (hfin : (T k0).2.2.2 = false) {ty : FieldType} {v : Value} (hd : parseFieldDescriptor (T k0).2.2.1 = some ty) (hn : narrow ty v = v) (hfit : fits ty v = true) (hlen : k0 < fs.length) {ws' : va_W} (hw : ws.set q0 (a, .inr (ci, fs.set k0 v)) = ws') (k : X p l e R s m args below meth c D A nL cells slots Q ws' (pc + 3) lv rest) : X p l e R s m args below meth c D A nL cells slots Q ws pc lv (v :: .ref a :: rest) := fun H locs ls hP hD hS hl => by
  obtain ⟨hx, hb, hml, hown, hts, hK, hN, hA, hlk⟩ := C
  subst hw
  exact va_putN hx hb hts hin ty0 hty hnm hown hK hP hD hS q0 he hc k0 hk (va_Nw.use rfl (hN _ hlink)) (fun x h => by rw [← hsame]; exact h) hfin hd hn hfit hlen hdg (fun H1 locs1 hP hD hS => k H1 locs1 ls hP hD hS hl)
theorem x_putF (C : Cx p s m args meth c cc nL own D cA A) (hin2 : meth.name = "<init>") {a : Nat} {ref C0 : String} {T : u_T} {N ci index : Nat} (hdg : decode cc pc = .ok (.putfield index, 3)) (q0 : Nat) {fs : List Value} (he : ws[q0]? = some (a, .inr (ci, fs))) (hc : classes[ci]? = some (C0, T, N)) (hin : ∀ w ∈ u_ws C0 T N, w ∈ gw) (ty0 : Nat → FieldType) (hty : ∀ k, k < N → parseFieldDescriptor (T k).2.2.1 = some (ty0 k)) (hnm : ∀ a, a < N → ∀ b, b < N → a ≠ b → (T a).2.1 ≠ (T b).2.1) (k0 : Nat) (hk : k0 < N) (hlink : Cond.fieldLink own index ref (T k0).2.1 (T k0).2.2.1 ∈ gw) (hsame : (T k0).1 = ref) (hfin : (T k0).2.2.2 = true) (hdecl : (T k0).1 = own) {ty : FieldType} {v : Value} (hd : parseFieldDescriptor (T k0).2.2.1 = some ty) (hn : narrow ty v = v) (hfit : fits ty v = true) (hlen : k0 < fs.length) {ws' : va_W} (hw : ws.set q0 (a, .inr (ci, fs.set k0 v)) = ws') (k : X p l e R s m args below meth c D A nL cells slots Q ws' (pc + 3) lv rest) : X p l e R s m args below meth c D A nL cells slots Q ws pc lv (v :: .ref a :: rest) := fun H locs ls hP hD hS hl => by
  obtain ⟨hx, hb, hml, hown, hts, hK, hN, hA, hlk⟩ := C
  subst hw
  exact va_putF hx hb hts hin ty0 hty hnm hown hK hP hD hS q0 he hc k0 hk (hts _ hlink) (fun x h => by rw [← hsame]; exact h) hfin hin2 hdecl hd hn hfit hlen hdg (fun H1 locs1 hP hD hS => k H1 locs1 ls hP hD hS hl)
theorem x_iald (C : Cx p s m args meth c cc nL own D cA A) {a n j : Nat} {f : Nat → Int32} (hdg : decode cc pc = .ok (.iaload, 1)) (q0 : Nat) (ha : ws[q0]? = some (a, .inl (cA, n, .inl f))) (hj : j < n) (hn : n < 2 ^ 31) (k : X p l e R s m args below meth c D A nL cells slots Q ws (pc + 1) lv (.int (f j) :: rest)) : X p l e R s m args below meth c D A nL cells slots Q ws pc lv (.int (nI j) :: .ref a :: rest) := fun H locs ls hP hD hS hl => by
  obtain ⟨hx, hb, hml, hown, hts, hK, hN, hA, hlk⟩ := C
  refine va_iald hx hb hK hP q0 0 ha rfl (vp_in_nI hj hn) hdg ?_
  rw [nI_clamp (by omega)]
  exact (k H locs ls hP hD hS hl)
theorem x_iast (C : Cx p s m args meth c cc nL own D cA A) {a n j : Nat} {f : Nat → Int32} {x : Int32} (hdg : decode cc pc = .ok (.iastore, 1)) (q0 : Nat) (ha : ws[q0]? = some (a, .inl (cA, n, .inl f))) (hj : j < n) (hn : n < 2 ^ 31) {ws' : va_W} (hw : ws.set q0 (a, .inl (cA, n, .inl (upd f j x))) = ws') (k : X p l e R s m args below meth c D A nL cells slots Q ws' (pc + 1) lv rest) : X p l e R s m args below meth c D A nL cells slots Q ws pc lv (.int x :: .int (nI j) :: .ref a :: rest) := fun H locs ls hP hD hS hl => by
  obtain ⟨hx, hb, hml, hown, hts, hK, hN, hA, hlk⟩ := C
  subst hw
  refine va_iast hx hb hK hP hD hS q0 0 ha rfl (vp_in_nI hj hn) hdg ?_
  rw [nI_clamp (by omega)]
  exact fun H1 locs1 hP hD hS => k H1 locs1 ls hP hD hS hl
theorem x_alen (C : Cx p s m args meth c cc nL own D cA A) {a n : Nat} {f : Nat → Int32} (hdg : decode cc pc = .ok (.arraylength, 1)) (q0 : Nat) (ha : ws[q0]? = some (a, .inl (cA, n, .inl f))) (k : X p l e R s m args below meth c D A nL cells slots Q ws (pc + 1) lv (.int (nI n) :: rest)) : X p l e R s m args below meth c D A nL cells slots Q ws pc lv (.ref a :: rest) := fun H locs ls hP hD hS hl => by
  obtain ⟨hx, hb, hml, hown, hts, hK, hN, hA, hlk⟩ := C
  exact va_alen hx hb hK hP q0 0 ha (ty := .int) rfl rfl hdg (k H locs ls hP hD hS hl)
theorem x_newa (C : Cx p s m args meth c cc nL own D cA A) {N' : Nat} (hdg : decode cc pc = .ok (.newarray .int, 2)) (harr : Cond.arrayClass .int ∈ gw) (hN' : N' < 2 ^ 24) (hcells : cells + 1 ≤ R.cells) (hslots : slots + N' ≤ R.slots) (k : ∀ q : Nat, X p l e R s m args below meth c D A nL (cells + 1) (slots + N') Q (ws ++ [(q, .inl (cA, N', .inl (fun _ => 0)))]) (pc + 2) lv (.ref q :: rest)) : X p l e R s m args below meth c D A nL cells slots Q ws pc lv (.int (nI N') :: rest) := fun H locs ls hP hD hS hl => by
  obtain ⟨hx, hb, hml, hown, hts, hK, hN, hA, hlk⟩ := C
  refine va_newa (atype := .int) (ty := .int) (N' := N') (a0 := (N', .inl (fun _ => 0))) hx hb (hts _ harr) rfl hK hP hD hS hA (fun cA => by rfl) (nI_pos (by omega)) (nI_clamp (by omega)) (by show N' * 4 ≤ _; omega) hcells hslots hdg ?_
  intro q cA' H1 hK1 hP1 hD1 hS1
  have e1 := (hK1.2 0 (cA, .int) rfl).2
  have e2 := (hK1.2 1 (cA', .int) rfl).2
  have e3 : cA' = cA := Option.some.inj ((show s.vm.findClass _ = some cA' from e2).symm.trans (show s.vm.findClass _ = some cA from e1))
  subst e3
  exact k q H1 locs ls hP1 hD1 hS1 hl
theorem x_new (C : Cx p s m args meth c cc nL own D cA A) {C0 : String} {T : u_T} {N ci index : Nat} (hdg : decode cc pc = .ok (.new index, 3)) (hc : classes[ci]? = some (C0, T, N)) (hin : ∀ w ∈ u_ws C0 T N, w ∈ gw) (ty : Nat → FieldType) (hty : ∀ k, k < N → parseFieldDescriptor (T k).2.2.1 = some (ty k)) (hcl : Cond.classLink own index C0 ∈ gw) (hinst : Cond.instantiable C0 N ∈ gw) (hini : Cond.initialized C0 ∈ gw) {fs : List Value} (hfs : ∀ j, j < N → defaultValue (ty j) = vp_V fs j) (hcells : cells + 1 ≤ R.cells) (hslots : slots + N ≤ R.slots) (k : ∀ q : Nat, X p l e R s m args below meth c D A nL (cells + 1) (slots + N) Q (ws ++ [(q, .inr (ci, fs))]) (pc + 3) lv (.ref q :: rest)) : X p l e R s m args below meth c D A nL cells slots Q ws pc lv rest := fun H locs ls hP hD hS hl => by
  obtain ⟨hx, hb, hml, hown, hts, hK, hN, hA, hlk⟩ := C
  exact va_new hx hb hts hin ty hty hown (hts _ hcl) (hts _ hinst) (hts _ hini) hK hP hD hS hA hc hfs hcells hslots hdg (fun q H1 hP hD hS => k q H1 locs ls hP hD hS hl)
theorem x_objInit (C : Cx p s m args meth c cc nL own D cA A) {a idx : Nat} (hdg : decode cc pc = .ok (.invokespecial idx, 3)) (hlink : Cond.methodLink own idx Lib.objectInit ∈ gw) (hinst : Cond.instanceMethod Lib.objectInit ∈ gw) (hcode : Cond.code Lib.objectInit ⟨#[0xb1]⟩ 1 none ∈ gw) (hframes : 1 ≤ R.frames) (hlocals : (rest.map fun v => v.category).sum + 12 ≤ R.locals) (k : X p l e R s m args below meth c D A nL cells slots Q ws (pc + 3) lv rest) : X p l e R s m args below meth c D A nL cells slots Q ws pc lv (.ref a :: rest) := fun H locs ls hP hD hS hl => by
  obtain ⟨hx, hb, hml, hown, hts, hK, hN, hA, hlk⟩ := C
  exact W.objInit hx hb hown (hts _ hlink) (hts _ hinst) (hts _ hcode) rfl (by rw [hml]; exact hl.1) rfl hdg hframes (by show 2 * 0 + _ + 12 ≤ _; omega) (k H locs ls hP hD hS hl)
theorem x_mmax (C : Cx p s m args meth c cc nL own D cA A) {x y : Int32} {index : Nat} (hdg : decode cc pc = .ok (.invokestatic index, 3)) (hlink : Cond.methodLink own index Lib.Math.max.name ∈ gw) (hstat : Cond.static Lib.Math.max.name ∈ gw) (hini : Cond.initialized "java/lang/Math" ∈ gw) (hcode : Cond.code Lib.Math.max.name Lib.Math.max.code 2 (some .int) ∈ gw) (hR : 1 ≤ R.frames ∧ (rest.map fun v => v.category).sum + 13 ≤ R.locals ∧ cells ≤ R.cells ∧ slots ≤ R.slots) (k : X p l e R s m args below meth c D A nL cells slots Q ws (pc + 3) lv (.int (if x < y then y else x) :: rest)) : X p l e R s m args below meth c D A nL cells slots Q ws pc lv (.int y :: .int x :: rest) := fun H locs ls hP hD hS hl => by
  obtain ⟨hx, hb, hml, hown, hts, hK, hN, hA, hlk⟩ := C
  exact va_mmax hx hb (hml.trans hl.1.symm) hown (hts _ hlink) (hts _ hstat) (hts _ hini) (hts _ hcode) hR.1 hR.2.1 hR.2.2.1 hR.2.2.2 hdg (k H locs ls hP hD hS hl)
theorem x_mmin (C : Cx p s m args meth c cc nL own D cA A) {x y : Int32} {index : Nat} (hdg : decode cc pc = .ok (.invokestatic index, 3)) (hlink : Cond.methodLink own index Lib.Math.min.name ∈ gw) (hstat : Cond.static Lib.Math.min.name ∈ gw) (hini : Cond.initialized "java/lang/Math" ∈ gw) (hcode : Cond.code Lib.Math.min.name Lib.Math.min.code 2 (some .int) ∈ gw) (hR : 1 ≤ R.frames ∧ (rest.map fun v => v.category).sum + 13 ≤ R.locals ∧ cells ≤ R.cells ∧ slots ≤ R.slots) (k : X p l e R s m args below meth c D A nL cells slots Q ws (pc + 3) lv (.int (if y < x then y else x) :: rest)) : X p l e R s m args below meth c D A nL cells slots Q ws pc lv (.int y :: .int x :: rest) := fun H locs ls hP hD hS hl => by
  obtain ⟨hx, hb, hml, hown, hts, hK, hN, hA, hlk⟩ := C
  exact va_mmin hx hb (hml.trans hl.1.symm) hown (hts _ hlink) (hts _ hstat) (hts _ hini) (hts _ hcode) hR.1 hR.2.1 hR.2.2.1 hR.2.2.2 hdg (k H locs ls hP hD hS hl)
theorem x_mmaxN (C : Cx p s m args meth c cc nL own D cA A) {a b : Nat} {index : Nat} (hdg : decode cc pc = .ok (.invokestatic index, 3)) (hlink : Cond.methodLink own index Lib.Math.max.name ∈ gw) (hstat : Cond.static Lib.Math.max.name ∈ gw) (hini : Cond.initialized "java/lang/Math" ∈ gw) (hcode : Cond.code Lib.Math.max.name Lib.Math.max.code 2 (some .int) ∈ gw) (hR : 1 ≤ R.frames ∧ (rest.map fun v => v.category).sum + 13 ≤ R.locals ∧ cells ≤ R.cells ∧ slots ≤ R.slots) (ha : a < 2 ^ 31) (hb : b < 2 ^ 31) (k : X p l e R s m args below meth c D A nL cells slots Q ws (pc + 3) lv (.int (nI (max a b)) :: rest)) : X p l e R s m args below meth c D A nL cells slots Q ws pc lv (.int (nI b) :: .int (nI a) :: rest) := x_mmax C hdg hlink hstat hini hcode hR (x_top (by
    by_cases h : a < b
    · rw [if_pos ((nI_ltI ha hb).mpr h), Nat.max_eq_right (by omega)]
    · rw [if_neg (fun z => h ((nI_ltI ha hb).mp z)), Nat.max_eq_left (by omega)]) k)
theorem x_mminN (C : Cx p s m args meth c cc nL own D cA A) {a b : Nat} {index : Nat} (hdg : decode cc pc = .ok (.invokestatic index, 3)) (hlink : Cond.methodLink own index Lib.Math.min.name ∈ gw) (hstat : Cond.static Lib.Math.min.name ∈ gw) (hini : Cond.initialized "java/lang/Math" ∈ gw) (hcode : Cond.code Lib.Math.min.name Lib.Math.min.code 2 (some .int) ∈ gw) (hR : 1 ≤ R.frames ∧ (rest.map fun v => v.category).sum + 13 ≤ R.locals ∧ cells ≤ R.cells ∧ slots ≤ R.slots) (ha : a < 2 ^ 31) (hb : b < 2 ^ 31) (k : X p l e R s m args below meth c D A nL cells slots Q ws (pc + 3) lv (.int (nI (min a b)) :: rest)) : X p l e R s m args below meth c D A nL cells slots Q ws pc lv (.int (nI b) :: .int (nI a) :: rest) := x_mmin C hdg hlink hstat hini hcode hR (x_top (by
    by_cases h : b < a
    · rw [if_pos ((nI_ltI hb ha).mpr h), Nat.min_eq_right (by omega)]
    · rw [if_neg (fun z => h ((nI_ltI hb ha).mp z)), Nat.min_eq_left (by omega)]) k)
theorem x_copyi (C : Cx p s m args meth c cc nL own D cA A) {a a0 n0 n1 sp dp n : Nat} {f g : Nat → Int32} {index : Nat} (hdg : decode cc pc = .ok (.invokestatic index, 3)) (hlink : Cond.methodLink own index arraycopyName ∈ gw) (hnat : Cond.native arraycopyName ∈ gw) (hstat : Cond.static arraycopyName ∈ gw) (hini : Cond.initialized "java/lang/System" ∈ gw) (q0 q1 : Nat) (ha0 : ws[q0]? = some (a0, .inl (cA, n0, .inl f))) (ha1 : ws[q1]? = some (a, .inl (cA, n1, .inl g))) (h4 : sp + n ≤ n0) (h5 : dp + n ≤ n1) (hn0 : n0 < 2 ^ 31) (hn1 : n1 < 2 ^ 31) (hframes : 1 ≤ R.frames) (hlocals : (rest.map fun v => v.category).sum + (nativeFrameWords "java/lang/System" "arraycopy" 5 + 11) ≤ R.locals) {ws' : va_W} (hw : ws.set q1 (a, .inl (cA, n1, .inl (va_cpy f g sp dp n))) = ws') (k : X p l e R s m args below meth c D A nL cells slots Q ws' (pc + 3) lv rest) : X p l e R s m args below meth c D A nL cells slots Q ws pc lv (.int (nI n) :: .int (nI dp) :: .ref a :: .int (nI sp) :: .ref a0 :: rest) := fun H locs ls hP hD hS hl => by
  obtain ⟨hx, hb, hml, hown, hts, hK, hN, hA, hlk⟩ := C
  subst hw
  have c1 : (nI sp).toNatClampNeg = sp := nI_clamp (by omega)
  have c2 : (nI dp).toNatClampNeg = dp := nI_clamp (by omega)
  have c3 : (nI n).toNatClampNeg = n := nI_clamp (by omega)
  refine va_copyi (ty := .int) hx hb (hml.trans hl.1.symm) hown (hts _ hlink) (hts _ hnat) (hts _ hstat) (hts _ hini) hK hP hD hS q0 q1 0 0 ha0 ha1 rfl rfl rfl (nI_pos (by omega)) (nI_pos (by omega)) (nI_pos (by omega)) (by rw [c1, c3]; exact h4) (by rw [c2, c3]; exact h5) (fun _ _ => rfl) hframes hlocals hdg ?_
  rw [c1, c2, c3]
  exact fun H1 locs1 hP hD hS => k H1 locs1 ls hP hD hS hl

theorem x_iret (C : Cx p s m args meth c cc nL own D cA A) {S : Type} {post : Int32 → S → Prop} {w1 : S → va_W} (hr : meth.sig.returnType = some .int) {v : Int32} (hdg : decode cc pc = .ok (.ireturn, 1)) (u : S) (hw : w1 u = ws) (hp : post v u) : X p l e R s m args below meth c D A nL cells slots (MQ below (va_Qi post (Bw D A w1) A) args s cells slots A) ws pc lv [.int v] := fun H locs ls hP hD hS hl => by
  obtain ⟨hx, hb, hml, hown, hts, hK, hN, hA, hlk⟩ := C
  subst hw
  exact W.iret (v := v) hx hb hr (fun t ht hW => ⟨⟨v, u, rfl, hp, by rw [ht]; exact hP, hD⟩, hS.F ht⟩) hS.2.2 hdg
theorem x_zret (C : Cx p s m args meth c cc nL own D cA A) {S : Type} {post : Int32 → S → Prop} {w1 : S → va_W} (hr : meth.sig.returnType = some .boolean) {v : Int32} (hv : v = 0 ∨ v = 1) (hdg : decode cc pc = .ok (.ireturn, 1)) (u : S) (hw : w1 u = ws) (hp : post v u) : X p l e R s m args below meth c D A nL cells slots (MQ below (va_Qi post (Bw D A w1) A) args s cells slots A) ws pc lv [.int v] := fun H locs ls hP hD hS hl => by
  obtain ⟨hx, hb, hml, hown, hts, hK, hN, hA, hlk⟩ := C
  subst hw
  exact W.zret (v := v) (ty := .boolean) hx hb hr (by rcases hv with rfl | rfl <;> rfl) (fun t ht hW => ⟨⟨v, u, rfl, hp, by rw [ht]; exact hP, hD⟩, hS.F ht⟩) hS.2.2 hdg
theorem x_vret (C : Cx p s m args meth c cc nL own D cA A) {S : Type} {post : S → Prop} {w1 : S → va_W} (hr : meth.sig.returnType = none) (hdg : decode cc pc = .ok (.return_, 1)) (u : S) (hw : w1 u = ws) (hp : post u) : X p l e R s m args below meth c D A nL cells slots (MQ below (va_Qv post (Bw D A w1) A) args s cells slots A) ws pc lv [] := fun H locs ls hP hD hS hl => by
  obtain ⟨hx, hb, hml, hown, hts, hK, hN, hA, hlk⟩ := C
  subst hw
  exact W.vret hx hb hr (fun t ht hW => ⟨⟨u, rfl, hp, by rw [ht]; exact hP, hD⟩, hS.F ht⟩) hS.2.2 hdg
theorem x_widen {k n : Nat} (h1 : cells ≤ k) (h2 : slots ≤ n) (kk : X p l e R s m args below meth c D A nL k n Q ws pc lv rest) : X p l e R s m args below meth c D A nL cells slots Q ws pc lv rest := fun H locs ls hP hD hS hl => W.widen h1 h2 (kk H locs ls hP hD hS hl)

theorem x_callVI (C : Cx p s m args meth c cc nL own D cA A) {S : Type} {y : MethodName} {bytes : ByteArray} {maxL : Nat} {rt : Option FieldType} {rm : Room} {As : List Value} {wc wr : va_W} {post : Int32 → S → Prop} {w1 : S → va_W} {index n : Nat} {b : Nat} (hM : CtI l D cA y bytes maxL rt rm (.ref b :: As) wc post w1) (hdg : decode cc pc = .ok (.invokevirtual index, 3)) (hF : Cond.code y bytes maxL rt ∈ gw ∧ Cond.initialized y.cls ∈ gw ∧ Cond.instanceMethod y ∈ gw ∧ Cond.selects y.cls y y ∈ gw) (hlink : Cond.methodLink own index y ∈ gw) (hd : (y.cls ≠ "java/lang/invoke/MethodHandle" ∧ y.cls ≠ "java/lang/invoke/VarHandle") ∧ (parseMethodDescriptor y.desc).map (fun d => d.parameters.length) = some n) (hn : As.length = n) (hR : rm.frames + 1 ≤ R.frames ∧ 8 + (maxL + 11) + rm.locals ≤ R.locals) (hf : cells + rm.cells ≤ R.cells ∧ slots + rm.slots ≤ R.slots) (ci q0 : Nat) {T : u_T} {N : Nat} {fs : List Value} (hci : classes[ci]? = some (y.cls, T, N)) (hq : wc[q0]? = some (b, .inr (ci, fs))) (isC isR : List Nat) (hC : isC.map (fun i => ws[i]?) = wc.map some) (hRr : isR.map (fun i => ws[i]?) = wr.map some) (hndC : va_nd isC = true) (hnd : va_nd isR = true) (hdis : ∀ i ∈ isR, i ∉ isC) {st0 : List Value} (hst : st0 = (As.reverse ++ .ref b :: rest)) (hrest : (rest.map fun v => v.category).sum ≤ 8) (k : ∀ (r : Int32) (u : S), post r u → X p l e R s m args below meth c D A nL (cells + rm.cells) (slots + rm.slots) Q (wr ++ w1 u) (pc + 3) lv (.int r :: rest)) : X p l e R s m args below meth c D A nL cells slots Q ws pc lv st0 := fun H locs ls hP hD hS hl => by
  subst hst
  obtain ⟨hx, hb, hml, hown, hts, hK, hN, hA, hlk⟩ := C
  have at' : ∀ (j : Nat) (q : Nat × va_E), wc[j]? = some q → ∃ i, isC[j]? = some i ∧ ws[i]? = some q := by
    intro j q hq
    have h1 : (isC.map (fun i => ws[i]?))[j]? = some (some q) := by rw [hC, List.getElem?_map, hq]; rfl
    rw [List.getElem?_map] at h1
    cases hi : isC[j]? with
    | none => rw [hi] at h1; cases h1
    | some i => rw [hi] at h1; exact ⟨i, rfl, Option.some.inj h1⟩
  have hPc : va_P D classes wc H := fun j q hq => by
    obtain ⟨i, -, h2⟩ := at' j q hq
    exact hP i q h2
  have hFc := va_free (wc := wc) hD hS hA isC hC
  have hlen : ∀ sig, parseMethodDescriptor y.desc = some sig → n = sig.parameters.length := fun sig h => by
    have h2 := hd.2
    rw [h] at h2
    exact (Option.some.inj h2).symm
  have hDc : va_D (fun _ => True) wc := ⟨fun i j x y hi hj hxy => by
    obtain ⟨i', h1, h2⟩ := at' i x hi
    obtain ⟨j', h3, h4⟩ := at' j y hj
    have h5 := hD.1 i' j' x y h2 h4 hxy
    subst h5
    exact va_nd_inj isC hndC i j i' h1 h3, fun _ _ _ => trivial⟩
  refine va_calli (va_runV (Ts := gw) (As := As) (rest := rest) ⟨hx, hb, hml, hown, hts⟩ (hM H.size) ⟨⟨rfl, rfl, hR.1, hR.2, pay_in hts (gw_in hF.1), List.mem_cons_self, hts _ hF.1, hts _ hF.2.1, hd.1, hlen, hts _ hlink⟩, hts _ hF.2.2.1, hts _ hF.2.2.2⟩ ⟨Pw.blind, va_recv hK hPc hci hq, fun U hU hW => ⟨rfl, by rw [hU], by rw [hU]; exact hPc, ⟨va_K.moved hW.alike hK, hN.warm hW⟩, hDc⟩⟩ rfl hn hl.1 rfl (lv_room hrest) hdg hf) hS (fun q _ h => hFc q h) hFc (fun r u t H1 locs1 ht hvm hw hB hz1 hk1 hS1 => ?_)
  obtain ⟨hP1, hD1⟩ := hB
  rw [ht] at hP1
  obtain ⟨hP2, hD2⟩ := va_join hP hD isC isR hC hRr hnd hdis hk1 hFc hP1 hD1
  exact k r u hw H1 locs1 ls hP2 hD2 hS1 hl
theorem x_callVV (C : Cx p s m args meth c cc nL own D cA A) {S : Type} {y : MethodName} {bytes : ByteArray} {maxL : Nat} {rm : Room} {As : List Value} {wc wr : va_W} {post : S → Prop} {w1 : S → va_W} {index n : Nat} {b : Nat} (hM : CtV l D cA y bytes maxL rm (.ref b :: As) wc post w1) (hdg : decode cc pc = .ok (.invokevirtual index, 3)) (hF : Cond.code y bytes maxL none ∈ gw ∧ Cond.initialized y.cls ∈ gw ∧ Cond.instanceMethod y ∈ gw ∧ Cond.selects y.cls y y ∈ gw) (hlink : Cond.methodLink own index y ∈ gw) (hd : (y.cls ≠ "java/lang/invoke/MethodHandle" ∧ y.cls ≠ "java/lang/invoke/VarHandle") ∧ (parseMethodDescriptor y.desc).map (fun d => d.parameters.length) = some n) (hn : As.length = n) (hR : rm.frames + 1 ≤ R.frames ∧ 8 + (maxL + 11) + rm.locals ≤ R.locals) (hf : cells + rm.cells ≤ R.cells ∧ slots + rm.slots ≤ R.slots) (ci q0 : Nat) {T : u_T} {N : Nat} {fs : List Value} (hci : classes[ci]? = some (y.cls, T, N)) (hq : wc[q0]? = some (b, .inr (ci, fs))) (isC isR : List Nat) (hC : isC.map (fun i => ws[i]?) = wc.map some) (hRr : isR.map (fun i => ws[i]?) = wr.map some) (hndC : va_nd isC = true) (hnd : va_nd isR = true) (hdis : ∀ i ∈ isR, i ∉ isC) {st0 : List Value} (hst : st0 = (As.reverse ++ .ref b :: rest)) (hrest : (rest.map fun v => v.category).sum ≤ 8) (k : ∀ u : S, post u → X p l e R s m args below meth c D A nL (cells + rm.cells) (slots + rm.slots) Q (wr ++ w1 u) (pc + 3) lv rest) : X p l e R s m args below meth c D A nL cells slots Q ws pc lv st0 := fun H locs ls hP hD hS hl => by
  subst hst
  obtain ⟨hx, hb, hml, hown, hts, hK, hN, hA, hlk⟩ := C
  have at' : ∀ (j : Nat) (q : Nat × va_E), wc[j]? = some q → ∃ i, isC[j]? = some i ∧ ws[i]? = some q := by
    intro j q hq
    have h1 : (isC.map (fun i => ws[i]?))[j]? = some (some q) := by rw [hC, List.getElem?_map, hq]; rfl
    rw [List.getElem?_map] at h1
    cases hi : isC[j]? with
    | none => rw [hi] at h1; cases h1
    | some i => rw [hi] at h1; exact ⟨i, rfl, Option.some.inj h1⟩
  have hPc : va_P D classes wc H := fun j q hq => by
    obtain ⟨i, -, h2⟩ := at' j q hq
    exact hP i q h2
  have hFc := va_free (wc := wc) hD hS hA isC hC
  have hlen : ∀ sig, parseMethodDescriptor y.desc = some sig → n = sig.parameters.length := fun sig h => by
    have h2 := hd.2
    rw [h] at h2
    exact (Option.some.inj h2).symm
  have hDc : va_D (fun _ => True) wc := ⟨fun i j x y hi hj hxy => by
    obtain ⟨i', h1, h2⟩ := at' i x hi
    obtain ⟨j', h3, h4⟩ := at' j y hj
    have h5 := hD.1 i' j' x y h2 h4 hxy
    subst h5
    exact va_nd_inj isC hndC i j i' h1 h3, fun _ _ _ => trivial⟩
  refine va_callv (va_runV (Ts := gw) (As := As) (rest := rest) ⟨hx, hb, hml, hown, hts⟩ (hM H.size) ⟨⟨rfl, rfl, hR.1, hR.2, pay_in hts (gw_in hF.1), List.mem_cons_self, hts _ hF.1, hts _ hF.2.1, hd.1, hlen, hts _ hlink⟩, hts _ hF.2.2.1, hts _ hF.2.2.2⟩ ⟨Pw.blind, va_recv hK hPc hci hq, fun U hU hW => ⟨rfl, by rw [hU], by rw [hU]; exact hPc, ⟨va_K.moved hW.alike hK, hN.warm hW⟩, hDc⟩⟩ rfl hn hl.1 rfl (lv_room hrest) hdg hf) hS (fun q _ h => hFc q h) hFc (fun u t H1 locs1 ht hvm hw hB hz1 hk1 hS1 => ?_)
  obtain ⟨hP1, hD1⟩ := hB
  rw [ht] at hP1
  obtain ⟨hP2, hD2⟩ := va_join hP hD isC isR hC hRr hnd hdis hk1 hFc hP1 hD1
  exact k u hw H1 locs1 ls hP2 hD2 hS1 hl
theorem x_callSI (C : Cx p s m args meth c cc nL own D cA A) {S : Type} {y : MethodName} {bytes : ByteArray} {maxL : Nat} {rt : Option FieldType} {rm : Room} {As : List Value} {wc wr : va_W} {post : Int32 → S → Prop} {w1 : S → va_W} {index n : Nat} (hM : CtI l D cA y bytes maxL rt rm As wc post w1) (hdg : decode cc pc = .ok (.invokestatic index, 3)) (hF : Cond.code y bytes maxL rt ∈ gw ∧ Cond.initialized y.cls ∈ gw ∧ Cond.static y ∈ gw) (hlink : Cond.methodLink own index y ∈ gw) (hd : (y.cls ≠ "java/lang/invoke/MethodHandle" ∧ y.cls ≠ "java/lang/invoke/VarHandle") ∧ (parseMethodDescriptor y.desc).map (fun d => d.parameters.length) = some n) (hn : As.length = n) (hR : rm.frames + 1 ≤ R.frames ∧ 8 + (maxL + 11) + rm.locals ≤ R.locals) (hf : cells + rm.cells ≤ R.cells ∧ slots + rm.slots ≤ R.slots) (isC isR : List Nat) (hC : isC.map (fun i => ws[i]?) = wc.map some) (hRr : isR.map (fun i => ws[i]?) = wr.map some) (hndC : va_nd isC = true) (hnd : va_nd isR = true) (hdis : ∀ i ∈ isR, i ∉ isC) {st0 : List Value} (hst : st0 = (As.reverse ++ rest)) (hrest : (rest.map fun v => v.category).sum ≤ 8) (k : ∀ (r : Int32) (u : S), post r u → X p l e R s m args below meth c D A nL (cells + rm.cells) (slots + rm.slots) Q (wr ++ w1 u) (pc + 3) lv (.int r :: rest)) : X p l e R s m args below meth c D A nL cells slots Q ws pc lv st0 := fun H locs ls hP hD hS hl => by
  subst hst
  obtain ⟨hx, hb, hml, hown, hts, hK, hN, hA, hlk⟩ := C
  have at' : ∀ (j : Nat) (q : Nat × va_E), wc[j]? = some q → ∃ i, isC[j]? = some i ∧ ws[i]? = some q := by
    intro j q hq
    have h1 : (isC.map (fun i => ws[i]?))[j]? = some (some q) := by rw [hC, List.getElem?_map, hq]; rfl
    rw [List.getElem?_map] at h1
    cases hi : isC[j]? with
    | none => rw [hi] at h1; cases h1
    | some i => rw [hi] at h1; exact ⟨i, rfl, Option.some.inj h1⟩
  have hPc : va_P D classes wc H := fun j q hq => by
    obtain ⟨i, -, h2⟩ := at' j q hq
    exact hP i q h2
  have hFc := va_free (wc := wc) hD hS hA isC hC
  have hlen : ∀ sig, parseMethodDescriptor y.desc = some sig → n = sig.parameters.length := fun sig h => by
    have h2 := hd.2
    rw [h] at h2
    exact (Option.some.inj h2).symm
  have hDc : va_D (fun _ => True) wc := ⟨fun i j x y hi hj hxy => by
    obtain ⟨i', h1, h2⟩ := at' i x hi
    obtain ⟨j', h3, h4⟩ := at' j y hj
    have h5 := hD.1 i' j' x y h2 h4 hxy
    subst h5
    exact va_nd_inj isC hndC i j i' h1 h3, fun _ _ _ => trivial⟩
  refine va_calli (va_runS (Ts := gw) (As := As) (rest := rest) ⟨hx, hb, hml, hown, hts⟩ (hM H.size) ⟨⟨rfl, rfl, hR.1, hR.2, pay_in hts (gw_in hF.1), List.mem_cons_self, hts _ hF.1, hts _ hF.2.1, hd.1, hlen, hts _ hlink⟩, hts _ hF.2.2⟩ ⟨Pw.blind, fun U hU hW => ⟨rfl, by rw [hU], by rw [hU]; exact hPc, ⟨va_K.moved hW.alike hK, hN.warm hW⟩, hDc⟩⟩ rfl hn hl.1 rfl (lv_room hrest) hdg hf) hS (fun q _ h => hFc q h) hFc (fun r u t H1 locs1 ht hvm hw hB hz1 hk1 hS1 => ?_)
  obtain ⟨hP1, hD1⟩ := hB
  rw [ht] at hP1
  obtain ⟨hP2, hD2⟩ := va_join hP hD isC isR hC hRr hnd hdis hk1 hFc hP1 hD1
  exact k r u hw H1 locs1 ls hP2 hD2 hS1 hl
theorem x_callSV (C : Cx p s m args meth c cc nL own D cA A) {S : Type} {y : MethodName} {bytes : ByteArray} {maxL : Nat} {rm : Room} {As : List Value} {wc wr : va_W} {post : S → Prop} {w1 : S → va_W} {index n : Nat} (hM : CtV l D cA y bytes maxL rm As wc post w1) (hdg : decode cc pc = .ok (.invokestatic index, 3)) (hF : Cond.code y bytes maxL none ∈ gw ∧ Cond.initialized y.cls ∈ gw ∧ Cond.static y ∈ gw) (hlink : Cond.methodLink own index y ∈ gw) (hd : (y.cls ≠ "java/lang/invoke/MethodHandle" ∧ y.cls ≠ "java/lang/invoke/VarHandle") ∧ (parseMethodDescriptor y.desc).map (fun d => d.parameters.length) = some n) (hn : As.length = n) (hR : rm.frames + 1 ≤ R.frames ∧ 8 + (maxL + 11) + rm.locals ≤ R.locals) (hf : cells + rm.cells ≤ R.cells ∧ slots + rm.slots ≤ R.slots) (isC isR : List Nat) (hC : isC.map (fun i => ws[i]?) = wc.map some) (hRr : isR.map (fun i => ws[i]?) = wr.map some) (hndC : va_nd isC = true) (hnd : va_nd isR = true) (hdis : ∀ i ∈ isR, i ∉ isC) {st0 : List Value} (hst : st0 = (As.reverse ++ rest)) (hrest : (rest.map fun v => v.category).sum ≤ 8) (k : ∀ u : S, post u → X p l e R s m args below meth c D A nL (cells + rm.cells) (slots + rm.slots) Q (wr ++ w1 u) (pc + 3) lv rest) : X p l e R s m args below meth c D A nL cells slots Q ws pc lv st0 := fun H locs ls hP hD hS hl => by
  subst hst
  obtain ⟨hx, hb, hml, hown, hts, hK, hN, hA, hlk⟩ := C
  have at' : ∀ (j : Nat) (q : Nat × va_E), wc[j]? = some q → ∃ i, isC[j]? = some i ∧ ws[i]? = some q := by
    intro j q hq
    have h1 : (isC.map (fun i => ws[i]?))[j]? = some (some q) := by rw [hC, List.getElem?_map, hq]; rfl
    rw [List.getElem?_map] at h1
    cases hi : isC[j]? with
    | none => rw [hi] at h1; cases h1
    | some i => rw [hi] at h1; exact ⟨i, rfl, Option.some.inj h1⟩
  have hPc : va_P D classes wc H := fun j q hq => by
    obtain ⟨i, -, h2⟩ := at' j q hq
    exact hP i q h2
  have hFc := va_free (wc := wc) hD hS hA isC hC
  have hlen : ∀ sig, parseMethodDescriptor y.desc = some sig → n = sig.parameters.length := fun sig h => by
    have h2 := hd.2
    rw [h] at h2
    exact (Option.some.inj h2).symm
  have hDc : va_D (fun _ => True) wc := ⟨fun i j x y hi hj hxy => by
    obtain ⟨i', h1, h2⟩ := at' i x hi
    obtain ⟨j', h3, h4⟩ := at' j y hj
    have h5 := hD.1 i' j' x y h2 h4 hxy
    subst h5
    exact va_nd_inj isC hndC i j i' h1 h3, fun _ _ _ => trivial⟩
  refine va_callv (va_runS (Ts := gw) (As := As) (rest := rest) ⟨hx, hb, hml, hown, hts⟩ (hM H.size) ⟨⟨rfl, rfl, hR.1, hR.2, pay_in hts (gw_in hF.1), List.mem_cons_self, hts _ hF.1, hts _ hF.2.1, hd.1, hlen, hts _ hlink⟩, hts _ hF.2.2⟩ ⟨Pw.blind, fun U hU hW => ⟨rfl, by rw [hU], by rw [hU]; exact hPc, ⟨va_K.moved hW.alike hK, hN.warm hW⟩, hDc⟩⟩ rfl hn hl.1 rfl (lv_room hrest) hdg hf) hS (fun q _ h => hFc q h) hFc (fun u t H1 locs1 ht hvm hw hB hz1 hk1 hS1 => ?_)
  obtain ⟨hP1, hD1⟩ := hB
  rw [ht] at hP1
  obtain ⟨hP2, hD2⟩ := va_join hP hD isC isR hC hRr hnd hdis hk1 hFc hP1 hD1
  exact k u hw H1 locs1 ls hP2 hD2 hS1 hl
theorem x_callIV (C : Cx p s m args meth c cc nL own D cA A) {S : Type} {y : MethodName} {bytes : ByteArray} {maxL : Nat} {rm : Room} {As : List Value} {wc wr : va_W} {post : S → Prop} {w1 : S → va_W} {index n : Nat} {b : Nat} (hM : CtV l D cA y bytes maxL rm (.ref b :: As) wc post w1) (hdg : decode cc pc = .ok (.invokespecial index, 3)) (hF : Cond.code y bytes maxL none ∈ gw ∧ Cond.initialized y.cls ∈ gw ∧ Cond.instanceMethod y ∈ gw ∧ y.name = "<init>") (hlink : Cond.methodLink own index y ∈ gw) (hd : (y.cls ≠ "java/lang/invoke/MethodHandle" ∧ y.cls ≠ "java/lang/invoke/VarHandle") ∧ (parseMethodDescriptor y.desc).map (fun d => d.parameters.length) = some n) (hn : As.length = n) (hR : rm.frames + 1 ≤ R.frames ∧ 8 + (maxL + 11) + rm.locals ≤ R.locals) (hf : cells + rm.cells ≤ R.cells ∧ slots + rm.slots ≤ R.slots) (isC isR : List Nat) (hC : isC.map (fun i => ws[i]?) = wc.map some) (hRr : isR.map (fun i => ws[i]?) = wr.map some) (hndC : va_nd isC = true) (hnd : va_nd isR = true) (hdis : ∀ i ∈ isR, i ∉ isC) {st0 : List Value} (hst : st0 = (As.reverse ++ .ref b :: rest)) (hrest : (rest.map fun v => v.category).sum ≤ 8) (k : ∀ u : S, post u → X p l e R s m args below meth c D A nL (cells + rm.cells) (slots + rm.slots) Q (wr ++ w1 u) (pc + 3) lv rest) : X p l e R s m args below meth c D A nL cells slots Q ws pc lv st0 := fun H locs ls hP hD hS hl => by
  subst hst
  obtain ⟨hx, hb, hml, hown, hts, hK, hN, hA, hlk⟩ := C
  have at' : ∀ (j : Nat) (q : Nat × va_E), wc[j]? = some q → ∃ i, isC[j]? = some i ∧ ws[i]? = some q := by
    intro j q hq
    have h1 : (isC.map (fun i => ws[i]?))[j]? = some (some q) := by rw [hC, List.getElem?_map, hq]; rfl
    rw [List.getElem?_map] at h1
    cases hi : isC[j]? with
    | none => rw [hi] at h1; cases h1
    | some i => rw [hi] at h1; exact ⟨i, rfl, Option.some.inj h1⟩
  have hPc : va_P D classes wc H := fun j q hq => by
    obtain ⟨i, -, h2⟩ := at' j q hq
    exact hP i q h2
  have hFc := va_free (wc := wc) hD hS hA isC hC
  have hlen : ∀ sig, parseMethodDescriptor y.desc = some sig → n = sig.parameters.length := fun sig h => by
    have h2 := hd.2
    rw [h] at h2
    exact (Option.some.inj h2).symm
  have hDc : va_D (fun _ => True) wc := ⟨fun i j x y hi hj hxy => by
    obtain ⟨i', h1, h2⟩ := at' i x hi
    obtain ⟨j', h3, h4⟩ := at' j y hj
    have h5 := hD.1 i' j' x y h2 h4 hxy
    subst h5
    exact va_nd_inj isC hndC i j i' h1 h3, fun _ _ _ => trivial⟩
  refine va_callv (va_runI (Ts := gw) (As := As) (rest := rest) ⟨hx, hb, hml, hown, hts⟩ (hM H.size) ⟨⟨rfl, rfl, hR.1, hR.2, pay_in hts (gw_in hF.1), List.mem_cons_self, hts _ hF.1, hts _ hF.2.1, hd.1, hlen, hts _ hlink⟩, hF.2.2.2, hts _ hF.2.2.1⟩ ⟨Pw.blind, fun U hU hW => ⟨rfl, by rw [hU], by rw [hU]; exact hPc, ⟨va_K.moved hW.alike hK, hN.warm hW⟩, hDc⟩⟩ rfl hn hl.1 rfl (lv_room hrest) hdg hf) hS (fun q _ h => hFc q h) hFc (fun u t H1 locs1 ht hvm hw hB hz1 hk1 hS1 => ?_)
  obtain ⟨hP1, hD1⟩ := hB
  rw [ht] at hP1
  obtain ⟨hP2, hD2⟩ := va_join hP hD isC isR hC hRr hnd hdis hk1 hFc hP1 hD1
  exact k u hw H1 locs1 ls hP2 hD2 hS1 hl
theorem x_callVIN (C : Cx p s m args meth c cc nL own D cA A) {S : Type} {y : MethodName} {bytes : ByteArray} {maxL : Nat} {rt : Option FieldType} {rm : Room} {As : List Value} {wc wr : va_W} {post : Int32 → S → Prop} {w1 : S → va_W} {index n : Nat} {host : String} {b : Nat} (hM : CtI l D cA y bytes maxL rt rm (.ref b :: As) wc post w1) (hdg : decode cc pc = .ok (.invokevirtual index, 3)) (hF : Cond.code y bytes maxL rt ∈ gw ∧ Cond.initialized y.cls ∈ gw ∧ Cond.instanceMethod y ∈ gw ∧ Cond.selects y.cls y y ∈ gw) (hlink : Cond.methodLinkNest own index y host ∈ nw) (hd : (y.cls ≠ "java/lang/invoke/MethodHandle" ∧ y.cls ≠ "java/lang/invoke/VarHandle") ∧ (parseMethodDescriptor y.desc).map (fun d => d.parameters.length) = some n) (hn : As.length = n) (hR : rm.frames + 1 ≤ R.frames ∧ 8 + (maxL + 11) + rm.locals ≤ R.locals) (hf : cells + rm.cells ≤ R.cells ∧ slots + rm.slots ≤ R.slots) (ci q0 : Nat) {T : u_T} {N : Nat} {fs : List Value} (hci : classes[ci]? = some (y.cls, T, N)) (hq : wc[q0]? = some (b, .inr (ci, fs))) (isC isR : List Nat) (hC : isC.map (fun i => ws[i]?) = wc.map some) (hRr : isR.map (fun i => ws[i]?) = wr.map some) (hndC : va_nd isC = true) (hnd : va_nd isR = true) (hdis : ∀ i ∈ isR, i ∉ isC) {st0 : List Value} (hst : st0 = (As.reverse ++ .ref b :: rest)) (hrest : (rest.map fun v => v.category).sum ≤ 8) (k : ∀ (r : Int32) (u : S), post r u → X p l e R s m args below meth c D A nL (cells + rm.cells) (slots + rm.slots) Q (wr ++ w1 u) (pc + 3) lv (.int r :: rest)) : X p l e R s m args below meth c D A nL cells slots Q ws pc lv st0 := fun H locs ls hP hD hS hl => by
  subst hst
  obtain ⟨hx, hb, hml, hown, hts, hK, hN, hA, hlk⟩ := C
  have at' : ∀ (j : Nat) (q : Nat × va_E), wc[j]? = some q → ∃ i, isC[j]? = some i ∧ ws[i]? = some q := by
    intro j q hq
    have h1 : (isC.map (fun i => ws[i]?))[j]? = some (some q) := by rw [hC, List.getElem?_map, hq]; rfl
    rw [List.getElem?_map] at h1
    cases hi : isC[j]? with
    | none => rw [hi] at h1; cases h1
    | some i => rw [hi] at h1; exact ⟨i, rfl, Option.some.inj h1⟩
  have hPc : va_P D classes wc H := fun j q hq => by
    obtain ⟨i, -, h2⟩ := at' j q hq
    exact hP i q h2
  have hFc := va_free (wc := wc) hD hS hA isC hC
  have hlen : ∀ sig, parseMethodDescriptor y.desc = some sig → n = sig.parameters.length := fun sig h => by
    have h2 := hd.2
    rw [h] at h2
    exact (Option.some.inj h2).symm
  have hDc : va_D (fun _ => True) wc := ⟨fun i j x y hi hj hxy => by
    obtain ⟨i', h1, h2⟩ := at' i x hi
    obtain ⟨j', h3, h4⟩ := at' j y hj
    have h5 := hD.1 i' j' x y h2 h4 hxy
    subst h5
    exact va_nd_inj isC hndC i j i' h1 h3, fun _ _ _ => trivial⟩
  refine va_calli (va_runVN (Ts := gw) (As := As) (rest := rest) ⟨hx, hb, hml, hown, hts⟩ (hM H.size) ⟨⟨⟨rfl, rfl, hR.1, hR.2, pay_in hts (gw_in hF.1), List.mem_cons_self⟩, hts _ hF.1, hts _ hF.2.1, hd.1, hlen, va_Nw.use rfl (hN _ hlink)⟩, hts _ hF.2.2.1, hts _ hF.2.2.2⟩ ⟨Pw.blind, va_recv hK hPc hci hq, fun U hU hW => ⟨rfl, by rw [hU], by rw [hU]; exact hPc, ⟨va_K.moved hW.alike hK, hN.warm hW⟩, hDc⟩⟩ rfl hn hl.1 rfl (lv_room hrest) hdg hf) hS (fun q _ h => hFc q h) hFc (fun r u t H1 locs1 ht hvm hw hB hz1 hk1 hS1 => ?_)
  obtain ⟨hP1, hD1⟩ := hB
  rw [ht] at hP1
  obtain ⟨hP2, hD2⟩ := va_join hP hD isC isR hC hRr hnd hdis hk1 hFc hP1 hD1
  exact k r u hw H1 locs1 ls hP2 hD2 hS1 hl
theorem x_callVVN (C : Cx p s m args meth c cc nL own D cA A) {S : Type} {y : MethodName} {bytes : ByteArray} {maxL : Nat} {rm : Room} {As : List Value} {wc wr : va_W} {post : S → Prop} {w1 : S → va_W} {index n : Nat} {host : String} {b : Nat} (hM : CtV l D cA y bytes maxL rm (.ref b :: As) wc post w1) (hdg : decode cc pc = .ok (.invokevirtual index, 3)) (hF : Cond.code y bytes maxL none ∈ gw ∧ Cond.initialized y.cls ∈ gw ∧ Cond.instanceMethod y ∈ gw ∧ Cond.selects y.cls y y ∈ gw) (hlink : Cond.methodLinkNest own index y host ∈ nw) (hd : (y.cls ≠ "java/lang/invoke/MethodHandle" ∧ y.cls ≠ "java/lang/invoke/VarHandle") ∧ (parseMethodDescriptor y.desc).map (fun d => d.parameters.length) = some n) (hn : As.length = n) (hR : rm.frames + 1 ≤ R.frames ∧ 8 + (maxL + 11) + rm.locals ≤ R.locals) (hf : cells + rm.cells ≤ R.cells ∧ slots + rm.slots ≤ R.slots) (ci q0 : Nat) {T : u_T} {N : Nat} {fs : List Value} (hci : classes[ci]? = some (y.cls, T, N)) (hq : wc[q0]? = some (b, .inr (ci, fs))) (isC isR : List Nat) (hC : isC.map (fun i => ws[i]?) = wc.map some) (hRr : isR.map (fun i => ws[i]?) = wr.map some) (hndC : va_nd isC = true) (hnd : va_nd isR = true) (hdis : ∀ i ∈ isR, i ∉ isC) {st0 : List Value} (hst : st0 = (As.reverse ++ .ref b :: rest)) (hrest : (rest.map fun v => v.category).sum ≤ 8) (k : ∀ u : S, post u → X p l e R s m args below meth c D A nL (cells + rm.cells) (slots + rm.slots) Q (wr ++ w1 u) (pc + 3) lv rest) : X p l e R s m args below meth c D A nL cells slots Q ws pc lv st0 := fun H locs ls hP hD hS hl => by
  subst hst
  obtain ⟨hx, hb, hml, hown, hts, hK, hN, hA, hlk⟩ := C
  have at' : ∀ (j : Nat) (q : Nat × va_E), wc[j]? = some q → ∃ i, isC[j]? = some i ∧ ws[i]? = some q := by
    intro j q hq
    have h1 : (isC.map (fun i => ws[i]?))[j]? = some (some q) := by rw [hC, List.getElem?_map, hq]; rfl
    rw [List.getElem?_map] at h1
    cases hi : isC[j]? with
    | none => rw [hi] at h1; cases h1
    | some i => rw [hi] at h1; exact ⟨i, rfl, Option.some.inj h1⟩
  have hPc : va_P D classes wc H := fun j q hq => by
    obtain ⟨i, -, h2⟩ := at' j q hq
    exact hP i q h2
  have hFc := va_free (wc := wc) hD hS hA isC hC
  have hlen : ∀ sig, parseMethodDescriptor y.desc = some sig → n = sig.parameters.length := fun sig h => by
    have h2 := hd.2
    rw [h] at h2
    exact (Option.some.inj h2).symm
  have hDc : va_D (fun _ => True) wc := ⟨fun i j x y hi hj hxy => by
    obtain ⟨i', h1, h2⟩ := at' i x hi
    obtain ⟨j', h3, h4⟩ := at' j y hj
    have h5 := hD.1 i' j' x y h2 h4 hxy
    subst h5
    exact va_nd_inj isC hndC i j i' h1 h3, fun _ _ _ => trivial⟩
  refine va_callv (va_runVN (Ts := gw) (As := As) (rest := rest) ⟨hx, hb, hml, hown, hts⟩ (hM H.size) ⟨⟨⟨rfl, rfl, hR.1, hR.2, pay_in hts (gw_in hF.1), List.mem_cons_self⟩, hts _ hF.1, hts _ hF.2.1, hd.1, hlen, va_Nw.use rfl (hN _ hlink)⟩, hts _ hF.2.2.1, hts _ hF.2.2.2⟩ ⟨Pw.blind, va_recv hK hPc hci hq, fun U hU hW => ⟨rfl, by rw [hU], by rw [hU]; exact hPc, ⟨va_K.moved hW.alike hK, hN.warm hW⟩, hDc⟩⟩ rfl hn hl.1 rfl (lv_room hrest) hdg hf) hS (fun q _ h => hFc q h) hFc (fun u t H1 locs1 ht hvm hw hB hz1 hk1 hS1 => ?_)
  obtain ⟨hP1, hD1⟩ := hB
  rw [ht] at hP1
  obtain ⟨hP2, hD2⟩ := va_join hP hD isC isR hC hRr hnd hdis hk1 hFc hP1 hD1
  exact k u hw H1 locs1 ls hP2 hD2 hS1 hl
theorem x_callSIN (C : Cx p s m args meth c cc nL own D cA A) {S : Type} {y : MethodName} {bytes : ByteArray} {maxL : Nat} {rt : Option FieldType} {rm : Room} {As : List Value} {wc wr : va_W} {post : Int32 → S → Prop} {w1 : S → va_W} {index n : Nat} {host : String} (hM : CtI l D cA y bytes maxL rt rm As wc post w1) (hdg : decode cc pc = .ok (.invokestatic index, 3)) (hF : Cond.code y bytes maxL rt ∈ gw ∧ Cond.initialized y.cls ∈ gw ∧ Cond.static y ∈ gw) (hlink : Cond.methodLinkNest own index y host ∈ nw) (hd : (y.cls ≠ "java/lang/invoke/MethodHandle" ∧ y.cls ≠ "java/lang/invoke/VarHandle") ∧ (parseMethodDescriptor y.desc).map (fun d => d.parameters.length) = some n) (hn : As.length = n) (hR : rm.frames + 1 ≤ R.frames ∧ 8 + (maxL + 11) + rm.locals ≤ R.locals) (hf : cells + rm.cells ≤ R.cells ∧ slots + rm.slots ≤ R.slots) (isC isR : List Nat) (hC : isC.map (fun i => ws[i]?) = wc.map some) (hRr : isR.map (fun i => ws[i]?) = wr.map some) (hndC : va_nd isC = true) (hnd : va_nd isR = true) (hdis : ∀ i ∈ isR, i ∉ isC) {st0 : List Value} (hst : st0 = (As.reverse ++ rest)) (hrest : (rest.map fun v => v.category).sum ≤ 8) (k : ∀ (r : Int32) (u : S), post r u → X p l e R s m args below meth c D A nL (cells + rm.cells) (slots + rm.slots) Q (wr ++ w1 u) (pc + 3) lv (.int r :: rest)) : X p l e R s m args below meth c D A nL cells slots Q ws pc lv st0 := fun H locs ls hP hD hS hl => by
  subst hst
  obtain ⟨hx, hb, hml, hown, hts, hK, hN, hA, hlk⟩ := C
  have at' : ∀ (j : Nat) (q : Nat × va_E), wc[j]? = some q → ∃ i, isC[j]? = some i ∧ ws[i]? = some q := by
    intro j q hq
    have h1 : (isC.map (fun i => ws[i]?))[j]? = some (some q) := by rw [hC, List.getElem?_map, hq]; rfl
    rw [List.getElem?_map] at h1
    cases hi : isC[j]? with
    | none => rw [hi] at h1; cases h1
    | some i => rw [hi] at h1; exact ⟨i, rfl, Option.some.inj h1⟩
  have hPc : va_P D classes wc H := fun j q hq => by
    obtain ⟨i, -, h2⟩ := at' j q hq
    exact hP i q h2
  have hFc := va_free (wc := wc) hD hS hA isC hC
  have hlen : ∀ sig, parseMethodDescriptor y.desc = some sig → n = sig.parameters.length := fun sig h => by
    have h2 := hd.2
    rw [h] at h2
    exact (Option.some.inj h2).symm
  have hDc : va_D (fun _ => True) wc := ⟨fun i j x y hi hj hxy => by
    obtain ⟨i', h1, h2⟩ := at' i x hi
    obtain ⟨j', h3, h4⟩ := at' j y hj
    have h5 := hD.1 i' j' x y h2 h4 hxy
    subst h5
    exact va_nd_inj isC hndC i j i' h1 h3, fun _ _ _ => trivial⟩
  refine va_calli (va_runSN (Ts := gw) (As := As) (rest := rest) ⟨hx, hb, hml, hown, hts⟩ (hM H.size) ⟨⟨⟨rfl, rfl, hR.1, hR.2, pay_in hts (gw_in hF.1), List.mem_cons_self⟩, hts _ hF.1, hts _ hF.2.1, hd.1, hlen, va_Nw.use rfl (hN _ hlink)⟩, hts _ hF.2.2, trivial⟩ ⟨Pw.blind, fun U hU hW => ⟨rfl, by rw [hU], by rw [hU]; exact hPc, ⟨va_K.moved hW.alike hK, hN.warm hW⟩, hDc⟩⟩ rfl hn hl.1 rfl (lv_room hrest) hdg hf) hS (fun q _ h => hFc q h) hFc (fun r u t H1 locs1 ht hvm hw hB hz1 hk1 hS1 => ?_)
  obtain ⟨hP1, hD1⟩ := hB
  rw [ht] at hP1
  obtain ⟨hP2, hD2⟩ := va_join hP hD isC isR hC hRr hnd hdis hk1 hFc hP1 hD1
  exact k r u hw H1 locs1 ls hP2 hD2 hS1 hl
theorem x_callSVN (C : Cx p s m args meth c cc nL own D cA A) {S : Type} {y : MethodName} {bytes : ByteArray} {maxL : Nat} {rm : Room} {As : List Value} {wc wr : va_W} {post : S → Prop} {w1 : S → va_W} {index n : Nat} {host : String} (hM : CtV l D cA y bytes maxL rm As wc post w1) (hdg : decode cc pc = .ok (.invokestatic index, 3)) (hF : Cond.code y bytes maxL none ∈ gw ∧ Cond.initialized y.cls ∈ gw ∧ Cond.static y ∈ gw) (hlink : Cond.methodLinkNest own index y host ∈ nw) (hd : (y.cls ≠ "java/lang/invoke/MethodHandle" ∧ y.cls ≠ "java/lang/invoke/VarHandle") ∧ (parseMethodDescriptor y.desc).map (fun d => d.parameters.length) = some n) (hn : As.length = n) (hR : rm.frames + 1 ≤ R.frames ∧ 8 + (maxL + 11) + rm.locals ≤ R.locals) (hf : cells + rm.cells ≤ R.cells ∧ slots + rm.slots ≤ R.slots) (isC isR : List Nat) (hC : isC.map (fun i => ws[i]?) = wc.map some) (hRr : isR.map (fun i => ws[i]?) = wr.map some) (hndC : va_nd isC = true) (hnd : va_nd isR = true) (hdis : ∀ i ∈ isR, i ∉ isC) {st0 : List Value} (hst : st0 = (As.reverse ++ rest)) (hrest : (rest.map fun v => v.category).sum ≤ 8) (k : ∀ u : S, post u → X p l e R s m args below meth c D A nL (cells + rm.cells) (slots + rm.slots) Q (wr ++ w1 u) (pc + 3) lv rest) : X p l e R s m args below meth c D A nL cells slots Q ws pc lv st0 := fun H locs ls hP hD hS hl => by
  subst hst
  obtain ⟨hx, hb, hml, hown, hts, hK, hN, hA, hlk⟩ := C
  have at' : ∀ (j : Nat) (q : Nat × va_E), wc[j]? = some q → ∃ i, isC[j]? = some i ∧ ws[i]? = some q := by
    intro j q hq
    have h1 : (isC.map (fun i => ws[i]?))[j]? = some (some q) := by rw [hC, List.getElem?_map, hq]; rfl
    rw [List.getElem?_map] at h1
    cases hi : isC[j]? with
    | none => rw [hi] at h1; cases h1
    | some i => rw [hi] at h1; exact ⟨i, rfl, Option.some.inj h1⟩
  have hPc : va_P D classes wc H := fun j q hq => by
    obtain ⟨i, -, h2⟩ := at' j q hq
    exact hP i q h2
  have hFc := va_free (wc := wc) hD hS hA isC hC
  have hlen : ∀ sig, parseMethodDescriptor y.desc = some sig → n = sig.parameters.length := fun sig h => by
    have h2 := hd.2
    rw [h] at h2
    exact (Option.some.inj h2).symm
  have hDc : va_D (fun _ => True) wc := ⟨fun i j x y hi hj hxy => by
    obtain ⟨i', h1, h2⟩ := at' i x hi
    obtain ⟨j', h3, h4⟩ := at' j y hj
    have h5 := hD.1 i' j' x y h2 h4 hxy
    subst h5
    exact va_nd_inj isC hndC i j i' h1 h3, fun _ _ _ => trivial⟩
  refine va_callv (va_runSN (Ts := gw) (As := As) (rest := rest) ⟨hx, hb, hml, hown, hts⟩ (hM H.size) ⟨⟨⟨rfl, rfl, hR.1, hR.2, pay_in hts (gw_in hF.1), List.mem_cons_self⟩, hts _ hF.1, hts _ hF.2.1, hd.1, hlen, va_Nw.use rfl (hN _ hlink)⟩, hts _ hF.2.2, trivial⟩ ⟨Pw.blind, fun U hU hW => ⟨rfl, by rw [hU], by rw [hU]; exact hPc, ⟨va_K.moved hW.alike hK, hN.warm hW⟩, hDc⟩⟩ rfl hn hl.1 rfl (lv_room hrest) hdg hf) hS (fun q _ h => hFc q h) hFc (fun u t H1 locs1 ht hvm hw hB hz1 hk1 hS1 => ?_)
  obtain ⟨hP1, hD1⟩ := hB
  rw [ht] at hP1
  obtain ⟨hP2, hD2⟩ := va_join hP hD isC isR hC hRr hnd hdis hk1 hFc hP1 hD1
  exact k u hw H1 locs1 ls hP2 hD2 hS1 hl
theorem x_callIVN (C : Cx p s m args meth c cc nL own D cA A) {S : Type} {y : MethodName} {bytes : ByteArray} {maxL : Nat} {rm : Room} {As : List Value} {wc wr : va_W} {post : S → Prop} {w1 : S → va_W} {index n : Nat} {host : String} {b : Nat} (hM : CtV l D cA y bytes maxL rm (.ref b :: As) wc post w1) (hdg : decode cc pc = .ok (.invokespecial index, 3)) (hF : Cond.code y bytes maxL none ∈ gw ∧ Cond.initialized y.cls ∈ gw ∧ Cond.instanceMethod y ∈ gw ∧ y.name = "<init>") (hlink : Cond.methodLinkNest own index y host ∈ nw) (hd : (y.cls ≠ "java/lang/invoke/MethodHandle" ∧ y.cls ≠ "java/lang/invoke/VarHandle") ∧ (parseMethodDescriptor y.desc).map (fun d => d.parameters.length) = some n) (hn : As.length = n) (hR : rm.frames + 1 ≤ R.frames ∧ 8 + (maxL + 11) + rm.locals ≤ R.locals) (hf : cells + rm.cells ≤ R.cells ∧ slots + rm.slots ≤ R.slots) (isC isR : List Nat) (hC : isC.map (fun i => ws[i]?) = wc.map some) (hRr : isR.map (fun i => ws[i]?) = wr.map some) (hndC : va_nd isC = true) (hnd : va_nd isR = true) (hdis : ∀ i ∈ isR, i ∉ isC) {st0 : List Value} (hst : st0 = (As.reverse ++ .ref b :: rest)) (hrest : (rest.map fun v => v.category).sum ≤ 8) (k : ∀ u : S, post u → X p l e R s m args below meth c D A nL (cells + rm.cells) (slots + rm.slots) Q (wr ++ w1 u) (pc + 3) lv rest) : X p l e R s m args below meth c D A nL cells slots Q ws pc lv st0 := fun H locs ls hP hD hS hl => by
  subst hst
  obtain ⟨hx, hb, hml, hown, hts, hK, hN, hA, hlk⟩ := C
  have at' : ∀ (j : Nat) (q : Nat × va_E), wc[j]? = some q → ∃ i, isC[j]? = some i ∧ ws[i]? = some q := by
    intro j q hq
    have h1 : (isC.map (fun i => ws[i]?))[j]? = some (some q) := by rw [hC, List.getElem?_map, hq]; rfl
    rw [List.getElem?_map] at h1
    cases hi : isC[j]? with
    | none => rw [hi] at h1; cases h1
    | some i => rw [hi] at h1; exact ⟨i, rfl, Option.some.inj h1⟩
  have hPc : va_P D classes wc H := fun j q hq => by
    obtain ⟨i, -, h2⟩ := at' j q hq
    exact hP i q h2
  have hFc := va_free (wc := wc) hD hS hA isC hC
  have hlen : ∀ sig, parseMethodDescriptor y.desc = some sig → n = sig.parameters.length := fun sig h => by
    have h2 := hd.2
    rw [h] at h2
    exact (Option.some.inj h2).symm
  have hDc : va_D (fun _ => True) wc := ⟨fun i j x y hi hj hxy => by
    obtain ⟨i', h1, h2⟩ := at' i x hi
    obtain ⟨j', h3, h4⟩ := at' j y hj
    have h5 := hD.1 i' j' x y h2 h4 hxy
    subst h5
    exact va_nd_inj isC hndC i j i' h1 h3, fun _ _ _ => trivial⟩
  refine va_callv (va_runIN (Ts := gw) (As := As) (rest := rest) ⟨hx, hb, hml, hown, hts⟩ (hM H.size) ⟨⟨⟨rfl, rfl, hR.1, hR.2, pay_in hts (gw_in hF.1), List.mem_cons_self⟩, hts _ hF.1, hts _ hF.2.1, hd.1, hlen, va_Nw.use rfl (hN _ hlink)⟩, hF.2.2.2, hts _ hF.2.2.1⟩ ⟨Pw.blind, fun U hU hW => ⟨rfl, by rw [hU], by rw [hU]; exact hPc, ⟨va_K.moved hW.alike hK, hN.warm hW⟩, hDc⟩⟩ rfl hn hl.1 rfl (lv_room hrest) hdg hf) hS (fun q _ h => hFc q h) hFc (fun u t H1 locs1 ht hvm hw hB hz1 hk1 hS1 => ?_)
  obtain ⟨hP1, hD1⟩ := hB
  rw [ht] at hP1
  obtain ⟨hP2, hD2⟩ := va_join hP hD isC isR hC hRr hnd hdis hk1 hFc hP1 hD1
  exact k u hw H1 locs1 ls hP2 hD2 hS1 hl
theorem CtI.start {y : MethodName} {bytes : ByteArray} {maxL : Nat} {rt : Option FieldType} {rm : Room} {As : List Value} {wc : va_W} {S : Type} {post : Int32 → S → Prop} {w1 : S → va_W} {lv0 : List (Nat × Value)} (hy : plainName y.cls = true) (hlv : lv_args 0 As = lv0) (hsl : (lg_sl As).length ≤ maxL)
    (body : ∀ (p : Program) (e : Env) (s : State) (m : MethodId) (args : Array Value) (below : List Frame) (meth : Method) (c : Code) (A : Nat → Prop), Cx p s m args meth c bytes maxL y.cls D cA A → meth.sig.returnType = rt → meth.name = y.name → X p l e rm s m args below meth c D A maxL 0 0 (MQ below (va_Qi post (Bw D A w1) A) args s rm.cells rm.slots A) wc 0 lv0 []) : CtI l D cA y bytes maxL rt rm As wc post w1 := by
  intro sz
  refine Met.ofW (cc := bytes) (maxL := maxL) (ret := rt) hy rfl ?_
  intro p e s m args below meth c s₁ B hml hv
  obtain ⟨rfl, hsz, hP, ⟨hK, hN⟩, hD0⟩ := hv
  have hts := atoms_spec (ws := .code y bytes maxL rt :: gw) B.pre
  subst hsz
  have hD := hD0.self (sz := s.heap.size)
  generalize hAe : va_A wc s.heap.size = A at hD ⊢
  have hA : ∀ q : Nat, s.heap.size ≤ q → A q := fun q h => by rw [← hAe]; exact Or.inr h
  have hS : va_S A s.heap s.heap [] := va_S.rf
  have hl := lv_entry As (n := maxL) hsl
  rw [lg_entry_eq]
  rw [hlv] at hl
  exact body p e s m _ below meth c A ⟨B.exec, B.bytes, hml, findClass_of_methodNamed B.named, fun w h => hts w (List.mem_cons_of_mem _ h), hK, hN, hA, B.notSynchronized⟩ B.returns (name_of_methodNamed B.named B.method).1 s.heap [] _ hP hD hS hl
theorem CtV.start {y : MethodName} {bytes : ByteArray} {maxL : Nat} {rm : Room} {As : List Value} {wc : va_W} {S : Type} {post : S → Prop} {w1 : S → va_W} {lv0 : List (Nat × Value)} (hy : plainName y.cls = true) (hlv : lv_args 0 As = lv0) (hsl : (lg_sl As).length ≤ maxL)
    (body : ∀ (p : Program) (e : Env) (s : State) (m : MethodId) (args : Array Value) (below : List Frame) (meth : Method) (c : Code) (A : Nat → Prop), Cx p s m args meth c bytes maxL y.cls D cA A → meth.sig.returnType = none → meth.name = y.name → X p l e rm s m args below meth c D A maxL 0 0 (MQ below (va_Qv post (Bw D A w1) A) args s rm.cells rm.slots A) wc 0 lv0 []) : CtV l D cA y bytes maxL rm As wc post w1 := by
  intro sz
  refine Met.ofW (cc := bytes) (maxL := maxL) (ret := none) hy rfl ?_
  intro p e s m args below meth c s₁ B hml hv
  obtain ⟨rfl, hsz, hP, ⟨hK, hN⟩, hD0⟩ := hv
  have hts := atoms_spec (ws := .code y bytes maxL none :: gw) B.pre
  subst hsz
  have hD := hD0.self (sz := s.heap.size)
  generalize hAe : va_A wc s.heap.size = A at hD ⊢
  have hA : ∀ q : Nat, s.heap.size ≤ q → A q := fun q h => by rw [← hAe]; exact Or.inr h
  have hS : va_S A s.heap s.heap [] := va_S.rf
  have hl := lv_entry As (n := maxL) hsl
  rw [lg_entry_eq]
  rw [hlv] at hl
  exact body p e s m _ below meth c A ⟨B.exec, B.bytes, hml, findClass_of_methodNamed B.named, fun w h => hts w (List.mem_cons_of_mem _ h), hK, hN, hA, B.notSynchronized⟩ B.returns (name_of_methodNamed B.named B.method).1 s.heap [] _ hP hD hS hl

end MK
end
section
/-! what the tables say -/
set_option maxRecDepth 100000 in
theorem i_S : ∀ w ∈ u_ws R_S F_S 3, w ∈ gw := by decide +kernel
set_option maxRecDepth 100000 in
theorem i_B : ∀ w ∈ u_ws R_B F_B 5, w ∈ gw := by decide +kernel
set_option maxRecDepth 100000 in
theorem i_M : ∀ w ∈ u_ws R_M F_M 10, w ∈ gw := by decide +kernel
set_option maxRecDepth 100000 in
theorem lk_L_7 : Cond.classLink R_L 7 R_B ∈ gw := List.mem_filter.mpr ⟨List.mem_of_getElem? (i := 23) (by decide +kernel), by decide +kernel⟩
set_option maxRecDepth 100000 in
theorem lk_L_9 : Cond.methodLink R_L 9 y_B_init ∈ gw := List.mem_filter.mpr ⟨List.mem_of_getElem? (i := 25) (by decide +kernel), by decide +kernel⟩
set_option maxRecDepth 100000 in
theorem lk_B_3 : Cond.methodLink R_B 3 Lib.objectInit ∈ gw := List.mem_filter.mpr ⟨List.mem_of_getElem? (i := 28) (by decide +kernel), by decide +kernel⟩
set_option maxRecDepth 100000 in
theorem lk_B_9 : Cond.classLink R_B 9 R_S ∈ gw := List.mem_filter.mpr ⟨List.mem_of_getElem? (i := 31) (by decide +kernel), by decide +kernel⟩
set_option maxRecDepth 100000 in
theorem lk_B_11 : Cond.methodLink R_B 11 y_S_init ∈ gw := List.mem_filter.mpr ⟨List.mem_of_getElem? (i := 33) (by decide +kernel), by decide +kernel⟩
set_option maxRecDepth 100000 in
theorem lk_S_3 : Cond.methodLink R_S 3 Lib.objectInit ∈ gw := List.mem_filter.mpr ⟨List.mem_of_getElem? (i := 36) (by decide +kernel), by decide +kernel⟩
set_option maxRecDepth 100000 in
theorem lk_S_15 : Cond.fieldLink R_S 15 "RunBitmaps$Shelf" "line" "[I" ∈ gw := List.mem_filter.mpr ⟨List.mem_of_getElem? (i := 37) (by decide +kernel), by decide +kernel⟩
set_option maxRecDepth 100000 in
theorem lk_S_19 : Cond.fieldLink R_S 19 "RunBitmaps$Shelf" "bounds" "[I" ∈ gw := List.mem_filter.mpr ⟨List.mem_of_getElem? (i := 38) (by decide +kernel), by decide +kernel⟩
set_option maxRecDepth 100000 in
theorem lk_S_9 : Cond.fieldLink R_S 9 "RunBitmaps$Shelf" "sets" "I" ∈ gw := List.mem_filter.mpr ⟨List.mem_of_getElem? (i := 39) (by decide +kernel), by decide +kernel⟩
set_option maxRecDepth 100000 in
theorem lk_B_39 : Cond.fieldLinkNest R_B 39 "RunBitmaps$Shelf" "sets" "I" R_B ∈ nw := List.mem_filter.mpr ⟨List.mem_of_getElem? (i := 40) (by decide +kernel), by decide +kernel⟩
set_option maxRecDepth 100000 in
theorem lk_B_31 : Cond.methodLink R_B 31 y_S_open ∈ gw := List.mem_filter.mpr ⟨List.mem_of_getElem? (i := 49) (by decide +kernel), by decide +kernel⟩
set_option maxRecDepth 100000 in
theorem lk_B_14 : Cond.fieldLink R_B 14 "RunBitmaps" "columns" "LRunBitmaps$Shelf;" ∈ gw := List.mem_filter.mpr ⟨List.mem_of_getElem? (i := 53) (by decide +kernel), by decide +kernel⟩
set_option maxRecDepth 100000 in
theorem lk_B_18 : Cond.fieldLink R_B 18 "RunBitmaps" "draft" "LRunBitmaps$Shelf;" ∈ gw := List.mem_filter.mpr ⟨List.mem_of_getElem? (i := 54) (by decide +kernel), by decide +kernel⟩
set_option maxRecDepth 100000 in
theorem lk_B_21 : Cond.fieldLink R_B 21 "RunBitmaps" "stack" "LRunBitmaps$Shelf;" ∈ gw := List.mem_filter.mpr ⟨List.mem_of_getElem? (i := 55) (by decide +kernel), by decide +kernel⟩
set_option maxRecDepth 100000 in
theorem lk_B_24 : Cond.fieldLink R_B 24 "RunBitmaps" "result" "LRunBitmaps$Shelf;" ∈ gw := List.mem_filter.mpr ⟨List.mem_of_getElem? (i := 56) (by decide +kernel), by decide +kernel⟩
set_option maxRecDepth 100000 in
theorem lk_B_27 : Cond.fieldLink R_B 27 "RunBitmaps" "rowCount" "I" ∈ gw := List.mem_filter.mpr ⟨List.mem_of_getElem? (i := 57) (by decide +kernel), by decide +kernel⟩
set_option maxRecDepth 100000 in
theorem lk_L_13 : Cond.methodLink R_L 13 y_B_append ∈ gw := List.mem_filter.mpr ⟨List.mem_of_getElem? (i := 69) (by decide +kernel), by decide +kernel⟩
set_option maxRecDepth 100000 in
theorem lk_B_34 : Cond.methodLink R_B 34 y_B_isValue ∈ gw := List.mem_filter.mpr ⟨List.mem_of_getElem? (i := 73) (by decide +kernel), by decide +kernel⟩
set_option maxRecDepth 100000 in
theorem lk_B_38 : Cond.constant R_B 38 1000000 ∈ gw := List.mem_filter.mpr ⟨List.mem_of_getElem? (i := 76) (by decide +kernel), by decide +kernel⟩
set_option maxRecDepth 100000 in
theorem lk_B_42 : Cond.methodLink R_B 42 y_S_clear ∈ gw := List.mem_filter.mpr ⟨List.mem_of_getElem? (i := 77) (by decide +kernel), by decide +kernel⟩
set_option maxRecDepth 100000 in
theorem lk_B_45 : Cond.methodLink R_B 45 y_B_draftColumn ∈ gw := List.mem_filter.mpr ⟨List.mem_of_getElem? (i := 81) (by decide +kernel), by decide +kernel⟩
set_option maxRecDepth 100000 in
theorem lk_B_90 : Cond.methodLink R_B 90 y_S_addSet ∈ gw := List.mem_filter.mpr ⟨List.mem_of_getElem? (i := 85) (by decide +kernel), by decide +kernel⟩
set_option maxRecDepth 100000 in
theorem lk_S_35 : Cond.methodLink R_S 35 y_S_size ∈ gw := List.mem_filter.mpr ⟨List.mem_of_getElem? (i := 89) (by decide +kernel), by decide +kernel⟩
set_option maxRecDepth 100000 in
theorem lk_S_31 : Cond.methodLink R_S 31 y_S_startOf ∈ gw := List.mem_filter.mpr ⟨List.mem_of_getElem? (i := 93) (by decide +kernel), by decide +kernel⟩
set_option maxRecDepth 100000 in
theorem lk_S_22 : Cond.methodLink R_S 22 Lib.Math.min.name ∈ gw := List.mem_filter.mpr ⟨List.mem_of_getElem? (i := 97) (by decide +kernel), by decide +kernel⟩
set_option maxRecDepth 100000 in
theorem lk_S_28 : Cond.methodLink R_S 28 Lib.Math.max.name ∈ gw := List.mem_filter.mpr ⟨List.mem_of_getElem? (i := 100) (by decide +kernel), by decide +kernel⟩
set_option maxRecDepth 100000 in
theorem lk_S_59 : Cond.methodLink R_S 59 y_S_used ∈ gw := List.mem_filter.mpr ⟨List.mem_of_getElem? (i := 103) (by decide +kernel), by decide +kernel⟩
set_option maxRecDepth 100000 in
theorem lk_S_63 : Cond.methodLink R_S 63 arraycopyName ∈ gw := List.mem_filter.mpr ⟨List.mem_of_getElem? (i := 107) (by decide +kernel), by decide +kernel⟩
set_option maxRecDepth 100000 in
theorem lk_B_94 : Cond.methodLink R_B 94 y_S_addRows ∈ gw := List.mem_filter.mpr ⟨List.mem_of_getElem? (i := 110) (by decide +kernel), by decide +kernel⟩
set_option maxRecDepth 100000 in
theorem lk_S_52 : Cond.constant R_S 52 2147483647 ∈ gw := List.mem_filter.mpr ⟨List.mem_of_getElem? (i := 114) (by decide +kernel), by decide +kernel⟩
set_option maxRecDepth 100000 in
theorem lk_S_69 : Cond.methodLink R_S 69 y_S_takeGroup ∈ gw := List.mem_filter.mpr ⟨List.mem_of_getElem? (i := 115) (by decide +kernel), by decide +kernel⟩
set_option maxRecDepth 100000 in
theorem lk_S_87 : Cond.methodLink R_S 87 y_S_lastWord ∈ gw := List.mem_filter.mpr ⟨List.mem_of_getElem? (i := 119) (by decide +kernel), by decide +kernel⟩
set_option maxRecDepth 100000 in
theorem lk_S_46 : Cond.methodLinkNest R_S 46 y_B_groupsOf R_B ∈ nw := List.mem_filter.mpr ⟨List.mem_of_getElem? (i := 123) (by decide +kernel), by decide +kernel⟩
set_option maxRecDepth 100000 in
theorem lk_S_38 : Cond.methodLinkNest R_S 38 y_B_bitsOf R_B ∈ nw := List.mem_filter.mpr ⟨List.mem_of_getElem? (i := 126) (by decide +kernel), by decide +kernel⟩
set_option maxRecDepth 100000 in
theorem lk_B_101 : Cond.constant R_B 101 2147483647 ∈ gw := List.mem_filter.mpr ⟨List.mem_of_getElem? (i := 129) (by decide +kernel), by decide +kernel⟩
set_option maxRecDepth 100000 in
theorem lk_S_90 : Cond.methodLinkNest R_S 90 y_B_fillOf R_B ∈ nw := List.mem_filter.mpr ⟨List.mem_of_getElem? (i := 130) (by decide +kernel), by decide +kernel⟩
set_option maxRecDepth 100000 in
theorem lk_S_53 : Cond.methodLinkNest R_S 53 y_B_firstBits R_B ∈ nw := List.mem_filter.mpr ⟨List.mem_of_getElem? (i := 133) (by decide +kernel), by decide +kernel⟩
set_option maxRecDepth 100000 in
theorem lk_S_72 : Cond.methodLink R_S 72 y_S_addGroups ∈ gw := List.mem_filter.mpr ⟨List.mem_of_getElem? (i := 136) (by decide +kernel), by decide +kernel⟩
set_option maxRecDepth 100000 in
theorem lk_S_83 : Cond.methodLink R_S 83 y_S_addWord ∈ gw := List.mem_filter.mpr ⟨List.mem_of_getElem? (i := 140) (by decide +kernel), by decide +kernel⟩
set_option maxRecDepth 100000 in
theorem lk_B_49 : Cond.methodLink R_B 49 y_S_used ∈ gw := List.mem_filter.mpr ⟨List.mem_of_getElem? (i := 144) (by decide +kernel), by decide +kernel⟩
set_option maxRecDepth 100000 in
theorem lk_L_18 : Cond.methodLink R_L 18 y_B_push ∈ gw := List.mem_filter.mpr ⟨List.mem_of_getElem? (i := 145) (by decide +kernel), by decide +kernel⟩
set_option maxRecDepth 100000 in
theorem lk_B_53 : Cond.methodLink R_B 53 y_B_stackUp ∈ gw := List.mem_filter.mpr ⟨List.mem_of_getElem? (i := 149) (by decide +kernel), by decide +kernel⟩
set_option maxRecDepth 100000 in
theorem lk_B_81 : Cond.methodLink R_B 81 y_S_size ∈ gw := List.mem_filter.mpr ⟨List.mem_of_getElem? (i := 153) (by decide +kernel), by decide +kernel⟩
set_option maxRecDepth 100000 in
theorem lk_L_23 : Cond.methodLink R_L 23 y_B_copy ∈ gw := List.mem_filter.mpr ⟨List.mem_of_getElem? (i := 154) (by decide +kernel), by decide +kernel⟩
set_option maxRecDepth 100000 in
theorem lk_L_28 : Cond.methodLink R_L 28 y_B_join ∈ gw := List.mem_filter.mpr ⟨List.mem_of_getElem? (i := 158) (by decide +kernel), by decide +kernel⟩
set_option maxRecDepth 100000 in
theorem lk_B_57 : Cond.methodLink R_B 57 y_S_addJoined ∈ gw := List.mem_filter.mpr ⟨List.mem_of_getElem? (i := 162) (by decide +kernel), by decide +kernel⟩
set_option maxRecDepth 100000 in
theorem lk_S_76 : Cond.methodLink R_S 76 y_S_groupsAt ∈ gw := List.mem_filter.mpr ⟨List.mem_of_getElem? (i := 166) (by decide +kernel), by decide +kernel⟩
set_option maxRecDepth 100000 in
theorem lk_S_79 : Cond.methodLinkNest R_S 79 y_B_joinedBits R_B ∈ nw := List.mem_filter.mpr ⟨List.mem_of_getElem? (i := 170) (by decide +kernel), by decide +kernel⟩
set_option maxRecDepth 100000 in
theorem lk_B_61 : Cond.methodLink R_B 61 y_B_replaceTop ∈ gw := List.mem_filter.mpr ⟨List.mem_of_getElem? (i := 173) (by decide +kernel), by decide +kernel⟩
set_option maxRecDepth 100000 in
theorem lk_B_98 : Cond.methodLink R_B 98 y_S_startOf ∈ gw := List.mem_filter.mpr ⟨List.mem_of_getElem? (i := 177) (by decide +kernel), by decide +kernel⟩
set_option maxRecDepth 100000 in
theorem lk_B_87 : Cond.methodLink R_B 87 y_S_drop ∈ gw := List.mem_filter.mpr ⟨List.mem_of_getElem? (i := 178) (by decide +kernel), by decide +kernel⟩
set_option maxRecDepth 100000 in
theorem lk_L_33 : Cond.methodLink R_L 33 y_B_not ∈ gw := List.mem_filter.mpr ⟨List.mem_of_getElem? (i := 182) (by decide +kernel), by decide +kernel⟩
set_option maxRecDepth 100000 in
theorem lk_B_65 : Cond.methodLink R_B 65 y_S_addOthers ∈ gw := List.mem_filter.mpr ⟨List.mem_of_getElem? (i := 186) (by decide +kernel), by decide +kernel⟩
set_option maxRecDepth 100000 in
theorem lk_L_37 : Cond.methodLink R_L 37 y_B_count ∈ gw := List.mem_filter.mpr ⟨List.mem_of_getElem? (i := 190) (by decide +kernel), by decide +kernel⟩
set_option maxRecDepth 100000 in
theorem lk_B_69 : Cond.methodLink R_B 69 y_S_rowsOf ∈ gw := List.mem_filter.mpr ⟨List.mem_of_getElem? (i := 194) (by decide +kernel), by decide +kernel⟩
set_option maxRecDepth 100000 in
theorem lk_S_41 : Cond.methodLink R_S 41 y_I_bitCount ∈ gw := List.mem_filter.mpr ⟨List.mem_of_getElem? (i := 198) (by decide +kernel), by decide +kernel⟩
set_option maxRecDepth 100000 in
theorem lk_I_265 : Cond.constant R_I 265 1431655765 ∈ gw := List.mem_filter.mpr ⟨List.mem_of_getElem? (i := 201) (by decide +kernel), by decide +kernel⟩
set_option maxRecDepth 100000 in
theorem lk_I_266 : Cond.constant R_I 266 858993459 ∈ gw := List.mem_filter.mpr ⟨List.mem_of_getElem? (i := 202) (by decide +kernel), by decide +kernel⟩
set_option maxRecDepth 100000 in
theorem lk_I_267 : Cond.constant R_I 267 252645135 ∈ gw := List.mem_filter.mpr ⟨List.mem_of_getElem? (i := 203) (by decide +kernel), by decide +kernel⟩
set_option maxRecDepth 100000 in
theorem lk_L_41 : Cond.methodLink R_L 41 y_B_after ∈ gw := List.mem_filter.mpr ⟨List.mem_of_getElem? (i := 204) (by decide +kernel), by decide +kernel⟩
set_option maxRecDepth 100000 in
theorem lk_B_72 : Cond.methodLink R_B 72 Lib.Math.max.name ∈ gw := List.mem_filter.mpr ⟨List.mem_of_getElem? (i := 208) (by decide +kernel), by decide +kernel⟩
set_option maxRecDepth 100000 in
theorem lk_B_78 : Cond.methodLink R_B 78 y_S_firstFrom ∈ gw := List.mem_filter.mpr ⟨List.mem_of_getElem? (i := 209) (by decide +kernel), by decide +kernel⟩
set_option maxRecDepth 100000 in
theorem lk_S_49 : Cond.methodLink R_S 49 y_S_firstInWord ∈ gw := List.mem_filter.mpr ⟨List.mem_of_getElem? (i := 213) (by decide +kernel), by decide +kernel⟩
set_option maxRecDepth 100000 in
theorem lk_S_56 : Cond.methodLink R_S 56 y_I_numberOfTrailingZeros ∈ gw := List.mem_filter.mpr ⟨List.mem_of_getElem? (i := 216) (by decide +kernel), by decide +kernel⟩
set_option maxRecDepth 100000 in
theorem lk_I_264 : Cond.constant R_I 264 65536 ∈ gw := List.mem_filter.mpr ⟨List.mem_of_getElem? (i := 219) (by decide +kernel), by decide +kernel⟩
set_option maxRecDepth 100000 in
theorem lk_L_45 : Cond.methodLink R_L 45 y_B_words ∈ gw := List.mem_filter.mpr ⟨List.mem_of_getElem? (i := 220) (by decide +kernel), by decide +kernel⟩
set_option maxRecDepth 100000 in
theorem lk_L_49 : Cond.methodLink R_L 49 y_B_word ∈ gw := List.mem_filter.mpr ⟨List.mem_of_getElem? (i := 224) (by decide +kernel), by decide +kernel⟩
set_option maxRecDepth 100000 in
theorem lk_B_84 : Cond.methodLink R_B 84 y_S_wordOf ∈ gw := List.mem_filter.mpr ⟨List.mem_of_getElem? (i := 228) (by decide +kernel), by decide +kernel⟩
set_option maxRecDepth 100000 in
theorem lk_L_53 : Cond.methodLink R_L 53 y_B_pop ∈ gw := List.mem_filter.mpr ⟨List.mem_of_getElem? (i := 232) (by decide +kernel), by decide +kernel⟩
set_option maxRecDepth 100000 in
theorem lk_L_57 : Cond.methodLink R_L 57 y_B_room ∈ gw := List.mem_filter.mpr ⟨List.mem_of_getElem? (i := 236) (by decide +kernel), by decide +kernel⟩
set_option maxRecDepth 100000 in
theorem lk_L_61 : Cond.methodLink R_L 61 y_B_stackRoom ∈ gw := List.mem_filter.mpr ⟨List.mem_of_getElem? (i := 240) (by decide +kernel), by decide +kernel⟩
set_option maxRecDepth 100000 in
theorem lk_L_65 : Cond.methodLink R_L 65 y_B_rows ∈ gw := List.mem_filter.mpr ⟨List.mem_of_getElem? (i := 244) (by decide +kernel), by decide +kernel⟩
set_option maxRecDepth 100000 in
theorem lk_L_10 : Cond.classLink R_L 10 R_M ∈ gw := List.mem_filter.mpr ⟨List.mem_of_getElem? (i := 248) (by decide +kernel), by decide +kernel⟩
set_option maxRecDepth 100000 in
theorem lk_L_12 : Cond.methodLink R_L 12 y_M_init ∈ gw := List.mem_filter.mpr ⟨List.mem_of_getElem? (i := 250) (by decide +kernel), by decide +kernel⟩
set_option maxRecDepth 100000 in
theorem lk_M_1 : Cond.methodLink R_M 1 Lib.objectInit ∈ gw := List.mem_filter.mpr ⟨List.mem_of_getElem? (i := 253) (by decide +kernel), by decide +kernel⟩
set_option maxRecDepth 100000 in
theorem lk_M_7 : Cond.constant R_M 7 33000 ∈ gw := List.mem_filter.mpr ⟨List.mem_of_getElem? (i := 254) (by decide +kernel), by decide +kernel⟩
set_option maxRecDepth 100000 in
theorem lk_M_14 : Cond.constant R_M 14 66000 ∈ gw := List.mem_filter.mpr ⟨List.mem_of_getElem? (i := 255) (by decide +kernel), by decide +kernel⟩
set_option maxRecDepth 100000 in
theorem lk_M_18 : Cond.constant R_M 18 200000 ∈ gw := List.mem_filter.mpr ⟨List.mem_of_getElem? (i := 256) (by decide +kernel), by decide +kernel⟩
set_option maxRecDepth 100000 in
theorem lk_M_8 : Cond.fieldLink R_M 8 "RunBitmapsModel" "ends" "[I" ∈ gw := List.mem_filter.mpr ⟨List.mem_of_getElem? (i := 257) (by decide +kernel), by decide +kernel⟩
set_option maxRecDepth 100000 in
theorem lk_M_15 : Cond.fieldLink R_M 15 "RunBitmapsModel" "values" "[I" ∈ gw := List.mem_filter.mpr ⟨List.mem_of_getElem? (i := 258) (by decide +kernel), by decide +kernel⟩
set_option maxRecDepth 100000 in
theorem lk_M_25 : Cond.fieldLink R_M 25 "RunBitmapsModel" "runs" "I" ∈ gw := List.mem_filter.mpr ⟨List.mem_of_getElem? (i := 259) (by decide +kernel), by decide +kernel⟩
set_option maxRecDepth 100000 in
theorem lk_M_19 : Cond.fieldLink R_M 19 "RunBitmapsModel" "lines" "[I" ∈ gw := List.mem_filter.mpr ⟨List.mem_of_getElem? (i := 260) (by decide +kernel), by decide +kernel⟩
set_option maxRecDepth 100000 in
theorem lk_M_22 : Cond.fieldLink R_M 22 "RunBitmapsModel" "begins" "[I" ∈ gw := List.mem_filter.mpr ⟨List.mem_of_getElem? (i := 261) (by decide +kernel), by decide +kernel⟩
set_option maxRecDepth 100000 in
theorem lk_M_54 : Cond.fieldLink R_M 54 "RunBitmapsModel" "sets" "I" ∈ gw := List.mem_filter.mpr ⟨List.mem_of_getElem? (i := 262) (by decide +kernel), by decide +kernel⟩
set_option maxRecDepth 100000 in
theorem lk_M_38 : Cond.fieldLink R_M 38 "RunBitmapsModel" "place" "I" ∈ gw := List.mem_filter.mpr ⟨List.mem_of_getElem? (i := 263) (by decide +kernel), by decide +kernel⟩
set_option maxRecDepth 100000 in
theorem lk_M_29 : Cond.fieldLink R_M 29 "RunBitmapsModel" "wordsSeen" "I" ∈ gw := List.mem_filter.mpr ⟨List.mem_of_getElem? (i := 264) (by decide +kernel), by decide +kernel⟩
set_option maxRecDepth 100000 in
theorem lk_M_32 : Cond.fieldLink R_M 32 "RunBitmapsModel" "wordWanted" "I" ∈ gw := List.mem_filter.mpr ⟨List.mem_of_getElem? (i := 265) (by decide +kernel), by decide +kernel⟩
set_option maxRecDepth 100000 in
theorem lk_M_35 : Cond.fieldLink R_M 35 "RunBitmapsModel" "wordFound" "I" ∈ gw := List.mem_filter.mpr ⟨List.mem_of_getElem? (i := 266) (by decide +kernel), by decide +kernel⟩
set_option maxRecDepth 100000 in
theorem lk_L_68 : Cond.methodLink R_L 68 y_M_rows ∈ gw := List.mem_filter.mpr ⟨List.mem_of_getElem? (i := 288) (by decide +kernel), by decide +kernel⟩
set_option maxRecDepth 100000 in
theorem lk_L_60 : Cond.methodLink R_L 60 y_M_room ∈ gw := List.mem_filter.mpr ⟨List.mem_of_getElem? (i := 292) (by decide +kernel), by decide +kernel⟩
set_option maxRecDepth 100000 in
theorem lk_M_57 : Cond.methodLink R_M 57 y_M_layValue ∈ gw := List.mem_filter.mpr ⟨List.mem_of_getElem? (i := 296) (by decide +kernel), by decide +kernel⟩
set_option maxRecDepth 100000 in
theorem lk_M_61 : Cond.methodLink R_M 61 y_M_goAlong ∈ gw := List.mem_filter.mpr ⟨List.mem_of_getElem? (i := 300) (by decide +kernel), by decide +kernel⟩
set_option maxRecDepth 100000 in
theorem lk_M_41 : Cond.methodLink R_M 41 y_M_rows ∈ gw := List.mem_filter.mpr ⟨List.mem_of_getElem? (i := 304) (by decide +kernel), by decide +kernel⟩
set_option maxRecDepth 100000 in
theorem lk_M_45 : Cond.constant R_M 45 2147483647 ∈ gw := List.mem_filter.mpr ⟨List.mem_of_getElem? (i := 305) (by decide +kernel), by decide +kernel⟩
set_option maxRecDepth 100000 in
theorem lk_M_46 : Cond.methodLink R_M 46 y_M_see ∈ gw := List.mem_filter.mpr ⟨List.mem_of_getElem? (i := 306) (by decide +kernel), by decide +kernel⟩
set_option maxRecDepth 100000 in
theorem lk_M_50 : Cond.methodLink R_M 50 y_M_literal ∈ gw := List.mem_filter.mpr ⟨List.mem_of_getElem? (i := 310) (by decide +kernel), by decide +kernel⟩
set_option maxRecDepth 100000 in
theorem lk_L_17 : Cond.methodLink R_L 17 y_M_append ∈ gw := List.mem_filter.mpr ⟨List.mem_of_getElem? (i := 314) (by decide +kernel), by decide +kernel⟩
set_option maxRecDepth 100000 in
theorem lk_M_64 : Cond.constant R_M 64 1000000 ∈ gw := List.mem_filter.mpr ⟨List.mem_of_getElem? (i := 318) (by decide +kernel), by decide +kernel⟩
set_option maxRecDepth 100000 in
theorem lk_M_65 : Cond.methodLink R_M 65 y_M_room ∈ gw := List.mem_filter.mpr ⟨List.mem_of_getElem? (i := 319) (by decide +kernel), by decide +kernel⟩
set_option maxRecDepth 100000 in
theorem lk_L_64 : Cond.methodLink R_L 64 y_M_stackRoom ∈ gw := List.mem_filter.mpr ⟨List.mem_of_getElem? (i := 320) (by decide +kernel), by decide +kernel⟩
set_option maxRecDepth 100000 in
theorem lk_M_68 : Cond.methodLink R_M 68 y_M_wordsOf ∈ gw := List.mem_filter.mpr ⟨List.mem_of_getElem? (i := 324) (by decide +kernel), by decide +kernel⟩
set_option maxRecDepth 100000 in
theorem lk_L_22 : Cond.methodLink R_L 22 y_M_push ∈ gw := List.mem_filter.mpr ⟨List.mem_of_getElem? (i := 328) (by decide +kernel), by decide +kernel⟩
set_option maxRecDepth 100000 in
theorem lk_M_75 : Cond.methodLink R_M 75 y_M_comes ∈ gw := List.mem_filter.mpr ⟨List.mem_of_getElem? (i := 332) (by decide +kernel), by decide +kernel⟩
set_option maxRecDepth 100000 in
theorem lk_M_72 : Cond.methodLink R_M 72 y_M_stackRoom ∈ gw := List.mem_filter.mpr ⟨List.mem_of_getElem? (i := 336) (by decide +kernel), by decide +kernel⟩
set_option maxRecDepth 100000 in
theorem lk_L_27 : Cond.methodLink R_L 27 y_M_copy ∈ gw := List.mem_filter.mpr ⟨List.mem_of_getElem? (i := 337) (by decide +kernel), by decide +kernel⟩
set_option maxRecDepth 100000 in
theorem lk_L_32 : Cond.methodLink R_L 32 y_M_join ∈ gw := List.mem_filter.mpr ⟨List.mem_of_getElem? (i := 341) (by decide +kernel), by decide +kernel⟩
set_option maxRecDepth 100000 in
theorem lk_M_83 : Cond.methodLink R_M 83 y_M_layJoined ∈ gw := List.mem_filter.mpr ⟨List.mem_of_getElem? (i := 345) (by decide +kernel), by decide +kernel⟩
set_option maxRecDepth 100000 in
theorem lk_M_79 : Cond.methodLink R_M 79 y_M_is ∈ gw := List.mem_filter.mpr ⟨List.mem_of_getElem? (i := 349) (by decide +kernel), by decide +kernel⟩
set_option maxRecDepth 100000 in
theorem lk_M_87 : Cond.methodLink R_M 87 y_M_become ∈ gw := List.mem_filter.mpr ⟨List.mem_of_getElem? (i := 352) (by decide +kernel), by decide +kernel⟩
set_option maxRecDepth 100000 in
theorem lk_L_36 : Cond.methodLink R_L 36 y_M_not ∈ gw := List.mem_filter.mpr ⟨List.mem_of_getElem? (i := 356) (by decide +kernel), by decide +kernel⟩
set_option maxRecDepth 100000 in
theorem lk_L_40 : Cond.methodLink R_L 40 y_M_count ∈ gw := List.mem_filter.mpr ⟨List.mem_of_getElem? (i := 360) (by decide +kernel), by decide +kernel⟩
set_option maxRecDepth 100000 in
theorem lk_L_44 : Cond.methodLink R_L 44 y_M_after ∈ gw := List.mem_filter.mpr ⟨List.mem_of_getElem? (i := 364) (by decide +kernel), by decide +kernel⟩
set_option maxRecDepth 100000 in
theorem lk_L_48 : Cond.methodLink R_L 48 y_M_words ∈ gw := List.mem_filter.mpr ⟨List.mem_of_getElem? (i := 368) (by decide +kernel), by decide +kernel⟩
set_option maxRecDepth 100000 in
theorem lk_L_52 : Cond.methodLink R_L 52 y_M_word ∈ gw := List.mem_filter.mpr ⟨List.mem_of_getElem? (i := 372) (by decide +kernel), by decide +kernel⟩
set_option maxRecDepth 100000 in
theorem lk_L_56 : Cond.methodLink R_L 56 y_M_pop ∈ gw := List.mem_filter.mpr ⟨List.mem_of_getElem? (i := 376) (by decide +kernel), by decide +kernel⟩
set_option maxRecDepth 100000 in
theorem ini_L : Cond.initialized "RunBitmapsLaw" ∈ gw := List.mem_filter.mpr ⟨List.mem_of_getElem? (i := 16) (by decide +kernel), by decide +kernel⟩
set_option maxRecDepth 100000 in
theorem ini_B : Cond.initialized "RunBitmaps" ∈ gw := List.mem_filter.mpr ⟨List.mem_of_getElem? (i := 17) (by decide +kernel), by decide +kernel⟩
set_option maxRecDepth 100000 in
theorem ini_S : Cond.initialized "RunBitmaps$Shelf" ∈ gw := List.mem_filter.mpr ⟨List.mem_of_getElem? (i := 18) (by decide +kernel), by decide +kernel⟩
set_option maxRecDepth 100000 in
theorem ini_M : Cond.initialized "RunBitmapsModel" ∈ gw := List.mem_filter.mpr ⟨List.mem_of_getElem? (i := 19) (by decide +kernel), by decide +kernel⟩
set_option maxRecDepth 100000 in
theorem ini_Ma : Cond.initialized "java/lang/Math" ∈ gw := List.mem_filter.mpr ⟨List.mem_of_getElem? (i := 20) (by decide +kernel), by decide +kernel⟩
set_option maxRecDepth 100000 in
theorem ini_Sy : Cond.initialized "java/lang/System" ∈ gw := List.mem_filter.mpr ⟨List.mem_of_getElem? (i := 21) (by decide +kernel), by decide +kernel⟩
set_option maxRecDepth 100000 in
theorem ini_I : Cond.initialized "java/lang/Integer" ∈ gw := List.mem_filter.mpr ⟨List.mem_of_getElem? (i := 22) (by decide +kernel), by decide +kernel⟩
set_option maxRecDepth 100000 in
theorem ist_B : Cond.instantiable R_B 5 ∈ gw := List.mem_filter.mpr ⟨List.mem_of_getElem? (i := 24) (by decide +kernel), by decide +kernel⟩
set_option maxRecDepth 100000 in
theorem ist_S : Cond.instantiable R_S 3 ∈ gw := List.mem_filter.mpr ⟨List.mem_of_getElem? (i := 32) (by decide +kernel), by decide +kernel⟩
set_option maxRecDepth 100000 in
theorem arr_int : Cond.arrayClass .int ∈ gw := List.mem_filter.mpr ⟨List.mem_of_getElem? (i := 48) (by decide +kernel), by decide +kernel⟩
set_option maxRecDepth 100000 in
theorem ist_M : Cond.instantiable R_M 10 ∈ gw := List.mem_filter.mpr ⟨List.mem_of_getElem? (i := 249) (by decide +kernel), by decide +kernel⟩
set_option maxRecDepth 100000 in
theorem oi_inst : Cond.instanceMethod Lib.objectInit ∈ gw := List.mem_filter.mpr ⟨List.mem_of_getElem? (i := 29) (by decide +kernel), by decide +kernel⟩
set_option maxRecDepth 100000 in
theorem oi_code : Cond.code Lib.objectInit ⟨#[0xb1]⟩ 1 none ∈ gw := List.mem_filter.mpr ⟨List.mem_of_getElem? (i := 30) (by decide +kernel), by decide +kernel⟩
set_option maxRecDepth 100000 in
theorem ma_max_st : Cond.static Lib.Math.max.name ∈ gw := List.mem_filter.mpr ⟨List.mem_of_getElem? (i := 101) (by decide +kernel), by decide +kernel⟩
set_option maxRecDepth 100000 in
theorem ma_max_cd : Cond.code Lib.Math.max.name Lib.Math.max.code 2 (some .int) ∈ gw := List.mem_filter.mpr ⟨List.mem_of_getElem? (i := 102) (by decide +kernel), by decide +kernel⟩
set_option maxRecDepth 100000 in
theorem ma_min_st : Cond.static Lib.Math.min.name ∈ gw := List.mem_filter.mpr ⟨List.mem_of_getElem? (i := 98) (by decide +kernel), by decide +kernel⟩
set_option maxRecDepth 100000 in
theorem ma_min_cd : Cond.code Lib.Math.min.name Lib.Math.min.code 2 (some .int) ∈ gw := List.mem_filter.mpr ⟨List.mem_of_getElem? (i := 99) (by decide +kernel), by decide +kernel⟩
set_option maxRecDepth 100000 in
theorem ac_nat : Cond.native arraycopyName ∈ gw := List.mem_filter.mpr ⟨List.mem_of_getElem? (i := 109) (by decide +kernel), by decide +kernel⟩
set_option maxRecDepth 100000 in
theorem ac_st : Cond.static arraycopyName ∈ gw := List.mem_filter.mpr ⟨List.mem_of_getElem? (i := 108) (by decide +kernel), by decide +kernel⟩
set_option maxRecDepth 100000 in
theorem cd_B_init : Cond.code y_B_init b_B_init 2 none ∈ gw ∧ Cond.initialized y_B_init.cls ∈ gw ∧ Cond.instanceMethod y_B_init ∈ gw ∧ y_B_init.name = "<init>" := ⟨List.mem_filter.mpr ⟨List.mem_of_getElem? (i := 27) (by decide +kernel), by decide +kernel⟩, ini_B, List.mem_filter.mpr ⟨List.mem_of_getElem? (i := 26) (by decide +kernel), by decide +kernel⟩, rfl⟩
set_option maxRecDepth 100000 in
theorem dd_B_init : (y_B_init.cls ≠ "java/lang/invoke/MethodHandle" ∧ y_B_init.cls ≠ "java/lang/invoke/VarHandle") ∧ (parseMethodDescriptor y_B_init.desc).map (fun d => d.parameters.length) = some 0 := by decide +kernel
set_option maxRecDepth 100000 in
theorem cd_S_init : Cond.code y_S_init b_S_init 3 none ∈ gw ∧ Cond.initialized y_S_init.cls ∈ gw ∧ Cond.instanceMethod y_S_init ∈ gw ∧ y_S_init.name = "<init>" := ⟨List.mem_filter.mpr ⟨List.mem_of_getElem? (i := 35) (by decide +kernel), by decide +kernel⟩, ini_S, List.mem_filter.mpr ⟨List.mem_of_getElem? (i := 34) (by decide +kernel), by decide +kernel⟩, rfl⟩
set_option maxRecDepth 100000 in
theorem dd_S_init : (y_S_init.cls ≠ "java/lang/invoke/MethodHandle" ∧ y_S_init.cls ≠ "java/lang/invoke/VarHandle") ∧ (parseMethodDescriptor y_S_init.desc).map (fun d => d.parameters.length) = some 2 := by decide +kernel
set_option maxRecDepth 100000 in
theorem cd_S_open : Cond.code y_S_open b_S_open 1 none ∈ gw ∧ Cond.initialized y_S_open.cls ∈ gw ∧ Cond.instanceMethod y_S_open ∈ gw ∧ Cond.selects y_S_open.cls y_S_open y_S_open ∈ gw := ⟨List.mem_filter.mpr ⟨List.mem_of_getElem? (i := 52) (by decide +kernel), by decide +kernel⟩, ini_S, List.mem_filter.mpr ⟨List.mem_of_getElem? (i := 50) (by decide +kernel), by decide +kernel⟩, List.mem_filter.mpr ⟨List.mem_of_getElem? (i := 51) (by decide +kernel), by decide +kernel⟩⟩
set_option maxRecDepth 100000 in
theorem dd_S_open : (y_S_open.cls ≠ "java/lang/invoke/MethodHandle" ∧ y_S_open.cls ≠ "java/lang/invoke/VarHandle") ∧ (parseMethodDescriptor y_S_open.desc).map (fun d => d.parameters.length) = some 0 := by decide +kernel
set_option maxRecDepth 100000 in
theorem cd_B_append : Cond.code y_B_append b_B_append 5 (some .int) ∈ gw ∧ Cond.initialized y_B_append.cls ∈ gw ∧ Cond.instanceMethod y_B_append ∈ gw ∧ Cond.selects y_B_append.cls y_B_append y_B_append ∈ gw := ⟨List.mem_filter.mpr ⟨List.mem_of_getElem? (i := 72) (by decide +kernel), by decide +kernel⟩, ini_B, List.mem_filter.mpr ⟨List.mem_of_getElem? (i := 70) (by decide +kernel), by decide +kernel⟩, List.mem_filter.mpr ⟨List.mem_of_getElem? (i := 71) (by decide +kernel), by decide +kernel⟩⟩
set_option maxRecDepth 100000 in
theorem dd_B_append : (y_B_append.cls ≠ "java/lang/invoke/MethodHandle" ∧ y_B_append.cls ≠ "java/lang/invoke/VarHandle") ∧ (parseMethodDescriptor y_B_append.desc).map (fun d => d.parameters.length) = some 3 := by decide +kernel
set_option maxRecDepth 100000 in
theorem cd_B_isValue : Cond.code y_B_isValue b_B_isValue 1 (some .boolean) ∈ gw ∧ Cond.initialized y_B_isValue.cls ∈ gw ∧ Cond.static y_B_isValue ∈ gw := ⟨List.mem_filter.mpr ⟨List.mem_of_getElem? (i := 75) (by decide +kernel), by decide +kernel⟩, ini_B, List.mem_filter.mpr ⟨List.mem_of_getElem? (i := 74) (by decide +kernel), by decide +kernel⟩⟩
set_option maxRecDepth 100000 in
theorem dd_B_isValue : (y_B_isValue.cls ≠ "java/lang/invoke/MethodHandle" ∧ y_B_isValue.cls ≠ "java/lang/invoke/VarHandle") ∧ (parseMethodDescriptor y_B_isValue.desc).map (fun d => d.parameters.length) = some 1 := by decide +kernel
set_option maxRecDepth 100000 in
theorem cd_S_clear : Cond.code y_S_clear b_S_clear 1 none ∈ gw ∧ Cond.initialized y_S_clear.cls ∈ gw ∧ Cond.instanceMethod y_S_clear ∈ gw ∧ Cond.selects y_S_clear.cls y_S_clear y_S_clear ∈ gw := ⟨List.mem_filter.mpr ⟨List.mem_of_getElem? (i := 80) (by decide +kernel), by decide +kernel⟩, ini_S, List.mem_filter.mpr ⟨List.mem_of_getElem? (i := 78) (by decide +kernel), by decide +kernel⟩, List.mem_filter.mpr ⟨List.mem_of_getElem? (i := 79) (by decide +kernel), by decide +kernel⟩⟩
set_option maxRecDepth 100000 in
theorem dd_S_clear : (y_S_clear.cls ≠ "java/lang/invoke/MethodHandle" ∧ y_S_clear.cls ≠ "java/lang/invoke/VarHandle") ∧ (parseMethodDescriptor y_S_clear.desc).map (fun d => d.parameters.length) = some 0 := by decide +kernel
set_option maxRecDepth 100000 in
theorem cd_B_draftColumn : Cond.code y_B_draftColumn b_B_draftColumn 5 none ∈ gw ∧ Cond.initialized y_B_draftColumn.cls ∈ gw ∧ Cond.instanceMethod y_B_draftColumn ∈ gw ∧ Cond.selects y_B_draftColumn.cls y_B_draftColumn y_B_draftColumn ∈ gw := ⟨List.mem_filter.mpr ⟨List.mem_of_getElem? (i := 84) (by decide +kernel), by decide +kernel⟩, ini_B, List.mem_filter.mpr ⟨List.mem_of_getElem? (i := 83) (by decide +kernel), by decide +kernel⟩, List.mem_filter.mpr ⟨List.mem_of_getElem? (i := 0) (by decide +kernel), by decide +kernel⟩⟩
set_option maxRecDepth 100000 in
theorem dd_B_draftColumn : (y_B_draftColumn.cls ≠ "java/lang/invoke/MethodHandle" ∧ y_B_draftColumn.cls ≠ "java/lang/invoke/VarHandle") ∧ (parseMethodDescriptor y_B_draftColumn.desc).map (fun d => d.parameters.length) = some 3 := by decide +kernel
set_option maxRecDepth 100000 in
theorem cd_S_addSet : Cond.code y_S_addSet b_S_addSet 4 none ∈ gw ∧ Cond.initialized y_S_addSet.cls ∈ gw ∧ Cond.instanceMethod y_S_addSet ∈ gw ∧ Cond.selects y_S_addSet.cls y_S_addSet y_S_addSet ∈ gw := ⟨List.mem_filter.mpr ⟨List.mem_of_getElem? (i := 88) (by decide +kernel), by decide +kernel⟩, ini_S, List.mem_filter.mpr ⟨List.mem_of_getElem? (i := 86) (by decide +kernel), by decide +kernel⟩, List.mem_filter.mpr ⟨List.mem_of_getElem? (i := 87) (by decide +kernel), by decide +kernel⟩⟩
set_option maxRecDepth 100000 in
theorem dd_S_addSet : (y_S_addSet.cls ≠ "java/lang/invoke/MethodHandle" ∧ y_S_addSet.cls ≠ "java/lang/invoke/VarHandle") ∧ (parseMethodDescriptor y_S_addSet.desc).map (fun d => d.parameters.length) = some 2 := by decide +kernel
set_option maxRecDepth 100000 in
theorem cd_S_size : Cond.code y_S_size b_S_size 2 (some .int) ∈ gw ∧ Cond.initialized y_S_size.cls ∈ gw ∧ Cond.instanceMethod y_S_size ∈ gw ∧ Cond.selects y_S_size.cls y_S_size y_S_size ∈ gw := ⟨List.mem_filter.mpr ⟨List.mem_of_getElem? (i := 92) (by decide +kernel), by decide +kernel⟩, ini_S, List.mem_filter.mpr ⟨List.mem_of_getElem? (i := 90) (by decide +kernel), by decide +kernel⟩, List.mem_filter.mpr ⟨List.mem_of_getElem? (i := 91) (by decide +kernel), by decide +kernel⟩⟩
set_option maxRecDepth 100000 in
theorem dd_S_size : (y_S_size.cls ≠ "java/lang/invoke/MethodHandle" ∧ y_S_size.cls ≠ "java/lang/invoke/VarHandle") ∧ (parseMethodDescriptor y_S_size.desc).map (fun d => d.parameters.length) = some 1 := by decide +kernel
set_option maxRecDepth 100000 in
theorem cd_S_startOf : Cond.code y_S_startOf b_S_startOf 2 (some .int) ∈ gw ∧ Cond.initialized y_S_startOf.cls ∈ gw ∧ Cond.instanceMethod y_S_startOf ∈ gw ∧ Cond.selects y_S_startOf.cls y_S_startOf y_S_startOf ∈ gw := ⟨List.mem_filter.mpr ⟨List.mem_of_getElem? (i := 96) (by decide +kernel), by decide +kernel⟩, ini_S, List.mem_filter.mpr ⟨List.mem_of_getElem? (i := 94) (by decide +kernel), by decide +kernel⟩, List.mem_filter.mpr ⟨List.mem_of_getElem? (i := 95) (by decide +kernel), by decide +kernel⟩⟩
set_option maxRecDepth 100000 in
theorem dd_S_startOf : (y_S_startOf.cls ≠ "java/lang/invoke/MethodHandle" ∧ y_S_startOf.cls ≠ "java/lang/invoke/VarHandle") ∧ (parseMethodDescriptor y_S_startOf.desc).map (fun d => d.parameters.length) = some 1 := by decide +kernel
set_option maxRecDepth 100000 in
theorem cd_S_used : Cond.code y_S_used b_S_used 1 (some .int) ∈ gw ∧ Cond.initialized y_S_used.cls ∈ gw ∧ Cond.instanceMethod y_S_used ∈ gw ∧ Cond.selects y_S_used.cls y_S_used y_S_used ∈ gw := ⟨List.mem_filter.mpr ⟨List.mem_of_getElem? (i := 106) (by decide +kernel), by decide +kernel⟩, ini_S, List.mem_filter.mpr ⟨List.mem_of_getElem? (i := 104) (by decide +kernel), by decide +kernel⟩, List.mem_filter.mpr ⟨List.mem_of_getElem? (i := 105) (by decide +kernel), by decide +kernel⟩⟩
set_option maxRecDepth 100000 in
theorem dd_S_used : (y_S_used.cls ≠ "java/lang/invoke/MethodHandle" ∧ y_S_used.cls ≠ "java/lang/invoke/VarHandle") ∧ (parseMethodDescriptor y_S_used.desc).map (fun d => d.parameters.length) = some 0 := by decide +kernel
set_option maxRecDepth 100000 in
theorem cd_S_addRows : Cond.code y_S_addRows b_S_addRows 7 none ∈ gw ∧ Cond.initialized y_S_addRows.cls ∈ gw ∧ Cond.instanceMethod y_S_addRows ∈ gw ∧ Cond.selects y_S_addRows.cls y_S_addRows y_S_addRows ∈ gw := ⟨List.mem_filter.mpr ⟨List.mem_of_getElem? (i := 113) (by decide +kernel), by decide +kernel⟩, ini_S, List.mem_filter.mpr ⟨List.mem_of_getElem? (i := 111) (by decide +kernel), by decide +kernel⟩, List.mem_filter.mpr ⟨List.mem_of_getElem? (i := 112) (by decide +kernel), by decide +kernel⟩⟩
set_option maxRecDepth 100000 in
theorem dd_S_addRows : (y_S_addRows.cls ≠ "java/lang/invoke/MethodHandle" ∧ y_S_addRows.cls ≠ "java/lang/invoke/VarHandle") ∧ (parseMethodDescriptor y_S_addRows.desc).map (fun d => d.parameters.length) = some 3 := by decide +kernel
set_option maxRecDepth 100000 in
theorem cd_S_takeGroup : Cond.code y_S_takeGroup b_S_takeGroup 2 (some .int) ∈ gw ∧ Cond.initialized y_S_takeGroup.cls ∈ gw ∧ Cond.instanceMethod y_S_takeGroup ∈ gw ∧ Cond.selects y_S_takeGroup.cls y_S_takeGroup y_S_takeGroup ∈ gw := ⟨List.mem_filter.mpr ⟨List.mem_of_getElem? (i := 118) (by decide +kernel), by decide +kernel⟩, ini_S, List.mem_filter.mpr ⟨List.mem_of_getElem? (i := 117) (by decide +kernel), by decide +kernel⟩, List.mem_filter.mpr ⟨List.mem_of_getElem? (i := 1) (by decide +kernel), by decide +kernel⟩⟩
set_option maxRecDepth 100000 in
theorem dd_S_takeGroup : (y_S_takeGroup.cls ≠ "java/lang/invoke/MethodHandle" ∧ y_S_takeGroup.cls ≠ "java/lang/invoke/VarHandle") ∧ (parseMethodDescriptor y_S_takeGroup.desc).map (fun d => d.parameters.length) = some 0 := by decide +kernel
set_option maxRecDepth 100000 in
theorem cd_S_lastWord : Cond.code y_S_lastWord b_S_lastWord 1 (some .int) ∈ gw ∧ Cond.initialized y_S_lastWord.cls ∈ gw ∧ Cond.instanceMethod y_S_lastWord ∈ gw ∧ Cond.selects y_S_lastWord.cls y_S_lastWord y_S_lastWord ∈ gw := ⟨List.mem_filter.mpr ⟨List.mem_of_getElem? (i := 122) (by decide +kernel), by decide +kernel⟩, ini_S, List.mem_filter.mpr ⟨List.mem_of_getElem? (i := 121) (by decide +kernel), by decide +kernel⟩, List.mem_filter.mpr ⟨List.mem_of_getElem? (i := 2) (by decide +kernel), by decide +kernel⟩⟩
set_option maxRecDepth 100000 in
theorem dd_S_lastWord : (y_S_lastWord.cls ≠ "java/lang/invoke/MethodHandle" ∧ y_S_lastWord.cls ≠ "java/lang/invoke/VarHandle") ∧ (parseMethodDescriptor y_S_lastWord.desc).map (fun d => d.parameters.length) = some 0 := by decide +kernel
set_option maxRecDepth 100000 in
theorem cd_B_groupsOf : Cond.code y_B_groupsOf b_B_groupsOf 1 (some .int) ∈ gw ∧ Cond.initialized y_B_groupsOf.cls ∈ gw ∧ Cond.static y_B_groupsOf ∈ gw := ⟨List.mem_filter.mpr ⟨List.mem_of_getElem? (i := 125) (by decide +kernel), by decide +kernel⟩, ini_B, List.mem_filter.mpr ⟨List.mem_of_getElem? (i := 124) (by decide +kernel), by decide +kernel⟩⟩
set_option maxRecDepth 100000 in
theorem dd_B_groupsOf : (y_B_groupsOf.cls ≠ "java/lang/invoke/MethodHandle" ∧ y_B_groupsOf.cls ≠ "java/lang/invoke/VarHandle") ∧ (parseMethodDescriptor y_B_groupsOf.desc).map (fun d => d.parameters.length) = some 1 := by decide +kernel
set_option maxRecDepth 100000 in
theorem cd_B_bitsOf : Cond.code y_B_bitsOf b_B_bitsOf 1 (some .int) ∈ gw ∧ Cond.initialized y_B_bitsOf.cls ∈ gw ∧ Cond.static y_B_bitsOf ∈ gw := ⟨List.mem_filter.mpr ⟨List.mem_of_getElem? (i := 128) (by decide +kernel), by decide +kernel⟩, ini_B, List.mem_filter.mpr ⟨List.mem_of_getElem? (i := 127) (by decide +kernel), by decide +kernel⟩⟩
set_option maxRecDepth 100000 in
theorem dd_B_bitsOf : (y_B_bitsOf.cls ≠ "java/lang/invoke/MethodHandle" ∧ y_B_bitsOf.cls ≠ "java/lang/invoke/VarHandle") ∧ (parseMethodDescriptor y_B_bitsOf.desc).map (fun d => d.parameters.length) = some 1 := by decide +kernel
set_option maxRecDepth 100000 in
theorem cd_B_fillOf : Cond.code y_B_fillOf b_B_fillOf 2 (some .int) ∈ gw ∧ Cond.initialized y_B_fillOf.cls ∈ gw ∧ Cond.static y_B_fillOf ∈ gw := ⟨List.mem_filter.mpr ⟨List.mem_of_getElem? (i := 132) (by decide +kernel), by decide +kernel⟩, ini_B, List.mem_filter.mpr ⟨List.mem_of_getElem? (i := 131) (by decide +kernel), by decide +kernel⟩⟩
set_option maxRecDepth 100000 in
theorem dd_B_fillOf : (y_B_fillOf.cls ≠ "java/lang/invoke/MethodHandle" ∧ y_B_fillOf.cls ≠ "java/lang/invoke/VarHandle") ∧ (parseMethodDescriptor y_B_fillOf.desc).map (fun d => d.parameters.length) = some 2 := by decide +kernel
set_option maxRecDepth 100000 in
theorem cd_B_firstBits : Cond.code y_B_firstBits b_B_firstBits 1 (some .int) ∈ gw ∧ Cond.initialized y_B_firstBits.cls ∈ gw ∧ Cond.static y_B_firstBits ∈ gw := ⟨List.mem_filter.mpr ⟨List.mem_of_getElem? (i := 135) (by decide +kernel), by decide +kernel⟩, ini_B, List.mem_filter.mpr ⟨List.mem_of_getElem? (i := 134) (by decide +kernel), by decide +kernel⟩⟩
set_option maxRecDepth 100000 in
theorem dd_B_firstBits : (y_B_firstBits.cls ≠ "java/lang/invoke/MethodHandle" ∧ y_B_firstBits.cls ≠ "java/lang/invoke/VarHandle") ∧ (parseMethodDescriptor y_B_firstBits.desc).map (fun d => d.parameters.length) = some 1 := by decide +kernel
set_option maxRecDepth 100000 in
theorem cd_S_addGroups : Cond.code y_S_addGroups b_S_addGroups 4 none ∈ gw ∧ Cond.initialized y_S_addGroups.cls ∈ gw ∧ Cond.instanceMethod y_S_addGroups ∈ gw ∧ Cond.selects y_S_addGroups.cls y_S_addGroups y_S_addGroups ∈ gw := ⟨List.mem_filter.mpr ⟨List.mem_of_getElem? (i := 139) (by decide +kernel), by decide +kernel⟩, ini_S, List.mem_filter.mpr ⟨List.mem_of_getElem? (i := 138) (by decide +kernel), by decide +kernel⟩, List.mem_filter.mpr ⟨List.mem_of_getElem? (i := 3) (by decide +kernel), by decide +kernel⟩⟩
set_option maxRecDepth 100000 in
theorem dd_S_addGroups : (y_S_addGroups.cls ≠ "java/lang/invoke/MethodHandle" ∧ y_S_addGroups.cls ≠ "java/lang/invoke/VarHandle") ∧ (parseMethodDescriptor y_S_addGroups.desc).map (fun d => d.parameters.length) = some 2 := by decide +kernel
set_option maxRecDepth 100000 in
theorem cd_S_addWord : Cond.code y_S_addWord b_S_addWord 2 none ∈ gw ∧ Cond.initialized y_S_addWord.cls ∈ gw ∧ Cond.instanceMethod y_S_addWord ∈ gw ∧ Cond.selects y_S_addWord.cls y_S_addWord y_S_addWord ∈ gw := ⟨List.mem_filter.mpr ⟨List.mem_of_getElem? (i := 143) (by decide +kernel), by decide +kernel⟩, ini_S, List.mem_filter.mpr ⟨List.mem_of_getElem? (i := 142) (by decide +kernel), by decide +kernel⟩, List.mem_filter.mpr ⟨List.mem_of_getElem? (i := 4) (by decide +kernel), by decide +kernel⟩⟩
set_option maxRecDepth 100000 in
theorem dd_S_addWord : (y_S_addWord.cls ≠ "java/lang/invoke/MethodHandle" ∧ y_S_addWord.cls ≠ "java/lang/invoke/VarHandle") ∧ (parseMethodDescriptor y_S_addWord.desc).map (fun d => d.parameters.length) = some 1 := by decide +kernel
set_option maxRecDepth 100000 in
theorem cd_B_push : Cond.code y_B_push b_B_push 3 (some .int) ∈ gw ∧ Cond.initialized y_B_push.cls ∈ gw ∧ Cond.instanceMethod y_B_push ∈ gw ∧ Cond.selects y_B_push.cls y_B_push y_B_push ∈ gw := ⟨List.mem_filter.mpr ⟨List.mem_of_getElem? (i := 148) (by decide +kernel), by decide +kernel⟩, ini_B, List.mem_filter.mpr ⟨List.mem_of_getElem? (i := 146) (by decide +kernel), by decide +kernel⟩, List.mem_filter.mpr ⟨List.mem_of_getElem? (i := 147) (by decide +kernel), by decide +kernel⟩⟩
set_option maxRecDepth 100000 in
theorem dd_B_push : (y_B_push.cls ≠ "java/lang/invoke/MethodHandle" ∧ y_B_push.cls ≠ "java/lang/invoke/VarHandle") ∧ (parseMethodDescriptor y_B_push.desc).map (fun d => d.parameters.length) = some 2 := by decide +kernel
set_option maxRecDepth 100000 in
theorem cd_B_stackUp : Cond.code y_B_stackUp b_B_stackUp 3 (some .int) ∈ gw ∧ Cond.initialized y_B_stackUp.cls ∈ gw ∧ Cond.instanceMethod y_B_stackUp ∈ gw ∧ Cond.selects y_B_stackUp.cls y_B_stackUp y_B_stackUp ∈ gw := ⟨List.mem_filter.mpr ⟨List.mem_of_getElem? (i := 152) (by decide +kernel), by decide +kernel⟩, ini_B, List.mem_filter.mpr ⟨List.mem_of_getElem? (i := 151) (by decide +kernel), by decide +kernel⟩, List.mem_filter.mpr ⟨List.mem_of_getElem? (i := 5) (by decide +kernel), by decide +kernel⟩⟩
set_option maxRecDepth 100000 in
theorem dd_B_stackUp : (y_B_stackUp.cls ≠ "java/lang/invoke/MethodHandle" ∧ y_B_stackUp.cls ≠ "java/lang/invoke/VarHandle") ∧ (parseMethodDescriptor y_B_stackUp.desc).map (fun d => d.parameters.length) = some 2 := by decide +kernel
set_option maxRecDepth 100000 in
theorem cd_B_copy : Cond.code y_B_copy b_B_copy 1 (some .int) ∈ gw ∧ Cond.initialized y_B_copy.cls ∈ gw ∧ Cond.instanceMethod y_B_copy ∈ gw ∧ Cond.selects y_B_copy.cls y_B_copy y_B_copy ∈ gw := ⟨List.mem_filter.mpr ⟨List.mem_of_getElem? (i := 157) (by decide +kernel), by decide +kernel⟩, ini_B, List.mem_filter.mpr ⟨List.mem_of_getElem? (i := 155) (by decide +kernel), by decide +kernel⟩, List.mem_filter.mpr ⟨List.mem_of_getElem? (i := 156) (by decide +kernel), by decide +kernel⟩⟩
set_option maxRecDepth 100000 in
theorem dd_B_copy : (y_B_copy.cls ≠ "java/lang/invoke/MethodHandle" ∧ y_B_copy.cls ≠ "java/lang/invoke/VarHandle") ∧ (parseMethodDescriptor y_B_copy.desc).map (fun d => d.parameters.length) = some 0 := by decide +kernel
set_option maxRecDepth 100000 in
theorem cd_B_join : Cond.code y_B_join b_B_join 2 (some .int) ∈ gw ∧ Cond.initialized y_B_join.cls ∈ gw ∧ Cond.instanceMethod y_B_join ∈ gw ∧ Cond.selects y_B_join.cls y_B_join y_B_join ∈ gw := ⟨List.mem_filter.mpr ⟨List.mem_of_getElem? (i := 161) (by decide +kernel), by decide +kernel⟩, ini_B, List.mem_filter.mpr ⟨List.mem_of_getElem? (i := 159) (by decide +kernel), by decide +kernel⟩, List.mem_filter.mpr ⟨List.mem_of_getElem? (i := 160) (by decide +kernel), by decide +kernel⟩⟩
set_option maxRecDepth 100000 in
theorem dd_B_join : (y_B_join.cls ≠ "java/lang/invoke/MethodHandle" ∧ y_B_join.cls ≠ "java/lang/invoke/VarHandle") ∧ (parseMethodDescriptor y_B_join.desc).map (fun d => d.parameters.length) = some 1 := by decide +kernel
set_option maxRecDepth 100000 in
theorem cd_S_addJoined : Cond.code y_S_addJoined b_S_addJoined 14 none ∈ gw ∧ Cond.initialized y_S_addJoined.cls ∈ gw ∧ Cond.instanceMethod y_S_addJoined ∈ gw ∧ Cond.selects y_S_addJoined.cls y_S_addJoined y_S_addJoined ∈ gw := ⟨List.mem_filter.mpr ⟨List.mem_of_getElem? (i := 165) (by decide +kernel), by decide +kernel⟩, ini_S, List.mem_filter.mpr ⟨List.mem_of_getElem? (i := 163) (by decide +kernel), by decide +kernel⟩, List.mem_filter.mpr ⟨List.mem_of_getElem? (i := 164) (by decide +kernel), by decide +kernel⟩⟩
set_option maxRecDepth 100000 in
theorem dd_S_addJoined : (y_S_addJoined.cls ≠ "java/lang/invoke/MethodHandle" ∧ y_S_addJoined.cls ≠ "java/lang/invoke/VarHandle") ∧ (parseMethodDescriptor y_S_addJoined.desc).map (fun d => d.parameters.length) = some 4 := by decide +kernel
set_option maxRecDepth 100000 in
theorem cd_S_groupsAt : Cond.code y_S_groupsAt b_S_groupsAt 2 (some .int) ∈ gw ∧ Cond.initialized y_S_groupsAt.cls ∈ gw ∧ Cond.instanceMethod y_S_groupsAt ∈ gw ∧ Cond.selects y_S_groupsAt.cls y_S_groupsAt y_S_groupsAt ∈ gw := ⟨List.mem_filter.mpr ⟨List.mem_of_getElem? (i := 169) (by decide +kernel), by decide +kernel⟩, ini_S, List.mem_filter.mpr ⟨List.mem_of_getElem? (i := 168) (by decide +kernel), by decide +kernel⟩, List.mem_filter.mpr ⟨List.mem_of_getElem? (i := 6) (by decide +kernel), by decide +kernel⟩⟩
set_option maxRecDepth 100000 in
theorem dd_S_groupsAt : (y_S_groupsAt.cls ≠ "java/lang/invoke/MethodHandle" ∧ y_S_groupsAt.cls ≠ "java/lang/invoke/VarHandle") ∧ (parseMethodDescriptor y_S_groupsAt.desc).map (fun d => d.parameters.length) = some 1 := by decide +kernel
set_option maxRecDepth 100000 in
theorem cd_B_joinedBits : Cond.code y_B_joinedBits b_B_joinedBits 3 (some .int) ∈ gw ∧ Cond.initialized y_B_joinedBits.cls ∈ gw ∧ Cond.static y_B_joinedBits ∈ gw := ⟨List.mem_filter.mpr ⟨List.mem_of_getElem? (i := 172) (by decide +kernel), by decide +kernel⟩, ini_B, List.mem_filter.mpr ⟨List.mem_of_getElem? (i := 171) (by decide +kernel), by decide +kernel⟩⟩
set_option maxRecDepth 100000 in
theorem dd_B_joinedBits : (y_B_joinedBits.cls ≠ "java/lang/invoke/MethodHandle" ∧ y_B_joinedBits.cls ≠ "java/lang/invoke/VarHandle") ∧ (parseMethodDescriptor y_B_joinedBits.desc).map (fun d => d.parameters.length) = some 3 := by decide +kernel
set_option maxRecDepth 100000 in
theorem cd_B_replaceTop : Cond.code y_B_replaceTop b_B_replaceTop 4 (some .int) ∈ gw ∧ Cond.initialized y_B_replaceTop.cls ∈ gw ∧ Cond.instanceMethod y_B_replaceTop ∈ gw ∧ Cond.selects y_B_replaceTop.cls y_B_replaceTop y_B_replaceTop ∈ gw := ⟨List.mem_filter.mpr ⟨List.mem_of_getElem? (i := 176) (by decide +kernel), by decide +kernel⟩, ini_B, List.mem_filter.mpr ⟨List.mem_of_getElem? (i := 175) (by decide +kernel), by decide +kernel⟩, List.mem_filter.mpr ⟨List.mem_of_getElem? (i := 7) (by decide +kernel), by decide +kernel⟩⟩
set_option maxRecDepth 100000 in
theorem dd_B_replaceTop : (y_B_replaceTop.cls ≠ "java/lang/invoke/MethodHandle" ∧ y_B_replaceTop.cls ≠ "java/lang/invoke/VarHandle") ∧ (parseMethodDescriptor y_B_replaceTop.desc).map (fun d => d.parameters.length) = some 1 := by decide +kernel
set_option maxRecDepth 100000 in
theorem cd_S_drop : Cond.code y_S_drop b_S_drop 1 none ∈ gw ∧ Cond.initialized y_S_drop.cls ∈ gw ∧ Cond.instanceMethod y_S_drop ∈ gw ∧ Cond.selects y_S_drop.cls y_S_drop y_S_drop ∈ gw := ⟨List.mem_filter.mpr ⟨List.mem_of_getElem? (i := 181) (by decide +kernel), by decide +kernel⟩, ini_S, List.mem_filter.mpr ⟨List.mem_of_getElem? (i := 179) (by decide +kernel), by decide +kernel⟩, List.mem_filter.mpr ⟨List.mem_of_getElem? (i := 180) (by decide +kernel), by decide +kernel⟩⟩
set_option maxRecDepth 100000 in
theorem dd_S_drop : (y_S_drop.cls ≠ "java/lang/invoke/MethodHandle" ∧ y_S_drop.cls ≠ "java/lang/invoke/VarHandle") ∧ (parseMethodDescriptor y_S_drop.desc).map (fun d => d.parameters.length) = some 0 := by decide +kernel
set_option maxRecDepth 100000 in
theorem cd_B_not : Cond.code y_B_not b_B_not 1 (some .int) ∈ gw ∧ Cond.initialized y_B_not.cls ∈ gw ∧ Cond.instanceMethod y_B_not ∈ gw ∧ Cond.selects y_B_not.cls y_B_not y_B_not ∈ gw := ⟨List.mem_filter.mpr ⟨List.mem_of_getElem? (i := 185) (by decide +kernel), by decide +kernel⟩, ini_B, List.mem_filter.mpr ⟨List.mem_of_getElem? (i := 183) (by decide +kernel), by decide +kernel⟩, List.mem_filter.mpr ⟨List.mem_of_getElem? (i := 184) (by decide +kernel), by decide +kernel⟩⟩
set_option maxRecDepth 100000 in
theorem dd_B_not : (y_B_not.cls ≠ "java/lang/invoke/MethodHandle" ∧ y_B_not.cls ≠ "java/lang/invoke/VarHandle") ∧ (parseMethodDescriptor y_B_not.desc).map (fun d => d.parameters.length) = some 0 := by decide +kernel
set_option maxRecDepth 100000 in
theorem cd_S_addOthers : Cond.code y_S_addOthers b_S_addOthers 6 none ∈ gw ∧ Cond.initialized y_S_addOthers.cls ∈ gw ∧ Cond.instanceMethod y_S_addOthers ∈ gw ∧ Cond.selects y_S_addOthers.cls y_S_addOthers y_S_addOthers ∈ gw := ⟨List.mem_filter.mpr ⟨List.mem_of_getElem? (i := 189) (by decide +kernel), by decide +kernel⟩, ini_S, List.mem_filter.mpr ⟨List.mem_of_getElem? (i := 187) (by decide +kernel), by decide +kernel⟩, List.mem_filter.mpr ⟨List.mem_of_getElem? (i := 188) (by decide +kernel), by decide +kernel⟩⟩
set_option maxRecDepth 100000 in
theorem dd_S_addOthers : (y_S_addOthers.cls ≠ "java/lang/invoke/MethodHandle" ∧ y_S_addOthers.cls ≠ "java/lang/invoke/VarHandle") ∧ (parseMethodDescriptor y_S_addOthers.desc).map (fun d => d.parameters.length) = some 3 := by decide +kernel
set_option maxRecDepth 100000 in
theorem cd_B_count : Cond.code y_B_count b_B_count 1 (some .int) ∈ gw ∧ Cond.initialized y_B_count.cls ∈ gw ∧ Cond.instanceMethod y_B_count ∈ gw ∧ Cond.selects y_B_count.cls y_B_count y_B_count ∈ gw := ⟨List.mem_filter.mpr ⟨List.mem_of_getElem? (i := 193) (by decide +kernel), by decide +kernel⟩, ini_B, List.mem_filter.mpr ⟨List.mem_of_getElem? (i := 191) (by decide +kernel), by decide +kernel⟩, List.mem_filter.mpr ⟨List.mem_of_getElem? (i := 192) (by decide +kernel), by decide +kernel⟩⟩
set_option maxRecDepth 100000 in
theorem dd_B_count : (y_B_count.cls ≠ "java/lang/invoke/MethodHandle" ∧ y_B_count.cls ≠ "java/lang/invoke/VarHandle") ∧ (parseMethodDescriptor y_B_count.desc).map (fun d => d.parameters.length) = some 0 := by decide +kernel
set_option maxRecDepth 100000 in
theorem cd_S_rowsOf : Cond.code y_S_rowsOf b_S_rowsOf 5 (some .int) ∈ gw ∧ Cond.initialized y_S_rowsOf.cls ∈ gw ∧ Cond.instanceMethod y_S_rowsOf ∈ gw ∧ Cond.selects y_S_rowsOf.cls y_S_rowsOf y_S_rowsOf ∈ gw := ⟨List.mem_filter.mpr ⟨List.mem_of_getElem? (i := 197) (by decide +kernel), by decide +kernel⟩, ini_S, List.mem_filter.mpr ⟨List.mem_of_getElem? (i := 195) (by decide +kernel), by decide +kernel⟩, List.mem_filter.mpr ⟨List.mem_of_getElem? (i := 196) (by decide +kernel), by decide +kernel⟩⟩
set_option maxRecDepth 100000 in
theorem dd_S_rowsOf : (y_S_rowsOf.cls ≠ "java/lang/invoke/MethodHandle" ∧ y_S_rowsOf.cls ≠ "java/lang/invoke/VarHandle") ∧ (parseMethodDescriptor y_S_rowsOf.desc).map (fun d => d.parameters.length) = some 1 := by decide +kernel
set_option maxRecDepth 100000 in
theorem cd_I_bitCount : Cond.code y_I_bitCount b_I_bitCount 1 (some .int) ∈ gw ∧ Cond.initialized y_I_bitCount.cls ∈ gw ∧ Cond.static y_I_bitCount ∈ gw := ⟨List.mem_filter.mpr ⟨List.mem_of_getElem? (i := 200) (by decide +kernel), by decide +kernel⟩, ini_I, List.mem_filter.mpr ⟨List.mem_of_getElem? (i := 199) (by decide +kernel), by decide +kernel⟩⟩
set_option maxRecDepth 100000 in
theorem dd_I_bitCount : (y_I_bitCount.cls ≠ "java/lang/invoke/MethodHandle" ∧ y_I_bitCount.cls ≠ "java/lang/invoke/VarHandle") ∧ (parseMethodDescriptor y_I_bitCount.desc).map (fun d => d.parameters.length) = some 1 := by decide +kernel
set_option maxRecDepth 100000 in
theorem cd_B_after : Cond.code y_B_after b_B_after 2 (some .int) ∈ gw ∧ Cond.initialized y_B_after.cls ∈ gw ∧ Cond.instanceMethod y_B_after ∈ gw ∧ Cond.selects y_B_after.cls y_B_after y_B_after ∈ gw := ⟨List.mem_filter.mpr ⟨List.mem_of_getElem? (i := 207) (by decide +kernel), by decide +kernel⟩, ini_B, List.mem_filter.mpr ⟨List.mem_of_getElem? (i := 205) (by decide +kernel), by decide +kernel⟩, List.mem_filter.mpr ⟨List.mem_of_getElem? (i := 206) (by decide +kernel), by decide +kernel⟩⟩
set_option maxRecDepth 100000 in
theorem dd_B_after : (y_B_after.cls ≠ "java/lang/invoke/MethodHandle" ∧ y_B_after.cls ≠ "java/lang/invoke/VarHandle") ∧ (parseMethodDescriptor y_B_after.desc).map (fun d => d.parameters.length) = some 1 := by decide +kernel
set_option maxRecDepth 100000 in
theorem cd_S_firstFrom : Cond.code y_S_firstFrom b_S_firstFrom 8 (some .int) ∈ gw ∧ Cond.initialized y_S_firstFrom.cls ∈ gw ∧ Cond.instanceMethod y_S_firstFrom ∈ gw ∧ Cond.selects y_S_firstFrom.cls y_S_firstFrom y_S_firstFrom ∈ gw := ⟨List.mem_filter.mpr ⟨List.mem_of_getElem? (i := 212) (by decide +kernel), by decide +kernel⟩, ini_S, List.mem_filter.mpr ⟨List.mem_of_getElem? (i := 210) (by decide +kernel), by decide +kernel⟩, List.mem_filter.mpr ⟨List.mem_of_getElem? (i := 211) (by decide +kernel), by decide +kernel⟩⟩
set_option maxRecDepth 100000 in
theorem dd_S_firstFrom : (y_S_firstFrom.cls ≠ "java/lang/invoke/MethodHandle" ∧ y_S_firstFrom.cls ≠ "java/lang/invoke/VarHandle") ∧ (parseMethodDescriptor y_S_firstFrom.desc).map (fun d => d.parameters.length) = some 2 := by decide +kernel
set_option maxRecDepth 100000 in
theorem cd_S_firstInWord : Cond.code y_S_firstInWord b_S_firstInWord 4 (some .int) ∈ gw ∧ Cond.initialized y_S_firstInWord.cls ∈ gw ∧ Cond.static y_S_firstInWord ∈ gw := ⟨List.mem_filter.mpr ⟨List.mem_of_getElem? (i := 215) (by decide +kernel), by decide +kernel⟩, ini_S, List.mem_filter.mpr ⟨List.mem_of_getElem? (i := 214) (by decide +kernel), by decide +kernel⟩⟩
set_option maxRecDepth 100000 in
theorem dd_S_firstInWord : (y_S_firstInWord.cls ≠ "java/lang/invoke/MethodHandle" ∧ y_S_firstInWord.cls ≠ "java/lang/invoke/VarHandle") ∧ (parseMethodDescriptor y_S_firstInWord.desc).map (fun d => d.parameters.length) = some 2 := by decide +kernel
set_option maxRecDepth 100000 in
theorem cd_I_numberOfTrailingZeros : Cond.code y_I_numberOfTrailingZeros b_I_numberOfTrailingZeros 2 (some .int) ∈ gw ∧ Cond.initialized y_I_numberOfTrailingZeros.cls ∈ gw ∧ Cond.static y_I_numberOfTrailingZeros ∈ gw := ⟨List.mem_filter.mpr ⟨List.mem_of_getElem? (i := 218) (by decide +kernel), by decide +kernel⟩, ini_I, List.mem_filter.mpr ⟨List.mem_of_getElem? (i := 217) (by decide +kernel), by decide +kernel⟩⟩
set_option maxRecDepth 100000 in
theorem dd_I_numberOfTrailingZeros : (y_I_numberOfTrailingZeros.cls ≠ "java/lang/invoke/MethodHandle" ∧ y_I_numberOfTrailingZeros.cls ≠ "java/lang/invoke/VarHandle") ∧ (parseMethodDescriptor y_I_numberOfTrailingZeros.desc).map (fun d => d.parameters.length) = some 1 := by decide +kernel
set_option maxRecDepth 100000 in
theorem cd_B_words : Cond.code y_B_words b_B_words 1 (some .int) ∈ gw ∧ Cond.initialized y_B_words.cls ∈ gw ∧ Cond.instanceMethod y_B_words ∈ gw ∧ Cond.selects y_B_words.cls y_B_words y_B_words ∈ gw := ⟨List.mem_filter.mpr ⟨List.mem_of_getElem? (i := 223) (by decide +kernel), by decide +kernel⟩, ini_B, List.mem_filter.mpr ⟨List.mem_of_getElem? (i := 221) (by decide +kernel), by decide +kernel⟩, List.mem_filter.mpr ⟨List.mem_of_getElem? (i := 222) (by decide +kernel), by decide +kernel⟩⟩
set_option maxRecDepth 100000 in
theorem dd_B_words : (y_B_words.cls ≠ "java/lang/invoke/MethodHandle" ∧ y_B_words.cls ≠ "java/lang/invoke/VarHandle") ∧ (parseMethodDescriptor y_B_words.desc).map (fun d => d.parameters.length) = some 0 := by decide +kernel
set_option maxRecDepth 100000 in
theorem cd_B_word : Cond.code y_B_word b_B_word 2 (some .int) ∈ gw ∧ Cond.initialized y_B_word.cls ∈ gw ∧ Cond.instanceMethod y_B_word ∈ gw ∧ Cond.selects y_B_word.cls y_B_word y_B_word ∈ gw := ⟨List.mem_filter.mpr ⟨List.mem_of_getElem? (i := 227) (by decide +kernel), by decide +kernel⟩, ini_B, List.mem_filter.mpr ⟨List.mem_of_getElem? (i := 225) (by decide +kernel), by decide +kernel⟩, List.mem_filter.mpr ⟨List.mem_of_getElem? (i := 226) (by decide +kernel), by decide +kernel⟩⟩
set_option maxRecDepth 100000 in
theorem dd_B_word : (y_B_word.cls ≠ "java/lang/invoke/MethodHandle" ∧ y_B_word.cls ≠ "java/lang/invoke/VarHandle") ∧ (parseMethodDescriptor y_B_word.desc).map (fun d => d.parameters.length) = some 1 := by decide +kernel
set_option maxRecDepth 100000 in
theorem cd_S_wordOf : Cond.code y_S_wordOf b_S_wordOf 3 (some .int) ∈ gw ∧ Cond.initialized y_S_wordOf.cls ∈ gw ∧ Cond.instanceMethod y_S_wordOf ∈ gw ∧ Cond.selects y_S_wordOf.cls y_S_wordOf y_S_wordOf ∈ gw := ⟨List.mem_filter.mpr ⟨List.mem_of_getElem? (i := 231) (by decide +kernel), by decide +kernel⟩, ini_S, List.mem_filter.mpr ⟨List.mem_of_getElem? (i := 229) (by decide +kernel), by decide +kernel⟩, List.mem_filter.mpr ⟨List.mem_of_getElem? (i := 230) (by decide +kernel), by decide +kernel⟩⟩
set_option maxRecDepth 100000 in
theorem dd_S_wordOf : (y_S_wordOf.cls ≠ "java/lang/invoke/MethodHandle" ∧ y_S_wordOf.cls ≠ "java/lang/invoke/VarHandle") ∧ (parseMethodDescriptor y_S_wordOf.desc).map (fun d => d.parameters.length) = some 2 := by decide +kernel
set_option maxRecDepth 100000 in
theorem cd_B_pop : Cond.code y_B_pop b_B_pop 1 (some .int) ∈ gw ∧ Cond.initialized y_B_pop.cls ∈ gw ∧ Cond.instanceMethod y_B_pop ∈ gw ∧ Cond.selects y_B_pop.cls y_B_pop y_B_pop ∈ gw := ⟨List.mem_filter.mpr ⟨List.mem_of_getElem? (i := 235) (by decide +kernel), by decide +kernel⟩, ini_B, List.mem_filter.mpr ⟨List.mem_of_getElem? (i := 233) (by decide +kernel), by decide +kernel⟩, List.mem_filter.mpr ⟨List.mem_of_getElem? (i := 234) (by decide +kernel), by decide +kernel⟩⟩
set_option maxRecDepth 100000 in
theorem dd_B_pop : (y_B_pop.cls ≠ "java/lang/invoke/MethodHandle" ∧ y_B_pop.cls ≠ "java/lang/invoke/VarHandle") ∧ (parseMethodDescriptor y_B_pop.desc).map (fun d => d.parameters.length) = some 0 := by decide +kernel
set_option maxRecDepth 100000 in
theorem cd_B_room : Cond.code y_B_room b_B_room 1 (some .int) ∈ gw ∧ Cond.initialized y_B_room.cls ∈ gw ∧ Cond.instanceMethod y_B_room ∈ gw ∧ Cond.selects y_B_room.cls y_B_room y_B_room ∈ gw := ⟨List.mem_filter.mpr ⟨List.mem_of_getElem? (i := 239) (by decide +kernel), by decide +kernel⟩, ini_B, List.mem_filter.mpr ⟨List.mem_of_getElem? (i := 237) (by decide +kernel), by decide +kernel⟩, List.mem_filter.mpr ⟨List.mem_of_getElem? (i := 238) (by decide +kernel), by decide +kernel⟩⟩
set_option maxRecDepth 100000 in
theorem dd_B_room : (y_B_room.cls ≠ "java/lang/invoke/MethodHandle" ∧ y_B_room.cls ≠ "java/lang/invoke/VarHandle") ∧ (parseMethodDescriptor y_B_room.desc).map (fun d => d.parameters.length) = some 0 := by decide +kernel
set_option maxRecDepth 100000 in
theorem cd_B_stackRoom : Cond.code y_B_stackRoom b_B_stackRoom 1 (some .int) ∈ gw ∧ Cond.initialized y_B_stackRoom.cls ∈ gw ∧ Cond.instanceMethod y_B_stackRoom ∈ gw ∧ Cond.selects y_B_stackRoom.cls y_B_stackRoom y_B_stackRoom ∈ gw := ⟨List.mem_filter.mpr ⟨List.mem_of_getElem? (i := 243) (by decide +kernel), by decide +kernel⟩, ini_B, List.mem_filter.mpr ⟨List.mem_of_getElem? (i := 241) (by decide +kernel), by decide +kernel⟩, List.mem_filter.mpr ⟨List.mem_of_getElem? (i := 242) (by decide +kernel), by decide +kernel⟩⟩
set_option maxRecDepth 100000 in
theorem dd_B_stackRoom : (y_B_stackRoom.cls ≠ "java/lang/invoke/MethodHandle" ∧ y_B_stackRoom.cls ≠ "java/lang/invoke/VarHandle") ∧ (parseMethodDescriptor y_B_stackRoom.desc).map (fun d => d.parameters.length) = some 0 := by decide +kernel
set_option maxRecDepth 100000 in
theorem cd_B_rows : Cond.code y_B_rows b_B_rows 1 (some .int) ∈ gw ∧ Cond.initialized y_B_rows.cls ∈ gw ∧ Cond.instanceMethod y_B_rows ∈ gw ∧ Cond.selects y_B_rows.cls y_B_rows y_B_rows ∈ gw := ⟨List.mem_filter.mpr ⟨List.mem_of_getElem? (i := 247) (by decide +kernel), by decide +kernel⟩, ini_B, List.mem_filter.mpr ⟨List.mem_of_getElem? (i := 245) (by decide +kernel), by decide +kernel⟩, List.mem_filter.mpr ⟨List.mem_of_getElem? (i := 246) (by decide +kernel), by decide +kernel⟩⟩
set_option maxRecDepth 100000 in
theorem dd_B_rows : (y_B_rows.cls ≠ "java/lang/invoke/MethodHandle" ∧ y_B_rows.cls ≠ "java/lang/invoke/VarHandle") ∧ (parseMethodDescriptor y_B_rows.desc).map (fun d => d.parameters.length) = some 0 := by decide +kernel
set_option maxRecDepth 100000 in
theorem cd_M_init : Cond.code y_M_init b_M_init 1 none ∈ gw ∧ Cond.initialized y_M_init.cls ∈ gw ∧ Cond.instanceMethod y_M_init ∈ gw ∧ y_M_init.name = "<init>" := ⟨List.mem_filter.mpr ⟨List.mem_of_getElem? (i := 252) (by decide +kernel), by decide +kernel⟩, ini_M, List.mem_filter.mpr ⟨List.mem_of_getElem? (i := 251) (by decide +kernel), by decide +kernel⟩, rfl⟩
set_option maxRecDepth 100000 in
theorem dd_M_init : (y_M_init.cls ≠ "java/lang/invoke/MethodHandle" ∧ y_M_init.cls ≠ "java/lang/invoke/VarHandle") ∧ (parseMethodDescriptor y_M_init.desc).map (fun d => d.parameters.length) = some 0 := by decide +kernel
set_option maxRecDepth 100000 in
theorem cd_M_rows : Cond.code y_M_rows b_M_rows 1 (some .int) ∈ gw ∧ Cond.initialized y_M_rows.cls ∈ gw ∧ Cond.instanceMethod y_M_rows ∈ gw ∧ Cond.selects y_M_rows.cls y_M_rows y_M_rows ∈ gw := ⟨List.mem_filter.mpr ⟨List.mem_of_getElem? (i := 291) (by decide +kernel), by decide +kernel⟩, ini_M, List.mem_filter.mpr ⟨List.mem_of_getElem? (i := 289) (by decide +kernel), by decide +kernel⟩, List.mem_filter.mpr ⟨List.mem_of_getElem? (i := 290) (by decide +kernel), by decide +kernel⟩⟩
set_option maxRecDepth 100000 in
theorem dd_M_rows : (y_M_rows.cls ≠ "java/lang/invoke/MethodHandle" ∧ y_M_rows.cls ≠ "java/lang/invoke/VarHandle") ∧ (parseMethodDescriptor y_M_rows.desc).map (fun d => d.parameters.length) = some 0 := by decide +kernel
set_option maxRecDepth 100000 in
theorem cd_M_room : Cond.code y_M_room b_M_room 5 (some .int) ∈ gw ∧ Cond.initialized y_M_room.cls ∈ gw ∧ Cond.instanceMethod y_M_room ∈ gw ∧ Cond.selects y_M_room.cls y_M_room y_M_room ∈ gw := ⟨List.mem_filter.mpr ⟨List.mem_of_getElem? (i := 295) (by decide +kernel), by decide +kernel⟩, ini_M, List.mem_filter.mpr ⟨List.mem_of_getElem? (i := 293) (by decide +kernel), by decide +kernel⟩, List.mem_filter.mpr ⟨List.mem_of_getElem? (i := 294) (by decide +kernel), by decide +kernel⟩⟩
set_option maxRecDepth 100000 in
theorem dd_M_room : (y_M_room.cls ≠ "java/lang/invoke/MethodHandle" ∧ y_M_room.cls ≠ "java/lang/invoke/VarHandle") ∧ (parseMethodDescriptor y_M_room.desc).map (fun d => d.parameters.length) = some 0 := by decide +kernel
set_option maxRecDepth 100000 in
theorem cd_M_layValue : Cond.code y_M_layValue b_M_layValue 7 (some .int) ∈ gw ∧ Cond.initialized y_M_layValue.cls ∈ gw ∧ Cond.instanceMethod y_M_layValue ∈ gw ∧ Cond.selects y_M_layValue.cls y_M_layValue y_M_layValue ∈ gw := ⟨List.mem_filter.mpr ⟨List.mem_of_getElem? (i := 299) (by decide +kernel), by decide +kernel⟩, ini_M, List.mem_filter.mpr ⟨List.mem_of_getElem? (i := 298) (by decide +kernel), by decide +kernel⟩, List.mem_filter.mpr ⟨List.mem_of_getElem? (i := 8) (by decide +kernel), by decide +kernel⟩⟩
set_option maxRecDepth 100000 in
theorem dd_M_layValue : (y_M_layValue.cls ≠ "java/lang/invoke/MethodHandle" ∧ y_M_layValue.cls ≠ "java/lang/invoke/VarHandle") ∧ (parseMethodDescriptor y_M_layValue.desc).map (fun d => d.parameters.length) = some 3 := by decide +kernel
set_option maxRecDepth 100000 in
theorem cd_M_goAlong : Cond.code y_M_goAlong b_M_goAlong 8 (some .int) ∈ gw ∧ Cond.initialized y_M_goAlong.cls ∈ gw ∧ Cond.instanceMethod y_M_goAlong ∈ gw ∧ Cond.selects y_M_goAlong.cls y_M_goAlong y_M_goAlong ∈ gw := ⟨List.mem_filter.mpr ⟨List.mem_of_getElem? (i := 303) (by decide +kernel), by decide +kernel⟩, ini_M, List.mem_filter.mpr ⟨List.mem_of_getElem? (i := 302) (by decide +kernel), by decide +kernel⟩, List.mem_filter.mpr ⟨List.mem_of_getElem? (i := 9) (by decide +kernel), by decide +kernel⟩⟩
set_option maxRecDepth 100000 in
theorem dd_M_goAlong : (y_M_goAlong.cls ≠ "java/lang/invoke/MethodHandle" ∧ y_M_goAlong.cls ≠ "java/lang/invoke/VarHandle") ∧ (parseMethodDescriptor y_M_goAlong.desc).map (fun d => d.parameters.length) = some 3 := by decide +kernel
set_option maxRecDepth 100000 in
theorem cd_M_see : Cond.code y_M_see b_M_see 2 none ∈ gw ∧ Cond.initialized y_M_see.cls ∈ gw ∧ Cond.instanceMethod y_M_see ∈ gw ∧ Cond.selects y_M_see.cls y_M_see y_M_see ∈ gw := ⟨List.mem_filter.mpr ⟨List.mem_of_getElem? (i := 309) (by decide +kernel), by decide +kernel⟩, ini_M, List.mem_filter.mpr ⟨List.mem_of_getElem? (i := 308) (by decide +kernel), by decide +kernel⟩, List.mem_filter.mpr ⟨List.mem_of_getElem? (i := 10) (by decide +kernel), by decide +kernel⟩⟩
set_option maxRecDepth 100000 in
theorem dd_M_see : (y_M_see.cls ≠ "java/lang/invoke/MethodHandle" ∧ y_M_see.cls ≠ "java/lang/invoke/VarHandle") ∧ (parseMethodDescriptor y_M_see.desc).map (fun d => d.parameters.length) = some 1 := by decide +kernel
set_option maxRecDepth 100000 in
theorem cd_M_literal : Cond.code y_M_literal b_M_literal 9 (some .int) ∈ gw ∧ Cond.initialized y_M_literal.cls ∈ gw ∧ Cond.instanceMethod y_M_literal ∈ gw ∧ Cond.selects y_M_literal.cls y_M_literal y_M_literal ∈ gw := ⟨List.mem_filter.mpr ⟨List.mem_of_getElem? (i := 313) (by decide +kernel), by decide +kernel⟩, ini_M, List.mem_filter.mpr ⟨List.mem_of_getElem? (i := 312) (by decide +kernel), by decide +kernel⟩, List.mem_filter.mpr ⟨List.mem_of_getElem? (i := 11) (by decide +kernel), by decide +kernel⟩⟩
set_option maxRecDepth 100000 in
theorem dd_M_literal : (y_M_literal.cls ≠ "java/lang/invoke/MethodHandle" ∧ y_M_literal.cls ≠ "java/lang/invoke/VarHandle") ∧ (parseMethodDescriptor y_M_literal.desc).map (fun d => d.parameters.length) = some 2 := by decide +kernel
set_option maxRecDepth 100000 in
theorem cd_M_append : Cond.code y_M_append b_M_append 6 (some .int) ∈ gw ∧ Cond.initialized y_M_append.cls ∈ gw ∧ Cond.instanceMethod y_M_append ∈ gw ∧ Cond.selects y_M_append.cls y_M_append y_M_append ∈ gw := ⟨List.mem_filter.mpr ⟨List.mem_of_getElem? (i := 317) (by decide +kernel), by decide +kernel⟩, ini_M, List.mem_filter.mpr ⟨List.mem_of_getElem? (i := 315) (by decide +kernel), by decide +kernel⟩, List.mem_filter.mpr ⟨List.mem_of_getElem? (i := 316) (by decide +kernel), by decide +kernel⟩⟩
set_option maxRecDepth 100000 in
theorem dd_M_append : (y_M_append.cls ≠ "java/lang/invoke/MethodHandle" ∧ y_M_append.cls ≠ "java/lang/invoke/VarHandle") ∧ (parseMethodDescriptor y_M_append.desc).map (fun d => d.parameters.length) = some 3 := by decide +kernel
set_option maxRecDepth 100000 in
theorem cd_M_stackRoom : Cond.code y_M_stackRoom b_M_stackRoom 3 (some .int) ∈ gw ∧ Cond.initialized y_M_stackRoom.cls ∈ gw ∧ Cond.instanceMethod y_M_stackRoom ∈ gw ∧ Cond.selects y_M_stackRoom.cls y_M_stackRoom y_M_stackRoom ∈ gw := ⟨List.mem_filter.mpr ⟨List.mem_of_getElem? (i := 323) (by decide +kernel), by decide +kernel⟩, ini_M, List.mem_filter.mpr ⟨List.mem_of_getElem? (i := 321) (by decide +kernel), by decide +kernel⟩, List.mem_filter.mpr ⟨List.mem_of_getElem? (i := 322) (by decide +kernel), by decide +kernel⟩⟩
set_option maxRecDepth 100000 in
theorem dd_M_stackRoom : (y_M_stackRoom.cls ≠ "java/lang/invoke/MethodHandle" ∧ y_M_stackRoom.cls ≠ "java/lang/invoke/VarHandle") ∧ (parseMethodDescriptor y_M_stackRoom.desc).map (fun d => d.parameters.length) = some 0 := by decide +kernel
set_option maxRecDepth 100000 in
theorem cd_M_wordsOf : Cond.code y_M_wordsOf b_M_wordsOf 2 (some .int) ∈ gw ∧ Cond.initialized y_M_wordsOf.cls ∈ gw ∧ Cond.instanceMethod y_M_wordsOf ∈ gw ∧ Cond.selects y_M_wordsOf.cls y_M_wordsOf y_M_wordsOf ∈ gw := ⟨List.mem_filter.mpr ⟨List.mem_of_getElem? (i := 327) (by decide +kernel), by decide +kernel⟩, ini_M, List.mem_filter.mpr ⟨List.mem_of_getElem? (i := 326) (by decide +kernel), by decide +kernel⟩, List.mem_filter.mpr ⟨List.mem_of_getElem? (i := 12) (by decide +kernel), by decide +kernel⟩⟩
set_option maxRecDepth 100000 in
theorem dd_M_wordsOf : (y_M_wordsOf.cls ≠ "java/lang/invoke/MethodHandle" ∧ y_M_wordsOf.cls ≠ "java/lang/invoke/VarHandle") ∧ (parseMethodDescriptor y_M_wordsOf.desc).map (fun d => d.parameters.length) = some 1 := by decide +kernel
set_option maxRecDepth 100000 in
theorem cd_M_push : Cond.code y_M_push b_M_push 3 (some .int) ∈ gw ∧ Cond.initialized y_M_push.cls ∈ gw ∧ Cond.instanceMethod y_M_push ∈ gw ∧ Cond.selects y_M_push.cls y_M_push y_M_push ∈ gw := ⟨List.mem_filter.mpr ⟨List.mem_of_getElem? (i := 331) (by decide +kernel), by decide +kernel⟩, ini_M, List.mem_filter.mpr ⟨List.mem_of_getElem? (i := 329) (by decide +kernel), by decide +kernel⟩, List.mem_filter.mpr ⟨List.mem_of_getElem? (i := 330) (by decide +kernel), by decide +kernel⟩⟩
set_option maxRecDepth 100000 in
theorem dd_M_push : (y_M_push.cls ≠ "java/lang/invoke/MethodHandle" ∧ y_M_push.cls ≠ "java/lang/invoke/VarHandle") ∧ (parseMethodDescriptor y_M_push.desc).map (fun d => d.parameters.length) = some 2 := by decide +kernel
set_option maxRecDepth 100000 in
theorem cd_M_comes : Cond.code y_M_comes b_M_comes 2 (some .boolean) ∈ gw ∧ Cond.initialized y_M_comes.cls ∈ gw ∧ Cond.instanceMethod y_M_comes ∈ gw ∧ Cond.selects y_M_comes.cls y_M_comes y_M_comes ∈ gw := ⟨List.mem_filter.mpr ⟨List.mem_of_getElem? (i := 335) (by decide +kernel), by decide +kernel⟩, ini_M, List.mem_filter.mpr ⟨List.mem_of_getElem? (i := 334) (by decide +kernel), by decide +kernel⟩, List.mem_filter.mpr ⟨List.mem_of_getElem? (i := 13) (by decide +kernel), by decide +kernel⟩⟩
set_option maxRecDepth 100000 in
theorem dd_M_comes : (y_M_comes.cls ≠ "java/lang/invoke/MethodHandle" ∧ y_M_comes.cls ≠ "java/lang/invoke/VarHandle") ∧ (parseMethodDescriptor y_M_comes.desc).map (fun d => d.parameters.length) = some 1 := by decide +kernel
set_option maxRecDepth 100000 in
theorem cd_M_copy : Cond.code y_M_copy b_M_copy 4 (some .int) ∈ gw ∧ Cond.initialized y_M_copy.cls ∈ gw ∧ Cond.instanceMethod y_M_copy ∈ gw ∧ Cond.selects y_M_copy.cls y_M_copy y_M_copy ∈ gw := ⟨List.mem_filter.mpr ⟨List.mem_of_getElem? (i := 340) (by decide +kernel), by decide +kernel⟩, ini_M, List.mem_filter.mpr ⟨List.mem_of_getElem? (i := 338) (by decide +kernel), by decide +kernel⟩, List.mem_filter.mpr ⟨List.mem_of_getElem? (i := 339) (by decide +kernel), by decide +kernel⟩⟩
set_option maxRecDepth 100000 in
theorem dd_M_copy : (y_M_copy.cls ≠ "java/lang/invoke/MethodHandle" ∧ y_M_copy.cls ≠ "java/lang/invoke/VarHandle") ∧ (parseMethodDescriptor y_M_copy.desc).map (fun d => d.parameters.length) = some 0 := by decide +kernel
set_option maxRecDepth 100000 in
theorem cd_M_join : Cond.code y_M_join b_M_join 3 (some .int) ∈ gw ∧ Cond.initialized y_M_join.cls ∈ gw ∧ Cond.instanceMethod y_M_join ∈ gw ∧ Cond.selects y_M_join.cls y_M_join y_M_join ∈ gw := ⟨List.mem_filter.mpr ⟨List.mem_of_getElem? (i := 344) (by decide +kernel), by decide +kernel⟩, ini_M, List.mem_filter.mpr ⟨List.mem_of_getElem? (i := 342) (by decide +kernel), by decide +kernel⟩, List.mem_filter.mpr ⟨List.mem_of_getElem? (i := 343) (by decide +kernel), by decide +kernel⟩⟩
set_option maxRecDepth 100000 in
theorem dd_M_join : (y_M_join.cls ≠ "java/lang/invoke/MethodHandle" ∧ y_M_join.cls ≠ "java/lang/invoke/VarHandle") ∧ (parseMethodDescriptor y_M_join.desc).map (fun d => d.parameters.length) = some 1 := by decide +kernel
set_option maxRecDepth 100000 in
theorem cd_M_layJoined : Cond.code y_M_layJoined b_M_layJoined 16 (some .int) ∈ gw ∧ Cond.initialized y_M_layJoined.cls ∈ gw ∧ Cond.instanceMethod y_M_layJoined ∈ gw ∧ Cond.selects y_M_layJoined.cls y_M_layJoined y_M_layJoined ∈ gw := ⟨List.mem_filter.mpr ⟨List.mem_of_getElem? (i := 348) (by decide +kernel), by decide +kernel⟩, ini_M, List.mem_filter.mpr ⟨List.mem_of_getElem? (i := 347) (by decide +kernel), by decide +kernel⟩, List.mem_filter.mpr ⟨List.mem_of_getElem? (i := 14) (by decide +kernel), by decide +kernel⟩⟩
set_option maxRecDepth 100000 in
theorem dd_M_layJoined : (y_M_layJoined.cls ≠ "java/lang/invoke/MethodHandle" ∧ y_M_layJoined.cls ≠ "java/lang/invoke/VarHandle") ∧ (parseMethodDescriptor y_M_layJoined.desc).map (fun d => d.parameters.length) = some 6 := by decide +kernel
set_option maxRecDepth 100000 in
theorem cd_M_is : Cond.code y_M_is b_M_is 3 (some .boolean) ∈ gw ∧ Cond.initialized y_M_is.cls ∈ gw ∧ Cond.static y_M_is ∈ gw := ⟨List.mem_filter.mpr ⟨List.mem_of_getElem? (i := 351) (by decide +kernel), by decide +kernel⟩, ini_M, List.mem_filter.mpr ⟨List.mem_of_getElem? (i := 350) (by decide +kernel), by decide +kernel⟩⟩
set_option maxRecDepth 100000 in
theorem dd_M_is : (y_M_is.cls ≠ "java/lang/invoke/MethodHandle" ∧ y_M_is.cls ≠ "java/lang/invoke/VarHandle") ∧ (parseMethodDescriptor y_M_is.desc).map (fun d => d.parameters.length) = some 3 := by decide +kernel
set_option maxRecDepth 100000 in
theorem cd_M_become : Cond.code y_M_become b_M_become 7 (some .boolean) ∈ gw ∧ Cond.initialized y_M_become.cls ∈ gw ∧ Cond.instanceMethod y_M_become ∈ gw ∧ Cond.selects y_M_become.cls y_M_become y_M_become ∈ gw := ⟨List.mem_filter.mpr ⟨List.mem_of_getElem? (i := 355) (by decide +kernel), by decide +kernel⟩, ini_M, List.mem_filter.mpr ⟨List.mem_of_getElem? (i := 354) (by decide +kernel), by decide +kernel⟩, List.mem_filter.mpr ⟨List.mem_of_getElem? (i := 15) (by decide +kernel), by decide +kernel⟩⟩
set_option maxRecDepth 100000 in
theorem dd_M_become : (y_M_become.cls ≠ "java/lang/invoke/MethodHandle" ∧ y_M_become.cls ≠ "java/lang/invoke/VarHandle") ∧ (parseMethodDescriptor y_M_become.desc).map (fun d => d.parameters.length) = some 2 := by decide +kernel
set_option maxRecDepth 100000 in
theorem cd_M_not : Cond.code y_M_not b_M_not 5 (some .int) ∈ gw ∧ Cond.initialized y_M_not.cls ∈ gw ∧ Cond.instanceMethod y_M_not ∈ gw ∧ Cond.selects y_M_not.cls y_M_not y_M_not ∈ gw := ⟨List.mem_filter.mpr ⟨List.mem_of_getElem? (i := 359) (by decide +kernel), by decide +kernel⟩, ini_M, List.mem_filter.mpr ⟨List.mem_of_getElem? (i := 357) (by decide +kernel), by decide +kernel⟩, List.mem_filter.mpr ⟨List.mem_of_getElem? (i := 358) (by decide +kernel), by decide +kernel⟩⟩
set_option maxRecDepth 100000 in
theorem dd_M_not : (y_M_not.cls ≠ "java/lang/invoke/MethodHandle" ∧ y_M_not.cls ≠ "java/lang/invoke/VarHandle") ∧ (parseMethodDescriptor y_M_not.desc).map (fun d => d.parameters.length) = some 0 := by decide +kernel
set_option maxRecDepth 100000 in
theorem cd_M_count : Cond.code y_M_count b_M_count 3 (some .int) ∈ gw ∧ Cond.initialized y_M_count.cls ∈ gw ∧ Cond.instanceMethod y_M_count ∈ gw ∧ Cond.selects y_M_count.cls y_M_count y_M_count ∈ gw := ⟨List.mem_filter.mpr ⟨List.mem_of_getElem? (i := 363) (by decide +kernel), by decide +kernel⟩, ini_M, List.mem_filter.mpr ⟨List.mem_of_getElem? (i := 361) (by decide +kernel), by decide +kernel⟩, List.mem_filter.mpr ⟨List.mem_of_getElem? (i := 362) (by decide +kernel), by decide +kernel⟩⟩
set_option maxRecDepth 100000 in
theorem dd_M_count : (y_M_count.cls ≠ "java/lang/invoke/MethodHandle" ∧ y_M_count.cls ≠ "java/lang/invoke/VarHandle") ∧ (parseMethodDescriptor y_M_count.desc).map (fun d => d.parameters.length) = some 0 := by decide +kernel
set_option maxRecDepth 100000 in
theorem cd_M_after : Cond.code y_M_after b_M_after 3 (some .int) ∈ gw ∧ Cond.initialized y_M_after.cls ∈ gw ∧ Cond.instanceMethod y_M_after ∈ gw ∧ Cond.selects y_M_after.cls y_M_after y_M_after ∈ gw := ⟨List.mem_filter.mpr ⟨List.mem_of_getElem? (i := 367) (by decide +kernel), by decide +kernel⟩, ini_M, List.mem_filter.mpr ⟨List.mem_of_getElem? (i := 365) (by decide +kernel), by decide +kernel⟩, List.mem_filter.mpr ⟨List.mem_of_getElem? (i := 366) (by decide +kernel), by decide +kernel⟩⟩
set_option maxRecDepth 100000 in
theorem dd_M_after : (y_M_after.cls ≠ "java/lang/invoke/MethodHandle" ∧ y_M_after.cls ≠ "java/lang/invoke/VarHandle") ∧ (parseMethodDescriptor y_M_after.desc).map (fun d => d.parameters.length) = some 1 := by decide +kernel
set_option maxRecDepth 100000 in
theorem cd_M_words : Cond.code y_M_words b_M_words 1 (some .int) ∈ gw ∧ Cond.initialized y_M_words.cls ∈ gw ∧ Cond.instanceMethod y_M_words ∈ gw ∧ Cond.selects y_M_words.cls y_M_words y_M_words ∈ gw := ⟨List.mem_filter.mpr ⟨List.mem_of_getElem? (i := 371) (by decide +kernel), by decide +kernel⟩, ini_M, List.mem_filter.mpr ⟨List.mem_of_getElem? (i := 369) (by decide +kernel), by decide +kernel⟩, List.mem_filter.mpr ⟨List.mem_of_getElem? (i := 370) (by decide +kernel), by decide +kernel⟩⟩
set_option maxRecDepth 100000 in
theorem dd_M_words : (y_M_words.cls ≠ "java/lang/invoke/MethodHandle" ∧ y_M_words.cls ≠ "java/lang/invoke/VarHandle") ∧ (parseMethodDescriptor y_M_words.desc).map (fun d => d.parameters.length) = some 0 := by decide +kernel
set_option maxRecDepth 100000 in
theorem cd_M_word : Cond.code y_M_word b_M_word 3 (some .int) ∈ gw ∧ Cond.initialized y_M_word.cls ∈ gw ∧ Cond.instanceMethod y_M_word ∈ gw ∧ Cond.selects y_M_word.cls y_M_word y_M_word ∈ gw := ⟨List.mem_filter.mpr ⟨List.mem_of_getElem? (i := 375) (by decide +kernel), by decide +kernel⟩, ini_M, List.mem_filter.mpr ⟨List.mem_of_getElem? (i := 373) (by decide +kernel), by decide +kernel⟩, List.mem_filter.mpr ⟨List.mem_of_getElem? (i := 374) (by decide +kernel), by decide +kernel⟩⟩
set_option maxRecDepth 100000 in
theorem dd_M_word : (y_M_word.cls ≠ "java/lang/invoke/MethodHandle" ∧ y_M_word.cls ≠ "java/lang/invoke/VarHandle") ∧ (parseMethodDescriptor y_M_word.desc).map (fun d => d.parameters.length) = some 1 := by decide +kernel
set_option maxRecDepth 100000 in
theorem cd_M_pop : Cond.code y_M_pop b_M_pop 1 (some .int) ∈ gw ∧ Cond.initialized y_M_pop.cls ∈ gw ∧ Cond.instanceMethod y_M_pop ∈ gw ∧ Cond.selects y_M_pop.cls y_M_pop y_M_pop ∈ gw := ⟨List.mem_filter.mpr ⟨List.mem_of_getElem? (i := 379) (by decide +kernel), by decide +kernel⟩, ini_M, List.mem_filter.mpr ⟨List.mem_of_getElem? (i := 377) (by decide +kernel), by decide +kernel⟩, List.mem_filter.mpr ⟨List.mem_of_getElem? (i := 378) (by decide +kernel), by decide +kernel⟩⟩
set_option maxRecDepth 100000 in
theorem dd_M_pop : (y_M_pop.cls ≠ "java/lang/invoke/MethodHandle" ∧ y_M_pop.cls ≠ "java/lang/invoke/VarHandle") ∧ (parseMethodDescriptor y_M_pop.desc).map (fun d => d.parameters.length) = some 0 := by decide +kernel
end
section
/-! the instructions -/
theorem d_S_init_0 : decode b_S_init 0 = .ok (.aload_n 0, 1) := by decide +kernel
theorem d_S_init_1 : decode b_S_init 1 = .ok (.invokespecial 3, 3) := by decide +kernel
theorem d_S_init_4 : decode b_S_init 4 = .ok (.aload_n 0, 1) := by decide +kernel
theorem d_S_init_5 : decode b_S_init 5 = .ok (.iconst 0, 1) := by decide +kernel
theorem d_S_init_6 : decode b_S_init 6 = .ok (.putfield 9, 3) := by decide +kernel
theorem d_S_init_9 : decode b_S_init 9 = .ok (.aload_n 0, 1) := by decide +kernel
theorem d_S_init_10 : decode b_S_init 10 = .ok (.iload_n 2, 1) := by decide +kernel
theorem d_S_init_11 : decode b_S_init 11 = .ok (.newarray .int, 2) := by decide +kernel
theorem d_S_init_13 : decode b_S_init 13 = .ok (.putfield 15, 3) := by decide +kernel
theorem d_S_init_16 : decode b_S_init 16 = .ok (.aload_n 0, 1) := by decide +kernel
theorem d_S_init_17 : decode b_S_init 17 = .ok (.iload_n 1, 1) := by decide +kernel
theorem d_S_init_18 : decode b_S_init 18 = .ok (.iconst 1, 1) := by decide +kernel
theorem d_S_init_19 : decode b_S_init 19 = .ok (.iadd, 1) := by decide +kernel
theorem d_S_init_20 : decode b_S_init 20 = .ok (.newarray .int, 2) := by decide +kernel
theorem d_S_init_22 : decode b_S_init 22 = .ok (.putfield 19, 3) := by decide +kernel
theorem d_S_init_25 : decode b_S_init 25 = .ok (.return_, 1) := by decide +kernel
theorem d_S_clear_0 : decode b_S_clear 0 = .ok (.aload_n 0, 1) := by decide +kernel
theorem d_S_clear_1 : decode b_S_clear 1 = .ok (.iconst 0, 1) := by decide +kernel
theorem d_S_clear_2 : decode b_S_clear 2 = .ok (.putfield 9, 3) := by decide +kernel
theorem d_S_clear_5 : decode b_S_clear 5 = .ok (.return_, 1) := by decide +kernel
theorem d_S_open_0 : decode b_S_open 0 = .ok (.aload_n 0, 1) := by decide +kernel
theorem d_S_open_1 : decode b_S_open 1 = .ok (.getfield 9, 3) := by decide +kernel
theorem d_S_open_4 : decode b_S_open 4 = .ok (.iconst 1, 1) := by decide +kernel
theorem d_S_open_5 : decode b_S_open 5 = .ok (.iadd, 1) := by decide +kernel
theorem d_S_open_6 : decode b_S_open 6 = .ok (.aload_n 0, 1) := by decide +kernel
theorem d_S_open_7 : decode b_S_open 7 = .ok (.getfield 19, 3) := by decide +kernel
theorem d_S_open_10 : decode b_S_open 10 = .ok (.arraylength, 1) := by decide +kernel
theorem d_S_open_11 : decode b_S_open 11 = .ok (.if_icmp .ge 33, 3) := by decide +kernel
theorem d_S_open_14 : decode b_S_open 14 = .ok (.aload_n 0, 1) := by decide +kernel
theorem d_S_open_15 : decode b_S_open 15 = .ok (.getfield 19, 3) := by decide +kernel
theorem d_S_open_18 : decode b_S_open 18 = .ok (.aload_n 0, 1) := by decide +kernel
theorem d_S_open_19 : decode b_S_open 19 = .ok (.getfield 9, 3) := by decide +kernel
theorem d_S_open_22 : decode b_S_open 22 = .ok (.iconst 1, 1) := by decide +kernel
theorem d_S_open_23 : decode b_S_open 23 = .ok (.iadd, 1) := by decide +kernel
theorem d_S_open_24 : decode b_S_open 24 = .ok (.aload_n 0, 1) := by decide +kernel
theorem d_S_open_25 : decode b_S_open 25 = .ok (.getfield 19, 3) := by decide +kernel
theorem d_S_open_28 : decode b_S_open 28 = .ok (.aload_n 0, 1) := by decide +kernel
theorem d_S_open_29 : decode b_S_open 29 = .ok (.getfield 9, 3) := by decide +kernel
theorem d_S_open_32 : decode b_S_open 32 = .ok (.iaload, 1) := by decide +kernel
theorem d_S_open_33 : decode b_S_open 33 = .ok (.iastore, 1) := by decide +kernel
theorem d_S_open_34 : decode b_S_open 34 = .ok (.aload_n 0, 1) := by decide +kernel
theorem d_S_open_35 : decode b_S_open 35 = .ok (.dup, 1) := by decide +kernel
theorem d_S_open_36 : decode b_S_open 36 = .ok (.getfield 9, 3) := by decide +kernel
theorem d_S_open_39 : decode b_S_open 39 = .ok (.iconst 1, 1) := by decide +kernel
theorem d_S_open_40 : decode b_S_open 40 = .ok (.iadd, 1) := by decide +kernel
theorem d_S_open_41 : decode b_S_open 41 = .ok (.putfield 9, 3) := by decide +kernel
theorem d_S_open_44 : decode b_S_open 44 = .ok (.return_, 1) := by decide +kernel
theorem d_S_drop_0 : decode b_S_drop 0 = .ok (.aload_n 0, 1) := by decide +kernel
theorem d_S_drop_1 : decode b_S_drop 1 = .ok (.getfield 9, 3) := by decide +kernel
theorem d_S_drop_4 : decode b_S_drop 4 = .ok (.ifCond .le 13, 3) := by decide +kernel
theorem d_S_drop_7 : decode b_S_drop 7 = .ok (.aload_n 0, 1) := by decide +kernel
theorem d_S_drop_8 : decode b_S_drop 8 = .ok (.dup, 1) := by decide +kernel
theorem d_S_drop_9 : decode b_S_drop 9 = .ok (.getfield 9, 3) := by decide +kernel
theorem d_S_drop_12 : decode b_S_drop 12 = .ok (.iconst 1, 1) := by decide +kernel
theorem d_S_drop_13 : decode b_S_drop 13 = .ok (.isub, 1) := by decide +kernel
theorem d_S_drop_14 : decode b_S_drop 14 = .ok (.putfield 9, 3) := by decide +kernel
theorem d_S_drop_17 : decode b_S_drop 17 = .ok (.return_, 1) := by decide +kernel
theorem d_S_used_0 : decode b_S_used 0 = .ok (.aload_n 0, 1) := by decide +kernel
theorem d_S_used_1 : decode b_S_used 1 = .ok (.getfield 19, 3) := by decide +kernel
theorem d_S_used_4 : decode b_S_used 4 = .ok (.aload_n 0, 1) := by decide +kernel
theorem d_S_used_5 : decode b_S_used 5 = .ok (.getfield 9, 3) := by decide +kernel
theorem d_S_used_8 : decode b_S_used 8 = .ok (.iaload, 1) := by decide +kernel
theorem d_S_used_9 : decode b_S_used 9 = .ok (.ireturn, 1) := by decide +kernel
theorem d_S_startOf_0 : decode b_S_startOf 0 = .ok (.aload_n 0, 1) := by decide +kernel
theorem d_S_startOf_1 : decode b_S_startOf 1 = .ok (.getfield 19, 3) := by decide +kernel
theorem d_S_startOf_4 : decode b_S_startOf 4 = .ok (.iconst 0, 1) := by decide +kernel
theorem d_S_startOf_5 : decode b_S_startOf 5 = .ok (.iload_n 1, 1) := by decide +kernel
theorem d_S_startOf_6 : decode b_S_startOf 6 = .ok (.aload_n 0, 1) := by decide +kernel
theorem d_S_startOf_7 : decode b_S_startOf 7 = .ok (.getfield 9, 3) := by decide +kernel
theorem d_S_startOf_10 : decode b_S_startOf 10 = .ok (.invokestatic 22, 3) := by decide +kernel
theorem d_S_startOf_13 : decode b_S_startOf 13 = .ok (.invokestatic 28, 3) := by decide +kernel
theorem d_S_startOf_16 : decode b_S_startOf 16 = .ok (.iaload, 1) := by decide +kernel
theorem d_S_startOf_17 : decode b_S_startOf 17 = .ok (.ireturn, 1) := by decide +kernel
theorem d_S_size_0 : decode b_S_size 0 = .ok (.aload_n 0, 1) := by decide +kernel
theorem d_S_size_1 : decode b_S_size 1 = .ok (.iload_n 1, 1) := by decide +kernel
theorem d_S_size_2 : decode b_S_size 2 = .ok (.iconst 1, 1) := by decide +kernel
theorem d_S_size_3 : decode b_S_size 3 = .ok (.iadd, 1) := by decide +kernel
theorem d_S_size_4 : decode b_S_size 4 = .ok (.invokevirtual 31, 3) := by decide +kernel
theorem d_S_size_7 : decode b_S_size 7 = .ok (.aload_n 0, 1) := by decide +kernel
theorem d_S_size_8 : decode b_S_size 8 = .ok (.iload_n 1, 1) := by decide +kernel
theorem d_S_size_9 : decode b_S_size 9 = .ok (.invokevirtual 31, 3) := by decide +kernel
theorem d_S_size_12 : decode b_S_size 12 = .ok (.isub, 1) := by decide +kernel
theorem d_S_size_13 : decode b_S_size 13 = .ok (.ireturn, 1) := by decide +kernel
theorem d_S_wordOf_0 : decode b_S_wordOf 0 = .ok (.iload_n 2, 1) := by decide +kernel
theorem d_S_wordOf_1 : decode b_S_wordOf 1 = .ok (.ifCond .lt 12, 3) := by decide +kernel
theorem d_S_wordOf_4 : decode b_S_wordOf 4 = .ok (.iload_n 2, 1) := by decide +kernel
theorem d_S_wordOf_5 : decode b_S_wordOf 5 = .ok (.aload_n 0, 1) := by decide +kernel
theorem d_S_wordOf_6 : decode b_S_wordOf 6 = .ok (.iload_n 1, 1) := by decide +kernel
theorem d_S_wordOf_7 : decode b_S_wordOf 7 = .ok (.invokevirtual 35, 3) := by decide +kernel
theorem d_S_wordOf_10 : decode b_S_wordOf 10 = .ok (.if_icmp .lt 7, 3) := by decide +kernel
theorem d_S_wordOf_13 : decode b_S_wordOf 13 = .ok (.iconst 0, 1) := by decide +kernel
theorem d_S_wordOf_14 : decode b_S_wordOf 14 = .ok (.goto 15, 3) := by decide +kernel
theorem d_S_wordOf_17 : decode b_S_wordOf 17 = .ok (.aload_n 0, 1) := by decide +kernel
theorem d_S_wordOf_18 : decode b_S_wordOf 18 = .ok (.getfield 15, 3) := by decide +kernel
theorem d_S_wordOf_21 : decode b_S_wordOf 21 = .ok (.aload_n 0, 1) := by decide +kernel
theorem d_S_wordOf_22 : decode b_S_wordOf 22 = .ok (.iload_n 1, 1) := by decide +kernel
theorem d_S_wordOf_23 : decode b_S_wordOf 23 = .ok (.invokevirtual 31, 3) := by decide +kernel
theorem d_S_wordOf_26 : decode b_S_wordOf 26 = .ok (.iload_n 2, 1) := by decide +kernel
theorem d_S_wordOf_27 : decode b_S_wordOf 27 = .ok (.iadd, 1) := by decide +kernel
theorem d_S_wordOf_28 : decode b_S_wordOf 28 = .ok (.iaload, 1) := by decide +kernel
theorem d_S_wordOf_29 : decode b_S_wordOf 29 = .ok (.ireturn, 1) := by decide +kernel
theorem d_S_rowsOf_0 : decode b_S_rowsOf 0 = .ok (.iconst 0, 1) := by decide +kernel
theorem d_S_rowsOf_1 : decode b_S_rowsOf 1 = .ok (.istore_n 2, 1) := by decide +kernel
theorem d_S_rowsOf_2 : decode b_S_rowsOf 2 = .ok (.aload_n 0, 1) := by decide +kernel
theorem d_S_rowsOf_3 : decode b_S_rowsOf 3 = .ok (.iload_n 1, 1) := by decide +kernel
theorem d_S_rowsOf_4 : decode b_S_rowsOf 4 = .ok (.iconst 1, 1) := by decide +kernel
theorem d_S_rowsOf_5 : decode b_S_rowsOf 5 = .ok (.iadd, 1) := by decide +kernel
theorem d_S_rowsOf_6 : decode b_S_rowsOf 6 = .ok (.invokevirtual 31, 3) := by decide +kernel
theorem d_S_rowsOf_9 : decode b_S_rowsOf 9 = .ok (.istore_n 3, 1) := by decide +kernel
theorem d_S_rowsOf_10 : decode b_S_rowsOf 10 = .ok (.aload_n 0, 1) := by decide +kernel
theorem d_S_rowsOf_11 : decode b_S_rowsOf 11 = .ok (.iload_n 1, 1) := by decide +kernel
theorem d_S_rowsOf_12 : decode b_S_rowsOf 12 = .ok (.invokevirtual 31, 3) := by decide +kernel
theorem d_S_rowsOf_15 : decode b_S_rowsOf 15 = .ok (.istore 4, 2) := by decide +kernel
theorem d_S_rowsOf_17 : decode b_S_rowsOf 17 = .ok (.iload 4, 2) := by decide +kernel
theorem d_S_rowsOf_19 : decode b_S_rowsOf 19 = .ok (.iload_n 3, 1) := by decide +kernel
theorem d_S_rowsOf_20 : decode b_S_rowsOf 20 = .ok (.if_icmp .ge 36, 3) := by decide +kernel
theorem d_S_rowsOf_23 : decode b_S_rowsOf 23 = .ok (.iload_n 2, 1) := by decide +kernel
theorem d_S_rowsOf_24 : decode b_S_rowsOf 24 = .ok (.aload_n 0, 1) := by decide +kernel
theorem d_S_rowsOf_25 : decode b_S_rowsOf 25 = .ok (.getfield 15, 3) := by decide +kernel
theorem d_S_rowsOf_28 : decode b_S_rowsOf 28 = .ok (.iload 4, 2) := by decide +kernel
theorem d_S_rowsOf_30 : decode b_S_rowsOf 30 = .ok (.iaload, 1) := by decide +kernel
theorem d_S_rowsOf_31 : decode b_S_rowsOf 31 = .ok (.invokestatic 38, 3) := by decide +kernel
theorem d_S_rowsOf_34 : decode b_S_rowsOf 34 = .ok (.invokestatic 41, 3) := by decide +kernel
theorem d_S_rowsOf_37 : decode b_S_rowsOf 37 = .ok (.aload_n 0, 1) := by decide +kernel
theorem d_S_rowsOf_38 : decode b_S_rowsOf 38 = .ok (.getfield 15, 3) := by decide +kernel
theorem d_S_rowsOf_41 : decode b_S_rowsOf 41 = .ok (.iload 4, 2) := by decide +kernel
theorem d_S_rowsOf_43 : decode b_S_rowsOf 43 = .ok (.iaload, 1) := by decide +kernel
theorem d_S_rowsOf_44 : decode b_S_rowsOf 44 = .ok (.invokestatic 46, 3) := by decide +kernel
theorem d_S_rowsOf_47 : decode b_S_rowsOf 47 = .ok (.imul, 1) := by decide +kernel
theorem d_S_rowsOf_48 : decode b_S_rowsOf 48 = .ok (.iadd, 1) := by decide +kernel
theorem d_S_rowsOf_49 : decode b_S_rowsOf 49 = .ok (.istore_n 2, 1) := by decide +kernel
theorem d_S_rowsOf_50 : decode b_S_rowsOf 50 = .ok (.iinc 4 1, 3) := by decide +kernel
theorem d_S_rowsOf_53 : decode b_S_rowsOf 53 = .ok (.goto (-36), 3) := by decide +kernel
theorem d_S_rowsOf_56 : decode b_S_rowsOf 56 = .ok (.iload_n 2, 1) := by decide +kernel
theorem d_S_rowsOf_57 : decode b_S_rowsOf 57 = .ok (.ireturn, 1) := by decide +kernel
theorem d_S_firstFrom_0 : decode b_S_firstFrom 0 = .ok (.aload_n 0, 1) := by decide +kernel
theorem d_S_firstFrom_1 : decode b_S_firstFrom 1 = .ok (.iload_n 1, 1) := by decide +kernel
theorem d_S_firstFrom_2 : decode b_S_firstFrom 2 = .ok (.iconst 1, 1) := by decide +kernel
theorem d_S_firstFrom_3 : decode b_S_firstFrom 3 = .ok (.iadd, 1) := by decide +kernel
theorem d_S_firstFrom_4 : decode b_S_firstFrom 4 = .ok (.invokevirtual 31, 3) := by decide +kernel
theorem d_S_firstFrom_7 : decode b_S_firstFrom 7 = .ok (.istore_n 3, 1) := by decide +kernel
theorem d_S_firstFrom_8 : decode b_S_firstFrom 8 = .ok (.iconst 0, 1) := by decide +kernel
theorem d_S_firstFrom_9 : decode b_S_firstFrom 9 = .ok (.istore 4, 2) := by decide +kernel
theorem d_S_firstFrom_11 : decode b_S_firstFrom 11 = .ok (.aload_n 0, 1) := by decide +kernel
theorem d_S_firstFrom_12 : decode b_S_firstFrom 12 = .ok (.iload_n 1, 1) := by decide +kernel
theorem d_S_firstFrom_13 : decode b_S_firstFrom 13 = .ok (.invokevirtual 31, 3) := by decide +kernel
theorem d_S_firstFrom_16 : decode b_S_firstFrom 16 = .ok (.istore 5, 2) := by decide +kernel
theorem d_S_firstFrom_18 : decode b_S_firstFrom 18 = .ok (.iload 5, 2) := by decide +kernel
theorem d_S_firstFrom_20 : decode b_S_firstFrom 20 = .ok (.iload_n 3, 1) := by decide +kernel
theorem d_S_firstFrom_21 : decode b_S_firstFrom 21 = .ok (.if_icmp .ge 72, 3) := by decide +kernel
theorem d_S_firstFrom_24 : decode b_S_firstFrom 24 = .ok (.iload 4, 2) := by decide +kernel
theorem d_S_firstFrom_26 : decode b_S_firstFrom 26 = .ok (.aload_n 0, 1) := by decide +kernel
theorem d_S_firstFrom_27 : decode b_S_firstFrom 27 = .ok (.getfield 15, 3) := by decide +kernel
theorem d_S_firstFrom_30 : decode b_S_firstFrom 30 = .ok (.iload 5, 2) := by decide +kernel
theorem d_S_firstFrom_32 : decode b_S_firstFrom 32 = .ok (.iaload, 1) := by decide +kernel
theorem d_S_firstFrom_33 : decode b_S_firstFrom 33 = .ok (.invokestatic 46, 3) := by decide +kernel
theorem d_S_firstFrom_36 : decode b_S_firstFrom 36 = .ok (.bipush 31, 2) := by decide +kernel
theorem d_S_firstFrom_38 : decode b_S_firstFrom 38 = .ok (.imul, 1) := by decide +kernel
theorem d_S_firstFrom_39 : decode b_S_firstFrom 39 = .ok (.iadd, 1) := by decide +kernel
theorem d_S_firstFrom_40 : decode b_S_firstFrom 40 = .ok (.istore 6, 2) := by decide +kernel
theorem d_S_firstFrom_42 : decode b_S_firstFrom 42 = .ok (.iload_n 2, 1) := by decide +kernel
theorem d_S_firstFrom_43 : decode b_S_firstFrom 43 = .ok (.iload 6, 2) := by decide +kernel
theorem d_S_firstFrom_45 : decode b_S_firstFrom 45 = .ok (.if_icmp .ge 24, 3) := by decide +kernel
theorem d_S_firstFrom_48 : decode b_S_firstFrom 48 = .ok (.aload_n 0, 1) := by decide +kernel
theorem d_S_firstFrom_49 : decode b_S_firstFrom 49 = .ok (.getfield 15, 3) := by decide +kernel
theorem d_S_firstFrom_52 : decode b_S_firstFrom 52 = .ok (.iload 5, 2) := by decide +kernel
theorem d_S_firstFrom_54 : decode b_S_firstFrom 54 = .ok (.iaload, 1) := by decide +kernel
theorem d_S_firstFrom_55 : decode b_S_firstFrom 55 = .ok (.iload_n 2, 1) := by decide +kernel
theorem d_S_firstFrom_56 : decode b_S_firstFrom 56 = .ok (.iload 4, 2) := by decide +kernel
theorem d_S_firstFrom_58 : decode b_S_firstFrom 58 = .ok (.isub, 1) := by decide +kernel
theorem d_S_firstFrom_59 : decode b_S_firstFrom 59 = .ok (.iconst 0, 1) := by decide +kernel
theorem d_S_firstFrom_60 : decode b_S_firstFrom 60 = .ok (.invokestatic 28, 3) := by decide +kernel
theorem d_S_firstFrom_63 : decode b_S_firstFrom 63 = .ok (.invokestatic 49, 3) := by decide +kernel
theorem d_S_firstFrom_66 : decode b_S_firstFrom 66 = .ok (.goto 4, 3) := by decide +kernel
theorem d_S_firstFrom_69 : decode b_S_firstFrom 69 = .ok (.iconst (-1), 1) := by decide +kernel
theorem d_S_firstFrom_70 : decode b_S_firstFrom 70 = .ok (.istore 7, 2) := by decide +kernel
theorem d_S_firstFrom_72 : decode b_S_firstFrom 72 = .ok (.iload 7, 2) := by decide +kernel
theorem d_S_firstFrom_74 : decode b_S_firstFrom 74 = .ok (.ifCond .lt 9, 3) := by decide +kernel
theorem d_S_firstFrom_77 : decode b_S_firstFrom 77 = .ok (.iload 4, 2) := by decide +kernel
theorem d_S_firstFrom_79 : decode b_S_firstFrom 79 = .ok (.iload 7, 2) := by decide +kernel
theorem d_S_firstFrom_81 : decode b_S_firstFrom 81 = .ok (.iadd, 1) := by decide +kernel
theorem d_S_firstFrom_82 : decode b_S_firstFrom 82 = .ok (.ireturn, 1) := by decide +kernel
theorem d_S_firstFrom_83 : decode b_S_firstFrom 83 = .ok (.iload 6, 2) := by decide +kernel
theorem d_S_firstFrom_85 : decode b_S_firstFrom 85 = .ok (.istore 4, 2) := by decide +kernel
theorem d_S_firstFrom_87 : decode b_S_firstFrom 87 = .ok (.iinc 5 1, 3) := by decide +kernel
theorem d_S_firstFrom_90 : decode b_S_firstFrom 90 = .ok (.goto (-72), 3) := by decide +kernel
theorem d_S_firstFrom_93 : decode b_S_firstFrom 93 = .ok (.iconst (-1), 1) := by decide +kernel
theorem d_S_firstFrom_94 : decode b_S_firstFrom 94 = .ok (.ireturn, 1) := by decide +kernel
theorem d_S_firstInWord_0 : decode b_S_firstInWord 0 = .ok (.iload_n 0, 1) := by decide +kernel
theorem d_S_firstInWord_1 : decode b_S_firstInWord 1 = .ok (.invokestatic 38, 3) := by decide +kernel
theorem d_S_firstInWord_4 : decode b_S_firstInWord 4 = .ok (.istore_n 2, 1) := by decide +kernel
theorem d_S_firstInWord_5 : decode b_S_firstInWord 5 = .ok (.iload_n 2, 1) := by decide +kernel
theorem d_S_firstInWord_6 : decode b_S_firstInWord 6 = .ok (.ldc 52, 2) := by decide +kernel
theorem d_S_firstInWord_8 : decode b_S_firstInWord 8 = .ok (.if_icmp .ne 5, 3) := by decide +kernel
theorem d_S_firstInWord_11 : decode b_S_firstInWord 11 = .ok (.iload_n 1, 1) := by decide +kernel
theorem d_S_firstInWord_12 : decode b_S_firstInWord 12 = .ok (.ireturn, 1) := by decide +kernel
theorem d_S_firstInWord_13 : decode b_S_firstInWord 13 = .ok (.iload_n 2, 1) := by decide +kernel
theorem d_S_firstInWord_14 : decode b_S_firstInWord 14 = .ok (.iload_n 1, 1) := by decide +kernel
theorem d_S_firstInWord_15 : decode b_S_firstInWord 15 = .ok (.invokestatic 53, 3) := by decide +kernel
theorem d_S_firstInWord_18 : decode b_S_firstInWord 18 = .ok (.iconst (-1), 1) := by decide +kernel
theorem d_S_firstInWord_19 : decode b_S_firstInWord 19 = .ok (.ixor, 1) := by decide +kernel
theorem d_S_firstInWord_20 : decode b_S_firstInWord 20 = .ok (.iand, 1) := by decide +kernel
theorem d_S_firstInWord_21 : decode b_S_firstInWord 21 = .ok (.istore_n 3, 1) := by decide +kernel
theorem d_S_firstInWord_22 : decode b_S_firstInWord 22 = .ok (.iload_n 3, 1) := by decide +kernel
theorem d_S_firstInWord_23 : decode b_S_firstInWord 23 = .ok (.ifCond .ne 7, 3) := by decide +kernel
theorem d_S_firstInWord_26 : decode b_S_firstInWord 26 = .ok (.iconst (-1), 1) := by decide +kernel
theorem d_S_firstInWord_27 : decode b_S_firstInWord 27 = .ok (.goto 7, 3) := by decide +kernel
theorem d_S_firstInWord_30 : decode b_S_firstInWord 30 = .ok (.iload_n 3, 1) := by decide +kernel
theorem d_S_firstInWord_31 : decode b_S_firstInWord 31 = .ok (.invokestatic 56, 3) := by decide +kernel
theorem d_S_firstInWord_34 : decode b_S_firstInWord 34 = .ok (.ireturn, 1) := by decide +kernel
theorem d_S_addSet_0 : decode b_S_addSet 0 = .ok (.aload_n 1, 1) := by decide +kernel
theorem d_S_addSet_1 : decode b_S_addSet 1 = .ok (.iload_n 2, 1) := by decide +kernel
theorem d_S_addSet_2 : decode b_S_addSet 2 = .ok (.invokevirtual 35, 3) := by decide +kernel
theorem d_S_addSet_5 : decode b_S_addSet 5 = .ok (.istore_n 3, 1) := by decide +kernel
theorem d_S_addSet_6 : decode b_S_addSet 6 = .ok (.aload_n 0, 1) := by decide +kernel
theorem d_S_addSet_7 : decode b_S_addSet 7 = .ok (.getfield 9, 3) := by decide +kernel
theorem d_S_addSet_10 : decode b_S_addSet 10 = .ok (.ifCond .le 51, 3) := by decide +kernel
theorem d_S_addSet_13 : decode b_S_addSet 13 = .ok (.iload_n 3, 1) := by decide +kernel
theorem d_S_addSet_14 : decode b_S_addSet 14 = .ok (.aload_n 0, 1) := by decide +kernel
theorem d_S_addSet_15 : decode b_S_addSet 15 = .ok (.getfield 15, 3) := by decide +kernel
theorem d_S_addSet_18 : decode b_S_addSet 18 = .ok (.arraylength, 1) := by decide +kernel
theorem d_S_addSet_19 : decode b_S_addSet 19 = .ok (.aload_n 0, 1) := by decide +kernel
theorem d_S_addSet_20 : decode b_S_addSet 20 = .ok (.invokevirtual 59, 3) := by decide +kernel
theorem d_S_addSet_23 : decode b_S_addSet 23 = .ok (.isub, 1) := by decide +kernel
theorem d_S_addSet_24 : decode b_S_addSet 24 = .ok (.if_icmp .gt 37, 3) := by decide +kernel
theorem d_S_addSet_27 : decode b_S_addSet 27 = .ok (.aload_n 1, 1) := by decide +kernel
theorem d_S_addSet_28 : decode b_S_addSet 28 = .ok (.getfield 15, 3) := by decide +kernel
theorem d_S_addSet_31 : decode b_S_addSet 31 = .ok (.aload_n 1, 1) := by decide +kernel
theorem d_S_addSet_32 : decode b_S_addSet 32 = .ok (.iload_n 2, 1) := by decide +kernel
theorem d_S_addSet_33 : decode b_S_addSet 33 = .ok (.invokevirtual 31, 3) := by decide +kernel
theorem d_S_addSet_36 : decode b_S_addSet 36 = .ok (.aload_n 0, 1) := by decide +kernel
theorem d_S_addSet_37 : decode b_S_addSet 37 = .ok (.getfield 15, 3) := by decide +kernel
theorem d_S_addSet_40 : decode b_S_addSet 40 = .ok (.aload_n 0, 1) := by decide +kernel
theorem d_S_addSet_41 : decode b_S_addSet 41 = .ok (.invokevirtual 59, 3) := by decide +kernel
theorem d_S_addSet_44 : decode b_S_addSet 44 = .ok (.iload_n 3, 1) := by decide +kernel
theorem d_S_addSet_45 : decode b_S_addSet 45 = .ok (.invokestatic 63, 3) := by decide +kernel
theorem d_S_addSet_48 : decode b_S_addSet 48 = .ok (.aload_n 0, 1) := by decide +kernel
theorem d_S_addSet_49 : decode b_S_addSet 49 = .ok (.getfield 19, 3) := by decide +kernel
theorem d_S_addSet_52 : decode b_S_addSet 52 = .ok (.aload_n 0, 1) := by decide +kernel
theorem d_S_addSet_53 : decode b_S_addSet 53 = .ok (.getfield 9, 3) := by decide +kernel
theorem d_S_addSet_56 : decode b_S_addSet 56 = .ok (.dup2, 1) := by decide +kernel
theorem d_S_addSet_57 : decode b_S_addSet 57 = .ok (.iaload, 1) := by decide +kernel
theorem d_S_addSet_58 : decode b_S_addSet 58 = .ok (.iload_n 3, 1) := by decide +kernel
theorem d_S_addSet_59 : decode b_S_addSet 59 = .ok (.iadd, 1) := by decide +kernel
theorem d_S_addSet_60 : decode b_S_addSet 60 = .ok (.iastore, 1) := by decide +kernel
theorem d_S_addSet_61 : decode b_S_addSet 61 = .ok (.return_, 1) := by decide +kernel
theorem d_S_addRows_0 : decode b_S_addRows 0 = .ok (.iload_n 1, 1) := by decide +kernel
theorem d_S_addRows_1 : decode b_S_addRows 1 = .ok (.ifCond .eq 8, 3) := by decide +kernel
theorem d_S_addRows_4 : decode b_S_addRows 4 = .ok (.ldc 52, 2) := by decide +kernel
theorem d_S_addRows_6 : decode b_S_addRows 6 = .ok (.goto 4, 3) := by decide +kernel
theorem d_S_addRows_9 : decode b_S_addRows 9 = .ok (.iconst 0, 1) := by decide +kernel
theorem d_S_addRows_10 : decode b_S_addRows 10 = .ok (.istore 4, 2) := by decide +kernel
theorem d_S_addRows_12 : decode b_S_addRows 12 = .ok (.iload_n 3, 1) := by decide +kernel
theorem d_S_addRows_13 : decode b_S_addRows 13 = .ok (.istore 5, 2) := by decide +kernel
theorem d_S_addRows_15 : decode b_S_addRows 15 = .ok (.iload_n 2, 1) := by decide +kernel
theorem d_S_addRows_16 : decode b_S_addRows 16 = .ok (.ifCond .le 40, 3) := by decide +kernel
theorem d_S_addRows_19 : decode b_S_addRows 19 = .ok (.bipush 31, 2) := by decide +kernel
theorem d_S_addRows_21 : decode b_S_addRows 21 = .ok (.iload_n 2, 1) := by decide +kernel
theorem d_S_addRows_22 : decode b_S_addRows 22 = .ok (.isub, 1) := by decide +kernel
theorem d_S_addRows_23 : decode b_S_addRows 23 = .ok (.iload_n 3, 1) := by decide +kernel
theorem d_S_addRows_24 : decode b_S_addRows 24 = .ok (.invokestatic 22, 3) := by decide +kernel
theorem d_S_addRows_27 : decode b_S_addRows 27 = .ok (.istore 6, 2) := by decide +kernel
theorem d_S_addRows_29 : decode b_S_addRows 29 = .ok (.aload_n 0, 1) := by decide +kernel
theorem d_S_addRows_30 : decode b_S_addRows 30 = .ok (.aload_n 0, 1) := by decide +kernel
theorem d_S_addRows_31 : decode b_S_addRows 31 = .ok (.invokevirtual 69, 3) := by decide +kernel
theorem d_S_addRows_34 : decode b_S_addRows 34 = .ok (.iload 4, 2) := by decide +kernel
theorem d_S_addRows_36 : decode b_S_addRows 36 = .ok (.iload 6, 2) := by decide +kernel
theorem d_S_addRows_38 : decode b_S_addRows 38 = .ok (.invokestatic 53, 3) := by decide +kernel
theorem d_S_addRows_41 : decode b_S_addRows 41 = .ok (.iand, 1) := by decide +kernel
theorem d_S_addRows_42 : decode b_S_addRows 42 = .ok (.iload_n 2, 1) := by decide +kernel
theorem d_S_addRows_43 : decode b_S_addRows 43 = .ok (.ishl, 1) := by decide +kernel
theorem d_S_addRows_44 : decode b_S_addRows 44 = .ok (.ior, 1) := by decide +kernel
theorem d_S_addRows_45 : decode b_S_addRows 45 = .ok (.iconst 1, 1) := by decide +kernel
theorem d_S_addRows_46 : decode b_S_addRows 46 = .ok (.invokevirtual 72, 3) := by decide +kernel
theorem d_S_addRows_49 : decode b_S_addRows 49 = .ok (.iload 5, 2) := by decide +kernel
theorem d_S_addRows_51 : decode b_S_addRows 51 = .ok (.iload 6, 2) := by decide +kernel
theorem d_S_addRows_53 : decode b_S_addRows 53 = .ok (.isub, 1) := by decide +kernel
theorem d_S_addRows_54 : decode b_S_addRows 54 = .ok (.istore 5, 2) := by decide +kernel
theorem d_S_addRows_56 : decode b_S_addRows 56 = .ok (.aload_n 0, 1) := by decide +kernel
theorem d_S_addRows_57 : decode b_S_addRows 57 = .ok (.iload 4, 2) := by decide +kernel
theorem d_S_addRows_59 : decode b_S_addRows 59 = .ok (.iload 5, 2) := by decide +kernel
theorem d_S_addRows_61 : decode b_S_addRows 61 = .ok (.bipush 31, 2) := by decide +kernel
theorem d_S_addRows_63 : decode b_S_addRows 63 = .ok (.idiv, 1) := by decide +kernel
theorem d_S_addRows_64 : decode b_S_addRows 64 = .ok (.invokevirtual 72, 3) := by decide +kernel
theorem d_S_addRows_67 : decode b_S_addRows 67 = .ok (.iload 5, 2) := by decide +kernel
theorem d_S_addRows_69 : decode b_S_addRows 69 = .ok (.bipush 31, 2) := by decide +kernel
theorem d_S_addRows_71 : decode b_S_addRows 71 = .ok (.irem, 1) := by decide +kernel
theorem d_S_addRows_72 : decode b_S_addRows 72 = .ok (.ifCond .le 19, 3) := by decide +kernel
theorem d_S_addRows_75 : decode b_S_addRows 75 = .ok (.aload_n 0, 1) := by decide +kernel
theorem d_S_addRows_76 : decode b_S_addRows 76 = .ok (.iload 4, 2) := by decide +kernel
theorem d_S_addRows_78 : decode b_S_addRows 78 = .ok (.iload 5, 2) := by decide +kernel
theorem d_S_addRows_80 : decode b_S_addRows 80 = .ok (.bipush 31, 2) := by decide +kernel
theorem d_S_addRows_82 : decode b_S_addRows 82 = .ok (.irem, 1) := by decide +kernel
theorem d_S_addRows_83 : decode b_S_addRows 83 = .ok (.invokestatic 53, 3) := by decide +kernel
theorem d_S_addRows_86 : decode b_S_addRows 86 = .ok (.iand, 1) := by decide +kernel
theorem d_S_addRows_87 : decode b_S_addRows 87 = .ok (.iconst 1, 1) := by decide +kernel
theorem d_S_addRows_88 : decode b_S_addRows 88 = .ok (.invokevirtual 72, 3) := by decide +kernel
theorem d_S_addRows_91 : decode b_S_addRows 91 = .ok (.return_, 1) := by decide +kernel
theorem d_S_addJoined_0 : decode b_S_addJoined 0 = .ok (.aload_n 1, 1) := by decide +kernel
theorem d_S_addJoined_1 : decode b_S_addJoined 1 = .ok (.iload_n 2, 1) := by decide +kernel
theorem d_S_addJoined_2 : decode b_S_addJoined 2 = .ok (.invokevirtual 31, 3) := by decide +kernel
theorem d_S_addJoined_5 : decode b_S_addJoined 5 = .ok (.istore 5, 2) := by decide +kernel
theorem d_S_addJoined_7 : decode b_S_addJoined 7 = .ok (.aload_n 1, 1) := by decide +kernel
theorem d_S_addJoined_8 : decode b_S_addJoined 8 = .ok (.iload_n 3, 1) := by decide +kernel
theorem d_S_addJoined_9 : decode b_S_addJoined 9 = .ok (.invokevirtual 31, 3) := by decide +kernel
theorem d_S_addJoined_12 : decode b_S_addJoined 12 = .ok (.istore 6, 2) := by decide +kernel
theorem d_S_addJoined_14 : decode b_S_addJoined 14 = .ok (.aload_n 1, 1) := by decide +kernel
theorem d_S_addJoined_15 : decode b_S_addJoined 15 = .ok (.iload_n 2, 1) := by decide +kernel
theorem d_S_addJoined_16 : decode b_S_addJoined 16 = .ok (.iconst 1, 1) := by decide +kernel
theorem d_S_addJoined_17 : decode b_S_addJoined 17 = .ok (.iadd, 1) := by decide +kernel
theorem d_S_addJoined_18 : decode b_S_addJoined 18 = .ok (.invokevirtual 31, 3) := by decide +kernel
theorem d_S_addJoined_21 : decode b_S_addJoined 21 = .ok (.istore 7, 2) := by decide +kernel
theorem d_S_addJoined_23 : decode b_S_addJoined 23 = .ok (.aload_n 1, 1) := by decide +kernel
theorem d_S_addJoined_24 : decode b_S_addJoined 24 = .ok (.iload_n 3, 1) := by decide +kernel
theorem d_S_addJoined_25 : decode b_S_addJoined 25 = .ok (.iconst 1, 1) := by decide +kernel
theorem d_S_addJoined_26 : decode b_S_addJoined 26 = .ok (.iadd, 1) := by decide +kernel
theorem d_S_addJoined_27 : decode b_S_addJoined 27 = .ok (.invokevirtual 31, 3) := by decide +kernel
theorem d_S_addJoined_30 : decode b_S_addJoined 30 = .ok (.istore 8, 2) := by decide +kernel
theorem d_S_addJoined_32 : decode b_S_addJoined 32 = .ok (.aload_n 1, 1) := by decide +kernel
theorem d_S_addJoined_33 : decode b_S_addJoined 33 = .ok (.iload 5, 2) := by decide +kernel
theorem d_S_addJoined_35 : decode b_S_addJoined 35 = .ok (.invokevirtual 76, 3) := by decide +kernel
theorem d_S_addJoined_38 : decode b_S_addJoined 38 = .ok (.istore 9, 2) := by decide +kernel
theorem d_S_addJoined_40 : decode b_S_addJoined 40 = .ok (.aload_n 1, 1) := by decide +kernel
theorem d_S_addJoined_41 : decode b_S_addJoined 41 = .ok (.iload 6, 2) := by decide +kernel
theorem d_S_addJoined_43 : decode b_S_addJoined 43 = .ok (.invokevirtual 76, 3) := by decide +kernel
theorem d_S_addJoined_46 : decode b_S_addJoined 46 = .ok (.istore 10, 2) := by decide +kernel
theorem d_S_addJoined_48 : decode b_S_addJoined 48 = .ok (.iload 7, 2) := by decide +kernel
theorem d_S_addJoined_50 : decode b_S_addJoined 50 = .ok (.iload 5, 2) := by decide +kernel
theorem d_S_addJoined_52 : decode b_S_addJoined 52 = .ok (.isub, 1) := by decide +kernel
theorem d_S_addJoined_53 : decode b_S_addJoined 53 = .ok (.iload 8, 2) := by decide +kernel
theorem d_S_addJoined_55 : decode b_S_addJoined 55 = .ok (.iadd, 1) := by decide +kernel
theorem d_S_addJoined_56 : decode b_S_addJoined 56 = .ok (.iload 6, 2) := by decide +kernel
theorem d_S_addJoined_58 : decode b_S_addJoined 58 = .ok (.isub, 1) := by decide +kernel
theorem d_S_addJoined_59 : decode b_S_addJoined 59 = .ok (.istore 11, 2) := by decide +kernel
theorem d_S_addJoined_61 : decode b_S_addJoined 61 = .ok (.iconst 0, 1) := by decide +kernel
theorem d_S_addJoined_62 : decode b_S_addJoined 62 = .ok (.istore 12, 2) := by decide +kernel
theorem d_S_addJoined_64 : decode b_S_addJoined 64 = .ok (.iload 12, 2) := by decide +kernel
theorem d_S_addJoined_66 : decode b_S_addJoined 66 = .ok (.iload 11, 2) := by decide +kernel
theorem d_S_addJoined_68 : decode b_S_addJoined 68 = .ok (.if_icmp .ge 109, 3) := by decide +kernel
theorem d_S_addJoined_71 : decode b_S_addJoined 71 = .ok (.iload 5, 2) := by decide +kernel
theorem d_S_addJoined_73 : decode b_S_addJoined 73 = .ok (.iload 7, 2) := by decide +kernel
theorem d_S_addJoined_75 : decode b_S_addJoined 75 = .ok (.if_icmp .ge 102, 3) := by decide +kernel
theorem d_S_addJoined_78 : decode b_S_addJoined 78 = .ok (.iload 6, 2) := by decide +kernel
theorem d_S_addJoined_80 : decode b_S_addJoined 80 = .ok (.iload 8, 2) := by decide +kernel
theorem d_S_addJoined_82 : decode b_S_addJoined 82 = .ok (.if_icmp .ge 95, 3) := by decide +kernel
theorem d_S_addJoined_85 : decode b_S_addJoined 85 = .ok (.iload 9, 2) := by decide +kernel
theorem d_S_addJoined_87 : decode b_S_addJoined 87 = .ok (.iload 10, 2) := by decide +kernel
theorem d_S_addJoined_89 : decode b_S_addJoined 89 = .ok (.invokestatic 22, 3) := by decide +kernel
theorem d_S_addJoined_92 : decode b_S_addJoined 92 = .ok (.istore 13, 2) := by decide +kernel
theorem d_S_addJoined_94 : decode b_S_addJoined 94 = .ok (.aload_n 0, 1) := by decide +kernel
theorem d_S_addJoined_95 : decode b_S_addJoined 95 = .ok (.iload 4, 2) := by decide +kernel
theorem d_S_addJoined_97 : decode b_S_addJoined 97 = .ok (.aload_n 1, 1) := by decide +kernel
theorem d_S_addJoined_98 : decode b_S_addJoined 98 = .ok (.getfield 15, 3) := by decide +kernel
theorem d_S_addJoined_101 : decode b_S_addJoined 101 = .ok (.iload 5, 2) := by decide +kernel
theorem d_S_addJoined_103 : decode b_S_addJoined 103 = .ok (.iaload, 1) := by decide +kernel
theorem d_S_addJoined_104 : decode b_S_addJoined 104 = .ok (.invokestatic 38, 3) := by decide +kernel
theorem d_S_addJoined_107 : decode b_S_addJoined 107 = .ok (.aload_n 1, 1) := by decide +kernel
theorem d_S_addJoined_108 : decode b_S_addJoined 108 = .ok (.getfield 15, 3) := by decide +kernel
theorem d_S_addJoined_111 : decode b_S_addJoined 111 = .ok (.iload 6, 2) := by decide +kernel
theorem d_S_addJoined_113 : decode b_S_addJoined 113 = .ok (.iaload, 1) := by decide +kernel
theorem d_S_addJoined_114 : decode b_S_addJoined 114 = .ok (.invokestatic 38, 3) := by decide +kernel
theorem d_S_addJoined_117 : decode b_S_addJoined 117 = .ok (.invokestatic 79, 3) := by decide +kernel
theorem d_S_addJoined_120 : decode b_S_addJoined 120 = .ok (.iload 13, 2) := by decide +kernel
theorem d_S_addJoined_122 : decode b_S_addJoined 122 = .ok (.invokevirtual 72, 3) := by decide +kernel
theorem d_S_addJoined_125 : decode b_S_addJoined 125 = .ok (.iload 9, 2) := by decide +kernel
theorem d_S_addJoined_127 : decode b_S_addJoined 127 = .ok (.iload 13, 2) := by decide +kernel
theorem d_S_addJoined_129 : decode b_S_addJoined 129 = .ok (.isub, 1) := by decide +kernel
theorem d_S_addJoined_130 : decode b_S_addJoined 130 = .ok (.istore 9, 2) := by decide +kernel
theorem d_S_addJoined_132 : decode b_S_addJoined 132 = .ok (.iload 10, 2) := by decide +kernel
theorem d_S_addJoined_134 : decode b_S_addJoined 134 = .ok (.iload 13, 2) := by decide +kernel
theorem d_S_addJoined_136 : decode b_S_addJoined 136 = .ok (.isub, 1) := by decide +kernel
theorem d_S_addJoined_137 : decode b_S_addJoined 137 = .ok (.istore 10, 2) := by decide +kernel
theorem d_S_addJoined_139 : decode b_S_addJoined 139 = .ok (.iload 9, 2) := by decide +kernel
theorem d_S_addJoined_141 : decode b_S_addJoined 141 = .ok (.ifCond .ne 14, 3) := by decide +kernel
theorem d_S_addJoined_144 : decode b_S_addJoined 144 = .ok (.iinc 5 1, 3) := by decide +kernel
theorem d_S_addJoined_147 : decode b_S_addJoined 147 = .ok (.aload_n 1, 1) := by decide +kernel
theorem d_S_addJoined_148 : decode b_S_addJoined 148 = .ok (.iload 5, 2) := by decide +kernel
theorem d_S_addJoined_150 : decode b_S_addJoined 150 = .ok (.invokevirtual 76, 3) := by decide +kernel
theorem d_S_addJoined_153 : decode b_S_addJoined 153 = .ok (.istore 9, 2) := by decide +kernel
theorem d_S_addJoined_155 : decode b_S_addJoined 155 = .ok (.iload 10, 2) := by decide +kernel
theorem d_S_addJoined_157 : decode b_S_addJoined 157 = .ok (.ifCond .ne 14, 3) := by decide +kernel
theorem d_S_addJoined_160 : decode b_S_addJoined 160 = .ok (.iinc 6 1, 3) := by decide +kernel
theorem d_S_addJoined_163 : decode b_S_addJoined 163 = .ok (.aload_n 1, 1) := by decide +kernel
theorem d_S_addJoined_164 : decode b_S_addJoined 164 = .ok (.iload 6, 2) := by decide +kernel
theorem d_S_addJoined_166 : decode b_S_addJoined 166 = .ok (.invokevirtual 76, 3) := by decide +kernel
theorem d_S_addJoined_169 : decode b_S_addJoined 169 = .ok (.istore 10, 2) := by decide +kernel
theorem d_S_addJoined_171 : decode b_S_addJoined 171 = .ok (.iinc 12 1, 3) := by decide +kernel
theorem d_S_addJoined_174 : decode b_S_addJoined 174 = .ok (.goto (-110), 3) := by decide +kernel
theorem d_S_addJoined_177 : decode b_S_addJoined 177 = .ok (.return_, 1) := by decide +kernel
theorem d_S_groupsAt_0 : decode b_S_groupsAt 0 = .ok (.iload_n 1, 1) := by decide +kernel
theorem d_S_groupsAt_1 : decode b_S_groupsAt 1 = .ok (.aload_n 0, 1) := by decide +kernel
theorem d_S_groupsAt_2 : decode b_S_groupsAt 2 = .ok (.invokevirtual 59, 3) := by decide +kernel
theorem d_S_groupsAt_5 : decode b_S_groupsAt 5 = .ok (.if_icmp .ge 15, 3) := by decide +kernel
theorem d_S_groupsAt_8 : decode b_S_groupsAt 8 = .ok (.aload_n 0, 1) := by decide +kernel
theorem d_S_groupsAt_9 : decode b_S_groupsAt 9 = .ok (.getfield 15, 3) := by decide +kernel
theorem d_S_groupsAt_12 : decode b_S_groupsAt 12 = .ok (.iload_n 1, 1) := by decide +kernel
theorem d_S_groupsAt_13 : decode b_S_groupsAt 13 = .ok (.iaload, 1) := by decide +kernel
theorem d_S_groupsAt_14 : decode b_S_groupsAt 14 = .ok (.invokestatic 46, 3) := by decide +kernel
theorem d_S_groupsAt_17 : decode b_S_groupsAt 17 = .ok (.goto 4, 3) := by decide +kernel
theorem d_S_groupsAt_20 : decode b_S_groupsAt 20 = .ok (.iconst 0, 1) := by decide +kernel
theorem d_S_groupsAt_21 : decode b_S_groupsAt 21 = .ok (.ireturn, 1) := by decide +kernel
theorem d_S_addOthers_0 : decode b_S_addOthers 0 = .ok (.aload_n 1, 1) := by decide +kernel
theorem d_S_addOthers_1 : decode b_S_addOthers 1 = .ok (.iload_n 2, 1) := by decide +kernel
theorem d_S_addOthers_2 : decode b_S_addOthers 2 = .ok (.iconst 1, 1) := by decide +kernel
theorem d_S_addOthers_3 : decode b_S_addOthers 3 = .ok (.iadd, 1) := by decide +kernel
theorem d_S_addOthers_4 : decode b_S_addOthers 4 = .ok (.invokevirtual 31, 3) := by decide +kernel
theorem d_S_addOthers_7 : decode b_S_addOthers 7 = .ok (.istore 4, 2) := by decide +kernel
theorem d_S_addOthers_9 : decode b_S_addOthers 9 = .ok (.aload_n 1, 1) := by decide +kernel
theorem d_S_addOthers_10 : decode b_S_addOthers 10 = .ok (.iload_n 2, 1) := by decide +kernel
theorem d_S_addOthers_11 : decode b_S_addOthers 11 = .ok (.invokevirtual 31, 3) := by decide +kernel
theorem d_S_addOthers_14 : decode b_S_addOthers 14 = .ok (.istore 5, 2) := by decide +kernel
theorem d_S_addOthers_16 : decode b_S_addOthers 16 = .ok (.iload 5, 2) := by decide +kernel
theorem d_S_addOthers_18 : decode b_S_addOthers 18 = .ok (.iload 4, 2) := by decide +kernel
theorem d_S_addOthers_20 : decode b_S_addOthers 20 = .ok (.if_icmp .ge 36, 3) := by decide +kernel
theorem d_S_addOthers_23 : decode b_S_addOthers 23 = .ok (.aload_n 0, 1) := by decide +kernel
theorem d_S_addOthers_24 : decode b_S_addOthers 24 = .ok (.aload_n 1, 1) := by decide +kernel
theorem d_S_addOthers_25 : decode b_S_addOthers 25 = .ok (.getfield 15, 3) := by decide +kernel
theorem d_S_addOthers_28 : decode b_S_addOthers 28 = .ok (.iload 5, 2) := by decide +kernel
theorem d_S_addOthers_30 : decode b_S_addOthers 30 = .ok (.iaload, 1) := by decide +kernel
theorem d_S_addOthers_31 : decode b_S_addOthers 31 = .ok (.invokestatic 38, 3) := by decide +kernel
theorem d_S_addOthers_34 : decode b_S_addOthers 34 = .ok (.ldc 52, 2) := by decide +kernel
theorem d_S_addOthers_36 : decode b_S_addOthers 36 = .ok (.ixor, 1) := by decide +kernel
theorem d_S_addOthers_37 : decode b_S_addOthers 37 = .ok (.aload_n 1, 1) := by decide +kernel
theorem d_S_addOthers_38 : decode b_S_addOthers 38 = .ok (.getfield 15, 3) := by decide +kernel
theorem d_S_addOthers_41 : decode b_S_addOthers 41 = .ok (.iload 5, 2) := by decide +kernel
theorem d_S_addOthers_43 : decode b_S_addOthers 43 = .ok (.iaload, 1) := by decide +kernel
theorem d_S_addOthers_44 : decode b_S_addOthers 44 = .ok (.invokestatic 46, 3) := by decide +kernel
theorem d_S_addOthers_47 : decode b_S_addOthers 47 = .ok (.invokevirtual 72, 3) := by decide +kernel
theorem d_S_addOthers_50 : decode b_S_addOthers 50 = .ok (.iinc 5 1, 3) := by decide +kernel
theorem d_S_addOthers_53 : decode b_S_addOthers 53 = .ok (.goto (-37), 3) := by decide +kernel
theorem d_S_addOthers_56 : decode b_S_addOthers 56 = .ok (.iload_n 3, 1) := by decide +kernel
theorem d_S_addOthers_57 : decode b_S_addOthers 57 = .ok (.ifCond .le 17, 3) := by decide +kernel
theorem d_S_addOthers_60 : decode b_S_addOthers 60 = .ok (.aload_n 0, 1) := by decide +kernel
theorem d_S_addOthers_61 : decode b_S_addOthers 61 = .ok (.aload_n 0, 1) := by decide +kernel
theorem d_S_addOthers_62 : decode b_S_addOthers 62 = .ok (.invokevirtual 69, 3) := by decide +kernel
theorem d_S_addOthers_65 : decode b_S_addOthers 65 = .ok (.iload_n 3, 1) := by decide +kernel
theorem d_S_addOthers_66 : decode b_S_addOthers 66 = .ok (.invokestatic 53, 3) := by decide +kernel
theorem d_S_addOthers_69 : decode b_S_addOthers 69 = .ok (.iand, 1) := by decide +kernel
theorem d_S_addOthers_70 : decode b_S_addOthers 70 = .ok (.iconst 1, 1) := by decide +kernel
theorem d_S_addOthers_71 : decode b_S_addOthers 71 = .ok (.invokevirtual 72, 3) := by decide +kernel
theorem d_S_addOthers_74 : decode b_S_addOthers 74 = .ok (.return_, 1) := by decide +kernel
theorem d_S_addGroups_0 : decode b_S_addGroups 0 = .ok (.iload_n 2, 1) := by decide +kernel
theorem d_S_addGroups_1 : decode b_S_addGroups 1 = .ok (.iconst 1, 1) := by decide +kernel
theorem d_S_addGroups_2 : decode b_S_addGroups 2 = .ok (.if_icmp .ge 4, 3) := by decide +kernel
theorem d_S_addGroups_5 : decode b_S_addGroups 5 = .ok (.return_, 1) := by decide +kernel
theorem d_S_addGroups_6 : decode b_S_addGroups 6 = .ok (.iload_n 1, 1) := by decide +kernel
theorem d_S_addGroups_7 : decode b_S_addGroups 7 = .ok (.ifCond .eq 15, 3) := by decide +kernel
theorem d_S_addGroups_10 : decode b_S_addGroups 10 = .ok (.iload_n 1, 1) := by decide +kernel
theorem d_S_addGroups_11 : decode b_S_addGroups 11 = .ok (.ldc 52, 2) := by decide +kernel
theorem d_S_addGroups_13 : decode b_S_addGroups 13 = .ok (.if_icmp .eq 9, 3) := by decide +kernel
theorem d_S_addGroups_16 : decode b_S_addGroups 16 = .ok (.aload_n 0, 1) := by decide +kernel
theorem d_S_addGroups_17 : decode b_S_addGroups 17 = .ok (.iload_n 1, 1) := by decide +kernel
theorem d_S_addGroups_18 : decode b_S_addGroups 18 = .ok (.invokevirtual 83, 3) := by decide +kernel
theorem d_S_addGroups_21 : decode b_S_addGroups 21 = .ok (.return_, 1) := by decide +kernel
theorem d_S_addGroups_22 : decode b_S_addGroups 22 = .ok (.aload_n 0, 1) := by decide +kernel
theorem d_S_addGroups_23 : decode b_S_addGroups 23 = .ok (.invokevirtual 87, 3) := by decide +kernel
theorem d_S_addGroups_26 : decode b_S_addGroups 26 = .ok (.istore_n 3, 1) := by decide +kernel
theorem d_S_addGroups_27 : decode b_S_addGroups 27 = .ok (.iload_n 3, 1) := by decide +kernel
theorem d_S_addGroups_28 : decode b_S_addGroups 28 = .ok (.ifCond .ge 35, 3) := by decide +kernel
theorem d_S_addGroups_31 : decode b_S_addGroups 31 = .ok (.iload_n 3, 1) := by decide +kernel
theorem d_S_addGroups_32 : decode b_S_addGroups 32 = .ok (.invokestatic 38, 3) := by decide +kernel
theorem d_S_addGroups_35 : decode b_S_addGroups 35 = .ok (.iload_n 1, 1) := by decide +kernel
theorem d_S_addGroups_36 : decode b_S_addGroups 36 = .ok (.if_icmp .ne 27, 3) := by decide +kernel
theorem d_S_addGroups_39 : decode b_S_addGroups 39 = .ok (.aload_n 0, 1) := by decide +kernel
theorem d_S_addGroups_40 : decode b_S_addGroups 40 = .ok (.getfield 15, 3) := by decide +kernel
theorem d_S_addGroups_43 : decode b_S_addGroups 43 = .ok (.aload_n 0, 1) := by decide +kernel
theorem d_S_addGroups_44 : decode b_S_addGroups 44 = .ok (.invokevirtual 59, 3) := by decide +kernel
theorem d_S_addGroups_47 : decode b_S_addGroups 47 = .ok (.iconst 1, 1) := by decide +kernel
theorem d_S_addGroups_48 : decode b_S_addGroups 48 = .ok (.isub, 1) := by decide +kernel
theorem d_S_addGroups_49 : decode b_S_addGroups 49 = .ok (.iload_n 1, 1) := by decide +kernel
theorem d_S_addGroups_50 : decode b_S_addGroups 50 = .ok (.iload_n 3, 1) := by decide +kernel
theorem d_S_addGroups_51 : decode b_S_addGroups 51 = .ok (.invokestatic 46, 3) := by decide +kernel
theorem d_S_addGroups_54 : decode b_S_addGroups 54 = .ok (.iload_n 2, 1) := by decide +kernel
theorem d_S_addGroups_55 : decode b_S_addGroups 55 = .ok (.iadd, 1) := by decide +kernel
theorem d_S_addGroups_56 : decode b_S_addGroups 56 = .ok (.invokestatic 90, 3) := by decide +kernel
theorem d_S_addGroups_59 : decode b_S_addGroups 59 = .ok (.iastore, 1) := by decide +kernel
theorem d_S_addGroups_60 : decode b_S_addGroups 60 = .ok (.goto 12, 3) := by decide +kernel
theorem d_S_addGroups_63 : decode b_S_addGroups 63 = .ok (.aload_n 0, 1) := by decide +kernel
theorem d_S_addGroups_64 : decode b_S_addGroups 64 = .ok (.iload_n 1, 1) := by decide +kernel
theorem d_S_addGroups_65 : decode b_S_addGroups 65 = .ok (.iload_n 2, 1) := by decide +kernel
theorem d_S_addGroups_66 : decode b_S_addGroups 66 = .ok (.invokestatic 90, 3) := by decide +kernel
theorem d_S_addGroups_69 : decode b_S_addGroups 69 = .ok (.invokevirtual 83, 3) := by decide +kernel
theorem d_S_addGroups_72 : decode b_S_addGroups 72 = .ok (.return_, 1) := by decide +kernel
theorem d_S_takeGroup_0 : decode b_S_takeGroup 0 = .ok (.aload_n 0, 1) := by decide +kernel
theorem d_S_takeGroup_1 : decode b_S_takeGroup 1 = .ok (.invokevirtual 87, 3) := by decide +kernel
theorem d_S_takeGroup_4 : decode b_S_takeGroup 4 = .ok (.istore_n 1, 1) := by decide +kernel
theorem d_S_takeGroup_5 : decode b_S_takeGroup 5 = .ok (.iload_n 1, 1) := by decide +kernel
theorem d_S_takeGroup_6 : decode b_S_takeGroup 6 = .ok (.ifCond .ne 5, 3) := by decide +kernel
theorem d_S_takeGroup_9 : decode b_S_takeGroup 9 = .ok (.iconst 0, 1) := by decide +kernel
theorem d_S_takeGroup_10 : decode b_S_takeGroup 10 = .ok (.ireturn, 1) := by decide +kernel
theorem d_S_takeGroup_11 : decode b_S_takeGroup 11 = .ok (.iload_n 1, 1) := by decide +kernel
theorem d_S_takeGroup_12 : decode b_S_takeGroup 12 = .ok (.invokestatic 46, 3) := by decide +kernel
theorem d_S_takeGroup_15 : decode b_S_takeGroup 15 = .ok (.iconst 1, 1) := by decide +kernel
theorem d_S_takeGroup_16 : decode b_S_takeGroup 16 = .ok (.if_icmp .le 30, 3) := by decide +kernel
theorem d_S_takeGroup_19 : decode b_S_takeGroup 19 = .ok (.aload_n 0, 1) := by decide +kernel
theorem d_S_takeGroup_20 : decode b_S_takeGroup 20 = .ok (.getfield 15, 3) := by decide +kernel
theorem d_S_takeGroup_23 : decode b_S_takeGroup 23 = .ok (.aload_n 0, 1) := by decide +kernel
theorem d_S_takeGroup_24 : decode b_S_takeGroup 24 = .ok (.invokevirtual 59, 3) := by decide +kernel
theorem d_S_takeGroup_27 : decode b_S_takeGroup 27 = .ok (.iconst 1, 1) := by decide +kernel
theorem d_S_takeGroup_28 : decode b_S_takeGroup 28 = .ok (.isub, 1) := by decide +kernel
theorem d_S_takeGroup_29 : decode b_S_takeGroup 29 = .ok (.iload_n 1, 1) := by decide +kernel
theorem d_S_takeGroup_30 : decode b_S_takeGroup 30 = .ok (.invokestatic 38, 3) := by decide +kernel
theorem d_S_takeGroup_33 : decode b_S_takeGroup 33 = .ok (.iload_n 1, 1) := by decide +kernel
theorem d_S_takeGroup_34 : decode b_S_takeGroup 34 = .ok (.invokestatic 46, 3) := by decide +kernel
theorem d_S_takeGroup_37 : decode b_S_takeGroup 37 = .ok (.iconst 1, 1) := by decide +kernel
theorem d_S_takeGroup_38 : decode b_S_takeGroup 38 = .ok (.isub, 1) := by decide +kernel
theorem d_S_takeGroup_39 : decode b_S_takeGroup 39 = .ok (.invokestatic 90, 3) := by decide +kernel
theorem d_S_takeGroup_42 : decode b_S_takeGroup 42 = .ok (.iastore, 1) := by decide +kernel
theorem d_S_takeGroup_43 : decode b_S_takeGroup 43 = .ok (.goto 16, 3) := by decide +kernel
theorem d_S_takeGroup_46 : decode b_S_takeGroup 46 = .ok (.aload_n 0, 1) := by decide +kernel
theorem d_S_takeGroup_47 : decode b_S_takeGroup 47 = .ok (.getfield 19, 3) := by decide +kernel
theorem d_S_takeGroup_50 : decode b_S_takeGroup 50 = .ok (.aload_n 0, 1) := by decide +kernel
theorem d_S_takeGroup_51 : decode b_S_takeGroup 51 = .ok (.getfield 9, 3) := by decide +kernel
theorem d_S_takeGroup_54 : decode b_S_takeGroup 54 = .ok (.dup2, 1) := by decide +kernel
theorem d_S_takeGroup_55 : decode b_S_takeGroup 55 = .ok (.iaload, 1) := by decide +kernel
theorem d_S_takeGroup_56 : decode b_S_takeGroup 56 = .ok (.iconst 1, 1) := by decide +kernel
theorem d_S_takeGroup_57 : decode b_S_takeGroup 57 = .ok (.isub, 1) := by decide +kernel
theorem d_S_takeGroup_58 : decode b_S_takeGroup 58 = .ok (.iastore, 1) := by decide +kernel
theorem d_S_takeGroup_59 : decode b_S_takeGroup 59 = .ok (.iload_n 1, 1) := by decide +kernel
theorem d_S_takeGroup_60 : decode b_S_takeGroup 60 = .ok (.invokestatic 38, 3) := by decide +kernel
theorem d_S_takeGroup_63 : decode b_S_takeGroup 63 = .ok (.ireturn, 1) := by decide +kernel
theorem d_S_lastWord_0 : decode b_S_lastWord 0 = .ok (.aload_n 0, 1) := by decide +kernel
theorem d_S_lastWord_1 : decode b_S_lastWord 1 = .ok (.getfield 9, 3) := by decide +kernel
theorem d_S_lastWord_4 : decode b_S_lastWord 4 = .ok (.iconst 1, 1) := by decide +kernel
theorem d_S_lastWord_5 : decode b_S_lastWord 5 = .ok (.if_icmp .lt 17, 3) := by decide +kernel
theorem d_S_lastWord_8 : decode b_S_lastWord 8 = .ok (.aload_n 0, 1) := by decide +kernel
theorem d_S_lastWord_9 : decode b_S_lastWord 9 = .ok (.aload_n 0, 1) := by decide +kernel
theorem d_S_lastWord_10 : decode b_S_lastWord 10 = .ok (.getfield 9, 3) := by decide +kernel
theorem d_S_lastWord_13 : decode b_S_lastWord 13 = .ok (.iconst 1, 1) := by decide +kernel
theorem d_S_lastWord_14 : decode b_S_lastWord 14 = .ok (.isub, 1) := by decide +kernel
theorem d_S_lastWord_15 : decode b_S_lastWord 15 = .ok (.invokevirtual 35, 3) := by decide +kernel
theorem d_S_lastWord_18 : decode b_S_lastWord 18 = .ok (.iconst 1, 1) := by decide +kernel
theorem d_S_lastWord_19 : decode b_S_lastWord 19 = .ok (.if_icmp .ge 7, 3) := by decide +kernel
theorem d_S_lastWord_22 : decode b_S_lastWord 22 = .ok (.iconst 0, 1) := by decide +kernel
theorem d_S_lastWord_23 : decode b_S_lastWord 23 = .ok (.goto 14, 3) := by decide +kernel
theorem d_S_lastWord_26 : decode b_S_lastWord 26 = .ok (.aload_n 0, 1) := by decide +kernel
theorem d_S_lastWord_27 : decode b_S_lastWord 27 = .ok (.getfield 15, 3) := by decide +kernel
theorem d_S_lastWord_30 : decode b_S_lastWord 30 = .ok (.aload_n 0, 1) := by decide +kernel
theorem d_S_lastWord_31 : decode b_S_lastWord 31 = .ok (.invokevirtual 59, 3) := by decide +kernel
theorem d_S_lastWord_34 : decode b_S_lastWord 34 = .ok (.iconst 1, 1) := by decide +kernel
theorem d_S_lastWord_35 : decode b_S_lastWord 35 = .ok (.isub, 1) := by decide +kernel
theorem d_S_lastWord_36 : decode b_S_lastWord 36 = .ok (.iaload, 1) := by decide +kernel
theorem d_S_lastWord_37 : decode b_S_lastWord 37 = .ok (.ireturn, 1) := by decide +kernel
theorem d_S_addWord_0 : decode b_S_addWord 0 = .ok (.aload_n 0, 1) := by decide +kernel
theorem d_S_addWord_1 : decode b_S_addWord 1 = .ok (.getfield 9, 3) := by decide +kernel
theorem d_S_addWord_4 : decode b_S_addWord 4 = .ok (.ifCond .le 38, 3) := by decide +kernel
theorem d_S_addWord_7 : decode b_S_addWord 7 = .ok (.aload_n 0, 1) := by decide +kernel
theorem d_S_addWord_8 : decode b_S_addWord 8 = .ok (.invokevirtual 59, 3) := by decide +kernel
theorem d_S_addWord_11 : decode b_S_addWord 11 = .ok (.aload_n 0, 1) := by decide +kernel
theorem d_S_addWord_12 : decode b_S_addWord 12 = .ok (.getfield 15, 3) := by decide +kernel
theorem d_S_addWord_15 : decode b_S_addWord 15 = .ok (.arraylength, 1) := by decide +kernel
theorem d_S_addWord_16 : decode b_S_addWord 16 = .ok (.if_icmp .ge 26, 3) := by decide +kernel
theorem d_S_addWord_19 : decode b_S_addWord 19 = .ok (.aload_n 0, 1) := by decide +kernel
theorem d_S_addWord_20 : decode b_S_addWord 20 = .ok (.getfield 15, 3) := by decide +kernel
theorem d_S_addWord_23 : decode b_S_addWord 23 = .ok (.aload_n 0, 1) := by decide +kernel
theorem d_S_addWord_24 : decode b_S_addWord 24 = .ok (.invokevirtual 59, 3) := by decide +kernel
theorem d_S_addWord_27 : decode b_S_addWord 27 = .ok (.iload_n 1, 1) := by decide +kernel
theorem d_S_addWord_28 : decode b_S_addWord 28 = .ok (.iastore, 1) := by decide +kernel
theorem d_S_addWord_29 : decode b_S_addWord 29 = .ok (.aload_n 0, 1) := by decide +kernel
theorem d_S_addWord_30 : decode b_S_addWord 30 = .ok (.getfield 19, 3) := by decide +kernel
theorem d_S_addWord_33 : decode b_S_addWord 33 = .ok (.aload_n 0, 1) := by decide +kernel
theorem d_S_addWord_34 : decode b_S_addWord 34 = .ok (.getfield 9, 3) := by decide +kernel
theorem d_S_addWord_37 : decode b_S_addWord 37 = .ok (.dup2, 1) := by decide +kernel
theorem d_S_addWord_38 : decode b_S_addWord 38 = .ok (.iaload, 1) := by decide +kernel
theorem d_S_addWord_39 : decode b_S_addWord 39 = .ok (.iconst 1, 1) := by decide +kernel
theorem d_S_addWord_40 : decode b_S_addWord 40 = .ok (.iadd, 1) := by decide +kernel
theorem d_S_addWord_41 : decode b_S_addWord 41 = .ok (.iastore, 1) := by decide +kernel
theorem d_S_addWord_42 : decode b_S_addWord 42 = .ok (.return_, 1) := by decide +kernel
theorem d_I_numberOfTrailingZeros_0 : decode b_I_numberOfTrailingZeros 0 = .ok (.iload_n 0, 1) := by decide +kernel
theorem d_I_numberOfTrailingZeros_1 : decode b_I_numberOfTrailingZeros 1 = .ok (.iconst (-1), 1) := by decide +kernel
theorem d_I_numberOfTrailingZeros_2 : decode b_I_numberOfTrailingZeros 2 = .ok (.ixor, 1) := by decide +kernel
theorem d_I_numberOfTrailingZeros_3 : decode b_I_numberOfTrailingZeros 3 = .ok (.iload_n 0, 1) := by decide +kernel
theorem d_I_numberOfTrailingZeros_4 : decode b_I_numberOfTrailingZeros 4 = .ok (.iconst 1, 1) := by decide +kernel
theorem d_I_numberOfTrailingZeros_5 : decode b_I_numberOfTrailingZeros 5 = .ok (.isub, 1) := by decide +kernel
theorem d_I_numberOfTrailingZeros_6 : decode b_I_numberOfTrailingZeros 6 = .ok (.iand, 1) := by decide +kernel
theorem d_I_numberOfTrailingZeros_7 : decode b_I_numberOfTrailingZeros 7 = .ok (.istore_n 0, 1) := by decide +kernel
theorem d_I_numberOfTrailingZeros_8 : decode b_I_numberOfTrailingZeros 8 = .ok (.iload_n 0, 1) := by decide +kernel
theorem d_I_numberOfTrailingZeros_9 : decode b_I_numberOfTrailingZeros 9 = .ok (.ifCond .gt 8, 3) := by decide +kernel
theorem d_I_numberOfTrailingZeros_12 : decode b_I_numberOfTrailingZeros 12 = .ok (.iload_n 0, 1) := by decide +kernel
theorem d_I_numberOfTrailingZeros_13 : decode b_I_numberOfTrailingZeros 13 = .ok (.bipush 32, 2) := by decide +kernel
theorem d_I_numberOfTrailingZeros_15 : decode b_I_numberOfTrailingZeros 15 = .ok (.iand, 1) := by decide +kernel
theorem d_I_numberOfTrailingZeros_16 : decode b_I_numberOfTrailingZeros 16 = .ok (.ireturn, 1) := by decide +kernel
theorem d_I_numberOfTrailingZeros_17 : decode b_I_numberOfTrailingZeros 17 = .ok (.iconst 1, 1) := by decide +kernel
theorem d_I_numberOfTrailingZeros_18 : decode b_I_numberOfTrailingZeros 18 = .ok (.istore_n 1, 1) := by decide +kernel
theorem d_I_numberOfTrailingZeros_19 : decode b_I_numberOfTrailingZeros 19 = .ok (.iload_n 0, 1) := by decide +kernel
theorem d_I_numberOfTrailingZeros_20 : decode b_I_numberOfTrailingZeros 20 = .ok (.ldc_w 264, 3) := by decide +kernel
theorem d_I_numberOfTrailingZeros_23 : decode b_I_numberOfTrailingZeros 23 = .ok (.if_icmp .le 11, 3) := by decide +kernel
theorem d_I_numberOfTrailingZeros_26 : decode b_I_numberOfTrailingZeros 26 = .ok (.iinc 1 16, 3) := by decide +kernel
theorem d_I_numberOfTrailingZeros_29 : decode b_I_numberOfTrailingZeros 29 = .ok (.iload_n 0, 1) := by decide +kernel
theorem d_I_numberOfTrailingZeros_30 : decode b_I_numberOfTrailingZeros 30 = .ok (.bipush 16, 2) := by decide +kernel
theorem d_I_numberOfTrailingZeros_32 : decode b_I_numberOfTrailingZeros 32 = .ok (.iushr, 1) := by decide +kernel
theorem d_I_numberOfTrailingZeros_33 : decode b_I_numberOfTrailingZeros 33 = .ok (.istore_n 0, 1) := by decide +kernel
theorem d_I_numberOfTrailingZeros_34 : decode b_I_numberOfTrailingZeros 34 = .ok (.iload_n 0, 1) := by decide +kernel
theorem d_I_numberOfTrailingZeros_35 : decode b_I_numberOfTrailingZeros 35 = .ok (.sipush 256, 3) := by decide +kernel
theorem d_I_numberOfTrailingZeros_38 : decode b_I_numberOfTrailingZeros 38 = .ok (.if_icmp .le 11, 3) := by decide +kernel
theorem d_I_numberOfTrailingZeros_41 : decode b_I_numberOfTrailingZeros 41 = .ok (.iinc 1 8, 3) := by decide +kernel
theorem d_I_numberOfTrailingZeros_44 : decode b_I_numberOfTrailingZeros 44 = .ok (.iload_n 0, 1) := by decide +kernel
theorem d_I_numberOfTrailingZeros_45 : decode b_I_numberOfTrailingZeros 45 = .ok (.bipush 8, 2) := by decide +kernel
theorem d_I_numberOfTrailingZeros_47 : decode b_I_numberOfTrailingZeros 47 = .ok (.iushr, 1) := by decide +kernel
theorem d_I_numberOfTrailingZeros_48 : decode b_I_numberOfTrailingZeros 48 = .ok (.istore_n 0, 1) := by decide +kernel
theorem d_I_numberOfTrailingZeros_49 : decode b_I_numberOfTrailingZeros 49 = .ok (.iload_n 0, 1) := by decide +kernel
theorem d_I_numberOfTrailingZeros_50 : decode b_I_numberOfTrailingZeros 50 = .ok (.bipush 16, 2) := by decide +kernel
theorem d_I_numberOfTrailingZeros_52 : decode b_I_numberOfTrailingZeros 52 = .ok (.if_icmp .le 10, 3) := by decide +kernel
theorem d_I_numberOfTrailingZeros_55 : decode b_I_numberOfTrailingZeros 55 = .ok (.iinc 1 4, 3) := by decide +kernel
theorem d_I_numberOfTrailingZeros_58 : decode b_I_numberOfTrailingZeros 58 = .ok (.iload_n 0, 1) := by decide +kernel
theorem d_I_numberOfTrailingZeros_59 : decode b_I_numberOfTrailingZeros 59 = .ok (.iconst 4, 1) := by decide +kernel
theorem d_I_numberOfTrailingZeros_60 : decode b_I_numberOfTrailingZeros 60 = .ok (.iushr, 1) := by decide +kernel
theorem d_I_numberOfTrailingZeros_61 : decode b_I_numberOfTrailingZeros 61 = .ok (.istore_n 0, 1) := by decide +kernel
theorem d_I_numberOfTrailingZeros_62 : decode b_I_numberOfTrailingZeros 62 = .ok (.iload_n 0, 1) := by decide +kernel
theorem d_I_numberOfTrailingZeros_63 : decode b_I_numberOfTrailingZeros 63 = .ok (.iconst 4, 1) := by decide +kernel
theorem d_I_numberOfTrailingZeros_64 : decode b_I_numberOfTrailingZeros 64 = .ok (.if_icmp .le 10, 3) := by decide +kernel
theorem d_I_numberOfTrailingZeros_67 : decode b_I_numberOfTrailingZeros 67 = .ok (.iinc 1 2, 3) := by decide +kernel
theorem d_I_numberOfTrailingZeros_70 : decode b_I_numberOfTrailingZeros 70 = .ok (.iload_n 0, 1) := by decide +kernel
theorem d_I_numberOfTrailingZeros_71 : decode b_I_numberOfTrailingZeros 71 = .ok (.iconst 2, 1) := by decide +kernel
theorem d_I_numberOfTrailingZeros_72 : decode b_I_numberOfTrailingZeros 72 = .ok (.iushr, 1) := by decide +kernel
theorem d_I_numberOfTrailingZeros_73 : decode b_I_numberOfTrailingZeros 73 = .ok (.istore_n 0, 1) := by decide +kernel
theorem d_I_numberOfTrailingZeros_74 : decode b_I_numberOfTrailingZeros 74 = .ok (.iload_n 1, 1) := by decide +kernel
theorem d_I_numberOfTrailingZeros_75 : decode b_I_numberOfTrailingZeros 75 = .ok (.iload_n 0, 1) := by decide +kernel
theorem d_I_numberOfTrailingZeros_76 : decode b_I_numberOfTrailingZeros 76 = .ok (.iconst 1, 1) := by decide +kernel
theorem d_I_numberOfTrailingZeros_77 : decode b_I_numberOfTrailingZeros 77 = .ok (.iushr, 1) := by decide +kernel
theorem d_I_numberOfTrailingZeros_78 : decode b_I_numberOfTrailingZeros 78 = .ok (.iadd, 1) := by decide +kernel
theorem d_I_numberOfTrailingZeros_79 : decode b_I_numberOfTrailingZeros 79 = .ok (.ireturn, 1) := by decide +kernel
theorem d_I_bitCount_0 : decode b_I_bitCount 0 = .ok (.iload_n 0, 1) := by decide +kernel
theorem d_I_bitCount_1 : decode b_I_bitCount 1 = .ok (.iload_n 0, 1) := by decide +kernel
theorem d_I_bitCount_2 : decode b_I_bitCount 2 = .ok (.iconst 1, 1) := by decide +kernel
theorem d_I_bitCount_3 : decode b_I_bitCount 3 = .ok (.iushr, 1) := by decide +kernel
theorem d_I_bitCount_4 : decode b_I_bitCount 4 = .ok (.ldc_w 265, 3) := by decide +kernel
theorem d_I_bitCount_7 : decode b_I_bitCount 7 = .ok (.iand, 1) := by decide +kernel
theorem d_I_bitCount_8 : decode b_I_bitCount 8 = .ok (.isub, 1) := by decide +kernel
theorem d_I_bitCount_9 : decode b_I_bitCount 9 = .ok (.istore_n 0, 1) := by decide +kernel
theorem d_I_bitCount_10 : decode b_I_bitCount 10 = .ok (.iload_n 0, 1) := by decide +kernel
theorem d_I_bitCount_11 : decode b_I_bitCount 11 = .ok (.ldc_w 266, 3) := by decide +kernel
theorem d_I_bitCount_14 : decode b_I_bitCount 14 = .ok (.iand, 1) := by decide +kernel
theorem d_I_bitCount_15 : decode b_I_bitCount 15 = .ok (.iload_n 0, 1) := by decide +kernel
theorem d_I_bitCount_16 : decode b_I_bitCount 16 = .ok (.iconst 2, 1) := by decide +kernel
theorem d_I_bitCount_17 : decode b_I_bitCount 17 = .ok (.iushr, 1) := by decide +kernel
theorem d_I_bitCount_18 : decode b_I_bitCount 18 = .ok (.ldc_w 266, 3) := by decide +kernel
theorem d_I_bitCount_21 : decode b_I_bitCount 21 = .ok (.iand, 1) := by decide +kernel
theorem d_I_bitCount_22 : decode b_I_bitCount 22 = .ok (.iadd, 1) := by decide +kernel
theorem d_I_bitCount_23 : decode b_I_bitCount 23 = .ok (.istore_n 0, 1) := by decide +kernel
theorem d_I_bitCount_24 : decode b_I_bitCount 24 = .ok (.iload_n 0, 1) := by decide +kernel
theorem d_I_bitCount_25 : decode b_I_bitCount 25 = .ok (.iload_n 0, 1) := by decide +kernel
theorem d_I_bitCount_26 : decode b_I_bitCount 26 = .ok (.iconst 4, 1) := by decide +kernel
theorem d_I_bitCount_27 : decode b_I_bitCount 27 = .ok (.iushr, 1) := by decide +kernel
theorem d_I_bitCount_28 : decode b_I_bitCount 28 = .ok (.iadd, 1) := by decide +kernel
theorem d_I_bitCount_29 : decode b_I_bitCount 29 = .ok (.ldc_w 267, 3) := by decide +kernel
theorem d_I_bitCount_32 : decode b_I_bitCount 32 = .ok (.iand, 1) := by decide +kernel
theorem d_I_bitCount_33 : decode b_I_bitCount 33 = .ok (.istore_n 0, 1) := by decide +kernel
theorem d_I_bitCount_34 : decode b_I_bitCount 34 = .ok (.iload_n 0, 1) := by decide +kernel
theorem d_I_bitCount_35 : decode b_I_bitCount 35 = .ok (.iload_n 0, 1) := by decide +kernel
theorem d_I_bitCount_36 : decode b_I_bitCount 36 = .ok (.bipush 8, 2) := by decide +kernel
theorem d_I_bitCount_38 : decode b_I_bitCount 38 = .ok (.iushr, 1) := by decide +kernel
theorem d_I_bitCount_39 : decode b_I_bitCount 39 = .ok (.iadd, 1) := by decide +kernel
theorem d_I_bitCount_40 : decode b_I_bitCount 40 = .ok (.istore_n 0, 1) := by decide +kernel
theorem d_I_bitCount_41 : decode b_I_bitCount 41 = .ok (.iload_n 0, 1) := by decide +kernel
theorem d_I_bitCount_42 : decode b_I_bitCount 42 = .ok (.iload_n 0, 1) := by decide +kernel
theorem d_I_bitCount_43 : decode b_I_bitCount 43 = .ok (.bipush 16, 2) := by decide +kernel
theorem d_I_bitCount_45 : decode b_I_bitCount 45 = .ok (.iushr, 1) := by decide +kernel
theorem d_I_bitCount_46 : decode b_I_bitCount 46 = .ok (.iadd, 1) := by decide +kernel
theorem d_I_bitCount_47 : decode b_I_bitCount 47 = .ok (.istore_n 0, 1) := by decide +kernel
theorem d_I_bitCount_48 : decode b_I_bitCount 48 = .ok (.iload_n 0, 1) := by decide +kernel
theorem d_I_bitCount_49 : decode b_I_bitCount 49 = .ok (.bipush 63, 2) := by decide +kernel
theorem d_I_bitCount_51 : decode b_I_bitCount 51 = .ok (.iand, 1) := by decide +kernel
theorem d_I_bitCount_52 : decode b_I_bitCount 52 = .ok (.ireturn, 1) := by decide +kernel
end
section
/-! the instructions -/
theorem d_B_init_0 : decode b_B_init 0 = .ok (.aload_n 0, 1) := by decide +kernel
theorem d_B_init_1 : decode b_B_init 1 = .ok (.invokespecial 3, 3) := by decide +kernel
theorem d_B_init_4 : decode b_B_init 4 = .ok (.aload_n 0, 1) := by decide +kernel
theorem d_B_init_5 : decode b_B_init 5 = .ok (.new 9, 3) := by decide +kernel
theorem d_B_init_8 : decode b_B_init 8 = .ok (.dup, 1) := by decide +kernel
theorem d_B_init_9 : decode b_B_init 9 = .ok (.bipush 32, 2) := by decide +kernel
theorem d_B_init_11 : decode b_B_init 11 = .ok (.sipush 2096, 3) := by decide +kernel
theorem d_B_init_14 : decode b_B_init 14 = .ok (.invokespecial 11, 3) := by decide +kernel
theorem d_B_init_17 : decode b_B_init 17 = .ok (.putfield 14, 3) := by decide +kernel
theorem d_B_init_20 : decode b_B_init 20 = .ok (.aload_n 0, 1) := by decide +kernel
theorem d_B_init_21 : decode b_B_init 21 = .ok (.new 9, 3) := by decide +kernel
theorem d_B_init_24 : decode b_B_init 24 = .ok (.dup, 1) := by decide +kernel
theorem d_B_init_25 : decode b_B_init 25 = .ok (.bipush 32, 2) := by decide +kernel
theorem d_B_init_27 : decode b_B_init 27 = .ok (.sipush 2096, 3) := by decide +kernel
theorem d_B_init_30 : decode b_B_init 30 = .ok (.invokespecial 11, 3) := by decide +kernel
theorem d_B_init_33 : decode b_B_init 33 = .ok (.putfield 18, 3) := by decide +kernel
theorem d_B_init_36 : decode b_B_init 36 = .ok (.aload_n 0, 1) := by decide +kernel
theorem d_B_init_37 : decode b_B_init 37 = .ok (.new 9, 3) := by decide +kernel
theorem d_B_init_40 : decode b_B_init 40 = .ok (.dup, 1) := by decide +kernel
theorem d_B_init_41 : decode b_B_init 41 = .ok (.bipush 12, 2) := by decide +kernel
theorem d_B_init_43 : decode b_B_init 43 = .ok (.sipush 3000, 3) := by decide +kernel
theorem d_B_init_46 : decode b_B_init 46 = .ok (.invokespecial 11, 3) := by decide +kernel
theorem d_B_init_49 : decode b_B_init 49 = .ok (.putfield 21, 3) := by decide +kernel
theorem d_B_init_52 : decode b_B_init 52 = .ok (.aload_n 0, 1) := by decide +kernel
theorem d_B_init_53 : decode b_B_init 53 = .ok (.new 9, 3) := by decide +kernel
theorem d_B_init_56 : decode b_B_init 56 = .ok (.dup, 1) := by decide +kernel
theorem d_B_init_57 : decode b_B_init 57 = .ok (.iconst 1, 1) := by decide +kernel
theorem d_B_init_58 : decode b_B_init 58 = .ok (.sipush 3001, 3) := by decide +kernel
theorem d_B_init_61 : decode b_B_init 61 = .ok (.invokespecial 11, 3) := by decide +kernel
theorem d_B_init_64 : decode b_B_init 64 = .ok (.putfield 24, 3) := by decide +kernel
theorem d_B_init_67 : decode b_B_init 67 = .ok (.aload_n 0, 1) := by decide +kernel
theorem d_B_init_68 : decode b_B_init 68 = .ok (.iconst 0, 1) := by decide +kernel
theorem d_B_init_69 : decode b_B_init 69 = .ok (.putfield 27, 3) := by decide +kernel
theorem d_B_init_72 : decode b_B_init 72 = .ok (.iconst 0, 1) := by decide +kernel
theorem d_B_init_73 : decode b_B_init 73 = .ok (.istore_n 1, 1) := by decide +kernel
theorem d_B_init_74 : decode b_B_init 74 = .ok (.iload_n 1, 1) := by decide +kernel
theorem d_B_init_75 : decode b_B_init 75 = .ok (.bipush 32, 2) := by decide +kernel
theorem d_B_init_77 : decode b_B_init 77 = .ok (.if_icmp .ge 16, 3) := by decide +kernel
theorem d_B_init_80 : decode b_B_init 80 = .ok (.aload_n 0, 1) := by decide +kernel
theorem d_B_init_81 : decode b_B_init 81 = .ok (.getfield 14, 3) := by decide +kernel
theorem d_B_init_84 : decode b_B_init 84 = .ok (.invokevirtual 31, 3) := by decide +kernel
theorem d_B_init_87 : decode b_B_init 87 = .ok (.iinc 1 1, 3) := by decide +kernel
theorem d_B_init_90 : decode b_B_init 90 = .ok (.goto (-16), 3) := by decide +kernel
theorem d_B_init_93 : decode b_B_init 93 = .ok (.return_, 1) := by decide +kernel
theorem d_B_append_0 : decode b_B_append 0 = .ok (.iload_n 1, 1) := by decide +kernel
theorem d_B_append_1 : decode b_B_append 1 = .ok (.invokestatic 34, 3) := by decide +kernel
theorem d_B_append_4 : decode b_B_append 4 = .ok (.ifCond .eq 21, 3) := by decide +kernel
theorem d_B_append_7 : decode b_B_append 7 = .ok (.iload_n 2, 1) := by decide +kernel
theorem d_B_append_8 : decode b_B_append 8 = .ok (.invokestatic 34, 3) := by decide +kernel
theorem d_B_append_11 : decode b_B_append 11 = .ok (.ifCond .eq 14, 3) := by decide +kernel
theorem d_B_append_14 : decode b_B_append 14 = .ok (.iload_n 3, 1) := by decide +kernel
theorem d_B_append_15 : decode b_B_append 15 = .ok (.iconst 1, 1) := by decide +kernel
theorem d_B_append_16 : decode b_B_append 16 = .ok (.if_icmp .lt 9, 3) := by decide +kernel
theorem d_B_append_19 : decode b_B_append 19 = .ok (.iload_n 3, 1) := by decide +kernel
theorem d_B_append_20 : decode b_B_append 20 = .ok (.ldc 38, 2) := by decide +kernel
theorem d_B_append_22 : decode b_B_append 22 = .ok (.if_icmp .le 5, 3) := by decide +kernel
theorem d_B_append_25 : decode b_B_append 25 = .ok (.iconst (-1), 1) := by decide +kernel
theorem d_B_append_26 : decode b_B_append 26 = .ok (.ireturn, 1) := by decide +kernel
theorem d_B_append_27 : decode b_B_append 27 = .ok (.aload_n 0, 1) := by decide +kernel
theorem d_B_append_28 : decode b_B_append 28 = .ok (.getfield 21, 3) := by decide +kernel
theorem d_B_append_31 : decode b_B_append 31 = .ok (.getfield 39, 3) := by decide +kernel
theorem d_B_append_34 : decode b_B_append 34 = .ok (.ifCond .le 6, 3) := by decide +kernel
theorem d_B_append_37 : decode b_B_append 37 = .ok (.bipush (-2), 2) := by decide +kernel
theorem d_B_append_39 : decode b_B_append 39 = .ok (.ireturn, 1) := by decide +kernel
theorem d_B_append_40 : decode b_B_append 40 = .ok (.iload_n 3, 1) := by decide +kernel
theorem d_B_append_41 : decode b_B_append 41 = .ok (.ldc 38, 2) := by decide +kernel
theorem d_B_append_43 : decode b_B_append 43 = .ok (.aload_n 0, 1) := by decide +kernel
theorem d_B_append_44 : decode b_B_append 44 = .ok (.getfield 27, 3) := by decide +kernel
theorem d_B_append_47 : decode b_B_append 47 = .ok (.isub, 1) := by decide +kernel
theorem d_B_append_48 : decode b_B_append 48 = .ok (.if_icmp .le 6, 3) := by decide +kernel
theorem d_B_append_51 : decode b_B_append 51 = .ok (.bipush (-3), 2) := by decide +kernel
theorem d_B_append_53 : decode b_B_append 53 = .ok (.ireturn, 1) := by decide +kernel
theorem d_B_append_54 : decode b_B_append 54 = .ok (.aload_n 0, 1) := by decide +kernel
theorem d_B_append_55 : decode b_B_append 55 = .ok (.getfield 18, 3) := by decide +kernel
theorem d_B_append_58 : decode b_B_append 58 = .ok (.invokevirtual 42, 3) := by decide +kernel
theorem d_B_append_61 : decode b_B_append 61 = .ok (.aload_n 0, 1) := by decide +kernel
theorem d_B_append_62 : decode b_B_append 62 = .ok (.iconst 0, 1) := by decide +kernel
theorem d_B_append_63 : decode b_B_append 63 = .ok (.iload_n 1, 1) := by decide +kernel
theorem d_B_append_64 : decode b_B_append 64 = .ok (.iload_n 3, 1) := by decide +kernel
theorem d_B_append_65 : decode b_B_append 65 = .ok (.invokevirtual 45, 3) := by decide +kernel
theorem d_B_append_68 : decode b_B_append 68 = .ok (.aload_n 0, 1) := by decide +kernel
theorem d_B_append_69 : decode b_B_append 69 = .ok (.iconst 1, 1) := by decide +kernel
theorem d_B_append_70 : decode b_B_append 70 = .ok (.iload_n 2, 1) := by decide +kernel
theorem d_B_append_71 : decode b_B_append 71 = .ok (.iload_n 3, 1) := by decide +kernel
theorem d_B_append_72 : decode b_B_append 72 = .ok (.invokevirtual 45, 3) := by decide +kernel
theorem d_B_append_75 : decode b_B_append 75 = .ok (.aload_n 0, 1) := by decide +kernel
theorem d_B_append_76 : decode b_B_append 76 = .ok (.getfield 18, 3) := by decide +kernel
theorem d_B_append_79 : decode b_B_append 79 = .ok (.invokevirtual 49, 3) := by decide +kernel
theorem d_B_append_82 : decode b_B_append 82 = .ok (.sipush 2000, 3) := by decide +kernel
theorem d_B_append_85 : decode b_B_append 85 = .ok (.if_icmp .le 6, 3) := by decide +kernel
theorem d_B_append_88 : decode b_B_append 88 = .ok (.bipush (-3), 2) := by decide +kernel
theorem d_B_append_90 : decode b_B_append 90 = .ok (.ireturn, 1) := by decide +kernel
theorem d_B_append_91 : decode b_B_append 91 = .ok (.aload_n 0, 1) := by decide +kernel
theorem d_B_append_92 : decode b_B_append 92 = .ok (.getfield 14, 3) := by decide +kernel
theorem d_B_append_95 : decode b_B_append 95 = .ok (.astore 4, 2) := by decide +kernel
theorem d_B_append_97 : decode b_B_append 97 = .ok (.aload_n 0, 1) := by decide +kernel
theorem d_B_append_98 : decode b_B_append 98 = .ok (.aload_n 0, 1) := by decide +kernel
theorem d_B_append_99 : decode b_B_append 99 = .ok (.getfield 18, 3) := by decide +kernel
theorem d_B_append_102 : decode b_B_append 102 = .ok (.putfield 14, 3) := by decide +kernel
theorem d_B_append_105 : decode b_B_append 105 = .ok (.aload_n 0, 1) := by decide +kernel
theorem d_B_append_106 : decode b_B_append 106 = .ok (.aload 4, 2) := by decide +kernel
theorem d_B_append_108 : decode b_B_append 108 = .ok (.putfield 18, 3) := by decide +kernel
theorem d_B_append_111 : decode b_B_append 111 = .ok (.aload_n 0, 1) := by decide +kernel
theorem d_B_append_112 : decode b_B_append 112 = .ok (.dup, 1) := by decide +kernel
theorem d_B_append_113 : decode b_B_append 113 = .ok (.getfield 27, 3) := by decide +kernel
theorem d_B_append_116 : decode b_B_append 116 = .ok (.iload_n 3, 1) := by decide +kernel
theorem d_B_append_117 : decode b_B_append 117 = .ok (.iadd, 1) := by decide +kernel
theorem d_B_append_118 : decode b_B_append 118 = .ok (.putfield 27, 3) := by decide +kernel
theorem d_B_append_121 : decode b_B_append 121 = .ok (.aload_n 0, 1) := by decide +kernel
theorem d_B_append_122 : decode b_B_append 122 = .ok (.getfield 27, 3) := by decide +kernel
theorem d_B_append_125 : decode b_B_append 125 = .ok (.ireturn, 1) := by decide +kernel
theorem d_B_push_0 : decode b_B_push 0 = .ok (.iload_n 1, 1) := by decide +kernel
theorem d_B_push_1 : decode b_B_push 1 = .ok (.ifCond .lt 15, 3) := by decide +kernel
theorem d_B_push_4 : decode b_B_push 4 = .ok (.iload_n 1, 1) := by decide +kernel
theorem d_B_push_5 : decode b_B_push 5 = .ok (.iconst 2, 1) := by decide +kernel
theorem d_B_push_6 : decode b_B_push 6 = .ok (.if_icmp .ge 10, 3) := by decide +kernel
theorem d_B_push_9 : decode b_B_push 9 = .ok (.iload_n 2, 1) := by decide +kernel
theorem d_B_push_10 : decode b_B_push 10 = .ok (.invokestatic 34, 3) := by decide +kernel
theorem d_B_push_13 : decode b_B_push 13 = .ok (.ifCond .ne 5, 3) := by decide +kernel
theorem d_B_push_16 : decode b_B_push 16 = .ok (.iconst (-1), 1) := by decide +kernel
theorem d_B_push_17 : decode b_B_push 17 = .ok (.ireturn, 1) := by decide +kernel
theorem d_B_push_18 : decode b_B_push 18 = .ok (.aload_n 0, 1) := by decide +kernel
theorem d_B_push_19 : decode b_B_push 19 = .ok (.aload_n 0, 1) := by decide +kernel
theorem d_B_push_20 : decode b_B_push 20 = .ok (.getfield 14, 3) := by decide +kernel
theorem d_B_push_23 : decode b_B_push 23 = .ok (.iload_n 1, 1) := by decide +kernel
theorem d_B_push_24 : decode b_B_push 24 = .ok (.bipush 16, 2) := by decide +kernel
theorem d_B_push_26 : decode b_B_push 26 = .ok (.imul, 1) := by decide +kernel
theorem d_B_push_27 : decode b_B_push 27 = .ok (.iload_n 2, 1) := by decide +kernel
theorem d_B_push_28 : decode b_B_push 28 = .ok (.iadd, 1) := by decide +kernel
theorem d_B_push_29 : decode b_B_push 29 = .ok (.invokevirtual 53, 3) := by decide +kernel
theorem d_B_push_32 : decode b_B_push 32 = .ok (.ireturn, 1) := by decide +kernel
theorem d_B_copy_0 : decode b_B_copy 0 = .ok (.aload_n 0, 1) := by decide +kernel
theorem d_B_copy_1 : decode b_B_copy 1 = .ok (.getfield 21, 3) := by decide +kernel
theorem d_B_copy_4 : decode b_B_copy 4 = .ok (.getfield 39, 3) := by decide +kernel
theorem d_B_copy_7 : decode b_B_copy 7 = .ok (.iconst 1, 1) := by decide +kernel
theorem d_B_copy_8 : decode b_B_copy 8 = .ok (.if_icmp .ge 6, 3) := by decide +kernel
theorem d_B_copy_11 : decode b_B_copy 11 = .ok (.bipush (-4), 2) := by decide +kernel
theorem d_B_copy_13 : decode b_B_copy 13 = .ok (.ireturn, 1) := by decide +kernel
theorem d_B_copy_14 : decode b_B_copy 14 = .ok (.aload_n 0, 1) := by decide +kernel
theorem d_B_copy_15 : decode b_B_copy 15 = .ok (.aload_n 0, 1) := by decide +kernel
theorem d_B_copy_16 : decode b_B_copy 16 = .ok (.getfield 21, 3) := by decide +kernel
theorem d_B_copy_19 : decode b_B_copy 19 = .ok (.aload_n 0, 1) := by decide +kernel
theorem d_B_copy_20 : decode b_B_copy 20 = .ok (.getfield 21, 3) := by decide +kernel
theorem d_B_copy_23 : decode b_B_copy 23 = .ok (.getfield 39, 3) := by decide +kernel
theorem d_B_copy_26 : decode b_B_copy 26 = .ok (.iconst 1, 1) := by decide +kernel
theorem d_B_copy_27 : decode b_B_copy 27 = .ok (.isub, 1) := by decide +kernel
theorem d_B_copy_28 : decode b_B_copy 28 = .ok (.invokevirtual 53, 3) := by decide +kernel
theorem d_B_copy_31 : decode b_B_copy 31 = .ok (.ireturn, 1) := by decide +kernel
theorem d_B_join_0 : decode b_B_join 0 = .ok (.iload_n 1, 1) := by decide +kernel
theorem d_B_join_1 : decode b_B_join 1 = .ok (.ifCond .lt 8, 3) := by decide +kernel
theorem d_B_join_4 : decode b_B_join 4 = .ok (.iload_n 1, 1) := by decide +kernel
theorem d_B_join_5 : decode b_B_join 5 = .ok (.iconst 3, 1) := by decide +kernel
theorem d_B_join_6 : decode b_B_join 6 = .ok (.if_icmp .le 5, 3) := by decide +kernel
theorem d_B_join_9 : decode b_B_join 9 = .ok (.iconst (-1), 1) := by decide +kernel
theorem d_B_join_10 : decode b_B_join 10 = .ok (.ireturn, 1) := by decide +kernel
theorem d_B_join_11 : decode b_B_join 11 = .ok (.aload_n 0, 1) := by decide +kernel
theorem d_B_join_12 : decode b_B_join 12 = .ok (.getfield 21, 3) := by decide +kernel
theorem d_B_join_15 : decode b_B_join 15 = .ok (.getfield 39, 3) := by decide +kernel
theorem d_B_join_18 : decode b_B_join 18 = .ok (.iconst 2, 1) := by decide +kernel
theorem d_B_join_19 : decode b_B_join 19 = .ok (.if_icmp .ge 6, 3) := by decide +kernel
theorem d_B_join_22 : decode b_B_join 22 = .ok (.bipush (-4), 2) := by decide +kernel
theorem d_B_join_24 : decode b_B_join 24 = .ok (.ireturn, 1) := by decide +kernel
theorem d_B_join_25 : decode b_B_join 25 = .ok (.aload_n 0, 1) := by decide +kernel
theorem d_B_join_26 : decode b_B_join 26 = .ok (.getfield 24, 3) := by decide +kernel
theorem d_B_join_29 : decode b_B_join 29 = .ok (.invokevirtual 42, 3) := by decide +kernel
theorem d_B_join_32 : decode b_B_join 32 = .ok (.aload_n 0, 1) := by decide +kernel
theorem d_B_join_33 : decode b_B_join 33 = .ok (.getfield 24, 3) := by decide +kernel
theorem d_B_join_36 : decode b_B_join 36 = .ok (.invokevirtual 31, 3) := by decide +kernel
theorem d_B_join_39 : decode b_B_join 39 = .ok (.aload_n 0, 1) := by decide +kernel
theorem d_B_join_40 : decode b_B_join 40 = .ok (.getfield 24, 3) := by decide +kernel
theorem d_B_join_43 : decode b_B_join 43 = .ok (.aload_n 0, 1) := by decide +kernel
theorem d_B_join_44 : decode b_B_join 44 = .ok (.getfield 21, 3) := by decide +kernel
theorem d_B_join_47 : decode b_B_join 47 = .ok (.aload_n 0, 1) := by decide +kernel
theorem d_B_join_48 : decode b_B_join 48 = .ok (.getfield 21, 3) := by decide +kernel
theorem d_B_join_51 : decode b_B_join 51 = .ok (.getfield 39, 3) := by decide +kernel
theorem d_B_join_54 : decode b_B_join 54 = .ok (.iconst 2, 1) := by decide +kernel
theorem d_B_join_55 : decode b_B_join 55 = .ok (.isub, 1) := by decide +kernel
theorem d_B_join_56 : decode b_B_join 56 = .ok (.aload_n 0, 1) := by decide +kernel
theorem d_B_join_57 : decode b_B_join 57 = .ok (.getfield 21, 3) := by decide +kernel
theorem d_B_join_60 : decode b_B_join 60 = .ok (.getfield 39, 3) := by decide +kernel
theorem d_B_join_63 : decode b_B_join 63 = .ok (.iconst 1, 1) := by decide +kernel
theorem d_B_join_64 : decode b_B_join 64 = .ok (.isub, 1) := by decide +kernel
theorem d_B_join_65 : decode b_B_join 65 = .ok (.iload_n 1, 1) := by decide +kernel
theorem d_B_join_66 : decode b_B_join 66 = .ok (.invokevirtual 57, 3) := by decide +kernel
theorem d_B_join_69 : decode b_B_join 69 = .ok (.aload_n 0, 1) := by decide +kernel
theorem d_B_join_70 : decode b_B_join 70 = .ok (.iconst 2, 1) := by decide +kernel
theorem d_B_join_71 : decode b_B_join 71 = .ok (.invokevirtual 61, 3) := by decide +kernel
theorem d_B_join_74 : decode b_B_join 74 = .ok (.ireturn, 1) := by decide +kernel
theorem d_B_not_0 : decode b_B_not 0 = .ok (.aload_n 0, 1) := by decide +kernel
theorem d_B_not_1 : decode b_B_not 1 = .ok (.getfield 21, 3) := by decide +kernel
theorem d_B_not_4 : decode b_B_not 4 = .ok (.getfield 39, 3) := by decide +kernel
theorem d_B_not_7 : decode b_B_not 7 = .ok (.iconst 1, 1) := by decide +kernel
theorem d_B_not_8 : decode b_B_not 8 = .ok (.if_icmp .ge 6, 3) := by decide +kernel
theorem d_B_not_11 : decode b_B_not 11 = .ok (.bipush (-4), 2) := by decide +kernel
theorem d_B_not_13 : decode b_B_not 13 = .ok (.ireturn, 1) := by decide +kernel
theorem d_B_not_14 : decode b_B_not 14 = .ok (.aload_n 0, 1) := by decide +kernel
theorem d_B_not_15 : decode b_B_not 15 = .ok (.getfield 24, 3) := by decide +kernel
theorem d_B_not_18 : decode b_B_not 18 = .ok (.invokevirtual 42, 3) := by decide +kernel
theorem d_B_not_21 : decode b_B_not 21 = .ok (.aload_n 0, 1) := by decide +kernel
theorem d_B_not_22 : decode b_B_not 22 = .ok (.getfield 24, 3) := by decide +kernel
theorem d_B_not_25 : decode b_B_not 25 = .ok (.invokevirtual 31, 3) := by decide +kernel
theorem d_B_not_28 : decode b_B_not 28 = .ok (.aload_n 0, 1) := by decide +kernel
theorem d_B_not_29 : decode b_B_not 29 = .ok (.getfield 24, 3) := by decide +kernel
theorem d_B_not_32 : decode b_B_not 32 = .ok (.aload_n 0, 1) := by decide +kernel
theorem d_B_not_33 : decode b_B_not 33 = .ok (.getfield 21, 3) := by decide +kernel
theorem d_B_not_36 : decode b_B_not 36 = .ok (.aload_n 0, 1) := by decide +kernel
theorem d_B_not_37 : decode b_B_not 37 = .ok (.getfield 21, 3) := by decide +kernel
theorem d_B_not_40 : decode b_B_not 40 = .ok (.getfield 39, 3) := by decide +kernel
theorem d_B_not_43 : decode b_B_not 43 = .ok (.iconst 1, 1) := by decide +kernel
theorem d_B_not_44 : decode b_B_not 44 = .ok (.isub, 1) := by decide +kernel
theorem d_B_not_45 : decode b_B_not 45 = .ok (.aload_n 0, 1) := by decide +kernel
theorem d_B_not_46 : decode b_B_not 46 = .ok (.getfield 27, 3) := by decide +kernel
theorem d_B_not_49 : decode b_B_not 49 = .ok (.bipush 31, 2) := by decide +kernel
theorem d_B_not_51 : decode b_B_not 51 = .ok (.irem, 1) := by decide +kernel
theorem d_B_not_52 : decode b_B_not 52 = .ok (.invokevirtual 65, 3) := by decide +kernel
theorem d_B_not_55 : decode b_B_not 55 = .ok (.aload_n 0, 1) := by decide +kernel
theorem d_B_not_56 : decode b_B_not 56 = .ok (.iconst 1, 1) := by decide +kernel
theorem d_B_not_57 : decode b_B_not 57 = .ok (.invokevirtual 61, 3) := by decide +kernel
theorem d_B_not_60 : decode b_B_not 60 = .ok (.ireturn, 1) := by decide +kernel
theorem d_B_count_0 : decode b_B_count 0 = .ok (.aload_n 0, 1) := by decide +kernel
theorem d_B_count_1 : decode b_B_count 1 = .ok (.getfield 21, 3) := by decide +kernel
theorem d_B_count_4 : decode b_B_count 4 = .ok (.getfield 39, 3) := by decide +kernel
theorem d_B_count_7 : decode b_B_count 7 = .ok (.iconst 1, 1) := by decide +kernel
theorem d_B_count_8 : decode b_B_count 8 = .ok (.if_icmp .ge 7, 3) := by decide +kernel
theorem d_B_count_11 : decode b_B_count 11 = .ok (.iconst (-1), 1) := by decide +kernel
theorem d_B_count_12 : decode b_B_count 12 = .ok (.goto 19, 3) := by decide +kernel
theorem d_B_count_15 : decode b_B_count 15 = .ok (.aload_n 0, 1) := by decide +kernel
theorem d_B_count_16 : decode b_B_count 16 = .ok (.getfield 21, 3) := by decide +kernel
theorem d_B_count_19 : decode b_B_count 19 = .ok (.aload_n 0, 1) := by decide +kernel
theorem d_B_count_20 : decode b_B_count 20 = .ok (.getfield 21, 3) := by decide +kernel
theorem d_B_count_23 : decode b_B_count 23 = .ok (.getfield 39, 3) := by decide +kernel
theorem d_B_count_26 : decode b_B_count 26 = .ok (.iconst 1, 1) := by decide +kernel
theorem d_B_count_27 : decode b_B_count 27 = .ok (.isub, 1) := by decide +kernel
theorem d_B_count_28 : decode b_B_count 28 = .ok (.invokevirtual 69, 3) := by decide +kernel
theorem d_B_count_31 : decode b_B_count 31 = .ok (.ireturn, 1) := by decide +kernel
theorem d_B_after_0 : decode b_B_after 0 = .ok (.aload_n 0, 1) := by decide +kernel
theorem d_B_after_1 : decode b_B_after 1 = .ok (.getfield 21, 3) := by decide +kernel
theorem d_B_after_4 : decode b_B_after 4 = .ok (.getfield 39, 3) := by decide +kernel
theorem d_B_after_7 : decode b_B_after 7 = .ok (.iconst 1, 1) := by decide +kernel
theorem d_B_after_8 : decode b_B_after 8 = .ok (.if_icmp .lt 11, 3) := by decide +kernel
theorem d_B_after_11 : decode b_B_after 11 = .ok (.iload_n 1, 1) := by decide +kernel
theorem d_B_after_12 : decode b_B_after 12 = .ok (.aload_n 0, 1) := by decide +kernel
theorem d_B_after_13 : decode b_B_after 13 = .ok (.getfield 27, 3) := by decide +kernel
theorem d_B_after_16 : decode b_B_after 16 = .ok (.if_icmp .lt 5, 3) := by decide +kernel
theorem d_B_after_19 : decode b_B_after 19 = .ok (.iconst (-1), 1) := by decide +kernel
theorem d_B_after_20 : decode b_B_after 20 = .ok (.ireturn, 1) := by decide +kernel
theorem d_B_after_21 : decode b_B_after 21 = .ok (.aload_n 0, 1) := by decide +kernel
theorem d_B_after_22 : decode b_B_after 22 = .ok (.getfield 21, 3) := by decide +kernel
theorem d_B_after_25 : decode b_B_after 25 = .ok (.aload_n 0, 1) := by decide +kernel
theorem d_B_after_26 : decode b_B_after 26 = .ok (.getfield 21, 3) := by decide +kernel
theorem d_B_after_29 : decode b_B_after 29 = .ok (.getfield 39, 3) := by decide +kernel
theorem d_B_after_32 : decode b_B_after 32 = .ok (.iconst 1, 1) := by decide +kernel
theorem d_B_after_33 : decode b_B_after 33 = .ok (.isub, 1) := by decide +kernel
theorem d_B_after_34 : decode b_B_after 34 = .ok (.iload_n 1, 1) := by decide +kernel
theorem d_B_after_35 : decode b_B_after 35 = .ok (.iconst (-1), 1) := by decide +kernel
theorem d_B_after_36 : decode b_B_after 36 = .ok (.invokestatic 72, 3) := by decide +kernel
theorem d_B_after_39 : decode b_B_after 39 = .ok (.iconst 1, 1) := by decide +kernel
theorem d_B_after_40 : decode b_B_after 40 = .ok (.iadd, 1) := by decide +kernel
theorem d_B_after_41 : decode b_B_after 41 = .ok (.invokevirtual 78, 3) := by decide +kernel
theorem d_B_after_44 : decode b_B_after 44 = .ok (.ireturn, 1) := by decide +kernel
theorem d_B_words_0 : decode b_B_words 0 = .ok (.aload_n 0, 1) := by decide +kernel
theorem d_B_words_1 : decode b_B_words 1 = .ok (.getfield 21, 3) := by decide +kernel
theorem d_B_words_4 : decode b_B_words 4 = .ok (.getfield 39, 3) := by decide +kernel
theorem d_B_words_7 : decode b_B_words 7 = .ok (.iconst 1, 1) := by decide +kernel
theorem d_B_words_8 : decode b_B_words 8 = .ok (.if_icmp .ge 7, 3) := by decide +kernel
theorem d_B_words_11 : decode b_B_words 11 = .ok (.iconst (-1), 1) := by decide +kernel
theorem d_B_words_12 : decode b_B_words 12 = .ok (.goto 19, 3) := by decide +kernel
theorem d_B_words_15 : decode b_B_words 15 = .ok (.aload_n 0, 1) := by decide +kernel
theorem d_B_words_16 : decode b_B_words 16 = .ok (.getfield 21, 3) := by decide +kernel
theorem d_B_words_19 : decode b_B_words 19 = .ok (.aload_n 0, 1) := by decide +kernel
theorem d_B_words_20 : decode b_B_words 20 = .ok (.getfield 21, 3) := by decide +kernel
theorem d_B_words_23 : decode b_B_words 23 = .ok (.getfield 39, 3) := by decide +kernel
theorem d_B_words_26 : decode b_B_words 26 = .ok (.iconst 1, 1) := by decide +kernel
theorem d_B_words_27 : decode b_B_words 27 = .ok (.isub, 1) := by decide +kernel
theorem d_B_words_28 : decode b_B_words 28 = .ok (.invokevirtual 81, 3) := by decide +kernel
theorem d_B_words_31 : decode b_B_words 31 = .ok (.ireturn, 1) := by decide +kernel
theorem d_B_word_0 : decode b_B_word 0 = .ok (.aload_n 0, 1) := by decide +kernel
theorem d_B_word_1 : decode b_B_word 1 = .ok (.getfield 21, 3) := by decide +kernel
theorem d_B_word_4 : decode b_B_word 4 = .ok (.getfield 39, 3) := by decide +kernel
theorem d_B_word_7 : decode b_B_word 7 = .ok (.iconst 1, 1) := by decide +kernel
theorem d_B_word_8 : decode b_B_word 8 = .ok (.if_icmp .ge 7, 3) := by decide +kernel
theorem d_B_word_11 : decode b_B_word 11 = .ok (.iconst 0, 1) := by decide +kernel
theorem d_B_word_12 : decode b_B_word 12 = .ok (.goto 20, 3) := by decide +kernel
theorem d_B_word_15 : decode b_B_word 15 = .ok (.aload_n 0, 1) := by decide +kernel
theorem d_B_word_16 : decode b_B_word 16 = .ok (.getfield 21, 3) := by decide +kernel
theorem d_B_word_19 : decode b_B_word 19 = .ok (.aload_n 0, 1) := by decide +kernel
theorem d_B_word_20 : decode b_B_word 20 = .ok (.getfield 21, 3) := by decide +kernel
theorem d_B_word_23 : decode b_B_word 23 = .ok (.getfield 39, 3) := by decide +kernel
theorem d_B_word_26 : decode b_B_word 26 = .ok (.iconst 1, 1) := by decide +kernel
theorem d_B_word_27 : decode b_B_word 27 = .ok (.isub, 1) := by decide +kernel
theorem d_B_word_28 : decode b_B_word 28 = .ok (.iload_n 1, 1) := by decide +kernel
theorem d_B_word_29 : decode b_B_word 29 = .ok (.invokevirtual 84, 3) := by decide +kernel
theorem d_B_word_32 : decode b_B_word 32 = .ok (.ireturn, 1) := by decide +kernel
theorem d_B_pop_0 : decode b_B_pop 0 = .ok (.aload_n 0, 1) := by decide +kernel
theorem d_B_pop_1 : decode b_B_pop 1 = .ok (.getfield 21, 3) := by decide +kernel
theorem d_B_pop_4 : decode b_B_pop 4 = .ok (.getfield 39, 3) := by decide +kernel
theorem d_B_pop_7 : decode b_B_pop 7 = .ok (.iconst 1, 1) := by decide +kernel
theorem d_B_pop_8 : decode b_B_pop 8 = .ok (.if_icmp .ge 6, 3) := by decide +kernel
theorem d_B_pop_11 : decode b_B_pop 11 = .ok (.bipush (-4), 2) := by decide +kernel
theorem d_B_pop_13 : decode b_B_pop 13 = .ok (.ireturn, 1) := by decide +kernel
theorem d_B_pop_14 : decode b_B_pop 14 = .ok (.aload_n 0, 1) := by decide +kernel
theorem d_B_pop_15 : decode b_B_pop 15 = .ok (.getfield 21, 3) := by decide +kernel
theorem d_B_pop_18 : decode b_B_pop 18 = .ok (.invokevirtual 87, 3) := by decide +kernel
theorem d_B_pop_21 : decode b_B_pop 21 = .ok (.aload_n 0, 1) := by decide +kernel
theorem d_B_pop_22 : decode b_B_pop 22 = .ok (.getfield 21, 3) := by decide +kernel
theorem d_B_pop_25 : decode b_B_pop 25 = .ok (.getfield 39, 3) := by decide +kernel
theorem d_B_pop_28 : decode b_B_pop 28 = .ok (.ireturn, 1) := by decide +kernel
theorem d_B_room_0 : decode b_B_room 0 = .ok (.aload_n 0, 1) := by decide +kernel
theorem d_B_room_1 : decode b_B_room 1 = .ok (.getfield 14, 3) := by decide +kernel
theorem d_B_room_4 : decode b_B_room 4 = .ok (.invokevirtual 49, 3) := by decide +kernel
theorem d_B_room_7 : decode b_B_room 7 = .ok (.ireturn, 1) := by decide +kernel
theorem d_B_stackRoom_0 : decode b_B_stackRoom 0 = .ok (.aload_n 0, 1) := by decide +kernel
theorem d_B_stackRoom_1 : decode b_B_stackRoom 1 = .ok (.getfield 21, 3) := by decide +kernel
theorem d_B_stackRoom_4 : decode b_B_stackRoom 4 = .ok (.invokevirtual 49, 3) := by decide +kernel
theorem d_B_stackRoom_7 : decode b_B_stackRoom 7 = .ok (.ireturn, 1) := by decide +kernel
theorem d_B_rows_0 : decode b_B_rows 0 = .ok (.aload_n 0, 1) := by decide +kernel
theorem d_B_rows_1 : decode b_B_rows 1 = .ok (.getfield 27, 3) := by decide +kernel
theorem d_B_rows_4 : decode b_B_rows 4 = .ok (.ireturn, 1) := by decide +kernel
theorem d_B_isValue_0 : decode b_B_isValue 0 = .ok (.iload_n 0, 1) := by decide +kernel
theorem d_B_isValue_1 : decode b_B_isValue 1 = .ok (.ifCond .lt 13, 3) := by decide +kernel
theorem d_B_isValue_4 : decode b_B_isValue 4 = .ok (.iload_n 0, 1) := by decide +kernel
theorem d_B_isValue_5 : decode b_B_isValue 5 = .ok (.bipush 16, 2) := by decide +kernel
theorem d_B_isValue_7 : decode b_B_isValue 7 = .ok (.if_icmp .ge 7, 3) := by decide +kernel
theorem d_B_isValue_10 : decode b_B_isValue 10 = .ok (.iconst 1, 1) := by decide +kernel
theorem d_B_isValue_11 : decode b_B_isValue 11 = .ok (.goto 4, 3) := by decide +kernel
theorem d_B_isValue_14 : decode b_B_isValue 14 = .ok (.iconst 0, 1) := by decide +kernel
theorem d_B_isValue_15 : decode b_B_isValue 15 = .ok (.ireturn, 1) := by decide +kernel
theorem d_B_draftColumn_0 : decode b_B_draftColumn 0 = .ok (.iconst 0, 1) := by decide +kernel
theorem d_B_draftColumn_1 : decode b_B_draftColumn 1 = .ok (.istore 4, 2) := by decide +kernel
theorem d_B_draftColumn_3 : decode b_B_draftColumn 3 = .ok (.iload 4, 2) := by decide +kernel
theorem d_B_draftColumn_5 : decode b_B_draftColumn 5 = .ok (.bipush 16, 2) := by decide +kernel
theorem d_B_draftColumn_7 : decode b_B_draftColumn 7 = .ok (.if_icmp .ge 60, 3) := by decide +kernel
theorem d_B_draftColumn_10 : decode b_B_draftColumn 10 = .ok (.aload_n 0, 1) := by decide +kernel
theorem d_B_draftColumn_11 : decode b_B_draftColumn 11 = .ok (.getfield 18, 3) := by decide +kernel
theorem d_B_draftColumn_14 : decode b_B_draftColumn 14 = .ok (.invokevirtual 31, 3) := by decide +kernel
theorem d_B_draftColumn_17 : decode b_B_draftColumn 17 = .ok (.aload_n 0, 1) := by decide +kernel
theorem d_B_draftColumn_18 : decode b_B_draftColumn 18 = .ok (.getfield 18, 3) := by decide +kernel
theorem d_B_draftColumn_21 : decode b_B_draftColumn 21 = .ok (.aload_n 0, 1) := by decide +kernel
theorem d_B_draftColumn_22 : decode b_B_draftColumn 22 = .ok (.getfield 14, 3) := by decide +kernel
theorem d_B_draftColumn_25 : decode b_B_draftColumn 25 = .ok (.iload_n 1, 1) := by decide +kernel
theorem d_B_draftColumn_26 : decode b_B_draftColumn 26 = .ok (.bipush 16, 2) := by decide +kernel
theorem d_B_draftColumn_28 : decode b_B_draftColumn 28 = .ok (.imul, 1) := by decide +kernel
theorem d_B_draftColumn_29 : decode b_B_draftColumn 29 = .ok (.iload 4, 2) := by decide +kernel
theorem d_B_draftColumn_31 : decode b_B_draftColumn 31 = .ok (.iadd, 1) := by decide +kernel
theorem d_B_draftColumn_32 : decode b_B_draftColumn 32 = .ok (.invokevirtual 90, 3) := by decide +kernel
theorem d_B_draftColumn_35 : decode b_B_draftColumn 35 = .ok (.aload_n 0, 1) := by decide +kernel
theorem d_B_draftColumn_36 : decode b_B_draftColumn 36 = .ok (.getfield 18, 3) := by decide +kernel
theorem d_B_draftColumn_39 : decode b_B_draftColumn 39 = .ok (.iload 4, 2) := by decide +kernel
theorem d_B_draftColumn_41 : decode b_B_draftColumn 41 = .ok (.iload_n 2, 1) := by decide +kernel
theorem d_B_draftColumn_42 : decode b_B_draftColumn 42 = .ok (.if_icmp .ne 7, 3) := by decide +kernel
theorem d_B_draftColumn_45 : decode b_B_draftColumn 45 = .ok (.iconst 1, 1) := by decide +kernel
theorem d_B_draftColumn_46 : decode b_B_draftColumn 46 = .ok (.goto 4, 3) := by decide +kernel
theorem d_B_draftColumn_49 : decode b_B_draftColumn 49 = .ok (.iconst 0, 1) := by decide +kernel
theorem d_B_draftColumn_50 : decode b_B_draftColumn 50 = .ok (.aload_n 0, 1) := by decide +kernel
theorem d_B_draftColumn_51 : decode b_B_draftColumn 51 = .ok (.getfield 27, 3) := by decide +kernel
theorem d_B_draftColumn_54 : decode b_B_draftColumn 54 = .ok (.bipush 31, 2) := by decide +kernel
theorem d_B_draftColumn_56 : decode b_B_draftColumn 56 = .ok (.irem, 1) := by decide +kernel
theorem d_B_draftColumn_57 : decode b_B_draftColumn 57 = .ok (.iload_n 3, 1) := by decide +kernel
theorem d_B_draftColumn_58 : decode b_B_draftColumn 58 = .ok (.invokevirtual 94, 3) := by decide +kernel
theorem d_B_draftColumn_61 : decode b_B_draftColumn 61 = .ok (.iinc 4 1, 3) := by decide +kernel
theorem d_B_draftColumn_64 : decode b_B_draftColumn 64 = .ok (.goto (-61), 3) := by decide +kernel
theorem d_B_draftColumn_67 : decode b_B_draftColumn 67 = .ok (.return_, 1) := by decide +kernel
theorem d_B_stackUp_0 : decode b_B_stackUp 0 = .ok (.aload_n 0, 1) := by decide +kernel
theorem d_B_stackUp_1 : decode b_B_stackUp 1 = .ok (.getfield 21, 3) := by decide +kernel
theorem d_B_stackUp_4 : decode b_B_stackUp 4 = .ok (.getfield 39, 3) := by decide +kernel
theorem d_B_stackUp_7 : decode b_B_stackUp 7 = .ok (.bipush 12, 2) := by decide +kernel
theorem d_B_stackUp_9 : decode b_B_stackUp 9 = .ok (.if_icmp .ge 22, 3) := by decide +kernel
theorem d_B_stackUp_12 : decode b_B_stackUp 12 = .ok (.aload_n 0, 1) := by decide +kernel
theorem d_B_stackUp_13 : decode b_B_stackUp 13 = .ok (.getfield 21, 3) := by decide +kernel
theorem d_B_stackUp_16 : decode b_B_stackUp 16 = .ok (.invokevirtual 49, 3) := by decide +kernel
theorem d_B_stackUp_19 : decode b_B_stackUp 19 = .ok (.aload_n 1, 1) := by decide +kernel
theorem d_B_stackUp_20 : decode b_B_stackUp 20 = .ok (.iload_n 2, 1) := by decide +kernel
theorem d_B_stackUp_21 : decode b_B_stackUp 21 = .ok (.invokevirtual 81, 3) := by decide +kernel
theorem d_B_stackUp_24 : decode b_B_stackUp 24 = .ok (.iadd, 1) := by decide +kernel
theorem d_B_stackUp_25 : decode b_B_stackUp 25 = .ok (.sipush 3000, 3) := by decide +kernel
theorem d_B_stackUp_28 : decode b_B_stackUp 28 = .ok (.if_icmp .le 6, 3) := by decide +kernel
theorem d_B_stackUp_31 : decode b_B_stackUp 31 = .ok (.bipush (-3), 2) := by decide +kernel
theorem d_B_stackUp_33 : decode b_B_stackUp 33 = .ok (.ireturn, 1) := by decide +kernel
theorem d_B_stackUp_34 : decode b_B_stackUp 34 = .ok (.aload_n 0, 1) := by decide +kernel
theorem d_B_stackUp_35 : decode b_B_stackUp 35 = .ok (.getfield 21, 3) := by decide +kernel
theorem d_B_stackUp_38 : decode b_B_stackUp 38 = .ok (.invokevirtual 31, 3) := by decide +kernel
theorem d_B_stackUp_41 : decode b_B_stackUp 41 = .ok (.aload_n 0, 1) := by decide +kernel
theorem d_B_stackUp_42 : decode b_B_stackUp 42 = .ok (.getfield 21, 3) := by decide +kernel
theorem d_B_stackUp_45 : decode b_B_stackUp 45 = .ok (.aload_n 1, 1) := by decide +kernel
theorem d_B_stackUp_46 : decode b_B_stackUp 46 = .ok (.iload_n 2, 1) := by decide +kernel
theorem d_B_stackUp_47 : decode b_B_stackUp 47 = .ok (.invokevirtual 90, 3) := by decide +kernel
theorem d_B_stackUp_50 : decode b_B_stackUp 50 = .ok (.aload_n 0, 1) := by decide +kernel
theorem d_B_stackUp_51 : decode b_B_stackUp 51 = .ok (.getfield 21, 3) := by decide +kernel
theorem d_B_stackUp_54 : decode b_B_stackUp 54 = .ok (.getfield 39, 3) := by decide +kernel
theorem d_B_stackUp_57 : decode b_B_stackUp 57 = .ok (.ireturn, 1) := by decide +kernel
theorem d_B_replaceTop_0 : decode b_B_replaceTop 0 = .ok (.aload_n 0, 1) := by decide +kernel
theorem d_B_replaceTop_1 : decode b_B_replaceTop 1 = .ok (.getfield 21, 3) := by decide +kernel
theorem d_B_replaceTop_4 : decode b_B_replaceTop 4 = .ok (.aload_n 0, 1) := by decide +kernel
theorem d_B_replaceTop_5 : decode b_B_replaceTop 5 = .ok (.getfield 21, 3) := by decide +kernel
theorem d_B_replaceTop_8 : decode b_B_replaceTop 8 = .ok (.getfield 39, 3) := by decide +kernel
theorem d_B_replaceTop_11 : decode b_B_replaceTop 11 = .ok (.iload_n 1, 1) := by decide +kernel
theorem d_B_replaceTop_12 : decode b_B_replaceTop 12 = .ok (.isub, 1) := by decide +kernel
theorem d_B_replaceTop_13 : decode b_B_replaceTop 13 = .ok (.invokevirtual 98, 3) := by decide +kernel
theorem d_B_replaceTop_16 : decode b_B_replaceTop 16 = .ok (.istore_n 2, 1) := by decide +kernel
theorem d_B_replaceTop_17 : decode b_B_replaceTop 17 = .ok (.iload_n 2, 1) := by decide +kernel
theorem d_B_replaceTop_18 : decode b_B_replaceTop 18 = .ok (.aload_n 0, 1) := by decide +kernel
theorem d_B_replaceTop_19 : decode b_B_replaceTop 19 = .ok (.getfield 24, 3) := by decide +kernel
theorem d_B_replaceTop_22 : decode b_B_replaceTop 22 = .ok (.invokevirtual 49, 3) := by decide +kernel
theorem d_B_replaceTop_25 : decode b_B_replaceTop 25 = .ok (.iadd, 1) := by decide +kernel
theorem d_B_replaceTop_26 : decode b_B_replaceTop 26 = .ok (.sipush 3000, 3) := by decide +kernel
theorem d_B_replaceTop_29 : decode b_B_replaceTop 29 = .ok (.if_icmp .le 6, 3) := by decide +kernel
theorem d_B_replaceTop_32 : decode b_B_replaceTop 32 = .ok (.bipush (-3), 2) := by decide +kernel
theorem d_B_replaceTop_34 : decode b_B_replaceTop 34 = .ok (.ireturn, 1) := by decide +kernel
theorem d_B_replaceTop_35 : decode b_B_replaceTop 35 = .ok (.iconst 0, 1) := by decide +kernel
theorem d_B_replaceTop_36 : decode b_B_replaceTop 36 = .ok (.istore_n 3, 1) := by decide +kernel
theorem d_B_replaceTop_37 : decode b_B_replaceTop 37 = .ok (.iload_n 3, 1) := by decide +kernel
theorem d_B_replaceTop_38 : decode b_B_replaceTop 38 = .ok (.iload_n 1, 1) := by decide +kernel
theorem d_B_replaceTop_39 : decode b_B_replaceTop 39 = .ok (.if_icmp .ge 16, 3) := by decide +kernel
theorem d_B_replaceTop_42 : decode b_B_replaceTop 42 = .ok (.aload_n 0, 1) := by decide +kernel
theorem d_B_replaceTop_43 : decode b_B_replaceTop 43 = .ok (.getfield 21, 3) := by decide +kernel
theorem d_B_replaceTop_46 : decode b_B_replaceTop 46 = .ok (.invokevirtual 87, 3) := by decide +kernel
theorem d_B_replaceTop_49 : decode b_B_replaceTop 49 = .ok (.iinc 3 1, 3) := by decide +kernel
theorem d_B_replaceTop_52 : decode b_B_replaceTop 52 = .ok (.goto (-15), 3) := by decide +kernel
theorem d_B_replaceTop_55 : decode b_B_replaceTop 55 = .ok (.aload_n 0, 1) := by decide +kernel
theorem d_B_replaceTop_56 : decode b_B_replaceTop 56 = .ok (.getfield 21, 3) := by decide +kernel
theorem d_B_replaceTop_59 : decode b_B_replaceTop 59 = .ok (.invokevirtual 31, 3) := by decide +kernel
theorem d_B_replaceTop_62 : decode b_B_replaceTop 62 = .ok (.aload_n 0, 1) := by decide +kernel
theorem d_B_replaceTop_63 : decode b_B_replaceTop 63 = .ok (.getfield 21, 3) := by decide +kernel
theorem d_B_replaceTop_66 : decode b_B_replaceTop 66 = .ok (.aload_n 0, 1) := by decide +kernel
theorem d_B_replaceTop_67 : decode b_B_replaceTop 67 = .ok (.getfield 24, 3) := by decide +kernel
theorem d_B_replaceTop_70 : decode b_B_replaceTop 70 = .ok (.iconst 0, 1) := by decide +kernel
theorem d_B_replaceTop_71 : decode b_B_replaceTop 71 = .ok (.invokevirtual 90, 3) := by decide +kernel
theorem d_B_replaceTop_74 : decode b_B_replaceTop 74 = .ok (.aload_n 0, 1) := by decide +kernel
theorem d_B_replaceTop_75 : decode b_B_replaceTop 75 = .ok (.getfield 21, 3) := by decide +kernel
theorem d_B_replaceTop_78 : decode b_B_replaceTop 78 = .ok (.getfield 39, 3) := by decide +kernel
theorem d_B_replaceTop_81 : decode b_B_replaceTop 81 = .ok (.ireturn, 1) := by decide +kernel
theorem d_B_fillOf_0 : decode b_B_fillOf 0 = .ok (.iload_n 0, 1) := by decide +kernel
theorem d_B_fillOf_1 : decode b_B_fillOf 1 = .ok (.ldc 101, 2) := by decide +kernel
theorem d_B_fillOf_3 : decode b_B_fillOf 3 = .ok (.if_icmp .ne 12, 3) := by decide +kernel
theorem d_B_fillOf_6 : decode b_B_fillOf 6 = .ok (.bipush (-2), 2) := by decide +kernel
theorem d_B_fillOf_8 : decode b_B_fillOf 8 = .ok (.iload_n 1, 1) := by decide +kernel
theorem d_B_fillOf_9 : decode b_B_fillOf 9 = .ok (.imul, 1) := by decide +kernel
theorem d_B_fillOf_10 : decode b_B_fillOf 10 = .ok (.iconst 1, 1) := by decide +kernel
theorem d_B_fillOf_11 : decode b_B_fillOf 11 = .ok (.isub, 1) := by decide +kernel
theorem d_B_fillOf_12 : decode b_B_fillOf 12 = .ok (.goto 7, 3) := by decide +kernel
theorem d_B_fillOf_15 : decode b_B_fillOf 15 = .ok (.bipush (-2), 2) := by decide +kernel
theorem d_B_fillOf_17 : decode b_B_fillOf 17 = .ok (.iload_n 1, 1) := by decide +kernel
theorem d_B_fillOf_18 : decode b_B_fillOf 18 = .ok (.imul, 1) := by decide +kernel
theorem d_B_fillOf_19 : decode b_B_fillOf 19 = .ok (.ireturn, 1) := by decide +kernel
theorem d_B_groupsOf_0 : decode b_B_groupsOf 0 = .ok (.iload_n 0, 1) := by decide +kernel
theorem d_B_groupsOf_1 : decode b_B_groupsOf 1 = .ok (.ifCond .ge 10, 3) := by decide +kernel
theorem d_B_groupsOf_4 : decode b_B_groupsOf 4 = .ok (.iload_n 0, 1) := by decide +kernel
theorem d_B_groupsOf_5 : decode b_B_groupsOf 5 = .ok (.ineg, 1) := by decide +kernel
theorem d_B_groupsOf_6 : decode b_B_groupsOf 6 = .ok (.iconst 2, 1) := by decide +kernel
theorem d_B_groupsOf_7 : decode b_B_groupsOf 7 = .ok (.idiv, 1) := by decide +kernel
theorem d_B_groupsOf_8 : decode b_B_groupsOf 8 = .ok (.goto 4, 3) := by decide +kernel
theorem d_B_groupsOf_11 : decode b_B_groupsOf 11 = .ok (.iconst 1, 1) := by decide +kernel
theorem d_B_groupsOf_12 : decode b_B_groupsOf 12 = .ok (.ireturn, 1) := by decide +kernel
theorem d_B_bitsOf_0 : decode b_B_bitsOf 0 = .ok (.iload_n 0, 1) := by decide +kernel
theorem d_B_bitsOf_1 : decode b_B_bitsOf 1 = .ok (.ifCond .lt 5, 3) := by decide +kernel
theorem d_B_bitsOf_4 : decode b_B_bitsOf 4 = .ok (.iload_n 0, 1) := by decide +kernel
theorem d_B_bitsOf_5 : decode b_B_bitsOf 5 = .ok (.ireturn, 1) := by decide +kernel
theorem d_B_bitsOf_6 : decode b_B_bitsOf 6 = .ok (.iload_n 0, 1) := by decide +kernel
theorem d_B_bitsOf_7 : decode b_B_bitsOf 7 = .ok (.iconst 1, 1) := by decide +kernel
theorem d_B_bitsOf_8 : decode b_B_bitsOf 8 = .ok (.iand, 1) := by decide +kernel
theorem d_B_bitsOf_9 : decode b_B_bitsOf 9 = .ok (.iconst 1, 1) := by decide +kernel
theorem d_B_bitsOf_10 : decode b_B_bitsOf 10 = .ok (.if_icmp .ne 8, 3) := by decide +kernel
theorem d_B_bitsOf_13 : decode b_B_bitsOf 13 = .ok (.ldc 101, 2) := by decide +kernel
theorem d_B_bitsOf_15 : decode b_B_bitsOf 15 = .ok (.goto 4, 3) := by decide +kernel
theorem d_B_bitsOf_18 : decode b_B_bitsOf 18 = .ok (.iconst 0, 1) := by decide +kernel
theorem d_B_bitsOf_19 : decode b_B_bitsOf 19 = .ok (.ireturn, 1) := by decide +kernel
theorem d_B_firstBits_0 : decode b_B_firstBits 0 = .ok (.iconst 1, 1) := by decide +kernel
theorem d_B_firstBits_1 : decode b_B_firstBits 1 = .ok (.iload_n 0, 1) := by decide +kernel
theorem d_B_firstBits_2 : decode b_B_firstBits 2 = .ok (.ishl, 1) := by decide +kernel
theorem d_B_firstBits_3 : decode b_B_firstBits 3 = .ok (.iconst 1, 1) := by decide +kernel
theorem d_B_firstBits_4 : decode b_B_firstBits 4 = .ok (.isub, 1) := by decide +kernel
theorem d_B_firstBits_5 : decode b_B_firstBits 5 = .ok (.ireturn, 1) := by decide +kernel
theorem d_B_joinedBits_0 : decode b_B_joinedBits 0 = .ok (.iload_n 0, 1) := by decide +kernel
theorem d_B_joinedBits_1 : decode b_B_joinedBits 1 = .ok (.tableswitch 41 0 2 #[27, 31, 35], 27) := by decide +kernel
theorem d_B_joinedBits_28 : decode b_B_joinedBits 28 = .ok (.iload_n 1, 1) := by decide +kernel
theorem d_B_joinedBits_29 : decode b_B_joinedBits 29 = .ok (.iload_n 2, 1) := by decide +kernel
theorem d_B_joinedBits_30 : decode b_B_joinedBits 30 = .ok (.iand, 1) := by decide +kernel
theorem d_B_joinedBits_31 : decode b_B_joinedBits 31 = .ok (.ireturn, 1) := by decide +kernel
theorem d_B_joinedBits_32 : decode b_B_joinedBits 32 = .ok (.iload_n 1, 1) := by decide +kernel
theorem d_B_joinedBits_33 : decode b_B_joinedBits 33 = .ok (.iload_n 2, 1) := by decide +kernel
theorem d_B_joinedBits_34 : decode b_B_joinedBits 34 = .ok (.ior, 1) := by decide +kernel
theorem d_B_joinedBits_35 : decode b_B_joinedBits 35 = .ok (.ireturn, 1) := by decide +kernel
theorem d_B_joinedBits_36 : decode b_B_joinedBits 36 = .ok (.iload_n 1, 1) := by decide +kernel
theorem d_B_joinedBits_37 : decode b_B_joinedBits 37 = .ok (.iload_n 2, 1) := by decide +kernel
theorem d_B_joinedBits_38 : decode b_B_joinedBits 38 = .ok (.iconst (-1), 1) := by decide +kernel
theorem d_B_joinedBits_39 : decode b_B_joinedBits 39 = .ok (.ixor, 1) := by decide +kernel
theorem d_B_joinedBits_40 : decode b_B_joinedBits 40 = .ok (.iand, 1) := by decide +kernel
theorem d_B_joinedBits_41 : decode b_B_joinedBits 41 = .ok (.ireturn, 1) := by decide +kernel
theorem d_B_joinedBits_42 : decode b_B_joinedBits 42 = .ok (.iload_n 1, 1) := by decide +kernel
theorem d_B_joinedBits_43 : decode b_B_joinedBits 43 = .ok (.iload_n 2, 1) := by decide +kernel
theorem d_B_joinedBits_44 : decode b_B_joinedBits 44 = .ok (.ixor, 1) := by decide +kernel
theorem d_B_joinedBits_45 : decode b_B_joinedBits 45 = .ok (.ireturn, 1) := by decide +kernel
end
section
/-! the instructions -/
theorem d_M_init_0 : decode b_M_init 0 = .ok (.aload_n 0, 1) := by decide +kernel
theorem d_M_init_1 : decode b_M_init 1 = .ok (.invokespecial 1, 3) := by decide +kernel
theorem d_M_init_4 : decode b_M_init 4 = .ok (.aload_n 0, 1) := by decide +kernel
theorem d_M_init_5 : decode b_M_init 5 = .ok (.ldc 7, 2) := by decide +kernel
theorem d_M_init_7 : decode b_M_init 7 = .ok (.newarray .int, 2) := by decide +kernel
theorem d_M_init_9 : decode b_M_init 9 = .ok (.putfield 8, 3) := by decide +kernel
theorem d_M_init_12 : decode b_M_init 12 = .ok (.aload_n 0, 1) := by decide +kernel
theorem d_M_init_13 : decode b_M_init 13 = .ok (.ldc 14, 2) := by decide +kernel
theorem d_M_init_15 : decode b_M_init 15 = .ok (.newarray .int, 2) := by decide +kernel
theorem d_M_init_17 : decode b_M_init 17 = .ok (.putfield 15, 3) := by decide +kernel
theorem d_M_init_20 : decode b_M_init 20 = .ok (.aload_n 0, 1) := by decide +kernel
theorem d_M_init_21 : decode b_M_init 21 = .ok (.ldc 18, 2) := by decide +kernel
theorem d_M_init_23 : decode b_M_init 23 = .ok (.newarray .int, 2) := by decide +kernel
theorem d_M_init_25 : decode b_M_init 25 = .ok (.putfield 19, 3) := by decide +kernel
theorem d_M_init_28 : decode b_M_init 28 = .ok (.aload_n 0, 1) := by decide +kernel
theorem d_M_init_29 : decode b_M_init 29 = .ok (.bipush 15, 2) := by decide +kernel
theorem d_M_init_31 : decode b_M_init 31 = .ok (.newarray .int, 2) := by decide +kernel
theorem d_M_init_33 : decode b_M_init 33 = .ok (.putfield 22, 3) := by decide +kernel
theorem d_M_init_36 : decode b_M_init 36 = .ok (.return_, 1) := by decide +kernel
theorem d_M_rows_0 : decode b_M_rows 0 = .ok (.aload_n 0, 1) := by decide +kernel
theorem d_M_rows_1 : decode b_M_rows 1 = .ok (.getfield 25, 3) := by decide +kernel
theorem d_M_rows_4 : decode b_M_rows 4 = .ok (.ifCond .ne 7, 3) := by decide +kernel
theorem d_M_rows_7 : decode b_M_rows 7 = .ok (.iconst 0, 1) := by decide +kernel
theorem d_M_rows_8 : decode b_M_rows 8 = .ok (.goto 14, 3) := by decide +kernel
theorem d_M_rows_11 : decode b_M_rows 11 = .ok (.aload_n 0, 1) := by decide +kernel
theorem d_M_rows_12 : decode b_M_rows 12 = .ok (.getfield 8, 3) := by decide +kernel
theorem d_M_rows_15 : decode b_M_rows 15 = .ok (.aload_n 0, 1) := by decide +kernel
theorem d_M_rows_16 : decode b_M_rows 16 = .ok (.getfield 25, 3) := by decide +kernel
theorem d_M_rows_19 : decode b_M_rows 19 = .ok (.iconst 1, 1) := by decide +kernel
theorem d_M_rows_20 : decode b_M_rows 20 = .ok (.isub, 1) := by decide +kernel
theorem d_M_rows_21 : decode b_M_rows 21 = .ok (.iaload, 1) := by decide +kernel
theorem d_M_rows_22 : decode b_M_rows 22 = .ok (.ireturn, 1) := by decide +kernel
theorem d_M_see_0 : decode b_M_see 0 = .ok (.aload_n 0, 1) := by decide +kernel
theorem d_M_see_1 : decode b_M_see 1 = .ok (.aload_n 0, 1) := by decide +kernel
theorem d_M_see_2 : decode b_M_see 2 = .ok (.getfield 29, 3) := by decide +kernel
theorem d_M_see_5 : decode b_M_see 5 = .ok (.aload_n 0, 1) := by decide +kernel
theorem d_M_see_6 : decode b_M_see 6 = .ok (.getfield 32, 3) := by decide +kernel
theorem d_M_see_9 : decode b_M_see 9 = .ok (.if_icmp .ne 7, 3) := by decide +kernel
theorem d_M_see_12 : decode b_M_see 12 = .ok (.iload_n 1, 1) := by decide +kernel
theorem d_M_see_13 : decode b_M_see 13 = .ok (.goto 7, 3) := by decide +kernel
theorem d_M_see_16 : decode b_M_see 16 = .ok (.aload_n 0, 1) := by decide +kernel
theorem d_M_see_17 : decode b_M_see 17 = .ok (.getfield 35, 3) := by decide +kernel
theorem d_M_see_20 : decode b_M_see 20 = .ok (.putfield 35, 3) := by decide +kernel
theorem d_M_see_23 : decode b_M_see 23 = .ok (.aload_n 0, 1) := by decide +kernel
theorem d_M_see_24 : decode b_M_see 24 = .ok (.dup, 1) := by decide +kernel
theorem d_M_see_25 : decode b_M_see 25 = .ok (.getfield 29, 3) := by decide +kernel
theorem d_M_see_28 : decode b_M_see 28 = .ok (.iconst 1, 1) := by decide +kernel
theorem d_M_see_29 : decode b_M_see 29 = .ok (.iadd, 1) := by decide +kernel
theorem d_M_see_30 : decode b_M_see 30 = .ok (.putfield 29, 3) := by decide +kernel
theorem d_M_see_33 : decode b_M_see 33 = .ok (.return_, 1) := by decide +kernel
theorem d_M_literal_0 : decode b_M_literal 0 = .ok (.bipush 31, 2) := by decide +kernel
theorem d_M_literal_2 : decode b_M_literal 2 = .ok (.iload_n 1, 1) := by decide +kernel
theorem d_M_literal_3 : decode b_M_literal 3 = .ok (.imul, 1) := by decide +kernel
theorem d_M_literal_4 : decode b_M_literal 4 = .ok (.istore_n 3, 1) := by decide +kernel
theorem d_M_literal_5 : decode b_M_literal 5 = .ok (.iconst 0, 1) := by decide +kernel
theorem d_M_literal_6 : decode b_M_literal 6 = .ok (.istore 4, 2) := by decide +kernel
theorem d_M_literal_8 : decode b_M_literal 8 = .ok (.iconst 1, 1) := by decide +kernel
theorem d_M_literal_9 : decode b_M_literal 9 = .ok (.istore 5, 2) := by decide +kernel
theorem d_M_literal_11 : decode b_M_literal 11 = .ok (.iload 5, 2) := by decide +kernel
theorem d_M_literal_13 : decode b_M_literal 13 = .ok (.ifCond .eq 168, 3) := by decide +kernel
theorem d_M_literal_16 : decode b_M_literal 16 = .ok (.aload_n 0, 1) := by decide +kernel
theorem d_M_literal_17 : decode b_M_literal 17 = .ok (.getfield 38, 3) := by decide +kernel
theorem d_M_literal_20 : decode b_M_literal 20 = .ok (.iload_n 2, 1) := by decide +kernel
theorem d_M_literal_21 : decode b_M_literal 21 = .ok (.if_icmp .ge 160, 3) := by decide +kernel
theorem d_M_literal_24 : decode b_M_literal 24 = .ok (.aload_n 0, 1) := by decide +kernel
theorem d_M_literal_25 : decode b_M_literal 25 = .ok (.getfield 19, 3) := by decide +kernel
theorem d_M_literal_28 : decode b_M_literal 28 = .ok (.aload_n 0, 1) := by decide +kernel
theorem d_M_literal_29 : decode b_M_literal 29 = .ok (.getfield 38, 3) := by decide +kernel
theorem d_M_literal_32 : decode b_M_literal 32 = .ok (.iaload, 1) := by decide +kernel
theorem d_M_literal_33 : decode b_M_literal 33 = .ok (.iload_n 3, 1) := by decide +kernel
theorem d_M_literal_34 : decode b_M_literal 34 = .ok (.bipush 31, 2) := by decide +kernel
theorem d_M_literal_36 : decode b_M_literal 36 = .ok (.iadd, 1) := by decide +kernel
theorem d_M_literal_37 : decode b_M_literal 37 = .ok (.if_icmp .ge 144, 3) := by decide +kernel
theorem d_M_literal_40 : decode b_M_literal 40 = .ok (.aload_n 0, 1) := by decide +kernel
theorem d_M_literal_41 : decode b_M_literal 41 = .ok (.getfield 19, 3) := by decide +kernel
theorem d_M_literal_44 : decode b_M_literal 44 = .ok (.aload_n 0, 1) := by decide +kernel
theorem d_M_literal_45 : decode b_M_literal 45 = .ok (.getfield 38, 3) := by decide +kernel
theorem d_M_literal_48 : decode b_M_literal 48 = .ok (.iaload, 1) := by decide +kernel
theorem d_M_literal_49 : decode b_M_literal 49 = .ok (.iload_n 3, 1) := by decide +kernel
theorem d_M_literal_50 : decode b_M_literal 50 = .ok (.if_icmp .le 17, 3) := by decide +kernel
theorem d_M_literal_53 : decode b_M_literal 53 = .ok (.aload_n 0, 1) := by decide +kernel
theorem d_M_literal_54 : decode b_M_literal 54 = .ok (.getfield 19, 3) := by decide +kernel
theorem d_M_literal_57 : decode b_M_literal 57 = .ok (.aload_n 0, 1) := by decide +kernel
theorem d_M_literal_58 : decode b_M_literal 58 = .ok (.getfield 38, 3) := by decide +kernel
theorem d_M_literal_61 : decode b_M_literal 61 = .ok (.iaload, 1) := by decide +kernel
theorem d_M_literal_62 : decode b_M_literal 62 = .ok (.iload_n 3, 1) := by decide +kernel
theorem d_M_literal_63 : decode b_M_literal 63 = .ok (.isub, 1) := by decide +kernel
theorem d_M_literal_64 : decode b_M_literal 64 = .ok (.goto 4, 3) := by decide +kernel
theorem d_M_literal_67 : decode b_M_literal 67 = .ok (.iconst 0, 1) := by decide +kernel
theorem d_M_literal_68 : decode b_M_literal 68 = .ok (.istore 6, 2) := by decide +kernel
theorem d_M_literal_70 : decode b_M_literal 70 = .ok (.aload_n 0, 1) := by decide +kernel
theorem d_M_literal_71 : decode b_M_literal 71 = .ok (.getfield 19, 3) := by decide +kernel
theorem d_M_literal_74 : decode b_M_literal 74 = .ok (.aload_n 0, 1) := by decide +kernel
theorem d_M_literal_75 : decode b_M_literal 75 = .ok (.getfield 38, 3) := by decide +kernel
theorem d_M_literal_78 : decode b_M_literal 78 = .ok (.iconst 1, 1) := by decide +kernel
theorem d_M_literal_79 : decode b_M_literal 79 = .ok (.iadd, 1) := by decide +kernel
theorem d_M_literal_80 : decode b_M_literal 80 = .ok (.iaload, 1) := by decide +kernel
theorem d_M_literal_81 : decode b_M_literal 81 = .ok (.iload_n 3, 1) := by decide +kernel
theorem d_M_literal_82 : decode b_M_literal 82 = .ok (.bipush 31, 2) := by decide +kernel
theorem d_M_literal_84 : decode b_M_literal 84 = .ok (.iadd, 1) := by decide +kernel
theorem d_M_literal_85 : decode b_M_literal 85 = .ok (.if_icmp .ge 19, 3) := by decide +kernel
theorem d_M_literal_88 : decode b_M_literal 88 = .ok (.aload_n 0, 1) := by decide +kernel
theorem d_M_literal_89 : decode b_M_literal 89 = .ok (.getfield 19, 3) := by decide +kernel
theorem d_M_literal_92 : decode b_M_literal 92 = .ok (.aload_n 0, 1) := by decide +kernel
theorem d_M_literal_93 : decode b_M_literal 93 = .ok (.getfield 38, 3) := by decide +kernel
theorem d_M_literal_96 : decode b_M_literal 96 = .ok (.iconst 1, 1) := by decide +kernel
theorem d_M_literal_97 : decode b_M_literal 97 = .ok (.iadd, 1) := by decide +kernel
theorem d_M_literal_98 : decode b_M_literal 98 = .ok (.iaload, 1) := by decide +kernel
theorem d_M_literal_99 : decode b_M_literal 99 = .ok (.iload_n 3, 1) := by decide +kernel
theorem d_M_literal_100 : decode b_M_literal 100 = .ok (.isub, 1) := by decide +kernel
theorem d_M_literal_101 : decode b_M_literal 101 = .ok (.goto 5, 3) := by decide +kernel
theorem d_M_literal_104 : decode b_M_literal 104 = .ok (.bipush 31, 2) := by decide +kernel
theorem d_M_literal_106 : decode b_M_literal 106 = .ok (.istore 7, 2) := by decide +kernel
theorem d_M_literal_108 : decode b_M_literal 108 = .ok (.iload 6, 2) := by decide +kernel
theorem d_M_literal_110 : decode b_M_literal 110 = .ok (.istore 8, 2) := by decide +kernel
theorem d_M_literal_112 : decode b_M_literal 112 = .ok (.iload 8, 2) := by decide +kernel
theorem d_M_literal_114 : decode b_M_literal 114 = .ok (.iload 7, 2) := by decide +kernel
theorem d_M_literal_116 : decode b_M_literal 116 = .ok (.if_icmp .ge 18, 3) := by decide +kernel
theorem d_M_literal_119 : decode b_M_literal 119 = .ok (.iload 4, 2) := by decide +kernel
theorem d_M_literal_121 : decode b_M_literal 121 = .ok (.iconst 1, 1) := by decide +kernel
theorem d_M_literal_122 : decode b_M_literal 122 = .ok (.iload 8, 2) := by decide +kernel
theorem d_M_literal_124 : decode b_M_literal 124 = .ok (.ishl, 1) := by decide +kernel
theorem d_M_literal_125 : decode b_M_literal 125 = .ok (.ior, 1) := by decide +kernel
theorem d_M_literal_126 : decode b_M_literal 126 = .ok (.istore 4, 2) := by decide +kernel
theorem d_M_literal_128 : decode b_M_literal 128 = .ok (.iinc 8 1, 3) := by decide +kernel
theorem d_M_literal_131 : decode b_M_literal 131 = .ok (.goto (-19), 3) := by decide +kernel
theorem d_M_literal_134 : decode b_M_literal 134 = .ok (.aload_n 0, 1) := by decide +kernel
theorem d_M_literal_135 : decode b_M_literal 135 = .ok (.getfield 19, 3) := by decide +kernel
theorem d_M_literal_138 : decode b_M_literal 138 = .ok (.aload_n 0, 1) := by decide +kernel
theorem d_M_literal_139 : decode b_M_literal 139 = .ok (.getfield 38, 3) := by decide +kernel
theorem d_M_literal_142 : decode b_M_literal 142 = .ok (.iconst 1, 1) := by decide +kernel
theorem d_M_literal_143 : decode b_M_literal 143 = .ok (.iadd, 1) := by decide +kernel
theorem d_M_literal_144 : decode b_M_literal 144 = .ok (.iaload, 1) := by decide +kernel
theorem d_M_literal_145 : decode b_M_literal 145 = .ok (.iload_n 3, 1) := by decide +kernel
theorem d_M_literal_146 : decode b_M_literal 146 = .ok (.bipush 31, 2) := by decide +kernel
theorem d_M_literal_148 : decode b_M_literal 148 = .ok (.iadd, 1) := by decide +kernel
theorem d_M_literal_149 : decode b_M_literal 149 = .ok (.if_icmp .gt 7, 3) := by decide +kernel
theorem d_M_literal_152 : decode b_M_literal 152 = .ok (.iconst 1, 1) := by decide +kernel
theorem d_M_literal_153 : decode b_M_literal 153 = .ok (.goto 4, 3) := by decide +kernel
theorem d_M_literal_156 : decode b_M_literal 156 = .ok (.iconst 0, 1) := by decide +kernel
theorem d_M_literal_157 : decode b_M_literal 157 = .ok (.istore 5, 2) := by decide +kernel
theorem d_M_literal_159 : decode b_M_literal 159 = .ok (.aload_n 0, 1) := by decide +kernel
theorem d_M_literal_160 : decode b_M_literal 160 = .ok (.dup, 1) := by decide +kernel
theorem d_M_literal_161 : decode b_M_literal 161 = .ok (.getfield 38, 3) := by decide +kernel
theorem d_M_literal_164 : decode b_M_literal 164 = .ok (.iload 5, 2) := by decide +kernel
theorem d_M_literal_166 : decode b_M_literal 166 = .ok (.ifCond .eq 7, 3) := by decide +kernel
theorem d_M_literal_169 : decode b_M_literal 169 = .ok (.iconst 2, 1) := by decide +kernel
theorem d_M_literal_170 : decode b_M_literal 170 = .ok (.goto 4, 3) := by decide +kernel
theorem d_M_literal_173 : decode b_M_literal 173 = .ok (.iconst 0, 1) := by decide +kernel
theorem d_M_literal_174 : decode b_M_literal 174 = .ok (.iadd, 1) := by decide +kernel
theorem d_M_literal_175 : decode b_M_literal 175 = .ok (.putfield 38, 3) := by decide +kernel
theorem d_M_literal_178 : decode b_M_literal 178 = .ok (.goto (-167), 3) := by decide +kernel
theorem d_M_literal_181 : decode b_M_literal 181 = .ok (.iload 4, 2) := by decide +kernel
theorem d_M_literal_183 : decode b_M_literal 183 = .ok (.ireturn, 1) := by decide +kernel
theorem d_M_goAlong_0 : decode b_M_goAlong 0 = .ok (.aload_n 0, 1) := by decide +kernel
theorem d_M_goAlong_1 : decode b_M_goAlong 1 = .ok (.invokevirtual 41, 3) := by decide +kernel
theorem d_M_goAlong_4 : decode b_M_goAlong 4 = .ok (.bipush 31, 2) := by decide +kernel
theorem d_M_goAlong_6 : decode b_M_goAlong 6 = .ok (.iadd, 1) := by decide +kernel
theorem d_M_goAlong_7 : decode b_M_goAlong 7 = .ok (.iconst 1, 1) := by decide +kernel
theorem d_M_goAlong_8 : decode b_M_goAlong 8 = .ok (.isub, 1) := by decide +kernel
theorem d_M_goAlong_9 : decode b_M_goAlong 9 = .ok (.bipush 31, 2) := by decide +kernel
theorem d_M_goAlong_11 : decode b_M_goAlong 11 = .ok (.idiv, 1) := by decide +kernel
theorem d_M_goAlong_12 : decode b_M_goAlong 12 = .ok (.istore 4, 2) := by decide +kernel
theorem d_M_goAlong_14 : decode b_M_goAlong 14 = .ok (.aload_n 0, 1) := by decide +kernel
theorem d_M_goAlong_15 : decode b_M_goAlong 15 = .ok (.iload_n 1, 1) := by decide +kernel
theorem d_M_goAlong_16 : decode b_M_goAlong 16 = .ok (.putfield 38, 3) := by decide +kernel
theorem d_M_goAlong_19 : decode b_M_goAlong 19 = .ok (.aload_n 0, 1) := by decide +kernel
theorem d_M_goAlong_20 : decode b_M_goAlong 20 = .ok (.iconst 0, 1) := by decide +kernel
theorem d_M_goAlong_21 : decode b_M_goAlong 21 = .ok (.putfield 29, 3) := by decide +kernel
theorem d_M_goAlong_24 : decode b_M_goAlong 24 = .ok (.aload_n 0, 1) := by decide +kernel
theorem d_M_goAlong_25 : decode b_M_goAlong 25 = .ok (.iload_n 3, 1) := by decide +kernel
theorem d_M_goAlong_26 : decode b_M_goAlong 26 = .ok (.putfield 32, 3) := by decide +kernel
theorem d_M_goAlong_29 : decode b_M_goAlong 29 = .ok (.aload_n 0, 1) := by decide +kernel
theorem d_M_goAlong_30 : decode b_M_goAlong 30 = .ok (.iconst 0, 1) := by decide +kernel
theorem d_M_goAlong_31 : decode b_M_goAlong 31 = .ok (.putfield 35, 3) := by decide +kernel
theorem d_M_goAlong_34 : decode b_M_goAlong 34 = .ok (.iconst 0, 1) := by decide +kernel
theorem d_M_goAlong_35 : decode b_M_goAlong 35 = .ok (.istore 5, 2) := by decide +kernel
theorem d_M_goAlong_37 : decode b_M_goAlong 37 = .ok (.iload 5, 2) := by decide +kernel
theorem d_M_goAlong_39 : decode b_M_goAlong 39 = .ok (.iload 4, 2) := by decide +kernel
theorem d_M_goAlong_41 : decode b_M_goAlong 41 = .ok (.if_icmp .ge 200, 3) := by decide +kernel
theorem d_M_goAlong_44 : decode b_M_goAlong 44 = .ok (.aload_n 0, 1) := by decide +kernel
theorem d_M_goAlong_45 : decode b_M_goAlong 45 = .ok (.getfield 38, 3) := by decide +kernel
theorem d_M_goAlong_48 : decode b_M_goAlong 48 = .ok (.iload_n 2, 1) := by decide +kernel
theorem d_M_goAlong_49 : decode b_M_goAlong 49 = .ok (.if_icmp .ge 15, 3) := by decide +kernel
theorem d_M_goAlong_52 : decode b_M_goAlong 52 = .ok (.aload_n 0, 1) := by decide +kernel
theorem d_M_goAlong_53 : decode b_M_goAlong 53 = .ok (.getfield 19, 3) := by decide +kernel
theorem d_M_goAlong_56 : decode b_M_goAlong 56 = .ok (.aload_n 0, 1) := by decide +kernel
theorem d_M_goAlong_57 : decode b_M_goAlong 57 = .ok (.getfield 38, 3) := by decide +kernel
theorem d_M_goAlong_60 : decode b_M_goAlong 60 = .ok (.iaload, 1) := by decide +kernel
theorem d_M_goAlong_61 : decode b_M_goAlong 61 = .ok (.goto 5, 3) := by decide +kernel
theorem d_M_goAlong_64 : decode b_M_goAlong 64 = .ok (.ldc 45, 2) := by decide +kernel
theorem d_M_goAlong_66 : decode b_M_goAlong 66 = .ok (.istore 6, 2) := by decide +kernel
theorem d_M_goAlong_68 : decode b_M_goAlong 68 = .ok (.iload 6, 2) := by decide +kernel
theorem d_M_goAlong_70 : decode b_M_goAlong 70 = .ok (.bipush 31, 2) := by decide +kernel
theorem d_M_goAlong_72 : decode b_M_goAlong 72 = .ok (.iload 5, 2) := by decide +kernel
theorem d_M_goAlong_74 : decode b_M_goAlong 74 = .ok (.imul, 1) := by decide +kernel
theorem d_M_goAlong_75 : decode b_M_goAlong 75 = .ok (.bipush 31, 2) := by decide +kernel
theorem d_M_goAlong_77 : decode b_M_goAlong 77 = .ok (.iadd, 1) := by decide +kernel
theorem d_M_goAlong_78 : decode b_M_goAlong 78 = .ok (.if_icmp .lt 44, 3) := by decide +kernel
theorem d_M_goAlong_81 : decode b_M_goAlong 81 = .ok (.iload 6, 2) := by decide +kernel
theorem d_M_goAlong_83 : decode b_M_goAlong 83 = .ok (.bipush 31, 2) := by decide +kernel
theorem d_M_goAlong_85 : decode b_M_goAlong 85 = .ok (.idiv, 1) := by decide +kernel
theorem d_M_goAlong_86 : decode b_M_goAlong 86 = .ok (.iload 4, 2) := by decide +kernel
theorem d_M_goAlong_88 : decode b_M_goAlong 88 = .ok (.if_icmp .ge 11, 3) := by decide +kernel
theorem d_M_goAlong_91 : decode b_M_goAlong 91 = .ok (.iload 6, 2) := by decide +kernel
theorem d_M_goAlong_93 : decode b_M_goAlong 93 = .ok (.bipush 31, 2) := by decide +kernel
theorem d_M_goAlong_95 : decode b_M_goAlong 95 = .ok (.idiv, 1) := by decide +kernel
theorem d_M_goAlong_96 : decode b_M_goAlong 96 = .ok (.goto 5, 3) := by decide +kernel
theorem d_M_goAlong_99 : decode b_M_goAlong 99 = .ok (.iload 4, 2) := by decide +kernel
theorem d_M_goAlong_101 : decode b_M_goAlong 101 = .ok (.istore 7, 2) := by decide +kernel
theorem d_M_goAlong_103 : decode b_M_goAlong 103 = .ok (.aload_n 0, 1) := by decide +kernel
theorem d_M_goAlong_104 : decode b_M_goAlong 104 = .ok (.bipush (-2), 2) := by decide +kernel
theorem d_M_goAlong_106 : decode b_M_goAlong 106 = .ok (.iload 7, 2) := by decide +kernel
theorem d_M_goAlong_108 : decode b_M_goAlong 108 = .ok (.iload 5, 2) := by decide +kernel
theorem d_M_goAlong_110 : decode b_M_goAlong 110 = .ok (.isub, 1) := by decide +kernel
theorem d_M_goAlong_111 : decode b_M_goAlong 111 = .ok (.imul, 1) := by decide +kernel
theorem d_M_goAlong_112 : decode b_M_goAlong 112 = .ok (.invokevirtual 46, 3) := by decide +kernel
theorem d_M_goAlong_115 : decode b_M_goAlong 115 = .ok (.iload 7, 2) := by decide +kernel
theorem d_M_goAlong_117 : decode b_M_goAlong 117 = .ok (.istore 5, 2) := by decide +kernel
theorem d_M_goAlong_119 : decode b_M_goAlong 119 = .ok (.goto 119, 3) := by decide +kernel
theorem d_M_goAlong_122 : decode b_M_goAlong 122 = .ok (.iload 6, 2) := by decide +kernel
theorem d_M_goAlong_124 : decode b_M_goAlong 124 = .ok (.bipush 31, 2) := by decide +kernel
theorem d_M_goAlong_126 : decode b_M_goAlong 126 = .ok (.iload 5, 2) := by decide +kernel
theorem d_M_goAlong_128 : decode b_M_goAlong 128 = .ok (.imul, 1) := by decide +kernel
theorem d_M_goAlong_129 : decode b_M_goAlong 129 = .ok (.if_icmp .gt 95, 3) := by decide +kernel
theorem d_M_goAlong_132 : decode b_M_goAlong 132 = .ok (.aload_n 0, 1) := by decide +kernel
theorem d_M_goAlong_133 : decode b_M_goAlong 133 = .ok (.getfield 19, 3) := by decide +kernel
theorem d_M_goAlong_136 : decode b_M_goAlong 136 = .ok (.aload_n 0, 1) := by decide +kernel
theorem d_M_goAlong_137 : decode b_M_goAlong 137 = .ok (.getfield 38, 3) := by decide +kernel
theorem d_M_goAlong_140 : decode b_M_goAlong 140 = .ok (.iconst 1, 1) := by decide +kernel
theorem d_M_goAlong_141 : decode b_M_goAlong 141 = .ok (.iadd, 1) := by decide +kernel
theorem d_M_goAlong_142 : decode b_M_goAlong 142 = .ok (.iaload, 1) := by decide +kernel
theorem d_M_goAlong_143 : decode b_M_goAlong 143 = .ok (.bipush 31, 2) := by decide +kernel
theorem d_M_goAlong_145 : decode b_M_goAlong 145 = .ok (.iload 5, 2) := by decide +kernel
theorem d_M_goAlong_147 : decode b_M_goAlong 147 = .ok (.imul, 1) := by decide +kernel
theorem d_M_goAlong_148 : decode b_M_goAlong 148 = .ok (.bipush 31, 2) := by decide +kernel
theorem d_M_goAlong_150 : decode b_M_goAlong 150 = .ok (.iadd, 1) := by decide +kernel
theorem d_M_goAlong_151 : decode b_M_goAlong 151 = .ok (.if_icmp .lt 73, 3) := by decide +kernel
theorem d_M_goAlong_154 : decode b_M_goAlong 154 = .ok (.aload_n 0, 1) := by decide +kernel
theorem d_M_goAlong_155 : decode b_M_goAlong 155 = .ok (.getfield 19, 3) := by decide +kernel
theorem d_M_goAlong_158 : decode b_M_goAlong 158 = .ok (.aload_n 0, 1) := by decide +kernel
theorem d_M_goAlong_159 : decode b_M_goAlong 159 = .ok (.getfield 38, 3) := by decide +kernel
theorem d_M_goAlong_162 : decode b_M_goAlong 162 = .ok (.iconst 1, 1) := by decide +kernel
theorem d_M_goAlong_163 : decode b_M_goAlong 163 = .ok (.iadd, 1) := by decide +kernel
theorem d_M_goAlong_164 : decode b_M_goAlong 164 = .ok (.iaload, 1) := by decide +kernel
theorem d_M_goAlong_165 : decode b_M_goAlong 165 = .ok (.bipush 31, 2) := by decide +kernel
theorem d_M_goAlong_167 : decode b_M_goAlong 167 = .ok (.idiv, 1) := by decide +kernel
theorem d_M_goAlong_168 : decode b_M_goAlong 168 = .ok (.istore 7, 2) := by decide +kernel
theorem d_M_goAlong_170 : decode b_M_goAlong 170 = .ok (.aload_n 0, 1) := by decide +kernel
theorem d_M_goAlong_171 : decode b_M_goAlong 171 = .ok (.bipush (-2), 2) := by decide +kernel
theorem d_M_goAlong_173 : decode b_M_goAlong 173 = .ok (.iload 7, 2) := by decide +kernel
theorem d_M_goAlong_175 : decode b_M_goAlong 175 = .ok (.iload 5, 2) := by decide +kernel
theorem d_M_goAlong_177 : decode b_M_goAlong 177 = .ok (.isub, 1) := by decide +kernel
theorem d_M_goAlong_178 : decode b_M_goAlong 178 = .ok (.imul, 1) := by decide +kernel
theorem d_M_goAlong_179 : decode b_M_goAlong 179 = .ok (.iconst 1, 1) := by decide +kernel
theorem d_M_goAlong_180 : decode b_M_goAlong 180 = .ok (.isub, 1) := by decide +kernel
theorem d_M_goAlong_181 : decode b_M_goAlong 181 = .ok (.invokevirtual 46, 3) := by decide +kernel
theorem d_M_goAlong_184 : decode b_M_goAlong 184 = .ok (.iload 7, 2) := by decide +kernel
theorem d_M_goAlong_186 : decode b_M_goAlong 186 = .ok (.istore 5, 2) := by decide +kernel
theorem d_M_goAlong_188 : decode b_M_goAlong 188 = .ok (.aload_n 0, 1) := by decide +kernel
theorem d_M_goAlong_189 : decode b_M_goAlong 189 = .ok (.dup, 1) := by decide +kernel
theorem d_M_goAlong_190 : decode b_M_goAlong 190 = .ok (.getfield 38, 3) := by decide +kernel
theorem d_M_goAlong_193 : decode b_M_goAlong 193 = .ok (.aload_n 0, 1) := by decide +kernel
theorem d_M_goAlong_194 : decode b_M_goAlong 194 = .ok (.getfield 19, 3) := by decide +kernel
theorem d_M_goAlong_197 : decode b_M_goAlong 197 = .ok (.aload_n 0, 1) := by decide +kernel
theorem d_M_goAlong_198 : decode b_M_goAlong 198 = .ok (.getfield 38, 3) := by decide +kernel
theorem d_M_goAlong_201 : decode b_M_goAlong 201 = .ok (.iconst 1, 1) := by decide +kernel
theorem d_M_goAlong_202 : decode b_M_goAlong 202 = .ok (.iadd, 1) := by decide +kernel
theorem d_M_goAlong_203 : decode b_M_goAlong 203 = .ok (.iaload, 1) := by decide +kernel
theorem d_M_goAlong_204 : decode b_M_goAlong 204 = .ok (.bipush 31, 2) := by decide +kernel
theorem d_M_goAlong_206 : decode b_M_goAlong 206 = .ok (.iload 5, 2) := by decide +kernel
theorem d_M_goAlong_208 : decode b_M_goAlong 208 = .ok (.imul, 1) := by decide +kernel
theorem d_M_goAlong_209 : decode b_M_goAlong 209 = .ok (.if_icmp .ne 7, 3) := by decide +kernel
theorem d_M_goAlong_212 : decode b_M_goAlong 212 = .ok (.iconst 2, 1) := by decide +kernel
theorem d_M_goAlong_213 : decode b_M_goAlong 213 = .ok (.goto 4, 3) := by decide +kernel
theorem d_M_goAlong_216 : decode b_M_goAlong 216 = .ok (.iconst 0, 1) := by decide +kernel
theorem d_M_goAlong_217 : decode b_M_goAlong 217 = .ok (.iadd, 1) := by decide +kernel
theorem d_M_goAlong_218 : decode b_M_goAlong 218 = .ok (.putfield 38, 3) := by decide +kernel
theorem d_M_goAlong_221 : decode b_M_goAlong 221 = .ok (.goto 17, 3) := by decide +kernel
theorem d_M_goAlong_224 : decode b_M_goAlong 224 = .ok (.aload_n 0, 1) := by decide +kernel
theorem d_M_goAlong_225 : decode b_M_goAlong 225 = .ok (.aload_n 0, 1) := by decide +kernel
theorem d_M_goAlong_226 : decode b_M_goAlong 226 = .ok (.iload 5, 2) := by decide +kernel
theorem d_M_goAlong_228 : decode b_M_goAlong 228 = .ok (.iload_n 2, 1) := by decide +kernel
theorem d_M_goAlong_229 : decode b_M_goAlong 229 = .ok (.invokevirtual 50, 3) := by decide +kernel
theorem d_M_goAlong_232 : decode b_M_goAlong 232 = .ok (.invokevirtual 46, 3) := by decide +kernel
theorem d_M_goAlong_235 : decode b_M_goAlong 235 = .ok (.iinc 5 1, 3) := by decide +kernel
theorem d_M_goAlong_238 : decode b_M_goAlong 238 = .ok (.goto (-201), 3) := by decide +kernel
theorem d_M_goAlong_241 : decode b_M_goAlong 241 = .ok (.aload_n 0, 1) := by decide +kernel
theorem d_M_goAlong_242 : decode b_M_goAlong 242 = .ok (.getfield 29, 3) := by decide +kernel
theorem d_M_goAlong_245 : decode b_M_goAlong 245 = .ok (.ireturn, 1) := by decide +kernel
theorem d_M_layValue_0 : decode b_M_layValue 0 = .ok (.iload_n 3, 1) := by decide +kernel
theorem d_M_layValue_1 : decode b_M_layValue 1 = .ok (.istore 4, 2) := by decide +kernel
theorem d_M_layValue_3 : decode b_M_layValue 3 = .ok (.iconst 0, 1) := by decide +kernel
theorem d_M_layValue_4 : decode b_M_layValue 4 = .ok (.istore 5, 2) := by decide +kernel
theorem d_M_layValue_6 : decode b_M_layValue 6 = .ok (.iconst 0, 1) := by decide +kernel
theorem d_M_layValue_7 : decode b_M_layValue 7 = .ok (.istore 6, 2) := by decide +kernel
theorem d_M_layValue_9 : decode b_M_layValue 9 = .ok (.iload 6, 2) := by decide +kernel
theorem d_M_layValue_11 : decode b_M_layValue 11 = .ok (.aload_n 0, 1) := by decide +kernel
theorem d_M_layValue_12 : decode b_M_layValue 12 = .ok (.getfield 25, 3) := by decide +kernel
theorem d_M_layValue_15 : decode b_M_layValue 15 = .ok (.if_icmp .ge 100, 3) := by decide +kernel
theorem d_M_layValue_18 : decode b_M_layValue 18 = .ok (.aload_n 0, 1) := by decide +kernel
theorem d_M_layValue_19 : decode b_M_layValue 19 = .ok (.getfield 15, 3) := by decide +kernel
theorem d_M_layValue_22 : decode b_M_layValue 22 = .ok (.iconst 2, 1) := by decide +kernel
theorem d_M_layValue_23 : decode b_M_layValue 23 = .ok (.iload 6, 2) := by decide +kernel
theorem d_M_layValue_25 : decode b_M_layValue 25 = .ok (.imul, 1) := by decide +kernel
theorem d_M_layValue_26 : decode b_M_layValue 26 = .ok (.iload_n 1, 1) := by decide +kernel
theorem d_M_layValue_27 : decode b_M_layValue 27 = .ok (.iadd, 1) := by decide +kernel
theorem d_M_layValue_28 : decode b_M_layValue 28 = .ok (.iaload, 1) := by decide +kernel
theorem d_M_layValue_29 : decode b_M_layValue 29 = .ok (.iload_n 2, 1) := by decide +kernel
theorem d_M_layValue_30 : decode b_M_layValue 30 = .ok (.if_icmp .ne 70, 3) := by decide +kernel
theorem d_M_layValue_33 : decode b_M_layValue 33 = .ok (.iload 4, 2) := by decide +kernel
theorem d_M_layValue_35 : decode b_M_layValue 35 = .ok (.iload_n 3, 1) := by decide +kernel
theorem d_M_layValue_36 : decode b_M_layValue 36 = .ok (.if_icmp .le 36, 3) := by decide +kernel
theorem d_M_layValue_39 : decode b_M_layValue 39 = .ok (.aload_n 0, 1) := by decide +kernel
theorem d_M_layValue_40 : decode b_M_layValue 40 = .ok (.getfield 19, 3) := by decide +kernel
theorem d_M_layValue_43 : decode b_M_layValue 43 = .ok (.iload 4, 2) := by decide +kernel
theorem d_M_layValue_45 : decode b_M_layValue 45 = .ok (.iconst 1, 1) := by decide +kernel
theorem d_M_layValue_46 : decode b_M_layValue 46 = .ok (.isub, 1) := by decide +kernel
theorem d_M_layValue_47 : decode b_M_layValue 47 = .ok (.iaload, 1) := by decide +kernel
theorem d_M_layValue_48 : decode b_M_layValue 48 = .ok (.iload 5, 2) := by decide +kernel
theorem d_M_layValue_50 : decode b_M_layValue 50 = .ok (.if_icmp .ne 22, 3) := by decide +kernel
theorem d_M_layValue_53 : decode b_M_layValue 53 = .ok (.aload_n 0, 1) := by decide +kernel
theorem d_M_layValue_54 : decode b_M_layValue 54 = .ok (.getfield 19, 3) := by decide +kernel
theorem d_M_layValue_57 : decode b_M_layValue 57 = .ok (.iload 4, 2) := by decide +kernel
theorem d_M_layValue_59 : decode b_M_layValue 59 = .ok (.iconst 1, 1) := by decide +kernel
theorem d_M_layValue_60 : decode b_M_layValue 60 = .ok (.isub, 1) := by decide +kernel
theorem d_M_layValue_61 : decode b_M_layValue 61 = .ok (.aload_n 0, 1) := by decide +kernel
theorem d_M_layValue_62 : decode b_M_layValue 62 = .ok (.getfield 8, 3) := by decide +kernel
theorem d_M_layValue_65 : decode b_M_layValue 65 = .ok (.iload 6, 2) := by decide +kernel
theorem d_M_layValue_67 : decode b_M_layValue 67 = .ok (.iaload, 1) := by decide +kernel
theorem d_M_layValue_68 : decode b_M_layValue 68 = .ok (.iastore, 1) := by decide +kernel
theorem d_M_layValue_69 : decode b_M_layValue 69 = .ok (.goto 31, 3) := by decide +kernel
theorem d_M_layValue_72 : decode b_M_layValue 72 = .ok (.aload_n 0, 1) := by decide +kernel
theorem d_M_layValue_73 : decode b_M_layValue 73 = .ok (.getfield 19, 3) := by decide +kernel
theorem d_M_layValue_76 : decode b_M_layValue 76 = .ok (.iload 4, 2) := by decide +kernel
theorem d_M_layValue_78 : decode b_M_layValue 78 = .ok (.iload 5, 2) := by decide +kernel
theorem d_M_layValue_80 : decode b_M_layValue 80 = .ok (.iastore, 1) := by decide +kernel
theorem d_M_layValue_81 : decode b_M_layValue 81 = .ok (.aload_n 0, 1) := by decide +kernel
theorem d_M_layValue_82 : decode b_M_layValue 82 = .ok (.getfield 19, 3) := by decide +kernel
theorem d_M_layValue_85 : decode b_M_layValue 85 = .ok (.iload 4, 2) := by decide +kernel
theorem d_M_layValue_87 : decode b_M_layValue 87 = .ok (.iconst 1, 1) := by decide +kernel
theorem d_M_layValue_88 : decode b_M_layValue 88 = .ok (.iadd, 1) := by decide +kernel
theorem d_M_layValue_89 : decode b_M_layValue 89 = .ok (.aload_n 0, 1) := by decide +kernel
theorem d_M_layValue_90 : decode b_M_layValue 90 = .ok (.getfield 8, 3) := by decide +kernel
theorem d_M_layValue_93 : decode b_M_layValue 93 = .ok (.iload 6, 2) := by decide +kernel
theorem d_M_layValue_95 : decode b_M_layValue 95 = .ok (.iaload, 1) := by decide +kernel
theorem d_M_layValue_96 : decode b_M_layValue 96 = .ok (.iastore, 1) := by decide +kernel
theorem d_M_layValue_97 : decode b_M_layValue 97 = .ok (.iinc 4 2, 3) := by decide +kernel
theorem d_M_layValue_100 : decode b_M_layValue 100 = .ok (.aload_n 0, 1) := by decide +kernel
theorem d_M_layValue_101 : decode b_M_layValue 101 = .ok (.getfield 8, 3) := by decide +kernel
theorem d_M_layValue_104 : decode b_M_layValue 104 = .ok (.iload 6, 2) := by decide +kernel
theorem d_M_layValue_106 : decode b_M_layValue 106 = .ok (.iaload, 1) := by decide +kernel
theorem d_M_layValue_107 : decode b_M_layValue 107 = .ok (.istore 5, 2) := by decide +kernel
theorem d_M_layValue_109 : decode b_M_layValue 109 = .ok (.iinc 6 1, 3) := by decide +kernel
theorem d_M_layValue_112 : decode b_M_layValue 112 = .ok (.goto (-103), 3) := by decide +kernel
theorem d_M_layValue_115 : decode b_M_layValue 115 = .ok (.iload 4, 2) := by decide +kernel
theorem d_M_layValue_117 : decode b_M_layValue 117 = .ok (.ireturn, 1) := by decide +kernel
theorem d_M_room_0 : decode b_M_room 0 = .ok (.iconst 0, 1) := by decide +kernel
theorem d_M_room_1 : decode b_M_room 1 = .ok (.istore_n 1, 1) := by decide +kernel
theorem d_M_room_2 : decode b_M_room 2 = .ok (.aload_n 0, 1) := by decide +kernel
theorem d_M_room_3 : decode b_M_room 3 = .ok (.getfield 22, 3) := by decide +kernel
theorem d_M_room_6 : decode b_M_room 6 = .ok (.aload_n 0, 1) := by decide +kernel
theorem d_M_room_7 : decode b_M_room 7 = .ok (.getfield 54, 3) := by decide +kernel
theorem d_M_room_10 : decode b_M_room 10 = .ok (.iaload, 1) := by decide +kernel
theorem d_M_room_11 : decode b_M_room 11 = .ok (.istore_n 2, 1) := by decide +kernel
theorem d_M_room_12 : decode b_M_room 12 = .ok (.iconst 0, 1) := by decide +kernel
theorem d_M_room_13 : decode b_M_room 13 = .ok (.istore_n 3, 1) := by decide +kernel
theorem d_M_room_14 : decode b_M_room 14 = .ok (.iload_n 3, 1) := by decide +kernel
theorem d_M_room_15 : decode b_M_room 15 = .ok (.bipush 32, 2) := by decide +kernel
theorem d_M_room_17 : decode b_M_room 17 = .ok (.if_icmp .ge 35, 3) := by decide +kernel
theorem d_M_room_20 : decode b_M_room 20 = .ok (.aload_n 0, 1) := by decide +kernel
theorem d_M_room_21 : decode b_M_room 21 = .ok (.iload_n 3, 1) := by decide +kernel
theorem d_M_room_22 : decode b_M_room 22 = .ok (.bipush 16, 2) := by decide +kernel
theorem d_M_room_24 : decode b_M_room 24 = .ok (.idiv, 1) := by decide +kernel
theorem d_M_room_25 : decode b_M_room 25 = .ok (.iload_n 3, 1) := by decide +kernel
theorem d_M_room_26 : decode b_M_room 26 = .ok (.bipush 16, 2) := by decide +kernel
theorem d_M_room_28 : decode b_M_room 28 = .ok (.irem, 1) := by decide +kernel
theorem d_M_room_29 : decode b_M_room 29 = .ok (.iload_n 2, 1) := by decide +kernel
theorem d_M_room_30 : decode b_M_room 30 = .ok (.invokevirtual 57, 3) := by decide +kernel
theorem d_M_room_33 : decode b_M_room 33 = .ok (.istore 4, 2) := by decide +kernel
theorem d_M_room_35 : decode b_M_room 35 = .ok (.iload_n 1, 1) := by decide +kernel
theorem d_M_room_36 : decode b_M_room 36 = .ok (.aload_n 0, 1) := by decide +kernel
theorem d_M_room_37 : decode b_M_room 37 = .ok (.iload_n 2, 1) := by decide +kernel
theorem d_M_room_38 : decode b_M_room 38 = .ok (.iload 4, 2) := by decide +kernel
theorem d_M_room_40 : decode b_M_room 40 = .ok (.iconst (-1), 1) := by decide +kernel
theorem d_M_room_41 : decode b_M_room 41 = .ok (.invokevirtual 61, 3) := by decide +kernel
theorem d_M_room_44 : decode b_M_room 44 = .ok (.iadd, 1) := by decide +kernel
theorem d_M_room_45 : decode b_M_room 45 = .ok (.istore_n 1, 1) := by decide +kernel
theorem d_M_room_46 : decode b_M_room 46 = .ok (.iinc 3 1, 3) := by decide +kernel
theorem d_M_room_49 : decode b_M_room 49 = .ok (.goto (-35), 3) := by decide +kernel
theorem d_M_room_52 : decode b_M_room 52 = .ok (.iload_n 1, 1) := by decide +kernel
theorem d_M_room_53 : decode b_M_room 53 = .ok (.ireturn, 1) := by decide +kernel
theorem d_M_append_0 : decode b_M_append 0 = .ok (.iload_n 1, 1) := by decide +kernel
theorem d_M_append_1 : decode b_M_append 1 = .ok (.ifCond .lt 30, 3) := by decide +kernel
theorem d_M_append_4 : decode b_M_append 4 = .ok (.iload_n 1, 1) := by decide +kernel
theorem d_M_append_5 : decode b_M_append 5 = .ok (.bipush 15, 2) := by decide +kernel
theorem d_M_append_7 : decode b_M_append 7 = .ok (.if_icmp .gt 24, 3) := by decide +kernel
theorem d_M_append_10 : decode b_M_append 10 = .ok (.iload_n 2, 1) := by decide +kernel
theorem d_M_append_11 : decode b_M_append 11 = .ok (.ifCond .lt 20, 3) := by decide +kernel
theorem d_M_append_14 : decode b_M_append 14 = .ok (.iload_n 2, 1) := by decide +kernel
theorem d_M_append_15 : decode b_M_append 15 = .ok (.bipush 15, 2) := by decide +kernel
theorem d_M_append_17 : decode b_M_append 17 = .ok (.if_icmp .gt 14, 3) := by decide +kernel
theorem d_M_append_20 : decode b_M_append 20 = .ok (.iload_n 3, 1) := by decide +kernel
theorem d_M_append_21 : decode b_M_append 21 = .ok (.iconst 1, 1) := by decide +kernel
theorem d_M_append_22 : decode b_M_append 22 = .ok (.if_icmp .lt 9, 3) := by decide +kernel
theorem d_M_append_25 : decode b_M_append 25 = .ok (.iload_n 3, 1) := by decide +kernel
theorem d_M_append_26 : decode b_M_append 26 = .ok (.ldc 64, 2) := by decide +kernel
theorem d_M_append_28 : decode b_M_append 28 = .ok (.if_icmp .le 5, 3) := by decide +kernel
theorem d_M_append_31 : decode b_M_append 31 = .ok (.iconst (-1), 1) := by decide +kernel
theorem d_M_append_32 : decode b_M_append 32 = .ok (.ireturn, 1) := by decide +kernel
theorem d_M_append_33 : decode b_M_append 33 = .ok (.aload_n 0, 1) := by decide +kernel
theorem d_M_append_34 : decode b_M_append 34 = .ok (.getfield 54, 3) := by decide +kernel
theorem d_M_append_37 : decode b_M_append 37 = .ok (.ifCond .le 6, 3) := by decide +kernel
theorem d_M_append_40 : decode b_M_append 40 = .ok (.bipush (-2), 2) := by decide +kernel
theorem d_M_append_42 : decode b_M_append 42 = .ok (.ireturn, 1) := by decide +kernel
theorem d_M_append_43 : decode b_M_append 43 = .ok (.aload_n 0, 1) := by decide +kernel
theorem d_M_append_44 : decode b_M_append 44 = .ok (.invokevirtual 41, 3) := by decide +kernel
theorem d_M_append_47 : decode b_M_append 47 = .ok (.istore 4, 2) := by decide +kernel
theorem d_M_append_49 : decode b_M_append 49 = .ok (.iload_n 3, 1) := by decide +kernel
theorem d_M_append_50 : decode b_M_append 50 = .ok (.ldc 64, 2) := by decide +kernel
theorem d_M_append_52 : decode b_M_append 52 = .ok (.iload 4, 2) := by decide +kernel
theorem d_M_append_54 : decode b_M_append 54 = .ok (.isub, 1) := by decide +kernel
theorem d_M_append_55 : decode b_M_append 55 = .ok (.if_icmp .le 6, 3) := by decide +kernel
theorem d_M_append_58 : decode b_M_append 58 = .ok (.bipush (-3), 2) := by decide +kernel
theorem d_M_append_60 : decode b_M_append 60 = .ok (.ireturn, 1) := by decide +kernel
theorem d_M_append_61 : decode b_M_append 61 = .ok (.aload_n 0, 1) := by decide +kernel
theorem d_M_append_62 : decode b_M_append 62 = .ok (.getfield 25, 3) := by decide +kernel
theorem d_M_append_65 : decode b_M_append 65 = .ok (.ifCond .le 41, 3) := by decide +kernel
theorem d_M_append_68 : decode b_M_append 68 = .ok (.aload_n 0, 1) := by decide +kernel
theorem d_M_append_69 : decode b_M_append 69 = .ok (.getfield 15, 3) := by decide +kernel
theorem d_M_append_72 : decode b_M_append 72 = .ok (.iconst 2, 1) := by decide +kernel
theorem d_M_append_73 : decode b_M_append 73 = .ok (.aload_n 0, 1) := by decide +kernel
theorem d_M_append_74 : decode b_M_append 74 = .ok (.getfield 25, 3) := by decide +kernel
theorem d_M_append_77 : decode b_M_append 77 = .ok (.imul, 1) := by decide +kernel
theorem d_M_append_78 : decode b_M_append 78 = .ok (.iconst 2, 1) := by decide +kernel
theorem d_M_append_79 : decode b_M_append 79 = .ok (.isub, 1) := by decide +kernel
theorem d_M_append_80 : decode b_M_append 80 = .ok (.iaload, 1) := by decide +kernel
theorem d_M_append_81 : decode b_M_append 81 = .ok (.iload_n 1, 1) := by decide +kernel
theorem d_M_append_82 : decode b_M_append 82 = .ok (.if_icmp .ne 24, 3) := by decide +kernel
theorem d_M_append_85 : decode b_M_append 85 = .ok (.aload_n 0, 1) := by decide +kernel
theorem d_M_append_86 : decode b_M_append 86 = .ok (.getfield 15, 3) := by decide +kernel
theorem d_M_append_89 : decode b_M_append 89 = .ok (.iconst 2, 1) := by decide +kernel
theorem d_M_append_90 : decode b_M_append 90 = .ok (.aload_n 0, 1) := by decide +kernel
theorem d_M_append_91 : decode b_M_append 91 = .ok (.getfield 25, 3) := by decide +kernel
theorem d_M_append_94 : decode b_M_append 94 = .ok (.imul, 1) := by decide +kernel
theorem d_M_append_95 : decode b_M_append 95 = .ok (.iconst 1, 1) := by decide +kernel
theorem d_M_append_96 : decode b_M_append 96 = .ok (.isub, 1) := by decide +kernel
theorem d_M_append_97 : decode b_M_append 97 = .ok (.iaload, 1) := by decide +kernel
theorem d_M_append_98 : decode b_M_append 98 = .ok (.iload_n 2, 1) := by decide +kernel
theorem d_M_append_99 : decode b_M_append 99 = .ok (.if_icmp .ne 7, 3) := by decide +kernel
theorem d_M_append_102 : decode b_M_append 102 = .ok (.iconst 1, 1) := by decide +kernel
theorem d_M_append_103 : decode b_M_append 103 = .ok (.goto 4, 3) := by decide +kernel
theorem d_M_append_106 : decode b_M_append 106 = .ok (.iconst 0, 1) := by decide +kernel
theorem d_M_append_107 : decode b_M_append 107 = .ok (.istore 5, 2) := by decide +kernel
theorem d_M_append_109 : decode b_M_append 109 = .ok (.aload_n 0, 1) := by decide +kernel
theorem d_M_append_110 : decode b_M_append 110 = .ok (.dup, 1) := by decide +kernel
theorem d_M_append_111 : decode b_M_append 111 = .ok (.getfield 25, 3) := by decide +kernel
theorem d_M_append_114 : decode b_M_append 114 = .ok (.iload 5, 2) := by decide +kernel
theorem d_M_append_116 : decode b_M_append 116 = .ok (.ifCond .eq 7, 3) := by decide +kernel
theorem d_M_append_119 : decode b_M_append 119 = .ok (.iconst 0, 1) := by decide +kernel
theorem d_M_append_120 : decode b_M_append 120 = .ok (.goto 4, 3) := by decide +kernel
theorem d_M_append_123 : decode b_M_append 123 = .ok (.iconst 1, 1) := by decide +kernel
theorem d_M_append_124 : decode b_M_append 124 = .ok (.iadd, 1) := by decide +kernel
theorem d_M_append_125 : decode b_M_append 125 = .ok (.putfield 25, 3) := by decide +kernel
theorem d_M_append_128 : decode b_M_append 128 = .ok (.aload_n 0, 1) := by decide +kernel
theorem d_M_append_129 : decode b_M_append 129 = .ok (.getfield 8, 3) := by decide +kernel
theorem d_M_append_132 : decode b_M_append 132 = .ok (.aload_n 0, 1) := by decide +kernel
theorem d_M_append_133 : decode b_M_append 133 = .ok (.getfield 25, 3) := by decide +kernel
theorem d_M_append_136 : decode b_M_append 136 = .ok (.iconst 1, 1) := by decide +kernel
theorem d_M_append_137 : decode b_M_append 137 = .ok (.isub, 1) := by decide +kernel
theorem d_M_append_138 : decode b_M_append 138 = .ok (.iload 4, 2) := by decide +kernel
theorem d_M_append_140 : decode b_M_append 140 = .ok (.iload_n 3, 1) := by decide +kernel
theorem d_M_append_141 : decode b_M_append 141 = .ok (.iadd, 1) := by decide +kernel
theorem d_M_append_142 : decode b_M_append 142 = .ok (.iastore, 1) := by decide +kernel
theorem d_M_append_143 : decode b_M_append 143 = .ok (.aload_n 0, 1) := by decide +kernel
theorem d_M_append_144 : decode b_M_append 144 = .ok (.getfield 15, 3) := by decide +kernel
theorem d_M_append_147 : decode b_M_append 147 = .ok (.iconst 2, 1) := by decide +kernel
theorem d_M_append_148 : decode b_M_append 148 = .ok (.aload_n 0, 1) := by decide +kernel
theorem d_M_append_149 : decode b_M_append 149 = .ok (.getfield 25, 3) := by decide +kernel
theorem d_M_append_152 : decode b_M_append 152 = .ok (.imul, 1) := by decide +kernel
theorem d_M_append_153 : decode b_M_append 153 = .ok (.iconst 2, 1) := by decide +kernel
theorem d_M_append_154 : decode b_M_append 154 = .ok (.isub, 1) := by decide +kernel
theorem d_M_append_155 : decode b_M_append 155 = .ok (.iload_n 1, 1) := by decide +kernel
theorem d_M_append_156 : decode b_M_append 156 = .ok (.iastore, 1) := by decide +kernel
theorem d_M_append_157 : decode b_M_append 157 = .ok (.aload_n 0, 1) := by decide +kernel
theorem d_M_append_158 : decode b_M_append 158 = .ok (.getfield 15, 3) := by decide +kernel
theorem d_M_append_161 : decode b_M_append 161 = .ok (.iconst 2, 1) := by decide +kernel
theorem d_M_append_162 : decode b_M_append 162 = .ok (.aload_n 0, 1) := by decide +kernel
theorem d_M_append_163 : decode b_M_append 163 = .ok (.getfield 25, 3) := by decide +kernel
theorem d_M_append_166 : decode b_M_append 166 = .ok (.imul, 1) := by decide +kernel
theorem d_M_append_167 : decode b_M_append 167 = .ok (.iconst 1, 1) := by decide +kernel
theorem d_M_append_168 : decode b_M_append 168 = .ok (.isub, 1) := by decide +kernel
theorem d_M_append_169 : decode b_M_append 169 = .ok (.iload_n 2, 1) := by decide +kernel
theorem d_M_append_170 : decode b_M_append 170 = .ok (.iastore, 1) := by decide +kernel
theorem d_M_append_171 : decode b_M_append 171 = .ok (.aload_n 0, 1) := by decide +kernel
theorem d_M_append_172 : decode b_M_append 172 = .ok (.invokevirtual 65, 3) := by decide +kernel
theorem d_M_append_175 : decode b_M_append 175 = .ok (.sipush 2000, 3) := by decide +kernel
theorem d_M_append_178 : decode b_M_append 178 = .ok (.if_icmp .le 38, 3) := by decide +kernel
theorem d_M_append_181 : decode b_M_append 181 = .ok (.aload_n 0, 1) := by decide +kernel
theorem d_M_append_182 : decode b_M_append 182 = .ok (.getfield 8, 3) := by decide +kernel
theorem d_M_append_185 : decode b_M_append 185 = .ok (.aload_n 0, 1) := by decide +kernel
theorem d_M_append_186 : decode b_M_append 186 = .ok (.getfield 25, 3) := by decide +kernel
theorem d_M_append_189 : decode b_M_append 189 = .ok (.iconst 1, 1) := by decide +kernel
theorem d_M_append_190 : decode b_M_append 190 = .ok (.isub, 1) := by decide +kernel
theorem d_M_append_191 : decode b_M_append 191 = .ok (.iload 4, 2) := by decide +kernel
theorem d_M_append_193 : decode b_M_append 193 = .ok (.iastore, 1) := by decide +kernel
theorem d_M_append_194 : decode b_M_append 194 = .ok (.aload_n 0, 1) := by decide +kernel
theorem d_M_append_195 : decode b_M_append 195 = .ok (.dup, 1) := by decide +kernel
theorem d_M_append_196 : decode b_M_append 196 = .ok (.getfield 25, 3) := by decide +kernel
theorem d_M_append_199 : decode b_M_append 199 = .ok (.iload 5, 2) := by decide +kernel
theorem d_M_append_201 : decode b_M_append 201 = .ok (.ifCond .eq 7, 3) := by decide +kernel
theorem d_M_append_204 : decode b_M_append 204 = .ok (.iconst 0, 1) := by decide +kernel
theorem d_M_append_205 : decode b_M_append 205 = .ok (.goto 4, 3) := by decide +kernel
theorem d_M_append_208 : decode b_M_append 208 = .ok (.iconst 1, 1) := by decide +kernel
theorem d_M_append_209 : decode b_M_append 209 = .ok (.isub, 1) := by decide +kernel
theorem d_M_append_210 : decode b_M_append 210 = .ok (.putfield 25, 3) := by decide +kernel
theorem d_M_append_213 : decode b_M_append 213 = .ok (.bipush (-3), 2) := by decide +kernel
theorem d_M_append_215 : decode b_M_append 215 = .ok (.ireturn, 1) := by decide +kernel
theorem d_M_append_216 : decode b_M_append 216 = .ok (.iload 4, 2) := by decide +kernel
theorem d_M_append_218 : decode b_M_append 218 = .ok (.iload_n 3, 1) := by decide +kernel
theorem d_M_append_219 : decode b_M_append 219 = .ok (.iadd, 1) := by decide +kernel
theorem d_M_append_220 : decode b_M_append 220 = .ok (.ireturn, 1) := by decide +kernel
theorem d_M_wordsOf_0 : decode b_M_wordsOf 0 = .ok (.aload_n 0, 1) := by decide +kernel
theorem d_M_wordsOf_1 : decode b_M_wordsOf 1 = .ok (.aload_n 0, 1) := by decide +kernel
theorem d_M_wordsOf_2 : decode b_M_wordsOf 2 = .ok (.getfield 22, 3) := by decide +kernel
theorem d_M_wordsOf_5 : decode b_M_wordsOf 5 = .ok (.iload_n 1, 1) := by decide +kernel
theorem d_M_wordsOf_6 : decode b_M_wordsOf 6 = .ok (.iaload, 1) := by decide +kernel
theorem d_M_wordsOf_7 : decode b_M_wordsOf 7 = .ok (.aload_n 0, 1) := by decide +kernel
theorem d_M_wordsOf_8 : decode b_M_wordsOf 8 = .ok (.getfield 22, 3) := by decide +kernel
theorem d_M_wordsOf_11 : decode b_M_wordsOf 11 = .ok (.iload_n 1, 1) := by decide +kernel
theorem d_M_wordsOf_12 : decode b_M_wordsOf 12 = .ok (.iconst 1, 1) := by decide +kernel
theorem d_M_wordsOf_13 : decode b_M_wordsOf 13 = .ok (.iadd, 1) := by decide +kernel
theorem d_M_wordsOf_14 : decode b_M_wordsOf 14 = .ok (.iaload, 1) := by decide +kernel
theorem d_M_wordsOf_15 : decode b_M_wordsOf 15 = .ok (.iconst (-1), 1) := by decide +kernel
theorem d_M_wordsOf_16 : decode b_M_wordsOf 16 = .ok (.invokevirtual 61, 3) := by decide +kernel
theorem d_M_wordsOf_19 : decode b_M_wordsOf 19 = .ok (.ireturn, 1) := by decide +kernel
theorem d_M_stackRoom_0 : decode b_M_stackRoom 0 = .ok (.iconst 0, 1) := by decide +kernel
theorem d_M_stackRoom_1 : decode b_M_stackRoom 1 = .ok (.istore_n 1, 1) := by decide +kernel
theorem d_M_stackRoom_2 : decode b_M_stackRoom 2 = .ok (.iconst 0, 1) := by decide +kernel
theorem d_M_stackRoom_3 : decode b_M_stackRoom 3 = .ok (.istore_n 2, 1) := by decide +kernel
theorem d_M_stackRoom_4 : decode b_M_stackRoom 4 = .ok (.iload_n 2, 1) := by decide +kernel
theorem d_M_stackRoom_5 : decode b_M_stackRoom 5 = .ok (.aload_n 0, 1) := by decide +kernel
theorem d_M_stackRoom_6 : decode b_M_stackRoom 6 = .ok (.getfield 54, 3) := by decide +kernel
theorem d_M_stackRoom_9 : decode b_M_stackRoom 9 = .ok (.if_icmp .ge 17, 3) := by decide +kernel
theorem d_M_stackRoom_12 : decode b_M_stackRoom 12 = .ok (.iload_n 1, 1) := by decide +kernel
theorem d_M_stackRoom_13 : decode b_M_stackRoom 13 = .ok (.aload_n 0, 1) := by decide +kernel
theorem d_M_stackRoom_14 : decode b_M_stackRoom 14 = .ok (.iload_n 2, 1) := by decide +kernel
theorem d_M_stackRoom_15 : decode b_M_stackRoom 15 = .ok (.invokevirtual 68, 3) := by decide +kernel
theorem d_M_stackRoom_18 : decode b_M_stackRoom 18 = .ok (.iadd, 1) := by decide +kernel
theorem d_M_stackRoom_19 : decode b_M_stackRoom 19 = .ok (.istore_n 1, 1) := by decide +kernel
theorem d_M_stackRoom_20 : decode b_M_stackRoom 20 = .ok (.iinc 2 1, 3) := by decide +kernel
theorem d_M_stackRoom_23 : decode b_M_stackRoom 23 = .ok (.goto (-19), 3) := by decide +kernel
theorem d_M_stackRoom_26 : decode b_M_stackRoom 26 = .ok (.iload_n 1, 1) := by decide +kernel
theorem d_M_stackRoom_27 : decode b_M_stackRoom 27 = .ok (.ireturn, 1) := by decide +kernel
theorem d_M_comes_0 : decode b_M_comes 0 = .ok (.aload_n 0, 1) := by decide +kernel
theorem d_M_comes_1 : decode b_M_comes 1 = .ok (.getfield 54, 3) := by decide +kernel
theorem d_M_comes_4 : decode b_M_comes 4 = .ok (.bipush 12, 2) := by decide +kernel
theorem d_M_comes_6 : decode b_M_comes 6 = .ok (.if_icmp .eq 29, 3) := by decide +kernel
theorem d_M_comes_9 : decode b_M_comes 9 = .ok (.aload_n 0, 1) := by decide +kernel
theorem d_M_comes_10 : decode b_M_comes 10 = .ok (.invokevirtual 72, 3) := by decide +kernel
theorem d_M_comes_13 : decode b_M_comes 13 = .ok (.aload_n 0, 1) := by decide +kernel
theorem d_M_comes_14 : decode b_M_comes 14 = .ok (.aload_n 0, 1) := by decide +kernel
theorem d_M_comes_15 : decode b_M_comes 15 = .ok (.getfield 22, 3) := by decide +kernel
theorem d_M_comes_18 : decode b_M_comes 18 = .ok (.aload_n 0, 1) := by decide +kernel
theorem d_M_comes_19 : decode b_M_comes 19 = .ok (.getfield 54, 3) := by decide +kernel
theorem d_M_comes_22 : decode b_M_comes 22 = .ok (.iaload, 1) := by decide +kernel
theorem d_M_comes_23 : decode b_M_comes 23 = .ok (.iload_n 1, 1) := by decide +kernel
theorem d_M_comes_24 : decode b_M_comes 24 = .ok (.iconst (-1), 1) := by decide +kernel
theorem d_M_comes_25 : decode b_M_comes 25 = .ok (.invokevirtual 61, 3) := by decide +kernel
theorem d_M_comes_28 : decode b_M_comes 28 = .ok (.iadd, 1) := by decide +kernel
theorem d_M_comes_29 : decode b_M_comes 29 = .ok (.sipush 3000, 3) := by decide +kernel
theorem d_M_comes_32 : decode b_M_comes 32 = .ok (.if_icmp .le 5, 3) := by decide +kernel
theorem d_M_comes_35 : decode b_M_comes 35 = .ok (.iconst 0, 1) := by decide +kernel
theorem d_M_comes_36 : decode b_M_comes 36 = .ok (.ireturn, 1) := by decide +kernel
theorem d_M_comes_37 : decode b_M_comes 37 = .ok (.aload_n 0, 1) := by decide +kernel
theorem d_M_comes_38 : decode b_M_comes 38 = .ok (.dup, 1) := by decide +kernel
theorem d_M_comes_39 : decode b_M_comes 39 = .ok (.getfield 54, 3) := by decide +kernel
theorem d_M_comes_42 : decode b_M_comes 42 = .ok (.iconst 1, 1) := by decide +kernel
theorem d_M_comes_43 : decode b_M_comes 43 = .ok (.iadd, 1) := by decide +kernel
theorem d_M_comes_44 : decode b_M_comes 44 = .ok (.putfield 54, 3) := by decide +kernel
theorem d_M_comes_47 : decode b_M_comes 47 = .ok (.aload_n 0, 1) := by decide +kernel
theorem d_M_comes_48 : decode b_M_comes 48 = .ok (.getfield 22, 3) := by decide +kernel
theorem d_M_comes_51 : decode b_M_comes 51 = .ok (.aload_n 0, 1) := by decide +kernel
theorem d_M_comes_52 : decode b_M_comes 52 = .ok (.getfield 54, 3) := by decide +kernel
theorem d_M_comes_55 : decode b_M_comes 55 = .ok (.iload_n 1, 1) := by decide +kernel
theorem d_M_comes_56 : decode b_M_comes 56 = .ok (.iastore, 1) := by decide +kernel
theorem d_M_comes_57 : decode b_M_comes 57 = .ok (.iconst 1, 1) := by decide +kernel
theorem d_M_comes_58 : decode b_M_comes 58 = .ok (.ireturn, 1) := by decide +kernel
theorem d_M_push_0 : decode b_M_push 0 = .ok (.iload_n 1, 1) := by decide +kernel
theorem d_M_push_1 : decode b_M_push 1 = .ok (.ifCond .lt 18, 3) := by decide +kernel
theorem d_M_push_4 : decode b_M_push 4 = .ok (.iload_n 1, 1) := by decide +kernel
theorem d_M_push_5 : decode b_M_push 5 = .ok (.iconst 1, 1) := by decide +kernel
theorem d_M_push_6 : decode b_M_push 6 = .ok (.if_icmp .gt 13, 3) := by decide +kernel
theorem d_M_push_9 : decode b_M_push 9 = .ok (.iload_n 2, 1) := by decide +kernel
theorem d_M_push_10 : decode b_M_push 10 = .ok (.ifCond .lt 9, 3) := by decide +kernel
theorem d_M_push_13 : decode b_M_push 13 = .ok (.iload_n 2, 1) := by decide +kernel
theorem d_M_push_14 : decode b_M_push 14 = .ok (.bipush 15, 2) := by decide +kernel
theorem d_M_push_16 : decode b_M_push 16 = .ok (.if_icmp .le 5, 3) := by decide +kernel
theorem d_M_push_19 : decode b_M_push 19 = .ok (.iconst (-1), 1) := by decide +kernel
theorem d_M_push_20 : decode b_M_push 20 = .ok (.ireturn, 1) := by decide +kernel
theorem d_M_push_21 : decode b_M_push 21 = .ok (.aload_n 0, 1) := by decide +kernel
theorem d_M_push_22 : decode b_M_push 22 = .ok (.aload_n 0, 1) := by decide +kernel
theorem d_M_push_23 : decode b_M_push 23 = .ok (.iload_n 1, 1) := by decide +kernel
theorem d_M_push_24 : decode b_M_push 24 = .ok (.iload_n 2, 1) := by decide +kernel
theorem d_M_push_25 : decode b_M_push 25 = .ok (.aload_n 0, 1) := by decide +kernel
theorem d_M_push_26 : decode b_M_push 26 = .ok (.getfield 22, 3) := by decide +kernel
theorem d_M_push_29 : decode b_M_push 29 = .ok (.aload_n 0, 1) := by decide +kernel
theorem d_M_push_30 : decode b_M_push 30 = .ok (.getfield 54, 3) := by decide +kernel
theorem d_M_push_33 : decode b_M_push 33 = .ok (.iaload, 1) := by decide +kernel
theorem d_M_push_34 : decode b_M_push 34 = .ok (.invokevirtual 57, 3) := by decide +kernel
theorem d_M_push_37 : decode b_M_push 37 = .ok (.invokevirtual 75, 3) := by decide +kernel
theorem d_M_push_40 : decode b_M_push 40 = .ok (.ifCond .eq 10, 3) := by decide +kernel
theorem d_M_push_43 : decode b_M_push 43 = .ok (.aload_n 0, 1) := by decide +kernel
theorem d_M_push_44 : decode b_M_push 44 = .ok (.getfield 54, 3) := by decide +kernel
theorem d_M_push_47 : decode b_M_push 47 = .ok (.goto 5, 3) := by decide +kernel
theorem d_M_push_50 : decode b_M_push 50 = .ok (.bipush (-3), 2) := by decide +kernel
theorem d_M_push_52 : decode b_M_push 52 = .ok (.ireturn, 1) := by decide +kernel
theorem d_M_copy_0 : decode b_M_copy 0 = .ok (.aload_n 0, 1) := by decide +kernel
theorem d_M_copy_1 : decode b_M_copy 1 = .ok (.getfield 54, 3) := by decide +kernel
theorem d_M_copy_4 : decode b_M_copy 4 = .ok (.ifCond .ne 6, 3) := by decide +kernel
theorem d_M_copy_7 : decode b_M_copy 7 = .ok (.bipush (-4), 2) := by decide +kernel
theorem d_M_copy_9 : decode b_M_copy 9 = .ok (.ireturn, 1) := by decide +kernel
theorem d_M_copy_10 : decode b_M_copy 10 = .ok (.aload_n 0, 1) := by decide +kernel
theorem d_M_copy_11 : decode b_M_copy 11 = .ok (.getfield 22, 3) := by decide +kernel
theorem d_M_copy_14 : decode b_M_copy 14 = .ok (.aload_n 0, 1) := by decide +kernel
theorem d_M_copy_15 : decode b_M_copy 15 = .ok (.getfield 54, 3) := by decide +kernel
theorem d_M_copy_18 : decode b_M_copy 18 = .ok (.iconst 1, 1) := by decide +kernel
theorem d_M_copy_19 : decode b_M_copy 19 = .ok (.isub, 1) := by decide +kernel
theorem d_M_copy_20 : decode b_M_copy 20 = .ok (.iaload, 1) := by decide +kernel
theorem d_M_copy_21 : decode b_M_copy 21 = .ok (.istore_n 1, 1) := by decide +kernel
theorem d_M_copy_22 : decode b_M_copy 22 = .ok (.aload_n 0, 1) := by decide +kernel
theorem d_M_copy_23 : decode b_M_copy 23 = .ok (.getfield 22, 3) := by decide +kernel
theorem d_M_copy_26 : decode b_M_copy 26 = .ok (.aload_n 0, 1) := by decide +kernel
theorem d_M_copy_27 : decode b_M_copy 27 = .ok (.getfield 54, 3) := by decide +kernel
theorem d_M_copy_30 : decode b_M_copy 30 = .ok (.iaload, 1) := by decide +kernel
theorem d_M_copy_31 : decode b_M_copy 31 = .ok (.iload_n 1, 1) := by decide +kernel
theorem d_M_copy_32 : decode b_M_copy 32 = .ok (.isub, 1) := by decide +kernel
theorem d_M_copy_33 : decode b_M_copy 33 = .ok (.istore_n 2, 1) := by decide +kernel
theorem d_M_copy_34 : decode b_M_copy 34 = .ok (.iconst 0, 1) := by decide +kernel
theorem d_M_copy_35 : decode b_M_copy 35 = .ok (.istore_n 3, 1) := by decide +kernel
theorem d_M_copy_36 : decode b_M_copy 36 = .ok (.iload_n 3, 1) := by decide +kernel
theorem d_M_copy_37 : decode b_M_copy 37 = .ok (.iload_n 2, 1) := by decide +kernel
theorem d_M_copy_38 : decode b_M_copy 38 = .ok (.if_icmp .ge 27, 3) := by decide +kernel
theorem d_M_copy_41 : decode b_M_copy 41 = .ok (.aload_n 0, 1) := by decide +kernel
theorem d_M_copy_42 : decode b_M_copy 42 = .ok (.getfield 19, 3) := by decide +kernel
theorem d_M_copy_45 : decode b_M_copy 45 = .ok (.iload_n 1, 1) := by decide +kernel
theorem d_M_copy_46 : decode b_M_copy 46 = .ok (.iload_n 2, 1) := by decide +kernel
theorem d_M_copy_47 : decode b_M_copy 47 = .ok (.iadd, 1) := by decide +kernel
theorem d_M_copy_48 : decode b_M_copy 48 = .ok (.iload_n 3, 1) := by decide +kernel
theorem d_M_copy_49 : decode b_M_copy 49 = .ok (.iadd, 1) := by decide +kernel
theorem d_M_copy_50 : decode b_M_copy 50 = .ok (.aload_n 0, 1) := by decide +kernel
theorem d_M_copy_51 : decode b_M_copy 51 = .ok (.getfield 19, 3) := by decide +kernel
theorem d_M_copy_54 : decode b_M_copy 54 = .ok (.iload_n 1, 1) := by decide +kernel
theorem d_M_copy_55 : decode b_M_copy 55 = .ok (.iload_n 3, 1) := by decide +kernel
theorem d_M_copy_56 : decode b_M_copy 56 = .ok (.iadd, 1) := by decide +kernel
theorem d_M_copy_57 : decode b_M_copy 57 = .ok (.iaload, 1) := by decide +kernel
theorem d_M_copy_58 : decode b_M_copy 58 = .ok (.iastore, 1) := by decide +kernel
theorem d_M_copy_59 : decode b_M_copy 59 = .ok (.iinc 3 1, 3) := by decide +kernel
theorem d_M_copy_62 : decode b_M_copy 62 = .ok (.goto (-26), 3) := by decide +kernel
theorem d_M_copy_65 : decode b_M_copy 65 = .ok (.aload_n 0, 1) := by decide +kernel
theorem d_M_copy_66 : decode b_M_copy 66 = .ok (.iload_n 1, 1) := by decide +kernel
theorem d_M_copy_67 : decode b_M_copy 67 = .ok (.iconst 2, 1) := by decide +kernel
theorem d_M_copy_68 : decode b_M_copy 68 = .ok (.iload_n 2, 1) := by decide +kernel
theorem d_M_copy_69 : decode b_M_copy 69 = .ok (.imul, 1) := by decide +kernel
theorem d_M_copy_70 : decode b_M_copy 70 = .ok (.iadd, 1) := by decide +kernel
theorem d_M_copy_71 : decode b_M_copy 71 = .ok (.invokevirtual 75, 3) := by decide +kernel
theorem d_M_copy_74 : decode b_M_copy 74 = .ok (.ifCond .eq 10, 3) := by decide +kernel
theorem d_M_copy_77 : decode b_M_copy 77 = .ok (.aload_n 0, 1) := by decide +kernel
theorem d_M_copy_78 : decode b_M_copy 78 = .ok (.getfield 54, 3) := by decide +kernel
theorem d_M_copy_81 : decode b_M_copy 81 = .ok (.goto 5, 3) := by decide +kernel
theorem d_M_copy_84 : decode b_M_copy 84 = .ok (.bipush (-3), 2) := by decide +kernel
theorem d_M_copy_86 : decode b_M_copy 86 = .ok (.ireturn, 1) := by decide +kernel
theorem d_M_become_0 : decode b_M_become 0 = .ok (.iconst 0, 1) := by decide +kernel
theorem d_M_become_1 : decode b_M_become 1 = .ok (.istore_n 3, 1) := by decide +kernel
theorem d_M_become_2 : decode b_M_become 2 = .ok (.iconst 0, 1) := by decide +kernel
theorem d_M_become_3 : decode b_M_become 3 = .ok (.istore 4, 2) := by decide +kernel
theorem d_M_become_5 : decode b_M_become 5 = .ok (.iload 4, 2) := by decide +kernel
theorem d_M_become_7 : decode b_M_become 7 = .ok (.aload_n 0, 1) := by decide +kernel
theorem d_M_become_8 : decode b_M_become 8 = .ok (.getfield 54, 3) := by decide +kernel
theorem d_M_become_11 : decode b_M_become 11 = .ok (.iload_n 1, 1) := by decide +kernel
theorem d_M_become_12 : decode b_M_become 12 = .ok (.isub, 1) := by decide +kernel
theorem d_M_become_13 : decode b_M_become 13 = .ok (.if_icmp .ge 18, 3) := by decide +kernel
theorem d_M_become_16 : decode b_M_become 16 = .ok (.iload_n 3, 1) := by decide +kernel
theorem d_M_become_17 : decode b_M_become 17 = .ok (.aload_n 0, 1) := by decide +kernel
theorem d_M_become_18 : decode b_M_become 18 = .ok (.iload 4, 2) := by decide +kernel
theorem d_M_become_20 : decode b_M_become 20 = .ok (.invokevirtual 68, 3) := by decide +kernel
theorem d_M_become_23 : decode b_M_become 23 = .ok (.iadd, 1) := by decide +kernel
theorem d_M_become_24 : decode b_M_become 24 = .ok (.istore_n 3, 1) := by decide +kernel
theorem d_M_become_25 : decode b_M_become 25 = .ok (.iinc 4 1, 3) := by decide +kernel
theorem d_M_become_28 : decode b_M_become 28 = .ok (.goto (-23), 3) := by decide +kernel
theorem d_M_become_31 : decode b_M_become 31 = .ok (.aload_n 0, 1) := by decide +kernel
theorem d_M_become_32 : decode b_M_become 32 = .ok (.getfield 22, 3) := by decide +kernel
theorem d_M_become_35 : decode b_M_become 35 = .ok (.aload_n 0, 1) := by decide +kernel
theorem d_M_become_36 : decode b_M_become 36 = .ok (.getfield 54, 3) := by decide +kernel
theorem d_M_become_39 : decode b_M_become 39 = .ok (.iaload, 1) := by decide +kernel
theorem d_M_become_40 : decode b_M_become 40 = .ok (.istore 4, 2) := by decide +kernel
theorem d_M_become_42 : decode b_M_become 42 = .ok (.iload_n 3, 1) := by decide +kernel
theorem d_M_become_43 : decode b_M_become 43 = .ok (.aload_n 0, 1) := by decide +kernel
theorem d_M_become_44 : decode b_M_become 44 = .ok (.iload 4, 2) := by decide +kernel
theorem d_M_become_46 : decode b_M_become 46 = .ok (.iload_n 2, 1) := by decide +kernel
theorem d_M_become_47 : decode b_M_become 47 = .ok (.iconst (-1), 1) := by decide +kernel
theorem d_M_become_48 : decode b_M_become 48 = .ok (.invokevirtual 61, 3) := by decide +kernel
theorem d_M_become_51 : decode b_M_become 51 = .ok (.iadd, 1) := by decide +kernel
theorem d_M_become_52 : decode b_M_become 52 = .ok (.sipush 3000, 3) := by decide +kernel
theorem d_M_become_55 : decode b_M_become 55 = .ok (.if_icmp .le 5, 3) := by decide +kernel
theorem d_M_become_58 : decode b_M_become 58 = .ok (.iconst 0, 1) := by decide +kernel
theorem d_M_become_59 : decode b_M_become 59 = .ok (.ireturn, 1) := by decide +kernel
theorem d_M_become_60 : decode b_M_become 60 = .ok (.aload_n 0, 1) := by decide +kernel
theorem d_M_become_61 : decode b_M_become 61 = .ok (.getfield 22, 3) := by decide +kernel
theorem d_M_become_64 : decode b_M_become 64 = .ok (.aload_n 0, 1) := by decide +kernel
theorem d_M_become_65 : decode b_M_become 65 = .ok (.getfield 54, 3) := by decide +kernel
theorem d_M_become_68 : decode b_M_become 68 = .ok (.iload_n 1, 1) := by decide +kernel
theorem d_M_become_69 : decode b_M_become 69 = .ok (.isub, 1) := by decide +kernel
theorem d_M_become_70 : decode b_M_become 70 = .ok (.iaload, 1) := by decide +kernel
theorem d_M_become_71 : decode b_M_become 71 = .ok (.istore 5, 2) := by decide +kernel
theorem d_M_become_73 : decode b_M_become 73 = .ok (.iconst 0, 1) := by decide +kernel
theorem d_M_become_74 : decode b_M_become 74 = .ok (.istore 6, 2) := by decide +kernel
theorem d_M_become_76 : decode b_M_become 76 = .ok (.iload 6, 2) := by decide +kernel
theorem d_M_become_78 : decode b_M_become 78 = .ok (.iload_n 2, 1) := by decide +kernel
theorem d_M_become_79 : decode b_M_become 79 = .ok (.iload 4, 2) := by decide +kernel
theorem d_M_become_81 : decode b_M_become 81 = .ok (.isub, 1) := by decide +kernel
theorem d_M_become_82 : decode b_M_become 82 = .ok (.if_icmp .ge 29, 3) := by decide +kernel
theorem d_M_become_85 : decode b_M_become 85 = .ok (.aload_n 0, 1) := by decide +kernel
theorem d_M_become_86 : decode b_M_become 86 = .ok (.getfield 19, 3) := by decide +kernel
theorem d_M_become_89 : decode b_M_become 89 = .ok (.iload 5, 2) := by decide +kernel
theorem d_M_become_91 : decode b_M_become 91 = .ok (.iload 6, 2) := by decide +kernel
theorem d_M_become_93 : decode b_M_become 93 = .ok (.iadd, 1) := by decide +kernel
theorem d_M_become_94 : decode b_M_become 94 = .ok (.aload_n 0, 1) := by decide +kernel
theorem d_M_become_95 : decode b_M_become 95 = .ok (.getfield 19, 3) := by decide +kernel
theorem d_M_become_98 : decode b_M_become 98 = .ok (.iload 4, 2) := by decide +kernel
theorem d_M_become_100 : decode b_M_become 100 = .ok (.iload 6, 2) := by decide +kernel
theorem d_M_become_102 : decode b_M_become 102 = .ok (.iadd, 1) := by decide +kernel
theorem d_M_become_103 : decode b_M_become 103 = .ok (.iaload, 1) := by decide +kernel
theorem d_M_become_104 : decode b_M_become 104 = .ok (.iastore, 1) := by decide +kernel
theorem d_M_become_105 : decode b_M_become 105 = .ok (.iinc 6 1, 3) := by decide +kernel
theorem d_M_become_108 : decode b_M_become 108 = .ok (.goto (-32), 3) := by decide +kernel
theorem d_M_become_111 : decode b_M_become 111 = .ok (.aload_n 0, 1) := by decide +kernel
theorem d_M_become_112 : decode b_M_become 112 = .ok (.aload_n 0, 1) := by decide +kernel
theorem d_M_become_113 : decode b_M_become 113 = .ok (.getfield 54, 3) := by decide +kernel
theorem d_M_become_116 : decode b_M_become 116 = .ok (.iload_n 1, 1) := by decide +kernel
theorem d_M_become_117 : decode b_M_become 117 = .ok (.isub, 1) := by decide +kernel
theorem d_M_become_118 : decode b_M_become 118 = .ok (.iconst 1, 1) := by decide +kernel
theorem d_M_become_119 : decode b_M_become 119 = .ok (.iadd, 1) := by decide +kernel
theorem d_M_become_120 : decode b_M_become 120 = .ok (.putfield 54, 3) := by decide +kernel
theorem d_M_become_123 : decode b_M_become 123 = .ok (.aload_n 0, 1) := by decide +kernel
theorem d_M_become_124 : decode b_M_become 124 = .ok (.getfield 22, 3) := by decide +kernel
theorem d_M_become_127 : decode b_M_become 127 = .ok (.aload_n 0, 1) := by decide +kernel
theorem d_M_become_128 : decode b_M_become 128 = .ok (.getfield 54, 3) := by decide +kernel
theorem d_M_become_131 : decode b_M_become 131 = .ok (.iload 5, 2) := by decide +kernel
theorem d_M_become_133 : decode b_M_become 133 = .ok (.iload_n 2, 1) := by decide +kernel
theorem d_M_become_134 : decode b_M_become 134 = .ok (.iadd, 1) := by decide +kernel
theorem d_M_become_135 : decode b_M_become 135 = .ok (.iload 4, 2) := by decide +kernel
theorem d_M_become_137 : decode b_M_become 137 = .ok (.isub, 1) := by decide +kernel
theorem d_M_become_138 : decode b_M_become 138 = .ok (.iastore, 1) := by decide +kernel
theorem d_M_become_139 : decode b_M_become 139 = .ok (.iconst 1, 1) := by decide +kernel
theorem d_M_become_140 : decode b_M_become 140 = .ok (.ireturn, 1) := by decide +kernel
theorem d_M_is_0 : decode b_M_is 0 = .ok (.iload_n 0, 1) := by decide +kernel
theorem d_M_is_1 : decode b_M_is 1 = .ok (.ifCond .ne 19, 3) := by decide +kernel
theorem d_M_is_4 : decode b_M_is 4 = .ok (.iload_n 1, 1) := by decide +kernel
theorem d_M_is_5 : decode b_M_is 5 = .ok (.ifCond .eq 11, 3) := by decide +kernel
theorem d_M_is_8 : decode b_M_is 8 = .ok (.iload_n 2, 1) := by decide +kernel
theorem d_M_is_9 : decode b_M_is 9 = .ok (.ifCond .eq 7, 3) := by decide +kernel
theorem d_M_is_12 : decode b_M_is 12 = .ok (.iconst 1, 1) := by decide +kernel
theorem d_M_is_13 : decode b_M_is 13 = .ok (.goto 59, 3) := by decide +kernel
theorem d_M_is_16 : decode b_M_is 16 = .ok (.iconst 0, 1) := by decide +kernel
theorem d_M_is_17 : decode b_M_is 17 = .ok (.goto 55, 3) := by decide +kernel
theorem d_M_is_20 : decode b_M_is 20 = .ok (.iload_n 0, 1) := by decide +kernel
theorem d_M_is_21 : decode b_M_is 21 = .ok (.iconst 1, 1) := by decide +kernel
theorem d_M_is_22 : decode b_M_is 22 = .ok (.if_icmp .ne 19, 3) := by decide +kernel
theorem d_M_is_25 : decode b_M_is 25 = .ok (.iload_n 1, 1) := by decide +kernel
theorem d_M_is_26 : decode b_M_is 26 = .ok (.ifCond .ne 7, 3) := by decide +kernel
theorem d_M_is_29 : decode b_M_is 29 = .ok (.iload_n 2, 1) := by decide +kernel
theorem d_M_is_30 : decode b_M_is 30 = .ok (.ifCond .eq 7, 3) := by decide +kernel
theorem d_M_is_33 : decode b_M_is 33 = .ok (.iconst 1, 1) := by decide +kernel
theorem d_M_is_34 : decode b_M_is 34 = .ok (.goto 38, 3) := by decide +kernel
theorem d_M_is_37 : decode b_M_is 37 = .ok (.iconst 0, 1) := by decide +kernel
theorem d_M_is_38 : decode b_M_is 38 = .ok (.goto 34, 3) := by decide +kernel
theorem d_M_is_41 : decode b_M_is 41 = .ok (.iload_n 0, 1) := by decide +kernel
theorem d_M_is_42 : decode b_M_is 42 = .ok (.iconst 2, 1) := by decide +kernel
theorem d_M_is_43 : decode b_M_is 43 = .ok (.if_icmp .ne 19, 3) := by decide +kernel
theorem d_M_is_46 : decode b_M_is 46 = .ok (.iload_n 1, 1) := by decide +kernel
theorem d_M_is_47 : decode b_M_is 47 = .ok (.ifCond .eq 11, 3) := by decide +kernel
theorem d_M_is_50 : decode b_M_is 50 = .ok (.iload_n 2, 1) := by decide +kernel
theorem d_M_is_51 : decode b_M_is 51 = .ok (.ifCond .ne 7, 3) := by decide +kernel
theorem d_M_is_54 : decode b_M_is 54 = .ok (.iconst 1, 1) := by decide +kernel
theorem d_M_is_55 : decode b_M_is 55 = .ok (.goto 17, 3) := by decide +kernel
theorem d_M_is_58 : decode b_M_is 58 = .ok (.iconst 0, 1) := by decide +kernel
theorem d_M_is_59 : decode b_M_is 59 = .ok (.goto 13, 3) := by decide +kernel
theorem d_M_is_62 : decode b_M_is 62 = .ok (.iload_n 1, 1) := by decide +kernel
theorem d_M_is_63 : decode b_M_is 63 = .ok (.iload_n 2, 1) := by decide +kernel
theorem d_M_is_64 : decode b_M_is 64 = .ok (.if_icmp .eq 7, 3) := by decide +kernel
theorem d_M_is_67 : decode b_M_is 67 = .ok (.iconst 1, 1) := by decide +kernel
theorem d_M_is_68 : decode b_M_is 68 = .ok (.goto 4, 3) := by decide +kernel
theorem d_M_is_71 : decode b_M_is 71 = .ok (.iconst 0, 1) := by decide +kernel
theorem d_M_is_72 : decode b_M_is 72 = .ok (.ireturn, 1) := by decide +kernel
theorem d_M_layJoined_0 : decode b_M_layJoined 0 = .ok (.iload 6, 2) := by decide +kernel
theorem d_M_layJoined_2 : decode b_M_layJoined 2 = .ok (.istore 7, 2) := by decide +kernel
theorem d_M_layJoined_4 : decode b_M_layJoined 4 = .ok (.iload_n 2, 1) := by decide +kernel
theorem d_M_layJoined_5 : decode b_M_layJoined 5 = .ok (.istore 8, 2) := by decide +kernel
theorem d_M_layJoined_7 : decode b_M_layJoined 7 = .ok (.iload 4, 2) := by decide +kernel
theorem d_M_layJoined_9 : decode b_M_layJoined 9 = .ok (.istore 9, 2) := by decide +kernel
theorem d_M_layJoined_11 : decode b_M_layJoined 11 = .ok (.iconst 0, 1) := by decide +kernel
theorem d_M_layJoined_12 : decode b_M_layJoined 12 = .ok (.istore 10, 2) := by decide +kernel
theorem d_M_layJoined_14 : decode b_M_layJoined 14 = .ok (.iload 10, 2) := by decide +kernel
theorem d_M_layJoined_16 : decode b_M_layJoined 16 = .ok (.aload_n 0, 1) := by decide +kernel
theorem d_M_layJoined_17 : decode b_M_layJoined 17 = .ok (.invokevirtual 41, 3) := by decide +kernel
theorem d_M_layJoined_20 : decode b_M_layJoined 20 = .ok (.if_icmp .ge 296, 3) := by decide +kernel
theorem d_M_layJoined_23 : decode b_M_layJoined 23 = .ok (.iload 8, 2) := by decide +kernel
theorem d_M_layJoined_25 : decode b_M_layJoined 25 = .ok (.iload_n 3, 1) := by decide +kernel
theorem d_M_layJoined_26 : decode b_M_layJoined 26 = .ok (.if_icmp .ge 23, 3) := by decide +kernel
theorem d_M_layJoined_29 : decode b_M_layJoined 29 = .ok (.aload_n 0, 1) := by decide +kernel
theorem d_M_layJoined_30 : decode b_M_layJoined 30 = .ok (.getfield 19, 3) := by decide +kernel
theorem d_M_layJoined_33 : decode b_M_layJoined 33 = .ok (.iload 8, 2) := by decide +kernel
theorem d_M_layJoined_35 : decode b_M_layJoined 35 = .ok (.iconst 1, 1) := by decide +kernel
theorem d_M_layJoined_36 : decode b_M_layJoined 36 = .ok (.iadd, 1) := by decide +kernel
theorem d_M_layJoined_37 : decode b_M_layJoined 37 = .ok (.iaload, 1) := by decide +kernel
theorem d_M_layJoined_38 : decode b_M_layJoined 38 = .ok (.iload 10, 2) := by decide +kernel
theorem d_M_layJoined_40 : decode b_M_layJoined 40 = .ok (.if_icmp .gt 9, 3) := by decide +kernel
theorem d_M_layJoined_43 : decode b_M_layJoined 43 = .ok (.iinc 8 2, 3) := by decide +kernel
theorem d_M_layJoined_46 : decode b_M_layJoined 46 = .ok (.goto (-23), 3) := by decide +kernel
theorem d_M_layJoined_49 : decode b_M_layJoined 49 = .ok (.iload 9, 2) := by decide +kernel
theorem d_M_layJoined_51 : decode b_M_layJoined 51 = .ok (.iload 5, 2) := by decide +kernel
theorem d_M_layJoined_53 : decode b_M_layJoined 53 = .ok (.if_icmp .ge 23, 3) := by decide +kernel
theorem d_M_layJoined_56 : decode b_M_layJoined 56 = .ok (.aload_n 0, 1) := by decide +kernel
theorem d_M_layJoined_57 : decode b_M_layJoined 57 = .ok (.getfield 19, 3) := by decide +kernel
theorem d_M_layJoined_60 : decode b_M_layJoined 60 = .ok (.iload 9, 2) := by decide +kernel
theorem d_M_layJoined_62 : decode b_M_layJoined 62 = .ok (.iconst 1, 1) := by decide +kernel
theorem d_M_layJoined_63 : decode b_M_layJoined 63 = .ok (.iadd, 1) := by decide +kernel
theorem d_M_layJoined_64 : decode b_M_layJoined 64 = .ok (.iaload, 1) := by decide +kernel
theorem d_M_layJoined_65 : decode b_M_layJoined 65 = .ok (.iload 10, 2) := by decide +kernel
theorem d_M_layJoined_67 : decode b_M_layJoined 67 = .ok (.if_icmp .gt 9, 3) := by decide +kernel
theorem d_M_layJoined_70 : decode b_M_layJoined 70 = .ok (.iinc 9 2, 3) := by decide +kernel
theorem d_M_layJoined_73 : decode b_M_layJoined 73 = .ok (.goto (-24), 3) := by decide +kernel
theorem d_M_layJoined_76 : decode b_M_layJoined 76 = .ok (.iload 8, 2) := by decide +kernel
theorem d_M_layJoined_78 : decode b_M_layJoined 78 = .ok (.iload_n 3, 1) := by decide +kernel
theorem d_M_layJoined_79 : decode b_M_layJoined 79 = .ok (.if_icmp .ge 19, 3) := by decide +kernel
theorem d_M_layJoined_82 : decode b_M_layJoined 82 = .ok (.aload_n 0, 1) := by decide +kernel
theorem d_M_layJoined_83 : decode b_M_layJoined 83 = .ok (.getfield 19, 3) := by decide +kernel
theorem d_M_layJoined_86 : decode b_M_layJoined 86 = .ok (.iload 8, 2) := by decide +kernel
theorem d_M_layJoined_88 : decode b_M_layJoined 88 = .ok (.iaload, 1) := by decide +kernel
theorem d_M_layJoined_89 : decode b_M_layJoined 89 = .ok (.iload 10, 2) := by decide +kernel
theorem d_M_layJoined_91 : decode b_M_layJoined 91 = .ok (.if_icmp .gt 7, 3) := by decide +kernel
theorem d_M_layJoined_94 : decode b_M_layJoined 94 = .ok (.iconst 1, 1) := by decide +kernel
theorem d_M_layJoined_95 : decode b_M_layJoined 95 = .ok (.goto 4, 3) := by decide +kernel
theorem d_M_layJoined_98 : decode b_M_layJoined 98 = .ok (.iconst 0, 1) := by decide +kernel
theorem d_M_layJoined_99 : decode b_M_layJoined 99 = .ok (.istore 11, 2) := by decide +kernel
theorem d_M_layJoined_101 : decode b_M_layJoined 101 = .ok (.iload 9, 2) := by decide +kernel
theorem d_M_layJoined_103 : decode b_M_layJoined 103 = .ok (.iload 5, 2) := by decide +kernel
theorem d_M_layJoined_105 : decode b_M_layJoined 105 = .ok (.if_icmp .ge 19, 3) := by decide +kernel
theorem d_M_layJoined_108 : decode b_M_layJoined 108 = .ok (.aload_n 0, 1) := by decide +kernel
theorem d_M_layJoined_109 : decode b_M_layJoined 109 = .ok (.getfield 19, 3) := by decide +kernel
theorem d_M_layJoined_112 : decode b_M_layJoined 112 = .ok (.iload 9, 2) := by decide +kernel
theorem d_M_layJoined_114 : decode b_M_layJoined 114 = .ok (.iaload, 1) := by decide +kernel
theorem d_M_layJoined_115 : decode b_M_layJoined 115 = .ok (.iload 10, 2) := by decide +kernel
theorem d_M_layJoined_117 : decode b_M_layJoined 117 = .ok (.if_icmp .gt 7, 3) := by decide +kernel
theorem d_M_layJoined_120 : decode b_M_layJoined 120 = .ok (.iconst 1, 1) := by decide +kernel
theorem d_M_layJoined_121 : decode b_M_layJoined 121 = .ok (.goto 4, 3) := by decide +kernel
theorem d_M_layJoined_124 : decode b_M_layJoined 124 = .ok (.iconst 0, 1) := by decide +kernel
theorem d_M_layJoined_125 : decode b_M_layJoined 125 = .ok (.istore 12, 2) := by decide +kernel
theorem d_M_layJoined_127 : decode b_M_layJoined 127 = .ok (.aload_n 0, 1) := by decide +kernel
theorem d_M_layJoined_128 : decode b_M_layJoined 128 = .ok (.invokevirtual 41, 3) := by decide +kernel
theorem d_M_layJoined_131 : decode b_M_layJoined 131 = .ok (.istore 13, 2) := by decide +kernel
theorem d_M_layJoined_133 : decode b_M_layJoined 133 = .ok (.iload 8, 2) := by decide +kernel
theorem d_M_layJoined_135 : decode b_M_layJoined 135 = .ok (.iload_n 3, 1) := by decide +kernel
theorem d_M_layJoined_136 : decode b_M_layJoined 136 = .ok (.if_icmp .ne 8, 3) := by decide +kernel
theorem d_M_layJoined_139 : decode b_M_layJoined 139 = .ok (.iload 13, 2) := by decide +kernel
theorem d_M_layJoined_141 : decode b_M_layJoined 141 = .ok (.goto 27, 3) := by decide +kernel
theorem d_M_layJoined_144 : decode b_M_layJoined 144 = .ok (.iload 11, 2) := by decide +kernel
theorem d_M_layJoined_146 : decode b_M_layJoined 146 = .ok (.ifCond .eq 15, 3) := by decide +kernel
theorem d_M_layJoined_149 : decode b_M_layJoined 149 = .ok (.aload_n 0, 1) := by decide +kernel
theorem d_M_layJoined_150 : decode b_M_layJoined 150 = .ok (.getfield 19, 3) := by decide +kernel
theorem d_M_layJoined_153 : decode b_M_layJoined 153 = .ok (.iload 8, 2) := by decide +kernel
theorem d_M_layJoined_155 : decode b_M_layJoined 155 = .ok (.iconst 1, 1) := by decide +kernel
theorem d_M_layJoined_156 : decode b_M_layJoined 156 = .ok (.iadd, 1) := by decide +kernel
theorem d_M_layJoined_157 : decode b_M_layJoined 157 = .ok (.iaload, 1) := by decide +kernel
theorem d_M_layJoined_158 : decode b_M_layJoined 158 = .ok (.goto 10, 3) := by decide +kernel
theorem d_M_layJoined_161 : decode b_M_layJoined 161 = .ok (.aload_n 0, 1) := by decide +kernel
theorem d_M_layJoined_162 : decode b_M_layJoined 162 = .ok (.getfield 19, 3) := by decide +kernel
theorem d_M_layJoined_165 : decode b_M_layJoined 165 = .ok (.iload 8, 2) := by decide +kernel
theorem d_M_layJoined_167 : decode b_M_layJoined 167 = .ok (.iaload, 1) := by decide +kernel
theorem d_M_layJoined_168 : decode b_M_layJoined 168 = .ok (.istore 14, 2) := by decide +kernel
theorem d_M_layJoined_170 : decode b_M_layJoined 170 = .ok (.iload 9, 2) := by decide +kernel
theorem d_M_layJoined_172 : decode b_M_layJoined 172 = .ok (.iload 5, 2) := by decide +kernel
theorem d_M_layJoined_174 : decode b_M_layJoined 174 = .ok (.if_icmp .ne 8, 3) := by decide +kernel
theorem d_M_layJoined_177 : decode b_M_layJoined 177 = .ok (.iload 13, 2) := by decide +kernel
theorem d_M_layJoined_179 : decode b_M_layJoined 179 = .ok (.goto 27, 3) := by decide +kernel
theorem d_M_layJoined_182 : decode b_M_layJoined 182 = .ok (.iload 12, 2) := by decide +kernel
theorem d_M_layJoined_184 : decode b_M_layJoined 184 = .ok (.ifCond .eq 15, 3) := by decide +kernel
theorem d_M_layJoined_187 : decode b_M_layJoined 187 = .ok (.aload_n 0, 1) := by decide +kernel
theorem d_M_layJoined_188 : decode b_M_layJoined 188 = .ok (.getfield 19, 3) := by decide +kernel
theorem d_M_layJoined_191 : decode b_M_layJoined 191 = .ok (.iload 9, 2) := by decide +kernel
theorem d_M_layJoined_193 : decode b_M_layJoined 193 = .ok (.iconst 1, 1) := by decide +kernel
theorem d_M_layJoined_194 : decode b_M_layJoined 194 = .ok (.iadd, 1) := by decide +kernel
theorem d_M_layJoined_195 : decode b_M_layJoined 195 = .ok (.iaload, 1) := by decide +kernel
theorem d_M_layJoined_196 : decode b_M_layJoined 196 = .ok (.goto 10, 3) := by decide +kernel
theorem d_M_layJoined_199 : decode b_M_layJoined 199 = .ok (.aload_n 0, 1) := by decide +kernel
theorem d_M_layJoined_200 : decode b_M_layJoined 200 = .ok (.getfield 19, 3) := by decide +kernel
theorem d_M_layJoined_203 : decode b_M_layJoined 203 = .ok (.iload 9, 2) := by decide +kernel
theorem d_M_layJoined_205 : decode b_M_layJoined 205 = .ok (.iaload, 1) := by decide +kernel
theorem d_M_layJoined_206 : decode b_M_layJoined 206 = .ok (.istore 15, 2) := by decide +kernel
theorem d_M_layJoined_208 : decode b_M_layJoined 208 = .ok (.iload 14, 2) := by decide +kernel
theorem d_M_layJoined_210 : decode b_M_layJoined 210 = .ok (.iload 13, 2) := by decide +kernel
theorem d_M_layJoined_212 : decode b_M_layJoined 212 = .ok (.if_icmp .ge 8, 3) := by decide +kernel
theorem d_M_layJoined_215 : decode b_M_layJoined 215 = .ok (.iload 14, 2) := by decide +kernel
theorem d_M_layJoined_217 : decode b_M_layJoined 217 = .ok (.goto 5, 3) := by decide +kernel
theorem d_M_layJoined_220 : decode b_M_layJoined 220 = .ok (.iload 13, 2) := by decide +kernel
theorem d_M_layJoined_222 : decode b_M_layJoined 222 = .ok (.istore 13, 2) := by decide +kernel
theorem d_M_layJoined_224 : decode b_M_layJoined 224 = .ok (.iload 15, 2) := by decide +kernel
theorem d_M_layJoined_226 : decode b_M_layJoined 226 = .ok (.iload 13, 2) := by decide +kernel
theorem d_M_layJoined_228 : decode b_M_layJoined 228 = .ok (.if_icmp .ge 8, 3) := by decide +kernel
theorem d_M_layJoined_231 : decode b_M_layJoined 231 = .ok (.iload 15, 2) := by decide +kernel
theorem d_M_layJoined_233 : decode b_M_layJoined 233 = .ok (.goto 5, 3) := by decide +kernel
theorem d_M_layJoined_236 : decode b_M_layJoined 236 = .ok (.iload 13, 2) := by decide +kernel
theorem d_M_layJoined_238 : decode b_M_layJoined 238 = .ok (.istore 13, 2) := by decide +kernel
theorem d_M_layJoined_240 : decode b_M_layJoined 240 = .ok (.iload_n 1, 1) := by decide +kernel
theorem d_M_layJoined_241 : decode b_M_layJoined 241 = .ok (.iload 11, 2) := by decide +kernel
theorem d_M_layJoined_243 : decode b_M_layJoined 243 = .ok (.iload 12, 2) := by decide +kernel
theorem d_M_layJoined_245 : decode b_M_layJoined 245 = .ok (.invokestatic 79, 3) := by decide +kernel
theorem d_M_layJoined_248 : decode b_M_layJoined 248 = .ok (.ifCond .eq 61, 3) := by decide +kernel
theorem d_M_layJoined_251 : decode b_M_layJoined 251 = .ok (.iload 7, 2) := by decide +kernel
theorem d_M_layJoined_253 : decode b_M_layJoined 253 = .ok (.iload 6, 2) := by decide +kernel
theorem d_M_layJoined_255 : decode b_M_layJoined 255 = .ok (.if_icmp .le 31, 3) := by decide +kernel
theorem d_M_layJoined_258 : decode b_M_layJoined 258 = .ok (.aload_n 0, 1) := by decide +kernel
theorem d_M_layJoined_259 : decode b_M_layJoined 259 = .ok (.getfield 19, 3) := by decide +kernel
theorem d_M_layJoined_262 : decode b_M_layJoined 262 = .ok (.iload 7, 2) := by decide +kernel
theorem d_M_layJoined_264 : decode b_M_layJoined 264 = .ok (.iconst 1, 1) := by decide +kernel
theorem d_M_layJoined_265 : decode b_M_layJoined 265 = .ok (.isub, 1) := by decide +kernel
theorem d_M_layJoined_266 : decode b_M_layJoined 266 = .ok (.iaload, 1) := by decide +kernel
theorem d_M_layJoined_267 : decode b_M_layJoined 267 = .ok (.iload 10, 2) := by decide +kernel
theorem d_M_layJoined_269 : decode b_M_layJoined 269 = .ok (.if_icmp .ne 17, 3) := by decide +kernel
theorem d_M_layJoined_272 : decode b_M_layJoined 272 = .ok (.aload_n 0, 1) := by decide +kernel
theorem d_M_layJoined_273 : decode b_M_layJoined 273 = .ok (.getfield 19, 3) := by decide +kernel
theorem d_M_layJoined_276 : decode b_M_layJoined 276 = .ok (.iload 7, 2) := by decide +kernel
theorem d_M_layJoined_278 : decode b_M_layJoined 278 = .ok (.iconst 1, 1) := by decide +kernel
theorem d_M_layJoined_279 : decode b_M_layJoined 279 = .ok (.isub, 1) := by decide +kernel
theorem d_M_layJoined_280 : decode b_M_layJoined 280 = .ok (.iload 13, 2) := by decide +kernel
theorem d_M_layJoined_282 : decode b_M_layJoined 282 = .ok (.iastore, 1) := by decide +kernel
theorem d_M_layJoined_283 : decode b_M_layJoined 283 = .ok (.goto 26, 3) := by decide +kernel
theorem d_M_layJoined_286 : decode b_M_layJoined 286 = .ok (.aload_n 0, 1) := by decide +kernel
theorem d_M_layJoined_287 : decode b_M_layJoined 287 = .ok (.getfield 19, 3) := by decide +kernel
theorem d_M_layJoined_290 : decode b_M_layJoined 290 = .ok (.iload 7, 2) := by decide +kernel
theorem d_M_layJoined_292 : decode b_M_layJoined 292 = .ok (.iload 10, 2) := by decide +kernel
theorem d_M_layJoined_294 : decode b_M_layJoined 294 = .ok (.iastore, 1) := by decide +kernel
theorem d_M_layJoined_295 : decode b_M_layJoined 295 = .ok (.aload_n 0, 1) := by decide +kernel
theorem d_M_layJoined_296 : decode b_M_layJoined 296 = .ok (.getfield 19, 3) := by decide +kernel
theorem d_M_layJoined_299 : decode b_M_layJoined 299 = .ok (.iload 7, 2) := by decide +kernel
theorem d_M_layJoined_301 : decode b_M_layJoined 301 = .ok (.iconst 1, 1) := by decide +kernel
theorem d_M_layJoined_302 : decode b_M_layJoined 302 = .ok (.iadd, 1) := by decide +kernel
theorem d_M_layJoined_303 : decode b_M_layJoined 303 = .ok (.iload 13, 2) := by decide +kernel
theorem d_M_layJoined_305 : decode b_M_layJoined 305 = .ok (.iastore, 1) := by decide +kernel
theorem d_M_layJoined_306 : decode b_M_layJoined 306 = .ok (.iinc 7 2, 3) := by decide +kernel
theorem d_M_layJoined_309 : decode b_M_layJoined 309 = .ok (.iload 13, 2) := by decide +kernel
theorem d_M_layJoined_311 : decode b_M_layJoined 311 = .ok (.istore 10, 2) := by decide +kernel
theorem d_M_layJoined_313 : decode b_M_layJoined 313 = .ok (.goto (-299), 3) := by decide +kernel
theorem d_M_layJoined_316 : decode b_M_layJoined 316 = .ok (.iload 7, 2) := by decide +kernel
theorem d_M_layJoined_318 : decode b_M_layJoined 318 = .ok (.ireturn, 1) := by decide +kernel
theorem d_M_join_0 : decode b_M_join 0 = .ok (.iload_n 1, 1) := by decide +kernel
theorem d_M_join_1 : decode b_M_join 1 = .ok (.ifCond .lt 8, 3) := by decide +kernel
theorem d_M_join_4 : decode b_M_join 4 = .ok (.iload_n 1, 1) := by decide +kernel
theorem d_M_join_5 : decode b_M_join 5 = .ok (.iconst 3, 1) := by decide +kernel
theorem d_M_join_6 : decode b_M_join 6 = .ok (.if_icmp .le 5, 3) := by decide +kernel
theorem d_M_join_9 : decode b_M_join 9 = .ok (.iconst (-1), 1) := by decide +kernel
theorem d_M_join_10 : decode b_M_join 10 = .ok (.ireturn, 1) := by decide +kernel
theorem d_M_join_11 : decode b_M_join 11 = .ok (.aload_n 0, 1) := by decide +kernel
theorem d_M_join_12 : decode b_M_join 12 = .ok (.getfield 54, 3) := by decide +kernel
theorem d_M_join_15 : decode b_M_join 15 = .ok (.iconst 2, 1) := by decide +kernel
theorem d_M_join_16 : decode b_M_join 16 = .ok (.if_icmp .ge 6, 3) := by decide +kernel
theorem d_M_join_19 : decode b_M_join 19 = .ok (.bipush (-4), 2) := by decide +kernel
theorem d_M_join_21 : decode b_M_join 21 = .ok (.ireturn, 1) := by decide +kernel
theorem d_M_join_22 : decode b_M_join 22 = .ok (.aload_n 0, 1) := by decide +kernel
theorem d_M_join_23 : decode b_M_join 23 = .ok (.iload_n 1, 1) := by decide +kernel
theorem d_M_join_24 : decode b_M_join 24 = .ok (.aload_n 0, 1) := by decide +kernel
theorem d_M_join_25 : decode b_M_join 25 = .ok (.getfield 22, 3) := by decide +kernel
theorem d_M_join_28 : decode b_M_join 28 = .ok (.aload_n 0, 1) := by decide +kernel
theorem d_M_join_29 : decode b_M_join 29 = .ok (.getfield 54, 3) := by decide +kernel
theorem d_M_join_32 : decode b_M_join 32 = .ok (.iconst 2, 1) := by decide +kernel
theorem d_M_join_33 : decode b_M_join 33 = .ok (.isub, 1) := by decide +kernel
theorem d_M_join_34 : decode b_M_join 34 = .ok (.iaload, 1) := by decide +kernel
theorem d_M_join_35 : decode b_M_join 35 = .ok (.aload_n 0, 1) := by decide +kernel
theorem d_M_join_36 : decode b_M_join 36 = .ok (.getfield 22, 3) := by decide +kernel
theorem d_M_join_39 : decode b_M_join 39 = .ok (.aload_n 0, 1) := by decide +kernel
theorem d_M_join_40 : decode b_M_join 40 = .ok (.getfield 54, 3) := by decide +kernel
theorem d_M_join_43 : decode b_M_join 43 = .ok (.iconst 1, 1) := by decide +kernel
theorem d_M_join_44 : decode b_M_join 44 = .ok (.isub, 1) := by decide +kernel
theorem d_M_join_45 : decode b_M_join 45 = .ok (.iaload, 1) := by decide +kernel
theorem d_M_join_46 : decode b_M_join 46 = .ok (.aload_n 0, 1) := by decide +kernel
theorem d_M_join_47 : decode b_M_join 47 = .ok (.getfield 22, 3) := by decide +kernel
theorem d_M_join_50 : decode b_M_join 50 = .ok (.aload_n 0, 1) := by decide +kernel
theorem d_M_join_51 : decode b_M_join 51 = .ok (.getfield 54, 3) := by decide +kernel
theorem d_M_join_54 : decode b_M_join 54 = .ok (.iconst 1, 1) := by decide +kernel
theorem d_M_join_55 : decode b_M_join 55 = .ok (.isub, 1) := by decide +kernel
theorem d_M_join_56 : decode b_M_join 56 = .ok (.iaload, 1) := by decide +kernel
theorem d_M_join_57 : decode b_M_join 57 = .ok (.aload_n 0, 1) := by decide +kernel
theorem d_M_join_58 : decode b_M_join 58 = .ok (.getfield 22, 3) := by decide +kernel
theorem d_M_join_61 : decode b_M_join 61 = .ok (.aload_n 0, 1) := by decide +kernel
theorem d_M_join_62 : decode b_M_join 62 = .ok (.getfield 54, 3) := by decide +kernel
theorem d_M_join_65 : decode b_M_join 65 = .ok (.iaload, 1) := by decide +kernel
theorem d_M_join_66 : decode b_M_join 66 = .ok (.aload_n 0, 1) := by decide +kernel
theorem d_M_join_67 : decode b_M_join 67 = .ok (.getfield 22, 3) := by decide +kernel
theorem d_M_join_70 : decode b_M_join 70 = .ok (.aload_n 0, 1) := by decide +kernel
theorem d_M_join_71 : decode b_M_join 71 = .ok (.getfield 54, 3) := by decide +kernel
theorem d_M_join_74 : decode b_M_join 74 = .ok (.iaload, 1) := by decide +kernel
theorem d_M_join_75 : decode b_M_join 75 = .ok (.invokevirtual 83, 3) := by decide +kernel
theorem d_M_join_78 : decode b_M_join 78 = .ok (.istore_n 2, 1) := by decide +kernel
theorem d_M_join_79 : decode b_M_join 79 = .ok (.aload_n 0, 1) := by decide +kernel
theorem d_M_join_80 : decode b_M_join 80 = .ok (.iconst 2, 1) := by decide +kernel
theorem d_M_join_81 : decode b_M_join 81 = .ok (.iload_n 2, 1) := by decide +kernel
theorem d_M_join_82 : decode b_M_join 82 = .ok (.invokevirtual 87, 3) := by decide +kernel
theorem d_M_join_85 : decode b_M_join 85 = .ok (.ifCond .eq 10, 3) := by decide +kernel
theorem d_M_join_88 : decode b_M_join 88 = .ok (.aload_n 0, 1) := by decide +kernel
theorem d_M_join_89 : decode b_M_join 89 = .ok (.getfield 54, 3) := by decide +kernel
theorem d_M_join_92 : decode b_M_join 92 = .ok (.goto 5, 3) := by decide +kernel
theorem d_M_join_95 : decode b_M_join 95 = .ok (.bipush (-3), 2) := by decide +kernel
theorem d_M_join_97 : decode b_M_join 97 = .ok (.ireturn, 1) := by decide +kernel
theorem d_M_not_0 : decode b_M_not 0 = .ok (.aload_n 0, 1) := by decide +kernel
theorem d_M_not_1 : decode b_M_not 1 = .ok (.getfield 54, 3) := by decide +kernel
theorem d_M_not_4 : decode b_M_not 4 = .ok (.ifCond .ne 6, 3) := by decide +kernel
theorem d_M_not_7 : decode b_M_not 7 = .ok (.bipush (-4), 2) := by decide +kernel
theorem d_M_not_9 : decode b_M_not 9 = .ok (.ireturn, 1) := by decide +kernel
theorem d_M_not_10 : decode b_M_not 10 = .ok (.aload_n 0, 1) := by decide +kernel
theorem d_M_not_11 : decode b_M_not 11 = .ok (.getfield 22, 3) := by decide +kernel
theorem d_M_not_14 : decode b_M_not 14 = .ok (.aload_n 0, 1) := by decide +kernel
theorem d_M_not_15 : decode b_M_not 15 = .ok (.getfield 54, 3) := by decide +kernel
theorem d_M_not_18 : decode b_M_not 18 = .ok (.iaload, 1) := by decide +kernel
theorem d_M_not_19 : decode b_M_not 19 = .ok (.istore_n 1, 1) := by decide +kernel
theorem d_M_not_20 : decode b_M_not 20 = .ok (.iload_n 1, 1) := by decide +kernel
theorem d_M_not_21 : decode b_M_not 21 = .ok (.istore_n 2, 1) := by decide +kernel
theorem d_M_not_22 : decode b_M_not 22 = .ok (.aload_n 0, 1) := by decide +kernel
theorem d_M_not_23 : decode b_M_not 23 = .ok (.invokevirtual 41, 3) := by decide +kernel
theorem d_M_not_26 : decode b_M_not 26 = .ok (.ifCond .le 26, 3) := by decide +kernel
theorem d_M_not_29 : decode b_M_not 29 = .ok (.aload_n 0, 1) := by decide +kernel
theorem d_M_not_30 : decode b_M_not 30 = .ok (.getfield 19, 3) := by decide +kernel
theorem d_M_not_33 : decode b_M_not 33 = .ok (.iload_n 1, 1) := by decide +kernel
theorem d_M_not_34 : decode b_M_not 34 = .ok (.iconst 0, 1) := by decide +kernel
theorem d_M_not_35 : decode b_M_not 35 = .ok (.iastore, 1) := by decide +kernel
theorem d_M_not_36 : decode b_M_not 36 = .ok (.aload_n 0, 1) := by decide +kernel
theorem d_M_not_37 : decode b_M_not 37 = .ok (.getfield 19, 3) := by decide +kernel
theorem d_M_not_40 : decode b_M_not 40 = .ok (.iload_n 1, 1) := by decide +kernel
theorem d_M_not_41 : decode b_M_not 41 = .ok (.iconst 1, 1) := by decide +kernel
theorem d_M_not_42 : decode b_M_not 42 = .ok (.iadd, 1) := by decide +kernel
theorem d_M_not_43 : decode b_M_not 43 = .ok (.aload_n 0, 1) := by decide +kernel
theorem d_M_not_44 : decode b_M_not 44 = .ok (.invokevirtual 41, 3) := by decide +kernel
theorem d_M_not_47 : decode b_M_not 47 = .ok (.iastore, 1) := by decide +kernel
theorem d_M_not_48 : decode b_M_not 48 = .ok (.iload_n 1, 1) := by decide +kernel
theorem d_M_not_49 : decode b_M_not 49 = .ok (.iconst 2, 1) := by decide +kernel
theorem d_M_not_50 : decode b_M_not 50 = .ok (.iadd, 1) := by decide +kernel
theorem d_M_not_51 : decode b_M_not 51 = .ok (.istore_n 2, 1) := by decide +kernel
theorem d_M_not_52 : decode b_M_not 52 = .ok (.aload_n 0, 1) := by decide +kernel
theorem d_M_not_53 : decode b_M_not 53 = .ok (.iconst 2, 1) := by decide +kernel
theorem d_M_not_54 : decode b_M_not 54 = .ok (.iload_n 1, 1) := by decide +kernel
theorem d_M_not_55 : decode b_M_not 55 = .ok (.iload_n 2, 1) := by decide +kernel
theorem d_M_not_56 : decode b_M_not 56 = .ok (.aload_n 0, 1) := by decide +kernel
theorem d_M_not_57 : decode b_M_not 57 = .ok (.getfield 22, 3) := by decide +kernel
theorem d_M_not_60 : decode b_M_not 60 = .ok (.aload_n 0, 1) := by decide +kernel
theorem d_M_not_61 : decode b_M_not 61 = .ok (.getfield 54, 3) := by decide +kernel
theorem d_M_not_64 : decode b_M_not 64 = .ok (.iconst 1, 1) := by decide +kernel
theorem d_M_not_65 : decode b_M_not 65 = .ok (.isub, 1) := by decide +kernel
theorem d_M_not_66 : decode b_M_not 66 = .ok (.iaload, 1) := by decide +kernel
theorem d_M_not_67 : decode b_M_not 67 = .ok (.iload_n 1, 1) := by decide +kernel
theorem d_M_not_68 : decode b_M_not 68 = .ok (.iload_n 2, 1) := by decide +kernel
theorem d_M_not_69 : decode b_M_not 69 = .ok (.invokevirtual 83, 3) := by decide +kernel
theorem d_M_not_72 : decode b_M_not 72 = .ok (.istore_n 3, 1) := by decide +kernel
theorem d_M_not_73 : decode b_M_not 73 = .ok (.iload_n 2, 1) := by decide +kernel
theorem d_M_not_74 : decode b_M_not 74 = .ok (.istore 4, 2) := by decide +kernel
theorem d_M_not_76 : decode b_M_not 76 = .ok (.iload 4, 2) := by decide +kernel
theorem d_M_not_78 : decode b_M_not 78 = .ok (.iload_n 3, 1) := by decide +kernel
theorem d_M_not_79 : decode b_M_not 79 = .ok (.if_icmp .ge 27, 3) := by decide +kernel
theorem d_M_not_82 : decode b_M_not 82 = .ok (.aload_n 0, 1) := by decide +kernel
theorem d_M_not_83 : decode b_M_not 83 = .ok (.getfield 19, 3) := by decide +kernel
theorem d_M_not_86 : decode b_M_not 86 = .ok (.iload_n 1, 1) := by decide +kernel
theorem d_M_not_87 : decode b_M_not 87 = .ok (.iload 4, 2) := by decide +kernel
theorem d_M_not_89 : decode b_M_not 89 = .ok (.iadd, 1) := by decide +kernel
theorem d_M_not_90 : decode b_M_not 90 = .ok (.iload_n 2, 1) := by decide +kernel
theorem d_M_not_91 : decode b_M_not 91 = .ok (.isub, 1) := by decide +kernel
theorem d_M_not_92 : decode b_M_not 92 = .ok (.aload_n 0, 1) := by decide +kernel
theorem d_M_not_93 : decode b_M_not 93 = .ok (.getfield 19, 3) := by decide +kernel
theorem d_M_not_96 : decode b_M_not 96 = .ok (.iload 4, 2) := by decide +kernel
theorem d_M_not_98 : decode b_M_not 98 = .ok (.iaload, 1) := by decide +kernel
theorem d_M_not_99 : decode b_M_not 99 = .ok (.iastore, 1) := by decide +kernel
theorem d_M_not_100 : decode b_M_not 100 = .ok (.iinc 4 1, 3) := by decide +kernel
theorem d_M_not_103 : decode b_M_not 103 = .ok (.goto (-27), 3) := by decide +kernel
theorem d_M_not_106 : decode b_M_not 106 = .ok (.aload_n 0, 1) := by decide +kernel
theorem d_M_not_107 : decode b_M_not 107 = .ok (.iconst 1, 1) := by decide +kernel
theorem d_M_not_108 : decode b_M_not 108 = .ok (.iload_n 1, 1) := by decide +kernel
theorem d_M_not_109 : decode b_M_not 109 = .ok (.iload_n 3, 1) := by decide +kernel
theorem d_M_not_110 : decode b_M_not 110 = .ok (.iadd, 1) := by decide +kernel
theorem d_M_not_111 : decode b_M_not 111 = .ok (.iload_n 2, 1) := by decide +kernel
theorem d_M_not_112 : decode b_M_not 112 = .ok (.isub, 1) := by decide +kernel
theorem d_M_not_113 : decode b_M_not 113 = .ok (.invokevirtual 87, 3) := by decide +kernel
theorem d_M_not_116 : decode b_M_not 116 = .ok (.ifCond .eq 10, 3) := by decide +kernel
theorem d_M_not_119 : decode b_M_not 119 = .ok (.aload_n 0, 1) := by decide +kernel
theorem d_M_not_120 : decode b_M_not 120 = .ok (.getfield 54, 3) := by decide +kernel
theorem d_M_not_123 : decode b_M_not 123 = .ok (.goto 5, 3) := by decide +kernel
theorem d_M_not_126 : decode b_M_not 126 = .ok (.bipush (-3), 2) := by decide +kernel
theorem d_M_not_128 : decode b_M_not 128 = .ok (.ireturn, 1) := by decide +kernel
theorem d_M_count_0 : decode b_M_count 0 = .ok (.aload_n 0, 1) := by decide +kernel
theorem d_M_count_1 : decode b_M_count 1 = .ok (.getfield 54, 3) := by decide +kernel
theorem d_M_count_4 : decode b_M_count 4 = .ok (.ifCond .ne 5, 3) := by decide +kernel
theorem d_M_count_7 : decode b_M_count 7 = .ok (.iconst (-1), 1) := by decide +kernel
theorem d_M_count_8 : decode b_M_count 8 = .ok (.ireturn, 1) := by decide +kernel
theorem d_M_count_9 : decode b_M_count 9 = .ok (.iconst 0, 1) := by decide +kernel
theorem d_M_count_10 : decode b_M_count 10 = .ok (.istore_n 1, 1) := by decide +kernel
theorem d_M_count_11 : decode b_M_count 11 = .ok (.aload_n 0, 1) := by decide +kernel
theorem d_M_count_12 : decode b_M_count 12 = .ok (.getfield 22, 3) := by decide +kernel
theorem d_M_count_15 : decode b_M_count 15 = .ok (.aload_n 0, 1) := by decide +kernel
theorem d_M_count_16 : decode b_M_count 16 = .ok (.getfield 54, 3) := by decide +kernel
theorem d_M_count_19 : decode b_M_count 19 = .ok (.iconst 1, 1) := by decide +kernel
theorem d_M_count_20 : decode b_M_count 20 = .ok (.isub, 1) := by decide +kernel
theorem d_M_count_21 : decode b_M_count 21 = .ok (.iaload, 1) := by decide +kernel
theorem d_M_count_22 : decode b_M_count 22 = .ok (.istore_n 2, 1) := by decide +kernel
theorem d_M_count_23 : decode b_M_count 23 = .ok (.iload_n 2, 1) := by decide +kernel
theorem d_M_count_24 : decode b_M_count 24 = .ok (.aload_n 0, 1) := by decide +kernel
theorem d_M_count_25 : decode b_M_count 25 = .ok (.getfield 22, 3) := by decide +kernel
theorem d_M_count_28 : decode b_M_count 28 = .ok (.aload_n 0, 1) := by decide +kernel
theorem d_M_count_29 : decode b_M_count 29 = .ok (.getfield 54, 3) := by decide +kernel
theorem d_M_count_32 : decode b_M_count 32 = .ok (.iaload, 1) := by decide +kernel
theorem d_M_count_33 : decode b_M_count 33 = .ok (.if_icmp .ge 27, 3) := by decide +kernel
theorem d_M_count_36 : decode b_M_count 36 = .ok (.iload_n 1, 1) := by decide +kernel
theorem d_M_count_37 : decode b_M_count 37 = .ok (.aload_n 0, 1) := by decide +kernel
theorem d_M_count_38 : decode b_M_count 38 = .ok (.getfield 19, 3) := by decide +kernel
theorem d_M_count_41 : decode b_M_count 41 = .ok (.iload_n 2, 1) := by decide +kernel
theorem d_M_count_42 : decode b_M_count 42 = .ok (.iconst 1, 1) := by decide +kernel
theorem d_M_count_43 : decode b_M_count 43 = .ok (.iadd, 1) := by decide +kernel
theorem d_M_count_44 : decode b_M_count 44 = .ok (.iaload, 1) := by decide +kernel
theorem d_M_count_45 : decode b_M_count 45 = .ok (.aload_n 0, 1) := by decide +kernel
theorem d_M_count_46 : decode b_M_count 46 = .ok (.getfield 19, 3) := by decide +kernel
theorem d_M_count_49 : decode b_M_count 49 = .ok (.iload_n 2, 1) := by decide +kernel
theorem d_M_count_50 : decode b_M_count 50 = .ok (.iaload, 1) := by decide +kernel
theorem d_M_count_51 : decode b_M_count 51 = .ok (.isub, 1) := by decide +kernel
theorem d_M_count_52 : decode b_M_count 52 = .ok (.iadd, 1) := by decide +kernel
theorem d_M_count_53 : decode b_M_count 53 = .ok (.istore_n 1, 1) := by decide +kernel
theorem d_M_count_54 : decode b_M_count 54 = .ok (.iinc 2 2, 3) := by decide +kernel
theorem d_M_count_57 : decode b_M_count 57 = .ok (.goto (-34), 3) := by decide +kernel
theorem d_M_count_60 : decode b_M_count 60 = .ok (.iload_n 1, 1) := by decide +kernel
theorem d_M_count_61 : decode b_M_count 61 = .ok (.ireturn, 1) := by decide +kernel
theorem d_M_after_0 : decode b_M_after 0 = .ok (.aload_n 0, 1) := by decide +kernel
theorem d_M_after_1 : decode b_M_after 1 = .ok (.getfield 54, 3) := by decide +kernel
theorem d_M_after_4 : decode b_M_after 4 = .ok (.ifCond .ne 7, 3) := by decide +kernel
theorem d_M_after_7 : decode b_M_after 7 = .ok (.iconst 0, 1) := by decide +kernel
theorem d_M_after_8 : decode b_M_after 8 = .ok (.goto 14, 3) := by decide +kernel
theorem d_M_after_11 : decode b_M_after 11 = .ok (.aload_n 0, 1) := by decide +kernel
theorem d_M_after_12 : decode b_M_after 12 = .ok (.getfield 22, 3) := by decide +kernel
theorem d_M_after_15 : decode b_M_after 15 = .ok (.aload_n 0, 1) := by decide +kernel
theorem d_M_after_16 : decode b_M_after 16 = .ok (.getfield 54, 3) := by decide +kernel
theorem d_M_after_19 : decode b_M_after 19 = .ok (.iconst 1, 1) := by decide +kernel
theorem d_M_after_20 : decode b_M_after 20 = .ok (.isub, 1) := by decide +kernel
theorem d_M_after_21 : decode b_M_after 21 = .ok (.iaload, 1) := by decide +kernel
theorem d_M_after_22 : decode b_M_after 22 = .ok (.istore_n 2, 1) := by decide +kernel
theorem d_M_after_23 : decode b_M_after 23 = .ok (.iload_n 2, 1) := by decide +kernel
theorem d_M_after_24 : decode b_M_after 24 = .ok (.aload_n 0, 1) := by decide +kernel
theorem d_M_after_25 : decode b_M_after 25 = .ok (.getfield 22, 3) := by decide +kernel
theorem d_M_after_28 : decode b_M_after 28 = .ok (.aload_n 0, 1) := by decide +kernel
theorem d_M_after_29 : decode b_M_after 29 = .ok (.getfield 54, 3) := by decide +kernel
theorem d_M_after_32 : decode b_M_after 32 = .ok (.iaload, 1) := by decide +kernel
theorem d_M_after_33 : decode b_M_after 33 = .ok (.if_icmp .ge 46, 3) := by decide +kernel
theorem d_M_after_36 : decode b_M_after 36 = .ok (.aload_n 0, 1) := by decide +kernel
theorem d_M_after_37 : decode b_M_after 37 = .ok (.getfield 19, 3) := by decide +kernel
theorem d_M_after_40 : decode b_M_after 40 = .ok (.iload_n 2, 1) := by decide +kernel
theorem d_M_after_41 : decode b_M_after 41 = .ok (.iconst 1, 1) := by decide +kernel
theorem d_M_after_42 : decode b_M_after 42 = .ok (.iadd, 1) := by decide +kernel
theorem d_M_after_43 : decode b_M_after 43 = .ok (.iaload, 1) := by decide +kernel
theorem d_M_after_44 : decode b_M_after 44 = .ok (.iconst 1, 1) := by decide +kernel
theorem d_M_after_45 : decode b_M_after 45 = .ok (.isub, 1) := by decide +kernel
theorem d_M_after_46 : decode b_M_after 46 = .ok (.iload_n 1, 1) := by decide +kernel
theorem d_M_after_47 : decode b_M_after 47 = .ok (.if_icmp .le 26, 3) := by decide +kernel
theorem d_M_after_50 : decode b_M_after 50 = .ok (.aload_n 0, 1) := by decide +kernel
theorem d_M_after_51 : decode b_M_after 51 = .ok (.getfield 19, 3) := by decide +kernel
theorem d_M_after_54 : decode b_M_after 54 = .ok (.iload_n 2, 1) := by decide +kernel
theorem d_M_after_55 : decode b_M_after 55 = .ok (.iaload, 1) := by decide +kernel
theorem d_M_after_56 : decode b_M_after 56 = .ok (.iload_n 1, 1) := by decide +kernel
theorem d_M_after_57 : decode b_M_after 57 = .ok (.if_icmp .le 12, 3) := by decide +kernel
theorem d_M_after_60 : decode b_M_after 60 = .ok (.aload_n 0, 1) := by decide +kernel
theorem d_M_after_61 : decode b_M_after 61 = .ok (.getfield 19, 3) := by decide +kernel
theorem d_M_after_64 : decode b_M_after 64 = .ok (.iload_n 2, 1) := by decide +kernel
theorem d_M_after_65 : decode b_M_after 65 = .ok (.iaload, 1) := by decide +kernel
theorem d_M_after_66 : decode b_M_after 66 = .ok (.goto 6, 3) := by decide +kernel
theorem d_M_after_69 : decode b_M_after 69 = .ok (.iload_n 1, 1) := by decide +kernel
theorem d_M_after_70 : decode b_M_after 70 = .ok (.iconst 1, 1) := by decide +kernel
theorem d_M_after_71 : decode b_M_after 71 = .ok (.iadd, 1) := by decide +kernel
theorem d_M_after_72 : decode b_M_after 72 = .ok (.ireturn, 1) := by decide +kernel
theorem d_M_after_73 : decode b_M_after 73 = .ok (.iinc 2 2, 3) := by decide +kernel
theorem d_M_after_76 : decode b_M_after 76 = .ok (.goto (-53), 3) := by decide +kernel
theorem d_M_after_79 : decode b_M_after 79 = .ok (.iconst (-1), 1) := by decide +kernel
theorem d_M_after_80 : decode b_M_after 80 = .ok (.ireturn, 1) := by decide +kernel
theorem d_M_words_0 : decode b_M_words 0 = .ok (.aload_n 0, 1) := by decide +kernel
theorem d_M_words_1 : decode b_M_words 1 = .ok (.getfield 54, 3) := by decide +kernel
theorem d_M_words_4 : decode b_M_words 4 = .ok (.ifCond .ne 7, 3) := by decide +kernel
theorem d_M_words_7 : decode b_M_words 7 = .ok (.iconst (-1), 1) := by decide +kernel
theorem d_M_words_8 : decode b_M_words 8 = .ok (.goto 13, 3) := by decide +kernel
theorem d_M_words_11 : decode b_M_words 11 = .ok (.aload_n 0, 1) := by decide +kernel
theorem d_M_words_12 : decode b_M_words 12 = .ok (.aload_n 0, 1) := by decide +kernel
theorem d_M_words_13 : decode b_M_words 13 = .ok (.getfield 54, 3) := by decide +kernel
theorem d_M_words_16 : decode b_M_words 16 = .ok (.iconst 1, 1) := by decide +kernel
theorem d_M_words_17 : decode b_M_words 17 = .ok (.isub, 1) := by decide +kernel
theorem d_M_words_18 : decode b_M_words 18 = .ok (.invokevirtual 68, 3) := by decide +kernel
theorem d_M_words_21 : decode b_M_words 21 = .ok (.ireturn, 1) := by decide +kernel
theorem d_M_word_0 : decode b_M_word 0 = .ok (.aload_n 0, 1) := by decide +kernel
theorem d_M_word_1 : decode b_M_word 1 = .ok (.getfield 54, 3) := by decide +kernel
theorem d_M_word_4 : decode b_M_word 4 = .ok (.ifCond .eq 7, 3) := by decide +kernel
theorem d_M_word_7 : decode b_M_word 7 = .ok (.iload_n 1, 1) := by decide +kernel
theorem d_M_word_8 : decode b_M_word 8 = .ok (.ifCond .ge 5, 3) := by decide +kernel
theorem d_M_word_11 : decode b_M_word 11 = .ok (.iconst 0, 1) := by decide +kernel
theorem d_M_word_12 : decode b_M_word 12 = .ok (.ireturn, 1) := by decide +kernel
theorem d_M_word_13 : decode b_M_word 13 = .ok (.aload_n 0, 1) := by decide +kernel
theorem d_M_word_14 : decode b_M_word 14 = .ok (.aload_n 0, 1) := by decide +kernel
theorem d_M_word_15 : decode b_M_word 15 = .ok (.getfield 22, 3) := by decide +kernel
theorem d_M_word_18 : decode b_M_word 18 = .ok (.aload_n 0, 1) := by decide +kernel
theorem d_M_word_19 : decode b_M_word 19 = .ok (.getfield 54, 3) := by decide +kernel
theorem d_M_word_22 : decode b_M_word 22 = .ok (.iconst 1, 1) := by decide +kernel
theorem d_M_word_23 : decode b_M_word 23 = .ok (.isub, 1) := by decide +kernel
theorem d_M_word_24 : decode b_M_word 24 = .ok (.iaload, 1) := by decide +kernel
theorem d_M_word_25 : decode b_M_word 25 = .ok (.aload_n 0, 1) := by decide +kernel
theorem d_M_word_26 : decode b_M_word 26 = .ok (.getfield 22, 3) := by decide +kernel
theorem d_M_word_29 : decode b_M_word 29 = .ok (.aload_n 0, 1) := by decide +kernel
theorem d_M_word_30 : decode b_M_word 30 = .ok (.getfield 54, 3) := by decide +kernel
theorem d_M_word_33 : decode b_M_word 33 = .ok (.iaload, 1) := by decide +kernel
theorem d_M_word_34 : decode b_M_word 34 = .ok (.iload_n 1, 1) := by decide +kernel
theorem d_M_word_35 : decode b_M_word 35 = .ok (.invokevirtual 61, 3) := by decide +kernel
theorem d_M_word_38 : decode b_M_word 38 = .ok (.istore_n 2, 1) := by decide +kernel
theorem d_M_word_39 : decode b_M_word 39 = .ok (.iload_n 1, 1) := by decide +kernel
theorem d_M_word_40 : decode b_M_word 40 = .ok (.iload_n 2, 1) := by decide +kernel
theorem d_M_word_41 : decode b_M_word 41 = .ok (.if_icmp .ge 10, 3) := by decide +kernel
theorem d_M_word_44 : decode b_M_word 44 = .ok (.aload_n 0, 1) := by decide +kernel
theorem d_M_word_45 : decode b_M_word 45 = .ok (.getfield 35, 3) := by decide +kernel
theorem d_M_word_48 : decode b_M_word 48 = .ok (.goto 4, 3) := by decide +kernel
theorem d_M_word_51 : decode b_M_word 51 = .ok (.iconst 0, 1) := by decide +kernel
theorem d_M_word_52 : decode b_M_word 52 = .ok (.ireturn, 1) := by decide +kernel
theorem d_M_pop_0 : decode b_M_pop 0 = .ok (.aload_n 0, 1) := by decide +kernel
theorem d_M_pop_1 : decode b_M_pop 1 = .ok (.getfield 54, 3) := by decide +kernel
theorem d_M_pop_4 : decode b_M_pop 4 = .ok (.ifCond .ne 6, 3) := by decide +kernel
theorem d_M_pop_7 : decode b_M_pop 7 = .ok (.bipush (-4), 2) := by decide +kernel
theorem d_M_pop_9 : decode b_M_pop 9 = .ok (.ireturn, 1) := by decide +kernel
theorem d_M_pop_10 : decode b_M_pop 10 = .ok (.aload_n 0, 1) := by decide +kernel
theorem d_M_pop_11 : decode b_M_pop 11 = .ok (.dup, 1) := by decide +kernel
theorem d_M_pop_12 : decode b_M_pop 12 = .ok (.getfield 54, 3) := by decide +kernel
theorem d_M_pop_15 : decode b_M_pop 15 = .ok (.iconst 1, 1) := by decide +kernel
theorem d_M_pop_16 : decode b_M_pop 16 = .ok (.isub, 1) := by decide +kernel
theorem d_M_pop_17 : decode b_M_pop 17 = .ok (.putfield 54, 3) := by decide +kernel
theorem d_M_pop_20 : decode b_M_pop 20 = .ok (.aload_n 0, 1) := by decide +kernel
theorem d_M_pop_21 : decode b_M_pop 21 = .ok (.getfield 54, 3) := by decide +kernel
theorem d_M_pop_24 : decode b_M_pop 24 = .ok (.ireturn, 1) := by decide +kernel
end
section
/-! the instructions -/
theorem d_L_law_0 : decode code 0 = .ok (.new 7, 3) := by decide +kernel
theorem d_L_law_3 : decode code 3 = .ok (.dup, 1) := by decide +kernel
theorem d_L_law_4 : decode code 4 = .ok (.invokespecial 9, 3) := by decide +kernel
theorem d_L_law_7 : decode code 7 = .ok (.astore_n 1, 1) := by decide +kernel
theorem d_L_law_8 : decode code 8 = .ok (.new 10, 3) := by decide +kernel
theorem d_L_law_11 : decode code 11 = .ok (.dup, 1) := by decide +kernel
theorem d_L_law_12 : decode code 12 = .ok (.invokespecial 12, 3) := by decide +kernel
theorem d_L_law_15 : decode code 15 = .ok (.astore_n 2, 1) := by decide +kernel
theorem d_L_law_16 : decode code 16 = .ok (.iconst 0, 1) := by decide +kernel
theorem d_L_law_17 : decode code 17 = .ok (.istore_n 3, 1) := by decide +kernel
theorem d_L_law_18 : decode code 18 = .ok (.iload_n 3, 1) := by decide +kernel
theorem d_L_law_19 : decode code 19 = .ok (.aload_n 0, 1) := by decide +kernel
theorem d_L_law_20 : decode code 20 = .ok (.arraylength, 1) := by decide +kernel
theorem d_L_law_21 : decode code 21 = .ok (.iconst 4, 1) := by decide +kernel
theorem d_L_law_22 : decode code 22 = .ok (.isub, 1) := by decide +kernel
theorem d_L_law_23 : decode code 23 = .ok (.if_icmp .gt 332, 3) := by decide +kernel
theorem d_L_law_26 : decode code 26 = .ok (.aload_n 0, 1) := by decide +kernel
theorem d_L_law_27 : decode code 27 = .ok (.iload_n 3, 1) := by decide +kernel
theorem d_L_law_28 : decode code 28 = .ok (.iaload, 1) := by decide +kernel
theorem d_L_law_29 : decode code 29 = .ok (.bipush 15, 2) := by decide +kernel
theorem d_L_law_31 : decode code 31 = .ok (.iand, 1) := by decide +kernel
theorem d_L_law_32 : decode code 32 = .ok (.tableswitch 317 0 12 #[68, 111, 144, 157, 180, 193, 206, 229, 242, 265, 278, 291, 304], 68) := by decide +kernel
theorem d_L_law_100 : decode code 100 = .ok (.aload_n 1, 1) := by decide +kernel
theorem d_L_law_101 : decode code 101 = .ok (.aload_n 0, 1) := by decide +kernel
theorem d_L_law_102 : decode code 102 = .ok (.iload_n 3, 1) := by decide +kernel
theorem d_L_law_103 : decode code 103 = .ok (.iconst 1, 1) := by decide +kernel
theorem d_L_law_104 : decode code 104 = .ok (.iadd, 1) := by decide +kernel
theorem d_L_law_105 : decode code 105 = .ok (.iaload, 1) := by decide +kernel
theorem d_L_law_106 : decode code 106 = .ok (.aload_n 0, 1) := by decide +kernel
theorem d_L_law_107 : decode code 107 = .ok (.iload_n 3, 1) := by decide +kernel
theorem d_L_law_108 : decode code 108 = .ok (.iconst 2, 1) := by decide +kernel
theorem d_L_law_109 : decode code 109 = .ok (.iadd, 1) := by decide +kernel
theorem d_L_law_110 : decode code 110 = .ok (.iaload, 1) := by decide +kernel
theorem d_L_law_111 : decode code 111 = .ok (.aload_n 0, 1) := by decide +kernel
theorem d_L_law_112 : decode code 112 = .ok (.iload_n 3, 1) := by decide +kernel
theorem d_L_law_113 : decode code 113 = .ok (.iconst 3, 1) := by decide +kernel
theorem d_L_law_114 : decode code 114 = .ok (.iadd, 1) := by decide +kernel
theorem d_L_law_115 : decode code 115 = .ok (.iaload, 1) := by decide +kernel
theorem d_L_law_116 : decode code 116 = .ok (.invokevirtual 13, 3) := by decide +kernel
theorem d_L_law_119 : decode code 119 = .ok (.aload_n 2, 1) := by decide +kernel
theorem d_L_law_120 : decode code 120 = .ok (.aload_n 0, 1) := by decide +kernel
theorem d_L_law_121 : decode code 121 = .ok (.iload_n 3, 1) := by decide +kernel
theorem d_L_law_122 : decode code 122 = .ok (.iconst 1, 1) := by decide +kernel
theorem d_L_law_123 : decode code 123 = .ok (.iadd, 1) := by decide +kernel
theorem d_L_law_124 : decode code 124 = .ok (.iaload, 1) := by decide +kernel
theorem d_L_law_125 : decode code 125 = .ok (.aload_n 0, 1) := by decide +kernel
theorem d_L_law_126 : decode code 126 = .ok (.iload_n 3, 1) := by decide +kernel
theorem d_L_law_127 : decode code 127 = .ok (.iconst 2, 1) := by decide +kernel
theorem d_L_law_128 : decode code 128 = .ok (.iadd, 1) := by decide +kernel
theorem d_L_law_129 : decode code 129 = .ok (.iaload, 1) := by decide +kernel
theorem d_L_law_130 : decode code 130 = .ok (.aload_n 0, 1) := by decide +kernel
theorem d_L_law_131 : decode code 131 = .ok (.iload_n 3, 1) := by decide +kernel
theorem d_L_law_132 : decode code 132 = .ok (.iconst 3, 1) := by decide +kernel
theorem d_L_law_133 : decode code 133 = .ok (.iadd, 1) := by decide +kernel
theorem d_L_law_134 : decode code 134 = .ok (.iaload, 1) := by decide +kernel
theorem d_L_law_135 : decode code 135 = .ok (.invokevirtual 17, 3) := by decide +kernel
theorem d_L_law_138 : decode code 138 = .ok (.if_icmp .eq 211, 3) := by decide +kernel
theorem d_L_law_141 : decode code 141 = .ok (.iconst 0, 1) := by decide +kernel
theorem d_L_law_142 : decode code 142 = .ok (.ireturn, 1) := by decide +kernel
theorem d_L_law_143 : decode code 143 = .ok (.aload_n 1, 1) := by decide +kernel
theorem d_L_law_144 : decode code 144 = .ok (.aload_n 0, 1) := by decide +kernel
theorem d_L_law_145 : decode code 145 = .ok (.iload_n 3, 1) := by decide +kernel
theorem d_L_law_146 : decode code 146 = .ok (.iconst 1, 1) := by decide +kernel
theorem d_L_law_147 : decode code 147 = .ok (.iadd, 1) := by decide +kernel
theorem d_L_law_148 : decode code 148 = .ok (.iaload, 1) := by decide +kernel
theorem d_L_law_149 : decode code 149 = .ok (.aload_n 0, 1) := by decide +kernel
theorem d_L_law_150 : decode code 150 = .ok (.iload_n 3, 1) := by decide +kernel
theorem d_L_law_151 : decode code 151 = .ok (.iconst 2, 1) := by decide +kernel
theorem d_L_law_152 : decode code 152 = .ok (.iadd, 1) := by decide +kernel
theorem d_L_law_153 : decode code 153 = .ok (.iaload, 1) := by decide +kernel
theorem d_L_law_154 : decode code 154 = .ok (.invokevirtual 18, 3) := by decide +kernel
theorem d_L_law_157 : decode code 157 = .ok (.aload_n 2, 1) := by decide +kernel
theorem d_L_law_158 : decode code 158 = .ok (.aload_n 0, 1) := by decide +kernel
theorem d_L_law_159 : decode code 159 = .ok (.iload_n 3, 1) := by decide +kernel
theorem d_L_law_160 : decode code 160 = .ok (.iconst 1, 1) := by decide +kernel
theorem d_L_law_161 : decode code 161 = .ok (.iadd, 1) := by decide +kernel
theorem d_L_law_162 : decode code 162 = .ok (.iaload, 1) := by decide +kernel
theorem d_L_law_163 : decode code 163 = .ok (.aload_n 0, 1) := by decide +kernel
theorem d_L_law_164 : decode code 164 = .ok (.iload_n 3, 1) := by decide +kernel
theorem d_L_law_165 : decode code 165 = .ok (.iconst 2, 1) := by decide +kernel
theorem d_L_law_166 : decode code 166 = .ok (.iadd, 1) := by decide +kernel
theorem d_L_law_167 : decode code 167 = .ok (.iaload, 1) := by decide +kernel
theorem d_L_law_168 : decode code 168 = .ok (.invokevirtual 22, 3) := by decide +kernel
theorem d_L_law_171 : decode code 171 = .ok (.if_icmp .eq 178, 3) := by decide +kernel
theorem d_L_law_174 : decode code 174 = .ok (.iconst 0, 1) := by decide +kernel
theorem d_L_law_175 : decode code 175 = .ok (.ireturn, 1) := by decide +kernel
theorem d_L_law_176 : decode code 176 = .ok (.aload_n 1, 1) := by decide +kernel
theorem d_L_law_177 : decode code 177 = .ok (.invokevirtual 23, 3) := by decide +kernel
theorem d_L_law_180 : decode code 180 = .ok (.aload_n 2, 1) := by decide +kernel
theorem d_L_law_181 : decode code 181 = .ok (.invokevirtual 27, 3) := by decide +kernel
theorem d_L_law_184 : decode code 184 = .ok (.if_icmp .eq 165, 3) := by decide +kernel
theorem d_L_law_187 : decode code 187 = .ok (.iconst 0, 1) := by decide +kernel
theorem d_L_law_188 : decode code 188 = .ok (.ireturn, 1) := by decide +kernel
theorem d_L_law_189 : decode code 189 = .ok (.aload_n 1, 1) := by decide +kernel
theorem d_L_law_190 : decode code 190 = .ok (.aload_n 0, 1) := by decide +kernel
theorem d_L_law_191 : decode code 191 = .ok (.iload_n 3, 1) := by decide +kernel
theorem d_L_law_192 : decode code 192 = .ok (.iconst 1, 1) := by decide +kernel
theorem d_L_law_193 : decode code 193 = .ok (.iadd, 1) := by decide +kernel
theorem d_L_law_194 : decode code 194 = .ok (.iaload, 1) := by decide +kernel
theorem d_L_law_195 : decode code 195 = .ok (.invokevirtual 28, 3) := by decide +kernel
theorem d_L_law_198 : decode code 198 = .ok (.aload_n 2, 1) := by decide +kernel
theorem d_L_law_199 : decode code 199 = .ok (.aload_n 0, 1) := by decide +kernel
theorem d_L_law_200 : decode code 200 = .ok (.iload_n 3, 1) := by decide +kernel
theorem d_L_law_201 : decode code 201 = .ok (.iconst 1, 1) := by decide +kernel
theorem d_L_law_202 : decode code 202 = .ok (.iadd, 1) := by decide +kernel
theorem d_L_law_203 : decode code 203 = .ok (.iaload, 1) := by decide +kernel
theorem d_L_law_204 : decode code 204 = .ok (.invokevirtual 32, 3) := by decide +kernel
theorem d_L_law_207 : decode code 207 = .ok (.if_icmp .eq 142, 3) := by decide +kernel
theorem d_L_law_210 : decode code 210 = .ok (.iconst 0, 1) := by decide +kernel
theorem d_L_law_211 : decode code 211 = .ok (.ireturn, 1) := by decide +kernel
theorem d_L_law_212 : decode code 212 = .ok (.aload_n 1, 1) := by decide +kernel
theorem d_L_law_213 : decode code 213 = .ok (.invokevirtual 33, 3) := by decide +kernel
theorem d_L_law_216 : decode code 216 = .ok (.aload_n 2, 1) := by decide +kernel
theorem d_L_law_217 : decode code 217 = .ok (.invokevirtual 36, 3) := by decide +kernel
theorem d_L_law_220 : decode code 220 = .ok (.if_icmp .eq 129, 3) := by decide +kernel
theorem d_L_law_223 : decode code 223 = .ok (.iconst 0, 1) := by decide +kernel
theorem d_L_law_224 : decode code 224 = .ok (.ireturn, 1) := by decide +kernel
theorem d_L_law_225 : decode code 225 = .ok (.aload_n 1, 1) := by decide +kernel
theorem d_L_law_226 : decode code 226 = .ok (.invokevirtual 37, 3) := by decide +kernel
theorem d_L_law_229 : decode code 229 = .ok (.aload_n 2, 1) := by decide +kernel
theorem d_L_law_230 : decode code 230 = .ok (.invokevirtual 40, 3) := by decide +kernel
theorem d_L_law_233 : decode code 233 = .ok (.if_icmp .eq 116, 3) := by decide +kernel
theorem d_L_law_236 : decode code 236 = .ok (.iconst 0, 1) := by decide +kernel
theorem d_L_law_237 : decode code 237 = .ok (.ireturn, 1) := by decide +kernel
theorem d_L_law_238 : decode code 238 = .ok (.aload_n 1, 1) := by decide +kernel
theorem d_L_law_239 : decode code 239 = .ok (.aload_n 0, 1) := by decide +kernel
theorem d_L_law_240 : decode code 240 = .ok (.iload_n 3, 1) := by decide +kernel
theorem d_L_law_241 : decode code 241 = .ok (.iconst 1, 1) := by decide +kernel
theorem d_L_law_242 : decode code 242 = .ok (.iadd, 1) := by decide +kernel
theorem d_L_law_243 : decode code 243 = .ok (.iaload, 1) := by decide +kernel
theorem d_L_law_244 : decode code 244 = .ok (.invokevirtual 41, 3) := by decide +kernel
theorem d_L_law_247 : decode code 247 = .ok (.aload_n 2, 1) := by decide +kernel
theorem d_L_law_248 : decode code 248 = .ok (.aload_n 0, 1) := by decide +kernel
theorem d_L_law_249 : decode code 249 = .ok (.iload_n 3, 1) := by decide +kernel
theorem d_L_law_250 : decode code 250 = .ok (.iconst 1, 1) := by decide +kernel
theorem d_L_law_251 : decode code 251 = .ok (.iadd, 1) := by decide +kernel
theorem d_L_law_252 : decode code 252 = .ok (.iaload, 1) := by decide +kernel
theorem d_L_law_253 : decode code 253 = .ok (.invokevirtual 44, 3) := by decide +kernel
theorem d_L_law_256 : decode code 256 = .ok (.if_icmp .eq 93, 3) := by decide +kernel
theorem d_L_law_259 : decode code 259 = .ok (.iconst 0, 1) := by decide +kernel
theorem d_L_law_260 : decode code 260 = .ok (.ireturn, 1) := by decide +kernel
theorem d_L_law_261 : decode code 261 = .ok (.aload_n 1, 1) := by decide +kernel
theorem d_L_law_262 : decode code 262 = .ok (.invokevirtual 45, 3) := by decide +kernel
theorem d_L_law_265 : decode code 265 = .ok (.aload_n 2, 1) := by decide +kernel
theorem d_L_law_266 : decode code 266 = .ok (.invokevirtual 48, 3) := by decide +kernel
theorem d_L_law_269 : decode code 269 = .ok (.if_icmp .eq 80, 3) := by decide +kernel
theorem d_L_law_272 : decode code 272 = .ok (.iconst 0, 1) := by decide +kernel
theorem d_L_law_273 : decode code 273 = .ok (.ireturn, 1) := by decide +kernel
theorem d_L_law_274 : decode code 274 = .ok (.aload_n 1, 1) := by decide +kernel
theorem d_L_law_275 : decode code 275 = .ok (.aload_n 0, 1) := by decide +kernel
theorem d_L_law_276 : decode code 276 = .ok (.iload_n 3, 1) := by decide +kernel
theorem d_L_law_277 : decode code 277 = .ok (.iconst 1, 1) := by decide +kernel
theorem d_L_law_278 : decode code 278 = .ok (.iadd, 1) := by decide +kernel
theorem d_L_law_279 : decode code 279 = .ok (.iaload, 1) := by decide +kernel
theorem d_L_law_280 : decode code 280 = .ok (.invokevirtual 49, 3) := by decide +kernel
theorem d_L_law_283 : decode code 283 = .ok (.aload_n 2, 1) := by decide +kernel
theorem d_L_law_284 : decode code 284 = .ok (.aload_n 0, 1) := by decide +kernel
theorem d_L_law_285 : decode code 285 = .ok (.iload_n 3, 1) := by decide +kernel
theorem d_L_law_286 : decode code 286 = .ok (.iconst 1, 1) := by decide +kernel
theorem d_L_law_287 : decode code 287 = .ok (.iadd, 1) := by decide +kernel
theorem d_L_law_288 : decode code 288 = .ok (.iaload, 1) := by decide +kernel
theorem d_L_law_289 : decode code 289 = .ok (.invokevirtual 52, 3) := by decide +kernel
theorem d_L_law_292 : decode code 292 = .ok (.if_icmp .eq 57, 3) := by decide +kernel
theorem d_L_law_295 : decode code 295 = .ok (.iconst 0, 1) := by decide +kernel
theorem d_L_law_296 : decode code 296 = .ok (.ireturn, 1) := by decide +kernel
theorem d_L_law_297 : decode code 297 = .ok (.aload_n 1, 1) := by decide +kernel
theorem d_L_law_298 : decode code 298 = .ok (.invokevirtual 53, 3) := by decide +kernel
theorem d_L_law_301 : decode code 301 = .ok (.aload_n 2, 1) := by decide +kernel
theorem d_L_law_302 : decode code 302 = .ok (.invokevirtual 56, 3) := by decide +kernel
theorem d_L_law_305 : decode code 305 = .ok (.if_icmp .eq 44, 3) := by decide +kernel
theorem d_L_law_308 : decode code 308 = .ok (.iconst 0, 1) := by decide +kernel
theorem d_L_law_309 : decode code 309 = .ok (.ireturn, 1) := by decide +kernel
theorem d_L_law_310 : decode code 310 = .ok (.aload_n 1, 1) := by decide +kernel
theorem d_L_law_311 : decode code 311 = .ok (.invokevirtual 57, 3) := by decide +kernel
theorem d_L_law_314 : decode code 314 = .ok (.aload_n 2, 1) := by decide +kernel
theorem d_L_law_315 : decode code 315 = .ok (.invokevirtual 60, 3) := by decide +kernel
theorem d_L_law_318 : decode code 318 = .ok (.if_icmp .eq 31, 3) := by decide +kernel
theorem d_L_law_321 : decode code 321 = .ok (.iconst 0, 1) := by decide +kernel
theorem d_L_law_322 : decode code 322 = .ok (.ireturn, 1) := by decide +kernel
theorem d_L_law_323 : decode code 323 = .ok (.aload_n 1, 1) := by decide +kernel
theorem d_L_law_324 : decode code 324 = .ok (.invokevirtual 61, 3) := by decide +kernel
theorem d_L_law_327 : decode code 327 = .ok (.aload_n 2, 1) := by decide +kernel
theorem d_L_law_328 : decode code 328 = .ok (.invokevirtual 64, 3) := by decide +kernel
theorem d_L_law_331 : decode code 331 = .ok (.if_icmp .eq 18, 3) := by decide +kernel
theorem d_L_law_334 : decode code 334 = .ok (.iconst 0, 1) := by decide +kernel
theorem d_L_law_335 : decode code 335 = .ok (.ireturn, 1) := by decide +kernel
theorem d_L_law_336 : decode code 336 = .ok (.aload_n 1, 1) := by decide +kernel
theorem d_L_law_337 : decode code 337 = .ok (.invokevirtual 65, 3) := by decide +kernel
theorem d_L_law_340 : decode code 340 = .ok (.aload_n 2, 1) := by decide +kernel
theorem d_L_law_341 : decode code 341 = .ok (.invokevirtual 68, 3) := by decide +kernel
theorem d_L_law_344 : decode code 344 = .ok (.if_icmp .eq 5, 3) := by decide +kernel
theorem d_L_law_347 : decode code 347 = .ok (.iconst 0, 1) := by decide +kernel
theorem d_L_law_348 : decode code 348 = .ok (.ireturn, 1) := by decide +kernel
theorem d_L_law_349 : decode code 349 = .ok (.iinc 3 4, 3) := by decide +kernel
theorem d_L_law_352 : decode code 352 = .ok (.goto (-334), 3) := by decide +kernel
theorem d_L_law_355 : decode code 355 = .ok (.iconst 1, 1) := by decide +kernel
theorem d_L_law_356 : decode code 356 = .ok (.ireturn, 1) := by decide +kernel
end
section
/-! more rows of my own -/
section MK2
variable {p : Program} {l : Launch} {e : Env} {R : Room} {s : State} {m : MethodId} {args : Array Value} {below : List Frame} {meth : Method} {c : Code} {D : va_G} {A : Nat → Prop} {nL cells slots : Nat} {Q : State → Prop}
variable {cc : ByteArray} {own : String} {cA : ClassId} {ws : va_W} {pc : Nat} {lv : List (Nat × Value)} {rest : List Value}
theorem x_tableIn (C : Cx p s m args meth c cc nL own D cA A) {dflt lo hi : Int} {offs : Array Int} {len : Nat} {x : Int32} {off : Int} {tgt : Nat} (hdg : decode cc pc = .ok (.tableswitch dflt lo hi offs, len)) (h1 : ¬ x.toInt < lo) (h2 : ¬ hi < x.toInt) (ho : offs[(x.toInt - lo).toNat]? = some off) (ht : (pc : Int) + off = (tgt : Int)) (k : X p l e R s m args below meth c D A nL cells slots Q ws tgt lv rest) : X p l e R s m args below meth c D A nL cells slots Q ws pc lv (.int x :: rest) := fun H locs ls hP hD hS hl => lv_tableIn C.1 C.2.1 hdg h1 h2 ho ht (k H locs ls hP hD hS hl)
theorem x_tableOut (C : Cx p s m args meth c cc nL own D cA A) {dflt lo hi : Int} {offs : Array Int} {len : Nat} {x : Int32} {tgt : Nat} (hdg : decode cc pc = .ok (.tableswitch dflt lo hi offs, len)) (h : x.toInt < lo ∨ hi < x.toInt) (ht : (pc : Int) + dflt = (tgt : Int)) (k : X p l e R s m args below meth c D A nL cells slots Q ws tgt lv rest) : X p l e R s m args below meth c D A nL cells slots Q ws pc lv (.int x :: rest) := fun H locs ls hP hD hS hl => lv_tableOut C.1 C.2.1 hdg h ht (k H locs ls hP hD hS hl)
end MK2
end
section
/-! Words of runs: a word is (bits, groups); its groups laid out one by one: ex. canon: as the document has them. -/
abbrev AL : Nat := 2147483647
def ex (ws : List (Nat × Nat)) : List Nat := ws.flatMap (fun w => List.replicate w.2 w.1)
def okw (w : Nat × Nat) : Prop := 1 ≤ w.2 ∧ w.1 ≤ AL ∧ (w.1 = 0 ∨ w.1 = AL ∨ w.2 = 1)
def nxt (w : Nat × Nat) (v : Nat × Nat) : Prop := (w.1 = 0 ∨ w.1 = AL) → v.1 ≠ w.1
def canon : List (Nat × Nat) → Prop
  | [] => True
  | w :: ws => okw w ∧ (∀ v, ws.head? = some v → nxt w v) ∧ canon ws
theorem ex_nil : ex [] = [] := rfl
theorem ex_cons (w : Nat × Nat) (ws : List (Nat × Nat)) : ex (w :: ws) = List.replicate w.2 w.1 ++ ex ws := by simp [ex]
theorem ex_app (a b : List (Nat × Nat)) : ex (a ++ b) = ex a ++ ex b := by simp [ex]
theorem ex_one (w : Nat × Nat) : ex [w] = List.replicate w.2 w.1 := by simp [ex]
theorem canon_snoc : ∀ (ws : List (Nat × Nat)) (w : Nat × Nat), canon (ws ++ [w]) ↔ canon ws ∧ okw w ∧ (∀ v, ws.getLast? = some v → nxt v w)
  | [], w => by simp [canon]
  | [x], w => by
    simp only [List.cons_append, List.nil_append, canon, List.head?_cons, List.head?_nil, List.getLast?_singleton, Option.some.injEq]
    constructor
    · rintro ⟨h1, h2, h3, -⟩
      exact ⟨⟨h1, by simp, trivial⟩, h3, fun v hv => by subst hv; exact h2 w rfl⟩
    · rintro ⟨⟨h1, -, -⟩, h3, h4⟩
      exact ⟨h1, fun v hv => by subst hv; exact h4 x rfl, h3, by simp, trivial⟩
  | x :: y :: ws, w => by
    have ih := canon_snoc (y :: ws) w
    have e1 : canon (x :: y :: ws ++ [w]) ↔ okw x ∧ nxt x y ∧ canon ((y :: ws) ++ [w]) := by
      simp only [List.cons_append, canon, List.head?_cons, Option.some.injEq]
      constructor
      · rintro ⟨h1, h2, h3⟩
        exact ⟨h1, h2 y rfl, h3⟩
      · rintro ⟨h1, h2, h3⟩
        exact ⟨h1, fun v hv => by subst hv; exact h2, h3⟩
    have e2 : canon (x :: y :: ws) ↔ okw x ∧ nxt x y ∧ canon (y :: ws) := by
      simp only [canon, List.head?_cons, Option.some.injEq]
      constructor
      · rintro ⟨h1, h2, h3⟩
        exact ⟨h1, h2 y rfl, h3⟩
      · rintro ⟨h1, h2, h3⟩
        exact ⟨h1, fun v hv => by subst hv; exact h2, h3⟩
    rw [e1, e2, ih, List.getLast?_cons_cons]
    constructor
    · rintro ⟨h1, h2, h3, h4, h5⟩
      exact ⟨⟨h1, h2, h3⟩, h4, h5⟩
    · rintro ⟨⟨h1, h2, h3⟩, h4, h5⟩
      exact ⟨h1, h2, h3, h4, h5⟩
theorem canon_mem : ∀ {ws : List (Nat × Nat)}, canon ws → ∀ w ∈ ws, okw w
  | [], _, w, h => by simp at h
  | x :: ws, hc, w, h => by
    rcases List.mem_cons.mp h with rfl | h
    · exact hc.1
    · exact canon_mem hc.2.2 w h
theorem ex_head {w : Nat × Nat} {ws : List (Nat × Nat)} (h : 1 ≤ w.2) : ex (w :: ws) = w.1 :: (List.replicate (w.2 - 1) w.1 ++ ex ws) := by
  rw [ex_cons]
  obtain ⟨b, k⟩ := w
  cases k with
  | zero => simp at h
  | succ k => simp [List.replicate_succ]
theorem ex_ne_nil {ws : List (Nat × Nat)} (hc : canon ws) (h : ex ws = []) : ws = [] := by
  cases ws with
  | nil => rfl
  | cons w ws => rw [ex_head hc.1.1] at h; cases h
theorem canon_inj : ∀ (a b : List (Nat × Nat)), canon a → canon b → ex a = ex b → a = b
  | [], b, _, hb, h => (ex_ne_nil hb h.symm).symm
  | x :: a, [], ha, _, h => ex_ne_nil ha h
  | (x, k) :: a, (y, j) :: b, ha, hb, h => by
    have hk : 1 ≤ k := ha.1.1
    have hj : 1 ≤ j := hb.1.1
    have hxy : x = y := by
      rw [ex_head (w := (x, k)) hk, ex_head (w := (y, j)) hj] at h
      exact (List.cons.inj h).1
    subst hxy
    rw [ex_cons, ex_cons] at h
    dsimp only at h
    have key : ∀ (k j : Nat) (a b : List (Nat × Nat)), canon ((x, k) :: a) → canon ((x, j) :: b) → List.replicate k x ++ ex a = List.replicate j x ++ ex b → ¬ k < j := by
      intro k j a b ha hb h hlt
      have hf : x = 0 ∨ x = AL := by
        rcases hb.1.2.2 with h1 | h1 | h1
        · exact Or.inl h1
        · exact Or.inr h1
        · have := ha.1.1
          dsimp only at h1 this
          omega
      have e : List.replicate j x = List.replicate k x ++ List.replicate (j - k) x := by
        rw [List.replicate_append_replicate]; congr 1; omega
      rw [e, List.append_assoc] at h
      have h2 := List.append_cancel_left h
      cases a with
      | nil =>
        have : (List.replicate (j - k) x ++ ex b).length = 0 := by rw [← h2]; rfl
        simp at this
        omega
      | cons v a =>
        have hv : 1 ≤ v.2 := ha.2.2.1.1
        rw [ex_head hv] at h2
        obtain ⟨d, hd⟩ : ∃ d, j - k = d + 1 := ⟨j - k - 1, by omega⟩
        rw [hd, List.replicate_succ, List.cons_append] at h2
        exact ha.2.1 v rfl hf (List.cons.inj h2).1
    have hkj : k = j := by
      have h1 := key k j a b ha hb h
      have h2 := key j k b a hb ha h.symm
      omega
    subst hkj
    rw [canon_inj a b ha.2.2 hb.2.2 (List.append_cancel_left h)]
/-- k groups more, all with the bits b -/
def push (ws : List (Nat × Nat)) (b k : Nat) : List (Nat × Nat) := match ws.getLast? with
  | some v => if v.1 = b ∧ (b = 0 ∨ b = AL) then ws.dropLast ++ [(b, v.2 + k)] else ws ++ [(b, k)]
  | none => [(b, k)]
theorem push_nil (b k : Nat) : push [] b k = [(b, k)] := rfl
theorem push_same (ws : List (Nat × Nat)) (b j k : Nat) (hb : b = 0 ∨ b = AL) : push (ws ++ [(b, j)]) b k = ws ++ [(b, j + k)] := by
  simp [push, hb]
theorem push_other (ws : List (Nat × Nat)) (v : Nat × Nat) (b k : Nat) (h : ¬ (v.1 = b ∧ (b = 0 ∨ b = AL))) : push (ws ++ [v]) b k = ws ++ [v] ++ [(b, k)] := by
  unfold push
  rw [List.getLast?_concat]
  dsimp only
  rw [if_neg h]
theorem push_lit (ws : List (Nat × Nat)) (b k : Nat) (h : ¬ (b = 0 ∨ b = AL)) : push ws b k = ws ++ [(b, k)] := by
  rcases List.eq_nil_or_concat ws with rfl | ⟨ws0, v, rfl⟩
  · rfl
  · rw [List.concat_eq_append, push_other _ _ _ _ (fun q => h q.2)]
theorem push_ok {ws : List (Nat × Nat)} {b k : Nat} (hc : canon ws) (hw : okw (b, k)) : canon (push ws b k) ∧ ex (push ws b k) = ex ws ++ List.replicate k b ∧ (push ws b k).length ≤ ws.length + 1 := by
  rcases List.eq_nil_or_concat ws with rfl | ⟨ws0, v, rfl⟩
  · rw [push_nil]
    exact ⟨⟨hw, by simp, trivial⟩, by simp [ex], by simp⟩
  · rw [List.concat_eq_append] at hc ⊢
    obtain ⟨h1, h2, h3⟩ := (canon_snoc ws0 v).mp hc
    by_cases h : v.1 = b ∧ (b = 0 ∨ b = AL)
    · obtain ⟨x, j⟩ := v
      obtain ⟨hx, hb⟩ := h
      dsimp only at hx
      subst hx
      rw [push_same _ _ _ _ hb]
      refine ⟨(canon_snoc _ _).mpr ⟨h1, ⟨?_, h2.2.1, ?_⟩, h3⟩, ?_, by simp⟩
      · have := h2.1
        dsimp only at this ⊢
        omega
      · rcases hb with hb | hb
        · exact Or.inl hb
        · exact Or.inr (Or.inl hb)
      · rw [ex_app, ex_app, ex_one, ex_one, List.append_assoc, List.replicate_append_replicate]
    · rw [push_other _ _ _ _ h]
      refine ⟨(canon_snoc _ _).mpr ⟨hc, hw, fun z hz => ?_⟩, ?_, by simp⟩
      · rw [List.getLast?_concat] at hz
        cases hz
        intro hf hbz
        exact h ⟨hbz.symm, by rw [show b = v.1 from hbz]; exact hf⟩
      · rw [ex_app, ex_one]
/-- the last group goes -/
theorem pop_ok {ws : List (Nat × Nat)} {v : Nat × Nat} (hc : canon (ws ++ [v])) : (v.2 = 1 → canon ws ∧ ex (ws ++ [v]) = ex ws ++ [v.1]) ∧ (v.2 ≠ 1 → (v.1 = 0 ∨ v.1 = AL) ∧ 1 ≤ v.2 - 1 ∧ canon (ws ++ [(v.1, v.2 - 1)]) ∧ ex (ws ++ [v]) = ex (ws ++ [(v.1, v.2 - 1)]) ++ [v.1]) := by
  obtain ⟨h1, h2, h3⟩ := (canon_snoc ws v).mp hc
  obtain ⟨b, k⟩ := v
  obtain ⟨hk, hb, hf⟩ := h2
  dsimp only at hk hb hf ⊢
  refine ⟨fun h => ?_, fun h => ?_⟩
  · subst h
    exact ⟨h1, by rw [ex_app, ex_one]; rfl⟩
  · have hf' : b = 0 ∨ b = AL := by
      rcases hf with q | q | q
      · exact Or.inl q
      · exact Or.inr q
      · exact absurd q h
    refine ⟨hf', by omega, (canon_snoc _ _).mpr ⟨h1, ⟨by dsimp only; omega, hb, ?_⟩, h3⟩, ?_⟩
    · rcases hf' with q | q
      · exact Or.inl q
      · exact Or.inr (Or.inl q)
    · rw [ex_app, ex_app, ex_one, ex_one, List.append_assoc]
      congr 1
      dsimp only
      rw [show [b] = List.replicate 1 b from rfl, List.replicate_append_replicate]
      congr 1
      omega
/-- a word as the class keeps it -/
def enc (w : Nat × Nat) : Int32 := if w.1 = 0 then - nI (2 * w.2) else if w.1 = AL then - nI (2 * w.2 + 1) else nI w.1
/-! Groups of 31 rows -/
def gbk (f : Nat → Bool) (g : Nat) : Nat → Nat
  | 0 => 0
  | k + 1 => gbk f g k ||| (if f (31 * g + k) then 2 ^ k else 0)
theorem gbk_bit (f : Nat → Bool) (g i : Nat) : ∀ k, (gbk f g k).testBit i = (decide (i < k) && f (31 * g + i))
  | 0 => by simp [gbk]
  | k + 1 => by
    simp only [gbk, Nat.testBit_or, gbk_bit f g i k]
    by_cases hi : i = k
    · subst hi
      cases h : f (31 * g + i) <;> simp [Nat.testBit_two_pow]
    · have e : decide (i < k + 1) = decide (i < k) := by
        congr 1
        exact propext ⟨fun h => by omega, fun h => by omega⟩
      rw [e]
      cases h : f (31 * g + k)
      · simp
      · simp [Nat.testBit_two_pow, Ne.symm hi]
def gb (f : Nat → Bool) (g : Nat) : Nat := gbk f g 31
theorem gb_bit (f : Nat → Bool) (g i : Nat) : (gb f g).testBit i = (decide (i < 31) && f (31 * g + i)) := gbk_bit f g i 31
theorem gb_lt (f : Nat → Bool) (g : Nat) : gb f g < 2 ^ 31 := Nat.lt_pow_two_of_testBit _ (fun i hi => by
  rw [gb_bit]
  have : ¬ i < 31 := by omega
  simp [this])
theorem gb_le (f : Nat → Bool) (g : Nat) : gb f g ≤ AL := by
  have := gb_lt f g
  show gb f g ≤ 2147483647
  omega
theorem AL_bit (i : Nat) : AL.testBit i = decide (i < 31) := by
  rw [show AL = 2 ^ 31 - 1 from rfl, Nat.testBit_two_pow_sub_one]
theorem gb_eq {f h : Nat → Bool} {g g' : Nat} (e : ∀ k, k < 31 → f (31 * g + k) = h (31 * g' + k)) : gb f g = gb h g' := Nat.eq_of_testBit_eq fun i => by
  rw [gb_bit, gb_bit]
  by_cases hi : i < 31
  · rw [e i hi]
  · simp [hi]
theorem gb_zero {f : Nat → Bool} {g : Nat} : gb f g = 0 ↔ ∀ k, k < 31 → f (31 * g + k) = false := by
  constructor
  · intro h k hk
    have := gb_bit f g k
    rw [h] at this
    simpa [hk] using this.symm
  · intro h
    apply Nat.eq_of_testBit_eq
    intro i
    rw [gb_bit]
    by_cases hi : i < 31
    · simp [hi, h i hi]
    · simp [hi]
theorem gb_full {f : Nat → Bool} {g : Nat} : gb f g = AL ↔ ∀ k, k < 31 → f (31 * g + k) = true := by
  constructor
  · intro h k hk
    have := gb_bit f g k
    rw [h, AL_bit] at this
    simpa [hk] using this.symm
  · intro h
    apply Nat.eq_of_testBit_eq
    intro i
    rw [gb_bit, AL_bit]
    by_cases hi : i < 31
    · simp [hi, h i hi]
    · simp [hi]
def GL (f : Nat → Bool) (n : Nat) : List Nat := (List.range ((n + 30) / 31)).map (gb f)
theorem GL_len (f : Nat → Bool) (n : Nat) : (GL f n).length = (n + 30) / 31 := by simp [GL]
theorem GL_zip {f1 f2 f3 : Nat → Bool} {o : Nat → Nat → Nat} (n : Nat) (h : ∀ g, o (gb f1 g) (gb f2 g) = gb f3 g) : List.zipWith o (GL f1 n) (GL f2 n) = GL f3 n := by
  apply List.ext_getElem?
  intro i
  simp only [GL, List.getElem?_zipWith, List.getElem?_map]
  cases hi : (List.range ((n + 30) / 31))[i]? with
  | none => simp
  | some v => simp [h]
/-- the words of a set of the rows 0 .. n - 1 -/
def Rep (n : Nat) (f : Nat → Bool) (ws : List (Nat × Nat)) : Prop := canon ws ∧ ex ws = GL f n
theorem Rep.inj {n : Nat} {f : Nat → Bool} {a b : List (Nat × Nat)} (ha : Rep n f a) (hb : Rep n f b) : a = b := canon_inj a b ha.1 hb.1 (ha.2.trans hb.2.symm)
end
section
/-! words as ints, bits of ints -/
theorem nx_and (a b : Nat) : nI a &&& nI b = nI (a &&& b) := by
  apply Int32.toBitVec_inj.mp
  show BitVec.ofNat 32 a &&& BitVec.ofNat 32 b = BitVec.ofNat 32 (a &&& b)
  rw [BitVec.ofNat_and]
theorem nx_or (a b : Nat) : nI a ||| nI b = nI (a ||| b) := by
  apply Int32.toBitVec_inj.mp
  show BitVec.ofNat 32 a ||| BitVec.ofNat 32 b = BitVec.ofNat 32 (a ||| b)
  rw [BitVec.ofNat_or]
theorem nx_xor (a b : Nat) : nI a ^^^ nI b = nI (a ^^^ b) := by
  apply Int32.toBitVec_inj.mp
  show BitVec.ofNat 32 a ^^^ BitVec.ofNat 32 b = BitVec.ofNat 32 (a ^^^ b)
  rw [BitVec.ofNat_xor]
theorem nx_shl_c : ∀ n, n < 32 → ((nI n &&& 31).toBitVec.smod 32).toNat = n := by decide +kernel
theorem nx_ushr_c : ∀ n, n < 32 → (((nI n).toUInt32 &&& Int32.toUInt32 31).toBitVec % 32).toNat = n := by decide +kernel
theorem nx_shl {a n : Nat} (hn : n < 32) (h : a * 2 ^ n < 2 ^ 32) : nI a <<< (nI n &&& 31) = nI (a * 2 ^ n) := pk_shlN _ n (nx_shl_c n hn) h
theorem nx_ushr {a n : Nat} (hn : n < 32) (h : a < 2 ^ 32) : ((nI a).toUInt32 >>> ((nI n).toUInt32 &&& Int32.toUInt32 31)).toInt32 = nI (a / 2 ^ n) := pk_ushrN h _ n (nx_ushr_c n hn)
theorem nx_bits {n : Nat} (hn : n < 31) : nI 1 <<< (nI n &&& 31) - nI 1 = nI (2 ^ n - 1) := by
  have h1 : 2 ^ n < 2 ^ 31 := Nat.pow_lt_pow_right (by omega) hn
  have h2 : 0 < 2 ^ n := Nat.two_pow_pos n
  rw [nx_shl (by omega) (by omega), Nat.one_mul, pk_sub h2]
theorem neg_lt {n : Nat} (h0 : 0 < n) (h : n < 2 ^ 31) : -nI n < 0 := by
  rw [Int32.lt_iff_toInt_lt, sb_negT h]
  show -(n : Int) < 0
  omega
theorem neg_nn (n : Nat) : -(-nI n) = nI n := Int32.neg_neg
theorem neg_and1 {n : Nat} (h : n < 2 ^ 31) : -nI n &&& nI 1 = nI (n % 2) := by
  rw [pk_and (-nI n) (m := nI 1) 1 (by decide)]
  congr 1
  have e : (-nI n).toBitVec = -(nI n).toBitVec := Int32.toBitVec_neg _
  rw [e, BitVec.toNat_neg, pk_tn (by omega)]
  omega
theorem enc_lit {w : Nat × Nat} (h : ¬ (w.1 = 0 ∨ w.1 = AL)) : enc w = nI w.1 := by
  unfold enc
  rw [if_neg (fun q => h (Or.inl q)), if_neg (fun q => h (Or.inr q))]
theorem enc_0 {b k : Nat} (h : b = 0) : enc (b, k) = -nI (2 * k) := by
  unfold enc
  rw [if_pos h]
theorem enc_A {b k : Nat} (h : b = AL) : enc (b, k) = -nI (2 * k + 1) := by
  unfold enc
  subst h
  rw [if_neg (show ¬ AL = 0 by decide), if_pos rfl]
theorem fill_0 (k : Nat) : (-2) * nI k = -nI (2 * k) := by
  rw [← pk_mul 2 k]
  show -(2 : Int32) * nI k = _
  rw [Int32.neg_mul]
  rfl
theorem fill_A (k : Nat) : (-2) * nI k - nI 1 = -nI (2 * k + 1) := by
  rw [fill_0, nI_succ (2 * k)]
  show -nI (2 * k) - 1 = _
  generalize nI (2 * k) = x
  grind
theorem enc_fill {b k : Nat} (h : b = 0 ∨ b = AL) (hk : 1 ≤ k) (hk2 : k < 2 ^ 29) : enc (b, k) < 0 := by
  rcases h with h | h
  · rw [enc_0 h]; exact neg_lt (by omega) (by omega)
  · rw [enc_A h]; exact neg_lt (by omega) (by omega)
theorem enc_pos {b k : Nat} (h : ¬ (b = 0 ∨ b = AL)) (hb : b ≤ AL) : ¬ enc (b, k) < 0 := by
  rw [enc_lit h]
  have : b ≤ 2147483647 := hb
  exact nI_pos (by omega)
theorem enc_ne0 {w : Nat × Nat} (h : okw w) (hk2 : w.2 < 2 ^ 29) : ¬ enc w = 0 := by
  obtain ⟨b, k⟩ := w
  obtain ⟨h1, h2, h3⟩ := h
  by_cases hf : b = 0 ∨ b = AL
  · have := enc_fill hf h1 hk2
    intro e
    rw [e] at this
    exact absurd this (by decide)
  · rw [enc_lit hf]
    have h4 : b ≤ 2147483647 := h2
    exact nI_ne0 (Nat.pos_of_ne_zero fun q => hf (Or.inl q)) (by omega)
/-- joined bits -/
def jb (op a b : Nat) : Nat := match op with
  | 0 => a &&& b
  | 1 => a ||| b
  | 2 => a &&& (b ^^^ AL)
  | _ => a ^^^ b
theorem jb_not {a b : Nat} (ha : a ≤ AL) : nI a &&& (nI b ^^^ (-1)) = nI (a &&& (b ^^^ AL)) := by
  rw [show (-1 : Int32) = nI 4294967295 by decide, nx_xor, nx_and]
  congr 1
  apply Nat.eq_of_testBit_eq
  intro i
  rw [Nat.testBit_and, Nat.testBit_and, Nat.testBit_xor, Nat.testBit_xor, AL_bit, show (4294967295 : Nat) = 2 ^ 32 - 1 from rfl, Nat.testBit_two_pow_sub_one]
  by_cases hi : i < 31
  · have h2 : i < 32 := by omega
    simp [hi, h2]
  · have : a.testBit i = false := by
      apply Nat.testBit_lt_two_pow
      have h1 : 2 ^ 31 ≤ 2 ^ i := Nat.pow_le_pow_right (by omega) (by omega)
      have h2 : a ≤ 2147483647 := ha
      omega
    simp [this]
def jbb (op : Nat) (x y : Bool) : Bool := match op with
  | 0 => x && y
  | 1 => x || y
  | 2 => x && !y
  | _ => x ^^ y
theorem jb_bit {op a b i : Nat} (hi : i < 31) : (jb op a b).testBit i = jbb op (a.testBit i) (b.testBit i) := by
  unfold jb jbb
  split <;> simp [Nat.testBit_and, Nat.testBit_or, Nat.testBit_xor, AL_bit, hi]
theorem jb_le {op a b : Nat} (ha : a ≤ AL) (hb : b ≤ AL) : jb op a b ≤ AL := by
  have ha' : a < 2 ^ 31 := by have : a ≤ 2147483647 := ha; omega
  have hb' : b < 2 ^ 31 := by have : b ≤ 2147483647 := hb; omega
  have : jb op a b < 2 ^ 31 := by
    unfold jb
    split
    · exact Nat.and_lt_two_pow _ hb'
    · exact Nat.or_lt_two_pow ha' hb'
    · exact Nat.and_lt_two_pow _ (Nat.xor_lt_two_pow hb' (by decide))
    · exact Nat.xor_lt_two_pow ha' hb'
  show _ ≤ 2147483647
  omega
theorem jb_gb (op : Nat) (f1 f2 : Nat → Bool) (g : Nat) (ho : op ≤ 3) : jb op (gb f1 g) (gb f2 g) = gb (fun r => jbb op (f1 r) (f2 r)) g := by
  apply Nat.eq_of_testBit_eq
  intro i
  by_cases hi : i < 31
  · rw [jb_bit hi, gb_bit, gb_bit, gb_bit]
    simp [hi]
  · have h1 : ∀ x, x ≤ AL → x.testBit i = false := fun x hx => by
      apply Nat.testBit_lt_two_pow
      have h1 : 2 ^ 31 ≤ 2 ^ i := Nat.pow_le_pow_right (by omega) (by omega)
      have h2 : x ≤ 2147483647 := hx
      omega
    rw [h1 _ (jb_le (gb_le _ _) (gb_le _ _)), h1 _ (gb_le _ _)]
end
section
/-! A shelf: lists one behind the other in one row of numbers; bounds tells where each begins -/
def off (ss : List (List Int32)) (i : Nat) : Nat := (ss.take i).flatten.length
def tot (ss : List (List Int32)) : Nat := ss.flatten.length
def Hs (cap mx : Nat) (L Bd : Nat → Int32) (ss : List (List Int32)) : Prop :=
  ss.length < mx ∧ tot ss ≤ cap ∧ cap < 2 ^ 20 ∧ mx < 2 ^ 20 ∧ (∀ i, i ≤ ss.length → Bd i = nI (off ss i)) ∧ (∀ j, j < tot ss → L j = ss.flatten.getD j 0)
theorem off_len (ss : List (List Int32)) : off ss ss.length = tot ss := by simp [off, tot]
theorem off_zero (ss : List (List Int32)) : off ss 0 = 0 := by simp [off]
theorem off_split (ss : List (List Int32)) (i : Nat) : ss.flatten = (ss.take i).flatten ++ (ss.drop i).flatten := by
  rw [← List.flatten_append, List.take_append_drop]
theorem off_le (ss : List (List Int32)) (i : Nat) : off ss i ≤ tot ss := by
  unfold off tot
  rw [off_split ss i, List.length_append]
  omega
theorem off_succ {ss : List (List Int32)} {i : Nat} (h : i < ss.length) : off ss (i + 1) = off ss i + (ss.getD i []).length := by
  unfold off
  rw [List.take_succ_eq_append_getElem h, List.flatten_append, List.length_append]
  simp [List.getD_eq_getElem?_getD, h]
theorem flat_at {ss : List (List Int32)} {i j : Nat} (h : i < ss.length) (hj : j < (ss.getD i []).length) : off ss i + j < tot ss ∧ ss.flatten.getD (off ss i + j) 0 = (ss.getD i []).getD j 0 := by
  have h1 := off_succ h
  have h2 := off_le ss (i + 1)
  refine ⟨by omega, ?_⟩
  have e : ss.flatten = (ss.take i).flatten ++ (ss.getD i [] ++ (ss.drop (i + 1)).flatten) := by
    rw [off_split ss i, List.drop_eq_getElem_cons h, List.flatten_cons]
    simp [List.getD_eq_getElem?_getD, h]
  rw [e, List.getD_eq_getElem?_getD, List.getElem?_append_right (by unfold off; omega)]
  rw [show off ss i + j - (ss.take i).flatten.length = j by unfold off; omega, List.getElem?_append_left hj, ← List.getD_eq_getElem?_getD]
theorem Hs.bd {cap mx : Nat} {L Bd : Nat → Int32} {ss : List (List Int32)} (h : Hs cap mx L Bd ss) {i : Nat} (hi : i ≤ ss.length) : Bd i = nI (off ss i) := h.2.2.2.2.1 i hi
theorem Hs.top {cap mx : Nat} {L Bd : Nat → Int32} {ss : List (List Int32)} (h : Hs cap mx L Bd ss) : Bd ss.length = nI (tot ss) := by rw [h.bd (Nat.le_refl _), off_len]
theorem Hs.ln {cap mx : Nat} {L Bd : Nat → Int32} {ss : List (List Int32)} (h : Hs cap mx L Bd ss) {i j : Nat} (hi : i < ss.length) (hj : j < (ss.getD i []).length) : L (off ss i + j) = (ss.getD i []).getD j 0 := by
  have := flat_at hi hj
  rw [h.2.2.2.2.2 _ this.1, this.2]
theorem Hs.nums {cap mx : Nat} {L Bd : Nat → Int32} {ss : List (List Int32)} (h : Hs cap mx L Bd ss) : ss.length < mx ∧ tot ss ≤ cap ∧ cap < 1048576 ∧ mx < 1048576 := ⟨h.1, h.2.1, h.2.2.1, h.2.2.2.1⟩
theorem tot_app (a b : List (List Int32)) : tot (a ++ b) = tot a + tot b := by simp [tot]
theorem tot_one (s : List Int32) : tot [s] = s.length := by simp [tot]
theorem off_app {a b : List (List Int32)} {i : Nat} (h : i ≤ a.length) : off (a ++ b) i = off a i := by
  unfold off
  rw [List.take_append_of_le_length h]
theorem off_snoc (a : List (List Int32)) (s : List Int32) : off (a ++ [s]) (a.length + 1) = tot a + s.length := by
  have := off_len (a ++ [s])
  rw [List.length_append] at this
  rw [show a.length + 1 = a.length + [s].length from rfl, this, tot_app, tot_one]
theorem Hs.clear {cap mx : Nat} {L Bd : Nat → Int32} {ss : List (List Int32)} (h : Hs cap mx L Bd ss) : Hs cap mx L Bd [] := by
  obtain ⟨h1, h2, h3, h4, h5, h6⟩ := h
  refine ⟨by simp; omega, by simp [tot], h3, h4, fun i hi => ?_, fun j hj => by simp [tot] at hj⟩
  have : i = 0 := by simpa using hi
  subst this
  rw [h5 0 (Nat.zero_le _), off_zero, off_zero]
theorem Hs.drop {cap mx : Nat} {L Bd : Nat → Int32} {ss : List (List Int32)} {s : List Int32} (h : Hs cap mx L Bd (ss ++ [s])) : Hs cap mx L Bd ss := by
  obtain ⟨h1, h2, h3, h4, h5, h6⟩ := h
  rw [List.length_append, List.length_singleton] at h1 h5
  rw [tot_app, tot_one] at h2 h6
  refine ⟨by omega, by omega, h3, h4, fun i hi => ?_, fun j hj => ?_⟩
  · rw [h5 i (by omega), off_app hi]
  · rw [h6 j (by omega), List.flatten_append, List.getD_eq_getElem?_getD, List.getElem?_append_left hj, ← List.getD_eq_getElem?_getD]
/-- the shelf's end anew: all that lies ahead of the last list is as it was -/
theorem Hs.last {cap mx : Nat} {L Bd L' Bd' : Nat → Int32} {ss : List (List Int32)} {s s' : List Int32} (h : Hs cap mx L Bd ss) (hm : ss.length + 1 < mx) (hc : tot ss + s'.length ≤ cap) (hB : ∀ i, i ≤ ss.length → Bd' i = Bd i) (hB' : Bd' (ss.length + 1) = nI (tot ss + s'.length)) (hL : ∀ j, j < tot ss → L' j = L j) (hL' : ∀ j, j < s'.length → L' (tot ss + j) = s'.getD j 0) : Hs cap mx L' Bd' (ss ++ [s']) := by
  obtain ⟨h1, h2, h3, h4, h5, h6⟩ := h
  refine ⟨by simpa using hm, by rw [tot_app, tot_one]; exact hc, h3, h4, fun i hi => ?_, fun j hj => ?_⟩
  · rw [List.length_append, List.length_singleton] at hi
    by_cases hi2 : i ≤ ss.length
    · rw [hB i hi2, h5 i hi2, off_app hi2]
    · have : i = ss.length + 1 := by omega
      subst this
      rw [hB', off_snoc]
  · rw [tot_app, tot_one] at hj
    rw [List.flatten_append, List.getD_eq_getElem?_getD]
    by_cases hj2 : j < tot ss
    · rw [List.getElem?_append_left hj2, hL j hj2, h6 j hj2, List.getD_eq_getElem?_getD]
    · obtain ⟨k, rfl⟩ : ∃ k, j = tot ss + k := ⟨j - tot ss, by omega⟩
      rw [List.getElem?_append_right (by unfold tot; omega), hL' k (by omega), show tot ss + k - ss.flatten.length = k by unfold tot; omega]
      simp [List.getD_eq_getElem?_getD]
theorem Hs.opened {cap mx : Nat} {L Bd : Nat → Int32} {ss : List (List Int32)} (h : Hs cap mx L Bd ss) (hm : ss.length + 1 < mx) : Hs cap mx L (upd Bd (ss.length + 1) (Bd ss.length)) (ss ++ [[]]) := by
  refine h.last (s := []) hm (by simpa using h.2.1) (fun i hi => pk_un (by omega)) ?_ (fun _ _ => rfl) (fun j hj => by simp at hj)
  rw [pk_us, h.top]
  simp
theorem Hs.in {cap mx : Nat} {L Bd : Nat → Int32} {ss : List (List Int32)} {s : List Int32} (h : Hs cap mx L Bd (ss ++ [s])) : ss.length + 1 < mx ∧ tot ss + s.length ≤ cap ∧ cap < 1048576 ∧ mx < 1048576 ∧ Bd (ss.length + 1) = nI (tot ss + s.length) ∧ (∀ j, j < s.length → L (tot ss + j) = s.getD j 0) := by
  obtain ⟨h1, h2, h3, h4, h5, h6⟩ := h
  rw [List.length_append, List.length_singleton] at h1 h5
  rw [tot_app, tot_one] at h2 h6
  refine ⟨h1, h2, h3, h4, ?_, fun j hj => ?_⟩
  · rw [h5 _ (Nat.le_refl _), off_snoc]
  · rw [h6 _ (by omega), List.flatten_append, List.getD_eq_getElem?_getD, List.getElem?_append_right (by unfold tot; omega), show tot ss + j - ss.flatten.length = j by unfold tot; omega]
    simp [List.getD_eq_getElem?_getD]
theorem Hs.word {cap mx : Nat} {L Bd : Nat → Int32} {ss : List (List Int32)} {s : List Int32} {w b : Int32} (h : Hs cap mx L Bd (ss ++ [s])) (hc : tot ss + s.length < cap) (hb : b = nI (tot ss + s.length + 1)) : Hs cap mx (upd L (tot ss + s.length) w) (upd Bd (ss.length + 1) b) (ss ++ [s ++ [w]]) := by
  have h1 := h.in
  refine h.drop.last (s := s) h1.1 (by simp; omega) (fun i hi => pk_un (by omega)) ?_ (fun j hj => pk_un (by omega)) (fun j hj => ?_)
  · rw [pk_us, hb]
    simp [Nat.add_assoc]
  · rw [List.length_append, List.length_singleton] at hj
    by_cases hj2 : j = s.length
    · subst hj2
      rw [pk_us]
      simp
    · rw [pk_un (by omega), h1.2.2.2.2.2 j (by omega)]
      rw [List.getD_eq_getElem?_getD, List.getD_eq_getElem?_getD, List.getElem?_append_left (by omega)]
theorem Hs.setw {cap mx : Nat} {L Bd : Nat → Int32} {ss : List (List Int32)} {s : List Int32} {v w : Int32} (h : Hs cap mx L Bd (ss ++ [s ++ [v]])) : Hs cap mx (upd L (tot ss + s.length) w) Bd (ss ++ [s ++ [w]]) := by
  have h1 := h.in
  rw [List.length_append, List.length_singleton] at h1
  refine h.drop.last (s := s) h1.1 (by simpa using h1.2.1) (fun i hi => rfl) (by rw [h1.2.2.2.2.1]; simp) (fun j hj => pk_un (by omega)) (fun j hj => ?_)
  rw [List.length_append, List.length_singleton] at hj
  by_cases hj2 : j = s.length
  · subst hj2
    rw [pk_us]
    simp
  · rw [pk_un (by omega), h1.2.2.2.2.2 j (by omega)]
    rw [List.getD_eq_getElem?_getD, List.getD_eq_getElem?_getD, List.getElem?_append_left (by omega), List.getElem?_append_left (by omega)]
theorem Hs.lessw {cap mx : Nat} {L Bd : Nat → Int32} {ss : List (List Int32)} {s : List Int32} {v b : Int32} (h : Hs cap mx L Bd (ss ++ [s ++ [v]])) (hb : b = nI (tot ss + s.length)) : Hs cap mx L (upd Bd (ss.length + 1) b) (ss ++ [s]) := by
  have h1 := h.in
  rw [List.length_append, List.length_singleton] at h1
  refine h.drop.last (s := s) h1.1 (by omega) (fun i hi => pk_un (by omega)) (by rw [pk_us, hb]) (fun j hj => rfl) (fun j hj => ?_)
  rw [h1.2.2.2.2.2 j (by omega), List.getD_eq_getElem?_getD, List.getD_eq_getElem?_getD, List.getElem?_append_left hj]
theorem Hs.addset {cap mx : Nat} {L Bd f : Nat → Int32} {ss : List (List Int32)} {s t : List Int32} {b : Int32} {sp : Nat} (h : Hs cap mx L Bd (ss ++ [s])) (hc : tot ss + s.length + t.length ≤ cap) (hf : ∀ j, j < t.length → f (sp + j) = t.getD j 0) (hb : b = nI (tot ss + s.length + t.length)) : Hs cap mx (va_cpy f L sp (tot ss + s.length) t.length) (upd Bd (ss.length + 1) b) (ss ++ [s ++ t]) := by
  have h1 := h.in
  refine h.drop.last (s := s) h1.1 (by simp; omega) (fun i hi => pk_un (by omega)) ?_ (fun j hj => pk_cpy_out (by omega)) (fun j hj => ?_)
  · rw [pk_us, hb]
    simp [Nat.add_assoc]
  · rw [List.length_append] at hj
    rw [List.getD_eq_getElem?_getD]
    by_cases hj2 : j < s.length
    · rw [pk_cpy_out (by omega), h1.2.2.2.2.2 j hj2, List.getElem?_append_left hj2, List.getD_eq_getElem?_getD]
    · rw [pk_cpy_in (by omega) (by omega), List.getElem?_append_right (by omega), show sp + (tot ss + j - (tot ss + s.length)) = sp + (j - s.length) by omega, hf _ (by omega), List.getD_eq_getElem?_getD]
end
section
/-! the class's own functions on words and bits -/
theorem gr_lit {w : Nat × Nat} (hw : okw w) (hk : w.2 < 2 ^ 29) (h : 0 ≤ enc w) : w.2 = 1 := by
  obtain ⟨b, k⟩ := w
  obtain ⟨h1, h2, h3⟩ := hw
  rcases h3 with q | q | q
  · exact absurd (enc_fill (Or.inl q) h1 hk) (Int32.not_lt.mpr h)
  · exact absurd (enc_fill (Or.inr q) h1 hk) (Int32.not_lt.mpr h)
  · exact q
theorem gr_fill {w : Nat × Nat} (hw : okw w) (hk : w.2 < 2 ^ 29) (h : ¬ 0 ≤ enc w) : -(enc w) / nI 2 = nI w.2 := by
  obtain ⟨b, k⟩ := w
  obtain ⟨h1, h2, h3⟩ := hw
  dsimp only at hk h1 h2
  by_cases hf : b = 0 ∨ b = AL
  · rcases hf with q | q
    · rw [enc_0 q, neg_nn, pk_div (by omega) (by omega) (by omega)]
      congr 1
      dsimp only
      omega
    · rw [enc_A q, neg_nn, pk_div (by omega) (by omega) (by omega)]
      congr 1
      dsimp only
      omega
  · exact absurd (Int32.not_lt.mp (enc_pos hf h2)) h
theorem bt_pos {w : Nat × Nat} (hw : okw w) (hk : w.2 < 2 ^ 29) (h : ¬ enc w < 0) : enc w = nI w.1 := by
  obtain ⟨b, k⟩ := w
  obtain ⟨h1, h2, h3⟩ := hw
  by_cases hf : b = 0 ∨ b = AL
  · exact absurd (enc_fill hf h1 hk) h
  · exact enc_lit hf
theorem bt_0 {w : Nat × Nat} (hw : okw w) (hk : w.2 < 2 ^ 29) (h : enc w < 0) (h' : ¬ enc w &&& nI 1 = nI 1) : nI 0 = nI w.1 := by
  obtain ⟨b, k⟩ := w
  obtain ⟨h1, h2, h3⟩ := hw
  dsimp only at hk h1 h2
  by_cases hf : b = 0 ∨ b = AL
  · rcases hf with q | q
    · dsimp only
      rw [q]
    · rw [enc_A q, neg_and1 (by omega), show (2 * k + 1) % 2 = 1 by omega] at h'
      exact absurd rfl h'
  · exact absurd h (enc_pos hf h2)
theorem bt_A {w : Nat × Nat} (hw : okw w) (hk : w.2 < 2 ^ 29) (h : enc w < 0) (h' : enc w &&& nI 1 = nI 1) : nI 2147483647 = nI w.1 := by
  obtain ⟨b, k⟩ := w
  obtain ⟨h1, h2, h3⟩ := hw
  dsimp only at hk h1 h2
  by_cases hf : b = 0 ∨ b = AL
  · rcases hf with q | q
    · rw [enc_0 q, neg_and1 (by omega), show (2 * k) % 2 = 0 by omega] at h'
      exact absurd h' (by decide)
    · dsimp only
      rw [q]
  · exact absurd h (enc_pos hf h2)
set_option maxHeartbeats 4000000 in
theorem c_B_isValue {l : Launch} {D : va_G} {cA : ClassId} {x : Int32} : CtI l D cA y_B_isValue b_B_isValue 1 (some .boolean) ({ frames := 0, cells := 0, slots := 0, locals := 0 } : Room) [.int x] [] (fun r (_ : Unit) => r = if ¬ x < 0 ∧ ¬ nI 16 ≤ x then nI 1 else nI 0) (fun _ => []) := by
  refine CtI.start (lv0 := [(0, .int x)]) (by decide) rfl (Nat.le_of_ble_eq_true rfl) ?_
  intro p e s m args below meth c A C hr hin
  refine x_iload_n C d_B_isValue_0 rfl rfl ?_
  refine x_if_lt (tgt := 14) C d_B_isValue_1 (by decide)  (fun c1 => ?_) (fun c1 => ?_)
  · refine x_iconst (v := (nI (0))) C d_B_isValue_14 (by decide) ?_
    exact x_zret C hr (by decide) d_B_isValue_15 () rfl ((if_neg (fun q => q.1 c1)).symm)
  · refine x_iload_n C d_B_isValue_4 rfl rfl ?_
    refine x_bipush (v := (nI (16))) C d_B_isValue_5 (by decide) ?_
    refine x_icmp_ge (tgt := 14) C d_B_isValue_7 (by decide)  (fun c7 => ?_) (fun c7 => ?_)
    · refine x_iconst (v := (nI (0))) C d_B_isValue_14 (by decide) ?_
      exact x_zret C hr (by decide) d_B_isValue_15 () rfl ((if_neg (fun q => q.2 c7)).symm)
    · refine x_iconst (v := (nI (1))) C d_B_isValue_10 (by decide) ?_
      refine x_goto (tgt := 15) C d_B_isValue_11 (by decide) ?_
      exact x_zret C hr (by decide) d_B_isValue_15 () rfl ((if_pos ⟨c1, c7⟩).symm)
set_option maxHeartbeats 4000000 in
theorem c_B_fillOf {l : Launch} {D : va_G} {cA : ClassId} {b k : Nat} (hb : b = 0 ∨ b = AL) : CtI l D cA y_B_fillOf b_B_fillOf 2 (some .int) ({ frames := 0, cells := 0, slots := 0, locals := 0 } : Room) [.int (nI b), .int (nI k)] [] (fun r (_ : Unit) => r = enc (b, k)) (fun _ => []) := by
  refine CtI.start (lv0 := [(0, .int (nI b)), (1, .int (nI k))]) (by decide) rfl (Nat.le_of_ble_eq_true rfl) ?_
  intro p e s m args below meth c A C hr hin
  have hA : AL = 2147483647 := rfl
  refine x_iload_n C d_B_fillOf_0 rfl rfl ?_
  refine x_ldc C d_B_fillOf_1 lk_B_101 ?_
  refine x_top (y := nI 2147483647) (by decide) ?_
  refine x_icmp_neN (tgt := 15) C d_B_fillOf_3 (by decide) (by omega) (by omega) (fun c3 => ?_) (fun c3 => ?_)
  · refine x_bipush (v := ((-2))) C d_B_fillOf_15 (by decide) ?_
    refine x_iload_n C d_B_fillOf_17 rfl rfl ?_
    refine x_imul C d_B_fillOf_18  ?_
    exact x_iret C hr d_B_fillOf_19 () rfl ((fill_0 k).trans (enc_0 (hb.resolve_right c3)).symm)
  · refine x_bipush (v := ((-2))) C d_B_fillOf_6 (by decide) ?_
    refine x_iload_n C d_B_fillOf_8 rfl rfl ?_
    refine x_imul C d_B_fillOf_9  ?_
    refine x_iconst (v := (nI (1))) C d_B_fillOf_10 (by decide) ?_
    refine x_isub C d_B_fillOf_11  ?_
    refine x_goto (tgt := 19) C d_B_fillOf_12 (by decide) ?_
    exact x_iret C hr d_B_fillOf_19 () rfl ((fill_A k).trans (enc_A c3).symm)
set_option maxHeartbeats 4000000 in
theorem c_B_groupsOf {l : Launch} {D : va_G} {cA : ClassId} {w : Nat × Nat} (hw : okw w) (hk : w.2 < 2 ^ 29) : CtI l D cA y_B_groupsOf b_B_groupsOf 1 (some .int) ({ frames := 0, cells := 0, slots := 0, locals := 0 } : Room) [.int (enc w)] [] (fun r (_ : Unit) => r = nI w.2) (fun _ => []) := by
  refine CtI.start (lv0 := [(0, .int (enc w))]) (by decide) rfl (Nat.le_of_ble_eq_true rfl) ?_
  intro p e s m args below meth c A C hr hin
  refine x_iload_n C d_B_groupsOf_0 rfl rfl ?_
  refine x_if_ge (tgt := 11) C d_B_groupsOf_1 (by decide)  (fun c1 => ?_) (fun c1 => ?_)
  · refine x_iconst (v := (nI (1))) C d_B_groupsOf_11 (by decide) ?_
    exact x_iret C hr d_B_groupsOf_12 () rfl (by rw [gr_lit hw hk c1])
  · refine x_iload_n C d_B_groupsOf_4 rfl rfl ?_
    refine x_ineg C d_B_groupsOf_5 ?_
    refine x_iconst (v := (nI (2))) C d_B_groupsOf_6 (by decide) ?_
    refine x_idiv C d_B_groupsOf_7 (by decide) ?_
    refine x_goto (tgt := 12) C d_B_groupsOf_8 (by decide) ?_
    exact x_iret C hr d_B_groupsOf_12 () rfl (gr_fill hw hk c1)
set_option maxHeartbeats 4000000 in
theorem c_B_bitsOf {l : Launch} {D : va_G} {cA : ClassId} {w : Nat × Nat} (hw : okw w) (hk : w.2 < 2 ^ 29) : CtI l D cA y_B_bitsOf b_B_bitsOf 1 (some .int) ({ frames := 0, cells := 0, slots := 0, locals := 0 } : Room) [.int (enc w)] [] (fun r (_ : Unit) => r = nI w.1) (fun _ => []) := by
  refine CtI.start (lv0 := [(0, .int (enc w))]) (by decide) rfl (Nat.le_of_ble_eq_true rfl) ?_
  intro p e s m args below meth c A C hr hin
  refine x_iload_n C d_B_bitsOf_0 rfl rfl ?_
  refine x_if_lt (tgt := 6) C d_B_bitsOf_1 (by decide)  (fun c1 => ?_) (fun c1 => ?_)
  · refine x_iload_n C d_B_bitsOf_6 rfl rfl ?_
    refine x_iconst (v := (nI (1))) C d_B_bitsOf_7 (by decide) ?_
    refine x_iand C d_B_bitsOf_8 ?_
    refine x_iconst (v := (nI (1))) C d_B_bitsOf_9 (by decide) ?_
    refine x_icmp_ne (tgt := 18) C d_B_bitsOf_10 (by decide)  (fun c10 => ?_) (fun c10 => ?_)
    · refine x_iconst (v := (nI (0))) C d_B_bitsOf_18 (by decide) ?_
      exact x_iret C hr d_B_bitsOf_19 () rfl (bt_0 hw hk c1 c10)
    · refine x_ldc C d_B_bitsOf_13 lk_B_101 ?_
      refine x_top (y := nI 2147483647) (by decide) ?_
      refine x_goto (tgt := 19) C d_B_bitsOf_15 (by decide) ?_
      exact x_iret C hr d_B_bitsOf_19 () rfl (bt_A hw hk c1 c10)
  · refine x_iload_n C d_B_bitsOf_4 rfl rfl ?_
    exact x_iret C hr d_B_bitsOf_5 () rfl (bt_pos hw hk c1)
set_option maxHeartbeats 4000000 in
theorem c_B_firstBits {l : Launch} {D : va_G} {cA : ClassId} {n : Nat} (hn : n < 31) : CtI l D cA y_B_firstBits b_B_firstBits 1 (some .int) ({ frames := 0, cells := 0, slots := 0, locals := 0 } : Room) [.int (nI n)] [] (fun r (_ : Unit) => r = nI (2 ^ n - 1)) (fun _ => []) := by
  refine CtI.start (lv0 := [(0, .int (nI n))]) (by decide) rfl (Nat.le_of_ble_eq_true rfl) ?_
  intro p e s m args below meth c A C hr hin
  refine x_iconst (v := (nI (1))) C d_B_firstBits_0 (by decide) ?_
  refine x_iload_n C d_B_firstBits_1 rfl rfl ?_
  refine x_ishl C d_B_firstBits_2 ?_
  refine x_iconst (v := (nI (1))) C d_B_firstBits_3 (by decide) ?_
  refine x_isub C d_B_firstBits_4  ?_
  exact x_iret C hr d_B_firstBits_5 () rfl (nx_bits hn)
set_option maxHeartbeats 4000000 in
theorem c_B_joinedBits {l : Launch} {D : va_G} {cA : ClassId} {op a b : Nat} (ho : op ≤ 3) (ha : a ≤ AL) (hb : b ≤ AL) : CtI l D cA y_B_joinedBits b_B_joinedBits 3 (some .int) ({ frames := 0, cells := 0, slots := 0, locals := 0 } : Room) [.int (nI op), .int (nI a), .int (nI b)] [] (fun r (_ : Unit) => r = nI (jb op a b)) (fun _ => []) := by
  refine CtI.start (lv0 := [(0, .int (nI op)), (1, .int (nI a)), (2, .int (nI b))]) (by decide) rfl (Nat.le_of_ble_eq_true rfl) ?_
  intro p e s m args below meth c A C hr hin
  refine x_iload_n C d_B_joinedBits_0 rfl rfl ?_
  rcases (show op = 0 ∨ op = 1 ∨ op = 2 ∨ op = 3 by omega) with rfl | rfl | rfl | rfl
  · refine x_tableIn (off := 27) (tgt := 28) C d_B_joinedBits_1 (by decide) (by decide) rfl (by decide) ?_
    refine x_iload_n C d_B_joinedBits_28 rfl rfl ?_
    refine x_iload_n C d_B_joinedBits_29 rfl rfl ?_
    refine x_iand C d_B_joinedBits_30 ?_
    exact x_iret C hr d_B_joinedBits_31 () rfl (nx_and a b)
  · refine x_tableIn (off := 31) (tgt := 32) C d_B_joinedBits_1 (by decide) (by decide) rfl (by decide) ?_
    refine x_iload_n C d_B_joinedBits_32 rfl rfl ?_
    refine x_iload_n C d_B_joinedBits_33 rfl rfl ?_
    refine x_ior C d_B_joinedBits_34 ?_
    exact x_iret C hr d_B_joinedBits_35 () rfl (nx_or a b)
  · refine x_tableIn (off := 35) (tgt := 36) C d_B_joinedBits_1 (by decide) (by decide) rfl (by decide) ?_
    refine x_iload_n C d_B_joinedBits_36 rfl rfl ?_
    refine x_iload_n C d_B_joinedBits_37 rfl rfl ?_
    refine x_iconst (v := ((-1))) C d_B_joinedBits_38 (by decide) ?_
    refine x_ixor C d_B_joinedBits_39 ?_
    refine x_iand C d_B_joinedBits_40 ?_
    exact x_iret C hr d_B_joinedBits_41 () rfl (jb_not ha)
  · refine x_tableOut (tgt := 42) C d_B_joinedBits_1 (Or.inr (by decide)) (by decide) ?_
    refine x_iload_n C d_B_joinedBits_42 rfl rfl ?_
    refine x_iload_n C d_B_joinedBits_43 rfl rfl ?_
    refine x_ixor C d_B_joinedBits_44 ?_
    exact x_iret C hr d_B_joinedBits_45 () rfl (nx_xor a b)
end
section
abbrev shW (cA : ClassId) (h h1 h2 cap mx : Nat) (L Bd : Nat → Int32) (k : Nat) : va_W := [(h, .inr (0, [.ref h1, .ref h2, .int (nI k)])), (h1, .inl (cA, cap, .inl L)), (h2, .inl (cA, mx, .inl Bd))]
set_option maxHeartbeats 4000000 in
theorem c_S_used {l : Launch} {D : va_G} {cA : ClassId} {h h1 h2 cap mx : Nat} {L Bd : Nat → Int32} {k : Nat} {ss : List (List Int32)} (hH : Hs cap mx L Bd ss) (hk : ss.length = k)  : CtI l D cA y_S_used b_S_used 1 (some .int) ({ frames := 0, cells := 0, slots := 0, locals := 0 } : Room) [.ref h] (shW cA h h1 h2 cap mx L Bd k) (fun r (_ : Unit) => r = nI (tot ss)) (fun _ => (shW cA h h1 h2 cap mx L Bd k)) := by
  subst hk
  refine CtI.start (lv0 := [(0, .ref h)]) (by decide) rfl (Nat.le_of_ble_eq_true rfl) ?_
  intro p e s m args below meth c A C hr hin
  have hn := hH.nums
  refine x_aload_n C d_S_used_0 rfl rfl ?_
  refine x_get C d_S_used_1 0 rfl rfl i_S 1 (by decide) lk_S_19 rfl rfl ?_
  refine x_aload_n C d_S_used_4 rfl rfl ?_
  refine x_get C d_S_used_5 0 rfl rfl i_S 2 (by decide) lk_S_9 rfl rfl ?_
  refine x_iald C d_S_used_8 2 rfl (by omega) (by omega) ?_
  refine x_top (y := (nI (tot ss))) hH.top ?_
  exact x_iret C hr d_S_used_9 () rfl (rfl)
set_option maxHeartbeats 4000000 in
theorem c_S_startOf {l : Launch} {D : va_G} {cA : ClassId} {h h1 h2 cap mx : Nat} {L Bd : Nat → Int32} {k : Nat} {ss : List (List Int32)} (hH : Hs cap mx L Bd ss) (hk : ss.length = k)  {i : Nat} (hi : i ≤ ss.length) : CtI l D cA y_S_startOf b_S_startOf 2 (some .int) ({ frames := 1, cells := 0, slots := 0, locals := 21 } : Room) [.ref h, .int (nI i)] (shW cA h h1 h2 cap mx L Bd k) (fun r (_ : Unit) => r = nI (off ss i)) (fun _ => (shW cA h h1 h2 cap mx L Bd k)) := by
  subst hk
  refine CtI.start (lv0 := [(0, .ref h), (1, .int (nI i))]) (by decide) rfl (Nat.le_of_ble_eq_true rfl) ?_
  intro p e s m args below meth c A C hr hin
  have hn := hH.nums
  refine x_aload_n C d_S_startOf_0 rfl rfl ?_
  refine x_get C d_S_startOf_1 0 rfl rfl i_S 1 (by decide) lk_S_19 rfl rfl ?_
  refine x_iconst (v := (nI (0))) C d_S_startOf_4 (by decide) ?_
  refine x_iload_n C d_S_startOf_5 rfl rfl ?_
  refine x_aload_n C d_S_startOf_6 rfl rfl ?_
  refine x_get C d_S_startOf_7 0 rfl rfl i_S 2 (by decide) lk_S_9 rfl rfl ?_
  refine x_mminN C d_S_startOf_10 lk_S_22 ma_min_st ini_Ma ma_min_cd ⟨Nat.le_of_ble_eq_true rfl, Nat.le_of_ble_eq_true rfl, Nat.zero_le _, Nat.zero_le _⟩ (by omega) (by omega) ?_
  refine x_mmaxN C d_S_startOf_13 lk_S_28 ma_max_st ini_Ma ma_max_cd ⟨Nat.le_of_ble_eq_true rfl, Nat.le_of_ble_eq_true rfl, Nat.zero_le _, Nat.zero_le _⟩ (by omega) (by omega) ?_
  refine x_top (y := (nI (i))) (by congr 1; omega) ?_
  refine x_iald C d_S_startOf_16 2 rfl (by omega) (by omega) ?_
  refine x_top (y := (nI (off ss i))) (hH.bd hi) ?_
  exact x_iret C hr d_S_startOf_17 () rfl (rfl)
set_option maxHeartbeats 4000000 in
theorem c_S_size {l : Launch} {D : va_G} {cA : ClassId} {h h1 h2 cap mx : Nat} {L Bd : Nat → Int32} {k : Nat} {ss : List (List Int32)} (hH : Hs cap mx L Bd ss) (hk : ss.length = k)  {i : Nat} (hi : i < ss.length) : CtI l D cA y_S_size b_S_size 2 (some .int) ({ frames := 2, cells := 0, slots := 0, locals := 42 } : Room) [.ref h, .int (nI i)] (shW cA h h1 h2 cap mx L Bd k) (fun r (_ : Unit) => r = nI ((ss.getD i []).length)) (fun _ => (shW cA h h1 h2 cap mx L Bd k)) := by
  subst hk
  refine CtI.start (lv0 := [(0, .ref h), (1, .int (nI i))]) (by decide) rfl (Nat.le_of_ble_eq_true rfl) ?_
  intro p e s m args below meth c A C hr hin
  have hn := hH.nums
  have ho := off_succ hi
  refine x_aload_n C d_S_size_0 rfl rfl ?_
  refine x_iload_n C d_S_size_1 rfl rfl ?_
  refine x_iconst (v := (nI (1))) C d_S_size_2 (by decide) ?_
  refine x_iaddN C d_S_size_3  ?_
  refine x_callVI (wr := []) (rest := []) C (c_S_startOf (i := i + 1) hH rfl (by omega)) d_S_size_4 cd_S_startOf lk_S_31 dd_S_startOf rfl ⟨Nat.le_of_ble_eq_true rfl, Nat.le_of_ble_eq_true rfl⟩ ⟨Nat.le_refl _, Nat.le_refl _⟩ 0 0 rfl rfl [0, 1, 2] [] rfl rfl (by decide) (by decide) (by decide) rfl (Nat.le_of_ble_eq_true rfl) ?_
  intro r_ u_ hp_
  obtain rfl := hp_
  refine x_aload_n C d_S_size_7 rfl rfl ?_
  refine x_iload_n C d_S_size_8 rfl rfl ?_
  refine x_callVI (wr := []) (rest := [.int (nI (off ss (i + 1)))]) C (c_S_startOf (i := i) hH rfl (by omega)) d_S_size_9 cd_S_startOf lk_S_31 dd_S_startOf rfl ⟨Nat.le_of_ble_eq_true rfl, Nat.le_of_ble_eq_true rfl⟩ ⟨Nat.le_refl _, Nat.le_refl _⟩ 0 0 rfl rfl [0, 1, 2] [] rfl rfl (by decide) (by decide) (by decide) rfl (Nat.le_of_ble_eq_true rfl) ?_
  intro r_ u_ hp_
  obtain rfl := hp_
  refine x_isubN C d_S_size_12 (by omega) ?_
  refine x_top (y := (nI ((ss.getD i []).length))) (by congr 1; omega) ?_
  exact x_iret C hr d_S_size_13 () rfl (rfl)
set_option maxHeartbeats 4000000 in
theorem c_S_clear {l : Launch} {D : va_G} {cA : ClassId} {h h1 h2 cap mx : Nat} {L Bd : Nat → Int32} {k : Nat} {ss : List (List Int32)} (hH : Hs cap mx L Bd ss) (hk : ss.length = k)  : CtV l D cA y_S_clear b_S_clear 1 ({ frames := 0, cells := 0, slots := 0, locals := 0 } : Room) [.ref h] (shW cA h h1 h2 cap mx L Bd k) (fun (_ : Unit) => True) (fun _ => (shW cA h h1 h2 cap mx L Bd 0)) := by
  subst hk
  refine CtV.start (lv0 := [(0, .ref h)]) (by decide) rfl (Nat.le_of_ble_eq_true rfl) ?_
  intro p e s m args below meth c A C hr hin
  refine x_aload_n C d_S_clear_0 rfl rfl ?_
  refine x_iconst (v := (nI (0))) C d_S_clear_1 (by decide) ?_
  refine x_put (ty := .int) (v := .int (nI 0)) (ws' := [(h, .inr (0, [.ref h1, .ref h2, .int (nI 0)])), (h1, .inl (cA, cap, .inl (L))), (h2, .inl (cA, mx, .inl (Bd)))]) C d_S_clear_2 0 rfl rfl i_S t_S t_S_ok n_S 2 (by decide) lk_S_9 rfl rfl (t_S_ok 2 (by decide)) rfl rfl (Nat.le_of_ble_eq_true rfl) rfl ?_
  exact x_vret C hr d_S_clear_5 () rfl (trivial)
set_option maxHeartbeats 4000000 in
theorem c_S_open {l : Launch} {D : va_G} {cA : ClassId} {h h1 h2 cap mx : Nat} {L Bd : Nat → Int32} {k : Nat} {ss : List (List Int32)} (hH : Hs cap mx L Bd ss) (hk : ss.length = k) (hm : ss.length + 1 < mx)  : CtV l D cA y_S_open b_S_open 1 ({ frames := 0, cells := 0, slots := 0, locals := 0 } : Room) [.ref h] (shW cA h h1 h2 cap mx L Bd k) (fun u : (Nat → Int32) × (Nat → Int32) => Hs cap mx u.1 u.2 (ss ++ [[]])) (fun u => shW cA h h1 h2 cap mx u.1 u.2 (k + 1)) := by
  subst hk
  refine CtV.start (lv0 := [(0, .ref h)]) (by decide) rfl (Nat.le_of_ble_eq_true rfl) ?_
  intro p e s m args below meth c A C hr hin
  have hn := hH.nums
  refine x_aload_n C d_S_open_0 rfl rfl ?_
  refine x_get C d_S_open_1 0 rfl rfl i_S 2 (by decide) lk_S_9 rfl rfl ?_
  refine x_iconst (v := (nI (1))) C d_S_open_4 (by decide) ?_
  refine x_iaddN C d_S_open_5  ?_
  refine x_aload_n C d_S_open_6 rfl rfl ?_
  refine x_get C d_S_open_7 0 rfl rfl i_S 1 (by decide) lk_S_19 rfl rfl ?_
  refine x_alen C d_S_open_10 2 rfl ?_
  refine x_icmp_geN (tgt := 44) C d_S_open_11 (by decide) (by omega) (by omega) (fun c11 => ?_) (fun c11 => ?_)
  · exact absurd c11 (by omega)
  · refine x_aload_n C d_S_open_14 rfl rfl ?_
    refine x_get C d_S_open_15 0 rfl rfl i_S 1 (by decide) lk_S_19 rfl rfl ?_
    refine x_aload_n C d_S_open_18 rfl rfl ?_
    refine x_get C d_S_open_19 0 rfl rfl i_S 2 (by decide) lk_S_9 rfl rfl ?_
    refine x_iconst (v := (nI (1))) C d_S_open_22 (by decide) ?_
    refine x_iaddN C d_S_open_23  ?_
    refine x_aload_n C d_S_open_24 rfl rfl ?_
    refine x_get C d_S_open_25 0 rfl rfl i_S 1 (by decide) lk_S_19 rfl rfl ?_
    refine x_aload_n C d_S_open_28 rfl rfl ?_
    refine x_get C d_S_open_29 0 rfl rfl i_S 2 (by decide) lk_S_9 rfl rfl ?_
    refine x_iald C d_S_open_32 2 rfl (by omega) (by omega) ?_
    refine x_iast (ws' := [(h, .inr (0, [.ref h1, .ref h2, .int (nI (ss.length))])), (h1, .inl (cA, cap, .inl (L))), (h2, .inl (cA, mx, .inl (upd Bd ((ss.length) + 1) (Bd (ss.length)))))]) C d_S_open_33 2 rfl (by omega) (by omega) rfl ?_
    refine x_aload_n C d_S_open_34 rfl rfl ?_
    refine x_dup C d_S_open_35 rfl ?_
    refine x_get C d_S_open_36 0 rfl rfl i_S 2 (by decide) lk_S_9 rfl rfl ?_
    refine x_iconst (v := (nI (1))) C d_S_open_39 (by decide) ?_
    refine x_iaddN C d_S_open_40  ?_
    refine x_put (ty := .int) (v := .int (nI ((ss.length) + 1))) (ws' := [(h, .inr (0, [.ref h1, .ref h2, .int (nI ((ss.length) + 1))])), (h1, .inl (cA, cap, .inl (L))), (h2, .inl (cA, mx, .inl (upd Bd ((ss.length) + 1) (Bd (ss.length)))))]) C d_S_open_41 0 rfl rfl i_S t_S t_S_ok n_S 2 (by decide) lk_S_9 rfl rfl (t_S_ok 2 (by decide)) rfl rfl (Nat.le_of_ble_eq_true rfl) rfl ?_
    exact x_vret C hr d_S_open_44 (L, upd Bd ((ss.length) + 1) (Bd (ss.length))) rfl (hH.opened hm)
set_option maxHeartbeats 4000000 in
theorem c_S_drop {l : Launch} {D : va_G} {cA : ClassId} {h h1 h2 cap mx : Nat} {L Bd : Nat → Int32} {k : Nat} {ss : List (List Int32)} {s0 : List Int32} (hH : Hs cap mx L Bd (ss ++ [s0])) (hk : ss.length + 1 = k)  : CtV l D cA y_S_drop b_S_drop 1 ({ frames := 0, cells := 0, slots := 0, locals := 0 } : Room) [.ref h] (shW cA h h1 h2 cap mx L Bd k) (fun (_ : Unit) => True) (fun _ => (shW cA h h1 h2 cap mx L Bd (k - 1))) := by
  subst hk
  refine CtV.start (lv0 := [(0, .ref h)]) (by decide) rfl (Nat.le_of_ble_eq_true rfl) ?_
  intro p e s m args below meth c A C hr hin
  have hn := hH.in
  have hk2 : (ss ++ [s0]).length = ss.length + 1 := by simp
  refine x_aload_n C d_S_drop_0 rfl rfl ?_
  refine x_get C d_S_drop_1 0 rfl rfl i_S 2 (by decide) lk_S_9 rfl rfl ?_
  refine x_if_leN (tgt := 17) C d_S_drop_4 (by decide) (by omega) (fun c4 => ?_) (fun c4 => ?_)
  · exact absurd c4 (by omega)
  · refine x_aload_n C d_S_drop_7 rfl rfl ?_
    refine x_dup C d_S_drop_8 rfl ?_
    refine x_get C d_S_drop_9 0 rfl rfl i_S 2 (by decide) lk_S_9 rfl rfl ?_
    refine x_iconst (v := (nI (1))) C d_S_drop_12 (by decide) ?_
    refine x_isubN C d_S_drop_13 (by omega) ?_
    refine x_put (ty := .int) (v := .int (nI ((ss.length + 1) - 1))) (ws' := [(h, .inr (0, [.ref h1, .ref h2, .int (nI ((ss.length + 1) - 1))])), (h1, .inl (cA, cap, .inl (L))), (h2, .inl (cA, mx, .inl (Bd)))]) C d_S_drop_14 0 rfl rfl i_S t_S t_S_ok n_S 2 (by decide) lk_S_9 rfl rfl (t_S_ok 2 (by decide)) rfl rfl (Nat.le_of_ble_eq_true rfl) rfl ?_
    exact x_vret C hr d_S_drop_17 () rfl (trivial)
set_option maxHeartbeats 4000000 in
theorem c_S_addWord {l : Launch} {D : va_G} {cA : ClassId} {h h1 h2 cap mx : Nat} {L Bd : Nat → Int32} {k : Nat} {ss : List (List Int32)} {s0 : List Int32} (hH : Hs cap mx L Bd (ss ++ [s0])) (hk : ss.length + 1 = k) {w : Int32} (hc : tot ss + s0.length < cap)  : CtV l D cA y_S_addWord b_S_addWord 2 ({ frames := 1, cells := 0, slots := 0, locals := 20 } : Room) [.ref h, .int w] (shW cA h h1 h2 cap mx L Bd k) (fun u : (Nat → Int32) × (Nat → Int32) => Hs cap mx u.1 u.2 (ss ++ [s0 ++ [w]])) (fun u => shW cA h h1 h2 cap mx u.1 u.2 (k)) := by
  subst hk
  refine CtV.start (lv0 := [(0, .ref h), (1, .int w)]) (by decide) rfl (Nat.le_of_ble_eq_true rfl) ?_
  intro p e s m args below meth c A C hr hin
  have hn := hH.in
  have hk2 : (ss ++ [s0]).length = ss.length + 1 := by simp
  refine x_aload_n C d_S_addWord_0 rfl rfl ?_
  refine x_get C d_S_addWord_1 0 rfl rfl i_S 2 (by decide) lk_S_9 rfl rfl ?_
  refine x_if_leN (tgt := 42) C d_S_addWord_4 (by decide) (by omega) (fun c4 => ?_) (fun c4 => ?_)
  · exact absurd c4 (by omega)
  · refine x_aload_n C d_S_addWord_7 rfl rfl ?_
    refine x_callVI (wr := []) (rest := []) C (c_S_used hH (by simp)) d_S_addWord_8 cd_S_used lk_S_59 dd_S_used rfl ⟨Nat.le_of_ble_eq_true rfl, Nat.le_of_ble_eq_true rfl⟩ ⟨Nat.le_refl _, Nat.le_refl _⟩ 0 0 rfl rfl [0, 1, 2] [] rfl rfl (by decide) (by decide) (by decide) rfl (Nat.le_of_ble_eq_true rfl) ?_
    intro r_ u_ hp_
    obtain rfl := hp_
    refine x_top (y := (nI (tot ss + s0.length))) (by rw [tot_app, tot_one]) ?_
    refine x_aload_n C d_S_addWord_11 rfl rfl ?_
    refine x_get C d_S_addWord_12 0 rfl rfl i_S 0 (by decide) lk_S_15 rfl rfl ?_
    refine x_alen C d_S_addWord_15 1 rfl ?_
    refine x_icmp_geN (tgt := 42) C d_S_addWord_16 (by decide) (by omega) (by omega) (fun c16 => ?_) (fun c16 => ?_)
    · exact absurd c16 (by omega)
    · refine x_aload_n C d_S_addWord_19 rfl rfl ?_
      refine x_get C d_S_addWord_20 0 rfl rfl i_S 0 (by decide) lk_S_15 rfl rfl ?_
      refine x_aload_n C d_S_addWord_23 rfl rfl ?_
      refine x_callVI (wr := []) (rest := [.ref h1]) C (c_S_used hH (by simp)) d_S_addWord_24 cd_S_used lk_S_59 dd_S_used rfl ⟨Nat.le_of_ble_eq_true rfl, Nat.le_of_ble_eq_true rfl⟩ ⟨Nat.le_refl _, Nat.le_refl _⟩ 0 0 rfl rfl [0, 1, 2] [] rfl rfl (by decide) (by decide) (by decide) rfl (Nat.le_of_ble_eq_true rfl) ?_
      intro r_ u_ hp_
      obtain rfl := hp_
      refine x_top (y := (nI (tot ss + s0.length))) (by rw [tot_app, tot_one]) ?_
      refine x_iload_n C d_S_addWord_27 rfl rfl ?_
      refine x_iast (ws' := [(h, .inr (0, [.ref h1, .ref h2, .int (nI (ss.length + 1))])), (h1, .inl (cA, cap, .inl (upd L (tot ss + s0.length) (w)))), (h2, .inl (cA, mx, .inl (Bd)))]) C d_S_addWord_28 1 rfl (by omega) (by omega) rfl ?_
      refine x_aload_n C d_S_addWord_29 rfl rfl ?_
      refine x_get C d_S_addWord_30 0 rfl rfl i_S 1 (by decide) lk_S_19 rfl rfl ?_
      refine x_aload_n C d_S_addWord_33 rfl rfl ?_
      refine x_get C d_S_addWord_34 0 rfl rfl i_S 2 (by decide) lk_S_9 rfl rfl ?_
      refine x_dup2 C d_S_addWord_37 rfl rfl ?_
      refine x_iald C d_S_addWord_38 2 rfl (by omega) (by omega) ?_
      refine x_top (y := (nI (tot ss + s0.length))) hn.2.2.2.2.1 ?_
      refine x_iconst (v := (nI (1))) C d_S_addWord_39 (by decide) ?_
      refine x_iaddN C d_S_addWord_40  ?_
      refine x_iast (ws' := [(h, .inr (0, [.ref h1, .ref h2, .int (nI (ss.length + 1))])), (h1, .inl (cA, cap, .inl (upd L (tot ss + s0.length) (w)))), (h2, .inl (cA, mx, .inl (upd Bd (ss.length + 1) (nI ((tot ss + s0.length) + 1)))))]) C d_S_addWord_41 2 rfl (by omega) (by omega) rfl ?_
      exact x_vret C hr d_S_addWord_42 (upd L (tot ss + s0.length) (w), upd Bd (ss.length + 1) (nI ((tot ss + s0.length) + 1))) rfl (hH.word hc rfl)
set_option maxHeartbeats 4000000 in
theorem c_S_lastWord_nil {l : Launch} {D : va_G} {cA : ClassId} {h h1 h2 cap mx : Nat} {L Bd : Nat → Int32} {k : Nat} {ss : List (List Int32)} (hH : Hs cap mx L Bd (ss ++ [[]])) (hk : ss.length + 1 = k)  : CtI l D cA y_S_lastWord b_S_lastWord 1 (some .int) ({ frames := 3, cells := 0, slots := 0, locals := 63 } : Room) [.ref h] (shW cA h h1 h2 cap mx L Bd k) (fun r (_ : Unit) => r = nI 0) (fun _ => (shW cA h h1 h2 cap mx L Bd k)) := by
  subst hk
  refine CtI.start (lv0 := [(0, .ref h)]) (by decide) rfl (Nat.le_of_ble_eq_true rfl) ?_
  intro p e s m args below meth c A C hr hin
  have hn := hH.in
  refine x_aload_n C d_S_lastWord_0 rfl rfl ?_
  refine x_get C d_S_lastWord_1 0 rfl rfl i_S 2 (by decide) lk_S_9 rfl rfl ?_
  refine x_iconst (v := (nI (1))) C d_S_lastWord_4 (by decide) ?_
  refine x_icmp_ltN (tgt := 22) C d_S_lastWord_5 (by decide) (by omega) (by omega) (fun c5 => ?_) (fun c5 => ?_)
  · exact absurd c5 (by omega)
  · refine x_aload_n C d_S_lastWord_8 rfl rfl ?_
    refine x_aload_n C d_S_lastWord_9 rfl rfl ?_
    refine x_get C d_S_lastWord_10 0 rfl rfl i_S 2 (by decide) lk_S_9 rfl rfl ?_
    refine x_iconst (v := (nI (1))) C d_S_lastWord_13 (by decide) ?_
    refine x_isubN C d_S_lastWord_14 (by omega) ?_
    refine x_callVI (wr := []) (rest := []) C (c_S_size (i := ss.length + 1 - 1) hH (by simp) (by simp)) d_S_lastWord_15 cd_S_size lk_S_35 dd_S_size rfl ⟨Nat.le_of_ble_eq_true rfl, Nat.le_of_ble_eq_true rfl⟩ ⟨Nat.le_refl _, Nat.le_refl _⟩ 0 0 rfl rfl [0, 1, 2] [] rfl rfl (by decide) (by decide) (by decide) rfl (Nat.le_of_ble_eq_true rfl) ?_
    intro r_ u_ hp_
    obtain rfl := hp_
    refine x_top (y := (nI (0))) (by simp) ?_
    refine x_iconst (v := (nI (1))) C d_S_lastWord_18 (by decide) ?_
    refine x_icmp_geN (tgt := 26) C d_S_lastWord_19 (by decide) (by omega) (by omega) (fun c19 => ?_) (fun c19 => ?_)
    · exact absurd c19 (by omega)
    · refine x_iconst (v := (nI (0))) C d_S_lastWord_22 (by decide) ?_
      refine x_goto (tgt := 37) C d_S_lastWord_23 (by decide) ?_
      exact x_iret C hr d_S_lastWord_37 () rfl (rfl)
set_option maxHeartbeats 4000000 in
theorem c_S_lastWord {l : Launch} {D : va_G} {cA : ClassId} {h h1 h2 cap mx : Nat} {L Bd : Nat → Int32} {k : Nat} {ss : List (List Int32)} {s0 : List Int32} {v : Int32} (hH : Hs cap mx L Bd (ss ++ [s0 ++ [v]])) (hk : ss.length + 1 = k)  : CtI l D cA y_S_lastWord b_S_lastWord 1 (some .int) ({ frames := 3, cells := 0, slots := 0, locals := 63 } : Room) [.ref h] (shW cA h h1 h2 cap mx L Bd k) (fun r (_ : Unit) => r = v) (fun _ => (shW cA h h1 h2 cap mx L Bd k)) := by
  subst hk
  refine CtI.start (lv0 := [(0, .ref h)]) (by decide) rfl (Nat.le_of_ble_eq_true rfl) ?_
  intro p e s m args below meth c A C hr hin
  have hn := hH.in
  rw [List.length_append, List.length_singleton] at hn
  refine x_aload_n C d_S_lastWord_0 rfl rfl ?_
  refine x_get C d_S_lastWord_1 0 rfl rfl i_S 2 (by decide) lk_S_9 rfl rfl ?_
  refine x_iconst (v := (nI (1))) C d_S_lastWord_4 (by decide) ?_
  refine x_icmp_ltN (tgt := 22) C d_S_lastWord_5 (by decide) (by omega) (by omega) (fun c5 => ?_) (fun c5 => ?_)
  · exact absurd c5 (by omega)
  · refine x_aload_n C d_S_lastWord_8 rfl rfl ?_
    refine x_aload_n C d_S_lastWord_9 rfl rfl ?_
    refine x_get C d_S_lastWord_10 0 rfl rfl i_S 2 (by decide) lk_S_9 rfl rfl ?_
    refine x_iconst (v := (nI (1))) C d_S_lastWord_13 (by decide) ?_
    refine x_isubN C d_S_lastWord_14 (by omega) ?_
    refine x_callVI (wr := []) (rest := []) C (c_S_size (i := ss.length + 1 - 1) hH (by simp) (by simp)) d_S_lastWord_15 cd_S_size lk_S_35 dd_S_size rfl ⟨Nat.le_of_ble_eq_true rfl, Nat.le_of_ble_eq_true rfl⟩ ⟨Nat.le_refl _, Nat.le_refl _⟩ 0 0 rfl rfl [0, 1, 2] [] rfl rfl (by decide) (by decide) (by decide) rfl (Nat.le_of_ble_eq_true rfl) ?_
    intro r_ u_ hp_
    obtain rfl := hp_
    refine x_top (y := (nI (s0.length + 1))) (by simp) ?_
    refine x_iconst (v := (nI (1))) C d_S_lastWord_18 (by decide) ?_
    refine x_icmp_geN (tgt := 26) C d_S_lastWord_19 (by decide) (by omega) (by omega) (fun c19 => ?_) (fun c19 => ?_)
    · refine x_aload_n C d_S_lastWord_26 rfl rfl ?_
      refine x_get C d_S_lastWord_27 0 rfl rfl i_S 0 (by decide) lk_S_15 rfl rfl ?_
      refine x_aload_n C d_S_lastWord_30 rfl rfl ?_
      refine x_callVI (wr := []) (rest := [.ref h1]) C (c_S_used hH (by simp)) d_S_lastWord_31 cd_S_used lk_S_59 dd_S_used rfl ⟨Nat.le_of_ble_eq_true rfl, Nat.le_of_ble_eq_true rfl⟩ ⟨Nat.le_refl _, Nat.le_refl _⟩ 0 0 rfl rfl [0, 1, 2] [] rfl rfl (by decide) (by decide) (by decide) rfl (Nat.le_of_ble_eq_true rfl) ?_
      intro r_ u_ hp_
      obtain rfl := hp_
      refine x_top (y := (nI (tot ss + (s0.length + 1)))) (by rw [tot_app, tot_one]; simp) ?_
      refine x_iconst (v := (nI (1))) C d_S_lastWord_34 (by decide) ?_
      refine x_isubN C d_S_lastWord_35 (by omega) ?_
      refine x_top (y := (nI (tot ss + s0.length))) (by congr 1) ?_
      refine x_iald C d_S_lastWord_36 1 rfl (by omega) (by omega) ?_
      refine x_top (y := (v)) (by rw [hn.2.2.2.2.2 s0.length (by simp)]; simp) ?_
      exact x_iret C hr d_S_lastWord_37 () rfl (rfl)
    · exact absurd c19 (by omega)
set_option maxHeartbeats 4000000 in
theorem c_S_wordOf {l : Launch} {D : va_G} {cA : ClassId} {h h1 h2 cap mx : Nat} {L Bd : Nat → Int32} {k : Nat} {ss : List (List Int32)} (hH : Hs cap mx L Bd ss) (hk : ss.length = k) {i : Nat} {x : Int32} (hi : i < ss.length)  : CtI l D cA y_S_wordOf b_S_wordOf 3 (some .int) ({ frames := 3, cells := 0, slots := 0, locals := 63 } : Room) [.ref h, .int (nI i), .int x] (shW cA h h1 h2 cap mx L Bd k) (fun r (_ : Unit) => r = if ¬ x < 0 ∧ x < nI (ss.getD i []).length then (ss.getD i []).getD x.toNatClampNeg 0 else nI 0) (fun _ => (shW cA h h1 h2 cap mx L Bd k)) := by
  subst hk
  refine CtI.start (lv0 := [(0, .ref h), (1, .int (nI i)), (2, .int x)]) (by decide) rfl (Nat.le_of_ble_eq_true rfl) ?_
  intro p e s m args below meth c A C hr hin
  have hn := hH.nums
  have ho := off_succ hi
  have ho2 := off_le ss (i + 1)
  refine x_iload_n C d_S_wordOf_0 rfl rfl ?_
  refine x_if_lt (tgt := 13) C d_S_wordOf_1 (by decide)  (fun c1 => ?_) (fun c1 => ?_)
  · refine x_iconst (v := (nI (0))) C d_S_wordOf_13 (by decide) ?_
    refine x_goto (tgt := 29) C d_S_wordOf_14 (by decide) ?_
    exact x_iret C hr d_S_wordOf_29 () rfl ((if_neg (fun q => q.1 c1)).symm)
  · refine x_iload_n C d_S_wordOf_4 rfl rfl ?_
    refine x_aload_n C d_S_wordOf_5 rfl rfl ?_
    refine x_iload_n C d_S_wordOf_6 rfl rfl ?_
    refine x_callVI (wr := []) (rest := [.int x]) C (c_S_size (i := i) hH rfl hi) d_S_wordOf_7 cd_S_size lk_S_35 dd_S_size rfl ⟨Nat.le_of_ble_eq_true rfl, Nat.le_of_ble_eq_true rfl⟩ ⟨Nat.le_refl _, Nat.le_refl _⟩ 0 0 rfl rfl [0, 1, 2] [] rfl rfl (by decide) (by decide) (by decide) rfl (Nat.le_of_ble_eq_true rfl) ?_
    intro r_ u_ hp_
    obtain rfl := hp_
    refine x_icmp_lt (tgt := 17) C d_S_wordOf_10 (by decide)  (fun c10 => ?_) (fun c10 => ?_)
    · obtain ⟨j, hj, rfl⟩ := nI_of c1
      have hj2 : j < (ss.getD i []).length := (nI_ltI hj (by omega)).mp c10
      refine x_aload_n C d_S_wordOf_17 rfl rfl ?_
      refine x_get C d_S_wordOf_18 0 rfl rfl i_S 0 (by decide) lk_S_15 rfl rfl ?_
      refine x_aload_n C d_S_wordOf_21 rfl rfl ?_
      refine x_iload_n C d_S_wordOf_22 rfl rfl ?_
      refine x_callVI (wr := []) (rest := [.ref h1]) C (c_S_startOf (i := i) hH rfl (by omega)) d_S_wordOf_23 cd_S_startOf lk_S_31 dd_S_startOf rfl ⟨Nat.le_of_ble_eq_true rfl, Nat.le_of_ble_eq_true rfl⟩ ⟨Nat.le_refl _, Nat.le_refl _⟩ 0 0 rfl rfl [0, 1, 2] [] rfl rfl (by decide) (by decide) (by decide) rfl (Nat.le_of_ble_eq_true rfl) ?_
      intro r_ u_ hp_
      obtain rfl := hp_
      refine x_iload_n C d_S_wordOf_26 rfl rfl ?_
      refine x_iaddN C d_S_wordOf_27  ?_
      refine x_iald C d_S_wordOf_28 1 rfl (by omega) (by omega) ?_
      exact x_iret C hr d_S_wordOf_29 () rfl (by rw [if_pos ⟨c1, c10⟩, nI_clamp (by omega)]; exact hH.ln hi hj2)
    · refine x_iconst (v := (nI (0))) C d_S_wordOf_13 (by decide) ?_
      refine x_goto (tgt := 29) C d_S_wordOf_14 (by decide) ?_
      exact x_iret C hr d_S_wordOf_29 () rfl ((if_neg (fun q => c10 q.2)).symm)
set_option maxHeartbeats 4000000 in
theorem c_S_groupsAt {l : Launch} {D : va_G} {cA : ClassId} {h h1 h2 cap mx : Nat} {L Bd : Nat → Int32} {k : Nat} {ss : List (List Int32)} (hH : Hs cap mx L Bd ss) (hk : ss.length = k) {at_ : Nat} {w : Nat × Nat} (ha : at_ < tot ss) (hw : okw w) (hw2 : w.2 < 2 ^ 29) (hl : L at_ = enc w)  : CtI l D cA y_S_groupsAt b_S_groupsAt 2 (some .int) ({ frames := 1, cells := 0, slots := 0, locals := 20 } : Room) [.ref h, .int (nI at_)] (shW cA h h1 h2 cap mx L Bd k) (fun r (_ : Unit) => r = nI w.2) (fun _ => (shW cA h h1 h2 cap mx L Bd k)) := by
  subst hk
  refine CtI.start (lv0 := [(0, .ref h), (1, .int (nI at_))]) (by decide) rfl (Nat.le_of_ble_eq_true rfl) ?_
  intro p e s m args below meth c A C hr hin
  have hn := hH.nums
  refine x_iload_n C d_S_groupsAt_0 rfl rfl ?_
  refine x_aload_n C d_S_groupsAt_1 rfl rfl ?_
  refine x_callVI (wr := []) (rest := [.int (nI at_)]) C (c_S_used hH rfl) d_S_groupsAt_2 cd_S_used lk_S_59 dd_S_used rfl ⟨Nat.le_of_ble_eq_true rfl, Nat.le_of_ble_eq_true rfl⟩ ⟨Nat.le_refl _, Nat.le_refl _⟩ 0 0 rfl rfl [0, 1, 2] [] rfl rfl (by decide) (by decide) (by decide) rfl (Nat.le_of_ble_eq_true rfl) ?_
  intro r_ u_ hp_
  obtain rfl := hp_
  refine x_icmp_geN (tgt := 20) C d_S_groupsAt_5 (by decide) (by omega) (by omega) (fun c5 => ?_) (fun c5 => ?_)
  · exact absurd c5 (by omega)
  · refine x_aload_n C d_S_groupsAt_8 rfl rfl ?_
    refine x_get C d_S_groupsAt_9 0 rfl rfl i_S 0 (by decide) lk_S_15 rfl rfl ?_
    refine x_iload_n C d_S_groupsAt_12 rfl rfl ?_
    refine x_iald C d_S_groupsAt_13 1 rfl (by omega) (by omega) ?_
    refine x_top (y := (enc w)) hl ?_
    refine x_callSIN (wr := [(h, .inr (0, [.ref h1, .ref h2, .int (nI (ss.length))])), (h1, .inl (cA, cap, .inl (L))), (h2, .inl (cA, mx, .inl (Bd)))]) (rest := []) C (c_B_groupsOf hw hw2) d_S_groupsAt_14 cd_B_groupsOf lk_S_46 dd_B_groupsOf rfl ⟨Nat.le_of_ble_eq_true rfl, Nat.le_of_ble_eq_true rfl⟩ ⟨Nat.le_refl _, Nat.le_refl _⟩ [] [0, 1, 2] rfl rfl (by decide) (by decide) (by decide) rfl (Nat.le_of_ble_eq_true rfl) ?_
    intro r_ u_ hp_
    obtain rfl := hp_
    refine x_goto (tgt := 21) C d_S_groupsAt_17 (by decide) ?_
    exact x_iret C hr d_S_groupsAt_21 () rfl (rfl)
set_option maxHeartbeats 4000000 in
theorem c_S_groupsAt_end {l : Launch} {D : va_G} {cA : ClassId} {h h1 h2 cap mx : Nat} {L Bd : Nat → Int32} {k : Nat} {ss : List (List Int32)} (hH : Hs cap mx L Bd ss) (hk : ss.length = k) {at_ : Nat} (ha : at_ = tot ss)  : CtI l D cA y_S_groupsAt b_S_groupsAt 2 (some .int) ({ frames := 1, cells := 0, slots := 0, locals := 20 } : Room) [.ref h, .int (nI at_)] (shW cA h h1 h2 cap mx L Bd k) (fun r (_ : Unit) => r = nI 0) (fun _ => (shW cA h h1 h2 cap mx L Bd k)) := by
  subst hk
  refine CtI.start (lv0 := [(0, .ref h), (1, .int (nI at_))]) (by decide) rfl (Nat.le_of_ble_eq_true rfl) ?_
  intro p e s m args below meth c A C hr hin
  have hn := hH.nums
  refine x_iload_n C d_S_groupsAt_0 rfl rfl ?_
  refine x_aload_n C d_S_groupsAt_1 rfl rfl ?_
  refine x_callVI (wr := []) (rest := [.int (nI at_)]) C (c_S_used hH rfl) d_S_groupsAt_2 cd_S_used lk_S_59 dd_S_used rfl ⟨Nat.le_of_ble_eq_true rfl, Nat.le_of_ble_eq_true rfl⟩ ⟨Nat.le_refl _, Nat.le_refl _⟩ 0 0 rfl rfl [0, 1, 2] [] rfl rfl (by decide) (by decide) (by decide) rfl (Nat.le_of_ble_eq_true rfl) ?_
  intro r_ u_ hp_
  obtain rfl := hp_
  refine x_icmp_geN (tgt := 20) C d_S_groupsAt_5 (by decide) (by omega) (by omega) (fun c5 => ?_) (fun c5 => ?_)
  · refine x_iconst (v := (nI (0))) C d_S_groupsAt_20 (by decide) ?_
    exact x_iret C hr d_S_groupsAt_21 () rfl (rfl)
  · exact absurd c5 (by omega)
set_option maxHeartbeats 4000000 in
theorem c_S_addSet {l : Launch} {D : va_G} {cA : ClassId} {h h1 h2 cap mx : Nat} {L Bd : Nat → Int32} {f f1 f2 cap2 mx2 : Nat} {L2 Bd2 : Nat → Int32} {k : Nat} {ss : List (List Int32)} {s0 : List Int32} (hH : Hs cap mx L Bd (ss ++ [s0])) (hk : ss.length + 1 = k) {k2 : Nat} {s2 : List (List Int32)} (hF : Hs cap2 mx2 L2 Bd2 s2) (hk2 : s2.length = k2) {i : Nat} (hi : i < s2.length) (hc : tot ss + s0.length + (s2.getD i []).length ≤ cap)  : CtV l D cA y_S_addSet b_S_addSet 4 ({ frames := 3, cells := 0, slots := 0, locals := 63 } : Room) [.ref h, .ref f, .int (nI i)] (shW cA h h1 h2 cap mx L Bd k ++ shW cA f f1 f2 cap2 mx2 L2 Bd2 k2) (fun u : (Nat → Int32) × (Nat → Int32) => Hs cap mx u.1 u.2 (ss ++ [s0 ++ s2.getD i []])) (fun u => shW cA h h1 h2 cap mx u.1 u.2 k ++ shW cA f f1 f2 cap2 mx2 L2 Bd2 k2) := by
  subst hk
  subst hk2
  refine CtV.start (lv0 := [(0, .ref h), (1, .ref f), (2, .int (nI i))]) (by decide) rfl (Nat.le_of_ble_eq_true rfl) ?_
  intro p e s m args below meth c A C hr hin
  have hn := hH.in
  have hm := hF.nums
  have ho := off_succ hi
  have ho2 := off_le s2 (i + 1)
  refine x_aload_n C d_S_addSet_0 rfl rfl ?_
  refine x_iload_n C d_S_addSet_1 rfl rfl ?_
  refine x_callVI (wr := [(h, .inr (0, [.ref h1, .ref h2, .int (nI (ss.length + 1))])), (h1, .inl (cA, cap, .inl (L))), (h2, .inl (cA, mx, .inl (Bd)))]) (rest := []) C (c_S_size (i := i) hF rfl hi) d_S_addSet_2 cd_S_size lk_S_35 dd_S_size rfl ⟨Nat.le_of_ble_eq_true rfl, Nat.le_of_ble_eq_true rfl⟩ ⟨Nat.le_refl _, Nat.le_refl _⟩ 0 0 rfl rfl [3, 4, 5] [0, 1, 2] rfl rfl (by decide) (by decide) (by decide) rfl (Nat.le_of_ble_eq_true rfl) ?_
  intro r_ u_ hp_
  obtain rfl := hp_
  refine x_istore_n (lv' := [(3, .int (nI ((s2.getD i []).length))), (0, .ref h), (1, .ref f), (2, .int (nI i))]) C d_S_addSet_5 rfl (by decide) rfl ?_
  refine x_aload_n C d_S_addSet_6 rfl rfl ?_
  refine x_get C d_S_addSet_7 0 rfl rfl i_S 2 (by decide) lk_S_9 rfl rfl ?_
  refine x_if_leN (tgt := 61) C d_S_addSet_10 (by decide) (by omega) (fun c10 => ?_) (fun c10 => ?_)
  · exact absurd c10 (by omega)
  · refine x_iload_n C d_S_addSet_13 rfl rfl ?_
    refine x_aload_n C d_S_addSet_14 rfl rfl ?_
    refine x_get C d_S_addSet_15 0 rfl rfl i_S 0 (by decide) lk_S_15 rfl rfl ?_
    refine x_alen C d_S_addSet_18 1 rfl ?_
    refine x_aload_n C d_S_addSet_19 rfl rfl ?_
    refine x_callVI (wr := [(f, .inr (0, [.ref f1, .ref f2, .int (nI (s2.length))])), (f1, .inl (cA, cap2, .inl (L2))), (f2, .inl (cA, mx2, .inl (Bd2)))]) (rest := [.int (nI cap), .int (nI ((s2.getD i []).length))]) C (c_S_used hH (by simp)) d_S_addSet_20 cd_S_used lk_S_59 dd_S_used rfl ⟨Nat.le_of_ble_eq_true rfl, Nat.le_of_ble_eq_true rfl⟩ ⟨Nat.le_refl _, Nat.le_refl _⟩ 0 0 rfl rfl [0, 1, 2] [3, 4, 5] rfl rfl (by decide) (by decide) (by decide) rfl (Nat.le_of_ble_eq_true rfl) ?_
    intro r_ u_ hp_
    obtain rfl := hp_
    refine x_top (y := (nI (tot ss + s0.length))) (by rw [tot_app, tot_one]) ?_
    refine x_isubN C d_S_addSet_23 (by omega) ?_
    refine x_icmp_gtN (tgt := 61) C d_S_addSet_24 (by decide) (by omega) (by omega) (fun c24 => ?_) (fun c24 => ?_)
    · exact absurd c24 (by omega)
    · refine x_aload_n C d_S_addSet_27 rfl rfl ?_
      refine x_get C d_S_addSet_28 0 rfl rfl i_S 0 (by decide) lk_S_15 rfl rfl ?_
      refine x_aload_n C d_S_addSet_31 rfl rfl ?_
      refine x_iload_n C d_S_addSet_32 rfl rfl ?_
      refine x_callVI (wr := [(h, .inr (0, [.ref h1, .ref h2, .int (nI (ss.length + 1))])), (h1, .inl (cA, cap, .inl (L))), (h2, .inl (cA, mx, .inl (Bd)))]) (rest := [.ref f1]) C (c_S_startOf (i := i) hF rfl (by omega)) d_S_addSet_33 cd_S_startOf lk_S_31 dd_S_startOf rfl ⟨Nat.le_of_ble_eq_true rfl, Nat.le_of_ble_eq_true rfl⟩ ⟨Nat.le_refl _, Nat.le_refl _⟩ 0 0 rfl rfl [0, 1, 2] [3, 4, 5] rfl rfl (by decide) (by decide) (by decide) rfl (Nat.le_of_ble_eq_true rfl) ?_
      intro r_ u_ hp_
      obtain rfl := hp_
      refine x_aload_n C d_S_addSet_36 rfl rfl ?_
      refine x_get C d_S_addSet_37 0 rfl rfl i_S 0 (by decide) lk_S_15 rfl rfl ?_
      refine x_aload_n C d_S_addSet_40 rfl rfl ?_
      refine x_callVI (wr := [(f, .inr (0, [.ref f1, .ref f2, .int (nI (s2.length))])), (f1, .inl (cA, cap2, .inl (L2))), (f2, .inl (cA, mx2, .inl (Bd2)))]) (rest := [.ref h1, .int (nI (off s2 i)), .ref f1]) C (c_S_used hH (by simp)) d_S_addSet_41 cd_S_used lk_S_59 dd_S_used rfl ⟨Nat.le_of_ble_eq_true rfl, Nat.le_of_ble_eq_true rfl⟩ ⟨Nat.le_refl _, Nat.le_refl _⟩ 0 0 rfl rfl [0, 1, 2] [3, 4, 5] rfl rfl (by decide) (by decide) (by decide) rfl (Nat.le_of_ble_eq_true rfl) ?_
      intro r_ u_ hp_
      obtain rfl := hp_
      refine x_top (y := (nI (tot ss + s0.length))) (by rw [tot_app, tot_one]) ?_
      refine x_iload_n C d_S_addSet_44 rfl rfl ?_
      refine x_copyi (ws' := [(f, .inr (0, [.ref f1, .ref f2, .int (nI (s2.length))])), (f1, .inl (cA, cap2, .inl (L2))), (f2, .inl (cA, mx2, .inl (Bd2))), (h, .inr (0, [.ref h1, .ref h2, .int (nI (ss.length + 1))])), (h1, .inl (cA, cap, .inl (va_cpy L2 L (off s2 i) (tot ss + s0.length) ((s2.getD i []).length)))), (h2, .inl (cA, mx, .inl (Bd)))]) C d_S_addSet_45 lk_S_63 ac_nat ac_st ini_Sy 1 4 rfl rfl (by omega) (by omega) (by omega) (by omega) (Nat.le_of_ble_eq_true rfl) (Nat.le_of_ble_eq_true rfl) rfl ?_
      refine x_aload_n C d_S_addSet_48 rfl rfl ?_
      refine x_get C d_S_addSet_49 3 rfl rfl i_S 1 (by decide) lk_S_19 rfl rfl ?_
      refine x_aload_n C d_S_addSet_52 rfl rfl ?_
      refine x_get C d_S_addSet_53 3 rfl rfl i_S 2 (by decide) lk_S_9 rfl rfl ?_
      refine x_dup2 C d_S_addSet_56 rfl rfl ?_
      refine x_iald C d_S_addSet_57 5 rfl (by omega) (by omega) ?_
      refine x_top (y := (nI (tot ss + s0.length))) hn.2.2.2.2.1 ?_
      refine x_iload_n C d_S_addSet_58 rfl rfl ?_
      refine x_iaddN C d_S_addSet_59  ?_
      refine x_iast (ws' := [(f, .inr (0, [.ref f1, .ref f2, .int (nI (s2.length))])), (f1, .inl (cA, cap2, .inl (L2))), (f2, .inl (cA, mx2, .inl (Bd2))), (h, .inr (0, [.ref h1, .ref h2, .int (nI (ss.length + 1))])), (h1, .inl (cA, cap, .inl (va_cpy L2 L (off s2 i) (tot ss + s0.length) ((s2.getD i []).length)))), (h2, .inl (cA, mx, .inl (upd Bd (ss.length + 1) (nI ((tot ss + s0.length) + ((s2.getD i []).length))))))]) C d_S_addSet_60 5 rfl (by omega) (by omega) rfl ?_
      refine x_perm (ws' := [(h, .inr (0, [.ref h1, .ref h2, .int (nI (ss.length + 1))])), (h1, .inl (cA, cap, .inl (va_cpy L2 L (off s2 i) (tot ss + s0.length) ((s2.getD i []).length)))), (h2, .inl (cA, mx, .inl (upd Bd (ss.length + 1) (nI ((tot ss + s0.length) + ((s2.getD i []).length)))))), (f, .inr (0, [.ref f1, .ref f2, .int (nI (s2.length))])), (f1, .inl (cA, cap2, .inl (L2))), (f2, .inl (cA, mx2, .inl (Bd2)))]) [3, 4, 5, 0, 1, 2] (by decide) rfl ?_
      exact x_vret C hr d_S_addSet_61 (va_cpy L2 L (off s2 i) (tot ss + s0.length) ((s2.getD i []).length), upd Bd (ss.length + 1) (nI ((tot ss + s0.length) + ((s2.getD i []).length)))) rfl (hH.addset hc (fun j hj => hF.ln hi hj) rfl)
set_option maxHeartbeats 4000000 in
theorem c_S_addSet_self {l : Launch} {D : va_G} {cA : ClassId} {h h1 h2 cap mx : Nat} {L Bd : Nat → Int32} {k : Nat} {ss : List (List Int32)} {s0 : List Int32} (hH : Hs cap mx L Bd (ss ++ [s0])) (hk : ss.length + 1 = k) {i : Nat} {t0 : List Int32} (hi : i < ss.length + 1) (ht : (ss ++ [s0]).getD i [] = t0) (hc : tot ss + s0.length + t0.length ≤ cap)  : CtV l D cA y_S_addSet b_S_addSet 4 ({ frames := 3, cells := 0, slots := 0, locals := 63 } : Room) [.ref h, .ref h, .int (nI i)] (shW cA h h1 h2 cap mx L Bd k) (fun u : (Nat → Int32) × (Nat → Int32) => Hs cap mx u.1 u.2 (ss ++ [s0 ++ t0])) (fun u => shW cA h h1 h2 cap mx u.1 u.2 (k)) := by
  subst hk
  refine CtV.start (lv0 := [(0, .ref h), (1, .ref h), (2, .int (nI i))]) (by decide) rfl (Nat.le_of_ble_eq_true rfl) ?_
  intro p e s m args below meth c A C hr hin
  have hn := hH.in
  have hi2 : i < (ss ++ [s0]).length := by simp; omega
  have ho := off_succ hi2
  rw [ht] at ho
  have ho2 := off_le (ss ++ [s0]) (i + 1)
  rw [tot_app, tot_one] at ho2
  refine x_aload_n C d_S_addSet_0 rfl rfl ?_
  refine x_iload_n C d_S_addSet_1 rfl rfl ?_
  refine x_callVI (wr := []) (rest := []) C (c_S_size (i := i) hH (by simp) (by simp; omega)) d_S_addSet_2 cd_S_size lk_S_35 dd_S_size rfl ⟨Nat.le_of_ble_eq_true rfl, Nat.le_of_ble_eq_true rfl⟩ ⟨Nat.le_refl _, Nat.le_refl _⟩ 0 0 rfl rfl [0, 1, 2] [] rfl rfl (by decide) (by decide) (by decide) rfl (Nat.le_of_ble_eq_true rfl) ?_
  intro r_ u_ hp_
  obtain rfl := hp_
  refine x_top (y := (nI (t0.length))) (by rw [ht]) ?_
  refine x_istore_n (lv' := [(3, .int (nI (t0.length))), (0, .ref h), (1, .ref h), (2, .int (nI i))]) C d_S_addSet_5 rfl (by decide) rfl ?_
  refine x_aload_n C d_S_addSet_6 rfl rfl ?_
  refine x_get C d_S_addSet_7 0 rfl rfl i_S 2 (by decide) lk_S_9 rfl rfl ?_
  refine x_if_leN (tgt := 61) C d_S_addSet_10 (by decide) (by omega) (fun c10 => ?_) (fun c10 => ?_)
  · exact absurd c10 (by omega)
  · refine x_iload_n C d_S_addSet_13 rfl rfl ?_
    refine x_aload_n C d_S_addSet_14 rfl rfl ?_
    refine x_get C d_S_addSet_15 0 rfl rfl i_S 0 (by decide) lk_S_15 rfl rfl ?_
    refine x_alen C d_S_addSet_18 1 rfl ?_
    refine x_aload_n C d_S_addSet_19 rfl rfl ?_
    refine x_callVI (wr := []) (rest := [.int (nI cap), .int (nI (t0.length))]) C (c_S_used hH (by simp)) d_S_addSet_20 cd_S_used lk_S_59 dd_S_used rfl ⟨Nat.le_of_ble_eq_true rfl, Nat.le_of_ble_eq_true rfl⟩ ⟨Nat.le_refl _, Nat.le_refl _⟩ 0 0 rfl rfl [0, 1, 2] [] rfl rfl (by decide) (by decide) (by decide) rfl (Nat.le_of_ble_eq_true rfl) ?_
    intro r_ u_ hp_
    obtain rfl := hp_
    refine x_top (y := (nI (tot ss + s0.length))) (by rw [tot_app, tot_one]) ?_
    refine x_isubN C d_S_addSet_23 (by omega) ?_
    refine x_icmp_gtN (tgt := 61) C d_S_addSet_24 (by decide) (by omega) (by omega) (fun c24 => ?_) (fun c24 => ?_)
    · exact absurd c24 (by omega)
    · refine x_aload_n C d_S_addSet_27 rfl rfl ?_
      refine x_get C d_S_addSet_28 0 rfl rfl i_S 0 (by decide) lk_S_15 rfl rfl ?_
      refine x_aload_n C d_S_addSet_31 rfl rfl ?_
      refine x_iload_n C d_S_addSet_32 rfl rfl ?_
      refine x_callVI (wr := []) (rest := [.ref h1]) C (c_S_startOf (i := i) hH (by simp) (by simp; omega)) d_S_addSet_33 cd_S_startOf lk_S_31 dd_S_startOf rfl ⟨Nat.le_of_ble_eq_true rfl, Nat.le_of_ble_eq_true rfl⟩ ⟨Nat.le_refl _, Nat.le_refl _⟩ 0 0 rfl rfl [0, 1, 2] [] rfl rfl (by decide) (by decide) (by decide) rfl (Nat.le_of_ble_eq_true rfl) ?_
      intro r_ u_ hp_
      obtain rfl := hp_
      refine x_aload_n C d_S_addSet_36 rfl rfl ?_
      refine x_get C d_S_addSet_37 0 rfl rfl i_S 0 (by decide) lk_S_15 rfl rfl ?_
      refine x_aload_n C d_S_addSet_40 rfl rfl ?_
      refine x_callVI (wr := []) (rest := [.ref h1, .int (nI (off (ss ++ [s0]) i)), .ref h1]) C (c_S_used hH (by simp)) d_S_addSet_41 cd_S_used lk_S_59 dd_S_used rfl ⟨Nat.le_of_ble_eq_true rfl, Nat.le_of_ble_eq_true rfl⟩ ⟨Nat.le_refl _, Nat.le_refl _⟩ 0 0 rfl rfl [0, 1, 2] [] rfl rfl (by decide) (by decide) (by decide) rfl (Nat.le_of_ble_eq_true rfl) ?_
      intro r_ u_ hp_
      obtain rfl := hp_
      refine x_top (y := (nI (tot ss + s0.length))) (by rw [tot_app, tot_one]) ?_
      refine x_iload_n C d_S_addSet_44 rfl rfl ?_
      refine x_copyi (ws' := [(h, .inr (0, [.ref h1, .ref h2, .int (nI (ss.length + 1))])), (h1, .inl (cA, cap, .inl (va_cpy L L (off (ss ++ [s0]) i) (tot ss + s0.length) (t0.length)))), (h2, .inl (cA, mx, .inl (Bd)))]) C d_S_addSet_45 lk_S_63 ac_nat ac_st ini_Sy 1 1 rfl rfl (by omega) (by omega) (by omega) (by omega) (Nat.le_of_ble_eq_true rfl) (Nat.le_of_ble_eq_true rfl) rfl ?_
      refine x_aload_n C d_S_addSet_48 rfl rfl ?_
      refine x_get C d_S_addSet_49 0 rfl rfl i_S 1 (by decide) lk_S_19 rfl rfl ?_
      refine x_aload_n C d_S_addSet_52 rfl rfl ?_
      refine x_get C d_S_addSet_53 0 rfl rfl i_S 2 (by decide) lk_S_9 rfl rfl ?_
      refine x_dup2 C d_S_addSet_56 rfl rfl ?_
      refine x_iald C d_S_addSet_57 2 rfl (by omega) (by omega) ?_
      refine x_top (y := (nI (tot ss + s0.length))) hn.2.2.2.2.1 ?_
      refine x_iload_n C d_S_addSet_58 rfl rfl ?_
      refine x_iaddN C d_S_addSet_59  ?_
      refine x_iast (ws' := [(h, .inr (0, [.ref h1, .ref h2, .int (nI (ss.length + 1))])), (h1, .inl (cA, cap, .inl (va_cpy L L (off (ss ++ [s0]) i) (tot ss + s0.length) (t0.length)))), (h2, .inl (cA, mx, .inl (upd Bd (ss.length + 1) (nI ((tot ss + s0.length) + (t0.length))))))]) C d_S_addSet_60 2 rfl (by omega) (by omega) rfl ?_
      exact x_vret C hr d_S_addSet_61 (va_cpy L L (off (ss ++ [s0]) i) (tot ss + s0.length) (t0.length), upd Bd (ss.length + 1) (nI ((tot ss + s0.length) + (t0.length)))) rfl (hH.addset hc (fun j hj => by rw [hH.ln (by simp; omega) (by rw [ht]; exact hj), ht]) rfl)
end
section
/-! groups more, a group less -/
theorem ex_mem_le {w : Nat × Nat} : ∀ {ws : List (Nat × Nat)}, w ∈ ws → w.2 ≤ (ex ws).length
  | [], h => by simp at h
  | x :: ws, h => by
    rw [ex_cons, List.length_append, List.length_replicate]
    rcases List.mem_cons.mp h with rfl | h
    · omega
    · have := ex_mem_le h
      omega
theorem okw_fill {v : Nat × Nat} (hv : okw v) (h : 1 < v.2) : v.1 = 0 ∨ v.1 = AL := by
  rcases hv.2.2 with q | q | q
  · exact Or.inl q
  · exact Or.inr q
  · omega
def pg (ws : List (Nat × Nat)) (b g : Nat) : List (Nat × Nat) := if g = 0 then ws else push ws b g
def tk (ws : List (Nat × Nat)) (v : Nat × Nat) : List (Nat × Nat) := if v.2 ≤ 1 then ws else ws ++ [(v.1, v.2 - 1)]
theorem map_snoc (ws : List (Nat × Nat)) (v : Nat × Nat) : (ws ++ [v]).map enc = ws.map enc ++ [enc v] := by simp
set_option maxHeartbeats 4000000 in
theorem c_S_addGroups_0 {l : Launch} {D : va_G} {cA : ClassId} {h h1 h2 cap mx : Nat} {L Bd : Nat → Int32} {k : Nat} {ss : List (List Int32)} {s0 : List Int32} (hH : Hs cap mx L Bd (ss ++ [s0])) (hk : ss.length + 1 = k) {b : Nat}  : CtV l D cA y_S_addGroups b_S_addGroups 4 ({ frames := 4, cells := 0, slots := 0, locals := 83 } : Room) [.ref h, .int (nI b), .int (nI 0)] (shW cA h h1 h2 cap mx L Bd k) (fun u : (Nat → Int32) × (Nat → Int32) => Hs cap mx u.1 u.2 (ss ++ [s0])) (fun u => shW cA h h1 h2 cap mx u.1 u.2 (k)) := by
  subst hk
  refine CtV.start (lv0 := [(0, .ref h), (1, .int (nI b)), (2, .int (nI 0))]) (by decide) rfl (Nat.le_of_ble_eq_true rfl) ?_
  intro p e s m args below meth c A C hr hin
  refine x_iload_n C d_S_addGroups_0 rfl rfl ?_
  refine x_iconst (v := (nI (1))) C d_S_addGroups_1 (by decide) ?_
  refine x_icmp_geN (tgt := 6) C d_S_addGroups_2 (by decide) (by omega) (by omega) (fun c2 => ?_) (fun c2 => ?_)
  · exact absurd c2 (by omega)
  · exact x_vret C hr d_S_addGroups_5 (L, Bd) rfl (hH)
set_option maxHeartbeats 4000000 in
theorem c_S_addGroups_lit {l : Launch} {D : va_G} {cA : ClassId} {h h1 h2 cap mx : Nat} {L Bd : Nat → Int32} {k : Nat} {ss : List (List Int32)} {s0 : List Int32} (hH : Hs cap mx L Bd (ss ++ [s0])) (hk : ss.length + 1 = k) {b : Nat} (hb : ¬ (b = 0 ∨ b = AL)) (hb2 : b ≤ AL) (hc : tot ss + s0.length < cap)  : CtV l D cA y_S_addGroups b_S_addGroups 4 ({ frames := 4, cells := 0, slots := 0, locals := 83 } : Room) [.ref h, .int (nI b), .int (nI 1)] (shW cA h h1 h2 cap mx L Bd k) (fun u : (Nat → Int32) × (Nat → Int32) => Hs cap mx u.1 u.2 (ss ++ [s0 ++ [nI b]])) (fun u => shW cA h h1 h2 cap mx u.1 u.2 (k)) := by
  subst hk
  refine CtV.start (lv0 := [(0, .ref h), (1, .int (nI b)), (2, .int (nI 1))]) (by decide) rfl (Nat.le_of_ble_eq_true rfl) ?_
  intro p e s m args below meth c A C hr hin
  have hA : AL = 2147483647 := rfl
  refine x_iload_n C d_S_addGroups_0 rfl rfl ?_
  refine x_iconst (v := (nI (1))) C d_S_addGroups_1 (by decide) ?_
  refine x_icmp_geN (tgt := 6) C d_S_addGroups_2 (by decide) (by omega) (by omega) (fun c2 => ?_) (fun c2 => ?_)
  · refine x_iload_n C d_S_addGroups_6 rfl rfl ?_
    refine x_if_eqN (tgt := 22) C d_S_addGroups_7 (by decide) (by omega) (fun c7 => ?_) (fun c7 => ?_)
    · exact absurd (Or.inl c7) hb
    · refine x_iload_n C d_S_addGroups_10 rfl rfl ?_
      refine x_ldc C d_S_addGroups_11 lk_S_52 ?_
      refine x_top (y := nI 2147483647) (by decide) ?_
      refine x_icmp_eqN (tgt := 22) C d_S_addGroups_13 (by decide) (by omega) (by omega) (fun c13 => ?_) (fun c13 => ?_)
      · exact absurd (Or.inr c13) hb
      · refine x_aload_n C d_S_addGroups_16 rfl rfl ?_
        refine x_iload_n C d_S_addGroups_17 rfl rfl ?_
        refine x_callVV (wr := []) (rest := []) C (c_S_addWord (w := nI b) hH rfl hc) d_S_addGroups_18 cd_S_addWord lk_S_83 dd_S_addWord rfl ⟨Nat.le_of_ble_eq_true rfl, Nat.le_of_ble_eq_true rfl⟩ ⟨Nat.le_refl _, Nat.le_refl _⟩ 0 0 rfl rfl [0, 1, 2] [] rfl rfl (by decide) (by decide) (by decide) rfl (Nat.le_of_ble_eq_true rfl) ?_
        intro u_ hp_
        exact x_vret C hr d_S_addGroups_21 u_ rfl (hp_)
  · exact absurd c2 (by omega)
set_option maxHeartbeats 4000000 in
theorem c_S_addGroups_nil {l : Launch} {D : va_G} {cA : ClassId} {h h1 h2 cap mx : Nat} {L Bd : Nat → Int32} {k : Nat} {ss : List (List Int32)} (hH : Hs cap mx L Bd (ss ++ [[]])) (hk : ss.length + 1 = k) {b g : Nat} (hb : b = 0 ∨ b = AL) (hg : 1 ≤ g) (hg2 : g < 2 ^ 24) (hc : tot ss < cap)  : CtV l D cA y_S_addGroups b_S_addGroups 4 ({ frames := 4, cells := 0, slots := 0, locals := 83 } : Room) [.ref h, .int (nI b), .int (nI g)] (shW cA h h1 h2 cap mx L Bd k) (fun u : (Nat → Int32) × (Nat → Int32) => Hs cap mx u.1 u.2 (ss ++ [[enc (b, g)]])) (fun u => shW cA h h1 h2 cap mx u.1 u.2 (k)) := by
  subst hk
  refine CtV.start (lv0 := [(0, .ref h), (1, .int (nI b)), (2, .int (nI g))]) (by decide) rfl (Nat.le_of_ble_eq_true rfl) ?_
  intro p e s m args below meth c A C hr hin
  have hA : AL = 2147483647 := rfl
  have hb2 : b ≤ 2147483647 := by omega
  refine x_iload_n C d_S_addGroups_0 rfl rfl ?_
  refine x_iconst (v := (nI (1))) C d_S_addGroups_1 (by decide) ?_
  refine x_icmp_geN (tgt := 6) C d_S_addGroups_2 (by decide) (by omega) (by omega) (fun c2 => ?_) (fun c2 => ?_)
  · refine x_iload_n C d_S_addGroups_6 rfl rfl ?_
    refine x_if_eqN (tgt := 22) C d_S_addGroups_7 (by decide) (by omega) (fun c7 => ?_) (fun c7 => ?_)
    · refine x_aload_n C d_S_addGroups_22 rfl rfl ?_
      refine x_callVI (wr := []) (rest := []) C (c_S_lastWord_nil hH rfl) d_S_addGroups_23 cd_S_lastWord lk_S_87 dd_S_lastWord rfl ⟨Nat.le_of_ble_eq_true rfl, Nat.le_of_ble_eq_true rfl⟩ ⟨Nat.le_refl _, Nat.le_refl _⟩ 0 0 rfl rfl [0, 1, 2] [] rfl rfl (by decide) (by decide) (by decide) rfl (Nat.le_of_ble_eq_true rfl) ?_
      intro r_ u_ hp_
      obtain rfl := hp_
      refine x_istore_n (lv' := [(3, .int (nI 0)), (0, .ref h), (1, .int (nI b)), (2, .int (nI g))]) C d_S_addGroups_26 rfl (by decide) rfl ?_
      refine x_iload_n C d_S_addGroups_27 rfl rfl ?_
      refine x_if_geN (tgt := 63) C d_S_addGroups_28 (by decide) (by omega) ?_
      refine x_aload_n C d_S_addGroups_63 rfl rfl ?_
      refine x_iload_n C d_S_addGroups_64 rfl rfl ?_
      refine x_iload_n C d_S_addGroups_65 rfl rfl ?_
      refine x_callSIN (wr := [(h, .inr (0, [.ref h1, .ref h2, .int (nI (ss.length + 1))])), (h1, .inl (cA, cap, .inl (L))), (h2, .inl (cA, mx, .inl (Bd)))]) (rest := [.ref h]) C (c_B_fillOf (b := b) (k := g) hb) d_S_addGroups_66 cd_B_fillOf lk_S_90 dd_B_fillOf rfl ⟨Nat.le_of_ble_eq_true rfl, Nat.le_of_ble_eq_true rfl⟩ ⟨Nat.le_refl _, Nat.le_refl _⟩ [] [0, 1, 2] rfl rfl (by decide) (by decide) (by decide) rfl (Nat.le_of_ble_eq_true rfl) ?_
      intro r_ u_ hp_
      obtain rfl := hp_
      refine x_callVV (wr := []) (rest := []) C (c_S_addWord (w := enc (b, g)) hH rfl (by simpa using hc)) d_S_addGroups_69 cd_S_addWord lk_S_83 dd_S_addWord rfl ⟨Nat.le_of_ble_eq_true rfl, Nat.le_of_ble_eq_true rfl⟩ ⟨Nat.le_refl _, Nat.le_refl _⟩ 0 0 rfl rfl [0, 1, 2] [] rfl rfl (by decide) (by decide) (by decide) rfl (Nat.le_of_ble_eq_true rfl) ?_
      intro u_ hp_
      exact x_vret C hr d_S_addGroups_72 u_ rfl (hp_)
    · refine x_iload_n C d_S_addGroups_10 rfl rfl ?_
      refine x_ldc C d_S_addGroups_11 lk_S_52 ?_
      refine x_top (y := nI 2147483647) (by decide) ?_
      refine x_icmp_eqN (tgt := 22) C d_S_addGroups_13 (by decide) (by omega) (by omega) (fun c13 => ?_) (fun c13 => ?_)
      · refine x_aload_n C d_S_addGroups_22 rfl rfl ?_
        refine x_callVI (wr := []) (rest := []) C (c_S_lastWord_nil hH rfl) d_S_addGroups_23 cd_S_lastWord lk_S_87 dd_S_lastWord rfl ⟨Nat.le_of_ble_eq_true rfl, Nat.le_of_ble_eq_true rfl⟩ ⟨Nat.le_refl _, Nat.le_refl _⟩ 0 0 rfl rfl [0, 1, 2] [] rfl rfl (by decide) (by decide) (by decide) rfl (Nat.le_of_ble_eq_true rfl) ?_
        intro r_ u_ hp_
        obtain rfl := hp_
        refine x_istore_n (lv' := [(3, .int (nI 0)), (0, .ref h), (1, .int (nI b)), (2, .int (nI g))]) C d_S_addGroups_26 rfl (by decide) rfl ?_
        refine x_iload_n C d_S_addGroups_27 rfl rfl ?_
        refine x_if_geN (tgt := 63) C d_S_addGroups_28 (by decide) (by omega) ?_
        refine x_aload_n C d_S_addGroups_63 rfl rfl ?_
        refine x_iload_n C d_S_addGroups_64 rfl rfl ?_
        refine x_iload_n C d_S_addGroups_65 rfl rfl ?_
        refine x_callSIN (wr := [(h, .inr (0, [.ref h1, .ref h2, .int (nI (ss.length + 1))])), (h1, .inl (cA, cap, .inl (L))), (h2, .inl (cA, mx, .inl (Bd)))]) (rest := [.ref h]) C (c_B_fillOf (b := b) (k := g) hb) d_S_addGroups_66 cd_B_fillOf lk_S_90 dd_B_fillOf rfl ⟨Nat.le_of_ble_eq_true rfl, Nat.le_of_ble_eq_true rfl⟩ ⟨Nat.le_refl _, Nat.le_refl _⟩ [] [0, 1, 2] rfl rfl (by decide) (by decide) (by decide) rfl (Nat.le_of_ble_eq_true rfl) ?_
        intro r_ u_ hp_
        obtain rfl := hp_
        refine x_callVV (wr := []) (rest := []) C (c_S_addWord (w := enc (b, g)) hH rfl (by simpa using hc)) d_S_addGroups_69 cd_S_addWord lk_S_83 dd_S_addWord rfl ⟨Nat.le_of_ble_eq_true rfl, Nat.le_of_ble_eq_true rfl⟩ ⟨Nat.le_refl _, Nat.le_refl _⟩ 0 0 rfl rfl [0, 1, 2] [] rfl rfl (by decide) (by decide) (by decide) rfl (Nat.le_of_ble_eq_true rfl) ?_
        intro u_ hp_
        exact x_vret C hr d_S_addGroups_72 u_ rfl (hp_)
      · exact absurd hb (by omega)
  · exact absurd c2 (by omega)
set_option maxHeartbeats 4000000 in
theorem c_S_addGroups_snoc {l : Launch} {D : va_G} {cA : ClassId} {h h1 h2 cap mx : Nat} {L Bd : Nat → Int32} {k : Nat} {ss : List (List Int32)} {ws : List (Nat × Nat)} {v : Nat × Nat} (hH : Hs cap mx L Bd (ss ++ [ws.map enc ++ [enc v]])) (hk : ss.length + 1 = k) (hv : okw v) (hv2 : v.2 < 2 ^ 24) {b g : Nat} (hb : b = 0 ∨ b = AL) (hg : 1 ≤ g) (hg2 : g < 2 ^ 24) (hc : tot ss + (ws.length + 1) < cap)  : CtV l D cA y_S_addGroups b_S_addGroups 4 ({ frames := 4, cells := 0, slots := 0, locals := 83 } : Room) [.ref h, .int (nI b), .int (nI g)] (shW cA h h1 h2 cap mx L Bd k) (fun u : (Nat → Int32) × (Nat → Int32) => Hs cap mx u.1 u.2 (ss ++ [(push (ws ++ [v]) b g).map enc])) (fun u => shW cA h h1 h2 cap mx u.1 u.2 (k)) := by
  subst hk
  refine CtV.start (lv0 := [(0, .ref h), (1, .int (nI b)), (2, .int (nI g))]) (by decide) rfl (Nat.le_of_ble_eq_true rfl) ?_
  intro p e s m args below meth c A C hr hin
  have hA : AL = 2147483647 := rfl
  have hb2 : b ≤ 2147483647 := by omega
  have hv3 : v.1 ≤ 2147483647 := hv.2.1
  have hn := hH.in
  rw [List.length_append, List.length_singleton] at hn
  refine x_iload_n C d_S_addGroups_0 rfl rfl ?_
  refine x_iconst (v := (nI (1))) C d_S_addGroups_1 (by decide) ?_
  refine x_icmp_geN (tgt := 6) C d_S_addGroups_2 (by decide) (by omega) (by omega) (fun c2 => ?_) (fun c2 => ?_)
  · refine x_iload_n C d_S_addGroups_6 rfl rfl ?_
    refine x_if_eqN (tgt := 22) C d_S_addGroups_7 (by decide) (by omega) (fun c7 => ?_) (fun c7 => ?_)
    · refine x_aload_n C d_S_addGroups_22 rfl rfl ?_
      refine x_callVI (wr := []) (rest := []) C (c_S_lastWord hH rfl) d_S_addGroups_23 cd_S_lastWord lk_S_87 dd_S_lastWord rfl ⟨Nat.le_of_ble_eq_true rfl, Nat.le_of_ble_eq_true rfl⟩ ⟨Nat.le_refl _, Nat.le_refl _⟩ 0 0 rfl rfl [0, 1, 2] [] rfl rfl (by decide) (by decide) (by decide) rfl (Nat.le_of_ble_eq_true rfl) ?_
      intro r_ u_ hp_
      obtain rfl := hp_
      refine x_istore_n (lv' := [(3, .int (enc v)), (0, .ref h), (1, .int (nI b)), (2, .int (nI g))]) C d_S_addGroups_26 rfl (by decide) rfl ?_
      refine x_iload_n C d_S_addGroups_27 rfl rfl ?_
      refine x_if_ge (tgt := 63) C d_S_addGroups_28 (by decide)  (fun c28 => ?_) (fun c28 => ?_)
      · refine x_aload_n C d_S_addGroups_63 rfl rfl ?_
        refine x_iload_n C d_S_addGroups_64 rfl rfl ?_
        refine x_iload_n C d_S_addGroups_65 rfl rfl ?_
        refine x_callSIN (wr := [(h, .inr (0, [.ref h1, .ref h2, .int (nI (ss.length + 1))])), (h1, .inl (cA, cap, .inl (L))), (h2, .inl (cA, mx, .inl (Bd)))]) (rest := [.ref h]) C (c_B_fillOf (b := b) (k := g) hb) d_S_addGroups_66 cd_B_fillOf lk_S_90 dd_B_fillOf rfl ⟨Nat.le_of_ble_eq_true rfl, Nat.le_of_ble_eq_true rfl⟩ ⟨Nat.le_refl _, Nat.le_refl _⟩ [] [0, 1, 2] rfl rfl (by decide) (by decide) (by decide) rfl (Nat.le_of_ble_eq_true rfl) ?_
        intro r_ u_ hp_
        obtain rfl := hp_
        refine x_callVV (wr := []) (rest := []) C (c_S_addWord (w := enc (b, g)) hH rfl (by simpa using hc)) d_S_addGroups_69 cd_S_addWord lk_S_83 dd_S_addWord rfl ⟨Nat.le_of_ble_eq_true rfl, Nat.le_of_ble_eq_true rfl⟩ ⟨Nat.le_refl _, Nat.le_refl _⟩ 0 0 rfl rfl [0, 1, 2] [] rfl rfl (by decide) (by decide) (by decide) rfl (Nat.le_of_ble_eq_true rfl) ?_
        intro u_ hp_
        exact x_vret C hr d_S_addGroups_72 u_ rfl (by rw [push_other _ _ _ _ (fun q => absurd (enc_fill (b := v.1) (k := v.2) (by rw [q.1]; exact q.2) hv.1 (by omega)) (Int32.not_lt.mpr c28)), map_snoc, map_snoc]; exact hp_)
      · refine x_iload_n C d_S_addGroups_31 rfl rfl ?_
        refine x_callSIN (wr := [(h, .inr (0, [.ref h1, .ref h2, .int (nI (ss.length + 1))])), (h1, .inl (cA, cap, .inl (L))), (h2, .inl (cA, mx, .inl (Bd)))]) (rest := []) C (c_B_bitsOf hv (by omega)) d_S_addGroups_32 cd_B_bitsOf lk_S_38 dd_B_bitsOf rfl ⟨Nat.le_of_ble_eq_true rfl, Nat.le_of_ble_eq_true rfl⟩ ⟨Nat.le_refl _, Nat.le_refl _⟩ [] [0, 1, 2] rfl rfl (by decide) (by decide) (by decide) rfl (Nat.le_of_ble_eq_true rfl) ?_
        intro r_ u_ hp_
        obtain rfl := hp_
        refine x_iload_n C d_S_addGroups_35 rfl rfl ?_
        refine x_icmp_neN (tgt := 63) C d_S_addGroups_36 (by decide) (by omega) (by omega) (fun c36 => ?_) (fun c36 => ?_)
        · refine x_aload_n C d_S_addGroups_63 rfl rfl ?_
          refine x_iload_n C d_S_addGroups_64 rfl rfl ?_
          refine x_iload_n C d_S_addGroups_65 rfl rfl ?_
          refine x_callSIN (wr := [(h, .inr (0, [.ref h1, .ref h2, .int (nI (ss.length + 1))])), (h1, .inl (cA, cap, .inl (L))), (h2, .inl (cA, mx, .inl (Bd)))]) (rest := [.ref h]) C (c_B_fillOf (b := b) (k := g) hb) d_S_addGroups_66 cd_B_fillOf lk_S_90 dd_B_fillOf rfl ⟨Nat.le_of_ble_eq_true rfl, Nat.le_of_ble_eq_true rfl⟩ ⟨Nat.le_refl _, Nat.le_refl _⟩ [] [0, 1, 2] rfl rfl (by decide) (by decide) (by decide) rfl (Nat.le_of_ble_eq_true rfl) ?_
          intro r_ u_ hp_
          obtain rfl := hp_
          refine x_callVV (wr := []) (rest := []) C (c_S_addWord (w := enc (b, g)) hH rfl (by simpa using hc)) d_S_addGroups_69 cd_S_addWord lk_S_83 dd_S_addWord rfl ⟨Nat.le_of_ble_eq_true rfl, Nat.le_of_ble_eq_true rfl⟩ ⟨Nat.le_refl _, Nat.le_refl _⟩ 0 0 rfl rfl [0, 1, 2] [] rfl rfl (by decide) (by decide) (by decide) rfl (Nat.le_of_ble_eq_true rfl) ?_
          intro u_ hp_
          exact x_vret C hr d_S_addGroups_72 u_ rfl (by rw [push_other _ _ _ _ (fun q => c36 q.1), map_snoc, map_snoc]; exact hp_)
        · refine x_aload_n C d_S_addGroups_39 rfl rfl ?_
          refine x_get C d_S_addGroups_40 0 rfl rfl i_S 0 (by decide) lk_S_15 rfl rfl ?_
          refine x_aload_n C d_S_addGroups_43 rfl rfl ?_
          refine x_callVI (wr := []) (rest := [.ref h1]) C (c_S_used hH (by simp)) d_S_addGroups_44 cd_S_used lk_S_59 dd_S_used rfl ⟨Nat.le_of_ble_eq_true rfl, Nat.le_of_ble_eq_true rfl⟩ ⟨Nat.le_refl _, Nat.le_refl _⟩ 0 0 rfl rfl [0, 1, 2] [] rfl rfl (by decide) (by decide) (by decide) rfl (Nat.le_of_ble_eq_true rfl) ?_
          intro r_ u_ hp_
          obtain rfl := hp_
          refine x_top (y := (nI (tot ss + ((ws.map enc).length + 1)))) (by rw [tot_app, tot_one]; simp) ?_
          refine x_iconst (v := (nI (1))) C d_S_addGroups_47 (by decide) ?_
          refine x_isubN C d_S_addGroups_48 (by omega) ?_
          refine x_top (y := (nI (tot ss + (ws.map enc).length))) (by congr 1) ?_
          refine x_iload_n C d_S_addGroups_49 rfl rfl ?_
          refine x_iload_n C d_S_addGroups_50 rfl rfl ?_
          refine x_callSIN (wr := [(h, .inr (0, [.ref h1, .ref h2, .int (nI (ss.length + 1))])), (h1, .inl (cA, cap, .inl (L))), (h2, .inl (cA, mx, .inl (Bd)))]) (rest := [.int (nI b), .int (nI (tot ss + (ws.map enc).length)), .ref h1]) C (c_B_groupsOf hv (by omega)) d_S_addGroups_51 cd_B_groupsOf lk_S_46 dd_B_groupsOf rfl ⟨Nat.le_of_ble_eq_true rfl, Nat.le_of_ble_eq_true rfl⟩ ⟨Nat.le_refl _, Nat.le_refl _⟩ [] [0, 1, 2] rfl rfl (by decide) (by decide) (by decide) rfl (Nat.le_of_ble_eq_true rfl) ?_
          intro r_ u_ hp_
          obtain rfl := hp_
          refine x_iload_n C d_S_addGroups_54 rfl rfl ?_
          refine x_iaddN C d_S_addGroups_55  ?_
          refine x_callSIN (wr := [(h, .inr (0, [.ref h1, .ref h2, .int (nI (ss.length + 1))])), (h1, .inl (cA, cap, .inl (L))), (h2, .inl (cA, mx, .inl (Bd)))]) (rest := [.int (nI (tot ss + (ws.map enc).length)), .ref h1]) C (c_B_fillOf (b := b) (k := v.2 + g) hb) d_S_addGroups_56 cd_B_fillOf lk_S_90 dd_B_fillOf rfl ⟨Nat.le_of_ble_eq_true rfl, Nat.le_of_ble_eq_true rfl⟩ ⟨Nat.le_refl _, Nat.le_refl _⟩ [] [0, 1, 2] rfl rfl (by decide) (by decide) (by decide) rfl (Nat.le_of_ble_eq_true rfl) ?_
          intro r_ u_ hp_
          obtain rfl := hp_
          refine x_iast (ws' := [(h, .inr (0, [.ref h1, .ref h2, .int (nI (ss.length + 1))])), (h1, .inl (cA, cap, .inl (upd L (tot ss + (ws.map enc).length) (enc (b, v.2 + g))))), (h2, .inl (cA, mx, .inl (Bd)))]) C d_S_addGroups_59 1 rfl (by omega) (by omega) rfl ?_
          refine x_goto (tgt := 72) C d_S_addGroups_60 (by decide) ?_
          exact x_vret C hr d_S_addGroups_72 (upd L (tot ss + (ws.map enc).length) (enc (b, v.2 + g)), Bd) rfl (by subst c36; rw [show v = (v.1, v.2) from rfl, push_same _ _ _ _ hb, map_snoc]; exact hH.setw)
    · refine x_iload_n C d_S_addGroups_10 rfl rfl ?_
      refine x_ldc C d_S_addGroups_11 lk_S_52 ?_
      refine x_top (y := nI 2147483647) (by decide) ?_
      refine x_icmp_eqN (tgt := 22) C d_S_addGroups_13 (by decide) (by omega) (by omega) (fun c13 => ?_) (fun c13 => ?_)
      · refine x_aload_n C d_S_addGroups_22 rfl rfl ?_
        refine x_callVI (wr := []) (rest := []) C (c_S_lastWord hH rfl) d_S_addGroups_23 cd_S_lastWord lk_S_87 dd_S_lastWord rfl ⟨Nat.le_of_ble_eq_true rfl, Nat.le_of_ble_eq_true rfl⟩ ⟨Nat.le_refl _, Nat.le_refl _⟩ 0 0 rfl rfl [0, 1, 2] [] rfl rfl (by decide) (by decide) (by decide) rfl (Nat.le_of_ble_eq_true rfl) ?_
        intro r_ u_ hp_
        obtain rfl := hp_
        refine x_istore_n (lv' := [(3, .int (enc v)), (0, .ref h), (1, .int (nI b)), (2, .int (nI g))]) C d_S_addGroups_26 rfl (by decide) rfl ?_
        refine x_iload_n C d_S_addGroups_27 rfl rfl ?_
        refine x_if_ge (tgt := 63) C d_S_addGroups_28 (by decide)  (fun c28 => ?_) (fun c28 => ?_)
        · refine x_aload_n C d_S_addGroups_63 rfl rfl ?_
          refine x_iload_n C d_S_addGroups_64 rfl rfl ?_
          refine x_iload_n C d_S_addGroups_65 rfl rfl ?_
          refine x_callSIN (wr := [(h, .inr (0, [.ref h1, .ref h2, .int (nI (ss.length + 1))])), (h1, .inl (cA, cap, .inl (L))), (h2, .inl (cA, mx, .inl (Bd)))]) (rest := [.ref h]) C (c_B_fillOf (b := b) (k := g) hb) d_S_addGroups_66 cd_B_fillOf lk_S_90 dd_B_fillOf rfl ⟨Nat.le_of_ble_eq_true rfl, Nat.le_of_ble_eq_true rfl⟩ ⟨Nat.le_refl _, Nat.le_refl _⟩ [] [0, 1, 2] rfl rfl (by decide) (by decide) (by decide) rfl (Nat.le_of_ble_eq_true rfl) ?_
          intro r_ u_ hp_
          obtain rfl := hp_
          refine x_callVV (wr := []) (rest := []) C (c_S_addWord (w := enc (b, g)) hH rfl (by simpa using hc)) d_S_addGroups_69 cd_S_addWord lk_S_83 dd_S_addWord rfl ⟨Nat.le_of_ble_eq_true rfl, Nat.le_of_ble_eq_true rfl⟩ ⟨Nat.le_refl _, Nat.le_refl _⟩ 0 0 rfl rfl [0, 1, 2] [] rfl rfl (by decide) (by decide) (by decide) rfl (Nat.le_of_ble_eq_true rfl) ?_
          intro u_ hp_
          exact x_vret C hr d_S_addGroups_72 u_ rfl (by rw [push_other _ _ _ _ (fun q => absurd (enc_fill (b := v.1) (k := v.2) (by rw [q.1]; exact q.2) hv.1 (by omega)) (Int32.not_lt.mpr c28)), map_snoc, map_snoc]; exact hp_)
        · refine x_iload_n C d_S_addGroups_31 rfl rfl ?_
          refine x_callSIN (wr := [(h, .inr (0, [.ref h1, .ref h2, .int (nI (ss.length + 1))])), (h1, .inl (cA, cap, .inl (L))), (h2, .inl (cA, mx, .inl (Bd)))]) (rest := []) C (c_B_bitsOf hv (by omega)) d_S_addGroups_32 cd_B_bitsOf lk_S_38 dd_B_bitsOf rfl ⟨Nat.le_of_ble_eq_true rfl, Nat.le_of_ble_eq_true rfl⟩ ⟨Nat.le_refl _, Nat.le_refl _⟩ [] [0, 1, 2] rfl rfl (by decide) (by decide) (by decide) rfl (Nat.le_of_ble_eq_true rfl) ?_
          intro r_ u_ hp_
          obtain rfl := hp_
          refine x_iload_n C d_S_addGroups_35 rfl rfl ?_
          refine x_icmp_neN (tgt := 63) C d_S_addGroups_36 (by decide) (by omega) (by omega) (fun c36 => ?_) (fun c36 => ?_)
          · refine x_aload_n C d_S_addGroups_63 rfl rfl ?_
            refine x_iload_n C d_S_addGroups_64 rfl rfl ?_
            refine x_iload_n C d_S_addGroups_65 rfl rfl ?_
            refine x_callSIN (wr := [(h, .inr (0, [.ref h1, .ref h2, .int (nI (ss.length + 1))])), (h1, .inl (cA, cap, .inl (L))), (h2, .inl (cA, mx, .inl (Bd)))]) (rest := [.ref h]) C (c_B_fillOf (b := b) (k := g) hb) d_S_addGroups_66 cd_B_fillOf lk_S_90 dd_B_fillOf rfl ⟨Nat.le_of_ble_eq_true rfl, Nat.le_of_ble_eq_true rfl⟩ ⟨Nat.le_refl _, Nat.le_refl _⟩ [] [0, 1, 2] rfl rfl (by decide) (by decide) (by decide) rfl (Nat.le_of_ble_eq_true rfl) ?_
            intro r_ u_ hp_
            obtain rfl := hp_
            refine x_callVV (wr := []) (rest := []) C (c_S_addWord (w := enc (b, g)) hH rfl (by simpa using hc)) d_S_addGroups_69 cd_S_addWord lk_S_83 dd_S_addWord rfl ⟨Nat.le_of_ble_eq_true rfl, Nat.le_of_ble_eq_true rfl⟩ ⟨Nat.le_refl _, Nat.le_refl _⟩ 0 0 rfl rfl [0, 1, 2] [] rfl rfl (by decide) (by decide) (by decide) rfl (Nat.le_of_ble_eq_true rfl) ?_
            intro u_ hp_
            exact x_vret C hr d_S_addGroups_72 u_ rfl (by rw [push_other _ _ _ _ (fun q => c36 q.1), map_snoc, map_snoc]; exact hp_)
          · refine x_aload_n C d_S_addGroups_39 rfl rfl ?_
            refine x_get C d_S_addGroups_40 0 rfl rfl i_S 0 (by decide) lk_S_15 rfl rfl ?_
            refine x_aload_n C d_S_addGroups_43 rfl rfl ?_
            refine x_callVI (wr := []) (rest := [.ref h1]) C (c_S_used hH (by simp)) d_S_addGroups_44 cd_S_used lk_S_59 dd_S_used rfl ⟨Nat.le_of_ble_eq_true rfl, Nat.le_of_ble_eq_true rfl⟩ ⟨Nat.le_refl _, Nat.le_refl _⟩ 0 0 rfl rfl [0, 1, 2] [] rfl rfl (by decide) (by decide) (by decide) rfl (Nat.le_of_ble_eq_true rfl) ?_
            intro r_ u_ hp_
            obtain rfl := hp_
            refine x_top (y := (nI (tot ss + ((ws.map enc).length + 1)))) (by rw [tot_app, tot_one]; simp) ?_
            refine x_iconst (v := (nI (1))) C d_S_addGroups_47 (by decide) ?_
            refine x_isubN C d_S_addGroups_48 (by omega) ?_
            refine x_top (y := (nI (tot ss + (ws.map enc).length))) (by congr 1) ?_
            refine x_iload_n C d_S_addGroups_49 rfl rfl ?_
            refine x_iload_n C d_S_addGroups_50 rfl rfl ?_
            refine x_callSIN (wr := [(h, .inr (0, [.ref h1, .ref h2, .int (nI (ss.length + 1))])), (h1, .inl (cA, cap, .inl (L))), (h2, .inl (cA, mx, .inl (Bd)))]) (rest := [.int (nI b), .int (nI (tot ss + (ws.map enc).length)), .ref h1]) C (c_B_groupsOf hv (by omega)) d_S_addGroups_51 cd_B_groupsOf lk_S_46 dd_B_groupsOf rfl ⟨Nat.le_of_ble_eq_true rfl, Nat.le_of_ble_eq_true rfl⟩ ⟨Nat.le_refl _, Nat.le_refl _⟩ [] [0, 1, 2] rfl rfl (by decide) (by decide) (by decide) rfl (Nat.le_of_ble_eq_true rfl) ?_
            intro r_ u_ hp_
            obtain rfl := hp_
            refine x_iload_n C d_S_addGroups_54 rfl rfl ?_
            refine x_iaddN C d_S_addGroups_55  ?_
            refine x_callSIN (wr := [(h, .inr (0, [.ref h1, .ref h2, .int (nI (ss.length + 1))])), (h1, .inl (cA, cap, .inl (L))), (h2, .inl (cA, mx, .inl (Bd)))]) (rest := [.int (nI (tot ss + (ws.map enc).length)), .ref h1]) C (c_B_fillOf (b := b) (k := v.2 + g) hb) d_S_addGroups_56 cd_B_fillOf lk_S_90 dd_B_fillOf rfl ⟨Nat.le_of_ble_eq_true rfl, Nat.le_of_ble_eq_true rfl⟩ ⟨Nat.le_refl _, Nat.le_refl _⟩ [] [0, 1, 2] rfl rfl (by decide) (by decide) (by decide) rfl (Nat.le_of_ble_eq_true rfl) ?_
            intro r_ u_ hp_
            obtain rfl := hp_
            refine x_iast (ws' := [(h, .inr (0, [.ref h1, .ref h2, .int (nI (ss.length + 1))])), (h1, .inl (cA, cap, .inl (upd L (tot ss + (ws.map enc).length) (enc (b, v.2 + g))))), (h2, .inl (cA, mx, .inl (Bd)))]) C d_S_addGroups_59 1 rfl (by omega) (by omega) rfl ?_
            refine x_goto (tgt := 72) C d_S_addGroups_60 (by decide) ?_
            exact x_vret C hr d_S_addGroups_72 (upd L (tot ss + (ws.map enc).length) (enc (b, v.2 + g)), Bd) rfl (by subst c36; rw [show v = (v.1, v.2) from rfl, push_same _ _ _ _ hb, map_snoc]; exact hH.setw)
      · exact absurd hb (by omega)
  · exact absurd c2 (by omega)
theorem c_S_addGroups {l : Launch} {D : va_G} {cA : ClassId} {h h1 h2 cap mx : Nat} {L Bd : Nat → Int32} {k : Nat} {ss : List (List Int32)} {ws : List (Nat × Nat)} (hH : Hs cap mx L Bd (ss ++ [ws.map enc])) (hk : ss.length + 1 = k) (hcn : canon ws) (hx : (ex ws).length < 2 ^ 24) {b g : Nat} (hb : b ≤ AL) (hw : 1 ≤ g → okw (b, g)) (hg : g < 2 ^ 24) (hc : tot ss + ws.length < cap) : CtV l D cA y_S_addGroups b_S_addGroups 4 ({ frames := 4, cells := 0, slots := 0, locals := 83 } : Room) [.ref h, .int (nI b), .int (nI g)] (shW cA h h1 h2 cap mx L Bd k) (fun u : (Nat → Int32) × (Nat → Int32) => Hs cap mx u.1 u.2 (ss ++ [(pg ws b g).map enc])) (fun u => shW cA h h1 h2 cap mx u.1 u.2 (k)) := by
  by_cases hg0 : g = 0
  · subst hg0
    rw [show pg ws b 0 = ws from rfl]
    exact c_S_addGroups_0 hH hk
  · rw [show pg ws b g = push ws b g from if_neg hg0]
    have hw1 := hw (by omega)
    by_cases hf : b = 0 ∨ b = AL
    · rcases List.eq_nil_or_concat ws with rfl | ⟨ws0, v, rfl⟩
      · exact c_S_addGroups_nil hH hk hf (by omega) hg (by simpa using hc)
      · rw [List.concat_eq_append] at *
        rw [map_snoc] at hH
        have h1 := ((canon_snoc ws0 v).mp hcn).2.1
        have h2 : v.2 ≤ (ex (ws0 ++ [v])).length := ex_mem_le (by simp)
        exact c_S_addGroups_snoc hH hk h1 (by omega) hf (by omega) hg (by simpa using hc)
    · have h1 : g = 1 := by
        rcases hw1.2.2 with q | q | q
        · exact absurd (Or.inl q) hf
        · exact absurd (Or.inr q) hf
        · exact q
      subst h1
      rw [push_lit _ _ _ hf, map_snoc, enc_lit (w := (b, 1)) hf]
      exact c_S_addGroups_lit hH hk hf hb (by simpa using hc)
theorem pg_ok {ws : List (Nat × Nat)} {b g : Nat} (hc : canon ws) (hw : 1 ≤ g → okw (b, g)) : canon (pg ws b g) ∧ ex (pg ws b g) = ex ws ++ List.replicate g b ∧ (pg ws b g).length ≤ ws.length + 1 := by
  by_cases hg0 : g = 0
  · subst hg0
    exact ⟨hc, by simp [pg], by simp [pg]⟩
  · rw [show pg ws b g = push ws b g from if_neg hg0]
    exact push_ok hc (hw (by omega))
theorem tk_ok {ws : List (Nat × Nat)} {v : Nat × Nat} (hc : canon (ws ++ [v])) : canon (tk ws v) ∧ ex (ws ++ [v]) = ex (tk ws v) ++ [v.1] ∧ (tk ws v).length ≤ ws.length + 1 := by
  have h := pop_ok hc
  have h1 := ((canon_snoc ws v).mp hc).2.1.1
  unfold tk
  by_cases h2 : v.2 ≤ 1
  · rw [if_pos h2]
    have := h.1 (by omega)
    exact ⟨this.1, this.2, by omega⟩
  · rw [if_neg h2]
    have := h.2 (by omega)
    exact ⟨this.2.2.1, this.2.2.2, by simp⟩
set_option maxHeartbeats 4000000 in
theorem c_S_takeGroup {l : Launch} {D : va_G} {cA : ClassId} {h h1 h2 cap mx : Nat} {L Bd : Nat → Int32} {k : Nat} {ss : List (List Int32)} {ws : List (Nat × Nat)} {v : Nat × Nat} (hH : Hs cap mx L Bd (ss ++ [ws.map enc ++ [enc v]])) (hk : ss.length + 1 = k) (hv : okw v) (hv2 : v.2 < 2 ^ 24)  : CtI l D cA y_S_takeGroup b_S_takeGroup 2 (some .int) ({ frames := 4, cells := 0, slots := 0, locals := 83 } : Room) [.ref h] (shW cA h h1 h2 cap mx L Bd k) (fun r (u : (Nat → Int32) × (Nat → Int32)) => r = nI v.1 ∧ Hs cap mx u.1 u.2 (ss ++ [(tk ws v).map enc])) (fun u => shW cA h h1 h2 cap mx u.1 u.2 (k)) := by
  subst hk
  refine CtI.start (lv0 := [(0, .ref h)]) (by decide) rfl (Nat.le_of_ble_eq_true rfl) ?_
  intro p e s m args below meth c A C hr hin
  have hA : AL = 2147483647 := rfl
  have hn := hH.in
  rw [List.length_append, List.length_singleton] at hn
  refine x_aload_n C d_S_takeGroup_0 rfl rfl ?_
  refine x_callVI (wr := []) (rest := []) C (c_S_lastWord hH rfl) d_S_takeGroup_1 cd_S_lastWord lk_S_87 dd_S_lastWord rfl ⟨Nat.le_of_ble_eq_true rfl, Nat.le_of_ble_eq_true rfl⟩ ⟨Nat.le_refl _, Nat.le_refl _⟩ 0 0 rfl rfl [0, 1, 2] [] rfl rfl (by decide) (by decide) (by decide) rfl (Nat.le_of_ble_eq_true rfl) ?_
  intro r_ u_ hp_
  obtain rfl := hp_
  refine x_istore_n (lv' := [(1, .int (enc v)), (0, .ref h)]) C d_S_takeGroup_4 rfl (by decide) rfl ?_
  refine x_iload_n C d_S_takeGroup_5 rfl rfl ?_
  refine x_if_ne (tgt := 11) C d_S_takeGroup_6 (by decide)  (fun c6 => ?_) (fun c6 => ?_)
  · refine x_iload_n C d_S_takeGroup_11 rfl rfl ?_
    refine x_callSIN (wr := [(h, .inr (0, [.ref h1, .ref h2, .int (nI (ss.length + 1))])), (h1, .inl (cA, cap, .inl (L))), (h2, .inl (cA, mx, .inl (Bd)))]) (rest := []) C (c_B_groupsOf hv (by omega)) d_S_takeGroup_12 cd_B_groupsOf lk_S_46 dd_B_groupsOf rfl ⟨Nat.le_of_ble_eq_true rfl, Nat.le_of_ble_eq_true rfl⟩ ⟨Nat.le_refl _, Nat.le_refl _⟩ [] [0, 1, 2] rfl rfl (by decide) (by decide) (by decide) rfl (Nat.le_of_ble_eq_true rfl) ?_
    intro r_ u_ hp_
    obtain rfl := hp_
    refine x_iconst (v := (nI (1))) C d_S_takeGroup_15 (by decide) ?_
    refine x_icmp_leN (tgt := 46) C d_S_takeGroup_16 (by decide) (by omega) (by omega) (fun c16 => ?_) (fun c16 => ?_)
    · refine x_aload_n C d_S_takeGroup_46 rfl rfl ?_
      refine x_get C d_S_takeGroup_47 0 rfl rfl i_S 1 (by decide) lk_S_19 rfl rfl ?_
      refine x_aload_n C d_S_takeGroup_50 rfl rfl ?_
      refine x_get C d_S_takeGroup_51 0 rfl rfl i_S 2 (by decide) lk_S_9 rfl rfl ?_
      refine x_dup2 C d_S_takeGroup_54 rfl rfl ?_
      refine x_iald C d_S_takeGroup_55 2 rfl (by omega) (by omega) ?_
      refine x_top (y := (nI (tot ss + ((ws.map enc).length + 1)))) hn.2.2.2.2.1 ?_
      refine x_iconst (v := (nI (1))) C d_S_takeGroup_56 (by decide) ?_
      refine x_isubN C d_S_takeGroup_57 (by omega) ?_
      refine x_top (y := (nI (tot ss + (ws.map enc).length))) (by congr 1) ?_
      refine x_iast (ws' := [(h, .inr (0, [.ref h1, .ref h2, .int (nI (ss.length + 1))])), (h1, .inl (cA, cap, .inl (L))), (h2, .inl (cA, mx, .inl (upd Bd (ss.length + 1) (nI (tot ss + (ws.map enc).length)))))]) C d_S_takeGroup_58 2 rfl (by omega) (by omega) rfl ?_
      refine x_iload_n C d_S_takeGroup_59 rfl rfl ?_
      refine x_callSIN (wr := [(h, .inr (0, [.ref h1, .ref h2, .int (nI (ss.length + 1))])), (h1, .inl (cA, cap, .inl (L))), (h2, .inl (cA, mx, .inl (upd Bd (ss.length + 1) (nI (tot ss + (ws.map enc).length)))))]) (rest := []) C (c_B_bitsOf hv (by omega)) d_S_takeGroup_60 cd_B_bitsOf lk_S_38 dd_B_bitsOf rfl ⟨Nat.le_of_ble_eq_true rfl, Nat.le_of_ble_eq_true rfl⟩ ⟨Nat.le_refl _, Nat.le_refl _⟩ [] [0, 1, 2] rfl rfl (by decide) (by decide) (by decide) rfl (Nat.le_of_ble_eq_true rfl) ?_
      intro r_ u_ hp_
      obtain rfl := hp_
      exact x_iret C hr d_S_takeGroup_63 (L, upd Bd (ss.length + 1) (nI (tot ss + (ws.map enc).length))) rfl (⟨rfl, by rw [tk, if_pos c16]; exact hH.lessw rfl⟩)
    · refine x_aload_n C d_S_takeGroup_19 rfl rfl ?_
      refine x_get C d_S_takeGroup_20 0 rfl rfl i_S 0 (by decide) lk_S_15 rfl rfl ?_
      refine x_aload_n C d_S_takeGroup_23 rfl rfl ?_
      refine x_callVI (wr := []) (rest := [.ref h1]) C (c_S_used hH (by simp)) d_S_takeGroup_24 cd_S_used lk_S_59 dd_S_used rfl ⟨Nat.le_of_ble_eq_true rfl, Nat.le_of_ble_eq_true rfl⟩ ⟨Nat.le_refl _, Nat.le_refl _⟩ 0 0 rfl rfl [0, 1, 2] [] rfl rfl (by decide) (by decide) (by decide) rfl (Nat.le_of_ble_eq_true rfl) ?_
      intro r_ u_ hp_
      obtain rfl := hp_
      refine x_top (y := (nI (tot ss + ((ws.map enc).length + 1)))) (by rw [tot_app, tot_one]; simp) ?_
      refine x_iconst (v := (nI (1))) C d_S_takeGroup_27 (by decide) ?_
      refine x_isubN C d_S_takeGroup_28 (by omega) ?_
      refine x_top (y := (nI (tot ss + (ws.map enc).length))) (by congr 1) ?_
      refine x_iload_n C d_S_takeGroup_29 rfl rfl ?_
      refine x_callSIN (wr := [(h, .inr (0, [.ref h1, .ref h2, .int (nI (ss.length + 1))])), (h1, .inl (cA, cap, .inl (L))), (h2, .inl (cA, mx, .inl (Bd)))]) (rest := [.int (nI (tot ss + (ws.map enc).length)), .ref h1]) C (c_B_bitsOf hv (by omega)) d_S_takeGroup_30 cd_B_bitsOf lk_S_38 dd_B_bitsOf rfl ⟨Nat.le_of_ble_eq_true rfl, Nat.le_of_ble_eq_true rfl⟩ ⟨Nat.le_refl _, Nat.le_refl _⟩ [] [0, 1, 2] rfl rfl (by decide) (by decide) (by decide) rfl (Nat.le_of_ble_eq_true rfl) ?_
      intro r_ u_ hp_
      obtain rfl := hp_
      refine x_iload_n C d_S_takeGroup_33 rfl rfl ?_
      refine x_callSIN (wr := [(h, .inr (0, [.ref h1, .ref h2, .int (nI (ss.length + 1))])), (h1, .inl (cA, cap, .inl (L))), (h2, .inl (cA, mx, .inl (Bd)))]) (rest := [.int (nI (v.1)), .int (nI (tot ss + (ws.map enc).length)), .ref h1]) C (c_B_groupsOf hv (by omega)) d_S_takeGroup_34 cd_B_groupsOf lk_S_46 dd_B_groupsOf rfl ⟨Nat.le_of_ble_eq_true rfl, Nat.le_of_ble_eq_true rfl⟩ ⟨Nat.le_refl _, Nat.le_refl _⟩ [] [0, 1, 2] rfl rfl (by decide) (by decide) (by decide) rfl (Nat.le_of_ble_eq_true rfl) ?_
      intro r_ u_ hp_
      obtain rfl := hp_
      refine x_iconst (v := (nI (1))) C d_S_takeGroup_37 (by decide) ?_
      refine x_isubN C d_S_takeGroup_38 (by omega) ?_
      refine x_callSIN (wr := [(h, .inr (0, [.ref h1, .ref h2, .int (nI (ss.length + 1))])), (h1, .inl (cA, cap, .inl (L))), (h2, .inl (cA, mx, .inl (Bd)))]) (rest := [.int (nI (tot ss + (ws.map enc).length)), .ref h1]) C (c_B_fillOf (b := v.1) (k := v.2 - 1) (okw_fill hv c16)) d_S_takeGroup_39 cd_B_fillOf lk_S_90 dd_B_fillOf rfl ⟨Nat.le_of_ble_eq_true rfl, Nat.le_of_ble_eq_true rfl⟩ ⟨Nat.le_refl _, Nat.le_refl _⟩ [] [0, 1, 2] rfl rfl (by decide) (by decide) (by decide) rfl (Nat.le_of_ble_eq_true rfl) ?_
      intro r_ u_ hp_
      obtain rfl := hp_
      refine x_iast (ws' := [(h, .inr (0, [.ref h1, .ref h2, .int (nI (ss.length + 1))])), (h1, .inl (cA, cap, .inl (upd L (tot ss + (ws.map enc).length) (enc (v.1, v.2 - 1))))), (h2, .inl (cA, mx, .inl (Bd)))]) C d_S_takeGroup_42 1 rfl (by omega) (by omega) rfl ?_
      refine x_goto (tgt := 59) C d_S_takeGroup_43 (by decide) ?_
      refine x_iload_n C d_S_takeGroup_59 rfl rfl ?_
      refine x_callSIN (wr := [(h, .inr (0, [.ref h1, .ref h2, .int (nI (ss.length + 1))])), (h1, .inl (cA, cap, .inl (upd L (tot ss + (ws.map enc).length) (enc (v.1, v.2 - 1))))), (h2, .inl (cA, mx, .inl (Bd)))]) (rest := []) C (c_B_bitsOf hv (by omega)) d_S_takeGroup_60 cd_B_bitsOf lk_S_38 dd_B_bitsOf rfl ⟨Nat.le_of_ble_eq_true rfl, Nat.le_of_ble_eq_true rfl⟩ ⟨Nat.le_refl _, Nat.le_refl _⟩ [] [0, 1, 2] rfl rfl (by decide) (by decide) (by decide) rfl (Nat.le_of_ble_eq_true rfl) ?_
      intro r_ u_ hp_
      obtain rfl := hp_
      exact x_iret C hr d_S_takeGroup_63 (upd L (tot ss + (ws.map enc).length) (enc (v.1, v.2 - 1)), Bd) rfl (⟨rfl, by rw [tk, if_neg (by omega), map_snoc]; exact hH.setw⟩)
  · exact absurd c6 (enc_ne0 hv (by omega))
end
section
/-! sets of rows, group by group -/
def PG (f : Nat → Bool) (k : Nat) : List Nat := (List.range k).map (gb f)
theorem GL_PG (f : Nat → Bool) (n : Nat) : GL f n = PG f ((n + 30) / 31) := rfl
theorem PG_len (f : Nat → Bool) (k : Nat) : (PG f k).length = k := by simp [PG]
theorem PG_succ (f : Nat → Bool) (k : Nat) : PG f (k + 1) = PG f k ++ [gb f k] := by simp [PG, List.range_succ]
theorem PG_congr {f h : Nat → Bool} {k : Nat} (e : ∀ g, g < k → gb f g = gb h g) : PG f k = PG h k := by
  apply List.map_congr_left
  intro g hg
  exact e g (List.mem_range.mp hg)
theorem PG_rep {f : Nat → Bool} {k B : Nat} : ∀ {t : Nat}, (∀ i, i < t → gb f (k + i) = B) → PG f (k + t) = PG f k ++ List.replicate t B
  | 0, _ => by simp
  | t + 1, h => by
    rw [← Nat.add_assoc, PG_succ, PG_rep (t := t) (fun i hi => h i (by omega)), h t (by omega), List.append_assoc, List.replicate_succ']
theorem hi_bit {x i : Nat} (hx : x ≤ AL) (hi : ¬ i < 31) : x.testBit i = false := by
  apply Nat.testBit_lt_two_pow
  have h1 : 2 ^ 31 ≤ 2 ^ i := Nat.pow_le_pow_right (by omega) (by omega)
  have h2 : x ≤ 2147483647 := hx
  omega
theorem gb_of {f : Nat → Bool} {g x : Nat} (hx : x ≤ AL) (h : ∀ i, i < 31 → x.testBit i = f (31 * g + i)) : x = gb f g := by
  apply Nat.eq_of_testBit_eq
  intro i
  rw [gb_bit]
  by_cases hi : i < 31
  · simp [hi, h i hi]
  · simp [hi, hi_bit hx hi]
/-- the rows n .. n + m - 1 more, in the set if c -/
def addr (f : Nat → Bool) (n m : Nat) (c : Bool) : Nat → Bool := fun r => f r || (c && (decide (n ≤ r) && decide (r < n + m)))
def sup (n : Nat) (f : Nat → Bool) : Prop := ∀ r, n ≤ r → f r = false
def cB (c : Bool) : Nat := if c then AL else 0
theorem cB_le (c : Bool) : cB c ≤ AL := by cases c <;> decide
theorem cB_bit (c : Bool) (i : Nat) (hi : i < 31) : (cB c).testBit i = c := by
  cases c
  · simp [cB]
  · simp [cB, AL_bit, hi]
theorem addr_sup {f : Nat → Bool} {n m : Nat} {c : Bool} (h : sup n f) : sup (n + m) (addr f n m c) := fun r hr => by
  have h1 : ¬ r < n + m := by omega
  simp [addr, h r (by omega), h1]
theorem addr_lo {f : Nat → Bool} {n m : Nat} {c : Bool} {r : Nat} (h : r < n) : addr f n m c r = f r := by
  have h1 : ¬ n ≤ r := by omega
  simp [addr, h1]
theorem addr_hi {f : Nat → Bool} {n m : Nat} {c : Bool} {r : Nat} (h : sup n f) (h1 : n ≤ r) : addr f n m c r = (c && decide (r < n + m)) := by
  simp [addr, h r h1, h1]
theorem ar_pre {f : Nat → Bool} {n m : Nat} {c : Bool} : PG (addr f n m c) (n / 31) = PG f (n / 31) := PG_congr fun g hg => gb_eq fun k hk => addr_lo (by omega)
/-- the group that was begun -/
theorem ar_begun {f : Nat → Bool} {n m : Nat} {c : Bool} (hs : sup n f) (h0 : 0 < n % 31) : gb f (n / 31) ||| ((cB c &&& (2 ^ (min (31 - n % 31) m) - 1)) * 2 ^ (n % 31)) = gb (addr f n m c) (n / 31) := by
  have hlt : cB c &&& (2 ^ (min (31 - n % 31) m) - 1) < 2 ^ (31 - n % 31) := by
    have h1 : cB c &&& (2 ^ (min (31 - n % 31) m) - 1) ≤ 2 ^ (min (31 - n % 31) m) - 1 := Nat.and_le_right
    have h2 : 2 ^ (min (31 - n % 31) m) ≤ 2 ^ (31 - n % 31) := Nat.pow_le_pow_right (by omega) (by omega)
    have h3 : 0 < 2 ^ (min (31 - n % 31) m) := Nat.two_pow_pos _
    omega
  have hle : (cB c &&& (2 ^ (min (31 - n % 31) m) - 1)) * 2 ^ (n % 31) < 2 ^ 31 := by
    have h1 : 2 ^ 31 = 2 ^ (31 - n % 31) * 2 ^ (n % 31) := by rw [← Nat.pow_add]; congr 1; omega
    rw [h1]
    exact Nat.mul_lt_mul_of_pos_right hlt (Nat.two_pow_pos _)
  refine gb_of ?_ fun i hi => ?_
  · have h1 := gb_lt f (n / 31)
    have h2 : _ < 2 ^ 31 := Nat.or_lt_two_pow h1 hle
    show _ ≤ 2147483647
    omega
  · rw [Nat.testBit_or, gb_bit, ← Nat.shiftLeft_eq, Nat.testBit_shiftLeft, Nat.testBit_and, Nat.testBit_two_pow_sub_one]
    by_cases hb : n % 31 ≤ i
    · rw [cB_bit c _ (by omega)]
      have e1 : n ≤ 31 * (n / 31) + i := by omega
      rw [addr_hi hs e1, hs _ e1]
      have e2 : decide (i - n % 31 < min (31 - n % 31) m) = decide (31 * (n / 31) + i < n + m) := by
        congr 1
        exact propext ⟨fun h => by omega, fun h => by omega⟩
      rw [e2]
      simp [hb]
    · rw [addr_lo (by omega)]
      have : ¬ i ≥ n % 31 := hb
      simp [hi, this]
/-- whole groups behind it -/
theorem ar_mid {f : Nat → Bool} {n m k t : Nat} {c : Bool} (hs : sup n f) (h1 : n ≤ 31 * k) (h2 : 31 * (k + t) ≤ n + m) : PG (addr f n m c) (k + t) = PG (addr f n m c) k ++ List.replicate t (cB c) := PG_rep fun i hi => (gb_of (cB_le c) fun j hj => by
  have h3 : 31 * (k + i) + j < n + m := by omega
  rw [cB_bit c j hj, addr_hi hs (by omega)]
  simp [h3]).symm
/-- the last one, begun anew -/
theorem ar_last {f : Nat → Bool} {n m k : Nat} {c : Bool} (hs : sup n f) (h1 : n ≤ 31 * k) (h2 : 31 * k ≤ n + m) (h3 : n + m - 31 * k < 31) : cB c &&& (2 ^ (n + m - 31 * k) - 1) = gb (addr f n m c) k := by
  refine gb_of ?_ fun i hi => ?_
  · exact Nat.le_trans Nat.and_le_left (cB_le c)
  · rw [Nat.testBit_and, Nat.testBit_two_pow_sub_one, cB_bit c i hi, addr_hi hs (by omega)]
    congr 1
    congr 1
    exact propext ⟨fun h => by omega, fun h => by omega⟩
theorem ar_shl {f : Nat → Bool} {n m : Nat} {c : Bool} {v : Nat} : nI v ||| ((nI (cB c) &&& nI (2 ^ (min (31 - n % 31) m) - 1)) <<< (nI (n % 31) &&& 31)) = nI (v ||| ((cB c &&& (2 ^ (min (31 - n % 31) m) - 1)) * 2 ^ (n % 31))) := by
  have hlt : cB c &&& (2 ^ (min (31 - n % 31) m) - 1) < 2 ^ (31 - n % 31) := by
    have h1 : cB c &&& (2 ^ (min (31 - n % 31) m) - 1) ≤ 2 ^ (min (31 - n % 31) m) - 1 := Nat.and_le_right
    have h2 : 2 ^ (min (31 - n % 31) m) ≤ 2 ^ (31 - n % 31) := Nat.pow_le_pow_right (by omega) (by omega)
    have h3 : 0 < 2 ^ (min (31 - n % 31) m) := Nat.two_pow_pos _
    omega
  have hle : (cB c &&& (2 ^ (min (31 - n % 31) m) - 1)) * 2 ^ (n % 31) < 2 ^ 31 := by
    have h1 : 2 ^ 31 = 2 ^ (31 - n % 31) * 2 ^ (n % 31) := by rw [← Nat.pow_add]; congr 1; omega
    rw [h1]
    exact Nat.mul_lt_mul_of_pos_right hlt (Nat.two_pow_pos _)
  rw [nx_and, nx_shl (by omega) (by omega), nx_or]
/-- all other rows -/
def fnot (f : Nat → Bool) (n : Nat) : Nat → Bool := fun r => decide (r < n) && !f r
theorem fnot_sup (f : Nat → Bool) (n : Nat) : sup n (fnot f n) := fun r hr => by
  have : ¬ r < n := by omega
  simp [fnot, this]
theorem not_whole {f : Nat → Bool} {n g : Nat} (h : 31 * g + 31 ≤ n) : gb f g ^^^ AL = gb (fnot f n) g := by
  refine gb_of ?_ fun i hi => ?_
  · have h1 := gb_lt f g
    have h2 : gb f g ^^^ AL < 2 ^ 31 := Nat.xor_lt_two_pow h1 (by decide)
    show _ ≤ 2147483647
    omega
  · have h2 : 31 * g + i < n := by omega
    rw [Nat.testBit_xor, AL_bit, gb_bit]
    simp [fnot, hi, h2]
theorem not_last {f : Nat → Bool} {n g : Nat} (h0 : 31 * g ≤ n) (h1 : n - 31 * g < 31) : (gb f g ^^^ AL) &&& (2 ^ (n - 31 * g) - 1) = gb (fnot f n) g := by
  refine gb_of ?_ fun i hi => ?_
  · have h1 := gb_lt f g
    have h2 : gb f g ^^^ AL < 2 ^ 31 := Nat.xor_lt_two_pow h1 (by decide)
    have h3 : (gb f g ^^^ AL) &&& (2 ^ (n - 31 * g) - 1) ≤ gb f g ^^^ AL := Nat.and_le_left
    show _ ≤ 2147483647
    omega
  · rw [Nat.testBit_and, Nat.testBit_xor, AL_bit, gb_bit, Nat.testBit_two_pow_sub_one]
    have e : decide (i < n - 31 * g) = decide (31 * g + i < n) := by
      congr 1
      exact propext ⟨fun h => by omega, fun h => by omega⟩
    rw [e]
    simp [fnot, hi, Bool.and_comm]
theorem okw_not {w : Nat × Nat} (h : okw w) : okw (w.1 ^^^ AL, w.2) := by
  obtain ⟨h1, h2, h3⟩ := h
  have h4 : w.1 < 2 ^ 31 := by have : w.1 ≤ 2147483647 := h2; omega
  refine ⟨h1, ?_, ?_⟩
  · have : w.1 ^^^ AL < 2 ^ 31 := Nat.xor_lt_two_pow h4 (by decide)
    show _ ≤ 2147483647
    omega
  · rcases h3 with q | q | q
    · right; left
      dsimp only
      rw [q]
      decide
    · left
      dsimp only
      rw [q]
      decide
    · exact Or.inr (Or.inr q)
end
section
/-! rows more -/
theorem okw_one {b : Nat} (h : b ≤ AL) : okw (b, 1) := ⟨Nat.le_refl 1, h, Or.inr (Or.inr rfl)⟩
theorem okw_cB {cb : Bool} {g : Nat} (h : 1 ≤ g) : okw (cB cb, g) := ⟨h, cB_le cb, by cases cb <;> simp [cB]⟩
theorem Rep.snoc {n : Nat} {f : Nat → Bool} {ws : List (Nat × Nat)} (h : Rep n f ws) (h0 : 0 < n) : ∃ ws0 v, ws = ws0 ++ [v] := by
  rcases List.eq_nil_or_concat ws with rfl | ⟨ws0, v, rfl⟩
  · have := congrArg List.length h.2
    rw [GL_len] at this
    simp [ex] at this
    omega
  · exact ⟨ws0, v, by rw [List.concat_eq_append]⟩
theorem Rep.small {n : Nat} {f : Nat → Bool} {ws : List (Nat × Nat)} (h : Rep n f ws) (hn : n ≤ 1000000) : (ex ws).length < 2 ^ 24 := by
  rw [h.2, GL_len]
  omega
theorem Rep.last {n : Nat} {f : Nat → Bool} {ws : List (Nat × Nat)} {v : Nat × Nat} (h : Rep n f (ws ++ [v])) (h0 : 0 < n % 31) : canon (tk ws v) ∧ ex (tk ws v) = PG f (n / 31) ∧ v.1 = gb f (n / 31) ∧ okw v ∧ (tk ws v).length ≤ ws.length + 1 := by
  have h1 := tk_ok h.1
  have h2 : ex (tk ws v) ++ [v.1] = PG f (n / 31) ++ [gb f (n / 31)] := by
    rw [← h1.2.1, h.2, GL_PG, show (n + 30) / 31 = n / 31 + 1 by omega, PG_succ]
  have h3 := List.append_inj' h2 rfl
  exact ⟨h1.1, h3.1, List.cons.inj h3.2 |>.1, ((canon_snoc ws v).mp h.1).2.1, h1.2.2⟩
set_option maxHeartbeats 4000000 in
theorem c_S_addRows_true {l : Launch} {D : va_G} {cA : ClassId} {h h1 h2 cap mx : Nat} {L Bd : Nat → Int32} {k : Nat} {ss : List (List Int32)} {ws : List (Nat × Nat)} {f : Nat → Bool} {n m : Nat} (hH : Hs cap mx L Bd (ss ++ [ws.map enc])) (hk : ss.length + 1 = k) (hR : Rep n f ws) (hs : sup n f) (hm : 1 ≤ m) (hn : n + m ≤ 1000000) (hc : tot ss + ws.length + 3 ≤ cap)  : CtV l D cA y_S_addRows b_S_addRows 7 ({ frames := 5, cells := 0, slots := 0, locals := 106 } : Room) [.ref h, .int (nI 1), .int (nI (n % 31)), .int (nI m)] (shW cA h h1 h2 cap mx L Bd k) (fun u : (Nat → Int32) × (Nat → Int32) => ∃ ws', Rep (n + m) (addr f n m true) ws' ∧ ws'.length ≤ ws.length + 3 ∧ Hs cap mx u.1 u.2 (ss ++ [ws'.map enc])) (fun u => shW cA h h1 h2 cap mx u.1 u.2 (k)) := by
  subst hk
  refine CtV.start (lv0 := [(0, .ref h), (1, .int (nI 1)), (2, .int (nI (n % 31))), (3, .int (nI m))]) (by decide) rfl (Nat.le_of_ble_eq_true rfl) ?_
  intro p_ e_ s_ m_ args_ below_ meth_ c_ A_ C hr hin
  refine x_iload_n C d_S_addRows_0 rfl rfl ?_
  refine x_if_eqN (tgt := 9) C d_S_addRows_1 (by decide) (by omega) (fun c1 => ?_) (fun c1 => ?_)
  · exact absurd c1 (by omega)
  · refine x_ldc C d_S_addRows_4 lk_S_52 ?_
    refine x_top (y := nI 2147483647) (by decide) ?_
    refine x_top (y := (nI (cB true))) rfl ?_
    refine x_goto (tgt := 10) C d_S_addRows_6 (by decide) ?_
    refine x_istore (lv' := [(4, .int (nI (cB true))), (0, .ref h), (1, .int (nI 1)), (2, .int (nI (n % 31))), (3, .int (nI m))]) C d_S_addRows_10 (by decide) rfl ?_
    refine x_iload_n C d_S_addRows_12 rfl rfl ?_
    refine x_istore (lv' := [(5, .int (nI m)), (4, .int (nI (cB true))), (0, .ref h), (1, .int (nI 1)), (2, .int (nI (n % 31))), (3, .int (nI m))]) C d_S_addRows_13 (by decide) rfl ?_
    refine x_iload_n C d_S_addRows_15 rfl rfl ?_
    refine x_if_leN (tgt := 56) C d_S_addRows_16 (by decide) (by omega) (fun c16 => ?_) (fun c16 => ?_)
    · have hA1 : canon ws ∧ ex ws = PG (addr f n m true) (n / 31) ∧ ws.length ≤ ws.length + 1 := ⟨hR.1, by rw [hR.2, GL_PG, ar_pre, show (n + 30) / 31 = n / 31 by omega], by omega⟩
      have hK : n ≤ 31 * (n / 31) ∧ 31 * (n / 31) + m = n + m := by omega
      refine x_aload_n C d_S_addRows_56 rfl rfl ?_
      refine x_iload C d_S_addRows_57 rfl ?_
      refine x_iload C d_S_addRows_59 rfl ?_
      refine x_bipush (v := (nI (31))) C d_S_addRows_61 (by decide) ?_
      refine x_idivN C d_S_addRows_63 (by omega) (by omega) (by omega) ?_
      refine x_callVV (wr := []) (rest := []) C (c_S_addGroups (ws := ws) hH rfl hA1.1 (by rw [hA1.2.1, PG_len]; omega) (cB_le _) (fun hg => okw_cB hg) (by omega) (by omega)) d_S_addRows_64 cd_S_addGroups lk_S_72 dd_S_addGroups rfl ⟨Nat.le_of_ble_eq_true rfl, Nat.le_of_ble_eq_true rfl⟩ ⟨Nat.le_refl _, Nat.le_refl _⟩ 0 0 rfl rfl [0, 1, 2] [] rfl rfl (by decide) (by decide) (by decide) rfl (Nat.le_of_ble_eq_true rfl) ?_
      intro u64 hH64
      have hA2 := pg_ok (ws := ws) (b := cB true) (g := m / 31) hA1.1 (fun hg => okw_cB hg)
      refine x_iload C d_S_addRows_67 rfl ?_
      refine x_bipush (v := (nI (31))) C d_S_addRows_69 (by decide) ?_
      refine x_iremN C d_S_addRows_71 (by omega) (by omega) (by omega) ?_
      refine x_if_leN (tgt := 91) C d_S_addRows_72 (by decide) (by omega) (fun c72 => ?_) (fun c72 => ?_)
      · exact x_vret C hr d_S_addRows_91 u64 rfl (⟨pg ws (cB true) (m / 31), ⟨hA2.1, by rw [hA2.2.1, hA1.2.1, (ar_mid (k := (n / 31)) (t := m / 31) hs (by omega) (by omega)).symm, GL_PG]; congr 1; omega⟩, by omega, hH64⟩)
      · refine x_aload_n C d_S_addRows_75 rfl rfl ?_
        refine x_iload C d_S_addRows_76 rfl ?_
        refine x_iload C d_S_addRows_78 rfl ?_
        refine x_bipush (v := (nI (31))) C d_S_addRows_80 (by decide) ?_
        refine x_iremN C d_S_addRows_82 (by omega) (by omega) (by omega) ?_
        refine x_callSIN (wr := [(h, .inr (0, [.ref h1, .ref h2, .int (nI (ss.length + 1))])), (h1, .inl (cA, cap, .inl (u64.1))), (h2, .inl (cA, mx, .inl (u64.2)))]) (rest := [.int (nI (cB true)), .ref h]) C (c_B_firstBits (n := m % 31) (by omega)) d_S_addRows_83 cd_B_firstBits lk_S_53 dd_B_firstBits rfl ⟨Nat.le_of_ble_eq_true rfl, Nat.le_of_ble_eq_true rfl⟩ ⟨Nat.le_refl _, Nat.le_refl _⟩ [] [0, 1, 2] rfl rfl (by decide) (by decide) (by decide) rfl (Nat.le_of_ble_eq_true rfl) ?_
        intro r_ u_ hp_
        obtain rfl := hp_
        refine x_iand C d_S_addRows_86 ?_
        refine x_top (y := (nI (cB true &&& (2 ^ (m % 31) - 1)))) (nx_and _ _) ?_
        refine x_iconst (v := (nI (1))) C d_S_addRows_87 (by decide) ?_
        refine x_callVV (wr := []) (rest := []) C (c_S_addGroups (ws := pg ws (cB true) (m / 31)) hH64 rfl hA2.1 (by rw [hA2.2.1, List.length_append, List.length_replicate, hA1.2.1, PG_len]; omega) (Nat.le_trans Nat.and_le_left (cB_le _)) (fun _ => okw_one (Nat.le_trans Nat.and_le_left (cB_le _))) (by omega) (by omega)) d_S_addRows_88 cd_S_addGroups lk_S_72 dd_S_addGroups rfl ⟨Nat.le_of_ble_eq_true rfl, Nat.le_of_ble_eq_true rfl⟩ ⟨Nat.le_refl _, Nat.le_refl _⟩ 0 0 rfl rfl [0, 1, 2] [] rfl rfl (by decide) (by decide) (by decide) rfl (Nat.le_of_ble_eq_true rfl) ?_
        intro u88 hH88
        have hA3 := pg_ok (ws := pg ws (cB true) (m / 31)) (b := cB true &&& (2 ^ (m % 31) - 1)) (g := 1) hA2.1 (fun _ => okw_one (Nat.le_trans Nat.and_le_left (cB_le _)))
        exact x_vret C hr d_S_addRows_91 u88 rfl (⟨pg (pg ws (cB true) (m / 31)) (cB true &&& (2 ^ (m % 31) - 1)) 1, ⟨hA3.1, by rw [hA3.2.1, hA2.2.1, hA1.2.1, (ar_mid (k := (n / 31)) (t := m / 31) hs (by omega) (by omega)).symm, GL_PG, show (n + m + 30) / 31 = (n / 31) + m / 31 + 1 by omega, PG_succ, ← ar_last hs (k := (n / 31) + m / 31) (by omega) (by omega) (by omega), show n + m - 31 * ((n / 31) + m / 31) = m % 31 by omega]; rfl⟩, by omega, hH88⟩)
    · obtain ⟨ws0, v, rfl⟩ := hR.snoc (by omega)
      have hl := hR.last c16
      have hv2 : v.2 ≤ (ex (ws0 ++ [v])).length := ex_mem_le (by simp)
      have hx := hR.small (by omega)
      rw [List.length_append, List.length_singleton] at hc
      have hH0 := hH
      rw [map_snoc] at hH0
      refine x_bipush (v := (nI (31))) C d_S_addRows_19 (by decide) ?_
      refine x_iload_n C d_S_addRows_21 rfl rfl ?_
      refine x_isubN C d_S_addRows_22 (by omega) ?_
      refine x_iload_n C d_S_addRows_23 rfl rfl ?_
      refine x_mminN C d_S_addRows_24 lk_S_22 ma_min_st ini_Ma ma_min_cd ⟨Nat.le_of_ble_eq_true rfl, Nat.le_of_ble_eq_true rfl, Nat.zero_le _, Nat.zero_le _⟩ (by omega) (by omega) ?_
      refine x_istore (lv' := [(6, .int (nI (min (31 - (n % 31)) m))), (5, .int (nI m)), (4, .int (nI (cB true))), (0, .ref h), (1, .int (nI 1)), (2, .int (nI (n % 31))), (3, .int (nI m))]) C d_S_addRows_27 (by decide) rfl ?_
      refine x_aload_n C d_S_addRows_29 rfl rfl ?_
      refine x_aload_n C d_S_addRows_30 rfl rfl ?_
      refine x_callVI (wr := []) (rest := [.ref h]) C (c_S_takeGroup hH0 rfl hl.2.2.2.1 (by omega)) d_S_addRows_31 cd_S_takeGroup lk_S_69 dd_S_takeGroup rfl ⟨Nat.le_of_ble_eq_true rfl, Nat.le_of_ble_eq_true rfl⟩ ⟨Nat.le_refl _, Nat.le_refl _⟩ 0 0 rfl rfl [0, 1, 2] [] rfl rfl (by decide) (by decide) (by decide) rfl (Nat.le_of_ble_eq_true rfl) ?_
      intro r_ u31 hp_
      obtain ⟨rfl, hH1⟩ := hp_
      refine x_iload C d_S_addRows_34 rfl ?_
      refine x_iload C d_S_addRows_36 rfl ?_
      refine x_callSIN (wr := [(h, .inr (0, [.ref h1, .ref h2, .int (nI (ss.length + 1))])), (h1, .inl (cA, cap, .inl (u31.1))), (h2, .inl (cA, mx, .inl (u31.2)))]) (rest := [.int (nI (cB true)), .int (nI (v.1)), .ref h]) C (c_B_firstBits (n := min (31 - n % 31) m) (by omega)) d_S_addRows_38 cd_B_firstBits lk_S_53 dd_B_firstBits rfl ⟨Nat.le_of_ble_eq_true rfl, Nat.le_of_ble_eq_true rfl⟩ ⟨Nat.le_refl _, Nat.le_refl _⟩ [] [0, 1, 2] rfl rfl (by decide) (by decide) (by decide) rfl (Nat.le_of_ble_eq_true rfl) ?_
      intro r_ u_ hp_
      obtain rfl := hp_
      refine x_iand C d_S_addRows_41 ?_
      refine x_iload_n C d_S_addRows_42 rfl rfl ?_
      refine x_ishl C d_S_addRows_43 ?_
      refine x_ior C d_S_addRows_44 ?_
      refine x_top (y := (nI (gb (addr f n m true) (n / 31)))) (by rw [hl.2.2.1]; exact (ar_shl (f := f)).trans (congrArg nI (ar_begun hs c16))) ?_
      refine x_iconst (v := (nI (1))) C d_S_addRows_45 (by decide) ?_
      refine x_callVV (wr := []) (rest := []) C (c_S_addGroups hH1 rfl hl.1 (by rw [hl.2.1, PG_len]; omega) (gb_le _ _) (fun _ => okw_one (gb_le _ _)) (by omega) (by omega)) d_S_addRows_46 cd_S_addGroups lk_S_72 dd_S_addGroups rfl ⟨Nat.le_of_ble_eq_true rfl, Nat.le_of_ble_eq_true rfl⟩ ⟨Nat.le_refl _, Nat.le_refl _⟩ 0 0 rfl rfl [0, 1, 2] [] rfl rfl (by decide) (by decide) (by decide) rfl (Nat.le_of_ble_eq_true rfl) ?_
      intro u46 hH2
      refine x_iload C d_S_addRows_49 rfl ?_
      refine x_iload C d_S_addRows_51 rfl ?_
      refine x_isubN C d_S_addRows_53 (by omega) ?_
      refine x_istore (lv' := [(5, .int (nI (m - (min (31 - (n % 31)) m)))), (6, .int (nI (min (31 - (n % 31)) m))), (4, .int (nI (cB true))), (0, .ref h), (1, .int (nI 1)), (2, .int (nI (n % 31))), (3, .int (nI m))]) C d_S_addRows_54 (by decide) rfl ?_
      have hA0 := pg_ok (ws := tk ws0 v) (b := gb (addr f n m true) (n / 31)) (g := 1) hl.1 (fun _ => okw_one (gb_le _ _))
      have hA1 : canon (pg (tk ws0 v) (gb (addr f n m true) (n / 31)) 1) ∧ ex (pg (tk ws0 v) (gb (addr f n m true) (n / 31)) 1) = PG (addr f n m true) (n / 31 + 1) ∧ (pg (tk ws0 v) (gb (addr f n m true) (n / 31)) 1).length ≤ ws0.length + 1 + 1 := ⟨hA0.1, by rw [hA0.2.1, PG_succ, ar_pre, hl.2.1]; rfl, by omega⟩
      refine x_aload_n C d_S_addRows_56 rfl rfl ?_
      refine x_iload C d_S_addRows_57 rfl ?_
      refine x_iload C d_S_addRows_59 rfl ?_
      refine x_bipush (v := (nI (31))) C d_S_addRows_61 (by decide) ?_
      refine x_idivN C d_S_addRows_63 (by omega) (by omega) (by omega) ?_
      refine x_callVV (wr := []) (rest := []) C (c_S_addGroups (ws := (pg (tk ws0 v) (gb (addr f n m true) (n / 31)) 1)) hH2 rfl hA1.1 (by rw [hA1.2.1, PG_len]; omega) (cB_le _) (fun hg => okw_cB hg) (by omega) (by omega)) d_S_addRows_64 cd_S_addGroups lk_S_72 dd_S_addGroups rfl ⟨Nat.le_of_ble_eq_true rfl, Nat.le_of_ble_eq_true rfl⟩ ⟨Nat.le_refl _, Nat.le_refl _⟩ 0 0 rfl rfl [0, 1, 2] [] rfl rfl (by decide) (by decide) (by decide) rfl (Nat.le_of_ble_eq_true rfl) ?_
      intro u64 hH64
      have hA2 := pg_ok (ws := (pg (tk ws0 v) (gb (addr f n m true) (n / 31)) 1)) (b := cB true) (g := (m - min (31 - n % 31) m) / 31) hA1.1 (fun hg => okw_cB hg)
      refine x_iload C d_S_addRows_67 rfl ?_
      refine x_bipush (v := (nI (31))) C d_S_addRows_69 (by decide) ?_
      refine x_iremN C d_S_addRows_71 (by omega) (by omega) (by omega) ?_
      refine x_if_leN (tgt := 91) C d_S_addRows_72 (by decide) (by omega) (fun c72 => ?_) (fun c72 => ?_)
      · exact x_vret C hr d_S_addRows_91 u64 rfl (⟨pg (pg (tk ws0 v) (gb (addr f n m true) (n / 31)) 1) (cB true) ((m - min (31 - n % 31) m) / 31), ⟨hA2.1, by
              rw [hA2.2.1, hA1.2.1, GL_PG]
              by_cases h9 : 31 * (n / 31 + 1) ≤ n + m
              · rw [(ar_mid (k := (n / 31 + 1)) (t := (m - min (31 - n % 31) m) / 31) hs (by omega) (by omega)).symm]
                congr 1
                omega
              · rw [show (m - min (31 - n % 31) m) / 31 = 0 by omega, show (n + m + 30) / 31 = (n / 31 + 1) by omega]
                simp⟩, by rw [List.length_append, List.length_singleton]; omega, hH64⟩)
      · refine x_aload_n C d_S_addRows_75 rfl rfl ?_
        refine x_iload C d_S_addRows_76 rfl ?_
        refine x_iload C d_S_addRows_78 rfl ?_
        refine x_bipush (v := (nI (31))) C d_S_addRows_80 (by decide) ?_
        refine x_iremN C d_S_addRows_82 (by omega) (by omega) (by omega) ?_
        refine x_callSIN (wr := [(h, .inr (0, [.ref h1, .ref h2, .int (nI (ss.length + 1))])), (h1, .inl (cA, cap, .inl (u64.1))), (h2, .inl (cA, mx, .inl (u64.2)))]) (rest := [.int (nI (cB true)), .ref h]) C (c_B_firstBits (n := (m - min (31 - n % 31) m) % 31) (by omega)) d_S_addRows_83 cd_B_firstBits lk_S_53 dd_B_firstBits rfl ⟨Nat.le_of_ble_eq_true rfl, Nat.le_of_ble_eq_true rfl⟩ ⟨Nat.le_refl _, Nat.le_refl _⟩ [] [0, 1, 2] rfl rfl (by decide) (by decide) (by decide) rfl (Nat.le_of_ble_eq_true rfl) ?_
        intro r_ u_ hp_
        obtain rfl := hp_
        refine x_iand C d_S_addRows_86 ?_
        refine x_top (y := (nI (cB true &&& (2 ^ ((m - min (31 - n % 31) m) % 31) - 1)))) (nx_and _ _) ?_
        refine x_iconst (v := (nI (1))) C d_S_addRows_87 (by decide) ?_
        refine x_callVV (wr := []) (rest := []) C (c_S_addGroups (ws := pg (pg (tk ws0 v) (gb (addr f n m true) (n / 31)) 1) (cB true) ((m - min (31 - n % 31) m) / 31)) hH64 rfl hA2.1 (by rw [hA2.2.1, List.length_append, List.length_replicate, hA1.2.1, PG_len]; omega) (Nat.le_trans Nat.and_le_left (cB_le _)) (fun _ => okw_one (Nat.le_trans Nat.and_le_left (cB_le _))) (by omega) (by omega)) d_S_addRows_88 cd_S_addGroups lk_S_72 dd_S_addGroups rfl ⟨Nat.le_of_ble_eq_true rfl, Nat.le_of_ble_eq_true rfl⟩ ⟨Nat.le_refl _, Nat.le_refl _⟩ 0 0 rfl rfl [0, 1, 2] [] rfl rfl (by decide) (by decide) (by decide) rfl (Nat.le_of_ble_eq_true rfl) ?_
        intro u88 hH88
        have hA3 := pg_ok (ws := pg (pg (tk ws0 v) (gb (addr f n m true) (n / 31)) 1) (cB true) ((m - min (31 - n % 31) m) / 31)) (b := cB true &&& (2 ^ ((m - min (31 - n % 31) m) % 31) - 1)) (g := 1) hA2.1 (fun _ => okw_one (Nat.le_trans Nat.and_le_left (cB_le _)))
        exact x_vret C hr d_S_addRows_91 u88 rfl (⟨pg (pg (pg (tk ws0 v) (gb (addr f n m true) (n / 31)) 1) (cB true) ((m - min (31 - n % 31) m) / 31)) (cB true &&& (2 ^ ((m - min (31 - n % 31) m) % 31) - 1)) 1, ⟨hA3.1, by rw [hA3.2.1, hA2.2.1, hA1.2.1, (ar_mid (k := (n / 31 + 1)) (t := (m - min (31 - n % 31) m) / 31) hs (by omega) (by omega)).symm, GL_PG, show (n + m + 30) / 31 = (n / 31 + 1) + (m - min (31 - n % 31) m) / 31 + 1 by omega, PG_succ, ← ar_last hs (k := (n / 31 + 1) + (m - min (31 - n % 31) m) / 31) (by omega) (by omega) (by omega), show n + m - 31 * ((n / 31 + 1) + (m - min (31 - n % 31) m) / 31) = (m - min (31 - n % 31) m) % 31 by omega]; rfl⟩, by rw [List.length_append, List.length_singleton]; omega, hH88⟩)
set_option maxHeartbeats 4000000 in
theorem c_S_addRows_false {l : Launch} {D : va_G} {cA : ClassId} {h h1 h2 cap mx : Nat} {L Bd : Nat → Int32} {k : Nat} {ss : List (List Int32)} {ws : List (Nat × Nat)} {f : Nat → Bool} {n m : Nat} (hH : Hs cap mx L Bd (ss ++ [ws.map enc])) (hk : ss.length + 1 = k) (hR : Rep n f ws) (hs : sup n f) (hm : 1 ≤ m) (hn : n + m ≤ 1000000) (hc : tot ss + ws.length + 3 ≤ cap)  : CtV l D cA y_S_addRows b_S_addRows 7 ({ frames := 5, cells := 0, slots := 0, locals := 106 } : Room) [.ref h, .int (nI 0), .int (nI (n % 31)), .int (nI m)] (shW cA h h1 h2 cap mx L Bd k) (fun u : (Nat → Int32) × (Nat → Int32) => ∃ ws', Rep (n + m) (addr f n m false) ws' ∧ ws'.length ≤ ws.length + 3 ∧ Hs cap mx u.1 u.2 (ss ++ [ws'.map enc])) (fun u => shW cA h h1 h2 cap mx u.1 u.2 (k)) := by
  subst hk
  refine CtV.start (lv0 := [(0, .ref h), (1, .int (nI 0)), (2, .int (nI (n % 31))), (3, .int (nI m))]) (by decide) rfl (Nat.le_of_ble_eq_true rfl) ?_
  intro p_ e_ s_ m_ args_ below_ meth_ c_ A_ C hr hin
  refine x_iload_n C d_S_addRows_0 rfl rfl ?_
  refine x_if_eqN (tgt := 9) C d_S_addRows_1 (by decide) (by omega) (fun c1 => ?_) (fun c1 => ?_)
  · refine x_iconst (v := (nI (0))) C d_S_addRows_9 (by decide) ?_
    refine x_top (y := (nI (cB false))) rfl ?_
    refine x_istore (lv' := [(4, .int (nI (cB false))), (0, .ref h), (1, .int (nI 0)), (2, .int (nI (n % 31))), (3, .int (nI m))]) C d_S_addRows_10 (by decide) rfl ?_
    refine x_iload_n C d_S_addRows_12 rfl rfl ?_
    refine x_istore (lv' := [(5, .int (nI m)), (4, .int (nI (cB false))), (0, .ref h), (1, .int (nI 0)), (2, .int (nI (n % 31))), (3, .int (nI m))]) C d_S_addRows_13 (by decide) rfl ?_
    refine x_iload_n C d_S_addRows_15 rfl rfl ?_
    refine x_if_leN (tgt := 56) C d_S_addRows_16 (by decide) (by omega) (fun c16 => ?_) (fun c16 => ?_)
    · have hA1 : canon ws ∧ ex ws = PG (addr f n m false) (n / 31) ∧ ws.length ≤ ws.length + 1 := ⟨hR.1, by rw [hR.2, GL_PG, ar_pre, show (n + 30) / 31 = n / 31 by omega], by omega⟩
      have hK : n ≤ 31 * (n / 31) ∧ 31 * (n / 31) + m = n + m := by omega
      refine x_aload_n C d_S_addRows_56 rfl rfl ?_
      refine x_iload C d_S_addRows_57 rfl ?_
      refine x_iload C d_S_addRows_59 rfl ?_
      refine x_bipush (v := (nI (31))) C d_S_addRows_61 (by decide) ?_
      refine x_idivN C d_S_addRows_63 (by omega) (by omega) (by omega) ?_
      refine x_callVV (wr := []) (rest := []) C (c_S_addGroups (ws := ws) hH rfl hA1.1 (by rw [hA1.2.1, PG_len]; omega) (cB_le _) (fun hg => okw_cB hg) (by omega) (by omega)) d_S_addRows_64 cd_S_addGroups lk_S_72 dd_S_addGroups rfl ⟨Nat.le_of_ble_eq_true rfl, Nat.le_of_ble_eq_true rfl⟩ ⟨Nat.le_refl _, Nat.le_refl _⟩ 0 0 rfl rfl [0, 1, 2] [] rfl rfl (by decide) (by decide) (by decide) rfl (Nat.le_of_ble_eq_true rfl) ?_
      intro u64 hH64
      have hA2 := pg_ok (ws := ws) (b := cB false) (g := m / 31) hA1.1 (fun hg => okw_cB hg)
      refine x_iload C d_S_addRows_67 rfl ?_
      refine x_bipush (v := (nI (31))) C d_S_addRows_69 (by decide) ?_
      refine x_iremN C d_S_addRows_71 (by omega) (by omega) (by omega) ?_
      refine x_if_leN (tgt := 91) C d_S_addRows_72 (by decide) (by omega) (fun c72 => ?_) (fun c72 => ?_)
      · exact x_vret C hr d_S_addRows_91 u64 rfl (⟨pg ws (cB false) (m / 31), ⟨hA2.1, by rw [hA2.2.1, hA1.2.1, (ar_mid (k := (n / 31)) (t := m / 31) hs (by omega) (by omega)).symm, GL_PG]; congr 1; omega⟩, by omega, hH64⟩)
      · refine x_aload_n C d_S_addRows_75 rfl rfl ?_
        refine x_iload C d_S_addRows_76 rfl ?_
        refine x_iload C d_S_addRows_78 rfl ?_
        refine x_bipush (v := (nI (31))) C d_S_addRows_80 (by decide) ?_
        refine x_iremN C d_S_addRows_82 (by omega) (by omega) (by omega) ?_
        refine x_callSIN (wr := [(h, .inr (0, [.ref h1, .ref h2, .int (nI (ss.length + 1))])), (h1, .inl (cA, cap, .inl (u64.1))), (h2, .inl (cA, mx, .inl (u64.2)))]) (rest := [.int (nI (cB false)), .ref h]) C (c_B_firstBits (n := m % 31) (by omega)) d_S_addRows_83 cd_B_firstBits lk_S_53 dd_B_firstBits rfl ⟨Nat.le_of_ble_eq_true rfl, Nat.le_of_ble_eq_true rfl⟩ ⟨Nat.le_refl _, Nat.le_refl _⟩ [] [0, 1, 2] rfl rfl (by decide) (by decide) (by decide) rfl (Nat.le_of_ble_eq_true rfl) ?_
        intro r_ u_ hp_
        obtain rfl := hp_
        refine x_iand C d_S_addRows_86 ?_
        refine x_top (y := (nI (cB false &&& (2 ^ (m % 31) - 1)))) (nx_and _ _) ?_
        refine x_iconst (v := (nI (1))) C d_S_addRows_87 (by decide) ?_
        refine x_callVV (wr := []) (rest := []) C (c_S_addGroups (ws := pg ws (cB false) (m / 31)) hH64 rfl hA2.1 (by rw [hA2.2.1, List.length_append, List.length_replicate, hA1.2.1, PG_len]; omega) (Nat.le_trans Nat.and_le_left (cB_le _)) (fun _ => okw_one (Nat.le_trans Nat.and_le_left (cB_le _))) (by omega) (by omega)) d_S_addRows_88 cd_S_addGroups lk_S_72 dd_S_addGroups rfl ⟨Nat.le_of_ble_eq_true rfl, Nat.le_of_ble_eq_true rfl⟩ ⟨Nat.le_refl _, Nat.le_refl _⟩ 0 0 rfl rfl [0, 1, 2] [] rfl rfl (by decide) (by decide) (by decide) rfl (Nat.le_of_ble_eq_true rfl) ?_
        intro u88 hH88
        have hA3 := pg_ok (ws := pg ws (cB false) (m / 31)) (b := cB false &&& (2 ^ (m % 31) - 1)) (g := 1) hA2.1 (fun _ => okw_one (Nat.le_trans Nat.and_le_left (cB_le _)))
        exact x_vret C hr d_S_addRows_91 u88 rfl (⟨pg (pg ws (cB false) (m / 31)) (cB false &&& (2 ^ (m % 31) - 1)) 1, ⟨hA3.1, by rw [hA3.2.1, hA2.2.1, hA1.2.1, (ar_mid (k := (n / 31)) (t := m / 31) hs (by omega) (by omega)).symm, GL_PG, show (n + m + 30) / 31 = (n / 31) + m / 31 + 1 by omega, PG_succ, ← ar_last hs (k := (n / 31) + m / 31) (by omega) (by omega) (by omega), show n + m - 31 * ((n / 31) + m / 31) = m % 31 by omega]; rfl⟩, by omega, hH88⟩)
    · obtain ⟨ws0, v, rfl⟩ := hR.snoc (by omega)
      have hl := hR.last c16
      have hv2 : v.2 ≤ (ex (ws0 ++ [v])).length := ex_mem_le (by simp)
      have hx := hR.small (by omega)
      rw [List.length_append, List.length_singleton] at hc
      have hH0 := hH
      rw [map_snoc] at hH0
      refine x_bipush (v := (nI (31))) C d_S_addRows_19 (by decide) ?_
      refine x_iload_n C d_S_addRows_21 rfl rfl ?_
      refine x_isubN C d_S_addRows_22 (by omega) ?_
      refine x_iload_n C d_S_addRows_23 rfl rfl ?_
      refine x_mminN C d_S_addRows_24 lk_S_22 ma_min_st ini_Ma ma_min_cd ⟨Nat.le_of_ble_eq_true rfl, Nat.le_of_ble_eq_true rfl, Nat.zero_le _, Nat.zero_le _⟩ (by omega) (by omega) ?_
      refine x_istore (lv' := [(6, .int (nI (min (31 - (n % 31)) m))), (5, .int (nI m)), (4, .int (nI (cB false))), (0, .ref h), (1, .int (nI 0)), (2, .int (nI (n % 31))), (3, .int (nI m))]) C d_S_addRows_27 (by decide) rfl ?_
      refine x_aload_n C d_S_addRows_29 rfl rfl ?_
      refine x_aload_n C d_S_addRows_30 rfl rfl ?_
      refine x_callVI (wr := []) (rest := [.ref h]) C (c_S_takeGroup hH0 rfl hl.2.2.2.1 (by omega)) d_S_addRows_31 cd_S_takeGroup lk_S_69 dd_S_takeGroup rfl ⟨Nat.le_of_ble_eq_true rfl, Nat.le_of_ble_eq_true rfl⟩ ⟨Nat.le_refl _, Nat.le_refl _⟩ 0 0 rfl rfl [0, 1, 2] [] rfl rfl (by decide) (by decide) (by decide) rfl (Nat.le_of_ble_eq_true rfl) ?_
      intro r_ u31 hp_
      obtain ⟨rfl, hH1⟩ := hp_
      refine x_iload C d_S_addRows_34 rfl ?_
      refine x_iload C d_S_addRows_36 rfl ?_
      refine x_callSIN (wr := [(h, .inr (0, [.ref h1, .ref h2, .int (nI (ss.length + 1))])), (h1, .inl (cA, cap, .inl (u31.1))), (h2, .inl (cA, mx, .inl (u31.2)))]) (rest := [.int (nI (cB false)), .int (nI (v.1)), .ref h]) C (c_B_firstBits (n := min (31 - n % 31) m) (by omega)) d_S_addRows_38 cd_B_firstBits lk_S_53 dd_B_firstBits rfl ⟨Nat.le_of_ble_eq_true rfl, Nat.le_of_ble_eq_true rfl⟩ ⟨Nat.le_refl _, Nat.le_refl _⟩ [] [0, 1, 2] rfl rfl (by decide) (by decide) (by decide) rfl (Nat.le_of_ble_eq_true rfl) ?_
      intro r_ u_ hp_
      obtain rfl := hp_
      refine x_iand C d_S_addRows_41 ?_
      refine x_iload_n C d_S_addRows_42 rfl rfl ?_
      refine x_ishl C d_S_addRows_43 ?_
      refine x_ior C d_S_addRows_44 ?_
      refine x_top (y := (nI (gb (addr f n m false) (n / 31)))) (by rw [hl.2.2.1]; exact (ar_shl (f := f)).trans (congrArg nI (ar_begun hs c16))) ?_
      refine x_iconst (v := (nI (1))) C d_S_addRows_45 (by decide) ?_
      refine x_callVV (wr := []) (rest := []) C (c_S_addGroups hH1 rfl hl.1 (by rw [hl.2.1, PG_len]; omega) (gb_le _ _) (fun _ => okw_one (gb_le _ _)) (by omega) (by omega)) d_S_addRows_46 cd_S_addGroups lk_S_72 dd_S_addGroups rfl ⟨Nat.le_of_ble_eq_true rfl, Nat.le_of_ble_eq_true rfl⟩ ⟨Nat.le_refl _, Nat.le_refl _⟩ 0 0 rfl rfl [0, 1, 2] [] rfl rfl (by decide) (by decide) (by decide) rfl (Nat.le_of_ble_eq_true rfl) ?_
      intro u46 hH2
      refine x_iload C d_S_addRows_49 rfl ?_
      refine x_iload C d_S_addRows_51 rfl ?_
      refine x_isubN C d_S_addRows_53 (by omega) ?_
      refine x_istore (lv' := [(5, .int (nI (m - (min (31 - (n % 31)) m)))), (6, .int (nI (min (31 - (n % 31)) m))), (4, .int (nI (cB false))), (0, .ref h), (1, .int (nI 0)), (2, .int (nI (n % 31))), (3, .int (nI m))]) C d_S_addRows_54 (by decide) rfl ?_
      have hA0 := pg_ok (ws := tk ws0 v) (b := gb (addr f n m false) (n / 31)) (g := 1) hl.1 (fun _ => okw_one (gb_le _ _))
      have hA1 : canon (pg (tk ws0 v) (gb (addr f n m false) (n / 31)) 1) ∧ ex (pg (tk ws0 v) (gb (addr f n m false) (n / 31)) 1) = PG (addr f n m false) (n / 31 + 1) ∧ (pg (tk ws0 v) (gb (addr f n m false) (n / 31)) 1).length ≤ ws0.length + 1 + 1 := ⟨hA0.1, by rw [hA0.2.1, PG_succ, ar_pre, hl.2.1]; rfl, by omega⟩
      refine x_aload_n C d_S_addRows_56 rfl rfl ?_
      refine x_iload C d_S_addRows_57 rfl ?_
      refine x_iload C d_S_addRows_59 rfl ?_
      refine x_bipush (v := (nI (31))) C d_S_addRows_61 (by decide) ?_
      refine x_idivN C d_S_addRows_63 (by omega) (by omega) (by omega) ?_
      refine x_callVV (wr := []) (rest := []) C (c_S_addGroups (ws := (pg (tk ws0 v) (gb (addr f n m false) (n / 31)) 1)) hH2 rfl hA1.1 (by rw [hA1.2.1, PG_len]; omega) (cB_le _) (fun hg => okw_cB hg) (by omega) (by omega)) d_S_addRows_64 cd_S_addGroups lk_S_72 dd_S_addGroups rfl ⟨Nat.le_of_ble_eq_true rfl, Nat.le_of_ble_eq_true rfl⟩ ⟨Nat.le_refl _, Nat.le_refl _⟩ 0 0 rfl rfl [0, 1, 2] [] rfl rfl (by decide) (by decide) (by decide) rfl (Nat.le_of_ble_eq_true rfl) ?_
      intro u64 hH64
      have hA2 := pg_ok (ws := (pg (tk ws0 v) (gb (addr f n m false) (n / 31)) 1)) (b := cB false) (g := (m - min (31 - n % 31) m) / 31) hA1.1 (fun hg => okw_cB hg)
      refine x_iload C d_S_addRows_67 rfl ?_
      refine x_bipush (v := (nI (31))) C d_S_addRows_69 (by decide) ?_
      refine x_iremN C d_S_addRows_71 (by omega) (by omega) (by omega) ?_
      refine x_if_leN (tgt := 91) C d_S_addRows_72 (by decide) (by omega) (fun c72 => ?_) (fun c72 => ?_)
      · exact x_vret C hr d_S_addRows_91 u64 rfl (⟨pg (pg (tk ws0 v) (gb (addr f n m false) (n / 31)) 1) (cB false) ((m - min (31 - n % 31) m) / 31), ⟨hA2.1, by
              rw [hA2.2.1, hA1.2.1, GL_PG]
              by_cases h9 : 31 * (n / 31 + 1) ≤ n + m
              · rw [(ar_mid (k := (n / 31 + 1)) (t := (m - min (31 - n % 31) m) / 31) hs (by omega) (by omega)).symm]
                congr 1
                omega
              · rw [show (m - min (31 - n % 31) m) / 31 = 0 by omega, show (n + m + 30) / 31 = (n / 31 + 1) by omega]
                simp⟩, by rw [List.length_append, List.length_singleton]; omega, hH64⟩)
      · refine x_aload_n C d_S_addRows_75 rfl rfl ?_
        refine x_iload C d_S_addRows_76 rfl ?_
        refine x_iload C d_S_addRows_78 rfl ?_
        refine x_bipush (v := (nI (31))) C d_S_addRows_80 (by decide) ?_
        refine x_iremN C d_S_addRows_82 (by omega) (by omega) (by omega) ?_
        refine x_callSIN (wr := [(h, .inr (0, [.ref h1, .ref h2, .int (nI (ss.length + 1))])), (h1, .inl (cA, cap, .inl (u64.1))), (h2, .inl (cA, mx, .inl (u64.2)))]) (rest := [.int (nI (cB false)), .ref h]) C (c_B_firstBits (n := (m - min (31 - n % 31) m) % 31) (by omega)) d_S_addRows_83 cd_B_firstBits lk_S_53 dd_B_firstBits rfl ⟨Nat.le_of_ble_eq_true rfl, Nat.le_of_ble_eq_true rfl⟩ ⟨Nat.le_refl _, Nat.le_refl _⟩ [] [0, 1, 2] rfl rfl (by decide) (by decide) (by decide) rfl (Nat.le_of_ble_eq_true rfl) ?_
        intro r_ u_ hp_
        obtain rfl := hp_
        refine x_iand C d_S_addRows_86 ?_
        refine x_top (y := (nI (cB false &&& (2 ^ ((m - min (31 - n % 31) m) % 31) - 1)))) (nx_and _ _) ?_
        refine x_iconst (v := (nI (1))) C d_S_addRows_87 (by decide) ?_
        refine x_callVV (wr := []) (rest := []) C (c_S_addGroups (ws := pg (pg (tk ws0 v) (gb (addr f n m false) (n / 31)) 1) (cB false) ((m - min (31 - n % 31) m) / 31)) hH64 rfl hA2.1 (by rw [hA2.2.1, List.length_append, List.length_replicate, hA1.2.1, PG_len]; omega) (Nat.le_trans Nat.and_le_left (cB_le _)) (fun _ => okw_one (Nat.le_trans Nat.and_le_left (cB_le _))) (by omega) (by omega)) d_S_addRows_88 cd_S_addGroups lk_S_72 dd_S_addGroups rfl ⟨Nat.le_of_ble_eq_true rfl, Nat.le_of_ble_eq_true rfl⟩ ⟨Nat.le_refl _, Nat.le_refl _⟩ 0 0 rfl rfl [0, 1, 2] [] rfl rfl (by decide) (by decide) (by decide) rfl (Nat.le_of_ble_eq_true rfl) ?_
        intro u88 hH88
        have hA3 := pg_ok (ws := pg (pg (tk ws0 v) (gb (addr f n m false) (n / 31)) 1) (cB false) ((m - min (31 - n % 31) m) / 31)) (b := cB false &&& (2 ^ ((m - min (31 - n % 31) m) % 31) - 1)) (g := 1) hA2.1 (fun _ => okw_one (Nat.le_trans Nat.and_le_left (cB_le _)))
        exact x_vret C hr d_S_addRows_91 u88 rfl (⟨pg (pg (pg (tk ws0 v) (gb (addr f n m false) (n / 31)) 1) (cB false) ((m - min (31 - n % 31) m) / 31)) (cB false &&& (2 ^ ((m - min (31 - n % 31) m) % 31) - 1)) 1, ⟨hA3.1, by rw [hA3.2.1, hA2.2.1, hA1.2.1, (ar_mid (k := (n / 31 + 1)) (t := (m - min (31 - n % 31) m) / 31) hs (by omega) (by omega)).symm, GL_PG, show (n + m + 30) / 31 = (n / 31 + 1) + (m - min (31 - n % 31) m) / 31 + 1 by omega, PG_succ, ← ar_last hs (k := (n / 31 + 1) + (m - min (31 - n % 31) m) / 31) (by omega) (by omega) (by omega), show n + m - 31 * ((n / 31 + 1) + (m - min (31 - n % 31) m) / 31) = (m - min (31 - n % 31) m) % 31 by omega]; rfl⟩, by rw [List.length_append, List.length_singleton]; omega, hH88⟩)
  · exact absurd c1 (by omega)
end
section
/-! all other rows -/
theorem xor_pre (f : Nat → Bool) (n : Nat) : (PG f (n / 31)).map (fun x => x ^^^ AL) = PG (fnot f n) (n / 31) := by
  unfold PG
  rw [List.map_map]
  apply List.map_congr_left
  intro g hg
  have := List.mem_range.mp hg
  exact not_whole (by omega)
theorem take_snoc {α : Type} {l : List α} {i : Nat} {w : α} (h : l[i]? = some w) : l.take (i + 1) = l.take i ++ [w] := by
  rw [List.take_add_one, h]
  rfl
theorem nt_word {cap mx : Nat} {L Bd : Nat → Int32} {pre : List (List Int32)} {fs : List (Nat × Nat)} (h : Hs cap mx L Bd (pre ++ [fs.map enc])) {i : Nat} {w : Nat × Nat} (hw : fs[i]? = some w) : L (tot pre + i) = enc w := by
  have hi : i < fs.length := (List.getElem?_eq_some_iff.mp hw).1
  rw [h.in.2.2.2.2.2 i (by simpa using hi), List.getD_eq_getElem?_getD, List.getElem?_map, hw]
  rfl
theorem nt_end {n : Nat} {f : Nat → Bool} {R : List (Nat × Nat)} (hc : canon R) (he : ex R = (GL f n).map (fun x => x ^^^ AL)) (h0 : n % 31 = 0) : Rep n (fnot f n) R := by
  refine ⟨hc, ?_⟩
  rw [he, GL_PG, GL_PG, show (n + 30) / 31 = n / 31 by omega, xor_pre]
theorem nt_snoc {n : Nat} {f : Nat → Bool} {R : List (Nat × Nat)} (he : ex R = (GL f n).map (fun x => x ^^^ AL)) (h0 : 0 < n) : ∃ R0 v, R = R0 ++ [v] := by
  rcases List.eq_nil_or_concat R with rfl | ⟨ws0, v, rfl⟩
  · have := congrArg List.length he
    rw [List.length_map, GL_len] at this
    simp [ex] at this
    omega
  · exact ⟨ws0, v, by rw [List.concat_eq_append]⟩
theorem nt_last {n : Nat} {f : Nat → Bool} {R : List (Nat × Nat)} {v : Nat × Nat} (hc : canon (R ++ [v])) (he : ex (R ++ [v]) = (GL f n).map (fun x => x ^^^ AL)) (h0 : 0 < n % 31) : canon (tk R v) ∧ ex (tk R v) = PG (fnot f n) (n / 31) ∧ v.1 &&& (2 ^ (n % 31) - 1) = gb (fnot f n) (n / 31) ∧ okw v ∧ (tk R v).length ≤ R.length + 1 := by
  have h1 := tk_ok hc
  have h2 : ex (tk R v) ++ [v.1] = PG (fnot f n) (n / 31) ++ [gb f (n / 31) ^^^ AL] := by
    rw [← h1.2.1, he, GL_PG, show (n + 30) / 31 = n / 31 + 1 by omega, PG_succ, List.map_append, xor_pre]
    rfl
  have h3 := List.append_inj' h2 rfl
  have h4 : v.1 = gb f (n / 31) ^^^ AL := List.cons.inj h3.2 |>.1
  refine ⟨h1.1, h3.1, ?_, ((canon_snoc R v).mp hc).2.1, h1.2.2⟩
  rw [h4, ← not_last (f := f) (g := n / 31) (by omega) (by omega), show n - 31 * (n / 31) = n % 31 by omega]
set_option maxHeartbeats 4000000 in
theorem c_S_addOthers {l : Launch} {D : va_G} {cA : ClassId} {h h1 h2 cap mx : Nat} {L Bd : Nat → Int32} {f0 f01 f02 cap2 mx2 : Nat} {L2 Bd2 : Nat → Int32} {k k2 : Nat} {ss pre : List (List Int32)} {fs : List (Nat × Nat)} {f : Nat → Bool} {n : Nat} (hH : Hs cap mx L Bd (ss ++ [[]])) (hk : ss.length + 1 = k) (hF : Hs cap2 mx2 L2 Bd2 (pre ++ [fs.map enc])) (hk2 : pre.length + 1 = k2) (hR : Rep n f fs) (hn : n ≤ 1000000) (hc : tot ss + fs.length + 1 ≤ cap)  : CtV l D cA y_S_addOthers b_S_addOthers 6 ({ frames := 5, cells := 0, slots := 0, locals := 106 } : Room) [.ref h, .ref f0, .int (nI (pre.length)), .int (nI (n % 31))] (shW cA h h1 h2 cap mx L Bd k ++ shW cA f0 f01 f02 cap2 mx2 L2 Bd2 k2) (fun u : (Nat → Int32) × (Nat → Int32) => ∃ R, Rep n (fnot f n) R ∧ R.length ≤ fs.length + 1 ∧ Hs cap mx u.1 u.2 (ss ++ [R.map enc])) (fun u => shW cA h h1 h2 cap mx u.1 u.2 k ++ shW cA f0 f01 f02 cap2 mx2 L2 Bd2 k2) := by
  subst hk
  subst hk2
  refine CtV.start (lv0 := [(0, .ref h), (1, .ref f0), (2, .int (nI (pre.length))), (3, .int (nI (n % 31)))]) (by decide) rfl (Nat.le_of_ble_eq_true rfl) ?_
  intro p_ e_ s_ m_ args_ below_ meth_ c_ A_ C hr hin
  have hm := hF.in
  rw [List.length_map] at hm
  have hx := hR.small hn
  have LP : ∀ (d i : Nat) (W : List (Nat × Nat)) (La Ba : Nat → Int32), i + d = fs.length → canon W → ex W = (ex (fs.take i)).map (fun x => x ^^^ AL) → W.length ≤ i → Hs cap mx La Ba (ss ++ [W.map enc]) → X p_ l e_ ({ frames := 5, cells := 0, slots := 0, locals := 106 } : Room) s_ m_ args_ below_ meth_ c_ D A_ 6 0 0 (MQ below_ (va_Qv (fun u : (Nat → Int32) × (Nat → Int32) => ∃ R, Rep n (fnot f n) R ∧ R.length ≤ fs.length + 1 ∧ Hs cap mx u.1 u.2 (ss ++ [R.map enc])) (Bw D A_ (fun u => shW cA h h1 h2 cap mx u.1 u.2 (ss.length + 1) ++ shW cA f0 f01 f02 cap2 mx2 L2 Bd2 (pre.length + 1))) A_) args_ s_ 0 0 A_) [(h, .inr (0, [.ref h1, .ref h2, .int (nI (ss.length + 1))])), (h1, .inl (cA, cap, .inl (La))), (h2, .inl (cA, mx, .inl (Ba))), (f0, .inr (0, [.ref f01, .ref f02, .int (nI (pre.length + 1))])), (f01, .inl (cA, cap2, .inl (L2))), (f02, .inl (cA, mx2, .inl (Bd2)))] 16 [(5, .int (nI (tot pre + i))), (4, .int (nI (tot pre + fs.length))), (0, .ref h), (1, .ref f0), (2, .int (nI (pre.length))), (3, .int (nI (n % 31)))] [] := by
    intro d
    induction d with
    | zero =>
      intro i W La Ba hi hW heW hlW hHa
      have hi2 : i = fs.length := by omega
      subst hi2
      rw [List.take_length, hR.2] at heW
      refine x_iload C d_S_addOthers_16 rfl ?_
      refine x_iload C d_S_addOthers_18 rfl ?_
      refine x_icmp_geN (tgt := 56) C d_S_addOthers_20 (by decide) (by omega) (by omega) (fun c20 => ?_) (fun c20 => ?_)
      · refine x_iload_n C d_S_addOthers_56 rfl rfl ?_
        refine x_if_leN (tgt := 74) C d_S_addOthers_57 (by decide) (by omega) (fun c57 => ?_) (fun c57 => ?_)
        · exact x_vret C hr d_S_addOthers_74 (La, Ba) rfl (⟨W, nt_end hW heW c57, by omega, hHa⟩)
        · obtain ⟨W0, v, rfl⟩ := nt_snoc heW (by omega)
          have hl := nt_last hW heW c57
          have hv2 : v.2 ≤ (ex (W0 ++ [v])).length := ex_mem_le (by simp)
          rw [heW, List.length_map, GL_len] at hv2
          rw [map_snoc] at hHa
          rw [List.length_append, List.length_singleton] at hlW
          refine x_aload_n C d_S_addOthers_60 rfl rfl ?_
          refine x_aload_n C d_S_addOthers_61 rfl rfl ?_
          refine x_callVI (wr := [(f0, .inr (0, [.ref f01, .ref f02, .int (nI (pre.length + 1))])), (f01, .inl (cA, cap2, .inl (L2))), (f02, .inl (cA, mx2, .inl (Bd2)))]) (rest := [.ref h]) C (c_S_takeGroup hHa rfl hl.2.2.2.1 (by omega)) d_S_addOthers_62 cd_S_takeGroup lk_S_69 dd_S_takeGroup rfl ⟨Nat.le_of_ble_eq_true rfl, Nat.le_of_ble_eq_true rfl⟩ ⟨Nat.le_refl _, Nat.le_refl _⟩ 0 0 rfl rfl [0, 1, 2] [3, 4, 5] rfl rfl (by decide) (by decide) (by decide) rfl (Nat.le_of_ble_eq_true rfl) ?_
          intro r_ u62 hp_
          obtain ⟨rfl, hH1⟩ := hp_
          refine x_iload_n C d_S_addOthers_65 rfl rfl ?_
          refine x_callSIN (wr := [(f0, .inr (0, [.ref f01, .ref f02, .int (nI (pre.length + 1))])), (f01, .inl (cA, cap2, .inl (L2))), (f02, .inl (cA, mx2, .inl (Bd2))), (h, .inr (0, [.ref h1, .ref h2, .int (nI (ss.length + 1))])), (h1, .inl (cA, cap, .inl (u62.1))), (h2, .inl (cA, mx, .inl (u62.2)))]) (rest := [.int (nI (v.1)), .ref h]) C (c_B_firstBits (n := n % 31) (by omega)) d_S_addOthers_66 cd_B_firstBits lk_S_53 dd_B_firstBits rfl ⟨Nat.le_of_ble_eq_true rfl, Nat.le_of_ble_eq_true rfl⟩ ⟨Nat.le_refl _, Nat.le_refl _⟩ [] [0, 1, 2, 3, 4, 5] rfl rfl (by decide) (by decide) (by decide) rfl (Nat.le_of_ble_eq_true rfl) ?_
          intro r_ u_ hp_
          obtain rfl := hp_
          refine x_iand C d_S_addOthers_69 ?_
          refine x_top (y := (nI (gb (fnot f n) (n / 31)))) (by rw [nx_and, hl.2.2.1]) ?_
          refine x_iconst (v := (nI (1))) C d_S_addOthers_70 (by decide) ?_
          refine x_callVV (wr := [(f0, .inr (0, [.ref f01, .ref f02, .int (nI (pre.length + 1))])), (f01, .inl (cA, cap2, .inl (L2))), (f02, .inl (cA, mx2, .inl (Bd2)))]) (rest := []) C (c_S_addGroups hH1 rfl hl.1 (by rw [hl.2.1, PG_len]; omega) (gb_le _ _) (fun _ => okw_one (gb_le _ _)) (by omega) (by omega)) d_S_addOthers_71 cd_S_addGroups lk_S_72 dd_S_addGroups rfl ⟨Nat.le_of_ble_eq_true rfl, Nat.le_of_ble_eq_true rfl⟩ ⟨Nat.le_refl _, Nat.le_refl _⟩ 0 0 rfl rfl [3, 4, 5] [0, 1, 2] rfl rfl (by decide) (by decide) (by decide) rfl (Nat.le_of_ble_eq_true rfl) ?_
          intro u71 hH2
          have hA2 := pg_ok (ws := tk W0 v) (b := gb (fnot f n) (n / 31)) (g := 1) hl.1 (fun _ => okw_one (gb_le _ _))
          refine x_perm (ws' := [(h, .inr (0, [.ref h1, .ref h2, .int (nI (ss.length + 1))])), (h1, .inl (cA, cap, .inl (u71.1))), (h2, .inl (cA, mx, .inl (u71.2))), (f0, .inr (0, [.ref f01, .ref f02, .int (nI (pre.length + 1))])), (f01, .inl (cA, cap2, .inl (L2))), (f02, .inl (cA, mx2, .inl (Bd2)))]) [3, 4, 5, 0, 1, 2] (by decide) rfl ?_
          exact x_vret C hr d_S_addOthers_74 u71 rfl (⟨_, ⟨hA2.1, by rw [hA2.2.1, hl.2.1, GL_PG, show (n + 30) / 31 = n / 31 + 1 by omega, PG_succ]; rfl⟩, by omega, hH2⟩)
      · exact absurd c20 (by omega)
    | succ d ih =>
      intro i W La Ba hi hW heW hlW hHa
      obtain ⟨w, hw⟩ : ∃ w, fs[i]? = some w := ⟨fs[i], List.getElem?_eq_getElem (by omega)⟩
      have hwm : w ∈ fs := List.mem_of_getElem? hw
      have hwo := canon_mem hR.1 w hwm
      have hw2 : w.2 ≤ (ex fs).length := ex_mem_le hwm
      have hxW : (ex W).length < 2 ^ 24 := by
        rw [heW, List.length_map]
        have h9 : (ex (fs.take i)).length ≤ (ex fs).length := by
          conv => rhs; rw [← List.take_append_drop i fs, ex_app, List.length_append]
          omega
        omega
      have hA2 := pg_ok (ws := W) (b := w.1 ^^^ AL) (g := w.2) hW (fun _ => okw_not hwo)
      refine x_iload C d_S_addOthers_16 rfl ?_
      refine x_iload C d_S_addOthers_18 rfl ?_
      refine x_icmp_geN (tgt := 56) C d_S_addOthers_20 (by decide) (by omega) (by omega) (fun c20 => ?_) (fun c20 => ?_)
      · exact absurd c20 (by omega)
      · refine x_aload_n C d_S_addOthers_23 rfl rfl ?_
        refine x_aload_n C d_S_addOthers_24 rfl rfl ?_
        refine x_get C d_S_addOthers_25 3 rfl rfl i_S 0 (by decide) lk_S_15 rfl rfl ?_
        refine x_iload C d_S_addOthers_28 rfl ?_
        refine x_iald C d_S_addOthers_30 4 rfl (by omega) (by omega) ?_
        refine x_top (y := (enc w)) (nt_word hF hw) ?_
        refine x_callSIN (wr := [(h, .inr (0, [.ref h1, .ref h2, .int (nI (ss.length + 1))])), (h1, .inl (cA, cap, .inl (La))), (h2, .inl (cA, mx, .inl (Ba))), (f0, .inr (0, [.ref f01, .ref f02, .int (nI (pre.length + 1))])), (f01, .inl (cA, cap2, .inl (L2))), (f02, .inl (cA, mx2, .inl (Bd2)))]) (rest := [.ref h]) C (c_B_bitsOf hwo (by omega)) d_S_addOthers_31 cd_B_bitsOf lk_S_38 dd_B_bitsOf rfl ⟨Nat.le_of_ble_eq_true rfl, Nat.le_of_ble_eq_true rfl⟩ ⟨Nat.le_refl _, Nat.le_refl _⟩ [] [0, 1, 2, 3, 4, 5] rfl rfl (by decide) (by decide) (by decide) rfl (Nat.le_of_ble_eq_true rfl) ?_
        intro r_ u_ hp_
        obtain rfl := hp_
        refine x_ldc C d_S_addOthers_34 lk_S_52 ?_
        refine x_top (y := nI 2147483647) (by decide) ?_
        refine x_ixor C d_S_addOthers_36 ?_
        refine x_top (y := (nI (w.1 ^^^ AL))) (nx_xor _ _) ?_
        refine x_aload_n C d_S_addOthers_37 rfl rfl ?_
        refine x_get C d_S_addOthers_38 3 rfl rfl i_S 0 (by decide) lk_S_15 rfl rfl ?_
        refine x_iload C d_S_addOthers_41 rfl ?_
        refine x_iald C d_S_addOthers_43 4 rfl (by omega) (by omega) ?_
        refine x_top (y := (enc w)) (nt_word hF hw) ?_
        refine x_callSIN (wr := [(h, .inr (0, [.ref h1, .ref h2, .int (nI (ss.length + 1))])), (h1, .inl (cA, cap, .inl (La))), (h2, .inl (cA, mx, .inl (Ba))), (f0, .inr (0, [.ref f01, .ref f02, .int (nI (pre.length + 1))])), (f01, .inl (cA, cap2, .inl (L2))), (f02, .inl (cA, mx2, .inl (Bd2)))]) (rest := [.int (nI (w.1 ^^^ AL)), .ref h]) C (c_B_groupsOf hwo (by omega)) d_S_addOthers_44 cd_B_groupsOf lk_S_46 dd_B_groupsOf rfl ⟨Nat.le_of_ble_eq_true rfl, Nat.le_of_ble_eq_true rfl⟩ ⟨Nat.le_refl _, Nat.le_refl _⟩ [] [0, 1, 2, 3, 4, 5] rfl rfl (by decide) (by decide) (by decide) rfl (Nat.le_of_ble_eq_true rfl) ?_
        intro r_ u_ hp_
        obtain rfl := hp_
        refine x_callVV (wr := [(f0, .inr (0, [.ref f01, .ref f02, .int (nI (pre.length + 1))])), (f01, .inl (cA, cap2, .inl (L2))), (f02, .inl (cA, mx2, .inl (Bd2)))]) (rest := []) C (c_S_addGroups hHa rfl hW hxW (okw_not hwo).2.1 (fun _ => okw_not hwo) (by omega) (by omega)) d_S_addOthers_47 cd_S_addGroups lk_S_72 dd_S_addGroups rfl ⟨Nat.le_of_ble_eq_true rfl, Nat.le_of_ble_eq_true rfl⟩ ⟨Nat.le_refl _, Nat.le_refl _⟩ 0 0 rfl rfl [0, 1, 2] [3, 4, 5] rfl rfl (by decide) (by decide) (by decide) rfl (Nat.le_of_ble_eq_true rfl) ?_
        intro u47 hH2
        refine x_iincN (lv' := [(5, .int (nI (tot pre + i + 1))), (4, .int (nI (tot pre + fs.length))), (0, .ref h), (1, .ref f0), (2, .int (nI (pre.length))), (3, .int (nI (n % 31)))]) C d_S_addOthers_50 rfl (by decide) rfl ?_
        refine x_goto (tgt := 16) C d_S_addOthers_53 (by decide) ?_
        refine x_perm (ws' := [(h, .inr (0, [.ref h1, .ref h2, .int (nI (ss.length + 1))])), (h1, .inl (cA, cap, .inl (u47.1))), (h2, .inl (cA, mx, .inl (u47.2))), (f0, .inr (0, [.ref f01, .ref f02, .int (nI (pre.length + 1))])), (f01, .inl (cA, cap2, .inl (L2))), (f02, .inl (cA, mx2, .inl (Bd2)))]) [3, 4, 5, 0, 1, 2] (by decide) rfl ?_
        exact ih (i + 1) _ u47.1 u47.2 (by omega) hA2.1 (by rw [hA2.2.1, heW, take_snoc hw, ex_app, List.map_append, ex_one, List.map_replicate]) (by omega) hH2
  refine x_aload_n C d_S_addOthers_0 rfl rfl ?_
  refine x_iload_n C d_S_addOthers_1 rfl rfl ?_
  refine x_iconst (v := (nI (1))) C d_S_addOthers_2 (by decide) ?_
  refine x_iaddN C d_S_addOthers_3  ?_
  refine x_callVI (wr := [(h, .inr (0, [.ref h1, .ref h2, .int (nI (ss.length + 1))])), (h1, .inl (cA, cap, .inl (L))), (h2, .inl (cA, mx, .inl (Bd)))]) (rest := []) C (c_S_startOf (i := pre.length + 1) hF (by simp) (by simp)) d_S_addOthers_4 cd_S_startOf lk_S_31 dd_S_startOf rfl ⟨Nat.le_of_ble_eq_true rfl, Nat.le_of_ble_eq_true rfl⟩ ⟨Nat.le_refl _, Nat.le_refl _⟩ 0 0 rfl rfl [3, 4, 5] [0, 1, 2] rfl rfl (by decide) (by decide) (by decide) rfl (Nat.le_of_ble_eq_true rfl) ?_
  intro r_ u_ hp_
  obtain rfl := hp_
  refine x_top (y := (nI (tot pre + fs.length))) (by rw [off_snoc, List.length_map]) ?_
  refine x_istore (lv' := [(4, .int (nI (tot pre + fs.length))), (0, .ref h), (1, .ref f0), (2, .int (nI (pre.length))), (3, .int (nI (n % 31)))]) C d_S_addOthers_7 (by decide) rfl ?_
  refine x_aload_n C d_S_addOthers_9 rfl rfl ?_
  refine x_iload_n C d_S_addOthers_10 rfl rfl ?_
  refine x_callVI (wr := [(h, .inr (0, [.ref h1, .ref h2, .int (nI (ss.length + 1))])), (h1, .inl (cA, cap, .inl (L))), (h2, .inl (cA, mx, .inl (Bd)))]) (rest := []) C (c_S_startOf (i := pre.length) hF (by simp) (by simp)) d_S_addOthers_11 cd_S_startOf lk_S_31 dd_S_startOf rfl ⟨Nat.le_of_ble_eq_true rfl, Nat.le_of_ble_eq_true rfl⟩ ⟨Nat.le_refl _, Nat.le_refl _⟩ 0 0 rfl rfl [3, 4, 5] [0, 1, 2] rfl rfl (by decide) (by decide) (by decide) rfl (Nat.le_of_ble_eq_true rfl) ?_
  intro r_ u_ hp_
  obtain rfl := hp_
  refine x_top (y := (nI (tot pre))) (by rw [off_app (Nat.le_refl _), off_len]) ?_
  refine x_istore (lv' := [(5, .int (nI (tot pre))), (4, .int (nI (tot pre + fs.length))), (0, .ref h), (1, .ref f0), (2, .int (nI (pre.length))), (3, .int (nI (n % 31)))]) C d_S_addOthers_14 (by decide) rfl ?_
  exact LP fs.length 0 [] L Bd (by omega) trivial rfl (Nat.le_refl _) hH
end
section
/-! two sets joined, word against word -/
def gz (W : List (Nat × Nat)) (x : Nat) : Nat := match W[x]? with
  | some w => w.2
  | none => 0
/-- what is left of the groups: la of word i, and all behind it -/
def rmn (W : List (Nat × Nat)) (i la : Nat) : List Nat := match W[i]? with
  | some w => List.replicate la w.1 ++ ex (W.drop (i + 1))
  | none => []
theorem gz_some {W : List (Nat × Nat)} {x : Nat} {w : Nat × Nat} (h : W[x]? = some w) : gz W x = w.2 := by simp [gz, h]
theorem gz_none {W : List (Nat × Nat)} {x : Nat} (h : W.length ≤ x) : gz W x = 0 := by
  have : W[x]? = none := List.getElem?_eq_none h
  simp [gz, this]
theorem rmn_some {W : List (Nat × Nat)} {i la : Nat} {w : Nat × Nat} (h : W[i]? = some w) : rmn W i la = List.replicate la w.1 ++ ex (W.drop (i + 1)) := by simp [rmn, h]
theorem rmn_none {W : List (Nat × Nat)} {i la : Nat} (h : W.length ≤ i) : rmn W i la = [] := by
  have : W[i]? = none := List.getElem?_eq_none h
  simp [rmn, this]
theorem rmn_all (W : List (Nat × Nat)) (i : Nat) : rmn W i (gz W i) = ex (W.drop i) := by
  by_cases h : i < W.length
  · have h1 : W[i]? = some W[i] := List.getElem?_eq_getElem h
    rw [rmn_some h1, gz_some h1, List.drop_eq_getElem_cons h, ex_cons]
  · rw [rmn_none (by omega), List.drop_eq_nil_of_le (by omega)]
    rfl
theorem rmn_next {W : List (Nat × Nat)} {i g : Nat} {w : Nat × Nat} (h : W[i]? = some w) (hg : i + 1 < W.length → g = gz W (i + 1)) : rmn W i 0 = rmn W (i + 1) g := by
  rw [rmn_some h]
  by_cases h2 : i + 1 < W.length
  · rw [hg h2, rmn_all]
    rfl
  · rw [rmn_none (by omega), List.drop_eq_nil_of_le (by omega)]
    rfl
theorem zip_step {o : Nat → Nat → Nat} {a b : Nat} {X Y : List Nat} : ∀ (m la lb : Nat), m ≤ la → m ≤ lb → List.zipWith o (List.replicate la a ++ X) (List.replicate lb b ++ Y) = List.replicate m (o a b) ++ List.zipWith o (List.replicate (la - m) a ++ X) (List.replicate (lb - m) b ++ Y)
  | 0, la, lb, _, _ => by simp
  | m + 1, la, lb, h1, h2 => by
    obtain ⟨la, rfl⟩ : ∃ x, la = x + 1 := ⟨la - 1, by omega⟩
    obtain ⟨lb, rfl⟩ : ∃ x, lb = x + 1 := ⟨lb - 1, by omega⟩
    rw [List.replicate_succ, List.replicate_succ, List.replicate_succ, List.cons_append, List.cons_append, List.cons_append, List.zipWith_cons_cons, zip_step m la lb (by omega) (by omega), Nat.add_sub_add_right, Nat.add_sub_add_right]
theorem okw_jb {op m : Nat} {a b : Nat × Nat} (ha : okw a) (hb : okw b) (ho : op ≤ 3) (h1 : 1 ≤ m) (h2 : m ≤ a.2) (h3 : m ≤ b.2) : okw (jb op a.1 b.1, m) := by
  refine ⟨h1, jb_le ha.2.1 hb.2.1, ?_⟩
  by_cases hm : m = 1
  · exact Or.inr (Or.inr hm)
  · have h4 := okw_fill ha (by omega)
    have h5 := okw_fill hb (by omega)
    dsimp only
    rcases (show op = 0 ∨ op = 1 ∨ op = 2 ∨ op = 3 by omega) with rfl | rfl | rfl | rfl <;> rcases h4 with q | q <;> rcases h5 with q2 | q2 <;> rw [q, q2] <;> first | exact Or.inl (by decide) | exact Or.inr (Or.inl (by decide))
/-- the state of the loop -/
def jInv (op : Nat) (A B : List (Nat × Nat)) (i j la lb st : Nat) (W : List (Nat × Nat)) : Prop :=
  i ≤ A.length ∧ j ≤ B.length ∧ (∀ w, A[i]? = some w → 1 ≤ la ∧ la ≤ w.2) ∧ (∀ w, B[j]? = some w → 1 ≤ lb ∧ lb ≤ w.2) ∧ ex W ++ List.zipWith (jb op) (rmn A i la) (rmn B j lb) = List.zipWith (jb op) (ex A) (ex B) ∧ (rmn A i la).length = (rmn B j lb).length ∧ canon W ∧ W.length ≤ st ∧ st + (A.length - i) + (B.length - j) ≤ A.length + B.length ∧ la < 2 ^ 24 ∧ lb < 2 ^ 24
theorem jInv.done {op : Nat} {A B : List (Nat × Nat)} {i j la lb st : Nat} {W : List (Nat × Nat)} (h : jInv op A B i j la lb st W) (hx : A.length ≤ i ∨ B.length ≤ j) (hs : st ≤ A.length + B.length) : canon W ∧ ex W = List.zipWith (jb op) (ex A) (ex B) ∧ W.length ≤ A.length + B.length := by
  obtain ⟨h1, h2, h3, h4, h5, h6, h7, h8, h9, -⟩ := h
  have h10 : rmn A i la = [] ∧ rmn B j lb = [] := by
    rcases hx with q | q
    · have := rmn_none (la := la) q
      rw [this] at h6
      exact ⟨this, List.eq_nil_of_length_eq_zero h6.symm⟩
    · have := rmn_none (la := lb) q
      rw [this] at h6
      exact ⟨List.eq_nil_of_length_eq_zero h6, this⟩
  rw [h10.1, h10.2] at h5
  refine ⟨h7, by simpa using h5, by omega⟩
theorem jInv.small {op : Nat} {A B : List (Nat × Nat)} {i j la lb st : Nat} {W : List (Nat × Nat)} (h : jInv op A B i j la lb st W) : (ex W).length ≤ (ex A).length := by
  have h5 := congrArg List.length h.2.2.2.2.1
  rw [List.length_append, List.length_zipWith, List.length_zipWith] at h5
  omega
theorem jInv.step {op : Nat} {A B : List (Nat × Nat)} {i j la lb st i' j' la' lb' : Nat} {W : List (Nat × Nat)} {a b : Nat × Nat} (h : jInv op A B i j la lb st W) (ho : op ≤ 3) (ha : A[i]? = some a) (hb : B[j]? = some b) (oa : okw a) (ob : okw b) (hA : ∀ w ∈ A, okw w ∧ w.2 < 2 ^ 24) (hB : ∀ w ∈ B, okw w ∧ w.2 < 2 ^ 24)
    (ci : (i' = i ∧ la' = la - min la lb ∧ 0 < la') ∨ (la - min la lb = 0 ∧ i' = i + 1 ∧ (i + 1 < A.length → la' = gz A (i + 1)) ∧ la' < 2 ^ 24)) (cj : (j' = j ∧ lb' = lb - min la lb ∧ 0 < lb') ∨ (lb - min la lb = 0 ∧ j' = j + 1 ∧ (j + 1 < B.length → lb' = gz B (j + 1)) ∧ lb' < 2 ^ 24)) : jInv op A B i' j' la' lb' (st + 1) (pg W (jb op a.1 b.1) (min la lb)) := by
  obtain ⟨h1, h2, h3, h4, h5, h6, h7, h8, h9, h10, h11⟩ := h
  have hla := h3 a ha
  have hlb := h4 b hb
  have hi : i < A.length := (List.getElem?_eq_some_iff.mp ha).1
  have hj : j < B.length := (List.getElem?_eq_some_iff.mp hb).1
  have hw : okw (jb op a.1 b.1, min la lb) := okw_jb oa ob ho (by omega) (by omega) (by omega)
  have hp := pg_ok (ws := W) h7 (fun _ => hw)
  have eA : rmn A i (la - min la lb) = rmn A i' la' := by
    rcases ci with ⟨rfl, rfl, -⟩ | ⟨e, rfl, e2, -⟩
    · rfl
    · rw [e]; exact rmn_next ha e2
  have eB : rmn B j (lb - min la lb) = rmn B j' lb' := by
    rcases cj with ⟨rfl, rfl, -⟩ | ⟨e, rfl, e2, -⟩
    · rfl
    · rw [e]; exact rmn_next hb e2
  refine ⟨by omega, by omega, fun w hw => ?_, fun w hw => ?_, ?_, ?_, hp.1, by omega, by omega, by omega, by omega⟩
  · rcases ci with ⟨rfl, rfl, q⟩ | ⟨e, rfl, e2, -⟩
    · rw [ha] at hw
      cases hw
      omega
    · have hl : i + 1 < A.length := (List.getElem?_eq_some_iff.mp hw).1
      rw [e2 hl, gz_some hw]
      have := (hA w (List.mem_of_getElem? hw)).1.1
      omega
  · rcases cj with ⟨rfl, rfl, q⟩ | ⟨e, rfl, e2, -⟩
    · rw [hb] at hw
      cases hw
      omega
    · have hl : j + 1 < B.length := (List.getElem?_eq_some_iff.mp hw).1
      rw [e2 hl, gz_some hw]
      have := (hB w (List.mem_of_getElem? hw)).1.1
      omega
  · rw [← eA, ← eB, hp.2.1, ← h5, rmn_some ha, rmn_some hb, rmn_some ha, rmn_some hb, zip_step (min la lb) la lb (by omega) (by omega), List.append_assoc]
  · rw [← eA, ← eB]
    rw [rmn_some ha, rmn_some hb, List.length_append, List.length_append, List.length_replicate, List.length_replicate] at h6 ⊢
    omega
theorem jInv.start {op : Nat} {A B : List (Nat × Nat)} {la lb : Nat} (hl : (ex A).length = (ex B).length) (ha : 0 < A.length → la = gz A 0) (hb : 0 < B.length → lb = gz B 0) (hA : ∀ w ∈ A, okw w ∧ w.2 < 2 ^ 24) (hB : ∀ w ∈ B, okw w ∧ w.2 < 2 ^ 24) (h1 : la < 2 ^ 24) (h2 : lb < 2 ^ 24) : jInv op A B 0 0 la lb 0 [] := by
  have eA : rmn A 0 la = ex A := by
    by_cases h : 0 < A.length
    · rw [ha h, rmn_all]; rfl
    · rw [rmn_none (by omega), List.eq_nil_of_length_eq_zero (l := A) (by omega)]; rfl
  have eB : rmn B 0 lb = ex B := by
    by_cases h : 0 < B.length
    · rw [hb h, rmn_all]; rfl
    · rw [rmn_none (by omega), List.eq_nil_of_length_eq_zero (l := B) (by omega)]; rfl
  refine ⟨by omega, by omega, fun w hw => ?_, fun w hw => ?_, by rw [eA, eB]; rfl, by rw [eA, eB]; exact hl, trivial, by simp, by omega, h1, h2⟩
  · rw [ha (List.getElem?_eq_some_iff.mp hw).1, gz_some hw]
    have := (hA w (List.mem_of_getElem? hw)).1.1
    omega
  · rw [hb (List.getElem?_eq_some_iff.mp hw).1, gz_some hw]
    have := (hB w (List.mem_of_getElem? hw)).1.1
    omega
theorem gz_lt {W : List (Nat × Nat)} {x : Nat} (h : ∀ w ∈ W, okw w ∧ w.2 < 2 ^ 24) : gz W x < 2 ^ 24 := by
  by_cases hx : x < W.length
  · have h1 : W[x]? = some W[x] := List.getElem?_eq_getElem hx
    rw [gz_some h1]
    exact (h _ (List.mem_of_getElem? h1)).2
  · rw [gz_none (by omega)]
    omega
theorem gz_app_l {A B : List (Nat × Nat)} {x : Nat} (h : x < A.length) : gz (A ++ B) x = gz A x := by
  unfold gz
  rw [List.getElem?_append_left h]
theorem gz_app_r {A B : List (Nat × Nat)} {x : Nat} : gz (A ++ B) (A.length + x) = gz B x := by
  unfold gz
  rw [List.getElem?_append_right (by omega), Nat.add_sub_cancel_left]
theorem jn_word {cap mx : Nat} {L Bd : Nat → Int32} {pre : List (List Int32)} {A B : List (Nat × Nat)} (h : Hs cap mx L Bd (pre ++ [A.map enc] ++ [B.map enc])) {x : Nat} {w : Nat × Nat} (hw : (A ++ B)[x]? = some w) : L (tot pre + x) = enc w := by
  by_cases hx : x < A.length
  · rw [List.getElem?_append_left hx] at hw
    exact nt_word h.drop hw
  · rw [List.getElem?_append_right (by omega)] at hw
    have := nt_word h hw
    rw [tot_app, tot_one, List.length_map] at this
    rw [← this]
    congr 1
    omega
theorem c_S_groupsAt_any {l : Launch} {D : va_G} {cA : ClassId} {h h1 h2 cap mx : Nat} {L Bd : Nat → Int32} {k : Nat} {ss : List (List Int32)} (hH : Hs cap mx L Bd ss) (hk : ss.length = k) {W : List (Nat × Nat)} {at_ : Nat} (x t0 : Nat) (hat : at_ = t0 + x) (hx : x ≤ W.length) (htot : tot ss = t0 + W.length) (hL : ∀ y w, W[y]? = some w → L (t0 + y) = enc w) (hok : ∀ w ∈ W, okw w ∧ w.2 < 2 ^ 24) : CtI l D cA y_S_groupsAt b_S_groupsAt 2 (some .int) ({ frames := 1, cells := 0, slots := 0, locals := 20 } : Room) [.ref h, .int (nI at_)] (shW cA h h1 h2 cap mx L Bd k) (fun r (_ : Unit) => r = nI (gz W x)) (fun _ => (shW cA h h1 h2 cap mx L Bd k)) := by
  by_cases h : x < W.length
  · have h1 : W[x]? = some W[x] := List.getElem?_eq_getElem h
    have h2 := hok _ (List.mem_of_getElem? h1)
    rw [gz_some h1]
    exact c_S_groupsAt hH hk (by omega) h2.1 (by omega) (by rw [hat]; exact hL x _ h1)
  · rw [gz_none (by omega)]
    exact c_S_groupsAt_end hH hk (by omega)
set_option maxHeartbeats 4000000 in
theorem c_S_addJoined {l : Launch} {D : va_G} {cA : ClassId} {h h1 h2 cap mx : Nat} {L Bd : Nat → Int32} {f0 f01 f02 cap2 mx2 : Nat} {L2 Bd2 : Nat → Int32} {k k2 : Nat} {ss pre : List (List Int32)} {A B : List (Nat × Nat)} {op : Nat} (hH : Hs cap mx L Bd (ss ++ [[]])) (hk : ss.length + 1 = k) (hF : Hs cap2 mx2 L2 Bd2 (pre ++ [A.map enc] ++ [B.map enc])) (hk2 : pre.length + 2 = k2) (ho : op ≤ 3) (hA : canon A) (hB : canon B) (hlen : (ex A).length = (ex B).length) (hsm : (ex A).length < 2 ^ 24) (hc : tot ss + (A.length + B.length) ≤ cap)  : CtV l D cA y_S_addJoined b_S_addJoined 14 ({ frames := 5, cells := 0, slots := 0, locals := 106 } : Room) [.ref h, .ref f0, .int (nI (pre.length)), .int (nI (pre.length + 1)), .int (nI op)] (shW cA h h1 h2 cap mx L Bd k ++ shW cA f0 f01 f02 cap2 mx2 L2 Bd2 k2) (fun u : (Nat → Int32) × (Nat → Int32) => ∃ W, canon W ∧ ex W = List.zipWith (jb op) (ex A) (ex B) ∧ W.length ≤ A.length + B.length ∧ Hs cap mx u.1 u.2 (ss ++ [W.map enc])) (fun u => shW cA h h1 h2 cap mx u.1 u.2 k ++ shW cA f0 f01 f02 cap2 mx2 L2 Bd2 k2) := by
  subst hk
  subst hk2
  refine CtV.start (lv0 := [(0, .ref h), (1, .ref f0), (2, .int (nI (pre.length))), (3, .int (nI (pre.length + 1))), (4, .int (nI op))]) (by decide) rfl (Nat.le_of_ble_eq_true rfl) ?_
  intro p_ e_ s_ m_ args_ below_ meth_ c_ A_ C hr hin
  have hok : ∀ w ∈ A, okw w ∧ w.2 < 2 ^ 24 := fun w hw => ⟨canon_mem hA w hw, by have := ex_mem_le hw; omega⟩
  have hok2 : ∀ w ∈ B, okw w ∧ w.2 < 2 ^ 24 := fun w hw => ⟨canon_mem hB w hw, by have := ex_mem_le hw; omega⟩
  have hokA : ∀ w ∈ A ++ B, okw w ∧ w.2 < 2 ^ 24 := fun w hw => (List.mem_append.mp hw).elim (hok w) (hok2 w)
  have hlab : (A ++ B).length = A.length + B.length := List.length_append
  have hm := hF.in
  have htot : tot (pre ++ [A.map enc] ++ [B.map enc]) = tot pre + (A ++ B).length := by
    rw [tot_app, tot_app, tot_one, tot_one, List.length_map, List.length_map]
    simp [Nat.add_assoc]
  rw [tot_app, tot_one, List.length_map, List.length_map] at hm
  have hkl : (pre ++ [A.map enc] ++ [B.map enc]).length = pre.length + 2 := by simp
  have ho0 : off (pre ++ [A.map enc] ++ [B.map enc]) pre.length = tot pre := by
    rw [List.append_assoc, off_app (Nat.le_refl _), off_len]
  have ho1 : off (pre ++ [A.map enc] ++ [B.map enc]) (pre.length + 1) = tot pre + A.length := by
    rw [off_app (by simp), off_snoc, List.length_map]
  have ho2 : off (pre ++ [A.map enc] ++ [B.map enc]) (pre.length + 1 + 1) = tot pre + A.length + B.length := by
    have h9 := off_snoc (pre ++ [A.map enc]) (B.map enc)
    rw [tot_app, tot_one, List.length_map, List.length_map, List.length_append, List.length_singleton] at h9
    exact h9
  have LP : ∀ (d i j la lb st : Nat) (W : List (Nat × Nat)) (La Ba : Nat → Int32), st + d = A.length + B.length → jInv op A B i j la lb st W → Hs cap mx La Ba (ss ++ [W.map enc]) → ∀ lv : List (Nat × Value), lv.lookup 0 = some (.ref h) → lv.lookup 1 = some (.ref f0) → lv.lookup 4 = some (.int (nI op)) → lv.lookup 5 = some (.int (nI (tot pre + i))) → lv.lookup 6 = some (.int (nI (tot pre + A.length + j))) → lv.lookup 7 = some (.int (nI (tot pre + A.length))) → lv.lookup 8 = some (.int (nI (tot pre + A.length + B.length))) → lv.lookup 9 = some (.int (nI la)) → lv.lookup 10 = some (.int (nI lb)) → lv.lookup 11 = some (.int (nI (A.length + B.length))) → lv.lookup 12 = some (.int (nI st)) → X p_ l e_ ({ frames := 5, cells := 0, slots := 0, locals := 106 } : Room) s_ m_ args_ below_ meth_ c_ D A_ 14 0 0 (MQ below_ (va_Qv (fun u : (Nat → Int32) × (Nat → Int32) => ∃ W, canon W ∧ ex W = List.zipWith (jb op) (ex A) (ex B) ∧ W.length ≤ A.length + B.length ∧ Hs cap mx u.1 u.2 (ss ++ [W.map enc])) (Bw D A_ (fun u => shW cA h h1 h2 cap mx u.1 u.2 (ss.length + 1) ++ shW cA f0 f01 f02 cap2 mx2 L2 Bd2 (pre.length + 2))) A_) args_ s_ 0 0 A_) [(h, .inr (0, [.ref h1, .ref h2, .int (nI (ss.length + 1))])), (h1, .inl (cA, cap, .inl (La))), (h2, .inl (cA, mx, .inl (Ba))), (f0, .inr (0, [.ref f01, .ref f02, .int (nI (pre.length + 2))])), (f01, .inl (cA, cap2, .inl (L2))), (f02, .inl (cA, mx2, .inl (Bd2)))] 64  lv [] := by
    intro d
    induction d with
    | zero =>
      intro i j la lb st W La Ba hst hI hHa lv_ l0 l1 l4 l5 l6 l7 l8 l9 l10 l11 l12
      refine x_lv (lv' := [(0, .ref h), (1, .ref f0), (4, .int (nI op)), (5, .int (nI (tot pre + i))), (6, .int (nI (tot pre + A.length + j))), (7, .int (nI (tot pre + A.length))), (8, .int (nI (tot pre + A.length + B.length))), (9, .int (nI la)), (10, .int (nI lb)), (11, .int (nI (A.length + B.length))), (12, .int (nI st))]) (Or.inr (fun q hq => by simp only [List.mem_cons, List.not_mem_nil, or_false] at hq; rcases hq with rfl | rfl | rfl | rfl | rfl | rfl | rfl | rfl | rfl | rfl | rfl <;> assumption)) ?_
      have hI0 := hI
      obtain ⟨hi1, hj1, -, -, -, -, -, -, hst2, hla1, hlb1⟩ := hI0
      refine x_iload C d_S_addJoined_64 rfl ?_
      refine x_iload C d_S_addJoined_66 rfl ?_
      refine x_icmp_geN (tgt := 177) C d_S_addJoined_68 (by decide) (by omega) (by omega) (fun c68 => ?_) (fun c68 => ?_)
      · exact x_vret C hr d_S_addJoined_177 (La, Ba) rfl (by
          have h9 := hI.done (by omega) (by omega)
          exact ⟨W, h9.1, h9.2.1, h9.2.2, hHa⟩)
      · exact absurd c68 (by omega)
    | succ d ih =>
      intro i j la lb st W La Ba hst hI hHa lv_ l0 l1 l4 l5 l6 l7 l8 l9 l10 l11 l12
      refine x_lv (lv' := [(0, .ref h), (1, .ref f0), (4, .int (nI op)), (5, .int (nI (tot pre + i))), (6, .int (nI (tot pre + A.length + j))), (7, .int (nI (tot pre + A.length))), (8, .int (nI (tot pre + A.length + B.length))), (9, .int (nI la)), (10, .int (nI lb)), (11, .int (nI (A.length + B.length))), (12, .int (nI st))]) (Or.inr (fun q hq => by simp only [List.mem_cons, List.not_mem_nil, or_false] at hq; rcases hq with rfl | rfl | rfl | rfl | rfl | rfl | rfl | rfl | rfl | rfl | rfl <;> assumption)) ?_
      have hI0 := hI
      obtain ⟨hi1, hj1, hla0, hlb0, -, -, hWc, hWl, hst2, hla1, hlb1⟩ := hI0
      refine x_iload C d_S_addJoined_64 rfl ?_
      refine x_iload C d_S_addJoined_66 rfl ?_
      refine x_icmp_geN (tgt := 177) C d_S_addJoined_68 (by decide) (by omega) (by omega) (fun c68 => ?_) (fun c68 => ?_)
      · exact absurd c68 (by omega)
      · refine x_iload C d_S_addJoined_71 rfl ?_
        refine x_iload C d_S_addJoined_73 rfl ?_
        refine x_icmp_geN (tgt := 177) C d_S_addJoined_75 (by decide) (by omega) (by omega) (fun c75 => ?_) (fun c75 => ?_)
        · exact x_vret C hr d_S_addJoined_177 (La, Ba) rfl (by
            have h9 := hI.done (by omega) (by omega)
            exact ⟨W, h9.1, h9.2.1, h9.2.2, hHa⟩)
        · refine x_iload C d_S_addJoined_78 rfl ?_
          refine x_iload C d_S_addJoined_80 rfl ?_
          refine x_icmp_geN (tgt := 177) C d_S_addJoined_82 (by decide) (by omega) (by omega) (fun c82 => ?_) (fun c82 => ?_)
          · exact x_vret C hr d_S_addJoined_177 (La, Ba) rfl (by
              have h9 := hI.done (by omega) (by omega)
              exact ⟨W, h9.1, h9.2.1, h9.2.2, hHa⟩)
          · obtain ⟨a, ha⟩ : ∃ a, A[i]? = some a := ⟨A[i], List.getElem?_eq_getElem (by omega)⟩
            obtain ⟨b, hb⟩ : ∃ b, B[j]? = some b := ⟨B[j], List.getElem?_eq_getElem (by omega)⟩
            have oa := hok a (List.mem_of_getElem? ha)
            have ob := hok2 b (List.mem_of_getElem? hb)
            have hla2 := hla0 a ha
            have hlb2 := hlb0 b hb
            have hxW := hI.small
            refine x_iload C d_S_addJoined_85 rfl ?_
            refine x_iload C d_S_addJoined_87 rfl ?_
            refine x_mminN C d_S_addJoined_89 lk_S_22 ma_min_st ini_Ma ma_min_cd ⟨Nat.le_of_ble_eq_true rfl, Nat.le_of_ble_eq_true rfl, Nat.zero_le _, Nat.zero_le _⟩ (by omega) (by omega) ?_
            refine x_istore (lv' := [(13, .int (nI (min la lb))), (0, .ref h), (1, .ref f0), (4, .int (nI op)), (5, .int (nI (tot pre + i))), (6, .int (nI (tot pre + A.length + j))), (7, .int (nI (tot pre + A.length))), (8, .int (nI (tot pre + A.length + B.length))), (9, .int (nI la)), (10, .int (nI lb)), (11, .int (nI (A.length + B.length))), (12, .int (nI st))]) C d_S_addJoined_92 (by decide) rfl ?_
            refine x_aload_n C d_S_addJoined_94 rfl rfl ?_
            refine x_iload C d_S_addJoined_95 rfl ?_
            refine x_aload_n C d_S_addJoined_97 rfl rfl ?_
            refine x_get C d_S_addJoined_98 3 rfl rfl i_S 0 (by decide) lk_S_15 rfl rfl ?_
            refine x_iload C d_S_addJoined_101 rfl ?_
            refine x_iald C d_S_addJoined_103 4 rfl (by omega) (by omega) ?_
            refine x_top (y := (enc a)) (jn_word hF (by rw [List.getElem?_append_left (by omega)]; exact ha)) ?_
            refine x_callSIN (wr := [(h, .inr (0, [.ref h1, .ref h2, .int (nI (ss.length + 1))])), (h1, .inl (cA, cap, .inl (La))), (h2, .inl (cA, mx, .inl (Ba))), (f0, .inr (0, [.ref f01, .ref f02, .int (nI (pre.length + 2))])), (f01, .inl (cA, cap2, .inl (L2))), (f02, .inl (cA, mx2, .inl (Bd2)))]) (rest := [.int (nI op), .ref h]) C (c_B_bitsOf oa.1 (by omega)) d_S_addJoined_104 cd_B_bitsOf lk_S_38 dd_B_bitsOf rfl ⟨Nat.le_of_ble_eq_true rfl, Nat.le_of_ble_eq_true rfl⟩ ⟨Nat.le_refl _, Nat.le_refl _⟩ [] [0, 1, 2, 3, 4, 5] rfl rfl (by decide) (by decide) (by decide) rfl (Nat.le_of_ble_eq_true rfl) ?_
            intro r_ u_ hp_
            obtain rfl := hp_
            refine x_aload_n C d_S_addJoined_107 rfl rfl ?_
            refine x_get C d_S_addJoined_108 3 rfl rfl i_S 0 (by decide) lk_S_15 rfl rfl ?_
            refine x_iload C d_S_addJoined_111 rfl ?_
            refine x_iald C d_S_addJoined_113 4 rfl (by omega) (by omega) ?_
            refine x_top (y := (enc b)) (by rw [Nat.add_assoc]; exact jn_word hF (by rw [List.getElem?_append_right (by omega), Nat.add_sub_cancel_left]; exact hb)) ?_
            refine x_callSIN (wr := [(h, .inr (0, [.ref h1, .ref h2, .int (nI (ss.length + 1))])), (h1, .inl (cA, cap, .inl (La))), (h2, .inl (cA, mx, .inl (Ba))), (f0, .inr (0, [.ref f01, .ref f02, .int (nI (pre.length + 2))])), (f01, .inl (cA, cap2, .inl (L2))), (f02, .inl (cA, mx2, .inl (Bd2)))]) (rest := [.int (nI (a.1)), .int (nI op), .ref h]) C (c_B_bitsOf ob.1 (by omega)) d_S_addJoined_114 cd_B_bitsOf lk_S_38 dd_B_bitsOf rfl ⟨Nat.le_of_ble_eq_true rfl, Nat.le_of_ble_eq_true rfl⟩ ⟨Nat.le_refl _, Nat.le_refl _⟩ [] [0, 1, 2, 3, 4, 5] rfl rfl (by decide) (by decide) (by decide) rfl (Nat.le_of_ble_eq_true rfl) ?_
            intro r_ u_ hp_
            obtain rfl := hp_
            refine x_callSIN (wr := [(h, .inr (0, [.ref h1, .ref h2, .int (nI (ss.length + 1))])), (h1, .inl (cA, cap, .inl (La))), (h2, .inl (cA, mx, .inl (Ba))), (f0, .inr (0, [.ref f01, .ref f02, .int (nI (pre.length + 2))])), (f01, .inl (cA, cap2, .inl (L2))), (f02, .inl (cA, mx2, .inl (Bd2)))]) (rest := [.ref h]) C (c_B_joinedBits ho oa.1.2.1 ob.1.2.1) d_S_addJoined_117 cd_B_joinedBits lk_S_79 dd_B_joinedBits rfl ⟨Nat.le_of_ble_eq_true rfl, Nat.le_of_ble_eq_true rfl⟩ ⟨Nat.le_refl _, Nat.le_refl _⟩ [] [0, 1, 2, 3, 4, 5] rfl rfl (by decide) (by decide) (by decide) rfl (Nat.le_of_ble_eq_true rfl) ?_
            intro r_ u_ hp_
            obtain rfl := hp_
            refine x_iload C d_S_addJoined_120 rfl ?_
            refine x_callVV (wr := [(f0, .inr (0, [.ref f01, .ref f02, .int (nI (pre.length + 2))])), (f01, .inl (cA, cap2, .inl (L2))), (f02, .inl (cA, mx2, .inl (Bd2)))]) (rest := []) C (c_S_addGroups hHa rfl hWc (by omega) (jb_le oa.1.2.1 ob.1.2.1) (fun h9 => okw_jb oa.1 ob.1 ho h9 (by omega) (by omega)) (by omega) (by omega)) d_S_addJoined_122 cd_S_addGroups lk_S_72 dd_S_addGroups rfl ⟨Nat.le_of_ble_eq_true rfl, Nat.le_of_ble_eq_true rfl⟩ ⟨Nat.le_refl _, Nat.le_refl _⟩ 0 0 rfl rfl [0, 1, 2] [3, 4, 5] rfl rfl (by decide) (by decide) (by decide) rfl (Nat.le_of_ble_eq_true rfl) ?_
            intro u122 hH2
            refine x_iload C d_S_addJoined_125 rfl ?_
            refine x_iload C d_S_addJoined_127 rfl ?_
            refine x_isubN C d_S_addJoined_129 (by omega) ?_
            refine x_istore (lv' := [(9, .int (nI (la - (min la lb)))), (13, .int (nI (min la lb))), (0, .ref h), (1, .ref f0), (4, .int (nI op)), (5, .int (nI (tot pre + i))), (6, .int (nI (tot pre + A.length + j))), (7, .int (nI (tot pre + A.length))), (8, .int (nI (tot pre + A.length + B.length))), (10, .int (nI lb)), (11, .int (nI (A.length + B.length))), (12, .int (nI st))]) C d_S_addJoined_130 (by decide) rfl ?_
            refine x_iload C d_S_addJoined_132 rfl ?_
            refine x_iload C d_S_addJoined_134 rfl ?_
            refine x_isubN C d_S_addJoined_136 (by omega) ?_
            refine x_istore (lv' := [(10, .int (nI (lb - (min la lb)))), (9, .int (nI (la - (min la lb)))), (13, .int (nI (min la lb))), (0, .ref h), (1, .ref f0), (4, .int (nI op)), (5, .int (nI (tot pre + i))), (6, .int (nI (tot pre + A.length + j))), (7, .int (nI (tot pre + A.length))), (8, .int (nI (tot pre + A.length + B.length))), (11, .int (nI (A.length + B.length))), (12, .int (nI st))]) C d_S_addJoined_137 (by decide) rfl ?_
            refine x_iload C d_S_addJoined_139 rfl ?_
            refine x_if_neN (tgt := 155) C d_S_addJoined_141 (by decide) (by omega) (fun c141 => ?_) (fun c141 => ?_)
            · refine x_iload C d_S_addJoined_155 rfl ?_
              refine x_if_neN (tgt := 171) C d_S_addJoined_157 (by decide) (by omega) (fun c157 => ?_) (fun c157 => ?_)
              · exact absurd c157 (by omega)
              · refine x_iincN (lv' := [(6, .int (nI (tot pre + A.length + j + 1))), (10, .int (nI (lb - (min la lb)))), (9, .int (nI (la - (min la lb)))), (13, .int (nI (min la lb))), (0, .ref h), (1, .ref f0), (4, .int (nI op)), (5, .int (nI (tot pre + i))), (7, .int (nI (tot pre + A.length))), (8, .int (nI (tot pre + A.length + B.length))), (11, .int (nI (A.length + B.length))), (12, .int (nI st))]) C d_S_addJoined_160 rfl (by decide) rfl ?_
                refine x_aload_n C d_S_addJoined_163 rfl rfl ?_
                refine x_iload C d_S_addJoined_164 rfl ?_
                refine x_callVI (wr := [(h, .inr (0, [.ref h1, .ref h2, .int (nI (ss.length + 1))])), (h1, .inl (cA, cap, .inl (u122.1))), (h2, .inl (cA, mx, .inl (u122.2)))]) (rest := []) C (c_S_groupsAt_any (at_ := tot pre + A.length + j + 1) hF hkl (A.length + (j + 1)) (tot pre) (by omega) (by omega) htot (fun y w h9 => jn_word hF h9) hokA) d_S_addJoined_166 cd_S_groupsAt lk_S_76 dd_S_groupsAt rfl ⟨Nat.le_of_ble_eq_true rfl, Nat.le_of_ble_eq_true rfl⟩ ⟨Nat.le_refl _, Nat.le_refl _⟩ 0 0 rfl rfl [0, 1, 2] [3, 4, 5] rfl rfl (by decide) (by decide) (by decide) rfl (Nat.le_of_ble_eq_true rfl) ?_
                intro r_ u_ hp_
                obtain rfl := hp_
                refine x_istore (lv' := [(10, .int (nI (gz (A ++ B) (A.length + (j + 1))))), (6, .int (nI (tot pre + A.length + j + 1))), (9, .int (nI (la - (min la lb)))), (13, .int (nI (min la lb))), (0, .ref h), (1, .ref f0), (4, .int (nI op)), (5, .int (nI (tot pre + i))), (7, .int (nI (tot pre + A.length))), (8, .int (nI (tot pre + A.length + B.length))), (11, .int (nI (A.length + B.length))), (12, .int (nI st))]) C d_S_addJoined_169 (by decide) rfl ?_
                refine x_iincN (lv' := [(12, .int (nI (st + 1))), (10, .int (nI (gz (A ++ B) (A.length + (j + 1))))), (6, .int (nI (tot pre + A.length + j + 1))), (9, .int (nI (la - (min la lb)))), (13, .int (nI (min la lb))), (0, .ref h), (1, .ref f0), (4, .int (nI op)), (5, .int (nI (tot pre + i))), (7, .int (nI (tot pre + A.length))), (8, .int (nI (tot pre + A.length + B.length))), (11, .int (nI (A.length + B.length)))]) C d_S_addJoined_171 rfl (by decide) rfl ?_
                refine x_goto (tgt := 64) C d_S_addJoined_174 (by decide) ?_
                exact ih i (j + 1) (la - min la lb) (gz (A ++ B) (A.length + (j + 1))) (st + 1) _ u122.1 u122.2 (by omega) (hI.step ho ha hb oa.1 ob.1 hok hok2 (Or.inl ⟨rfl, rfl, c141⟩) (Or.inr ⟨c157, rfl, fun _ => gz_app_r, gz_lt hokA⟩)) hH2 _ rfl rfl rfl rfl rfl rfl rfl rfl rfl rfl rfl
            · refine x_iincN (lv' := [(5, .int (nI (tot pre + i + 1))), (10, .int (nI (lb - (min la lb)))), (9, .int (nI (la - (min la lb)))), (13, .int (nI (min la lb))), (0, .ref h), (1, .ref f0), (4, .int (nI op)), (6, .int (nI (tot pre + A.length + j))), (7, .int (nI (tot pre + A.length))), (8, .int (nI (tot pre + A.length + B.length))), (11, .int (nI (A.length + B.length))), (12, .int (nI st))]) C d_S_addJoined_144 rfl (by decide) rfl ?_
              refine x_aload_n C d_S_addJoined_147 rfl rfl ?_
              refine x_iload C d_S_addJoined_148 rfl ?_
              refine x_callVI (wr := [(h, .inr (0, [.ref h1, .ref h2, .int (nI (ss.length + 1))])), (h1, .inl (cA, cap, .inl (u122.1))), (h2, .inl (cA, mx, .inl (u122.2)))]) (rest := []) C (c_S_groupsAt_any (at_ := tot pre + i + 1) hF hkl (i + 1) (tot pre) (by omega) (by omega) htot (fun y w h9 => jn_word hF h9) hokA) d_S_addJoined_150 cd_S_groupsAt lk_S_76 dd_S_groupsAt rfl ⟨Nat.le_of_ble_eq_true rfl, Nat.le_of_ble_eq_true rfl⟩ ⟨Nat.le_refl _, Nat.le_refl _⟩ 0 0 rfl rfl [0, 1, 2] [3, 4, 5] rfl rfl (by decide) (by decide) (by decide) rfl (Nat.le_of_ble_eq_true rfl) ?_
              intro r_ u_ hp_
              obtain rfl := hp_
              refine x_istore (lv' := [(9, .int (nI (gz (A ++ B) (i + 1)))), (5, .int (nI (tot pre + i + 1))), (10, .int (nI (lb - (min la lb)))), (13, .int (nI (min la lb))), (0, .ref h), (1, .ref f0), (4, .int (nI op)), (6, .int (nI (tot pre + A.length + j))), (7, .int (nI (tot pre + A.length))), (8, .int (nI (tot pre + A.length + B.length))), (11, .int (nI (A.length + B.length))), (12, .int (nI st))]) C d_S_addJoined_153 (by decide) rfl ?_
              refine x_iload C d_S_addJoined_155 rfl ?_
              refine x_if_neN (tgt := 171) C d_S_addJoined_157 (by decide) (by omega) (fun c157 => ?_) (fun c157 => ?_)
              · refine x_iincN (lv' := [(12, .int (nI (st + 1))), (9, .int (nI (gz (A ++ B) (i + 1)))), (5, .int (nI (tot pre + i + 1))), (10, .int (nI (lb - (min la lb)))), (13, .int (nI (min la lb))), (0, .ref h), (1, .ref f0), (4, .int (nI op)), (6, .int (nI (tot pre + A.length + j))), (7, .int (nI (tot pre + A.length))), (8, .int (nI (tot pre + A.length + B.length))), (11, .int (nI (A.length + B.length)))]) C d_S_addJoined_171 rfl (by decide) rfl ?_
                refine x_goto (tgt := 64) C d_S_addJoined_174 (by decide) ?_
                exact ih (i + 1) j (gz (A ++ B) (i + 1)) (lb - min la lb) (st + 1) _ u122.1 u122.2 (by omega) (hI.step ho ha hb oa.1 ob.1 hok hok2 (Or.inr ⟨c141, rfl, fun h9 => gz_app_l h9, gz_lt hokA⟩) (Or.inl ⟨rfl, rfl, c157⟩)) hH2 _ rfl rfl rfl rfl rfl rfl rfl rfl rfl rfl rfl
              · refine x_iincN (lv' := [(6, .int (nI (tot pre + A.length + j + 1))), (9, .int (nI (gz (A ++ B) (i + 1)))), (5, .int (nI (tot pre + i + 1))), (10, .int (nI (lb - (min la lb)))), (13, .int (nI (min la lb))), (0, .ref h), (1, .ref f0), (4, .int (nI op)), (7, .int (nI (tot pre + A.length))), (8, .int (nI (tot pre + A.length + B.length))), (11, .int (nI (A.length + B.length))), (12, .int (nI st))]) C d_S_addJoined_160 rfl (by decide) rfl ?_
                refine x_aload_n C d_S_addJoined_163 rfl rfl ?_
                refine x_iload C d_S_addJoined_164 rfl ?_
                refine x_callVI (wr := [(h, .inr (0, [.ref h1, .ref h2, .int (nI (ss.length + 1))])), (h1, .inl (cA, cap, .inl (u122.1))), (h2, .inl (cA, mx, .inl (u122.2)))]) (rest := []) C (c_S_groupsAt_any (at_ := tot pre + A.length + j + 1) hF hkl (A.length + (j + 1)) (tot pre) (by omega) (by omega) htot (fun y w h9 => jn_word hF h9) hokA) d_S_addJoined_166 cd_S_groupsAt lk_S_76 dd_S_groupsAt rfl ⟨Nat.le_of_ble_eq_true rfl, Nat.le_of_ble_eq_true rfl⟩ ⟨Nat.le_refl _, Nat.le_refl _⟩ 0 0 rfl rfl [3, 4, 5] [0, 1, 2] rfl rfl (by decide) (by decide) (by decide) rfl (Nat.le_of_ble_eq_true rfl) ?_
                intro r_ u_ hp_
                obtain rfl := hp_
                refine x_istore (lv' := [(10, .int (nI (gz (A ++ B) (A.length + (j + 1))))), (6, .int (nI (tot pre + A.length + j + 1))), (9, .int (nI (gz (A ++ B) (i + 1)))), (5, .int (nI (tot pre + i + 1))), (13, .int (nI (min la lb))), (0, .ref h), (1, .ref f0), (4, .int (nI op)), (7, .int (nI (tot pre + A.length))), (8, .int (nI (tot pre + A.length + B.length))), (11, .int (nI (A.length + B.length))), (12, .int (nI st))]) C d_S_addJoined_169 (by decide) rfl ?_
                refine x_iincN (lv' := [(12, .int (nI (st + 1))), (10, .int (nI (gz (A ++ B) (A.length + (j + 1))))), (6, .int (nI (tot pre + A.length + j + 1))), (9, .int (nI (gz (A ++ B) (i + 1)))), (5, .int (nI (tot pre + i + 1))), (13, .int (nI (min la lb))), (0, .ref h), (1, .ref f0), (4, .int (nI op)), (7, .int (nI (tot pre + A.length))), (8, .int (nI (tot pre + A.length + B.length))), (11, .int (nI (A.length + B.length)))]) C d_S_addJoined_171 rfl (by decide) rfl ?_
                refine x_goto (tgt := 64) C d_S_addJoined_174 (by decide) ?_
                exact ih (i + 1) (j + 1) (gz (A ++ B) (i + 1)) (gz (A ++ B) (A.length + (j + 1))) (st + 1) _ u122.1 u122.2 (by omega) (hI.step ho ha hb oa.1 ob.1 hok hok2 (Or.inr ⟨c141, rfl, fun h9 => gz_app_l h9, gz_lt hokA⟩) (Or.inr ⟨c157, rfl, fun _ => gz_app_r, gz_lt hokA⟩)) hH2 _ rfl rfl rfl rfl rfl rfl rfl rfl rfl rfl rfl
  refine x_aload_n C d_S_addJoined_0 rfl rfl ?_
  refine x_iload_n C d_S_addJoined_1 rfl rfl ?_
  refine x_callVI (wr := [(h, .inr (0, [.ref h1, .ref h2, .int (nI (ss.length + 1))])), (h1, .inl (cA, cap, .inl (L))), (h2, .inl (cA, mx, .inl (Bd)))]) (rest := []) C (c_S_startOf (i := pre.length) hF hkl (by omega)) d_S_addJoined_2 cd_S_startOf lk_S_31 dd_S_startOf rfl ⟨Nat.le_of_ble_eq_true rfl, Nat.le_of_ble_eq_true rfl⟩ ⟨Nat.le_refl _, Nat.le_refl _⟩ 0 0 rfl rfl [3, 4, 5] [0, 1, 2] rfl rfl (by decide) (by decide) (by decide) rfl (Nat.le_of_ble_eq_true rfl) ?_
  intro r_ u_ hp_
  obtain rfl := hp_
  refine x_top (y := (nI (tot pre))) (by rw [ho0]) ?_
  refine x_istore (lv' := [(5, .int (nI (tot pre))), (0, .ref h), (1, .ref f0), (2, .int (nI (pre.length))), (3, .int (nI (pre.length + 1))), (4, .int (nI op))]) C d_S_addJoined_5 (by decide) rfl ?_
  refine x_aload_n C d_S_addJoined_7 rfl rfl ?_
  refine x_iload_n C d_S_addJoined_8 rfl rfl ?_
  refine x_callVI (wr := [(h, .inr (0, [.ref h1, .ref h2, .int (nI (ss.length + 1))])), (h1, .inl (cA, cap, .inl (L))), (h2, .inl (cA, mx, .inl (Bd)))]) (rest := []) C (c_S_startOf (i := pre.length + 1) hF hkl (by omega)) d_S_addJoined_9 cd_S_startOf lk_S_31 dd_S_startOf rfl ⟨Nat.le_of_ble_eq_true rfl, Nat.le_of_ble_eq_true rfl⟩ ⟨Nat.le_refl _, Nat.le_refl _⟩ 0 0 rfl rfl [3, 4, 5] [0, 1, 2] rfl rfl (by decide) (by decide) (by decide) rfl (Nat.le_of_ble_eq_true rfl) ?_
  intro r_ u_ hp_
  obtain rfl := hp_
  refine x_top (y := (nI (tot pre + A.length))) (by rw [ho1]) ?_
  refine x_istore (lv' := [(6, .int (nI (tot pre + A.length))), (5, .int (nI (tot pre))), (0, .ref h), (1, .ref f0), (2, .int (nI (pre.length))), (3, .int (nI (pre.length + 1))), (4, .int (nI op))]) C d_S_addJoined_12 (by decide) rfl ?_
  refine x_aload_n C d_S_addJoined_14 rfl rfl ?_
  refine x_iload_n C d_S_addJoined_15 rfl rfl ?_
  refine x_iconst (v := (nI (1))) C d_S_addJoined_16 (by decide) ?_
  refine x_iaddN C d_S_addJoined_17  ?_
  refine x_callVI (wr := [(h, .inr (0, [.ref h1, .ref h2, .int (nI (ss.length + 1))])), (h1, .inl (cA, cap, .inl (L))), (h2, .inl (cA, mx, .inl (Bd)))]) (rest := []) C (c_S_startOf (i := pre.length + 1) hF hkl (by omega)) d_S_addJoined_18 cd_S_startOf lk_S_31 dd_S_startOf rfl ⟨Nat.le_of_ble_eq_true rfl, Nat.le_of_ble_eq_true rfl⟩ ⟨Nat.le_refl _, Nat.le_refl _⟩ 0 0 rfl rfl [3, 4, 5] [0, 1, 2] rfl rfl (by decide) (by decide) (by decide) rfl (Nat.le_of_ble_eq_true rfl) ?_
  intro r_ u_ hp_
  obtain rfl := hp_
  refine x_top (y := (nI (tot pre + A.length))) (by rw [ho1]) ?_
  refine x_istore (lv' := [(7, .int (nI (tot pre + A.length))), (6, .int (nI (tot pre + A.length))), (5, .int (nI (tot pre))), (0, .ref h), (1, .ref f0), (2, .int (nI (pre.length))), (3, .int (nI (pre.length + 1))), (4, .int (nI op))]) C d_S_addJoined_21 (by decide) rfl ?_
  refine x_aload_n C d_S_addJoined_23 rfl rfl ?_
  refine x_iload_n C d_S_addJoined_24 rfl rfl ?_
  refine x_iconst (v := (nI (1))) C d_S_addJoined_25 (by decide) ?_
  refine x_iaddN C d_S_addJoined_26  ?_
  refine x_callVI (wr := [(h, .inr (0, [.ref h1, .ref h2, .int (nI (ss.length + 1))])), (h1, .inl (cA, cap, .inl (L))), (h2, .inl (cA, mx, .inl (Bd)))]) (rest := []) C (c_S_startOf (i := pre.length + 1 + 1) hF hkl (by omega)) d_S_addJoined_27 cd_S_startOf lk_S_31 dd_S_startOf rfl ⟨Nat.le_of_ble_eq_true rfl, Nat.le_of_ble_eq_true rfl⟩ ⟨Nat.le_refl _, Nat.le_refl _⟩ 0 0 rfl rfl [3, 4, 5] [0, 1, 2] rfl rfl (by decide) (by decide) (by decide) rfl (Nat.le_of_ble_eq_true rfl) ?_
  intro r_ u_ hp_
  obtain rfl := hp_
  refine x_top (y := (nI (tot pre + A.length + B.length))) (by rw [ho2]) ?_
  refine x_istore (lv' := [(8, .int (nI (tot pre + A.length + B.length))), (7, .int (nI (tot pre + A.length))), (6, .int (nI (tot pre + A.length))), (5, .int (nI (tot pre))), (0, .ref h), (1, .ref f0), (2, .int (nI (pre.length))), (3, .int (nI (pre.length + 1))), (4, .int (nI op))]) C d_S_addJoined_30 (by decide) rfl ?_
  refine x_aload_n C d_S_addJoined_32 rfl rfl ?_
  refine x_iload C d_S_addJoined_33 rfl ?_
  refine x_callVI (wr := [(h, .inr (0, [.ref h1, .ref h2, .int (nI (ss.length + 1))])), (h1, .inl (cA, cap, .inl (L))), (h2, .inl (cA, mx, .inl (Bd)))]) (rest := []) C (c_S_groupsAt_any (at_ := tot pre) hF hkl 0 (tot pre) (by omega) (by omega) htot (fun y w h9 => jn_word hF h9) hokA) d_S_addJoined_35 cd_S_groupsAt lk_S_76 dd_S_groupsAt rfl ⟨Nat.le_of_ble_eq_true rfl, Nat.le_of_ble_eq_true rfl⟩ ⟨Nat.le_refl _, Nat.le_refl _⟩ 0 0 rfl rfl [3, 4, 5] [0, 1, 2] rfl rfl (by decide) (by decide) (by decide) rfl (Nat.le_of_ble_eq_true rfl) ?_
  intro r_ u_ hp_
  obtain rfl := hp_
  refine x_istore (lv' := [(9, .int (nI (gz (A ++ B) 0))), (8, .int (nI (tot pre + A.length + B.length))), (7, .int (nI (tot pre + A.length))), (6, .int (nI (tot pre + A.length))), (5, .int (nI (tot pre))), (0, .ref h), (1, .ref f0), (2, .int (nI (pre.length))), (3, .int (nI (pre.length + 1))), (4, .int (nI op))]) C d_S_addJoined_38 (by decide) rfl ?_
  refine x_aload_n C d_S_addJoined_40 rfl rfl ?_
  refine x_iload C d_S_addJoined_41 rfl ?_
  refine x_callVI (wr := [(h, .inr (0, [.ref h1, .ref h2, .int (nI (ss.length + 1))])), (h1, .inl (cA, cap, .inl (L))), (h2, .inl (cA, mx, .inl (Bd)))]) (rest := []) C (c_S_groupsAt_any (at_ := tot pre + A.length) hF hkl (A.length + 0) (tot pre) (by omega) (by omega) htot (fun y w h9 => jn_word hF h9) hokA) d_S_addJoined_43 cd_S_groupsAt lk_S_76 dd_S_groupsAt rfl ⟨Nat.le_of_ble_eq_true rfl, Nat.le_of_ble_eq_true rfl⟩ ⟨Nat.le_refl _, Nat.le_refl _⟩ 0 0 rfl rfl [3, 4, 5] [0, 1, 2] rfl rfl (by decide) (by decide) (by decide) rfl (Nat.le_of_ble_eq_true rfl) ?_
  intro r_ u_ hp_
  obtain rfl := hp_
  refine x_istore (lv' := [(10, .int (nI (gz (A ++ B) (A.length + 0)))), (9, .int (nI (gz (A ++ B) 0))), (8, .int (nI (tot pre + A.length + B.length))), (7, .int (nI (tot pre + A.length))), (6, .int (nI (tot pre + A.length))), (5, .int (nI (tot pre))), (0, .ref h), (1, .ref f0), (2, .int (nI (pre.length))), (3, .int (nI (pre.length + 1))), (4, .int (nI op))]) C d_S_addJoined_46 (by decide) rfl ?_
  refine x_iload C d_S_addJoined_48 rfl ?_
  refine x_iload C d_S_addJoined_50 rfl ?_
  refine x_isubN C d_S_addJoined_52 (by omega) ?_
  refine x_iload C d_S_addJoined_53 rfl ?_
  refine x_iaddN C d_S_addJoined_55  ?_
  refine x_iload C d_S_addJoined_56 rfl ?_
  refine x_isubN C d_S_addJoined_58 (by omega) ?_
  refine x_top (y := (nI (A.length + B.length))) (by congr 1; omega) ?_
  refine x_istore (lv' := [(11, .int (nI (A.length + B.length))), (10, .int (nI (gz (A ++ B) (A.length + 0)))), (9, .int (nI (gz (A ++ B) 0))), (8, .int (nI (tot pre + A.length + B.length))), (7, .int (nI (tot pre + A.length))), (6, .int (nI (tot pre + A.length))), (5, .int (nI (tot pre))), (0, .ref h), (1, .ref f0), (2, .int (nI (pre.length))), (3, .int (nI (pre.length + 1))), (4, .int (nI op))]) C d_S_addJoined_59 (by decide) rfl ?_
  refine x_iconst (v := (nI (0))) C d_S_addJoined_61 (by decide) ?_
  refine x_istore (lv' := [(12, .int (nI 0)), (11, .int (nI (A.length + B.length))), (10, .int (nI (gz (A ++ B) (A.length + 0)))), (9, .int (nI (gz (A ++ B) 0))), (8, .int (nI (tot pre + A.length + B.length))), (7, .int (nI (tot pre + A.length))), (6, .int (nI (tot pre + A.length))), (5, .int (nI (tot pre))), (0, .ref h), (1, .ref f0), (2, .int (nI (pre.length))), (3, .int (nI (pre.length + 1))), (4, .int (nI op))]) C d_S_addJoined_62 (by decide) rfl ?_
  exact LP (A.length + B.length) 0 0 _ _ 0 [] L Bd (by omega) (jInv.start hlen (fun h9 => gz_app_l h9) (fun _ => gz_app_r) hok hok2 (gz_lt hokA) (gz_lt hokA)) hH _ rfl rfl rfl rfl rfl rfl rfl rfl rfl rfl rfl
end
section
/-! bits counted, the lowest bit -/
def pcn : Nat → Nat → Nat
  | 0, _ => 0
  | n + 1, b => pcn n b + (b.testBit n).toNat
theorem pcn_split (q r : Nat) (hr : r < 256) : ∀ n, pcn (8 + n) (256 * q + r) = pcn 8 r + pcn n q
  | 0 => by
    have e : ∀ k, k ≤ 8 → pcn k (256 * q + r) = pcn k r := by
      intro k
      induction k with
      | zero => intro _; rfl
      | succ k ih =>
        intro hk
        have h1 : (256 * q + r).testBit k = r.testBit k := by
          rw [show 256 * q + r = 2 ^ 8 * q + r from rfl, Nat.testBit_two_pow_mul_add q (by simpa using hr), if_pos (by omega)]
        simp only [pcn]
        rw [ih (by omega), h1]
    simpa [pcn] using e 8 (Nat.le_refl 8)
  | n + 1 => by
    have h1 : (256 * q + r).testBit (8 + n) = q.testBit n := by
      rw [show 256 * q + r = 2 ^ 8 * q + r from rfl, Nat.testBit_two_pow_mul_add q (by simpa using hr), if_neg (by omega), Nat.add_sub_cancel_left]
    show pcn (8 + n) (256 * q + r) + ((256 * q + r).testBit (8 + n)).toNat = _
    rw [pcn_split q r hr n, h1]
    simp only [pcn]
    omega
theorem and_split (q r m n : Nat) (hr : r < 256) (hn : n < 256) : (256 * q + r) &&& (256 * m + n) = 256 * (q &&& m) + (r &&& n) := by
  have hrn : r &&& n < 2 ^ 8 := Nat.and_lt_two_pow _ (by simpa using hn)
  apply Nat.eq_of_testBit_eq
  intro i
  rw [Nat.testBit_and, show 256 * q + r = 2 ^ 8 * q + r from rfl, show 256 * m + n = 2 ^ 8 * m + n from rfl, show 256 * (q &&& m) + (r &&& n) = 2 ^ 8 * (q &&& m) + (r &&& n) from rfl, Nat.testBit_two_pow_mul_add q (by simpa using hr), Nat.testBit_two_pow_mul_add m (by simpa using hn), Nat.testBit_two_pow_mul_add _ hrn]
  by_cases h : i < 8
  · simp [h]
  · simp [h]
def bf1 (b : Nat) : Nat := b - (b / 2 &&& 85)
def bf2 (c : Nat) : Nat := (c &&& 51) + (c / 4 &&& 51)
def bf3 (d : Nat) : Nat := (d + d / 16) &&& 15
theorem bf_ok : ∀ b, b < 256 → (b / 2 &&& 85) ≤ b ∧ bf1 b < 256 ∧ bf2 (bf1 b) ≤ 68 ∧ bf2 (bf1 b) % 16 ≤ 4 ∧ bf3 (bf2 (bf1 b)) = pcn 8 b ∧ pcn 8 b ≤ 8 := by decide +kernel
theorem bf_m1 : ∀ t, t < 2 → ∀ b, b < 256 → (128 * t + b / 2) &&& 85 = b / 2 &&& 85 := by decide +kernel
theorem bf_m2 : ∀ t, t < 4 → ∀ b, b < 256 → (64 * t + b / 4) &&& 51 = b / 4 &&& 51 := by decide +kernel
theorem bf_m3 : ∀ t, t < 5 → ∀ d, d < 69 → (d + (16 * t + d / 16)) &&& 15 = (d + d / 16) &&& 15 := by decide +kernel
def bc1 (x : Nat) : Nat := x - (x / 2 ^ 1 &&& 1431655765)
def bc2 (x : Nat) : Nat := (x &&& 858993459) + (x / 2 ^ 2 &&& 858993459)
def bc3 (x : Nat) : Nat := (x + x / 2 ^ 4) &&& 252645135
def bc4 (x : Nat) : Nat := x + x / 2 ^ 8
def bc5 (x : Nat) : Nat := x + x / 2 ^ 16
/-- four bytes -/
def q4 (a b c d : Nat) : Nat := 256 * (256 * (256 * d + c) + b) + a
theorem q4_and {a b c d a' b' c' d' : Nat} (h1 : a < 256) (h2 : b < 256) (h3 : c < 256) (k1 : a' < 256) (k2 : b' < 256) (k3 : c' < 256) : q4 a b c d &&& q4 a' b' c' d' = q4 (a &&& a') (b &&& b') (c &&& c') (d &&& d') := by
  unfold q4
  rw [and_split _ _ _ _ h1 k1, and_split _ _ _ _ h2 k2, and_split _ _ _ _ h3 k3]
theorem q4_bc1 {a b c d : Nat} (h1 : a < 256) (h2 : b < 256) (h3 : c < 256) (h4 : d < 256) : (q4 a b c d / 2 ^ 1 &&& 1431655765) ≤ q4 a b c d ∧ bc1 (q4 a b c d) = q4 (bf1 a) (bf1 b) (bf1 c) (bf1 d) := by
  have e : q4 a b c d / 2 ^ 1 = q4 (128 * (b % 2) + a / 2) (128 * (c % 2) + b / 2) (128 * (d % 2) + c / 2) (d / 2) := by
    unfold q4
    omega
  have e2 : q4 a b c d / 2 ^ 1 &&& 1431655765 = q4 (a / 2 &&& 85) (b / 2 &&& 85) (c / 2 &&& 85) (d / 2 &&& 85) := by
    rw [e, show (1431655765 : Nat) = q4 85 85 85 85 from rfl, q4_and (by omega) (by omega) (by omega) (by omega) (by omega) (by omega), bf_m1 _ (by omega) a h1, bf_m1 _ (by omega) b h2, bf_m1 _ (by omega) c h3]
  have f1 := (bf_ok a h1).1
  have f2 := (bf_ok b h2).1
  have f3 := (bf_ok c h3).1
  have f4 := (bf_ok d h4).1
  unfold bc1
  rw [e2]
  unfold q4 bf1
  generalize a / 2 &&& 85 = a2 at *
  generalize b / 2 &&& 85 = b2 at *
  generalize c / 2 &&& 85 = c2 at *
  generalize d / 2 &&& 85 = d2 at *
  omega
theorem q4_bc2 {a b c d : Nat} (h1 : a < 256) (h2 : b < 256) (h3 : c < 256) (h4 : d < 256) : bc2 (q4 a b c d) = q4 (bf2 a) (bf2 b) (bf2 c) (bf2 d) := by
  have e : q4 a b c d / 2 ^ 2 = q4 (64 * (b % 4) + a / 4) (64 * (c % 4) + b / 4) (64 * (d % 4) + c / 4) (d / 4) := by
    unfold q4
    omega
  have e2 : q4 a b c d / 2 ^ 2 &&& 858993459 = q4 (a / 4 &&& 51) (b / 4 &&& 51) (c / 4 &&& 51) (d / 4 &&& 51) := by
    rw [e, show (858993459 : Nat) = q4 51 51 51 51 from rfl, q4_and (by omega) (by omega) (by omega) (by omega) (by omega) (by omega), bf_m2 _ (by omega) a h1, bf_m2 _ (by omega) b h2, bf_m2 _ (by omega) c h3]
  have e3 : q4 a b c d &&& 858993459 = q4 (a &&& 51) (b &&& 51) (c &&& 51) (d &&& 51) := by
    rw [show (858993459 : Nat) = q4 51 51 51 51 from rfl, q4_and h1 h2 h3 (by omega) (by omega) (by omega)]
  unfold bc2
  rw [e2, e3]
  unfold q4 bf2
  omega
theorem q4_bc3 {a b c d : Nat} (h1 : a ≤ 68) (h2 : b ≤ 68) (h3 : c ≤ 68) (h4 : d ≤ 68) (k2 : b % 16 ≤ 4) (k3 : c % 16 ≤ 4) (k4 : d % 16 ≤ 4) : bc3 (q4 a b c d) = q4 (bf3 a) (bf3 b) (bf3 c) (bf3 d) := by
  have e : q4 a b c d + q4 a b c d / 2 ^ 4 = q4 (a + (16 * (b % 16) + a / 16)) (b + (16 * (c % 16) + b / 16)) (c + (16 * (d % 16) + c / 16)) (d + d / 16) := by
    unfold q4
    omega
  unfold bc3
  rw [e, show (252645135 : Nat) = q4 15 15 15 15 from rfl, q4_and (by omega) (by omega) (by omega) (by omega) (by omega) (by omega), bf_m3 _ (by omega) a (by omega), bf_m3 _ (by omega) b (by omega), bf_m3 _ (by omega) c (by omega)]
  rfl
theorem pcn_31 {b : Nat} (h : b < 2 ^ 31) : pcn 32 b = pcn 31 b := by
  have : b.testBit 31 = false := Nat.testBit_lt_two_pow h
  show pcn 31 b + (b.testBit 31).toNat = _
  rw [this]
  rfl
theorem bc_all {b : Nat} (h : b < 2 ^ 31) : (b / 2 ^ 1 &&& 1431655765) ≤ b ∧ bc1 b < 2 ^ 32 ∧ bc2 (bc1 b) < 2 ^ 31 ∧ bc3 (bc2 (bc1 b)) < 2 ^ 31 ∧ bc4 (bc3 (bc2 (bc1 b))) < 2 ^ 32 ∧ bc5 (bc4 (bc3 (bc2 (bc1 b)))) &&& 63 = pcn 31 b := by
  obtain ⟨a0, a1, a2, a3, h0, h1, h2, h3, rfl⟩ : ∃ a0 a1 a2 a3, a0 < 256 ∧ a1 < 256 ∧ a2 < 256 ∧ a3 < 256 ∧ b = q4 a0 a1 a2 a3 := ⟨b % 256, b / 256 % 256, b / 65536 % 256, b / 16777216, by omega, by omega, by omega, by omega, by unfold q4; omega⟩
  have f0 := bf_ok a0 h0
  have f1 := bf_ok a1 h1
  have f2 := bf_ok a2 h2
  have f3 := bf_ok a3 h3
  have e1 := q4_bc1 h0 h1 h2 h3
  have e2 := q4_bc2 f0.2.1 f1.2.1 f2.2.1 f3.2.1
  have e3 := q4_bc3 f0.2.2.1 f1.2.2.1 f2.2.2.1 f3.2.2.1 f1.2.2.2.1 f2.2.2.2.1 f3.2.2.2.1
  have hp : pcn 31 (q4 a0 a1 a2 a3) = pcn 8 a0 + (pcn 8 a1 + (pcn 8 a2 + pcn 8 a3)) := by
    rw [← pcn_31 h]
    unfold q4
    rw [show 32 = 8 + 24 from rfl, pcn_split _ _ h0, show 24 = 8 + 16 from rfl, pcn_split _ _ h1, show 16 = 8 + 8 from rfl, pcn_split _ _ h2]
  rw [e1.2, e2, e3, f0.2.2.2.2.1, f1.2.2.2.2.1, f2.2.2.2.2.1, f3.2.2.2.2.1, hp]
  have g0 := f0.2.2.2.2.2
  have g1 := f1.2.2.2.2.2
  have g2 := f2.2.2.2.2.2
  have g3 := f3.2.2.2.2.2
  generalize pcn 8 a0 = p0 at *
  generalize pcn 8 a1 = p1 at *
  generalize pcn 8 a2 = p2 at *
  generalize pcn 8 a3 = p3 at *
  have i0 := f0.2.1
  have i1 := f1.2.1
  have i2 := f2.2.1
  have i3 := f3.2.1
  have j0 := f0.2.2.1
  have j1 := f1.2.2.1
  have j2 := f2.2.2.1
  have j3 := f3.2.2.1
  refine ⟨e1.1, ?_, ?_, ?_, ?_, ?_⟩
  · unfold q4; omega
  · unfold q4; omega
  · unfold q4; omega
  · unfold bc4 q4; omega
  · rw [show (63 : Nat) = 2 ^ 6 - 1 from rfl, Nat.and_two_pow_sub_one_eq_mod]
    have d1 : bc4 (q4 p0 p1 p2 p3) = (p0 + p1) + 256 * (p1 + p2) + 65536 * (p2 + p3) + 16777216 * p3 := by
      have : q4 p0 p1 p2 p3 / 2 ^ 8 = p1 + 256 * p2 + 65536 * p3 := by unfold q4; omega
      unfold bc4
      rw [this]
      unfold q4
      omega
    have d2 : bc5 (bc4 (q4 p0 p1 p2 p3)) = (p0 + p1 + p2 + p3) + 64 * (4 * (p1 + p2 + p3) + 1024 * (p2 + p3) + 262144 * p3) := by
      unfold bc5
      rw [d1]
      have : ((p0 + p1) + 256 * (p1 + p2) + 65536 * (p2 + p3) + 16777216 * p3) / 2 ^ 16 = (p2 + p3) + 256 * p3 := by omega
      rw [this]
      omega
    rw [d2]
    omega
/-- an odd number, shifted -/
theorem odd_shift : ∀ x, 0 < x → ∃ t q, x = 2 ^ t * (2 * q + 1) := by
  intro x
  induction x using Nat.strongRecOn with
  | _ x ih =>
    intro h
    by_cases h2 : x % 2 = 1
    · exact ⟨0, x / 2, by omega⟩
    · obtain ⟨t, q, e⟩ := ih (x / 2) (by omega) (by omega)
      refine ⟨t + 1, q, ?_⟩
      rw [Nat.pow_succ, Nat.mul_comm (2 ^ t) 2, Nat.mul_assoc, ← e]
      omega
theorem tz_bit (t q i : Nat) : (2 ^ t * (2 * q + 1)).testBit i = (decide (t ≤ i) && (2 * q + 1).testBit (i - t)) := by
  rw [Nat.testBit_two_pow_mul]
theorem tz_lo (t q i : Nat) (h : i < t) : (2 ^ t * (2 * q + 1)).testBit i = false := by
  rw [tz_bit]
  have : ¬ t ≤ i := by omega
  simp [this]
theorem tz_at (t q : Nat) : (2 ^ t * (2 * q + 1)).testBit t = true := by
  rw [tz_bit]
  simp [Nat.testBit_zero]
theorem tz_mask {t q : Nat} (h : 2 ^ t * (2 * q + 1) < 2 ^ 31) : (2 ^ t * (2 * q + 1) ^^^ 4294967295) &&& (2 ^ t * (2 * q + 1) - 1) = 2 ^ t - 1 := by
  have hp : 0 < 2 ^ t := Nat.two_pow_pos t
  have e : 2 ^ t * (2 * q + 1) - 1 = 2 ^ t * (2 * q) + (2 ^ t - 1) := by rw [Nat.mul_add]; omega
  apply Nat.eq_of_testBit_eq
  intro i
  rw [Nat.testBit_and, Nat.testBit_xor, show (4294967295 : Nat) = 2 ^ 32 - 1 from rfl, Nat.testBit_two_pow_sub_one, Nat.testBit_two_pow_sub_one, e, Nat.testBit_two_pow_mul_add _ (by omega), tz_bit, Nat.testBit_two_pow_sub_one]
  by_cases hi : i < t
  · have h1 : ¬ t ≤ i := by omega
    have h2 : i < 32 := by
      have : t < 31 := by
        by_cases h3 : t < 31
        · exact h3
        · have h4 : 2 ^ 31 ≤ 2 ^ t := Nat.pow_le_pow_right (by omega) (by omega)
          have h5 : 2 ^ t * 1 ≤ 2 ^ t * (2 * q + 1) := Nat.mul_le_mul_left _ (by omega)
          omega
      omega
    simp [hi, h1, h2]
  · have h1 : t ≤ i := by omega
    simp only [hi, h1, if_neg, decide_true, decide_false, Bool.true_and, not_false_eq_true]
    by_cases h0 : i = t
    · subst h0
      simp [Nat.testBit_zero]
    · obtain ⟨d, hd⟩ : ∃ d, i - t = d + 1 := ⟨i - t - 1, by omega⟩
      have e1 : (2 * q + 1).testBit (d + 1) = q.testBit d := by
        rw [Nat.testBit_succ]; congr 1; omega
      have e2 : (2 * q).testBit (d + 1) = q.testBit d := by
        rw [Nat.testBit_succ]; congr 1; omega
      rw [hd, e1, e2]
      by_cases h32 : i < 32
      · simp [h32]
      · have h3 : (2 ^ t * (2 * q + 1)).testBit i = false := by
          apply Nat.testBit_lt_two_pow
          have : 2 ^ 31 ≤ 2 ^ i := Nat.pow_le_pow_right (by omega) (by omega)
          omega
        rw [tz_bit, hd, e1] at h3
        have h4 : q.testBit d = false := by simpa [h1] using h3
        simp [h4]
theorem tz_small {t q : Nat} (h : 2 ^ t * (2 * q + 1) < 2 ^ 31) : t < 31 := by
  by_cases h3 : t < 31
  · exact h3
  · have h4 : 2 ^ 31 ≤ 2 ^ t := Nat.pow_le_pow_right (by omega) (by omega)
    have h5 : 2 ^ t * 1 ≤ 2 ^ t * (2 * q + 1) := Nat.mul_le_mul_left _ (by omega)
    omega
theorem tz_c31 {P : Nat → Prop} {t : Nat} (h : t < 31) (h0 : ∀ u, u < 31 → P u) : P t := h0 t h
end
section
set_option maxHeartbeats 4000000 in
theorem c_I_bitCount {l : Launch} {D : va_G} {cA : ClassId} {b : Nat} (hb : b < 2 ^ 31) : CtI l D cA y_I_bitCount b_I_bitCount 1 (some .int) ({ frames := 0, cells := 0, slots := 0, locals := 0 } : Room) [.int (nI b)] [] (fun r (_ : Unit) => r = nI (pcn 31 b)) (fun _ => []) := by
  refine CtI.start (lv0 := [(0, .int (nI b))]) (by decide) rfl (Nat.le_of_ble_eq_true rfl) ?_
  intro p_ e_ s_ m_ args_ below_ meth_ c_ A_ C hr hin
  have hf := bc_all hb
  refine x_iload_n C d_I_bitCount_0 rfl rfl ?_
  refine x_iload_n C d_I_bitCount_1 rfl rfl ?_
  refine x_iconst (v := (nI (1))) C d_I_bitCount_2 (by decide) ?_
  refine x_iushr (v := (nI (b / 2 ^ 1))) C d_I_bitCount_3 (nx_ushr (by omega) (by omega)) ?_
  refine x_ldcw C d_I_bitCount_4 lk_I_265 ?_
  refine x_top (y := nI 1431655765) (by decide) ?_
  refine x_iand C d_I_bitCount_7 ?_
  refine x_top (y := (nI (b / 2 ^ 1 &&& 1431655765))) (nx_and _ _) ?_
  refine x_isubN C d_I_bitCount_8 hf.1 ?_
  refine x_top (y := (nI (bc1 b))) rfl ?_
  refine x_istore_n (lv' := [(0, .int (nI (bc1 b)))]) C d_I_bitCount_9 rfl (by decide) rfl ?_
  refine x_iload_n C d_I_bitCount_10 rfl rfl ?_
  refine x_ldcw C d_I_bitCount_11 lk_I_266 ?_
  refine x_top (y := nI 858993459) (by decide) ?_
  refine x_iand C d_I_bitCount_14 ?_
  refine x_top (y := (nI (bc1 b &&& 858993459))) (nx_and _ _) ?_
  refine x_iload_n C d_I_bitCount_15 rfl rfl ?_
  refine x_iconst (v := (nI (2))) C d_I_bitCount_16 (by decide) ?_
  refine x_iushr (v := (nI ((bc1 b) / 2 ^ 2))) C d_I_bitCount_17 (nx_ushr (by omega) (by omega)) ?_
  refine x_ldcw C d_I_bitCount_18 lk_I_266 ?_
  refine x_top (y := nI 858993459) (by decide) ?_
  refine x_iand C d_I_bitCount_21 ?_
  refine x_top (y := (nI ((bc1 b) / 2 ^ 2 &&& 858993459))) (nx_and _ _) ?_
  refine x_iaddN C d_I_bitCount_22  ?_
  refine x_top (y := (nI (bc2 (bc1 b)))) rfl ?_
  refine x_istore_n (lv' := [(0, .int (nI (bc2 (bc1 b))))]) C d_I_bitCount_23 rfl (by decide) rfl ?_
  refine x_iload_n C d_I_bitCount_24 rfl rfl ?_
  refine x_iload_n C d_I_bitCount_25 rfl rfl ?_
  refine x_iconst (v := (nI (4))) C d_I_bitCount_26 (by decide) ?_
  refine x_iushr (v := (nI ((bc2 (bc1 b)) / 2 ^ 4))) C d_I_bitCount_27 (nx_ushr (by omega) (by omega)) ?_
  refine x_iaddN C d_I_bitCount_28  ?_
  refine x_ldcw C d_I_bitCount_29 lk_I_267 ?_
  refine x_top (y := nI 252645135) (by decide) ?_
  refine x_iand C d_I_bitCount_32 ?_
  refine x_top (y := (nI (bc3 (bc2 (bc1 b))))) (nx_and _ _) ?_
  refine x_istore_n (lv' := [(0, .int (nI (bc3 (bc2 (bc1 b)))))]) C d_I_bitCount_33 rfl (by decide) rfl ?_
  refine x_iload_n C d_I_bitCount_34 rfl rfl ?_
  refine x_iload_n C d_I_bitCount_35 rfl rfl ?_
  refine x_bipush (v := (nI (8))) C d_I_bitCount_36 (by decide) ?_
  refine x_iushr (v := (nI ((bc3 (bc2 (bc1 b))) / 2 ^ 8))) C d_I_bitCount_38 (nx_ushr (by omega) (by omega)) ?_
  refine x_iaddN C d_I_bitCount_39  ?_
  refine x_top (y := (nI (bc4 (bc3 (bc2 (bc1 b)))))) rfl ?_
  refine x_istore_n (lv' := [(0, .int (nI (bc4 (bc3 (bc2 (bc1 b))))))]) C d_I_bitCount_40 rfl (by decide) rfl ?_
  refine x_iload_n C d_I_bitCount_41 rfl rfl ?_
  refine x_iload_n C d_I_bitCount_42 rfl rfl ?_
  refine x_bipush (v := (nI (16))) C d_I_bitCount_43 (by decide) ?_
  refine x_iushr (v := (nI ((bc4 (bc3 (bc2 (bc1 b)))) / 2 ^ 16))) C d_I_bitCount_45 (nx_ushr (by omega) (by omega)) ?_
  refine x_iaddN C d_I_bitCount_46  ?_
  refine x_top (y := (nI (bc5 (bc4 (bc3 (bc2 (bc1 b))))))) rfl ?_
  refine x_istore_n (lv' := [(0, .int (nI (bc5 (bc4 (bc3 (bc2 (bc1 b)))))))]) C d_I_bitCount_47 rfl (by decide) rfl ?_
  refine x_iload_n C d_I_bitCount_48 rfl rfl ?_
  refine x_bipush (v := (nI (63))) C d_I_bitCount_49 (by decide) ?_
  refine x_iand C d_I_bitCount_51 ?_
  refine x_top (y := (nI (pcn 31 b))) ((nx_and _ _).trans (congrArg nI hf.2.2.2.2.2)) ?_
  exact x_iret C hr d_I_bitCount_52 () rfl (rfl)
set_option maxHeartbeats 4000000 in
theorem c_I_ntz {l : Launch} {D : va_G} {cA : ClassId} {x t q : Nat} (hx : x = 2 ^ t * (2 * q + 1)) (hx2 : x < 2 ^ 31) : CtI l D cA y_I_numberOfTrailingZeros b_I_numberOfTrailingZeros 2 (some .int) ({ frames := 0, cells := 0, slots := 0, locals := 0 } : Room) [.int (nI x)] [] (fun r (_ : Unit) => r = nI t) (fun _ => []) := by
  refine CtI.start (lv0 := [(0, .int (nI x))]) (by decide) rfl (Nat.le_of_ble_eq_true rfl) ?_
  intro p_ e_ s_ m_ args_ below_ meth_ c_ A_ C hr hin
  have ht : t < 31 := tz_small (q := q) (by omega)
  have hx0 : 0 < x := by rw [hx]; exact Nat.mul_pos (Nat.two_pow_pos t) (by omega)
  have hp : 0 < 2 ^ t := Nat.two_pow_pos t
  have hp2 : 2 ^ t < 2 ^ 31 := Nat.pow_lt_pow_right (by omega) ht
  refine x_iload_n C d_I_numberOfTrailingZeros_0 rfl rfl ?_
  refine x_iconst (v := ((-1))) C d_I_numberOfTrailingZeros_1 (by decide) ?_
  refine x_ixor C d_I_numberOfTrailingZeros_2 ?_
  refine x_iload_n C d_I_numberOfTrailingZeros_3 rfl rfl ?_
  refine x_iconst (v := (nI (1))) C d_I_numberOfTrailingZeros_4 (by decide) ?_
  refine x_isubN C d_I_numberOfTrailingZeros_5 (by omega) ?_
  refine x_iand C d_I_numberOfTrailingZeros_6 ?_
  refine x_top (y := (nI (2 ^ t - 1))) (by rw [show (-1 : Int32) = nI 4294967295 by decide, nx_xor, nx_and, hx, tz_mask (by omega)]) ?_
  refine x_istore_n (lv' := [(0, .int (nI (2 ^ t - 1)))]) C d_I_numberOfTrailingZeros_7 rfl (by decide) rfl ?_
  refine x_iload_n C d_I_numberOfTrailingZeros_8 rfl rfl ?_
  refine x_if_gtN (tgt := 17) C d_I_numberOfTrailingZeros_9 (by decide) (by omega) (fun c9 => ?_) (fun c9 => ?_)
  · refine x_iconst (v := (nI (1))) C d_I_numberOfTrailingZeros_17 (by decide) ?_
    refine x_istore_n (lv' := [(1, .int (nI 1)), (0, .int (nI (2 ^ t - 1)))]) C d_I_numberOfTrailingZeros_18 rfl (by decide) rfl ?_
    refine x_iload_n C d_I_numberOfTrailingZeros_19 rfl rfl ?_
    refine x_ldcw C d_I_numberOfTrailingZeros_20 lk_I_264 ?_
    refine x_top (y := nI 65536) (by decide) ?_
    refine x_icmp_leN (tgt := 34) C d_I_numberOfTrailingZeros_23 (by decide) (by omega) (by omega) (fun c23 => ?_) (fun c23 => ?_)
    · refine x_iload_n C d_I_numberOfTrailingZeros_34 rfl rfl ?_
      refine x_sipush (v := (nI (256))) C d_I_numberOfTrailingZeros_35 (by decide) ?_
      refine x_icmp_leN (tgt := 49) C d_I_numberOfTrailingZeros_38 (by decide) (by omega) (by omega) (fun c38 => ?_) (fun c38 => ?_)
      · refine x_iload_n C d_I_numberOfTrailingZeros_49 rfl rfl ?_
        refine x_bipush (v := (nI (16))) C d_I_numberOfTrailingZeros_50 (by decide) ?_
        refine x_icmp_leN (tgt := 62) C d_I_numberOfTrailingZeros_52 (by decide) (by omega) (by omega) (fun c52 => ?_) (fun c52 => ?_)
        · refine x_iload_n C d_I_numberOfTrailingZeros_62 rfl rfl ?_
          refine x_iconst (v := (nI (4))) C d_I_numberOfTrailingZeros_63 (by decide) ?_
          refine x_icmp_leN (tgt := 74) C d_I_numberOfTrailingZeros_64 (by decide) (by omega) (by omega) (fun c64 => ?_) (fun c64 => ?_)
          · refine x_iload_n C d_I_numberOfTrailingZeros_74 rfl rfl ?_
            refine x_iload_n C d_I_numberOfTrailingZeros_75 rfl rfl ?_
            refine x_iconst (v := (nI (1))) C d_I_numberOfTrailingZeros_76 (by decide) ?_
            refine x_iushr (v := (nI ((2 ^ t - 1) / 2 ^ 1))) C d_I_numberOfTrailingZeros_77 (nx_ushr (by omega) (by omega)) ?_
            refine x_iaddN C d_I_numberOfTrailingZeros_78  ?_
            exact x_iret C hr d_I_numberOfTrailingZeros_79 () rfl (by
              have e9 : ∀ u, u < 31 → (0 < 2 ^ u - 1 ∧ 2 ^ u - 1 ≤ 65536 ∧ 2 ^ u - 1 ≤ 256 ∧ 2 ^ u - 1 ≤ 16 ∧ 2 ^ u - 1 ≤ 4) → 1 + (2 ^ u - 1) / 2 ^ 1 = u := by decide
              exact congrArg nI (e9 t ht ⟨c9, c23, c38, c52, c64⟩))
          · refine x_iinc (v := (nI (1 + 2))) (lv' := [(1, .int (nI (1 + 2))), (0, .int (nI (2 ^ t - 1)))]) C d_I_numberOfTrailingZeros_67 rfl rfl (by decide) rfl ?_
            refine x_iload_n C d_I_numberOfTrailingZeros_70 rfl rfl ?_
            refine x_iconst (v := (nI (2))) C d_I_numberOfTrailingZeros_71 (by decide) ?_
            refine x_iushr (v := (nI ((2 ^ t - 1) / 2 ^ 2))) C d_I_numberOfTrailingZeros_72 (nx_ushr (by omega) (by omega)) ?_
            refine x_istore_n (lv' := [(0, .int (nI ((2 ^ t - 1) / 2 ^ 2))), (1, .int (nI (1 + 2)))]) C d_I_numberOfTrailingZeros_73 rfl (by decide) rfl ?_
            refine x_iload_n C d_I_numberOfTrailingZeros_74 rfl rfl ?_
            refine x_iload_n C d_I_numberOfTrailingZeros_75 rfl rfl ?_
            refine x_iconst (v := (nI (1))) C d_I_numberOfTrailingZeros_76 (by decide) ?_
            refine x_iushr (v := (nI (((2 ^ t - 1) / 2 ^ 2) / 2 ^ 1))) C d_I_numberOfTrailingZeros_77 (nx_ushr (by omega) (by omega)) ?_
            refine x_iaddN C d_I_numberOfTrailingZeros_78  ?_
            exact x_iret C hr d_I_numberOfTrailingZeros_79 () rfl (by
              have e9 : ∀ u, u < 31 → (0 < 2 ^ u - 1 ∧ 2 ^ u - 1 ≤ 65536 ∧ 2 ^ u - 1 ≤ 256 ∧ 2 ^ u - 1 ≤ 16 ∧ 4 < 2 ^ u - 1) → 1 + 2 + ((2 ^ u - 1) / 2 ^ 2) / 2 ^ 1 = u := by decide
              exact congrArg nI (e9 t ht ⟨c9, c23, c38, c52, c64⟩))
        · refine x_iinc (v := (nI (1 + 4))) (lv' := [(1, .int (nI (1 + 4))), (0, .int (nI (2 ^ t - 1)))]) C d_I_numberOfTrailingZeros_55 rfl rfl (by decide) rfl ?_
          refine x_iload_n C d_I_numberOfTrailingZeros_58 rfl rfl ?_
          refine x_iconst (v := (nI (4))) C d_I_numberOfTrailingZeros_59 (by decide) ?_
          refine x_iushr (v := (nI ((2 ^ t - 1) / 2 ^ 4))) C d_I_numberOfTrailingZeros_60 (nx_ushr (by omega) (by omega)) ?_
          refine x_istore_n (lv' := [(0, .int (nI ((2 ^ t - 1) / 2 ^ 4))), (1, .int (nI (1 + 4)))]) C d_I_numberOfTrailingZeros_61 rfl (by decide) rfl ?_
          refine x_iload_n C d_I_numberOfTrailingZeros_62 rfl rfl ?_
          refine x_iconst (v := (nI (4))) C d_I_numberOfTrailingZeros_63 (by decide) ?_
          refine x_icmp_leN (tgt := 74) C d_I_numberOfTrailingZeros_64 (by decide) (by omega) (by omega) (fun c64 => ?_) (fun c64 => ?_)
          · refine x_iload_n C d_I_numberOfTrailingZeros_74 rfl rfl ?_
            refine x_iload_n C d_I_numberOfTrailingZeros_75 rfl rfl ?_
            refine x_iconst (v := (nI (1))) C d_I_numberOfTrailingZeros_76 (by decide) ?_
            refine x_iushr (v := (nI (((2 ^ t - 1) / 2 ^ 4) / 2 ^ 1))) C d_I_numberOfTrailingZeros_77 (nx_ushr (by omega) (by omega)) ?_
            refine x_iaddN C d_I_numberOfTrailingZeros_78  ?_
            exact x_iret C hr d_I_numberOfTrailingZeros_79 () rfl (by
              have e9 : ∀ u, u < 31 → (0 < 2 ^ u - 1 ∧ 2 ^ u - 1 ≤ 65536 ∧ 2 ^ u - 1 ≤ 256 ∧ 16 < 2 ^ u - 1 ∧ (2 ^ u - 1) / 2 ^ 4 ≤ 4) → 1 + 4 + ((2 ^ u - 1) / 2 ^ 4) / 2 ^ 1 = u := by decide
              exact congrArg nI (e9 t ht ⟨c9, c23, c38, c52, c64⟩))
          · refine x_iinc (v := (nI (1 + 4 + 2))) (lv' := [(1, .int (nI (1 + 4 + 2))), (0, .int (nI ((2 ^ t - 1) / 2 ^ 4)))]) C d_I_numberOfTrailingZeros_67 rfl rfl (by decide) rfl ?_
            refine x_iload_n C d_I_numberOfTrailingZeros_70 rfl rfl ?_
            refine x_iconst (v := (nI (2))) C d_I_numberOfTrailingZeros_71 (by decide) ?_
            refine x_iushr (v := (nI (((2 ^ t - 1) / 2 ^ 4) / 2 ^ 2))) C d_I_numberOfTrailingZeros_72 (nx_ushr (by omega) (by omega)) ?_
            refine x_istore_n (lv' := [(0, .int (nI (((2 ^ t - 1) / 2 ^ 4) / 2 ^ 2))), (1, .int (nI (1 + 4 + 2)))]) C d_I_numberOfTrailingZeros_73 rfl (by decide) rfl ?_
            refine x_iload_n C d_I_numberOfTrailingZeros_74 rfl rfl ?_
            refine x_iload_n C d_I_numberOfTrailingZeros_75 rfl rfl ?_
            refine x_iconst (v := (nI (1))) C d_I_numberOfTrailingZeros_76 (by decide) ?_
            refine x_iushr (v := (nI ((((2 ^ t - 1) / 2 ^ 4) / 2 ^ 2) / 2 ^ 1))) C d_I_numberOfTrailingZeros_77 (nx_ushr (by omega) (by omega)) ?_
            refine x_iaddN C d_I_numberOfTrailingZeros_78  ?_
            exact x_iret C hr d_I_numberOfTrailingZeros_79 () rfl (by
              have e9 : ∀ u, u < 31 → (0 < 2 ^ u - 1 ∧ 2 ^ u - 1 ≤ 65536 ∧ 2 ^ u - 1 ≤ 256 ∧ 16 < 2 ^ u - 1 ∧ 4 < (2 ^ u - 1) / 2 ^ 4) → 1 + 4 + 2 + (((2 ^ u - 1) / 2 ^ 4) / 2 ^ 2) / 2 ^ 1 = u := by decide
              exact congrArg nI (e9 t ht ⟨c9, c23, c38, c52, c64⟩))
      · refine x_iinc (v := (nI (1 + 8))) (lv' := [(1, .int (nI (1 + 8))), (0, .int (nI (2 ^ t - 1)))]) C d_I_numberOfTrailingZeros_41 rfl rfl (by decide) rfl ?_
        refine x_iload_n C d_I_numberOfTrailingZeros_44 rfl rfl ?_
        refine x_bipush (v := (nI (8))) C d_I_numberOfTrailingZeros_45 (by decide) ?_
        refine x_iushr (v := (nI ((2 ^ t - 1) / 2 ^ 8))) C d_I_numberOfTrailingZeros_47 (nx_ushr (by omega) (by omega)) ?_
        refine x_istore_n (lv' := [(0, .int (nI ((2 ^ t - 1) / 2 ^ 8))), (1, .int (nI (1 + 8)))]) C d_I_numberOfTrailingZeros_48 rfl (by decide) rfl ?_
        refine x_iload_n C d_I_numberOfTrailingZeros_49 rfl rfl ?_
        refine x_bipush (v := (nI (16))) C d_I_numberOfTrailingZeros_50 (by decide) ?_
        refine x_icmp_leN (tgt := 62) C d_I_numberOfTrailingZeros_52 (by decide) (by omega) (by omega) (fun c52 => ?_) (fun c52 => ?_)
        · refine x_iload_n C d_I_numberOfTrailingZeros_62 rfl rfl ?_
          refine x_iconst (v := (nI (4))) C d_I_numberOfTrailingZeros_63 (by decide) ?_
          refine x_icmp_leN (tgt := 74) C d_I_numberOfTrailingZeros_64 (by decide) (by omega) (by omega) (fun c64 => ?_) (fun c64 => ?_)
          · refine x_iload_n C d_I_numberOfTrailingZeros_74 rfl rfl ?_
            refine x_iload_n C d_I_numberOfTrailingZeros_75 rfl rfl ?_
            refine x_iconst (v := (nI (1))) C d_I_numberOfTrailingZeros_76 (by decide) ?_
            refine x_iushr (v := (nI (((2 ^ t - 1) / 2 ^ 8) / 2 ^ 1))) C d_I_numberOfTrailingZeros_77 (nx_ushr (by omega) (by omega)) ?_
            refine x_iaddN C d_I_numberOfTrailingZeros_78  ?_
            exact x_iret C hr d_I_numberOfTrailingZeros_79 () rfl (by
              have e9 : ∀ u, u < 31 → (0 < 2 ^ u - 1 ∧ 2 ^ u - 1 ≤ 65536 ∧ 256 < 2 ^ u - 1 ∧ (2 ^ u - 1) / 2 ^ 8 ≤ 16 ∧ (2 ^ u - 1) / 2 ^ 8 ≤ 4) → 1 + 8 + ((2 ^ u - 1) / 2 ^ 8) / 2 ^ 1 = u := by decide
              exact congrArg nI (e9 t ht ⟨c9, c23, c38, c52, c64⟩))
          · refine x_iinc (v := (nI (1 + 8 + 2))) (lv' := [(1, .int (nI (1 + 8 + 2))), (0, .int (nI ((2 ^ t - 1) / 2 ^ 8)))]) C d_I_numberOfTrailingZeros_67 rfl rfl (by decide) rfl ?_
            refine x_iload_n C d_I_numberOfTrailingZeros_70 rfl rfl ?_
            refine x_iconst (v := (nI (2))) C d_I_numberOfTrailingZeros_71 (by decide) ?_
            refine x_iushr (v := (nI (((2 ^ t - 1) / 2 ^ 8) / 2 ^ 2))) C d_I_numberOfTrailingZeros_72 (nx_ushr (by omega) (by omega)) ?_
            refine x_istore_n (lv' := [(0, .int (nI (((2 ^ t - 1) / 2 ^ 8) / 2 ^ 2))), (1, .int (nI (1 + 8 + 2)))]) C d_I_numberOfTrailingZeros_73 rfl (by decide) rfl ?_
            refine x_iload_n C d_I_numberOfTrailingZeros_74 rfl rfl ?_
            refine x_iload_n C d_I_numberOfTrailingZeros_75 rfl rfl ?_
            refine x_iconst (v := (nI (1))) C d_I_numberOfTrailingZeros_76 (by decide) ?_
            refine x_iushr (v := (nI ((((2 ^ t - 1) / 2 ^ 8) / 2 ^ 2) / 2 ^ 1))) C d_I_numberOfTrailingZeros_77 (nx_ushr (by omega) (by omega)) ?_
            refine x_iaddN C d_I_numberOfTrailingZeros_78  ?_
            exact x_iret C hr d_I_numberOfTrailingZeros_79 () rfl (by
              have e9 : ∀ u, u < 31 → (0 < 2 ^ u - 1 ∧ 2 ^ u - 1 ≤ 65536 ∧ 256 < 2 ^ u - 1 ∧ (2 ^ u - 1) / 2 ^ 8 ≤ 16 ∧ 4 < (2 ^ u - 1) / 2 ^ 8) → 1 + 8 + 2 + (((2 ^ u - 1) / 2 ^ 8) / 2 ^ 2) / 2 ^ 1 = u := by decide
              exact congrArg nI (e9 t ht ⟨c9, c23, c38, c52, c64⟩))
        · refine x_iinc (v := (nI (1 + 8 + 4))) (lv' := [(1, .int (nI (1 + 8 + 4))), (0, .int (nI ((2 ^ t - 1) / 2 ^ 8)))]) C d_I_numberOfTrailingZeros_55 rfl rfl (by decide) rfl ?_
          refine x_iload_n C d_I_numberOfTrailingZeros_58 rfl rfl ?_
          refine x_iconst (v := (nI (4))) C d_I_numberOfTrailingZeros_59 (by decide) ?_
          refine x_iushr (v := (nI (((2 ^ t - 1) / 2 ^ 8) / 2 ^ 4))) C d_I_numberOfTrailingZeros_60 (nx_ushr (by omega) (by omega)) ?_
          refine x_istore_n (lv' := [(0, .int (nI (((2 ^ t - 1) / 2 ^ 8) / 2 ^ 4))), (1, .int (nI (1 + 8 + 4)))]) C d_I_numberOfTrailingZeros_61 rfl (by decide) rfl ?_
          refine x_iload_n C d_I_numberOfTrailingZeros_62 rfl rfl ?_
          refine x_iconst (v := (nI (4))) C d_I_numberOfTrailingZeros_63 (by decide) ?_
          refine x_icmp_leN (tgt := 74) C d_I_numberOfTrailingZeros_64 (by decide) (by omega) (by omega) (fun c64 => ?_) (fun c64 => ?_)
          · refine x_iload_n C d_I_numberOfTrailingZeros_74 rfl rfl ?_
            refine x_iload_n C d_I_numberOfTrailingZeros_75 rfl rfl ?_
            refine x_iconst (v := (nI (1))) C d_I_numberOfTrailingZeros_76 (by decide) ?_
            refine x_iushr (v := (nI ((((2 ^ t - 1) / 2 ^ 8) / 2 ^ 4) / 2 ^ 1))) C d_I_numberOfTrailingZeros_77 (nx_ushr (by omega) (by omega)) ?_
            refine x_iaddN C d_I_numberOfTrailingZeros_78  ?_
            exact x_iret C hr d_I_numberOfTrailingZeros_79 () rfl (by
              have e9 : ∀ u, u < 31 → (0 < 2 ^ u - 1 ∧ 2 ^ u - 1 ≤ 65536 ∧ 256 < 2 ^ u - 1 ∧ 16 < (2 ^ u - 1) / 2 ^ 8 ∧ ((2 ^ u - 1) / 2 ^ 8) / 2 ^ 4 ≤ 4) → 1 + 8 + 4 + (((2 ^ u - 1) / 2 ^ 8) / 2 ^ 4) / 2 ^ 1 = u := by decide
              exact congrArg nI (e9 t ht ⟨c9, c23, c38, c52, c64⟩))
          · refine x_iinc (v := (nI (1 + 8 + 4 + 2))) (lv' := [(1, .int (nI (1 + 8 + 4 + 2))), (0, .int (nI (((2 ^ t - 1) / 2 ^ 8) / 2 ^ 4)))]) C d_I_numberOfTrailingZeros_67 rfl rfl (by decide) rfl ?_
            refine x_iload_n C d_I_numberOfTrailingZeros_70 rfl rfl ?_
            refine x_iconst (v := (nI (2))) C d_I_numberOfTrailingZeros_71 (by decide) ?_
            refine x_iushr (v := (nI ((((2 ^ t - 1) / 2 ^ 8) / 2 ^ 4) / 2 ^ 2))) C d_I_numberOfTrailingZeros_72 (nx_ushr (by omega) (by omega)) ?_
            refine x_istore_n (lv' := [(0, .int (nI ((((2 ^ t - 1) / 2 ^ 8) / 2 ^ 4) / 2 ^ 2))), (1, .int (nI (1 + 8 + 4 + 2)))]) C d_I_numberOfTrailingZeros_73 rfl (by decide) rfl ?_
            refine x_iload_n C d_I_numberOfTrailingZeros_74 rfl rfl ?_
            refine x_iload_n C d_I_numberOfTrailingZeros_75 rfl rfl ?_
            refine x_iconst (v := (nI (1))) C d_I_numberOfTrailingZeros_76 (by decide) ?_
            refine x_iushr (v := (nI (((((2 ^ t - 1) / 2 ^ 8) / 2 ^ 4) / 2 ^ 2) / 2 ^ 1))) C d_I_numberOfTrailingZeros_77 (nx_ushr (by omega) (by omega)) ?_
            refine x_iaddN C d_I_numberOfTrailingZeros_78  ?_
            exact x_iret C hr d_I_numberOfTrailingZeros_79 () rfl (by
              have e9 : ∀ u, u < 31 → (0 < 2 ^ u - 1 ∧ 2 ^ u - 1 ≤ 65536 ∧ 256 < 2 ^ u - 1 ∧ 16 < (2 ^ u - 1) / 2 ^ 8 ∧ 4 < ((2 ^ u - 1) / 2 ^ 8) / 2 ^ 4) → 1 + 8 + 4 + 2 + ((((2 ^ u - 1) / 2 ^ 8) / 2 ^ 4) / 2 ^ 2) / 2 ^ 1 = u := by decide
              exact congrArg nI (e9 t ht ⟨c9, c23, c38, c52, c64⟩))
    · refine x_iinc (v := (nI (1 + 16))) (lv' := [(1, .int (nI (1 + 16))), (0, .int (nI (2 ^ t - 1)))]) C d_I_numberOfTrailingZeros_26 rfl rfl (by decide) rfl ?_
      refine x_iload_n C d_I_numberOfTrailingZeros_29 rfl rfl ?_
      refine x_bipush (v := (nI (16))) C d_I_numberOfTrailingZeros_30 (by decide) ?_
      refine x_iushr (v := (nI ((2 ^ t - 1) / 2 ^ 16))) C d_I_numberOfTrailingZeros_32 (nx_ushr (by omega) (by omega)) ?_
      refine x_istore_n (lv' := [(0, .int (nI ((2 ^ t - 1) / 2 ^ 16))), (1, .int (nI (1 + 16)))]) C d_I_numberOfTrailingZeros_33 rfl (by decide) rfl ?_
      refine x_iload_n C d_I_numberOfTrailingZeros_34 rfl rfl ?_
      refine x_sipush (v := (nI (256))) C d_I_numberOfTrailingZeros_35 (by decide) ?_
      refine x_icmp_leN (tgt := 49) C d_I_numberOfTrailingZeros_38 (by decide) (by omega) (by omega) (fun c38 => ?_) (fun c38 => ?_)
      · refine x_iload_n C d_I_numberOfTrailingZeros_49 rfl rfl ?_
        refine x_bipush (v := (nI (16))) C d_I_numberOfTrailingZeros_50 (by decide) ?_
        refine x_icmp_leN (tgt := 62) C d_I_numberOfTrailingZeros_52 (by decide) (by omega) (by omega) (fun c52 => ?_) (fun c52 => ?_)
        · refine x_iload_n C d_I_numberOfTrailingZeros_62 rfl rfl ?_
          refine x_iconst (v := (nI (4))) C d_I_numberOfTrailingZeros_63 (by decide) ?_
          refine x_icmp_leN (tgt := 74) C d_I_numberOfTrailingZeros_64 (by decide) (by omega) (by omega) (fun c64 => ?_) (fun c64 => ?_)
          · refine x_iload_n C d_I_numberOfTrailingZeros_74 rfl rfl ?_
            refine x_iload_n C d_I_numberOfTrailingZeros_75 rfl rfl ?_
            refine x_iconst (v := (nI (1))) C d_I_numberOfTrailingZeros_76 (by decide) ?_
            refine x_iushr (v := (nI (((2 ^ t - 1) / 2 ^ 16) / 2 ^ 1))) C d_I_numberOfTrailingZeros_77 (nx_ushr (by omega) (by omega)) ?_
            refine x_iaddN C d_I_numberOfTrailingZeros_78  ?_
            exact x_iret C hr d_I_numberOfTrailingZeros_79 () rfl (by
              have e9 : ∀ u, u < 31 → (0 < 2 ^ u - 1 ∧ 65536 < 2 ^ u - 1 ∧ (2 ^ u - 1) / 2 ^ 16 ≤ 256 ∧ (2 ^ u - 1) / 2 ^ 16 ≤ 16 ∧ (2 ^ u - 1) / 2 ^ 16 ≤ 4) → 1 + 16 + ((2 ^ u - 1) / 2 ^ 16) / 2 ^ 1 = u := by decide
              exact congrArg nI (e9 t ht ⟨c9, c23, c38, c52, c64⟩))
          · refine x_iinc (v := (nI (1 + 16 + 2))) (lv' := [(1, .int (nI (1 + 16 + 2))), (0, .int (nI ((2 ^ t - 1) / 2 ^ 16)))]) C d_I_numberOfTrailingZeros_67 rfl rfl (by decide) rfl ?_
            refine x_iload_n C d_I_numberOfTrailingZeros_70 rfl rfl ?_
            refine x_iconst (v := (nI (2))) C d_I_numberOfTrailingZeros_71 (by decide) ?_
            refine x_iushr (v := (nI (((2 ^ t - 1) / 2 ^ 16) / 2 ^ 2))) C d_I_numberOfTrailingZeros_72 (nx_ushr (by omega) (by omega)) ?_
            refine x_istore_n (lv' := [(0, .int (nI (((2 ^ t - 1) / 2 ^ 16) / 2 ^ 2))), (1, .int (nI (1 + 16 + 2)))]) C d_I_numberOfTrailingZeros_73 rfl (by decide) rfl ?_
            refine x_iload_n C d_I_numberOfTrailingZeros_74 rfl rfl ?_
            refine x_iload_n C d_I_numberOfTrailingZeros_75 rfl rfl ?_
            refine x_iconst (v := (nI (1))) C d_I_numberOfTrailingZeros_76 (by decide) ?_
            refine x_iushr (v := (nI ((((2 ^ t - 1) / 2 ^ 16) / 2 ^ 2) / 2 ^ 1))) C d_I_numberOfTrailingZeros_77 (nx_ushr (by omega) (by omega)) ?_
            refine x_iaddN C d_I_numberOfTrailingZeros_78  ?_
            exact x_iret C hr d_I_numberOfTrailingZeros_79 () rfl (by
              have e9 : ∀ u, u < 31 → (0 < 2 ^ u - 1 ∧ 65536 < 2 ^ u - 1 ∧ (2 ^ u - 1) / 2 ^ 16 ≤ 256 ∧ (2 ^ u - 1) / 2 ^ 16 ≤ 16 ∧ 4 < (2 ^ u - 1) / 2 ^ 16) → 1 + 16 + 2 + (((2 ^ u - 1) / 2 ^ 16) / 2 ^ 2) / 2 ^ 1 = u := by decide
              exact congrArg nI (e9 t ht ⟨c9, c23, c38, c52, c64⟩))
        · refine x_iinc (v := (nI (1 + 16 + 4))) (lv' := [(1, .int (nI (1 + 16 + 4))), (0, .int (nI ((2 ^ t - 1) / 2 ^ 16)))]) C d_I_numberOfTrailingZeros_55 rfl rfl (by decide) rfl ?_
          refine x_iload_n C d_I_numberOfTrailingZeros_58 rfl rfl ?_
          refine x_iconst (v := (nI (4))) C d_I_numberOfTrailingZeros_59 (by decide) ?_
          refine x_iushr (v := (nI (((2 ^ t - 1) / 2 ^ 16) / 2 ^ 4))) C d_I_numberOfTrailingZeros_60 (nx_ushr (by omega) (by omega)) ?_
          refine x_istore_n (lv' := [(0, .int (nI (((2 ^ t - 1) / 2 ^ 16) / 2 ^ 4))), (1, .int (nI (1 + 16 + 4)))]) C d_I_numberOfTrailingZeros_61 rfl (by decide) rfl ?_
          refine x_iload_n C d_I_numberOfTrailingZeros_62 rfl rfl ?_
          refine x_iconst (v := (nI (4))) C d_I_numberOfTrailingZeros_63 (by decide) ?_
          refine x_icmp_leN (tgt := 74) C d_I_numberOfTrailingZeros_64 (by decide) (by omega) (by omega) (fun c64 => ?_) (fun c64 => ?_)
          · refine x_iload_n C d_I_numberOfTrailingZeros_74 rfl rfl ?_
            refine x_iload_n C d_I_numberOfTrailingZeros_75 rfl rfl ?_
            refine x_iconst (v := (nI (1))) C d_I_numberOfTrailingZeros_76 (by decide) ?_
            refine x_iushr (v := (nI ((((2 ^ t - 1) / 2 ^ 16) / 2 ^ 4) / 2 ^ 1))) C d_I_numberOfTrailingZeros_77 (nx_ushr (by omega) (by omega)) ?_
            refine x_iaddN C d_I_numberOfTrailingZeros_78  ?_
            exact x_iret C hr d_I_numberOfTrailingZeros_79 () rfl (by
              have e9 : ∀ u, u < 31 → (0 < 2 ^ u - 1 ∧ 65536 < 2 ^ u - 1 ∧ (2 ^ u - 1) / 2 ^ 16 ≤ 256 ∧ 16 < (2 ^ u - 1) / 2 ^ 16 ∧ ((2 ^ u - 1) / 2 ^ 16) / 2 ^ 4 ≤ 4) → 1 + 16 + 4 + (((2 ^ u - 1) / 2 ^ 16) / 2 ^ 4) / 2 ^ 1 = u := by decide
              exact congrArg nI (e9 t ht ⟨c9, c23, c38, c52, c64⟩))
          · refine x_iinc (v := (nI (1 + 16 + 4 + 2))) (lv' := [(1, .int (nI (1 + 16 + 4 + 2))), (0, .int (nI (((2 ^ t - 1) / 2 ^ 16) / 2 ^ 4)))]) C d_I_numberOfTrailingZeros_67 rfl rfl (by decide) rfl ?_
            refine x_iload_n C d_I_numberOfTrailingZeros_70 rfl rfl ?_
            refine x_iconst (v := (nI (2))) C d_I_numberOfTrailingZeros_71 (by decide) ?_
            refine x_iushr (v := (nI ((((2 ^ t - 1) / 2 ^ 16) / 2 ^ 4) / 2 ^ 2))) C d_I_numberOfTrailingZeros_72 (nx_ushr (by omega) (by omega)) ?_
            refine x_istore_n (lv' := [(0, .int (nI ((((2 ^ t - 1) / 2 ^ 16) / 2 ^ 4) / 2 ^ 2))), (1, .int (nI (1 + 16 + 4 + 2)))]) C d_I_numberOfTrailingZeros_73 rfl (by decide) rfl ?_
            refine x_iload_n C d_I_numberOfTrailingZeros_74 rfl rfl ?_
            refine x_iload_n C d_I_numberOfTrailingZeros_75 rfl rfl ?_
            refine x_iconst (v := (nI (1))) C d_I_numberOfTrailingZeros_76 (by decide) ?_
            refine x_iushr (v := (nI (((((2 ^ t - 1) / 2 ^ 16) / 2 ^ 4) / 2 ^ 2) / 2 ^ 1))) C d_I_numberOfTrailingZeros_77 (nx_ushr (by omega) (by omega)) ?_
            refine x_iaddN C d_I_numberOfTrailingZeros_78  ?_
            exact x_iret C hr d_I_numberOfTrailingZeros_79 () rfl (by
              have e9 : ∀ u, u < 31 → (0 < 2 ^ u - 1 ∧ 65536 < 2 ^ u - 1 ∧ (2 ^ u - 1) / 2 ^ 16 ≤ 256 ∧ 16 < (2 ^ u - 1) / 2 ^ 16 ∧ 4 < ((2 ^ u - 1) / 2 ^ 16) / 2 ^ 4) → 1 + 16 + 4 + 2 + ((((2 ^ u - 1) / 2 ^ 16) / 2 ^ 4) / 2 ^ 2) / 2 ^ 1 = u := by decide
              exact congrArg nI (e9 t ht ⟨c9, c23, c38, c52, c64⟩))
      · refine x_iinc (v := (nI (1 + 16 + 8))) (lv' := [(1, .int (nI (1 + 16 + 8))), (0, .int (nI ((2 ^ t - 1) / 2 ^ 16)))]) C d_I_numberOfTrailingZeros_41 rfl rfl (by decide) rfl ?_
        refine x_iload_n C d_I_numberOfTrailingZeros_44 rfl rfl ?_
        refine x_bipush (v := (nI (8))) C d_I_numberOfTrailingZeros_45 (by decide) ?_
        refine x_iushr (v := (nI (((2 ^ t - 1) / 2 ^ 16) / 2 ^ 8))) C d_I_numberOfTrailingZeros_47 (nx_ushr (by omega) (by omega)) ?_
        refine x_istore_n (lv' := [(0, .int (nI (((2 ^ t - 1) / 2 ^ 16) / 2 ^ 8))), (1, .int (nI (1 + 16 + 8)))]) C d_I_numberOfTrailingZeros_48 rfl (by decide) rfl ?_
        refine x_iload_n C d_I_numberOfTrailingZeros_49 rfl rfl ?_
        refine x_bipush (v := (nI (16))) C d_I_numberOfTrailingZeros_50 (by decide) ?_
        refine x_icmp_leN (tgt := 62) C d_I_numberOfTrailingZeros_52 (by decide) (by omega) (by omega) (fun c52 => ?_) (fun c52 => ?_)
        · refine x_iload_n C d_I_numberOfTrailingZeros_62 rfl rfl ?_
          refine x_iconst (v := (nI (4))) C d_I_numberOfTrailingZeros_63 (by decide) ?_
          refine x_icmp_leN (tgt := 74) C d_I_numberOfTrailingZeros_64 (by decide) (by omega) (by omega) (fun c64 => ?_) (fun c64 => ?_)
          · refine x_iload_n C d_I_numberOfTrailingZeros_74 rfl rfl ?_
            refine x_iload_n C d_I_numberOfTrailingZeros_75 rfl rfl ?_
            refine x_iconst (v := (nI (1))) C d_I_numberOfTrailingZeros_76 (by decide) ?_
            refine x_iushr (v := (nI ((((2 ^ t - 1) / 2 ^ 16) / 2 ^ 8) / 2 ^ 1))) C d_I_numberOfTrailingZeros_77 (nx_ushr (by omega) (by omega)) ?_
            refine x_iaddN C d_I_numberOfTrailingZeros_78  ?_
            exact x_iret C hr d_I_numberOfTrailingZeros_79 () rfl (by
              have e9 : ∀ u, u < 31 → (0 < 2 ^ u - 1 ∧ 65536 < 2 ^ u - 1 ∧ 256 < (2 ^ u - 1) / 2 ^ 16 ∧ ((2 ^ u - 1) / 2 ^ 16) / 2 ^ 8 ≤ 16 ∧ ((2 ^ u - 1) / 2 ^ 16) / 2 ^ 8 ≤ 4) → 1 + 16 + 8 + (((2 ^ u - 1) / 2 ^ 16) / 2 ^ 8) / 2 ^ 1 = u := by decide
              exact congrArg nI (e9 t ht ⟨c9, c23, c38, c52, c64⟩))
          · refine x_iinc (v := (nI (1 + 16 + 8 + 2))) (lv' := [(1, .int (nI (1 + 16 + 8 + 2))), (0, .int (nI (((2 ^ t - 1) / 2 ^ 16) / 2 ^ 8)))]) C d_I_numberOfTrailingZeros_67 rfl rfl (by decide) rfl ?_
            refine x_iload_n C d_I_numberOfTrailingZeros_70 rfl rfl ?_
            refine x_iconst (v := (nI (2))) C d_I_numberOfTrailingZeros_71 (by decide) ?_
            refine x_iushr (v := (nI ((((2 ^ t - 1) / 2 ^ 16) / 2 ^ 8) / 2 ^ 2))) C d_I_numberOfTrailingZeros_72 (nx_ushr (by omega) (by omega)) ?_
            refine x_istore_n (lv' := [(0, .int (nI ((((2 ^ t - 1) / 2 ^ 16) / 2 ^ 8) / 2 ^ 2))), (1, .int (nI (1 + 16 + 8 + 2)))]) C d_I_numberOfTrailingZeros_73 rfl (by decide) rfl ?_
            refine x_iload_n C d_I_numberOfTrailingZeros_74 rfl rfl ?_
            refine x_iload_n C d_I_numberOfTrailingZeros_75 rfl rfl ?_
            refine x_iconst (v := (nI (1))) C d_I_numberOfTrailingZeros_76 (by decide) ?_
            refine x_iushr (v := (nI (((((2 ^ t - 1) / 2 ^ 16) / 2 ^ 8) / 2 ^ 2) / 2 ^ 1))) C d_I_numberOfTrailingZeros_77 (nx_ushr (by omega) (by omega)) ?_
            refine x_iaddN C d_I_numberOfTrailingZeros_78  ?_
            exact x_iret C hr d_I_numberOfTrailingZeros_79 () rfl (by
              have e9 : ∀ u, u < 31 → (0 < 2 ^ u - 1 ∧ 65536 < 2 ^ u - 1 ∧ 256 < (2 ^ u - 1) / 2 ^ 16 ∧ ((2 ^ u - 1) / 2 ^ 16) / 2 ^ 8 ≤ 16 ∧ 4 < ((2 ^ u - 1) / 2 ^ 16) / 2 ^ 8) → 1 + 16 + 8 + 2 + ((((2 ^ u - 1) / 2 ^ 16) / 2 ^ 8) / 2 ^ 2) / 2 ^ 1 = u := by decide
              exact congrArg nI (e9 t ht ⟨c9, c23, c38, c52, c64⟩))
        · refine x_iinc (v := (nI (1 + 16 + 8 + 4))) (lv' := [(1, .int (nI (1 + 16 + 8 + 4))), (0, .int (nI (((2 ^ t - 1) / 2 ^ 16) / 2 ^ 8)))]) C d_I_numberOfTrailingZeros_55 rfl rfl (by decide) rfl ?_
          refine x_iload_n C d_I_numberOfTrailingZeros_58 rfl rfl ?_
          refine x_iconst (v := (nI (4))) C d_I_numberOfTrailingZeros_59 (by decide) ?_
          refine x_iushr (v := (nI ((((2 ^ t - 1) / 2 ^ 16) / 2 ^ 8) / 2 ^ 4))) C d_I_numberOfTrailingZeros_60 (nx_ushr (by omega) (by omega)) ?_
          refine x_istore_n (lv' := [(0, .int (nI ((((2 ^ t - 1) / 2 ^ 16) / 2 ^ 8) / 2 ^ 4))), (1, .int (nI (1 + 16 + 8 + 4)))]) C d_I_numberOfTrailingZeros_61 rfl (by decide) rfl ?_
          refine x_iload_n C d_I_numberOfTrailingZeros_62 rfl rfl ?_
          refine x_iconst (v := (nI (4))) C d_I_numberOfTrailingZeros_63 (by decide) ?_
          refine x_icmp_leN (tgt := 74) C d_I_numberOfTrailingZeros_64 (by decide) (by omega) (by omega) (fun c64 => ?_) (fun c64 => ?_)
          · refine x_iload_n C d_I_numberOfTrailingZeros_74 rfl rfl ?_
            refine x_iload_n C d_I_numberOfTrailingZeros_75 rfl rfl ?_
            refine x_iconst (v := (nI (1))) C d_I_numberOfTrailingZeros_76 (by decide) ?_
            refine x_iushr (v := (nI (((((2 ^ t - 1) / 2 ^ 16) / 2 ^ 8) / 2 ^ 4) / 2 ^ 1))) C d_I_numberOfTrailingZeros_77 (nx_ushr (by omega) (by omega)) ?_
            refine x_iaddN C d_I_numberOfTrailingZeros_78  ?_
            exact x_iret C hr d_I_numberOfTrailingZeros_79 () rfl (by
              have e9 : ∀ u, u < 31 → (0 < 2 ^ u - 1 ∧ 65536 < 2 ^ u - 1 ∧ 256 < (2 ^ u - 1) / 2 ^ 16 ∧ 16 < ((2 ^ u - 1) / 2 ^ 16) / 2 ^ 8 ∧ (((2 ^ u - 1) / 2 ^ 16) / 2 ^ 8) / 2 ^ 4 ≤ 4) → 1 + 16 + 8 + 4 + ((((2 ^ u - 1) / 2 ^ 16) / 2 ^ 8) / 2 ^ 4) / 2 ^ 1 = u := by decide
              exact congrArg nI (e9 t ht ⟨c9, c23, c38, c52, c64⟩))
          · refine x_iinc (v := (nI (1 + 16 + 8 + 4 + 2))) (lv' := [(1, .int (nI (1 + 16 + 8 + 4 + 2))), (0, .int (nI ((((2 ^ t - 1) / 2 ^ 16) / 2 ^ 8) / 2 ^ 4)))]) C d_I_numberOfTrailingZeros_67 rfl rfl (by decide) rfl ?_
            refine x_iload_n C d_I_numberOfTrailingZeros_70 rfl rfl ?_
            refine x_iconst (v := (nI (2))) C d_I_numberOfTrailingZeros_71 (by decide) ?_
            refine x_iushr (v := (nI (((((2 ^ t - 1) / 2 ^ 16) / 2 ^ 8) / 2 ^ 4) / 2 ^ 2))) C d_I_numberOfTrailingZeros_72 (nx_ushr (by omega) (by omega)) ?_
            refine x_istore_n (lv' := [(0, .int (nI (((((2 ^ t - 1) / 2 ^ 16) / 2 ^ 8) / 2 ^ 4) / 2 ^ 2))), (1, .int (nI (1 + 16 + 8 + 4 + 2)))]) C d_I_numberOfTrailingZeros_73 rfl (by decide) rfl ?_
            refine x_iload_n C d_I_numberOfTrailingZeros_74 rfl rfl ?_
            refine x_iload_n C d_I_numberOfTrailingZeros_75 rfl rfl ?_
            refine x_iconst (v := (nI (1))) C d_I_numberOfTrailingZeros_76 (by decide) ?_
            refine x_iushr (v := (nI ((((((2 ^ t - 1) / 2 ^ 16) / 2 ^ 8) / 2 ^ 4) / 2 ^ 2) / 2 ^ 1))) C d_I_numberOfTrailingZeros_77 (nx_ushr (by omega) (by omega)) ?_
            refine x_iaddN C d_I_numberOfTrailingZeros_78  ?_
            exact x_iret C hr d_I_numberOfTrailingZeros_79 () rfl (by
              have e9 : ∀ u, u < 31 → (0 < 2 ^ u - 1 ∧ 65536 < 2 ^ u - 1 ∧ 256 < (2 ^ u - 1) / 2 ^ 16 ∧ 16 < ((2 ^ u - 1) / 2 ^ 16) / 2 ^ 8 ∧ 4 < (((2 ^ u - 1) / 2 ^ 16) / 2 ^ 8) / 2 ^ 4) → 1 + 16 + 8 + 4 + 2 + (((((2 ^ u - 1) / 2 ^ 16) / 2 ^ 8) / 2 ^ 4) / 2 ^ 2) / 2 ^ 1 = u := by decide
              exact congrArg nI (e9 t ht ⟨c9, c23, c38, c52, c64⟩))
  · refine x_iload_n C d_I_numberOfTrailingZeros_12 rfl rfl ?_
    refine x_bipush (v := (nI (32))) C d_I_numberOfTrailingZeros_13 (by decide) ?_
    refine x_iand C d_I_numberOfTrailingZeros_15 ?_
    refine x_top (y := (nI ((2 ^ t - 1) &&& 32))) (nx_and _ _) ?_
    exact x_iret C hr d_I_numberOfTrailingZeros_16 () rfl (by
      have h9 : t = 0 := by
        rcases Nat.eq_zero_or_pos t with q | q
        · exact q
        · have : 2 ^ 1 ≤ 2 ^ t := Nat.pow_le_pow_right (by omega) q
          omega
      subst h9
      rfl)
end
section
/-! rows counted; the first row from one on -/
def cn (f : Nat → Bool) : Nat → Nat
  | 0 => 0
  | n + 1 => cn f n + (f n).toNat
def sm : List (Nat × Nat) → Nat
  | [] => 0
  | w :: ws => pcn 31 w.1 * w.2 + sm ws
def sg : List Nat → Nat
  | [] => 0
  | b :: bs => pcn 31 b + sg bs
theorem sm_snoc (w : Nat × Nat) : ∀ ws, sm (ws ++ [w]) = sm ws + pcn 31 w.1 * w.2
  | [] => by simp [sm]
  | x :: ws => by
    show pcn 31 x.1 * x.2 + sm (ws ++ [w]) = pcn 31 x.1 * x.2 + sm ws + _
    rw [sm_snoc w ws]
    omega
theorem sg_app (b : List Nat) : ∀ a, sg (a ++ b) = sg a + sg b
  | [] => by simp [sg]
  | x :: a => by
    show pcn 31 x + sg (a ++ b) = pcn 31 x + sg a + sg b
    rw [sg_app b a]
    omega
theorem sg_rep (b : Nat) : ∀ k, sg (List.replicate k b) = pcn 31 b * k
  | 0 => rfl
  | k + 1 => by
    rw [List.replicate_succ]
    show pcn 31 b + sg (List.replicate k b) = _
    rw [sg_rep b k, Nat.mul_succ]
    omega
theorem sm_ex : ∀ ws, sm ws = sg (ex ws)
  | [] => rfl
  | w :: ws => by
    rw [ex_cons, sg_app, sg_rep, ← sm_ex ws]
    rfl
theorem cn_grp (f : Nat → Bool) (g : Nat) : ∀ j, j ≤ 31 → cn f (31 * g + j) = cn f (31 * g) + pcn j (gb f g)
  | 0, _ => by simp [pcn]
  | j + 1, h => by
    show cn f (31 * g + j) + (f (31 * g + j)).toNat = cn f (31 * g) + (pcn j (gb f g) + ((gb f g).testBit j).toNat)
    have hj : j < 31 := by omega
    rw [cn_grp f g j (by omega), gb_bit]
    simp [hj]
    omega
theorem cn_PG (f : Nat → Bool) : ∀ k, sg (PG f k) = cn f (31 * k)
  | 0 => rfl
  | k + 1 => by
    rw [PG_succ, sg_app, cn_PG f k, Nat.mul_succ, cn_grp f k 31 (Nat.le_refl _)]
    rfl
theorem cn_sup {f : Nat → Bool} {n : Nat} (h : sup n f) : ∀ d, cn f (n + d) = cn f n
  | 0 => rfl
  | d + 1 => by
    show cn f (n + d) + (f (n + d)).toNat = _
    rw [cn_sup h d, h (n + d) (by omega)]
    rfl
theorem Rep.count {n : Nat} {f : Nat → Bool} {ws : List (Nat × Nat)} (h : Rep n f ws) (hs : sup n f) : sm ws = cn f n := by
  rw [sm_ex, h.2, GL_PG, cn_PG]
  obtain ⟨d, hd⟩ : ∃ d, 31 * ((n + 30) / 31) = n + d := ⟨31 * ((n + 30) / 31) - n, by omega⟩
  rw [hd, cn_sup hs]
set_option maxHeartbeats 4000000 in
theorem c_S_rowsOf {l : Launch} {D : va_G} {cA : ClassId} {h h1 h2 cap mx : Nat} {L Bd : Nat → Int32} {k : Nat} {pre : List (List Int32)} {fs : List (Nat × Nat)} (hH : Hs cap mx L Bd (pre ++ [fs.map enc])) (hk : pre.length + 1 = k) (hok : ∀ w ∈ fs, okw w ∧ w.2 < 2 ^ 24)  : CtI l D cA y_S_rowsOf b_S_rowsOf 5 (some .int) ({ frames := 2, cells := 0, slots := 0, locals := 42 } : Room) [.ref h, .int (nI (pre.length))] (shW cA h h1 h2 cap mx L Bd k) (fun r (_ : Unit) => r = nI (sm fs)) (fun _ => (shW cA h h1 h2 cap mx L Bd k)) := by
  subst hk
  refine CtI.start (lv0 := [(0, .ref h), (1, .int (nI (pre.length)))]) (by decide) rfl (Nat.le_of_ble_eq_true rfl) ?_
  intro p_ e_ s_ m_ args_ below_ meth_ c_ A_ C hr hin
  have hm := hH.in
  rw [List.length_map] at hm
  have LP : ∀ (d i : Nat), i + d = fs.length → X p_ l e_ ({ frames := 2, cells := 0, slots := 0, locals := 42 } : Room) s_ m_ args_ below_ meth_ c_ D A_ 5 0 0 (MQ below_ (va_Qi (fun r (_ : Unit) => r = nI (sm fs)) (Bw D A_ (fun _ => (shW cA h h1 h2 cap mx L Bd (pre.length + 1)))) A_) args_ s_ 0 0 A_) [(h, .inr (0, [.ref h1, .ref h2, .int (nI (pre.length + 1))])), (h1, .inl (cA, cap, .inl (L))), (h2, .inl (cA, mx, .inl (Bd)))] 17 [(4, .int (nI (tot pre + i))), (3, .int (nI (tot pre + fs.length))), (2, .int (nI (sm (fs.take i)))), (0, .ref h), (1, .int (nI (pre.length)))] [] := by
    intro d
    induction d with
    | zero =>
      intro i hi
      refine x_iload C d_S_rowsOf_17 rfl ?_
      refine x_iload_n C d_S_rowsOf_19 rfl rfl ?_
      refine x_icmp_geN (tgt := 56) C d_S_rowsOf_20 (by decide) (by omega) (by omega) (fun c20 => ?_) (fun c20 => ?_)
      · refine x_iload_n C d_S_rowsOf_56 rfl rfl ?_
        exact x_iret C hr d_S_rowsOf_57 () rfl (by rw [List.take_of_length_le (by omega)])
      · exact absurd c20 (by omega)
    | succ d ih =>
      intro i hi
      obtain ⟨w, hw⟩ : ∃ w, fs[i]? = some w := ⟨fs[i], List.getElem?_eq_getElem (by omega)⟩
      have ow := hok w (List.mem_of_getElem? hw)
      refine x_iload C d_S_rowsOf_17 rfl ?_
      refine x_iload_n C d_S_rowsOf_19 rfl rfl ?_
      refine x_icmp_geN (tgt := 56) C d_S_rowsOf_20 (by decide) (by omega) (by omega) (fun c20 => ?_) (fun c20 => ?_)
      · exact absurd c20 (by omega)
      · refine x_iload_n C d_S_rowsOf_23 rfl rfl ?_
        refine x_aload_n C d_S_rowsOf_24 rfl rfl ?_
        refine x_get C d_S_rowsOf_25 0 rfl rfl i_S 0 (by decide) lk_S_15 rfl rfl ?_
        refine x_iload C d_S_rowsOf_28 rfl ?_
        refine x_iald C d_S_rowsOf_30 1 rfl (by omega) (by omega) ?_
        refine x_top (y := (enc w)) (nt_word hH hw) ?_
        refine x_callSIN (wr := [(h, .inr (0, [.ref h1, .ref h2, .int (nI (pre.length + 1))])), (h1, .inl (cA, cap, .inl (L))), (h2, .inl (cA, mx, .inl (Bd)))]) (rest := [.int (nI (sm (fs.take i)))]) C (c_B_bitsOf ow.1 (by omega)) d_S_rowsOf_31 cd_B_bitsOf lk_S_38 dd_B_bitsOf rfl ⟨Nat.le_of_ble_eq_true rfl, Nat.le_of_ble_eq_true rfl⟩ ⟨Nat.le_refl _, Nat.le_refl _⟩ [] [0, 1, 2] rfl rfl (by decide) (by decide) (by decide) rfl (Nat.le_of_ble_eq_true rfl) ?_
        intro r_ u_ hp_
        obtain rfl := hp_
        refine x_callSI (wr := [(h, .inr (0, [.ref h1, .ref h2, .int (nI (pre.length + 1))])), (h1, .inl (cA, cap, .inl (L))), (h2, .inl (cA, mx, .inl (Bd)))]) (rest := [.int (nI (sm (fs.take i)))]) C (c_I_bitCount (b := w.1) (by have h9 : w.1 ≤ 2147483647 := ow.1.2.1; omega)) d_S_rowsOf_34 cd_I_bitCount lk_S_41 dd_I_bitCount rfl ⟨Nat.le_of_ble_eq_true rfl, Nat.le_of_ble_eq_true rfl⟩ ⟨Nat.le_refl _, Nat.le_refl _⟩ [] [0, 1, 2] rfl rfl (by decide) (by decide) (by decide) rfl (Nat.le_of_ble_eq_true rfl) ?_
        intro r_ u_ hp_
        obtain rfl := hp_
        refine x_aload_n C d_S_rowsOf_37 rfl rfl ?_
        refine x_get C d_S_rowsOf_38 0 rfl rfl i_S 0 (by decide) lk_S_15 rfl rfl ?_
        refine x_iload C d_S_rowsOf_41 rfl ?_
        refine x_iald C d_S_rowsOf_43 1 rfl (by omega) (by omega) ?_
        refine x_top (y := (enc w)) (nt_word hH hw) ?_
        refine x_callSIN (wr := [(h, .inr (0, [.ref h1, .ref h2, .int (nI (pre.length + 1))])), (h1, .inl (cA, cap, .inl (L))), (h2, .inl (cA, mx, .inl (Bd)))]) (rest := [.int (nI (pcn 31 w.1)), .int (nI (sm (fs.take i)))]) C (c_B_groupsOf ow.1 (by omega)) d_S_rowsOf_44 cd_B_groupsOf lk_S_46 dd_B_groupsOf rfl ⟨Nat.le_of_ble_eq_true rfl, Nat.le_of_ble_eq_true rfl⟩ ⟨Nat.le_refl _, Nat.le_refl _⟩ [] [0, 1, 2] rfl rfl (by decide) (by decide) (by decide) rfl (Nat.le_of_ble_eq_true rfl) ?_
        intro r_ u_ hp_
        obtain rfl := hp_
        refine x_imulN C d_S_rowsOf_47  ?_
        refine x_iaddN C d_S_rowsOf_48  ?_
        refine x_top (y := (nI (sm (fs.take (i + 1))))) (by rw [take_snoc hw, sm_snoc]) ?_
        refine x_istore_n (lv' := [(2, .int (nI (sm (fs.take (i + 1))))), (4, .int (nI (tot pre + i))), (3, .int (nI (tot pre + fs.length))), (0, .ref h), (1, .int (nI (pre.length)))]) C d_S_rowsOf_49 rfl (by decide) rfl ?_
        refine x_iincN (lv' := [(4, .int (nI (tot pre + i + 1))), (2, .int (nI (sm (fs.take (i + 1))))), (3, .int (nI (tot pre + fs.length))), (0, .ref h), (1, .int (nI (pre.length)))]) C d_S_rowsOf_50 rfl (by decide) rfl ?_
        refine x_goto (tgt := 17) C d_S_rowsOf_53 (by decide) ?_
        refine x_lv (lv' := [(4, .int (nI (tot pre + i + 1))), (3, .int (nI (tot pre + fs.length))), (2, .int (nI (sm (fs.take (i + 1))))), (0, .ref h), (1, .int (nI (pre.length)))]) (Or.inr (List.forall_mem_cons.mpr ⟨rfl, List.forall_mem_cons.mpr ⟨rfl, List.forall_mem_cons.mpr ⟨rfl, List.forall_mem_cons.mpr ⟨rfl, List.forall_mem_cons.mpr ⟨rfl, fun _ h9 => absurd h9 List.not_mem_nil⟩⟩⟩⟩⟩)) ?_
        exact ih (i + 1) (by omega)
  refine x_iconst (v := (nI (0))) C d_S_rowsOf_0 (by decide) ?_
  refine x_istore_n (lv' := [(2, .int (nI 0)), (0, .ref h), (1, .int (nI (pre.length)))]) C d_S_rowsOf_1 rfl (by decide) rfl ?_
  refine x_aload_n C d_S_rowsOf_2 rfl rfl ?_
  refine x_iload_n C d_S_rowsOf_3 rfl rfl ?_
  refine x_iconst (v := (nI (1))) C d_S_rowsOf_4 (by decide) ?_
  refine x_iaddN C d_S_rowsOf_5  ?_
  refine x_callVI (wr := []) (rest := []) C (c_S_startOf (i := pre.length + 1) hH (by simp) (by simp)) d_S_rowsOf_6 cd_S_startOf lk_S_31 dd_S_startOf rfl ⟨Nat.le_of_ble_eq_true rfl, Nat.le_of_ble_eq_true rfl⟩ ⟨Nat.le_refl _, Nat.le_refl _⟩ 0 0 rfl rfl [0, 1, 2] [] rfl rfl (by decide) (by decide) (by decide) rfl (Nat.le_of_ble_eq_true rfl) ?_
  intro r_ u_ hp_
  obtain rfl := hp_
  refine x_top (y := (nI (tot pre + fs.length))) (by rw [off_snoc, List.length_map]) ?_
  refine x_istore_n (lv' := [(3, .int (nI (tot pre + fs.length))), (2, .int (nI 0)), (0, .ref h), (1, .int (nI (pre.length)))]) C d_S_rowsOf_9 rfl (by decide) rfl ?_
  refine x_aload_n C d_S_rowsOf_10 rfl rfl ?_
  refine x_iload_n C d_S_rowsOf_11 rfl rfl ?_
  refine x_callVI (wr := []) (rest := []) C (c_S_startOf (i := pre.length) hH (by simp) (by simp)) d_S_rowsOf_12 cd_S_startOf lk_S_31 dd_S_startOf rfl ⟨Nat.le_of_ble_eq_true rfl, Nat.le_of_ble_eq_true rfl⟩ ⟨Nat.le_refl _, Nat.le_refl _⟩ 0 0 rfl rfl [0, 1, 2] [] rfl rfl (by decide) (by decide) (by decide) rfl (Nat.le_of_ble_eq_true rfl) ?_
  intro r_ u_ hp_
  obtain rfl := hp_
  refine x_top (y := (nI (tot pre))) (by rw [off_app (Nat.le_refl _), off_len]) ?_
  refine x_istore (lv' := [(4, .int (nI (tot pre))), (3, .int (nI (tot pre + fs.length))), (2, .int (nI 0)), (0, .ref h), (1, .int (nI (pre.length)))]) C d_S_rowsOf_15 (by decide) rfl ?_
  refine x_lv (lv' := [(4, .int (nI (tot pre))), (3, .int (nI (tot pre + fs.length))), (2, .int (nI 0)), (0, .ref h), (1, .int (nI (pre.length)))]) (Or.inr (List.forall_mem_cons.mpr ⟨rfl, List.forall_mem_cons.mpr ⟨rfl, List.forall_mem_cons.mpr ⟨rfl, List.forall_mem_cons.mpr ⟨rfl, List.forall_mem_cons.mpr ⟨rfl, fun _ h9 => absurd h9 List.not_mem_nil⟩⟩⟩⟩⟩)) ?_
  exact LP fs.length 0 (by omega)
theorem and_zero_l (y : Int32) : nI 0 &&& y = nI 0 := Int32.zero_and
theorem mx_sub {a b : Nat} (ha : a < 2 ^ 30) (hb : b < 2 ^ 30) : (if nI a - nI b < nI 0 then nI 0 else nI a - nI b) = nI (a - b) := by
  by_cases h : a < b
  · rw [if_pos (show nI a - nI b < nI 0 from pk_sneg hb h), Nat.sub_eq_zero_of_le (by omega)]
  · rw [if_neg, pk_sub (by omega)]
    rw [pk_sub (by omega)]
    exact nI_pos (by omega)
set_option maxHeartbeats 4000000 in
theorem c_B_firstBits_any {l : Launch} {D : va_G} {cA : ClassId} {n : Nat} : CtI l D cA y_B_firstBits b_B_firstBits 1 (some .int) ({ frames := 0, cells := 0, slots := 0, locals := 0 } : Room) [.int (nI n)] [] (fun r (_ : Unit) => True) (fun _ => []) := by
  refine CtI.start (lv0 := [(0, .int (nI n))]) (by decide) rfl (Nat.le_of_ble_eq_true rfl) ?_
  intro p_ e_ s_ m_ args_ below_ meth_ c_ A_ C hr hin
  refine x_iconst (v := (nI (1))) C d_B_firstBits_0 (by decide) ?_
  refine x_iload_n C d_B_firstBits_1 rfl rfl ?_
  refine x_ishl C d_B_firstBits_2 ?_
  refine x_iconst (v := (nI (1))) C d_B_firstBits_3 (by decide) ?_
  refine x_isub C d_B_firstBits_4  ?_
  exact x_iret C hr d_B_firstBits_5 () rfl (trivial)
def fiw (w : Nat × Nat) (sk : Nat) (r : Int32) : Prop := (∃ x, sk ≤ x ∧ x < 31 * w.2 ∧ w.1.testBit (x % 31) = true ∧ (∀ y, sk ≤ y → y < x → w.1.testBit (y % 31) = false) ∧ r = nI x) ∨ ((∀ y, sk ≤ y → y < 31 * w.2 → w.1.testBit (y % 31) = false) ∧ r = -1)
theorem fiw_A {w : Nat × Nat} {sk : Nat} (h : w.1 = 2147483647) (hsk : sk < 31 * w.2) : fiw w sk (nI sk) := by
  refine Or.inl ⟨sk, Nat.le_refl _, hsk, ?_, fun y h1 h2 => by omega, rfl⟩
  rw [h, show (2147483647 : Nat) = AL from rfl, AL_bit]
  have : sk % 31 < 31 := by omega
  simp [this]
theorem fiw_0 {w : Nat × Nat} {sk : Nat} (h : w.1 = 0) : fiw w sk (-1) := Or.inr ⟨fun y _ _ => by rw [h]; simp, rfl⟩
theorem fiw_bit {b sk y : Nat} (hy : y < 31) : (b &&& ((2 ^ sk - 1) ^^^ AL)).testBit y = (b.testBit y && !decide (y < sk)) := by
  rw [Nat.testBit_and, Nat.testBit_xor, Nat.testBit_two_pow_sub_one, AL_bit]
  simp [hy]
theorem fiw_no {w : Nat × Nat} {sk : Nat} (h2 : w.2 = 1) (h : w.1 &&& ((2 ^ sk - 1) ^^^ AL) = 0) : fiw w sk (-1) := by
  refine Or.inr ⟨fun y h1 h3 => ?_, rfl⟩
  have h4 : y < 31 := by omega
  have h5 := fiw_bit (b := w.1) (sk := sk) h4
  rw [h] at h5
  have h6 : ¬ y < sk := by omega
  rw [Nat.mod_eq_of_lt h4]
  simpa [h6] using h5.symm
theorem fiw_yes {w : Nat × Nat} {sk t q : Nat} (h2 : w.2 = 1) (ht : t < 31) (h : w.1 &&& ((2 ^ sk - 1) ^^^ AL) = 2 ^ t * (2 * q + 1)) : fiw w sk (nI t) := by
  have h5 := fiw_bit (b := w.1) (sk := sk) ht
  rw [h, tz_at] at h5
  have h6 : w.1.testBit t = true ∧ ¬ t < sk := by
    have := h5.symm
    simpa using this
  refine Or.inl ⟨t, by omega, by omega, by rw [Nat.mod_eq_of_lt ht]; exact h6.1, fun y h7 h8 => ?_, rfl⟩
  have h9 : y < 31 := by omega
  have h10 := fiw_bit (b := w.1) (sk := sk) h9
  rw [h, tz_lo t q y h8] at h10
  have h11 : ¬ y < sk := by omega
  rw [Nat.mod_eq_of_lt h9]
  simpa [h11] using h10.symm
set_option maxHeartbeats 4000000 in
theorem c_S_firstInWord {l : Launch} {D : va_G} {cA : ClassId} {w : Nat × Nat} {sk : Nat} (hw : okw w) (hk : w.2 < 2 ^ 24) (hsk : sk < 31 * w.2) : CtI l D cA y_S_firstInWord b_S_firstInWord 4 (some .int) ({ frames := 1, cells := 0, slots := 0, locals := 21 } : Room) [.int (enc w), .int (nI sk)] [] (fun r (_ : Unit) => fiw w sk r) (fun _ => []) := by
  refine CtI.start (lv0 := [(0, .int (enc w)), (1, .int (nI sk))]) (by decide) rfl (Nat.le_of_ble_eq_true rfl) ?_
  intro p_ e_ s_ m_ args_ below_ meth_ c_ A_ C hr hin
  have hb : w.1 ≤ 2147483647 := hw.2.1
  refine x_iload_n C d_S_firstInWord_0 rfl rfl ?_
  refine x_callSIN (wr := []) (rest := []) C (c_B_bitsOf hw (by omega)) d_S_firstInWord_1 cd_B_bitsOf lk_S_38 dd_B_bitsOf rfl ⟨Nat.le_of_ble_eq_true rfl, Nat.le_of_ble_eq_true rfl⟩ ⟨Nat.le_refl _, Nat.le_refl _⟩ [] [] rfl rfl (by decide) (by decide) (by decide) rfl (Nat.le_of_ble_eq_true rfl) ?_
  intro r_ u_ hp_
  obtain rfl := hp_
  refine x_istore_n (lv' := [(2, .int (nI (w.1))), (0, .int (enc w)), (1, .int (nI sk))]) C d_S_firstInWord_4 rfl (by decide) rfl ?_
  refine x_iload_n C d_S_firstInWord_5 rfl rfl ?_
  refine x_ldc C d_S_firstInWord_6 lk_S_52 ?_
  refine x_top (y := nI 2147483647) (by decide) ?_
  refine x_icmp_neN (tgt := 13) C d_S_firstInWord_8 (by decide) (by omega) (by omega) (fun c8 => ?_) (fun c8 => ?_)
  · by_cases h0 : w.1 = 0
    · refine x_iload_n C d_S_firstInWord_13 rfl rfl ?_
      refine x_iload_n C d_S_firstInWord_14 rfl rfl ?_
      refine x_callSIN (wr := []) (rest := [.int (nI (w.1))]) C (c_B_firstBits_any (n := sk)) d_S_firstInWord_15 cd_B_firstBits lk_S_53 dd_B_firstBits rfl ⟨Nat.le_of_ble_eq_true rfl, Nat.le_of_ble_eq_true rfl⟩ ⟨Nat.le_refl _, Nat.le_refl _⟩ [] [] rfl rfl (by decide) (by decide) (by decide) rfl (Nat.le_of_ble_eq_true rfl) ?_
      intro r_ u_ hp_
      refine x_iconst (v := ((-1))) C d_S_firstInWord_18 (by decide) ?_
      refine x_ixor C d_S_firstInWord_19 ?_
      refine x_iand C d_S_firstInWord_20 ?_
      refine x_top (y := (nI (0))) (by rw [h0, and_zero_l]) ?_
      refine x_istore_n (lv' := [(3, .int (nI 0)), (2, .int (nI (w.1))), (0, .int (enc w)), (1, .int (nI sk))]) C d_S_firstInWord_21 rfl (by decide) rfl ?_
      refine x_iload_n C d_S_firstInWord_22 rfl rfl ?_
      refine x_if_neN (tgt := 30) C d_S_firstInWord_23 (by decide) (by omega) (fun c23 => ?_) (fun c23 => ?_)
      · exact absurd c23 (by omega)
      · refine x_iconst (v := ((-1))) C d_S_firstInWord_26 (by decide) ?_
        refine x_goto (tgt := 34) C d_S_firstInWord_27 (by decide) ?_
        exact x_iret C hr d_S_firstInWord_34 () rfl (fiw_0 h0)
    · have h1 : w.2 = 1 := by
        rcases hw.2.2 with q | q | q
        · exact absurd q h0
        · exact absurd q c8
        · exact q
      have hlt : w.1 &&& ((2 ^ sk - 1) ^^^ AL) ≤ w.1 := Nat.and_le_left
      refine x_iload_n C d_S_firstInWord_13 rfl rfl ?_
      refine x_iload_n C d_S_firstInWord_14 rfl rfl ?_
      refine x_callSIN (wr := []) (rest := [.int (nI (w.1))]) C (c_B_firstBits (n := sk) (by omega)) d_S_firstInWord_15 cd_B_firstBits lk_S_53 dd_B_firstBits rfl ⟨Nat.le_of_ble_eq_true rfl, Nat.le_of_ble_eq_true rfl⟩ ⟨Nat.le_refl _, Nat.le_refl _⟩ [] [] rfl rfl (by decide) (by decide) (by decide) rfl (Nat.le_of_ble_eq_true rfl) ?_
      intro r_ u_ hp_
      obtain rfl := hp_
      refine x_iconst (v := ((-1))) C d_S_firstInWord_18 (by decide) ?_
      refine x_ixor C d_S_firstInWord_19 ?_
      refine x_iand C d_S_firstInWord_20 ?_
      refine x_top (y := (nI (w.1 &&& ((2 ^ sk - 1) ^^^ AL)))) (jb_not hw.2.1) ?_
      refine x_istore_n (lv' := [(3, .int (nI (w.1 &&& ((2 ^ sk - 1) ^^^ AL)))), (2, .int (nI (w.1))), (0, .int (enc w)), (1, .int (nI sk))]) C d_S_firstInWord_21 rfl (by decide) rfl ?_
      refine x_iload_n C d_S_firstInWord_22 rfl rfl ?_
      refine x_if_neN (tgt := 30) C d_S_firstInWord_23 (by decide) (by omega) (fun c23 => ?_) (fun c23 => ?_)
      · obtain ⟨t, q, hx⟩ := odd_shift _ c23
        refine x_iload_n C d_S_firstInWord_30 rfl rfl ?_
        refine x_callSI (wr := []) (rest := []) C (c_I_ntz hx (by omega)) d_S_firstInWord_31 cd_I_numberOfTrailingZeros lk_S_56 dd_I_numberOfTrailingZeros rfl ⟨Nat.le_of_ble_eq_true rfl, Nat.le_of_ble_eq_true rfl⟩ ⟨Nat.le_refl _, Nat.le_refl _⟩ [] [] rfl rfl (by decide) (by decide) (by decide) rfl (Nat.le_of_ble_eq_true rfl) ?_
        intro r_ u_ hp_
        obtain rfl := hp_
        exact x_iret C hr d_S_firstInWord_34 () rfl (fiw_yes h1 (tz_small (q := q) (by omega)) hx)
      · refine x_iconst (v := ((-1))) C d_S_firstInWord_26 (by decide) ?_
        refine x_goto (tgt := 34) C d_S_firstInWord_27 (by decide) ?_
        exact x_iret C hr d_S_firstInWord_34 () rfl (fiw_no h1 c23)
  · refine x_iload_n C d_S_firstInWord_11 rfl rfl ?_
    exact x_iret C hr d_S_firstInWord_12 () rfl (fiw_A c8 hsk)
def fst (f : Nat → Bool) (row : Nat) (r : Int32) : Prop := (∃ x, row ≤ x ∧ f x = true ∧ (∀ y, row ≤ y → y < x → f y = false) ∧ r = nI x) ∨ ((∀ y, row ≤ y → f y = false) ∧ r = -1)
theorem ff_word {n : Nat} {f : Nat → Bool} {fs : List (Nat × Nat)} (hR : Rep n f fs) {i : Nat} {w : Nat × Nat} (hw : fs[i]? = some w) {x : Nat} (hx : x < 31 * w.2) : f (31 * (ex (fs.take i)).length + x) = w.1.testBit (x % 31) := by
  have hi : i < fs.length := (List.getElem?_eq_some_iff.mp hw).1
  have e1 : fs = fs.take i ++ (w :: fs.drop (i + 1)) := by
    conv => lhs; rw [← List.take_append_drop i fs]
    rw [List.drop_eq_getElem_cons hi]
    congr 2
    have := (List.getElem?_eq_some_iff.mp hw).2
    exact this
  have e2 : (ex fs)[(ex (fs.take i)).length + x / 31]? = some w.1 := by
    have e0 : ex fs = ex (fs.take i) ++ (List.replicate w.2 w.1 ++ ex (fs.drop (i + 1))) := by
      conv => lhs; rw [e1, ex_app, ex_cons]
    rw [e0, List.getElem?_append_right (by omega), Nat.add_sub_cancel_left, List.getElem?_append_left (by rw [List.length_replicate]; omega), List.getElem?_replicate, if_pos (by omega)]
  rw [hR.2, GL_PG, PG, List.getElem?_map] at e2
  cases hr : (List.range ((n + 30) / 31))[(ex (fs.take i)).length + x / 31]? with
  | none => rw [hr] at e2; cases e2
  | some v =>
    rw [hr] at e2
    have hv := List.getElem?_eq_some_iff.mp hr
    obtain ⟨hv1, hv2⟩ := hv
    rw [List.getElem_range] at hv2
    subst hv2
    have e3 : gb f ((ex (fs.take i)).length + x / 31) = w.1 := Option.some.inj e2
    have h31 : x % 31 < 31 := by omega
    rw [← e3, gb_bit, show 31 * ((ex (fs.take i)).length + x / 31) + x % 31 = 31 * (ex (fs.take i)).length + x by omega]
    simp [h31]
theorem ex_take_le {fs : List (Nat × Nat)} (i : Nat) : (ex (fs.take i)).length ≤ (ex fs).length := by
  conv => rhs; rw [← List.take_append_drop i fs, ex_app, List.length_append]
  omega
theorem ex_take_succ {fs : List (Nat × Nat)} {i : Nat} {w : Nat × Nat} (hw : fs[i]? = some w) : (ex (fs.take (i + 1))).length = (ex (fs.take i)).length + w.2 := by
  rw [take_snoc hw, ex_app, List.length_append, ex_one, List.length_replicate]
theorem ff_go {n row : Nat} {f : Nat → Bool} {fs : List (Nat × Nat)} (hR : Rep n f fs) {i : Nat} {w : Nat × Nat} (hw : fs[i]? = some w) (h : ∀ y, row ≤ y → y < 31 * (ex (fs.take i)).length → f y = false) (hn : ∀ y, row - 31 * (ex (fs.take i)).length ≤ y → y < 31 * w.2 → w.1.testBit (y % 31) = false) : ∀ y, row ≤ y → y < 31 * (ex (fs.take (i + 1))).length → f y = false := by
  intro y h1 h2
  rw [ex_take_succ hw] at h2
  by_cases h3 : y < 31 * (ex (fs.take i)).length
  · exact h y h1 h3
  · obtain ⟨x, rfl⟩ : ∃ x, y = 31 * (ex (fs.take i)).length + x := ⟨y - 31 * (ex (fs.take i)).length, by omega⟩
    rw [ff_word hR hw (by omega)]
    exact hn x (by omega) (by omega)
theorem ff_found {n row : Nat} {f : Nat → Bool} {fs : List (Nat × Nat)} (hR : Rep n f fs) {i : Nat} {w : Nat × Nat} (hw : fs[i]? = some w) (h : ∀ y, row ≤ y → y < 31 * (ex (fs.take i)).length → f y = false) {x : Nat} (h1 : row - 31 * (ex (fs.take i)).length ≤ x) (h2 : x < 31 * w.2) (h3 : w.1.testBit (x % 31) = true) (h4 : ∀ y, row - 31 * (ex (fs.take i)).length ≤ y → y < x → w.1.testBit (y % 31) = false) : fst f row (nI (31 * (ex (fs.take i)).length + x)) := by
  refine Or.inl ⟨_, by omega, by rw [ff_word hR hw h2]; exact h3, fun y h5 h6 => ?_, rfl⟩
  by_cases h7 : y < 31 * (ex (fs.take i)).length
  · exact h y h5 h7
  · obtain ⟨z, rfl⟩ : ∃ z, y = 31 * (ex (fs.take i)).length + z := ⟨y - 31 * (ex (fs.take i)).length, by omega⟩
    rw [ff_word hR hw (by omega)]
    exact h4 z (by omega) (by omega)
set_option maxHeartbeats 4000000 in
theorem c_S_firstFrom {l : Launch} {D : va_G} {cA : ClassId} {h h1 h2 cap mx : Nat} {L Bd : Nat → Int32} {k : Nat} {pre : List (List Int32)} {fs : List (Nat × Nat)} {f : Nat → Bool} {n row : Nat} (hH : Hs cap mx L Bd (pre ++ [fs.map enc])) (hk : pre.length + 1 = k) (hR : Rep n f fs) (hs : sup n f) (hrow : row ≤ n) (hn : n ≤ 1000000)  : CtI l D cA y_S_firstFrom b_S_firstFrom 8 (some .int) ({ frames := 2, cells := 0, slots := 0, locals := 44 } : Room) [.ref h, .int (nI (pre.length)), .int (nI row)] (shW cA h h1 h2 cap mx L Bd k) (fun r (_ : Unit) => fst f row r) (fun _ => (shW cA h h1 h2 cap mx L Bd k)) := by
  subst hk
  refine CtI.start (lv0 := [(0, .ref h), (1, .int (nI (pre.length))), (2, .int (nI row))]) (by decide) rfl (Nat.le_of_ble_eq_true rfl) ?_
  intro p_ e_ s_ m_ args_ below_ meth_ c_ A_ C hr hin
  have hm := hH.in
  rw [List.length_map] at hm
  have hx : (ex fs).length = (n + 30) / 31 := by rw [hR.2, GL_len]
  have LP : ∀ (d i : Nat), i + d = fs.length → (∀ y, row ≤ y → y < 31 * (ex (fs.take i)).length → f y = false) → X p_ l e_ ({ frames := 2, cells := 0, slots := 0, locals := 44 } : Room) s_ m_ args_ below_ meth_ c_ D A_ 8 0 0 (MQ below_ (va_Qi (fun r (_ : Unit) => fst f row r) (Bw D A_ (fun _ => (shW cA h h1 h2 cap mx L Bd (pre.length + 1)))) A_) args_ s_ 0 0 A_) [(h, .inr (0, [.ref h1, .ref h2, .int (nI (pre.length + 1))])), (h1, .inl (cA, cap, .inl (L))), (h2, .inl (cA, mx, .inl (Bd)))] 18 [(5, .int (nI (tot pre + i))), (4, .int (nI (31 * (ex (fs.take i)).length))), (3, .int (nI (tot pre + fs.length))), (0, .ref h), (1, .int (nI (pre.length))), (2, .int (nI row))] [] := by
    intro d
    induction d with
    | zero =>
      intro i hi hno
      refine x_iload C d_S_firstFrom_18 rfl ?_
      refine x_iload_n C d_S_firstFrom_20 rfl rfl ?_
      refine x_icmp_geN (tgt := 93) C d_S_firstFrom_21 (by decide) (by omega) (by omega) (fun c21 => ?_) (fun c21 => ?_)
      · refine x_iconst (v := ((-1))) C d_S_firstFrom_93 (by decide) ?_
        exact x_iret C hr d_S_firstFrom_94 () rfl (by
          rw [List.take_of_length_le (by omega), hx] at hno
          refine Or.inr ⟨fun y h9 => ?_, rfl⟩
          by_cases h10 : y < n
          · exact hno y h9 (by omega)
          · exact hs y (by omega))
      · exact absurd c21 (by omega)
    | succ d ih =>
      intro i hi hno
      obtain ⟨w, hw⟩ : ∃ w, fs[i]? = some w := ⟨fs[i], List.getElem?_eq_getElem (by omega)⟩
      have ow := canon_mem hR.1 w (List.mem_of_getElem? hw)
      have ow2 : w.2 ≤ (ex fs).length := ex_mem_le (List.mem_of_getElem? hw)
      have ow1 : 1 ≤ w.2 := ow.1
      have hle := ex_take_le (fs := fs) i
      have hsu := ex_take_succ hw
      have hle2 := ex_take_le (fs := fs) (i + 1)
      refine x_iload C d_S_firstFrom_18 rfl ?_
      refine x_iload_n C d_S_firstFrom_20 rfl rfl ?_
      refine x_icmp_geN (tgt := 93) C d_S_firstFrom_21 (by decide) (by omega) (by omega) (fun c21 => ?_) (fun c21 => ?_)
      · exact absurd c21 (by omega)
      · refine x_iload C d_S_firstFrom_24 rfl ?_
        refine x_aload_n C d_S_firstFrom_26 rfl rfl ?_
        refine x_get C d_S_firstFrom_27 0 rfl rfl i_S 0 (by decide) lk_S_15 rfl rfl ?_
        refine x_iload C d_S_firstFrom_30 rfl ?_
        refine x_iald C d_S_firstFrom_32 1 rfl (by omega) (by omega) ?_
        refine x_top (y := (enc w)) (nt_word hH hw) ?_
        refine x_callSIN (wr := [(h, .inr (0, [.ref h1, .ref h2, .int (nI (pre.length + 1))])), (h1, .inl (cA, cap, .inl (L))), (h2, .inl (cA, mx, .inl (Bd)))]) (rest := [.int (nI (31 * (ex (fs.take i)).length))]) C (c_B_groupsOf ow (by omega)) d_S_firstFrom_33 cd_B_groupsOf lk_S_46 dd_B_groupsOf rfl ⟨Nat.le_of_ble_eq_true rfl, Nat.le_of_ble_eq_true rfl⟩ ⟨Nat.le_refl _, Nat.le_refl _⟩ [] [0, 1, 2] rfl rfl (by decide) (by decide) (by decide) rfl (Nat.le_of_ble_eq_true rfl) ?_
        intro r_ u_ hp_
        obtain rfl := hp_
        refine x_bipush (v := (nI (31))) C d_S_firstFrom_36 (by decide) ?_
        refine x_imulN C d_S_firstFrom_38  ?_
        refine x_iaddN C d_S_firstFrom_39  ?_
        refine x_top (y := (nI (31 * (ex (fs.take (i + 1))).length))) (by rw [hsu]; congr 1; omega) ?_
        refine x_istore (lv' := [(6, .int (nI (31 * (ex (fs.take (i + 1))).length))), (5, .int (nI (tot pre + i))), (4, .int (nI (31 * (ex (fs.take i)).length))), (3, .int (nI (tot pre + fs.length))), (0, .ref h), (1, .int (nI (pre.length))), (2, .int (nI row))]) C d_S_firstFrom_40 (by decide) rfl ?_
        refine x_iload_n C d_S_firstFrom_42 rfl rfl ?_
        refine x_iload C d_S_firstFrom_43 rfl ?_
        refine x_icmp_geN (tgt := 69) C d_S_firstFrom_45 (by decide) (by omega) (by omega) (fun c45 => ?_) (fun c45 => ?_)
        · refine x_iconst (v := ((-1))) C d_S_firstFrom_69 (by decide) ?_
          refine x_istore (lv' := [(7, .int ((-1))), (6, .int (nI (31 * (ex (fs.take (i + 1))).length))), (5, .int (nI (tot pre + i))), (4, .int (nI (31 * (ex (fs.take i)).length))), (3, .int (nI (tot pre + fs.length))), (0, .ref h), (1, .int (nI (pre.length))), (2, .int (nI row))]) C d_S_firstFrom_70 (by decide) rfl ?_
          refine x_iload C d_S_firstFrom_72 rfl ?_
          refine x_if_lt (tgt := 83) C d_S_firstFrom_74 (by decide)  (fun c74 => ?_) (fun c74 => ?_)
          · refine x_iload C d_S_firstFrom_83 rfl ?_
            refine x_istore (lv' := [(4, .int (nI (31 * (ex (fs.take (i + 1))).length))), (7, .int ((-1))), (6, .int (nI (31 * (ex (fs.take (i + 1))).length))), (5, .int (nI (tot pre + i))), (3, .int (nI (tot pre + fs.length))), (0, .ref h), (1, .int (nI (pre.length))), (2, .int (nI row))]) C d_S_firstFrom_85 (by decide) rfl ?_
            refine x_iincN (lv' := [(5, .int (nI (tot pre + i + 1))), (4, .int (nI (31 * (ex (fs.take (i + 1))).length))), (7, .int ((-1))), (6, .int (nI (31 * (ex (fs.take (i + 1))).length))), (3, .int (nI (tot pre + fs.length))), (0, .ref h), (1, .int (nI (pre.length))), (2, .int (nI row))]) C d_S_firstFrom_87 rfl (by decide) rfl ?_
            refine x_goto (tgt := 18) C d_S_firstFrom_90 (by decide) ?_
            refine x_lv (lv' := [(5, .int (nI (tot pre + i + 1))), (4, .int (nI (31 * (ex (fs.take (i + 1))).length))), (3, .int (nI (tot pre + fs.length))), (0, .ref h), (1, .int (nI (pre.length))), (2, .int (nI row))]) (Or.inr (List.forall_mem_cons.mpr ⟨rfl, List.forall_mem_cons.mpr ⟨rfl, List.forall_mem_cons.mpr ⟨rfl, List.forall_mem_cons.mpr ⟨rfl, List.forall_mem_cons.mpr ⟨rfl, List.forall_mem_cons.mpr ⟨rfl, fun _ h9 => absurd h9 List.not_mem_nil⟩⟩⟩⟩⟩⟩)) ?_
            exact ih (i + 1) (by omega) (ff_go hR hw hno (fun y h1 h2 => by omega))
          · exact absurd c74 (by decide)
        · refine x_aload_n C d_S_firstFrom_48 rfl rfl ?_
          refine x_get C d_S_firstFrom_49 0 rfl rfl i_S 0 (by decide) lk_S_15 rfl rfl ?_
          refine x_iload C d_S_firstFrom_52 rfl ?_
          refine x_iald C d_S_firstFrom_54 1 rfl (by omega) (by omega) ?_
          refine x_top (y := (enc w)) (nt_word hH hw) ?_
          refine x_iload_n C d_S_firstFrom_55 rfl rfl ?_
          refine x_iload C d_S_firstFrom_56 rfl ?_
          refine x_isub C d_S_firstFrom_58  ?_
          refine x_iconst (v := (nI (0))) C d_S_firstFrom_59 (by decide) ?_
          refine x_mmax C d_S_firstFrom_60 lk_S_28 ma_max_st ini_Ma ma_max_cd ⟨Nat.le_of_ble_eq_true rfl, Nat.le_of_ble_eq_true rfl, Nat.zero_le _, Nat.zero_le _⟩  ?_
          refine x_top (y := (nI (row - 31 * (ex (fs.take i)).length))) (mx_sub (by omega) (by omega)) ?_
          refine x_callSI (wr := [(h, .inr (0, [.ref h1, .ref h2, .int (nI (pre.length + 1))])), (h1, .inl (cA, cap, .inl (L))), (h2, .inl (cA, mx, .inl (Bd)))]) (rest := []) C (c_S_firstInWord ow (by omega) (by omega)) d_S_firstFrom_63 cd_S_firstInWord lk_S_49 dd_S_firstInWord rfl ⟨Nat.le_of_ble_eq_true rfl, Nat.le_of_ble_eq_true rfl⟩ ⟨Nat.le_refl _, Nat.le_refl _⟩ [] [0, 1, 2] rfl rfl (by decide) (by decide) (by decide) rfl (Nat.le_of_ble_eq_true rfl) ?_
          intro r_ u_ hp_
          rcases hp_ with ⟨x, hf1, hf2, hf3, hf4, rfl⟩ | ⟨hf1, rfl⟩
          · refine x_goto (tgt := 70) C d_S_firstFrom_66 (by decide) ?_
            refine x_istore (lv' := [(7, .int (nI x)), (6, .int (nI (31 * (ex (fs.take (i + 1))).length))), (5, .int (nI (tot pre + i))), (4, .int (nI (31 * (ex (fs.take i)).length))), (3, .int (nI (tot pre + fs.length))), (0, .ref h), (1, .int (nI (pre.length))), (2, .int (nI row))]) C d_S_firstFrom_70 (by decide) rfl ?_
            refine x_iload C d_S_firstFrom_72 rfl ?_
            refine x_if_ltN (tgt := 83) C d_S_firstFrom_74 (by decide) (by omega) ?_
            refine x_iload C d_S_firstFrom_77 rfl ?_
            refine x_iload C d_S_firstFrom_79 rfl ?_
            refine x_iaddN C d_S_firstFrom_81  ?_
            exact x_iret C hr d_S_firstFrom_82 () rfl (ff_found hR hw hno hf1 hf2 hf3 hf4)
          · refine x_goto (tgt := 70) C d_S_firstFrom_66 (by decide) ?_
            refine x_istore (lv' := [(7, .int ((-1))), (6, .int (nI (31 * (ex (fs.take (i + 1))).length))), (5, .int (nI (tot pre + i))), (4, .int (nI (31 * (ex (fs.take i)).length))), (3, .int (nI (tot pre + fs.length))), (0, .ref h), (1, .int (nI (pre.length))), (2, .int (nI row))]) C d_S_firstFrom_70 (by decide) rfl ?_
            refine x_iload C d_S_firstFrom_72 rfl ?_
            refine x_if_lt (tgt := 83) C d_S_firstFrom_74 (by decide)  (fun c74 => ?_) (fun c74 => ?_)
            · refine x_iload C d_S_firstFrom_83 rfl ?_
              refine x_istore (lv' := [(4, .int (nI (31 * (ex (fs.take (i + 1))).length))), (7, .int ((-1))), (6, .int (nI (31 * (ex (fs.take (i + 1))).length))), (5, .int (nI (tot pre + i))), (3, .int (nI (tot pre + fs.length))), (0, .ref h), (1, .int (nI (pre.length))), (2, .int (nI row))]) C d_S_firstFrom_85 (by decide) rfl ?_
              refine x_iincN (lv' := [(5, .int (nI (tot pre + i + 1))), (4, .int (nI (31 * (ex (fs.take (i + 1))).length))), (7, .int ((-1))), (6, .int (nI (31 * (ex (fs.take (i + 1))).length))), (3, .int (nI (tot pre + fs.length))), (0, .ref h), (1, .int (nI (pre.length))), (2, .int (nI row))]) C d_S_firstFrom_87 rfl (by decide) rfl ?_
              refine x_goto (tgt := 18) C d_S_firstFrom_90 (by decide) ?_
              refine x_lv (lv' := [(5, .int (nI (tot pre + i + 1))), (4, .int (nI (31 * (ex (fs.take (i + 1))).length))), (3, .int (nI (tot pre + fs.length))), (0, .ref h), (1, .int (nI (pre.length))), (2, .int (nI row))]) (Or.inr (List.forall_mem_cons.mpr ⟨rfl, List.forall_mem_cons.mpr ⟨rfl, List.forall_mem_cons.mpr ⟨rfl, List.forall_mem_cons.mpr ⟨rfl, List.forall_mem_cons.mpr ⟨rfl, List.forall_mem_cons.mpr ⟨rfl, fun _ h9 => absurd h9 List.not_mem_nil⟩⟩⟩⟩⟩⟩)) ?_
              exact ih (i + 1) (by omega) (ff_go hR hw hno hf1)
            · exact absurd c74 (by decide)
  refine x_aload_n C d_S_firstFrom_0 rfl rfl ?_
  refine x_iload_n C d_S_firstFrom_1 rfl rfl ?_
  refine x_iconst (v := (nI (1))) C d_S_firstFrom_2 (by decide) ?_
  refine x_iaddN C d_S_firstFrom_3  ?_
  refine x_callVI (wr := []) (rest := []) C (c_S_startOf (i := pre.length + 1) hH (by simp) (by simp)) d_S_firstFrom_4 cd_S_startOf lk_S_31 dd_S_startOf rfl ⟨Nat.le_of_ble_eq_true rfl, Nat.le_of_ble_eq_true rfl⟩ ⟨Nat.le_refl _, Nat.le_refl _⟩ 0 0 rfl rfl [0, 1, 2] [] rfl rfl (by decide) (by decide) (by decide) rfl (Nat.le_of_ble_eq_true rfl) ?_
  intro r_ u_ hp_
  obtain rfl := hp_
  refine x_top (y := (nI (tot pre + fs.length))) (by rw [off_snoc, List.length_map]) ?_
  refine x_istore_n (lv' := [(3, .int (nI (tot pre + fs.length))), (0, .ref h), (1, .int (nI (pre.length))), (2, .int (nI row))]) C d_S_firstFrom_7 rfl (by decide) rfl ?_
  refine x_iconst (v := (nI (0))) C d_S_firstFrom_8 (by decide) ?_
  refine x_istore (lv' := [(4, .int (nI 0)), (3, .int (nI (tot pre + fs.length))), (0, .ref h), (1, .int (nI (pre.length))), (2, .int (nI row))]) C d_S_firstFrom_9 (by decide) rfl ?_
  refine x_aload_n C d_S_firstFrom_11 rfl rfl ?_
  refine x_iload_n C d_S_firstFrom_12 rfl rfl ?_
  refine x_callVI (wr := []) (rest := []) C (c_S_startOf (i := pre.length) hH (by simp) (by simp)) d_S_firstFrom_13 cd_S_startOf lk_S_31 dd_S_startOf rfl ⟨Nat.le_of_ble_eq_true rfl, Nat.le_of_ble_eq_true rfl⟩ ⟨Nat.le_refl _, Nat.le_refl _⟩ 0 0 rfl rfl [0, 1, 2] [] rfl rfl (by decide) (by decide) (by decide) rfl (Nat.le_of_ble_eq_true rfl) ?_
  intro r_ u_ hp_
  obtain rfl := hp_
  refine x_top (y := (nI (tot pre))) (by rw [off_app (Nat.le_refl _), off_len]) ?_
  refine x_istore (lv' := [(5, .int (nI (tot pre))), (4, .int (nI 0)), (3, .int (nI (tot pre + fs.length))), (0, .ref h), (1, .int (nI (pre.length))), (2, .int (nI row))]) C d_S_firstFrom_16 (by decide) rfl ?_
  refine x_lv (lv' := [(5, .int (nI (tot pre))), (4, .int (nI 0)), (3, .int (nI (tot pre + fs.length))), (0, .ref h), (1, .int (nI (pre.length))), (2, .int (nI row))]) (Or.inr (List.forall_mem_cons.mpr ⟨rfl, List.forall_mem_cons.mpr ⟨rfl, List.forall_mem_cons.mpr ⟨rfl, List.forall_mem_cons.mpr ⟨rfl, List.forall_mem_cons.mpr ⟨rfl, List.forall_mem_cons.mpr ⟨rfl, fun _ h9 => absurd h9 List.not_mem_nil⟩⟩⟩⟩⟩⟩)) ?_
  exact LP fs.length 0 (by omega) (fun y _ h9 => absurd h9 (Nat.not_lt_zero y))
end
section
/-! the words of a set, as a function of the set -/
def mkw (G : List Nat) : List (Nat × Nat) := G.foldl (fun ws b => push ws b 1) []
theorem mkw_snoc (G : List Nat) (b : Nat) : mkw (G ++ [b]) = push (mkw G) b 1 := by simp [mkw]
theorem mkw_ok : ∀ (k : Nat) (G : List Nat), G.length = k → (∀ b ∈ G, b ≤ AL) → canon (mkw G) ∧ ex (mkw G) = G
  | 0, G, h, _ => by
    rw [List.eq_nil_of_length_eq_zero h]
    exact ⟨trivial, rfl⟩
  | k + 1, G, h, hb => by
    rcases List.eq_nil_or_concat G with rfl | ⟨G0, b, rfl⟩
    · cases h
    · rw [List.concat_eq_append] at *
      rw [List.length_append, List.length_singleton] at h
      have h1 := mkw_ok k G0 (by omega) (fun x hx => hb x (List.mem_append_left _ hx))
      have h2 := push_ok (ws := mkw G0) (b := b) (k := 1) h1.1 (okw_one (hb b (by simp)))
      rw [mkw_snoc]
      exact ⟨h2.1, by rw [h2.2.1, h1.2]; rfl⟩
def Wd (n : Nat) (f : Nat → Bool) : List (Nat × Nat) := mkw (GL f n)
theorem Wd_rep (n : Nat) (f : Nat → Bool) : Rep n f (Wd n f) := mkw_ok _ (GL f n) rfl (fun b hb => by
  obtain ⟨g, -, rfl⟩ := List.mem_map.mp hb
  exact gb_le f g)
theorem Rep.eq {n : Nat} {f : Nat → Bool} {ws : List (Nat × Nat)} (h : Rep n f ws) : ws = Wd n f := h.inj (Wd_rep n f)
theorem Wd_ok {n : Nat} {f : Nat → Bool} (hn : n ≤ 1000000) : ∀ w ∈ Wd n f, okw w ∧ w.2 < 2 ^ 24 := fun w hw => ⟨canon_mem (Wd_rep n f).1 w hw, by
  have h1 := ex_mem_le hw
  have h2 := (Wd_rep n f).small hn
  omega⟩
/-- the words of a set as ints; the first k sets of values -/
def wI (n : Nat) (f : Nat → Bool) : List Int32 := (Wd n f).map enc
def cS (n : Nat) (F : Nat → Nat → Bool) (k : Nat) : List (List Int32) := (List.range k).map (fun v => wI n (F v))
theorem cS_succ (n : Nat) (F : Nat → Nat → Bool) (k : Nat) : cS n F (k + 1) = cS n F k ++ [wI n (F k)] := by simp [cS, List.range_succ]
theorem cS_len (n : Nat) (F : Nat → Nat → Bool) (k : Nat) : (cS n F k).length = k := by simp [cS]
theorem cS_get (n : Nat) (F : Nat → Nat → Bool) {k i : Nat} (h : i < k) : (cS n F k).getD i [] = wI n (F i) := by
  simp [cS, h]
theorem cS_tot_le (n : Nat) (F : Nat → Nat → Bool) {j : Nat} : ∀ {k : Nat}, j ≤ k → tot (cS n F j) ≤ tot (cS n F k)
  | 0, h => by rw [show j = 0 by omega]; exact Nat.le_refl _
  | k + 1, h => by
    by_cases hj : j = k + 1
    · rw [hj]; exact Nat.le_refl _
    · have := cS_tot_le n F (j := j) (k := k) (by omega)
      rw [cS_succ, tot_app, tot_one]
      omega
theorem wI_len (n : Nat) (f : Nat → Bool) : (wI n f).length = (Wd n f).length := by simp [wI]
/-- the stack's sets -/
def kS (n : Nat) (fs : List (Nat → Bool)) : List (List Int32) := fs.map (wI n)
theorem kS_snoc (n : Nat) (fs : List (Nat → Bool)) (f : Nat → Bool) : kS n (fs ++ [f]) = kS n fs ++ [wI n f] := by simp [kS]
theorem kS_len (n : Nat) (fs : List (Nat → Bool)) : (kS n fs).length = fs.length := by simp [kS]
end
section
abbrev bo (h c0 d0 s0 r0 n : Nat) : Nat × va_E := (h, .inr (1, [.ref c0, .ref d0, .ref s0, .ref r0, .int (nI n)]))
set_option maxHeartbeats 4000000 in
theorem c_B_stackUp {l : Launch} {D : va_G} {cA : ClassId} {h c0 d0 s0 r0 n : Nat} {c01 c02 : Nat} {Lc Bc : Nat → Int32} {s01 s02 : Nat} {Ls Bs : Nat → Int32} {k kc : Nat} {ss cs : List (List Int32)} (hC : Hs 2096 33 Lc Bc cs) (hkc : cs.length = kc) (hS : Hs 3000 13 Ls Bs ss) (hk : ss.length = k) {i : Nat} (hi : i < cs.length) (h12 : k < 12) (hfit : tot ss + (cs.getD i []).length ≤ 3000)  : CtI l D cA y_B_stackUp b_B_stackUp 3 (some .int) ({ frames := 4, cells := 0, slots := 0, locals := 86 } : Room) [.ref h, .ref c0, .int (nI i)] (bo h c0 d0 s0 r0 (n) :: (shW cA s0 s01 s02 3000 13 Ls Bs (k) ++ shW cA c0 c01 c02 2096 33 Lc Bc (kc))) (fun r (u : (Nat → Int32) × (Nat → Int32)) => r = nI (k + 1) ∧ Hs 3000 13 u.1 u.2 (ss ++ [cs.getD i []])) (fun u => (bo h c0 d0 s0 r0 (n) :: (shW cA s0 s01 s02 3000 13 u.1 u.2 (k + 1) ++ shW cA c0 c01 c02 2096 33 Lc Bc (kc)))) := by
  subst hk
  subst hkc
  refine CtI.start (lv0 := [(0, .ref h), (1, .ref c0), (2, .int (nI i))]) (by decide) rfl (Nat.le_of_ble_eq_true rfl) ?_
  intro p_ e_ s_ m_ args_ below_ meth_ c_ A_ C hr hin
  have hn1 := hS.nums
  refine x_aload_n C d_B_stackUp_0 rfl rfl ?_
  refine x_get C d_B_stackUp_1 0 rfl rfl i_B 2 (by decide) lk_B_21 rfl rfl ?_
  refine x_getN C d_B_stackUp_4 1 rfl rfl i_S 2 (by decide) lk_B_39 rfl rfl ?_
  refine x_bipush (v := (nI (12))) C d_B_stackUp_7 (by decide) ?_
  refine x_icmp_geN (tgt := 31) C d_B_stackUp_9 (by decide) (by omega) (by omega) (fun c9 => ?_) (fun c9 => ?_)
  · exact absurd c9 (by omega)
  · refine x_aload_n C d_B_stackUp_12 rfl rfl ?_
    refine x_get C d_B_stackUp_13 0 rfl rfl i_B 2 (by decide) lk_B_21 rfl rfl ?_
    refine x_callVI (wr := [(h, .inr (1, [.ref c0, .ref d0, .ref s0, .ref r0, .int (nI n)])), (c0, .inr (0, [.ref c01, .ref c02, .int (nI (cs.length))])), (c01, .inl (cA, 2096, .inl (Lc))), (c02, .inl (cA, 33, .inl (Bc)))]) (rest := []) C (c_S_used hS rfl) d_B_stackUp_16 cd_S_used lk_B_49 dd_S_used rfl ⟨Nat.le_of_ble_eq_true rfl, Nat.le_of_ble_eq_true rfl⟩ ⟨Nat.le_refl _, Nat.le_refl _⟩ 0 0 rfl rfl [1, 2, 3] [0, 4, 5, 6] rfl rfl (by decide) (by decide) (by decide) rfl (Nat.le_of_ble_eq_true rfl) ?_
    intro r_ u_ hp_
    obtain rfl := hp_
    refine x_aload_n C d_B_stackUp_19 rfl rfl ?_
    refine x_iload_n C d_B_stackUp_20 rfl rfl ?_
    refine x_callVI (wr := [(h, .inr (1, [.ref c0, .ref d0, .ref s0, .ref r0, .int (nI n)])), (s0, .inr (0, [.ref s01, .ref s02, .int (nI (ss.length))])), (s01, .inl (cA, 3000, .inl (Ls))), (s02, .inl (cA, 13, .inl (Bs)))]) (rest := [.int (nI (tot ss))]) C (c_S_size (i := i) hC rfl hi) d_B_stackUp_21 cd_S_size lk_B_81 dd_S_size rfl ⟨Nat.le_of_ble_eq_true rfl, Nat.le_of_ble_eq_true rfl⟩ ⟨Nat.le_refl _, Nat.le_refl _⟩ 0 0 rfl rfl [1, 2, 3] [0, 4, 5, 6] rfl rfl (by decide) (by decide) (by decide) rfl (Nat.le_of_ble_eq_true rfl) ?_
    intro r_ u_ hp_
    obtain rfl := hp_
    refine x_iaddN C d_B_stackUp_24  ?_
    refine x_sipush (v := (nI (3000))) C d_B_stackUp_25 (by decide) ?_
    refine x_icmp_leN (tgt := 34) C d_B_stackUp_28 (by decide) (by omega) (by omega) (fun c28 => ?_) (fun c28 => ?_)
    · refine x_aload_n C d_B_stackUp_34 rfl rfl ?_
      refine x_get C d_B_stackUp_35 0 rfl rfl i_B 2 (by decide) lk_B_21 rfl rfl ?_
      refine x_callVV (wr := [(h, .inr (1, [.ref c0, .ref d0, .ref s0, .ref r0, .int (nI n)])), (c0, .inr (0, [.ref c01, .ref c02, .int (nI (cs.length))])), (c01, .inl (cA, 2096, .inl (Lc))), (c02, .inl (cA, 33, .inl (Bc)))]) (rest := []) C (c_S_open hS rfl (by omega)) d_B_stackUp_38 cd_S_open lk_B_31 dd_S_open rfl ⟨Nat.le_of_ble_eq_true rfl, Nat.le_of_ble_eq_true rfl⟩ ⟨Nat.le_refl _, Nat.le_refl _⟩ 0 0 rfl rfl [1, 2, 3] [0, 4, 5, 6] rfl rfl (by decide) (by decide) (by decide) rfl (Nat.le_of_ble_eq_true rfl) ?_
      intro u38 hp38
      refine x_aload_n C d_B_stackUp_41 rfl rfl ?_
      refine x_get C d_B_stackUp_42 0 rfl rfl i_B 2 (by decide) lk_B_21 rfl rfl ?_
      refine x_aload_n C d_B_stackUp_45 rfl rfl ?_
      refine x_iload_n C d_B_stackUp_46 rfl rfl ?_
      refine x_callVV (wr := [(h, .inr (1, [.ref c0, .ref d0, .ref s0, .ref r0, .int (nI n)]))]) (rest := []) C (c_S_addSet (ss := ss) (s0 := []) hp38 rfl hC rfl hi (by simpa using hfit)) d_B_stackUp_47 cd_S_addSet lk_B_90 dd_S_addSet rfl ⟨Nat.le_of_ble_eq_true rfl, Nat.le_of_ble_eq_true rfl⟩ ⟨Nat.le_refl _, Nat.le_refl _⟩ 0 0 rfl rfl [4, 5, 6, 1, 2, 3] [0] rfl rfl (by decide) (by decide) (by decide) rfl (Nat.le_of_ble_eq_true rfl) ?_
      intro u47 hp47
      refine x_aload_n C d_B_stackUp_50 rfl rfl ?_
      refine x_get C d_B_stackUp_51 0 rfl rfl i_B 2 (by decide) lk_B_21 rfl rfl ?_
      refine x_getN C d_B_stackUp_54 1 rfl rfl i_S 2 (by decide) lk_B_39 rfl rfl ?_
      exact x_iret C hr d_B_stackUp_57 u47 rfl (⟨rfl, hp47⟩)
    · exact absurd c28 (by omega)
set_option maxHeartbeats 4000000 in
theorem c_B_stackUp_full {l : Launch} {D : va_G} {cA : ClassId} {h c0 d0 s0 r0 n : Nat} {c01 c02 : Nat} {Lc Bc : Nat → Int32} {s01 s02 : Nat} {Ls Bs : Nat → Int32} {k kc : Nat} {ss cs : List (List Int32)} (hC : Hs 2096 33 Lc Bc cs) (hkc : cs.length = kc) (hS : Hs 3000 13 Ls Bs ss) (hk : ss.length = k) {i : Nat} (hi : i < cs.length) (hno : 12 ≤ k ∨ 3000 < tot ss + (cs.getD i []).length)  : CtI l D cA y_B_stackUp b_B_stackUp 3 (some .int) ({ frames := 4, cells := 0, slots := 0, locals := 86 } : Room) [.ref h, .ref c0, .int (nI i)] (bo h c0 d0 s0 r0 (n) :: (shW cA s0 s01 s02 3000 13 Ls Bs (k) ++ shW cA c0 c01 c02 2096 33 Lc Bc (kc))) (fun r (_ : Unit) => r = -3) (fun _ => (bo h c0 d0 s0 r0 (n) :: (shW cA s0 s01 s02 3000 13 Ls Bs (k) ++ shW cA c0 c01 c02 2096 33 Lc Bc (kc)))) := by
  subst hk
  subst hkc
  refine CtI.start (lv0 := [(0, .ref h), (1, .ref c0), (2, .int (nI i))]) (by decide) rfl (Nat.le_of_ble_eq_true rfl) ?_
  intro p_ e_ s_ m_ args_ below_ meth_ c_ A_ C hr hin
  have hn1 := hS.nums
  have hn2 := hC.nums
  have hn3 := off_succ hi
  have hn4 := off_le cs (i + 1)
  refine x_aload_n C d_B_stackUp_0 rfl rfl ?_
  refine x_get C d_B_stackUp_1 0 rfl rfl i_B 2 (by decide) lk_B_21 rfl rfl ?_
  refine x_getN C d_B_stackUp_4 1 rfl rfl i_S 2 (by decide) lk_B_39 rfl rfl ?_
  refine x_bipush (v := (nI (12))) C d_B_stackUp_7 (by decide) ?_
  refine x_icmp_geN (tgt := 31) C d_B_stackUp_9 (by decide) (by omega) (by omega) (fun c9 => ?_) (fun c9 => ?_)
  · refine x_bipush (v := ((-3))) C d_B_stackUp_31 (by decide) ?_
    exact x_iret C hr d_B_stackUp_33 () rfl (rfl)
  · refine x_aload_n C d_B_stackUp_12 rfl rfl ?_
    refine x_get C d_B_stackUp_13 0 rfl rfl i_B 2 (by decide) lk_B_21 rfl rfl ?_
    refine x_callVI (wr := [(h, .inr (1, [.ref c0, .ref d0, .ref s0, .ref r0, .int (nI n)])), (c0, .inr (0, [.ref c01, .ref c02, .int (nI (cs.length))])), (c01, .inl (cA, 2096, .inl (Lc))), (c02, .inl (cA, 33, .inl (Bc)))]) (rest := []) C (c_S_used hS rfl) d_B_stackUp_16 cd_S_used lk_B_49 dd_S_used rfl ⟨Nat.le_of_ble_eq_true rfl, Nat.le_of_ble_eq_true rfl⟩ ⟨Nat.le_refl _, Nat.le_refl _⟩ 0 0 rfl rfl [1, 2, 3] [0, 4, 5, 6] rfl rfl (by decide) (by decide) (by decide) rfl (Nat.le_of_ble_eq_true rfl) ?_
    intro r_ u_ hp_
    obtain rfl := hp_
    refine x_aload_n C d_B_stackUp_19 rfl rfl ?_
    refine x_iload_n C d_B_stackUp_20 rfl rfl ?_
    refine x_callVI (wr := [(h, .inr (1, [.ref c0, .ref d0, .ref s0, .ref r0, .int (nI n)])), (s0, .inr (0, [.ref s01, .ref s02, .int (nI (ss.length))])), (s01, .inl (cA, 3000, .inl (Ls))), (s02, .inl (cA, 13, .inl (Bs)))]) (rest := [.int (nI (tot ss))]) C (c_S_size (i := i) hC rfl hi) d_B_stackUp_21 cd_S_size lk_B_81 dd_S_size rfl ⟨Nat.le_of_ble_eq_true rfl, Nat.le_of_ble_eq_true rfl⟩ ⟨Nat.le_refl _, Nat.le_refl _⟩ 0 0 rfl rfl [1, 2, 3] [0, 4, 5, 6] rfl rfl (by decide) (by decide) (by decide) rfl (Nat.le_of_ble_eq_true rfl) ?_
    intro r_ u_ hp_
    obtain rfl := hp_
    refine x_iaddN C d_B_stackUp_24  ?_
    refine x_sipush (v := (nI (3000))) C d_B_stackUp_25 (by decide) ?_
    refine x_icmp_leN (tgt := 34) C d_B_stackUp_28 (by decide) (by omega) (by omega) (fun c28 => ?_) (fun c28 => ?_)
    · exact absurd hno (by omega)
    · refine x_bipush (v := ((-3))) C d_B_stackUp_31 (by decide) ?_
      exact x_iret C hr d_B_stackUp_33 () rfl (rfl)
set_option maxHeartbeats 4000000 in
theorem c_B_stackUp_self {l : Launch} {D : va_G} {cA : ClassId} {h c0 d0 s0 r0 n : Nat} {s01 s02 : Nat} {Ls Bs : Nat → Int32} {k : Nat} {ss : List (List Int32)} (hS : Hs 3000 13 Ls Bs ss) (hk : ss.length = k) {i : Nat} (hi : i < ss.length) (h12 : k < 12) (hfit : tot ss + (ss.getD i []).length ≤ 3000)  : CtI l D cA y_B_stackUp b_B_stackUp 3 (some .int) ({ frames := 4, cells := 0, slots := 0, locals := 86 } : Room) [.ref h, .ref s0, .int (nI i)] (bo h c0 d0 s0 r0 (n) :: (shW cA s0 s01 s02 3000 13 Ls Bs (k))) (fun r (u : (Nat → Int32) × (Nat → Int32)) => r = nI (k + 1) ∧ Hs 3000 13 u.1 u.2 (ss ++ [ss.getD i []])) (fun u => (bo h c0 d0 s0 r0 (n) :: (shW cA s0 s01 s02 3000 13 u.1 u.2 (k + 1)))) := by
  subst hk
  refine CtI.start (lv0 := [(0, .ref h), (1, .ref s0), (2, .int (nI i))]) (by decide) rfl (Nat.le_of_ble_eq_true rfl) ?_
  intro p_ e_ s_ m_ args_ below_ meth_ c_ A_ C hr hin
  have hn1 := hS.nums
  refine x_aload_n C d_B_stackUp_0 rfl rfl ?_
  refine x_get C d_B_stackUp_1 0 rfl rfl i_B 2 (by decide) lk_B_21 rfl rfl ?_
  refine x_getN C d_B_stackUp_4 1 rfl rfl i_S 2 (by decide) lk_B_39 rfl rfl ?_
  refine x_bipush (v := (nI (12))) C d_B_stackUp_7 (by decide) ?_
  refine x_icmp_geN (tgt := 31) C d_B_stackUp_9 (by decide) (by omega) (by omega) (fun c9 => ?_) (fun c9 => ?_)
  · exact absurd c9 (by omega)
  · refine x_aload_n C d_B_stackUp_12 rfl rfl ?_
    refine x_get C d_B_stackUp_13 0 rfl rfl i_B 2 (by decide) lk_B_21 rfl rfl ?_
    refine x_callVI (wr := [(h, .inr (1, [.ref c0, .ref d0, .ref s0, .ref r0, .int (nI n)]))]) (rest := []) C (c_S_used hS rfl) d_B_stackUp_16 cd_S_used lk_B_49 dd_S_used rfl ⟨Nat.le_of_ble_eq_true rfl, Nat.le_of_ble_eq_true rfl⟩ ⟨Nat.le_refl _, Nat.le_refl _⟩ 0 0 rfl rfl [1, 2, 3] [0] rfl rfl (by decide) (by decide) (by decide) rfl (Nat.le_of_ble_eq_true rfl) ?_
    intro r_ u_ hp_
    obtain rfl := hp_
    refine x_aload_n C d_B_stackUp_19 rfl rfl ?_
    refine x_iload_n C d_B_stackUp_20 rfl rfl ?_
    refine x_callVI (wr := [(h, .inr (1, [.ref c0, .ref d0, .ref s0, .ref r0, .int (nI n)]))]) (rest := [.int (nI (tot ss))]) C (c_S_size (i := i) hS rfl hi) d_B_stackUp_21 cd_S_size lk_B_81 dd_S_size rfl ⟨Nat.le_of_ble_eq_true rfl, Nat.le_of_ble_eq_true rfl⟩ ⟨Nat.le_refl _, Nat.le_refl _⟩ 0 0 rfl rfl [1, 2, 3] [0] rfl rfl (by decide) (by decide) (by decide) rfl (Nat.le_of_ble_eq_true rfl) ?_
    intro r_ u_ hp_
    obtain rfl := hp_
    refine x_iaddN C d_B_stackUp_24  ?_
    refine x_sipush (v := (nI (3000))) C d_B_stackUp_25 (by decide) ?_
    refine x_icmp_leN (tgt := 34) C d_B_stackUp_28 (by decide) (by omega) (by omega) (fun c28 => ?_) (fun c28 => ?_)
    · refine x_aload_n C d_B_stackUp_34 rfl rfl ?_
      refine x_get C d_B_stackUp_35 0 rfl rfl i_B 2 (by decide) lk_B_21 rfl rfl ?_
      refine x_callVV (wr := [(h, .inr (1, [.ref c0, .ref d0, .ref s0, .ref r0, .int (nI n)]))]) (rest := []) C (c_S_open hS rfl (by omega)) d_B_stackUp_38 cd_S_open lk_B_31 dd_S_open rfl ⟨Nat.le_of_ble_eq_true rfl, Nat.le_of_ble_eq_true rfl⟩ ⟨Nat.le_refl _, Nat.le_refl _⟩ 0 0 rfl rfl [1, 2, 3] [0] rfl rfl (by decide) (by decide) (by decide) rfl (Nat.le_of_ble_eq_true rfl) ?_
      intro u38 hp38
      refine x_aload_n C d_B_stackUp_41 rfl rfl ?_
      refine x_get C d_B_stackUp_42 0 rfl rfl i_B 2 (by decide) lk_B_21 rfl rfl ?_
      refine x_aload_n C d_B_stackUp_45 rfl rfl ?_
      refine x_iload_n C d_B_stackUp_46 rfl rfl ?_
      refine x_callVV (wr := [(h, .inr (1, [.ref c0, .ref d0, .ref s0, .ref r0, .int (nI n)]))]) (rest := []) C (c_S_addSet_self (ss := ss) (s0 := []) (t0 := ss.getD i []) hp38 rfl (by omega) (by simp [List.getD_eq_getElem?_getD, List.getElem?_append_left hi]) (by simpa using hfit)) d_B_stackUp_47 cd_S_addSet lk_B_90 dd_S_addSet rfl ⟨Nat.le_of_ble_eq_true rfl, Nat.le_of_ble_eq_true rfl⟩ ⟨Nat.le_refl _, Nat.le_refl _⟩ 0 0 rfl rfl [1, 2, 3] [0] rfl rfl (by decide) (by decide) (by decide) rfl (Nat.le_of_ble_eq_true rfl) ?_
      intro u47 hp47
      refine x_aload_n C d_B_stackUp_50 rfl rfl ?_
      refine x_get C d_B_stackUp_51 0 rfl rfl i_B 2 (by decide) lk_B_21 rfl rfl ?_
      refine x_getN C d_B_stackUp_54 1 rfl rfl i_S 2 (by decide) lk_B_39 rfl rfl ?_
      exact x_iret C hr d_B_stackUp_57 u47 rfl (⟨rfl, hp47⟩)
    · exact absurd c28 (by omega)
set_option maxHeartbeats 4000000 in
theorem c_B_stackUp_self_full {l : Launch} {D : va_G} {cA : ClassId} {h c0 d0 s0 r0 n : Nat} {s01 s02 : Nat} {Ls Bs : Nat → Int32} {k : Nat} {ss : List (List Int32)} (hS : Hs 3000 13 Ls Bs ss) (hk : ss.length = k) {i : Nat} (hi : i < ss.length) (hno : 12 ≤ k ∨ 3000 < tot ss + (ss.getD i []).length)  : CtI l D cA y_B_stackUp b_B_stackUp 3 (some .int) ({ frames := 4, cells := 0, slots := 0, locals := 86 } : Room) [.ref h, .ref s0, .int (nI i)] (bo h c0 d0 s0 r0 (n) :: (shW cA s0 s01 s02 3000 13 Ls Bs (k))) (fun r (_ : Unit) => r = -3) (fun _ => (bo h c0 d0 s0 r0 (n) :: (shW cA s0 s01 s02 3000 13 Ls Bs (k)))) := by
  subst hk
  refine CtI.start (lv0 := [(0, .ref h), (1, .ref s0), (2, .int (nI i))]) (by decide) rfl (Nat.le_of_ble_eq_true rfl) ?_
  intro p_ e_ s_ m_ args_ below_ meth_ c_ A_ C hr hin
  have hn1 := hS.nums
  have hn3 := off_succ hi
  have hn4 := off_le ss (i + 1)
  refine x_aload_n C d_B_stackUp_0 rfl rfl ?_
  refine x_get C d_B_stackUp_1 0 rfl rfl i_B 2 (by decide) lk_B_21 rfl rfl ?_
  refine x_getN C d_B_stackUp_4 1 rfl rfl i_S 2 (by decide) lk_B_39 rfl rfl ?_
  refine x_bipush (v := (nI (12))) C d_B_stackUp_7 (by decide) ?_
  refine x_icmp_geN (tgt := 31) C d_B_stackUp_9 (by decide) (by omega) (by omega) (fun c9 => ?_) (fun c9 => ?_)
  · refine x_bipush (v := ((-3))) C d_B_stackUp_31 (by decide) ?_
    exact x_iret C hr d_B_stackUp_33 () rfl (rfl)
  · refine x_aload_n C d_B_stackUp_12 rfl rfl ?_
    refine x_get C d_B_stackUp_13 0 rfl rfl i_B 2 (by decide) lk_B_21 rfl rfl ?_
    refine x_callVI (wr := [(h, .inr (1, [.ref c0, .ref d0, .ref s0, .ref r0, .int (nI n)]))]) (rest := []) C (c_S_used hS rfl) d_B_stackUp_16 cd_S_used lk_B_49 dd_S_used rfl ⟨Nat.le_of_ble_eq_true rfl, Nat.le_of_ble_eq_true rfl⟩ ⟨Nat.le_refl _, Nat.le_refl _⟩ 0 0 rfl rfl [1, 2, 3] [0] rfl rfl (by decide) (by decide) (by decide) rfl (Nat.le_of_ble_eq_true rfl) ?_
    intro r_ u_ hp_
    obtain rfl := hp_
    refine x_aload_n C d_B_stackUp_19 rfl rfl ?_
    refine x_iload_n C d_B_stackUp_20 rfl rfl ?_
    refine x_callVI (wr := [(h, .inr (1, [.ref c0, .ref d0, .ref s0, .ref r0, .int (nI n)]))]) (rest := [.int (nI (tot ss))]) C (c_S_size (i := i) hS rfl hi) d_B_stackUp_21 cd_S_size lk_B_81 dd_S_size rfl ⟨Nat.le_of_ble_eq_true rfl, Nat.le_of_ble_eq_true rfl⟩ ⟨Nat.le_refl _, Nat.le_refl _⟩ 0 0 rfl rfl [1, 2, 3] [0] rfl rfl (by decide) (by decide) (by decide) rfl (Nat.le_of_ble_eq_true rfl) ?_
    intro r_ u_ hp_
    obtain rfl := hp_
    refine x_iaddN C d_B_stackUp_24  ?_
    refine x_sipush (v := (nI (3000))) C d_B_stackUp_25 (by decide) ?_
    refine x_icmp_leN (tgt := 34) C d_B_stackUp_28 (by decide) (by omega) (by omega) (fun c28 => ?_) (fun c28 => ?_)
    · exact absurd hno (by omega)
    · refine x_bipush (v := ((-3))) C d_B_stackUp_31 (by decide) ?_
      exact x_iret C hr d_B_stackUp_33 () rfl (rfl)
set_option maxHeartbeats 4000000 in
theorem c_B_replaceTop_1 {l : Launch} {D : va_G} {cA : ClassId} {h c0 d0 s0 r0 n : Nat} {s01 s02 : Nat} {Ls Bs : Nat → Int32} {r01 r02 : Nat} {Lr Br : Nat → Int32} {k : Nat} {pre : List (List Int32)} {x1 t1 : List Int32} (hS : Hs 3000 13 Ls Bs (pre ++ [x1])) (hk : pre.length + 1 = k) (hR : Hs 3001 2 Lr Br [t1]) (hfit : tot pre + t1.length ≤ 3000)  : CtI l D cA y_B_replaceTop b_B_replaceTop 4 (some .int) ({ frames := 4, cells := 0, slots := 0, locals := 86 } : Room) [.ref h, .int (nI 1)] (bo h c0 d0 s0 r0 (n) :: (shW cA s0 s01 s02 3000 13 Ls Bs (k) ++ shW cA r0 r01 r02 3001 2 Lr Br (1))) (fun r (u : (Nat → Int32) × (Nat → Int32)) => r = nI (pre.length + 1) ∧ Hs 3000 13 u.1 u.2 (pre ++ [t1])) (fun u => (bo h c0 d0 s0 r0 (n) :: (shW cA s0 s01 s02 3000 13 u.1 u.2 (pre.length + 1) ++ shW cA r0 r01 r02 3001 2 Lr Br (1)))) := by
  subst hk
  refine CtI.start (lv0 := [(0, .ref h), (1, .int (nI 1))]) (by decide) rfl (Nat.le_of_ble_eq_true rfl) ?_
  intro p_ e_ s_ m_ args_ below_ meth_ c_ A_ C hr hin
  have hn1 := hS.in
  have hn2 := hR.in (ss := [])
  rw [show tot [] = 0 from rfl] at hn2
  refine x_aload_n C d_B_replaceTop_0 rfl rfl ?_
  refine x_get C d_B_replaceTop_1 0 rfl rfl i_B 2 (by decide) lk_B_21 rfl rfl ?_
  refine x_aload_n C d_B_replaceTop_4 rfl rfl ?_
  refine x_get C d_B_replaceTop_5 0 rfl rfl i_B 2 (by decide) lk_B_21 rfl rfl ?_
  refine x_getN C d_B_replaceTop_8 1 rfl rfl i_S 2 (by decide) lk_B_39 rfl rfl ?_
  refine x_iload_n C d_B_replaceTop_11 rfl rfl ?_
  refine x_isubN C d_B_replaceTop_12 (by omega) ?_
  refine x_callVI (wr := [(h, .inr (1, [.ref c0, .ref d0, .ref s0, .ref r0, .int (nI n)])), (r0, .inr (0, [.ref r01, .ref r02, .int (nI 1)])), (r01, .inl (cA, 3001, .inl (Lr))), (r02, .inl (cA, 2, .inl (Br)))]) (rest := []) C (c_S_startOf (i := pre.length + 1 - 1) hS (by simp) (by simp)) d_B_replaceTop_13 cd_S_startOf lk_B_98 dd_S_startOf rfl ⟨Nat.le_of_ble_eq_true rfl, Nat.le_of_ble_eq_true rfl⟩ ⟨Nat.le_refl _, Nat.le_refl _⟩ 0 0 rfl rfl [1, 2, 3] [0, 4, 5, 6] rfl rfl (by decide) (by decide) (by decide) rfl (Nat.le_of_ble_eq_true rfl) ?_
  intro r_ u_ hp_
  obtain rfl := hp_
  refine x_top (y := (nI (tot pre))) (by rw [Nat.add_sub_cancel, off_app (Nat.le_refl _), off_len]) ?_
  refine x_istore_n (lv' := [(2, .int (nI (tot pre))), (0, .ref h), (1, .int (nI 1))]) C d_B_replaceTop_16 rfl (by decide) rfl ?_
  refine x_iload_n C d_B_replaceTop_17 rfl rfl ?_
  refine x_aload_n C d_B_replaceTop_18 rfl rfl ?_
  refine x_get C d_B_replaceTop_19 0 rfl rfl i_B 3 (by decide) lk_B_24 rfl rfl ?_
  refine x_callVI (wr := [(h, .inr (1, [.ref c0, .ref d0, .ref s0, .ref r0, .int (nI n)])), (s0, .inr (0, [.ref s01, .ref s02, .int (nI (pre.length + 1))])), (s01, .inl (cA, 3000, .inl (Ls))), (s02, .inl (cA, 13, .inl (Bs)))]) (rest := [.int (nI (tot pre))]) C (c_S_used hR rfl) d_B_replaceTop_22 cd_S_used lk_B_49 dd_S_used rfl ⟨Nat.le_of_ble_eq_true rfl, Nat.le_of_ble_eq_true rfl⟩ ⟨Nat.le_refl _, Nat.le_refl _⟩ 0 0 rfl rfl [1, 2, 3] [0, 4, 5, 6] rfl rfl (by decide) (by decide) (by decide) rfl (Nat.le_of_ble_eq_true rfl) ?_
  intro r_ u_ hp_
  obtain rfl := hp_
  refine x_top (y := (nI (t1.length))) (by rw [tot_one]) ?_
  refine x_iaddN C d_B_replaceTop_25  ?_
  refine x_sipush (v := (nI (3000))) C d_B_replaceTop_26 (by decide) ?_
  refine x_icmp_leN (tgt := 35) C d_B_replaceTop_29 (by decide) (by omega) (by omega) (fun c29 => ?_) (fun c29 => ?_)
  · refine x_iconst (v := (nI (0))) C d_B_replaceTop_35 (by decide) ?_
    refine x_istore_n (lv' := [(3, .int (nI 0)), (2, .int (nI (tot pre))), (0, .ref h), (1, .int (nI 1))]) C d_B_replaceTop_36 rfl (by decide) rfl ?_
    refine x_iload_n C d_B_replaceTop_37 rfl rfl ?_
    refine x_iload_n C d_B_replaceTop_38 rfl rfl ?_
    refine x_icmp_geN (tgt := 55) C d_B_replaceTop_39 (by decide) (by omega) (by omega) (fun c39 => ?_) (fun c39 => ?_)
    · exact absurd c39 (by omega)
    · refine x_aload_n C d_B_replaceTop_42 rfl rfl ?_
      refine x_get C d_B_replaceTop_43 0 rfl rfl i_B 2 (by decide) lk_B_21 rfl rfl ?_
      refine x_callVV (wr := [(h, .inr (1, [.ref c0, .ref d0, .ref s0, .ref r0, .int (nI n)])), (r0, .inr (0, [.ref r01, .ref r02, .int (nI 1)])), (r01, .inl (cA, 3001, .inl (Lr))), (r02, .inl (cA, 2, .inl (Br)))]) (rest := []) C (c_S_drop hS rfl) d_B_replaceTop_46 cd_S_drop lk_B_87 dd_S_drop rfl ⟨Nat.le_of_ble_eq_true rfl, Nat.le_of_ble_eq_true rfl⟩ ⟨Nat.le_refl _, Nat.le_refl _⟩ 0 0 rfl rfl [1, 2, 3] [0, 4, 5, 6] rfl rfl (by decide) (by decide) (by decide) rfl (Nat.le_of_ble_eq_true rfl) ?_
      intro u_ hp_
      refine x_iincN (lv' := [(3, .int (nI (0 + 1))), (2, .int (nI (tot pre))), (0, .ref h), (1, .int (nI 1))]) C d_B_replaceTop_49 rfl (by decide) rfl ?_
      refine x_goto (tgt := 37) C d_B_replaceTop_52 (by decide) ?_
      refine x_iload_n C d_B_replaceTop_37 rfl rfl ?_
      refine x_iload_n C d_B_replaceTop_38 rfl rfl ?_
      refine x_icmp_geN (tgt := 55) C d_B_replaceTop_39 (by decide) (by omega) (by omega) (fun c39 => ?_) (fun c39 => ?_)
      · refine x_aload_n C d_B_replaceTop_55 rfl rfl ?_
        refine x_get C d_B_replaceTop_56 0 rfl rfl i_B 2 (by decide) lk_B_21 rfl rfl ?_
        refine x_callVV (wr := [(h, .inr (1, [.ref c0, .ref d0, .ref s0, .ref r0, .int (nI n)])), (r0, .inr (0, [.ref r01, .ref r02, .int (nI 1)])), (r01, .inl (cA, 3001, .inl (Lr))), (r02, .inl (cA, 2, .inl (Br)))]) (rest := []) C (c_S_open (k := pre.length + 1 - 1) hS.drop (by omega) (by omega)) d_B_replaceTop_59 cd_S_open lk_B_31 dd_S_open rfl ⟨Nat.le_of_ble_eq_true rfl, Nat.le_of_ble_eq_true rfl⟩ ⟨Nat.le_refl _, Nat.le_refl _⟩ 0 0 rfl rfl [4, 5, 6] [0, 1, 2, 3] rfl rfl (by decide) (by decide) (by decide) rfl (Nat.le_of_ble_eq_true rfl) ?_
        intro u59 hp59
        refine x_aload_n C d_B_replaceTop_62 rfl rfl ?_
        refine x_get C d_B_replaceTop_63 0 rfl rfl i_B 2 (by decide) lk_B_21 rfl rfl ?_
        refine x_aload_n C d_B_replaceTop_66 rfl rfl ?_
        refine x_get C d_B_replaceTop_67 0 rfl rfl i_B 3 (by decide) lk_B_24 rfl rfl ?_
        refine x_iconst (v := (nI (0))) C d_B_replaceTop_70 (by decide) ?_
        refine x_callVV (wr := [(h, .inr (1, [.ref c0, .ref d0, .ref s0, .ref r0, .int (nI n)]))]) (rest := []) C (c_S_addSet (k := pre.length + 1 - 1 + 1) (ss := pre) (s0 := []) (i := 0) hp59 (by omega) hR rfl (by simp) (by simpa using hfit)) d_B_replaceTop_71 cd_S_addSet lk_B_90 dd_S_addSet rfl ⟨Nat.le_of_ble_eq_true rfl, Nat.le_of_ble_eq_true rfl⟩ ⟨Nat.le_refl _, Nat.le_refl _⟩ 0 0 rfl rfl [4, 5, 6, 1, 2, 3] [0] rfl rfl (by decide) (by decide) (by decide) rfl (Nat.le_of_ble_eq_true rfl) ?_
        intro u71 hp71
        refine x_aload_n C d_B_replaceTop_74 rfl rfl ?_
        refine x_get C d_B_replaceTop_75 0 rfl rfl i_B 2 (by decide) lk_B_21 rfl rfl ?_
        refine x_getN C d_B_replaceTop_78 1 rfl rfl i_S 2 (by decide) lk_B_39 rfl rfl ?_
        exact x_iret C hr d_B_replaceTop_81 u71 rfl (⟨by congr 1, hp71⟩)
      · exact absurd c39 (by omega)
  · exact absurd c29 (by omega)
set_option maxHeartbeats 4000000 in
theorem c_B_replaceTop_1_full {l : Launch} {D : va_G} {cA : ClassId} {h c0 d0 s0 r0 n : Nat} {s01 s02 : Nat} {Ls Bs : Nat → Int32} {r01 r02 : Nat} {Lr Br : Nat → Int32} {k : Nat} {pre : List (List Int32)} {x1 t1 : List Int32} (hS : Hs 3000 13 Ls Bs (pre ++ [x1])) (hk : pre.length + 1 = k) (hR : Hs 3001 2 Lr Br [t1]) (hno : 3000 < tot pre + t1.length)  : CtI l D cA y_B_replaceTop b_B_replaceTop 4 (some .int) ({ frames := 4, cells := 0, slots := 0, locals := 86 } : Room) [.ref h, .int (nI 1)] (bo h c0 d0 s0 r0 (n) :: (shW cA s0 s01 s02 3000 13 Ls Bs (k) ++ shW cA r0 r01 r02 3001 2 Lr Br (1))) (fun r (_ : Unit) => r = -3) (fun _ => (bo h c0 d0 s0 r0 (n) :: (shW cA s0 s01 s02 3000 13 Ls Bs (k) ++ shW cA r0 r01 r02 3001 2 Lr Br (1)))) := by
  subst hk
  refine CtI.start (lv0 := [(0, .ref h), (1, .int (nI 1))]) (by decide) rfl (Nat.le_of_ble_eq_true rfl) ?_
  intro p_ e_ s_ m_ args_ below_ meth_ c_ A_ C hr hin
  have hn1 := hS.in
  have hn2 := hR.in (ss := [])
  rw [show tot [] = 0 from rfl] at hn2
  refine x_aload_n C d_B_replaceTop_0 rfl rfl ?_
  refine x_get C d_B_replaceTop_1 0 rfl rfl i_B 2 (by decide) lk_B_21 rfl rfl ?_
  refine x_aload_n C d_B_replaceTop_4 rfl rfl ?_
  refine x_get C d_B_replaceTop_5 0 rfl rfl i_B 2 (by decide) lk_B_21 rfl rfl ?_
  refine x_getN C d_B_replaceTop_8 1 rfl rfl i_S 2 (by decide) lk_B_39 rfl rfl ?_
  refine x_iload_n C d_B_replaceTop_11 rfl rfl ?_
  refine x_isubN C d_B_replaceTop_12 (by omega) ?_
  refine x_callVI (wr := [(h, .inr (1, [.ref c0, .ref d0, .ref s0, .ref r0, .int (nI n)])), (r0, .inr (0, [.ref r01, .ref r02, .int (nI 1)])), (r01, .inl (cA, 3001, .inl (Lr))), (r02, .inl (cA, 2, .inl (Br)))]) (rest := []) C (c_S_startOf (i := pre.length + 1 - 1) hS (by simp) (by simp)) d_B_replaceTop_13 cd_S_startOf lk_B_98 dd_S_startOf rfl ⟨Nat.le_of_ble_eq_true rfl, Nat.le_of_ble_eq_true rfl⟩ ⟨Nat.le_refl _, Nat.le_refl _⟩ 0 0 rfl rfl [1, 2, 3] [0, 4, 5, 6] rfl rfl (by decide) (by decide) (by decide) rfl (Nat.le_of_ble_eq_true rfl) ?_
  intro r_ u_ hp_
  obtain rfl := hp_
  refine x_top (y := (nI (tot pre))) (by rw [Nat.add_sub_cancel, off_app (Nat.le_refl _), off_len]) ?_
  refine x_istore_n (lv' := [(2, .int (nI (tot pre))), (0, .ref h), (1, .int (nI 1))]) C d_B_replaceTop_16 rfl (by decide) rfl ?_
  refine x_iload_n C d_B_replaceTop_17 rfl rfl ?_
  refine x_aload_n C d_B_replaceTop_18 rfl rfl ?_
  refine x_get C d_B_replaceTop_19 0 rfl rfl i_B 3 (by decide) lk_B_24 rfl rfl ?_
  refine x_callVI (wr := [(h, .inr (1, [.ref c0, .ref d0, .ref s0, .ref r0, .int (nI n)])), (s0, .inr (0, [.ref s01, .ref s02, .int (nI (pre.length + 1))])), (s01, .inl (cA, 3000, .inl (Ls))), (s02, .inl (cA, 13, .inl (Bs)))]) (rest := [.int (nI (tot pre))]) C (c_S_used hR rfl) d_B_replaceTop_22 cd_S_used lk_B_49 dd_S_used rfl ⟨Nat.le_of_ble_eq_true rfl, Nat.le_of_ble_eq_true rfl⟩ ⟨Nat.le_refl _, Nat.le_refl _⟩ 0 0 rfl rfl [1, 2, 3] [0, 4, 5, 6] rfl rfl (by decide) (by decide) (by decide) rfl (Nat.le_of_ble_eq_true rfl) ?_
  intro r_ u_ hp_
  obtain rfl := hp_
  refine x_top (y := (nI (t1.length))) (by rw [tot_one]) ?_
  refine x_iaddN C d_B_replaceTop_25  ?_
  refine x_sipush (v := (nI (3000))) C d_B_replaceTop_26 (by decide) ?_
  refine x_icmp_leN (tgt := 35) C d_B_replaceTop_29 (by decide) (by omega) (by omega) (fun c29 => ?_) (fun c29 => ?_)
  · exact absurd c29 (by omega)
  · refine x_bipush (v := ((-3))) C d_B_replaceTop_32 (by decide) ?_
    exact x_iret C hr d_B_replaceTop_34 () rfl (rfl)
set_option maxHeartbeats 4000000 in
theorem c_B_replaceTop_2 {l : Launch} {D : va_G} {cA : ClassId} {h c0 d0 s0 r0 n : Nat} {s01 s02 : Nat} {Ls Bs : Nat → Int32} {r01 r02 : Nat} {Lr Br : Nat → Int32} {k : Nat} {pre : List (List Int32)} {x1 x2 t1 : List Int32} (hS : Hs 3000 13 Ls Bs (pre ++ [x1] ++ [x2])) (hk : pre.length + 2 = k) (hR : Hs 3001 2 Lr Br [t1]) (hfit : tot pre + t1.length ≤ 3000)  : CtI l D cA y_B_replaceTop b_B_replaceTop 4 (some .int) ({ frames := 4, cells := 0, slots := 0, locals := 86 } : Room) [.ref h, .int (nI 2)] (bo h c0 d0 s0 r0 (n) :: (shW cA s0 s01 s02 3000 13 Ls Bs (k) ++ shW cA r0 r01 r02 3001 2 Lr Br (1))) (fun r (u : (Nat → Int32) × (Nat → Int32)) => r = nI (pre.length + 1) ∧ Hs 3000 13 u.1 u.2 (pre ++ [t1])) (fun u => (bo h c0 d0 s0 r0 (n) :: (shW cA s0 s01 s02 3000 13 u.1 u.2 (pre.length + 1) ++ shW cA r0 r01 r02 3001 2 Lr Br (1)))) := by
  subst hk
  refine CtI.start (lv0 := [(0, .ref h), (1, .int (nI 2))]) (by decide) rfl (Nat.le_of_ble_eq_true rfl) ?_
  intro p_ e_ s_ m_ args_ below_ meth_ c_ A_ C hr hin
  have hn1 := hS.in
  have hn2 := hR.in (ss := [])
  rw [show tot [] = 0 from rfl] at hn2
  rw [tot_app, tot_one, List.length_append, List.length_singleton] at hn1
  refine x_aload_n C d_B_replaceTop_0 rfl rfl ?_
  refine x_get C d_B_replaceTop_1 0 rfl rfl i_B 2 (by decide) lk_B_21 rfl rfl ?_
  refine x_aload_n C d_B_replaceTop_4 rfl rfl ?_
  refine x_get C d_B_replaceTop_5 0 rfl rfl i_B 2 (by decide) lk_B_21 rfl rfl ?_
  refine x_getN C d_B_replaceTop_8 1 rfl rfl i_S 2 (by decide) lk_B_39 rfl rfl ?_
  refine x_iload_n C d_B_replaceTop_11 rfl rfl ?_
  refine x_isubN C d_B_replaceTop_12 (by omega) ?_
  refine x_callVI (wr := [(h, .inr (1, [.ref c0, .ref d0, .ref s0, .ref r0, .int (nI n)])), (r0, .inr (0, [.ref r01, .ref r02, .int (nI 1)])), (r01, .inl (cA, 3001, .inl (Lr))), (r02, .inl (cA, 2, .inl (Br)))]) (rest := []) C (c_S_startOf (i := pre.length + 2 - 2) hS (by simp) (by simp)) d_B_replaceTop_13 cd_S_startOf lk_B_98 dd_S_startOf rfl ⟨Nat.le_of_ble_eq_true rfl, Nat.le_of_ble_eq_true rfl⟩ ⟨Nat.le_refl _, Nat.le_refl _⟩ 0 0 rfl rfl [1, 2, 3] [0, 4, 5, 6] rfl rfl (by decide) (by decide) (by decide) rfl (Nat.le_of_ble_eq_true rfl) ?_
  intro r_ u_ hp_
  obtain rfl := hp_
  refine x_top (y := (nI (tot pre))) (by rw [Nat.add_sub_cancel, List.append_assoc, off_app (Nat.le_refl _), off_len]) ?_
  refine x_istore_n (lv' := [(2, .int (nI (tot pre))), (0, .ref h), (1, .int (nI 2))]) C d_B_replaceTop_16 rfl (by decide) rfl ?_
  refine x_iload_n C d_B_replaceTop_17 rfl rfl ?_
  refine x_aload_n C d_B_replaceTop_18 rfl rfl ?_
  refine x_get C d_B_replaceTop_19 0 rfl rfl i_B 3 (by decide) lk_B_24 rfl rfl ?_
  refine x_callVI (wr := [(h, .inr (1, [.ref c0, .ref d0, .ref s0, .ref r0, .int (nI n)])), (s0, .inr (0, [.ref s01, .ref s02, .int (nI (pre.length + 2))])), (s01, .inl (cA, 3000, .inl (Ls))), (s02, .inl (cA, 13, .inl (Bs)))]) (rest := [.int (nI (tot pre))]) C (c_S_used hR rfl) d_B_replaceTop_22 cd_S_used lk_B_49 dd_S_used rfl ⟨Nat.le_of_ble_eq_true rfl, Nat.le_of_ble_eq_true rfl⟩ ⟨Nat.le_refl _, Nat.le_refl _⟩ 0 0 rfl rfl [1, 2, 3] [0, 4, 5, 6] rfl rfl (by decide) (by decide) (by decide) rfl (Nat.le_of_ble_eq_true rfl) ?_
  intro r_ u_ hp_
  obtain rfl := hp_
  refine x_top (y := (nI (t1.length))) (by rw [tot_one]) ?_
  refine x_iaddN C d_B_replaceTop_25  ?_
  refine x_sipush (v := (nI (3000))) C d_B_replaceTop_26 (by decide) ?_
  refine x_icmp_leN (tgt := 35) C d_B_replaceTop_29 (by decide) (by omega) (by omega) (fun c29 => ?_) (fun c29 => ?_)
  · refine x_iconst (v := (nI (0))) C d_B_replaceTop_35 (by decide) ?_
    refine x_istore_n (lv' := [(3, .int (nI 0)), (2, .int (nI (tot pre))), (0, .ref h), (1, .int (nI 2))]) C d_B_replaceTop_36 rfl (by decide) rfl ?_
    refine x_iload_n C d_B_replaceTop_37 rfl rfl ?_
    refine x_iload_n C d_B_replaceTop_38 rfl rfl ?_
    refine x_icmp_geN (tgt := 55) C d_B_replaceTop_39 (by decide) (by omega) (by omega) (fun c39 => ?_) (fun c39 => ?_)
    · exact absurd c39 (by omega)
    · refine x_aload_n C d_B_replaceTop_42 rfl rfl ?_
      refine x_get C d_B_replaceTop_43 0 rfl rfl i_B 2 (by decide) lk_B_21 rfl rfl ?_
      refine x_callVV (wr := [(h, .inr (1, [.ref c0, .ref d0, .ref s0, .ref r0, .int (nI n)])), (r0, .inr (0, [.ref r01, .ref r02, .int (nI 1)])), (r01, .inl (cA, 3001, .inl (Lr))), (r02, .inl (cA, 2, .inl (Br)))]) (rest := []) C (c_S_drop hS (by simp)) d_B_replaceTop_46 cd_S_drop lk_B_87 dd_S_drop rfl ⟨Nat.le_of_ble_eq_true rfl, Nat.le_of_ble_eq_true rfl⟩ ⟨Nat.le_refl _, Nat.le_refl _⟩ 0 0 rfl rfl [1, 2, 3] [0, 4, 5, 6] rfl rfl (by decide) (by decide) (by decide) rfl (Nat.le_of_ble_eq_true rfl) ?_
      intro u_ hp_
      refine x_iincN (lv' := [(3, .int (nI (0 + 1))), (2, .int (nI (tot pre))), (0, .ref h), (1, .int (nI 2))]) C d_B_replaceTop_49 rfl (by decide) rfl ?_
      refine x_goto (tgt := 37) C d_B_replaceTop_52 (by decide) ?_
      refine x_iload_n C d_B_replaceTop_37 rfl rfl ?_
      refine x_iload_n C d_B_replaceTop_38 rfl rfl ?_
      refine x_icmp_geN (tgt := 55) C d_B_replaceTop_39 (by decide) (by omega) (by omega) (fun c39 => ?_) (fun c39 => ?_)
      · exact absurd c39 (by omega)
      · refine x_aload_n C d_B_replaceTop_42 rfl rfl ?_
        refine x_get C d_B_replaceTop_43 0 rfl rfl i_B 2 (by decide) lk_B_21 rfl rfl ?_
        refine x_callVV (wr := [(h, .inr (1, [.ref c0, .ref d0, .ref s0, .ref r0, .int (nI n)])), (r0, .inr (0, [.ref r01, .ref r02, .int (nI 1)])), (r01, .inl (cA, 3001, .inl (Lr))), (r02, .inl (cA, 2, .inl (Br)))]) (rest := []) C (c_S_drop hS.drop (by omega)) d_B_replaceTop_46 cd_S_drop lk_B_87 dd_S_drop rfl ⟨Nat.le_of_ble_eq_true rfl, Nat.le_of_ble_eq_true rfl⟩ ⟨Nat.le_refl _, Nat.le_refl _⟩ 0 0 rfl rfl [4, 5, 6] [0, 1, 2, 3] rfl rfl (by decide) (by decide) (by decide) rfl (Nat.le_of_ble_eq_true rfl) ?_
        intro u_ hp_
        refine x_iincN (lv' := [(3, .int (nI (0 + 1 + 1))), (2, .int (nI (tot pre))), (0, .ref h), (1, .int (nI 2))]) C d_B_replaceTop_49 rfl (by decide) rfl ?_
        refine x_goto (tgt := 37) C d_B_replaceTop_52 (by decide) ?_
        refine x_iload_n C d_B_replaceTop_37 rfl rfl ?_
        refine x_iload_n C d_B_replaceTop_38 rfl rfl ?_
        refine x_icmp_geN (tgt := 55) C d_B_replaceTop_39 (by decide) (by omega) (by omega) (fun c39 => ?_) (fun c39 => ?_)
        · refine x_aload_n C d_B_replaceTop_55 rfl rfl ?_
          refine x_get C d_B_replaceTop_56 0 rfl rfl i_B 2 (by decide) lk_B_21 rfl rfl ?_
          refine x_callVV (wr := [(h, .inr (1, [.ref c0, .ref d0, .ref s0, .ref r0, .int (nI n)])), (r0, .inr (0, [.ref r01, .ref r02, .int (nI 1)])), (r01, .inl (cA, 3001, .inl (Lr))), (r02, .inl (cA, 2, .inl (Br)))]) (rest := []) C (c_S_open (k := pre.length + 2 - 1 - 1) hS.drop.drop (by omega) (by omega)) d_B_replaceTop_59 cd_S_open lk_B_31 dd_S_open rfl ⟨Nat.le_of_ble_eq_true rfl, Nat.le_of_ble_eq_true rfl⟩ ⟨Nat.le_refl _, Nat.le_refl _⟩ 0 0 rfl rfl [4, 5, 6] [0, 1, 2, 3] rfl rfl (by decide) (by decide) (by decide) rfl (Nat.le_of_ble_eq_true rfl) ?_
          intro u59 hp59
          refine x_aload_n C d_B_replaceTop_62 rfl rfl ?_
          refine x_get C d_B_replaceTop_63 0 rfl rfl i_B 2 (by decide) lk_B_21 rfl rfl ?_
          refine x_aload_n C d_B_replaceTop_66 rfl rfl ?_
          refine x_get C d_B_replaceTop_67 0 rfl rfl i_B 3 (by decide) lk_B_24 rfl rfl ?_
          refine x_iconst (v := (nI (0))) C d_B_replaceTop_70 (by decide) ?_
          refine x_callVV (wr := [(h, .inr (1, [.ref c0, .ref d0, .ref s0, .ref r0, .int (nI n)]))]) (rest := []) C (c_S_addSet (k := pre.length + 2 - 1 - 1 + 1) (ss := pre) (s0 := []) (i := 0) hp59 (by omega) hR rfl (by simp) (by simpa using hfit)) d_B_replaceTop_71 cd_S_addSet lk_B_90 dd_S_addSet rfl ⟨Nat.le_of_ble_eq_true rfl, Nat.le_of_ble_eq_true rfl⟩ ⟨Nat.le_refl _, Nat.le_refl _⟩ 0 0 rfl rfl [4, 5, 6, 1, 2, 3] [0] rfl rfl (by decide) (by decide) (by decide) rfl (Nat.le_of_ble_eq_true rfl) ?_
          intro u71 hp71
          refine x_aload_n C d_B_replaceTop_74 rfl rfl ?_
          refine x_get C d_B_replaceTop_75 0 rfl rfl i_B 2 (by decide) lk_B_21 rfl rfl ?_
          refine x_getN C d_B_replaceTop_78 1 rfl rfl i_S 2 (by decide) lk_B_39 rfl rfl ?_
          exact x_iret C hr d_B_replaceTop_81 u71 rfl (⟨by congr 1, hp71⟩)
        · exact absurd c39 (by omega)
  · exact absurd c29 (by omega)
set_option maxHeartbeats 4000000 in
theorem c_B_replaceTop_2_full {l : Launch} {D : va_G} {cA : ClassId} {h c0 d0 s0 r0 n : Nat} {s01 s02 : Nat} {Ls Bs : Nat → Int32} {r01 r02 : Nat} {Lr Br : Nat → Int32} {k : Nat} {pre : List (List Int32)} {x1 x2 t1 : List Int32} (hS : Hs 3000 13 Ls Bs (pre ++ [x1] ++ [x2])) (hk : pre.length + 2 = k) (hR : Hs 3001 2 Lr Br [t1]) (hno : 3000 < tot pre + t1.length)  : CtI l D cA y_B_replaceTop b_B_replaceTop 4 (some .int) ({ frames := 4, cells := 0, slots := 0, locals := 86 } : Room) [.ref h, .int (nI 2)] (bo h c0 d0 s0 r0 (n) :: (shW cA s0 s01 s02 3000 13 Ls Bs (k) ++ shW cA r0 r01 r02 3001 2 Lr Br (1))) (fun r (_ : Unit) => r = -3) (fun _ => (bo h c0 d0 s0 r0 (n) :: (shW cA s0 s01 s02 3000 13 Ls Bs (k) ++ shW cA r0 r01 r02 3001 2 Lr Br (1)))) := by
  subst hk
  refine CtI.start (lv0 := [(0, .ref h), (1, .int (nI 2))]) (by decide) rfl (Nat.le_of_ble_eq_true rfl) ?_
  intro p_ e_ s_ m_ args_ below_ meth_ c_ A_ C hr hin
  have hn1 := hS.in
  have hn2 := hR.in (ss := [])
  rw [show tot [] = 0 from rfl] at hn2
  rw [tot_app, tot_one, List.length_append, List.length_singleton] at hn1
  refine x_aload_n C d_B_replaceTop_0 rfl rfl ?_
  refine x_get C d_B_replaceTop_1 0 rfl rfl i_B 2 (by decide) lk_B_21 rfl rfl ?_
  refine x_aload_n C d_B_replaceTop_4 rfl rfl ?_
  refine x_get C d_B_replaceTop_5 0 rfl rfl i_B 2 (by decide) lk_B_21 rfl rfl ?_
  refine x_getN C d_B_replaceTop_8 1 rfl rfl i_S 2 (by decide) lk_B_39 rfl rfl ?_
  refine x_iload_n C d_B_replaceTop_11 rfl rfl ?_
  refine x_isubN C d_B_replaceTop_12 (by omega) ?_
  refine x_callVI (wr := [(h, .inr (1, [.ref c0, .ref d0, .ref s0, .ref r0, .int (nI n)])), (r0, .inr (0, [.ref r01, .ref r02, .int (nI 1)])), (r01, .inl (cA, 3001, .inl (Lr))), (r02, .inl (cA, 2, .inl (Br)))]) (rest := []) C (c_S_startOf (i := pre.length + 2 - 2) hS (by simp) (by simp)) d_B_replaceTop_13 cd_S_startOf lk_B_98 dd_S_startOf rfl ⟨Nat.le_of_ble_eq_true rfl, Nat.le_of_ble_eq_true rfl⟩ ⟨Nat.le_refl _, Nat.le_refl _⟩ 0 0 rfl rfl [1, 2, 3] [0, 4, 5, 6] rfl rfl (by decide) (by decide) (by decide) rfl (Nat.le_of_ble_eq_true rfl) ?_
  intro r_ u_ hp_
  obtain rfl := hp_
  refine x_top (y := (nI (tot pre))) (by rw [Nat.add_sub_cancel, List.append_assoc, off_app (Nat.le_refl _), off_len]) ?_
  refine x_istore_n (lv' := [(2, .int (nI (tot pre))), (0, .ref h), (1, .int (nI 2))]) C d_B_replaceTop_16 rfl (by decide) rfl ?_
  refine x_iload_n C d_B_replaceTop_17 rfl rfl ?_
  refine x_aload_n C d_B_replaceTop_18 rfl rfl ?_
  refine x_get C d_B_replaceTop_19 0 rfl rfl i_B 3 (by decide) lk_B_24 rfl rfl ?_
  refine x_callVI (wr := [(h, .inr (1, [.ref c0, .ref d0, .ref s0, .ref r0, .int (nI n)])), (s0, .inr (0, [.ref s01, .ref s02, .int (nI (pre.length + 2))])), (s01, .inl (cA, 3000, .inl (Ls))), (s02, .inl (cA, 13, .inl (Bs)))]) (rest := [.int (nI (tot pre))]) C (c_S_used hR rfl) d_B_replaceTop_22 cd_S_used lk_B_49 dd_S_used rfl ⟨Nat.le_of_ble_eq_true rfl, Nat.le_of_ble_eq_true rfl⟩ ⟨Nat.le_refl _, Nat.le_refl _⟩ 0 0 rfl rfl [1, 2, 3] [0, 4, 5, 6] rfl rfl (by decide) (by decide) (by decide) rfl (Nat.le_of_ble_eq_true rfl) ?_
  intro r_ u_ hp_
  obtain rfl := hp_
  refine x_top (y := (nI (t1.length))) (by rw [tot_one]) ?_
  refine x_iaddN C d_B_replaceTop_25  ?_
  refine x_sipush (v := (nI (3000))) C d_B_replaceTop_26 (by decide) ?_
  refine x_icmp_leN (tgt := 35) C d_B_replaceTop_29 (by decide) (by omega) (by omega) (fun c29 => ?_) (fun c29 => ?_)
  · exact absurd c29 (by omega)
  · refine x_bipush (v := ((-3))) C d_B_replaceTop_32 (by decide) ?_
    exact x_iret C hr d_B_replaceTop_34 () rfl (rfl)
end
section
/-! the public methods on the stack -/
theorem zw_rep {n op : Nat} {fA fB : Nat → Bool} {W : List (Nat × Nat)} (ho : op ≤ 3) (hc : canon W) (he : ex W = List.zipWith (jb op) (ex (Wd n fA)) (ex (Wd n fB))) : W.map enc = wI n (fun r => jbb op (fA r) (fB r)) := by
  have : Rep n (fun r => jbb op (fA r) (fB r)) W := ⟨hc, by rw [he, (Wd_rep n fA).2, (Wd_rep n fB).2, GL_zip n (fun g => jb_gb op fA fB g ho)]⟩
  rw [this.eq]
  rfl
theorem aft_neg {x : Int32} (h : x < 0) : (if x < (-1) then (-1) else x) + nI 1 = nI 0 := by
  by_cases h2 : x < (-1)
  · rw [if_pos h2]; rfl
  · rw [if_neg h2]
    have h3 : x = -1 := by
      rw [Int32.lt_iff_toInt_lt] at h h2
      apply Int32.toInt_inj.mp
      have e1 : (0 : Int32).toInt = 0 := by decide
      have e2 : (-1 : Int32).toInt = -1 := by decide
      rw [e1] at h
      rw [e2] at h2
      rw [e2]
      omega
    rw [h3]
    rfl
theorem aft_pos {j : Nat} (h : j < 2 ^ 31) : (if nI j < (-1) then (-1) else nI j) + nI 1 = nI (j + 1) := by
  rw [if_neg, nI_add]
  intro h2
  rw [Int32.lt_iff_toInt_lt, nI_toInt h] at h2
  have e2 : (-1 : Int32).toInt = -1 := by decide
  rw [e2] at h2
  omega
set_option maxHeartbeats 4000000 in
theorem c_B_copy_none {l : Launch} {D : va_G} {cA : ClassId} {h c0 d0 s0 r0 n : Nat} {s01 s02 : Nat} {Ls Bs : Nat → Int32}  : CtI l D cA y_B_copy b_B_copy 1 (some .int) ({ frames := 5, cells := 0, slots := 0, locals := 108 } : Room) [.ref h] (bo h c0 d0 s0 r0 (n) :: (shW cA s0 s01 s02 3000 13 Ls Bs (0))) (fun r (_ : Unit) => r = (-4)) (fun _ => (bo h c0 d0 s0 r0 (n) :: (shW cA s0 s01 s02 3000 13 Ls Bs (0)))) := by
  refine CtI.start (lv0 := [(0, .ref h)]) (by decide) rfl (Nat.le_of_ble_eq_true rfl) ?_
  intro p_ e_ s_ m_ args_ below_ meth_ c_ A_ C hr hin
  refine x_aload_n C d_B_copy_0 rfl rfl ?_
  refine x_get C d_B_copy_1 0 rfl rfl i_B 2 (by decide) lk_B_21 rfl rfl ?_
  refine x_getN C d_B_copy_4 1 rfl rfl i_S 2 (by decide) lk_B_39 rfl rfl ?_
  refine x_iconst (v := (nI (1))) C d_B_copy_7 (by decide) ?_
  refine x_icmp_geN (tgt := 14) C d_B_copy_8 (by decide) (by omega) (by omega) (fun c8 => ?_) (fun c8 => ?_)
  · exact absurd c8 (by omega)
  · refine x_bipush (v := ((-4))) C d_B_copy_11 (by decide) ?_
    exact x_iret C hr d_B_copy_13 () rfl (rfl)
set_option maxHeartbeats 4000000 in
theorem c_B_not_none {l : Launch} {D : va_G} {cA : ClassId} {h c0 d0 s0 r0 n : Nat} {s01 s02 : Nat} {Ls Bs : Nat → Int32}  : CtI l D cA y_B_not b_B_not 1 (some .int) ({ frames := 6, cells := 0, slots := 0, locals := 131 } : Room) [.ref h] (bo h c0 d0 s0 r0 (n) :: (shW cA s0 s01 s02 3000 13 Ls Bs (0))) (fun r (_ : Unit) => r = (-4)) (fun _ => (bo h c0 d0 s0 r0 (n) :: (shW cA s0 s01 s02 3000 13 Ls Bs (0)))) := by
  refine CtI.start (lv0 := [(0, .ref h)]) (by decide) rfl (Nat.le_of_ble_eq_true rfl) ?_
  intro p_ e_ s_ m_ args_ below_ meth_ c_ A_ C hr hin
  refine x_aload_n C d_B_not_0 rfl rfl ?_
  refine x_get C d_B_not_1 0 rfl rfl i_B 2 (by decide) lk_B_21 rfl rfl ?_
  refine x_getN C d_B_not_4 1 rfl rfl i_S 2 (by decide) lk_B_39 rfl rfl ?_
  refine x_iconst (v := (nI (1))) C d_B_not_7 (by decide) ?_
  refine x_icmp_geN (tgt := 14) C d_B_not_8 (by decide) (by omega) (by omega) (fun c8 => ?_) (fun c8 => ?_)
  · exact absurd c8 (by omega)
  · refine x_bipush (v := ((-4))) C d_B_not_11 (by decide) ?_
    exact x_iret C hr d_B_not_13 () rfl (rfl)
set_option maxHeartbeats 4000000 in
theorem c_B_count_none {l : Launch} {D : va_G} {cA : ClassId} {h c0 d0 s0 r0 n : Nat} {s01 s02 : Nat} {Ls Bs : Nat → Int32}  : CtI l D cA y_B_count b_B_count 1 (some .int) ({ frames := 3, cells := 0, slots := 0, locals := 66 } : Room) [.ref h] (bo h c0 d0 s0 r0 (n) :: (shW cA s0 s01 s02 3000 13 Ls Bs (0))) (fun r (_ : Unit) => r = (-1)) (fun _ => (bo h c0 d0 s0 r0 (n) :: (shW cA s0 s01 s02 3000 13 Ls Bs (0)))) := by
  refine CtI.start (lv0 := [(0, .ref h)]) (by decide) rfl (Nat.le_of_ble_eq_true rfl) ?_
  intro p_ e_ s_ m_ args_ below_ meth_ c_ A_ C hr hin
  refine x_aload_n C d_B_count_0 rfl rfl ?_
  refine x_get C d_B_count_1 0 rfl rfl i_B 2 (by decide) lk_B_21 rfl rfl ?_
  refine x_getN C d_B_count_4 1 rfl rfl i_S 2 (by decide) lk_B_39 rfl rfl ?_
  refine x_iconst (v := (nI (1))) C d_B_count_7 (by decide) ?_
  refine x_icmp_geN (tgt := 15) C d_B_count_8 (by decide) (by omega) (by omega) (fun c8 => ?_) (fun c8 => ?_)
  · exact absurd c8 (by omega)
  · refine x_iconst (v := ((-1))) C d_B_count_11 (by decide) ?_
    refine x_goto (tgt := 31) C d_B_count_12 (by decide) ?_
    exact x_iret C hr d_B_count_31 () rfl (rfl)
set_option maxHeartbeats 4000000 in
theorem c_B_words_none {l : Launch} {D : va_G} {cA : ClassId} {h c0 d0 s0 r0 n : Nat} {s01 s02 : Nat} {Ls Bs : Nat → Int32}  : CtI l D cA y_B_words b_B_words 1 (some .int) ({ frames := 3, cells := 0, slots := 0, locals := 63 } : Room) [.ref h] (bo h c0 d0 s0 r0 (n) :: (shW cA s0 s01 s02 3000 13 Ls Bs (0))) (fun r (_ : Unit) => r = (-1)) (fun _ => (bo h c0 d0 s0 r0 (n) :: (shW cA s0 s01 s02 3000 13 Ls Bs (0)))) := by
  refine CtI.start (lv0 := [(0, .ref h)]) (by decide) rfl (Nat.le_of_ble_eq_true rfl) ?_
  intro p_ e_ s_ m_ args_ below_ meth_ c_ A_ C hr hin
  refine x_aload_n C d_B_words_0 rfl rfl ?_
  refine x_get C d_B_words_1 0 rfl rfl i_B 2 (by decide) lk_B_21 rfl rfl ?_
  refine x_getN C d_B_words_4 1 rfl rfl i_S 2 (by decide) lk_B_39 rfl rfl ?_
  refine x_iconst (v := (nI (1))) C d_B_words_7 (by decide) ?_
  refine x_icmp_geN (tgt := 15) C d_B_words_8 (by decide) (by omega) (by omega) (fun c8 => ?_) (fun c8 => ?_)
  · exact absurd c8 (by omega)
  · refine x_iconst (v := ((-1))) C d_B_words_11 (by decide) ?_
    refine x_goto (tgt := 31) C d_B_words_12 (by decide) ?_
    exact x_iret C hr d_B_words_31 () rfl (rfl)
set_option maxHeartbeats 4000000 in
theorem c_B_pop_none {l : Launch} {D : va_G} {cA : ClassId} {h c0 d0 s0 r0 n : Nat} {s01 s02 : Nat} {Ls Bs : Nat → Int32}  : CtI l D cA y_B_pop b_B_pop 1 (some .int) ({ frames := 1, cells := 0, slots := 0, locals := 20 } : Room) [.ref h] (bo h c0 d0 s0 r0 (n) :: (shW cA s0 s01 s02 3000 13 Ls Bs (0))) (fun r (_ : Unit) => r = (-4)) (fun _ => (bo h c0 d0 s0 r0 (n) :: (shW cA s0 s01 s02 3000 13 Ls Bs (0)))) := by
  refine CtI.start (lv0 := [(0, .ref h)]) (by decide) rfl (Nat.le_of_ble_eq_true rfl) ?_
  intro p_ e_ s_ m_ args_ below_ meth_ c_ A_ C hr hin
  refine x_aload_n C d_B_pop_0 rfl rfl ?_
  refine x_get C d_B_pop_1 0 rfl rfl i_B 2 (by decide) lk_B_21 rfl rfl ?_
  refine x_getN C d_B_pop_4 1 rfl rfl i_S 2 (by decide) lk_B_39 rfl rfl ?_
  refine x_iconst (v := (nI (1))) C d_B_pop_7 (by decide) ?_
  refine x_icmp_geN (tgt := 14) C d_B_pop_8 (by decide) (by omega) (by omega) (fun c8 => ?_) (fun c8 => ?_)
  · exact absurd c8 (by omega)
  · refine x_bipush (v := ((-4))) C d_B_pop_11 (by decide) ?_
    exact x_iret C hr d_B_pop_13 () rfl (rfl)
set_option maxHeartbeats 4000000 in
theorem c_B_word_none {l : Launch} {D : va_G} {cA : ClassId} {h c0 d0 s0 r0 n : Nat} {s01 s02 : Nat} {Ls Bs : Nat → Int32} {x : Int32}  : CtI l D cA y_B_word b_B_word 2 (some .int) ({ frames := 4, cells := 0, slots := 0, locals := 85 } : Room) [.ref h, .int x] (bo h c0 d0 s0 r0 (n) :: (shW cA s0 s01 s02 3000 13 Ls Bs (0))) (fun r (_ : Unit) => r = nI 0) (fun _ => (bo h c0 d0 s0 r0 (n) :: (shW cA s0 s01 s02 3000 13 Ls Bs (0)))) := by
  refine CtI.start (lv0 := [(0, .ref h), (1, .int x)]) (by decide) rfl (Nat.le_of_ble_eq_true rfl) ?_
  intro p_ e_ s_ m_ args_ below_ meth_ c_ A_ C hr hin
  refine x_aload_n C d_B_word_0 rfl rfl ?_
  refine x_get C d_B_word_1 0 rfl rfl i_B 2 (by decide) lk_B_21 rfl rfl ?_
  refine x_getN C d_B_word_4 1 rfl rfl i_S 2 (by decide) lk_B_39 rfl rfl ?_
  refine x_iconst (v := (nI (1))) C d_B_word_7 (by decide) ?_
  refine x_icmp_geN (tgt := 15) C d_B_word_8 (by decide) (by omega) (by omega) (fun c8 => ?_) (fun c8 => ?_)
  · exact absurd c8 (by omega)
  · refine x_iconst (v := (nI (0))) C d_B_word_11 (by decide) ?_
    refine x_goto (tgt := 32) C d_B_word_12 (by decide) ?_
    exact x_iret C hr d_B_word_32 () rfl (rfl)
set_option maxHeartbeats 4000000 in
theorem c_B_after_none {l : Launch} {D : va_G} {cA : ClassId} {h c0 d0 s0 r0 n : Nat} {s01 s02 : Nat} {Ls Bs : Nat → Int32} {x : Int32}  : CtI l D cA y_B_after b_B_after 2 (some .int) ({ frames := 3, cells := 0, slots := 0, locals := 71 } : Room) [.ref h, .int x] (bo h c0 d0 s0 r0 (n) :: (shW cA s0 s01 s02 3000 13 Ls Bs (0))) (fun r (_ : Unit) => r = -1) (fun _ => (bo h c0 d0 s0 r0 (n) :: (shW cA s0 s01 s02 3000 13 Ls Bs (0)))) := by
  refine CtI.start (lv0 := [(0, .ref h), (1, .int x)]) (by decide) rfl (Nat.le_of_ble_eq_true rfl) ?_
  intro p_ e_ s_ m_ args_ below_ meth_ c_ A_ C hr hin
  refine x_aload_n C d_B_after_0 rfl rfl ?_
  refine x_get C d_B_after_1 0 rfl rfl i_B 2 (by decide) lk_B_21 rfl rfl ?_
  refine x_getN C d_B_after_4 1 rfl rfl i_S 2 (by decide) lk_B_39 rfl rfl ?_
  refine x_iconst (v := (nI (1))) C d_B_after_7 (by decide) ?_
  refine x_icmp_ltN (tgt := 19) C d_B_after_8 (by decide) (by omega) (by omega) (fun c8 => ?_) (fun c8 => ?_)
  · refine x_iconst (v := ((-1))) C d_B_after_19 (by decide) ?_
    exact x_iret C hr d_B_after_20 () rfl (rfl)
  · exact absurd c8 (by omega)
set_option maxHeartbeats 4000000 in
theorem c_B_count {l : Launch} {D : va_G} {cA : ClassId} {h c0 d0 s0 r0 n : Nat} {s01 s02 : Nat} {Ls Bs : Nat → Int32} {k : Nat} {ss : List (List Int32)} {f : Nat → Bool} (hS : Hs 3000 13 Ls Bs (ss ++ [wI n f])) (hk : ss.length + 1 = k) (hs : sup n f) (hn : n ≤ 1000000)  : CtI l D cA y_B_count b_B_count 1 (some .int) ({ frames := 3, cells := 0, slots := 0, locals := 66 } : Room) [.ref h] (bo h c0 d0 s0 r0 (n) :: (shW cA s0 s01 s02 3000 13 Ls Bs (k))) (fun r (_ : Unit) => r = nI (cn f n)) (fun _ => (bo h c0 d0 s0 r0 (n) :: (shW cA s0 s01 s02 3000 13 Ls Bs (k)))) := by
  subst hk
  refine CtI.start (lv0 := [(0, .ref h)]) (by decide) rfl (Nat.le_of_ble_eq_true rfl) ?_
  intro p_ e_ s_ m_ args_ below_ meth_ c_ A_ C hr hin
  have hn1 := hS.in
  refine x_aload_n C d_B_count_0 rfl rfl ?_
  refine x_get C d_B_count_1 0 rfl rfl i_B 2 (by decide) lk_B_21 rfl rfl ?_
  refine x_getN C d_B_count_4 1 rfl rfl i_S 2 (by decide) lk_B_39 rfl rfl ?_
  refine x_iconst (v := (nI (1))) C d_B_count_7 (by decide) ?_
  refine x_icmp_geN (tgt := 15) C d_B_count_8 (by decide) (by omega) (by omega) (fun c8 => ?_) (fun c8 => ?_)
  · refine x_aload_n C d_B_count_15 rfl rfl ?_
    refine x_get C d_B_count_16 0 rfl rfl i_B 2 (by decide) lk_B_21 rfl rfl ?_
    refine x_aload_n C d_B_count_19 rfl rfl ?_
    refine x_get C d_B_count_20 0 rfl rfl i_B 2 (by decide) lk_B_21 rfl rfl ?_
    refine x_getN C d_B_count_23 1 rfl rfl i_S 2 (by decide) lk_B_39 rfl rfl ?_
    refine x_iconst (v := (nI (1))) C d_B_count_26 (by decide) ?_
    refine x_isubN C d_B_count_27 (by omega) ?_
    refine x_top (y := (nI (ss.length))) (by congr 1) ?_
    refine x_callVI (wr := [(h, .inr (1, [.ref c0, .ref d0, .ref s0, .ref r0, .int (nI n)]))]) (rest := []) C (c_S_rowsOf (fs := Wd n f) hS rfl (Wd_ok hn)) d_B_count_28 cd_S_rowsOf lk_B_69 dd_S_rowsOf rfl ⟨Nat.le_of_ble_eq_true rfl, Nat.le_of_ble_eq_true rfl⟩ ⟨Nat.le_refl _, Nat.le_refl _⟩ 0 0 rfl rfl [1, 2, 3] [0] rfl rfl (by decide) (by decide) (by decide) rfl (Nat.le_of_ble_eq_true rfl) ?_
    intro r_ u_ hp_
    obtain rfl := hp_
    exact x_iret C hr d_B_count_31 () rfl (by rw [(Wd_rep n f).count hs])
  · exact absurd c8 (by omega)
set_option maxHeartbeats 4000000 in
theorem c_B_words {l : Launch} {D : va_G} {cA : ClassId} {h c0 d0 s0 r0 n : Nat} {s01 s02 : Nat} {Ls Bs : Nat → Int32} {k : Nat} {ss : List (List Int32)} {f : Nat → Bool} (hS : Hs 3000 13 Ls Bs (ss ++ [wI n f])) (hk : ss.length + 1 = k)  : CtI l D cA y_B_words b_B_words 1 (some .int) ({ frames := 3, cells := 0, slots := 0, locals := 63 } : Room) [.ref h] (bo h c0 d0 s0 r0 (n) :: (shW cA s0 s01 s02 3000 13 Ls Bs (k))) (fun r (_ : Unit) => r = nI (wI n f).length) (fun _ => (bo h c0 d0 s0 r0 (n) :: (shW cA s0 s01 s02 3000 13 Ls Bs (k)))) := by
  subst hk
  refine CtI.start (lv0 := [(0, .ref h)]) (by decide) rfl (Nat.le_of_ble_eq_true rfl) ?_
  intro p_ e_ s_ m_ args_ below_ meth_ c_ A_ C hr hin
  have hn1 := hS.in
  refine x_aload_n C d_B_words_0 rfl rfl ?_
  refine x_get C d_B_words_1 0 rfl rfl i_B 2 (by decide) lk_B_21 rfl rfl ?_
  refine x_getN C d_B_words_4 1 rfl rfl i_S 2 (by decide) lk_B_39 rfl rfl ?_
  refine x_iconst (v := (nI (1))) C d_B_words_7 (by decide) ?_
  refine x_icmp_geN (tgt := 15) C d_B_words_8 (by decide) (by omega) (by omega) (fun c8 => ?_) (fun c8 => ?_)
  · refine x_aload_n C d_B_words_15 rfl rfl ?_
    refine x_get C d_B_words_16 0 rfl rfl i_B 2 (by decide) lk_B_21 rfl rfl ?_
    refine x_aload_n C d_B_words_19 rfl rfl ?_
    refine x_get C d_B_words_20 0 rfl rfl i_B 2 (by decide) lk_B_21 rfl rfl ?_
    refine x_getN C d_B_words_23 1 rfl rfl i_S 2 (by decide) lk_B_39 rfl rfl ?_
    refine x_iconst (v := (nI (1))) C d_B_words_26 (by decide) ?_
    refine x_isubN C d_B_words_27 (by omega) ?_
    refine x_top (y := (nI (ss.length))) (by congr 1) ?_
    refine x_callVI (wr := [(h, .inr (1, [.ref c0, .ref d0, .ref s0, .ref r0, .int (nI n)]))]) (rest := []) C (c_S_size (i := ss.length) hS (by simp) (by simp)) d_B_words_28 cd_S_size lk_B_81 dd_S_size rfl ⟨Nat.le_of_ble_eq_true rfl, Nat.le_of_ble_eq_true rfl⟩ ⟨Nat.le_refl _, Nat.le_refl _⟩ 0 0 rfl rfl [1, 2, 3] [0] rfl rfl (by decide) (by decide) (by decide) rfl (Nat.le_of_ble_eq_true rfl) ?_
    intro r_ u_ hp_
    obtain rfl := hp_
    exact x_iret C hr d_B_words_31 () rfl (by congr 1; simp)
  · exact absurd c8 (by omega)
set_option maxHeartbeats 4000000 in
theorem c_B_word {l : Launch} {D : va_G} {cA : ClassId} {h c0 d0 s0 r0 n : Nat} {s01 s02 : Nat} {Ls Bs : Nat → Int32} {k : Nat} {ss : List (List Int32)} {f : Nat → Bool} (hS : Hs 3000 13 Ls Bs (ss ++ [wI n f])) (hk : ss.length + 1 = k) {x : Int32}  : CtI l D cA y_B_word b_B_word 2 (some .int) ({ frames := 4, cells := 0, slots := 0, locals := 85 } : Room) [.ref h, .int x] (bo h c0 d0 s0 r0 (n) :: (shW cA s0 s01 s02 3000 13 Ls Bs (k))) (fun r (_ : Unit) => r = if ¬ x < 0 ∧ x < nI (wI n f).length then (wI n f).getD x.toNatClampNeg 0 else nI 0) (fun _ => (bo h c0 d0 s0 r0 (n) :: (shW cA s0 s01 s02 3000 13 Ls Bs (k)))) := by
  subst hk
  refine CtI.start (lv0 := [(0, .ref h), (1, .int x)]) (by decide) rfl (Nat.le_of_ble_eq_true rfl) ?_
  intro p_ e_ s_ m_ args_ below_ meth_ c_ A_ C hr hin
  have hn1 := hS.in
  refine x_aload_n C d_B_word_0 rfl rfl ?_
  refine x_get C d_B_word_1 0 rfl rfl i_B 2 (by decide) lk_B_21 rfl rfl ?_
  refine x_getN C d_B_word_4 1 rfl rfl i_S 2 (by decide) lk_B_39 rfl rfl ?_
  refine x_iconst (v := (nI (1))) C d_B_word_7 (by decide) ?_
  refine x_icmp_geN (tgt := 15) C d_B_word_8 (by decide) (by omega) (by omega) (fun c8 => ?_) (fun c8 => ?_)
  · refine x_aload_n C d_B_word_15 rfl rfl ?_
    refine x_get C d_B_word_16 0 rfl rfl i_B 2 (by decide) lk_B_21 rfl rfl ?_
    refine x_aload_n C d_B_word_19 rfl rfl ?_
    refine x_get C d_B_word_20 0 rfl rfl i_B 2 (by decide) lk_B_21 rfl rfl ?_
    refine x_getN C d_B_word_23 1 rfl rfl i_S 2 (by decide) lk_B_39 rfl rfl ?_
    refine x_iconst (v := (nI (1))) C d_B_word_26 (by decide) ?_
    refine x_isubN C d_B_word_27 (by omega) ?_
    refine x_top (y := (nI (ss.length))) (by congr 1) ?_
    refine x_iload_n C d_B_word_28 rfl rfl ?_
    refine x_callVI (wr := [(h, .inr (1, [.ref c0, .ref d0, .ref s0, .ref r0, .int (nI n)]))]) (rest := []) C (c_S_wordOf (i := ss.length) (x := x) hS (by simp) (by simp)) d_B_word_29 cd_S_wordOf lk_B_84 dd_S_wordOf rfl ⟨Nat.le_of_ble_eq_true rfl, Nat.le_of_ble_eq_true rfl⟩ ⟨Nat.le_refl _, Nat.le_refl _⟩ 0 0 rfl rfl [1, 2, 3] [0] rfl rfl (by decide) (by decide) (by decide) rfl (Nat.le_of_ble_eq_true rfl) ?_
    intro r_ u_ hp_
    exact x_iret C hr d_B_word_32 () rfl (by rw [hp_]; simp)
  · exact absurd c8 (by omega)
set_option maxHeartbeats 4000000 in
theorem c_B_pop {l : Launch} {D : va_G} {cA : ClassId} {h c0 d0 s0 r0 n : Nat} {s01 s02 : Nat} {Ls Bs : Nat → Int32} {k : Nat} {ss : List (List Int32)} {f : Nat → Bool} (hS : Hs 3000 13 Ls Bs (ss ++ [wI n f])) (hk : ss.length + 1 = k)  : CtI l D cA y_B_pop b_B_pop 1 (some .int) ({ frames := 1, cells := 0, slots := 0, locals := 20 } : Room) [.ref h] (bo h c0 d0 s0 r0 (n) :: (shW cA s0 s01 s02 3000 13 Ls Bs (k))) (fun r (_ : Unit) => r = nI (k - 1)) (fun _ => (bo h c0 d0 s0 r0 (n) :: (shW cA s0 s01 s02 3000 13 Ls Bs (k - 1)))) := by
  subst hk
  refine CtI.start (lv0 := [(0, .ref h)]) (by decide) rfl (Nat.le_of_ble_eq_true rfl) ?_
  intro p_ e_ s_ m_ args_ below_ meth_ c_ A_ C hr hin
  have hn1 := hS.in
  refine x_aload_n C d_B_pop_0 rfl rfl ?_
  refine x_get C d_B_pop_1 0 rfl rfl i_B 2 (by decide) lk_B_21 rfl rfl ?_
  refine x_getN C d_B_pop_4 1 rfl rfl i_S 2 (by decide) lk_B_39 rfl rfl ?_
  refine x_iconst (v := (nI (1))) C d_B_pop_7 (by decide) ?_
  refine x_icmp_geN (tgt := 14) C d_B_pop_8 (by decide) (by omega) (by omega) (fun c8 => ?_) (fun c8 => ?_)
  · refine x_aload_n C d_B_pop_14 rfl rfl ?_
    refine x_get C d_B_pop_15 0 rfl rfl i_B 2 (by decide) lk_B_21 rfl rfl ?_
    refine x_callVV (wr := [(h, .inr (1, [.ref c0, .ref d0, .ref s0, .ref r0, .int (nI n)]))]) (rest := []) C (c_S_drop hS rfl) d_B_pop_18 cd_S_drop lk_B_87 dd_S_drop rfl ⟨Nat.le_of_ble_eq_true rfl, Nat.le_of_ble_eq_true rfl⟩ ⟨Nat.le_refl _, Nat.le_refl _⟩ 0 0 rfl rfl [1, 2, 3] [0] rfl rfl (by decide) (by decide) (by decide) rfl (Nat.le_of_ble_eq_true rfl) ?_
    intro u_ hp_
    refine x_aload_n C d_B_pop_21 rfl rfl ?_
    refine x_get C d_B_pop_22 0 rfl rfl i_B 2 (by decide) lk_B_21 rfl rfl ?_
    refine x_getN C d_B_pop_25 1 rfl rfl i_S 2 (by decide) lk_B_39 rfl rfl ?_
    exact x_iret C hr d_B_pop_28 () rfl (rfl)
  · exact absurd c8 (by omega)
set_option maxHeartbeats 4000000 in
theorem c_B_after_out {l : Launch} {D : va_G} {cA : ClassId} {h c0 d0 s0 r0 n : Nat} {s01 s02 : Nat} {Ls Bs : Nat → Int32} {k : Nat} {ss : List (List Int32)} {f : Nat → Bool} (hS : Hs 3000 13 Ls Bs (ss ++ [wI n f])) (hk : ss.length + 1 = k) {x : Int32} (hx : nI n ≤ x)  : CtI l D cA y_B_after b_B_after 2 (some .int) ({ frames := 3, cells := 0, slots := 0, locals := 71 } : Room) [.ref h, .int x] (bo h c0 d0 s0 r0 (n) :: (shW cA s0 s01 s02 3000 13 Ls Bs (k))) (fun r (_ : Unit) => r = -1) (fun _ => (bo h c0 d0 s0 r0 (n) :: (shW cA s0 s01 s02 3000 13 Ls Bs (k)))) := by
  subst hk
  refine CtI.start (lv0 := [(0, .ref h), (1, .int x)]) (by decide) rfl (Nat.le_of_ble_eq_true rfl) ?_
  intro p_ e_ s_ m_ args_ below_ meth_ c_ A_ C hr hin
  have hn1 := hS.in
  refine x_aload_n C d_B_after_0 rfl rfl ?_
  refine x_get C d_B_after_1 0 rfl rfl i_B 2 (by decide) lk_B_21 rfl rfl ?_
  refine x_getN C d_B_after_4 1 rfl rfl i_S 2 (by decide) lk_B_39 rfl rfl ?_
  refine x_iconst (v := (nI (1))) C d_B_after_7 (by decide) ?_
  refine x_icmp_ltN (tgt := 19) C d_B_after_8 (by decide) (by omega) (by omega) (fun c8 => ?_) (fun c8 => ?_)
  · exact absurd c8 (by omega)
  · refine x_iload_n C d_B_after_11 rfl rfl ?_
    refine x_aload_n C d_B_after_12 rfl rfl ?_
    refine x_get C d_B_after_13 0 rfl rfl i_B 4 (by decide) lk_B_27 rfl rfl ?_
    refine x_icmp_lt (tgt := 21) C d_B_after_16 (by decide)  (fun c16 => ?_) (fun c16 => ?_)
    · exact absurd c16 (Int32.not_lt.mpr hx)
    · refine x_iconst (v := ((-1))) C d_B_after_19 (by decide) ?_
      exact x_iret C hr d_B_after_20 () rfl (rfl)
set_option maxHeartbeats 4000000 in
theorem c_B_after_neg {l : Launch} {D : va_G} {cA : ClassId} {h c0 d0 s0 r0 n : Nat} {s01 s02 : Nat} {Ls Bs : Nat → Int32} {k : Nat} {ss : List (List Int32)} {f : Nat → Bool} (hS : Hs 3000 13 Ls Bs (ss ++ [wI n f])) (hk : ss.length + 1 = k) {x : Int32} (hx : x < 0) (hs : sup n f) (hn : n ≤ 1000000)  : CtI l D cA y_B_after b_B_after 2 (some .int) ({ frames := 3, cells := 0, slots := 0, locals := 71 } : Room) [.ref h, .int x] (bo h c0 d0 s0 r0 (n) :: (shW cA s0 s01 s02 3000 13 Ls Bs (k))) (fun r (_ : Unit) => fst f 0 r) (fun _ => (bo h c0 d0 s0 r0 (n) :: (shW cA s0 s01 s02 3000 13 Ls Bs (k)))) := by
  subst hk
  refine CtI.start (lv0 := [(0, .ref h), (1, .int x)]) (by decide) rfl (Nat.le_of_ble_eq_true rfl) ?_
  intro p_ e_ s_ m_ args_ below_ meth_ c_ A_ C hr hin
  have hn1 := hS.in
  refine x_aload_n C d_B_after_0 rfl rfl ?_
  refine x_get C d_B_after_1 0 rfl rfl i_B 2 (by decide) lk_B_21 rfl rfl ?_
  refine x_getN C d_B_after_4 1 rfl rfl i_S 2 (by decide) lk_B_39 rfl rfl ?_
  refine x_iconst (v := (nI (1))) C d_B_after_7 (by decide) ?_
  refine x_icmp_ltN (tgt := 19) C d_B_after_8 (by decide) (by omega) (by omega) (fun c8 => ?_) (fun c8 => ?_)
  · exact absurd c8 (by omega)
  · refine x_iload_n C d_B_after_11 rfl rfl ?_
    refine x_aload_n C d_B_after_12 rfl rfl ?_
    refine x_get C d_B_after_13 0 rfl rfl i_B 4 (by decide) lk_B_27 rfl rfl ?_
    refine x_icmp_lt (tgt := 21) C d_B_after_16 (by decide)  (fun c16 => ?_) (fun c16 => ?_)
    · refine x_aload_n C d_B_after_21 rfl rfl ?_
      refine x_get C d_B_after_22 0 rfl rfl i_B 2 (by decide) lk_B_21 rfl rfl ?_
      refine x_aload_n C d_B_after_25 rfl rfl ?_
      refine x_get C d_B_after_26 0 rfl rfl i_B 2 (by decide) lk_B_21 rfl rfl ?_
      refine x_getN C d_B_after_29 1 rfl rfl i_S 2 (by decide) lk_B_39 rfl rfl ?_
      refine x_iconst (v := (nI (1))) C d_B_after_32 (by decide) ?_
      refine x_isubN C d_B_after_33 (by omega) ?_
      refine x_top (y := (nI (ss.length))) (by congr 1) ?_
      refine x_iload_n C d_B_after_34 rfl rfl ?_
      refine x_iconst (v := ((-1))) C d_B_after_35 (by decide) ?_
      refine x_mmax C d_B_after_36 lk_B_72 ma_max_st ini_Ma ma_max_cd ⟨Nat.le_of_ble_eq_true rfl, Nat.le_of_ble_eq_true rfl, Nat.zero_le _, Nat.zero_le _⟩  ?_
      refine x_iconst (v := (nI (1))) C d_B_after_39 (by decide) ?_
      refine x_iadd C d_B_after_40  ?_
      refine x_top (y := (nI (0))) (aft_neg hx) ?_
      refine x_callVI (wr := [(h, .inr (1, [.ref c0, .ref d0, .ref s0, .ref r0, .int (nI n)]))]) (rest := []) C (c_S_firstFrom (fs := Wd n f) (row := 0) hS rfl (Wd_rep n f) hs (by omega) hn) d_B_after_41 cd_S_firstFrom lk_B_78 dd_S_firstFrom rfl ⟨Nat.le_of_ble_eq_true rfl, Nat.le_of_ble_eq_true rfl⟩ ⟨Nat.le_refl _, Nat.le_refl _⟩ 0 0 rfl rfl [1, 2, 3] [0] rfl rfl (by decide) (by decide) (by decide) rfl (Nat.le_of_ble_eq_true rfl) ?_
      intro r_ u_ hp_
      exact x_iret C hr d_B_after_44 () rfl (hp_)
    · exact absurd (Int32.lt_of_lt_of_le hx (nI_pos' (by omega))) c16
set_option maxHeartbeats 4000000 in
theorem c_B_after_pos {l : Launch} {D : va_G} {cA : ClassId} {h c0 d0 s0 r0 n : Nat} {s01 s02 : Nat} {Ls Bs : Nat → Int32} {k : Nat} {ss : List (List Int32)} {f : Nat → Bool} (hS : Hs 3000 13 Ls Bs (ss ++ [wI n f])) (hk : ss.length + 1 = k) {j : Nat} (hj : j < n) (hs : sup n f) (hn : n ≤ 1000000)  : CtI l D cA y_B_after b_B_after 2 (some .int) ({ frames := 3, cells := 0, slots := 0, locals := 71 } : Room) [.ref h, .int (nI j)] (bo h c0 d0 s0 r0 (n) :: (shW cA s0 s01 s02 3000 13 Ls Bs (k))) (fun r (_ : Unit) => fst f (j + 1) r) (fun _ => (bo h c0 d0 s0 r0 (n) :: (shW cA s0 s01 s02 3000 13 Ls Bs (k)))) := by
  subst hk
  refine CtI.start (lv0 := [(0, .ref h), (1, .int (nI j))]) (by decide) rfl (Nat.le_of_ble_eq_true rfl) ?_
  intro p_ e_ s_ m_ args_ below_ meth_ c_ A_ C hr hin
  have hn1 := hS.in
  refine x_aload_n C d_B_after_0 rfl rfl ?_
  refine x_get C d_B_after_1 0 rfl rfl i_B 2 (by decide) lk_B_21 rfl rfl ?_
  refine x_getN C d_B_after_4 1 rfl rfl i_S 2 (by decide) lk_B_39 rfl rfl ?_
  refine x_iconst (v := (nI (1))) C d_B_after_7 (by decide) ?_
  refine x_icmp_ltN (tgt := 19) C d_B_after_8 (by decide) (by omega) (by omega) (fun c8 => ?_) (fun c8 => ?_)
  · exact absurd c8 (by omega)
  · refine x_iload_n C d_B_after_11 rfl rfl ?_
    refine x_aload_n C d_B_after_12 rfl rfl ?_
    refine x_get C d_B_after_13 0 rfl rfl i_B 4 (by decide) lk_B_27 rfl rfl ?_
    refine x_icmp_ltN (tgt := 21) C d_B_after_16 (by decide) (by omega) (by omega) (fun c16 => ?_) (fun c16 => ?_)
    · refine x_aload_n C d_B_after_21 rfl rfl ?_
      refine x_get C d_B_after_22 0 rfl rfl i_B 2 (by decide) lk_B_21 rfl rfl ?_
      refine x_aload_n C d_B_after_25 rfl rfl ?_
      refine x_get C d_B_after_26 0 rfl rfl i_B 2 (by decide) lk_B_21 rfl rfl ?_
      refine x_getN C d_B_after_29 1 rfl rfl i_S 2 (by decide) lk_B_39 rfl rfl ?_
      refine x_iconst (v := (nI (1))) C d_B_after_32 (by decide) ?_
      refine x_isubN C d_B_after_33 (by omega) ?_
      refine x_top (y := (nI (ss.length))) (by congr 1) ?_
      refine x_iload_n C d_B_after_34 rfl rfl ?_
      refine x_iconst (v := ((-1))) C d_B_after_35 (by decide) ?_
      refine x_mmax C d_B_after_36 lk_B_72 ma_max_st ini_Ma ma_max_cd ⟨Nat.le_of_ble_eq_true rfl, Nat.le_of_ble_eq_true rfl, Nat.zero_le _, Nat.zero_le _⟩  ?_
      refine x_iconst (v := (nI (1))) C d_B_after_39 (by decide) ?_
      refine x_iadd C d_B_after_40  ?_
      refine x_top (y := (nI (j + 1))) (aft_pos (by omega)) ?_
      refine x_callVI (wr := [(h, .inr (1, [.ref c0, .ref d0, .ref s0, .ref r0, .int (nI n)]))]) (rest := []) C (c_S_firstFrom (fs := Wd n f) (row := j + 1) hS rfl (Wd_rep n f) hs (by omega) hn) d_B_after_41 cd_S_firstFrom lk_B_78 dd_S_firstFrom rfl ⟨Nat.le_of_ble_eq_true rfl, Nat.le_of_ble_eq_true rfl⟩ ⟨Nat.le_refl _, Nat.le_refl _⟩ 0 0 rfl rfl [1, 2, 3] [0] rfl rfl (by decide) (by decide) (by decide) rfl (Nat.le_of_ble_eq_true rfl) ?_
      intro r_ u_ hp_
      exact x_iret C hr d_B_after_44 () rfl (hp_)
    · exact absurd c16 (by omega)
set_option maxHeartbeats 4000000 in
theorem c_B_copy {l : Launch} {D : va_G} {cA : ClassId} {h c0 d0 s0 r0 n : Nat} {s01 s02 : Nat} {Ls Bs : Nat → Int32} {k : Nat} {ss : List (List Int32)} {f : Nat → Bool} (hS : Hs 3000 13 Ls Bs (ss ++ [wI n f])) (hk : ss.length + 1 = k) (h12 : k < 12) (hfit : tot (ss ++ [wI n f]) + (wI n f).length ≤ 3000)  : CtI l D cA y_B_copy b_B_copy 1 (some .int) ({ frames := 5, cells := 0, slots := 0, locals := 108 } : Room) [.ref h] (bo h c0 d0 s0 r0 (n) :: (shW cA s0 s01 s02 3000 13 Ls Bs (k))) (fun r (u : (Nat → Int32) × (Nat → Int32)) => r = nI (k + 1) ∧ Hs 3000 13 u.1 u.2 (ss ++ [wI n f] ++ [wI n f])) (fun u => (bo h c0 d0 s0 r0 (n) :: (shW cA s0 s01 s02 3000 13 u.1 u.2 (k + 1)))) := by
  subst hk
  refine CtI.start (lv0 := [(0, .ref h)]) (by decide) rfl (Nat.le_of_ble_eq_true rfl) ?_
  intro p_ e_ s_ m_ args_ below_ meth_ c_ A_ C hr hin
  have hn1 := hS.in
  refine x_aload_n C d_B_copy_0 rfl rfl ?_
  refine x_get C d_B_copy_1 0 rfl rfl i_B 2 (by decide) lk_B_21 rfl rfl ?_
  refine x_getN C d_B_copy_4 1 rfl rfl i_S 2 (by decide) lk_B_39 rfl rfl ?_
  refine x_iconst (v := (nI (1))) C d_B_copy_7 (by decide) ?_
  refine x_icmp_geN (tgt := 14) C d_B_copy_8 (by decide) (by omega) (by omega) (fun c8 => ?_) (fun c8 => ?_)
  · refine x_aload_n C d_B_copy_14 rfl rfl ?_
    refine x_aload_n C d_B_copy_15 rfl rfl ?_
    refine x_get C d_B_copy_16 0 rfl rfl i_B 2 (by decide) lk_B_21 rfl rfl ?_
    refine x_aload_n C d_B_copy_19 rfl rfl ?_
    refine x_get C d_B_copy_20 0 rfl rfl i_B 2 (by decide) lk_B_21 rfl rfl ?_
    refine x_getN C d_B_copy_23 1 rfl rfl i_S 2 (by decide) lk_B_39 rfl rfl ?_
    refine x_iconst (v := (nI (1))) C d_B_copy_26 (by decide) ?_
    refine x_isubN C d_B_copy_27 (by omega) ?_
    refine x_top (y := (nI (ss.length))) (by congr 1) ?_
    refine x_callVI (wr := []) (rest := []) C (c_B_stackUp_self (i := ss.length) hS (by simp) (by simp) (by omega) (by simpa using hfit)) d_B_copy_28 cd_B_stackUp lk_B_53 dd_B_stackUp rfl ⟨Nat.le_of_ble_eq_true rfl, Nat.le_of_ble_eq_true rfl⟩ ⟨Nat.le_refl _, Nat.le_refl _⟩ 1 0 rfl rfl [0, 1, 2, 3] [] rfl rfl (by decide) (by decide) (by decide) rfl (Nat.le_of_ble_eq_true rfl) ?_
    intro r_ u28 hp_
    obtain ⟨rfl, hp28⟩ := hp_
    exact x_iret C hr d_B_copy_31 u28 rfl (⟨rfl, by simpa using hp28⟩)
  · exact absurd c8 (by omega)
set_option maxHeartbeats 4000000 in
theorem c_B_copy_full {l : Launch} {D : va_G} {cA : ClassId} {h c0 d0 s0 r0 n : Nat} {s01 s02 : Nat} {Ls Bs : Nat → Int32} {k : Nat} {ss : List (List Int32)} {f : Nat → Bool} (hS : Hs 3000 13 Ls Bs (ss ++ [wI n f])) (hk : ss.length + 1 = k) (hno : 12 ≤ k ∨ 3000 < tot (ss ++ [wI n f]) + (wI n f).length)  : CtI l D cA y_B_copy b_B_copy 1 (some .int) ({ frames := 5, cells := 0, slots := 0, locals := 108 } : Room) [.ref h] (bo h c0 d0 s0 r0 (n) :: (shW cA s0 s01 s02 3000 13 Ls Bs (k))) (fun r (_ : Unit) => r = -3) (fun _ => (bo h c0 d0 s0 r0 (n) :: (shW cA s0 s01 s02 3000 13 Ls Bs (k)))) := by
  subst hk
  refine CtI.start (lv0 := [(0, .ref h)]) (by decide) rfl (Nat.le_of_ble_eq_true rfl) ?_
  intro p_ e_ s_ m_ args_ below_ meth_ c_ A_ C hr hin
  have hn1 := hS.in
  refine x_aload_n C d_B_copy_0 rfl rfl ?_
  refine x_get C d_B_copy_1 0 rfl rfl i_B 2 (by decide) lk_B_21 rfl rfl ?_
  refine x_getN C d_B_copy_4 1 rfl rfl i_S 2 (by decide) lk_B_39 rfl rfl ?_
  refine x_iconst (v := (nI (1))) C d_B_copy_7 (by decide) ?_
  refine x_icmp_geN (tgt := 14) C d_B_copy_8 (by decide) (by omega) (by omega) (fun c8 => ?_) (fun c8 => ?_)
  · refine x_aload_n C d_B_copy_14 rfl rfl ?_
    refine x_aload_n C d_B_copy_15 rfl rfl ?_
    refine x_get C d_B_copy_16 0 rfl rfl i_B 2 (by decide) lk_B_21 rfl rfl ?_
    refine x_aload_n C d_B_copy_19 rfl rfl ?_
    refine x_get C d_B_copy_20 0 rfl rfl i_B 2 (by decide) lk_B_21 rfl rfl ?_
    refine x_getN C d_B_copy_23 1 rfl rfl i_S 2 (by decide) lk_B_39 rfl rfl ?_
    refine x_iconst (v := (nI (1))) C d_B_copy_26 (by decide) ?_
    refine x_isubN C d_B_copy_27 (by omega) ?_
    refine x_top (y := (nI (ss.length))) (by congr 1) ?_
    refine x_callVI (wr := []) (rest := []) C (c_B_stackUp_self_full (i := ss.length) hS (by simp) (by simp) (by simpa using hno)) d_B_copy_28 cd_B_stackUp lk_B_53 dd_B_stackUp rfl ⟨Nat.le_of_ble_eq_true rfl, Nat.le_of_ble_eq_true rfl⟩ ⟨Nat.le_refl _, Nat.le_refl _⟩ 1 0 rfl rfl [0, 1, 2, 3] [] rfl rfl (by decide) (by decide) (by decide) rfl (Nat.le_of_ble_eq_true rfl) ?_
    intro r_ u_ hp_
    obtain rfl := hp_
    exact x_iret C hr d_B_copy_31 () rfl (rfl)
  · exact absurd c8 (by omega)
set_option maxHeartbeats 4000000 in
theorem c_B_stackRoom {l : Launch} {D : va_G} {cA : ClassId} {h c0 d0 s0 r0 n : Nat} {s01 s02 : Nat} {Ls Bs : Nat → Int32} {k : Nat} {ss : List (List Int32)} (hS : Hs 3000 13 Ls Bs ss) (hk : ss.length = k)  : CtI l D cA y_B_stackRoom b_B_stackRoom 1 (some .int) ({ frames := 1, cells := 0, slots := 0, locals := 20 } : Room) [.ref h] (bo h c0 d0 s0 r0 (n) :: (shW cA s0 s01 s02 3000 13 Ls Bs (k))) (fun r (_ : Unit) => r = nI (tot ss)) (fun _ => (bo h c0 d0 s0 r0 (n) :: (shW cA s0 s01 s02 3000 13 Ls Bs (k)))) := by
  subst hk
  refine CtI.start (lv0 := [(0, .ref h)]) (by decide) rfl (Nat.le_of_ble_eq_true rfl) ?_
  intro p_ e_ s_ m_ args_ below_ meth_ c_ A_ C hr hin
  refine x_aload_n C d_B_stackRoom_0 rfl rfl ?_
  refine x_get C d_B_stackRoom_1 0 rfl rfl i_B 2 (by decide) lk_B_21 rfl rfl ?_
  refine x_callVI (wr := [(h, .inr (1, [.ref c0, .ref d0, .ref s0, .ref r0, .int (nI n)]))]) (rest := []) C (c_S_used hS rfl) d_B_stackRoom_4 cd_S_used lk_B_49 dd_S_used rfl ⟨Nat.le_of_ble_eq_true rfl, Nat.le_of_ble_eq_true rfl⟩ ⟨Nat.le_refl _, Nat.le_refl _⟩ 0 0 rfl rfl [1, 2, 3] [0] rfl rfl (by decide) (by decide) (by decide) rfl (Nat.le_of_ble_eq_true rfl) ?_
  intro r_ u_ hp_
  obtain rfl := hp_
  exact x_iret C hr d_B_stackRoom_7 () rfl (rfl)
set_option maxHeartbeats 4000000 in
theorem c_B_room {l : Launch} {D : va_G} {cA : ClassId} {h c0 d0 s0 r0 n : Nat} {c01 c02 : Nat} {Lc Bc : Nat → Int32} {k : Nat} {cs : List (List Int32)} (hC : Hs 2096 33 Lc Bc cs) (hk : cs.length = k)  : CtI l D cA y_B_room b_B_room 1 (some .int) ({ frames := 1, cells := 0, slots := 0, locals := 20 } : Room) [.ref h] (bo h c0 d0 s0 r0 (n) :: (shW cA c0 c01 c02 2096 33 Lc Bc (k))) (fun r (_ : Unit) => r = nI (tot cs)) (fun _ => (bo h c0 d0 s0 r0 (n) :: (shW cA c0 c01 c02 2096 33 Lc Bc (k)))) := by
  subst hk
  refine CtI.start (lv0 := [(0, .ref h)]) (by decide) rfl (Nat.le_of_ble_eq_true rfl) ?_
  intro p_ e_ s_ m_ args_ below_ meth_ c_ A_ C hr hin
  refine x_aload_n C d_B_room_0 rfl rfl ?_
  refine x_get C d_B_room_1 0 rfl rfl i_B 0 (by decide) lk_B_14 rfl rfl ?_
  refine x_callVI (wr := [(h, .inr (1, [.ref c0, .ref d0, .ref s0, .ref r0, .int (nI n)]))]) (rest := []) C (c_S_used hC rfl) d_B_room_4 cd_S_used lk_B_49 dd_S_used rfl ⟨Nat.le_of_ble_eq_true rfl, Nat.le_of_ble_eq_true rfl⟩ ⟨Nat.le_refl _, Nat.le_refl _⟩ 0 0 rfl rfl [1, 2, 3] [0] rfl rfl (by decide) (by decide) (by decide) rfl (Nat.le_of_ble_eq_true rfl) ?_
  intro r_ u_ hp_
  obtain rfl := hp_
  exact x_iret C hr d_B_room_7 () rfl (rfl)
set_option maxHeartbeats 4000000 in
theorem c_B_rows {l : Launch} {D : va_G} {cA : ClassId} {h c0 d0 s0 r0 n : Nat}  : CtI l D cA y_B_rows b_B_rows 1 (some .int) ({ frames := 0, cells := 0, slots := 0, locals := 0 } : Room) [.ref h] (bo h c0 d0 s0 r0 (n) :: ([])) (fun r (_ : Unit) => r = nI n) (fun _ => (bo h c0 d0 s0 r0 (n) :: ([]))) := by
  refine CtI.start (lv0 := [(0, .ref h)]) (by decide) rfl (Nat.le_of_ble_eq_true rfl) ?_
  intro p_ e_ s_ m_ args_ below_ meth_ c_ A_ C hr hin
  refine x_aload_n C d_B_rows_0 rfl rfl ?_
  refine x_get C d_B_rows_1 0 rfl rfl i_B 4 (by decide) lk_B_27 rfl rfl ?_
  exact x_iret C hr d_B_rows_4 () rfl (rfl)
set_option maxHeartbeats 4000000 in
theorem c_B_push {l : Launch} {D : va_G} {cA : ClassId} {h c0 d0 s0 r0 n : Nat} {c01 c02 : Nat} {Lc Bc : Nat → Int32} {s01 s02 : Nat} {Ls Bs : Nat → Int32} {k kc : Nat} {ss cs : List (List Int32)} (hC : Hs 2096 33 Lc Bc cs) (hkc : cs.length = kc) (hS : Hs 3000 13 Ls Bs ss) (hk : ss.length = k) {i j : Nat} (hi : i < 2) (hj : j < 16) (hij : i * 16 + j < cs.length) (h12 : k < 12) (hfit : tot ss + (cs.getD (i * 16 + j) []).length ≤ 3000)  : CtI l D cA y_B_push b_B_push 3 (some .int) ({ frames := 5, cells := 0, slots := 0, locals := 108 } : Room) [.ref h, .int (nI i), .int (nI j)] (bo h c0 d0 s0 r0 (n) :: (shW cA s0 s01 s02 3000 13 Ls Bs (k) ++ shW cA c0 c01 c02 2096 33 Lc Bc (kc))) (fun r (u : (Nat → Int32) × (Nat → Int32)) => r = nI (k + 1) ∧ Hs 3000 13 u.1 u.2 (ss ++ [cs.getD (i * 16 + j) []])) (fun u => (bo h c0 d0 s0 r0 (n) :: (shW cA s0 s01 s02 3000 13 u.1 u.2 (k + 1) ++ shW cA c0 c01 c02 2096 33 Lc Bc (kc)))) := by
  refine CtI.start (lv0 := [(0, .ref h), (1, .int (nI i)), (2, .int (nI j))]) (by decide) rfl (Nat.le_of_ble_eq_true rfl) ?_
  intro p_ e_ s_ m_ args_ below_ meth_ c_ A_ C hr hin
  refine x_iload_n C d_B_push_0 rfl rfl ?_
  refine x_if_ltN (tgt := 16) C d_B_push_1 (by decide) (by omega) ?_
  refine x_iload_n C d_B_push_4 rfl rfl ?_
  refine x_iconst (v := (nI (2))) C d_B_push_5 (by decide) ?_
  refine x_icmp_geN (tgt := 16) C d_B_push_6 (by decide) (by omega) (by omega) (fun c6 => ?_) (fun c6 => ?_)
  · exact absurd c6 (by omega)
  · refine x_iload_n C d_B_push_9 rfl rfl ?_
    refine x_callSI (wr := [(h, .inr (1, [.ref c0, .ref d0, .ref s0, .ref r0, .int (nI n)])), (s0, .inr (0, [.ref s01, .ref s02, .int (nI k)])), (s01, .inl (cA, 3000, .inl (Ls))), (s02, .inl (cA, 13, .inl (Bs))), (c0, .inr (0, [.ref c01, .ref c02, .int (nI kc)])), (c01, .inl (cA, 2096, .inl (Lc))), (c02, .inl (cA, 33, .inl (Bc)))]) (rest := []) C (c_B_isValue (x := nI j)) d_B_push_10 cd_B_isValue lk_B_34 dd_B_isValue rfl ⟨Nat.le_of_ble_eq_true rfl, Nat.le_of_ble_eq_true rfl⟩ ⟨Nat.le_refl _, Nat.le_refl _⟩ [] [0, 1, 2, 3, 4, 5, 6] rfl rfl (by decide) (by decide) (by decide) rfl (Nat.le_of_ble_eq_true rfl) ?_
    intro r_ u_ hp_
    obtain rfl := hp_
    refine x_top (y := (nI (1))) (if_pos ⟨nI_pos (by omega), nI_ge (by omega) (by omega)⟩) ?_
    refine x_if_neN (tgt := 18) C d_B_push_13 (by decide) (by omega) (fun c13 => ?_) (fun c13 => ?_)
    · refine x_aload_n C d_B_push_18 rfl rfl ?_
      refine x_aload_n C d_B_push_19 rfl rfl ?_
      refine x_get C d_B_push_20 0 rfl rfl i_B 0 (by decide) lk_B_14 rfl rfl ?_
      refine x_iload_n C d_B_push_23 rfl rfl ?_
      refine x_bipush (v := (nI (16))) C d_B_push_24 (by decide) ?_
      refine x_imulN C d_B_push_26  ?_
      refine x_iload_n C d_B_push_27 rfl rfl ?_
      refine x_iaddN C d_B_push_28  ?_
      refine x_callVI (wr := []) (rest := []) C (c_B_stackUp (i := i * 16 + j) hC hkc hS hk hij h12 hfit) d_B_push_29 cd_B_stackUp lk_B_53 dd_B_stackUp rfl ⟨Nat.le_of_ble_eq_true rfl, Nat.le_of_ble_eq_true rfl⟩ ⟨Nat.le_refl _, Nat.le_refl _⟩ 1 0 rfl rfl [0, 1, 2, 3, 4, 5, 6] [] rfl rfl (by decide) (by decide) (by decide) rfl (Nat.le_of_ble_eq_true rfl) ?_
      intro r_ u29 hp_
      obtain ⟨rfl, hp29⟩ := hp_
      exact x_iret C hr d_B_push_32 u29 rfl (⟨rfl, hp29⟩)
    · exact absurd c13 (by omega)
set_option maxHeartbeats 4000000 in
theorem c_B_push_full {l : Launch} {D : va_G} {cA : ClassId} {h c0 d0 s0 r0 n : Nat} {c01 c02 : Nat} {Lc Bc : Nat → Int32} {s01 s02 : Nat} {Ls Bs : Nat → Int32} {k kc : Nat} {ss cs : List (List Int32)} (hC : Hs 2096 33 Lc Bc cs) (hkc : cs.length = kc) (hS : Hs 3000 13 Ls Bs ss) (hk : ss.length = k) {i j : Nat} (hi : i < 2) (hj : j < 16) (hij : i * 16 + j < cs.length) (hno : 12 ≤ k ∨ 3000 < tot ss + (cs.getD (i * 16 + j) []).length)  : CtI l D cA y_B_push b_B_push 3 (some .int) ({ frames := 5, cells := 0, slots := 0, locals := 108 } : Room) [.ref h, .int (nI i), .int (nI j)] (bo h c0 d0 s0 r0 (n) :: (shW cA s0 s01 s02 3000 13 Ls Bs (k) ++ shW cA c0 c01 c02 2096 33 Lc Bc (kc))) (fun r (_ : Unit) => r = -3) (fun _ => (bo h c0 d0 s0 r0 (n) :: (shW cA s0 s01 s02 3000 13 Ls Bs (k) ++ shW cA c0 c01 c02 2096 33 Lc Bc (kc)))) := by
  refine CtI.start (lv0 := [(0, .ref h), (1, .int (nI i)), (2, .int (nI j))]) (by decide) rfl (Nat.le_of_ble_eq_true rfl) ?_
  intro p_ e_ s_ m_ args_ below_ meth_ c_ A_ C hr hin
  refine x_iload_n C d_B_push_0 rfl rfl ?_
  refine x_if_ltN (tgt := 16) C d_B_push_1 (by decide) (by omega) ?_
  refine x_iload_n C d_B_push_4 rfl rfl ?_
  refine x_iconst (v := (nI (2))) C d_B_push_5 (by decide) ?_
  refine x_icmp_geN (tgt := 16) C d_B_push_6 (by decide) (by omega) (by omega) (fun c6 => ?_) (fun c6 => ?_)
  · exact absurd c6 (by omega)
  · refine x_iload_n C d_B_push_9 rfl rfl ?_
    refine x_callSI (wr := [(h, .inr (1, [.ref c0, .ref d0, .ref s0, .ref r0, .int (nI n)])), (s0, .inr (0, [.ref s01, .ref s02, .int (nI k)])), (s01, .inl (cA, 3000, .inl (Ls))), (s02, .inl (cA, 13, .inl (Bs))), (c0, .inr (0, [.ref c01, .ref c02, .int (nI kc)])), (c01, .inl (cA, 2096, .inl (Lc))), (c02, .inl (cA, 33, .inl (Bc)))]) (rest := []) C (c_B_isValue (x := nI j)) d_B_push_10 cd_B_isValue lk_B_34 dd_B_isValue rfl ⟨Nat.le_of_ble_eq_true rfl, Nat.le_of_ble_eq_true rfl⟩ ⟨Nat.le_refl _, Nat.le_refl _⟩ [] [0, 1, 2, 3, 4, 5, 6] rfl rfl (by decide) (by decide) (by decide) rfl (Nat.le_of_ble_eq_true rfl) ?_
    intro r_ u_ hp_
    obtain rfl := hp_
    refine x_top (y := (nI (1))) (if_pos ⟨nI_pos (by omega), nI_ge (by omega) (by omega)⟩) ?_
    refine x_if_neN (tgt := 18) C d_B_push_13 (by decide) (by omega) (fun c13 => ?_) (fun c13 => ?_)
    · refine x_aload_n C d_B_push_18 rfl rfl ?_
      refine x_aload_n C d_B_push_19 rfl rfl ?_
      refine x_get C d_B_push_20 0 rfl rfl i_B 0 (by decide) lk_B_14 rfl rfl ?_
      refine x_iload_n C d_B_push_23 rfl rfl ?_
      refine x_bipush (v := (nI (16))) C d_B_push_24 (by decide) ?_
      refine x_imulN C d_B_push_26  ?_
      refine x_iload_n C d_B_push_27 rfl rfl ?_
      refine x_iaddN C d_B_push_28  ?_
      refine x_callVI (wr := []) (rest := []) C (c_B_stackUp_full (i := i * 16 + j) hC hkc hS hk hij hno) d_B_push_29 cd_B_stackUp lk_B_53 dd_B_stackUp rfl ⟨Nat.le_of_ble_eq_true rfl, Nat.le_of_ble_eq_true rfl⟩ ⟨Nat.le_refl _, Nat.le_refl _⟩ 1 0 rfl rfl [0, 1, 2, 3, 4, 5, 6] [] rfl rfl (by decide) (by decide) (by decide) rfl (Nat.le_of_ble_eq_true rfl) ?_
      intro r_ u_ hp_
      obtain rfl := hp_
      exact x_iret C hr d_B_push_32 () rfl (rfl)
    · exact absurd c13 (by omega)
set_option maxHeartbeats 4000000 in
theorem c_B_push_bad {l : Launch} {D : va_G} {cA : ClassId} {h c0 d0 s0 r0 n : Nat} {x y : Int32} (hb : x < 0 ∨ nI 2 ≤ x ∨ y < 0 ∨ nI 16 ≤ y)  : CtI l D cA y_B_push b_B_push 3 (some .int) ({ frames := 5, cells := 0, slots := 0, locals := 108 } : Room) [.ref h, .int x, .int y] (bo h c0 d0 s0 r0 (n) :: ([])) (fun r (_ : Unit) => r = -1) (fun _ => (bo h c0 d0 s0 r0 (n) :: ([]))) := by
  refine CtI.start (lv0 := [(0, .ref h), (1, .int x), (2, .int y)]) (by decide) rfl (Nat.le_of_ble_eq_true rfl) ?_
  intro p_ e_ s_ m_ args_ below_ meth_ c_ A_ C hr hin
  refine x_iload_n C d_B_push_0 rfl rfl ?_
  refine x_if_lt (tgt := 16) C d_B_push_1 (by decide)  (fun c1 => ?_) (fun c1 => ?_)
  · refine x_iconst (v := ((-1))) C d_B_push_16 (by decide) ?_
    exact x_iret C hr d_B_push_17 () rfl (rfl)
  · refine x_iload_n C d_B_push_4 rfl rfl ?_
    refine x_iconst (v := (nI (2))) C d_B_push_5 (by decide) ?_
    refine x_icmp_ge (tgt := 16) C d_B_push_6 (by decide)  (fun c6 => ?_) (fun c6 => ?_)
    · refine x_iconst (v := ((-1))) C d_B_push_16 (by decide) ?_
      exact x_iret C hr d_B_push_17 () rfl (rfl)
    · refine x_iload_n C d_B_push_9 rfl rfl ?_
      refine x_callSI (wr := [(h, .inr (1, [.ref c0, .ref d0, .ref s0, .ref r0, .int (nI n)]))]) (rest := []) C (c_B_isValue (x := y)) d_B_push_10 cd_B_isValue lk_B_34 dd_B_isValue rfl ⟨Nat.le_of_ble_eq_true rfl, Nat.le_of_ble_eq_true rfl⟩ ⟨Nat.le_refl _, Nat.le_refl _⟩ [] [0] rfl rfl (by decide) (by decide) (by decide) rfl (Nat.le_of_ble_eq_true rfl) ?_
      intro r_ u_ hp_
      obtain rfl := hp_
      refine x_top (y := (nI (0))) (if_neg (fun q => by rcases hb with z | z | z | z; exact c1 z; exact c6 z; exact q.1 z; exact q.2 z)) ?_
      refine x_if_neN (tgt := 18) C d_B_push_13 (by decide) (by omega) (fun c13 => ?_) (fun c13 => ?_)
      · exact absurd c13 (by omega)
      · refine x_iconst (v := ((-1))) C d_B_push_16 (by decide) ?_
        exact x_iret C hr d_B_push_17 () rfl (rfl)
set_option maxHeartbeats 4000000 in
theorem c_B_join_bad {l : Launch} {D : va_G} {cA : ClassId} {h c0 d0 s0 r0 n : Nat} {x : Int32} (hb : x < 0 ∨ nI 3 < x)  : CtI l D cA y_B_join b_B_join 2 (some .int) ({ frames := 6, cells := 0, slots := 0, locals := 139 } : Room) [.ref h, .int x] (bo h c0 d0 s0 r0 (n) :: ([])) (fun r (_ : Unit) => r = -1) (fun _ => (bo h c0 d0 s0 r0 (n) :: ([]))) := by
  refine CtI.start (lv0 := [(0, .ref h), (1, .int x)]) (by decide) rfl (Nat.le_of_ble_eq_true rfl) ?_
  intro p_ e_ s_ m_ args_ below_ meth_ c_ A_ C hr hin
  refine x_iload_n C d_B_join_0 rfl rfl ?_
  refine x_if_lt (tgt := 9) C d_B_join_1 (by decide)  (fun c1 => ?_) (fun c1 => ?_)
  · refine x_iconst (v := ((-1))) C d_B_join_9 (by decide) ?_
    exact x_iret C hr d_B_join_10 () rfl (rfl)
  · refine x_iload_n C d_B_join_4 rfl rfl ?_
    refine x_iconst (v := (nI (3))) C d_B_join_5 (by decide) ?_
    refine x_icmp_le (tgt := 11) C d_B_join_6 (by decide)  (fun c6 => ?_) (fun c6 => ?_)
    · exact absurd hb (fun z => z.elim (fun z => c1 z) (fun z => absurd c6 (Int32.not_le.mpr z)))
    · refine x_iconst (v := ((-1))) C d_B_join_9 (by decide) ?_
      exact x_iret C hr d_B_join_10 () rfl (rfl)
set_option maxHeartbeats 4000000 in
theorem c_B_join_none {l : Launch} {D : va_G} {cA : ClassId} {h c0 d0 s0 r0 n : Nat} {s01 s02 : Nat} {Ls Bs : Nat → Int32} {op k : Nat} (ho : op ≤ 3) (hk : k < 2)  : CtI l D cA y_B_join b_B_join 2 (some .int) ({ frames := 6, cells := 0, slots := 0, locals := 139 } : Room) [.ref h, .int (nI op)] (bo h c0 d0 s0 r0 (n) :: (shW cA s0 s01 s02 3000 13 Ls Bs (k))) (fun r (_ : Unit) => r = -4) (fun _ => (bo h c0 d0 s0 r0 (n) :: (shW cA s0 s01 s02 3000 13 Ls Bs (k)))) := by
  refine CtI.start (lv0 := [(0, .ref h), (1, .int (nI op))]) (by decide) rfl (Nat.le_of_ble_eq_true rfl) ?_
  intro p_ e_ s_ m_ args_ below_ meth_ c_ A_ C hr hin
  refine x_iload_n C d_B_join_0 rfl rfl ?_
  refine x_if_ltN (tgt := 9) C d_B_join_1 (by decide) (by omega) ?_
  refine x_iload_n C d_B_join_4 rfl rfl ?_
  refine x_iconst (v := (nI (3))) C d_B_join_5 (by decide) ?_
  refine x_icmp_leN (tgt := 11) C d_B_join_6 (by decide) (by omega) (by omega) (fun c6 => ?_) (fun c6 => ?_)
  · refine x_aload_n C d_B_join_11 rfl rfl ?_
    refine x_get C d_B_join_12 0 rfl rfl i_B 2 (by decide) lk_B_21 rfl rfl ?_
    refine x_getN C d_B_join_15 1 rfl rfl i_S 2 (by decide) lk_B_39 rfl rfl ?_
    refine x_iconst (v := (nI (2))) C d_B_join_18 (by decide) ?_
    refine x_icmp_geN (tgt := 25) C d_B_join_19 (by decide) (by omega) (by omega) (fun c19 => ?_) (fun c19 => ?_)
    · exact absurd c19 (by omega)
    · refine x_bipush (v := ((-4))) C d_B_join_22 (by decide) ?_
      exact x_iret C hr d_B_join_24 () rfl (rfl)
  · exact absurd c6 (by omega)
set_option maxHeartbeats 4000000 in
theorem c_B_join {l : Launch} {D : va_G} {cA : ClassId} {h c0 d0 s0 r0 n : Nat} {s01 s02 : Nat} {Ls Bs : Nat → Int32} {r01 r02 : Nat} {Lr Br : Nat → Int32} {k kr : Nat} {ss rr : List (List Int32)} {fA fB : Nat → Bool} {op : Nat} (hS : Hs 3000 13 Ls Bs (ss ++ [wI n fA] ++ [wI n fB])) (hk : ss.length + 2 = k) (hR : Hs 3001 2 Lr Br rr) (hkr : rr.length = kr) (ho : op ≤ 3) (hn : n ≤ 1000000) (hfit : tot ss + (wI n (fun r => jbb op (fA r) (fB r))).length ≤ 3000)  : CtI l D cA y_B_join b_B_join 2 (some .int) ({ frames := 6, cells := 0, slots := 0, locals := 139 } : Room) [.ref h, .int (nI op)] (bo h c0 d0 s0 r0 (n) :: (shW cA s0 s01 s02 3000 13 Ls Bs (k) ++ shW cA r0 r01 r02 3001 2 Lr Br (kr))) (fun r (u : ((Nat → Int32) × (Nat → Int32)) × ((Nat → Int32) × (Nat → Int32))) => r = nI (ss.length + 1) ∧ Hs 3000 13 u.1.1 u.1.2 (ss ++ [wI n (fun r => jbb op (fA r) (fB r))]) ∧ Hs 3001 2 u.2.1 u.2.2 [wI n (fun r => jbb op (fA r) (fB r))]) (fun u => (bo h c0 d0 s0 r0 (n) :: (shW cA s0 s01 s02 3000 13 u.1.1 u.1.2 (ss.length + 1) ++ shW cA r0 r01 r02 3001 2 u.2.1 u.2.2 (1)))) := by
  subst hk
  subst hkr
  refine CtI.start (lv0 := [(0, .ref h), (1, .int (nI op))]) (by decide) rfl (Nat.le_of_ble_eq_true rfl) ?_
  intro p_ e_ s_ m_ args_ below_ meth_ c_ A_ C hr hin
  have hn1 := hS.in
  rw [tot_app, tot_one, List.length_append, List.length_singleton, wI_len, wI_len] at hn1
  refine x_iload_n C d_B_join_0 rfl rfl ?_
  refine x_if_ltN (tgt := 9) C d_B_join_1 (by decide) (by omega) ?_
  refine x_iload_n C d_B_join_4 rfl rfl ?_
  refine x_iconst (v := (nI (3))) C d_B_join_5 (by decide) ?_
  refine x_icmp_leN (tgt := 11) C d_B_join_6 (by decide) (by omega) (by omega) (fun c6 => ?_) (fun c6 => ?_)
  · refine x_aload_n C d_B_join_11 rfl rfl ?_
    refine x_get C d_B_join_12 0 rfl rfl i_B 2 (by decide) lk_B_21 rfl rfl ?_
    refine x_getN C d_B_join_15 1 rfl rfl i_S 2 (by decide) lk_B_39 rfl rfl ?_
    refine x_iconst (v := (nI (2))) C d_B_join_18 (by decide) ?_
    refine x_icmp_geN (tgt := 25) C d_B_join_19 (by decide) (by omega) (by omega) (fun c19 => ?_) (fun c19 => ?_)
    · refine x_aload_n C d_B_join_25 rfl rfl ?_
      refine x_get C d_B_join_26 0 rfl rfl i_B 3 (by decide) lk_B_24 rfl rfl ?_
      refine x_callVV (wr := [(h, .inr (1, [.ref c0, .ref d0, .ref s0, .ref r0, .int (nI n)])), (s0, .inr (0, [.ref s01, .ref s02, .int (nI (ss.length + 2))])), (s01, .inl (cA, 3000, .inl (Ls))), (s02, .inl (cA, 13, .inl (Bs)))]) (rest := []) C (c_S_clear hR rfl) d_B_join_29 cd_S_clear lk_B_42 dd_S_clear rfl ⟨Nat.le_of_ble_eq_true rfl, Nat.le_of_ble_eq_true rfl⟩ ⟨Nat.le_refl _, Nat.le_refl _⟩ 0 0 rfl rfl [4, 5, 6] [0, 1, 2, 3] rfl rfl (by decide) (by decide) (by decide) rfl (Nat.le_of_ble_eq_true rfl) ?_
      intro u_ hp_
      refine x_aload_n C d_B_join_32 rfl rfl ?_
      refine x_get C d_B_join_33 0 rfl rfl i_B 3 (by decide) lk_B_24 rfl rfl ?_
      refine x_callVV (wr := [(h, .inr (1, [.ref c0, .ref d0, .ref s0, .ref r0, .int (nI n)])), (s0, .inr (0, [.ref s01, .ref s02, .int (nI (ss.length + 2))])), (s01, .inl (cA, 3000, .inl (Ls))), (s02, .inl (cA, 13, .inl (Bs)))]) (rest := []) C (c_S_open hR.clear rfl (by simp)) d_B_join_36 cd_S_open lk_B_31 dd_S_open rfl ⟨Nat.le_of_ble_eq_true rfl, Nat.le_of_ble_eq_true rfl⟩ ⟨Nat.le_refl _, Nat.le_refl _⟩ 0 0 rfl rfl [4, 5, 6] [0, 1, 2, 3] rfl rfl (by decide) (by decide) (by decide) rfl (Nat.le_of_ble_eq_true rfl) ?_
      intro u36 hp36
      refine x_aload_n C d_B_join_39 rfl rfl ?_
      refine x_get C d_B_join_40 0 rfl rfl i_B 3 (by decide) lk_B_24 rfl rfl ?_
      refine x_aload_n C d_B_join_43 rfl rfl ?_
      refine x_get C d_B_join_44 0 rfl rfl i_B 2 (by decide) lk_B_21 rfl rfl ?_
      refine x_aload_n C d_B_join_47 rfl rfl ?_
      refine x_get C d_B_join_48 0 rfl rfl i_B 2 (by decide) lk_B_21 rfl rfl ?_
      refine x_getN C d_B_join_51 1 rfl rfl i_S 2 (by decide) lk_B_39 rfl rfl ?_
      refine x_iconst (v := (nI (2))) C d_B_join_54 (by decide) ?_
      refine x_isubN C d_B_join_55 (by omega) ?_
      refine x_top (y := (nI (ss.length))) (by congr 1) ?_
      refine x_aload_n C d_B_join_56 rfl rfl ?_
      refine x_get C d_B_join_57 0 rfl rfl i_B 2 (by decide) lk_B_21 rfl rfl ?_
      refine x_getN C d_B_join_60 1 rfl rfl i_S 2 (by decide) lk_B_39 rfl rfl ?_
      refine x_iconst (v := (nI (1))) C d_B_join_63 (by decide) ?_
      refine x_isubN C d_B_join_64 (by omega) ?_
      refine x_top (y := (nI (ss.length + 1))) (by congr 1) ?_
      refine x_iload_n C d_B_join_65 rfl rfl ?_
      refine x_callVV (wr := [(h, .inr (1, [.ref c0, .ref d0, .ref s0, .ref r0, .int (nI n)]))]) (rest := []) C (c_S_addJoined (ss := []) (pre := ss) (A := Wd n fA) (B := Wd n fB) (op := op) hp36 rfl hS rfl ho (Wd_rep n fA).1 (Wd_rep n fB).1 (by rw [(Wd_rep n fA).2, (Wd_rep n fB).2, GL_len, GL_len]) ((Wd_rep n fA).small hn) (by rw [show tot [] = 0 from rfl]; omega)) d_B_join_66 cd_S_addJoined lk_B_57 dd_S_addJoined rfl ⟨Nat.le_of_ble_eq_true rfl, Nat.le_of_ble_eq_true rfl⟩ ⟨Nat.le_refl _, Nat.le_refl _⟩ 0 0 rfl rfl [4, 5, 6, 1, 2, 3] [0] rfl rfl (by decide) (by decide) (by decide) rfl (Nat.le_of_ble_eq_true rfl) ?_
      intro u66 hp66
      obtain ⟨W9, hw1, hw2, hw3, hw4⟩ := hp66
      rw [zw_rep ho hw1 hw2] at hw4
      refine x_aload_n C d_B_join_69 rfl rfl ?_
      refine x_iconst (v := (nI (2))) C d_B_join_70 (by decide) ?_
      refine x_callVI (wr := []) (rest := []) C (c_B_replaceTop_2 hS rfl hw4 hfit) d_B_join_71 cd_B_replaceTop lk_B_61 dd_B_replaceTop rfl ⟨Nat.le_of_ble_eq_true rfl, Nat.le_of_ble_eq_true rfl⟩ ⟨Nat.le_refl _, Nat.le_refl _⟩ 1 0 rfl rfl [0, 4, 5, 6, 1, 2, 3] [] rfl rfl (by decide) (by decide) (by decide) rfl (Nat.le_of_ble_eq_true rfl) ?_
      intro r_ u71 hp_
      obtain ⟨rfl, hp71⟩ := hp_
      exact x_iret C hr d_B_join_74 (u71, u66) rfl (⟨rfl, hp71, hw4⟩)
    · exact absurd c19 (by omega)
  · exact absurd c6 (by omega)
set_option maxHeartbeats 4000000 in
theorem c_B_join_full {l : Launch} {D : va_G} {cA : ClassId} {h c0 d0 s0 r0 n : Nat} {s01 s02 : Nat} {Ls Bs : Nat → Int32} {r01 r02 : Nat} {Lr Br : Nat → Int32} {k kr : Nat} {ss rr : List (List Int32)} {fA fB : Nat → Bool} {op : Nat} (hS : Hs 3000 13 Ls Bs (ss ++ [wI n fA] ++ [wI n fB])) (hk : ss.length + 2 = k) (hR : Hs 3001 2 Lr Br rr) (hkr : rr.length = kr) (ho : op ≤ 3) (hn : n ≤ 1000000) (hno : 3000 < tot ss + (wI n (fun r => jbb op (fA r) (fB r))).length)  : CtI l D cA y_B_join b_B_join 2 (some .int) ({ frames := 6, cells := 0, slots := 0, locals := 139 } : Room) [.ref h, .int (nI op)] (bo h c0 d0 s0 r0 (n) :: (shW cA s0 s01 s02 3000 13 Ls Bs (k) ++ shW cA r0 r01 r02 3001 2 Lr Br (kr))) (fun r (u : (Nat → Int32) × (Nat → Int32)) => r = -3 ∧ Hs 3001 2 u.1 u.2 [wI n (fun r => jbb op (fA r) (fB r))]) (fun u => (bo h c0 d0 s0 r0 (n) :: (shW cA s0 s01 s02 3000 13 Ls Bs (k) ++ shW cA r0 r01 r02 3001 2 u.1 u.2 (1)))) := by
  subst hk
  subst hkr
  refine CtI.start (lv0 := [(0, .ref h), (1, .int (nI op))]) (by decide) rfl (Nat.le_of_ble_eq_true rfl) ?_
  intro p_ e_ s_ m_ args_ below_ meth_ c_ A_ C hr hin
  have hn1 := hS.in
  rw [tot_app, tot_one, List.length_append, List.length_singleton, wI_len, wI_len] at hn1
  refine x_iload_n C d_B_join_0 rfl rfl ?_
  refine x_if_ltN (tgt := 9) C d_B_join_1 (by decide) (by omega) ?_
  refine x_iload_n C d_B_join_4 rfl rfl ?_
  refine x_iconst (v := (nI (3))) C d_B_join_5 (by decide) ?_
  refine x_icmp_leN (tgt := 11) C d_B_join_6 (by decide) (by omega) (by omega) (fun c6 => ?_) (fun c6 => ?_)
  · refine x_aload_n C d_B_join_11 rfl rfl ?_
    refine x_get C d_B_join_12 0 rfl rfl i_B 2 (by decide) lk_B_21 rfl rfl ?_
    refine x_getN C d_B_join_15 1 rfl rfl i_S 2 (by decide) lk_B_39 rfl rfl ?_
    refine x_iconst (v := (nI (2))) C d_B_join_18 (by decide) ?_
    refine x_icmp_geN (tgt := 25) C d_B_join_19 (by decide) (by omega) (by omega) (fun c19 => ?_) (fun c19 => ?_)
    · refine x_aload_n C d_B_join_25 rfl rfl ?_
      refine x_get C d_B_join_26 0 rfl rfl i_B 3 (by decide) lk_B_24 rfl rfl ?_
      refine x_callVV (wr := [(h, .inr (1, [.ref c0, .ref d0, .ref s0, .ref r0, .int (nI n)])), (s0, .inr (0, [.ref s01, .ref s02, .int (nI (ss.length + 2))])), (s01, .inl (cA, 3000, .inl (Ls))), (s02, .inl (cA, 13, .inl (Bs)))]) (rest := []) C (c_S_clear hR rfl) d_B_join_29 cd_S_clear lk_B_42 dd_S_clear rfl ⟨Nat.le_of_ble_eq_true rfl, Nat.le_of_ble_eq_true rfl⟩ ⟨Nat.le_refl _, Nat.le_refl _⟩ 0 0 rfl rfl [4, 5, 6] [0, 1, 2, 3] rfl rfl (by decide) (by decide) (by decide) rfl (Nat.le_of_ble_eq_true rfl) ?_
      intro u_ hp_
      refine x_aload_n C d_B_join_32 rfl rfl ?_
      refine x_get C d_B_join_33 0 rfl rfl i_B 3 (by decide) lk_B_24 rfl rfl ?_
      refine x_callVV (wr := [(h, .inr (1, [.ref c0, .ref d0, .ref s0, .ref r0, .int (nI n)])), (s0, .inr (0, [.ref s01, .ref s02, .int (nI (ss.length + 2))])), (s01, .inl (cA, 3000, .inl (Ls))), (s02, .inl (cA, 13, .inl (Bs)))]) (rest := []) C (c_S_open hR.clear rfl (by simp)) d_B_join_36 cd_S_open lk_B_31 dd_S_open rfl ⟨Nat.le_of_ble_eq_true rfl, Nat.le_of_ble_eq_true rfl⟩ ⟨Nat.le_refl _, Nat.le_refl _⟩ 0 0 rfl rfl [4, 5, 6] [0, 1, 2, 3] rfl rfl (by decide) (by decide) (by decide) rfl (Nat.le_of_ble_eq_true rfl) ?_
      intro u36 hp36
      refine x_aload_n C d_B_join_39 rfl rfl ?_
      refine x_get C d_B_join_40 0 rfl rfl i_B 3 (by decide) lk_B_24 rfl rfl ?_
      refine x_aload_n C d_B_join_43 rfl rfl ?_
      refine x_get C d_B_join_44 0 rfl rfl i_B 2 (by decide) lk_B_21 rfl rfl ?_
      refine x_aload_n C d_B_join_47 rfl rfl ?_
      refine x_get C d_B_join_48 0 rfl rfl i_B 2 (by decide) lk_B_21 rfl rfl ?_
      refine x_getN C d_B_join_51 1 rfl rfl i_S 2 (by decide) lk_B_39 rfl rfl ?_
      refine x_iconst (v := (nI (2))) C d_B_join_54 (by decide) ?_
      refine x_isubN C d_B_join_55 (by omega) ?_
      refine x_top (y := (nI (ss.length))) (by congr 1) ?_
      refine x_aload_n C d_B_join_56 rfl rfl ?_
      refine x_get C d_B_join_57 0 rfl rfl i_B 2 (by decide) lk_B_21 rfl rfl ?_
      refine x_getN C d_B_join_60 1 rfl rfl i_S 2 (by decide) lk_B_39 rfl rfl ?_
      refine x_iconst (v := (nI (1))) C d_B_join_63 (by decide) ?_
      refine x_isubN C d_B_join_64 (by omega) ?_
      refine x_top (y := (nI (ss.length + 1))) (by congr 1) ?_
      refine x_iload_n C d_B_join_65 rfl rfl ?_
      refine x_callVV (wr := [(h, .inr (1, [.ref c0, .ref d0, .ref s0, .ref r0, .int (nI n)]))]) (rest := []) C (c_S_addJoined (ss := []) (pre := ss) (A := Wd n fA) (B := Wd n fB) (op := op) hp36 rfl hS rfl ho (Wd_rep n fA).1 (Wd_rep n fB).1 (by rw [(Wd_rep n fA).2, (Wd_rep n fB).2, GL_len, GL_len]) ((Wd_rep n fA).small hn) (by rw [show tot [] = 0 from rfl]; omega)) d_B_join_66 cd_S_addJoined lk_B_57 dd_S_addJoined rfl ⟨Nat.le_of_ble_eq_true rfl, Nat.le_of_ble_eq_true rfl⟩ ⟨Nat.le_refl _, Nat.le_refl _⟩ 0 0 rfl rfl [4, 5, 6, 1, 2, 3] [0] rfl rfl (by decide) (by decide) (by decide) rfl (Nat.le_of_ble_eq_true rfl) ?_
      intro u66 hp66
      obtain ⟨W9, hw1, hw2, hw3, hw4⟩ := hp66
      rw [zw_rep ho hw1 hw2] at hw4
      refine x_aload_n C d_B_join_69 rfl rfl ?_
      refine x_iconst (v := (nI (2))) C d_B_join_70 (by decide) ?_
      refine x_callVI (wr := []) (rest := []) C (c_B_replaceTop_2_full hS rfl hw4 hno) d_B_join_71 cd_B_replaceTop lk_B_61 dd_B_replaceTop rfl ⟨Nat.le_of_ble_eq_true rfl, Nat.le_of_ble_eq_true rfl⟩ ⟨Nat.le_refl _, Nat.le_refl _⟩ 1 0 rfl rfl [0, 4, 5, 6, 1, 2, 3] [] rfl rfl (by decide) (by decide) (by decide) rfl (Nat.le_of_ble_eq_true rfl) ?_
      intro r_ u_ hp_
      obtain rfl := hp_
      exact x_iret C hr d_B_join_74 u66 rfl (⟨rfl, hw4⟩)
    · exact absurd c19 (by omega)
  · exact absurd c6 (by omega)
set_option maxHeartbeats 4000000 in
theorem c_B_not {l : Launch} {D : va_G} {cA : ClassId} {h c0 d0 s0 r0 n : Nat} {s01 s02 : Nat} {Ls Bs : Nat → Int32} {r01 r02 : Nat} {Lr Br : Nat → Int32} {k kr : Nat} {ss rr : List (List Int32)} {f : Nat → Bool} (hS : Hs 3000 13 Ls Bs (ss ++ [wI n f])) (hk : ss.length + 1 = k) (hR : Hs 3001 2 Lr Br rr) (hkr : rr.length = kr) (hn : n ≤ 1000000) (hfit : tot ss + (wI n (fnot f n)).length ≤ 3000)  : CtI l D cA y_B_not b_B_not 1 (some .int) ({ frames := 6, cells := 0, slots := 0, locals := 131 } : Room) [.ref h] (bo h c0 d0 s0 r0 (n) :: (shW cA s0 s01 s02 3000 13 Ls Bs (k) ++ shW cA r0 r01 r02 3001 2 Lr Br (kr))) (fun r (u : ((Nat → Int32) × (Nat → Int32)) × ((Nat → Int32) × (Nat → Int32))) => r = nI (ss.length + 1) ∧ Hs 3000 13 u.1.1 u.1.2 (ss ++ [wI n (fnot f n)]) ∧ Hs 3001 2 u.2.1 u.2.2 [wI n (fnot f n)]) (fun u => (bo h c0 d0 s0 r0 (n) :: (shW cA s0 s01 s02 3000 13 u.1.1 u.1.2 (ss.length + 1) ++ shW cA r0 r01 r02 3001 2 u.2.1 u.2.2 (1)))) := by
  subst hk
  subst hkr
  refine CtI.start (lv0 := [(0, .ref h)]) (by decide) rfl (Nat.le_of_ble_eq_true rfl) ?_
  intro p_ e_ s_ m_ args_ below_ meth_ c_ A_ C hr hin
  have hn1 := hS.in
  rw [wI_len] at hn1
  refine x_aload_n C d_B_not_0 rfl rfl ?_
  refine x_get C d_B_not_1 0 rfl rfl i_B 2 (by decide) lk_B_21 rfl rfl ?_
  refine x_getN C d_B_not_4 1 rfl rfl i_S 2 (by decide) lk_B_39 rfl rfl ?_
  refine x_iconst (v := (nI (1))) C d_B_not_7 (by decide) ?_
  refine x_icmp_geN (tgt := 14) C d_B_not_8 (by decide) (by omega) (by omega) (fun c8 => ?_) (fun c8 => ?_)
  · refine x_aload_n C d_B_not_14 rfl rfl ?_
    refine x_get C d_B_not_15 0 rfl rfl i_B 3 (by decide) lk_B_24 rfl rfl ?_
    refine x_callVV (wr := [(h, .inr (1, [.ref c0, .ref d0, .ref s0, .ref r0, .int (nI n)])), (s0, .inr (0, [.ref s01, .ref s02, .int (nI (ss.length + 1))])), (s01, .inl (cA, 3000, .inl (Ls))), (s02, .inl (cA, 13, .inl (Bs)))]) (rest := []) C (c_S_clear hR rfl) d_B_not_18 cd_S_clear lk_B_42 dd_S_clear rfl ⟨Nat.le_of_ble_eq_true rfl, Nat.le_of_ble_eq_true rfl⟩ ⟨Nat.le_refl _, Nat.le_refl _⟩ 0 0 rfl rfl [4, 5, 6] [0, 1, 2, 3] rfl rfl (by decide) (by decide) (by decide) rfl (Nat.le_of_ble_eq_true rfl) ?_
    intro u_ hp_
    refine x_aload_n C d_B_not_21 rfl rfl ?_
    refine x_get C d_B_not_22 0 rfl rfl i_B 3 (by decide) lk_B_24 rfl rfl ?_
    refine x_callVV (wr := [(h, .inr (1, [.ref c0, .ref d0, .ref s0, .ref r0, .int (nI n)])), (s0, .inr (0, [.ref s01, .ref s02, .int (nI (ss.length + 1))])), (s01, .inl (cA, 3000, .inl (Ls))), (s02, .inl (cA, 13, .inl (Bs)))]) (rest := []) C (c_S_open hR.clear rfl (by simp)) d_B_not_25 cd_S_open lk_B_31 dd_S_open rfl ⟨Nat.le_of_ble_eq_true rfl, Nat.le_of_ble_eq_true rfl⟩ ⟨Nat.le_refl _, Nat.le_refl _⟩ 0 0 rfl rfl [4, 5, 6] [0, 1, 2, 3] rfl rfl (by decide) (by decide) (by decide) rfl (Nat.le_of_ble_eq_true rfl) ?_
    intro u36 hp36
    refine x_aload_n C d_B_not_28 rfl rfl ?_
    refine x_get C d_B_not_29 0 rfl rfl i_B 3 (by decide) lk_B_24 rfl rfl ?_
    refine x_aload_n C d_B_not_32 rfl rfl ?_
    refine x_get C d_B_not_33 0 rfl rfl i_B 2 (by decide) lk_B_21 rfl rfl ?_
    refine x_aload_n C d_B_not_36 rfl rfl ?_
    refine x_get C d_B_not_37 0 rfl rfl i_B 2 (by decide) lk_B_21 rfl rfl ?_
    refine x_getN C d_B_not_40 1 rfl rfl i_S 2 (by decide) lk_B_39 rfl rfl ?_
    refine x_iconst (v := (nI (1))) C d_B_not_43 (by decide) ?_
    refine x_isubN C d_B_not_44 (by omega) ?_
    refine x_top (y := (nI (ss.length))) (by congr 1) ?_
    refine x_aload_n C d_B_not_45 rfl rfl ?_
    refine x_get C d_B_not_46 0 rfl rfl i_B 4 (by decide) lk_B_27 rfl rfl ?_
    refine x_bipush (v := (nI (31))) C d_B_not_49 (by decide) ?_
    refine x_iremN C d_B_not_51 (by omega) (by omega) (by omega) ?_
    refine x_callVV (wr := [(h, .inr (1, [.ref c0, .ref d0, .ref s0, .ref r0, .int (nI n)]))]) (rest := []) C (c_S_addOthers (ss := []) (pre := ss) (fs := Wd n f) (f := f) (n := n) hp36 rfl hS rfl (Wd_rep n f) hn (by rw [show tot [] = 0 from rfl]; omega)) d_B_not_52 cd_S_addOthers lk_B_65 dd_S_addOthers rfl ⟨Nat.le_of_ble_eq_true rfl, Nat.le_of_ble_eq_true rfl⟩ ⟨Nat.le_refl _, Nat.le_refl _⟩ 0 0 rfl rfl [4, 5, 6, 1, 2, 3] [0] rfl rfl (by decide) (by decide) (by decide) rfl (Nat.le_of_ble_eq_true rfl) ?_
    intro u66 hp66
    obtain ⟨W9, hw1, hw3, hw4⟩ := hp66
    rw [hw1.eq] at hw4
    refine x_aload_n C d_B_not_55 rfl rfl ?_
    refine x_iconst (v := (nI (1))) C d_B_not_56 (by decide) ?_
    refine x_callVI (wr := []) (rest := []) C (c_B_replaceTop_1 hS rfl hw4 hfit) d_B_not_57 cd_B_replaceTop lk_B_61 dd_B_replaceTop rfl ⟨Nat.le_of_ble_eq_true rfl, Nat.le_of_ble_eq_true rfl⟩ ⟨Nat.le_refl _, Nat.le_refl _⟩ 1 0 rfl rfl [0, 4, 5, 6, 1, 2, 3] [] rfl rfl (by decide) (by decide) (by decide) rfl (Nat.le_of_ble_eq_true rfl) ?_
    intro r_ u71 hp_
    obtain ⟨rfl, hp71⟩ := hp_
    exact x_iret C hr d_B_not_60 (u71, u66) rfl (⟨rfl, hp71, hw4⟩)
  · exact absurd c8 (by omega)
set_option maxHeartbeats 4000000 in
theorem c_B_not_full {l : Launch} {D : va_G} {cA : ClassId} {h c0 d0 s0 r0 n : Nat} {s01 s02 : Nat} {Ls Bs : Nat → Int32} {r01 r02 : Nat} {Lr Br : Nat → Int32} {k kr : Nat} {ss rr : List (List Int32)} {f : Nat → Bool} (hS : Hs 3000 13 Ls Bs (ss ++ [wI n f])) (hk : ss.length + 1 = k) (hR : Hs 3001 2 Lr Br rr) (hkr : rr.length = kr) (hn : n ≤ 1000000) (hno : 3000 < tot ss + (wI n (fnot f n)).length)  : CtI l D cA y_B_not b_B_not 1 (some .int) ({ frames := 6, cells := 0, slots := 0, locals := 131 } : Room) [.ref h] (bo h c0 d0 s0 r0 (n) :: (shW cA s0 s01 s02 3000 13 Ls Bs (k) ++ shW cA r0 r01 r02 3001 2 Lr Br (kr))) (fun r (u : (Nat → Int32) × (Nat → Int32)) => r = -3 ∧ Hs 3001 2 u.1 u.2 [wI n (fnot f n)]) (fun u => (bo h c0 d0 s0 r0 (n) :: (shW cA s0 s01 s02 3000 13 Ls Bs (k) ++ shW cA r0 r01 r02 3001 2 u.1 u.2 (1)))) := by
  subst hk
  subst hkr
  refine CtI.start (lv0 := [(0, .ref h)]) (by decide) rfl (Nat.le_of_ble_eq_true rfl) ?_
  intro p_ e_ s_ m_ args_ below_ meth_ c_ A_ C hr hin
  have hn1 := hS.in
  rw [wI_len] at hn1
  refine x_aload_n C d_B_not_0 rfl rfl ?_
  refine x_get C d_B_not_1 0 rfl rfl i_B 2 (by decide) lk_B_21 rfl rfl ?_
  refine x_getN C d_B_not_4 1 rfl rfl i_S 2 (by decide) lk_B_39 rfl rfl ?_
  refine x_iconst (v := (nI (1))) C d_B_not_7 (by decide) ?_
  refine x_icmp_geN (tgt := 14) C d_B_not_8 (by decide) (by omega) (by omega) (fun c8 => ?_) (fun c8 => ?_)
  · refine x_aload_n C d_B_not_14 rfl rfl ?_
    refine x_get C d_B_not_15 0 rfl rfl i_B 3 (by decide) lk_B_24 rfl rfl ?_
    refine x_callVV (wr := [(h, .inr (1, [.ref c0, .ref d0, .ref s0, .ref r0, .int (nI n)])), (s0, .inr (0, [.ref s01, .ref s02, .int (nI (ss.length + 1))])), (s01, .inl (cA, 3000, .inl (Ls))), (s02, .inl (cA, 13, .inl (Bs)))]) (rest := []) C (c_S_clear hR rfl) d_B_not_18 cd_S_clear lk_B_42 dd_S_clear rfl ⟨Nat.le_of_ble_eq_true rfl, Nat.le_of_ble_eq_true rfl⟩ ⟨Nat.le_refl _, Nat.le_refl _⟩ 0 0 rfl rfl [4, 5, 6] [0, 1, 2, 3] rfl rfl (by decide) (by decide) (by decide) rfl (Nat.le_of_ble_eq_true rfl) ?_
    intro u_ hp_
    refine x_aload_n C d_B_not_21 rfl rfl ?_
    refine x_get C d_B_not_22 0 rfl rfl i_B 3 (by decide) lk_B_24 rfl rfl ?_
    refine x_callVV (wr := [(h, .inr (1, [.ref c0, .ref d0, .ref s0, .ref r0, .int (nI n)])), (s0, .inr (0, [.ref s01, .ref s02, .int (nI (ss.length + 1))])), (s01, .inl (cA, 3000, .inl (Ls))), (s02, .inl (cA, 13, .inl (Bs)))]) (rest := []) C (c_S_open hR.clear rfl (by simp)) d_B_not_25 cd_S_open lk_B_31 dd_S_open rfl ⟨Nat.le_of_ble_eq_true rfl, Nat.le_of_ble_eq_true rfl⟩ ⟨Nat.le_refl _, Nat.le_refl _⟩ 0 0 rfl rfl [4, 5, 6] [0, 1, 2, 3] rfl rfl (by decide) (by decide) (by decide) rfl (Nat.le_of_ble_eq_true rfl) ?_
    intro u36 hp36
    refine x_aload_n C d_B_not_28 rfl rfl ?_
    refine x_get C d_B_not_29 0 rfl rfl i_B 3 (by decide) lk_B_24 rfl rfl ?_
    refine x_aload_n C d_B_not_32 rfl rfl ?_
    refine x_get C d_B_not_33 0 rfl rfl i_B 2 (by decide) lk_B_21 rfl rfl ?_
    refine x_aload_n C d_B_not_36 rfl rfl ?_
    refine x_get C d_B_not_37 0 rfl rfl i_B 2 (by decide) lk_B_21 rfl rfl ?_
    refine x_getN C d_B_not_40 1 rfl rfl i_S 2 (by decide) lk_B_39 rfl rfl ?_
    refine x_iconst (v := (nI (1))) C d_B_not_43 (by decide) ?_
    refine x_isubN C d_B_not_44 (by omega) ?_
    refine x_top (y := (nI (ss.length))) (by congr 1) ?_
    refine x_aload_n C d_B_not_45 rfl rfl ?_
    refine x_get C d_B_not_46 0 rfl rfl i_B 4 (by decide) lk_B_27 rfl rfl ?_
    refine x_bipush (v := (nI (31))) C d_B_not_49 (by decide) ?_
    refine x_iremN C d_B_not_51 (by omega) (by omega) (by omega) ?_
    refine x_callVV (wr := [(h, .inr (1, [.ref c0, .ref d0, .ref s0, .ref r0, .int (nI n)]))]) (rest := []) C (c_S_addOthers (ss := []) (pre := ss) (fs := Wd n f) (f := f) (n := n) hp36 rfl hS rfl (Wd_rep n f) hn (by rw [show tot [] = 0 from rfl]; omega)) d_B_not_52 cd_S_addOthers lk_B_65 dd_S_addOthers rfl ⟨Nat.le_of_ble_eq_true rfl, Nat.le_of_ble_eq_true rfl⟩ ⟨Nat.le_refl _, Nat.le_refl _⟩ 0 0 rfl rfl [4, 5, 6, 1, 2, 3] [0] rfl rfl (by decide) (by decide) (by decide) rfl (Nat.le_of_ble_eq_true rfl) ?_
    intro u66 hp66
    obtain ⟨W9, hw1, hw3, hw4⟩ := hp66
    rw [hw1.eq] at hw4
    refine x_aload_n C d_B_not_55 rfl rfl ?_
    refine x_iconst (v := (nI (1))) C d_B_not_56 (by decide) ?_
    refine x_callVI (wr := []) (rest := []) C (c_B_replaceTop_1_full hS rfl hw4 hno) d_B_not_57 cd_B_replaceTop lk_B_61 dd_B_replaceTop rfl ⟨Nat.le_of_ble_eq_true rfl, Nat.le_of_ble_eq_true rfl⟩ ⟨Nat.le_refl _, Nat.le_refl _⟩ 1 0 rfl rfl [0, 4, 5, 6, 1, 2, 3] [] rfl rfl (by decide) (by decide) (by decide) rfl (Nat.le_of_ble_eq_true rfl) ?_
    intro r_ u_ hp_
    obtain rfl := hp_
    exact x_iret C hr d_B_not_60 u66 rfl (⟨rfl, hw4⟩)
  · exact absurd c8 (by omega)
end
section
set_option maxHeartbeats 4000000 in
theorem c_B_draftColumn {l : Launch} {D : va_G} {cA : ClassId} {h c0 d0 s0 r0 n : Nat} {c01 c02 : Nat} {Lc Bc : Nat → Int32} {d01 d02 : Nat} {Ld Bd : Nat → Int32} {col g m : Nat} {F F' : Nat → Nat → Bool} (hcol : col < 2) (hC : Hs 2096 33 Lc Bc (cS n F 32)) (hD : Hs 2096 33 Ld Bd (cS (n + m) F' (col * 16))) (hF : ∀ v, v < 16 → F' (col * 16 + v) = addr (F (col * 16 + v)) n m (decide (v = g))) (hsup : ∀ v, sup n (F v)) (hg : g < 16) (hm : 1 ≤ m) (hn : n + m ≤ 1000000) (ht : tot (cS n F 32) ≤ 2000) (hle : tot (cS (n + m) F' (col * 16)) ≤ tot (cS n F (col * 16)) + 3 * (col * 16))  : CtV l D cA y_B_draftColumn b_B_draftColumn 5 ({ frames := 6, cells := 0, slots := 0, locals := 132 } : Room) [.ref h, .int (nI col), .int (nI g), .int (nI m)] (bo h c0 d0 s0 r0 (n) :: (shW cA d0 d01 d02 2096 33 Ld Bd (col * 16) ++ shW cA c0 c01 c02 2096 33 Lc Bc (32))) (fun (u : (Nat → Int32) × (Nat → Int32)) => Hs 2096 33 u.1 u.2 (cS (n + m) F' (col * 16 + 16)) ∧ tot (cS (n + m) F' (col * 16 + 16)) ≤ tot (cS n F (col * 16 + 16)) + 3 * (col * 16 + 16)) (fun u => (bo h c0 d0 s0 r0 (n) :: (shW cA d0 d01 d02 2096 33 u.1 u.2 (col * 16 + 16) ++ shW cA c0 c01 c02 2096 33 Lc Bc (32)))) := by
  refine CtV.start (lv0 := [(0, .ref h), (1, .int (nI col)), (2, .int (nI g)), (3, .int (nI m))]) (by decide) rfl (Nat.le_of_ble_eq_true rfl) ?_
  intro p_ e_ s_ m_ args_ below_ meth_ c_ A_ C hr hin
  have LP : ∀ (d v : Nat) (La Ba : Nat → Int32), v + d = 16 → Hs 2096 33 La Ba (cS (n + m) F' (col * 16 + v)) → tot (cS (n + m) F' (col * 16 + v)) ≤ tot (cS n F (col * 16 + v)) + 3 * (col * 16 + v) → X p_ l e_ ({ frames := 6, cells := 0, slots := 0, locals := 132 } : Room) s_ m_ args_ below_ meth_ c_ D A_ 5 0 0 (MQ below_ (va_Qv (fun (u : (Nat → Int32) × (Nat → Int32)) => Hs 2096 33 u.1 u.2 (cS (n + m) F' (col * 16 + 16)) ∧ tot (cS (n + m) F' (col * 16 + 16)) ≤ tot (cS n F (col * 16 + 16)) + 3 * (col * 16 + 16)) (Bw D A_ (fun u => (bo h c0 d0 s0 r0 (n) :: (shW cA d0 d01 d02 2096 33 u.1 u.2 (col * 16 + 16) ++ shW cA c0 c01 c02 2096 33 Lc Bc (32))))) A_) args_ s_ 0 0 A_) [(h, .inr (1, [.ref c0, .ref d0, .ref s0, .ref r0, .int (nI n)])), (d0, .inr (0, [.ref d01, .ref d02, .int (nI (col * 16 + v))])), (d01, .inl (cA, 2096, .inl (La))), (d02, .inl (cA, 33, .inl (Ba))), (c0, .inr (0, [.ref c01, .ref c02, .int (nI 32)])), (c01, .inl (cA, 2096, .inl (Lc))), (c02, .inl (cA, 33, .inl (Bc)))] 3 [(4, .int (nI v)), (0, .ref h), (1, .int (nI col)), (2, .int (nI g)), (3, .int (nI m))] [] := by
    intro d
    induction d with
    | zero =>
      intro v La Ba hv hLa hlv
      have hv2 : v = 16 := by omega
      subst hv2
      refine x_iload C d_B_draftColumn_3 rfl ?_
      refine x_bipush (v := (nI (16))) C d_B_draftColumn_5 (by decide) ?_
      refine x_icmp_geN (tgt := 67) C d_B_draftColumn_7 (by decide) (by omega) (by omega) (fun c7 => ?_) (fun c7 => ?_)
      · exact x_vret C hr d_B_draftColumn_67 (La, Ba) rfl (⟨hLa, hlv⟩)
      · exact absurd c7 (by omega)
    | succ d ih =>
      intro v La Ba hv hLa hlv
      have hl1 := cS_tot_le n F (j := col * 16 + (v + 1)) (k := 32) (by omega)
      have hl2 : tot (cS n F (col * 16 + (v + 1))) = tot (cS n F (col * 16 + v)) + (wI n (F (col * 16 + v))).length := by
        rw [show col * 16 + (v + 1) = col * 16 + v + 1 from rfl, cS_succ, tot_app, tot_one]
      have hg0 : (cS n F 32).getD (col * 16 + v) [] = wI n (F (col * 16 + v)) := cS_get n F (by omega)
      have hstep : ∀ (u : (Nat → Int32) × (Nat → Int32)) (ws' : List (Nat × Nat)), Rep (n + m) (F' (col * 16 + v)) ws' → ws'.length ≤ (Wd n (F (col * 16 + v))).length + 3 → Hs 2096 33 u.1 u.2 (cS (n + m) F' (col * 16 + v) ++ [ws'.map enc]) → Hs 2096 33 u.1 u.2 (cS (n + m) F' (col * 16 + (v + 1))) ∧ tot (cS (n + m) F' (col * 16 + (v + 1))) ≤ tot (cS n F (col * 16 + (v + 1))) + 3 * (col * 16 + (v + 1)) := by
        intro u ws' h1 h2 h3
        have h4 := h1.eq
        subst h4
        have h5 : cS (n + m) F' (col * 16 + (v + 1)) = cS (n + m) F' (col * 16 + v) ++ [wI (n + m) (F' (col * 16 + v))] := cS_succ _ _ _
        refine ⟨by rw [h5]; exact h3, ?_⟩
        rw [h5, tot_app, tot_one, hl2, wI_len, wI_len]
        omega
      refine x_iload C d_B_draftColumn_3 rfl ?_
      refine x_bipush (v := (nI (16))) C d_B_draftColumn_5 (by decide) ?_
      refine x_icmp_geN (tgt := 67) C d_B_draftColumn_7 (by decide) (by omega) (by omega) (fun c7 => ?_) (fun c7 => ?_)
      · exact absurd c7 (by omega)
      · refine x_aload_n C d_B_draftColumn_10 rfl rfl ?_
        refine x_get C d_B_draftColumn_11 0 rfl rfl i_B 1 (by decide) lk_B_18 rfl rfl ?_
        refine x_callVV (wr := [(h, .inr (1, [.ref c0, .ref d0, .ref s0, .ref r0, .int (nI n)])), (c0, .inr (0, [.ref c01, .ref c02, .int (nI 32)])), (c01, .inl (cA, 2096, .inl (Lc))), (c02, .inl (cA, 33, .inl (Bc)))]) (rest := []) C (c_S_open hLa (cS_len _ _ _) (by rw [cS_len]; omega)) d_B_draftColumn_14 cd_S_open lk_B_31 dd_S_open rfl ⟨Nat.le_of_ble_eq_true rfl, Nat.le_of_ble_eq_true rfl⟩ ⟨Nat.le_refl _, Nat.le_refl _⟩ 0 0 rfl rfl [1, 2, 3] [0, 4, 5, 6] rfl rfl (by decide) (by decide) (by decide) rfl (Nat.le_of_ble_eq_true rfl) ?_
        intro u14 hp14
        refine x_aload_n C d_B_draftColumn_17 rfl rfl ?_
        refine x_get C d_B_draftColumn_18 0 rfl rfl i_B 1 (by decide) lk_B_18 rfl rfl ?_
        refine x_aload_n C d_B_draftColumn_21 rfl rfl ?_
        refine x_get C d_B_draftColumn_22 0 rfl rfl i_B 0 (by decide) lk_B_14 rfl rfl ?_
        refine x_iload_n C d_B_draftColumn_25 rfl rfl ?_
        refine x_bipush (v := (nI (16))) C d_B_draftColumn_26 (by decide) ?_
        refine x_imulN C d_B_draftColumn_28  ?_
        refine x_iload C d_B_draftColumn_29 rfl ?_
        refine x_iaddN C d_B_draftColumn_31  ?_
        refine x_callVV (wr := [(h, .inr (1, [.ref c0, .ref d0, .ref s0, .ref r0, .int (nI n)]))]) (rest := []) C (c_S_addSet (k := col * 16 + v + 1) (ss := cS (n + m) F' (col * 16 + v)) (s0 := []) (i := col * 16 + v) hp14 (by rw [cS_len]) hC (cS_len _ _ _) (by rw [cS_len]; omega) (by rw [hg0]; simp only [List.length_nil]; omega)) d_B_draftColumn_32 cd_S_addSet lk_B_90 dd_S_addSet rfl ⟨Nat.le_of_ble_eq_true rfl, Nat.le_of_ble_eq_true rfl⟩ ⟨Nat.le_refl _, Nat.le_refl _⟩ 0 0 rfl rfl [4, 5, 6, 1, 2, 3] [0] rfl rfl (by decide) (by decide) (by decide) rfl (Nat.le_of_ble_eq_true rfl) ?_
        intro u32 hp32
        rw [hg0, List.nil_append] at hp32
        refine x_aload_n C d_B_draftColumn_35 rfl rfl ?_
        refine x_get C d_B_draftColumn_36 0 rfl rfl i_B 1 (by decide) lk_B_18 rfl rfl ?_
        refine x_iload C d_B_draftColumn_39 rfl ?_
        refine x_iload_n C d_B_draftColumn_41 rfl rfl ?_
        refine x_icmp_neN (tgt := 49) C d_B_draftColumn_42 (by decide) (by omega) (by omega) (fun c42 => ?_) (fun c42 => ?_)
        · refine x_iconst (v := (nI (0))) C d_B_draftColumn_49 (by decide) ?_
          refine x_aload_n C d_B_draftColumn_50 rfl rfl ?_
          refine x_get C d_B_draftColumn_51 0 rfl rfl i_B 4 (by decide) lk_B_27 rfl rfl ?_
          refine x_bipush (v := (nI (31))) C d_B_draftColumn_54 (by decide) ?_
          refine x_iremN C d_B_draftColumn_56 (by omega) (by omega) (by omega) ?_
          refine x_iload_n C d_B_draftColumn_57 rfl rfl ?_
          refine x_callVV (wr := [(h, .inr (1, [.ref c0, .ref d0, .ref s0, .ref r0, .int (nI n)])), (c0, .inr (0, [.ref c01, .ref c02, .int (nI 32)])), (c01, .inl (cA, 2096, .inl (Lc))), (c02, .inl (cA, 33, .inl (Bc)))]) (rest := []) C (c_S_addRows_false (k := col * 16 + v + 1) (ws := Wd n (F (col * 16 + v))) (f := F (col * 16 + v)) (n := n) (m := m) hp32 (by rw [cS_len]) (Wd_rep _ _) (hsup _) hm hn (by rw [wI_len] at hl2; omega)) d_B_draftColumn_58 cd_S_addRows lk_B_94 dd_S_addRows rfl ⟨Nat.le_of_ble_eq_true rfl, Nat.le_of_ble_eq_true rfl⟩ ⟨Nat.le_refl _, Nat.le_refl _⟩ 0 0 rfl rfl [1, 2, 3] [0, 4, 5, 6] rfl rfl (by decide) (by decide) (by decide) rfl (Nat.le_of_ble_eq_true rfl) ?_
          intro u58 hp58
          obtain ⟨ws9, hr9, hl9, hH9⟩ := hp58
          refine x_iincN (lv' := [(4, .int (nI (v + 1))), (0, .ref h), (1, .int (nI col)), (2, .int (nI g)), (3, .int (nI m))]) C d_B_draftColumn_61 rfl (by decide) rfl ?_
          refine x_goto (tgt := 3) C d_B_draftColumn_64 (by decide) ?_
          refine x_perm (ws' := [(h, .inr (1, [.ref c0, .ref d0, .ref s0, .ref r0, .int (nI n)])), (d0, .inr (0, [.ref d01, .ref d02, .int (nI (col * 16 + v + 1))])), (d01, .inl (cA, 2096, .inl (u58.1))), (d02, .inl (cA, 33, .inl (u58.2))), (c0, .inr (0, [.ref c01, .ref c02, .int (nI 32)])), (c01, .inl (cA, 2096, .inl (Lc))), (c02, .inl (cA, 33, .inl (Bc)))]) [0, 4, 5, 6, 1, 2, 3] (by decide) rfl ?_
          refine x_lv (lv' := [(4, .int (nI (v + 1))), (0, .ref h), (1, .int (nI col)), (2, .int (nI g)), (3, .int (nI m))]) (Or.inr (List.forall_mem_cons.mpr ⟨rfl, List.forall_mem_cons.mpr ⟨rfl, List.forall_mem_cons.mpr ⟨rfl, List.forall_mem_cons.mpr ⟨rfl, List.forall_mem_cons.mpr ⟨rfl, fun _ h9 => absurd h9 List.not_mem_nil⟩⟩⟩⟩⟩)) ?_
          exact ih (v + 1) u58.1 u58.2 (by omega) (hstep u58 ws9 (by rw [hF v (by omega), decide_eq_false c42]; exact hr9) hl9 hH9).1 (hstep u58 ws9 (by rw [hF v (by omega), decide_eq_false c42]; exact hr9) hl9 hH9).2
        · refine x_iconst (v := (nI (1))) C d_B_draftColumn_45 (by decide) ?_
          refine x_goto (tgt := 50) C d_B_draftColumn_46 (by decide) ?_
          refine x_aload_n C d_B_draftColumn_50 rfl rfl ?_
          refine x_get C d_B_draftColumn_51 0 rfl rfl i_B 4 (by decide) lk_B_27 rfl rfl ?_
          refine x_bipush (v := (nI (31))) C d_B_draftColumn_54 (by decide) ?_
          refine x_iremN C d_B_draftColumn_56 (by omega) (by omega) (by omega) ?_
          refine x_iload_n C d_B_draftColumn_57 rfl rfl ?_
          refine x_callVV (wr := [(h, .inr (1, [.ref c0, .ref d0, .ref s0, .ref r0, .int (nI n)])), (c0, .inr (0, [.ref c01, .ref c02, .int (nI 32)])), (c01, .inl (cA, 2096, .inl (Lc))), (c02, .inl (cA, 33, .inl (Bc)))]) (rest := []) C (c_S_addRows_true (k := col * 16 + v + 1) (ws := Wd n (F (col * 16 + v))) (f := F (col * 16 + v)) (n := n) (m := m) hp32 (by rw [cS_len]) (Wd_rep _ _) (hsup _) hm hn (by rw [wI_len] at hl2; omega)) d_B_draftColumn_58 cd_S_addRows lk_B_94 dd_S_addRows rfl ⟨Nat.le_of_ble_eq_true rfl, Nat.le_of_ble_eq_true rfl⟩ ⟨Nat.le_refl _, Nat.le_refl _⟩ 0 0 rfl rfl [1, 2, 3] [0, 4, 5, 6] rfl rfl (by decide) (by decide) (by decide) rfl (Nat.le_of_ble_eq_true rfl) ?_
          intro u58 hp58
          obtain ⟨ws9, hr9, hl9, hH9⟩ := hp58
          refine x_iincN (lv' := [(4, .int (nI (v + 1))), (0, .ref h), (1, .int (nI col)), (2, .int (nI g)), (3, .int (nI m))]) C d_B_draftColumn_61 rfl (by decide) rfl ?_
          refine x_goto (tgt := 3) C d_B_draftColumn_64 (by decide) ?_
          refine x_perm (ws' := [(h, .inr (1, [.ref c0, .ref d0, .ref s0, .ref r0, .int (nI n)])), (d0, .inr (0, [.ref d01, .ref d02, .int (nI (col * 16 + v + 1))])), (d01, .inl (cA, 2096, .inl (u58.1))), (d02, .inl (cA, 33, .inl (u58.2))), (c0, .inr (0, [.ref c01, .ref c02, .int (nI 32)])), (c01, .inl (cA, 2096, .inl (Lc))), (c02, .inl (cA, 33, .inl (Bc)))]) [0, 4, 5, 6, 1, 2, 3] (by decide) rfl ?_
          refine x_lv (lv' := [(4, .int (nI (v + 1))), (0, .ref h), (1, .int (nI col)), (2, .int (nI g)), (3, .int (nI m))]) (Or.inr (List.forall_mem_cons.mpr ⟨rfl, List.forall_mem_cons.mpr ⟨rfl, List.forall_mem_cons.mpr ⟨rfl, List.forall_mem_cons.mpr ⟨rfl, List.forall_mem_cons.mpr ⟨rfl, fun _ h9 => absurd h9 List.not_mem_nil⟩⟩⟩⟩⟩)) ?_
          exact ih (v + 1) u58.1 u58.2 (by omega) (hstep u58 ws9 (by rw [hF v (by omega), decide_eq_true c42]; exact hr9) hl9 hH9).1 (hstep u58 ws9 (by rw [hF v (by omega), decide_eq_true c42]; exact hr9) hl9 hH9).2
  refine x_iconst (v := (nI (0))) C d_B_draftColumn_0 (by decide) ?_
  refine x_istore (lv' := [(4, .int (nI 0)), (0, .ref h), (1, .int (nI col)), (2, .int (nI g)), (3, .int (nI m))]) C d_B_draftColumn_1 (by decide) rfl ?_
  refine x_lv (lv' := [(4, .int (nI 0)), (0, .ref h), (1, .int (nI col)), (2, .int (nI g)), (3, .int (nI m))]) (Or.inr (List.forall_mem_cons.mpr ⟨rfl, List.forall_mem_cons.mpr ⟨rfl, List.forall_mem_cons.mpr ⟨rfl, List.forall_mem_cons.mpr ⟨rfl, List.forall_mem_cons.mpr ⟨rfl, fun _ h9 => absurd h9 List.not_mem_nil⟩⟩⟩⟩⟩)) ?_
  exact LP 16 0 Ld Bd (by omega) hD hle
set_option maxHeartbeats 4000000 in
theorem c_B_append_busy {l : Launch} {D : va_G} {cA : ClassId} {h c0 d0 s0 r0 n : Nat} {s01 s02 : Nat} {Ls Bs : Nat → Int32} {a b m : Nat} (ha : a < 16) (hb : b < 16) (hm : 1 ≤ m) (hm2 : m ≤ 1000000) {k : Nat} (hk : 0 < k) (hk2 : k < 1000)  : CtI l D cA y_B_append b_B_append 5 (some .int) ({ frames := 7, cells := 0, slots := 0, locals := 156 } : Room) [.ref h, .int (nI a), .int (nI b), .int (nI m)] (bo h c0 d0 s0 r0 (n) :: (shW cA s0 s01 s02 3000 13 Ls Bs (k))) (fun r (_ : Unit) => r = -2) (fun _ => (bo h c0 d0 s0 r0 (n) :: (shW cA s0 s01 s02 3000 13 Ls Bs (k)))) := by
  refine CtI.start (lv0 := [(0, .ref h), (1, .int (nI a)), (2, .int (nI b)), (3, .int (nI m))]) (by decide) rfl (Nat.le_of_ble_eq_true rfl) ?_
  intro p_ e_ s_ m_ args_ below_ meth_ c_ A_ C hr hin
  refine x_iload_n C d_B_append_0 rfl rfl ?_
  refine x_callSI (wr := [(h, .inr (1, [.ref c0, .ref d0, .ref s0, .ref r0, .int (nI n)])), (s0, .inr (0, [.ref s01, .ref s02, .int (nI k)])), (s01, .inl (cA, 3000, .inl (Ls))), (s02, .inl (cA, 13, .inl (Bs)))]) (rest := []) C (c_B_isValue (x := nI a)) d_B_append_1 cd_B_isValue lk_B_34 dd_B_isValue rfl ⟨Nat.le_of_ble_eq_true rfl, Nat.le_of_ble_eq_true rfl⟩ ⟨Nat.le_refl _, Nat.le_refl _⟩ [] [0, 1, 2, 3] rfl rfl (by decide) (by decide) (by decide) rfl (Nat.le_of_ble_eq_true rfl) ?_
  intro r_ u_ hp_
  obtain rfl := hp_
  refine x_top (y := (nI (1))) (if_pos ⟨nI_pos (by omega), nI_ge (by omega) (by omega)⟩) ?_
  refine x_if_eqN (tgt := 25) C d_B_append_4 (by decide) (by omega) (fun c4 => ?_) (fun c4 => ?_)
  · exact absurd c4 (by omega)
  · refine x_iload_n C d_B_append_7 rfl rfl ?_
    refine x_callSI (wr := [(h, .inr (1, [.ref c0, .ref d0, .ref s0, .ref r0, .int (nI n)])), (s0, .inr (0, [.ref s01, .ref s02, .int (nI k)])), (s01, .inl (cA, 3000, .inl (Ls))), (s02, .inl (cA, 13, .inl (Bs)))]) (rest := []) C (c_B_isValue (x := nI b)) d_B_append_8 cd_B_isValue lk_B_34 dd_B_isValue rfl ⟨Nat.le_of_ble_eq_true rfl, Nat.le_of_ble_eq_true rfl⟩ ⟨Nat.le_refl _, Nat.le_refl _⟩ [] [0, 1, 2, 3] rfl rfl (by decide) (by decide) (by decide) rfl (Nat.le_of_ble_eq_true rfl) ?_
    intro r_ u_ hp_
    obtain rfl := hp_
    refine x_top (y := (nI (1))) (if_pos ⟨nI_pos (by omega), nI_ge (by omega) (by omega)⟩) ?_
    refine x_if_eqN (tgt := 25) C d_B_append_11 (by decide) (by omega) (fun c11 => ?_) (fun c11 => ?_)
    · exact absurd c11 (by omega)
    · refine x_iload_n C d_B_append_14 rfl rfl ?_
      refine x_iconst (v := (nI (1))) C d_B_append_15 (by decide) ?_
      refine x_icmp_ltN (tgt := 25) C d_B_append_16 (by decide) (by omega) (by omega) (fun c16 => ?_) (fun c16 => ?_)
      · exact absurd c16 (by omega)
      · refine x_iload_n C d_B_append_19 rfl rfl ?_
        refine x_ldc C d_B_append_20 lk_B_38 ?_
        refine x_top (y := nI 1000000) (by decide) ?_
        refine x_icmp_leN (tgt := 27) C d_B_append_22 (by decide) (by omega) (by omega) (fun c22 => ?_) (fun c22 => ?_)
        · refine x_aload_n C d_B_append_27 rfl rfl ?_
          refine x_get C d_B_append_28 0 rfl rfl i_B 2 (by decide) lk_B_21 rfl rfl ?_
          refine x_getN C d_B_append_31 1 rfl rfl i_S 2 (by decide) lk_B_39 rfl rfl ?_
          refine x_if_leN (tgt := 40) C d_B_append_34 (by decide) (by omega) (fun c34 => ?_) (fun c34 => ?_)
          · exact absurd c34 (by omega)
          · refine x_bipush (v := ((-2))) C d_B_append_37 (by decide) ?_
            exact x_iret C hr d_B_append_39 () rfl (rfl)
        · exact absurd c22 (by omega)
set_option maxHeartbeats 4000000 in
theorem c_B_append_many {l : Launch} {D : va_G} {cA : ClassId} {h c0 d0 s0 r0 n : Nat} {s01 s02 : Nat} {Ls Bs : Nat → Int32} {a b m : Nat} (ha : a < 16) (hb : b < 16) (hm : 1 ≤ m) (hm2 : m ≤ 1000000) (hn : n ≤ 1000000) (hno : 1000000 < n + m)  : CtI l D cA y_B_append b_B_append 5 (some .int) ({ frames := 7, cells := 0, slots := 0, locals := 156 } : Room) [.ref h, .int (nI a), .int (nI b), .int (nI m)] (bo h c0 d0 s0 r0 (n) :: (shW cA s0 s01 s02 3000 13 Ls Bs (0))) (fun r (_ : Unit) => r = -3) (fun _ => (bo h c0 d0 s0 r0 (n) :: (shW cA s0 s01 s02 3000 13 Ls Bs (0)))) := by
  refine CtI.start (lv0 := [(0, .ref h), (1, .int (nI a)), (2, .int (nI b)), (3, .int (nI m))]) (by decide) rfl (Nat.le_of_ble_eq_true rfl) ?_
  intro p_ e_ s_ m_ args_ below_ meth_ c_ A_ C hr hin
  refine x_iload_n C d_B_append_0 rfl rfl ?_
  refine x_callSI (wr := [(h, .inr (1, [.ref c0, .ref d0, .ref s0, .ref r0, .int (nI n)])), (s0, .inr (0, [.ref s01, .ref s02, .int (nI 0)])), (s01, .inl (cA, 3000, .inl (Ls))), (s02, .inl (cA, 13, .inl (Bs)))]) (rest := []) C (c_B_isValue (x := nI a)) d_B_append_1 cd_B_isValue lk_B_34 dd_B_isValue rfl ⟨Nat.le_of_ble_eq_true rfl, Nat.le_of_ble_eq_true rfl⟩ ⟨Nat.le_refl _, Nat.le_refl _⟩ [] [0, 1, 2, 3] rfl rfl (by decide) (by decide) (by decide) rfl (Nat.le_of_ble_eq_true rfl) ?_
  intro r_ u_ hp_
  obtain rfl := hp_
  refine x_top (y := (nI (1))) (if_pos ⟨nI_pos (by omega), nI_ge (by omega) (by omega)⟩) ?_
  refine x_if_eqN (tgt := 25) C d_B_append_4 (by decide) (by omega) (fun c4 => ?_) (fun c4 => ?_)
  · exact absurd c4 (by omega)
  · refine x_iload_n C d_B_append_7 rfl rfl ?_
    refine x_callSI (wr := [(h, .inr (1, [.ref c0, .ref d0, .ref s0, .ref r0, .int (nI n)])), (s0, .inr (0, [.ref s01, .ref s02, .int (nI 0)])), (s01, .inl (cA, 3000, .inl (Ls))), (s02, .inl (cA, 13, .inl (Bs)))]) (rest := []) C (c_B_isValue (x := nI b)) d_B_append_8 cd_B_isValue lk_B_34 dd_B_isValue rfl ⟨Nat.le_of_ble_eq_true rfl, Nat.le_of_ble_eq_true rfl⟩ ⟨Nat.le_refl _, Nat.le_refl _⟩ [] [0, 1, 2, 3] rfl rfl (by decide) (by decide) (by decide) rfl (Nat.le_of_ble_eq_true rfl) ?_
    intro r_ u_ hp_
    obtain rfl := hp_
    refine x_top (y := (nI (1))) (if_pos ⟨nI_pos (by omega), nI_ge (by omega) (by omega)⟩) ?_
    refine x_if_eqN (tgt := 25) C d_B_append_11 (by decide) (by omega) (fun c11 => ?_) (fun c11 => ?_)
    · exact absurd c11 (by omega)
    · refine x_iload_n C d_B_append_14 rfl rfl ?_
      refine x_iconst (v := (nI (1))) C d_B_append_15 (by decide) ?_
      refine x_icmp_ltN (tgt := 25) C d_B_append_16 (by decide) (by omega) (by omega) (fun c16 => ?_) (fun c16 => ?_)
      · exact absurd c16 (by omega)
      · refine x_iload_n C d_B_append_19 rfl rfl ?_
        refine x_ldc C d_B_append_20 lk_B_38 ?_
        refine x_top (y := nI 1000000) (by decide) ?_
        refine x_icmp_leN (tgt := 27) C d_B_append_22 (by decide) (by omega) (by omega) (fun c22 => ?_) (fun c22 => ?_)
        · refine x_aload_n C d_B_append_27 rfl rfl ?_
          refine x_get C d_B_append_28 0 rfl rfl i_B 2 (by decide) lk_B_21 rfl rfl ?_
          refine x_getN C d_B_append_31 1 rfl rfl i_S 2 (by decide) lk_B_39 rfl rfl ?_
          refine x_if_leN (tgt := 40) C d_B_append_34 (by decide) (by omega) (fun c34 => ?_) (fun c34 => ?_)
          · refine x_iload_n C d_B_append_40 rfl rfl ?_
            refine x_ldc C d_B_append_41 lk_B_38 ?_
            refine x_top (y := nI 1000000) (by decide) ?_
            refine x_aload_n C d_B_append_43 rfl rfl ?_
            refine x_get C d_B_append_44 0 rfl rfl i_B 4 (by decide) lk_B_27 rfl rfl ?_
            refine x_isubN C d_B_append_47 (by omega) ?_
            refine x_icmp_leN (tgt := 54) C d_B_append_48 (by decide) (by omega) (by omega) (fun c48 => ?_) (fun c48 => ?_)
            · exact absurd c48 (by omega)
            · refine x_bipush (v := ((-3))) C d_B_append_51 (by decide) ?_
              exact x_iret C hr d_B_append_53 () rfl (rfl)
          · exact absurd c34 (by omega)
        · exact absurd c22 (by omega)
set_option maxHeartbeats 4000000 in
theorem c_B_append {l : Launch} {D : va_G} {cA : ClassId} {h c0 d0 s0 r0 n : Nat} {s01 s02 : Nat} {Ls Bs : Nat → Int32} {c01 c02 : Nat} {Lc Bc : Nat → Int32} {d01 d02 : Nat} {Ld Bd : Nat → Int32} {a b m kd : Nat} {dd : List (List Int32)} {F F' : Nat → Nat → Bool} (ha : a < 16) (hb : b < 16) (hm : 1 ≤ m) (hn : n + m ≤ 1000000) (hC : Hs 2096 33 Lc Bc (cS n F 32)) (hD : Hs 2096 33 Ld Bd dd) (hkd : dd.length = kd) (hF0 : ∀ v, v < 16 → F' v = addr (F v) n m (decide (v = a))) (hF1 : ∀ v, v < 16 → F' (16 + v) = addr (F (16 + v)) n m (decide (v = b))) (hsup : ∀ v, sup n (F v)) (ht : tot (cS n F 32) ≤ 2000) (hfit : tot (cS (n + m) F' 32) ≤ 2000)  : CtI l D cA y_B_append b_B_append 5 (some .int) ({ frames := 7, cells := 0, slots := 0, locals := 156 } : Room) [.ref h, .int (nI a), .int (nI b), .int (nI m)] (bo h c0 d0 s0 r0 (n) :: (shW cA s0 s01 s02 3000 13 Ls Bs (0) ++ shW cA c0 c01 c02 2096 33 Lc Bc (32) ++ shW cA d0 d01 d02 2096 33 Ld Bd (kd))) (fun r (u : (Nat → Int32) × (Nat → Int32)) => r = nI (n + m) ∧ Hs 2096 33 u.1 u.2 (cS (n + m) F' 32)) (fun u => (bo h d0 c0 s0 r0 (n + m) :: (shW cA s0 s01 s02 3000 13 Ls Bs (0) ++ shW cA c0 c01 c02 2096 33 Lc Bc (32) ++ shW cA d0 d01 d02 2096 33 u.1 u.2 (32)))) := by
  subst hkd
  refine CtI.start (lv0 := [(0, .ref h), (1, .int (nI a)), (2, .int (nI b)), (3, .int (nI m))]) (by decide) rfl (Nat.le_of_ble_eq_true rfl) ?_
  intro p_ e_ s_ m_ args_ below_ meth_ c_ A_ C hr hin
  refine x_iload_n C d_B_append_0 rfl rfl ?_
  refine x_callSI (wr := [(h, .inr (1, [.ref c0, .ref d0, .ref s0, .ref r0, .int (nI n)])), (s0, .inr (0, [.ref s01, .ref s02, .int (nI 0)])), (s01, .inl (cA, 3000, .inl (Ls))), (s02, .inl (cA, 13, .inl (Bs))), (c0, .inr (0, [.ref c01, .ref c02, .int (nI 32)])), (c01, .inl (cA, 2096, .inl (Lc))), (c02, .inl (cA, 33, .inl (Bc))), (d0, .inr (0, [.ref d01, .ref d02, .int (nI (dd.length))])), (d01, .inl (cA, 2096, .inl (Ld))), (d02, .inl (cA, 33, .inl (Bd)))]) (rest := []) C (c_B_isValue (x := nI a)) d_B_append_1 cd_B_isValue lk_B_34 dd_B_isValue rfl ⟨Nat.le_of_ble_eq_true rfl, Nat.le_of_ble_eq_true rfl⟩ ⟨Nat.le_refl _, Nat.le_refl _⟩ [] [0, 1, 2, 3, 4, 5, 6, 7, 8, 9] rfl rfl (by decide) (by decide) (by decide) rfl (Nat.le_of_ble_eq_true rfl) ?_
  intro r_ u_ hp_
  obtain rfl := hp_
  refine x_top (y := (nI (1))) (if_pos ⟨nI_pos (by omega), nI_ge (by omega) (by omega)⟩) ?_
  refine x_if_eqN (tgt := 25) C d_B_append_4 (by decide) (by omega) (fun c4 => ?_) (fun c4 => ?_)
  · exact absurd c4 (by omega)
  · refine x_iload_n C d_B_append_7 rfl rfl ?_
    refine x_callSI (wr := [(h, .inr (1, [.ref c0, .ref d0, .ref s0, .ref r0, .int (nI n)])), (s0, .inr (0, [.ref s01, .ref s02, .int (nI 0)])), (s01, .inl (cA, 3000, .inl (Ls))), (s02, .inl (cA, 13, .inl (Bs))), (c0, .inr (0, [.ref c01, .ref c02, .int (nI 32)])), (c01, .inl (cA, 2096, .inl (Lc))), (c02, .inl (cA, 33, .inl (Bc))), (d0, .inr (0, [.ref d01, .ref d02, .int (nI (dd.length))])), (d01, .inl (cA, 2096, .inl (Ld))), (d02, .inl (cA, 33, .inl (Bd)))]) (rest := []) C (c_B_isValue (x := nI b)) d_B_append_8 cd_B_isValue lk_B_34 dd_B_isValue rfl ⟨Nat.le_of_ble_eq_true rfl, Nat.le_of_ble_eq_true rfl⟩ ⟨Nat.le_refl _, Nat.le_refl _⟩ [] [0, 1, 2, 3, 4, 5, 6, 7, 8, 9] rfl rfl (by decide) (by decide) (by decide) rfl (Nat.le_of_ble_eq_true rfl) ?_
    intro r_ u_ hp_
    obtain rfl := hp_
    refine x_top (y := (nI (1))) (if_pos ⟨nI_pos (by omega), nI_ge (by omega) (by omega)⟩) ?_
    refine x_if_eqN (tgt := 25) C d_B_append_11 (by decide) (by omega) (fun c11 => ?_) (fun c11 => ?_)
    · exact absurd c11 (by omega)
    · refine x_iload_n C d_B_append_14 rfl rfl ?_
      refine x_iconst (v := (nI (1))) C d_B_append_15 (by decide) ?_
      refine x_icmp_ltN (tgt := 25) C d_B_append_16 (by decide) (by omega) (by omega) (fun c16 => ?_) (fun c16 => ?_)
      · exact absurd c16 (by omega)
      · refine x_iload_n C d_B_append_19 rfl rfl ?_
        refine x_ldc C d_B_append_20 lk_B_38 ?_
        refine x_top (y := nI 1000000) (by decide) ?_
        refine x_icmp_leN (tgt := 27) C d_B_append_22 (by decide) (by omega) (by omega) (fun c22 => ?_) (fun c22 => ?_)
        · refine x_aload_n C d_B_append_27 rfl rfl ?_
          refine x_get C d_B_append_28 0 rfl rfl i_B 2 (by decide) lk_B_21 rfl rfl ?_
          refine x_getN C d_B_append_31 1 rfl rfl i_S 2 (by decide) lk_B_39 rfl rfl ?_
          refine x_if_leN (tgt := 40) C d_B_append_34 (by decide) (by omega) (fun c34 => ?_) (fun c34 => ?_)
          · refine x_iload_n C d_B_append_40 rfl rfl ?_
            refine x_ldc C d_B_append_41 lk_B_38 ?_
            refine x_top (y := nI 1000000) (by decide) ?_
            refine x_aload_n C d_B_append_43 rfl rfl ?_
            refine x_get C d_B_append_44 0 rfl rfl i_B 4 (by decide) lk_B_27 rfl rfl ?_
            refine x_isubN C d_B_append_47 (by omega) ?_
            refine x_icmp_leN (tgt := 54) C d_B_append_48 (by decide) (by omega) (by omega) (fun c48 => ?_) (fun c48 => ?_)
            · refine x_aload_n C d_B_append_54 rfl rfl ?_
              refine x_get C d_B_append_55 0 rfl rfl i_B 1 (by decide) lk_B_18 rfl rfl ?_
              refine x_callVV (wr := [(h, .inr (1, [.ref c0, .ref d0, .ref s0, .ref r0, .int (nI n)])), (s0, .inr (0, [.ref s01, .ref s02, .int (nI 0)])), (s01, .inl (cA, 3000, .inl (Ls))), (s02, .inl (cA, 13, .inl (Bs))), (c0, .inr (0, [.ref c01, .ref c02, .int (nI 32)])), (c01, .inl (cA, 2096, .inl (Lc))), (c02, .inl (cA, 33, .inl (Bc)))]) (rest := []) C (c_S_clear hD rfl) d_B_append_58 cd_S_clear lk_B_42 dd_S_clear rfl ⟨Nat.le_of_ble_eq_true rfl, Nat.le_of_ble_eq_true rfl⟩ ⟨Nat.le_refl _, Nat.le_refl _⟩ 0 0 rfl rfl [7, 8, 9] [0, 1, 2, 3, 4, 5, 6] rfl rfl (by decide) (by decide) (by decide) rfl (Nat.le_of_ble_eq_true rfl) ?_
              intro u_ hp_
              refine x_aload_n C d_B_append_61 rfl rfl ?_
              refine x_iconst (v := (nI (0))) C d_B_append_62 (by decide) ?_
              refine x_iload_n C d_B_append_63 rfl rfl ?_
              refine x_iload_n C d_B_append_64 rfl rfl ?_
              refine x_callVV (wr := [(s0, .inr (0, [.ref s01, .ref s02, .int (nI 0)])), (s01, .inl (cA, 3000, .inl (Ls))), (s02, .inl (cA, 13, .inl (Bs)))]) (rest := []) C (c_B_draftColumn (col := 0) (g := a) (m := m) (F := F) (F' := F') (by omega) hC hD.clear (fun v hv => by rw [show 0 * 16 + v = v by omega]; exact hF0 v hv) hsup ha hm hn ht (by show 0 ≤ _; omega)) d_B_append_65 cd_B_draftColumn lk_B_45 dd_B_draftColumn rfl ⟨Nat.le_of_ble_eq_true rfl, Nat.le_of_ble_eq_true rfl⟩ ⟨Nat.le_refl _, Nat.le_refl _⟩ 1 0 rfl rfl [0, 7, 8, 9, 4, 5, 6] [1, 2, 3] rfl rfl (by decide) (by decide) (by decide) rfl (Nat.le_of_ble_eq_true rfl) ?_
              intro u65 hp65
              obtain ⟨hp65, hq65⟩ := hp65
              refine x_aload_n C d_B_append_68 rfl rfl ?_
              refine x_iconst (v := (nI (1))) C d_B_append_69 (by decide) ?_
              refine x_iload_n C d_B_append_70 rfl rfl ?_
              refine x_iload_n C d_B_append_71 rfl rfl ?_
              refine x_callVV (wr := [(s0, .inr (0, [.ref s01, .ref s02, .int (nI 0)])), (s01, .inl (cA, 3000, .inl (Ls))), (s02, .inl (cA, 13, .inl (Bs)))]) (rest := []) C (c_B_draftColumn (col := 1) (g := b) (m := m) (F := F) (F' := F') (by omega) hC hp65 (fun v hv => hF1 v hv) hsup hb hm hn ht hq65) d_B_append_72 cd_B_draftColumn lk_B_45 dd_B_draftColumn rfl ⟨Nat.le_of_ble_eq_true rfl, Nat.le_of_ble_eq_true rfl⟩ ⟨Nat.le_refl _, Nat.le_refl _⟩ 1 0 rfl rfl [3, 4, 5, 6, 7, 8, 9] [0, 1, 2] rfl rfl (by decide) (by decide) (by decide) rfl (Nat.le_of_ble_eq_true rfl) ?_
              intro u72 hp72
              obtain ⟨hp72, hq72⟩ := hp72
              have hp72 : Hs 2096 33 u72.1 u72.2 (cS (n + m) F' 32) := hp72
              have hn9 := hp72.nums
              refine x_aload_n C d_B_append_75 rfl rfl ?_
              refine x_get C d_B_append_76 3 rfl rfl i_B 1 (by decide) lk_B_18 rfl rfl ?_
              refine x_callVI (wr := [(s0, .inr (0, [.ref s01, .ref s02, .int (nI 0)])), (s01, .inl (cA, 3000, .inl (Ls))), (s02, .inl (cA, 13, .inl (Bs))), (h, .inr (1, [.ref c0, .ref d0, .ref s0, .ref r0, .int (nI n)])), (c0, .inr (0, [.ref c01, .ref c02, .int (nI 32)])), (c01, .inl (cA, 2096, .inl (Lc))), (c02, .inl (cA, 33, .inl (Bc)))]) (rest := []) C (c_S_used hp72 (cS_len _ _ _)) d_B_append_79 cd_S_used lk_B_49 dd_S_used rfl ⟨Nat.le_of_ble_eq_true rfl, Nat.le_of_ble_eq_true rfl⟩ ⟨Nat.le_refl _, Nat.le_refl _⟩ 0 0 rfl rfl [4, 5, 6] [0, 1, 2, 3, 7, 8, 9] rfl rfl (by decide) (by decide) (by decide) rfl (Nat.le_of_ble_eq_true rfl) ?_
              intro r_ u_ hp_
              obtain rfl := hp_
              refine x_sipush (v := (nI (2000))) C d_B_append_82 (by decide) ?_
              refine x_icmp_leN (tgt := 91) C d_B_append_85 (by decide) (by omega) (by omega) (fun c85 => ?_) (fun c85 => ?_)
              · refine x_aload_n C d_B_append_91 rfl rfl ?_
                refine x_get C d_B_append_92 3 rfl rfl i_B 0 (by decide) lk_B_14 rfl rfl ?_
                refine x_astore (lv' := [(4, .ref c0), (0, .ref h), (1, .int (nI a)), (2, .int (nI b)), (3, .int (nI m))]) C d_B_append_95 (by decide) rfl ?_
                refine x_aload_n C d_B_append_97 rfl rfl ?_
                refine x_aload_n C d_B_append_98 rfl rfl ?_
                refine x_get C d_B_append_99 3 rfl rfl i_B 1 (by decide) lk_B_18 rfl rfl ?_
                refine x_put (ty := .object "RunBitmaps$Shelf") (v := .ref d0) (ws' := [(s0, .inr (0, [.ref s01, .ref s02, .int (nI 0)])), (s01, .inl (cA, 3000, .inl (Ls))), (s02, .inl (cA, 13, .inl (Bs))), (h, .inr (1, [.ref d0, .ref d0, .ref s0, .ref r0, .int (nI n)])), (c0, .inr (0, [.ref c01, .ref c02, .int (nI 32)])), (c01, .inl (cA, 2096, .inl (Lc))), (c02, .inl (cA, 33, .inl (Bc))), (d0, .inr (0, [.ref d01, .ref d02, .int (nI 32)])), (d01, .inl (cA, 2096, .inl (u72.1))), (d02, .inl (cA, 33, .inl (u72.2)))]) C d_B_append_102 3 rfl rfl i_B t_B t_B_ok n_B 0 (by decide) lk_B_14 rfl rfl (t_B_ok 0 (by decide)) rfl rfl (Nat.le_of_ble_eq_true rfl) rfl ?_
                refine x_aload_n C d_B_append_105 rfl rfl ?_
                refine x_aload C d_B_append_106 rfl ?_
                refine x_put (ty := .object "RunBitmaps$Shelf") (v := .ref c0) (ws' := [(s0, .inr (0, [.ref s01, .ref s02, .int (nI 0)])), (s01, .inl (cA, 3000, .inl (Ls))), (s02, .inl (cA, 13, .inl (Bs))), (h, .inr (1, [.ref d0, .ref c0, .ref s0, .ref r0, .int (nI n)])), (c0, .inr (0, [.ref c01, .ref c02, .int (nI 32)])), (c01, .inl (cA, 2096, .inl (Lc))), (c02, .inl (cA, 33, .inl (Bc))), (d0, .inr (0, [.ref d01, .ref d02, .int (nI 32)])), (d01, .inl (cA, 2096, .inl (u72.1))), (d02, .inl (cA, 33, .inl (u72.2)))]) C d_B_append_108 3 rfl rfl i_B t_B t_B_ok n_B 1 (by decide) lk_B_18 rfl rfl (t_B_ok 1 (by decide)) rfl rfl (Nat.le_of_ble_eq_true rfl) rfl ?_
                refine x_aload_n C d_B_append_111 rfl rfl ?_
                refine x_dup C d_B_append_112 rfl ?_
                refine x_get C d_B_append_113 3 rfl rfl i_B 4 (by decide) lk_B_27 rfl rfl ?_
                refine x_iload_n C d_B_append_116 rfl rfl ?_
                refine x_iaddN C d_B_append_117  ?_
                refine x_put (ty := .int) (v := .int (nI (n + m))) (ws' := [(s0, .inr (0, [.ref s01, .ref s02, .int (nI 0)])), (s01, .inl (cA, 3000, .inl (Ls))), (s02, .inl (cA, 13, .inl (Bs))), (h, .inr (1, [.ref d0, .ref c0, .ref s0, .ref r0, .int (nI (n + m))])), (c0, .inr (0, [.ref c01, .ref c02, .int (nI 32)])), (c01, .inl (cA, 2096, .inl (Lc))), (c02, .inl (cA, 33, .inl (Bc))), (d0, .inr (0, [.ref d01, .ref d02, .int (nI 32)])), (d01, .inl (cA, 2096, .inl (u72.1))), (d02, .inl (cA, 33, .inl (u72.2)))]) C d_B_append_118 3 rfl rfl i_B t_B t_B_ok n_B 4 (by decide) lk_B_27 rfl rfl (t_B_ok 4 (by decide)) rfl rfl (Nat.le_of_ble_eq_true rfl) rfl ?_
                refine x_aload_n C d_B_append_121 rfl rfl ?_
                refine x_get C d_B_append_122 3 rfl rfl i_B 4 (by decide) lk_B_27 rfl rfl ?_
                refine x_perm (ws' := [(h, .inr (1, [.ref d0, .ref c0, .ref s0, .ref r0, .int (nI (n + m))])), (s0, .inr (0, [.ref s01, .ref s02, .int (nI 0)])), (s01, .inl (cA, 3000, .inl (Ls))), (s02, .inl (cA, 13, .inl (Bs))), (c0, .inr (0, [.ref c01, .ref c02, .int (nI 32)])), (c01, .inl (cA, 2096, .inl (Lc))), (c02, .inl (cA, 33, .inl (Bc))), (d0, .inr (0, [.ref d01, .ref d02, .int (nI 32)])), (d01, .inl (cA, 2096, .inl (u72.1))), (d02, .inl (cA, 33, .inl (u72.2)))]) [3, 0, 1, 2, 4, 5, 6, 7, 8, 9] (by decide) rfl ?_
                exact x_iret C hr d_B_append_125 u72 rfl (⟨rfl, hp72⟩)
              · exact absurd c85 (by omega)
            · exact absurd c48 (by omega)
          · exact absurd c34 (by omega)
        · exact absurd c22 (by omega)
set_option maxHeartbeats 4000000 in
theorem c_B_append_words {l : Launch} {D : va_G} {cA : ClassId} {h c0 d0 s0 r0 n : Nat} {s01 s02 : Nat} {Ls Bs : Nat → Int32} {c01 c02 : Nat} {Lc Bc : Nat → Int32} {d01 d02 : Nat} {Ld Bd : Nat → Int32} {a b m kd : Nat} {dd : List (List Int32)} {F F' : Nat → Nat → Bool} (ha : a < 16) (hb : b < 16) (hm : 1 ≤ m) (hn : n + m ≤ 1000000) (hC : Hs 2096 33 Lc Bc (cS n F 32)) (hD : Hs 2096 33 Ld Bd dd) (hkd : dd.length = kd) (hF0 : ∀ v, v < 16 → F' v = addr (F v) n m (decide (v = a))) (hF1 : ∀ v, v < 16 → F' (16 + v) = addr (F (16 + v)) n m (decide (v = b))) (hsup : ∀ v, sup n (F v)) (ht : tot (cS n F 32) ≤ 2000) (hno : 2000 < tot (cS (n + m) F' 32))  : CtI l D cA y_B_append b_B_append 5 (some .int) ({ frames := 7, cells := 0, slots := 0, locals := 156 } : Room) [.ref h, .int (nI a), .int (nI b), .int (nI m)] (bo h c0 d0 s0 r0 (n) :: (shW cA s0 s01 s02 3000 13 Ls Bs (0) ++ shW cA c0 c01 c02 2096 33 Lc Bc (32) ++ shW cA d0 d01 d02 2096 33 Ld Bd (kd))) (fun r (u : (Nat → Int32) × (Nat → Int32)) => r = -3 ∧ Hs 2096 33 u.1 u.2 (cS (n + m) F' 32)) (fun u => (bo h c0 d0 s0 r0 (n) :: (shW cA s0 s01 s02 3000 13 Ls Bs (0) ++ shW cA c0 c01 c02 2096 33 Lc Bc (32) ++ shW cA d0 d01 d02 2096 33 u.1 u.2 (32)))) := by
  subst hkd
  refine CtI.start (lv0 := [(0, .ref h), (1, .int (nI a)), (2, .int (nI b)), (3, .int (nI m))]) (by decide) rfl (Nat.le_of_ble_eq_true rfl) ?_
  intro p_ e_ s_ m_ args_ below_ meth_ c_ A_ C hr hin
  refine x_iload_n C d_B_append_0 rfl rfl ?_
  refine x_callSI (wr := [(h, .inr (1, [.ref c0, .ref d0, .ref s0, .ref r0, .int (nI n)])), (s0, .inr (0, [.ref s01, .ref s02, .int (nI 0)])), (s01, .inl (cA, 3000, .inl (Ls))), (s02, .inl (cA, 13, .inl (Bs))), (c0, .inr (0, [.ref c01, .ref c02, .int (nI 32)])), (c01, .inl (cA, 2096, .inl (Lc))), (c02, .inl (cA, 33, .inl (Bc))), (d0, .inr (0, [.ref d01, .ref d02, .int (nI (dd.length))])), (d01, .inl (cA, 2096, .inl (Ld))), (d02, .inl (cA, 33, .inl (Bd)))]) (rest := []) C (c_B_isValue (x := nI a)) d_B_append_1 cd_B_isValue lk_B_34 dd_B_isValue rfl ⟨Nat.le_of_ble_eq_true rfl, Nat.le_of_ble_eq_true rfl⟩ ⟨Nat.le_refl _, Nat.le_refl _⟩ [] [0, 1, 2, 3, 4, 5, 6, 7, 8, 9] rfl rfl (by decide) (by decide) (by decide) rfl (Nat.le_of_ble_eq_true rfl) ?_
  intro r_ u_ hp_
  obtain rfl := hp_
  refine x_top (y := (nI (1))) (if_pos ⟨nI_pos (by omega), nI_ge (by omega) (by omega)⟩) ?_
  refine x_if_eqN (tgt := 25) C d_B_append_4 (by decide) (by omega) (fun c4 => ?_) (fun c4 => ?_)
  · exact absurd c4 (by omega)
  · refine x_iload_n C d_B_append_7 rfl rfl ?_
    refine x_callSI (wr := [(h, .inr (1, [.ref c0, .ref d0, .ref s0, .ref r0, .int (nI n)])), (s0, .inr (0, [.ref s01, .ref s02, .int (nI 0)])), (s01, .inl (cA, 3000, .inl (Ls))), (s02, .inl (cA, 13, .inl (Bs))), (c0, .inr (0, [.ref c01, .ref c02, .int (nI 32)])), (c01, .inl (cA, 2096, .inl (Lc))), (c02, .inl (cA, 33, .inl (Bc))), (d0, .inr (0, [.ref d01, .ref d02, .int (nI (dd.length))])), (d01, .inl (cA, 2096, .inl (Ld))), (d02, .inl (cA, 33, .inl (Bd)))]) (rest := []) C (c_B_isValue (x := nI b)) d_B_append_8 cd_B_isValue lk_B_34 dd_B_isValue rfl ⟨Nat.le_of_ble_eq_true rfl, Nat.le_of_ble_eq_true rfl⟩ ⟨Nat.le_refl _, Nat.le_refl _⟩ [] [0, 1, 2, 3, 4, 5, 6, 7, 8, 9] rfl rfl (by decide) (by decide) (by decide) rfl (Nat.le_of_ble_eq_true rfl) ?_
    intro r_ u_ hp_
    obtain rfl := hp_
    refine x_top (y := (nI (1))) (if_pos ⟨nI_pos (by omega), nI_ge (by omega) (by omega)⟩) ?_
    refine x_if_eqN (tgt := 25) C d_B_append_11 (by decide) (by omega) (fun c11 => ?_) (fun c11 => ?_)
    · exact absurd c11 (by omega)
    · refine x_iload_n C d_B_append_14 rfl rfl ?_
      refine x_iconst (v := (nI (1))) C d_B_append_15 (by decide) ?_
      refine x_icmp_ltN (tgt := 25) C d_B_append_16 (by decide) (by omega) (by omega) (fun c16 => ?_) (fun c16 => ?_)
      · exact absurd c16 (by omega)
      · refine x_iload_n C d_B_append_19 rfl rfl ?_
        refine x_ldc C d_B_append_20 lk_B_38 ?_
        refine x_top (y := nI 1000000) (by decide) ?_
        refine x_icmp_leN (tgt := 27) C d_B_append_22 (by decide) (by omega) (by omega) (fun c22 => ?_) (fun c22 => ?_)
        · refine x_aload_n C d_B_append_27 rfl rfl ?_
          refine x_get C d_B_append_28 0 rfl rfl i_B 2 (by decide) lk_B_21 rfl rfl ?_
          refine x_getN C d_B_append_31 1 rfl rfl i_S 2 (by decide) lk_B_39 rfl rfl ?_
          refine x_if_leN (tgt := 40) C d_B_append_34 (by decide) (by omega) (fun c34 => ?_) (fun c34 => ?_)
          · refine x_iload_n C d_B_append_40 rfl rfl ?_
            refine x_ldc C d_B_append_41 lk_B_38 ?_
            refine x_top (y := nI 1000000) (by decide) ?_
            refine x_aload_n C d_B_append_43 rfl rfl ?_
            refine x_get C d_B_append_44 0 rfl rfl i_B 4 (by decide) lk_B_27 rfl rfl ?_
            refine x_isubN C d_B_append_47 (by omega) ?_
            refine x_icmp_leN (tgt := 54) C d_B_append_48 (by decide) (by omega) (by omega) (fun c48 => ?_) (fun c48 => ?_)
            · refine x_aload_n C d_B_append_54 rfl rfl ?_
              refine x_get C d_B_append_55 0 rfl rfl i_B 1 (by decide) lk_B_18 rfl rfl ?_
              refine x_callVV (wr := [(h, .inr (1, [.ref c0, .ref d0, .ref s0, .ref r0, .int (nI n)])), (s0, .inr (0, [.ref s01, .ref s02, .int (nI 0)])), (s01, .inl (cA, 3000, .inl (Ls))), (s02, .inl (cA, 13, .inl (Bs))), (c0, .inr (0, [.ref c01, .ref c02, .int (nI 32)])), (c01, .inl (cA, 2096, .inl (Lc))), (c02, .inl (cA, 33, .inl (Bc)))]) (rest := []) C (c_S_clear hD rfl) d_B_append_58 cd_S_clear lk_B_42 dd_S_clear rfl ⟨Nat.le_of_ble_eq_true rfl, Nat.le_of_ble_eq_true rfl⟩ ⟨Nat.le_refl _, Nat.le_refl _⟩ 0 0 rfl rfl [7, 8, 9] [0, 1, 2, 3, 4, 5, 6] rfl rfl (by decide) (by decide) (by decide) rfl (Nat.le_of_ble_eq_true rfl) ?_
              intro u_ hp_
              refine x_aload_n C d_B_append_61 rfl rfl ?_
              refine x_iconst (v := (nI (0))) C d_B_append_62 (by decide) ?_
              refine x_iload_n C d_B_append_63 rfl rfl ?_
              refine x_iload_n C d_B_append_64 rfl rfl ?_
              refine x_callVV (wr := [(s0, .inr (0, [.ref s01, .ref s02, .int (nI 0)])), (s01, .inl (cA, 3000, .inl (Ls))), (s02, .inl (cA, 13, .inl (Bs)))]) (rest := []) C (c_B_draftColumn (col := 0) (g := a) (m := m) (F := F) (F' := F') (by omega) hC hD.clear (fun v hv => by rw [show 0 * 16 + v = v by omega]; exact hF0 v hv) hsup ha hm hn ht (by show 0 ≤ _; omega)) d_B_append_65 cd_B_draftColumn lk_B_45 dd_B_draftColumn rfl ⟨Nat.le_of_ble_eq_true rfl, Nat.le_of_ble_eq_true rfl⟩ ⟨Nat.le_refl _, Nat.le_refl _⟩ 1 0 rfl rfl [0, 7, 8, 9, 4, 5, 6] [1, 2, 3] rfl rfl (by decide) (by decide) (by decide) rfl (Nat.le_of_ble_eq_true rfl) ?_
              intro u65 hp65
              obtain ⟨hp65, hq65⟩ := hp65
              refine x_aload_n C d_B_append_68 rfl rfl ?_
              refine x_iconst (v := (nI (1))) C d_B_append_69 (by decide) ?_
              refine x_iload_n C d_B_append_70 rfl rfl ?_
              refine x_iload_n C d_B_append_71 rfl rfl ?_
              refine x_callVV (wr := [(s0, .inr (0, [.ref s01, .ref s02, .int (nI 0)])), (s01, .inl (cA, 3000, .inl (Ls))), (s02, .inl (cA, 13, .inl (Bs)))]) (rest := []) C (c_B_draftColumn (col := 1) (g := b) (m := m) (F := F) (F' := F') (by omega) hC hp65 (fun v hv => hF1 v hv) hsup hb hm hn ht hq65) d_B_append_72 cd_B_draftColumn lk_B_45 dd_B_draftColumn rfl ⟨Nat.le_of_ble_eq_true rfl, Nat.le_of_ble_eq_true rfl⟩ ⟨Nat.le_refl _, Nat.le_refl _⟩ 1 0 rfl rfl [3, 4, 5, 6, 7, 8, 9] [0, 1, 2] rfl rfl (by decide) (by decide) (by decide) rfl (Nat.le_of_ble_eq_true rfl) ?_
              intro u72 hp72
              obtain ⟨hp72, hq72⟩ := hp72
              have hp72 : Hs 2096 33 u72.1 u72.2 (cS (n + m) F' 32) := hp72
              have hn9 := hp72.nums
              refine x_aload_n C d_B_append_75 rfl rfl ?_
              refine x_get C d_B_append_76 3 rfl rfl i_B 1 (by decide) lk_B_18 rfl rfl ?_
              refine x_callVI (wr := [(s0, .inr (0, [.ref s01, .ref s02, .int (nI 0)])), (s01, .inl (cA, 3000, .inl (Ls))), (s02, .inl (cA, 13, .inl (Bs))), (h, .inr (1, [.ref c0, .ref d0, .ref s0, .ref r0, .int (nI n)])), (c0, .inr (0, [.ref c01, .ref c02, .int (nI 32)])), (c01, .inl (cA, 2096, .inl (Lc))), (c02, .inl (cA, 33, .inl (Bc)))]) (rest := []) C (c_S_used hp72 (cS_len _ _ _)) d_B_append_79 cd_S_used lk_B_49 dd_S_used rfl ⟨Nat.le_of_ble_eq_true rfl, Nat.le_of_ble_eq_true rfl⟩ ⟨Nat.le_refl _, Nat.le_refl _⟩ 0 0 rfl rfl [4, 5, 6] [0, 1, 2, 3, 7, 8, 9] rfl rfl (by decide) (by decide) (by decide) rfl (Nat.le_of_ble_eq_true rfl) ?_
              intro r_ u_ hp_
              obtain rfl := hp_
              refine x_sipush (v := (nI (2000))) C d_B_append_82 (by decide) ?_
              refine x_icmp_leN (tgt := 91) C d_B_append_85 (by decide) (by omega) (by omega) (fun c85 => ?_) (fun c85 => ?_)
              · exact absurd c85 (by omega)
              · refine x_bipush (v := ((-3))) C d_B_append_88 (by decide) ?_
                refine x_perm (ws' := [(h, .inr (1, [.ref c0, .ref d0, .ref s0, .ref r0, .int (nI n)])), (s0, .inr (0, [.ref s01, .ref s02, .int (nI 0)])), (s01, .inl (cA, 3000, .inl (Ls))), (s02, .inl (cA, 13, .inl (Bs))), (c0, .inr (0, [.ref c01, .ref c02, .int (nI 32)])), (c01, .inl (cA, 2096, .inl (Lc))), (c02, .inl (cA, 33, .inl (Bc))), (d0, .inr (0, [.ref d01, .ref d02, .int (nI 32)])), (d01, .inl (cA, 2096, .inl (u72.1))), (d02, .inl (cA, 33, .inl (u72.2)))]) [3, 0, 1, 2, 4, 5, 6, 7, 8, 9] (by decide) rfl ?_
                exact x_iret C hr d_B_append_90 u72 rfl (⟨rfl, hp72⟩)
            · exact absurd c48 (by omega)
          · exact absurd c34 (by omega)
        · exact absurd c22 (by omega)
set_option maxHeartbeats 4000000 in
theorem c_B_append_bad {l : Launch} {D : va_G} {cA : ClassId} {h c0 d0 s0 r0 n : Nat} {x y z : Int32} (hb : (x < 0 ∨ nI 16 ≤ x) ∨ (y < 0 ∨ nI 16 ≤ y) ∨ z < nI 1 ∨ nI 1000000 < z)  : CtI l D cA y_B_append b_B_append 5 (some .int) ({ frames := 7, cells := 0, slots := 0, locals := 156 } : Room) [.ref h, .int x, .int y, .int z] (bo h c0 d0 s0 r0 (n) :: ([])) (fun r (_ : Unit) => r = -1) (fun _ => (bo h c0 d0 s0 r0 (n) :: ([]))) := by
  refine CtI.start (lv0 := [(0, .ref h), (1, .int x), (2, .int y), (3, .int z)]) (by decide) rfl (Nat.le_of_ble_eq_true rfl) ?_
  intro p_ e_ s_ m_ args_ below_ meth_ c_ A_ C hr hin
  refine x_iload_n C d_B_append_0 rfl rfl ?_
  refine x_callSI (wr := [(h, .inr (1, [.ref c0, .ref d0, .ref s0, .ref r0, .int (nI n)]))]) (rest := []) C (c_B_isValue (x := x)) d_B_append_1 cd_B_isValue lk_B_34 dd_B_isValue rfl ⟨Nat.le_of_ble_eq_true rfl, Nat.le_of_ble_eq_true rfl⟩ ⟨Nat.le_refl _, Nat.le_refl _⟩ [] [0] rfl rfl (by decide) (by decide) (by decide) rfl (Nat.le_of_ble_eq_true rfl) ?_
  intro r_ u_ hp_
  obtain rfl := hp_
  refine x_if_eq (tgt := 25) C d_B_append_4 (by decide)  (fun c4 => ?_) (fun c4 => ?_)
  · refine x_iconst (v := ((-1))) C d_B_append_25 (by decide) ?_
    exact x_iret C hr d_B_append_26 () rfl (rfl)
  · refine x_iload_n C d_B_append_7 rfl rfl ?_
    refine x_callSI (wr := [(h, .inr (1, [.ref c0, .ref d0, .ref s0, .ref r0, .int (nI n)]))]) (rest := []) C (c_B_isValue (x := y)) d_B_append_8 cd_B_isValue lk_B_34 dd_B_isValue rfl ⟨Nat.le_of_ble_eq_true rfl, Nat.le_of_ble_eq_true rfl⟩ ⟨Nat.le_refl _, Nat.le_refl _⟩ [] [0] rfl rfl (by decide) (by decide) (by decide) rfl (Nat.le_of_ble_eq_true rfl) ?_
    intro r_ u_ hp_
    obtain rfl := hp_
    refine x_if_eq (tgt := 25) C d_B_append_11 (by decide)  (fun c11 => ?_) (fun c11 => ?_)
    · refine x_iconst (v := ((-1))) C d_B_append_25 (by decide) ?_
      exact x_iret C hr d_B_append_26 () rfl (rfl)
    · refine x_iload_n C d_B_append_14 rfl rfl ?_
      refine x_iconst (v := (nI (1))) C d_B_append_15 (by decide) ?_
      refine x_icmp_lt (tgt := 25) C d_B_append_16 (by decide)  (fun c16 => ?_) (fun c16 => ?_)
      · refine x_iconst (v := ((-1))) C d_B_append_25 (by decide) ?_
        exact x_iret C hr d_B_append_26 () rfl (rfl)
      · refine x_iload_n C d_B_append_19 rfl rfl ?_
        refine x_ldc C d_B_append_20 lk_B_38 ?_
        refine x_top (y := nI 1000000) (by decide) ?_
        refine x_icmp_le (tgt := 27) C d_B_append_22 (by decide)  (fun c22 => ?_) (fun c22 => ?_)
        · exact absurd hb (by
            have e1 : ¬ (x < 0 ∨ nI 16 ≤ x) := fun q => c4 (if_neg (fun w => q.elim w.1 w.2))
            have e2 : ¬ (y < 0 ∨ nI 16 ≤ y) := fun q => c11 (if_neg (fun w => q.elim w.1 w.2))
            exact fun q => q.elim e1 (fun q => q.elim e2 (fun q => q.elim c16 (fun q => absurd c22 (Int32.not_le.mpr q)))))
        · refine x_iconst (v := ((-1))) C d_B_append_25 (by decide) ?_
          exact x_iret C hr d_B_append_26 () rfl (rfl)
end
section
/-! constructors -/
theorem Hs.new (cap mx : Nat) (h1 : 0 < mx) (h2 : cap < 2 ^ 20) (h3 : mx < 2 ^ 20) : Hs cap mx (fun _ => 0) (fun _ => 0) [] := ⟨h1, Nat.zero_le _, h2, h3, fun i hi => by
  have : i = 0 := by simpa using hi
  subst this
  rfl, fun j hj => absurd hj (by simp [tot])⟩
theorem cS_zero (F : Nat → Nat → Bool) : ∀ k : Nat, cS 0 F k = List.replicate k []
  | 0 => rfl
  | k + 1 => by
    rw [cS_succ, cS_zero F k, List.replicate_succ']
    congr 1
set_option maxHeartbeats 4000000 in
theorem c_S_init {l : Launch} {D : va_G} {cA : ClassId} {h ms cap : Nat} (hms : ms < 1000) (hcap : cap < 10000) : CtV l D cA y_S_init b_S_init 3 ({ frames := 1, cells := 2, slots := cap + (ms + 1), locals := 20 } : Room) [.ref h, .int (nI ms), .int (nI cap)] [(h, .inr (0, [.null, .null, .int 0]))] (fun _ : Nat × Nat => True) (fun u => shW cA h u.1 u.2 cap (ms + 1) (fun _ => 0) (fun _ => 0) 0) := by
  refine CtV.start (lv0 := [(0, .ref h), (1, .int (nI ms)), (2, .int (nI cap))]) (by decide) rfl (Nat.le_of_ble_eq_true rfl) ?_
  intro p_ e_ s_ m_ args_ below_ meth_ c_ A_ C hr hin
  refine x_aload_n C d_S_init_0 rfl rfl ?_
  refine x_objInit C d_S_init_1 lk_S_3 oi_inst oi_code (Nat.le_of_ble_eq_true rfl) (Nat.le_of_ble_eq_true rfl) ?_
  refine x_aload_n C d_S_init_4 rfl rfl ?_
  refine x_iconst (v := (nI (0))) C d_S_init_5 (by decide) ?_
  refine x_put (ty := .int) (v := .int (nI 0)) (ws' := [(h, .inr (0, [.null, .null, .int (nI 0)]))]) C d_S_init_6 0 rfl rfl i_S t_S t_S_ok n_S 2 (by decide) lk_S_9 rfl rfl (t_S_ok 2 (by decide)) rfl rfl (Nat.le_of_ble_eq_true rfl) rfl ?_
  refine x_aload_n C d_S_init_9 rfl rfl ?_
  refine x_iload_n C d_S_init_10 rfl rfl ?_
  refine x_newa C d_S_init_11 arr_int (by omega) (Nat.le_of_ble_eq_true rfl) (show 0 + cap ≤ cap + (ms + 1) by omega) (fun q1 => ?_)
  refine x_putF (ty := .array .int) (v := .ref q1) (ws' := [(h, .inr (0, [.ref q1, .null, .int (nI 0)])), (q1, .inl (cA, (cap), .inl (fun _ => 0)))]) C hin d_S_init_13 0 rfl rfl i_S t_S t_S_ok n_S 0 (by decide) lk_S_15 rfl rfl rfl (t_S_ok 0 (by decide)) rfl rfl (Nat.le_of_ble_eq_true rfl) rfl ?_
  refine x_aload_n C d_S_init_16 rfl rfl ?_
  refine x_iload_n C d_S_init_17 rfl rfl ?_
  refine x_iconst (v := (nI (1))) C d_S_init_18 (by decide) ?_
  refine x_iaddN C d_S_init_19  ?_
  refine x_newa C d_S_init_20 arr_int (by omega) (Nat.le_of_ble_eq_true rfl) (show 0 + cap + (ms + 1) ≤ cap + (ms + 1) by omega) (fun q2 => ?_)
  refine x_putF (ty := .array .int) (v := .ref q2) (ws' := [(h, .inr (0, [.ref q1, .ref q2, .int (nI 0)])), (q1, .inl (cA, (cap), .inl (fun _ => 0))), (q2, .inl (cA, (ms + 1), .inl (fun _ => 0)))]) C hin d_S_init_22 0 rfl rfl i_S t_S t_S_ok n_S 1 (by decide) lk_S_19 rfl rfl rfl (t_S_ok 1 (by decide)) rfl rfl (Nat.le_of_ble_eq_true rfl) rfl ?_
  refine x_widen (k := 2) (n := cap + (ms + 1)) (Nat.le_refl _) (show 0 + cap + (ms + 1) ≤ cap + (ms + 1) by omega) ?_
  exact x_vret C hr d_S_init_25 (q1, q2) rfl (trivial)
set_option maxHeartbeats 4000000 in
theorem c_B_init {l : Launch} {D : va_G} {cA : ClassId} {h : Nat} : CtV l D cA y_B_init b_B_init 2 ({ frames := 2, cells := 12, slots := 10286, locals := 42 } : Room) [.ref h] [(h, .inr (1, [.null, .null, .null, .null, .int 0]))] (fun u : ((Nat × Nat × Nat) × (Nat × Nat × Nat) × (Nat × Nat × Nat) × (Nat × Nat × Nat)) × ((Nat → Int32) × (Nat → Int32)) => Hs 2096 33 u.2.1 u.2.2 (List.replicate 32 [])) (fun u => bo h u.1.1.1 u.1.2.1.1 u.1.2.2.1.1 u.1.2.2.2.1 0 :: (shW cA u.1.1.1 u.1.1.2.1 u.1.1.2.2 2096 33 u.2.1 u.2.2 32 ++ shW cA u.1.2.1.1 u.1.2.1.2.1 u.1.2.1.2.2 2096 33 (fun _ => 0) (fun _ => 0) 0 ++ shW cA u.1.2.2.1.1 u.1.2.2.1.2.1 u.1.2.2.1.2.2 3000 13 (fun _ => 0) (fun _ => 0) 0 ++ shW cA u.1.2.2.2.1 u.1.2.2.2.2.1 u.1.2.2.2.2.2 3001 2 (fun _ => 0) (fun _ => 0) 0)) := by
  refine CtV.start (lv0 := [(0, .ref h)]) (by decide) rfl (Nat.le_of_ble_eq_true rfl) ?_
  intro p_ e_ s_ m_ args_ below_ meth_ c_ A_ C hr hin
  refine x_aload_n C d_B_init_0 rfl rfl ?_
  refine x_objInit C d_B_init_1 lk_B_3 oi_inst oi_code (Nat.le_of_ble_eq_true rfl) (Nat.le_of_ble_eq_true rfl) ?_
  refine x_aload_n C d_B_init_4 rfl rfl ?_
  refine x_new C d_B_init_5 (ci := 0) (fs := [.null, .null, .int 0]) rfl i_S t_S t_S_ok lk_B_9 ist_S ini_S (fun j hj => by rcases (show j = 0 ∨ j = 1 ∨ j = 2 by omega) with rfl | rfl | rfl <;> rfl) (Nat.le_of_ble_eq_true rfl) (Nat.le_of_ble_eq_true rfl) (fun q5 => ?_)
  refine x_dup C d_B_init_8 rfl ?_
  refine x_bipush (v := (nI (32))) C d_B_init_9 (by decide) ?_
  refine x_sipush (v := (nI (2096))) C d_B_init_11 (by decide) ?_
  refine x_callIV (wr := [(h, .inr (1, [.null, .null, .null, .null, .int 0]))]) (rest := [.ref q5, .ref h]) C (c_S_init (h := q5) (ms := 32) (cap := 2096) (by omega) (by omega)) d_B_init_14 cd_S_init lk_B_11 dd_S_init rfl ⟨Nat.le_of_ble_eq_true rfl, Nat.le_of_ble_eq_true rfl⟩ ⟨Nat.le_of_ble_eq_true rfl, Nat.le_of_ble_eq_true rfl⟩ [1] [0] rfl rfl (by decide) (by decide) (by decide) rfl (Nat.le_of_ble_eq_true rfl) ?_
  intro u5 hp_
  refine x_put (ty := .object "RunBitmaps$Shelf") (v := .ref q5) (ws' := [(h, .inr (1, [.ref q5, .null, .null, .null, .int 0])), (q5, .inr (0, [.ref u5.1, .ref u5.2, .int (nI 0)])), (u5.1, .inl (cA, 2096, .inl (fun _ => 0))), (u5.2, .inl (cA, (32 + 1), .inl (fun _ => 0)))]) C d_B_init_17 0 rfl rfl i_B t_B t_B_ok n_B 0 (by decide) lk_B_14 rfl rfl (t_B_ok 0 (by decide)) rfl rfl (Nat.le_of_ble_eq_true rfl) rfl ?_
  refine x_aload_n C d_B_init_20 rfl rfl ?_
  refine x_new C d_B_init_21 (ci := 0) (fs := [.null, .null, .int 0]) rfl i_S t_S t_S_ok lk_B_9 ist_S ini_S (fun j hj => by rcases (show j = 0 ∨ j = 1 ∨ j = 2 by omega) with rfl | rfl | rfl <;> rfl) (Nat.le_of_ble_eq_true rfl) (Nat.le_of_ble_eq_true rfl) (fun q21 => ?_)
  refine x_dup C d_B_init_24 rfl ?_
  refine x_bipush (v := (nI (32))) C d_B_init_25 (by decide) ?_
  refine x_sipush (v := (nI (2096))) C d_B_init_27 (by decide) ?_
  refine x_callIV (wr := [(h, .inr (1, [.ref q5, .null, .null, .null, .int 0])), (q5, .inr (0, [.ref u5.1, .ref u5.2, .int (nI 0)])), (u5.1, .inl (cA, 2096, .inl (fun _ => 0))), (u5.2, .inl (cA, (32 + 1), .inl (fun _ => 0)))]) (rest := [.ref q21, .ref h]) C (c_S_init (h := q21) (ms := 32) (cap := 2096) (by omega) (by omega)) d_B_init_30 cd_S_init lk_B_11 dd_S_init rfl ⟨Nat.le_of_ble_eq_true rfl, Nat.le_of_ble_eq_true rfl⟩ ⟨Nat.le_of_ble_eq_true rfl, Nat.le_of_ble_eq_true rfl⟩ [4] [0, 1, 2, 3] rfl rfl (by decide) (by decide) (by decide) rfl (Nat.le_of_ble_eq_true rfl) ?_
  intro u21 hp_
  refine x_put (ty := .object "RunBitmaps$Shelf") (v := .ref q21) (ws' := [(h, .inr (1, [.ref q5, .ref q21, .null, .null, .int 0])), (q5, .inr (0, [.ref u5.1, .ref u5.2, .int (nI 0)])), (u5.1, .inl (cA, 2096, .inl (fun _ => 0))), (u5.2, .inl (cA, (32 + 1), .inl (fun _ => 0))), (q21, .inr (0, [.ref u21.1, .ref u21.2, .int (nI 0)])), (u21.1, .inl (cA, 2096, .inl (fun _ => 0))), (u21.2, .inl (cA, (32 + 1), .inl (fun _ => 0)))]) C d_B_init_33 0 rfl rfl i_B t_B t_B_ok n_B 1 (by decide) lk_B_18 rfl rfl (t_B_ok 1 (by decide)) rfl rfl (Nat.le_of_ble_eq_true rfl) rfl ?_
  refine x_aload_n C d_B_init_36 rfl rfl ?_
  refine x_new C d_B_init_37 (ci := 0) (fs := [.null, .null, .int 0]) rfl i_S t_S t_S_ok lk_B_9 ist_S ini_S (fun j hj => by rcases (show j = 0 ∨ j = 1 ∨ j = 2 by omega) with rfl | rfl | rfl <;> rfl) (Nat.le_of_ble_eq_true rfl) (Nat.le_of_ble_eq_true rfl) (fun q37 => ?_)
  refine x_dup C d_B_init_40 rfl ?_
  refine x_bipush (v := (nI (12))) C d_B_init_41 (by decide) ?_
  refine x_sipush (v := (nI (3000))) C d_B_init_43 (by decide) ?_
  refine x_callIV (wr := [(h, .inr (1, [.ref q5, .ref q21, .null, .null, .int 0])), (q5, .inr (0, [.ref u5.1, .ref u5.2, .int (nI 0)])), (u5.1, .inl (cA, 2096, .inl (fun _ => 0))), (u5.2, .inl (cA, (32 + 1), .inl (fun _ => 0))), (q21, .inr (0, [.ref u21.1, .ref u21.2, .int (nI 0)])), (u21.1, .inl (cA, 2096, .inl (fun _ => 0))), (u21.2, .inl (cA, (32 + 1), .inl (fun _ => 0)))]) (rest := [.ref q37, .ref h]) C (c_S_init (h := q37) (ms := 12) (cap := 3000) (by omega) (by omega)) d_B_init_46 cd_S_init lk_B_11 dd_S_init rfl ⟨Nat.le_of_ble_eq_true rfl, Nat.le_of_ble_eq_true rfl⟩ ⟨Nat.le_of_ble_eq_true rfl, Nat.le_of_ble_eq_true rfl⟩ [7] [0, 1, 2, 3, 4, 5, 6] rfl rfl (by decide) (by decide) (by decide) rfl (Nat.le_of_ble_eq_true rfl) ?_
  intro u37 hp_
  refine x_putF (ty := .object "RunBitmaps$Shelf") (v := .ref q37) (ws' := [(h, .inr (1, [.ref q5, .ref q21, .ref q37, .null, .int 0])), (q5, .inr (0, [.ref u5.1, .ref u5.2, .int (nI 0)])), (u5.1, .inl (cA, 2096, .inl (fun _ => 0))), (u5.2, .inl (cA, (32 + 1), .inl (fun _ => 0))), (q21, .inr (0, [.ref u21.1, .ref u21.2, .int (nI 0)])), (u21.1, .inl (cA, 2096, .inl (fun _ => 0))), (u21.2, .inl (cA, (32 + 1), .inl (fun _ => 0))), (q37, .inr (0, [.ref u37.1, .ref u37.2, .int (nI 0)])), (u37.1, .inl (cA, 3000, .inl (fun _ => 0))), (u37.2, .inl (cA, (12 + 1), .inl (fun _ => 0)))]) C hin d_B_init_49 0 rfl rfl i_B t_B t_B_ok n_B 2 (by decide) lk_B_21 rfl rfl rfl (t_B_ok 2 (by decide)) rfl rfl (Nat.le_of_ble_eq_true rfl) rfl ?_
  refine x_aload_n C d_B_init_52 rfl rfl ?_
  refine x_new C d_B_init_53 (ci := 0) (fs := [.null, .null, .int 0]) rfl i_S t_S t_S_ok lk_B_9 ist_S ini_S (fun j hj => by rcases (show j = 0 ∨ j = 1 ∨ j = 2 by omega) with rfl | rfl | rfl <;> rfl) (Nat.le_of_ble_eq_true rfl) (Nat.le_of_ble_eq_true rfl) (fun q53 => ?_)
  refine x_dup C d_B_init_56 rfl ?_
  refine x_iconst (v := (nI (1))) C d_B_init_57 (by decide) ?_
  refine x_sipush (v := (nI (3001))) C d_B_init_58 (by decide) ?_
  refine x_callIV (wr := [(h, .inr (1, [.ref q5, .ref q21, .ref q37, .null, .int 0])), (q5, .inr (0, [.ref u5.1, .ref u5.2, .int (nI 0)])), (u5.1, .inl (cA, 2096, .inl (fun _ => 0))), (u5.2, .inl (cA, (32 + 1), .inl (fun _ => 0))), (q21, .inr (0, [.ref u21.1, .ref u21.2, .int (nI 0)])), (u21.1, .inl (cA, 2096, .inl (fun _ => 0))), (u21.2, .inl (cA, (32 + 1), .inl (fun _ => 0))), (q37, .inr (0, [.ref u37.1, .ref u37.2, .int (nI 0)])), (u37.1, .inl (cA, 3000, .inl (fun _ => 0))), (u37.2, .inl (cA, (12 + 1), .inl (fun _ => 0)))]) (rest := [.ref q53, .ref h]) C (c_S_init (h := q53) (ms := 1) (cap := 3001) (by omega) (by omega)) d_B_init_61 cd_S_init lk_B_11 dd_S_init rfl ⟨Nat.le_of_ble_eq_true rfl, Nat.le_of_ble_eq_true rfl⟩ ⟨Nat.le_of_ble_eq_true rfl, Nat.le_of_ble_eq_true rfl⟩ [10] [0, 1, 2, 3, 4, 5, 6, 7, 8, 9] rfl rfl (by decide) (by decide) (by decide) rfl (Nat.le_of_ble_eq_true rfl) ?_
  intro u53 hp_
  refine x_putF (ty := .object "RunBitmaps$Shelf") (v := .ref q53) (ws' := [(h, .inr (1, [.ref q5, .ref q21, .ref q37, .ref q53, .int 0])), (q5, .inr (0, [.ref u5.1, .ref u5.2, .int (nI 0)])), (u5.1, .inl (cA, 2096, .inl (fun _ => 0))), (u5.2, .inl (cA, (32 + 1), .inl (fun _ => 0))), (q21, .inr (0, [.ref u21.1, .ref u21.2, .int (nI 0)])), (u21.1, .inl (cA, 2096, .inl (fun _ => 0))), (u21.2, .inl (cA, (32 + 1), .inl (fun _ => 0))), (q37, .inr (0, [.ref u37.1, .ref u37.2, .int (nI 0)])), (u37.1, .inl (cA, 3000, .inl (fun _ => 0))), (u37.2, .inl (cA, (12 + 1), .inl (fun _ => 0))), (q53, .inr (0, [.ref u53.1, .ref u53.2, .int (nI 0)])), (u53.1, .inl (cA, 3001, .inl (fun _ => 0))), (u53.2, .inl (cA, (1 + 1), .inl (fun _ => 0)))]) C hin d_B_init_64 0 rfl rfl i_B t_B t_B_ok n_B 3 (by decide) lk_B_24 rfl rfl rfl (t_B_ok 3 (by decide)) rfl rfl (Nat.le_of_ble_eq_true rfl) rfl ?_
  refine x_aload_n C d_B_init_67 rfl rfl ?_
  refine x_iconst (v := (nI (0))) C d_B_init_68 (by decide) ?_
  refine x_put (ty := .int) (v := .int (nI 0)) (ws' := [(h, .inr (1, [.ref q5, .ref q21, .ref q37, .ref q53, .int (nI 0)])), (q5, .inr (0, [.ref u5.1, .ref u5.2, .int (nI 0)])), (u5.1, .inl (cA, 2096, .inl (fun _ => 0))), (u5.2, .inl (cA, (32 + 1), .inl (fun _ => 0))), (q21, .inr (0, [.ref u21.1, .ref u21.2, .int (nI 0)])), (u21.1, .inl (cA, 2096, .inl (fun _ => 0))), (u21.2, .inl (cA, (32 + 1), .inl (fun _ => 0))), (q37, .inr (0, [.ref u37.1, .ref u37.2, .int (nI 0)])), (u37.1, .inl (cA, 3000, .inl (fun _ => 0))), (u37.2, .inl (cA, (12 + 1), .inl (fun _ => 0))), (q53, .inr (0, [.ref u53.1, .ref u53.2, .int (nI 0)])), (u53.1, .inl (cA, 3001, .inl (fun _ => 0))), (u53.2, .inl (cA, (1 + 1), .inl (fun _ => 0)))]) C d_B_init_69 0 rfl rfl i_B t_B t_B_ok n_B 4 (by decide) lk_B_27 rfl rfl (t_B_ok 4 (by decide)) rfl rfl (Nat.le_of_ble_eq_true rfl) rfl ?_
  refine x_iconst (v := (nI (0))) C d_B_init_72 (by decide) ?_
  refine x_istore_n (lv' := [(1, .int (nI 0)), (0, .ref h)]) C d_B_init_73 rfl (by decide) rfl ?_
  refine x_widen (k := 12) (n := 10286) (Nat.le_of_ble_eq_true rfl) (Nat.le_of_ble_eq_true rfl) ?_
  have LP : ∀ (d v : Nat) (La Ba : Nat → Int32), v + d = 32 → Hs 2096 33 La Ba (List.replicate v []) → X p_ l e_ ({ frames := 2, cells := 12, slots := 10286, locals := 42 } : Room) s_ m_ args_ below_ meth_ c_ D A_ 2 12 10286 (MQ below_ (va_Qv (fun u : ((Nat × Nat × Nat) × (Nat × Nat × Nat) × (Nat × Nat × Nat) × (Nat × Nat × Nat)) × ((Nat → Int32) × (Nat → Int32)) => Hs 2096 33 u.2.1 u.2.2 (List.replicate 32 [])) (Bw D A_ (fun u => bo h u.1.1.1 u.1.2.1.1 u.1.2.2.1.1 u.1.2.2.2.1 0 :: (shW cA u.1.1.1 u.1.1.2.1 u.1.1.2.2 2096 33 u.2.1 u.2.2 32 ++ shW cA u.1.2.1.1 u.1.2.1.2.1 u.1.2.1.2.2 2096 33 (fun _ => 0) (fun _ => 0) 0 ++ shW cA u.1.2.2.1.1 u.1.2.2.1.2.1 u.1.2.2.1.2.2 3000 13 (fun _ => 0) (fun _ => 0) 0 ++ shW cA u.1.2.2.2.1 u.1.2.2.2.2.1 u.1.2.2.2.2.2 3001 2 (fun _ => 0) (fun _ => 0) 0))) A_) args_ s_ 12 10286 A_) [(h, .inr (1, [.ref q5, .ref q21, .ref q37, .ref q53, .int (nI 0)])), (q5, .inr (0, [.ref u5.1, .ref u5.2, .int (nI v)])), (u5.1, .inl (cA, 2096, .inl (La))), (u5.2, .inl (cA, (32 + 1), .inl (Ba))), (q21, .inr (0, [.ref u21.1, .ref u21.2, .int (nI 0)])), (u21.1, .inl (cA, 2096, .inl (fun _ => 0))), (u21.2, .inl (cA, (32 + 1), .inl (fun _ => 0))), (q37, .inr (0, [.ref u37.1, .ref u37.2, .int (nI 0)])), (u37.1, .inl (cA, 3000, .inl (fun _ => 0))), (u37.2, .inl (cA, (12 + 1), .inl (fun _ => 0))), (q53, .inr (0, [.ref u53.1, .ref u53.2, .int (nI 0)])), (u53.1, .inl (cA, 3001, .inl (fun _ => 0))), (u53.2, .inl (cA, (1 + 1), .inl (fun _ => 0)))] 74 [(1, .int (nI v)), (0, .ref h)] [] := by
    intro d
    induction d with
    | zero =>
      intro v La Ba hv hLa
      have hv2 : v = 32 := by omega
      subst hv2
      refine x_iload_n C d_B_init_74 rfl rfl ?_
      refine x_bipush (v := (nI (32))) C d_B_init_75 (by decide) ?_
      refine x_icmp_geN (tgt := 93) C d_B_init_77 (by decide) (by omega) (by omega) (fun c77 => ?_) (fun c77 => ?_)
      · exact x_vret C hr d_B_init_93 (((q5, u5.1, u5.2), (q21, u21.1, u21.2), (q37, u37.1, u37.2), (q53, u53.1, u53.2)), (La, Ba)) rfl (hLa)
      · exact absurd c77 (by omega)
    | succ d ih =>
      intro v La Ba hv hLa
      refine x_iload_n C d_B_init_74 rfl rfl ?_
      refine x_bipush (v := (nI (32))) C d_B_init_75 (by decide) ?_
      refine x_icmp_geN (tgt := 93) C d_B_init_77 (by decide) (by omega) (by omega) (fun c77 => ?_) (fun c77 => ?_)
      · exact absurd c77 (by omega)
      · refine x_aload_n C d_B_init_80 rfl rfl ?_
        refine x_get C d_B_init_81 0 rfl rfl i_B 0 (by decide) lk_B_14 rfl rfl ?_
        refine x_callVV (wr := [(h, .inr (1, [.ref q5, .ref q21, .ref q37, .ref q53, .int (nI 0)])), (q21, .inr (0, [.ref u21.1, .ref u21.2, .int (nI 0)])), (u21.1, .inl (cA, 2096, .inl (fun _ => 0))), (u21.2, .inl (cA, (32 + 1), .inl (fun _ => 0))), (q37, .inr (0, [.ref u37.1, .ref u37.2, .int (nI 0)])), (u37.1, .inl (cA, 3000, .inl (fun _ => 0))), (u37.2, .inl (cA, (12 + 1), .inl (fun _ => 0))), (q53, .inr (0, [.ref u53.1, .ref u53.2, .int (nI 0)])), (u53.1, .inl (cA, 3001, .inl (fun _ => 0))), (u53.2, .inl (cA, (1 + 1), .inl (fun _ => 0)))]) (rest := []) C (c_S_open hLa (by simp) (by simp; omega)) d_B_init_84 cd_S_open lk_B_31 dd_S_open rfl ⟨Nat.le_of_ble_eq_true rfl, Nat.le_of_ble_eq_true rfl⟩ ⟨Nat.le_of_ble_eq_true rfl, Nat.le_of_ble_eq_true rfl⟩ 0 0 rfl rfl [1, 2, 3] [0, 4, 5, 6, 7, 8, 9, 10, 11, 12] rfl rfl (by decide) (by decide) (by decide) rfl (Nat.le_of_ble_eq_true rfl) ?_
        intro u84 hp84
        refine x_iincN (lv' := [(1, .int (nI (v + 1))), (0, .ref h)]) C d_B_init_87 rfl (by decide) rfl ?_
        refine x_goto (tgt := 74) C d_B_init_90 (by decide) ?_
        refine x_perm (ws' := [(h, .inr (1, [.ref q5, .ref q21, .ref q37, .ref q53, .int (nI 0)])), (q5, .inr (0, [.ref u5.1, .ref u5.2, .int (nI (v + 1))])), (u5.1, .inl (cA, 2096, .inl (u84.1))), (u5.2, .inl (cA, (32 + 1), .inl (u84.2))), (q21, .inr (0, [.ref u21.1, .ref u21.2, .int (nI 0)])), (u21.1, .inl (cA, 2096, .inl (fun _ => 0))), (u21.2, .inl (cA, (32 + 1), .inl (fun _ => 0))), (q37, .inr (0, [.ref u37.1, .ref u37.2, .int (nI 0)])), (u37.1, .inl (cA, 3000, .inl (fun _ => 0))), (u37.2, .inl (cA, (12 + 1), .inl (fun _ => 0))), (q53, .inr (0, [.ref u53.1, .ref u53.2, .int (nI 0)])), (u53.1, .inl (cA, 3001, .inl (fun _ => 0))), (u53.2, .inl (cA, (1 + 1), .inl (fun _ => 0)))]) [0, 10, 11, 12, 1, 2, 3, 4, 5, 6, 7, 8, 9] (by decide) rfl ?_
        refine x_lv (lv' := [(1, .int (nI (v + 1))), (0, .ref h)]) (Or.inr (List.forall_mem_cons.mpr ⟨rfl, List.forall_mem_cons.mpr ⟨rfl, fun _ h9 => absurd h9 List.not_mem_nil⟩⟩)) ?_
        exact ih (v + 1) u84.1 u84.2 (by omega) (by rw [List.replicate_succ']; exact hp84)
  exact LP 32 0 _ _ (by omega) (Hs.new 2096 33 (by omega) (by omega) (by omega))
end
section
/-! sets as intervals -/
def ivs : Nat → List (Nat × Nat) → Prop
  | _, [] => True
  | lo, p :: t => lo ≤ p.1 ∧ p.1 < p.2 ∧ ivs (p.2 + 1) t
def mem (I : List (Nat × Nat)) (r : Nat) : Bool := I.any (fun p => decide (p.1 ≤ r) && decide (r < p.2))
theorem mem_nil (r : Nat) : mem [] r = false := rfl
theorem mem_cons (p : Nat × Nat) (I : List (Nat × Nat)) (r : Nat) : mem (p :: I) r = ((decide (p.1 ≤ r) && decide (r < p.2)) || mem I r) := rfl
theorem mem_app (I J : List (Nat × Nat)) (r : Nat) : mem (I ++ J) r = (mem I r || mem J r) := by simp [mem, List.any_append]
theorem mem_one (p : Nat × Nat) (r : Nat) : mem [p] r = (decide (p.1 ≤ r) && decide (r < p.2)) := by simp [mem]
theorem mem_iff {I : List (Nat × Nat)} {r : Nat} : mem I r = true ↔ ∃ p ∈ I, p.1 ≤ r ∧ r < p.2 := by
  simp [mem, List.any_eq_true]
theorem mem_false {I : List (Nat × Nat)} {r : Nat} : mem I r = false ↔ ∀ p ∈ I, ¬ (p.1 ≤ r ∧ r < p.2) := by
  rw [← Bool.not_eq_true, mem_iff]
  constructor
  · intro h p hp q
    exact h ⟨p, hp, q⟩
  · rintro h ⟨p, hp, q⟩
    exact h p hp q
theorem ivs_weak : ∀ {I : List (Nat × Nat)} {lo lo' : Nat}, lo' ≤ lo → ivs lo I → ivs lo' I
  | [], _, _, _, _ => trivial
  | _ :: _, _, _, h, q => ⟨Nat.le_trans h q.1, q.2⟩
theorem ivs_lo : ∀ {I : List (Nat × Nat)} {lo : Nat}, ivs lo I → ∀ p ∈ I, lo ≤ p.1 ∧ p.1 < p.2
  | [], _, _, p, hp => by simp at hp
  | x :: t, lo, h, p, hp => by
    rcases List.mem_cons.mp hp with rfl | hp
    · exact ⟨h.1, h.2.1⟩
    · have := ivs_lo h.2.2 p hp
      have h1 := h.1
      have h2 := h.2.1
      omega
/-- two intervals of one list: the earlier one ends ahead of the later one -/
theorem ivs_two : ∀ {I : List (Nat × Nat)} {lo i j : Nat} {p q : Nat × Nat}, ivs lo I → i < j → I[i]? = some p → I[j]? = some q → p.2 < q.1
  | [], _, i, _, _, _, _, _, h, _ => by simp at h
  | x :: t, lo, i, j, p, q, h, hij, hp, hq => by
    obtain ⟨j, rfl⟩ : ∃ y, j = y + 1 := ⟨j - 1, by omega⟩
    rw [List.getElem?_cons_succ] at hq
    cases i with
    | zero =>
      rw [List.getElem?_cons_zero] at hp
      cases hp
      have := ivs_lo h.2.2 q (List.mem_of_getElem? hq)
      omega
    | succ i =>
      rw [List.getElem?_cons_succ] at hp
      exact ivs_two h.2.2 (by omega) hp hq
theorem ivs_at {I : List (Nat × Nat)} {lo i : Nat} {p : Nat × Nat} (h : ivs lo I) (hp : I[i]? = some p) : lo ≤ p.1 ∧ p.1 < p.2 := ivs_lo h p (List.mem_of_getElem? hp)
theorem ivs_snoc : ∀ {I : List (Nat × Nat)} {lo : Nat} {p : Nat × Nat}, ivs lo (I ++ [p]) ↔ ivs lo I ∧ p.1 < p.2 ∧ lo ≤ p.1 ∧ ∀ q, I.getLast? = some q → q.2 < p.1
  | [], lo, p => by
    simp [ivs]
    omega
  | [x], lo, p => by
    simp [ivs]
    omega
  | x :: y :: t, lo, p => by
    have ih := ivs_snoc (I := y :: t) (lo := x.2 + 1) (p := p)
    show lo ≤ x.1 ∧ x.1 < x.2 ∧ ivs (x.2 + 1) ((y :: t) ++ [p]) ↔ _
    rw [ih, List.getLast?_cons_cons]
    constructor
    · rintro ⟨h1, h2, h3, h4, h5, h6⟩
      exact ⟨⟨h1, h2, h3⟩, h4, by omega, h6⟩
    · rintro ⟨⟨h1, h2, h3⟩, h4, h5, h6⟩
      refine ⟨h1, h2, h3, h4, ?_, h6⟩
      have hl : ∃ q, (y :: t).getLast? = some q := ⟨(y :: t).getLast (by simp), List.getLast?_eq_some_getLast (by simp)⟩
      obtain ⟨q, hq⟩ := hl
      have h7 := h6 q hq
      have h8 := ivs_lo h3 q (List.mem_of_getLast? hq)
      omega
/-- the intervals of a set of the rows below n -/
def Iv (n : Nat) (f : Nat → Bool) (I : List (Nat × Nat)) : Prop := ivs 0 I ∧ (∀ p ∈ I, p.2 ≤ n) ∧ ∀ r, f r = mem I r
theorem Iv.sup {n : Nat} {f : Nat → Bool} {I : List (Nat × Nat)} (h : Iv n f I) : sup n f := fun r hr => by
  rw [h.2.2 r, mem_false]
  intro p hp
  have := h.2.1 p hp
  omega
/-- where they lie -/
def seg (L : Nat → Int32) (a : Nat) (I : List (Nat × Nat)) : Prop := ∀ i p, I[i]? = some p → L (a + 2 * i) = nI p.1 ∧ L (a + 2 * i + 1) = nI p.2
def fl (I : List (Nat × Nat)) : List Int32 := I.flatMap (fun p => [nI p.1, nI p.2])
theorem fl_nil : fl [] = [] := rfl
theorem fl_cons (p : Nat × Nat) (I : List (Nat × Nat)) : fl (p :: I) = nI p.1 :: nI p.2 :: fl I := rfl
theorem fl_len : ∀ I, (fl I).length = 2 * I.length
  | [] => rfl
  | p :: I => by
    rw [fl_cons, List.length_cons, List.length_cons, fl_len I, List.length_cons]
    omega
theorem fl_get : ∀ (I : List (Nat × Nat)) (i : Nat) (p : Nat × Nat), I[i]? = some p → (fl I).getD (2 * i) 0 = nI p.1 ∧ (fl I).getD (2 * i + 1) 0 = nI p.2
  | [], i, p, h => by simp at h
  | q :: I, 0, p, h => by
    rw [List.getElem?_cons_zero] at h
    cases h
    exact ⟨rfl, rfl⟩
  | q :: I, i + 1, p, h => by
    rw [List.getElem?_cons_succ] at h
    have := fl_get I i p h
    rw [fl_cons, show 2 * (i + 1) = 2 * i + 1 + 1 by omega]
    exact this
theorem fl_of : ∀ (I : List (Nat × Nat)) (j : Nat), j < 2 * I.length → ∃ i p, I[i]? = some p ∧ ((j = 2 * i ∧ (fl I).getD j 0 = nI p.1) ∨ (j = 2 * i + 1 ∧ (fl I).getD j 0 = nI p.2)) := fun I j h => by
  have hi : j / 2 < I.length := by omega
  have hp : I[j / 2]? = some I[j / 2] := List.getElem?_eq_getElem hi
  have hg := fl_get I _ _ hp
  refine ⟨j / 2, _, hp, ?_⟩
  by_cases h2 : j % 2 = 0
  · have e : j = 2 * (j / 2) := by omega
    refine Or.inl ⟨e, ?_⟩
    conv => lhs; rw [e]
    exact hg.1
  · have e : j = 2 * (j / 2) + 1 := by omega
    refine Or.inr ⟨e, ?_⟩
    conv => lhs; rw [e]
    exact hg.2
theorem Hs.sgm {cap mx : Nat} {L Bd : Nat → Int32} {ss : List (List Int32)} (h : Hs cap mx L Bd ss) {k : Nat} {I : List (Nat × Nat)} (hk : k < ss.length) (hI : ss.getD k [] = fl I) : seg L (off ss k) I := by
  intro i p hp
  have hi : i < I.length := (List.getElem?_eq_some_iff.mp hp).1
  have hl := fl_len I
  have hg := fl_get I i p hp
  have h1 := h.ln hk (j := 2 * i) (by rw [hI, hl]; omega)
  have h2 := h.ln hk (j := 2 * i + 1) (by rw [hI, hl]; omega)
  rw [hI] at h1 h2
  exact ⟨by rw [h1]; exact hg.1, by rw [show off ss k + 2 * i + 1 = off ss k + (2 * i + 1) by omega, h2]; exact hg.2⟩
theorem Hs.scratch {cap mx : Nat} {L L' Bd : Nat → Int32} {ss : List (List Int32)} (h : Hs cap mx L Bd ss) (hL : ∀ j, j < tot ss → L' j = L j) : Hs cap mx L' Bd ss := ⟨h.1, h.2.1, h.2.2.1, h.2.2.2.1, h.2.2.2.2.1, fun j hj => by rw [hL j hj]; exact h.2.2.2.2.2 j hj⟩
theorem seg_at {L : Nat → Int32} {a : Nat} {I : List (Nat × Nat)} (h : seg L a I) : ∀ j, j < (fl I).length → L (a + j) = (fl I).getD j 0 := by
  intro j hj
  rw [fl_len] at hj
  obtain ⟨i, p, hp, q | q⟩ := fl_of I j hj
  · rw [q.2, q.1]; exact (h i p hp).1
  · rw [q.2, q.1]; exact (h i p hp).2
/-- bits a .. b - 1 -/
def rg (a : Nat) : Nat → Nat
  | 0 => 0
  | k + 1 => rg a k ||| (if a ≤ k then 2 ^ k else 0)
theorem rg_bit (a i : Nat) : ∀ k, (rg a k).testBit i = (decide (a ≤ i) && decide (i < k))
  | 0 => by simp [rg]
  | k + 1 => by
    simp only [rg, Nat.testBit_or, rg_bit a i k]
    by_cases hi : i = k
    · subst hi
      by_cases ha : a ≤ i
      · simp [ha, Nat.testBit_two_pow]
      · simp [ha]
    · have e : decide (i < k + 1) = decide (i < k) := by
        congr 1
        exact propext ⟨fun h => by omega, fun h => by omega⟩
      rw [e]
      by_cases ha : a ≤ k
      · simp [ha, Nat.testBit_two_pow, Ne.symm hi]
      · simp [ha]
theorem rg_self (a : Nat) : rg a a = 0 := Nat.eq_of_testBit_eq fun i => by
  rw [rg_bit, Nat.zero_testBit]
  by_cases h : a ≤ i
  · have : ¬ i < a := by omega
    simp [this]
  · simp [h]
theorem rg_succ {a k : Nat} (h : a ≤ k) : rg a (k + 1) = rg a k ||| 2 ^ k := by simp [rg, h]
/-- an interval's rows in a group -/
theorem lit_step {I : List (Nat × Nat)} {g p : Nat} {q : Nat × Nat} (hq : I[p]? = some q) : gb (mem (I.take p)) g ||| rg (q.1 - 31 * g) (min (q.2 - 31 * g) 31) = gb (mem (I.take (p + 1))) g := by
  refine gb_of ?_ fun i hi => ?_
  · have h1 := gb_lt (mem (I.take p)) g
    have h2 : rg (q.1 - 31 * g) (min (q.2 - 31 * g) 31) < 2 ^ 31 := Nat.lt_pow_two_of_testBit _ fun i hi => by
      rw [rg_bit]
      have : ¬ i < min (q.2 - 31 * g) 31 := by omega
      simp [this]
    have h3 : _ < 2 ^ 31 := Nat.or_lt_two_pow h1 h2
    show _ ≤ 2147483647
    omega
  · rw [Nat.testBit_or, gb_bit, rg_bit, take_snoc hq, mem_app, mem_one]
    have e : (decide (q.1 - 31 * g ≤ i) && decide (i < min (q.2 - 31 * g) 31)) = (decide (q.1 ≤ 31 * g + i) && decide (31 * g + i < q.2)) := by
      rw [← Bool.decide_and, ← Bool.decide_and]
      congr 1
      exact propext ⟨fun h => by omega, fun h => by omega⟩
    rw [e]
    simp [hi]
/-- what is behind a place doesn't reach a group -/
theorem lit_end {n : Nat} {f : Nat → Bool} {I : List (Nat × Nat)} {g p : Nat} (h : Iv n f I) (hp : ∀ i q, p ≤ i → I[i]? = some q → 31 * g + 31 ≤ q.1) : gb (mem (I.take p)) g = gb f g := by
  apply gb_eq
  intro k hk
  rw [h.2.2, ← List.take_append_drop p I, mem_app, List.take_append_drop]
  have : mem (I.drop p) (31 * g + k) = false := by
    rw [mem_false]
    intro q hq
    obtain ⟨i, hi⟩ := List.getElem?_of_mem hq
    rw [List.getElem?_drop] at hi
    have := hp (p + i) q (by omega) hi
    omega
  rw [this]
  simp
end
section
/-! the reference: its cells, its runs -/
abbrev mW (cA : ClassId) (h e0 v0 l0 b0 : Nat) (E V L B : Nat → Int32) (rn ns : Nat) (pl sn wa wf : Int32) : va_W := [(h, .inr (2, [.ref e0, .ref v0, .int (nI rn), .ref l0, .ref b0, .int (nI ns), .int pl, .int sn, .int wa, .int wf])), (e0, .inl (cA, 33000, .inl E)), (v0, .inl (cA, 66000, .inl V)), (l0, .inl (cA, 200000, .inl L)), (b0, .inl (cA, 15, .inl B))]
def bnd (en : Nat → Nat) : Nat → Nat
  | 0 => 0
  | k + 1 => en k
def Rn (E V : Nat → Int32) (rn : Nat) (en : Nat → Nat) (vl : Nat → Nat → Nat) : Prop := rn ≤ 520 ∧ (∀ k, k < rn → E k = nI (en k) ∧ bnd en k < en k ∧ en k ≤ 1000000) ∧ (∀ k c, k < rn → c < 2 → V (2 * k + c) = nI (vl k c) ∧ vl k c < 16)
theorem bnd_le {E V : Nat → Int32} {rn : Nat} {en : Nat → Nat} {vl : Nat → Nat → Nat} (h : Rn E V rn en vl) : ∀ k, k ≤ rn → bnd en k ≤ 1000000
  | 0, _ => by show 0 ≤ _; omega
  | k + 1, hk => (h.2.1 k (by omega)).2.2
set_option maxHeartbeats 4000000 in
theorem c_M_rows {l : Launch} {D : va_G} {cA : ClassId} {h e0 v0 l0 b0 rn ns : Nat} {E V L B : Nat → Int32} {pl sn wa wf : Int32} {en : Nat → Nat} {vl : Nat → Nat → Nat} (hE : Rn E V rn en vl)  : CtI l D cA y_M_rows b_M_rows 1 (some .int) ({ frames := 0, cells := 0, slots := 0, locals := 0 } : Room) [.ref h] (mW cA h e0 v0 l0 b0 E V L B rn ns pl sn wa wf) (fun r (_ : Unit) => r = nI (bnd en rn)) (fun _ => (mW cA h e0 v0 l0 b0 E V L B rn ns pl sn wa wf)) := by
  refine CtI.start (lv0 := [(0, .ref h)]) (by decide) rfl (Nat.le_of_ble_eq_true rfl) ?_
  intro p_ e_ s_ m_ args_ below_ meth_ c_ A_ C hr hin
  have hr0 := hE.1
  refine x_aload_n C d_M_rows_0 rfl rfl ?_
  refine x_get C d_M_rows_1 0 rfl rfl i_M 2 (by decide) lk_M_25 rfl rfl ?_
  refine x_if_neN (tgt := 11) C d_M_rows_4 (by decide) (by omega) (fun c4 => ?_) (fun c4 => ?_)
  · refine x_aload_n C d_M_rows_11 rfl rfl ?_
    refine x_get C d_M_rows_12 0 rfl rfl i_M 0 (by decide) lk_M_8 rfl rfl ?_
    refine x_aload_n C d_M_rows_15 rfl rfl ?_
    refine x_get C d_M_rows_16 0 rfl rfl i_M 2 (by decide) lk_M_25 rfl rfl ?_
    refine x_iconst (v := (nI (1))) C d_M_rows_19 (by decide) ?_
    refine x_isubN C d_M_rows_20 (by omega) ?_
    refine x_iald C d_M_rows_21 1 rfl (by omega) (by omega) ?_
    refine x_top (y := (nI (bnd en rn))) (by rw [(hE.2.1 (rn - 1) (by omega)).1]; congr 1; rw [show rn = rn - 1 + 1 by omega]; rfl) ?_
    exact x_iret C hr d_M_rows_22 () rfl (rfl)
  · refine x_iconst (v := (nI (0))) C d_M_rows_7 (by decide) ?_
    refine x_top (y := (nI (bnd en rn))) (by rw [c4]; rfl) ?_
    refine x_goto (tgt := 22) C d_M_rows_8 (by decide) ?_
    exact x_iret C hr d_M_rows_22 () rfl (rfl)
set_option maxHeartbeats 4000000 in
theorem c_M_see {l : Launch} {D : va_G} {cA : ClassId} {h e0 v0 l0 b0 rn ns : Nat} {E V L B : Nat → Int32} {pl wa wf w : Int32} {sn : Nat}  : CtV l D cA y_M_see b_M_see 2 ({ frames := 0, cells := 0, slots := 0, locals := 0 } : Room) [.ref h, .int w] (mW cA h e0 v0 l0 b0 E V L B rn ns pl (nI sn) wa wf) (fun _ : Unit => True) (fun _ => (mW cA h e0 v0 l0 b0 E V L B rn ns pl (nI (sn + 1)) wa (if nI sn = wa then w else wf))) := by
  refine CtV.start (lv0 := [(0, .ref h), (1, .int w)]) (by decide) rfl (Nat.le_of_ble_eq_true rfl) ?_
  intro p_ e_ s_ m_ args_ below_ meth_ c_ A_ C hr hin
  refine x_aload_n C d_M_see_0 rfl rfl ?_
  refine x_aload_n C d_M_see_1 rfl rfl ?_
  refine x_get C d_M_see_2 0 rfl rfl i_M 7 (by decide) lk_M_29 rfl rfl ?_
  refine x_aload_n C d_M_see_5 rfl rfl ?_
  refine x_get C d_M_see_6 0 rfl rfl i_M 8 (by decide) lk_M_32 rfl rfl ?_
  refine x_icmp_ne (tgt := 16) C d_M_see_9 (by decide)  (fun c9 => ?_) (fun c9 => ?_)
  · refine x_aload_n C d_M_see_16 rfl rfl ?_
    refine x_get C d_M_see_17 0 rfl rfl i_M 9 (by decide) lk_M_35 rfl rfl ?_
    refine x_top (y := (if nI sn = wa then w else wf)) (if_neg c9).symm ?_
    refine x_put (ty := .int) (v := .int (if nI sn = wa then w else wf)) (ws' := [(h, .inr (2, [.ref e0, .ref v0, .int (nI rn), .ref l0, .ref b0, .int (nI ns), .int pl, .int (nI sn), .int wa, .int (if nI sn = wa then w else wf)])), (e0, .inl (cA, 33000, .inl (E))), (v0, .inl (cA, 66000, .inl (V))), (l0, .inl (cA, 200000, .inl (L))), (b0, .inl (cA, 15, .inl (B)))]) C d_M_see_20 0 rfl rfl i_M t_M t_M_ok n_M 9 (by decide) lk_M_35 rfl rfl (t_M_ok 9 (by decide)) rfl rfl (Nat.le_of_ble_eq_true rfl) rfl ?_
    refine x_aload_n C d_M_see_23 rfl rfl ?_
    refine x_dup C d_M_see_24 rfl ?_
    refine x_get C d_M_see_25 0 rfl rfl i_M 7 (by decide) lk_M_29 rfl rfl ?_
    refine x_iconst (v := (nI (1))) C d_M_see_28 (by decide) ?_
    refine x_iaddN C d_M_see_29  ?_
    refine x_put (ty := .int) (v := .int (nI (sn + 1))) (ws' := [(h, .inr (2, [.ref e0, .ref v0, .int (nI rn), .ref l0, .ref b0, .int (nI ns), .int pl, .int (nI (sn + 1)), .int wa, .int (if nI sn = wa then w else wf)])), (e0, .inl (cA, 33000, .inl (E))), (v0, .inl (cA, 66000, .inl (V))), (l0, .inl (cA, 200000, .inl (L))), (b0, .inl (cA, 15, .inl (B)))]) C d_M_see_30 0 rfl rfl i_M t_M t_M_ok n_M 7 (by decide) lk_M_29 rfl rfl (t_M_ok 7 (by decide)) rfl rfl (Nat.le_of_ble_eq_true rfl) rfl ?_
    exact x_vret C hr d_M_see_33 () rfl (trivial)
  · refine x_iload_n C d_M_see_12 rfl rfl ?_
    refine x_top (y := (if nI sn = wa then w else wf)) (if_pos c9).symm ?_
    refine x_goto (tgt := 20) C d_M_see_13 (by decide) ?_
    refine x_put (ty := .int) (v := .int (if nI sn = wa then w else wf)) (ws' := [(h, .inr (2, [.ref e0, .ref v0, .int (nI rn), .ref l0, .ref b0, .int (nI ns), .int pl, .int (nI sn), .int wa, .int (if nI sn = wa then w else wf)])), (e0, .inl (cA, 33000, .inl (E))), (v0, .inl (cA, 66000, .inl (V))), (l0, .inl (cA, 200000, .inl (L))), (b0, .inl (cA, 15, .inl (B)))]) C d_M_see_20 0 rfl rfl i_M t_M t_M_ok n_M 9 (by decide) lk_M_35 rfl rfl (t_M_ok 9 (by decide)) rfl rfl (Nat.le_of_ble_eq_true rfl) rfl ?_
    refine x_aload_n C d_M_see_23 rfl rfl ?_
    refine x_dup C d_M_see_24 rfl ?_
    refine x_get C d_M_see_25 0 rfl rfl i_M 7 (by decide) lk_M_29 rfl rfl ?_
    refine x_iconst (v := (nI (1))) C d_M_see_28 (by decide) ?_
    refine x_iaddN C d_M_see_29  ?_
    refine x_put (ty := .int) (v := .int (nI (sn + 1))) (ws' := [(h, .inr (2, [.ref e0, .ref v0, .int (nI rn), .ref l0, .ref b0, .int (nI ns), .int pl, .int (nI (sn + 1)), .int wa, .int (if nI sn = wa then w else wf)])), (e0, .inl (cA, 33000, .inl (E))), (v0, .inl (cA, 66000, .inl (V))), (l0, .inl (cA, 200000, .inl (L))), (b0, .inl (cA, 15, .inl (B)))]) C d_M_see_30 0 rfl rfl i_M t_M t_M_ok n_M 7 (by decide) lk_M_29 rfl rfl (t_M_ok 7 (by decide)) rfl rfl (Nat.le_of_ble_eq_true rfl) rfl ?_
    exact x_vret C hr d_M_see_33 () rfl (trivial)
theorem lit_start {J : List (Nat × Nat)} {g j : Nat} (hb : ∀ i q, i < j → J[i]? = some q → q.2 ≤ 31 * g) : gb (mem (J.take j)) g = 0 := by
  rw [gb_zero]
  intro k hk
  rw [mem_false]
  intro q hq
  obtain ⟨i, hi⟩ := List.getElem?_of_mem hq
  have h1 : i < j := by
    have := (List.getElem?_eq_some_iff.mp hi).1
    rw [List.length_take] at this
    omega
  rw [List.getElem?_take_of_lt h1] at hi
  have := hb i q h1 hi
  omega
set_option maxHeartbeats 4000000 in
theorem c_M_literal {l : Launch} {D : va_G} {cA : ClassId} {h e0 v0 l0 b0 rn ns : Nat} {E V L B : Nat → Int32} {sn wa wf : Int32} {n g j a : Nat} {f : Nat → Bool} {J : List (Nat × Nat)} (hJ : Iv n f J) (hs : seg L a J) (hjl : j ≤ J.length) (hb : ∀ i q, i < j → J[i]? = some q → q.2 ≤ 31 * g) (hj2 : ∀ q, J[j]? = some q → 31 * g < q.2) (ha : a + 2 * J.length ≤ 200000) (hg : g ≤ 40000) (hn : n ≤ 1000000)  : CtI l D cA y_M_literal b_M_literal 9 (some .int) ({ frames := 0, cells := 0, slots := 0, locals := 0 } : Room) [.ref h, .int (nI g), .int (nI (a + 2 * J.length))] (mW cA h e0 v0 l0 b0 E V L B rn ns (nI (a + 2 * j)) sn wa wf) (fun r (u : Nat) => r = nI (gb f g) ∧ u ≤ J.length ∧ j ≤ u ∧ (∀ i q, i < u → J[i]? = some q → q.2 ≤ 31 * g + 31) ∧ (∀ q, J[u]? = some q → 31 * g + 31 < q.2)) (fun u => (mW cA h e0 v0 l0 b0 E V L B rn ns (nI (a + 2 * u)) sn wa wf)) := by
  refine CtI.start (lv0 := [(0, .ref h), (1, .int (nI g)), (2, .int (nI (a + 2 * J.length)))]) (by decide) rfl (Nat.le_of_ble_eq_true rfl) ?_
  intro p_ e_ s_ m_ args_ below_ meth_ c_ A_ C hr hin
  have LP : ∀ (d x : Nat), x + d = J.length → j ≤ x → (∀ i q, i < x → J[i]? = some q → q.2 ≤ 31 * g + 31) → X p_ l e_ ({ frames := 0, cells := 0, slots := 0, locals := 0 } : Room) s_ m_ args_ below_ meth_ c_ D A_ 9 0 0 (MQ below_ (va_Qi (fun r (u : Nat) => r = nI (gb f g) ∧ u ≤ J.length ∧ j ≤ u ∧ (∀ i q, i < u → J[i]? = some q → q.2 ≤ 31 * g + 31) ∧ (∀ q, J[u]? = some q → 31 * g + 31 < q.2)) (Bw D A_ (fun u => (mW cA h e0 v0 l0 b0 E V L B rn ns (nI (a + 2 * u)) sn wa wf))) A_) args_ s_ 0 0 A_) [(h, .inr (2, [.ref e0, .ref v0, .int (nI rn), .ref l0, .ref b0, .int (nI ns), .int (nI (a + 2 * x)), .int sn, .int wa, .int wf])), (e0, .inl (cA, 33000, .inl (E))), (v0, .inl (cA, 66000, .inl (V))), (l0, .inl (cA, 200000, .inl (L))), (b0, .inl (cA, 15, .inl (B)))] 11 [(5, .int (nI 1)), (4, .int (nI (gb (mem (J.take x)) g))), (3, .int (nI (31 * g))), (0, .ref h), (1, .int (nI g)), (2, .int (nI (a + 2 * J.length)))] [] := by
    intro d
    induction d with
    | zero =>
      intro x hx hjx hlo
      refine x_iload C d_M_literal_11 rfl ?_
      refine x_if_eqN (tgt := 181) C d_M_literal_13 (by decide) (by omega) (fun c13 => ?_) (fun c13 => ?_)
      · exact absurd c13 (by omega)
      · refine x_aload_n C d_M_literal_16 rfl rfl ?_
        refine x_get C d_M_literal_17 0 rfl rfl i_M 6 (by decide) lk_M_38 rfl rfl ?_
        refine x_iload_n C d_M_literal_20 rfl rfl ?_
        refine x_icmp_geN (tgt := 181) C d_M_literal_21 (by decide) (by omega) (by omega) (fun c21 => ?_) (fun c21 => ?_)
        · refine x_iload C d_M_literal_181 rfl ?_
          exact x_iret C hr d_M_literal_183 x rfl (⟨by rw [lit_end hJ (fun i q h1 h2 => absurd (List.getElem?_eq_some_iff.mp h2).1 (by omega))], by omega, hjx, hlo, fun q h2 => absurd (List.getElem?_eq_some_iff.mp h2).1 (by omega)⟩)
        · exact absurd c21 (by omega)
    | succ d ih =>
      intro x hx hjx hlo
      obtain ⟨q, hq⟩ : ∃ q, J[x]? = some q := ⟨J[x], List.getElem?_eq_getElem (by omega)⟩
      have hsq := hs x q hq
      have hq1 := ivs_at hJ.1 hq
      have hq2 := hJ.2.1 q (List.mem_of_getElem? hq)
      have hlit := lit_step (g := g) hq
      have hle := gb_le (mem (J.take x)) g
      have hq4 : 31 * g < q.2 := by
        rcases Nat.lt_or_ge j x with h3 | h3
        · have h5 : J[j]? = some J[j] := List.getElem?_eq_getElem (by omega)
          have h4 := ivs_two hJ.1 h3 h5 hq
          have h6 := hj2 _ h5
          omega
        · have h4 : x = j := by omega
          subst h4
          exact hj2 q hq
      have hup : q.2 ≤ 31 * g + 31 → ∀ i q2, i < x + 1 → J[i]? = some q2 → q2.2 ≤ 31 * g + 31 := by
        intro h0 i q2 h1 h2
        rcases Nat.lt_or_ge i x with h3 | h3
        · exact hlo i q2 h3 h2
        · have h4 : i = x := by omega
          subst h4
          rw [hq] at h2
          cases h2
          exact h0
      have hge : 31 * g + 31 ≤ q.1 → ∀ i q2, x ≤ i → J[i]? = some q2 → 31 * g + 31 ≤ q2.1 := by
        intro h0 i q2 h1 h2
        rcases Nat.lt_or_ge x i with h3 | h3
        · have h4 := ivs_two hJ.1 h3 hq h2
          omega
        · have h4 : i = x := by omega
          subst h4
          rw [hq] at h2
          cases h2
          exact h0
      have LI : q.1 < 31 * g + 31 → ∀ (e k : Nat), k + e = min (q.2 - 31 * g) 31 → q.1 - 31 * g ≤ k → X p_ l e_ ({ frames := 0, cells := 0, slots := 0, locals := 0 } : Room) s_ m_ args_ below_ meth_ c_ D A_ 9 0 0 (MQ below_ (va_Qi (fun r (u : Nat) => r = nI (gb f g) ∧ u ≤ J.length ∧ j ≤ u ∧ (∀ i q, i < u → J[i]? = some q → q.2 ≤ 31 * g + 31) ∧ (∀ q, J[u]? = some q → 31 * g + 31 < q.2)) (Bw D A_ (fun u => (mW cA h e0 v0 l0 b0 E V L B rn ns (nI (a + 2 * u)) sn wa wf))) A_) args_ s_ 0 0 A_) [(h, .inr (2, [.ref e0, .ref v0, .int (nI rn), .ref l0, .ref b0, .int (nI ns), .int (nI (a + 2 * x)), .int sn, .int wa, .int wf])), (e0, .inl (cA, 33000, .inl (E))), (v0, .inl (cA, 66000, .inl (V))), (l0, .inl (cA, 200000, .inl (L))), (b0, .inl (cA, 15, .inl (B)))] 112 [(8, .int (nI k)), (4, .int (nI (gb (mem (J.take x)) g ||| rg (q.1 - 31 * g) k))), (7, .int (nI (min (q.2 - 31 * g) 31))), (6, .int (nI (q.1 - 31 * g))), (5, .int (nI 1)), (3, .int (nI (31 * g))), (0, .ref h), (1, .int (nI g)), (2, .int (nI (a + 2 * J.length)))] [] := by
        intro hq3 e
        induction e with
        | zero =>
          intro k hk hfk
          have hk2 : k = min (q.2 - 31 * g) 31 := by omega
          subst hk2
          refine x_lv (lv' := [(8, .int (nI (min (q.2 - 31 * g) 31))), (4, .int (nI (gb (mem (J.take (x + 1))) g))), (7, .int (nI (min (q.2 - 31 * g) 31))), (6, .int (nI (q.1 - 31 * g))), (5, .int (nI 1)), (3, .int (nI (31 * g))), (0, .ref h), (1, .int (nI g)), (2, .int (nI (a + 2 * J.length)))]) (Or.inr (List.forall_mem_cons.mpr ⟨rfl, List.forall_mem_cons.mpr ⟨(by rw [← hlit]; rfl), List.forall_mem_cons.mpr ⟨rfl, List.forall_mem_cons.mpr ⟨rfl, List.forall_mem_cons.mpr ⟨rfl, List.forall_mem_cons.mpr ⟨rfl, List.forall_mem_cons.mpr ⟨rfl, List.forall_mem_cons.mpr ⟨rfl, List.forall_mem_cons.mpr ⟨rfl, fun _ h9 => absurd h9 List.not_mem_nil⟩⟩⟩⟩⟩⟩⟩⟩⟩)) ?_
          refine x_iload C d_M_literal_112 rfl ?_
          refine x_iload C d_M_literal_114 rfl ?_
          refine x_icmp_geN (tgt := 134) C d_M_literal_116 (by decide) (by omega) (by omega) (fun c116 => ?_) (fun c116 => ?_)
          · refine x_aload_n C d_M_literal_134 rfl rfl ?_
            refine x_get C d_M_literal_135 0 rfl rfl i_M 3 (by decide) lk_M_19 rfl rfl ?_
            refine x_aload_n C d_M_literal_138 rfl rfl ?_
            refine x_get C d_M_literal_139 0 rfl rfl i_M 6 (by decide) lk_M_38 rfl rfl ?_
            refine x_iconst (v := (nI (1))) C d_M_literal_142 (by decide) ?_
            refine x_iaddN C d_M_literal_143  ?_
            refine x_iald C d_M_literal_144 3 rfl (by omega) (by omega) ?_
            refine x_top (y := (nI (q.2))) hsq.2 ?_
            refine x_iload_n C d_M_literal_145 rfl rfl ?_
            refine x_bipush (v := (nI (31))) C d_M_literal_146 (by decide) ?_
            refine x_iaddN C d_M_literal_148  ?_
            refine x_icmp_gtN (tgt := 156) C d_M_literal_149 (by decide) (by omega) (by omega) (fun c149 => ?_) (fun c149 => ?_)
            · refine x_iconst (v := (nI (0))) C d_M_literal_156 (by decide) ?_
              refine x_istore (lv' := [(5, .int (nI 0)), (8, .int (nI (min (q.2 - 31 * g) 31))), (4, .int (nI (gb (mem (J.take (x + 1))) g))), (7, .int (nI (min (q.2 - 31 * g) 31))), (6, .int (nI (q.1 - 31 * g))), (3, .int (nI (31 * g))), (0, .ref h), (1, .int (nI g)), (2, .int (nI (a + 2 * J.length)))]) C d_M_literal_157 (by decide) rfl ?_
              refine x_aload_n C d_M_literal_159 rfl rfl ?_
              refine x_dup C d_M_literal_160 rfl ?_
              refine x_get C d_M_literal_161 0 rfl rfl i_M 6 (by decide) lk_M_38 rfl rfl ?_
              refine x_iload C d_M_literal_164 rfl ?_
              refine x_if_eqN (tgt := 173) C d_M_literal_166 (by decide) (by omega) (fun c166 => ?_) (fun c166 => ?_)
              · refine x_iconst (v := (nI (0))) C d_M_literal_173 (by decide) ?_
                refine x_iaddN C d_M_literal_174  ?_
                refine x_top (y := (nI (a + 2 * x))) (by congr 1) ?_
                refine x_put (ty := .int) (v := .int (nI (a + 2 * x))) (ws' := [(h, .inr (2, [.ref e0, .ref v0, .int (nI rn), .ref l0, .ref b0, .int (nI ns), .int (nI (a + 2 * x)), .int sn, .int wa, .int wf])), (e0, .inl (cA, 33000, .inl (E))), (v0, .inl (cA, 66000, .inl (V))), (l0, .inl (cA, 200000, .inl (L))), (b0, .inl (cA, 15, .inl (B)))]) C d_M_literal_175 0 rfl rfl i_M t_M t_M_ok n_M 6 (by decide) lk_M_38 rfl rfl (t_M_ok 6 (by decide)) rfl rfl (Nat.le_of_ble_eq_true rfl) rfl ?_
                refine x_goto (tgt := 11) C d_M_literal_178 (by decide) ?_
                refine x_iload C d_M_literal_11 rfl ?_
                refine x_if_eqN (tgt := 181) C d_M_literal_13 (by decide) (by omega) (fun c13 => ?_) (fun c13 => ?_)
                · refine x_iload C d_M_literal_181 rfl ?_
                  exact x_iret C hr d_M_literal_183 x rfl (⟨by rw [lit_end hJ (fun i q2 h1 h2 => by have h3 := ivs_two hJ.1 (show x < i by omega) hq h2; omega)], by omega, hjx, hlo, fun q2 h2 => by rw [hq] at h2; cases h2; omega⟩)
                · exact absurd c13 (by omega)
              · exact absurd c166 (by omega)
            · refine x_iconst (v := (nI (1))) C d_M_literal_152 (by decide) ?_
              refine x_goto (tgt := 157) C d_M_literal_153 (by decide) ?_
              refine x_istore (lv' := [(5, .int (nI 1)), (8, .int (nI (min (q.2 - 31 * g) 31))), (4, .int (nI (gb (mem (J.take (x + 1))) g))), (7, .int (nI (min (q.2 - 31 * g) 31))), (6, .int (nI (q.1 - 31 * g))), (3, .int (nI (31 * g))), (0, .ref h), (1, .int (nI g)), (2, .int (nI (a + 2 * J.length)))]) C d_M_literal_157 (by decide) rfl ?_
              refine x_aload_n C d_M_literal_159 rfl rfl ?_
              refine x_dup C d_M_literal_160 rfl ?_
              refine x_get C d_M_literal_161 0 rfl rfl i_M 6 (by decide) lk_M_38 rfl rfl ?_
              refine x_iload C d_M_literal_164 rfl ?_
              refine x_if_eqN (tgt := 173) C d_M_literal_166 (by decide) (by omega) (fun c166 => ?_) (fun c166 => ?_)
              · exact absurd c166 (by omega)
              · refine x_iconst (v := (nI (2))) C d_M_literal_169 (by decide) ?_
                refine x_goto (tgt := 174) C d_M_literal_170 (by decide) ?_
                refine x_iaddN C d_M_literal_174  ?_
                refine x_top (y := (nI (a + 2 * (x + 1)))) (by congr 1) ?_
                refine x_put (ty := .int) (v := .int (nI (a + 2 * (x + 1)))) (ws' := [(h, .inr (2, [.ref e0, .ref v0, .int (nI rn), .ref l0, .ref b0, .int (nI ns), .int (nI (a + 2 * (x + 1))), .int sn, .int wa, .int wf])), (e0, .inl (cA, 33000, .inl (E))), (v0, .inl (cA, 66000, .inl (V))), (l0, .inl (cA, 200000, .inl (L))), (b0, .inl (cA, 15, .inl (B)))]) C d_M_literal_175 0 rfl rfl i_M t_M t_M_ok n_M 6 (by decide) lk_M_38 rfl rfl (t_M_ok 6 (by decide)) rfl rfl (Nat.le_of_ble_eq_true rfl) rfl ?_
                refine x_goto (tgt := 11) C d_M_literal_178 (by decide) ?_
                refine x_lv (lv' := [(5, .int (nI 1)), (4, .int (nI (gb (mem (J.take (x + 1))) g))), (3, .int (nI (31 * g))), (0, .ref h), (1, .int (nI g)), (2, .int (nI (a + 2 * J.length)))]) (Or.inr (List.forall_mem_cons.mpr ⟨rfl, List.forall_mem_cons.mpr ⟨rfl, List.forall_mem_cons.mpr ⟨rfl, List.forall_mem_cons.mpr ⟨rfl, List.forall_mem_cons.mpr ⟨rfl, List.forall_mem_cons.mpr ⟨rfl, fun _ h9 => absurd h9 List.not_mem_nil⟩⟩⟩⟩⟩⟩)) ?_
                exact ih (x + 1) (by omega) (by omega) (hup c149)
          · exact absurd c116 (by omega)
        | succ e ihe =>
          intro k hk hfk
          refine x_iload C d_M_literal_112 rfl ?_
          refine x_iload C d_M_literal_114 rfl ?_
          refine x_icmp_geN (tgt := 134) C d_M_literal_116 (by decide) (by omega) (by omega) (fun c116 => ?_) (fun c116 => ?_)
          · exact absurd c116 (by omega)
          · refine x_iload C d_M_literal_119 rfl ?_
            refine x_iconst (v := (nI (1))) C d_M_literal_121 (by decide) ?_
            refine x_iload C d_M_literal_122 rfl ?_
            refine x_ishl C d_M_literal_124 ?_
            refine x_top (y := (nI (2 ^ k))) (by rw [nx_shl (by omega) (by rw [Nat.one_mul]; exact Nat.pow_lt_pow_right (by omega) (by omega)), Nat.one_mul]) ?_
            refine x_ior C d_M_literal_125 ?_
            refine x_top (y := (nI (gb (mem (J.take x)) g ||| rg (q.1 - 31 * g) (k + 1)))) (by rw [nx_or, rg_succ hfk, Nat.or_assoc]) ?_
            refine x_istore (lv' := [(4, .int (nI (gb (mem (J.take x)) g ||| rg (q.1 - 31 * g) (k + 1)))), (8, .int (nI k)), (7, .int (nI (min (q.2 - 31 * g) 31))), (6, .int (nI (q.1 - 31 * g))), (5, .int (nI 1)), (3, .int (nI (31 * g))), (0, .ref h), (1, .int (nI g)), (2, .int (nI (a + 2 * J.length)))]) C d_M_literal_126 (by decide) rfl ?_
            refine x_iincN (lv' := [(8, .int (nI (k + 1))), (4, .int (nI (gb (mem (J.take x)) g ||| rg (q.1 - 31 * g) (k + 1)))), (7, .int (nI (min (q.2 - 31 * g) 31))), (6, .int (nI (q.1 - 31 * g))), (5, .int (nI 1)), (3, .int (nI (31 * g))), (0, .ref h), (1, .int (nI g)), (2, .int (nI (a + 2 * J.length)))]) C d_M_literal_128 rfl (by decide) rfl ?_
            refine x_goto (tgt := 112) C d_M_literal_131 (by decide) ?_
            refine x_lv (lv' := [(8, .int (nI (k + 1))), (4, .int (nI (gb (mem (J.take x)) g ||| rg (q.1 - 31 * g) (k + 1)))), (7, .int (nI (min (q.2 - 31 * g) 31))), (6, .int (nI (q.1 - 31 * g))), (5, .int (nI 1)), (3, .int (nI (31 * g))), (0, .ref h), (1, .int (nI g)), (2, .int (nI (a + 2 * J.length)))]) (Or.inr (List.forall_mem_cons.mpr ⟨rfl, List.forall_mem_cons.mpr ⟨rfl, List.forall_mem_cons.mpr ⟨rfl, List.forall_mem_cons.mpr ⟨rfl, List.forall_mem_cons.mpr ⟨rfl, List.forall_mem_cons.mpr ⟨rfl, List.forall_mem_cons.mpr ⟨rfl, List.forall_mem_cons.mpr ⟨rfl, List.forall_mem_cons.mpr ⟨rfl, fun _ h9 => absurd h9 List.not_mem_nil⟩⟩⟩⟩⟩⟩⟩⟩⟩)) ?_
            exact ihe (k + 1) (by omega) (by omega)
      have H106 : q.1 < 31 * g + 31 → X p_ l e_ ({ frames := 0, cells := 0, slots := 0, locals := 0 } : Room) s_ m_ args_ below_ meth_ c_ D A_ 9 0 0 (MQ below_ (va_Qi (fun r (u : Nat) => r = nI (gb f g) ∧ u ≤ J.length ∧ j ≤ u ∧ (∀ i q, i < u → J[i]? = some q → q.2 ≤ 31 * g + 31) ∧ (∀ q, J[u]? = some q → 31 * g + 31 < q.2)) (Bw D A_ (fun u => (mW cA h e0 v0 l0 b0 E V L B rn ns (nI (a + 2 * u)) sn wa wf))) A_) args_ s_ 0 0 A_) [(h, .inr (2, [.ref e0, .ref v0, .int (nI rn), .ref l0, .ref b0, .int (nI ns), .int (nI (a + 2 * x)), .int sn, .int wa, .int wf])), (e0, .inl (cA, 33000, .inl (E))), (v0, .inl (cA, 66000, .inl (V))), (l0, .inl (cA, 200000, .inl (L))), (b0, .inl (cA, 15, .inl (B)))] 106 [(6, .int (nI (q.1 - 31 * g))), (5, .int (nI 1)), (4, .int (nI (gb (mem (J.take x)) g))), (3, .int (nI (31 * g))), (0, .ref h), (1, .int (nI g)), (2, .int (nI (a + 2 * J.length)))] [.int (nI (min (q.2 - 31 * g) 31))] := by
        intro hq3
        refine x_istore (lv' := [(7, .int (nI (min (q.2 - 31 * g) 31))), (6, .int (nI (q.1 - 31 * g))), (5, .int (nI 1)), (4, .int (nI (gb (mem (J.take x)) g))), (3, .int (nI (31 * g))), (0, .ref h), (1, .int (nI g)), (2, .int (nI (a + 2 * J.length)))]) C d_M_literal_106 (by decide) rfl ?_
        refine x_iload C d_M_literal_108 rfl ?_
        refine x_istore (lv' := [(8, .int (nI (q.1 - 31 * g))), (7, .int (nI (min (q.2 - 31 * g) 31))), (6, .int (nI (q.1 - 31 * g))), (5, .int (nI 1)), (4, .int (nI (gb (mem (J.take x)) g))), (3, .int (nI (31 * g))), (0, .ref h), (1, .int (nI g)), (2, .int (nI (a + 2 * J.length)))]) C d_M_literal_110 (by decide) rfl ?_
        refine x_lv (lv' := [(8, .int (nI (q.1 - 31 * g))), (4, .int (nI (gb (mem (J.take x)) g ||| rg (q.1 - 31 * g) (q.1 - 31 * g)))), (7, .int (nI (min (q.2 - 31 * g) 31))), (6, .int (nI (q.1 - 31 * g))), (5, .int (nI 1)), (3, .int (nI (31 * g))), (0, .ref h), (1, .int (nI g)), (2, .int (nI (a + 2 * J.length)))]) (Or.inr (List.forall_mem_cons.mpr ⟨rfl, List.forall_mem_cons.mpr ⟨(by rw [rg_self, Nat.or_zero]; rfl), List.forall_mem_cons.mpr ⟨rfl, List.forall_mem_cons.mpr ⟨rfl, List.forall_mem_cons.mpr ⟨rfl, List.forall_mem_cons.mpr ⟨rfl, List.forall_mem_cons.mpr ⟨rfl, List.forall_mem_cons.mpr ⟨rfl, List.forall_mem_cons.mpr ⟨rfl, fun _ h9 => absurd h9 List.not_mem_nil⟩⟩⟩⟩⟩⟩⟩⟩⟩)) ?_
        exact LI hq3 (min (q.2 - 31 * g) 31 - (q.1 - 31 * g)) (q.1 - 31 * g) (by omega) (Nat.le_refl _)
      have H68 : q.1 < 31 * g + 31 → X p_ l e_ ({ frames := 0, cells := 0, slots := 0, locals := 0 } : Room) s_ m_ args_ below_ meth_ c_ D A_ 9 0 0 (MQ below_ (va_Qi (fun r (u : Nat) => r = nI (gb f g) ∧ u ≤ J.length ∧ j ≤ u ∧ (∀ i q, i < u → J[i]? = some q → q.2 ≤ 31 * g + 31) ∧ (∀ q, J[u]? = some q → 31 * g + 31 < q.2)) (Bw D A_ (fun u => (mW cA h e0 v0 l0 b0 E V L B rn ns (nI (a + 2 * u)) sn wa wf))) A_) args_ s_ 0 0 A_) [(h, .inr (2, [.ref e0, .ref v0, .int (nI rn), .ref l0, .ref b0, .int (nI ns), .int (nI (a + 2 * x)), .int sn, .int wa, .int wf])), (e0, .inl (cA, 33000, .inl (E))), (v0, .inl (cA, 66000, .inl (V))), (l0, .inl (cA, 200000, .inl (L))), (b0, .inl (cA, 15, .inl (B)))] 68 [(5, .int (nI 1)), (4, .int (nI (gb (mem (J.take x)) g))), (3, .int (nI (31 * g))), (0, .ref h), (1, .int (nI g)), (2, .int (nI (a + 2 * J.length)))] [.int (nI (q.1 - 31 * g))] := by
        intro hq3
        refine x_istore (lv' := [(6, .int (nI (q.1 - 31 * g))), (5, .int (nI 1)), (4, .int (nI (gb (mem (J.take x)) g))), (3, .int (nI (31 * g))), (0, .ref h), (1, .int (nI g)), (2, .int (nI (a + 2 * J.length)))]) C d_M_literal_68 (by decide) rfl ?_
        refine x_aload_n C d_M_literal_70 rfl rfl ?_
        refine x_get C d_M_literal_71 0 rfl rfl i_M 3 (by decide) lk_M_19 rfl rfl ?_
        refine x_aload_n C d_M_literal_74 rfl rfl ?_
        refine x_get C d_M_literal_75 0 rfl rfl i_M 6 (by decide) lk_M_38 rfl rfl ?_
        refine x_iconst (v := (nI (1))) C d_M_literal_78 (by decide) ?_
        refine x_iaddN C d_M_literal_79  ?_
        refine x_iald C d_M_literal_80 3 rfl (by omega) (by omega) ?_
        refine x_top (y := (nI (q.2))) hsq.2 ?_
        refine x_iload_n C d_M_literal_81 rfl rfl ?_
        refine x_bipush (v := (nI (31))) C d_M_literal_82 (by decide) ?_
        refine x_iaddN C d_M_literal_84  ?_
        refine x_icmp_geN (tgt := 104) C d_M_literal_85 (by decide) (by omega) (by omega) (fun c85 => ?_) (fun c85 => ?_)
        · refine x_bipush (v := (nI (31))) C d_M_literal_104 (by decide) ?_
          refine x_top (y := (nI (min (q.2 - 31 * g) 31))) (by congr 1; omega) ?_
          refine x_lv (lv' := [(6, .int (nI (q.1 - 31 * g))), (5, .int (nI 1)), (4, .int (nI (gb (mem (J.take x)) g))), (3, .int (nI (31 * g))), (0, .ref h), (1, .int (nI g)), (2, .int (nI (a + 2 * J.length)))]) (Or.inr (List.forall_mem_cons.mpr ⟨rfl, List.forall_mem_cons.mpr ⟨rfl, List.forall_mem_cons.mpr ⟨rfl, List.forall_mem_cons.mpr ⟨rfl, List.forall_mem_cons.mpr ⟨rfl, List.forall_mem_cons.mpr ⟨rfl, List.forall_mem_cons.mpr ⟨rfl, fun _ h9 => absurd h9 List.not_mem_nil⟩⟩⟩⟩⟩⟩⟩)) ?_
          exact H106 hq3
        · refine x_aload_n C d_M_literal_88 rfl rfl ?_
          refine x_get C d_M_literal_89 0 rfl rfl i_M 3 (by decide) lk_M_19 rfl rfl ?_
          refine x_aload_n C d_M_literal_92 rfl rfl ?_
          refine x_get C d_M_literal_93 0 rfl rfl i_M 6 (by decide) lk_M_38 rfl rfl ?_
          refine x_iconst (v := (nI (1))) C d_M_literal_96 (by decide) ?_
          refine x_iaddN C d_M_literal_97  ?_
          refine x_iald C d_M_literal_98 3 rfl (by omega) (by omega) ?_
          refine x_top (y := (nI (q.2))) hsq.2 ?_
          refine x_iload_n C d_M_literal_99 rfl rfl ?_
          refine x_isubN C d_M_literal_100 (by omega) ?_
          refine x_top (y := (nI (min (q.2 - 31 * g) 31))) (by congr 1; omega) ?_
          refine x_goto (tgt := 106) C d_M_literal_101 (by decide) ?_
          refine x_lv (lv' := [(6, .int (nI (q.1 - 31 * g))), (5, .int (nI 1)), (4, .int (nI (gb (mem (J.take x)) g))), (3, .int (nI (31 * g))), (0, .ref h), (1, .int (nI g)), (2, .int (nI (a + 2 * J.length)))]) (Or.inr (List.forall_mem_cons.mpr ⟨rfl, List.forall_mem_cons.mpr ⟨rfl, List.forall_mem_cons.mpr ⟨rfl, List.forall_mem_cons.mpr ⟨rfl, List.forall_mem_cons.mpr ⟨rfl, List.forall_mem_cons.mpr ⟨rfl, List.forall_mem_cons.mpr ⟨rfl, fun _ h9 => absurd h9 List.not_mem_nil⟩⟩⟩⟩⟩⟩⟩)) ?_
          exact H106 hq3
      refine x_iload C d_M_literal_11 rfl ?_
      refine x_if_eqN (tgt := 181) C d_M_literal_13 (by decide) (by omega) (fun c13 => ?_) (fun c13 => ?_)
      · exact absurd c13 (by omega)
      · refine x_aload_n C d_M_literal_16 rfl rfl ?_
        refine x_get C d_M_literal_17 0 rfl rfl i_M 6 (by decide) lk_M_38 rfl rfl ?_
        refine x_iload_n C d_M_literal_20 rfl rfl ?_
        refine x_icmp_geN (tgt := 181) C d_M_literal_21 (by decide) (by omega) (by omega) (fun c21 => ?_) (fun c21 => ?_)
        · exact absurd c21 (by omega)
        · refine x_aload_n C d_M_literal_24 rfl rfl ?_
          refine x_get C d_M_literal_25 0 rfl rfl i_M 3 (by decide) lk_M_19 rfl rfl ?_
          refine x_aload_n C d_M_literal_28 rfl rfl ?_
          refine x_get C d_M_literal_29 0 rfl rfl i_M 6 (by decide) lk_M_38 rfl rfl ?_
          refine x_iald C d_M_literal_32 3 rfl (by omega) (by omega) ?_
          refine x_top (y := (nI (q.1))) hsq.1 ?_
          refine x_iload_n C d_M_literal_33 rfl rfl ?_
          refine x_bipush (v := (nI (31))) C d_M_literal_34 (by decide) ?_
          refine x_iaddN C d_M_literal_36  ?_
          refine x_icmp_geN (tgt := 181) C d_M_literal_37 (by decide) (by omega) (by omega) (fun c37 => ?_) (fun c37 => ?_)
          · refine x_iload C d_M_literal_181 rfl ?_
            exact x_iret C hr d_M_literal_183 x rfl (⟨by rw [lit_end hJ (hge c37)], by omega, hjx, hlo, fun q2 h2 => by rw [hq] at h2; cases h2; omega⟩)
          · refine x_aload_n C d_M_literal_40 rfl rfl ?_
            refine x_get C d_M_literal_41 0 rfl rfl i_M 3 (by decide) lk_M_19 rfl rfl ?_
            refine x_aload_n C d_M_literal_44 rfl rfl ?_
            refine x_get C d_M_literal_45 0 rfl rfl i_M 6 (by decide) lk_M_38 rfl rfl ?_
            refine x_iald C d_M_literal_48 3 rfl (by omega) (by omega) ?_
            refine x_top (y := (nI (q.1))) hsq.1 ?_
            refine x_iload_n C d_M_literal_49 rfl rfl ?_
            refine x_icmp_leN (tgt := 67) C d_M_literal_50 (by decide) (by omega) (by omega) (fun c50 => ?_) (fun c50 => ?_)
            · refine x_iconst (v := (nI (0))) C d_M_literal_67 (by decide) ?_
              refine x_top (y := (nI (q.1 - 31 * g))) (by congr 1; omega) ?_
              refine x_lv (lv' := [(5, .int (nI 1)), (4, .int (nI (gb (mem (J.take x)) g))), (3, .int (nI (31 * g))), (0, .ref h), (1, .int (nI g)), (2, .int (nI (a + 2 * J.length)))]) (Or.inr (List.forall_mem_cons.mpr ⟨rfl, List.forall_mem_cons.mpr ⟨rfl, List.forall_mem_cons.mpr ⟨rfl, List.forall_mem_cons.mpr ⟨rfl, List.forall_mem_cons.mpr ⟨rfl, List.forall_mem_cons.mpr ⟨rfl, fun _ h9 => absurd h9 List.not_mem_nil⟩⟩⟩⟩⟩⟩)) ?_
              exact H68 c37
            · refine x_aload_n C d_M_literal_53 rfl rfl ?_
              refine x_get C d_M_literal_54 0 rfl rfl i_M 3 (by decide) lk_M_19 rfl rfl ?_
              refine x_aload_n C d_M_literal_57 rfl rfl ?_
              refine x_get C d_M_literal_58 0 rfl rfl i_M 6 (by decide) lk_M_38 rfl rfl ?_
              refine x_iald C d_M_literal_61 3 rfl (by omega) (by omega) ?_
              refine x_top (y := (nI (q.1))) hsq.1 ?_
              refine x_iload_n C d_M_literal_62 rfl rfl ?_
              refine x_isubN C d_M_literal_63 (by omega) ?_
              refine x_goto (tgt := 68) C d_M_literal_64 (by decide) ?_
              refine x_lv (lv' := [(5, .int (nI 1)), (4, .int (nI (gb (mem (J.take x)) g))), (3, .int (nI (31 * g))), (0, .ref h), (1, .int (nI g)), (2, .int (nI (a + 2 * J.length)))]) (Or.inr (List.forall_mem_cons.mpr ⟨rfl, List.forall_mem_cons.mpr ⟨rfl, List.forall_mem_cons.mpr ⟨rfl, List.forall_mem_cons.mpr ⟨rfl, List.forall_mem_cons.mpr ⟨rfl, List.forall_mem_cons.mpr ⟨rfl, fun _ h9 => absurd h9 List.not_mem_nil⟩⟩⟩⟩⟩⟩)) ?_
              exact H68 c37
  refine x_bipush (v := (nI (31))) C d_M_literal_0 (by decide) ?_
  refine x_iload_n C d_M_literal_2 rfl rfl ?_
  refine x_imulN C d_M_literal_3  ?_
  refine x_istore_n (lv' := [(3, .int (nI (31 * g))), (0, .ref h), (1, .int (nI g)), (2, .int (nI (a + 2 * J.length)))]) C d_M_literal_4 rfl (by decide) rfl ?_
  refine x_iconst (v := (nI (0))) C d_M_literal_5 (by decide) ?_
  refine x_top (y := (nI (gb (mem (J.take j)) g))) (by rw [lit_start hb]) ?_
  refine x_istore (lv' := [(4, .int (nI (gb (mem (J.take j)) g))), (3, .int (nI (31 * g))), (0, .ref h), (1, .int (nI g)), (2, .int (nI (a + 2 * J.length)))]) C d_M_literal_6 (by decide) rfl ?_
  refine x_iconst (v := (nI (1))) C d_M_literal_8 (by decide) ?_
  refine x_istore (lv' := [(5, .int (nI 1)), (4, .int (nI (gb (mem (J.take j)) g))), (3, .int (nI (31 * g))), (0, .ref h), (1, .int (nI g)), (2, .int (nI (a + 2 * J.length)))]) C d_M_literal_9 (by decide) rfl ?_
  refine x_lv (lv' := [(5, .int (nI 1)), (4, .int (nI (gb (mem (J.take j)) g))), (3, .int (nI (31 * g))), (0, .ref h), (1, .int (nI g)), (2, .int (nI (a + 2 * J.length)))]) (Or.inr (List.forall_mem_cons.mpr ⟨rfl, List.forall_mem_cons.mpr ⟨rfl, List.forall_mem_cons.mpr ⟨rfl, List.forall_mem_cons.mpr ⟨rfl, List.forall_mem_cons.mpr ⟨rfl, List.forall_mem_cons.mpr ⟨rfl, fun _ h9 => absurd h9 List.not_mem_nil⟩⟩⟩⟩⟩⟩)) ?_
  exact LP (J.length - j) j (by omega) (Nat.le_refl _) (fun i q h1 h2 => by have := hb i q h1 h2; omega)
end
section
/-! words made out of intervals -/
theorem f_gap {n : Nat} {f : Nat → Bool} {J : List (Nat × Nat)} {j r : Nat} (h : Iv n f J) (h1 : ∀ i q, i < j → J[i]? = some q → q.2 ≤ r) (h2 : ∀ q, J[j]? = some q → r < q.1) : f r = false := by
  rw [h.2.2, mem_false]
  intro q hq
  obtain ⟨i, hi⟩ := List.getElem?_of_mem hq
  rcases Nat.lt_trichotomy i j with h3 | h3 | h3
  · have := h1 i q h3 hi
    omega
  · subst h3
    have := h2 q hi
    omega
  · have hl : j < J.length := by
      have := (List.getElem?_eq_some_iff.mp hi).1
      omega
    have h5 : J[j]? = some J[j] := List.getElem?_eq_getElem hl
    have h6 := ivs_two h.1 h3 h5 hi
    have h7 := h2 _ h5
    have h8 := ivs_at h.1 h5
    omega
theorem f_in {n : Nat} {f : Nat → Bool} {J : List (Nat × Nat)} {j r : Nat} {q : Nat × Nat} (h : Iv n f J) (hq : J[j]? = some q) (h1 : q.1 ≤ r) (h2 : r < q.2) : f r = true := by
  rw [h.2.2, mem_iff]
  exact ⟨q, List.mem_of_getElem? hq, h1, h2⟩
theorem f_end {n : Nat} {f : Nat → Bool} {J : List (Nat × Nat)} {j : Nat} {q : Nat × Nat} (h : Iv n f J) (hq : J[j]? = some q) : f q.2 = false := by
  apply f_gap (j := j + 1) h
  · intro i q2 h1 h2
    rcases Nat.lt_or_ge i j with h3 | h3
    · have h4 := ivs_two h.1 h3 h2 hq
      have h5 := ivs_at h.1 hq
      omega
    · have h4 : i = j := by omega
      subst h4
      rw [hq] at h2
      cases h2
      exact Nat.le_refl _
  · intro q2 h2
    exact ivs_two h.1 (Nat.lt_succ_self j) hq h2
def gInv (n : Nat) (f : Nat → Bool) (J : List (Nat × Nat)) (wt : Int32) (g j : Nat) (W : List (Nat × Nat)) (fd : Int32) : Prop :=
  g ≤ (n + 30) / 31 ∧ j ≤ J.length ∧ (∀ i q, i < j → J[i]? = some q → q.2 ≤ 31 * g) ∧ (∀ q, J[j]? = some q → 31 * g < q.2) ∧ canon W ∧ ex W = PG f g ∧ (∀ v, W.getLast? = some v → (v.1 = 0 ∨ v.1 = AL) → g < (n + 30) / 31 → gb f g ≠ v.1) ∧ (∀ i w, wt = nI i → i < 2 ^ 31 → W[i]? = some w → fd = enc w) ∧ W.length ≤ g
theorem gi_see {wt fd x : Int32} {W : List (Nat × Nat)} {w : Nat × Nat} (h : ∀ i w, wt = nI i → i < 2 ^ 31 → W[i]? = some w → fd = enc w) (hx : x = enc w) (hl : W.length < 2 ^ 31) : ∀ i v, wt = nI i → i < 2 ^ 31 → (W ++ [w])[i]? = some v → (if nI W.length = wt then x else fd) = enc v := by
  intro i v h1 h2 h3
  by_cases hi : i < W.length
  · rw [List.getElem?_append_left hi] at h3
    rw [if_neg, h i v h1 h2 h3]
    intro e
    rw [h1] at e
    have := (nI_eq hl h2).mp e
    omega
  · rw [List.getElem?_append_right (by omega)] at h3
    have h4 : i - W.length < 1 := (List.getElem?_eq_some_iff.mp h3).1
    have h5 : i = W.length := by omega
    subst h5
    rw [Nat.sub_self] at h3
    cases h3
    rw [if_pos h1.symm, hx]
/-- k groups more, all alike -/
theorem gi_more {n : Nat} {f : Nat → Bool} {J : List (Nat × Nat)} {wt fd x : Int32} {g j g' j' b : Nat} {W : List (Nat × Nat)} (h : gInv n f J wt g j W fd) (hg : g < (n + 30) / 31) (hn : n ≤ 1000000) (h1 : g < g') (h2 : g' ≤ (n + 30) / 31) (hb : ∀ i, i < g' - g → gb f (g + i) = b) (hok : okw (b, g' - g)) (hj' : j' ≤ J.length) (hlo : ∀ i q, i < j' → J[i]? = some q → q.2 ≤ 31 * g') (hhi : ∀ q, J[j']? = some q → 31 * g' < q.2) (hnx : (b = 0 ∨ b = AL) → g' < (n + 30) / 31 → gb f g' ≠ b) (hx : x = enc (b, g' - g)) : gInv n f J wt g' j' (W ++ [(b, g' - g)]) (if nI W.length = wt then x else fd) := by
  obtain ⟨a1, a2, a3, a4, a5, a6, a7, a8, a9⟩ := h
  refine ⟨h2, hj', hlo, hhi, (canon_snoc _ _).mpr ⟨a5, hok, fun v hv => ?_⟩, ?_, fun v hv => ?_, gi_see a8 hx (by omega), by rw [List.length_append, List.length_singleton]; omega⟩
  · intro hf
    have h3 := a7 v hv hf hg
    have h4 := hb 0 (by omega)
    rw [Nat.add_zero] at h4
    rw [h4] at h3
    exact h3
  · rw [ex_app, ex_one, a6]
    dsimp only
    have := PG_rep (f := f) (k := g) (B := b) (t := g' - g) hb
    rw [show g + (g' - g) = g' by omega] at this
    rw [this]
  · rw [List.getLast?_concat] at hv
    cases hv
    exact hnx
theorem okw_f {b k : Nat} (hb : b = 0 ∨ b = AL) (hk : 1 ≤ k) : okw (b, k) := ⟨hk, by show b ≤ 2147483647; rcases hb with h | h; (rw [h]; exact Nat.zero_le _); (rw [h]; exact Nat.le_refl _), by rcases hb with h | h; exact Or.inl h; exact Or.inr (Or.inl h)⟩
theorem gi_end {n : Nat} {f : Nat → Bool} {J : List (Nat × Nat)} {wt fd x : Int32} {g j : Nat} {W : List (Nat × Nat)} (hJ : Iv n f J) (h : gInv n f J wt g j W fd) (hg : g < (n + 30) / 31) (hn : n ≤ 1000000) (hj : j = J.length) (hx : x = enc (0, (n + 30) / 31 - g)) : gInv n f J wt ((n + 30) / 31) j (W ++ [(0, (n + 30) / 31 - g)]) (if nI W.length = wt then x else fd) := by
  have h0 := h
  obtain ⟨a1, a2, a3, a4, -⟩ := h0
  refine gi_more h hg hn hg (Nat.le_refl _) (fun i hi => ?_) (okw_f (Or.inl rfl) (by omega)) a2 (fun i q h1 h2 => Nat.le_trans (a3 i q h1 h2) (by omega)) (fun q h2 => absurd (List.getElem?_eq_some_iff.mp h2).1 (by omega)) (fun _ h9 => absurd h9 (Nat.lt_irrefl _)) hx
  rw [gb_zero]
  intro k hk
  refine f_gap (j := j) hJ (fun i' q h1 h2 => Nat.le_trans (a3 i' q h1 h2) (by omega)) (fun q h2 => absurd (List.getElem?_eq_some_iff.mp h2).1 (by omega))
theorem gi_empty {n : Nat} {f : Nat → Bool} {J : List (Nat × Nat)} {wt fd x : Int32} {g j : Nat} {q : Nat × Nat} {W : List (Nat × Nat)} (hJ : Iv n f J) (h : gInv n f J wt g j W fd) (hg : g < (n + 30) / 31) (hn : n ≤ 1000000) (hq : J[j]? = some q) (h1 : 31 * g + 31 ≤ q.1) (hx : x = enc (0, q.1 / 31 - g)) : gInv n f J wt (q.1 / 31) j (W ++ [(0, q.1 / 31 - g)]) (if nI W.length = wt then x else fd) := by
  have h0 := h
  obtain ⟨a1, a2, a3, a4, -⟩ := h0
  have hq1 := ivs_at hJ.1 hq
  have hq2 := hJ.2.1 q (List.mem_of_getElem? hq)
  refine gi_more h hg hn (by omega) (by omega) (fun i hi => ?_) (okw_f (Or.inl rfl) (by omega)) a2 (fun i q2 h3 h4 => Nat.le_trans (a3 i q2 h3 h4) (by omega)) (fun q2 h4 => by rw [hq] at h4; cases h4; omega) (fun _ _ => ?_) hx
  · rw [gb_zero]
    intro k hk
    refine f_gap (j := j) hJ (fun i' q2 h3 h4 => Nat.le_trans (a3 i' q2 h3 h4) (by omega)) (fun q2 h4 => by rw [hq] at h4; cases h4; omega)
  · intro e
    have h5 := gb_zero.mp e (q.1 % 31) (by omega)
    rw [show 31 * (q.1 / 31) + q.1 % 31 = q.1 by omega, f_in hJ hq (Nat.le_refl _) hq1.2] at h5
    cases h5
theorem gi_full {n : Nat} {f : Nat → Bool} {J : List (Nat × Nat)} {wt fd x : Int32} {g j j' : Nat} {q : Nat × Nat} {W : List (Nat × Nat)} (hJ : Iv n f J) (h : gInv n f J wt g j W fd) (hg : g < (n + 30) / 31) (hn : n ≤ 1000000) (hq : J[j]? = some q) (h1 : q.1 ≤ 31 * g) (h2 : 31 * g + 31 ≤ q.2) (hj' : (q.2 = 31 * (q.2 / 31) ∧ j' = j + 1) ∨ (q.2 ≠ 31 * (q.2 / 31) ∧ j' = j)) (hx : x = enc (AL, q.2 / 31 - g)) : gInv n f J wt (q.2 / 31) j' (W ++ [(AL, q.2 / 31 - g)]) (if nI W.length = wt then x else fd) := by
  have h0 := h
  obtain ⟨a1, a2, a3, a4, -⟩ := h0
  have hq1 := ivs_at hJ.1 hq
  have hq2 := hJ.2.1 q (List.mem_of_getElem? hq)
  have hjl : j < J.length := (List.getElem?_eq_some_iff.mp hq).1
  refine gi_more h hg hn (by omega) (by omega) (fun i hi => ?_) (okw_f (Or.inr rfl) (by omega)) (by omega) (fun i q2 h3 h4 => ?_) (fun q2 h4 => ?_) (fun _ h9 => ?_) hx
  · rw [gb_full]
    intro k hk
    exact f_in hJ hq (by omega) (by omega)
  · rcases Nat.lt_or_ge i j with h5 | h5
    · exact Nat.le_trans (a3 i q2 h5 h4) (by omega)
    · have h6 : i = j := by omega
      subst h6
      rw [hq] at h4
      cases h4
      omega
  · rcases hj' with ⟨e1, rfl⟩ | ⟨e1, rfl⟩
    · have h5 := ivs_two hJ.1 (Nat.lt_succ_self j) hq h4
      have h6 := ivs_at hJ.1 h4
      omega
    · rw [hq] at h4
      cases h4
      omega
  · intro e
    have h5 := gb_full.mp e (q.2 % 31) (by omega)
    rw [show 31 * (q.2 / 31) + q.2 % 31 = q.2 by omega, f_end hJ hq] at h5
    cases h5
theorem gi_lit {n : Nat} {f : Nat → Bool} {J : List (Nat × Nat)} {wt fd x : Int32} {g j j' : Nat} {q : Nat × Nat} {W : List (Nat × Nat)} (hJ : Iv n f J) (h : gInv n f J wt g j W fd) (hg : g < (n + 30) / 31) (hn : n ≤ 1000000) (hq : J[j]? = some q) (h1 : q.1 < 31 * g + 31) (h2 : 31 * g < q.1 ∨ q.2 < 31 * g + 31) (hj' : j' ≤ J.length) (hlo : ∀ i q, i < j' → J[i]? = some q → q.2 ≤ 31 * g + 31) (hhi : ∀ q, J[j']? = some q → 31 * g + 31 < q.2) (hx : x = nI (gb f g)) : gInv n f J wt (g + 1) j' (W ++ [(gb f g, 1)]) (if nI W.length = wt then x else fd) := by
  have h0 := h
  obtain ⟨a1, a2, a3, a4, -⟩ := h0
  have hq1 := ivs_at hJ.1 hq
  have hq2 := hJ.2.1 q (List.mem_of_getElem? hq)
  have hq3 := a4 q hq
  have hnf : ¬ (gb f g = 0 ∨ gb f g = AL) := by
    rintro (e | e)
    · have h5 := gb_zero.mp e (max q.1 (31 * g) - 31 * g) (by omega)
      rw [show 31 * g + (max q.1 (31 * g) - 31 * g) = max q.1 (31 * g) by omega, f_in hJ hq (by omega) (by omega)] at h5
      cases h5
    · rcases h2 with h2 | h2
      · have h5 := gb_full.mp e (q.1 - 1 - 31 * g) (by omega)
        rw [show 31 * g + (q.1 - 1 - 31 * g) = q.1 - 1 by omega] at h5
        rw [f_gap (j := j) hJ (fun i' q2 h3 h4 => Nat.le_trans (a3 i' q2 h3 h4) (by omega)) (fun q2 h4 => by rw [hq] at h4; cases h4; omega)] at h5
        cases h5
      · have h5 := gb_full.mp e (q.2 - 31 * g) (by omega)
        rw [show 31 * g + (q.2 - 31 * g) = q.2 by omega, f_end hJ hq] at h5
        cases h5
  have e1 : g + 1 - g = 1 := by omega
  have := gi_more (g' := g + 1) (j' := j') (b := gb f g) (x := x) h hg hn (by omega) (by omega) (fun i hi => by rw [show g + i = g by omega]) (by rw [e1]; exact okw_one (gb_le f g)) hj' (fun i q2 h3 h4 => Nat.le_trans (hlo i q2 h3 h4) (by omega)) (fun q2 h4 => by have := hhi q2 h4; omega) (fun h9 => absurd h9 hnf) (by rw [hx, e1, enc_lit (w := (gb f g, 1)) hnf])
  rw [e1] at this
  exact this
theorem gi_start {n : Nat} {f : Nat → Bool} {J : List (Nat × Nat)} {wt : Int32} (hJ : Iv n f J) : gInv n f J wt 0 0 [] (nI 0) := ⟨Nat.zero_le _, Nat.zero_le _, fun i q h => absurd h (Nat.not_lt_zero i), fun q h => by have := ivs_at hJ.1 h; omega, trivial, rfl, fun v h => by simp at h, fun i w _ _ h => by simp at h, Nat.zero_le _⟩
theorem gi_done {n : Nat} {f : Nat → Bool} {J : List (Nat × Nat)} {wt fd : Int32} {g j : Nat} {W : List (Nat × Nat)} (h : gInv n f J wt g j W fd) (hg : (n + 30) / 31 ≤ g) : W = Wd n f ∧ (∀ i w, wt = nI i → i < 2 ^ 31 → (Wd n f)[i]? = some w → fd = enc w) ∧ j ≤ J.length := by
  obtain ⟨a1, a2, a3, a4, a5, a6, a7, a8, a9⟩ := h
  have e : g = (n + 30) / 31 := by omega
  subst e
  have h1 : W = Wd n f := Rep.eq ⟨a5, a6⟩
  exact ⟨h1, by rw [← h1]; exact a8, a2⟩
set_option maxHeartbeats 4000000 in
theorem c_M_goAlong {l : Launch} {D : va_G} {cA : ClassId} {h e0 v0 l0 b0 rn ns : Nat} {E V L B : Nat → Int32} {pl sn wa wf wt : Int32} {n a : Nat} {f : Nat → Bool} {J : List (Nat × Nat)} {en : Nat → Nat} {vl : Nat → Nat → Nat} (hE : Rn E V rn en vl) (hn : bnd en rn = n) (hJ : Iv n f J) (hs : seg L a J) (ha : a + 2 * J.length ≤ 200000)  : CtI l D cA y_M_goAlong b_M_goAlong 8 (some .int) ({ frames := 1, cells := 0, slots := 0, locals := 28 } : Room) [.ref h, .int (nI a), .int (nI (a + 2 * J.length)), .int wt] (mW cA h e0 v0 l0 b0 E V L B rn ns pl sn wa wf) (fun r (u : Nat × Int32) => r = nI (Wd n f).length ∧ u.1 ≤ J.length ∧ ∀ i w, wt = nI i → i < 2 ^ 31 → (Wd n f)[i]? = some w → u.2 = enc w) (fun u => (mW cA h e0 v0 l0 b0 E V L B rn ns (nI (a + 2 * u.1)) (nI (Wd n f).length) wt (u.2))) := by
  refine CtI.start (lv0 := [(0, .ref h), (1, .int (nI a)), (2, .int (nI (a + 2 * J.length))), (3, .int wt)]) (by decide) rfl (Nat.le_of_ble_eq_true rfl) ?_
  intro p_ e_ s_ m_ args_ below_ meth_ c_ A_ C hr hin
  have hn2 : n ≤ 1000000 := by rw [← hn]; exact bnd_le hE rn (Nat.le_refl _)
  have LP : ∀ (d g j : Nat) (W : List (Nat × Nat)) (fd : Int32), (n + 30) / 31 ≤ g + d → gInv n f J wt g j W fd → X p_ l e_ ({ frames := 1, cells := 0, slots := 0, locals := 28 } : Room) s_ m_ args_ below_ meth_ c_ D A_ 8 0 0 (MQ below_ (va_Qi (fun r (u : Nat × Int32) => r = nI (Wd n f).length ∧ u.1 ≤ J.length ∧ ∀ i w, wt = nI i → i < 2 ^ 31 → (Wd n f)[i]? = some w → u.2 = enc w) (Bw D A_ (fun u => (mW cA h e0 v0 l0 b0 E V L B rn ns (nI (a + 2 * u.1)) (nI (Wd n f).length) wt (u.2)))) A_) args_ s_ 0 0 A_) [(h, .inr (2, [.ref e0, .ref v0, .int (nI rn), .ref l0, .ref b0, .int (nI ns), .int (nI (a + 2 * j)), .int (nI (W.length)), .int wt, .int fd])), (e0, .inl (cA, 33000, .inl (E))), (v0, .inl (cA, 66000, .inl (V))), (l0, .inl (cA, 200000, .inl (L))), (b0, .inl (cA, 15, .inl (B)))] 37 [(5, .int (nI g)), (4, .int (nI ((n + 30) / 31))), (0, .ref h), (1, .int (nI a)), (2, .int (nI (a + 2 * J.length))), (3, .int wt)] [] := by
    intro d
    induction d with
    | zero =>
      intro g j W fd hd hI
      have hg1 := hI.1
      obtain ⟨hW, hfd, hjl⟩ := gi_done hI (by omega)
      subst hW
      refine x_iload C d_M_goAlong_37 rfl ?_
      refine x_iload C d_M_goAlong_39 rfl ?_
      refine x_icmp_geN (tgt := 241) C d_M_goAlong_41 (by decide) (by omega) (by omega) (fun c41 => ?_) (fun c41 => ?_)
      · refine x_aload_n C d_M_goAlong_241 rfl rfl ?_
        refine x_get C d_M_goAlong_242 0 rfl rfl i_M 7 (by decide) lk_M_29 rfl rfl ?_
        exact x_iret C hr d_M_goAlong_245 (j, fd) rfl (⟨rfl, hjl, hfd⟩)
      · exact absurd c41 (by omega)
    | succ d ih =>
      intro g j W fd hd hI
      have hI0 := hI
      obtain ⟨hg1, hjl, hlo, hhi, -, -, -, -, hWl⟩ := hI0
      by_cases hgG : (n + 30) / 31 ≤ g
      · obtain ⟨hW, hfd, hjl⟩ := gi_done hI hgG
        subst hW
        refine x_iload C d_M_goAlong_37 rfl ?_
        refine x_iload C d_M_goAlong_39 rfl ?_
        refine x_icmp_geN (tgt := 241) C d_M_goAlong_41 (by decide) (by omega) (by omega) (fun c41 => ?_) (fun c41 => ?_)
        · refine x_aload_n C d_M_goAlong_241 rfl rfl ?_
          refine x_get C d_M_goAlong_242 0 rfl rfl i_M 7 (by decide) lk_M_29 rfl rfl ?_
          exact x_iret C hr d_M_goAlong_245 (j, fd) rfl (⟨rfl, hjl, hfd⟩)
        · exact absurd c41 (by omega)
      · by_cases hjJ : j = J.length
        · refine x_iload C d_M_goAlong_37 rfl ?_
          refine x_iload C d_M_goAlong_39 rfl ?_
          refine x_icmp_geN (tgt := 241) C d_M_goAlong_41 (by decide) (by omega) (by omega) (fun c41 => ?_) (fun c41 => ?_)
          · exact absurd c41 (by omega)
          · refine x_aload_n C d_M_goAlong_44 rfl rfl ?_
            refine x_get C d_M_goAlong_45 0 rfl rfl i_M 6 (by decide) lk_M_38 rfl rfl ?_
            refine x_iload_n C d_M_goAlong_48 rfl rfl ?_
            refine x_icmp_geN (tgt := 64) C d_M_goAlong_49 (by decide) (by omega) (by omega) (fun c49 => ?_) (fun c49 => ?_)
            · refine x_ldc C d_M_goAlong_64 lk_M_45 ?_
              refine x_top (y := nI 2147483647) (by decide) ?_
              refine x_istore (lv' := [(6, .int (nI 2147483647)), (5, .int (nI g)), (4, .int (nI ((n + 30) / 31))), (0, .ref h), (1, .int (nI a)), (2, .int (nI (a + 2 * J.length))), (3, .int wt)]) C d_M_goAlong_66 (by decide) rfl ?_
              refine x_iload C d_M_goAlong_68 rfl ?_
              refine x_bipush (v := (nI (31))) C d_M_goAlong_70 (by decide) ?_
              refine x_iload C d_M_goAlong_72 rfl ?_
              refine x_imulN C d_M_goAlong_74  ?_
              refine x_bipush (v := (nI (31))) C d_M_goAlong_75 (by decide) ?_
              refine x_iaddN C d_M_goAlong_77  ?_
              refine x_icmp_ltN (tgt := 122) C d_M_goAlong_78 (by decide) (by omega) (by omega) (fun c78 => ?_) (fun c78 => ?_)
              · exact absurd c78 (by omega)
              · refine x_iload C d_M_goAlong_81 rfl ?_
                refine x_bipush (v := (nI (31))) C d_M_goAlong_83 (by decide) ?_
                refine x_idivN C d_M_goAlong_85 (by omega) (by omega) (by omega) ?_
                refine x_iload C d_M_goAlong_86 rfl ?_
                refine x_icmp_geN (tgt := 99) C d_M_goAlong_88 (by decide) (by omega) (by omega) (fun c88 => ?_) (fun c88 => ?_)
                · refine x_iload C d_M_goAlong_99 rfl ?_
                  refine x_istore (lv' := [(7, .int (nI ((n + 30) / 31))), (6, .int (nI 2147483647)), (5, .int (nI g)), (4, .int (nI ((n + 30) / 31))), (0, .ref h), (1, .int (nI a)), (2, .int (nI (a + 2 * J.length))), (3, .int wt)]) C d_M_goAlong_101 (by decide) rfl ?_
                  refine x_aload_n C d_M_goAlong_103 rfl rfl ?_
                  refine x_bipush (v := ((-2))) C d_M_goAlong_104 (by decide) ?_
                  refine x_iload C d_M_goAlong_106 rfl ?_
                  refine x_iload C d_M_goAlong_108 rfl ?_
                  refine x_isubN C d_M_goAlong_110 (by omega) ?_
                  refine x_imul C d_M_goAlong_111  ?_
                  refine x_top (y := (enc (0, (n + 30) / 31 - g))) ((fill_0 _).trans (enc_0 rfl).symm) ?_
                  refine x_callVV (wr := []) (rest := []) C (c_M_see (w := enc (0, (n + 30) / 31 - g)) (sn := W.length)) d_M_goAlong_112 cd_M_see lk_M_46 dd_M_see rfl ⟨Nat.le_of_ble_eq_true rfl, Nat.le_of_ble_eq_true rfl⟩ ⟨Nat.le_refl _, Nat.le_refl _⟩ 2 0 rfl rfl [0, 1, 2, 3, 4] [] rfl rfl (by decide) (by decide) (by decide) rfl (Nat.le_of_ble_eq_true rfl) ?_
                  intro u_ hp_
                  refine x_iload C d_M_goAlong_115 rfl ?_
                  refine x_istore (lv' := [(5, .int (nI ((n + 30) / 31))), (7, .int (nI ((n + 30) / 31))), (6, .int (nI 2147483647)), (4, .int (nI ((n + 30) / 31))), (0, .ref h), (1, .int (nI a)), (2, .int (nI (a + 2 * J.length))), (3, .int wt)]) C d_M_goAlong_117 (by decide) rfl ?_
                  refine x_goto (tgt := 238) C d_M_goAlong_119 (by decide) ?_
                  refine x_goto (tgt := 37) C d_M_goAlong_238 (by decide) ?_
                  refine x_lv (lv' := [(5, .int (nI ((n + 30) / 31))), (4, .int (nI ((n + 30) / 31))), (0, .ref h), (1, .int (nI a)), (2, .int (nI (a + 2 * J.length))), (3, .int wt)]) (Or.inr (List.forall_mem_cons.mpr ⟨rfl, List.forall_mem_cons.mpr ⟨rfl, List.forall_mem_cons.mpr ⟨rfl, List.forall_mem_cons.mpr ⟨rfl, List.forall_mem_cons.mpr ⟨rfl, List.forall_mem_cons.mpr ⟨rfl, fun _ h9 => absurd h9 List.not_mem_nil⟩⟩⟩⟩⟩⟩)) ?_
                  have h9 := gi_end hJ hI (by omega) hn2 hjJ (x := enc (0, (n + 30) / 31 - g)) rfl
                  have h8 := ih ((n + 30) / 31) j _ _ (by omega) h9
                  rw [List.length_append, List.length_singleton] at h8
                  exact h8
                · exact absurd c88 (by omega)
            · exact absurd c49 (by omega)
        · obtain ⟨q, hq⟩ : ∃ q, J[j]? = some q := ⟨J[j], List.getElem?_eq_getElem (by omega)⟩
          have hsq := hs j q hq
          have hq1 := ivs_at hJ.1 hq
          have hq2 := hJ.2.1 q (List.mem_of_getElem? hq)
          have hq3 := hhi q hq
          refine x_iload C d_M_goAlong_37 rfl ?_
          refine x_iload C d_M_goAlong_39 rfl ?_
          refine x_icmp_geN (tgt := 241) C d_M_goAlong_41 (by decide) (by omega) (by omega) (fun c41 => ?_) (fun c41 => ?_)
          · exact absurd c41 (by omega)
          · refine x_aload_n C d_M_goAlong_44 rfl rfl ?_
            refine x_get C d_M_goAlong_45 0 rfl rfl i_M 6 (by decide) lk_M_38 rfl rfl ?_
            refine x_iload_n C d_M_goAlong_48 rfl rfl ?_
            refine x_icmp_geN (tgt := 64) C d_M_goAlong_49 (by decide) (by omega) (by omega) (fun c49 => ?_) (fun c49 => ?_)
            · exact absurd c49 (by omega)
            · refine x_aload_n C d_M_goAlong_52 rfl rfl ?_
              refine x_get C d_M_goAlong_53 0 rfl rfl i_M 3 (by decide) lk_M_19 rfl rfl ?_
              refine x_aload_n C d_M_goAlong_56 rfl rfl ?_
              refine x_get C d_M_goAlong_57 0 rfl rfl i_M 6 (by decide) lk_M_38 rfl rfl ?_
              refine x_iald C d_M_goAlong_60 3 rfl (by omega) (by omega) ?_
              refine x_top (y := (nI (q.1))) hsq.1 ?_
              refine x_goto (tgt := 66) C d_M_goAlong_61 (by decide) ?_
              refine x_istore (lv' := [(6, .int (nI (q.1))), (5, .int (nI g)), (4, .int (nI ((n + 30) / 31))), (0, .ref h), (1, .int (nI a)), (2, .int (nI (a + 2 * J.length))), (3, .int wt)]) C d_M_goAlong_66 (by decide) rfl ?_
              refine x_iload C d_M_goAlong_68 rfl ?_
              refine x_bipush (v := (nI (31))) C d_M_goAlong_70 (by decide) ?_
              refine x_iload C d_M_goAlong_72 rfl ?_
              refine x_imulN C d_M_goAlong_74  ?_
              refine x_bipush (v := (nI (31))) C d_M_goAlong_75 (by decide) ?_
              refine x_iaddN C d_M_goAlong_77  ?_
              refine x_icmp_ltN (tgt := 122) C d_M_goAlong_78 (by decide) (by omega) (by omega) (fun c78 => ?_) (fun c78 => ?_)
              · refine x_iload C d_M_goAlong_122 rfl ?_
                refine x_bipush (v := (nI (31))) C d_M_goAlong_124 (by decide) ?_
                refine x_iload C d_M_goAlong_126 rfl ?_
                refine x_imulN C d_M_goAlong_128  ?_
                refine x_icmp_gtN (tgt := 224) C d_M_goAlong_129 (by decide) (by omega) (by omega) (fun c129 => ?_) (fun c129 => ?_)
                · refine x_aload_n C d_M_goAlong_224 rfl rfl ?_
                  refine x_aload_n C d_M_goAlong_225 rfl rfl ?_
                  refine x_iload C d_M_goAlong_226 rfl ?_
                  refine x_iload_n C d_M_goAlong_228 rfl rfl ?_
                  refine x_callVI (wr := []) (rest := [.ref h]) C (c_M_literal hJ hs hjl hlo hhi ha (by omega) hn2) d_M_goAlong_229 cd_M_literal lk_M_50 dd_M_literal rfl ⟨Nat.le_of_ble_eq_true rfl, Nat.le_of_ble_eq_true rfl⟩ ⟨Nat.le_refl _, Nat.le_refl _⟩ 2 0 rfl rfl [0, 1, 2, 3, 4] [] rfl rfl (by decide) (by decide) (by decide) rfl (Nat.le_of_ble_eq_true rfl) ?_
                  intro r_ u229 hp_
                  obtain ⟨rfl, hu1, hu2, hu3, hu4⟩ := hp_
                  refine x_callVV (wr := []) (rest := []) C (c_M_see (w := nI (gb f g)) (sn := W.length)) d_M_goAlong_232 cd_M_see lk_M_46 dd_M_see rfl ⟨Nat.le_of_ble_eq_true rfl, Nat.le_of_ble_eq_true rfl⟩ ⟨Nat.le_refl _, Nat.le_refl _⟩ 2 0 rfl rfl [0, 1, 2, 3, 4] [] rfl rfl (by decide) (by decide) (by decide) rfl (Nat.le_of_ble_eq_true rfl) ?_
                  intro u_ hp_
                  refine x_iincN (lv' := [(5, .int (nI (g + 1))), (6, .int (nI (q.1))), (4, .int (nI ((n + 30) / 31))), (0, .ref h), (1, .int (nI a)), (2, .int (nI (a + 2 * J.length))), (3, .int wt)]) C d_M_goAlong_235 rfl (by decide) rfl ?_
                  refine x_goto (tgt := 37) C d_M_goAlong_238 (by decide) ?_
                  refine x_lv (lv' := [(5, .int (nI (g + 1))), (4, .int (nI ((n + 30) / 31))), (0, .ref h), (1, .int (nI a)), (2, .int (nI (a + 2 * J.length))), (3, .int wt)]) (Or.inr (List.forall_mem_cons.mpr ⟨rfl, List.forall_mem_cons.mpr ⟨rfl, List.forall_mem_cons.mpr ⟨rfl, List.forall_mem_cons.mpr ⟨rfl, List.forall_mem_cons.mpr ⟨rfl, List.forall_mem_cons.mpr ⟨rfl, fun _ h9 => absurd h9 List.not_mem_nil⟩⟩⟩⟩⟩⟩)) ?_
                  have h9 := gi_lit hJ hI (by omega) hn2 hq c78 (Or.inl c129) hu1 hu3 hu4 (x := nI (gb f g)) rfl
                  have h8 := ih (g + 1) u229 _ _ (by omega) h9
                  rw [List.length_append, List.length_singleton] at h8
                  exact h8
                · refine x_aload_n C d_M_goAlong_132 rfl rfl ?_
                  refine x_get C d_M_goAlong_133 0 rfl rfl i_M 3 (by decide) lk_M_19 rfl rfl ?_
                  refine x_aload_n C d_M_goAlong_136 rfl rfl ?_
                  refine x_get C d_M_goAlong_137 0 rfl rfl i_M 6 (by decide) lk_M_38 rfl rfl ?_
                  refine x_iconst (v := (nI (1))) C d_M_goAlong_140 (by decide) ?_
                  refine x_iaddN C d_M_goAlong_141  ?_
                  refine x_iald C d_M_goAlong_142 3 rfl (by omega) (by omega) ?_
                  refine x_top (y := (nI (q.2))) hsq.2 ?_
                  refine x_bipush (v := (nI (31))) C d_M_goAlong_143 (by decide) ?_
                  refine x_iload C d_M_goAlong_145 rfl ?_
                  refine x_imulN C d_M_goAlong_147  ?_
                  refine x_bipush (v := (nI (31))) C d_M_goAlong_148 (by decide) ?_
                  refine x_iaddN C d_M_goAlong_150  ?_
                  refine x_icmp_ltN (tgt := 224) C d_M_goAlong_151 (by decide) (by omega) (by omega) (fun c151 => ?_) (fun c151 => ?_)
                  · refine x_aload_n C d_M_goAlong_224 rfl rfl ?_
                    refine x_aload_n C d_M_goAlong_225 rfl rfl ?_
                    refine x_iload C d_M_goAlong_226 rfl ?_
                    refine x_iload_n C d_M_goAlong_228 rfl rfl ?_
                    refine x_callVI (wr := []) (rest := [.ref h]) C (c_M_literal hJ hs hjl hlo hhi ha (by omega) hn2) d_M_goAlong_229 cd_M_literal lk_M_50 dd_M_literal rfl ⟨Nat.le_of_ble_eq_true rfl, Nat.le_of_ble_eq_true rfl⟩ ⟨Nat.le_refl _, Nat.le_refl _⟩ 2 0 rfl rfl [0, 1, 2, 3, 4] [] rfl rfl (by decide) (by decide) (by decide) rfl (Nat.le_of_ble_eq_true rfl) ?_
                    intro r_ u229 hp_
                    obtain ⟨rfl, hu1, hu2, hu3, hu4⟩ := hp_
                    refine x_callVV (wr := []) (rest := []) C (c_M_see (w := nI (gb f g)) (sn := W.length)) d_M_goAlong_232 cd_M_see lk_M_46 dd_M_see rfl ⟨Nat.le_of_ble_eq_true rfl, Nat.le_of_ble_eq_true rfl⟩ ⟨Nat.le_refl _, Nat.le_refl _⟩ 2 0 rfl rfl [0, 1, 2, 3, 4] [] rfl rfl (by decide) (by decide) (by decide) rfl (Nat.le_of_ble_eq_true rfl) ?_
                    intro u_ hp_
                    refine x_iincN (lv' := [(5, .int (nI (g + 1))), (6, .int (nI (q.1))), (4, .int (nI ((n + 30) / 31))), (0, .ref h), (1, .int (nI a)), (2, .int (nI (a + 2 * J.length))), (3, .int wt)]) C d_M_goAlong_235 rfl (by decide) rfl ?_
                    refine x_goto (tgt := 37) C d_M_goAlong_238 (by decide) ?_
                    refine x_lv (lv' := [(5, .int (nI (g + 1))), (4, .int (nI ((n + 30) / 31))), (0, .ref h), (1, .int (nI a)), (2, .int (nI (a + 2 * J.length))), (3, .int wt)]) (Or.inr (List.forall_mem_cons.mpr ⟨rfl, List.forall_mem_cons.mpr ⟨rfl, List.forall_mem_cons.mpr ⟨rfl, List.forall_mem_cons.mpr ⟨rfl, List.forall_mem_cons.mpr ⟨rfl, List.forall_mem_cons.mpr ⟨rfl, fun _ h9 => absurd h9 List.not_mem_nil⟩⟩⟩⟩⟩⟩)) ?_
                    have h9 := gi_lit hJ hI (by omega) hn2 hq c78 (Or.inr c151) hu1 hu3 hu4 (x := nI (gb f g)) rfl
                    have h8 := ih (g + 1) u229 _ _ (by omega) h9
                    rw [List.length_append, List.length_singleton] at h8
                    exact h8
                  · refine x_aload_n C d_M_goAlong_154 rfl rfl ?_
                    refine x_get C d_M_goAlong_155 0 rfl rfl i_M 3 (by decide) lk_M_19 rfl rfl ?_
                    refine x_aload_n C d_M_goAlong_158 rfl rfl ?_
                    refine x_get C d_M_goAlong_159 0 rfl rfl i_M 6 (by decide) lk_M_38 rfl rfl ?_
                    refine x_iconst (v := (nI (1))) C d_M_goAlong_162 (by decide) ?_
                    refine x_iaddN C d_M_goAlong_163  ?_
                    refine x_iald C d_M_goAlong_164 3 rfl (by omega) (by omega) ?_
                    refine x_top (y := (nI (q.2))) hsq.2 ?_
                    refine x_bipush (v := (nI (31))) C d_M_goAlong_165 (by decide) ?_
                    refine x_idivN C d_M_goAlong_167 (by omega) (by omega) (by omega) ?_
                    refine x_istore (lv' := [(7, .int (nI ((q.2) / 31))), (6, .int (nI (q.1))), (5, .int (nI g)), (4, .int (nI ((n + 30) / 31))), (0, .ref h), (1, .int (nI a)), (2, .int (nI (a + 2 * J.length))), (3, .int wt)]) C d_M_goAlong_168 (by decide) rfl ?_
                    refine x_aload_n C d_M_goAlong_170 rfl rfl ?_
                    refine x_bipush (v := ((-2))) C d_M_goAlong_171 (by decide) ?_
                    refine x_iload C d_M_goAlong_173 rfl ?_
                    refine x_iload C d_M_goAlong_175 rfl ?_
                    refine x_isubN C d_M_goAlong_177 (by omega) ?_
                    refine x_imul C d_M_goAlong_178  ?_
                    refine x_iconst (v := (nI (1))) C d_M_goAlong_179 (by decide) ?_
                    refine x_isub C d_M_goAlong_180  ?_
                    refine x_top (y := (enc (AL, q.2 / 31 - g))) ((fill_A _).trans (enc_A rfl).symm) ?_
                    refine x_callVV (wr := []) (rest := []) C (c_M_see (w := enc (AL, q.2 / 31 - g)) (sn := W.length)) d_M_goAlong_181 cd_M_see lk_M_46 dd_M_see rfl ⟨Nat.le_of_ble_eq_true rfl, Nat.le_of_ble_eq_true rfl⟩ ⟨Nat.le_refl _, Nat.le_refl _⟩ 2 0 rfl rfl [0, 1, 2, 3, 4] [] rfl rfl (by decide) (by decide) (by decide) rfl (Nat.le_of_ble_eq_true rfl) ?_
                    intro u_ hp_
                    refine x_iload C d_M_goAlong_184 rfl ?_
                    refine x_istore (lv' := [(5, .int (nI ((q.2) / 31))), (7, .int (nI ((q.2) / 31))), (6, .int (nI (q.1))), (4, .int (nI ((n + 30) / 31))), (0, .ref h), (1, .int (nI a)), (2, .int (nI (a + 2 * J.length))), (3, .int wt)]) C d_M_goAlong_186 (by decide) rfl ?_
                    refine x_aload_n C d_M_goAlong_188 rfl rfl ?_
                    refine x_dup C d_M_goAlong_189 rfl ?_
                    refine x_get C d_M_goAlong_190 0 rfl rfl i_M 6 (by decide) lk_M_38 rfl rfl ?_
                    refine x_aload_n C d_M_goAlong_193 rfl rfl ?_
                    refine x_get C d_M_goAlong_194 0 rfl rfl i_M 3 (by decide) lk_M_19 rfl rfl ?_
                    refine x_aload_n C d_M_goAlong_197 rfl rfl ?_
                    refine x_get C d_M_goAlong_198 0 rfl rfl i_M 6 (by decide) lk_M_38 rfl rfl ?_
                    refine x_iconst (v := (nI (1))) C d_M_goAlong_201 (by decide) ?_
                    refine x_iaddN C d_M_goAlong_202  ?_
                    refine x_iald C d_M_goAlong_203 3 rfl (by omega) (by omega) ?_
                    refine x_top (y := (nI (q.2))) hsq.2 ?_
                    refine x_bipush (v := (nI (31))) C d_M_goAlong_204 (by decide) ?_
                    refine x_iload C d_M_goAlong_206 rfl ?_
                    refine x_imulN C d_M_goAlong_208  ?_
                    refine x_icmp_neN (tgt := 216) C d_M_goAlong_209 (by decide) (by omega) (by omega) (fun c209 => ?_) (fun c209 => ?_)
                    · refine x_iconst (v := (nI (0))) C d_M_goAlong_216 (by decide) ?_
                      refine x_iaddN C d_M_goAlong_217  ?_
                      refine x_top (y := (nI (a + 2 * j))) (by congr 1) ?_
                      refine x_put (ty := .int) (v := .int (nI (a + 2 * j))) (ws' := [(h, .inr (2, [.ref e0, .ref v0, .int (nI rn), .ref l0, .ref b0, .int (nI ns), .int (nI (a + 2 * j)), .int (nI (W.length + 1)), .int wt, .int (if nI W.length = wt then enc (AL, q.2 / 31 - g) else fd)])), (e0, .inl (cA, 33000, .inl (E))), (v0, .inl (cA, 66000, .inl (V))), (l0, .inl (cA, 200000, .inl (L))), (b0, .inl (cA, 15, .inl (B)))]) C d_M_goAlong_218 0 rfl rfl i_M t_M t_M_ok n_M 6 (by decide) lk_M_38 rfl rfl (t_M_ok 6 (by decide)) rfl rfl (Nat.le_of_ble_eq_true rfl) rfl ?_
                      refine x_goto (tgt := 238) C d_M_goAlong_221 (by decide) ?_
                      refine x_goto (tgt := 37) C d_M_goAlong_238 (by decide) ?_
                      refine x_lv (lv' := [(5, .int (nI ((q.2) / 31))), (4, .int (nI ((n + 30) / 31))), (0, .ref h), (1, .int (nI a)), (2, .int (nI (a + 2 * J.length))), (3, .int wt)]) (Or.inr (List.forall_mem_cons.mpr ⟨rfl, List.forall_mem_cons.mpr ⟨rfl, List.forall_mem_cons.mpr ⟨rfl, List.forall_mem_cons.mpr ⟨rfl, List.forall_mem_cons.mpr ⟨rfl, List.forall_mem_cons.mpr ⟨rfl, fun _ h9 => absurd h9 List.not_mem_nil⟩⟩⟩⟩⟩⟩)) ?_
                      have h9 := gi_full (j' := j) hJ hI (by omega) hn2 hq c129 c151 (Or.inr ⟨c209, rfl⟩) (x := enc (AL, q.2 / 31 - g)) rfl
                      have h8 := ih (q.2 / 31) j _ _ (by omega) h9
                      rw [List.length_append, List.length_singleton] at h8
                      exact h8
                    · refine x_iconst (v := (nI (2))) C d_M_goAlong_212 (by decide) ?_
                      refine x_goto (tgt := 217) C d_M_goAlong_213 (by decide) ?_
                      refine x_iaddN C d_M_goAlong_217  ?_
                      refine x_top (y := (nI (a + 2 * (j + 1)))) (by congr 1) ?_
                      refine x_put (ty := .int) (v := .int (nI (a + 2 * (j + 1)))) (ws' := [(h, .inr (2, [.ref e0, .ref v0, .int (nI rn), .ref l0, .ref b0, .int (nI ns), .int (nI (a + 2 * (j + 1))), .int (nI (W.length + 1)), .int wt, .int (if nI W.length = wt then enc (AL, q.2 / 31 - g) else fd)])), (e0, .inl (cA, 33000, .inl (E))), (v0, .inl (cA, 66000, .inl (V))), (l0, .inl (cA, 200000, .inl (L))), (b0, .inl (cA, 15, .inl (B)))]) C d_M_goAlong_218 0 rfl rfl i_M t_M t_M_ok n_M 6 (by decide) lk_M_38 rfl rfl (t_M_ok 6 (by decide)) rfl rfl (Nat.le_of_ble_eq_true rfl) rfl ?_
                      refine x_goto (tgt := 238) C d_M_goAlong_221 (by decide) ?_
                      refine x_goto (tgt := 37) C d_M_goAlong_238 (by decide) ?_
                      refine x_lv (lv' := [(5, .int (nI ((q.2) / 31))), (4, .int (nI ((n + 30) / 31))), (0, .ref h), (1, .int (nI a)), (2, .int (nI (a + 2 * J.length))), (3, .int wt)]) (Or.inr (List.forall_mem_cons.mpr ⟨rfl, List.forall_mem_cons.mpr ⟨rfl, List.forall_mem_cons.mpr ⟨rfl, List.forall_mem_cons.mpr ⟨rfl, List.forall_mem_cons.mpr ⟨rfl, List.forall_mem_cons.mpr ⟨rfl, fun _ h9 => absurd h9 List.not_mem_nil⟩⟩⟩⟩⟩⟩)) ?_
                      have h9 := gi_full (j' := j + 1) hJ hI (by omega) hn2 hq c129 c151 (Or.inl ⟨c209, rfl⟩) (x := enc (AL, q.2 / 31 - g)) rfl
                      have h8 := ih (q.2 / 31) (j + 1) _ _ (by omega) h9
                      rw [List.length_append, List.length_singleton] at h8
                      exact h8
              · refine x_iload C d_M_goAlong_81 rfl ?_
                refine x_bipush (v := (nI (31))) C d_M_goAlong_83 (by decide) ?_
                refine x_idivN C d_M_goAlong_85 (by omega) (by omega) (by omega) ?_
                refine x_iload C d_M_goAlong_86 rfl ?_
                refine x_icmp_geN (tgt := 99) C d_M_goAlong_88 (by decide) (by omega) (by omega) (fun c88 => ?_) (fun c88 => ?_)
                · exact absurd c88 (by omega)
                · refine x_iload C d_M_goAlong_91 rfl ?_
                  refine x_bipush (v := (nI (31))) C d_M_goAlong_93 (by decide) ?_
                  refine x_idivN C d_M_goAlong_95 (by omega) (by omega) (by omega) ?_
                  refine x_goto (tgt := 101) C d_M_goAlong_96 (by decide) ?_
                  refine x_istore (lv' := [(7, .int (nI ((q.1) / 31))), (6, .int (nI (q.1))), (5, .int (nI g)), (4, .int (nI ((n + 30) / 31))), (0, .ref h), (1, .int (nI a)), (2, .int (nI (a + 2 * J.length))), (3, .int wt)]) C d_M_goAlong_101 (by decide) rfl ?_
                  refine x_aload_n C d_M_goAlong_103 rfl rfl ?_
                  refine x_bipush (v := ((-2))) C d_M_goAlong_104 (by decide) ?_
                  refine x_iload C d_M_goAlong_106 rfl ?_
                  refine x_iload C d_M_goAlong_108 rfl ?_
                  refine x_isubN C d_M_goAlong_110 (by omega) ?_
                  refine x_imul C d_M_goAlong_111  ?_
                  refine x_top (y := (enc (0, q.1 / 31 - g))) ((fill_0 _).trans (enc_0 rfl).symm) ?_
                  refine x_callVV (wr := []) (rest := []) C (c_M_see (w := enc (0, q.1 / 31 - g)) (sn := W.length)) d_M_goAlong_112 cd_M_see lk_M_46 dd_M_see rfl ⟨Nat.le_of_ble_eq_true rfl, Nat.le_of_ble_eq_true rfl⟩ ⟨Nat.le_refl _, Nat.le_refl _⟩ 2 0 rfl rfl [0, 1, 2, 3, 4] [] rfl rfl (by decide) (by decide) (by decide) rfl (Nat.le_of_ble_eq_true rfl) ?_
                  intro u_ hp_
                  refine x_iload C d_M_goAlong_115 rfl ?_
                  refine x_istore (lv' := [(5, .int (nI ((q.1) / 31))), (7, .int (nI ((q.1) / 31))), (6, .int (nI (q.1))), (4, .int (nI ((n + 30) / 31))), (0, .ref h), (1, .int (nI a)), (2, .int (nI (a + 2 * J.length))), (3, .int wt)]) C d_M_goAlong_117 (by decide) rfl ?_
                  refine x_goto (tgt := 238) C d_M_goAlong_119 (by decide) ?_
                  refine x_goto (tgt := 37) C d_M_goAlong_238 (by decide) ?_
                  refine x_lv (lv' := [(5, .int (nI ((q.1) / 31))), (4, .int (nI ((n + 30) / 31))), (0, .ref h), (1, .int (nI a)), (2, .int (nI (a + 2 * J.length))), (3, .int wt)]) (Or.inr (List.forall_mem_cons.mpr ⟨rfl, List.forall_mem_cons.mpr ⟨rfl, List.forall_mem_cons.mpr ⟨rfl, List.forall_mem_cons.mpr ⟨rfl, List.forall_mem_cons.mpr ⟨rfl, List.forall_mem_cons.mpr ⟨rfl, fun _ h9 => absurd h9 List.not_mem_nil⟩⟩⟩⟩⟩⟩)) ?_
                  have h9 := gi_empty hJ hI (by omega) hn2 hq c78 (x := enc (0, q.1 / 31 - g)) rfl
                  have h8 := ih (q.1 / 31) j _ _ (by omega) h9
                  rw [List.length_append, List.length_singleton] at h8
                  exact h8
  refine x_aload_n C d_M_goAlong_0 rfl rfl ?_
  refine x_callVI (wr := []) (rest := []) C (c_M_rows hE) d_M_goAlong_1 cd_M_rows lk_M_41 dd_M_rows rfl ⟨Nat.le_of_ble_eq_true rfl, Nat.le_of_ble_eq_true rfl⟩ ⟨Nat.le_refl _, Nat.le_refl _⟩ 2 0 rfl rfl [0, 1, 2, 3, 4] [] rfl rfl (by decide) (by decide) (by decide) rfl (Nat.le_of_ble_eq_true rfl) ?_
  intro r_ u_ hp_
  obtain rfl := hp_
  refine x_top (y := (nI (n))) (by rw [hn]) ?_
  refine x_bipush (v := (nI (31))) C d_M_goAlong_4 (by decide) ?_
  refine x_iaddN C d_M_goAlong_6  ?_
  refine x_iconst (v := (nI (1))) C d_M_goAlong_7 (by decide) ?_
  refine x_isubN C d_M_goAlong_8 (by omega) ?_
  refine x_bipush (v := (nI (31))) C d_M_goAlong_9 (by decide) ?_
  refine x_idivN C d_M_goAlong_11 (by omega) (by omega) (by omega) ?_
  refine x_top (y := (nI ((n + 30) / 31))) (by congr 1) ?_
  refine x_istore (lv' := [(4, .int (nI ((n + 30) / 31))), (0, .ref h), (1, .int (nI a)), (2, .int (nI (a + 2 * J.length))), (3, .int wt)]) C d_M_goAlong_12 (by decide) rfl ?_
  refine x_aload_n C d_M_goAlong_14 rfl rfl ?_
  refine x_iload_n C d_M_goAlong_15 rfl rfl ?_
  refine x_put (ty := .int) (v := .int (nI a)) (ws' := [(h, .inr (2, [.ref e0, .ref v0, .int (nI rn), .ref l0, .ref b0, .int (nI ns), .int (nI a), .int sn, .int wa, .int wf])), (e0, .inl (cA, 33000, .inl (E))), (v0, .inl (cA, 66000, .inl (V))), (l0, .inl (cA, 200000, .inl (L))), (b0, .inl (cA, 15, .inl (B)))]) C d_M_goAlong_16 0 rfl rfl i_M t_M t_M_ok n_M 6 (by decide) lk_M_38 rfl rfl (t_M_ok 6 (by decide)) rfl rfl (Nat.le_of_ble_eq_true rfl) rfl ?_
  refine x_aload_n C d_M_goAlong_19 rfl rfl ?_
  refine x_iconst (v := (nI (0))) C d_M_goAlong_20 (by decide) ?_
  refine x_put (ty := .int) (v := .int (nI 0)) (ws' := [(h, .inr (2, [.ref e0, .ref v0, .int (nI rn), .ref l0, .ref b0, .int (nI ns), .int (nI a), .int (nI 0), .int wa, .int wf])), (e0, .inl (cA, 33000, .inl (E))), (v0, .inl (cA, 66000, .inl (V))), (l0, .inl (cA, 200000, .inl (L))), (b0, .inl (cA, 15, .inl (B)))]) C d_M_goAlong_21 0 rfl rfl i_M t_M t_M_ok n_M 7 (by decide) lk_M_29 rfl rfl (t_M_ok 7 (by decide)) rfl rfl (Nat.le_of_ble_eq_true rfl) rfl ?_
  refine x_aload_n C d_M_goAlong_24 rfl rfl ?_
  refine x_iload_n C d_M_goAlong_25 rfl rfl ?_
  refine x_put (ty := .int) (v := .int wt) (ws' := [(h, .inr (2, [.ref e0, .ref v0, .int (nI rn), .ref l0, .ref b0, .int (nI ns), .int (nI a), .int (nI 0), .int wt, .int wf])), (e0, .inl (cA, 33000, .inl (E))), (v0, .inl (cA, 66000, .inl (V))), (l0, .inl (cA, 200000, .inl (L))), (b0, .inl (cA, 15, .inl (B)))]) C d_M_goAlong_26 0 rfl rfl i_M t_M t_M_ok n_M 8 (by decide) lk_M_32 rfl rfl (t_M_ok 8 (by decide)) rfl rfl (Nat.le_of_ble_eq_true rfl) rfl ?_
  refine x_aload_n C d_M_goAlong_29 rfl rfl ?_
  refine x_iconst (v := (nI (0))) C d_M_goAlong_30 (by decide) ?_
  refine x_put (ty := .int) (v := .int (nI 0)) (ws' := [(h, .inr (2, [.ref e0, .ref v0, .int (nI rn), .ref l0, .ref b0, .int (nI ns), .int (nI a), .int (nI 0), .int wt, .int (nI 0)])), (e0, .inl (cA, 33000, .inl (E))), (v0, .inl (cA, 66000, .inl (V))), (l0, .inl (cA, 200000, .inl (L))), (b0, .inl (cA, 15, .inl (B)))]) C d_M_goAlong_31 0 rfl rfl i_M t_M t_M_ok n_M 9 (by decide) lk_M_35 rfl rfl (t_M_ok 9 (by decide)) rfl rfl (Nat.le_of_ble_eq_true rfl) rfl ?_
  refine x_iconst (v := (nI (0))) C d_M_goAlong_34 (by decide) ?_
  refine x_istore (lv' := [(5, .int (nI 0)), (4, .int (nI ((n + 30) / 31))), (0, .ref h), (1, .int (nI a)), (2, .int (nI (a + 2 * J.length))), (3, .int wt)]) C d_M_goAlong_35 (by decide) rfl ?_
  refine x_lv (lv' := [(5, .int (nI 0)), (4, .int (nI ((n + 30) / 31))), (0, .ref h), (1, .int (nI a)), (2, .int (nI (a + 2 * J.length))), (3, .int wt)]) (Or.inr (List.forall_mem_cons.mpr ⟨rfl, List.forall_mem_cons.mpr ⟨rfl, List.forall_mem_cons.mpr ⟨rfl, List.forall_mem_cons.mpr ⟨rfl, List.forall_mem_cons.mpr ⟨rfl, List.forall_mem_cons.mpr ⟨rfl, fun _ h9 => absurd h9 List.not_mem_nil⟩⟩⟩⟩⟩⟩)) ?_
  exact LP ((n + 30) / 31) 0 0 [] (nI 0) (by omega) (gi_start hJ)
end
section
/-! the sets of values, out of the runs -/
def fvk (en : Nat → Nat) (vl : Nat → Nat → Nat) (c v : Nat) : Nat → Nat → Bool
  | 0, _ => false
  | k + 1, r => fvk en vl c v k r || ((decide (bnd en k ≤ r) && decide (r < en k)) && decide (vl k c = v))
/-- intervals between bounds of runs -/
def Ik (en : Nat → Nat) (k : Nat) (f : Nat → Bool) (J : List (Nat × Nat)) : Prop := ivs 0 J ∧ (∀ p ∈ J, ∃ i j, i < j ∧ j ≤ k ∧ p.1 = bnd en i ∧ p.2 = bnd en j) ∧ J.length ≤ k ∧ ∀ r, f r = mem J r
theorem bnd_lt {E V : Nat → Int32} {rn : Nat} {en : Nat → Nat} {vl : Nat → Nat → Nat} (h : Rn E V rn en vl) {i : Nat} : ∀ {j : Nat}, i < j → j ≤ rn → bnd en i < bnd en j
  | 0, h1, _ => absurd h1 (Nat.not_lt_zero i)
  | j + 1, h1, h2 => by
    have h3 := (h.2.1 j (by omega)).2.1
    show bnd en i < en j
    by_cases h4 : i = j
    · subst h4; exact h3
    · have := bnd_lt h (i := i) (j := j) (by omega) (by omega)
      omega
theorem bnd_mono {E V : Nat → Int32} {rn : Nat} {en : Nat → Nat} {vl : Nat → Nat → Nat} (h : Rn E V rn en vl) {i j : Nat} (h1 : i ≤ j) (h2 : j ≤ rn) : bnd en i ≤ bnd en j := by
  by_cases h3 : i = j
  · subst h3; exact Nat.le_refl _
  · exact Nat.le_of_lt (bnd_lt h (by omega) h2)
theorem Ik.iv {E V : Nat → Int32} {rn : Nat} {en : Nat → Nat} {vl : Nat → Nat → Nat} (hE : Rn E V rn en vl) {k : Nat} {f : Nat → Bool} {J : List (Nat × Nat)} (hk : k ≤ rn) (h : Ik en k f J) : Iv (bnd en k) f J := ⟨h.1, fun p hp => by
  obtain ⟨i, j, h1, h2, h3, h4⟩ := h.2.1 p hp
  rw [h4]
  exact bnd_mono hE h2 hk, h.2.2.2⟩
theorem lay_skip {en : Nat → Nat} {vl : Nat → Nat → Nat} {c v k : Nat} {J : List (Nat × Nat)} (h : Ik en k (fvk en vl c v k) J) (hv : vl k c ≠ v) : Ik en (k + 1) (fvk en vl c v (k + 1)) J := ⟨h.1, fun p hp => by
  obtain ⟨i, j, h1, h2, h3⟩ := h.2.1 p hp
  exact ⟨i, j, h1, by omega, h3⟩, Nat.le_succ_of_le h.2.2.1, fun r => by
  rw [← h.2.2.2 r]
  simp [fvk, hv]⟩
theorem lay_new {en : Nat → Nat} {vl : Nat → Nat → Nat} {c v k : Nat} {J : List (Nat × Nat)} (h : Ik en k (fvk en vl c v k) J) (hv : vl k c = v) (hk : bnd en k < en k) (hl : ∀ p, J.getLast? = some p → p.2 < bnd en k) : Ik en (k + 1) (fvk en vl c v (k + 1)) (J ++ [(bnd en k, en k)]) := by
  refine ⟨ivs_snoc.mpr ⟨h.1, hk, Nat.zero_le _, hl⟩, fun p hp => ?_, ?_, fun r => ?_⟩
  · rcases List.mem_append.mp hp with hp | hp
    · obtain ⟨i, j, h1, h2, h3⟩ := h.2.1 p hp
      exact ⟨i, j, h1, by omega, h3⟩
    · rw [List.mem_singleton.mp hp]
      exact ⟨k, k + 1, by omega, Nat.le_refl _, rfl, rfl⟩
  · rw [List.length_append, List.length_singleton]
    have := h.2.2.1
    omega
  · rw [mem_app, mem_one, ← h.2.2.2 r]
    simp [fvk, hv]
theorem lay_ext {en : Nat → Nat} {vl : Nat → Nat → Nat} {c v k : Nat} {J : List (Nat × Nat)} {p : Nat × Nat} (h : Ik en k (fvk en vl c v k) (J ++ [p])) (hv : vl k c = v) (hk : bnd en k < en k) (hl : p.2 = bnd en k) : Ik en (k + 1) (fvk en vl c v (k + 1)) (J ++ [(p.1, en k)]) := by
  have h0 := ivs_snoc.mp h.1
  refine ⟨ivs_snoc.mpr ⟨h0.1, by dsimp only; omega, h0.2.2.1, h0.2.2.2⟩, fun q hq => ?_, ?_, fun r => ?_⟩
  · rcases List.mem_append.mp hq with hq | hq
    · obtain ⟨i, j, h1, h2, h3⟩ := h.2.1 q (List.mem_append_left _ hq)
      exact ⟨i, j, h1, by omega, h3⟩
    · rw [List.mem_singleton.mp hq]
      obtain ⟨i, j, h1, h2, h3, h4⟩ := h.2.1 p (by simp)
      exact ⟨i, k + 1, by omega, Nat.le_refl _, h3, rfl⟩
  · have := h.2.2.1
    rw [List.length_append, List.length_singleton] at this ⊢
    omega
  · have h1 := h.2.2.2 r
    rw [mem_app, mem_one] at h1 ⊢
    show (fvk en vl c v k r || _) = _
    rw [h1]
    have h5 : (decide (p.1 ≤ r) && decide (r < en k)) = ((decide (p.1 ≤ r) && decide (r < p.2)) || (decide (bnd en k ≤ r) && decide (r < en k))) := by
      rw [← Bool.decide_and, ← Bool.decide_and, ← Bool.decide_and, ← Bool.decide_or]
      congr 1
      have h6 := h0.2.1
      exact propext ⟨fun q => by omega, fun q => by omega⟩
    dsimp only
    rw [h5]
    simp [hv, Bool.or_assoc]
theorem seg_new {L : Nat → Int32} {a at_ x y : Nat} {J : List (Nat × Nat)} (h : seg L a J) (hat : at_ = a + 2 * J.length) : seg (upd (upd L at_ (nI x)) (at_ + 1) (nI y)) a (J ++ [(x, y)]) := by
  intro i p hp
  by_cases hi : i < J.length
  · rw [List.getElem?_append_left hi] at hp
    have := h i p hp
    rw [pk_un (by omega), pk_un (by omega), pk_un (by omega), pk_un (by omega)]
    exact this
  · rw [List.getElem?_append_right (by omega)] at hp
    have h4 : i - J.length < 1 := (List.getElem?_eq_some_iff.mp hp).1
    have h5 : i = J.length := by omega
    subst h5
    rw [Nat.sub_self] at hp
    cases hp
    rw [← hat, pk_un (by omega), pk_us, pk_us]
    exact ⟨rfl, rfl⟩
theorem seg_ext {L : Nat → Int32} {a at_ y : Nat} {J : List (Nat × Nat)} {p : Nat × Nat} (h : seg L a (J ++ [p])) (hat : at_ = a + 2 * (J ++ [p]).length) : seg (upd L (at_ - 1) (nI y)) a (J ++ [(p.1, y)]) := by
  rw [List.length_append, List.length_singleton] at hat
  intro i q hq
  by_cases hi : i < J.length
  · rw [List.getElem?_append_left hi] at hq
    have := h i q (by rw [List.getElem?_append_left hi]; exact hq)
    rw [pk_un (by omega), pk_un (by omega)]
    exact this
  · rw [List.getElem?_append_right (by omega)] at hq
    have h4 : i - J.length < 1 := (List.getElem?_eq_some_iff.mp hq).1
    have h5 : i = J.length := by omega
    subst h5
    rw [Nat.sub_self] at hq
    cases hq
    have := h J.length p (by simp)
    rw [pk_un (by omega), show a + 2 * J.length + 1 = at_ - 1 by omega, pk_us]
    exact ⟨this.1, rfl⟩
theorem seg_last {L : Nat → Int32} {a at_ : Nat} {J : List (Nat × Nat)} {p : Nat × Nat} (h : seg L a (J ++ [p])) (hat : at_ = a + 2 * (J ++ [p]).length) : L (at_ - 1) = nI p.2 := by
  rw [List.length_append, List.length_singleton] at hat
  have := h J.length p (by simp)
  rw [show at_ - 1 = a + 2 * J.length + 1 by omega]
  exact this.2
theorem seg_nil (L : Nat → Int32) (a : Nat) : seg L a [] := fun i p h => by simp at h
set_option maxHeartbeats 4000000 in
theorem c_M_layValue {l : Launch} {D : va_G} {cA : ClassId} {h e0 v0 l0 b0 rn ns : Nat} {E V L B : Nat → Int32} {pl sn wa wf : Int32} {a c v : Nat} {en : Nat → Nat} {vl : Nat → Nat → Nat} (hE : Rn E V rn en vl) (hc : c < 2) (hv : v < 16) (ha : a + 2 * rn + 2 ≤ 200000)  : CtI l D cA y_M_layValue b_M_layValue 7 (some .int) ({ frames := 0, cells := 0, slots := 0, locals := 0 } : Room) [.ref h, .int (nI c), .int (nI v), .int (nI a)] (mW cA h e0 v0 l0 b0 E V L B rn ns pl sn wa wf) (fun r (u : (Nat → Int32) × List (Nat × Nat)) => r = nI (a + 2 * u.2.length) ∧ Ik en rn (fvk en vl c v rn) u.2 ∧ seg u.1 a u.2 ∧ ∀ x, x < a → u.1 x = L x) (fun u => (mW cA h e0 v0 l0 b0 E V (u.1) B rn ns pl sn wa wf)) := by
  refine CtI.start (lv0 := [(0, .ref h), (1, .int (nI c)), (2, .int (nI v)), (3, .int (nI a))]) (by decide) rfl (Nat.le_of_ble_eq_true rfl) ?_
  intro p_ e_ s_ m_ args_ below_ meth_ c_ A_ C hr hin
  have hr0 := hE.1
  have LP : ∀ (d k at_ : Nat) (J : List (Nat × Nat)) (La : Nat → Int32), k + d = rn → at_ = a + 2 * J.length → Ik en k (fvk en vl c v k) J → seg La a J → (∀ x, x < a → La x = L x) → X p_ l e_ ({ frames := 0, cells := 0, slots := 0, locals := 0 } : Room) s_ m_ args_ below_ meth_ c_ D A_ 7 0 0 (MQ below_ (va_Qi (fun r (u : (Nat → Int32) × List (Nat × Nat)) => r = nI (a + 2 * u.2.length) ∧ Ik en rn (fvk en vl c v rn) u.2 ∧ seg u.1 a u.2 ∧ ∀ x, x < a → u.1 x = L x) (Bw D A_ (fun u => (mW cA h e0 v0 l0 b0 E V (u.1) B rn ns pl sn wa wf))) A_) args_ s_ 0 0 A_) [(h, .inr (2, [.ref e0, .ref v0, .int (nI rn), .ref l0, .ref b0, .int (nI ns), .int pl, .int sn, .int wa, .int wf])), (e0, .inl (cA, 33000, .inl (E))), (v0, .inl (cA, 66000, .inl (V))), (l0, .inl (cA, 200000, .inl (La))), (b0, .inl (cA, 15, .inl (B)))] 9 [(6, .int (nI k)), (5, .int (nI (bnd en k))), (4, .int (nI at_)), (0, .ref h), (1, .int (nI c)), (2, .int (nI v)), (3, .int (nI a))] [] := by
    intro d
    induction d with
    | zero =>
      intro k at_ J La hk hat hI hsg hlo
      have hk2 : k = rn := by omega
      subst hk2
      have hJl := hI.2.2.1
      refine x_iload C d_M_layValue_9 rfl ?_
      refine x_aload_n C d_M_layValue_11 rfl rfl ?_
      refine x_get C d_M_layValue_12 0 rfl rfl i_M 2 (by decide) lk_M_25 rfl rfl ?_
      refine x_icmp_geN (tgt := 115) C d_M_layValue_15 (by decide) (by omega) (by omega) (fun c15 => ?_) (fun c15 => ?_)
      · refine x_iload C d_M_layValue_115 rfl ?_
        exact x_iret C hr d_M_layValue_117 (La, J) rfl (⟨by rw [hat], hI, hsg, hlo⟩)
      · exact absurd c15 (by omega)
    | succ d ih =>
      intro k at_ J La hk hat hI hsg hlo
      have hJl := hI.2.2.1
      have hEk := hE.2.1 k (by omega)
      have hVk := hE.2.2 k c (by omega) hc
      have hbk := bnd_le hE k (by omega)
      rcases List.eq_nil_or_concat J with rfl | ⟨J0, p, rfl⟩
      · have hat2 : at_ = a := by simpa using hat
        refine x_iload C d_M_layValue_9 rfl ?_
        refine x_aload_n C d_M_layValue_11 rfl rfl ?_
        refine x_get C d_M_layValue_12 0 rfl rfl i_M 2 (by decide) lk_M_25 rfl rfl ?_
        refine x_icmp_geN (tgt := 115) C d_M_layValue_15 (by decide) (by omega) (by omega) (fun c15 => ?_) (fun c15 => ?_)
        · exact absurd c15 (by omega)
        · refine x_aload_n C d_M_layValue_18 rfl rfl ?_
          refine x_get C d_M_layValue_19 0 rfl rfl i_M 1 (by decide) lk_M_15 rfl rfl ?_
          refine x_iconst (v := (nI (2))) C d_M_layValue_22 (by decide) ?_
          refine x_iload C d_M_layValue_23 rfl ?_
          refine x_imulN C d_M_layValue_25  ?_
          refine x_iload_n C d_M_layValue_26 rfl rfl ?_
          refine x_iaddN C d_M_layValue_27  ?_
          refine x_iald C d_M_layValue_28 2 rfl (by omega) (by omega) ?_
          refine x_top (y := (nI (vl k c))) hVk.1 ?_
          refine x_iload_n C d_M_layValue_29 rfl rfl ?_
          refine x_icmp_neN (tgt := 100) C d_M_layValue_30 (by decide) (by omega) (by omega) (fun c30 => ?_) (fun c30 => ?_)
          · refine x_aload_n C d_M_layValue_100 rfl rfl ?_
            refine x_get C d_M_layValue_101 0 rfl rfl i_M 0 (by decide) lk_M_8 rfl rfl ?_
            refine x_iload C d_M_layValue_104 rfl ?_
            refine x_iald C d_M_layValue_106 1 rfl (by omega) (by omega) ?_
            refine x_top (y := (nI (en k))) hEk.1 ?_
            refine x_istore (lv' := [(5, .int (nI (en k))), (6, .int (nI k)), (4, .int (nI at_)), (0, .ref h), (1, .int (nI c)), (2, .int (nI v)), (3, .int (nI a))]) C d_M_layValue_107 (by decide) rfl ?_
            refine x_iincN (lv' := [(6, .int (nI (k + 1))), (5, .int (nI (en k))), (4, .int (nI at_)), (0, .ref h), (1, .int (nI c)), (2, .int (nI v)), (3, .int (nI a))]) C d_M_layValue_109 rfl (by decide) rfl ?_
            refine x_goto (tgt := 9) C d_M_layValue_112 (by decide) ?_
            refine x_lv (lv' := [(6, .int (nI (k + 1))), (5, .int (nI (en k))), (4, .int (nI at_)), (0, .ref h), (1, .int (nI c)), (2, .int (nI v)), (3, .int (nI a))]) (Or.inr (List.forall_mem_cons.mpr ⟨rfl, List.forall_mem_cons.mpr ⟨rfl, List.forall_mem_cons.mpr ⟨rfl, List.forall_mem_cons.mpr ⟨rfl, List.forall_mem_cons.mpr ⟨rfl, List.forall_mem_cons.mpr ⟨rfl, List.forall_mem_cons.mpr ⟨rfl, fun _ h9 => absurd h9 List.not_mem_nil⟩⟩⟩⟩⟩⟩⟩)) ?_
            exact ih (k + 1) (at_) ([]) (La) (by omega) hat (lay_skip hI c30) hsg hlo
          · refine x_iload C d_M_layValue_33 rfl ?_
            refine x_iload_n C d_M_layValue_35 rfl rfl ?_
            refine x_icmp_leN (tgt := 72) C d_M_layValue_36 (by decide) (by omega) (by omega) (fun c36 => ?_) (fun c36 => ?_)
            · refine x_aload_n C d_M_layValue_72 rfl rfl ?_
              refine x_get C d_M_layValue_73 0 rfl rfl i_M 3 (by decide) lk_M_19 rfl rfl ?_
              refine x_iload C d_M_layValue_76 rfl ?_
              refine x_iload C d_M_layValue_78 rfl ?_
              refine x_iast (ws' := [(h, .inr (2, [.ref e0, .ref v0, .int (nI rn), .ref l0, .ref b0, .int (nI ns), .int pl, .int sn, .int wa, .int wf])), (e0, .inl (cA, 33000, .inl (E))), (v0, .inl (cA, 66000, .inl (V))), (l0, .inl (cA, 200000, .inl (upd La (at_) (nI (bnd en k))))), (b0, .inl (cA, 15, .inl (B)))]) C d_M_layValue_80 3 rfl (by omega) (by omega) rfl ?_
              refine x_aload_n C d_M_layValue_81 rfl rfl ?_
              refine x_get C d_M_layValue_82 0 rfl rfl i_M 3 (by decide) lk_M_19 rfl rfl ?_
              refine x_iload C d_M_layValue_85 rfl ?_
              refine x_iconst (v := (nI (1))) C d_M_layValue_87 (by decide) ?_
              refine x_iaddN C d_M_layValue_88  ?_
              refine x_aload_n C d_M_layValue_89 rfl rfl ?_
              refine x_get C d_M_layValue_90 0 rfl rfl i_M 0 (by decide) lk_M_8 rfl rfl ?_
              refine x_iload C d_M_layValue_93 rfl ?_
              refine x_iald C d_M_layValue_95 1 rfl (by omega) (by omega) ?_
              refine x_top (y := (nI (en k))) hEk.1 ?_
              refine x_iast (ws' := [(h, .inr (2, [.ref e0, .ref v0, .int (nI rn), .ref l0, .ref b0, .int (nI ns), .int pl, .int sn, .int wa, .int wf])), (e0, .inl (cA, 33000, .inl (E))), (v0, .inl (cA, 66000, .inl (V))), (l0, .inl (cA, 200000, .inl (upd (upd La (at_) (nI (bnd en k))) (at_ + 1) (nI (en k))))), (b0, .inl (cA, 15, .inl (B)))]) C d_M_layValue_96 3 rfl (by omega) (by omega) rfl ?_
              refine x_iinc (v := (nI (at_ + 2))) (lv' := [(4, .int (nI (at_ + 2))), (6, .int (nI k)), (5, .int (nI (bnd en k))), (0, .ref h), (1, .int (nI c)), (2, .int (nI v)), (3, .int (nI a))]) C d_M_layValue_97 rfl (nI_add _ 2) (by decide) rfl ?_
              refine x_aload_n C d_M_layValue_100 rfl rfl ?_
              refine x_get C d_M_layValue_101 0 rfl rfl i_M 0 (by decide) lk_M_8 rfl rfl ?_
              refine x_iload C d_M_layValue_104 rfl ?_
              refine x_iald C d_M_layValue_106 1 rfl (by omega) (by omega) ?_
              refine x_top (y := (nI (en k))) hEk.1 ?_
              refine x_istore (lv' := [(5, .int (nI (en k))), (4, .int (nI (at_ + 2))), (6, .int (nI k)), (0, .ref h), (1, .int (nI c)), (2, .int (nI v)), (3, .int (nI a))]) C d_M_layValue_107 (by decide) rfl ?_
              refine x_iincN (lv' := [(6, .int (nI (k + 1))), (5, .int (nI (en k))), (4, .int (nI (at_ + 2))), (0, .ref h), (1, .int (nI c)), (2, .int (nI v)), (3, .int (nI a))]) C d_M_layValue_109 rfl (by decide) rfl ?_
              refine x_goto (tgt := 9) C d_M_layValue_112 (by decide) ?_
              refine x_lv (lv' := [(6, .int (nI (k + 1))), (5, .int (nI (en k))), (4, .int (nI (at_ + 2))), (0, .ref h), (1, .int (nI c)), (2, .int (nI v)), (3, .int (nI a))]) (Or.inr (List.forall_mem_cons.mpr ⟨rfl, List.forall_mem_cons.mpr ⟨rfl, List.forall_mem_cons.mpr ⟨rfl, List.forall_mem_cons.mpr ⟨rfl, List.forall_mem_cons.mpr ⟨rfl, List.forall_mem_cons.mpr ⟨rfl, List.forall_mem_cons.mpr ⟨rfl, fun _ h9 => absurd h9 List.not_mem_nil⟩⟩⟩⟩⟩⟩⟩)) ?_
              exact ih (k + 1) (at_ + 2) ([(bnd en k, en k)]) (upd (upd La at_ (nI (bnd en k))) (at_ + 1) (nI (en k))) (by omega) (by simp; omega) (lay_new hI c30 hEk.2.1 (fun p h9 => by simp at h9)) (seg_new hsg hat) (fun x hx => by rw [pk_un (by omega), pk_un (by omega)]; exact hlo x hx)
            · exact absurd c36 (by omega)
      · rw [List.concat_eq_append] at *
        have hat2 : at_ = a + 2 * J0.length + 2 := by rw [hat, List.length_append, List.length_singleton]; omega
        rw [List.length_append, List.length_singleton] at hJl
        have hp1 : p.2 ≤ bnd en k := by
          obtain ⟨i, j, h1, h2, h3, h4⟩ := hI.2.1 p (by simp)
          rw [h4]
          exact bnd_mono hE h2 (by omega)
        refine x_iload C d_M_layValue_9 rfl ?_
        refine x_aload_n C d_M_layValue_11 rfl rfl ?_
        refine x_get C d_M_layValue_12 0 rfl rfl i_M 2 (by decide) lk_M_25 rfl rfl ?_
        refine x_icmp_geN (tgt := 115) C d_M_layValue_15 (by decide) (by omega) (by omega) (fun c15 => ?_) (fun c15 => ?_)
        · exact absurd c15 (by omega)
        · refine x_aload_n C d_M_layValue_18 rfl rfl ?_
          refine x_get C d_M_layValue_19 0 rfl rfl i_M 1 (by decide) lk_M_15 rfl rfl ?_
          refine x_iconst (v := (nI (2))) C d_M_layValue_22 (by decide) ?_
          refine x_iload C d_M_layValue_23 rfl ?_
          refine x_imulN C d_M_layValue_25  ?_
          refine x_iload_n C d_M_layValue_26 rfl rfl ?_
          refine x_iaddN C d_M_layValue_27  ?_
          refine x_iald C d_M_layValue_28 2 rfl (by omega) (by omega) ?_
          refine x_top (y := (nI (vl k c))) hVk.1 ?_
          refine x_iload_n C d_M_layValue_29 rfl rfl ?_
          refine x_icmp_neN (tgt := 100) C d_M_layValue_30 (by decide) (by omega) (by omega) (fun c30 => ?_) (fun c30 => ?_)
          · refine x_aload_n C d_M_layValue_100 rfl rfl ?_
            refine x_get C d_M_layValue_101 0 rfl rfl i_M 0 (by decide) lk_M_8 rfl rfl ?_
            refine x_iload C d_M_layValue_104 rfl ?_
            refine x_iald C d_M_layValue_106 1 rfl (by omega) (by omega) ?_
            refine x_top (y := (nI (en k))) hEk.1 ?_
            refine x_istore (lv' := [(5, .int (nI (en k))), (6, .int (nI k)), (4, .int (nI at_)), (0, .ref h), (1, .int (nI c)), (2, .int (nI v)), (3, .int (nI a))]) C d_M_layValue_107 (by decide) rfl ?_
            refine x_iincN (lv' := [(6, .int (nI (k + 1))), (5, .int (nI (en k))), (4, .int (nI at_)), (0, .ref h), (1, .int (nI c)), (2, .int (nI v)), (3, .int (nI a))]) C d_M_layValue_109 rfl (by decide) rfl ?_
            refine x_goto (tgt := 9) C d_M_layValue_112 (by decide) ?_
            refine x_lv (lv' := [(6, .int (nI (k + 1))), (5, .int (nI (en k))), (4, .int (nI at_)), (0, .ref h), (1, .int (nI c)), (2, .int (nI v)), (3, .int (nI a))]) (Or.inr (List.forall_mem_cons.mpr ⟨rfl, List.forall_mem_cons.mpr ⟨rfl, List.forall_mem_cons.mpr ⟨rfl, List.forall_mem_cons.mpr ⟨rfl, List.forall_mem_cons.mpr ⟨rfl, List.forall_mem_cons.mpr ⟨rfl, List.forall_mem_cons.mpr ⟨rfl, fun _ h9 => absurd h9 List.not_mem_nil⟩⟩⟩⟩⟩⟩⟩)) ?_
            exact ih (k + 1) (at_) (J0 ++ [p]) (La) (by omega) hat (lay_skip hI c30) hsg hlo
          · refine x_iload C d_M_layValue_33 rfl ?_
            refine x_iload_n C d_M_layValue_35 rfl rfl ?_
            refine x_icmp_leN (tgt := 72) C d_M_layValue_36 (by decide) (by omega) (by omega) (fun c36 => ?_) (fun c36 => ?_)
            · exact absurd c36 (by omega)
            · refine x_aload_n C d_M_layValue_39 rfl rfl ?_
              refine x_get C d_M_layValue_40 0 rfl rfl i_M 3 (by decide) lk_M_19 rfl rfl ?_
              refine x_iload C d_M_layValue_43 rfl ?_
              refine x_iconst (v := (nI (1))) C d_M_layValue_45 (by decide) ?_
              refine x_isubN C d_M_layValue_46 (by omega) ?_
              refine x_iald C d_M_layValue_47 3 rfl (by omega) (by omega) ?_
              refine x_top (y := (nI (p.2))) (seg_last hsg hat) ?_
              refine x_iload C d_M_layValue_48 rfl ?_
              refine x_icmp_neN (tgt := 72) C d_M_layValue_50 (by decide) (by omega) (by omega) (fun c50 => ?_) (fun c50 => ?_)
              · refine x_aload_n C d_M_layValue_72 rfl rfl ?_
                refine x_get C d_M_layValue_73 0 rfl rfl i_M 3 (by decide) lk_M_19 rfl rfl ?_
                refine x_iload C d_M_layValue_76 rfl ?_
                refine x_iload C d_M_layValue_78 rfl ?_
                refine x_iast (ws' := [(h, .inr (2, [.ref e0, .ref v0, .int (nI rn), .ref l0, .ref b0, .int (nI ns), .int pl, .int sn, .int wa, .int wf])), (e0, .inl (cA, 33000, .inl (E))), (v0, .inl (cA, 66000, .inl (V))), (l0, .inl (cA, 200000, .inl (upd La (at_) (nI (bnd en k))))), (b0, .inl (cA, 15, .inl (B)))]) C d_M_layValue_80 3 rfl (by omega) (by omega) rfl ?_
                refine x_aload_n C d_M_layValue_81 rfl rfl ?_
                refine x_get C d_M_layValue_82 0 rfl rfl i_M 3 (by decide) lk_M_19 rfl rfl ?_
                refine x_iload C d_M_layValue_85 rfl ?_
                refine x_iconst (v := (nI (1))) C d_M_layValue_87 (by decide) ?_
                refine x_iaddN C d_M_layValue_88  ?_
                refine x_aload_n C d_M_layValue_89 rfl rfl ?_
                refine x_get C d_M_layValue_90 0 rfl rfl i_M 0 (by decide) lk_M_8 rfl rfl ?_
                refine x_iload C d_M_layValue_93 rfl ?_
                refine x_iald C d_M_layValue_95 1 rfl (by omega) (by omega) ?_
                refine x_top (y := (nI (en k))) hEk.1 ?_
                refine x_iast (ws' := [(h, .inr (2, [.ref e0, .ref v0, .int (nI rn), .ref l0, .ref b0, .int (nI ns), .int pl, .int sn, .int wa, .int wf])), (e0, .inl (cA, 33000, .inl (E))), (v0, .inl (cA, 66000, .inl (V))), (l0, .inl (cA, 200000, .inl (upd (upd La (at_) (nI (bnd en k))) (at_ + 1) (nI (en k))))), (b0, .inl (cA, 15, .inl (B)))]) C d_M_layValue_96 3 rfl (by omega) (by omega) rfl ?_
                refine x_iinc (v := (nI (at_ + 2))) (lv' := [(4, .int (nI (at_ + 2))), (6, .int (nI k)), (5, .int (nI (bnd en k))), (0, .ref h), (1, .int (nI c)), (2, .int (nI v)), (3, .int (nI a))]) C d_M_layValue_97 rfl (nI_add _ 2) (by decide) rfl ?_
                refine x_aload_n C d_M_layValue_100 rfl rfl ?_
                refine x_get C d_M_layValue_101 0 rfl rfl i_M 0 (by decide) lk_M_8 rfl rfl ?_
                refine x_iload C d_M_layValue_104 rfl ?_
                refine x_iald C d_M_layValue_106 1 rfl (by omega) (by omega) ?_
                refine x_top (y := (nI (en k))) hEk.1 ?_
                refine x_istore (lv' := [(5, .int (nI (en k))), (4, .int (nI (at_ + 2))), (6, .int (nI k)), (0, .ref h), (1, .int (nI c)), (2, .int (nI v)), (3, .int (nI a))]) C d_M_layValue_107 (by decide) rfl ?_
                refine x_iincN (lv' := [(6, .int (nI (k + 1))), (5, .int (nI (en k))), (4, .int (nI (at_ + 2))), (0, .ref h), (1, .int (nI c)), (2, .int (nI v)), (3, .int (nI a))]) C d_M_layValue_109 rfl (by decide) rfl ?_
                refine x_goto (tgt := 9) C d_M_layValue_112 (by decide) ?_
                refine x_lv (lv' := [(6, .int (nI (k + 1))), (5, .int (nI (en k))), (4, .int (nI (at_ + 2))), (0, .ref h), (1, .int (nI c)), (2, .int (nI v)), (3, .int (nI a))]) (Or.inr (List.forall_mem_cons.mpr ⟨rfl, List.forall_mem_cons.mpr ⟨rfl, List.forall_mem_cons.mpr ⟨rfl, List.forall_mem_cons.mpr ⟨rfl, List.forall_mem_cons.mpr ⟨rfl, List.forall_mem_cons.mpr ⟨rfl, List.forall_mem_cons.mpr ⟨rfl, fun _ h9 => absurd h9 List.not_mem_nil⟩⟩⟩⟩⟩⟩⟩)) ?_
                exact ih (k + 1) (at_ + 2) (J0 ++ [p] ++ [(bnd en k, en k)]) (upd (upd La at_ (nI (bnd en k))) (at_ + 1) (nI (en k))) (by omega) (by rw [List.length_append, List.length_singleton]; omega) (lay_new hI c30 hEk.2.1 (fun p2 h9 => by rw [List.getLast?_concat] at h9; cases h9; omega)) (seg_new hsg hat) (fun x hx => by rw [pk_un (by omega), pk_un (by omega)]; exact hlo x hx)
              · refine x_aload_n C d_M_layValue_53 rfl rfl ?_
                refine x_get C d_M_layValue_54 0 rfl rfl i_M 3 (by decide) lk_M_19 rfl rfl ?_
                refine x_iload C d_M_layValue_57 rfl ?_
                refine x_iconst (v := (nI (1))) C d_M_layValue_59 (by decide) ?_
                refine x_isubN C d_M_layValue_60 (by omega) ?_
                refine x_aload_n C d_M_layValue_61 rfl rfl ?_
                refine x_get C d_M_layValue_62 0 rfl rfl i_M 0 (by decide) lk_M_8 rfl rfl ?_
                refine x_iload C d_M_layValue_65 rfl ?_
                refine x_iald C d_M_layValue_67 1 rfl (by omega) (by omega) ?_
                refine x_top (y := (nI (en k))) hEk.1 ?_
                refine x_iast (ws' := [(h, .inr (2, [.ref e0, .ref v0, .int (nI rn), .ref l0, .ref b0, .int (nI ns), .int pl, .int sn, .int wa, .int wf])), (e0, .inl (cA, 33000, .inl (E))), (v0, .inl (cA, 66000, .inl (V))), (l0, .inl (cA, 200000, .inl (upd La (at_ - 1) (nI (en k))))), (b0, .inl (cA, 15, .inl (B)))]) C d_M_layValue_68 3 rfl (by omega) (by omega) rfl ?_
                refine x_goto (tgt := 100) C d_M_layValue_69 (by decide) ?_
                refine x_aload_n C d_M_layValue_100 rfl rfl ?_
                refine x_get C d_M_layValue_101 0 rfl rfl i_M 0 (by decide) lk_M_8 rfl rfl ?_
                refine x_iload C d_M_layValue_104 rfl ?_
                refine x_iald C d_M_layValue_106 1 rfl (by omega) (by omega) ?_
                refine x_top (y := (nI (en k))) hEk.1 ?_
                refine x_istore (lv' := [(5, .int (nI (en k))), (6, .int (nI k)), (4, .int (nI at_)), (0, .ref h), (1, .int (nI c)), (2, .int (nI v)), (3, .int (nI a))]) C d_M_layValue_107 (by decide) rfl ?_
                refine x_iincN (lv' := [(6, .int (nI (k + 1))), (5, .int (nI (en k))), (4, .int (nI at_)), (0, .ref h), (1, .int (nI c)), (2, .int (nI v)), (3, .int (nI a))]) C d_M_layValue_109 rfl (by decide) rfl ?_
                refine x_goto (tgt := 9) C d_M_layValue_112 (by decide) ?_
                refine x_lv (lv' := [(6, .int (nI (k + 1))), (5, .int (nI (en k))), (4, .int (nI at_)), (0, .ref h), (1, .int (nI c)), (2, .int (nI v)), (3, .int (nI a))]) (Or.inr (List.forall_mem_cons.mpr ⟨rfl, List.forall_mem_cons.mpr ⟨rfl, List.forall_mem_cons.mpr ⟨rfl, List.forall_mem_cons.mpr ⟨rfl, List.forall_mem_cons.mpr ⟨rfl, List.forall_mem_cons.mpr ⟨rfl, List.forall_mem_cons.mpr ⟨rfl, fun _ h9 => absurd h9 List.not_mem_nil⟩⟩⟩⟩⟩⟩⟩)) ?_
                exact ih (k + 1) (at_) (J0 ++ [(p.1, en k)]) (upd La (at_ - 1) (nI (en k))) (by omega) (by rw [hat, List.length_append, List.length_append]; rfl) (lay_ext hI c30 hEk.2.1 c50) (seg_ext hsg hat) (fun x hx => by rw [pk_un (by omega)]; exact hlo x hx)
  refine x_iload_n C d_M_layValue_0 rfl rfl ?_
  refine x_istore (lv' := [(4, .int (nI a)), (0, .ref h), (1, .int (nI c)), (2, .int (nI v)), (3, .int (nI a))]) C d_M_layValue_1 (by decide) rfl ?_
  refine x_iconst (v := (nI (0))) C d_M_layValue_3 (by decide) ?_
  refine x_istore (lv' := [(5, .int (nI 0)), (4, .int (nI a)), (0, .ref h), (1, .int (nI c)), (2, .int (nI v)), (3, .int (nI a))]) C d_M_layValue_4 (by decide) rfl ?_
  refine x_iconst (v := (nI (0))) C d_M_layValue_6 (by decide) ?_
  refine x_istore (lv' := [(6, .int (nI 0)), (5, .int (nI 0)), (4, .int (nI a)), (0, .ref h), (1, .int (nI c)), (2, .int (nI v)), (3, .int (nI a))]) C d_M_layValue_7 (by decide) rfl ?_
  refine x_lv (lv' := [(6, .int (nI 0)), (5, .int (nI 0)), (4, .int (nI a)), (0, .ref h), (1, .int (nI c)), (2, .int (nI v)), (3, .int (nI a))]) (Or.inr (List.forall_mem_cons.mpr ⟨rfl, List.forall_mem_cons.mpr ⟨rfl, List.forall_mem_cons.mpr ⟨rfl, List.forall_mem_cons.mpr ⟨rfl, List.forall_mem_cons.mpr ⟨rfl, List.forall_mem_cons.mpr ⟨rfl, List.forall_mem_cons.mpr ⟨rfl, fun _ h9 => absurd h9 List.not_mem_nil⟩⟩⟩⟩⟩⟩⟩)) ?_
  exact LP rn 0 a [] L (by omega) rfl ⟨trivial, fun p hp => by simp at hp, Nat.le_refl _, fun r => rfl⟩ (seg_nil L a) (fun _ _ => rfl)
end
section
/-! the reference's stack -/
def iS (st : List ((Nat → Bool) × List (Nat × Nat))) : List (List Int32) := st.map (fun p => fl p.2)
def kT (n : Nat) (st : List ((Nat → Bool) × List (Nat × Nat))) : List (List Int32) := st.map (fun p => wI n p.1)
def Ok (en : Nat → Nat) (rn : Nat) (st : List ((Nat → Bool) × List (Nat × Nat))) : Prop := ∀ p ∈ st, Ik en rn p.1 p.2
theorem iS_len (st : List ((Nat → Bool) × List (Nat × Nat))) : (iS st).length = st.length := by simp [iS]
theorem iS_get {st : List ((Nat → Bool) × List (Nat × Nat))} {i : Nat} {p : (Nat → Bool) × List (Nat × Nat)} (h : st[i]? = some p) : (iS st).getD i [] = fl p.2 := by
  simp [iS, List.getD_eq_getElem?_getD, h]
theorem iS_snoc (st : List ((Nat → Bool) × List (Nat × Nat))) (p : (Nat → Bool) × List (Nat × Nat)) : iS (st ++ [p]) = iS st ++ [fl p.2] := by simp [iS]
theorem kT_snoc (n : Nat) (st : List ((Nat → Bool) × List (Nat × Nat))) (p : (Nat → Bool) × List (Nat × Nat)) : kT n (st ++ [p]) = kT n st ++ [wI n p.1] := by simp [kT]
theorem iS_tot {en : Nat → Nat} {rn : Nat} : ∀ {st : List ((Nat → Bool) × List (Nat × Nat))}, Ok en rn st → tot (iS st) ≤ 2 * rn * st.length
  | [], _ => by simp [iS, tot]
  | p :: st, h => by
    have ih := iS_tot (st := st) (fun q hq => h q (List.mem_cons_of_mem _ hq))
    have h1 := (h p List.mem_cons_self).2.2.1
    have h2 := fl_len p.2
    show tot ([fl p.2] ++ iS st) ≤ _
    rw [tot_app, tot_one, List.length_cons, Nat.mul_add]
    omega
theorem iS_small {E V : Nat → Int32} {en : Nat → Nat} {rn : Nat} {vl : Nat → Nat → Nat} {st : List ((Nat → Bool) × List (Nat × Nat))} (hE : Rn E V rn en vl) (h : Ok en rn st) (hl : st.length ≤ 13) : tot (iS st) ≤ 13520 := by
  have h1 := iS_tot h
  have h2 : 2 * rn * st.length ≤ 2 * 520 * 13 := Nat.mul_le_mul (Nat.mul_le_mul_left 2 hE.1) hl
  omega
theorem set_in {en : Nat → Nat} {rn : Nat} {L B : Nat → Int32} {st : List ((Nat → Bool) × List (Nat × Nat))} (hO : Ok en rn st) (hL : Hs 200000 15 L B (iS st)) {i : Nat} {p : (Nat → Bool) × List (Nat × Nat)} (h : st[i]? = some p) : Ik en rn p.1 p.2 ∧ seg L (off (iS st) i) p.2 ∧ off (iS st) (i + 1) = off (iS st) i + 2 * p.2.length ∧ off (iS st) (i + 1) ≤ tot (iS st) := by
  have hi : i < (iS st).length := by rw [iS_len]; exact (List.getElem?_eq_some_iff.mp h).1
  refine ⟨hO p (List.mem_of_getElem? h), hL.sgm hi (iS_get h), ?_, off_le _ _⟩
  rw [off_succ hi, iS_get h, fl_len]
theorem ex_ge_len : ∀ {ws : List (Nat × Nat)}, canon ws → ws.length ≤ (ex ws).length
  | [], _ => Nat.le_refl _
  | w :: ws, h => by
    rw [ex_cons, List.length_append, List.length_replicate, List.length_cons]
    have h1 := ex_ge_len h.2.2
    have h2 := h.1.1
    omega
theorem Wd_len {n : Nat} {f : Nat → Bool} (hn : n ≤ 1000000) : (Wd n f).length ≤ 40000 := by
  have h1 := ex_ge_len (Wd_rep n f).1
  rw [(Wd_rep n f).2, GL_len] at h1
  omega
theorem kT_tot {n : Nat} (hn : n ≤ 1000000) : ∀ {st : List ((Nat → Bool) × List (Nat × Nat))}, st.length ≤ 12 → tot (kT n st) ≤ 480000 := by
  have key : ∀ (k : Nat) (st : List ((Nat → Bool) × List (Nat × Nat))), st.length = k → tot (kT n st) ≤ 40000 * k := by
    intro k
    induction k with
    | zero =>
      intro st h
      rw [List.eq_nil_of_length_eq_zero h]
      simp [kT, tot]
    | succ k ih =>
      intro st h
      rcases List.eq_nil_or_concat st with rfl | ⟨st0, p, rfl⟩
      · cases h
      · rw [List.concat_eq_append] at *
        rw [List.length_append, List.length_singleton] at h
        have h1 := ih st0 (by omega)
        have h2 := Wd_len (n := n) (f := p.1) hn
        rw [kT_snoc, tot_app, tot_one, wI_len]
        omega
  intro st h
  have := key st.length st rfl
  have h2 : 40000 * st.length ≤ 40000 * 12 := Nat.mul_le_mul_left _ h
  omega
set_option maxHeartbeats 4000000 in
theorem c_M_wordsOf {l : Launch} {D : va_G} {cA : ClassId} {h e0 v0 l0 b0 rn ns : Nat} {E V L B : Nat → Int32} {pl sn wa wf : Int32} {en : Nat → Nat} {vl : Nat → Nat → Nat} (hE : Rn E V rn en vl) {n : Nat} {st : List ((Nat → Bool) × List (Nat × Nat))} (hn : bnd en rn = n) (hO : Ok en rn st) (hL : Hs 200000 15 L B (iS st)) (hns : st.length = ns) {i : Nat} {p : (Nat → Bool) × List (Nat × Nat)} (hp : st[i]? = some p)  : CtI l D cA y_M_wordsOf b_M_wordsOf 2 (some .int) ({ frames := 2, cells := 0, slots := 0, locals := 55 } : Room) [.ref h, .int (nI i)] (mW cA h e0 v0 l0 b0 E V L B rn ns pl sn wa wf) (fun r (_ : (Int32 × Int32 × Int32 × Int32)) => r = nI (wI n p.1).length) (fun u => (mW cA h e0 v0 l0 b0 E V L B rn ns (u.1) (u.2.1) (u.2.2.1) (u.2.2.2))) := by
  refine CtI.start (lv0 := [(0, .ref h), (1, .int (nI i))]) (by decide) rfl (Nat.le_of_ble_eq_true rfl) ?_
  intro p_ e_ s_ m_ args_ below_ meth_ c_ A_ C hr hin
  have hi := (List.getElem?_eq_some_iff.mp hp).1
  have hs0 := set_in hO hL hp
  have hnm := hL.nums
  rw [iS_len] at hnm
  have hil := iS_len st
  refine x_aload_n C d_M_wordsOf_0 rfl rfl ?_
  refine x_aload_n C d_M_wordsOf_1 rfl rfl ?_
  refine x_get C d_M_wordsOf_2 0 rfl rfl i_M 4 (by decide) lk_M_22 rfl rfl ?_
  refine x_iload_n C d_M_wordsOf_5 rfl rfl ?_
  refine x_iald C d_M_wordsOf_6 4 rfl (by omega) (by omega) ?_
  refine x_top (y := (nI (off (iS st) i))) (hL.bd (by omega)) ?_
  refine x_aload_n C d_M_wordsOf_7 rfl rfl ?_
  refine x_get C d_M_wordsOf_8 0 rfl rfl i_M 4 (by decide) lk_M_22 rfl rfl ?_
  refine x_iload_n C d_M_wordsOf_11 rfl rfl ?_
  refine x_iconst (v := (nI (1))) C d_M_wordsOf_12 (by decide) ?_
  refine x_iaddN C d_M_wordsOf_13  ?_
  refine x_iald C d_M_wordsOf_14 4 rfl (by omega) (by omega) ?_
  refine x_top (y := (nI (off (iS st) i + 2 * p.2.length))) (by rw [hL.bd (by omega), hs0.2.2.1]) ?_
  refine x_iconst (v := ((-1))) C d_M_wordsOf_15 (by decide) ?_
  refine x_callVI (wr := []) (rest := []) C (c_M_goAlong (wt := (-1)) (a := off (iS st) i) (J := p.2) hE hn (by rw [← hn]; exact hs0.1.iv hE (Nat.le_refl _)) hs0.2.1 (by omega)) d_M_wordsOf_16 cd_M_goAlong lk_M_61 dd_M_goAlong rfl ⟨Nat.le_of_ble_eq_true rfl, Nat.le_of_ble_eq_true rfl⟩ ⟨Nat.le_refl _, Nat.le_refl _⟩ 2 0 rfl rfl [0, 1, 2, 3, 4] [] rfl rfl (by decide) (by decide) (by decide) rfl (Nat.le_of_ble_eq_true rfl) ?_
  intro r_ ug hp_
  obtain ⟨rfl, -, hfd⟩ := hp_
  exact x_iret C hr d_M_wordsOf_19 ((nI (off (iS st) i + 2 * ug.1)), (nI ((Wd n p.1).length)), ((-1)), (ug.2)) rfl (by rw [wI_len])
set_option maxHeartbeats 4000000 in
theorem c_M_stackRoom {l : Launch} {D : va_G} {cA : ClassId} {h e0 v0 l0 b0 rn ns : Nat} {E V L B : Nat → Int32} {pl sn wa wf : Int32} {en : Nat → Nat} {vl : Nat → Nat → Nat} (hE : Rn E V rn en vl) {n : Nat} {st : List ((Nat → Bool) × List (Nat × Nat))} (hn : bnd en rn = n) (hO : Ok en rn st) (hL : Hs 200000 15 L B (iS st)) (hns : st.length = ns)  : CtI l D cA y_M_stackRoom b_M_stackRoom 3 (some .int) ({ frames := 3, cells := 0, slots := 0, locals := 76 } : Room) [.ref h] (mW cA h e0 v0 l0 b0 E V L B rn ns pl sn wa wf) (fun r (_ : (Int32 × Int32 × Int32 × Int32)) => r = nI (tot (kT n st))) (fun u => (mW cA h e0 v0 l0 b0 E V L B rn ns (u.1) (u.2.1) (u.2.2.1) (u.2.2.2))) := by
  refine CtI.start (lv0 := [(0, .ref h)]) (by decide) rfl (Nat.le_of_ble_eq_true rfl) ?_
  intro p_ e_ s_ m_ args_ below_ meth_ c_ A_ C hr hin
  have hnm := hL.nums
  rw [iS_len] at hnm
  have LP : ∀ (d k : Nat) (y1 y2 y3 y4 : Int32), k + d = st.length → X p_ l e_ ({ frames := 3, cells := 0, slots := 0, locals := 76 } : Room) s_ m_ args_ below_ meth_ c_ D A_ 3 0 0 (MQ below_ (va_Qi (fun r (_ : (Int32 × Int32 × Int32 × Int32)) => r = nI (tot (kT n st))) (Bw D A_ (fun u => (mW cA h e0 v0 l0 b0 E V L B rn ns (u.1) (u.2.1) (u.2.2.1) (u.2.2.2)))) A_) args_ s_ 0 0 A_) [(h, .inr (2, [.ref e0, .ref v0, .int (nI rn), .ref l0, .ref b0, .int (nI ns), .int y1, .int y2, .int y3, .int y4])), (e0, .inl (cA, 33000, .inl (E))), (v0, .inl (cA, 66000, .inl (V))), (l0, .inl (cA, 200000, .inl (L))), (b0, .inl (cA, 15, .inl (B)))] 4 [(2, .int (nI k)), (1, .int (nI (tot (kT n (st.take k))))), (0, .ref h)] [] := by
    intro d
    induction d with
    | zero =>
      intro k y1 y2 y3 y4 hk
      refine x_iload_n C d_M_stackRoom_4 rfl rfl ?_
      refine x_aload_n C d_M_stackRoom_5 rfl rfl ?_
      refine x_get C d_M_stackRoom_6 0 rfl rfl i_M 5 (by decide) lk_M_54 rfl rfl ?_
      refine x_icmp_geN (tgt := 26) C d_M_stackRoom_9 (by decide) (by omega) (by omega) (fun c9 => ?_) (fun c9 => ?_)
      · refine x_iload_n C d_M_stackRoom_26 rfl rfl ?_
        exact x_iret C hr d_M_stackRoom_27 (y1, y2, y3, y4) rfl (by rw [List.take_of_length_le (by omega)])
      · exact absurd c9 (by omega)
    | succ d ih =>
      intro k y1 y2 y3 y4 hk
      obtain ⟨p, hp⟩ : ∃ p, st[k]? = some p := ⟨st[k], List.getElem?_eq_getElem (by omega)⟩
      refine x_iload_n C d_M_stackRoom_4 rfl rfl ?_
      refine x_aload_n C d_M_stackRoom_5 rfl rfl ?_
      refine x_get C d_M_stackRoom_6 0 rfl rfl i_M 5 (by decide) lk_M_54 rfl rfl ?_
      refine x_icmp_geN (tgt := 26) C d_M_stackRoom_9 (by decide) (by omega) (by omega) (fun c9 => ?_) (fun c9 => ?_)
      · exact absurd c9 (by omega)
      · refine x_iload_n C d_M_stackRoom_12 rfl rfl ?_
        refine x_aload_n C d_M_stackRoom_13 rfl rfl ?_
        refine x_iload_n C d_M_stackRoom_14 rfl rfl ?_
        refine x_callVI (wr := []) (rest := [.int (nI (tot (kT n (st.take k))))]) C (c_M_wordsOf hE hn hO hL hns hp) d_M_stackRoom_15 cd_M_wordsOf lk_M_68 dd_M_wordsOf rfl ⟨Nat.le_of_ble_eq_true rfl, Nat.le_of_ble_eq_true rfl⟩ ⟨Nat.le_refl _, Nat.le_refl _⟩ 2 0 rfl rfl [0, 1, 2, 3, 4] [] rfl rfl (by decide) (by decide) (by decide) rfl (Nat.le_of_ble_eq_true rfl) ?_
        intro r_ u15 hp_
        obtain rfl := hp_
        refine x_iaddN C d_M_stackRoom_18  ?_
        refine x_top (y := (nI (tot (kT n (st.take (k + 1)))))) (by rw [take_snoc hp, kT_snoc, tot_app, tot_one]) ?_
        refine x_istore_n (lv' := [(1, .int (nI (tot (kT n (st.take (k + 1)))))), (2, .int (nI k)), (0, .ref h)]) C d_M_stackRoom_19 rfl (by decide) rfl ?_
        refine x_iincN (lv' := [(2, .int (nI (k + 1))), (1, .int (nI (tot (kT n (st.take (k + 1)))))), (0, .ref h)]) C d_M_stackRoom_20 rfl (by decide) rfl ?_
        refine x_goto (tgt := 4) C d_M_stackRoom_23 (by decide) ?_
        refine x_lv (lv' := [(2, .int (nI (k + 1))), (1, .int (nI (tot (kT n (st.take (k + 1)))))), (0, .ref h)]) (Or.inr (List.forall_mem_cons.mpr ⟨rfl, List.forall_mem_cons.mpr ⟨rfl, List.forall_mem_cons.mpr ⟨rfl, fun _ h9 => absurd h9 List.not_mem_nil⟩⟩⟩)) ?_
        exact ih (k + 1) _ _ _ _ (by omega)
  refine x_iconst (v := (nI (0))) C d_M_stackRoom_0 (by decide) ?_
  refine x_istore_n (lv' := [(1, .int (nI 0)), (0, .ref h)]) C d_M_stackRoom_1 rfl (by decide) rfl ?_
  refine x_iconst (v := (nI (0))) C d_M_stackRoom_2 (by decide) ?_
  refine x_istore_n (lv' := [(2, .int (nI 0)), (1, .int (nI 0)), (0, .ref h)]) C d_M_stackRoom_3 rfl (by decide) rfl ?_
  refine x_lv (lv' := [(2, .int (nI 0)), (1, .int (nI 0)), (0, .ref h)]) (Or.inr (List.forall_mem_cons.mpr ⟨rfl, List.forall_mem_cons.mpr ⟨rfl, List.forall_mem_cons.mpr ⟨rfl, fun _ h9 => absurd h9 List.not_mem_nil⟩⟩⟩)) ?_
  exact LP st.length 0 _ _ _ _ (by omega)
set_option maxHeartbeats 4000000 in
theorem c_M_comes {l : Launch} {D : va_G} {cA : ClassId} {h e0 v0 l0 b0 rn ns : Nat} {E V L B : Nat → Int32} {pl sn wa wf : Int32} {en : Nat → Nat} {vl : Nat → Nat → Nat} (hE : Rn E V rn en vl) {n : Nat} {st : List ((Nat → Bool) × List (Nat × Nat))} (hn : bnd en rn = n) (hO : Ok en rn st) (hL : Hs 200000 15 L B (iS st)) (hns : st.length = ns) {f : Nat → Bool} {J : List (Nat × Nat)} (hJ : Ik en rn f J) (hs : seg L (tot (iS st)) J) (h13 : st.length ≤ 12) (h12 : st.length < 12) (hfit : tot (kT n st) + (wI n f).length ≤ 3000)  : CtI l D cA y_M_comes b_M_comes 2 (some .boolean) ({ frames := 4, cells := 0, slots := 0, locals := 98 } : Room) [.ref h, .int (nI (tot (iS st) + 2 * J.length))] (mW cA h e0 v0 l0 b0 E V L B rn ns pl sn wa wf) (fun r (u : (Nat → Int32) × (Int32 × Int32 × Int32 × Int32)) => r = nI 1 ∧ Hs 200000 15 L u.1 (iS st ++ [fl J])) (fun u => (mW cA h e0 v0 l0 b0 E V L (u.1) rn (ns + 1) (u.2.1) (u.2.2.1) (u.2.2.2.1) (u.2.2.2.2))) := by
  refine CtI.start (lv0 := [(0, .ref h), (1, .int (nI (tot (iS st) + 2 * J.length)))]) (by decide) rfl (Nat.le_of_ble_eq_true rfl) ?_
  intro p_ e_ s_ m_ args_ below_ meth_ c_ A_ C hr hin
  have hnm := hL.nums
  rw [iS_len] at hnm
  have hsm := iS_small hE hO (by omega)
  have hJl := hJ.2.2.1
  have hr0 := hE.1
  have hiv : Iv n f J := by rw [← hn]; exact hJ.iv hE (Nat.le_refl _)
  have hwl := wI_len n f
  have htop : B ns = nI (tot (iS st)) := by rw [← hns, ← iS_len st]; exact hL.top
  refine x_aload_n C d_M_comes_0 rfl rfl ?_
  refine x_get C d_M_comes_1 0 rfl rfl i_M 5 (by decide) lk_M_54 rfl rfl ?_
  refine x_bipush (v := (nI (12))) C d_M_comes_4 (by decide) ?_
  refine x_icmp_eqN (tgt := 35) C d_M_comes_6 (by decide) (by omega) (by omega) (fun c6 => ?_) (fun c6 => ?_)
  · exact absurd c6 (by omega)
  · refine x_aload_n C d_M_comes_9 rfl rfl ?_
    refine x_callVI (wr := []) (rest := []) C (c_M_stackRoom hE hn hO hL hns) d_M_comes_10 cd_M_stackRoom lk_M_72 dd_M_stackRoom rfl ⟨Nat.le_of_ble_eq_true rfl, Nat.le_of_ble_eq_true rfl⟩ ⟨Nat.le_refl _, Nat.le_refl _⟩ 2 0 rfl rfl [0, 1, 2, 3, 4] [] rfl rfl (by decide) (by decide) (by decide) rfl (Nat.le_of_ble_eq_true rfl) ?_
    intro r_ u10 hp_
    obtain rfl := hp_
    refine x_aload_n C d_M_comes_13 rfl rfl ?_
    refine x_aload_n C d_M_comes_14 rfl rfl ?_
    refine x_get C d_M_comes_15 0 rfl rfl i_M 4 (by decide) lk_M_22 rfl rfl ?_
    refine x_aload_n C d_M_comes_18 rfl rfl ?_
    refine x_get C d_M_comes_19 0 rfl rfl i_M 5 (by decide) lk_M_54 rfl rfl ?_
    refine x_iald C d_M_comes_22 4 rfl (by omega) (by omega) ?_
    refine x_top (y := (nI (tot (iS st)))) htop ?_
    refine x_iload_n C d_M_comes_23 rfl rfl ?_
    refine x_iconst (v := ((-1))) C d_M_comes_24 (by decide) ?_
    refine x_callVI (wr := []) (rest := [.int (nI (tot (kT n st)))]) C (c_M_goAlong (wt := (-1)) (a := tot (iS st)) (J := J) hE hn hiv hs (by omega)) d_M_comes_25 cd_M_goAlong lk_M_61 dd_M_goAlong rfl ⟨Nat.le_of_ble_eq_true rfl, Nat.le_of_ble_eq_true rfl⟩ ⟨Nat.le_refl _, Nat.le_refl _⟩ 2 0 rfl rfl [0, 1, 2, 3, 4] [] rfl rfl (by decide) (by decide) (by decide) rfl (Nat.le_of_ble_eq_true rfl) ?_
    intro r_ ug hp_
    obtain ⟨rfl, -, hfd⟩ := hp_
    refine x_iaddN C d_M_comes_28  ?_
    refine x_sipush (v := (nI (3000))) C d_M_comes_29 (by decide) ?_
    refine x_icmp_leN (tgt := 37) C d_M_comes_32 (by decide) (by omega) (by omega) (fun c32 => ?_) (fun c32 => ?_)
    · refine x_aload_n C d_M_comes_37 rfl rfl ?_
      refine x_dup C d_M_comes_38 rfl ?_
      refine x_get C d_M_comes_39 0 rfl rfl i_M 5 (by decide) lk_M_54 rfl rfl ?_
      refine x_iconst (v := (nI (1))) C d_M_comes_42 (by decide) ?_
      refine x_iaddN C d_M_comes_43  ?_
      refine x_put (ty := .int) (v := .int (nI (ns + 1))) (ws' := [(h, .inr (2, [.ref e0, .ref v0, .int (nI rn), .ref l0, .ref b0, .int (nI (ns + 1)), .int (nI (tot (iS st) + 2 * ug.1)), .int (nI ((Wd n f).length)), .int ((-1)), .int (ug.2)])), (e0, .inl (cA, 33000, .inl (E))), (v0, .inl (cA, 66000, .inl (V))), (l0, .inl (cA, 200000, .inl (L))), (b0, .inl (cA, 15, .inl (B)))]) C d_M_comes_44 0 rfl rfl i_M t_M t_M_ok n_M 5 (by decide) lk_M_54 rfl rfl (t_M_ok 5 (by decide)) rfl rfl (Nat.le_of_ble_eq_true rfl) rfl ?_
      refine x_aload_n C d_M_comes_47 rfl rfl ?_
      refine x_get C d_M_comes_48 0 rfl rfl i_M 4 (by decide) lk_M_22 rfl rfl ?_
      refine x_aload_n C d_M_comes_51 rfl rfl ?_
      refine x_get C d_M_comes_52 0 rfl rfl i_M 5 (by decide) lk_M_54 rfl rfl ?_
      refine x_iload_n C d_M_comes_55 rfl rfl ?_
      refine x_iast (ws' := [(h, .inr (2, [.ref e0, .ref v0, .int (nI rn), .ref l0, .ref b0, .int (nI (ns + 1)), .int (nI (tot (iS st) + 2 * ug.1)), .int (nI ((Wd n f).length)), .int ((-1)), .int (ug.2)])), (e0, .inl (cA, 33000, .inl (E))), (v0, .inl (cA, 66000, .inl (V))), (l0, .inl (cA, 200000, .inl (L))), (b0, .inl (cA, 15, .inl (upd B (ns + 1) (nI (tot (iS st) + 2 * J.length)))))]) C d_M_comes_56 4 rfl (by omega) (by omega) rfl ?_
      refine x_iconst (v := (nI (1))) C d_M_comes_57 (by decide) ?_
      exact x_zret C hr (by decide) d_M_comes_58 (upd B (ns + 1) (nI (tot (iS st) + 2 * J.length)), ((nI (tot (iS st) + 2 * ug.1)), (nI ((Wd n f).length)), ((-1)), (ug.2))) rfl (⟨rfl, hL.last (s := []) (by rw [iS_len]; omega) (by rw [fl_len]; omega) (fun i hi => pk_un (by rw [iS_len] at hi; omega)) (by dsimp only; rw [iS_len, hns, pk_us, fl_len]) (fun _ _ => rfl) (seg_at hs)⟩)
    · exact absurd c32 (by rw [wI_len] at hfit; omega)
set_option maxHeartbeats 4000000 in
theorem c_M_comes_full {l : Launch} {D : va_G} {cA : ClassId} {h e0 v0 l0 b0 rn ns : Nat} {E V L B : Nat → Int32} {pl sn wa wf : Int32} {en : Nat → Nat} {vl : Nat → Nat → Nat} (hE : Rn E V rn en vl) {n : Nat} {st : List ((Nat → Bool) × List (Nat × Nat))} (hn : bnd en rn = n) (hO : Ok en rn st) (hL : Hs 200000 15 L B (iS st)) (hns : st.length = ns) {f : Nat → Bool} {J : List (Nat × Nat)} (hJ : Ik en rn f J) (hs : seg L (tot (iS st)) J) (h13 : st.length ≤ 12) (hno : st.length = 12 ∨ 3000 < tot (kT n st) + (wI n f).length)  : CtI l D cA y_M_comes b_M_comes 2 (some .boolean) ({ frames := 4, cells := 0, slots := 0, locals := 98 } : Room) [.ref h, .int (nI (tot (iS st) + 2 * J.length))] (mW cA h e0 v0 l0 b0 E V L B rn ns pl sn wa wf) (fun r (_ : (Int32 × Int32 × Int32 × Int32)) => r = nI 0) (fun u => (mW cA h e0 v0 l0 b0 E V L B rn ns (u.1) (u.2.1) (u.2.2.1) (u.2.2.2))) := by
  refine CtI.start (lv0 := [(0, .ref h), (1, .int (nI (tot (iS st) + 2 * J.length)))]) (by decide) rfl (Nat.le_of_ble_eq_true rfl) ?_
  intro p_ e_ s_ m_ args_ below_ meth_ c_ A_ C hr hin
  have hnm := hL.nums
  rw [iS_len] at hnm
  have hsm := iS_small hE hO (by omega)
  have hJl := hJ.2.2.1
  have hr0 := hE.1
  have hiv : Iv n f J := by rw [← hn]; exact hJ.iv hE (Nat.le_refl _)
  have hwl := wI_len n f
  have htop : B ns = nI (tot (iS st)) := by rw [← hns, ← iS_len st]; exact hL.top
  have hlen1 := Wd_len (n := n) (f := f) (by rw [← hn]; exact bnd_le hE rn (Nat.le_refl _))
  have hlen2 := kT_tot (st := st) (n := n) (by rw [← hn]; exact bnd_le hE rn (Nat.le_refl _)) h13
  refine x_aload_n C d_M_comes_0 rfl rfl ?_
  refine x_get C d_M_comes_1 0 rfl rfl i_M 5 (by decide) lk_M_54 rfl rfl ?_
  refine x_bipush (v := (nI (12))) C d_M_comes_4 (by decide) ?_
  refine x_icmp_eqN (tgt := 35) C d_M_comes_6 (by decide) (by omega) (by omega) (fun c6 => ?_) (fun c6 => ?_)
  · refine x_iconst (v := (nI (0))) C d_M_comes_35 (by decide) ?_
    exact x_zret C hr (by decide) d_M_comes_36 ((pl), (sn), (wa), (wf)) rfl (rfl)
  · refine x_aload_n C d_M_comes_9 rfl rfl ?_
    refine x_callVI (wr := []) (rest := []) C (c_M_stackRoom hE hn hO hL hns) d_M_comes_10 cd_M_stackRoom lk_M_72 dd_M_stackRoom rfl ⟨Nat.le_of_ble_eq_true rfl, Nat.le_of_ble_eq_true rfl⟩ ⟨Nat.le_refl _, Nat.le_refl _⟩ 2 0 rfl rfl [0, 1, 2, 3, 4] [] rfl rfl (by decide) (by decide) (by decide) rfl (Nat.le_of_ble_eq_true rfl) ?_
    intro r_ u10 hp_
    obtain rfl := hp_
    refine x_aload_n C d_M_comes_13 rfl rfl ?_
    refine x_aload_n C d_M_comes_14 rfl rfl ?_
    refine x_get C d_M_comes_15 0 rfl rfl i_M 4 (by decide) lk_M_22 rfl rfl ?_
    refine x_aload_n C d_M_comes_18 rfl rfl ?_
    refine x_get C d_M_comes_19 0 rfl rfl i_M 5 (by decide) lk_M_54 rfl rfl ?_
    refine x_iald C d_M_comes_22 4 rfl (by omega) (by omega) ?_
    refine x_top (y := (nI (tot (iS st)))) htop ?_
    refine x_iload_n C d_M_comes_23 rfl rfl ?_
    refine x_iconst (v := ((-1))) C d_M_comes_24 (by decide) ?_
    refine x_callVI (wr := []) (rest := [.int (nI (tot (kT n st)))]) C (c_M_goAlong (wt := (-1)) (a := tot (iS st)) (J := J) hE hn hiv hs (by omega)) d_M_comes_25 cd_M_goAlong lk_M_61 dd_M_goAlong rfl ⟨Nat.le_of_ble_eq_true rfl, Nat.le_of_ble_eq_true rfl⟩ ⟨Nat.le_refl _, Nat.le_refl _⟩ 2 0 rfl rfl [0, 1, 2, 3, 4] [] rfl rfl (by decide) (by decide) (by decide) rfl (Nat.le_of_ble_eq_true rfl) ?_
    intro r_ ug hp_
    obtain ⟨rfl, -, hfd⟩ := hp_
    refine x_iaddN C d_M_comes_28  ?_
    refine x_sipush (v := (nI (3000))) C d_M_comes_29 (by decide) ?_
    refine x_icmp_leN (tgt := 37) C d_M_comes_32 (by decide) (by omega) (by omega) (fun c32 => ?_) (fun c32 => ?_)
    · exact absurd c32 (by rw [wI_len] at hno; omega)
    · refine x_iconst (v := (nI (0))) C d_M_comes_35 (by decide) ?_
      exact x_zret C hr (by decide) d_M_comes_36 ((nI (tot (iS st) + 2 * ug.1)), (nI ((Wd n f).length)), ((-1)), (ug.2)) rfl (rfl)
end
