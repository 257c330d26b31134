/-! what the tables say -/
set_option maxRecDepth 100000 in
theorem i_S : ∀ w ∈ u_ws R_S F_S 3, w ∈ gw := by decide +kernel
set_option maxRecDepth 100000 in
theorem i_B : ∀ w ∈ u_ws R_B F_B 5, w ∈ gw := by decide +kernel
set_option maxRecDepth 100000 in
theorem i_M : ∀ w ∈ u_ws R_M F_M 10, w ∈ gw := by decide +kernel
set_option maxRecDepth 100000 in
theorem lk_L_7 : Cond.classLink R_L 7 R_B ∈ gw := List.mem_filter.mpr ⟨List.mem_of_getElem? (i := 23) (by decide +kernel), by decide +kernel⟩
set_option maxRecDepth 100000 in
theorem lk_L_9 : Cond.methodLink R_L 9 y_B_init ∈ gw := List.mem_filter.mpr ⟨List.mem_of_getElem? (i := 25) (by decide +kernel), by decide +kernel⟩
set_option maxRecDepth 100000 in
theorem lk_B_3 : Cond.methodLink R_B 3 Lib.objectInit ∈ gw := List.mem_filter.mpr ⟨List.mem_of_getElem? (i := 28) (by decide +kernel), by decide +kernel⟩
set_option maxRecDepth 100000 in
theorem lk_B_9 : Cond.classLink R_B 9 R_S ∈ gw := List.mem_filter.mpr ⟨List.mem_of_getElem? (i := 31) (by decide +kernel), by decide +kernel⟩
set_option maxRecDepth 100000 in
theorem lk_B_11 : Cond.methodLink R_B 11 y_S_init ∈ gw := List.mem_filter.mpr ⟨List.mem_of_getElem? (i := 33) (by decide +kernel), by decide +kernel⟩
set_option maxRecDepth 100000 in
theorem lk_S_3 : Cond.methodLink R_S 3 Lib.objectInit ∈ gw := List.mem_filter.mpr ⟨List.mem_of_getElem? (i := 36) (by decide +kernel), by decide +kernel⟩
set_option maxRecDepth 100000 in
theorem lk_S_15 : Cond.fieldLink R_S 15 "RunBitmaps$Shelf" "line" "[I" ∈ gw := List.mem_filter.mpr ⟨List.mem_of_getElem? (i := 37) (by decide +kernel), by decide +kernel⟩
set_option maxRecDepth 100000 in
theorem lk_S_19 : Cond.fieldLink R_S 19 "RunBitmaps$Shelf" "bounds" "[I" ∈ gw := List.mem_filter.mpr ⟨List.mem_of_getElem? (i := 38) (by decide +kernel), by decide +kernel⟩
set_option maxRecDepth 100000 in
theorem lk_S_9 : Cond.fieldLink R_S 9 "RunBitmaps$Shelf" "sets" "I" ∈ gw := List.mem_filter.mpr ⟨List.mem_of_getElem? (i := 39) (by decide +kernel), by decide +kernel⟩
set_option maxRecDepth 100000 in
theorem lk_B_39 : Cond.fieldLinkNest R_B 39 "RunBitmaps$Shelf" "sets" "I" R_B ∈ nw := List.mem_filter.mpr ⟨List.mem_of_getElem? (i := 40) (by decide +kernel), by decide +kernel⟩
set_option maxRecDepth 100000 in
theorem lk_B_31 : Cond.methodLink R_B 31 y_S_open ∈ gw := List.mem_filter.mpr ⟨List.mem_of_getElem? (i := 49) (by decide +kernel), by decide +kernel⟩
set_option maxRecDepth 100000 in
theorem lk_B_14 : Cond.fieldLink R_B 14 "RunBitmaps" "columns" "LRunBitmaps$Shelf;" ∈ gw := List.mem_filter.mpr ⟨List.mem_of_getElem? (i := 53) (by decide +kernel), by decide +kernel⟩
set_option maxRecDepth 100000 in
theorem lk_B_18 : Cond.fieldLink R_B 18 "RunBitmaps" "draft" "LRunBitmaps$Shelf;" ∈ gw := List.mem_filter.mpr ⟨List.mem_of_getElem? (i := 54) (by decide +kernel), by decide +kernel⟩
set_option maxRecDepth 100000 in
theorem lk_B_21 : Cond.fieldLink R_B 21 "RunBitmaps" "stack" "LRunBitmaps$Shelf;" ∈ gw := List.mem_filter.mpr ⟨List.mem_of_getElem? (i := 55) (by decide +kernel), by decide +kernel⟩
set_option maxRecDepth 100000 in
theorem lk_B_24 : Cond.fieldLink R_B 24 "RunBitmaps" "result" "LRunBitmaps$Shelf;" ∈ gw := List.mem_filter.mpr ⟨List.mem_of_getElem? (i := 56) (by decide +kernel), by decide +kernel⟩
set_option maxRecDepth 100000 in
theorem lk_B_27 : Cond.fieldLink R_B 27 "RunBitmaps" "rowCount" "I" ∈ gw := List.mem_filter.mpr ⟨List.mem_of_getElem? (i := 57) (by decide +kernel), by decide +kernel⟩
set_option maxRecDepth 100000 in
theorem lk_L_13 : Cond.methodLink R_L 13 y_B_append ∈ gw := List.mem_filter.mpr ⟨List.mem_of_getElem? (i := 69) (by decide +kernel), by decide +kernel⟩
set_option maxRecDepth 100000 in
theorem lk_B_34 : Cond.methodLink R_B 34 y_B_isValue ∈ gw := List.mem_filter.mpr ⟨List.mem_of_getElem? (i := 73) (by decide +kernel), by decide +kernel⟩
set_option maxRecDepth 100000 in
theorem lk_B_38 : Cond.constant R_B 38 1000000 ∈ gw := List.mem_filter.mpr ⟨List.mem_of_getElem? (i := 76) (by decide +kernel), by decide +kernel⟩
set_option maxRecDepth 100000 in
theorem lk_B_42 : Cond.methodLink R_B 42 y_S_clear ∈ gw := List.mem_filter.mpr ⟨List.mem_of_getElem? (i := 77) (by decide +kernel), by decide +kernel⟩
set_option maxRecDepth 100000 in
theorem lk_B_45 : Cond.methodLink R_B 45 y_B_draftColumn ∈ gw := List.mem_filter.mpr ⟨List.mem_of_getElem? (i := 81) (by decide +kernel), by decide +kernel⟩
set_option maxRecDepth 100000 in
theorem lk_B_90 : Cond.methodLink R_B 90 y_S_addSet ∈ gw := List.mem_filter.mpr ⟨List.mem_of_getElem? (i := 85) (by decide +kernel), by decide +kernel⟩
set_option maxRecDepth 100000 in
theorem lk_S_35 : Cond.methodLink R_S 35 y_S_size ∈ gw := List.mem_filter.mpr ⟨List.mem_of_getElem? (i := 89) (by decide +kernel), by decide +kernel⟩
set_option maxRecDepth 100000 in
theorem lk_S_31 : Cond.methodLink R_S 31 y_S_startOf ∈ gw := List.mem_filter.mpr ⟨List.mem_of_getElem? (i := 93) (by decide +kernel), by decide +kernel⟩
set_option maxRecDepth 100000 in
theorem lk_S_22 : Cond.methodLink R_S 22 Lib.Math.min.name ∈ gw := List.mem_filter.mpr ⟨List.mem_of_getElem? (i := 97) (by decide +kernel), by decide +kernel⟩
set_option maxRecDepth 100000 in
theorem lk_S_28 : Cond.methodLink R_S 28 Lib.Math.max.name ∈ gw := List.mem_filter.mpr ⟨List.mem_of_getElem? (i := 100) (by decide +kernel), by decide +kernel⟩
set_option maxRecDepth 100000 in
theorem lk_S_59 : Cond.methodLink R_S 59 y_S_used ∈ gw := List.mem_filter.mpr ⟨List.mem_of_getElem? (i := 103) (by decide +kernel), by decide +kernel⟩
set_option maxRecDepth 100000 in
theorem lk_S_63 : Cond.methodLink R_S 63 arraycopyName ∈ gw := List.mem_filter.mpr ⟨List.mem_of_getElem? (i := 107) (by decide +kernel), by decide +kernel⟩
set_option maxRecDepth 100000 in
theorem lk_B_94 : Cond.methodLink R_B 94 y_S_addRows ∈ gw := List.mem_filter.mpr ⟨List.mem_of_getElem? (i := 110) (by decide +kernel), by decide +kernel⟩
set_option maxRecDepth 100000 in
theorem lk_S_52 : Cond.constant R_S 52 2147483647 ∈ gw := List.mem_filter.mpr ⟨List.mem_of_getElem? (i := 114) (by decide +kernel), by decide +kernel⟩
set_option maxRecDepth 100000 in
theorem lk_S_69 : Cond.methodLink R_S 69 y_S_takeGroup ∈ gw := List.mem_filter.mpr ⟨List.mem_of_getElem? (i := 115) (by decide +kernel), by decide +kernel⟩
set_option maxRecDepth 100000 in
theorem lk_S_87 : Cond.methodLink R_S 87 y_S_lastWord ∈ gw := List.mem_filter.mpr ⟨List.mem_of_getElem? (i := 119) (by decide +kernel), by decide +kernel⟩
set_option maxRecDepth 100000 in
theorem lk_S_46 : Cond.methodLinkNest R_S 46 y_B_groupsOf R_B ∈ nw := List.mem_filter.mpr ⟨List.mem_of_getElem? (i := 123) (by decide +kernel), by decide +kernel⟩
set_option maxRecDepth 100000 in
theorem lk_S_38 : Cond.methodLinkNest R_S 38 y_B_bitsOf R_B ∈ nw := List.mem_filter.mpr ⟨List.mem_of_getElem? (i := 126) (by decide +kernel), by decide +kernel⟩
set_option maxRecDepth 100000 in
theorem lk_B_101 : Cond.constant R_B 101 2147483647 ∈ gw := List.mem_filter.mpr ⟨List.mem_of_getElem? (i := 129) (by decide +kernel), by decide +kernel⟩
set_option maxRecDepth 100000 in
theorem lk_S_90 : Cond.methodLinkNest R_S 90 y_B_fillOf R_B ∈ nw := List.mem_filter.mpr ⟨List.mem_of_getElem? (i := 130) (by decide +kernel), by decide +kernel⟩
set_option maxRecDepth 100000 in
theorem lk_S_53 : Cond.methodLinkNest R_S 53 y_B_firstBits R_B ∈ nw := List.mem_filter.mpr ⟨List.mem_of_getElem? (i := 133) (by decide +kernel), by decide +kernel⟩
set_option maxRecDepth 100000 in
theorem lk_S_72 : Cond.methodLink R_S 72 y_S_addGroups ∈ gw := List.mem_filter.mpr ⟨List.mem_of_getElem? (i := 136) (by decide +kernel), by decide +kernel⟩
set_option maxRecDepth 100000 in
theorem lk_S_83 : Cond.methodLink R_S 83 y_S_addWord ∈ gw := List.mem_filter.mpr ⟨List.mem_of_getElem? (i := 140) (by decide +kernel), by decide +kernel⟩
set_option maxRecDepth 100000 in
theorem lk_B_49 : Cond.methodLink R_B 49 y_S_used ∈ gw := List.mem_filter.mpr ⟨List.mem_of_getElem? (i := 144) (by decide +kernel), by decide +kernel⟩
set_option maxRecDepth 100000 in
theorem lk_L_18 : Cond.methodLink R_L 18 y_B_push ∈ gw := List.mem_filter.mpr ⟨List.mem_of_getElem? (i := 145) (by decide +kernel), by decide +kernel⟩
set_option maxRecDepth 100000 in
theorem lk_B_53 : Cond.methodLink R_B 53 y_B_stackUp ∈ gw := List.mem_filter.mpr ⟨List.mem_of_getElem? (i := 149) (by decide +kernel), by decide +kernel⟩
set_option maxRecDepth 100000 in
theorem lk_B_81 : Cond.methodLink R_B 81 y_S_size ∈ gw := List.mem_filter.mpr ⟨List.mem_of_getElem? (i := 153) (by decide +kernel), by decide +kernel⟩
set_option maxRecDepth 100000 in
theorem lk_L_23 : Cond.methodLink R_L 23 y_B_copy ∈ gw := List.mem_filter.mpr ⟨List.mem_of_getElem? (i := 154) (by decide +kernel), by decide +kernel⟩
set_option maxRecDepth 100000 in
theorem lk_L_28 : Cond.methodLink R_L 28 y_B_join ∈ gw := List.mem_filter.mpr ⟨List.mem_of_getElem? (i := 158) (by decide +kernel), by decide +kernel⟩
set_option maxRecDepth 100000 in
theorem lk_B_57 : Cond.methodLink R_B 57 y_S_addJoined ∈ gw := List.mem_filter.mpr ⟨List.mem_of_getElem? (i := 162) (by decide +kernel), by decide +kernel⟩
set_option maxRecDepth 100000 in
theorem lk_S_76 : Cond.methodLink R_S 76 y_S_groupsAt ∈ gw := List.mem_filter.mpr ⟨List.mem_of_getElem? (i := 166) (by decide +kernel), by decide +kernel⟩
set_option maxRecDepth 100000 in
theorem lk_S_79 : Cond.methodLinkNest R_S 79 y_B_joinedBits R_B ∈ nw := List.mem_filter.mpr ⟨List.mem_of_getElem? (i := 170) (by decide +kernel), by decide +kernel⟩
set_option maxRecDepth 100000 in
theorem lk_B_61 : Cond.methodLink R_B 61 y_B_replaceTop ∈ gw := List.mem_filter.mpr ⟨List.mem_of_getElem? (i := 173) (by decide +kernel), by decide +kernel⟩
set_option maxRecDepth 100000 in
theorem lk_B_98 : Cond.methodLink R_B 98 y_S_startOf ∈ gw := List.mem_filter.mpr ⟨List.mem_of_getElem? (i := 177) (by decide +kernel), by decide +kernel⟩
set_option maxRecDepth 100000 in
theorem lk_B_87 : Cond.methodLink R_B 87 y_S_drop ∈ gw := List.mem_filter.mpr ⟨List.mem_of_getElem? (i := 178) (by decide +kernel), by decide +kernel⟩
set_option maxRecDepth 100000 in
theorem lk_L_33 : Cond.methodLink R_L 33 y_B_not ∈ gw := List.mem_filter.mpr ⟨List.mem_of_getElem? (i := 182) (by decide +kernel), by decide +kernel⟩
set_option maxRecDepth 100000 in
theorem lk_B_65 : Cond.methodLink R_B 65 y_S_addOthers ∈ gw := List.mem_filter.mpr ⟨List.mem_of_getElem? (i := 186) (by decide +kernel), by decide +kernel⟩
set_option maxRecDepth 100000 in
theorem lk_L_37 : Cond.methodLink R_L 37 y_B_count ∈ gw := List.mem_filter.mpr ⟨List.mem_of_getElem? (i := 190) (by decide +kernel), by decide +kernel⟩
set_option maxRecDepth 100000 in
theorem lk_B_69 : Cond.methodLink R_B 69 y_S_rowsOf ∈ gw := List.mem_filter.mpr ⟨List.mem_of_getElem? (i := 194) (by decide +kernel), by decide +kernel⟩
set_option maxRecDepth 100000 in
theorem lk_S_41 : Cond.methodLink R_S 41 y_I_bitCount ∈ gw := List.mem_filter.mpr ⟨List.mem_of_getElem? (i := 198) (by decide +kernel), by decide +kernel⟩
set_option maxRecDepth 100000 in
theorem lk_I_265 : Cond.constant R_I 265 1431655765 ∈ gw := List.mem_filter.mpr ⟨List.mem_of_getElem? (i := 201) (by decide +kernel), by decide +kernel⟩
set_option maxRecDepth 100000 in
theorem lk_I_266 : Cond.constant R_I 266 858993459 ∈ gw := List.mem_filter.mpr ⟨List.mem_of_getElem? (i := 202) (by decide +kernel), by decide +kernel⟩
set_option maxRecDepth 100000 in
theorem lk_I_267 : Cond.constant R_I 267 252645135 ∈ gw := List.mem_filter.mpr ⟨List.mem_of_getElem? (i := 203) (by decide +kernel), by decide +kernel⟩
set_option maxRecDepth 100000 in
theorem lk_L_41 : Cond.methodLink R_L 41 y_B_after ∈ gw := List.mem_filter.mpr ⟨List.mem_of_getElem? (i := 204) (by decide +kernel), by decide +kernel⟩
set_option maxRecDepth 100000 in
theorem lk_B_72 : Cond.methodLink R_B 72 Lib.Math.max.name ∈ gw := List.mem_filter.mpr ⟨List.mem_of_getElem? (i := 208) (by decide +kernel), by decide +kernel⟩
set_option maxRecDepth 100000 in
theorem lk_B_78 : Cond.methodLink R_B 78 y_S_firstFrom ∈ gw := List.mem_filter.mpr ⟨List.mem_of_getElem? (i := 209) (by decide +kernel), by decide +kernel⟩
set_option maxRecDepth 100000 in
theorem lk_S_49 : Cond.methodLink R_S 49 y_S_firstInWord ∈ gw := List.mem_filter.mpr ⟨List.mem_of_getElem? (i := 213) (by decide +kernel), by decide +kernel⟩
set_option maxRecDepth 100000 in
theorem lk_S_56 : Cond.methodLink R_S 56 y_I_numberOfTrailingZeros ∈ gw := List.mem_filter.mpr ⟨List.mem_of_getElem? (i := 216) (by decide +kernel), by decide +kernel⟩
set_option maxRecDepth 100000 in
theorem lk_I_264 : Cond.constant R_I 264 65536 ∈ gw := List.mem_filter.mpr ⟨List.mem_of_getElem? (i := 219) (by decide +kernel), by decide +kernel⟩
set_option maxRecDepth 100000 in
theorem lk_L_45 : Cond.methodLink R_L 45 y_B_words ∈ gw := List.mem_filter.mpr ⟨List.mem_of_getElem? (i := 220) (by decide +kernel), by decide +kernel⟩
set_option maxRecDepth 100000 in
theorem lk_L_49 : Cond.methodLink R_L 49 y_B_word ∈ gw := List.mem_filter.mpr ⟨List.mem_of_getElem? (i := 224) (by decide +kernel), by decide +kernel⟩
set_option maxRecDepth 100000 in
theorem lk_B_84 : Cond.methodLink R_B 84 y_S_wordOf ∈ gw := List.mem_filter.mpr ⟨List.mem_of_getElem? (i := 228) (by decide +kernel), by decide +kernel⟩
set_option maxRecDepth 100000 in
theorem lk_L_53 : Cond.methodLink R_L 53 y_B_pop ∈ gw := List.mem_filter.mpr ⟨List.mem_of_getElem? (i := 232) (by decide +kernel), by decide +kernel⟩
set_option maxRecDepth 100000 in
theorem lk_L_57 : Cond.methodLink R_L 57 y_B_room ∈ gw := List.mem_filter.mpr ⟨List.mem_of_getElem? (i := 236) (by decide +kernel), by decide +kernel⟩
set_option maxRecDepth 100000 in
theorem lk_L_61 : Cond.methodLink R_L 61 y_B_stackRoom ∈ gw := List.mem_filter.mpr ⟨List.mem_of_getElem? (i := 240) (by decide +kernel), by decide +kernel⟩
set_option maxRecDepth 100000 in
theorem lk_L_65 : Cond.methodLink R_L 65 y_B_rows ∈ gw := List.mem_filter.mpr ⟨List.mem_of_getElem? (i := 244) (by decide +kernel), by decide +kernel⟩
set_option maxRecDepth 100000 in
theorem lk_L_10 : Cond.classLink R_L 10 R_M ∈ gw := List.mem_filter.mpr ⟨List.mem_of_getElem? (i := 248) (by decide +kernel), by decide +kernel⟩
set_option maxRecDepth 100000 in
theorem lk_L_12 : Cond.methodLink R_L 12 y_M_init ∈ gw := List.mem_filter.mpr ⟨List.mem_of_getElem? (i := 250) (by decide +kernel), by decide +kernel⟩
set_option maxRecDepth 100000 in
theorem lk_M_1 : Cond.methodLink R_M 1 Lib.objectInit ∈ gw := List.mem_filter.mpr ⟨List.mem_of_getElem? (i := 253) (by decide +kernel), by decide +kernel⟩
set_option maxRecDepth 100000 in
theorem lk_M_7 : Cond.constant R_M 7 33000 ∈ gw := List.mem_filter.mpr ⟨List.mem_of_getElem? (i := 254) (by decide +kernel), by decide +kernel⟩
set_option maxRecDepth 100000 in
theorem lk_M_14 : Cond.constant R_M 14 66000 ∈ gw := List.mem_filter.mpr ⟨List.mem_of_getElem? (i := 255) (by decide +kernel), by decide +kernel⟩
set_option maxRecDepth 100000 in
theorem lk_M_18 : Cond.constant R_M 18 200000 ∈ gw := List.mem_filter.mpr ⟨List.mem_of_getElem? (i := 256) (by decide +kernel), by decide +kernel⟩
set_option maxRecDepth 100000 in
theorem lk_M_8 : Cond.fieldLink R_M 8 "RunBitmapsModel" "ends" "[I" ∈ gw := List.mem_filter.mpr ⟨List.mem_of_getElem? (i := 257) (by decide +kernel), by decide +kernel⟩
set_option maxRecDepth 100000 in
theorem lk_M_15 : Cond.fieldLink R_M 15 "RunBitmapsModel" "values" "[I" ∈ gw := List.mem_filter.mpr ⟨List.mem_of_getElem? (i := 258) (by decide +kernel), by decide +kernel⟩
set_option maxRecDepth 100000 in
theorem lk_M_25 : Cond.fieldLink R_M 25 "RunBitmapsModel" "runs" "I" ∈ gw := List.mem_filter.mpr ⟨List.mem_of_getElem? (i := 259) (by decide +kernel), by decide +kernel⟩
set_option maxRecDepth 100000 in
theorem lk_M_19 : Cond.fieldLink R_M 19 "RunBitmapsModel" "lines" "[I" ∈ gw := List.mem_filter.mpr ⟨List.mem_of_getElem? (i := 260) (by decide +kernel), by decide +kernel⟩
set_option maxRecDepth 100000 in
theorem lk_M_22 : Cond.fieldLink R_M 22 "RunBitmapsModel" "begins" "[I" ∈ gw := List.mem_filter.mpr ⟨List.mem_of_getElem? (i := 261) (by decide +kernel), by decide +kernel⟩
set_option maxRecDepth 100000 in
theorem lk_M_54 : Cond.fieldLink R_M 54 "RunBitmapsModel" "sets" "I" ∈ gw := List.mem_filter.mpr ⟨List.mem_of_getElem? (i := 262) (by decide +kernel), by decide +kernel⟩
set_option maxRecDepth 100000 in
theorem lk_M_38 : Cond.fieldLink R_M 38 "RunBitmapsModel" "place" "I" ∈ gw := List.mem_filter.mpr ⟨List.mem_of_getElem? (i := 263) (by decide +kernel), by decide +kernel⟩
set_option maxRecDepth 100000 in
theorem lk_M_29 : Cond.fieldLink R_M 29 "RunBitmapsModel" "wordsSeen" "I" ∈ gw := List.mem_filter.mpr ⟨List.mem_of_getElem? (i := 264) (by decide +kernel), by decide +kernel⟩
set_option maxRecDepth 100000 in
theorem lk_M_32 : Cond.fieldLink R_M 32 "RunBitmapsModel" "wordWanted" "I" ∈ gw := List.mem_filter.mpr ⟨List.mem_of_getElem? (i := 265) (by decide +kernel), by decide +kernel⟩
set_option maxRecDepth 100000 in
theorem lk_M_35 : Cond.fieldLink R_M 35 "RunBitmapsModel" "wordFound" "I" ∈ gw := List.mem_filter.mpr ⟨List.mem_of_getElem? (i := 266) (by decide +kernel), by decide +kernel⟩
set_option maxRecDepth 100000 in
theorem lk_L_68 : Cond.methodLink R_L 68 y_M_rows ∈ gw := List.mem_filter.mpr ⟨List.mem_of_getElem? (i := 288) (by decide +kernel), by decide +kernel⟩
set_option maxRecDepth 100000 in
theorem lk_L_60 : Cond.methodLink R_L 60 y_M_room ∈ gw := List.mem_filter.mpr ⟨List.mem_of_getElem? (i := 292) (by decide +kernel), by decide +kernel⟩
set_option maxRecDepth 100000 in
theorem lk_M_57 : Cond.methodLink R_M 57 y_M_layValue ∈ gw := List.mem_filter.mpr ⟨List.mem_of_getElem? (i := 296) (by decide +kernel), by decide +kernel⟩
set_option maxRecDepth 100000 in
theorem lk_M_61 : Cond.methodLink R_M 61 y_M_goAlong ∈ gw := List.mem_filter.mpr ⟨List.mem_of_getElem? (i := 300) (by decide +kernel), by decide +kernel⟩
set_option maxRecDepth 100000 in
theorem lk_M_41 : Cond.methodLink R_M 41 y_M_rows ∈ gw := List.mem_filter.mpr ⟨List.mem_of_getElem? (i := 304) (by decide +kernel), by decide +kernel⟩
set_option maxRecDepth 100000 in
theorem lk_M_45 : Cond.constant R_M 45 2147483647 ∈ gw := List.mem_filter.mpr ⟨List.mem_of_getElem? (i := 305) (by decide +kernel), by decide +kernel⟩
set_option maxRecDepth 100000 in
theorem lk_M_46 : Cond.methodLink R_M 46 y_M_see ∈ gw := List.mem_filter.mpr ⟨List.mem_of_getElem? (i := 306) (by decide +kernel), by decide +kernel⟩
set_option maxRecDepth 100000 in
theorem lk_M_50 : Cond.methodLink R_M 50 y_M_literal ∈ gw := List.mem_filter.mpr ⟨List.mem_of_getElem? (i := 310) (by decide +kernel), by decide +kernel⟩
set_option maxRecDepth 100000 in
theorem lk_L_17 : Cond.methodLink R_L 17 y_M_append ∈ gw := List.mem_filter.mpr ⟨List.mem_of_getElem? (i := 314) (by decide +kernel), by decide +kernel⟩
set_option maxRecDepth 100000 in
theorem lk_M_64 : Cond.constant R_M 64 1000000 ∈ gw := List.mem_filter.mpr ⟨List.mem_of_getElem? (i := 318) (by decide +kernel), by decide +kernel⟩
set_option maxRecDepth 100000 in
theorem lk_M_65 : Cond.methodLink R_M 65 y_M_room ∈ gw := List.mem_filter.mpr ⟨List.mem_of_getElem? (i := 319) (by decide +kernel), by decide +kernel⟩
set_option maxRecDepth 100000 in
theorem lk_L_64 : Cond.methodLink R_L 64 y_M_stackRoom ∈ gw := List.mem_filter.mpr ⟨List.mem_of_getElem? (i := 320) (by decide +kernel), by decide +kernel⟩
set_option maxRecDepth 100000 in
theorem lk_M_68 : Cond.methodLink R_M 68 y_M_wordsOf ∈ gw := List.mem_filter.mpr ⟨List.mem_of_getElem? (i := 324) (by decide +kernel), by decide +kernel⟩
set_option maxRecDepth 100000 in
theorem lk_L_22 : Cond.methodLink R_L 22 y_M_push ∈ gw := List.mem_filter.mpr ⟨List.mem_of_getElem? (i := 328) (by decide +kernel), by decide +kernel⟩
set_option maxRecDepth 100000 in
theorem lk_M_75 : Cond.methodLink R_M 75 y_M_comes ∈ gw := List.mem_filter.mpr ⟨List.mem_of_getElem? (i := 332) (by decide +kernel), by decide +kernel⟩
set_option maxRecDepth 100000 in
theorem lk_M_72 : Cond.methodLink R_M 72 y_M_stackRoom ∈ gw := List.mem_filter.mpr ⟨List.mem_of_getElem? (i := 336) (by decide +kernel), by decide +kernel⟩
set_option maxRecDepth 100000 in
theorem lk_L_27 : Cond.methodLink R_L 27 y_M_copy ∈ gw := List.mem_filter.mpr ⟨List.mem_of_getElem? (i := 337) (by decide +kernel), by decide +kernel⟩
set_option maxRecDepth 100000 in
theorem lk_L_32 : Cond.methodLink R_L 32 y_M_join ∈ gw := List.mem_filter.mpr ⟨List.mem_of_getElem? (i := 341) (by decide +kernel), by decide +kernel⟩
set_option maxRecDepth 100000 in
theorem lk_M_83 : Cond.methodLink R_M 83 y_M_layJoined ∈ gw := List.mem_filter.mpr ⟨List.mem_of_getElem? (i := 345) (by decide +kernel), by decide +kernel⟩
set_option maxRecDepth 100000 in
theorem lk_M_79 : Cond.methodLink R_M 79 y_M_is ∈ gw := List.mem_filter.mpr ⟨List.mem_of_getElem? (i := 349) (by decide +kernel), by decide +kernel⟩
set_option maxRecDepth 100000 in
theorem lk_M_87 : Cond.methodLink R_M 87 y_M_become ∈ gw := List.mem_filter.mpr ⟨List.mem_of_getElem? (i := 352) (by decide +kernel), by decide +kernel⟩
set_option maxRecDepth 100000 in
theorem lk_L_36 : Cond.methodLink R_L 36 y_M_not ∈ gw := List.mem_filter.mpr ⟨List.mem_of_getElem? (i := 356) (by decide +kernel), by decide +kernel⟩
set_option maxRecDepth 100000 in
theorem lk_L_40 : Cond.methodLink R_L 40 y_M_count ∈ gw := List.mem_filter.mpr ⟨List.mem_of_getElem? (i := 360) (by decide +kernel), by decide +kernel⟩
set_option maxRecDepth 100000 in
theorem lk_L_44 : Cond.methodLink R_L 44 y_M_after ∈ gw := List.mem_filter.mpr ⟨List.mem_of_getElem? (i := 364) (by decide +kernel), by decide +kernel⟩
set_option maxRecDepth 100000 in
theorem lk_L_48 : Cond.methodLink R_L 48 y_M_words ∈ gw := List.mem_filter.mpr ⟨List.mem_of_getElem? (i := 368) (by decide +kernel), by decide +kernel⟩
set_option maxRecDepth 100000 in
theorem lk_L_52 : Cond.methodLink R_L 52 y_M_word ∈ gw := List.mem_filter.mpr ⟨List.mem_of_getElem? (i := 372) (by decide +kernel), by decide +kernel⟩
set_option maxRecDepth 100000 in
theorem lk_L_56 : Cond.methodLink R_L 56 y_M_pop ∈ gw := List.mem_filter.mpr ⟨List.mem_of_getElem? (i := 376) (by decide +kernel), by decide +kernel⟩
set_option maxRecDepth 100000 in
theorem ini_L : Cond.initialized "RunBitmapsLaw" ∈ gw := List.mem_filter.mpr ⟨List.mem_of_getElem? (i := 16) (by decide +kernel), by decide +kernel⟩
set_option maxRecDepth 100000 in
theorem ini_B : Cond.initialized "RunBitmaps" ∈ gw := List.mem_filter.mpr ⟨List.mem_of_getElem? (i := 17) (by decide +kernel), by decide +kernel⟩
set_option maxRecDepth 100000 in
theorem ini_S : Cond.initialized "RunBitmaps$Shelf" ∈ gw := List.mem_filter.mpr ⟨List.mem_of_getElem? (i := 18) (by decide +kernel), by decide +kernel⟩
set_option maxRecDepth 100000 in
theorem ini_M : Cond.initialized "RunBitmapsModel" ∈ gw := List.mem_filter.mpr ⟨List.mem_of_getElem? (i := 19) (by decide +kernel), by decide +kernel⟩
set_option maxRecDepth 100000 in
theorem ini_Ma : Cond.initialized "java/lang/Math" ∈ gw := List.mem_filter.mpr ⟨List.mem_of_getElem? (i := 20) (by decide +kernel), by decide +kernel⟩
set_option maxRecDepth 100000 in
theorem ini_Sy : Cond.initialized "java/lang/System" ∈ gw := List.mem_filter.mpr ⟨List.mem_of_getElem? (i := 21) (by decide +kernel), by decide +kernel⟩
set_option maxRecDepth 100000 in
theorem ini_I : Cond.initialized "java/lang/Integer" ∈ gw := List.mem_filter.mpr ⟨List.mem_of_getElem? (i := 22) (by decide +kernel), by decide +kernel⟩
set_option maxRecDepth 100000 in
theorem ist_B : Cond.instantiable R_B 5 ∈ gw := List.mem_filter.mpr ⟨List.mem_of_getElem? (i := 24) (by decide +kernel), by decide +kernel⟩
set_option maxRecDepth 100000 in
theorem ist_S : Cond.instantiable R_S 3 ∈ gw := List.mem_filter.mpr ⟨List.mem_of_getElem? (i := 32) (by decide +kernel), by decide +kernel⟩
set_option maxRecDepth 100000 in
theorem arr_int : Cond.arrayClass .int ∈ gw := List.mem_filter.mpr ⟨List.mem_of_getElem? (i := 48) (by decide +kernel), by decide +kernel⟩
set_option maxRecDepth 100000 in
theorem ist_M : Cond.instantiable R_M 10 ∈ gw := List.mem_filter.mpr ⟨List.mem_of_getElem? (i := 249) (by decide +kernel), by decide +kernel⟩
set_option maxRecDepth 100000 in
theorem oi_inst : Cond.instanceMethod Lib.objectInit ∈ gw := List.mem_filter.mpr ⟨List.mem_of_getElem? (i := 29) (by decide +kernel), by decide +kernel⟩
set_option maxRecDepth 100000 in
theorem oi_code : Cond.code Lib.objectInit ⟨#[0xb1]⟩ 1 none ∈ gw := List.mem_filter.mpr ⟨List.mem_of_getElem? (i := 30) (by decide +kernel), by decide +kernel⟩
set_option maxRecDepth 100000 in
theorem ma_max_st : Cond.static Lib.Math.max.name ∈ gw := List.mem_filter.mpr ⟨List.mem_of_getElem? (i := 101) (by decide +kernel), by decide +kernel⟩
set_option maxRecDepth 100000 in
theorem ma_max_cd : Cond.code Lib.Math.max.name Lib.Math.max.code 2 (some .int) ∈ gw := List.mem_filter.mpr ⟨List.mem_of_getElem? (i := 102) (by decide +kernel), by decide +kernel⟩
set_option maxRecDepth 100000 in
theorem ma_min_st : Cond.static Lib.Math.min.name ∈ gw := List.mem_filter.mpr ⟨List.mem_of_getElem? (i := 98) (by decide +kernel), by decide +kernel⟩
set_option maxRecDepth 100000 in
theorem ma_min_cd : Cond.code Lib.Math.min.name Lib.Math.min.code 2 (some .int) ∈ gw := List.mem_filter.mpr ⟨List.mem_of_getElem? (i := 99) (by decide +kernel), by decide +kernel⟩
set_option maxRecDepth 100000 in
theorem ac_nat : Cond.native arraycopyName ∈ gw := List.mem_filter.mpr ⟨List.mem_of_getElem? (i := 109) (by decide +kernel), by decide +kernel⟩
set_option maxRecDepth 100000 in
theorem ac_st : Cond.static arraycopyName ∈ gw := List.mem_filter.mpr ⟨List.mem_of_getElem? (i := 108) (by decide +kernel), by decide +kernel⟩
set_option maxRecDepth 100000 in
theorem cd_B_init : Cond.code y_B_init b_B_init 2 none ∈ gw ∧ Cond.initialized y_B_init.cls ∈ gw ∧ Cond.instanceMethod y_B_init ∈ gw ∧ y_B_init.name = "<init>" := ⟨List.mem_filter.mpr ⟨List.mem_of_getElem? (i := 27) (by decide +kernel), by decide +kernel⟩, ini_B, List.mem_filter.mpr ⟨List.mem_of_getElem? (i := 26) (by decide +kernel), by decide +kernel⟩, rfl⟩
set_option maxRecDepth 100000 in
theorem dd_B_init : (y_B_init.cls ≠ "java/lang/invoke/MethodHandle" ∧ y_B_init.cls ≠ "java/lang/invoke/VarHandle") ∧ (parseMethodDescriptor y_B_init.desc).map (fun d => d.parameters.length) = some 0 := by decide +kernel
set_option maxRecDepth 100000 in
theorem cd_S_init : Cond.code y_S_init b_S_init 3 none ∈ gw ∧ Cond.initialized y_S_init.cls ∈ gw ∧ Cond.instanceMethod y_S_init ∈ gw ∧ y_S_init.name = "<init>" := ⟨List.mem_filter.mpr ⟨List.mem_of_getElem? (i := 35) (by decide +kernel), by decide +kernel⟩, ini_S, List.mem_filter.mpr ⟨List.mem_of_getElem? (i := 34) (by decide +kernel), by decide +kernel⟩, rfl⟩
set_option maxRecDepth 100000 in
theorem dd_S_init : (y_S_init.cls ≠ "java/lang/invoke/MethodHandle" ∧ y_S_init.cls ≠ "java/lang/invoke/VarHandle") ∧ (parseMethodDescriptor y_S_init.desc).map (fun d => d.parameters.length) = some 2 := by decide +kernel
set_option maxRecDepth 100000 in
theorem cd_S_open : Cond.code y_S_open b_S_open 1 none ∈ gw ∧ Cond.initialized y_S_open.cls ∈ gw ∧ Cond.instanceMethod y_S_open ∈ gw ∧ Cond.selects y_S_open.cls y_S_open y_S_open ∈ gw := ⟨List.mem_filter.mpr ⟨List.mem_of_getElem? (i := 52) (by decide +kernel), by decide +kernel⟩, ini_S, List.mem_filter.mpr ⟨List.mem_of_getElem? (i := 50) (by decide +kernel), by decide +kernel⟩, List.mem_filter.mpr ⟨List.mem_of_getElem? (i := 51) (by decide +kernel), by decide +kernel⟩⟩
set_option maxRecDepth 100000 in
theorem dd_S_open : (y_S_open.cls ≠ "java/lang/invoke/MethodHandle" ∧ y_S_open.cls ≠ "java/lang/invoke/VarHandle") ∧ (parseMethodDescriptor y_S_open.desc).map (fun d => d.parameters.length) = some 0 := by decide +kernel
set_option maxRecDepth 100000 in
theorem cd_B_append : Cond.code y_B_append b_B_append 5 (some .int) ∈ gw ∧ Cond.initialized y_B_append.cls ∈ gw ∧ Cond.instanceMethod y_B_append ∈ gw ∧ Cond.selects y_B_append.cls y_B_append y_B_append ∈ gw := ⟨List.mem_filter.mpr ⟨List.mem_of_getElem? (i := 72) (by decide +kernel), by decide +kernel⟩, ini_B, List.mem_filter.mpr ⟨List.mem_of_getElem? (i := 70) (by decide +kernel), by decide +kernel⟩, List.mem_filter.mpr ⟨List.mem_of_getElem? (i := 71) (by decide +kernel), by decide +kernel⟩⟩
set_option maxRecDepth 100000 in
theorem dd_B_append : (y_B_append.cls ≠ "java/lang/invoke/MethodHandle" ∧ y_B_append.cls ≠ "java/lang/invoke/VarHandle") ∧ (parseMethodDescriptor y_B_append.desc).map (fun d => d.parameters.length) = some 3 := by decide +kernel
set_option maxRecDepth 100000 in
theorem cd_B_isValue : Cond.code y_B_isValue b_B_isValue 1 (some .boolean) ∈ gw ∧ Cond.initialized y_B_isValue.cls ∈ gw ∧ Cond.static y_B_isValue ∈ gw := ⟨List.mem_filter.mpr ⟨List.mem_of_getElem? (i := 75) (by decide +kernel), by decide +kernel⟩, ini_B, List.mem_filter.mpr ⟨List.mem_of_getElem? (i := 74) (by decide +kernel), by decide +kernel⟩⟩
set_option maxRecDepth 100000 in
theorem dd_B_isValue : (y_B_isValue.cls ≠ "java/lang/invoke/MethodHandle" ∧ y_B_isValue.cls ≠ "java/lang/invoke/VarHandle") ∧ (parseMethodDescriptor y_B_isValue.desc).map (fun d => d.parameters.length) = some 1 := by decide +kernel
set_option maxRecDepth 100000 in
theorem cd_S_clear : Cond.code y_S_clear b_S_clear 1 none ∈ gw ∧ Cond.initialized y_S_clear.cls ∈ gw ∧ Cond.instanceMethod y_S_clear ∈ gw ∧ Cond.selects y_S_clear.cls y_S_clear y_S_clear ∈ gw := ⟨List.mem_filter.mpr ⟨List.mem_of_getElem? (i := 80) (by decide +kernel), by decide +kernel⟩, ini_S, List.mem_filter.mpr ⟨List.mem_of_getElem? (i := 78) (by decide +kernel), by decide +kernel⟩, List.mem_filter.mpr ⟨List.mem_of_getElem? (i := 79) (by decide +kernel), by decide +kernel⟩⟩
set_option maxRecDepth 100000 in
theorem dd_S_clear : (y_S_clear.cls ≠ "java/lang/invoke/MethodHandle" ∧ y_S_clear.cls ≠ "java/lang/invoke/VarHandle") ∧ (parseMethodDescriptor y_S_clear.desc).map (fun d => d.parameters.length) = some 0 := by decide +kernel
set_option maxRecDepth 100000 in
theorem cd_B_draftColumn : Cond.code y_B_draftColumn b_B_draftColumn 5 none ∈ gw ∧ Cond.initialized y_B_draftColumn.cls ∈ gw ∧ Cond.instanceMethod y_B_draftColumn ∈ gw ∧ Cond.selects y_B_draftColumn.cls y_B_draftColumn y_B_draftColumn ∈ gw := ⟨List.mem_filter.mpr ⟨List.mem_of_getElem? (i := 84) (by decide +kernel), by decide +kernel⟩, ini_B, List.mem_filter.mpr ⟨List.mem_of_getElem? (i := 83) (by decide +kernel), by decide +kernel⟩, List.mem_filter.mpr ⟨List.mem_of_getElem? (i := 0) (by decide +kernel), by decide +kernel⟩⟩
set_option maxRecDepth 100000 in
theorem dd_B_draftColumn : (y_B_draftColumn.cls ≠ "java/lang/invoke/MethodHandle" ∧ y_B_draftColumn.cls ≠ "java/lang/invoke/VarHandle") ∧ (parseMethodDescriptor y_B_draftColumn.desc).map (fun d => d.parameters.length) = some 3 := by decide +kernel
set_option maxRecDepth 100000 in
theorem cd_S_addSet : Cond.code y_S_addSet b_S_addSet 4 none ∈ gw ∧ Cond.initialized y_S_addSet.cls ∈ gw ∧ Cond.instanceMethod y_S_addSet ∈ gw ∧ Cond.selects y_S_addSet.cls y_S_addSet y_S_addSet ∈ gw := ⟨List.mem_filter.mpr ⟨List.mem_of_getElem? (i := 88) (by decide +kernel), by decide +kernel⟩, ini_S, List.mem_filter.mpr ⟨List.mem_of_getElem? (i := 86) (by decide +kernel), by decide +kernel⟩, List.mem_filter.mpr ⟨List.mem_of_getElem? (i := 87) (by decide +kernel), by decide +kernel⟩⟩
set_option maxRecDepth 100000 in
theorem dd_S_addSet : (y_S_addSet.cls ≠ "java/lang/invoke/MethodHandle" ∧ y_S_addSet.cls ≠ "java/lang/invoke/VarHandle") ∧ (parseMethodDescriptor y_S_addSet.desc).map (fun d => d.parameters.length) = some 2 := by decide +kernel
set_option maxRecDepth 100000 in
theorem cd_S_size : Cond.code y_S_size b_S_size 2 (some .int) ∈ gw ∧ Cond.initialized y_S_size.cls ∈ gw ∧ Cond.instanceMethod y_S_size ∈ gw ∧ Cond.selects y_S_size.cls y_S_size y_S_size ∈ gw := ⟨List.mem_filter.mpr ⟨List.mem_of_getElem? (i := 92) (by decide +kernel), by decide +kernel⟩, ini_S, List.mem_filter.mpr ⟨List.mem_of_getElem? (i := 90) (by decide +kernel), by decide +kernel⟩, List.mem_filter.mpr ⟨List.mem_of_getElem? (i := 91) (by decide +kernel), by decide +kernel⟩⟩
set_option maxRecDepth 100000 in
theorem dd_S_size : (y_S_size.cls ≠ "java/lang/invoke/MethodHandle" ∧ y_S_size.cls ≠ "java/lang/invoke/VarHandle") ∧ (parseMethodDescriptor y_S_size.desc).map (fun d => d.parameters.length) = some 1 := by decide +kernel
set_option maxRecDepth 100000 in
theorem cd_S_startOf : Cond.code y_S_startOf b_S_startOf 2 (some .int) ∈ gw ∧ Cond.initialized y_S_startOf.cls ∈ gw ∧ Cond.instanceMethod y_S_startOf ∈ gw ∧ Cond.selects y_S_startOf.cls y_S_startOf y_S_startOf ∈ gw := ⟨List.mem_filter.mpr ⟨List.mem_of_getElem? (i := 96) (by decide +kernel), by decide +kernel⟩, ini_S, List.mem_filter.mpr ⟨List.mem_of_getElem? (i := 94) (by decide +kernel), by decide +kernel⟩, List.mem_filter.mpr ⟨List.mem_of_getElem? (i := 95) (by decide +kernel), by decide +kernel⟩⟩
set_option maxRecDepth 100000 in
theorem dd_S_startOf : (y_S_startOf.cls ≠ "java/lang/invoke/MethodHandle" ∧ y_S_startOf.cls ≠ "java/lang/invoke/VarHandle") ∧ (parseMethodDescriptor y_S_startOf.desc).map (fun d => d.parameters.length) = some 1 := by decide +kernel
set_option maxRecDepth 100000 in
theorem cd_S_used : Cond.code y_S_used b_S_used 1 (some .int) ∈ gw ∧ Cond.initialized y_S_used.cls ∈ gw ∧ Cond.instanceMethod y_S_used ∈ gw ∧ Cond.selects y_S_used.cls y_S_used y_S_used ∈ gw := ⟨List.mem_filter.mpr ⟨List.mem_of_getElem? (i := 106) (by decide +kernel), by decide +kernel⟩, ini_S, List.mem_filter.mpr ⟨List.mem_of_getElem? (i := 104) (by decide +kernel), by decide +kernel⟩, List.mem_filter.mpr ⟨List.mem_of_getElem? (i := 105) (by decide +kernel), by decide +kernel⟩⟩
set_option maxRecDepth 100000 in
theorem dd_S_used : (y_S_used.cls ≠ "java/lang/invoke/MethodHandle" ∧ y_S_used.cls ≠ "java/lang/invoke/VarHandle") ∧ (parseMethodDescriptor y_S_used.desc).map (fun d => d.parameters.length) = some 0 := by decide +kernel
set_option maxRecDepth 100000 in
theorem cd_S_addRows : Cond.code y_S_addRows b_S_addRows 7 none ∈ gw ∧ Cond.initialized y_S_addRows.cls ∈ gw ∧ Cond.instanceMethod y_S_addRows ∈ gw ∧ Cond.selects y_S_addRows.cls y_S_addRows y_S_addRows ∈ gw := ⟨List.mem_filter.mpr ⟨List.mem_of_getElem? (i := 113) (by decide +kernel), by decide +kernel⟩, ini_S, List.mem_filter.mpr ⟨List.mem_of_getElem? (i := 111) (by decide +kernel), by decide +kernel⟩, List.mem_filter.mpr ⟨List.mem_of_getElem? (i := 112) (by decide +kernel), by decide +kernel⟩⟩
set_option maxRecDepth 100000 in
theorem dd_S_addRows : (y_S_addRows.cls ≠ "java/lang/invoke/MethodHandle" ∧ y_S_addRows.cls ≠ "java/lang/invoke/VarHandle") ∧ (parseMethodDescriptor y_S_addRows.desc).map (fun d => d.parameters.length) = some 3 := by decide +kernel
set_option maxRecDepth 100000 in
theorem cd_S_takeGroup : Cond.code y_S_takeGroup b_S_takeGroup 2 (some .int) ∈ gw ∧ Cond.initialized y_S_takeGroup.cls ∈ gw ∧ Cond.instanceMethod y_S_takeGroup ∈ gw ∧ Cond.selects y_S_takeGroup.cls y_S_takeGroup y_S_takeGroup ∈ gw := ⟨List.mem_filter.mpr ⟨List.mem_of_getElem? (i := 118) (by decide +kernel), by decide +kernel⟩, ini_S, List.mem_filter.mpr ⟨List.mem_of_getElem? (i := 117) (by decide +kernel), by decide +kernel⟩, List.mem_filter.mpr ⟨List.mem_of_getElem? (i := 1) (by decide +kernel), by decide +kernel⟩⟩
set_option maxRecDepth 100000 in
theorem dd_S_takeGroup : (y_S_takeGroup.cls ≠ "java/lang/invoke/MethodHandle" ∧ y_S_takeGroup.cls ≠ "java/lang/invoke/VarHandle") ∧ (parseMethodDescriptor y_S_takeGroup.desc).map (fun d => d.parameters.length) = some 0 := by decide +kernel
set_option maxRecDepth 100000 in
theorem cd_S_lastWord : Cond.code y_S_lastWord b_S_lastWord 1 (some .int) ∈ gw ∧ Cond.initialized y_S_lastWord.cls ∈ gw ∧ Cond.instanceMethod y_S_lastWord ∈ gw ∧ Cond.selects y_S_lastWord.cls y_S_lastWord y_S_lastWord ∈ gw := ⟨List.mem_filter.mpr ⟨List.mem_of_getElem? (i := 122) (by decide +kernel), by decide +kernel⟩, ini_S, List.mem_filter.mpr ⟨List.mem_of_getElem? (i := 121) (by decide +kernel), by decide +kernel⟩, List.mem_filter.mpr ⟨List.mem_of_getElem? (i := 2) (by decide +kernel), by decide +kernel⟩⟩
set_option maxRecDepth 100000 in
theorem dd_S_lastWord : (y_S_lastWord.cls ≠ "java/lang/invoke/MethodHandle" ∧ y_S_lastWord.cls ≠ "java/lang/invoke/VarHandle") ∧ (parseMethodDescriptor y_S_lastWord.desc).map (fun d => d.parameters.length) = some 0 := by decide +kernel
set_option maxRecDepth 100000 in
theorem cd_B_groupsOf : Cond.code y_B_groupsOf b_B_groupsOf 1 (some .int) ∈ gw ∧ Cond.initialized y_B_groupsOf.cls ∈ gw ∧ Cond.static y_B_groupsOf ∈ gw := ⟨List.mem_filter.mpr ⟨List.mem_of_getElem? (i := 125) (by decide +kernel), by decide +kernel⟩, ini_B, List.mem_filter.mpr ⟨List.mem_of_getElem? (i := 124) (by decide +kernel), by decide +kernel⟩⟩
set_option maxRecDepth 100000 in
theorem dd_B_groupsOf : (y_B_groupsOf.cls ≠ "java/lang/invoke/MethodHandle" ∧ y_B_groupsOf.cls ≠ "java/lang/invoke/VarHandle") ∧ (parseMethodDescriptor y_B_groupsOf.desc).map (fun d => d.parameters.length) = some 1 := by decide +kernel
set_option maxRecDepth 100000 in
theorem cd_B_bitsOf : Cond.code y_B_bitsOf b_B_bitsOf 1 (some .int) ∈ gw ∧ Cond.initialized y_B_bitsOf.cls ∈ gw ∧ Cond.static y_B_bitsOf ∈ gw := ⟨List.mem_filter.mpr ⟨List.mem_of_getElem? (i := 128) (by decide +kernel), by decide +kernel⟩, ini_B, List.mem_filter.mpr ⟨List.mem_of_getElem? (i := 127) (by decide +kernel), by decide +kernel⟩⟩
set_option maxRecDepth 100000 in
theorem dd_B_bitsOf : (y_B_bitsOf.cls ≠ "java/lang/invoke/MethodHandle" ∧ y_B_bitsOf.cls ≠ "java/lang/invoke/VarHandle") ∧ (parseMethodDescriptor y_B_bitsOf.desc).map (fun d => d.parameters.length) = some 1 := by decide +kernel
set_option maxRecDepth 100000 in
theorem cd_B_fillOf : Cond.code y_B_fillOf b_B_fillOf 2 (some .int) ∈ gw ∧ Cond.initialized y_B_fillOf.cls ∈ gw ∧ Cond.static y_B_fillOf ∈ gw := ⟨List.mem_filter.mpr ⟨List.mem_of_getElem? (i := 132) (by decide +kernel), by decide +kernel⟩, ini_B, List.mem_filter.mpr ⟨List.mem_of_getElem? (i := 131) (by decide +kernel), by decide +kernel⟩⟩
set_option maxRecDepth 100000 in
theorem dd_B_fillOf : (y_B_fillOf.cls ≠ "java/lang/invoke/MethodHandle" ∧ y_B_fillOf.cls ≠ "java/lang/invoke/VarHandle") ∧ (parseMethodDescriptor y_B_fillOf.desc).map (fun d => d.parameters.length) = some 2 := by decide +kernel
set_option maxRecDepth 100000 in
theorem cd_B_firstBits : Cond.code y_B_firstBits b_B_firstBits 1 (some .int) ∈ gw ∧ Cond.initialized y_B_firstBits.cls ∈ gw ∧ Cond.static y_B_firstBits ∈ gw := ⟨List.mem_filter.mpr ⟨List.mem_of_getElem? (i := 135) (by decide +kernel), by decide +kernel⟩, ini_B, List.mem_filter.mpr ⟨List.mem_of_getElem? (i := 134) (by decide +kernel), by decide +kernel⟩⟩
set_option maxRecDepth 100000 in
theorem dd_B_firstBits : (y_B_firstBits.cls ≠ "java/lang/invoke/MethodHandle" ∧ y_B_firstBits.cls ≠ "java/lang/invoke/VarHandle") ∧ (parseMethodDescriptor y_B_firstBits.desc).map (fun d => d.parameters.length) = some 1 := by decide +kernel
set_option maxRecDepth 100000 in
theorem cd_S_addGroups : Cond.code y_S_addGroups b_S_addGroups 4 none ∈ gw ∧ Cond.initialized y_S_addGroups.cls ∈ gw ∧ Cond.instanceMethod y_S_addGroups ∈ gw ∧ Cond.selects y_S_addGroups.cls y_S_addGroups y_S_addGroups ∈ gw := ⟨List.mem_filter.mpr ⟨List.mem_of_getElem? (i := 139) (by decide +kernel), by decide +kernel⟩, ini_S, List.mem_filter.mpr ⟨List.mem_of_getElem? (i := 138) (by decide +kernel), by decide +kernel⟩, List.mem_filter.mpr ⟨List.mem_of_getElem? (i := 3) (by decide +kernel), by decide +kernel⟩⟩
set_option maxRecDepth 100000 in
theorem dd_S_addGroups : (y_S_addGroups.cls ≠ "java/lang/invoke/MethodHandle" ∧ y_S_addGroups.cls ≠ "java/lang/invoke/VarHandle") ∧ (parseMethodDescriptor y_S_addGroups.desc).map (fun d => d.parameters.length) = some 2 := by decide +kernel
set_option maxRecDepth 100000 in
theorem cd_S_addWord : Cond.code y_S_addWord b_S_addWord 2 none ∈ gw ∧ Cond.initialized y_S_addWord.cls ∈ gw ∧ Cond.instanceMethod y_S_addWord ∈ gw ∧ Cond.selects y_S_addWord.cls y_S_addWord y_S_addWord ∈ gw := ⟨List.mem_filter.mpr ⟨List.mem_of_getElem? (i := 143) (by decide +kernel), by decide +kernel⟩, ini_S, List.mem_filter.mpr ⟨List.mem_of_getElem? (i := 142) (by decide +kernel), by decide +kernel⟩, List.mem_filter.mpr ⟨List.mem_of_getElem? (i := 4) (by decide +kernel), by decide +kernel⟩⟩
set_option maxRecDepth 100000 in
theorem dd_S_addWord : (y_S_addWord.cls ≠ "java/lang/invoke/MethodHandle" ∧ y_S_addWord.cls ≠ "java/lang/invoke/VarHandle") ∧ (parseMethodDescriptor y_S_addWord.desc).map (fun d => d.parameters.length) = some 1 := by decide +kernel
set_option maxRecDepth 100000 in
theorem cd_B_push : Cond.code y_B_push b_B_push 3 (some .int) ∈ gw ∧ Cond.initialized y_B_push.cls ∈ gw ∧ Cond.instanceMethod y_B_push ∈ gw ∧ Cond.selects y_B_push.cls y_B_push y_B_push ∈ gw := ⟨List.mem_filter.mpr ⟨List.mem_of_getElem? (i := 148) (by decide +kernel), by decide +kernel⟩, ini_B, List.mem_filter.mpr ⟨List.mem_of_getElem? (i := 146) (by decide +kernel), by decide +kernel⟩, List.mem_filter.mpr ⟨List.mem_of_getElem? (i := 147) (by decide +kernel), by decide +kernel⟩⟩
set_option maxRecDepth 100000 in
theorem dd_B_push : (y_B_push.cls ≠ "java/lang/invoke/MethodHandle" ∧ y_B_push.cls ≠ "java/lang/invoke/VarHandle") ∧ (parseMethodDescriptor y_B_push.desc).map (fun d => d.parameters.length) = some 2 := by decide +kernel
set_option maxRecDepth 100000 in
theorem cd_B_stackUp : Cond.code y_B_stackUp b_B_stackUp 3 (some .int) ∈ gw ∧ Cond.initialized y_B_stackUp.cls ∈ gw ∧ Cond.instanceMethod y_B_stackUp ∈ gw ∧ Cond.selects y_B_stackUp.cls y_B_stackUp y_B_stackUp ∈ gw := ⟨List.mem_filter.mpr ⟨List.mem_of_getElem? (i := 152) (by decide +kernel), by decide +kernel⟩, ini_B, List.mem_filter.mpr ⟨List.mem_of_getElem? (i := 151) (by decide +kernel), by decide +kernel⟩, List.mem_filter.mpr ⟨List.mem_of_getElem? (i := 5) (by decide +kernel), by decide +kernel⟩⟩
set_option maxRecDepth 100000 in
theorem dd_B_stackUp : (y_B_stackUp.cls ≠ "java/lang/invoke/MethodHandle" ∧ y_B_stackUp.cls ≠ "java/lang/invoke/VarHandle") ∧ (parseMethodDescriptor y_B_stackUp.desc).map (fun d => d.parameters.length) = some 2 := by decide +kernel
set_option maxRecDepth 100000 in
theorem cd_B_copy : Cond.code y_B_copy b_B_copy 1 (some .int) ∈ gw ∧ Cond.initialized y_B_copy.cls ∈ gw ∧ Cond.instanceMethod y_B_copy ∈ gw ∧ Cond.selects y_B_copy.cls y_B_copy y_B_copy ∈ gw := ⟨List.mem_filter.mpr ⟨List.mem_of_getElem? (i := 157) (by decide +kernel), by decide +kernel⟩, ini_B, List.mem_filter.mpr ⟨List.mem_of_getElem? (i := 155) (by decide +kernel), by decide +kernel⟩, List.mem_filter.mpr ⟨List.mem_of_getElem? (i := 156) (by decide +kernel), by decide +kernel⟩⟩
set_option maxRecDepth 100000 in
theorem dd_B_copy : (y_B_copy.cls ≠ "java/lang/invoke/MethodHandle" ∧ y_B_copy.cls ≠ "java/lang/invoke/VarHandle") ∧ (parseMethodDescriptor y_B_copy.desc).map (fun d => d.parameters.length) = some 0 := by decide +kernel
set_option maxRecDepth 100000 in
theorem cd_B_join : Cond.code y_B_join b_B_join 2 (some .int) ∈ gw ∧ Cond.initialized y_B_join.cls ∈ gw ∧ Cond.instanceMethod y_B_join ∈ gw ∧ Cond.selects y_B_join.cls y_B_join y_B_join ∈ gw := ⟨List.mem_filter.mpr ⟨List.mem_of_getElem? (i := 161) (by decide +kernel), by decide +kernel⟩, ini_B, List.mem_filter.mpr ⟨List.mem_of_getElem? (i := 159) (by decide +kernel), by decide +kernel⟩, List.mem_filter.mpr ⟨List.mem_of_getElem? (i := 160) (by decide +kernel), by decide +kernel⟩⟩
set_option maxRecDepth 100000 in
theorem dd_B_join : (y_B_join.cls ≠ "java/lang/invoke/MethodHandle" ∧ y_B_join.cls ≠ "java/lang/invoke/VarHandle") ∧ (parseMethodDescriptor y_B_join.desc).map (fun d => d.parameters.length) = some 1 := by decide +kernel
set_option maxRecDepth 100000 in
theorem cd_S_addJoined : Cond.code y_S_addJoined b_S_addJoined 14 none ∈ gw ∧ Cond.initialized y_S_addJoined.cls ∈ gw ∧ Cond.instanceMethod y_S_addJoined ∈ gw ∧ Cond.selects y_S_addJoined.cls y_S_addJoined y_S_addJoined ∈ gw := ⟨List.mem_filter.mpr ⟨List.mem_of_getElem? (i := 165) (by decide +kernel), by decide +kernel⟩, ini_S, List.mem_filter.mpr ⟨List.mem_of_getElem? (i := 163) (by decide +kernel), by decide +kernel⟩, List.mem_filter.mpr ⟨List.mem_of_getElem? (i := 164) (by decide +kernel), by decide +kernel⟩⟩
set_option maxRecDepth 100000 in
theorem dd_S_addJoined : (y_S_addJoined.cls ≠ "java/lang/invoke/MethodHandle" ∧ y_S_addJoined.cls ≠ "java/lang/invoke/VarHandle") ∧ (parseMethodDescriptor y_S_addJoined.desc).map (fun d => d.parameters.length) = some 4 := by decide +kernel
set_option maxRecDepth 100000 in
theorem cd_S_groupsAt : Cond.code y_S_groupsAt b_S_groupsAt 2 (some .int) ∈ gw ∧ Cond.initialized y_S_groupsAt.cls ∈ gw ∧ Cond.instanceMethod y_S_groupsAt ∈ gw ∧ Cond.selects y_S_groupsAt.cls y_S_groupsAt y_S_groupsAt ∈ gw := ⟨List.mem_filter.mpr ⟨List.mem_of_getElem? (i := 169) (by decide +kernel), by decide +kernel⟩, ini_S, List.mem_filter.mpr ⟨List.mem_of_getElem? (i := 168) (by decide +kernel), by decide +kernel⟩, List.mem_filter.mpr ⟨List.mem_of_getElem? (i := 6) (by decide +kernel), by decide +kernel⟩⟩
set_option maxRecDepth 100000 in
theorem dd_S_groupsAt : (y_S_groupsAt.cls ≠ "java/lang/invoke/MethodHandle" ∧ y_S_groupsAt.cls ≠ "java/lang/invoke/VarHandle") ∧ (parseMethodDescriptor y_S_groupsAt.desc).map (fun d => d.parameters.length) = some 1 := by decide +kernel
set_option maxRecDepth 100000 in
theorem cd_B_joinedBits : Cond.code y_B_joinedBits b_B_joinedBits 3 (some .int) ∈ gw ∧ Cond.initialized y_B_joinedBits.cls ∈ gw ∧ Cond.static y_B_joinedBits ∈ gw := ⟨List.mem_filter.mpr ⟨List.mem_of_getElem? (i := 172) (by decide +kernel), by decide +kernel⟩, ini_B, List.mem_filter.mpr ⟨List.mem_of_getElem? (i := 171) (by decide +kernel), by decide +kernel⟩⟩
set_option maxRecDepth 100000 in
theorem dd_B_joinedBits : (y_B_joinedBits.cls ≠ "java/lang/invoke/MethodHandle" ∧ y_B_joinedBits.cls ≠ "java/lang/invoke/VarHandle") ∧ (parseMethodDescriptor y_B_joinedBits.desc).map (fun d => d.parameters.length) = some 3 := by decide +kernel
set_option maxRecDepth 100000 in
theorem cd_B_replaceTop : Cond.code y_B_replaceTop b_B_replaceTop 4 (some .int) ∈ gw ∧ Cond.initialized y_B_replaceTop.cls ∈ gw ∧ Cond.instanceMethod y_B_replaceTop ∈ gw ∧ Cond.selects y_B_replaceTop.cls y_B_replaceTop y_B_replaceTop ∈ gw := ⟨List.mem_filter.mpr ⟨List.mem_of_getElem? (i := 176) (by decide +kernel), by decide +kernel⟩, ini_B, List.mem_filter.mpr ⟨List.mem_of_getElem? (i := 175) (by decide +kernel), by decide +kernel⟩, List.mem_filter.mpr ⟨List.mem_of_getElem? (i := 7) (by decide +kernel), by decide +kernel⟩⟩
set_option maxRecDepth 100000 in
theorem dd_B_replaceTop : (y_B_replaceTop.cls ≠ "java/lang/invoke/MethodHandle" ∧ y_B_replaceTop.cls ≠ "java/lang/invoke/VarHandle") ∧ (parseMethodDescriptor y_B_replaceTop.desc).map (fun d => d.parameters.length) = some 1 := by decide +kernel
set_option maxRecDepth 100000 in
theorem cd_S_drop : Cond.code y_S_drop b_S_drop 1 none ∈ gw ∧ Cond.initialized y_S_drop.cls ∈ gw ∧ Cond.instanceMethod y_S_drop ∈ gw ∧ Cond.selects y_S_drop.cls y_S_drop y_S_drop ∈ gw := ⟨List.mem_filter.mpr ⟨List.mem_of_getElem? (i := 181) (by decide +kernel), by decide +kernel⟩, ini_S, List.mem_filter.mpr ⟨List.mem_of_getElem? (i := 179) (by decide +kernel), by decide +kernel⟩, List.mem_filter.mpr ⟨List.mem_of_getElem? (i := 180) (by decide +kernel), by decide +kernel⟩⟩
set_option maxRecDepth 100000 in
theorem dd_S_drop : (y_S_drop.cls ≠ "java/lang/invoke/MethodHandle" ∧ y_S_drop.cls ≠ "java/lang/invoke/VarHandle") ∧ (parseMethodDescriptor y_S_drop.desc).map (fun d => d.parameters.length) = some 0 := by decide +kernel
set_option maxRecDepth 100000 in
theorem cd_B_not : Cond.code y_B_not b_B_not 1 (some .int) ∈ gw ∧ Cond.initialized y_B_not.cls ∈ gw ∧ Cond.instanceMethod y_B_not ∈ gw ∧ Cond.selects y_B_not.cls y_B_not y_B_not ∈ gw := ⟨List.mem_filter.mpr ⟨List.mem_of_getElem? (i := 185) (by decide +kernel), by decide +kernel⟩, ini_B, List.mem_filter.mpr ⟨List.mem_of_getElem? (i := 183) (by decide +kernel), by decide +kernel⟩, List.mem_filter.mpr ⟨List.mem_of_getElem? (i := 184) (by decide +kernel), by decide +kernel⟩⟩
set_option maxRecDepth 100000 in
theorem dd_B_not : (y_B_not.cls ≠ "java/lang/invoke/MethodHandle" ∧ y_B_not.cls ≠ "java/lang/invoke/VarHandle") ∧ (parseMethodDescriptor y_B_not.desc).map (fun d => d.parameters.length) = some 0 := by decide +kernel
set_option maxRecDepth 100000 in
theorem cd_S_addOthers : Cond.code y_S_addOthers b_S_addOthers 6 none ∈ gw ∧ Cond.initialized y_S_addOthers.cls ∈ gw ∧ Cond.instanceMethod y_S_addOthers ∈ gw ∧ Cond.selects y_S_addOthers.cls y_S_addOthers y_S_addOthers ∈ gw := ⟨List.mem_filter.mpr ⟨List.mem_of_getElem? (i := 189) (by decide +kernel), by decide +kernel⟩, ini_S, List.mem_filter.mpr ⟨List.mem_of_getElem? (i := 187) (by decide +kernel), by decide +kernel⟩, List.mem_filter.mpr ⟨List.mem_of_getElem? (i := 188) (by decide +kernel), by decide +kernel⟩⟩
set_option maxRecDepth 100000 in
theorem dd_S_addOthers : (y_S_addOthers.cls ≠ "java/lang/invoke/MethodHandle" ∧ y_S_addOthers.cls ≠ "java/lang/invoke/VarHandle") ∧ (parseMethodDescriptor y_S_addOthers.desc).map (fun d => d.parameters.length) = some 3 := by decide +kernel
set_option maxRecDepth 100000 in
theorem cd_B_count : Cond.code y_B_count b_B_count 1 (some .int) ∈ gw ∧ Cond.initialized y_B_count.cls ∈ gw ∧ Cond.instanceMethod y_B_count ∈ gw ∧ Cond.selects y_B_count.cls y_B_count y_B_count ∈ gw := ⟨List.mem_filter.mpr ⟨List.mem_of_getElem? (i := 193) (by decide +kernel), by decide +kernel⟩, ini_B, List.mem_filter.mpr ⟨List.mem_of_getElem? (i := 191) (by decide +kernel), by decide +kernel⟩, List.mem_filter.mpr ⟨List.mem_of_getElem? (i := 192) (by decide +kernel), by decide +kernel⟩⟩
set_option maxRecDepth 100000 in
theorem dd_B_count : (y_B_count.cls ≠ "java/lang/invoke/MethodHandle" ∧ y_B_count.cls ≠ "java/lang/invoke/VarHandle") ∧ (parseMethodDescriptor y_B_count.desc).map (fun d => d.parameters.length) = some 0 := by decide +kernel
set_option maxRecDepth 100000 in
theorem cd_S_rowsOf : Cond.code y_S_rowsOf b_S_rowsOf 5 (some .int) ∈ gw ∧ Cond.initialized y_S_rowsOf.cls ∈ gw ∧ Cond.instanceMethod y_S_rowsOf ∈ gw ∧ Cond.selects y_S_rowsOf.cls y_S_rowsOf y_S_rowsOf ∈ gw := ⟨List.mem_filter.mpr ⟨List.mem_of_getElem? (i := 197) (by decide +kernel), by decide +kernel⟩, ini_S, List.mem_filter.mpr ⟨List.mem_of_getElem? (i := 195) (by decide +kernel), by decide +kernel⟩, List.mem_filter.mpr ⟨List.mem_of_getElem? (i := 196) (by decide +kernel), by decide +kernel⟩⟩
set_option maxRecDepth 100000 in
theorem dd_S_rowsOf : (y_S_rowsOf.cls ≠ "java/lang/invoke/MethodHandle" ∧ y_S_rowsOf.cls ≠ "java/lang/invoke/VarHandle") ∧ (parseMethodDescriptor y_S_rowsOf.desc).map (fun d => d.parameters.length) = some 1 := by decide +kernel
set_option maxRecDepth 100000 in
theorem cd_I_bitCount : Cond.code y_I_bitCount b_I_bitCount 1 (some .int) ∈ gw ∧ Cond.initialized y_I_bitCount.cls ∈ gw ∧ Cond.static y_I_bitCount ∈ gw := ⟨List.mem_filter.mpr ⟨List.mem_of_getElem? (i := 200) (by decide +kernel), by decide +kernel⟩, ini_I, List.mem_filter.mpr ⟨List.mem_of_getElem? (i := 199) (by decide +kernel), by decide +kernel⟩⟩
set_option maxRecDepth 100000 in
theorem dd_I_bitCount : (y_I_bitCount.cls ≠ "java/lang/invoke/MethodHandle" ∧ y_I_bitCount.cls ≠ "java/lang/invoke/VarHandle") ∧ (parseMethodDescriptor y_I_bitCount.desc).map (fun d => d.parameters.length) = some 1 := by decide +kernel
set_option maxRecDepth 100000 in
theorem cd_B_after : Cond.code y_B_after b_B_after 2 (some .int) ∈ gw ∧ Cond.initialized y_B_after.cls ∈ gw ∧ Cond.instanceMethod y_B_after ∈ gw ∧ Cond.selects y_B_after.cls y_B_after y_B_after ∈ gw := ⟨List.mem_filter.mpr ⟨List.mem_of_getElem? (i := 207) (by decide +kernel), by decide +kernel⟩, ini_B, List.mem_filter.mpr ⟨List.mem_of_getElem? (i := 205) (by decide +kernel), by decide +kernel⟩, List.mem_filter.mpr ⟨List.mem_of_getElem? (i := 206) (by decide +kernel), by decide +kernel⟩⟩
set_option maxRecDepth 100000 in
theorem dd_B_after : (y_B_after.cls ≠ "java/lang/invoke/MethodHandle" ∧ y_B_after.cls ≠ "java/lang/invoke/VarHandle") ∧ (parseMethodDescriptor y_B_after.desc).map (fun d => d.parameters.length) = some 1 := by decide +kernel
set_option maxRecDepth 100000 in
theorem cd_S_firstFrom : Cond.code y_S_firstFrom b_S_firstFrom 8 (some .int) ∈ gw ∧ Cond.initialized y_S_firstFrom.cls ∈ gw ∧ Cond.instanceMethod y_S_firstFrom ∈ gw ∧ Cond.selects y_S_firstFrom.cls y_S_firstFrom y_S_firstFrom ∈ gw := ⟨List.mem_filter.mpr ⟨List.mem_of_getElem? (i := 212) (by decide +kernel), by decide +kernel⟩, ini_S, List.mem_filter.mpr ⟨List.mem_of_getElem? (i := 210) (by decide +kernel), by decide +kernel⟩, List.mem_filter.mpr ⟨List.mem_of_getElem? (i := 211) (by decide +kernel), by decide +kernel⟩⟩
set_option maxRecDepth 100000 in
theorem dd_S_firstFrom : (y_S_firstFrom.cls ≠ "java/lang/invoke/MethodHandle" ∧ y_S_firstFrom.cls ≠ "java/lang/invoke/VarHandle") ∧ (parseMethodDescriptor y_S_firstFrom.desc).map (fun d => d.parameters.length) = some 2 := by decide +kernel
set_option maxRecDepth 100000 in
theorem cd_S_firstInWord : Cond.code y_S_firstInWord b_S_firstInWord 4 (some .int) ∈ gw ∧ Cond.initialized y_S_firstInWord.cls ∈ gw ∧ Cond.static y_S_firstInWord ∈ gw := ⟨List.mem_filter.mpr ⟨List.mem_of_getElem? (i := 215) (by decide +kernel), by decide +kernel⟩, ini_S, List.mem_filter.mpr ⟨List.mem_of_getElem? (i := 214) (by decide +kernel), by decide +kernel⟩⟩
set_option maxRecDepth 100000 in
theorem dd_S_firstInWord : (y_S_firstInWord.cls ≠ "java/lang/invoke/MethodHandle" ∧ y_S_firstInWord.cls ≠ "java/lang/invoke/VarHandle") ∧ (parseMethodDescriptor y_S_firstInWord.desc).map (fun d => d.parameters.length) = some 2 := by decide +kernel
set_option maxRecDepth 100000 in
theorem cd_I_numberOfTrailingZeros : Cond.code y_I_numberOfTrailingZeros b_I_numberOfTrailingZeros 2 (some .int) ∈ gw ∧ Cond.initialized y_I_numberOfTrailingZeros.cls ∈ gw ∧ Cond.static y_I_numberOfTrailingZeros ∈ gw := ⟨List.mem_filter.mpr ⟨List.mem_of_getElem? (i := 218) (by decide +kernel), by decide +kernel⟩, ini_I, List.mem_filter.mpr ⟨List.mem_of_getElem? (i := 217) (by decide +kernel), by decide +kernel⟩⟩
set_option maxRecDepth 100000 in
theorem dd_I_numberOfTrailingZeros : (y_I_numberOfTrailingZeros.cls ≠ "java/lang/invoke/MethodHandle" ∧ y_I_numberOfTrailingZeros.cls ≠ "java/lang/invoke/VarHandle") ∧ (parseMethodDescriptor y_I_numberOfTrailingZeros.desc).map (fun d => d.parameters.length) = some 1 := by decide +kernel
set_option maxRecDepth 100000 in
theorem cd_B_words : Cond.code y_B_words b_B_words 1 (some .int) ∈ gw ∧ Cond.initialized y_B_words.cls ∈ gw ∧ Cond.instanceMethod y_B_words ∈ gw ∧ Cond.selects y_B_words.cls y_B_words y_B_words ∈ gw := ⟨List.mem_filter.mpr ⟨List.mem_of_getElem? (i := 223) (by decide +kernel), by decide +kernel⟩, ini_B, List.mem_filter.mpr ⟨List.mem_of_getElem? (i := 221) (by decide +kernel), by decide +kernel⟩, List.mem_filter.mpr ⟨List.mem_of_getElem? (i := 222) (by decide +kernel), by decide +kernel⟩⟩
set_option maxRecDepth 100000 in
theorem dd_B_words : (y_B_words.cls ≠ "java/lang/invoke/MethodHandle" ∧ y_B_words.cls ≠ "java/lang/invoke/VarHandle") ∧ (parseMethodDescriptor y_B_words.desc).map (fun d => d.parameters.length) = some 0 := by decide +kernel
set_option maxRecDepth 100000 in
theorem cd_B_word : Cond.code y_B_word b_B_word 2 (some .int) ∈ gw ∧ Cond.initialized y_B_word.cls ∈ gw ∧ Cond.instanceMethod y_B_word ∈ gw ∧ Cond.selects y_B_word.cls y_B_word y_B_word ∈ gw := ⟨List.mem_filter.mpr ⟨List.mem_of_getElem? (i := 227) (by decide +kernel), by decide +kernel⟩, ini_B, List.mem_filter.mpr ⟨List.mem_of_getElem? (i := 225) (by decide +kernel), by decide +kernel⟩, List.mem_filter.mpr ⟨List.mem_of_getElem? (i := 226) (by decide +kernel), by decide +kernel⟩⟩
set_option maxRecDepth 100000 in
theorem dd_B_word : (y_B_word.cls ≠ "java/lang/invoke/MethodHandle" ∧ y_B_word.cls ≠ "java/lang/invoke/VarHandle") ∧ (parseMethodDescriptor y_B_word.desc).map (fun d => d.parameters.length) = some 1 := by decide +kernel
set_option maxRecDepth 100000 in
theorem cd_S_wordOf : Cond.code y_S_wordOf b_S_wordOf 3 (some .int) ∈ gw ∧ Cond.initialized y_S_wordOf.cls ∈ gw ∧ Cond.instanceMethod y_S_wordOf ∈ gw ∧ Cond.selects y_S_wordOf.cls y_S_wordOf y_S_wordOf ∈ gw := ⟨List.mem_filter.mpr ⟨List.mem_of_getElem? (i := 231) (by decide +kernel), by decide +kernel⟩, ini_S, List.mem_filter.mpr ⟨List.mem_of_getElem? (i := 229) (by decide +kernel), by decide +kernel⟩, List.mem_filter.mpr ⟨List.mem_of_getElem? (i := 230) (by decide +kernel), by decide +kernel⟩⟩
set_option maxRecDepth 100000 in
theorem dd_S_wordOf : (y_S_wordOf.cls ≠ "java/lang/invoke/MethodHandle" ∧ y_S_wordOf.cls ≠ "java/lang/invoke/VarHandle") ∧ (parseMethodDescriptor y_S_wordOf.desc).map (fun d => d.parameters.length) = some 2 := by decide +kernel
set_option maxRecDepth 100000 in
theorem cd_B_pop : Cond.code y_B_pop b_B_pop 1 (some .int) ∈ gw ∧ Cond.initialized y_B_pop.cls ∈ gw ∧ Cond.instanceMethod y_B_pop ∈ gw ∧ Cond.selects y_B_pop.cls y_B_pop y_B_pop ∈ gw := ⟨List.mem_filter.mpr ⟨List.mem_of_getElem? (i := 235) (by decide +kernel), by decide +kernel⟩, ini_B, List.mem_filter.mpr ⟨List.mem_of_getElem? (i := 233) (by decide +kernel), by decide +kernel⟩, List.mem_filter.mpr ⟨List.mem_of_getElem? (i := 234) (by decide +kernel), by decide +kernel⟩⟩
set_option maxRecDepth 100000 in
theorem dd_B_pop : (y_B_pop.cls ≠ "java/lang/invoke/MethodHandle" ∧ y_B_pop.cls ≠ "java/lang/invoke/VarHandle") ∧ (parseMethodDescriptor y_B_pop.desc).map (fun d => d.parameters.length) = some 0 := by decide +kernel
set_option maxRecDepth 100000 in
theorem cd_B_room : Cond.code y_B_room b_B_room 1 (some .int) ∈ gw ∧ Cond.initialized y_B_room.cls ∈ gw ∧ Cond.instanceMethod y_B_room ∈ gw ∧ Cond.selects y_B_room.cls y_B_room y_B_room ∈ gw := ⟨List.mem_filter.mpr ⟨List.mem_of_getElem? (i := 239) (by decide +kernel), by decide +kernel⟩, ini_B, List.mem_filter.mpr ⟨List.mem_of_getElem? (i := 237) (by decide +kernel), by decide +kernel⟩, List.mem_filter.mpr ⟨List.mem_of_getElem? (i := 238) (by decide +kernel), by decide +kernel⟩⟩
set_option maxRecDepth 100000 in
theorem dd_B_room : (y_B_room.cls ≠ "java/lang/invoke/MethodHandle" ∧ y_B_room.cls ≠ "java/lang/invoke/VarHandle") ∧ (parseMethodDescriptor y_B_room.desc).map (fun d => d.parameters.length) = some 0 := by decide +kernel
set_option maxRecDepth 100000 in
theorem cd_B_stackRoom : Cond.code y_B_stackRoom b_B_stackRoom 1 (some .int) ∈ gw ∧ Cond.initialized y_B_stackRoom.cls ∈ gw ∧ Cond.instanceMethod y_B_stackRoom ∈ gw ∧ Cond.selects y_B_stackRoom.cls y_B_stackRoom y_B_stackRoom ∈ gw := ⟨List.mem_filter.mpr ⟨List.mem_of_getElem? (i := 243) (by decide +kernel), by decide +kernel⟩, ini_B, List.mem_filter.mpr ⟨List.mem_of_getElem? (i := 241) (by decide +kernel), by decide +kernel⟩, List.mem_filter.mpr ⟨List.mem_of_getElem? (i := 242) (by decide +kernel), by decide +kernel⟩⟩
set_option maxRecDepth 100000 in
theorem dd_B_stackRoom : (y_B_stackRoom.cls ≠ "java/lang/invoke/MethodHandle" ∧ y_B_stackRoom.cls ≠ "java/lang/invoke/VarHandle") ∧ (parseMethodDescriptor y_B_stackRoom.desc).map (fun d => d.parameters.length) = some 0 := by decide +kernel
set_option maxRecDepth 100000 in
theorem cd_B_rows : Cond.code y_B_rows b_B_rows 1 (some .int) ∈ gw ∧ Cond.initialized y_B_rows.cls ∈ gw ∧ Cond.instanceMethod y_B_rows ∈ gw ∧ Cond.selects y_B_rows.cls y_B_rows y_B_rows ∈ gw := ⟨List.mem_filter.mpr ⟨List.mem_of_getElem? (i := 247) (by decide +kernel), by decide +kernel⟩, ini_B, List.mem_filter.mpr ⟨List.mem_of_getElem? (i := 245) (by decide +kernel), by decide +kernel⟩, List.mem_filter.mpr ⟨List.mem_of_getElem? (i := 246) (by decide +kernel), by decide +kernel⟩⟩
set_option maxRecDepth 100000 in
theorem dd_B_rows : (y_B_rows.cls ≠ "java/lang/invoke/MethodHandle" ∧ y_B_rows.cls ≠ "java/lang/invoke/VarHandle") ∧ (parseMethodDescriptor y_B_rows.desc).map (fun d => d.parameters.length) = some 0 := by decide +kernel
set_option maxRecDepth 100000 in
theorem cd_M_init : Cond.code y_M_init b_M_init 1 none ∈ gw ∧ Cond.initialized y_M_init.cls ∈ gw ∧ Cond.instanceMethod y_M_init ∈ gw ∧ y_M_init.name = "<init>" := ⟨List.mem_filter.mpr ⟨List.mem_of_getElem? (i := 252) (by decide +kernel), by decide +kernel⟩, ini_M, List.mem_filter.mpr ⟨List.mem_of_getElem? (i := 251) (by decide +kernel), by decide +kernel⟩, rfl⟩
set_option maxRecDepth 100000 in
theorem dd_M_init : (y_M_init.cls ≠ "java/lang/invoke/MethodHandle" ∧ y_M_init.cls ≠ "java/lang/invoke/VarHandle") ∧ (parseMethodDescriptor y_M_init.desc).map (fun d => d.parameters.length) = some 0 := by decide +kernel
set_option maxRecDepth 100000 in
theorem cd_M_rows : Cond.code y_M_rows b_M_rows 1 (some .int) ∈ gw ∧ Cond.initialized y_M_rows.cls ∈ gw ∧ Cond.instanceMethod y_M_rows ∈ gw ∧ Cond.selects y_M_rows.cls y_M_rows y_M_rows ∈ gw := ⟨List.mem_filter.mpr ⟨List.mem_of_getElem? (i := 291) (by decide +kernel), by decide +kernel⟩, ini_M, List.mem_filter.mpr ⟨List.mem_of_getElem? (i := 289) (by decide +kernel), by decide +kernel⟩, List.mem_filter.mpr ⟨List.mem_of_getElem? (i := 290) (by decide +kernel), by decide +kernel⟩⟩
set_option maxRecDepth 100000 in
theorem dd_M_rows : (y_M_rows.cls ≠ "java/lang/invoke/MethodHandle" ∧ y_M_rows.cls ≠ "java/lang/invoke/VarHandle") ∧ (parseMethodDescriptor y_M_rows.desc).map (fun d => d.parameters.length) = some 0 := by decide +kernel
set_option maxRecDepth 100000 in
theorem cd_M_room : Cond.code y_M_room b_M_room 5 (some .int) ∈ gw ∧ Cond.initialized y_M_room.cls ∈ gw ∧ Cond.instanceMethod y_M_room ∈ gw ∧ Cond.selects y_M_room.cls y_M_room y_M_room ∈ gw := ⟨List.mem_filter.mpr ⟨List.mem_of_getElem? (i := 295) (by decide +kernel), by decide +kernel⟩, ini_M, List.mem_filter.mpr ⟨List.mem_of_getElem? (i := 293) (by decide +kernel), by decide +kernel⟩, List.mem_filter.mpr ⟨List.mem_of_getElem? (i := 294) (by decide +kernel), by decide +kernel⟩⟩
set_option maxRecDepth 100000 in
theorem dd_M_room : (y_M_room.cls ≠ "java/lang/invoke/MethodHandle" ∧ y_M_room.cls ≠ "java/lang/invoke/VarHandle") ∧ (parseMethodDescriptor y_M_room.desc).map (fun d => d.parameters.length) = some 0 := by decide +kernel
set_option maxRecDepth 100000 in
theorem cd_M_layValue : Cond.code y_M_layValue b_M_layValue 7 (some .int) ∈ gw ∧ Cond.initialized y_M_layValue.cls ∈ gw ∧ Cond.instanceMethod y_M_layValue ∈ gw ∧ Cond.selects y_M_layValue.cls y_M_layValue y_M_layValue ∈ gw := ⟨List.mem_filter.mpr ⟨List.mem_of_getElem? (i := 299) (by decide +kernel), by decide +kernel⟩, ini_M, List.mem_filter.mpr ⟨List.mem_of_getElem? (i := 298) (by decide +kernel), by decide +kernel⟩, List.mem_filter.mpr ⟨List.mem_of_getElem? (i := 8) (by decide +kernel), by decide +kernel⟩⟩
set_option maxRecDepth 100000 in
theorem dd_M_layValue : (y_M_layValue.cls ≠ "java/lang/invoke/MethodHandle" ∧ y_M_layValue.cls ≠ "java/lang/invoke/VarHandle") ∧ (parseMethodDescriptor y_M_layValue.desc).map (fun d => d.parameters.length) = some 3 := by decide +kernel
set_option maxRecDepth 100000 in
theorem cd_M_goAlong : Cond.code y_M_goAlong b_M_goAlong 8 (some .int) ∈ gw ∧ Cond.initialized y_M_goAlong.cls ∈ gw ∧ Cond.instanceMethod y_M_goAlong ∈ gw ∧ Cond.selects y_M_goAlong.cls y_M_goAlong y_M_goAlong ∈ gw := ⟨List.mem_filter.mpr ⟨List.mem_of_getElem? (i := 303) (by decide +kernel), by decide +kernel⟩, ini_M, List.mem_filter.mpr ⟨List.mem_of_getElem? (i := 302) (by decide +kernel), by decide +kernel⟩, List.mem_filter.mpr ⟨List.mem_of_getElem? (i := 9) (by decide +kernel), by decide +kernel⟩⟩
set_option maxRecDepth 100000 in
theorem dd_M_goAlong : (y_M_goAlong.cls ≠ "java/lang/invoke/MethodHandle" ∧ y_M_goAlong.cls ≠ "java/lang/invoke/VarHandle") ∧ (parseMethodDescriptor y_M_goAlong.desc).map (fun d => d.parameters.length) = some 3 := by decide +kernel
set_option maxRecDepth 100000 in
theorem cd_M_see : Cond.code y_M_see b_M_see 2 none ∈ gw ∧ Cond.initialized y_M_see.cls ∈ gw ∧ Cond.instanceMethod y_M_see ∈ gw ∧ Cond.selects y_M_see.cls y_M_see y_M_see ∈ gw := ⟨List.mem_filter.mpr ⟨List.mem_of_getElem? (i := 309) (by decide +kernel), by decide +kernel⟩, ini_M, List.mem_filter.mpr ⟨List.mem_of_getElem? (i := 308) (by decide +kernel), by decide +kernel⟩, List.mem_filter.mpr ⟨List.mem_of_getElem? (i := 10) (by decide +kernel), by decide +kernel⟩⟩
set_option maxRecDepth 100000 in
theorem dd_M_see : (y_M_see.cls ≠ "java/lang/invoke/MethodHandle" ∧ y_M_see.cls ≠ "java/lang/invoke/VarHandle") ∧ (parseMethodDescriptor y_M_see.desc).map (fun d => d.parameters.length) = some 1 := by decide +kernel
set_option maxRecDepth 100000 in
theorem cd_M_literal : Cond.code y_M_literal b_M_literal 9 (some .int) ∈ gw ∧ Cond.initialized y_M_literal.cls ∈ gw ∧ Cond.instanceMethod y_M_literal ∈ gw ∧ Cond.selects y_M_literal.cls y_M_literal y_M_literal ∈ gw := ⟨List.mem_filter.mpr ⟨List.mem_of_getElem? (i := 313) (by decide +kernel), by decide +kernel⟩, ini_M, List.mem_filter.mpr ⟨List.mem_of_getElem? (i := 312) (by decide +kernel), by decide +kernel⟩, List.mem_filter.mpr ⟨List.mem_of_getElem? (i := 11) (by decide +kernel), by decide +kernel⟩⟩
set_option maxRecDepth 100000 in
theorem dd_M_literal : (y_M_literal.cls ≠ "java/lang/invoke/MethodHandle" ∧ y_M_literal.cls ≠ "java/lang/invoke/VarHandle") ∧ (parseMethodDescriptor y_M_literal.desc).map (fun d => d.parameters.length) = some 2 := by decide +kernel
set_option maxRecDepth 100000 in
theorem cd_M_append : Cond.code y_M_append b_M_append 6 (some .int) ∈ gw ∧ Cond.initialized y_M_append.cls ∈ gw ∧ Cond.instanceMethod y_M_append ∈ gw ∧ Cond.selects y_M_append.cls y_M_append y_M_append ∈ gw := ⟨List.mem_filter.mpr ⟨List.mem_of_getElem? (i := 317) (by decide +kernel), by decide +kernel⟩, ini_M, List.mem_filter.mpr ⟨List.mem_of_getElem? (i := 315) (by decide +kernel), by decide +kernel⟩, List.mem_filter.mpr ⟨List.mem_of_getElem? (i := 316) (by decide +kernel), by decide +kernel⟩⟩
set_option maxRecDepth 100000 in
theorem dd_M_append : (y_M_append.cls ≠ "java/lang/invoke/MethodHandle" ∧ y_M_append.cls ≠ "java/lang/invoke/VarHandle") ∧ (parseMethodDescriptor y_M_append.desc).map (fun d => d.parameters.length) = some 3 := by decide +kernel
set_option maxRecDepth 100000 in
theorem cd_M_stackRoom : Cond.code y_M_stackRoom b_M_stackRoom 3 (some .int) ∈ gw ∧ Cond.initialized y_M_stackRoom.cls ∈ gw ∧ Cond.instanceMethod y_M_stackRoom ∈ gw ∧ Cond.selects y_M_stackRoom.cls y_M_stackRoom y_M_stackRoom ∈ gw := ⟨List.mem_filter.mpr ⟨List.mem_of_getElem? (i := 323) (by decide +kernel), by decide +kernel⟩, ini_M, List.mem_filter.mpr ⟨List.mem_of_getElem? (i := 321) (by decide +kernel), by decide +kernel⟩, List.mem_filter.mpr ⟨List.mem_of_getElem? (i := 322) (by decide +kernel), by decide +kernel⟩⟩
set_option maxRecDepth 100000 in
theorem dd_M_stackRoom : (y_M_stackRoom.cls ≠ "java/lang/invoke/MethodHandle" ∧ y_M_stackRoom.cls ≠ "java/lang/invoke/VarHandle") ∧ (parseMethodDescriptor y_M_stackRoom.desc).map (fun d => d.parameters.length) = some 0 := by decide +kernel
set_option maxRecDepth 100000 in
theorem cd_M_wordsOf : Cond.code y_M_wordsOf b_M_wordsOf 2 (some .int) ∈ gw ∧ Cond.initialized y_M_wordsOf.cls ∈ gw ∧ Cond.instanceMethod y_M_wordsOf ∈ gw ∧ Cond.selects y_M_wordsOf.cls y_M_wordsOf y_M_wordsOf ∈ gw := ⟨List.mem_filter.mpr ⟨List.mem_of_getElem? (i := 327) (by decide +kernel), by decide +kernel⟩, ini_M, List.mem_filter.mpr ⟨List.mem_of_getElem? (i := 326) (by decide +kernel), by decide +kernel⟩, List.mem_filter.mpr ⟨List.mem_of_getElem? (i := 12) (by decide +kernel), by decide +kernel⟩⟩
set_option maxRecDepth 100000 in
theorem dd_M_wordsOf : (y_M_wordsOf.cls ≠ "java/lang/invoke/MethodHandle" ∧ y_M_wordsOf.cls ≠ "java/lang/invoke/VarHandle") ∧ (parseMethodDescriptor y_M_wordsOf.desc).map (fun d => d.parameters.length) = some 1 := by decide +kernel
set_option maxRecDepth 100000 in
theorem cd_M_push : Cond.code y_M_push b_M_push 3 (some .int) ∈ gw ∧ Cond.initialized y_M_push.cls ∈ gw ∧ Cond.instanceMethod y_M_push ∈ gw ∧ Cond.selects y_M_push.cls y_M_push y_M_push ∈ gw := ⟨List.mem_filter.mpr ⟨List.mem_of_getElem? (i := 331) (by decide +kernel), by decide +kernel⟩, ini_M, List.mem_filter.mpr ⟨List.mem_of_getElem? (i := 329) (by decide +kernel), by decide +kernel⟩, List.mem_filter.mpr ⟨List.mem_of_getElem? (i := 330) (by decide +kernel), by decide +kernel⟩⟩
set_option maxRecDepth 100000 in
theorem dd_M_push : (y_M_push.cls ≠ "java/lang/invoke/MethodHandle" ∧ y_M_push.cls ≠ "java/lang/invoke/VarHandle") ∧ (parseMethodDescriptor y_M_push.desc).map (fun d => d.parameters.length) = some 2 := by decide +kernel
set_option maxRecDepth 100000 in
theorem cd_M_comes : Cond.code y_M_comes b_M_comes 2 (some .boolean) ∈ gw ∧ Cond.initialized y_M_comes.cls ∈ gw ∧ Cond.instanceMethod y_M_comes ∈ gw ∧ Cond.selects y_M_comes.cls y_M_comes y_M_comes ∈ gw := ⟨List.mem_filter.mpr ⟨List.mem_of_getElem? (i := 335) (by decide +kernel), by decide +kernel⟩, ini_M, List.mem_filter.mpr ⟨List.mem_of_getElem? (i := 334) (by decide +kernel), by decide +kernel⟩, List.mem_filter.mpr ⟨List.mem_of_getElem? (i := 13) (by decide +kernel), by decide +kernel⟩⟩
set_option maxRecDepth 100000 in
theorem dd_M_comes : (y_M_comes.cls ≠ "java/lang/invoke/MethodHandle" ∧ y_M_comes.cls ≠ "java/lang/invoke/VarHandle") ∧ (parseMethodDescriptor y_M_comes.desc).map (fun d => d.parameters.length) = some 1 := by decide +kernel
set_option maxRecDepth 100000 in
theorem cd_M_copy : Cond.code y_M_copy b_M_copy 4 (some .int) ∈ gw ∧ Cond.initialized y_M_copy.cls ∈ gw ∧ Cond.instanceMethod y_M_copy ∈ gw ∧ Cond.selects y_M_copy.cls y_M_copy y_M_copy ∈ gw := ⟨List.mem_filter.mpr ⟨List.mem_of_getElem? (i := 340) (by decide +kernel), by decide +kernel⟩, ini_M, List.mem_filter.mpr ⟨List.mem_of_getElem? (i := 338) (by decide +kernel), by decide +kernel⟩, List.mem_filter.mpr ⟨List.mem_of_getElem? (i := 339) (by decide +kernel), by decide +kernel⟩⟩
set_option maxRecDepth 100000 in
theorem dd_M_copy : (y_M_copy.cls ≠ "java/lang/invoke/MethodHandle" ∧ y_M_copy.cls ≠ "java/lang/invoke/VarHandle") ∧ (parseMethodDescriptor y_M_copy.desc).map (fun d => d.parameters.length) = some 0 := by decide +kernel
set_option maxRecDepth 100000 in
theorem cd_M_join : Cond.code y_M_join b_M_join 3 (some .int) ∈ gw ∧ Cond.initialized y_M_join.cls ∈ gw ∧ Cond.instanceMethod y_M_join ∈ gw ∧ Cond.selects y_M_join.cls y_M_join y_M_join ∈ gw := ⟨List.mem_filter.mpr ⟨List.mem_of_getElem? (i := 344) (by decide +kernel), by decide +kernel⟩, ini_M, List.mem_filter.mpr ⟨List.mem_of_getElem? (i := 342) (by decide +kernel), by decide +kernel⟩, List.mem_filter.mpr ⟨List.mem_of_getElem? (i := 343) (by decide +kernel), by decide +kernel⟩⟩
set_option maxRecDepth 100000 in
theorem dd_M_join : (y_M_join.cls ≠ "java/lang/invoke/MethodHandle" ∧ y_M_join.cls ≠ "java/lang/invoke/VarHandle") ∧ (parseMethodDescriptor y_M_join.desc).map (fun d => d.parameters.length) = some 1 := by decide +kernel
set_option maxRecDepth 100000 in
theorem cd_M_layJoined : Cond.code y_M_layJoined b_M_layJoined 16 (some .int) ∈ gw ∧ Cond.initialized y_M_layJoined.cls ∈ gw ∧ Cond.instanceMethod y_M_layJoined ∈ gw ∧ Cond.selects y_M_layJoined.cls y_M_layJoined y_M_layJoined ∈ gw := ⟨List.mem_filter.mpr ⟨List.mem_of_getElem? (i := 348) (by decide +kernel), by decide +kernel⟩, ini_M, List.mem_filter.mpr ⟨List.mem_of_getElem? (i := 347) (by decide +kernel), by decide +kernel⟩, List.mem_filter.mpr ⟨List.mem_of_getElem? (i := 14) (by decide +kernel), by decide +kernel⟩⟩
set_option maxRecDepth 100000 in
theorem dd_M_layJoined : (y_M_layJoined.cls ≠ "java/lang/invoke/MethodHandle" ∧ y_M_layJoined.cls ≠ "java/lang/invoke/VarHandle") ∧ (parseMethodDescriptor y_M_layJoined.desc).map (fun d => d.parameters.length) = some 6 := by decide +kernel
set_option maxRecDepth 100000 in
theorem cd_M_is : Cond.code y_M_is b_M_is 3 (some .boolean) ∈ gw ∧ Cond.initialized y_M_is.cls ∈ gw ∧ Cond.static y_M_is ∈ gw := ⟨List.mem_filter.mpr ⟨List.mem_of_getElem? (i := 351) (by decide +kernel), by decide +kernel⟩, ini_M, List.mem_filter.mpr ⟨List.mem_of_getElem? (i := 350) (by decide +kernel), by decide +kernel⟩⟩
set_option maxRecDepth 100000 in
theorem dd_M_is : (y_M_is.cls ≠ "java/lang/invoke/MethodHandle" ∧ y_M_is.cls ≠ "java/lang/invoke/VarHandle") ∧ (parseMethodDescriptor y_M_is.desc).map (fun d => d.parameters.length) = some 3 := by decide +kernel
set_option maxRecDepth 100000 in
theorem cd_M_become : Cond.code y_M_become b_M_become 7 (some .boolean) ∈ gw ∧ Cond.initialized y_M_become.cls ∈ gw ∧ Cond.instanceMethod y_M_become ∈ gw ∧ Cond.selects y_M_become.cls y_M_become y_M_become ∈ gw := ⟨List.mem_filter.mpr ⟨List.mem_of_getElem? (i := 355) (by decide +kernel), by decide +kernel⟩, ini_M, List.mem_filter.mpr ⟨List.mem_of_getElem? (i := 354) (by decide +kernel), by decide +kernel⟩, List.mem_filter.mpr ⟨List.mem_of_getElem? (i := 15) (by decide +kernel), by decide +kernel⟩⟩
set_option maxRecDepth 100000 in
theorem dd_M_become : (y_M_become.cls ≠ "java/lang/invoke/MethodHandle" ∧ y_M_become.cls ≠ "java/lang/invoke/VarHandle") ∧ (parseMethodDescriptor y_M_become.desc).map (fun d => d.parameters.length) = some 2 := by decide +kernel
set_option maxRecDepth 100000 in
theorem cd_M_not : Cond.code y_M_not b_M_not 5 (some .int) ∈ gw ∧ Cond.initialized y_M_not.cls ∈ gw ∧ Cond.instanceMethod y_M_not ∈ gw ∧ Cond.selects y_M_not.cls y_M_not y_M_not ∈ gw := ⟨List.mem_filter.mpr ⟨List.mem_of_getElem? (i := 359) (by decide +kernel), by decide +kernel⟩, ini_M, List.mem_filter.mpr ⟨List.mem_of_getElem? (i := 357) (by decide +kernel), by decide +kernel⟩, List.mem_filter.mpr ⟨List.mem_of_getElem? (i := 358) (by decide +kernel), by decide +kernel⟩⟩
set_option maxRecDepth 100000 in
theorem dd_M_not : (y_M_not.cls ≠ "java/lang/invoke/MethodHandle" ∧ y_M_not.cls ≠ "java/lang/invoke/VarHandle") ∧ (parseMethodDescriptor y_M_not.desc).map (fun d => d.parameters.length) = some 0 := by decide +kernel
set_option maxRecDepth 100000 in
theorem cd_M_count : Cond.code y_M_count b_M_count 3 (some .int) ∈ gw ∧ Cond.initialized y_M_count.cls ∈ gw ∧ Cond.instanceMethod y_M_count ∈ gw ∧ Cond.selects y_M_count.cls y_M_count y_M_count ∈ gw := ⟨List.mem_filter.mpr ⟨List.mem_of_getElem? (i := 363) (by decide +kernel), by decide +kernel⟩, ini_M, List.mem_filter.mpr ⟨List.mem_of_getElem? (i := 361) (by decide +kernel), by decide +kernel⟩, List.mem_filter.mpr ⟨List.mem_of_getElem? (i := 362) (by decide +kernel), by decide +kernel⟩⟩
set_option maxRecDepth 100000 in
theorem dd_M_count : (y_M_count.cls ≠ "java/lang/invoke/MethodHandle" ∧ y_M_count.cls ≠ "java/lang/invoke/VarHandle") ∧ (parseMethodDescriptor y_M_count.desc).map (fun d => d.parameters.length) = some 0 := by decide +kernel
set_option maxRecDepth 100000 in
theorem cd_M_after : Cond.code y_M_after b_M_after 3 (some .int) ∈ gw ∧ Cond.initialized y_M_after.cls ∈ gw ∧ Cond.instanceMethod y_M_after ∈ gw ∧ Cond.selects y_M_after.cls y_M_after y_M_after ∈ gw := ⟨List.mem_filter.mpr ⟨List.mem_of_getElem? (i := 367) (by decide +kernel), by decide +kernel⟩, ini_M, List.mem_filter.mpr ⟨List.mem_of_getElem? (i := 365) (by decide +kernel), by decide +kernel⟩, List.mem_filter.mpr ⟨List.mem_of_getElem? (i := 366) (by decide +kernel), by decide +kernel⟩⟩
set_option maxRecDepth 100000 in
theorem dd_M_after : (y_M_after.cls ≠ "java/lang/invoke/MethodHandle" ∧ y_M_after.cls ≠ "java/lang/invoke/VarHandle") ∧ (parseMethodDescriptor y_M_after.desc).map (fun d => d.parameters.length) = some 1 := by decide +kernel
set_option maxRecDepth 100000 in
theorem cd_M_words : Cond.code y_M_words b_M_words 1 (some .int) ∈ gw ∧ Cond.initialized y_M_words.cls ∈ gw ∧ Cond.instanceMethod y_M_words ∈ gw ∧ Cond.selects y_M_words.cls y_M_words y_M_words ∈ gw := ⟨List.mem_filter.mpr ⟨List.mem_of_getElem? (i := 371) (by decide +kernel), by decide +kernel⟩, ini_M, List.mem_filter.mpr ⟨List.mem_of_getElem? (i := 369) (by decide +kernel), by decide +kernel⟩, List.mem_filter.mpr ⟨List.mem_of_getElem? (i := 370) (by decide +kernel), by decide +kernel⟩⟩
set_option maxRecDepth 100000 in
theorem dd_M_words : (y_M_words.cls ≠ "java/lang/invoke/MethodHandle" ∧ y_M_words.cls ≠ "java/lang/invoke/VarHandle") ∧ (parseMethodDescriptor y_M_words.desc).map (fun d => d.parameters.length) = some 0 := by decide +kernel
set_option maxRecDepth 100000 in
theorem cd_M_word : Cond.code y_M_word b_M_word 3 (some .int) ∈ gw ∧ Cond.initialized y_M_word.cls ∈ gw ∧ Cond.instanceMethod y_M_word ∈ gw ∧ Cond.selects y_M_word.cls y_M_word y_M_word ∈ gw := ⟨List.mem_filter.mpr ⟨List.mem_of_getElem? (i := 375) (by decide +kernel), by decide +kernel⟩, ini_M, List.mem_filter.mpr ⟨List.mem_of_getElem? (i := 373) (by decide +kernel), by decide +kernel⟩, List.mem_filter.mpr ⟨List.mem_of_getElem? (i := 374) (by decide +kernel), by decide +kernel⟩⟩
set_option maxRecDepth 100000 in
theorem dd_M_word : (y_M_word.cls ≠ "java/lang/invoke/MethodHandle" ∧ y_M_word.cls ≠ "java/lang/invoke/VarHandle") ∧ (parseMethodDescriptor y_M_word.desc).map (fun d => d.parameters.length) = some 1 := by decide +kernel
set_option maxRecDepth 100000 in
theorem cd_M_pop : Cond.code y_M_pop b_M_pop 1 (some .int) ∈ gw ∧ Cond.initialized y_M_pop.cls ∈ gw ∧ Cond.instanceMethod y_M_pop ∈ gw ∧ Cond.selects y_M_pop.cls y_M_pop y_M_pop ∈ gw := ⟨List.mem_filter.mpr ⟨List.mem_of_getElem? (i := 379) (by decide +kernel), by decide +kernel⟩, ini_M, List.mem_filter.mpr ⟨List.mem_of_getElem? (i := 377) (by decide +kernel), by decide +kernel⟩, List.mem_filter.mpr ⟨List.mem_of_getElem? (i := 378) (by decide +kernel), by decide +kernel⟩⟩
set_option maxRecDepth 100000 in
theorem dd_M_pop : (y_M_pop.cls ≠ "java/lang/invoke/MethodHandle" ∧ y_M_pop.cls ≠ "java/lang/invoke/VarHandle") ∧ (parseMethodDescriptor y_M_pop.desc).map (fun d => d.parameters.length) = some 0 := by decide +kernel
