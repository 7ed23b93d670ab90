/-! the law's words, on -/
theorem lt_11_0 : (Cond.methodLink RL 32 yX10_hush) ∈ lw_tbl := tb2 (i := 63) rfl
theorem lt_11_1 : (Cond.instanceMethod yX10_hush) ∈ lw_tbl := tb2 (i := 64) rfl
theorem lt_11_2 : (Cond.selects RX10 yX10_hush yX10_hush) ∈ lw_tbl := tb2 (i := 65) rfl
theorem lt_11_3 : (Cond.code yX10_hush cX10_hush 3 (some .int)) ∈ lw_tbl := tb2 (i := 66) rfl
theorem lt_11_4 : (Cond.methodLink RX10 119 yX4_emptyHymn) ∈ lw_tbl := tb2 (i := 67) rfl
theorem lt_11_5 : (Cond.methodLink RL 36 yX11_hush) ∈ lw_tbl := tb4 (i := 226) rfl
theorem lt_11_6 : (Cond.instanceMethod yX11_hush) ∈ lw_tbl := tb4 (i := 227) rfl
theorem lt_11_7 : (Cond.selects RX11 yX11_hush yX11_hush) ∈ lw_tbl := tb4 (i := 228) rfl
theorem lt_11_8 : (Cond.code yX11_hush cX11_hush 3 (some .int)) ∈ lw_tbl := tb4 (i := 229) rfl
theorem lt_11_9 : (Cond.methodLink RL 37 yX10_type) ∈ lw_tbl := tb2 (i := 68) rfl
theorem lt_11_10 : (Cond.instanceMethod yX10_type) ∈ lw_tbl := tb2 (i := 69) rfl
theorem lt_11_11 : (Cond.selects RX10 yX10_type yX10_type) ∈ lw_tbl := tb2 (i := 70) rfl
theorem lt_11_12 : (Cond.code yX10_type cX10_type 2 (some .int)) ∈ lw_tbl := tb2 (i := 71) rfl
theorem lt_11_13 : (Cond.fieldLink RX10 126 "GonePipes$Text" "count" "I") ∈ lw_tbl := tb1 (i := 162) rfl
theorem lt_11_14 : (Cond.methodLink RX10 123 yX8_add) ∈ lw_tbl := tb2 (i := 72) rfl
theorem lt_11_15 : (Cond.instanceMethod yX8_add) ∈ lw_tbl := tb2 (i := 73) rfl
theorem lt_11_16 : (Cond.selects RX8 yX8_add yX8_add) ∈ lw_tbl := tb2 (i := 74) rfl
theorem lt_11_17 : (Cond.code yX8_add cX8_add 2 (some .boolean)) ∈ lw_tbl := tb2 (i := 75) rfl
theorem lt_11_18 : (Cond.fieldLink RX8 19 "GonePipes$Text" "count" "I") ∈ lw_tbl := tb1 (i := 161) rfl
theorem lt_11_19 : (Cond.methodLink RL 40 yX11_type) ∈ lw_tbl := tb5 (i := 224) rfl
theorem lt_11_20 : (Cond.instanceMethod yX11_type) ∈ lw_tbl := tb5 (i := 225) rfl
theorem lt_11_21 : (Cond.selects RX11 yX11_type yX11_type) ∈ lw_tbl := tb5 (i := 226) rfl
theorem lt_11_22 : (Cond.code yX11_type cX11_type 2 (some .int)) ∈ lw_tbl := tb5 (i := 227) rfl
theorem lt_11_23 : (Cond.constantLong RX11 259 (127)) ∈ lw_tbl := tb5 (i := 228) rfl
theorem lat_11 : ∀ w ∈ wsL_law_r11, w ∈ lw_tbl := List.forall_mem_cons.mpr ⟨lt_11_0, List.forall_mem_cons.mpr ⟨lt_11_1, List.forall_mem_cons.mpr ⟨lt_11_2, List.forall_mem_cons.mpr ⟨lt_11_3, List.forall_mem_cons.mpr ⟨lt_11_4, List.forall_mem_cons.mpr ⟨lt_11_5, List.forall_mem_cons.mpr ⟨lt_11_6, List.forall_mem_cons.mpr ⟨lt_11_7, List.forall_mem_cons.mpr ⟨lt_11_8, List.forall_mem_cons.mpr ⟨lt_11_9, List.forall_mem_cons.mpr ⟨lt_11_10, List.forall_mem_cons.mpr ⟨lt_11_11, List.forall_mem_cons.mpr ⟨lt_11_12, List.forall_mem_cons.mpr ⟨lt_11_13, List.forall_mem_cons.mpr ⟨lt_11_14, List.forall_mem_cons.mpr ⟨lt_11_15, List.forall_mem_cons.mpr ⟨lt_11_16, List.forall_mem_cons.mpr ⟨lt_11_17, List.forall_mem_cons.mpr ⟨lt_11_18, List.forall_mem_cons.mpr ⟨lt_11_19, List.forall_mem_cons.mpr ⟨lt_11_20, List.forall_mem_cons.mpr ⟨lt_11_21, List.forall_mem_cons.mpr ⟨lt_11_22, List.forall_mem_cons.mpr ⟨lt_11_23, fun _ h => absurd h List.not_mem_nil⟩⟩⟩⟩⟩⟩⟩⟩⟩⟩⟩⟩⟩⟩⟩⟩⟩⟩⟩⟩⟩⟩⟩⟩
theorem lt_12_0 : (Cond.fieldLink RX11 261 "GonePipesModel" "bytesLong" "I") ∈ lw_tbl := tb4 (i := 114) rfl
theorem lt_12_1 : (Cond.methodLink RL 41 yX10_clear) ∈ lw_tbl := tb2 (i := 76) rfl
theorem lt_12_2 : (Cond.instanceMethod yX10_clear) ∈ lw_tbl := tb2 (i := 77) rfl
theorem lt_12_3 : (Cond.selects RX10 yX10_clear yX10_clear) ∈ lw_tbl := tb2 (i := 78) rfl
theorem lt_12_4 : (Cond.code yX10_clear cX10_clear 2 (some .int)) ∈ lw_tbl := tb2 (i := 79) rfl
theorem lt_12_5 : (Cond.methodLink RL 44 yX11_clear) ∈ lw_tbl := tb5 (i := 229) rfl
theorem lt_12_6 : (Cond.instanceMethod yX11_clear) ∈ lw_tbl := tb5 (i := 230) rfl
theorem lt_12_7 : (Cond.selects RX11 yX11_clear yX11_clear) ∈ lw_tbl := tb5 (i := 231) rfl
theorem lt_12_8 : (Cond.code yX11_clear cX11_clear 2 (some .int)) ∈ lw_tbl := tb5 (i := 232) rfl
theorem lt_12_9 : (Cond.methodLink RL 45 yX10_read) ∈ lw_tbl := tb2 (i := 80) rfl
theorem lt_12_10 : (Cond.instanceMethod yX10_read) ∈ lw_tbl := tb2 (i := 81) rfl
theorem lt_12_11 : (Cond.selects RX10 yX10_read yX10_read) ∈ lw_tbl := tb2 (i := 82) rfl
theorem lt_12_12 : (Cond.code yX10_read cX10_read 2 (some .int)) ∈ lw_tbl := tb2 (i := 83) rfl
theorem lt_12_13 : (Cond.methodLink RX10 129 yX8_readInto) ∈ lw_tbl := tb2 (i := 84) rfl
theorem lt_12_14 : (Cond.instanceMethod yX8_readInto) ∈ lw_tbl := tb2 (i := 85) rfl
theorem lt_12_15 : (Cond.selects RX8 yX8_readInto yX8_readInto) ∈ lw_tbl := tb2 (i := 86) rfl
theorem lt_12_16 : (Cond.code yX8_readInto cX8_readInto 3 (some .int)) ∈ lw_tbl := tb2 (i := 87) rfl
theorem lt_12_17 : (Cond.fieldLink RX8 28 "GonePipes$Text" "next" "I") ∈ lw_tbl := tb1 (i := 167) rfl
theorem lt_12_18 : (Cond.fieldLink RX8 44 "GonePipes$Text" "start" "I") ∈ lw_tbl := tb1 (i := 166) rfl
theorem lt_12_19 : (Cond.fieldLink RX8 47 "GonePipes$Text" "sort" "I") ∈ lw_tbl := tb1 (i := 165) rfl
theorem lt_12_20 : (Cond.methodLink RX8 23 yX4_reset) ∈ lw_tbl := tb2 (i := 88) rfl
theorem lt_12_21 : (Cond.methodLink RX8 31 yX8_step) ∈ lw_tbl := tb2 (i := 89) rfl
theorem lt_12_22 : (Cond.instanceMethod yX8_step) ∈ lw_tbl := tb2 (i := 91) rfl
theorem lt_12_23 : (Cond.selects RX8 yX8_step yX8_step) ∈ lw_tbl := List.mem_append_left _ (List.mem_of_getElem? (i := 2) rfl)
theorem lat_12 : ∀ w ∈ wsL_law_r12, w ∈ lw_tbl := List.forall_mem_cons.mpr ⟨lt_12_0, List.forall_mem_cons.mpr ⟨lt_12_1, List.forall_mem_cons.mpr ⟨lt_12_2, List.forall_mem_cons.mpr ⟨lt_12_3, List.forall_mem_cons.mpr ⟨lt_12_4, List.forall_mem_cons.mpr ⟨lt_12_5, List.forall_mem_cons.mpr ⟨lt_12_6, List.forall_mem_cons.mpr ⟨lt_12_7, List.forall_mem_cons.mpr ⟨lt_12_8, List.forall_mem_cons.mpr ⟨lt_12_9, List.forall_mem_cons.mpr ⟨lt_12_10, List.forall_mem_cons.mpr ⟨lt_12_11, List.forall_mem_cons.mpr ⟨lt_12_12, List.forall_mem_cons.mpr ⟨lt_12_13, List.forall_mem_cons.mpr ⟨lt_12_14, List.forall_mem_cons.mpr ⟨lt_12_15, List.forall_mem_cons.mpr ⟨lt_12_16, List.forall_mem_cons.mpr ⟨lt_12_17, List.forall_mem_cons.mpr ⟨lt_12_18, List.forall_mem_cons.mpr ⟨lt_12_19, List.forall_mem_cons.mpr ⟨lt_12_20, List.forall_mem_cons.mpr ⟨lt_12_21, List.forall_mem_cons.mpr ⟨lt_12_22, List.forall_mem_cons.mpr ⟨lt_12_23, fun _ h => absurd h List.not_mem_nil⟩⟩⟩⟩⟩⟩⟩⟩⟩⟩⟩⟩⟩⟩⟩⟩⟩⟩⟩⟩⟩⟩⟩⟩
theorem lt_13_0 : (Cond.code yX8_step cX8_step 1 none) ∈ lw_tbl := tb2 (i := 92) rfl
theorem lt_13_1 : (Cond.fieldLink RX8 90 "GonePipes$Text" "value" "I") ∈ lw_tbl := tb1 (i := 168) rfl
theorem lt_13_2 : (Cond.methodLink RX8 96 yX8_isLetter) ∈ lw_tbl := tb2 (i := 93) rfl
theorem lt_13_3 : (Cond.static yX8_isLetter) ∈ lw_tbl := tb2 (i := 94) rfl
theorem lt_13_4 : (Cond.code yX8_isLetter cX8_isLetter 1 (some .boolean)) ∈ lw_tbl := tb2 (i := 95) rfl
theorem lt_13_5 : (Cond.methodLink RX8 99 yX8_isFigure) ∈ lw_tbl := tb2 (i := 96) rfl
theorem lt_13_6 : (Cond.static yX8_isFigure) ∈ lw_tbl := tb2 (i := 97) rfl
theorem lt_13_7 : (Cond.code yX8_isFigure cX8_isFigure 1 (some .boolean)) ∈ lw_tbl := tb2 (i := 98) rfl
theorem lt_13_8 : (Cond.methodLink RX8 36 yX8_isWord) ∈ lw_tbl := tb2 (i := 100) rfl
theorem lt_13_9 : (Cond.instanceMethod yX8_isWord) ∈ lw_tbl := tb2 (i := 102) rfl
theorem lt_13_10 : (Cond.selects RX8 yX8_isWord yX8_isWord) ∈ lw_tbl := List.mem_append_left _ (List.mem_of_getElem? (i := 3) rfl)
theorem lt_13_11 : (Cond.code yX8_isWord cX8_isWord 3 (some .boolean)) ∈ lw_tbl := tb2 (i := 103) rfl
theorem lt_13_12 : (Cond.methodLink RX8 102 yJ0_length_8abf5) ∈ lw_tbl := tb2 (i := 104) rfl
theorem lt_13_13 : (Cond.instanceMethod yJ0_length_8abf5) ∈ lw_tbl := tb2 (i := 105) rfl
theorem lt_13_14 : (Cond.selects RJ0 yJ0_length_8abf5 yJ0_length_8abf5) ∈ lw_tbl := tb2 (i := 106) rfl
theorem lt_13_15 : (Cond.initialized RJ0) ∈ lw_tbl := tb1 (i := 13) rfl
theorem lt_13_16 : (Cond.code yJ0_length_8abf5 cJ0_length_8abf5 1 (some .int)) ∈ lw_tbl := tb2 (i := 107) rfl
theorem lt_13_17 : (Cond.fieldLink RJ0 9 "java/lang/String" "value" "[B") ∈ lw_tbl := tb6 (i := 78) rfl
theorem lt_13_18 : (Cond.methodLink RJ0 335 yJ0_coder_7d493) ∈ lw_tbl := tb2 (i := 108) rfl
theorem lt_13_19 : (Cond.instanceMethod yJ0_coder_7d493) ∈ lw_tbl := tb2 (i := 109) rfl
theorem lt_13_20 : (Cond.selects RJ0 yJ0_coder_7d493 yJ0_coder_7d493) ∈ lw_tbl := tb2 (i := 110) rfl
theorem lt_13_21 : (Cond.code yJ0_coder_7d493 cJ0_coder_7d493 1 (some .byte)) ∈ lw_tbl := tb2 (i := 111) rfl
theorem lt_13_22 : (Cond.fieldLink RJ0 38 "java/lang/String" "COMPACT_STRINGS" "Z") ∈ lw_tbl := tb2 (i := 112) rfl
theorem lt_13_23 : (Cond.fieldLink RJ0 15 "java/lang/String" "coder" "B") ∈ lw_tbl := tb6 (i := 79) rfl
theorem lat_13 : ∀ w ∈ wsL_law_r13, w ∈ lw_tbl := List.forall_mem_cons.mpr ⟨lt_13_0, List.forall_mem_cons.mpr ⟨lt_13_1, List.forall_mem_cons.mpr ⟨lt_13_2, List.forall_mem_cons.mpr ⟨lt_13_3, List.forall_mem_cons.mpr ⟨lt_13_4, List.forall_mem_cons.mpr ⟨lt_13_5, List.forall_mem_cons.mpr ⟨lt_13_6, List.forall_mem_cons.mpr ⟨lt_13_7, List.forall_mem_cons.mpr ⟨lt_13_8, List.forall_mem_cons.mpr ⟨lt_13_9, List.forall_mem_cons.mpr ⟨lt_13_10, List.forall_mem_cons.mpr ⟨lt_13_11, List.forall_mem_cons.mpr ⟨lt_13_12, List.forall_mem_cons.mpr ⟨lt_13_13, List.forall_mem_cons.mpr ⟨lt_13_14, List.forall_mem_cons.mpr ⟨lt_13_15, List.forall_mem_cons.mpr ⟨lt_13_16, List.forall_mem_cons.mpr ⟨lt_13_17, List.forall_mem_cons.mpr ⟨lt_13_18, List.forall_mem_cons.mpr ⟨lt_13_19, List.forall_mem_cons.mpr ⟨lt_13_20, List.forall_mem_cons.mpr ⟨lt_13_21, List.forall_mem_cons.mpr ⟨lt_13_22, List.forall_mem_cons.mpr ⟨lt_13_23, fun _ h => absurd h List.not_mem_nil⟩⟩⟩⟩⟩⟩⟩⟩⟩⟩⟩⟩⟩⟩⟩⟩⟩⟩⟩⟩⟩⟩⟩⟩
theorem lt_14_0 : (Cond.methodLink RX8 108 yJ0_charAt_5068e) ∈ lw_tbl := tb2 (i := 114) rfl
theorem lt_14_1 : (Cond.instanceMethod yJ0_charAt_5068e) ∈ lw_tbl := tb2 (i := 115) rfl
theorem lt_14_2 : (Cond.selects RJ0 yJ0_charAt_5068e yJ0_charAt_5068e) ∈ lw_tbl := tb2 (i := 116) rfl
theorem lt_14_3 : (Cond.code yJ0_charAt_5068e cJ0_charAt_5068e 2 (some .char)) ∈ lw_tbl := tb2 (i := 117) rfl
theorem lt_14_4 : (Cond.methodLink RJ0 492 yJ0_isLatin1_aae02) ∈ lw_tbl := tb2 (i := 118) rfl
theorem lt_14_5 : (Cond.instanceMethod yJ0_isLatin1_aae02) ∈ lw_tbl := tb2 (i := 119) rfl
theorem lt_14_6 : (Cond.selects RJ0 yJ0_isLatin1_aae02 yJ0_isLatin1_aae02) ∈ lw_tbl := tb2 (i := 120) rfl
theorem lt_14_7 : (Cond.code yJ0_isLatin1_aae02 cJ0_isLatin1_aae02 1 (some .boolean)) ∈ lw_tbl := tb2 (i := 121) rfl
theorem lt_14_8 : (Cond.methodLink RJ0 495 yJ1_charAt_3b067) ∈ lw_tbl := tb2 (i := 122) rfl
theorem lt_14_9 : (Cond.static yJ1_charAt_3b067) ∈ lw_tbl := tb2 (i := 123) rfl
theorem lt_14_10 : (Cond.initialized RJ1) ∈ lw_tbl := tb1 (i := 14) rfl
theorem lt_14_11 : (Cond.code yJ1_charAt_3b067 cJ1_charAt_3b067 2 (some .char)) ∈ lw_tbl := tb2 (i := 124) rfl
theorem lt_14_12 : (Cond.methodLink RJ1 9 yJ0_checkIndex_df160) ∈ lw_tbl := tb2 (i := 125) rfl
theorem lt_14_13 : (Cond.static yJ0_checkIndex_df160) ∈ lw_tbl := tb2 (i := 126) rfl
theorem lt_14_14 : (Cond.code yJ0_checkIndex_df160 cJ0_checkIndex_df160 2 none) ∈ lw_tbl := tb2 (i := 127) rfl
theorem lt_14_15 : (Cond.fieldLink RJ0 1053 "jdk/internal/util/Preconditions" "SIOOBE_FORMATTER" "Ljava/util/function/BiFunction;") ∈ lw_tbl := tb2 (i := 128) rfl
theorem lt_14_16 : (Cond.methodLink RJ0 1059 yJ3_checkIndex_8e157) ∈ lw_tbl := tb2 (i := 130) rfl
theorem lt_14_17 : (Cond.static yJ3_checkIndex_8e157) ∈ lw_tbl := tb2 (i := 131) rfl
theorem lt_14_18 : (Cond.initialized RJ3) ∈ lw_tbl := tb1 (i := 15) rfl
theorem lt_14_19 : (Cond.code yJ3_checkIndex_8e157 cJ3_checkIndex_8e157 3 (some .int)) ∈ lw_tbl := tb2 (i := 132) rfl
theorem lt_14_20 : (Cond.methodLink RJ0 498 yJ2_charAt_3b067) ∈ lw_tbl := tb2 (i := 133) rfl
theorem lt_14_21 : (Cond.static yJ2_charAt_3b067) ∈ lw_tbl := tb2 (i := 134) rfl
theorem lt_14_22 : (Cond.initialized RJ2) ∈ lw_tbl := tb1 (i := 16) rfl
theorem lt_14_23 : (Cond.code yJ2_charAt_3b067 cJ2_charAt_3b067 2 (some .char)) ∈ lw_tbl := tb2 (i := 135) rfl
theorem lat_14 : ∀ w ∈ wsL_law_r14, w ∈ lw_tbl := List.forall_mem_cons.mpr ⟨lt_14_0, List.forall_mem_cons.mpr ⟨lt_14_1, List.forall_mem_cons.mpr ⟨lt_14_2, List.forall_mem_cons.mpr ⟨lt_14_3, List.forall_mem_cons.mpr ⟨lt_14_4, List.forall_mem_cons.mpr ⟨lt_14_5, List.forall_mem_cons.mpr ⟨lt_14_6, List.forall_mem_cons.mpr ⟨lt_14_7, List.forall_mem_cons.mpr ⟨lt_14_8, List.forall_mem_cons.mpr ⟨lt_14_9, List.forall_mem_cons.mpr ⟨lt_14_10, List.forall_mem_cons.mpr ⟨lt_14_11, List.forall_mem_cons.mpr ⟨lt_14_12, List.forall_mem_cons.mpr ⟨lt_14_13, List.forall_mem_cons.mpr ⟨lt_14_14, List.forall_mem_cons.mpr ⟨lt_14_15, List.forall_mem_cons.mpr ⟨lt_14_16, List.forall_mem_cons.mpr ⟨lt_14_17, List.forall_mem_cons.mpr ⟨lt_14_18, List.forall_mem_cons.mpr ⟨lt_14_19, List.forall_mem_cons.mpr ⟨lt_14_20, List.forall_mem_cons.mpr ⟨lt_14_21, List.forall_mem_cons.mpr ⟨lt_14_22, List.forall_mem_cons.mpr ⟨lt_14_23, fun _ h => absurd h List.not_mem_nil⟩⟩⟩⟩⟩⟩⟩⟩⟩⟩⟩⟩⟩⟩⟩⟩⟩⟩⟩⟩⟩⟩⟩⟩
theorem lt_15_0 : (Cond.methodLink RJ2 67 yJ2_checkIndex_2214a) ∈ lw_tbl := tb2 (i := 136) rfl
theorem lt_15_1 : (Cond.static yJ2_checkIndex_2214a) ∈ lw_tbl := tb2 (i := 137) rfl
theorem lt_15_2 : (Cond.code yJ2_checkIndex_2214a cJ2_checkIndex_2214a 2 none) ∈ lw_tbl := tb2 (i := 138) rfl
theorem lt_15_3 : (Cond.methodLink RJ2 48 yJ2_length_9d52b) ∈ lw_tbl := tb2 (i := 139) rfl
theorem lt_15_4 : (Cond.static yJ2_length_9d52b) ∈ lw_tbl := tb2 (i := 140) rfl
theorem lt_15_5 : (Cond.code yJ2_length_9d52b cJ2_length_9d52b 1 (some .int)) ∈ lw_tbl := tb2 (i := 141) rfl
theorem lt_15_6 : (Cond.methodLink RJ2 414 yJ0_checkIndex_df160) ∈ lw_tbl := tb2 (i := 142) rfl
theorem lt_15_7 : (Cond.methodLink RJ2 71 yJ2_getChar_3b067) ∈ lw_tbl := tb2 (i := 143) rfl
theorem lt_15_8 : (Cond.static yJ2_getChar_3b067) ∈ lw_tbl := tb2 (i := 144) rfl
theorem lt_15_9 : (Cond.code yJ2_getChar_3b067 cJ2_getChar_3b067 2 (some .char)) ∈ lw_tbl := tb2 (i := 145) rfl
theorem lt_15_10 : (Cond.fieldLink RJ2 44 "java/lang/StringUTF16" "$assertionsDisabled" "Z") ∈ lw_tbl := tb2 (i := 146) rfl
theorem lt_15_11 : (Cond.fieldLink RJ2 59 "java/lang/StringUTF16" "HI_BYTE_SHIFT" "I") ∈ lw_tbl := tb2 (i := 148) rfl
theorem lt_15_12 : (Cond.fieldLink RJ2 63 "java/lang/StringUTF16" "LO_BYTE_SHIFT" "I") ∈ lw_tbl := tb2 (i := 150) rfl
theorem lt_15_13 : (Cond.methodLink RX8 40 yX8_stepTo) ∈ lw_tbl := tb2 (i := 152) rfl
theorem lt_15_14 : (Cond.instanceMethod yX8_stepTo) ∈ lw_tbl := tb2 (i := 154) rfl
theorem lt_15_15 : (Cond.selects RX8 yX8_stepTo yX8_stepTo) ∈ lw_tbl := List.mem_append_left _ (List.mem_of_getElem? (i := 4) rfl)
theorem lt_15_16 : (Cond.code yX8_stepTo cX8_stepTo 2 (some .boolean)) ∈ lw_tbl := tb2 (i := 155) rfl
theorem lt_15_17 : (Cond.methodLink RX8 50 yX8_readItem) ∈ lw_tbl := tb2 (i := 156) rfl
theorem lt_15_18 : (Cond.instanceMethod yX8_readItem) ∈ lw_tbl := tb2 (i := 158) rfl
theorem lt_15_19 : (Cond.selects RX8 yX8_readItem yX8_readItem) ∈ lw_tbl := List.mem_append_left _ (List.mem_of_getElem? (i := 5) rfl)
theorem lt_15_20 : (Cond.code yX8_readItem cX8_readItem 2 (some .boolean)) ∈ lw_tbl := tb2 (i := 159) rfl
theorem lt_15_21 : (Cond.fieldLink RX8 56 "GonePipes$Organ" "places" "I") ∈ lw_tbl := tb1 (i := 101) rfl
theorem lt_15_22 : (Cond.fieldLink RX8 64 "GonePipes$Organ" "pipes" "I") ∈ lw_tbl := tb1 (i := 104) rfl
theorem lt_15_23 : (Cond.methodLink RX8 59 yX8_readPlace) ∈ lw_tbl := tb2 (i := 161) rfl
theorem lat_15 : ∀ w ∈ wsL_law_r15, w ∈ lw_tbl := List.forall_mem_cons.mpr ⟨lt_15_0, List.forall_mem_cons.mpr ⟨lt_15_1, List.forall_mem_cons.mpr ⟨lt_15_2, List.forall_mem_cons.mpr ⟨lt_15_3, List.forall_mem_cons.mpr ⟨lt_15_4, List.forall_mem_cons.mpr ⟨lt_15_5, List.forall_mem_cons.mpr ⟨lt_15_6, List.forall_mem_cons.mpr ⟨lt_15_7, List.forall_mem_cons.mpr ⟨lt_15_8, List.forall_mem_cons.mpr ⟨lt_15_9, List.forall_mem_cons.mpr ⟨lt_15_10, List.forall_mem_cons.mpr ⟨lt_15_11, List.forall_mem_cons.mpr ⟨lt_15_12, List.forall_mem_cons.mpr ⟨lt_15_13, List.forall_mem_cons.mpr ⟨lt_15_14, List.forall_mem_cons.mpr ⟨lt_15_15, List.forall_mem_cons.mpr ⟨lt_15_16, List.forall_mem_cons.mpr ⟨lt_15_17, List.forall_mem_cons.mpr ⟨lt_15_18, List.forall_mem_cons.mpr ⟨lt_15_19, List.forall_mem_cons.mpr ⟨lt_15_20, List.forall_mem_cons.mpr ⟨lt_15_21, List.forall_mem_cons.mpr ⟨lt_15_22, List.forall_mem_cons.mpr ⟨lt_15_23, fun _ h => absurd h List.not_mem_nil⟩⟩⟩⟩⟩⟩⟩⟩⟩⟩⟩⟩⟩⟩⟩⟩⟩⟩⟩⟩⟩⟩⟩⟩
theorem lt_16_0 : (Cond.instanceMethod yX8_readPlace) ∈ lw_tbl := tb2 (i := 163) rfl
theorem lt_16_1 : (Cond.selects RX8 yX8_readPlace yX8_readPlace) ∈ lw_tbl := List.mem_append_left _ (List.mem_of_getElem? (i := 6) rfl)
theorem lt_16_2 : (Cond.code yX8_readPlace cX8_readPlace 2 (some .boolean)) ∈ lw_tbl := tb2 (i := 164) rfl
theorem lt_16_3 : (Cond.methodLink RX8 75 yX8_readNumber) ∈ lw_tbl := tb2 (i := 165) rfl
theorem lt_16_4 : (Cond.instanceMethod yX8_readNumber) ∈ lw_tbl := tb2 (i := 167) rfl
theorem lt_16_5 : (Cond.selects RX8 yX8_readNumber yX8_readNumber) ∈ lw_tbl := List.mem_append_left _ (List.mem_of_getElem? (i := 7) rfl)
theorem lt_16_6 : (Cond.code yX8_readNumber cX8_readNumber 3 (some .boolean)) ∈ lw_tbl := tb2 (i := 168) rfl
theorem lt_16_7 : (Cond.methodLink RX8 79 yX4_addPlace) ∈ lw_tbl := tb2 (i := 169) rfl
theorem lt_16_8 : (Cond.methodLink RX8 67 yX8_readPipe) ∈ lw_tbl := tb2 (i := 171) rfl
theorem lt_16_9 : (Cond.instanceMethod yX8_readPipe) ∈ lw_tbl := tb2 (i := 173) rfl
theorem lt_16_10 : (Cond.selects RX8 yX8_readPipe yX8_readPipe) ∈ lw_tbl := List.mem_append_left _ (List.mem_of_getElem? (i := 8) rfl)
theorem lt_16_11 : (Cond.code yX8_readPipe cX8_readPipe 2 (some .boolean)) ∈ lw_tbl := tb2 (i := 174) rfl
theorem lt_16_12 : (Cond.methodLink RX8 83 yX4_addPipe) ∈ lw_tbl := tb2 (i := 175) rfl
theorem lt_16_13 : (Cond.methodLink RX8 72 yX8_readHymn) ∈ lw_tbl := tb2 (i := 177) rfl
theorem lt_16_14 : (Cond.instanceMethod yX8_readHymn) ∈ lw_tbl := tb2 (i := 179) rfl
theorem lt_16_15 : (Cond.selects RX8 yX8_readHymn yX8_readHymn) ∈ lw_tbl := List.mem_append_left _ (List.mem_of_getElem? (i := 9) rfl)
theorem lt_16_16 : (Cond.code yX8_readHymn cX8_readHymn 3 (some .boolean)) ∈ lw_tbl := tb2 (i := 180) rfl
theorem lt_16_17 : (Cond.methodLink RX8 86 yX4_emptyHymn) ∈ lw_tbl := tb2 (i := 181) rfl
theorem lt_16_18 : (Cond.methodLink RX8 93 yX4_addNote) ∈ lw_tbl := tb2 (i := 182) rfl
theorem lt_16_19 : (Cond.methodLink RX10 133 yX4_takeAll) ∈ lw_tbl := tb2 (i := 183) rfl
theorem lt_16_20 : (Cond.instanceMethod yX4_takeAll) ∈ lw_tbl := tb2 (i := 184) rfl
theorem lt_16_21 : (Cond.selects RX4 yX4_takeAll yX4_takeAll) ∈ lw_tbl := tb2 (i := 185) rfl
theorem lt_16_22 : (Cond.code yX4_takeAll cX4_takeAll 2 none) ∈ lw_tbl := tb2 (i := 186) rfl
theorem lt_16_23 : (Cond.methodLink RX4 63 arraycopyName) ∈ lw_tbl := tb2 (i := 191) rfl
theorem lat_16 : ∀ w ∈ wsL_law_r16, w ∈ lw_tbl := List.forall_mem_cons.mpr ⟨lt_16_0, List.forall_mem_cons.mpr ⟨lt_16_1, List.forall_mem_cons.mpr ⟨lt_16_2, List.forall_mem_cons.mpr ⟨lt_16_3, List.forall_mem_cons.mpr ⟨lt_16_4, List.forall_mem_cons.mpr ⟨lt_16_5, List.forall_mem_cons.mpr ⟨lt_16_6, List.forall_mem_cons.mpr ⟨lt_16_7, List.forall_mem_cons.mpr ⟨lt_16_8, List.forall_mem_cons.mpr ⟨lt_16_9, List.forall_mem_cons.mpr ⟨lt_16_10, List.forall_mem_cons.mpr ⟨lt_16_11, List.forall_mem_cons.mpr ⟨lt_16_12, List.forall_mem_cons.mpr ⟨lt_16_13, List.forall_mem_cons.mpr ⟨lt_16_14, List.forall_mem_cons.mpr ⟨lt_16_15, List.forall_mem_cons.mpr ⟨lt_16_16, List.forall_mem_cons.mpr ⟨lt_16_17, List.forall_mem_cons.mpr ⟨lt_16_18, List.forall_mem_cons.mpr ⟨lt_16_19, List.forall_mem_cons.mpr ⟨lt_16_20, List.forall_mem_cons.mpr ⟨lt_16_21, List.forall_mem_cons.mpr ⟨lt_16_22, List.forall_mem_cons.mpr ⟨lt_16_23, fun _ h => absurd h List.not_mem_nil⟩⟩⟩⟩⟩⟩⟩⟩⟩⟩⟩⟩⟩⟩⟩⟩⟩⟩⟩⟩⟩⟩⟩⟩
theorem lt_17_0 : (Cond.native arraycopyName) ∈ lw_tbl := tb2 (i := 193) rfl
theorem lt_17_1 : (Cond.static arraycopyName) ∈ lw_tbl := tb2 (i := 192) rfl
theorem lt_17_2 : (Cond.initialized "java/lang/System") ∈ lw_tbl := tb1 (i := 17) rfl
theorem lt_17_3 : (Cond.methodLink RX4 69 yX4_takeStage) ∈ lw_tbl := tb2 (i := 187) rfl
theorem lt_17_4 : (Cond.instanceMethod yX4_takeStage) ∈ lw_tbl := tb2 (i := 188) rfl
theorem lt_17_5 : (Cond.selects RX4 yX4_takeStage yX4_takeStage) ∈ lw_tbl := tb2 (i := 189) rfl
theorem lt_17_6 : (Cond.code yX4_takeStage cX4_takeStage 2 none) ∈ lw_tbl := tb2 (i := 190) rfl
theorem lt_17_7 : (Cond.methodLink RX4 73 yX5_takeOver) ∈ lw_tbl := tb2 (i := 194) rfl
theorem lt_17_8 : (Cond.instanceMethod yX5_takeOver) ∈ lw_tbl := tb2 (i := 195) rfl
theorem lt_17_9 : (Cond.selects RX5 yX5_takeOver yX5_takeOver) ∈ lw_tbl := tb2 (i := 196) rfl
theorem lt_17_10 : (Cond.code yX5_takeOver cX5_takeOver 2 none) ∈ lw_tbl := tb2 (i := 197) rfl
theorem lt_17_11 : (Cond.methodLink RX5 22 arraycopyName) ∈ lw_tbl := tb2 (i := 198) rfl
theorem lt_17_12 : (Cond.methodLink RL 48 yX11_read) ∈ lw_tbl := tb5 (i := 233) rfl
theorem lt_17_13 : (Cond.instanceMethod yX11_read) ∈ lw_tbl := tb5 (i := 234) rfl
theorem lt_17_14 : (Cond.selects RX11 yX11_read yX11_read) ∈ lw_tbl := tb5 (i := 235) rfl
theorem lt_17_15 : (Cond.code yX11_read cX11_read 3 (some .int)) ∈ lw_tbl := tb5 (i := 236) rfl
theorem lt_17_16 : (Cond.fieldLink RX11 270 "GonePipesModel" "tokenAt" "I") ∈ lw_tbl := tb4 (i := 115) rfl
theorem lt_17_17 : (Cond.fieldLink RX11 276 "GonePipesModel" "token" "I") ∈ lw_tbl := tb4 (i := 117) rfl
theorem lt_17_18 : (Cond.methodLink RX11 288 yX11_lookAt) ∈ lw_tbl := tb5 (i := 237) rfl
theorem lt_17_19 : (Cond.instanceMethod yX11_lookAt) ∈ lw_tbl := tb5 (i := 239) rfl
theorem lt_17_20 : (Cond.selects RX11 yX11_lookAt yX11_lookAt) ∈ lw_tbl := List.mem_append_left _ (List.mem_of_getElem? (i := 66) rfl)
theorem lt_17_21 : (Cond.code yX11_lookAt cX11_lookAt 5 none) ∈ lw_tbl := tb6 (i := 0) rfl
theorem lt_17_22 : (Cond.fieldLink RX11 273 "GonePipesModel" "tokenLong" "I") ∈ lw_tbl := tb4 (i := 116) rfl
theorem lt_17_23 : (Cond.fieldLink RX11 279 "GonePipesModel" "value" "I") ∈ lw_tbl := tb4 (i := 118) rfl
theorem lat_17 : ∀ w ∈ wsL_law_r17, w ∈ lw_tbl := List.forall_mem_cons.mpr ⟨lt_17_0, List.forall_mem_cons.mpr ⟨lt_17_1, List.forall_mem_cons.mpr ⟨lt_17_2, List.forall_mem_cons.mpr ⟨lt_17_3, List.forall_mem_cons.mpr ⟨lt_17_4, List.forall_mem_cons.mpr ⟨lt_17_5, List.forall_mem_cons.mpr ⟨lt_17_6, List.forall_mem_cons.mpr ⟨lt_17_7, List.forall_mem_cons.mpr ⟨lt_17_8, List.forall_mem_cons.mpr ⟨lt_17_9, List.forall_mem_cons.mpr ⟨lt_17_10, List.forall_mem_cons.mpr ⟨lt_17_11, List.forall_mem_cons.mpr ⟨lt_17_12, List.forall_mem_cons.mpr ⟨lt_17_13, List.forall_mem_cons.mpr ⟨lt_17_14, List.forall_mem_cons.mpr ⟨lt_17_15, List.forall_mem_cons.mpr ⟨lt_17_16, List.forall_mem_cons.mpr ⟨lt_17_17, List.forall_mem_cons.mpr ⟨lt_17_18, List.forall_mem_cons.mpr ⟨lt_17_19, List.forall_mem_cons.mpr ⟨lt_17_20, List.forall_mem_cons.mpr ⟨lt_17_21, List.forall_mem_cons.mpr ⟨lt_17_22, List.forall_mem_cons.mpr ⟨lt_17_23, fun _ h => absurd h List.not_mem_nil⟩⟩⟩⟩⟩⟩⟩⟩⟩⟩⟩⟩⟩⟩⟩⟩⟩⟩⟩⟩⟩⟩⟩⟩
theorem lt_18_0 : (Cond.methodLink RX11 282 yX11_isSmall) ∈ lw_tbl := tb6 (i := 1) rfl
theorem lt_18_1 : (Cond.static yX11_isSmall) ∈ lw_tbl := tb6 (i := 2) rfl
theorem lt_18_2 : (Cond.code yX11_isSmall cX11_isSmall 1 (some .boolean)) ∈ lw_tbl := tb6 (i := 3) rfl
theorem lt_18_3 : (Cond.constantLong RX11 264 (97)) ∈ lw_tbl := tb6 (i := 4) rfl
theorem lt_18_4 : (Cond.constantLong RX11 266 (122)) ∈ lw_tbl := tb6 (i := 5) rfl
theorem lt_18_5 : (Cond.methodLink RX11 285 yX11_isFigure) ∈ lw_tbl := tb6 (i := 6) rfl
theorem lt_18_6 : (Cond.static yX11_isFigure) ∈ lw_tbl := tb6 (i := 7) rfl
theorem lt_18_7 : (Cond.code yX11_isFigure cX11_isFigure 1 (some .boolean)) ∈ lw_tbl := tb6 (i := 8) rfl
theorem lt_18_8 : (Cond.constantLong RX11 147 (48)) ∈ lw_tbl := tb4 (i := 234) rfl
theorem lt_18_9 : (Cond.constantLong RX11 268 (57)) ∈ lw_tbl := tb6 (i := 9) rfl
theorem lt_18_10 : (Cond.methodLink RX11 298 yX11_isCalled) ∈ lw_tbl := tb6 (i := 10) rfl
theorem lt_18_11 : (Cond.instanceMethod yX11_isCalled) ∈ lw_tbl := tb6 (i := 12) rfl
theorem lt_18_12 : (Cond.selects RX11 yX11_isCalled yX11_isCalled) ∈ lw_tbl := List.mem_append_left _ (List.mem_of_getElem? (i := 67) rfl)
theorem lt_18_13 : (Cond.code yX11_isCalled cX11_isCalled 9 (some .boolean)) ∈ lw_tbl := tb6 (i := 13) rfl
theorem lt_18_14 : (Cond.methodLink RX11 291 yX11_goBehind) ∈ lw_tbl := tb6 (i := 14) rfl
theorem lt_18_15 : (Cond.instanceMethod yX11_goBehind) ∈ lw_tbl := tb6 (i := 16) rfl
theorem lt_18_16 : (Cond.selects RX11 yX11_goBehind yX11_goBehind) ∈ lw_tbl := List.mem_append_left _ (List.mem_of_getElem? (i := 68) rfl)
theorem lt_18_17 : (Cond.code yX11_goBehind cX11_goBehind 1 none) ∈ lw_tbl := tb6 (i := 17) rfl
theorem lt_18_18 : (Cond.methodLink RX11 311 yX11_takesItem) ∈ lw_tbl := tb6 (i := 18) rfl
theorem lt_18_19 : (Cond.instanceMethod yX11_takesItem) ∈ lw_tbl := tb6 (i := 20) rfl
theorem lt_18_20 : (Cond.selects RX11 yX11_takesItem yX11_takesItem) ∈ lw_tbl := List.mem_append_left _ (List.mem_of_getElem? (i := 69) rfl)
theorem lt_18_21 : (Cond.code yX11_takesItem cX11_takesItem 1 (some .boolean)) ∈ lw_tbl := tb6 (i := 21) rfl
theorem lt_18_22 : (Cond.methodLink RX11 302 yX11_takesPlace) ∈ lw_tbl := tb6 (i := 22) rfl
theorem lt_18_23 : (Cond.instanceMethod yX11_takesPlace) ∈ lw_tbl := tb6 (i := 24) rfl
theorem lat_18 : ∀ w ∈ wsL_law_r18, w ∈ lw_tbl := List.forall_mem_cons.mpr ⟨lt_18_0, List.forall_mem_cons.mpr ⟨lt_18_1, List.forall_mem_cons.mpr ⟨lt_18_2, List.forall_mem_cons.mpr ⟨lt_18_3, List.forall_mem_cons.mpr ⟨lt_18_4, List.forall_mem_cons.mpr ⟨lt_18_5, List.forall_mem_cons.mpr ⟨lt_18_6, List.forall_mem_cons.mpr ⟨lt_18_7, List.forall_mem_cons.mpr ⟨lt_18_8, List.forall_mem_cons.mpr ⟨lt_18_9, List.forall_mem_cons.mpr ⟨lt_18_10, List.forall_mem_cons.mpr ⟨lt_18_11, List.forall_mem_cons.mpr ⟨lt_18_12, List.forall_mem_cons.mpr ⟨lt_18_13, List.forall_mem_cons.mpr ⟨lt_18_14, List.forall_mem_cons.mpr ⟨lt_18_15, List.forall_mem_cons.mpr ⟨lt_18_16, List.forall_mem_cons.mpr ⟨lt_18_17, List.forall_mem_cons.mpr ⟨lt_18_18, List.forall_mem_cons.mpr ⟨lt_18_19, List.forall_mem_cons.mpr ⟨lt_18_20, List.forall_mem_cons.mpr ⟨lt_18_21, List.forall_mem_cons.mpr ⟨lt_18_22, List.forall_mem_cons.mpr ⟨lt_18_23, fun _ h => absurd h List.not_mem_nil⟩⟩⟩⟩⟩⟩⟩⟩⟩⟩⟩⟩⟩⟩⟩⟩⟩⟩⟩⟩⟩⟩⟩⟩
theorem lt_19_0 : (Cond.selects RX11 yX11_takesPlace yX11_takesPlace) ∈ lw_tbl := List.mem_append_left _ (List.mem_of_getElem? (i := 70) rfl)
theorem lt_19_1 : (Cond.code yX11_takesPlace cX11_takesPlace 1 (some .boolean)) ∈ lw_tbl := tb6 (i := 25) rfl
theorem lt_19_2 : (Cond.methodLink RX11 294 yX11_takes) ∈ lw_tbl := tb6 (i := 26) rfl
theorem lt_19_3 : (Cond.instanceMethod yX11_takes) ∈ lw_tbl := tb6 (i := 28) rfl
theorem lt_19_4 : (Cond.selects RX11 yX11_takes yX11_takes) ∈ lw_tbl := List.mem_append_left _ (List.mem_of_getElem? (i := 71) rfl)
theorem lt_19_5 : (Cond.code yX11_takes cX11_takes 4 (some .boolean)) ∈ lw_tbl := tb6 (i := 29) rfl
theorem lt_19_6 : (Cond.methodLink RX11 305 yX11_takesPipe) ∈ lw_tbl := tb6 (i := 30) rfl
theorem lt_19_7 : (Cond.instanceMethod yX11_takesPipe) ∈ lw_tbl := tb6 (i := 32) rfl
theorem lt_19_8 : (Cond.selects RX11 yX11_takesPipe yX11_takesPipe) ∈ lw_tbl := List.mem_append_left _ (List.mem_of_getElem? (i := 72) rfl)
theorem lt_19_9 : (Cond.code yX11_takesPipe cX11_takesPipe 1 (some .boolean)) ∈ lw_tbl := tb6 (i := 33) rfl
theorem lt_19_10 : (Cond.methodLink RX11 308 yX11_takesHymn) ∈ lw_tbl := tb6 (i := 34) rfl
theorem lt_19_11 : (Cond.instanceMethod yX11_takesHymn) ∈ lw_tbl := tb6 (i := 36) rfl
theorem lt_19_12 : (Cond.selects RX11 yX11_takesHymn yX11_takesHymn) ∈ lw_tbl := List.mem_append_left _ (List.mem_of_getElem? (i := 73) rfl)
theorem lt_19_13 : (Cond.code yX11_takesHymn cX11_takesHymn 2 (some .boolean)) ∈ lw_tbl := tb6 (i := 37) rfl
theorem lt_19_14 : (Cond.methodLink RL 49 yX10_pass) ∈ lw_tbl := tb2 (i := 199) rfl
theorem lt_19_15 : (Cond.instanceMethod yX10_pass) ∈ lw_tbl := tb2 (i := 200) rfl
theorem lt_19_16 : (Cond.selects RX10 yX10_pass yX10_pass) ∈ lw_tbl := tb2 (i := 201) rfl
theorem lt_19_17 : (Cond.code yX10_pass cX10_pass 3 (some .int)) ∈ lw_tbl := tb2 (i := 202) rfl
theorem lt_19_18 : (Cond.methodLink RX10 137 yX5_keep) ∈ lw_tbl := tb2 (i := 203) rfl
theorem lt_19_19 : (Cond.instanceMethod yX5_keep) ∈ lw_tbl := tb2 (i := 204) rfl
theorem lt_19_20 : (Cond.selects RX5 yX5_keep yX5_keep) ∈ lw_tbl := tb2 (i := 205) rfl
theorem lt_19_21 : (Cond.code yX5_keep cX5_keep 3 none) ∈ lw_tbl := tb2 (i := 206) rfl
theorem lt_19_22 : (Cond.fieldLink RX5 28 "GonePipes$Organ" "hour" "I") ∈ lw_tbl := tb1 (i := 96) rfl
theorem lt_19_23 : (Cond.fieldLink RX5 33 "GonePipes$Organ" "where" "[I") ∈ lw_tbl := tb1 (i := 114) rfl
theorem lat_19 : ∀ w ∈ wsL_law_r19, w ∈ lw_tbl := List.forall_mem_cons.mpr ⟨lt_19_0, List.forall_mem_cons.mpr ⟨lt_19_1, List.forall_mem_cons.mpr ⟨lt_19_2, List.forall_mem_cons.mpr ⟨lt_19_3, List.forall_mem_cons.mpr ⟨lt_19_4, List.forall_mem_cons.mpr ⟨lt_19_5, List.forall_mem_cons.mpr ⟨lt_19_6, List.forall_mem_cons.mpr ⟨lt_19_7, List.forall_mem_cons.mpr ⟨lt_19_8, List.forall_mem_cons.mpr ⟨lt_19_9, List.forall_mem_cons.mpr ⟨lt_19_10, List.forall_mem_cons.mpr ⟨lt_19_11, List.forall_mem_cons.mpr ⟨lt_19_12, List.forall_mem_cons.mpr ⟨lt_19_13, List.forall_mem_cons.mpr ⟨lt_19_14, List.forall_mem_cons.mpr ⟨lt_19_15, List.forall_mem_cons.mpr ⟨lt_19_16, List.forall_mem_cons.mpr ⟨lt_19_17, List.forall_mem_cons.mpr ⟨lt_19_18, List.forall_mem_cons.mpr ⟨lt_19_19, List.forall_mem_cons.mpr ⟨lt_19_20, List.forall_mem_cons.mpr ⟨lt_19_21, List.forall_mem_cons.mpr ⟨lt_19_22, List.forall_mem_cons.mpr ⟨lt_19_23, fun _ h => absurd h List.not_mem_nil⟩⟩⟩⟩⟩⟩⟩⟩⟩⟩⟩⟩⟩⟩⟩⟩⟩⟩⟩⟩⟩⟩⟩⟩
theorem lt_20_0 : (Cond.fieldLink RX5 36 "GonePipes$Organ" "away" "[I") ∈ lw_tbl := tb1 (i := 119) rfl
theorem lt_20_1 : (Cond.methodLink RX10 140 yX4_letHourGoBy) ∈ lw_tbl := tb2 (i := 207) rfl
theorem lt_20_2 : (Cond.instanceMethod yX4_letHourGoBy) ∈ lw_tbl := tb2 (i := 208) rfl
theorem lt_20_3 : (Cond.selects RX4 yX4_letHourGoBy yX4_letHourGoBy) ∈ lw_tbl := tb2 (i := 209) rfl
theorem lt_20_4 : (Cond.code yX4_letHourGoBy cX4_letHourGoBy 4 none) ∈ lw_tbl := tb2 (i := 210) rfl
theorem lt_20_5 : (Cond.methodLink RX4 80 yX4_ruleOf) ∈ lw_tbl := tb2 (i := 211) rfl
theorem lt_20_6 : (Cond.instanceMethod yX4_ruleOf) ∈ lw_tbl := tb2 (i := 213) rfl
theorem lt_20_7 : (Cond.selects RX4 yX4_ruleOf yX4_ruleOf) ∈ lw_tbl := List.mem_append_left _ (List.mem_of_getElem? (i := 10) rfl)
theorem lt_20_8 : (Cond.code yX4_ruleOf cX4_ruleOf 4 (some (.object "GonePipes$Plain"))) ∈ lw_tbl := tb2 (i := 214) rfl
theorem lt_20_9 : (Cond.methodLink RX4 84 ⟨"GonePipes$Plain", "mayGo", "(LGonePipes$Organ;I)Z"⟩) ∈ lw_tbl := tb2 (i := 215) rfl
theorem lt_20_10 : (Cond.sameMethod "GonePipes$Plain" "GonePipes$Plain" "mayGo" "(LGonePipes$Organ;I)Z") ∈ lw_tbl := tb2 (i := 218) rfl
theorem lt_20_11 : (Cond.instanceMethod ⟨"GonePipes$Plain", "mayGo", "(LGonePipes$Organ;I)Z"⟩) ∈ lw_tbl := tb2 (i := 216) rfl
theorem lt_20_12 : (Cond.selects RX0 ⟨"GonePipes$Plain", "mayGo", "(LGonePipes$Organ;I)Z"⟩ yX0_mayGo) ∈ lw_tbl := tb2 (i := 219) rfl
theorem lt_20_13 : (Cond.instanceMethod yX0_mayGo) ∈ lw_tbl := tb2 (i := 220) rfl
theorem lt_20_14 : (Cond.code yX0_mayGo cX0_mayGo 3 (some .boolean)) ∈ lw_tbl := tb2 (i := 221) rfl
theorem lt_20_15 : (Cond.methodLink RX0 7 yX4_isNight) ∈ lw_tbl := tb2 (i := 222) rfl
theorem lt_20_16 : (Cond.instanceMethod yX4_isNight) ∈ lw_tbl := tb2 (i := 223) rfl
theorem lt_20_17 : (Cond.selects RX4 yX4_isNight yX4_isNight) ∈ lw_tbl := tb2 (i := 224) rfl
theorem lt_20_18 : (Cond.code yX4_isNight cX4_isNight 2 (some .boolean)) ∈ lw_tbl := tb2 (i := 225) rfl
theorem lt_20_19 : (Cond.code yX6_mayGo cX6_mayGo 3 (some .boolean)) ∈ lw_tbl := tb3 (i := 3) rfl
theorem lt_20_20 : (Cond.selects RX1 ⟨"GonePipes$Plain", "mayGo", "(LGonePipes$Organ;I)Z"⟩ yX1_mayGo) ∈ lw_tbl := tb2 (i := 229) rfl
theorem lt_20_21 : (Cond.instanceMethod yX1_mayGo) ∈ lw_tbl := tb2 (i := 230) rfl
theorem lt_20_22 : (Cond.code yX1_mayGo cX1_mayGo 3 (some .boolean)) ∈ lw_tbl := tb2 (i := 231) rfl
theorem lt_20_23 : (Cond.methodLink RX1 7 yX4_isAnotherAway) ∈ lw_tbl := tb2 (i := 232) rfl
theorem lat_20 : ∀ w ∈ wsL_law_r20, w ∈ lw_tbl := List.forall_mem_cons.mpr ⟨lt_20_0, List.forall_mem_cons.mpr ⟨lt_20_1, List.forall_mem_cons.mpr ⟨lt_20_2, List.forall_mem_cons.mpr ⟨lt_20_3, List.forall_mem_cons.mpr ⟨lt_20_4, List.forall_mem_cons.mpr ⟨lt_20_5, List.forall_mem_cons.mpr ⟨lt_20_6, List.forall_mem_cons.mpr ⟨lt_20_7, List.forall_mem_cons.mpr ⟨lt_20_8, List.forall_mem_cons.mpr ⟨lt_20_9, List.forall_mem_cons.mpr ⟨lt_20_10, List.forall_mem_cons.mpr ⟨lt_20_11, List.forall_mem_cons.mpr ⟨lt_20_12, List.forall_mem_cons.mpr ⟨lt_20_13, List.forall_mem_cons.mpr ⟨lt_20_14, List.forall_mem_cons.mpr ⟨lt_20_15, List.forall_mem_cons.mpr ⟨lt_20_16, List.forall_mem_cons.mpr ⟨lt_20_17, List.forall_mem_cons.mpr ⟨lt_20_18, List.forall_mem_cons.mpr ⟨lt_20_19, List.forall_mem_cons.mpr ⟨lt_20_20, List.forall_mem_cons.mpr ⟨lt_20_21, List.forall_mem_cons.mpr ⟨lt_20_22, List.forall_mem_cons.mpr ⟨lt_20_23, fun _ h => absurd h List.not_mem_nil⟩⟩⟩⟩⟩⟩⟩⟩⟩⟩⟩⟩⟩⟩⟩⟩⟩⟩⟩⟩⟩⟩⟩⟩
