/-! the law's words are among the tables' -/
theorem tb {i : Nat} {w : Cond} (h : tables_1[i]? = some w) : w ∈ lw_tbl := List.mem_append_right _ (List.mem_of_getElem? h)
theorem tb1 {i : Nat} {w : Cond} (h : tables_1_1[i]? = some w) : w ∈ lw_tbl := List.mem_append_right _ (List.mem_append_left _ (List.mem_of_getElem? h))
theorem tb2 {i : Nat} {w : Cond} (h : tables_1_2[i]? = some w) : w ∈ lw_tbl := List.mem_append_right _ (List.mem_append_right _ (List.mem_append_left _ (List.mem_of_getElem? h)))
theorem tb3 {i : Nat} {w : Cond} (h : tables_1_3[i]? = some w) : w ∈ lw_tbl := List.mem_append_right _ (List.mem_append_right _ (List.mem_append_right _ (List.mem_append_left _ (List.mem_of_getElem? h))))
theorem tb4 {i : Nat} {w : Cond} (h : tables_1_4[i]? = some w) : w ∈ lw_tbl := List.mem_append_right _ (List.mem_append_right _ (List.mem_append_right _ (List.mem_append_right _ (List.mem_append_left _ (List.mem_of_getElem? h)))))
theorem tb5 {i : Nat} {w : Cond} (h : tables_1_5[i]? = some w) : w ∈ lw_tbl := List.mem_append_right _ (List.mem_append_right _ (List.mem_append_right _ (List.mem_append_right _ (List.mem_append_right _ (List.mem_append_left _ (List.mem_of_getElem? h))))))
theorem tb6 {i : Nat} {w : Cond} (h : tables_1_6[i]? = some w) : w ∈ lw_tbl := List.mem_append_right _ (List.mem_append_right _ (List.mem_append_right _ (List.mem_append_right _ (List.mem_append_right _ (List.mem_append_right _ (List.mem_of_getElem? h))))))
theorem lt_1_0 : (Cond.classLink RL 7 RX10) ∈ lw_tbl := tb1 (i := 20) rfl
theorem lt_1_1 : (Cond.instantiable RX10 13) ∈ lw_tbl := tb1 (i := 21) rfl
theorem lt_1_2 : (Cond.initialized RX10) ∈ lw_tbl := tb1 (i := 1) rfl
theorem lt_1_3 : (Cond.classLink RL 10 RX11) ∈ lw_tbl := tb4 (i := 92) rfl
theorem lt_1_4 : (Cond.instantiable RX11 23) ∈ lw_tbl := tb4 (i := 93) rfl
theorem lt_1_5 : (Cond.initialized RX11) ∈ lw_tbl := tb1 (i := 12) rfl
theorem lt_1_6 : (Cond.methodLink RL 9 yX10_init) ∈ lw_tbl := tb1 (i := 22) rfl
theorem lt_1_7 : (Cond.instanceMethod yX10_init) ∈ lw_tbl := tb1 (i := 23) rfl
theorem lt_1_8 : (Cond.code yX10_init cX10_init 1 none) ∈ lw_tbl := tb1 (i := 24) rfl
theorem lt_1_9 : (Cond.methodLink RX10 3 objectInit) ∈ lw_tbl := tb1 (i := 25) rfl
theorem lt_1_10 : (Cond.instanceMethod objectInit) ∈ lw_tbl := tb1 (i := 26) rfl
theorem lt_1_11 : (Cond.code objectInit ⟨#[0xb1]⟩ 1 none) ∈ lw_tbl := tb1 (i := 27) rfl
theorem lt_1_12 : (Cond.classLink RX10 9 RX6) ∈ lw_tbl := tb1 (i := 28) rfl
theorem lt_1_13 : (Cond.instantiable RX6 0) ∈ lw_tbl := tb1 (i := 30) rfl
theorem lt_1_14 : (Cond.initialized RX6) ∈ lw_tbl := tb1 (i := 2) rfl
theorem lt_1_15 : (Cond.classLink RX10 12 RX7) ∈ lw_tbl := tb1 (i := 36) rfl
theorem lt_1_16 : (Cond.instantiable RX7 0) ∈ lw_tbl := tb1 (i := 37) rfl
theorem lt_1_17 : (Cond.initialized RX7) ∈ lw_tbl := tb1 (i := 3) rfl
theorem lt_1_18 : (Cond.classLink RX10 15 RX1) ∈ lw_tbl := tb1 (i := 43) rfl
theorem lt_1_19 : (Cond.instantiable RX1 0) ∈ lw_tbl := tb1 (i := 44) rfl
theorem lt_1_20 : (Cond.initialized RX1) ∈ lw_tbl := tb1 (i := 4) rfl
theorem lt_1_21 : (Cond.classLink RX10 18 RX0) ∈ lw_tbl := tb1 (i := 50) rfl
theorem lt_1_22 : (Cond.instantiable RX0 0) ∈ lw_tbl := tb1 (i := 51) rfl
theorem lt_1_23 : (Cond.initialized RX0) ∈ lw_tbl := tb1 (i := 5) rfl
theorem lat_1 : ∀ w ∈ wsL_law_r1, w ∈ lw_tbl := List.forall_mem_cons.mpr ⟨lt_1_0, List.forall_mem_cons.mpr ⟨lt_1_1, List.forall_mem_cons.mpr ⟨lt_1_2, List.forall_mem_cons.mpr ⟨lt_1_3, List.forall_mem_cons.mpr ⟨lt_1_4, List.forall_mem_cons.mpr ⟨lt_1_5, List.forall_mem_cons.mpr ⟨lt_1_6, List.forall_mem_cons.mpr ⟨lt_1_7, List.forall_mem_cons.mpr ⟨lt_1_8, List.forall_mem_cons.mpr ⟨lt_1_9, List.forall_mem_cons.mpr ⟨lt_1_10, List.forall_mem_cons.mpr ⟨lt_1_11, List.forall_mem_cons.mpr ⟨lt_1_12, List.forall_mem_cons.mpr ⟨lt_1_13, List.forall_mem_cons.mpr ⟨lt_1_14, List.forall_mem_cons.mpr ⟨lt_1_15, List.forall_mem_cons.mpr ⟨lt_1_16, List.forall_mem_cons.mpr ⟨lt_1_17, List.forall_mem_cons.mpr ⟨lt_1_18, List.forall_mem_cons.mpr ⟨lt_1_19, List.forall_mem_cons.mpr ⟨lt_1_20, List.forall_mem_cons.mpr ⟨lt_1_21, List.forall_mem_cons.mpr ⟨lt_1_22, List.forall_mem_cons.mpr ⟨lt_1_23, fun _ h => absurd h List.not_mem_nil⟩⟩⟩⟩⟩⟩⟩⟩⟩⟩⟩⟩⟩⟩⟩⟩⟩⟩⟩⟩⟩⟩⟩⟩
theorem lt_2_0 : (Cond.classLink RX10 21 RX2) ∈ lw_tbl := tb1 (i := 57) rfl
theorem lt_2_1 : (Cond.instantiable RX2 0) ∈ lw_tbl := tb1 (i := 58) rfl
theorem lt_2_2 : (Cond.initialized RX2) ∈ lw_tbl := tb1 (i := 6) rfl
theorem lt_2_3 : (Cond.classLink RX10 24 RX3) ∈ lw_tbl := tb1 (i := 64) rfl
theorem lt_2_4 : (Cond.instantiable RX3 0) ∈ lw_tbl := tb1 (i := 65) rfl
theorem lt_2_5 : (Cond.initialized RX3) ∈ lw_tbl := tb1 (i := 7) rfl
theorem lt_2_6 : (Cond.fieldLink RX10 27 "GonePipes" "kinds" "[LGonePipes$Plain;") ∈ lw_tbl := tb1 (i := 204) rfl
theorem lt_2_7 : (Cond.classLink RX10 31 RX4) ∈ lw_tbl := tb1 (i := 71) rfl
theorem lt_2_8 : (Cond.instantiable RX4 13) ∈ lw_tbl := tb1 (i := 72) rfl
theorem lt_2_9 : (Cond.initialized RX4) ∈ lw_tbl := tb1 (i := 8) rfl
theorem lt_2_10 : (Cond.fieldLink RX10 34 "GonePipes" "now" "LGonePipes$Organ;") ∈ lw_tbl := tb1 (i := 205) rfl
theorem lt_2_11 : (Cond.fieldLink RX10 38 "GonePipes" "trial" "LGonePipes$Organ;") ∈ lw_tbl := tb1 (i := 206) rfl
theorem lt_2_12 : (Cond.fieldLink RX10 41 "GonePipes" "images" "[LGonePipes$Organ;") ∈ lw_tbl := tb1 (i := 207) rfl
theorem lt_2_13 : (Cond.arrayClass .boolean) ∈ lw_tbl := tb1 (i := 184) rfl
theorem lt_2_14 : (Cond.fieldLink RX10 45 "GonePipes" "kept" "[Z") ∈ lw_tbl := tb1 (i := 208) rfl
theorem lt_2_15 : (Cond.classLink RX10 49 RX8) ∈ lw_tbl := tb1 (i := 155) rfl
theorem lt_2_16 : (Cond.instantiable RX8 7) ∈ lw_tbl := tb1 (i := 156) rfl
theorem lt_2_17 : (Cond.initialized RX8) ∈ lw_tbl := tb1 (i := 10) rfl
theorem lt_2_18 : (Cond.fieldLink RX10 52 "GonePipes" "text" "LGonePipes$Text;") ∈ lw_tbl := tb1 (i := 209) rfl
theorem lt_2_19 : (Cond.classLink RX10 56 RX9) ∈ lw_tbl := tb1 (i := 186) rfl
theorem lt_2_20 : (Cond.instantiable RX9 3) ∈ lw_tbl := tb1 (i := 187) rfl
theorem lt_2_21 : (Cond.initialized RX9) ∈ lw_tbl := tb1 (i := 11) rfl
theorem lt_2_22 : (Cond.fieldLink RX10 59 "GonePipes" "way" "LGonePipes$Walk;") ∈ lw_tbl := tb1 (i := 210) rfl
theorem lt_2_23 : (Cond.arrayClass .int) ∈ lw_tbl := tb1 (i := 94) rfl
theorem lat_2 : ∀ w ∈ wsL_law_r2, w ∈ lw_tbl := List.forall_mem_cons.mpr ⟨lt_2_0, List.forall_mem_cons.mpr ⟨lt_2_1, List.forall_mem_cons.mpr ⟨lt_2_2, List.forall_mem_cons.mpr ⟨lt_2_3, List.forall_mem_cons.mpr ⟨lt_2_4, List.forall_mem_cons.mpr ⟨lt_2_5, List.forall_mem_cons.mpr ⟨lt_2_6, List.forall_mem_cons.mpr ⟨lt_2_7, List.forall_mem_cons.mpr ⟨lt_2_8, List.forall_mem_cons.mpr ⟨lt_2_9, List.forall_mem_cons.mpr ⟨lt_2_10, List.forall_mem_cons.mpr ⟨lt_2_11, List.forall_mem_cons.mpr ⟨lt_2_12, List.forall_mem_cons.mpr ⟨lt_2_13, List.forall_mem_cons.mpr ⟨lt_2_14, List.forall_mem_cons.mpr ⟨lt_2_15, List.forall_mem_cons.mpr ⟨lt_2_16, List.forall_mem_cons.mpr ⟨lt_2_17, List.forall_mem_cons.mpr ⟨lt_2_18, List.forall_mem_cons.mpr ⟨lt_2_19, List.forall_mem_cons.mpr ⟨lt_2_20, List.forall_mem_cons.mpr ⟨lt_2_21, List.forall_mem_cons.mpr ⟨lt_2_22, List.forall_mem_cons.mpr ⟨lt_2_23, fun _ h => absurd h List.not_mem_nil⟩⟩⟩⟩⟩⟩⟩⟩⟩⟩⟩⟩⟩⟩⟩⟩⟩⟩⟩⟩⟩⟩⟩⟩
theorem lt_3_0 : (Cond.fieldLink RX10 63 "GonePipes" "whereByKind" "[I") ∈ lw_tbl := tb1 (i := 211) rfl
theorem lt_3_1 : (Cond.fieldLink RX10 67 "GonePipes" "above" "J") ∈ lw_tbl := tb1 (i := 212) rfl
theorem lt_3_2 : (Cond.fieldLink RX10 71 "GonePipes" "below" "J") ∈ lw_tbl := tb1 (i := 213) rfl
theorem lt_3_3 : (Cond.instanceMethod yX6_init) ∈ lw_tbl := tb1 (i := 32) rfl
theorem lt_3_4 : (Cond.code yX6_init cX6_init 1 none) ∈ lw_tbl := tb1 (i := 33) rfl
theorem lt_3_5 : (Cond.methodLink RX6 1 objectInit) ∈ lw_tbl := tb1 (i := 34) rfl
theorem lt_3_6 : (Cond.instanceMethod yX7_init) ∈ lw_tbl := tb1 (i := 39) rfl
theorem lt_3_7 : (Cond.code yX7_init cX7_init 1 none) ∈ lw_tbl := tb1 (i := 40) rfl
theorem lt_3_8 : (Cond.instanceMethod yX1_init) ∈ lw_tbl := tb1 (i := 46) rfl
theorem lt_3_9 : (Cond.code yX1_init cX1_init 1 none) ∈ lw_tbl := tb1 (i := 47) rfl
theorem lt_3_10 : (Cond.instanceMethod yX0_init) ∈ lw_tbl := tb1 (i := 53) rfl
theorem lt_3_11 : (Cond.code yX0_init cX0_init 1 none) ∈ lw_tbl := tb1 (i := 54) rfl
theorem lt_3_12 : (Cond.instanceMethod yX2_init) ∈ lw_tbl := tb1 (i := 60) rfl
theorem lt_3_13 : (Cond.code yX2_init cX2_init 1 none) ∈ lw_tbl := tb1 (i := 61) rfl
theorem lt_3_14 : (Cond.instanceMethod yX3_init) ∈ lw_tbl := tb1 (i := 67) rfl
theorem lt_3_15 : (Cond.code yX3_init cX3_init 1 none) ∈ lw_tbl := tb1 (i := 68) rfl
theorem lt_3_16 : (Cond.instanceMethod yX4_init) ∈ lw_tbl := tb1 (i := 74) rfl
theorem lt_3_17 : (Cond.code yX4_init cX4_init 1 none) ∈ lw_tbl := tb1 (i := 75) rfl
theorem lt_3_18 : (Cond.methodLink RX4 3 objectInit) ∈ lw_tbl := tb1 (i := 76) rfl
theorem lt_3_19 : (Cond.fieldLink RX4 9 "GonePipes$Organ" "placeRows" "[I") ∈ lw_tbl := tb1 (i := 107) rfl
theorem lt_3_20 : (Cond.fieldLink RX4 15 "GonePipes$Organ" "kind" "[I") ∈ lw_tbl := tb1 (i := 108) rfl
theorem lt_3_21 : (Cond.fieldLink RX4 18 "GonePipes$Organ" "note" "[I") ∈ lw_tbl := tb1 (i := 110) rfl
theorem lt_3_22 : (Cond.fieldLink RX4 21 "GonePipes$Organ" "where" "[I") ∈ lw_tbl := tb1 (i := 112) rfl
theorem lt_3_23 : (Cond.fieldLink RX4 24 "GonePipes$Organ" "away" "[I") ∈ lw_tbl := tb1 (i := 116) rfl
theorem lat_3 : ∀ w ∈ wsL_law_r3, w ∈ lw_tbl := List.forall_mem_cons.mpr ⟨lt_3_0, List.forall_mem_cons.mpr ⟨lt_3_1, List.forall_mem_cons.mpr ⟨lt_3_2, List.forall_mem_cons.mpr ⟨lt_3_3, List.forall_mem_cons.mpr ⟨lt_3_4, List.forall_mem_cons.mpr ⟨lt_3_5, List.forall_mem_cons.mpr ⟨lt_3_6, List.forall_mem_cons.mpr ⟨lt_3_7, List.forall_mem_cons.mpr ⟨lt_3_8, List.forall_mem_cons.mpr ⟨lt_3_9, List.forall_mem_cons.mpr ⟨lt_3_10, List.forall_mem_cons.mpr ⟨lt_3_11, List.forall_mem_cons.mpr ⟨lt_3_12, List.forall_mem_cons.mpr ⟨lt_3_13, List.forall_mem_cons.mpr ⟨lt_3_14, List.forall_mem_cons.mpr ⟨lt_3_15, List.forall_mem_cons.mpr ⟨lt_3_16, List.forall_mem_cons.mpr ⟨lt_3_17, List.forall_mem_cons.mpr ⟨lt_3_18, List.forall_mem_cons.mpr ⟨lt_3_19, List.forall_mem_cons.mpr ⟨lt_3_20, List.forall_mem_cons.mpr ⟨lt_3_21, List.forall_mem_cons.mpr ⟨lt_3_22, List.forall_mem_cons.mpr ⟨lt_3_23, fun _ h => absurd h List.not_mem_nil⟩⟩⟩⟩⟩⟩⟩⟩⟩⟩⟩⟩⟩⟩⟩⟩⟩⟩⟩⟩⟩⟩⟩⟩
theorem lt_4_0 : (Cond.fieldLink RX4 27 "GonePipes$Organ" "hymnCounts" "[I") ∈ lw_tbl := tb1 (i := 121) rfl
theorem lt_4_1 : (Cond.fieldLink RX4 30 "GonePipes$Organ" "hymnRows" "[I") ∈ lw_tbl := tb1 (i := 123) rfl
theorem lt_4_2 : (Cond.fieldLink RX4 33 "GonePipes$Organ" "readingRows" "[I") ∈ lw_tbl := tb1 (i := 124) rfl
theorem lt_4_3 : (Cond.classLink RX4 36 RX5) ∈ lw_tbl := tb1 (i := 77) rfl
theorem lt_4_4 : (Cond.instantiable RX5 3) ∈ lw_tbl := tb1 (i := 78) rfl
theorem lt_4_5 : (Cond.initialized RX5) ∈ lw_tbl := tb1 (i := 9) rfl
theorem lt_4_6 : (Cond.fieldLink RX4 39 "GonePipes$Organ" "past" "LGonePipes$Past;") ∈ lw_tbl := tb1 (i := 125) rfl
theorem lt_4_7 : (Cond.instanceMethod yX5_init) ∈ lw_tbl := tb1 (i := 80) rfl
theorem lt_4_8 : (Cond.code yX5_init cX5_init 1 none) ∈ lw_tbl := tb1 (i := 81) rfl
theorem lt_4_9 : (Cond.methodLink RX5 3 objectInit) ∈ lw_tbl := tb1 (i := 82) rfl
theorem lt_4_10 : (Cond.fieldLink RX5 9 "GonePipes$Past" "rows" "[I") ∈ lw_tbl := tb1 (i := 86) rfl
theorem lt_4_11 : (Cond.instanceMethod yX8_init) ∈ lw_tbl := tb1 (i := 158) rfl
theorem lt_4_12 : (Cond.code yX8_init cX8_init 1 none) ∈ lw_tbl := tb1 (i := 159) rfl
theorem lt_4_13 : (Cond.methodLink RX8 3 objectInit) ∈ lw_tbl := tb1 (i := 160) rfl
theorem lt_4_14 : (Cond.arrayClass .byte) ∈ lw_tbl := tb1 (i := 185) rfl
theorem lt_4_15 : (Cond.fieldLink RX8 9 "GonePipes$Text" "bytes" "[B") ∈ lw_tbl := tb1 (i := 163) rfl
theorem lt_4_16 : (Cond.fieldLink RX8 15 "GonePipes$Text" "row" "[I") ∈ lw_tbl := tb1 (i := 164) rfl
theorem lt_4_17 : (Cond.instanceMethod yX9_init) ∈ lw_tbl := tb1 (i := 189) rfl
theorem lt_4_18 : (Cond.code yX9_init cX9_init 1 none) ∈ lw_tbl := tb1 (i := 190) rfl
theorem lt_4_19 : (Cond.methodLink RX9 3 objectInit) ∈ lw_tbl := tb1 (i := 191) rfl
theorem lt_4_20 : (Cond.fieldLink RX9 11 "GonePipes$Walk" "rest" "[I") ∈ lw_tbl := tb1 (i := 196) rfl
theorem lt_4_21 : (Cond.methodLink RL 12 yX11_init) ∈ lw_tbl := tb4 (i := 94) rfl
theorem lt_4_22 : (Cond.instanceMethod yX11_init) ∈ lw_tbl := tb4 (i := 95) rfl
theorem lt_4_23 : (Cond.code yX11_init cX11_init 1 none) ∈ lw_tbl := tb4 (i := 96) rfl
theorem lat_4 : ∀ w ∈ wsL_law_r4, w ∈ lw_tbl := List.forall_mem_cons.mpr ⟨lt_4_0, List.forall_mem_cons.mpr ⟨lt_4_1, List.forall_mem_cons.mpr ⟨lt_4_2, List.forall_mem_cons.mpr ⟨lt_4_3, List.forall_mem_cons.mpr ⟨lt_4_4, List.forall_mem_cons.mpr ⟨lt_4_5, List.forall_mem_cons.mpr ⟨lt_4_6, List.forall_mem_cons.mpr ⟨lt_4_7, List.forall_mem_cons.mpr ⟨lt_4_8, List.forall_mem_cons.mpr ⟨lt_4_9, List.forall_mem_cons.mpr ⟨lt_4_10, List.forall_mem_cons.mpr ⟨lt_4_11, List.forall_mem_cons.mpr ⟨lt_4_12, List.forall_mem_cons.mpr ⟨lt_4_13, List.forall_mem_cons.mpr ⟨lt_4_14, List.forall_mem_cons.mpr ⟨lt_4_15, List.forall_mem_cons.mpr ⟨lt_4_16, List.forall_mem_cons.mpr ⟨lt_4_17, List.forall_mem_cons.mpr ⟨lt_4_18, List.forall_mem_cons.mpr ⟨lt_4_19, List.forall_mem_cons.mpr ⟨lt_4_20, List.forall_mem_cons.mpr ⟨lt_4_21, List.forall_mem_cons.mpr ⟨lt_4_22, List.forall_mem_cons.mpr ⟨lt_4_23, fun _ h => absurd h List.not_mem_nil⟩⟩⟩⟩⟩⟩⟩⟩⟩⟩⟩⟩⟩⟩⟩⟩⟩⟩⟩⟩⟩⟩⟩⟩
theorem lt_5_0 : (Cond.methodLink RX11 1 objectInit) ∈ lw_tbl := tb4 (i := 97) rfl
theorem lt_5_1 : (Cond.fieldLink RX11 7 "GonePipesModel" "now" "[I") ∈ lw_tbl := tb4 (i := 98) rfl
theorem lt_5_2 : (Cond.fieldLink RX11 13 "GonePipesModel" "kept" "[I") ∈ lw_tbl := tb4 (i := 99) rfl
theorem lt_5_3 : (Cond.fieldLink RX11 16 "GonePipesModel" "isKept" "[Z") ∈ lw_tbl := tb4 (i := 100) rfl
theorem lt_5_4 : (Cond.fieldLink RX11 20 "GonePipesModel" "refused" "[I") ∈ lw_tbl := tb4 (i := 101) rfl
theorem lt_5_5 : (Cond.fieldLink RX11 23 "GonePipesModel" "below" "J") ∈ lw_tbl := tb4 (i := 103) rfl
theorem lt_5_6 : (Cond.fieldLink RX11 27 "GonePipesModel" "kinds" "[I") ∈ lw_tbl := tb4 (i := 105) rfl
theorem lt_5_7 : (Cond.fieldLink RX11 30 "GonePipesModel" "wheres" "[I") ∈ lw_tbl := tb4 (i := 106) rfl
theorem lt_5_8 : (Cond.fieldLink RX11 33 "GonePipesModel" "aways" "[I") ∈ lw_tbl := tb4 (i := 107) rfl
theorem lt_5_9 : (Cond.fieldLink RX11 36 "GonePipesModel" "tones" "[I") ∈ lw_tbl := tb4 (i := 108) rfl
theorem lt_5_10 : (Cond.fieldLink RX11 39 "GonePipesModel" "order" "[I") ∈ lw_tbl := tb4 (i := 109) rfl
theorem lt_5_11 : (Cond.fieldLink RX11 42 "GonePipesModel" "whereBy" "[I") ∈ lw_tbl := tb4 (i := 112) rfl
theorem lt_5_12 : (Cond.fieldLink RX11 45 "GonePipesModel" "bytes" "[I") ∈ lw_tbl := tb4 (i := 113) rfl
theorem lt_5_13 : (Cond.fieldLink RX11 48 "GonePipesModel" "anew" "[I") ∈ lw_tbl := tb4 (i := 119) rfl
theorem lt_5_14 : (Cond.fieldLink RX11 51 "GonePipesModel" "values" "[I") ∈ lw_tbl := tb4 (i := 120) rfl
theorem lt_5_15 : (Cond.methodLink RL 13 yX10_organ) ∈ lw_tbl := tb2 (i := 4) rfl
theorem lt_5_16 : (Cond.instanceMethod yX10_organ) ∈ lw_tbl := tb2 (i := 5) rfl
theorem lt_5_17 : (Cond.selects RX10 yX10_organ yX10_organ) ∈ lw_tbl := tb2 (i := 6) rfl
theorem lt_5_18 : (Cond.code yX10_organ cX10_organ 2 (some .int)) ∈ lw_tbl := tb2 (i := 7) rfl
theorem lt_5_19 : (Cond.fieldLink RX10 74 "GonePipes$Organ" "pipes" "I") ∈ lw_tbl := tb1 (i := 102) rfl
theorem lt_5_20 : (Cond.methodLink RX10 78 yX4_reset) ∈ lw_tbl := tb2 (i := 8) rfl
theorem lt_5_21 : (Cond.instanceMethod yX4_reset) ∈ lw_tbl := tb2 (i := 9) rfl
theorem lt_5_22 : (Cond.selects RX4 yX4_reset yX4_reset) ∈ lw_tbl := tb2 (i := 10) rfl
theorem lt_5_23 : (Cond.code yX4_reset cX4_reset 2 none) ∈ lw_tbl := tb2 (i := 11) rfl
theorem lat_5 : ∀ w ∈ wsL_law_r5, w ∈ lw_tbl := List.forall_mem_cons.mpr ⟨lt_5_0, List.forall_mem_cons.mpr ⟨lt_5_1, List.forall_mem_cons.mpr ⟨lt_5_2, List.forall_mem_cons.mpr ⟨lt_5_3, List.forall_mem_cons.mpr ⟨lt_5_4, List.forall_mem_cons.mpr ⟨lt_5_5, List.forall_mem_cons.mpr ⟨lt_5_6, List.forall_mem_cons.mpr ⟨lt_5_7, List.forall_mem_cons.mpr ⟨lt_5_8, List.forall_mem_cons.mpr ⟨lt_5_9, List.forall_mem_cons.mpr ⟨lt_5_10, List.forall_mem_cons.mpr ⟨lt_5_11, List.forall_mem_cons.mpr ⟨lt_5_12, List.forall_mem_cons.mpr ⟨lt_5_13, List.forall_mem_cons.mpr ⟨lt_5_14, List.forall_mem_cons.mpr ⟨lt_5_15, List.forall_mem_cons.mpr ⟨lt_5_16, List.forall_mem_cons.mpr ⟨lt_5_17, List.forall_mem_cons.mpr ⟨lt_5_18, List.forall_mem_cons.mpr ⟨lt_5_19, List.forall_mem_cons.mpr ⟨lt_5_20, List.forall_mem_cons.mpr ⟨lt_5_21, List.forall_mem_cons.mpr ⟨lt_5_22, List.forall_mem_cons.mpr ⟨lt_5_23, fun _ h => absurd h List.not_mem_nil⟩⟩⟩⟩⟩⟩⟩⟩⟩⟩⟩⟩⟩⟩⟩⟩⟩⟩⟩⟩⟩⟩⟩⟩
theorem lt_6_0 : (Cond.fieldLink RX4 43 "GonePipes$Organ" "hour" "I") ∈ lw_tbl := tb1 (i := 95) rfl
theorem lt_6_1 : (Cond.fieldLink RX4 47 "GonePipes$Organ" "places" "I") ∈ lw_tbl := tb1 (i := 98) rfl
theorem lt_6_2 : (Cond.fieldLink RX4 50 "GonePipes$Organ" "pipes" "I") ∈ lw_tbl := tb1 (i := 103) rfl
theorem lt_6_3 : (Cond.fieldLink RX4 53 "GonePipes$Organ" "readings" "I") ∈ lw_tbl := tb1 (i := 105) rfl
theorem lt_6_4 : (Cond.methodLink RX4 56 yX4_emptyHymn) ∈ lw_tbl := tb2 (i := 12) rfl
theorem lt_6_5 : (Cond.instanceMethod yX4_emptyHymn) ∈ lw_tbl := tb2 (i := 13) rfl
theorem lt_6_6 : (Cond.selects RX4 yX4_emptyHymn yX4_emptyHymn) ∈ lw_tbl := tb2 (i := 14) rfl
theorem lt_6_7 : (Cond.code yX4_emptyHymn cX4_emptyHymn 2 none) ∈ lw_tbl := tb2 (i := 15) rfl
theorem lt_6_8 : (Cond.methodLink RX4 60 yX5_reset) ∈ lw_tbl := tb2 (i := 16) rfl
theorem lt_6_9 : (Cond.instanceMethod yX5_reset) ∈ lw_tbl := tb2 (i := 17) rfl
theorem lt_6_10 : (Cond.selects RX5 yX5_reset yX5_reset) ∈ lw_tbl := tb2 (i := 18) rfl
theorem lt_6_11 : (Cond.code yX5_reset cX5_reset 1 none) ∈ lw_tbl := tb2 (i := 19) rfl
theorem lt_6_12 : (Cond.fieldLink RX5 15 "GonePipes$Past" "count" "I") ∈ lw_tbl := tb1 (i := 83) rfl
theorem lt_6_13 : (Cond.fieldLink RX5 19 "GonePipes$Past" "oldest" "I") ∈ lw_tbl := tb1 (i := 85) rfl
theorem lt_6_14 : (Cond.methodLink RL 17 yX11_organ) ∈ lw_tbl := tb4 (i := 168) rfl
theorem lt_6_15 : (Cond.instanceMethod yX11_organ) ∈ lw_tbl := tb4 (i := 169) rfl
theorem lt_6_16 : (Cond.selects RX11 yX11_organ yX11_organ) ∈ lw_tbl := tb4 (i := 170) rfl
theorem lt_6_17 : (Cond.code yX11_organ cX11_organ 2 (some .int)) ∈ lw_tbl := tb4 (i := 171) rfl
theorem lt_6_18 : (Cond.methodLink RX11 54 yX11_pipes) ∈ lw_tbl := tb4 (i := 172) rfl
theorem lt_6_19 : (Cond.instanceMethod yX11_pipes) ∈ lw_tbl := tb4 (i := 174) rfl
theorem lt_6_20 : (Cond.selects RX11 yX11_pipes yX11_pipes) ∈ lw_tbl := List.mem_append_left _ (List.mem_of_getElem? (i := 29) rfl)
theorem lt_6_21 : (Cond.code yX11_pipes cX11_pipes 1 (some .int)) ∈ lw_tbl := tb4 (i := 175) rfl
theorem lt_6_22 : (Cond.methodLink RX11 73 yX11_begin) ∈ lw_tbl := tb4 (i := 176) rfl
theorem lt_6_23 : (Cond.static yX11_begin) ∈ lw_tbl := tb4 (i := 177) rfl
theorem lat_6 : ∀ w ∈ wsL_law_r6, w ∈ lw_tbl := List.forall_mem_cons.mpr ⟨lt_6_0, List.forall_mem_cons.mpr ⟨lt_6_1, List.forall_mem_cons.mpr ⟨lt_6_2, List.forall_mem_cons.mpr ⟨lt_6_3, List.forall_mem_cons.mpr ⟨lt_6_4, List.forall_mem_cons.mpr ⟨lt_6_5, List.forall_mem_cons.mpr ⟨lt_6_6, List.forall_mem_cons.mpr ⟨lt_6_7, List.forall_mem_cons.mpr ⟨lt_6_8, List.forall_mem_cons.mpr ⟨lt_6_9, List.forall_mem_cons.mpr ⟨lt_6_10, List.forall_mem_cons.mpr ⟨lt_6_11, List.forall_mem_cons.mpr ⟨lt_6_12, List.forall_mem_cons.mpr ⟨lt_6_13, List.forall_mem_cons.mpr ⟨lt_6_14, List.forall_mem_cons.mpr ⟨lt_6_15, List.forall_mem_cons.mpr ⟨lt_6_16, List.forall_mem_cons.mpr ⟨lt_6_17, List.forall_mem_cons.mpr ⟨lt_6_18, List.forall_mem_cons.mpr ⟨lt_6_19, List.forall_mem_cons.mpr ⟨lt_6_20, List.forall_mem_cons.mpr ⟨lt_6_21, List.forall_mem_cons.mpr ⟨lt_6_22, List.forall_mem_cons.mpr ⟨lt_6_23, fun _ h => absurd h List.not_mem_nil⟩⟩⟩⟩⟩⟩⟩⟩⟩⟩⟩⟩⟩⟩⟩⟩⟩⟩⟩⟩⟩⟩⟩⟩
theorem lt_7_0 : (Cond.code yX11_begin cX11_begin 2 none) ∈ lw_tbl := tb4 (i := 178) rfl
theorem lt_7_1 : (Cond.methodLink RL 18 yX10_place) ∈ lw_tbl := tb2 (i := 20) rfl
theorem lt_7_2 : (Cond.instanceMethod yX10_place) ∈ lw_tbl := tb2 (i := 21) rfl
theorem lt_7_3 : (Cond.selects RX10 yX10_place yX10_place) ∈ lw_tbl := tb2 (i := 22) rfl
theorem lt_7_4 : (Cond.code yX10_place cX10_place 6 (some .int)) ∈ lw_tbl := tb2 (i := 23) rfl
theorem lt_7_5 : (Cond.fieldLink RX10 96 "GonePipes$Organ" "past" "LGonePipes$Past;") ∈ lw_tbl := tb1 (i := 126) rfl
theorem lt_7_6 : (Cond.fieldLink RX10 103 "GonePipes$Organ" "places" "I") ∈ lw_tbl := tb1 (i := 100) rfl
theorem lt_7_7 : (Cond.methodLink RX10 81 yX10_isUpTo) ∈ lw_tbl := tb2 (i := 24) rfl
theorem lt_7_8 : (Cond.static yX10_isUpTo) ∈ lw_tbl := tb2 (i := 25) rfl
theorem lt_7_9 : (Cond.code yX10_isUpTo cX10_isUpTo 2 (some .boolean)) ∈ lw_tbl := tb2 (i := 26) rfl
theorem lt_7_10 : (Cond.methodLink RX10 85 yX10_refuseBad) ∈ lw_tbl := tb2 (i := 27) rfl
theorem lt_7_11 : (Cond.instanceMethod yX10_refuseBad) ∈ lw_tbl := tb2 (i := 29) rfl
theorem lt_7_12 : (Cond.selects RX10 yX10_refuseBad yX10_refuseBad) ∈ lw_tbl := List.mem_append_left _ (List.mem_of_getElem? (i := 0) rfl)
theorem lt_7_13 : (Cond.code yX10_refuseBad cX10_refuseBad 1 (some .int)) ∈ lw_tbl := tb2 (i := 30) rfl
theorem lt_7_14 : (Cond.fieldLink RX10 291 "GonePipes" "refusedBad" "I") ∈ lw_tbl := tb1 (i := 214) rfl
theorem lt_7_15 : (Cond.methodLink RX10 89 yX4_addPlace) ∈ lw_tbl := tb2 (i := 31) rfl
theorem lt_7_16 : (Cond.instanceMethod yX4_addPlace) ∈ lw_tbl := tb2 (i := 32) rfl
theorem lt_7_17 : (Cond.selects RX4 yX4_addPlace yX4_addPlace) ∈ lw_tbl := tb2 (i := 33) rfl
theorem lt_7_18 : (Cond.code yX4_addPlace cX4_addPlace 7 (some .boolean)) ∈ lw_tbl := tb2 (i := 34) rfl
theorem lt_7_19 : (Cond.methodLink RX10 93 yX10_refuseFull) ∈ lw_tbl := tb2 (i := 35) rfl
theorem lt_7_20 : (Cond.instanceMethod yX10_refuseFull) ∈ lw_tbl := tb2 (i := 37) rfl
theorem lt_7_21 : (Cond.selects RX10 yX10_refuseFull yX10_refuseFull) ∈ lw_tbl := List.mem_append_left _ (List.mem_of_getElem? (i := 1) rfl)
theorem lt_7_22 : (Cond.code yX10_refuseFull cX10_refuseFull 1 (some .int)) ∈ lw_tbl := tb2 (i := 38) rfl
theorem lt_7_23 : (Cond.fieldLink RX10 297 "GonePipes" "refusedFull" "I") ∈ lw_tbl := tb1 (i := 216) rfl
theorem lat_7 : ∀ w ∈ wsL_law_r7, w ∈ lw_tbl := List.forall_mem_cons.mpr ⟨lt_7_0, List.forall_mem_cons.mpr ⟨lt_7_1, List.forall_mem_cons.mpr ⟨lt_7_2, List.forall_mem_cons.mpr ⟨lt_7_3, List.forall_mem_cons.mpr ⟨lt_7_4, List.forall_mem_cons.mpr ⟨lt_7_5, List.forall_mem_cons.mpr ⟨lt_7_6, List.forall_mem_cons.mpr ⟨lt_7_7, List.forall_mem_cons.mpr ⟨lt_7_8, List.forall_mem_cons.mpr ⟨lt_7_9, List.forall_mem_cons.mpr ⟨lt_7_10, List.forall_mem_cons.mpr ⟨lt_7_11, List.forall_mem_cons.mpr ⟨lt_7_12, List.forall_mem_cons.mpr ⟨lt_7_13, List.forall_mem_cons.mpr ⟨lt_7_14, List.forall_mem_cons.mpr ⟨lt_7_15, List.forall_mem_cons.mpr ⟨lt_7_16, List.forall_mem_cons.mpr ⟨lt_7_17, List.forall_mem_cons.mpr ⟨lt_7_18, List.forall_mem_cons.mpr ⟨lt_7_19, List.forall_mem_cons.mpr ⟨lt_7_20, List.forall_mem_cons.mpr ⟨lt_7_21, List.forall_mem_cons.mpr ⟨lt_7_22, List.forall_mem_cons.mpr ⟨lt_7_23, fun _ h => absurd h List.not_mem_nil⟩⟩⟩⟩⟩⟩⟩⟩⟩⟩⟩⟩⟩⟩⟩⟩⟩⟩⟩⟩⟩⟩⟩⟩
theorem lt_8_0 : (Cond.methodLink RX10 100 yX5_reset) ∈ lw_tbl := tb2 (i := 39) rfl
theorem lt_8_1 : (Cond.methodLink RL 22 yX11_place) ∈ lw_tbl := tb4 (i := 179) rfl
theorem lt_8_2 : (Cond.instanceMethod yX11_place) ∈ lw_tbl := tb4 (i := 180) rfl
theorem lt_8_3 : (Cond.selects RX11 yX11_place yX11_place) ∈ lw_tbl := tb4 (i := 181) rfl
theorem lt_8_4 : (Cond.code yX11_place cX11_place 6 (some .int)) ∈ lw_tbl := tb4 (i := 182) rfl
theorem lt_8_5 : (Cond.constantLong RX11 77 (11)) ∈ lw_tbl := tb4 (i := 183) rfl
theorem lt_8_6 : (Cond.constantLong RX11 79 (23)) ∈ lw_tbl := tb4 (i := 187) rfl
theorem lt_8_7 : (Cond.constantLong RX11 81 (24)) ∈ lw_tbl := tb4 (i := 188) rfl
theorem lt_8_8 : (Cond.constantLong RX11 83 (30)) ∈ lw_tbl := tb4 (i := 189) rfl
theorem lt_8_9 : (Cond.methodLink RX11 58 yX11_in) ∈ lw_tbl := tb4 (i := 184) rfl
theorem lt_8_10 : (Cond.static yX11_in) ∈ lw_tbl := tb4 (i := 185) rfl
theorem lt_8_11 : (Cond.code yX11_in cX11_in 6 (some .boolean)) ∈ lw_tbl := tb4 (i := 186) rfl
theorem lt_8_12 : (Cond.methodLink RX11 85 yX11_bad) ∈ lw_tbl := tb4 (i := 190) rfl
theorem lt_8_13 : (Cond.instanceMethod yX11_bad) ∈ lw_tbl := tb4 (i := 192) rfl
theorem lt_8_14 : (Cond.selects RX11 yX11_bad yX11_bad) ∈ lw_tbl := List.mem_append_left _ (List.mem_of_getElem? (i := 30) rfl)
theorem lt_8_15 : (Cond.code yX11_bad cX11_bad 2 (some .int)) ∈ lw_tbl := tb4 (i := 193) rfl
theorem lt_8_16 : (Cond.methodLink RX11 62 yX11_places) ∈ lw_tbl := tb4 (i := 194) rfl
theorem lt_8_17 : (Cond.instanceMethod yX11_places) ∈ lw_tbl := tb4 (i := 196) rfl
theorem lt_8_18 : (Cond.selects RX11 yX11_places yX11_places) ∈ lw_tbl := List.mem_append_left _ (List.mem_of_getElem? (i := 31) rfl)
theorem lt_8_19 : (Cond.code yX11_places cX11_places 1 (some .int)) ∈ lw_tbl := tb4 (i := 197) rfl
theorem lt_8_20 : (Cond.methodLink RX11 89 yX11_full) ∈ lw_tbl := tb4 (i := 198) rfl
theorem lt_8_21 : (Cond.instanceMethod yX11_full) ∈ lw_tbl := tb4 (i := 200) rfl
theorem lt_8_22 : (Cond.selects RX11 yX11_full yX11_full) ∈ lw_tbl := List.mem_append_left _ (List.mem_of_getElem? (i := 32) rfl)
theorem lt_8_23 : (Cond.code yX11_full cX11_full 1 (some .int)) ∈ lw_tbl := tb4 (i := 201) rfl
theorem lat_8 : ∀ w ∈ wsL_law_r8, w ∈ lw_tbl := List.forall_mem_cons.mpr ⟨lt_8_0, List.forall_mem_cons.mpr ⟨lt_8_1, List.forall_mem_cons.mpr ⟨lt_8_2, List.forall_mem_cons.mpr ⟨lt_8_3, List.forall_mem_cons.mpr ⟨lt_8_4, List.forall_mem_cons.mpr ⟨lt_8_5, List.forall_mem_cons.mpr ⟨lt_8_6, List.forall_mem_cons.mpr ⟨lt_8_7, List.forall_mem_cons.mpr ⟨lt_8_8, List.forall_mem_cons.mpr ⟨lt_8_9, List.forall_mem_cons.mpr ⟨lt_8_10, List.forall_mem_cons.mpr ⟨lt_8_11, List.forall_mem_cons.mpr ⟨lt_8_12, List.forall_mem_cons.mpr ⟨lt_8_13, List.forall_mem_cons.mpr ⟨lt_8_14, List.forall_mem_cons.mpr ⟨lt_8_15, List.forall_mem_cons.mpr ⟨lt_8_16, List.forall_mem_cons.mpr ⟨lt_8_17, List.forall_mem_cons.mpr ⟨lt_8_18, List.forall_mem_cons.mpr ⟨lt_8_19, List.forall_mem_cons.mpr ⟨lt_8_20, List.forall_mem_cons.mpr ⟨lt_8_21, List.forall_mem_cons.mpr ⟨lt_8_22, List.forall_mem_cons.mpr ⟨lt_8_23, fun _ h => absurd h List.not_mem_nil⟩⟩⟩⟩⟩⟩⟩⟩⟩⟩⟩⟩⟩⟩⟩⟩⟩⟩⟩⟩⟩⟩⟩⟩
theorem lt_9_0 : (Cond.methodLink RX11 92 yX11_layPlace) ∈ lw_tbl := tb4 (i := 202) rfl
theorem lt_9_1 : (Cond.static yX11_layPlace) ∈ lw_tbl := tb4 (i := 203) rfl
theorem lt_9_2 : (Cond.code yX11_layPlace cX11_layPlace 7 none) ∈ lw_tbl := tb4 (i := 204) rfl
theorem lt_9_3 : (Cond.methodLink RL 23 yX10_pipe) ∈ lw_tbl := tb2 (i := 40) rfl
theorem lt_9_4 : (Cond.instanceMethod yX10_pipe) ∈ lw_tbl := tb2 (i := 41) rfl
theorem lt_9_5 : (Cond.selects RX10 yX10_pipe yX10_pipe) ∈ lw_tbl := tb2 (i := 42) rfl
theorem lt_9_6 : (Cond.code yX10_pipe cX10_pipe 3 (some .int)) ∈ lw_tbl := tb2 (i := 43) rfl
theorem lt_9_7 : (Cond.methodLink RX10 106 yX4_addPipe) ∈ lw_tbl := tb2 (i := 44) rfl
theorem lt_9_8 : (Cond.instanceMethod yX4_addPipe) ∈ lw_tbl := tb2 (i := 45) rfl
theorem lt_9_9 : (Cond.selects RX4 yX4_addPipe yX4_addPipe) ∈ lw_tbl := tb2 (i := 46) rfl
theorem lt_9_10 : (Cond.code yX4_addPipe cX4_addPipe 3 (some .boolean)) ∈ lw_tbl := tb2 (i := 47) rfl
theorem lt_9_11 : (Cond.methodLink RX4 77 yX4_bringHome) ∈ lw_tbl := tb2 (i := 48) rfl
theorem lt_9_12 : (Cond.instanceMethod yX4_bringHome) ∈ lw_tbl := tb2 (i := 49) rfl
theorem lt_9_13 : (Cond.selects RX4 yX4_bringHome yX4_bringHome) ∈ lw_tbl := tb2 (i := 50) rfl
theorem lt_9_14 : (Cond.code yX4_bringHome cX4_bringHome 2 none) ∈ lw_tbl := tb2 (i := 51) rfl
theorem lt_9_15 : (Cond.methodLink RL 27 yX11_pipe) ∈ lw_tbl := tb4 (i := 205) rfl
theorem lt_9_16 : (Cond.instanceMethod yX11_pipe) ∈ lw_tbl := tb4 (i := 206) rfl
theorem lt_9_17 : (Cond.selects RX11 yX11_pipe yX11_pipe) ∈ lw_tbl := tb4 (i := 207) rfl
theorem lt_9_18 : (Cond.code yX11_pipe cX11_pipe 3 (some .int)) ∈ lw_tbl := tb4 (i := 208) rfl
theorem lt_9_19 : (Cond.constantLong RX11 96 (5)) ∈ lw_tbl := tb4 (i := 209) rfl
theorem lt_9_20 : (Cond.constantLong RX11 98 (35)) ∈ lw_tbl := tb4 (i := 210) rfl
theorem lt_9_21 : (Cond.methodLink RX11 100 yX11_layPipe) ∈ lw_tbl := tb4 (i := 211) rfl
theorem lt_9_22 : (Cond.static yX11_layPipe) ∈ lw_tbl := tb4 (i := 212) rfl
theorem lt_9_23 : (Cond.code yX11_layPipe cX11_layPipe 4 none) ∈ lw_tbl := tb4 (i := 213) rfl
theorem lat_9 : ∀ w ∈ wsL_law_r9, w ∈ lw_tbl := List.forall_mem_cons.mpr ⟨lt_9_0, List.forall_mem_cons.mpr ⟨lt_9_1, List.forall_mem_cons.mpr ⟨lt_9_2, List.forall_mem_cons.mpr ⟨lt_9_3, List.forall_mem_cons.mpr ⟨lt_9_4, List.forall_mem_cons.mpr ⟨lt_9_5, List.forall_mem_cons.mpr ⟨lt_9_6, List.forall_mem_cons.mpr ⟨lt_9_7, List.forall_mem_cons.mpr ⟨lt_9_8, List.forall_mem_cons.mpr ⟨lt_9_9, List.forall_mem_cons.mpr ⟨lt_9_10, List.forall_mem_cons.mpr ⟨lt_9_11, List.forall_mem_cons.mpr ⟨lt_9_12, List.forall_mem_cons.mpr ⟨lt_9_13, List.forall_mem_cons.mpr ⟨lt_9_14, List.forall_mem_cons.mpr ⟨lt_9_15, List.forall_mem_cons.mpr ⟨lt_9_16, List.forall_mem_cons.mpr ⟨lt_9_17, List.forall_mem_cons.mpr ⟨lt_9_18, List.forall_mem_cons.mpr ⟨lt_9_19, List.forall_mem_cons.mpr ⟨lt_9_20, List.forall_mem_cons.mpr ⟨lt_9_21, List.forall_mem_cons.mpr ⟨lt_9_22, List.forall_mem_cons.mpr ⟨lt_9_23, fun _ h => absurd h List.not_mem_nil⟩⟩⟩⟩⟩⟩⟩⟩⟩⟩⟩⟩⟩⟩⟩⟩⟩⟩⟩⟩⟩⟩⟩⟩
theorem lt_10_0 : (Cond.methodLink RL 28 yX10_note) ∈ lw_tbl := tb2 (i := 52) rfl
theorem lt_10_1 : (Cond.instanceMethod yX10_note) ∈ lw_tbl := tb2 (i := 53) rfl
theorem lt_10_2 : (Cond.selects RX10 yX10_note yX10_note) ∈ lw_tbl := tb2 (i := 54) rfl
theorem lt_10_3 : (Cond.code yX10_note cX10_note 3 (some .int)) ∈ lw_tbl := tb2 (i := 55) rfl
theorem lt_10_4 : (Cond.fieldLink RX10 116 "GonePipes$Organ" "hymnCounts" "[I") ∈ lw_tbl := tb1 (i := 122) rfl
theorem lt_10_5 : (Cond.methodLink RX10 109 yX10_isHymn) ∈ lw_tbl := tb2 (i := 56) rfl
theorem lt_10_6 : (Cond.static yX10_isHymn) ∈ lw_tbl := tb2 (i := 57) rfl
theorem lt_10_7 : (Cond.code yX10_isHymn cX10_isHymn 1 (some .boolean)) ∈ lw_tbl := tb2 (i := 58) rfl
theorem lt_10_8 : (Cond.methodLink RX10 113 yX4_addNote) ∈ lw_tbl := tb2 (i := 59) rfl
theorem lt_10_9 : (Cond.instanceMethod yX4_addNote) ∈ lw_tbl := tb2 (i := 60) rfl
theorem lt_10_10 : (Cond.selects RX4 yX4_addNote yX4_addNote) ∈ lw_tbl := tb2 (i := 61) rfl
theorem lt_10_11 : (Cond.code yX4_addNote cX4_addNote 4 (some .boolean)) ∈ lw_tbl := tb2 (i := 62) rfl
theorem lt_10_12 : (Cond.methodLink RL 31 yX11_note) ∈ lw_tbl := tb4 (i := 214) rfl
theorem lt_10_13 : (Cond.instanceMethod yX11_note) ∈ lw_tbl := tb4 (i := 215) rfl
theorem lt_10_14 : (Cond.selects RX11 yX11_note yX11_note) ∈ lw_tbl := tb4 (i := 216) rfl
theorem lt_10_15 : (Cond.code yX11_note cX11_note 3 (some .int)) ∈ lw_tbl := tb4 (i := 217) rfl
theorem lt_10_16 : (Cond.methodLink RX11 104 yX11_isHymn) ∈ lw_tbl := tb4 (i := 218) rfl
theorem lt_10_17 : (Cond.static yX11_isHymn) ∈ lw_tbl := tb4 (i := 219) rfl
theorem lt_10_18 : (Cond.code yX11_isHymn cX11_isHymn 1 (some .boolean)) ∈ lw_tbl := tb4 (i := 220) rfl
theorem lt_10_19 : (Cond.constantLong RX11 65 (2)) ∈ lw_tbl := tb4 (i := 221) rfl
theorem lt_10_20 : (Cond.methodLink RX11 108 yX11_notes) ∈ lw_tbl := tb4 (i := 222) rfl
theorem lt_10_21 : (Cond.instanceMethod yX11_notes) ∈ lw_tbl := tb4 (i := 224) rfl
theorem lt_10_22 : (Cond.selects RX11 yX11_notes yX11_notes) ∈ lw_tbl := List.mem_append_left _ (List.mem_of_getElem? (i := 33) rfl)
theorem lt_10_23 : (Cond.code yX11_notes cX11_notes 2 (some .int)) ∈ lw_tbl := tb4 (i := 225) rfl
theorem lat_10 : ∀ w ∈ wsL_law_r10, w ∈ lw_tbl := List.forall_mem_cons.mpr ⟨lt_10_0, List.forall_mem_cons.mpr ⟨lt_10_1, List.forall_mem_cons.mpr ⟨lt_10_2, List.forall_mem_cons.mpr ⟨lt_10_3, List.forall_mem_cons.mpr ⟨lt_10_4, List.forall_mem_cons.mpr ⟨lt_10_5, List.forall_mem_cons.mpr ⟨lt_10_6, List.forall_mem_cons.mpr ⟨lt_10_7, List.forall_mem_cons.mpr ⟨lt_10_8, List.forall_mem_cons.mpr ⟨lt_10_9, List.forall_mem_cons.mpr ⟨lt_10_10, List.forall_mem_cons.mpr ⟨lt_10_11, List.forall_mem_cons.mpr ⟨lt_10_12, List.forall_mem_cons.mpr ⟨lt_10_13, List.forall_mem_cons.mpr ⟨lt_10_14, List.forall_mem_cons.mpr ⟨lt_10_15, List.forall_mem_cons.mpr ⟨lt_10_16, List.forall_mem_cons.mpr ⟨lt_10_17, List.forall_mem_cons.mpr ⟨lt_10_18, List.forall_mem_cons.mpr ⟨lt_10_19, List.forall_mem_cons.mpr ⟨lt_10_20, List.forall_mem_cons.mpr ⟨lt_10_21, List.forall_mem_cons.mpr ⟨lt_10_22, List.forall_mem_cons.mpr ⟨lt_10_23, fun _ h => absurd h List.not_mem_nil⟩⟩⟩⟩⟩⟩⟩⟩⟩⟩⟩⟩⟩⟩⟩⟩⟩⟩⟩⟩⟩⟩⟩⟩
