/-! the law's words, on -/
theorem lt_21_0 : (Cond.instanceMethod yX4_isAnotherAway) ∈ lw_tbl := tb2 (i := 233) rfl
theorem lt_21_1 : (Cond.selects RX4 yX4_isAnotherAway yX4_isAnotherAway) ∈ lw_tbl := tb2 (i := 234) rfl
theorem lt_21_2 : (Cond.code yX4_isAnotherAway cX4_isAnotherAway 3 (some .boolean)) ∈ lw_tbl := tb2 (i := 235) rfl
theorem lt_21_3 : (Cond.selects RX2 ⟨"GonePipes$Plain", "mayGo", "(LGonePipes$Organ;I)Z"⟩ yX6_mayGo) ∈ lw_tbl := tb2 (i := 236) rfl
theorem lt_21_4 : (Cond.instanceMethod yX6_mayGo) ∈ lw_tbl := tb2 (i := 216) rfl
theorem lt_21_5 : (Cond.selects RX3 ⟨"GonePipes$Plain", "mayGo", "(LGonePipes$Organ;I)Z"⟩ yX3_mayGo) ∈ lw_tbl := tb2 (i := 237) rfl
theorem lt_21_6 : (Cond.instanceMethod yX3_mayGo) ∈ lw_tbl := tb2 (i := 238) rfl
theorem lt_21_7 : (Cond.code yX3_mayGo cX3_mayGo 3 (some .boolean)) ∈ lw_tbl := tb2 (i := 239) rfl
theorem lt_21_8 : (Cond.methodLink RX3 7 yX4_isNight) ∈ lw_tbl := tb3 (i := 0) rfl
theorem lt_21_9 : (Cond.methodLink RX3 13 yX1_mayGo) ∈ lw_tbl := tb3 (i := 1) rfl
theorem lt_21_10 : (Cond.sameMethod "GonePipes$Flute" "GonePipes$Flute" "mayGo" "(LGonePipes$Organ;I)Z") ∈ lw_tbl := tb6 (i := 72) rfl
theorem lt_21_11 : (Cond.superclass RX3 RX1) ∈ lw_tbl := tb1 (i := 70) rfl
theorem lt_21_12 : (Cond.methodLink RX4 84 yX6_mayGo) ∈ lw_tbl := tb2 (i := 215) rfl
theorem lt_21_13 : (Cond.selects RX6 yX6_mayGo yX6_mayGo) ∈ lw_tbl := tb2 (i := 217) rfl
theorem lt_21_14 : (Cond.selects RX7 ⟨"GonePipes$Plain", "mayGo", "(LGonePipes$Organ;I)Z"⟩ yX6_mayGo) ∈ lw_tbl := tb3 (i := 2) rfl
theorem lt_21_15 : (Cond.methodLink RX4 90 yX4_sendOut) ∈ lw_tbl := tb3 (i := 4) rfl
theorem lt_21_16 : (Cond.instanceMethod yX4_sendOut) ∈ lw_tbl := tb3 (i := 6) rfl
theorem lt_21_17 : (Cond.selects RX4 yX4_sendOut yX4_sendOut) ∈ lw_tbl := List.mem_append_left _ (List.mem_of_getElem? (i := 11) rfl)
theorem lt_21_18 : (Cond.code yX4_sendOut cX4_sendOut 4 none) ∈ lw_tbl := tb3 (i := 7) rfl
theorem lt_21_19 : (Cond.methodLink RX4 96 yX4_toneWishedAt) ∈ lw_tbl := tb3 (i := 8) rfl
theorem lt_21_20 : (Cond.instanceMethod yX4_toneWishedAt) ∈ lw_tbl := tb3 (i := 9) rfl
theorem lt_21_21 : (Cond.selects RX4 yX4_toneWishedAt yX4_toneWishedAt) ∈ lw_tbl := tb3 (i := 10) rfl
theorem lt_21_22 : (Cond.code yX4_toneWishedAt cX4_toneWishedAt 2 (some .int)) ∈ lw_tbl := tb3 (i := 11) rfl
theorem lt_21_23 : (Cond.methodLink RX4 100 yX4_isWished) ∈ lw_tbl := tb3 (i := 12) rfl
theorem lat_21 : ∀ w ∈ wsL_law_r21, w ∈ lw_tbl := List.forall_mem_cons.mpr ⟨lt_21_0, List.forall_mem_cons.mpr ⟨lt_21_1, List.forall_mem_cons.mpr ⟨lt_21_2, List.forall_mem_cons.mpr ⟨lt_21_3, List.forall_mem_cons.mpr ⟨lt_21_4, List.forall_mem_cons.mpr ⟨lt_21_5, List.forall_mem_cons.mpr ⟨lt_21_6, List.forall_mem_cons.mpr ⟨lt_21_7, List.forall_mem_cons.mpr ⟨lt_21_8, List.forall_mem_cons.mpr ⟨lt_21_9, List.forall_mem_cons.mpr ⟨lt_21_10, List.forall_mem_cons.mpr ⟨lt_21_11, List.forall_mem_cons.mpr ⟨lt_21_12, List.forall_mem_cons.mpr ⟨lt_21_13, List.forall_mem_cons.mpr ⟨lt_21_14, List.forall_mem_cons.mpr ⟨lt_21_15, List.forall_mem_cons.mpr ⟨lt_21_16, List.forall_mem_cons.mpr ⟨lt_21_17, List.forall_mem_cons.mpr ⟨lt_21_18, List.forall_mem_cons.mpr ⟨lt_21_19, List.forall_mem_cons.mpr ⟨lt_21_20, List.forall_mem_cons.mpr ⟨lt_21_21, List.forall_mem_cons.mpr ⟨lt_21_22, List.forall_mem_cons.mpr ⟨lt_21_23, fun _ h => absurd h List.not_mem_nil⟩⟩⟩⟩⟩⟩⟩⟩⟩⟩⟩⟩⟩⟩⟩⟩⟩⟩⟩⟩⟩⟩⟩⟩
theorem lt_22_0 : (Cond.instanceMethod yX4_isWished) ∈ lw_tbl := tb3 (i := 13) rfl
theorem lt_22_1 : (Cond.selects RX4 yX4_isWished yX4_isWished) ∈ lw_tbl := tb3 (i := 14) rfl
theorem lt_22_2 : (Cond.code yX4_isWished cX4_isWished 3 (some .boolean)) ∈ lw_tbl := tb3 (i := 15) rfl
theorem lt_22_3 : (Cond.methodLink RX4 104 yX4_pipesAt) ∈ lw_tbl := tb3 (i := 16) rfl
theorem lt_22_4 : (Cond.instanceMethod yX4_pipesAt) ∈ lw_tbl := tb3 (i := 17) rfl
theorem lt_22_5 : (Cond.selects RX4 yX4_pipesAt yX4_pipesAt) ∈ lw_tbl := tb3 (i := 18) rfl
theorem lt_22_6 : (Cond.code yX4_pipesAt cX4_pipesAt 4 (some .int)) ∈ lw_tbl := tb3 (i := 19) rfl
theorem lt_22_7 : (Cond.methodLink RX4 93 ⟨"GonePipes$Plain", "comesBack", "(LGonePipes$Organ;I)Z"⟩) ∈ lw_tbl := tb3 (i := 20) rfl
theorem lt_22_8 : (Cond.sameMethod "GonePipes$Plain" "GonePipes$Plain" "comesBack" "(LGonePipes$Organ;I)Z") ∈ lw_tbl := tb3 (i := 23) rfl
theorem lt_22_9 : (Cond.instanceMethod ⟨"GonePipes$Plain", "comesBack", "(LGonePipes$Organ;I)Z"⟩) ∈ lw_tbl := tb3 (i := 21) rfl
theorem lt_22_10 : (Cond.selects RX0 ⟨"GonePipes$Plain", "comesBack", "(LGonePipes$Organ;I)Z"⟩ yX7_comesBack) ∈ lw_tbl := tb3 (i := 24) rfl
theorem lt_22_11 : (Cond.instanceMethod yX7_comesBack) ∈ lw_tbl := tb3 (i := 25) rfl
theorem lt_22_12 : (Cond.code yX7_comesBack cX7_comesBack 3 (some .boolean)) ∈ lw_tbl := tb3 (i := 26) rfl
theorem lt_22_13 : (Cond.fieldLink RX7 7 "GonePipes$Organ" "away" "[I") ∈ lw_tbl := tb1 (i := 117) rfl
theorem lt_22_14 : (Cond.methodLink RX7 13 yX6_comesBack) ∈ lw_tbl := tb3 (i := 27) rfl
theorem lt_22_15 : (Cond.superclass RX7 RX6) ∈ lw_tbl := tb1 (i := 42) rfl
theorem lt_22_16 : (Cond.instanceMethod yX6_comesBack) ∈ lw_tbl := tb3 (i := 21) rfl
theorem lt_22_17 : (Cond.code yX6_comesBack cX6_comesBack 3 (some .boolean)) ∈ lw_tbl := tb3 (i := 37) rfl
theorem lt_22_18 : (Cond.fieldLink RX6 7 "GonePipes$Organ" "where" "[I") ∈ lw_tbl := tb1 (i := 113) rfl
theorem lt_22_19 : (Cond.methodLink RX6 13 yX4_isWished) ∈ lw_tbl := tb3 (i := 38) rfl
theorem lt_22_20 : (Cond.selects RX1 ⟨"GonePipes$Plain", "comesBack", "(LGonePipes$Organ;I)Z"⟩ yX6_comesBack) ∈ lw_tbl := tb3 (i := 28) rfl
theorem lt_22_21 : (Cond.selects RX2 ⟨"GonePipes$Plain", "comesBack", "(LGonePipes$Organ;I)Z"⟩ yX2_comesBack) ∈ lw_tbl := tb3 (i := 29) rfl
theorem lt_22_22 : (Cond.instanceMethod yX2_comesBack) ∈ lw_tbl := tb3 (i := 30) rfl
theorem lt_22_23 : (Cond.code yX2_comesBack cX2_comesBack 3 (some .boolean)) ∈ lw_tbl := tb3 (i := 31) rfl
theorem lat_22 : ∀ w ∈ wsL_law_r22, w ∈ lw_tbl := List.forall_mem_cons.mpr ⟨lt_22_0, List.forall_mem_cons.mpr ⟨lt_22_1, List.forall_mem_cons.mpr ⟨lt_22_2, List.forall_mem_cons.mpr ⟨lt_22_3, List.forall_mem_cons.mpr ⟨lt_22_4, List.forall_mem_cons.mpr ⟨lt_22_5, List.forall_mem_cons.mpr ⟨lt_22_6, List.forall_mem_cons.mpr ⟨lt_22_7, List.forall_mem_cons.mpr ⟨lt_22_8, List.forall_mem_cons.mpr ⟨lt_22_9, List.forall_mem_cons.mpr ⟨lt_22_10, List.forall_mem_cons.mpr ⟨lt_22_11, List.forall_mem_cons.mpr ⟨lt_22_12, List.forall_mem_cons.mpr ⟨lt_22_13, List.forall_mem_cons.mpr ⟨lt_22_14, List.forall_mem_cons.mpr ⟨lt_22_15, List.forall_mem_cons.mpr ⟨lt_22_16, List.forall_mem_cons.mpr ⟨lt_22_17, List.forall_mem_cons.mpr ⟨lt_22_18, List.forall_mem_cons.mpr ⟨lt_22_19, List.forall_mem_cons.mpr ⟨lt_22_20, List.forall_mem_cons.mpr ⟨lt_22_21, List.forall_mem_cons.mpr ⟨lt_22_22, List.forall_mem_cons.mpr ⟨lt_22_23, fun _ h => absurd h List.not_mem_nil⟩⟩⟩⟩⟩⟩⟩⟩⟩⟩⟩⟩⟩⟩⟩⟩⟩⟩⟩⟩⟩⟩⟩⟩
theorem lt_23_0 : (Cond.fieldLink RX2 7 "GonePipes$Organ" "away" "[I") ∈ lw_tbl := tb1 (i := 118) rfl
theorem lt_23_1 : (Cond.methodLink RX2 13 yX6_comesBack) ∈ lw_tbl := tb3 (i := 32) rfl
theorem lt_23_2 : (Cond.superclass RX2 RX6) ∈ lw_tbl := tb1 (i := 63) rfl
theorem lt_23_3 : (Cond.selects RX3 ⟨"GonePipes$Plain", "comesBack", "(LGonePipes$Organ;I)Z"⟩ yX3_comesBack) ∈ lw_tbl := tb3 (i := 33) rfl
theorem lt_23_4 : (Cond.instanceMethod yX3_comesBack) ∈ lw_tbl := tb3 (i := 34) rfl
theorem lt_23_5 : (Cond.code yX3_comesBack cX3_comesBack 3 (some .boolean)) ∈ lw_tbl := tb3 (i := 35) rfl
theorem lt_23_6 : (Cond.methodLink RX4 93 yX6_comesBack) ∈ lw_tbl := tb3 (i := 20) rfl
theorem lt_23_7 : (Cond.selects RX6 yX6_comesBack yX6_comesBack) ∈ lw_tbl := tb3 (i := 22) rfl
theorem lt_23_8 : (Cond.selects RX7 ⟨"GonePipes$Plain", "comesBack", "(LGonePipes$Organ;I)Z"⟩ yX7_comesBack) ∈ lw_tbl := tb3 (i := 36) rfl
theorem lt_23_9 : (Cond.methodLink RX10 144 yX4_howManyAway) ∈ lw_tbl := tb3 (i := 39) rfl
theorem lt_23_10 : (Cond.instanceMethod yX4_howManyAway) ∈ lw_tbl := tb3 (i := 40) rfl
theorem lt_23_11 : (Cond.selects RX4 yX4_howManyAway yX4_howManyAway) ∈ lw_tbl := tb3 (i := 41) rfl
theorem lt_23_12 : (Cond.code yX4_howManyAway cX4_howManyAway 3 (some .int)) ∈ lw_tbl := tb3 (i := 42) rfl
theorem lt_23_13 : (Cond.methodLink RL 52 yX11_pass) ∈ lw_tbl := tb4 (i := 230) rfl
theorem lt_23_14 : (Cond.instanceMethod yX11_pass) ∈ lw_tbl := tb4 (i := 231) rfl
theorem lt_23_15 : (Cond.selects RX11 yX11_pass yX11_pass) ∈ lw_tbl := tb4 (i := 232) rfl
theorem lt_23_16 : (Cond.code yX11_pass cX11_pass 3 (some .int)) ∈ lw_tbl := tb4 (i := 233) rfl
theorem lt_23_17 : (Cond.methodLink RX11 149 yX11_keep) ∈ lw_tbl := tb4 (i := 235) rfl
theorem lt_23_18 : (Cond.instanceMethod yX11_keep) ∈ lw_tbl := tb4 (i := 237) rfl
theorem lt_23_19 : (Cond.selects RX11 yX11_keep yX11_keep) ∈ lw_tbl := List.mem_append_left _ (List.mem_of_getElem? (i := 34) rfl)
theorem lt_23_20 : (Cond.code yX11_keep cX11_keep 3 none) ∈ lw_tbl := tb4 (i := 238) rfl
theorem lt_23_21 : (Cond.methodLink RX11 115 yX11_pipeHas) ∈ lw_tbl := tb4 (i := 239) rfl
theorem lt_23_22 : (Cond.instanceMethod yX11_pipeHas) ∈ lw_tbl := tb5 (i := 1) rfl
theorem lt_23_23 : (Cond.selects RX11 yX11_pipeHas yX11_pipeHas) ∈ lw_tbl := List.mem_append_left _ (List.mem_of_getElem? (i := 35) rfl)
theorem lat_23 : ∀ w ∈ wsL_law_r23, w ∈ lw_tbl := List.forall_mem_cons.mpr ⟨lt_23_0, List.forall_mem_cons.mpr ⟨lt_23_1, List.forall_mem_cons.mpr ⟨lt_23_2, List.forall_mem_cons.mpr ⟨lt_23_3, List.forall_mem_cons.mpr ⟨lt_23_4, List.forall_mem_cons.mpr ⟨lt_23_5, List.forall_mem_cons.mpr ⟨lt_23_6, List.forall_mem_cons.mpr ⟨lt_23_7, List.forall_mem_cons.mpr ⟨lt_23_8, List.forall_mem_cons.mpr ⟨lt_23_9, List.forall_mem_cons.mpr ⟨lt_23_10, List.forall_mem_cons.mpr ⟨lt_23_11, List.forall_mem_cons.mpr ⟨lt_23_12, List.forall_mem_cons.mpr ⟨lt_23_13, List.forall_mem_cons.mpr ⟨lt_23_14, List.forall_mem_cons.mpr ⟨lt_23_15, List.forall_mem_cons.mpr ⟨lt_23_16, List.forall_mem_cons.mpr ⟨lt_23_17, List.forall_mem_cons.mpr ⟨lt_23_18, List.forall_mem_cons.mpr ⟨lt_23_19, List.forall_mem_cons.mpr ⟨lt_23_20, List.forall_mem_cons.mpr ⟨lt_23_21, List.forall_mem_cons.mpr ⟨lt_23_22, List.forall_mem_cons.mpr ⟨lt_23_23, fun _ h => absurd h List.not_mem_nil⟩⟩⟩⟩⟩⟩⟩⟩⟩⟩⟩⟩⟩⟩⟩⟩⟩⟩⟩⟩⟩⟩⟩⟩
theorem lt_24_0 : (Cond.code yX11_pipeHas cX11_pipeHas 3 (some .int)) ∈ lw_tbl := tb5 (i := 2) rfl
theorem lt_24_1 : (Cond.methodLink RX11 152 yX11_layHand) ∈ lw_tbl := tb5 (i := 3) rfl
theorem lt_24_2 : (Cond.instanceMethod yX11_layHand) ∈ lw_tbl := tb5 (i := 5) rfl
theorem lt_24_3 : (Cond.selects RX11 yX11_layHand yX11_layHand) ∈ lw_tbl := List.mem_append_left _ (List.mem_of_getElem? (i := 36) rfl)
theorem lt_24_4 : (Cond.code yX11_layHand cX11_layHand 2 none) ∈ lw_tbl := tb5 (i := 6) rfl
theorem lt_24_5 : (Cond.fieldLink RX11 111 "GonePipesModel" "hour" "I") ∈ lw_tbl := tb4 (i := 104) rfl
theorem lt_24_6 : (Cond.methodLink RX11 119 yX11_placeHas) ∈ lw_tbl := tb5 (i := 7) rfl
theorem lt_24_7 : (Cond.instanceMethod yX11_placeHas) ∈ lw_tbl := tb5 (i := 9) rfl
theorem lt_24_8 : (Cond.selects RX11 yX11_placeHas yX11_placeHas) ∈ lw_tbl := List.mem_append_left _ (List.mem_of_getElem? (i := 37) rfl)
theorem lt_24_9 : (Cond.code yX11_placeHas cX11_placeHas 3 (some .int)) ∈ lw_tbl := tb5 (i := 10) rfl
theorem lt_24_10 : (Cond.methodLink RX11 144 yX11_goHour) ∈ lw_tbl := tb5 (i := 11) rfl
theorem lt_24_11 : (Cond.instanceMethod yX11_goHour) ∈ lw_tbl := tb5 (i := 13) rfl
theorem lt_24_12 : (Cond.selects RX11 yX11_goHour yX11_goHour) ∈ lw_tbl := List.mem_append_left _ (List.mem_of_getElem? (i := 38) rfl)
theorem lt_24_13 : (Cond.code yX11_goHour cX11_goHour 2 none) ∈ lw_tbl := tb5 (i := 14) rfl
theorem lt_24_14 : (Cond.methodLink RX11 135 yX11_comesBack) ∈ lw_tbl := tb5 (i := 15) rfl
theorem lt_24_15 : (Cond.instanceMethod yX11_comesBack) ∈ lw_tbl := tb5 (i := 17) rfl
theorem lt_24_16 : (Cond.selects RX11 yX11_comesBack yX11_comesBack) ∈ lw_tbl := List.mem_append_left _ (List.mem_of_getElem? (i := 39) rfl)
theorem lt_24_17 : (Cond.code yX11_comesBack cX11_comesBack 3 (some .boolean)) ∈ lw_tbl := tb5 (i := 18) rfl
theorem lt_24_18 : (Cond.methodLink RX11 129 yX11_isWished) ∈ lw_tbl := tb5 (i := 19) rfl
theorem lt_24_19 : (Cond.instanceMethod yX11_isWished) ∈ lw_tbl := tb5 (i := 21) rfl
theorem lt_24_20 : (Cond.selects RX11 yX11_isWished yX11_isWished) ∈ lw_tbl := List.mem_append_left _ (List.mem_of_getElem? (i := 40) rfl)
theorem lt_24_21 : (Cond.code yX11_isWished cX11_isWished 2 (some .boolean)) ∈ lw_tbl := tb5 (i := 22) rfl
theorem lt_24_22 : (Cond.methodLink RX11 138 yX11_goes) ∈ lw_tbl := tb5 (i := 23) rfl
theorem lt_24_23 : (Cond.instanceMethod yX11_goes) ∈ lw_tbl := tb5 (i := 25) rfl
theorem lat_24 : ∀ w ∈ wsL_law_r24, w ∈ lw_tbl := List.forall_mem_cons.mpr ⟨lt_24_0, List.forall_mem_cons.mpr ⟨lt_24_1, List.forall_mem_cons.mpr ⟨lt_24_2, List.forall_mem_cons.mpr ⟨lt_24_3, List.forall_mem_cons.mpr ⟨lt_24_4, List.forall_mem_cons.mpr ⟨lt_24_5, List.forall_mem_cons.mpr ⟨lt_24_6, List.forall_mem_cons.mpr ⟨lt_24_7, List.forall_mem_cons.mpr ⟨lt_24_8, List.forall_mem_cons.mpr ⟨lt_24_9, List.forall_mem_cons.mpr ⟨lt_24_10, List.forall_mem_cons.mpr ⟨lt_24_11, List.forall_mem_cons.mpr ⟨lt_24_12, List.forall_mem_cons.mpr ⟨lt_24_13, List.forall_mem_cons.mpr ⟨lt_24_14, List.forall_mem_cons.mpr ⟨lt_24_15, List.forall_mem_cons.mpr ⟨lt_24_16, List.forall_mem_cons.mpr ⟨lt_24_17, List.forall_mem_cons.mpr ⟨lt_24_18, List.forall_mem_cons.mpr ⟨lt_24_19, List.forall_mem_cons.mpr ⟨lt_24_20, List.forall_mem_cons.mpr ⟨lt_24_21, List.forall_mem_cons.mpr ⟨lt_24_22, List.forall_mem_cons.mpr ⟨lt_24_23, fun _ h => absurd h List.not_mem_nil⟩⟩⟩⟩⟩⟩⟩⟩⟩⟩⟩⟩⟩⟩⟩⟩⟩⟩⟩⟩⟩⟩⟩⟩
theorem lt_25_0 : (Cond.selects RX11 yX11_goes yX11_goes) ∈ lw_tbl := List.mem_append_left _ (List.mem_of_getElem? (i := 41) rfl)
theorem lt_25_1 : (Cond.code yX11_goes cX11_goes 2 (some .boolean)) ∈ lw_tbl := tb5 (i := 26) rfl
theorem lt_25_2 : (Cond.methodLink RX11 122 yX11_isOtherAway) ∈ lw_tbl := tb5 (i := 27) rfl
theorem lt_25_3 : (Cond.instanceMethod yX11_isOtherAway) ∈ lw_tbl := tb5 (i := 29) rfl
theorem lt_25_4 : (Cond.selects RX11 yX11_isOtherAway yX11_isOtherAway) ∈ lw_tbl := List.mem_append_left _ (List.mem_of_getElem? (i := 42) rfl)
theorem lt_25_5 : (Cond.code yX11_isOtherAway cX11_isOtherAway 4 (some .boolean)) ∈ lw_tbl := tb5 (i := 30) rfl
theorem lt_25_6 : (Cond.methodLink RX11 125 yX11_isNight) ∈ lw_tbl := tb5 (i := 31) rfl
theorem lt_25_7 : (Cond.instanceMethod yX11_isNight) ∈ lw_tbl := tb5 (i := 33) rfl
theorem lt_25_8 : (Cond.selects RX11 yX11_isNight yX11_isNight) ∈ lw_tbl := List.mem_append_left _ (List.mem_of_getElem? (i := 43) rfl)
theorem lt_25_9 : (Cond.code yX11_isNight cX11_isNight 1 (some .boolean)) ∈ lw_tbl := tb5 (i := 34) rfl
theorem lt_25_10 : (Cond.methodLink RX11 141 yX11_placeFor) ∈ lw_tbl := tb5 (i := 35) rfl
theorem lt_25_11 : (Cond.instanceMethod yX11_placeFor) ∈ lw_tbl := tb5 (i := 37) rfl
theorem lt_25_12 : (Cond.selects RX11 yX11_placeFor yX11_placeFor) ∈ lw_tbl := List.mem_append_left _ (List.mem_of_getElem? (i := 44) rfl)
theorem lt_25_13 : (Cond.code yX11_placeFor cX11_placeFor 3 (some .int)) ∈ lw_tbl := tb5 (i := 38) rfl
theorem lt_25_14 : (Cond.methodLink RX11 132 yX11_isTaken) ∈ lw_tbl := tb5 (i := 39) rfl
theorem lt_25_15 : (Cond.instanceMethod yX11_isTaken) ∈ lw_tbl := tb5 (i := 41) rfl
theorem lt_25_16 : (Cond.selects RX11 yX11_isTaken yX11_isTaken) ∈ lw_tbl := List.mem_append_left _ (List.mem_of_getElem? (i := 45) rfl)
theorem lt_25_17 : (Cond.code yX11_isTaken cX11_isTaken 4 (some .boolean)) ∈ lw_tbl := tb5 (i := 42) rfl
theorem lt_25_18 : (Cond.methodLink RX11 155 yX11_layNow) ∈ lw_tbl := tb5 (i := 43) rfl
theorem lt_25_19 : (Cond.instanceMethod yX11_layNow) ∈ lw_tbl := tb5 (i := 45) rfl
theorem lt_25_20 : (Cond.selects RX11 yX11_layNow yX11_layNow) ∈ lw_tbl := List.mem_append_left _ (List.mem_of_getElem? (i := 46) rfl)
theorem lt_25_21 : (Cond.code yX11_layNow cX11_layNow 2 none) ∈ lw_tbl := tb5 (i := 46) rfl
theorem lt_25_22 : (Cond.methodLink RX11 158 yX11_inChurch) ∈ lw_tbl := tb5 (i := 47) rfl
theorem lt_25_23 : (Cond.instanceMethod yX11_inChurch) ∈ lw_tbl := tb5 (i := 49) rfl
theorem lat_25 : ∀ w ∈ wsL_law_r25, w ∈ lw_tbl := List.forall_mem_cons.mpr ⟨lt_25_0, List.forall_mem_cons.mpr ⟨lt_25_1, List.forall_mem_cons.mpr ⟨lt_25_2, List.forall_mem_cons.mpr ⟨lt_25_3, List.forall_mem_cons.mpr ⟨lt_25_4, List.forall_mem_cons.mpr ⟨lt_25_5, List.forall_mem_cons.mpr ⟨lt_25_6, List.forall_mem_cons.mpr ⟨lt_25_7, List.forall_mem_cons.mpr ⟨lt_25_8, List.forall_mem_cons.mpr ⟨lt_25_9, List.forall_mem_cons.mpr ⟨lt_25_10, List.forall_mem_cons.mpr ⟨lt_25_11, List.forall_mem_cons.mpr ⟨lt_25_12, List.forall_mem_cons.mpr ⟨lt_25_13, List.forall_mem_cons.mpr ⟨lt_25_14, List.forall_mem_cons.mpr ⟨lt_25_15, List.forall_mem_cons.mpr ⟨lt_25_16, List.forall_mem_cons.mpr ⟨lt_25_17, List.forall_mem_cons.mpr ⟨lt_25_18, List.forall_mem_cons.mpr ⟨lt_25_19, List.forall_mem_cons.mpr ⟨lt_25_20, List.forall_mem_cons.mpr ⟨lt_25_21, List.forall_mem_cons.mpr ⟨lt_25_22, List.forall_mem_cons.mpr ⟨lt_25_23, fun _ h => absurd h List.not_mem_nil⟩⟩⟩⟩⟩⟩⟩⟩⟩⟩⟩⟩⟩⟩⟩⟩⟩⟩⟩⟩⟩⟩⟩⟩
theorem lt_26_0 : (Cond.selects RX11 yX11_inChurch yX11_inChurch) ∈ lw_tbl := List.mem_append_left _ (List.mem_of_getElem? (i := 47) rfl)
theorem lt_26_1 : (Cond.code yX11_inChurch cX11_inChurch 3 (some .int)) ∈ lw_tbl := tb5 (i := 50) rfl
theorem lt_26_2 : (Cond.methodLink RX11 161 yX11_bits) ∈ lw_tbl := tb5 (i := 51) rfl
theorem lt_26_3 : (Cond.static yX11_bits) ∈ lw_tbl := tb5 (i := 52) rfl
theorem lt_26_4 : (Cond.code yX11_bits cX11_bits 3 (some .int)) ∈ lw_tbl := tb5 (i := 53) rfl
theorem lt_26_5 : (Cond.methodLink RL 53 yX10_fetch) ∈ lw_tbl := tb3 (i := 43) rfl
theorem lt_26_6 : (Cond.instanceMethod yX10_fetch) ∈ lw_tbl := tb3 (i := 44) rfl
theorem lt_26_7 : (Cond.selects RX10 yX10_fetch yX10_fetch) ∈ lw_tbl := tb3 (i := 45) rfl
theorem lt_26_8 : (Cond.code yX10_fetch cX10_fetch 3 (some .int)) ∈ lw_tbl := tb3 (i := 46) rfl
theorem lt_26_9 : (Cond.fieldLink RX10 150 "GonePipes$Organ" "where" "[I") ∈ lw_tbl := tb1 (i := 115) rfl
theorem lt_26_10 : (Cond.methodLink RX10 147 yX10_isPipe) ∈ lw_tbl := tb3 (i := 47) rfl
theorem lt_26_11 : (Cond.instanceMethod yX10_isPipe) ∈ lw_tbl := tb3 (i := 49) rfl
theorem lt_26_12 : (Cond.selects RX10 yX10_isPipe yX10_isPipe) ∈ lw_tbl := List.mem_append_left _ (List.mem_of_getElem? (i := 12) rfl)
theorem lt_26_13 : (Cond.code yX10_isPipe cX10_isPipe 2 (some .boolean)) ∈ lw_tbl := tb3 (i := 50) rfl
theorem lt_26_14 : (Cond.methodLink RX10 153 yX10_refuseNo) ∈ lw_tbl := tb3 (i := 51) rfl
theorem lt_26_15 : (Cond.instanceMethod yX10_refuseNo) ∈ lw_tbl := tb3 (i := 53) rfl
theorem lt_26_16 : (Cond.selects RX10 yX10_refuseNo yX10_refuseNo) ∈ lw_tbl := List.mem_append_left _ (List.mem_of_getElem? (i := 13) rfl)
theorem lt_26_17 : (Cond.code yX10_refuseNo cX10_refuseNo 1 (some .int)) ∈ lw_tbl := tb3 (i := 54) rfl
theorem lt_26_18 : (Cond.fieldLink RX10 294 "GonePipes" "refusedNo" "I") ∈ lw_tbl := tb1 (i := 215) rfl
theorem lt_26_19 : (Cond.methodLink RX10 156 yX4_bringHome) ∈ lw_tbl := tb3 (i := 55) rfl
theorem lt_26_20 : (Cond.methodLink RL 56 yX11_fetch) ∈ lw_tbl := tb5 (i := 54) rfl
theorem lt_26_21 : (Cond.instanceMethod yX11_fetch) ∈ lw_tbl := tb5 (i := 55) rfl
theorem lt_26_22 : (Cond.selects RX11 yX11_fetch yX11_fetch) ∈ lw_tbl := tb5 (i := 56) rfl
theorem lt_26_23 : (Cond.code yX11_fetch cX11_fetch 3 (some .int)) ∈ lw_tbl := tb5 (i := 57) rfl
theorem lat_26 : ∀ w ∈ wsL_law_r26, w ∈ lw_tbl := List.forall_mem_cons.mpr ⟨lt_26_0, List.forall_mem_cons.mpr ⟨lt_26_1, List.forall_mem_cons.mpr ⟨lt_26_2, List.forall_mem_cons.mpr ⟨lt_26_3, List.forall_mem_cons.mpr ⟨lt_26_4, List.forall_mem_cons.mpr ⟨lt_26_5, List.forall_mem_cons.mpr ⟨lt_26_6, List.forall_mem_cons.mpr ⟨lt_26_7, List.forall_mem_cons.mpr ⟨lt_26_8, List.forall_mem_cons.mpr ⟨lt_26_9, List.forall_mem_cons.mpr ⟨lt_26_10, List.forall_mem_cons.mpr ⟨lt_26_11, List.forall_mem_cons.mpr ⟨lt_26_12, List.forall_mem_cons.mpr ⟨lt_26_13, List.forall_mem_cons.mpr ⟨lt_26_14, List.forall_mem_cons.mpr ⟨lt_26_15, List.forall_mem_cons.mpr ⟨lt_26_16, List.forall_mem_cons.mpr ⟨lt_26_17, List.forall_mem_cons.mpr ⟨lt_26_18, List.forall_mem_cons.mpr ⟨lt_26_19, List.forall_mem_cons.mpr ⟨lt_26_20, List.forall_mem_cons.mpr ⟨lt_26_21, List.forall_mem_cons.mpr ⟨lt_26_22, List.forall_mem_cons.mpr ⟨lt_26_23, fun _ h => absurd h List.not_mem_nil⟩⟩⟩⟩⟩⟩⟩⟩⟩⟩⟩⟩⟩⟩⟩⟩⟩⟩⟩⟩⟩⟩⟩⟩
theorem lt_27_0 : (Cond.methodLink RX11 164 yX11_isPipe) ∈ lw_tbl := tb5 (i := 58) rfl
theorem lt_27_1 : (Cond.instanceMethod yX11_isPipe) ∈ lw_tbl := tb5 (i := 60) rfl
theorem lt_27_2 : (Cond.selects RX11 yX11_isPipe yX11_isPipe) ∈ lw_tbl := List.mem_append_left _ (List.mem_of_getElem? (i := 48) rfl)
theorem lt_27_3 : (Cond.code yX11_isPipe cX11_isPipe 2 (some .boolean)) ∈ lw_tbl := tb5 (i := 61) rfl
theorem lt_27_4 : (Cond.methodLink RX11 167 yX11_no) ∈ lw_tbl := tb5 (i := 62) rfl
theorem lt_27_5 : (Cond.instanceMethod yX11_no) ∈ lw_tbl := tb5 (i := 64) rfl
theorem lt_27_6 : (Cond.selects RX11 yX11_no yX11_no) ∈ lw_tbl := List.mem_append_left _ (List.mem_of_getElem? (i := 49) rfl)
theorem lt_27_7 : (Cond.code yX11_no cX11_no 1 (some .int)) ∈ lw_tbl := tb5 (i := 65) rfl
theorem lt_27_8 : (Cond.methodLink RL 57 yX10_undo) ∈ lw_tbl := tb3 (i := 56) rfl
theorem lt_27_9 : (Cond.instanceMethod yX10_undo) ∈ lw_tbl := tb3 (i := 57) rfl
theorem lt_27_10 : (Cond.selects RX10 yX10_undo yX10_undo) ∈ lw_tbl := tb3 (i := 58) rfl
theorem lt_27_11 : (Cond.code yX10_undo cX10_undo 1 (some .int)) ∈ lw_tbl := tb3 (i := 59) rfl
theorem lt_27_12 : (Cond.fieldLink RX10 163 "GonePipes$Organ" "hour" "I") ∈ lw_tbl := tb1 (i := 97) rfl
theorem lt_27_13 : (Cond.methodLink RX10 159 yX5_giveBack) ∈ lw_tbl := tb3 (i := 60) rfl
theorem lt_27_14 : (Cond.instanceMethod yX5_giveBack) ∈ lw_tbl := tb3 (i := 61) rfl
theorem lt_27_15 : (Cond.selects RX5 yX5_giveBack yX5_giveBack) ∈ lw_tbl := tb3 (i := 62) rfl
theorem lt_27_16 : (Cond.code yX5_giveBack cX5_giveBack 3 (some .boolean)) ∈ lw_tbl := tb3 (i := 63) rfl
theorem lt_27_17 : (Cond.methodLink RL 60 yX11_undo) ∈ lw_tbl := tb5 (i := 66) rfl
theorem lt_27_18 : (Cond.instanceMethod yX11_undo) ∈ lw_tbl := tb5 (i := 67) rfl
theorem lt_27_19 : (Cond.selects RX11 yX11_undo yX11_undo) ∈ lw_tbl := tb5 (i := 68) rfl
theorem lt_27_20 : (Cond.code yX11_undo cX11_undo 3 (some .int)) ∈ lw_tbl := tb5 (i := 69) rfl
theorem lt_27_21 : (Cond.methodLink RL 61 yX10_of) ∈ lw_tbl := tb3 (i := 64) rfl
theorem lt_27_22 : (Cond.instanceMethod yX10_of) ∈ lw_tbl := tb3 (i := 65) rfl
theorem lt_27_23 : (Cond.selects RX10 yX10_of yX10_of) ∈ lw_tbl := tb3 (i := 66) rfl
theorem lat_27 : ∀ w ∈ wsL_law_r27, w ∈ lw_tbl := List.forall_mem_cons.mpr ⟨lt_27_0, List.forall_mem_cons.mpr ⟨lt_27_1, List.forall_mem_cons.mpr ⟨lt_27_2, List.forall_mem_cons.mpr ⟨lt_27_3, List.forall_mem_cons.mpr ⟨lt_27_4, List.forall_mem_cons.mpr ⟨lt_27_5, List.forall_mem_cons.mpr ⟨lt_27_6, List.forall_mem_cons.mpr ⟨lt_27_7, List.forall_mem_cons.mpr ⟨lt_27_8, List.forall_mem_cons.mpr ⟨lt_27_9, List.forall_mem_cons.mpr ⟨lt_27_10, List.forall_mem_cons.mpr ⟨lt_27_11, List.forall_mem_cons.mpr ⟨lt_27_12, List.forall_mem_cons.mpr ⟨lt_27_13, List.forall_mem_cons.mpr ⟨lt_27_14, List.forall_mem_cons.mpr ⟨lt_27_15, List.forall_mem_cons.mpr ⟨lt_27_16, List.forall_mem_cons.mpr ⟨lt_27_17, List.forall_mem_cons.mpr ⟨lt_27_18, List.forall_mem_cons.mpr ⟨lt_27_19, List.forall_mem_cons.mpr ⟨lt_27_20, List.forall_mem_cons.mpr ⟨lt_27_21, List.forall_mem_cons.mpr ⟨lt_27_22, List.forall_mem_cons.mpr ⟨lt_27_23, fun _ h => absurd h List.not_mem_nil⟩⟩⟩⟩⟩⟩⟩⟩⟩⟩⟩⟩⟩⟩⟩⟩⟩⟩⟩⟩⟩⟩⟩⟩
theorem lt_28_0 : (Cond.code yX10_of cX10_of 3 (some .int)) ∈ lw_tbl := tb3 (i := 67) rfl
theorem lt_28_1 : (Cond.fieldLink RX10 169 "GonePipes$Organ" "kind" "[I") ∈ lw_tbl := tb1 (i := 109) rfl
theorem lt_28_2 : (Cond.fieldLink RX10 172 "GonePipes$Organ" "note" "[I") ∈ lw_tbl := tb1 (i := 111) rfl
theorem lt_28_3 : (Cond.fieldLink RX10 175 "GonePipes$Organ" "away" "[I") ∈ lw_tbl := tb1 (i := 120) rfl
theorem lt_28_4 : (Cond.methodLink RX10 166 yX10_refuseBadTen) ∈ lw_tbl := tb3 (i := 68) rfl
theorem lt_28_5 : (Cond.instanceMethod yX10_refuseBadTen) ∈ lw_tbl := tb3 (i := 70) rfl
theorem lt_28_6 : (Cond.selects RX10 yX10_refuseBadTen yX10_refuseBadTen) ∈ lw_tbl := List.mem_append_left _ (List.mem_of_getElem? (i := 14) rfl)
theorem lt_28_7 : (Cond.code yX10_refuseBadTen cX10_refuseBadTen 1 (some .int)) ∈ lw_tbl := tb3 (i := 71) rfl
theorem lt_28_8 : (Cond.methodLink RX10 178 yX4_wouldGo) ∈ lw_tbl := tb3 (i := 72) rfl
theorem lt_28_9 : (Cond.instanceMethod yX4_wouldGo) ∈ lw_tbl := tb3 (i := 73) rfl
theorem lt_28_10 : (Cond.selects RX4 yX4_wouldGo yX4_wouldGo) ∈ lw_tbl := tb3 (i := 74) rfl
theorem lt_28_11 : (Cond.code yX4_wouldGo cX4_wouldGo 3 (some .boolean)) ∈ lw_tbl := tb3 (i := 75) rfl
theorem lt_28_12 : (Cond.methodLink RL 64 yX11_of) ∈ lw_tbl := tb5 (i := 70) rfl
theorem lt_28_13 : (Cond.instanceMethod yX11_of) ∈ lw_tbl := tb5 (i := 71) rfl
theorem lt_28_14 : (Cond.selects RX11 yX11_of yX11_of) ∈ lw_tbl := tb5 (i := 72) rfl
theorem lt_28_15 : (Cond.code yX11_of cX11_of 3 (some .int)) ∈ lw_tbl := tb5 (i := 73) rfl
theorem lt_28_16 : (Cond.constantLong RX11 170 (4)) ∈ lw_tbl := tb5 (i := 74) rfl
theorem lt_28_17 : (Cond.methodLink RL 65 yX10_at) ∈ lw_tbl := tb3 (i := 76) rfl
theorem lt_28_18 : (Cond.instanceMethod yX10_at) ∈ lw_tbl := tb3 (i := 77) rfl
theorem lt_28_19 : (Cond.selects RX10 yX10_at yX10_at) ∈ lw_tbl := tb3 (i := 78) rfl
theorem lt_28_20 : (Cond.code yX10_at cX10_at 3 (some .int)) ∈ lw_tbl := tb3 (i := 79) rfl
theorem lt_28_21 : (Cond.methodLink RX10 182 yX10_isPlace) ∈ lw_tbl := tb3 (i := 80) rfl
theorem lt_28_22 : (Cond.instanceMethod yX10_isPlace) ∈ lw_tbl := tb3 (i := 82) rfl
theorem lt_28_23 : (Cond.selects RX10 yX10_isPlace yX10_isPlace) ∈ lw_tbl := List.mem_append_left _ (List.mem_of_getElem? (i := 15) rfl)
theorem lat_28 : ∀ w ∈ wsL_law_r28, w ∈ lw_tbl := List.forall_mem_cons.mpr ⟨lt_28_0, List.forall_mem_cons.mpr ⟨lt_28_1, List.forall_mem_cons.mpr ⟨lt_28_2, List.forall_mem_cons.mpr ⟨lt_28_3, List.forall_mem_cons.mpr ⟨lt_28_4, List.forall_mem_cons.mpr ⟨lt_28_5, List.forall_mem_cons.mpr ⟨lt_28_6, List.forall_mem_cons.mpr ⟨lt_28_7, List.forall_mem_cons.mpr ⟨lt_28_8, List.forall_mem_cons.mpr ⟨lt_28_9, List.forall_mem_cons.mpr ⟨lt_28_10, List.forall_mem_cons.mpr ⟨lt_28_11, List.forall_mem_cons.mpr ⟨lt_28_12, List.forall_mem_cons.mpr ⟨lt_28_13, List.forall_mem_cons.mpr ⟨lt_28_14, List.forall_mem_cons.mpr ⟨lt_28_15, List.forall_mem_cons.mpr ⟨lt_28_16, List.forall_mem_cons.mpr ⟨lt_28_17, List.forall_mem_cons.mpr ⟨lt_28_18, List.forall_mem_cons.mpr ⟨lt_28_19, List.forall_mem_cons.mpr ⟨lt_28_20, List.forall_mem_cons.mpr ⟨lt_28_21, List.forall_mem_cons.mpr ⟨lt_28_22, List.forall_mem_cons.mpr ⟨lt_28_23, fun _ h => absurd h List.not_mem_nil⟩⟩⟩⟩⟩⟩⟩⟩⟩⟩⟩⟩⟩⟩⟩⟩⟩⟩⟩⟩⟩⟩⟩⟩
theorem lt_29_0 : (Cond.code yX10_isPlace cX10_isPlace 2 (some .boolean)) ∈ lw_tbl := tb3 (i := 83) rfl
theorem lt_29_1 : (Cond.methodLink RX10 185 yX4_toneWishedAt) ∈ lw_tbl := tb3 (i := 84) rfl
theorem lt_29_2 : (Cond.methodLink RX10 189 yX4_isWished) ∈ lw_tbl := tb3 (i := 85) rfl
theorem lt_29_3 : (Cond.methodLink RX10 192 yX4_pipesAt) ∈ lw_tbl := tb3 (i := 86) rfl
theorem lt_29_4 : (Cond.methodLink RX10 195 yX4_howFar) ∈ lw_tbl := tb3 (i := 87) rfl
theorem lt_29_5 : (Cond.instanceMethod yX4_howFar) ∈ lw_tbl := tb3 (i := 88) rfl
theorem lt_29_6 : (Cond.selects RX4 yX4_howFar yX4_howFar) ∈ lw_tbl := tb3 (i := 89) rfl
theorem lt_29_7 : (Cond.code yX4_howFar cX4_howFar 3 (some .int)) ∈ lw_tbl := tb3 (i := 90) rfl
theorem lt_29_8 : (Cond.methodLink RX4 110 Lib.Math.abs.name) ∈ lw_tbl := tb3 (i := 95) rfl
theorem lt_29_9 : (Cond.static Lib.Math.abs.name) ∈ lw_tbl := tb3 (i := 96) rfl
theorem lt_29_10 : (Cond.initialized "java/lang/Math") ∈ lw_tbl := tb1 (i := 18) rfl
theorem lt_29_11 : (Cond.code Lib.Math.abs.name Lib.Math.abs.code 1 (some .int)) ∈ lw_tbl := tb3 (i := 97) rfl
theorem lt_29_12 : (Cond.methodLink RX4 107 yX4_eastOf) ∈ lw_tbl := tb3 (i := 91) rfl
theorem lt_29_13 : (Cond.instanceMethod yX4_eastOf) ∈ lw_tbl := tb3 (i := 93) rfl
theorem lt_29_14 : (Cond.selects RX4 yX4_eastOf yX4_eastOf) ∈ lw_tbl := List.mem_append_left _ (List.mem_of_getElem? (i := 16) rfl)
theorem lt_29_15 : (Cond.code yX4_eastOf cX4_eastOf 2 (some .int)) ∈ lw_tbl := tb3 (i := 94) rfl
theorem lt_29_16 : (Cond.methodLink RX4 115 yX4_northOf) ∈ lw_tbl := tb3 (i := 98) rfl
theorem lt_29_17 : (Cond.instanceMethod yX4_northOf) ∈ lw_tbl := tb3 (i := 100) rfl
theorem lt_29_18 : (Cond.selects RX4 yX4_northOf yX4_northOf) ∈ lw_tbl := List.mem_append_left _ (List.mem_of_getElem? (i := 17) rfl)
theorem lt_29_19 : (Cond.code yX4_northOf cX4_northOf 2 (some .int)) ∈ lw_tbl := tb3 (i := 101) rfl
theorem lt_29_20 : (Cond.methodLink RL 68 yX11_at) ∈ lw_tbl := tb5 (i := 75) rfl
theorem lt_29_21 : (Cond.instanceMethod yX11_at) ∈ lw_tbl := tb5 (i := 76) rfl
theorem lt_29_22 : (Cond.selects RX11 yX11_at yX11_at) ∈ lw_tbl := tb5 (i := 77) rfl
theorem lt_29_23 : (Cond.code yX11_at cX11_at 5 (some .int)) ∈ lw_tbl := tb5 (i := 78) rfl
theorem lat_29 : ∀ w ∈ wsL_law_r29, w ∈ lw_tbl := List.forall_mem_cons.mpr ⟨lt_29_0, List.forall_mem_cons.mpr ⟨lt_29_1, List.forall_mem_cons.mpr ⟨lt_29_2, List.forall_mem_cons.mpr ⟨lt_29_3, List.forall_mem_cons.mpr ⟨lt_29_4, List.forall_mem_cons.mpr ⟨lt_29_5, List.forall_mem_cons.mpr ⟨lt_29_6, List.forall_mem_cons.mpr ⟨lt_29_7, List.forall_mem_cons.mpr ⟨lt_29_8, List.forall_mem_cons.mpr ⟨lt_29_9, List.forall_mem_cons.mpr ⟨lt_29_10, List.forall_mem_cons.mpr ⟨lt_29_11, List.forall_mem_cons.mpr ⟨lt_29_12, List.forall_mem_cons.mpr ⟨lt_29_13, List.forall_mem_cons.mpr ⟨lt_29_14, List.forall_mem_cons.mpr ⟨lt_29_15, List.forall_mem_cons.mpr ⟨lt_29_16, List.forall_mem_cons.mpr ⟨lt_29_17, List.forall_mem_cons.mpr ⟨lt_29_18, List.forall_mem_cons.mpr ⟨lt_29_19, List.forall_mem_cons.mpr ⟨lt_29_20, List.forall_mem_cons.mpr ⟨lt_29_21, List.forall_mem_cons.mpr ⟨lt_29_22, List.forall_mem_cons.mpr ⟨lt_29_23, fun _ h => absurd h List.not_mem_nil⟩⟩⟩⟩⟩⟩⟩⟩⟩⟩⟩⟩⟩⟩⟩⟩⟩⟩⟩⟩⟩⟩⟩⟩
theorem lt_30_0 : (Cond.constantLong RX11 175 (3)) ∈ lw_tbl := tb5 (i := 83) rfl
theorem lt_30_1 : (Cond.methodLink RX11 172 yX11_isPlace) ∈ lw_tbl := tb5 (i := 79) rfl
theorem lt_30_2 : (Cond.instanceMethod yX11_isPlace) ∈ lw_tbl := tb5 (i := 81) rfl
theorem lt_30_3 : (Cond.selects RX11 yX11_isPlace yX11_isPlace) ∈ lw_tbl := List.mem_append_left _ (List.mem_of_getElem? (i := 50) rfl)
theorem lt_30_4 : (Cond.code yX11_isPlace cX11_isPlace 2 (some .boolean)) ∈ lw_tbl := tb5 (i := 82) rfl
theorem lt_30_5 : (Cond.methodLink RX11 177 yX11_farOf) ∈ lw_tbl := tb5 (i := 84) rfl
theorem lt_30_6 : (Cond.instanceMethod yX11_farOf) ∈ lw_tbl := tb5 (i := 86) rfl
theorem lt_30_7 : (Cond.selects RX11 yX11_farOf yX11_farOf) ∈ lw_tbl := List.mem_append_left _ (List.mem_of_getElem? (i := 51) rfl)
theorem lt_30_8 : (Cond.code yX11_farOf cX11_farOf 2 (some .int)) ∈ lw_tbl := tb5 (i := 87) rfl
theorem lt_30_9 : (Cond.methodLink RL 69 yX10_then) ∈ lw_tbl := tb3 (i := 102) rfl
theorem lt_30_10 : (Cond.instanceMethod yX10_then) ∈ lw_tbl := tb3 (i := 103) rfl
theorem lt_30_11 : (Cond.selects RX10 yX10_then yX10_then) ∈ lw_tbl := tb3 (i := 104) rfl
theorem lt_30_12 : (Cond.code yX10_then cX10_then 3 (some .int)) ∈ lw_tbl := tb3 (i := 105) rfl
theorem lt_30_13 : (Cond.methodLink RX10 199 yX4_takeStage) ∈ lw_tbl := tb3 (i := 106) rfl
theorem lt_30_14 : (Cond.methodLink RX10 202 yX10_tryHours) ∈ lw_tbl := tb3 (i := 107) rfl
theorem lt_30_15 : (Cond.instanceMethod yX10_tryHours) ∈ lw_tbl := tb3 (i := 109) rfl
theorem lt_30_16 : (Cond.selects RX10 yX10_tryHours yX10_tryHours) ∈ lw_tbl := List.mem_append_left _ (List.mem_of_getElem? (i := 18) rfl)
theorem lt_30_17 : (Cond.code yX10_tryHours cX10_tryHours 3 none) ∈ lw_tbl := tb3 (i := 110) rfl
theorem lt_30_18 : (Cond.methodLink RL 72 yX11_then) ∈ lw_tbl := tb5 (i := 88) rfl
theorem lt_30_19 : (Cond.instanceMethod yX11_then) ∈ lw_tbl := tb5 (i := 89) rfl
theorem lt_30_20 : (Cond.selects RX11 yX11_then yX11_then) ∈ lw_tbl := tb5 (i := 90) rfl
theorem lt_30_21 : (Cond.code yX11_then cX11_then 3 (some .int)) ∈ lw_tbl := tb5 (i := 91) rfl
theorem lt_30_22 : (Cond.methodLink RX11 180 yX11_isThen) ∈ lw_tbl := tb5 (i := 92) rfl
theorem lt_30_23 : (Cond.static yX11_isThen) ∈ lw_tbl := tb5 (i := 93) rfl
theorem lat_30 : ∀ w ∈ wsL_law_r30, w ∈ lw_tbl := List.forall_mem_cons.mpr ⟨lt_30_0, List.forall_mem_cons.mpr ⟨lt_30_1, List.forall_mem_cons.mpr ⟨lt_30_2, List.forall_mem_cons.mpr ⟨lt_30_3, List.forall_mem_cons.mpr ⟨lt_30_4, List.forall_mem_cons.mpr ⟨lt_30_5, List.forall_mem_cons.mpr ⟨lt_30_6, List.forall_mem_cons.mpr ⟨lt_30_7, List.forall_mem_cons.mpr ⟨lt_30_8, List.forall_mem_cons.mpr ⟨lt_30_9, List.forall_mem_cons.mpr ⟨lt_30_10, List.forall_mem_cons.mpr ⟨lt_30_11, List.forall_mem_cons.mpr ⟨lt_30_12, List.forall_mem_cons.mpr ⟨lt_30_13, List.forall_mem_cons.mpr ⟨lt_30_14, List.forall_mem_cons.mpr ⟨lt_30_15, List.forall_mem_cons.mpr ⟨lt_30_16, List.forall_mem_cons.mpr ⟨lt_30_17, List.forall_mem_cons.mpr ⟨lt_30_18, List.forall_mem_cons.mpr ⟨lt_30_19, List.forall_mem_cons.mpr ⟨lt_30_20, List.forall_mem_cons.mpr ⟨lt_30_21, List.forall_mem_cons.mpr ⟨lt_30_22, List.forall_mem_cons.mpr ⟨lt_30_23, fun _ h => absurd h List.not_mem_nil⟩⟩⟩⟩⟩⟩⟩⟩⟩⟩⟩⟩⟩⟩⟩⟩⟩⟩⟩⟩⟩⟩⟩⟩
