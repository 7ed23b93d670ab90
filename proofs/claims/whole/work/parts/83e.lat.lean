/-! the law's words, on -/
theorem lt_41_0 : (Cond.code yX11_isReadSo cX11_isReadSo 3 (some .boolean)) ∈ lw_tbl := tb5 (i := 196) rfl
theorem lt_41_1 : (Cond.methodLink RL 114 yX10_listen) ∈ lw_tbl := tb4 (i := 1) rfl
theorem lt_41_2 : (Cond.instanceMethod yX10_listen) ∈ lw_tbl := tb4 (i := 2) rfl
theorem lt_41_3 : (Cond.selects RX10 yX10_listen yX10_listen) ∈ lw_tbl := tb4 (i := 3) rfl
theorem lt_41_4 : (Cond.code yX10_listen cX10_listen 8 (some .int)) ∈ lw_tbl := tb4 (i := 4) rfl
theorem lt_41_5 : (Cond.methodLink RX10 256 yX10_tryKinds) ∈ lw_tbl := tb4 (i := 5) rfl
theorem lt_41_6 : (Cond.instanceMethod yX10_tryKinds) ∈ lw_tbl := tb4 (i := 7) rfl
theorem lt_41_7 : (Cond.selects RX10 yX10_tryKinds yX10_tryKinds) ∈ lw_tbl := List.mem_append_left _ (List.mem_of_getElem? (i := 25) rfl)
theorem lt_41_8 : (Cond.code yX10_tryKinds cX10_tryKinds 4 none) ∈ lw_tbl := tb4 (i := 8) rfl
theorem lt_41_9 : (Cond.methodLink RX10 260 yX10_greaterPart) ∈ lw_tbl := tb4 (i := 9) rfl
theorem lt_41_10 : (Cond.instanceMethod yX10_greaterPart) ∈ lw_tbl := tb4 (i := 11) rfl
theorem lt_41_11 : (Cond.selects RX10 yX10_greaterPart yX10_greaterPart) ∈ lw_tbl := List.mem_append_left _ (List.mem_of_getElem? (i := 26) rfl)
theorem lt_41_12 : (Cond.code yX10_greaterPart cX10_greaterPart 5 (some .int)) ∈ lw_tbl := tb4 (i := 12) rfl
theorem lt_41_13 : (Cond.methodLink RX10 327 Lib.Math.max.name) ∈ lw_tbl := tb4 (i := 13) rfl
theorem lt_41_14 : (Cond.methodLink RL 117 yX11_listen) ∈ lw_tbl := tb5 (i := 197) rfl
theorem lt_41_15 : (Cond.instanceMethod yX11_listen) ∈ lw_tbl := tb5 (i := 198) rfl
theorem lt_41_16 : (Cond.selects RX11 yX11_listen yX11_listen) ∈ lw_tbl := tb5 (i := 199) rfl
theorem lt_41_17 : (Cond.code yX11_listen cX11_listen 9 (some .int)) ∈ lw_tbl := tb5 (i := 200) rfl
theorem lt_41_18 : (Cond.methodLink RL 118 yX10_wish) ∈ lw_tbl := tb4 (i := 14) rfl
theorem lt_41_19 : (Cond.instanceMethod yX10_wish) ∈ lw_tbl := tb4 (i := 15) rfl
theorem lt_41_20 : (Cond.selects RX10 yX10_wish yX10_wish) ∈ lw_tbl := tb4 (i := 16) rfl
theorem lt_41_21 : (Cond.code yX10_wish cX10_wish 7 (some .int)) ∈ lw_tbl := tb4 (i := 17) rfl
theorem lt_41_22 : (Cond.methodLink RX10 263 yX4_wishTone) ∈ lw_tbl := tb4 (i := 18) rfl
theorem lt_41_23 : (Cond.instanceMethod yX4_wishTone) ∈ lw_tbl := tb4 (i := 19) rfl
theorem lat_41 : ∀ w ∈ wsL_law_r41, w ∈ lw_tbl := List.forall_mem_cons.mpr ⟨lt_41_0, List.forall_mem_cons.mpr ⟨lt_41_1, List.forall_mem_cons.mpr ⟨lt_41_2, List.forall_mem_cons.mpr ⟨lt_41_3, List.forall_mem_cons.mpr ⟨lt_41_4, List.forall_mem_cons.mpr ⟨lt_41_5, List.forall_mem_cons.mpr ⟨lt_41_6, List.forall_mem_cons.mpr ⟨lt_41_7, List.forall_mem_cons.mpr ⟨lt_41_8, List.forall_mem_cons.mpr ⟨lt_41_9, List.forall_mem_cons.mpr ⟨lt_41_10, List.forall_mem_cons.mpr ⟨lt_41_11, List.forall_mem_cons.mpr ⟨lt_41_12, List.forall_mem_cons.mpr ⟨lt_41_13, List.forall_mem_cons.mpr ⟨lt_41_14, List.forall_mem_cons.mpr ⟨lt_41_15, List.forall_mem_cons.mpr ⟨lt_41_16, List.forall_mem_cons.mpr ⟨lt_41_17, List.forall_mem_cons.mpr ⟨lt_41_18, List.forall_mem_cons.mpr ⟨lt_41_19, List.forall_mem_cons.mpr ⟨lt_41_20, List.forall_mem_cons.mpr ⟨lt_41_21, List.forall_mem_cons.mpr ⟨lt_41_22, List.forall_mem_cons.mpr ⟨lt_41_23, fun _ h => absurd h List.not_mem_nil⟩⟩⟩⟩⟩⟩⟩⟩⟩⟩⟩⟩⟩⟩⟩⟩⟩⟩⟩⟩⟩⟩⟩⟩
theorem lt_42_0 : (Cond.selects RX4 yX4_wishTone yX4_wishTone) ∈ lw_tbl := tb4 (i := 20) rfl
theorem lt_42_1 : (Cond.code yX4_wishTone cX4_wishTone 3 none) ∈ lw_tbl := tb4 (i := 21) rfl
theorem lt_42_2 : (Cond.methodLink RL 121 yX11_wish) ∈ lw_tbl := tb5 (i := 201) rfl
theorem lt_42_3 : (Cond.instanceMethod yX11_wish) ∈ lw_tbl := tb5 (i := 202) rfl
theorem lt_42_4 : (Cond.selects RX11 yX11_wish yX11_wish) ∈ lw_tbl := tb5 (i := 203) rfl
theorem lt_42_5 : (Cond.code yX11_wish cX11_wish 7 (some .int)) ∈ lw_tbl := tb5 (i := 204) rfl
theorem lt_42_6 : (Cond.methodLink RL 122 yX10_feast) ∈ lw_tbl := tb4 (i := 22) rfl
theorem lt_42_7 : (Cond.instanceMethod yX10_feast) ∈ lw_tbl := tb4 (i := 23) rfl
theorem lt_42_8 : (Cond.selects RX10 yX10_feast yX10_feast) ∈ lw_tbl := tb4 (i := 24) rfl
theorem lt_42_9 : (Cond.code yX10_feast cX10_feast 13 (some .int)) ∈ lw_tbl := tb4 (i := 25) rfl
theorem lt_42_10 : (Cond.constantLong RX10 272 (10)) ∈ lw_tbl := tb4 (i := 34) rfl
theorem lt_42_11 : (Cond.methodLink RX10 266 yX4_isFirstOfItsNote) ∈ lw_tbl := tb4 (i := 26) rfl
theorem lt_42_12 : (Cond.instanceMethod yX4_isFirstOfItsNote) ∈ lw_tbl := tb4 (i := 27) rfl
theorem lt_42_13 : (Cond.selects RX4 yX4_isFirstOfItsNote yX4_isFirstOfItsNote) ∈ lw_tbl := tb4 (i := 28) rfl
theorem lt_42_14 : (Cond.code yX4_isFirstOfItsNote cX4_isFirstOfItsNote 4 (some .boolean)) ∈ lw_tbl := tb4 (i := 29) rfl
theorem lt_42_15 : (Cond.methodLink RX10 269 yX4_howManyAwayOf) ∈ lw_tbl := tb4 (i := 30) rfl
theorem lt_42_16 : (Cond.instanceMethod yX4_howManyAwayOf) ∈ lw_tbl := tb4 (i := 31) rfl
theorem lt_42_17 : (Cond.selects RX4 yX4_howManyAwayOf yX4_howManyAwayOf) ∈ lw_tbl := tb4 (i := 32) rfl
theorem lt_42_18 : (Cond.code yX4_howManyAwayOf cX4_howManyAwayOf 4 (some .int)) ∈ lw_tbl := tb4 (i := 33) rfl
theorem lt_42_19 : (Cond.methodLink RX10 274 yX10_power) ∈ lw_tbl := tb4 (i := 35) rfl
theorem lt_42_20 : (Cond.static yX10_power) ∈ lw_tbl := tb4 (i := 36) rfl
theorem lt_42_21 : (Cond.code yX10_power cX10_power 6 (some .long)) ∈ lw_tbl := tb4 (i := 37) rfl
theorem lt_42_22 : (Cond.methodLink RX10 278 yX10_setFraction) ∈ lw_tbl := tb4 (i := 38) rfl
theorem lt_42_23 : (Cond.instanceMethod yX10_setFraction) ∈ lw_tbl := tb4 (i := 40) rfl
theorem lat_42 : ∀ w ∈ wsL_law_r42, w ∈ lw_tbl := List.forall_mem_cons.mpr ⟨lt_42_0, List.forall_mem_cons.mpr ⟨lt_42_1, List.forall_mem_cons.mpr ⟨lt_42_2, List.forall_mem_cons.mpr ⟨lt_42_3, List.forall_mem_cons.mpr ⟨lt_42_4, List.forall_mem_cons.mpr ⟨lt_42_5, List.forall_mem_cons.mpr ⟨lt_42_6, List.forall_mem_cons.mpr ⟨lt_42_7, List.forall_mem_cons.mpr ⟨lt_42_8, List.forall_mem_cons.mpr ⟨lt_42_9, List.forall_mem_cons.mpr ⟨lt_42_10, List.forall_mem_cons.mpr ⟨lt_42_11, List.forall_mem_cons.mpr ⟨lt_42_12, List.forall_mem_cons.mpr ⟨lt_42_13, List.forall_mem_cons.mpr ⟨lt_42_14, List.forall_mem_cons.mpr ⟨lt_42_15, List.forall_mem_cons.mpr ⟨lt_42_16, List.forall_mem_cons.mpr ⟨lt_42_17, List.forall_mem_cons.mpr ⟨lt_42_18, List.forall_mem_cons.mpr ⟨lt_42_19, List.forall_mem_cons.mpr ⟨lt_42_20, List.forall_mem_cons.mpr ⟨lt_42_21, List.forall_mem_cons.mpr ⟨lt_42_22, List.forall_mem_cons.mpr ⟨lt_42_23, fun _ h => absurd h List.not_mem_nil⟩⟩⟩⟩⟩⟩⟩⟩⟩⟩⟩⟩⟩⟩⟩⟩⟩⟩⟩⟩⟩⟩⟩⟩
theorem lt_43_0 : (Cond.selects RX10 yX10_setFraction yX10_setFraction) ∈ lw_tbl := List.mem_append_left _ (List.mem_of_getElem? (i := 27) rfl)
theorem lt_43_1 : (Cond.code yX10_setFraction cX10_setFraction 7 none) ∈ lw_tbl := tb4 (i := 41) rfl
theorem lt_43_2 : (Cond.methodLink RX10 332 yX10_greatestDivisor) ∈ lw_tbl := tb4 (i := 42) rfl
theorem lt_43_3 : (Cond.static yX10_greatestDivisor) ∈ lw_tbl := tb4 (i := 43) rfl
theorem lt_43_4 : (Cond.code yX10_greatestDivisor cX10_greatestDivisor 7 (some .long)) ∈ lw_tbl := tb4 (i := 44) rfl
theorem lt_43_5 : (Cond.methodLink RL 126 yX11_feast) ∈ lw_tbl := tb5 (i := 205) rfl
theorem lt_43_6 : (Cond.instanceMethod yX11_feast) ∈ lw_tbl := tb5 (i := 206) rfl
theorem lt_43_7 : (Cond.selects RX11 yX11_feast yX11_feast) ∈ lw_tbl := tb5 (i := 207) rfl
theorem lt_43_8 : (Cond.code yX11_feast cX11_feast 14 (some .int)) ∈ lw_tbl := tb5 (i := 208) rfl
theorem lt_43_9 : (Cond.constantLong RX11 241 (10)) ∈ lw_tbl := tb5 (i := 209) rfl
theorem lt_43_10 : (Cond.methodLink RX11 243 yX11_fraction) ∈ lw_tbl := tb5 (i := 210) rfl
theorem lt_43_11 : (Cond.instanceMethod yX11_fraction) ∈ lw_tbl := tb5 (i := 212) rfl
theorem lt_43_12 : (Cond.selects RX11 yX11_fraction yX11_fraction) ∈ lw_tbl := List.mem_append_left _ (List.mem_of_getElem? (i := 65) rfl)
theorem lt_43_13 : (Cond.code yX11_fraction cX11_fraction 11 none) ∈ lw_tbl := tb5 (i := 213) rfl
theorem lt_43_14 : (Cond.fieldLink RX11 238 "GonePipesModel" "above" "J") ∈ lw_tbl := tb4 (i := 102) rfl
theorem lt_43_15 : (Cond.methodLink RL 127 yX10_hours) ∈ lw_tbl := tb4 (i := 45) rfl
theorem lt_43_16 : (Cond.instanceMethod yX10_hours) ∈ lw_tbl := tb4 (i := 46) rfl
theorem lt_43_17 : (Cond.selects RX10 yX10_hours yX10_hours) ∈ lw_tbl := tb4 (i := 47) rfl
theorem lt_43_18 : (Cond.code yX10_hours cX10_hours 6 (some .int)) ∈ lw_tbl := tb4 (i := 48) rfl
theorem lt_43_19 : (Cond.constant RX10 282 (999999)) ∈ lw_tbl := tb4 (i := 49) rfl
theorem lt_43_20 : (Cond.constantLong RX10 283 (1103515245)) ∈ lw_tbl := tb4 (i := 50) rfl
theorem lt_43_21 : (Cond.constantLong RX10 285 (12345)) ∈ lw_tbl := tb4 (i := 51) rfl
theorem lt_43_22 : (Cond.constantLong RX10 287 (2147483648)) ∈ lw_tbl := tb4 (i := 52) rfl
theorem lt_43_23 : (Cond.constantLong RX10 289 (65536)) ∈ lw_tbl := tb4 (i := 53) rfl
theorem lat_43 : ∀ w ∈ wsL_law_r43, w ∈ lw_tbl := List.forall_mem_cons.mpr ⟨lt_43_0, List.forall_mem_cons.mpr ⟨lt_43_1, List.forall_mem_cons.mpr ⟨lt_43_2, List.forall_mem_cons.mpr ⟨lt_43_3, List.forall_mem_cons.mpr ⟨lt_43_4, List.forall_mem_cons.mpr ⟨lt_43_5, List.forall_mem_cons.mpr ⟨lt_43_6, List.forall_mem_cons.mpr ⟨lt_43_7, List.forall_mem_cons.mpr ⟨lt_43_8, List.forall_mem_cons.mpr ⟨lt_43_9, List.forall_mem_cons.mpr ⟨lt_43_10, List.forall_mem_cons.mpr ⟨lt_43_11, List.forall_mem_cons.mpr ⟨lt_43_12, List.forall_mem_cons.mpr ⟨lt_43_13, List.forall_mem_cons.mpr ⟨lt_43_14, List.forall_mem_cons.mpr ⟨lt_43_15, List.forall_mem_cons.mpr ⟨lt_43_16, List.forall_mem_cons.mpr ⟨lt_43_17, List.forall_mem_cons.mpr ⟨lt_43_18, List.forall_mem_cons.mpr ⟨lt_43_19, List.forall_mem_cons.mpr ⟨lt_43_20, List.forall_mem_cons.mpr ⟨lt_43_21, List.forall_mem_cons.mpr ⟨lt_43_22, List.forall_mem_cons.mpr ⟨lt_43_23, fun _ h => absurd h List.not_mem_nil⟩⟩⟩⟩⟩⟩⟩⟩⟩⟩⟩⟩⟩⟩⟩⟩⟩⟩⟩⟩⟩⟩⟩⟩
theorem lt_44_0 : (Cond.methodLink RL 130 yX11_hours) ∈ lw_tbl := tb5 (i := 214) rfl
theorem lt_44_1 : (Cond.instanceMethod yX11_hours) ∈ lw_tbl := tb5 (i := 215) rfl
theorem lt_44_2 : (Cond.selects RX11 yX11_hours yX11_hours) ∈ lw_tbl := tb5 (i := 216) rfl
theorem lt_44_3 : (Cond.code yX11_hours cX11_hours 7 (some .int)) ∈ lw_tbl := tb5 (i := 217) rfl
theorem lt_44_4 : (Cond.constantLong RX11 247 (999999)) ∈ lw_tbl := tb5 (i := 218) rfl
theorem lt_44_5 : (Cond.constantLong RX11 249 (60)) ∈ lw_tbl := tb5 (i := 219) rfl
theorem lt_44_6 : (Cond.constantLong RX11 251 (1103515245)) ∈ lw_tbl := tb5 (i := 220) rfl
theorem lt_44_7 : (Cond.constantLong RX11 253 (12345)) ∈ lw_tbl := tb5 (i := 221) rfl
theorem lt_44_8 : (Cond.constantLong RX11 255 (2147483648)) ∈ lw_tbl := tb5 (i := 222) rfl
theorem lt_44_9 : (Cond.constantLong RX11 257 (65536)) ∈ lw_tbl := tb5 (i := 223) rfl
theorem lt_44_10 : (Cond.methodLink RL 131 yX10_part) ∈ lw_tbl := tb4 (i := 54) rfl
theorem lt_44_11 : (Cond.instanceMethod yX10_part) ∈ lw_tbl := tb4 (i := 55) rfl
theorem lt_44_12 : (Cond.selects RX10 yX10_part yX10_part) ∈ lw_tbl := tb4 (i := 56) rfl
theorem lt_44_13 : (Cond.code yX10_part cX10_part 2 (some .long)) ∈ lw_tbl := tb4 (i := 57) rfl
theorem lt_44_14 : (Cond.methodLink RL 135 yX11_part) ∈ lw_tbl := tb6 (i := 38) rfl
theorem lt_44_15 : (Cond.instanceMethod yX11_part) ∈ lw_tbl := tb6 (i := 39) rfl
theorem lt_44_16 : (Cond.selects RX11 yX11_part yX11_part) ∈ lw_tbl := tb6 (i := 40) rfl
theorem lt_44_17 : (Cond.code yX11_part cX11_part 2 (some .long)) ∈ lw_tbl := tb6 (i := 41) rfl
theorem lt_44_18 : (Cond.methodLink RL 136 yX10_image) ∈ lw_tbl := tb4 (i := 58) rfl
theorem lt_44_19 : (Cond.instanceMethod yX10_image) ∈ lw_tbl := tb4 (i := 59) rfl
theorem lt_44_20 : (Cond.selects RX10 yX10_image yX10_image) ∈ lw_tbl := tb4 (i := 60) rfl
theorem lt_44_21 : (Cond.code yX10_image cX10_image 2 (some .int)) ∈ lw_tbl := tb4 (i := 61) rfl
theorem lt_44_22 : (Cond.methodLink RL 139 yX11_image) ∈ lw_tbl := tb6 (i := 42) rfl
theorem lt_44_23 : (Cond.instanceMethod yX11_image) ∈ lw_tbl := tb6 (i := 43) rfl
theorem lat_44 : ∀ w ∈ wsL_law_r44, w ∈ lw_tbl := List.forall_mem_cons.mpr ⟨lt_44_0, List.forall_mem_cons.mpr ⟨lt_44_1, List.forall_mem_cons.mpr ⟨lt_44_2, List.forall_mem_cons.mpr ⟨lt_44_3, List.forall_mem_cons.mpr ⟨lt_44_4, List.forall_mem_cons.mpr ⟨lt_44_5, List.forall_mem_cons.mpr ⟨lt_44_6, List.forall_mem_cons.mpr ⟨lt_44_7, List.forall_mem_cons.mpr ⟨lt_44_8, List.forall_mem_cons.mpr ⟨lt_44_9, List.forall_mem_cons.mpr ⟨lt_44_10, List.forall_mem_cons.mpr ⟨lt_44_11, List.forall_mem_cons.mpr ⟨lt_44_12, List.forall_mem_cons.mpr ⟨lt_44_13, List.forall_mem_cons.mpr ⟨lt_44_14, List.forall_mem_cons.mpr ⟨lt_44_15, List.forall_mem_cons.mpr ⟨lt_44_16, List.forall_mem_cons.mpr ⟨lt_44_17, List.forall_mem_cons.mpr ⟨lt_44_18, List.forall_mem_cons.mpr ⟨lt_44_19, List.forall_mem_cons.mpr ⟨lt_44_20, List.forall_mem_cons.mpr ⟨lt_44_21, List.forall_mem_cons.mpr ⟨lt_44_22, List.forall_mem_cons.mpr ⟨lt_44_23, fun _ h => absurd h List.not_mem_nil⟩⟩⟩⟩⟩⟩⟩⟩⟩⟩⟩⟩⟩⟩⟩⟩⟩⟩⟩⟩⟩⟩⟩⟩
theorem lt_45_0 : (Cond.selects RX11 yX11_image yX11_image) ∈ lw_tbl := tb6 (i := 44) rfl
theorem lt_45_1 : (Cond.code yX11_image cX11_image 3 (some .int)) ∈ lw_tbl := tb6 (i := 45) rfl
theorem lt_45_2 : (Cond.methodLink RL 140 yX10_from) ∈ lw_tbl := tb4 (i := 62) rfl
theorem lt_45_3 : (Cond.instanceMethod yX10_from) ∈ lw_tbl := tb4 (i := 63) rfl
theorem lt_45_4 : (Cond.selects RX10 yX10_from yX10_from) ∈ lw_tbl := tb4 (i := 64) rfl
theorem lt_45_5 : (Cond.code yX10_from cX10_from 2 (some .int)) ∈ lw_tbl := tb4 (i := 65) rfl
theorem lt_45_6 : (Cond.methodLink RL 143 yX11_from) ∈ lw_tbl := tb6 (i := 46) rfl
theorem lt_45_7 : (Cond.instanceMethod yX11_from) ∈ lw_tbl := tb6 (i := 47) rfl
theorem lt_45_8 : (Cond.selects RX11 yX11_from yX11_from) ∈ lw_tbl := tb6 (i := 48) rfl
theorem lt_45_9 : (Cond.code yX11_from cX11_from 3 (some .int)) ∈ lw_tbl := tb6 (i := 49) rfl
theorem lt_45_10 : (Cond.methodLink RL 144 yX10_status) ∈ lw_tbl := tb4 (i := 66) rfl
theorem lt_45_11 : (Cond.instanceMethod yX10_status) ∈ lw_tbl := tb4 (i := 67) rfl
theorem lt_45_12 : (Cond.selects RX10 yX10_status yX10_status) ∈ lw_tbl := tb4 (i := 68) rfl
theorem lt_45_13 : (Cond.code yX10_status cX10_status 2 (some .int)) ∈ lw_tbl := tb4 (i := 69) rfl
theorem lt_45_14 : (Cond.methodLink RL 147 yX11_status) ∈ lw_tbl := tb6 (i := 50) rfl
theorem lt_45_15 : (Cond.instanceMethod yX11_status) ∈ lw_tbl := tb6 (i := 51) rfl
theorem lt_45_16 : (Cond.selects RX11 yX11_status yX11_status) ∈ lw_tbl := tb6 (i := 52) rfl
theorem lt_45_17 : (Cond.code yX11_status cX11_status 2 (some .int)) ∈ lw_tbl := tb6 (i := 53) rfl
theorem lt_45_18 : (Cond.methodLink RL 148 yX10_count) ∈ lw_tbl := tb4 (i := 70) rfl
theorem lt_45_19 : (Cond.instanceMethod yX10_count) ∈ lw_tbl := tb4 (i := 71) rfl
theorem lt_45_20 : (Cond.selects RX10 yX10_count yX10_count) ∈ lw_tbl := tb4 (i := 72) rfl
theorem lt_45_21 : (Cond.code yX10_count cX10_count 2 (some .int)) ∈ lw_tbl := tb4 (i := 73) rfl
theorem lt_45_22 : (Cond.methodLink RX10 300 yX10_howMany) ∈ lw_tbl := tb4 (i := 74) rfl
theorem lt_45_23 : (Cond.instanceMethod yX10_howMany) ∈ lw_tbl := tb4 (i := 76) rfl
theorem lat_45 : ∀ w ∈ wsL_law_r45, w ∈ lw_tbl := List.forall_mem_cons.mpr ⟨lt_45_0, List.forall_mem_cons.mpr ⟨lt_45_1, List.forall_mem_cons.mpr ⟨lt_45_2, List.forall_mem_cons.mpr ⟨lt_45_3, List.forall_mem_cons.mpr ⟨lt_45_4, List.forall_mem_cons.mpr ⟨lt_45_5, List.forall_mem_cons.mpr ⟨lt_45_6, List.forall_mem_cons.mpr ⟨lt_45_7, List.forall_mem_cons.mpr ⟨lt_45_8, List.forall_mem_cons.mpr ⟨lt_45_9, List.forall_mem_cons.mpr ⟨lt_45_10, List.forall_mem_cons.mpr ⟨lt_45_11, List.forall_mem_cons.mpr ⟨lt_45_12, List.forall_mem_cons.mpr ⟨lt_45_13, List.forall_mem_cons.mpr ⟨lt_45_14, List.forall_mem_cons.mpr ⟨lt_45_15, List.forall_mem_cons.mpr ⟨lt_45_16, List.forall_mem_cons.mpr ⟨lt_45_17, List.forall_mem_cons.mpr ⟨lt_45_18, List.forall_mem_cons.mpr ⟨lt_45_19, List.forall_mem_cons.mpr ⟨lt_45_20, List.forall_mem_cons.mpr ⟨lt_45_21, List.forall_mem_cons.mpr ⟨lt_45_22, List.forall_mem_cons.mpr ⟨lt_45_23, fun _ h => absurd h List.not_mem_nil⟩⟩⟩⟩⟩⟩⟩⟩⟩⟩⟩⟩⟩⟩⟩⟩⟩⟩⟩⟩⟩⟩⟩⟩
theorem lt_46_0 : (Cond.selects RX10 yX10_howMany yX10_howMany) ∈ lw_tbl := List.mem_append_left _ (List.mem_of_getElem? (i := 28) rfl)
theorem lt_46_1 : (Cond.code yX10_howMany cX10_howMany 2 (some .int)) ∈ lw_tbl := tb4 (i := 77) rfl
theorem lt_46_2 : (Cond.fieldLink RX10 336 "GonePipes$Past" "count" "I") ∈ lw_tbl := tb1 (i := 84) rfl
theorem lt_46_3 : (Cond.methodLink RL 151 yX11_count) ∈ lw_tbl := tb6 (i := 54) rfl
theorem lt_46_4 : (Cond.instanceMethod yX11_count) ∈ lw_tbl := tb6 (i := 55) rfl
theorem lt_46_5 : (Cond.selects RX11 yX11_count yX11_count) ∈ lw_tbl := tb6 (i := 56) rfl
theorem lt_46_6 : (Cond.code yX11_count cX11_count 2 (some .int)) ∈ lw_tbl := tb6 (i := 57) rfl
theorem lt_46_7 : (Cond.methodLink RX11 314 yX11_counted) ∈ lw_tbl := tb6 (i := 58) rfl
theorem lt_46_8 : (Cond.instanceMethod yX11_counted) ∈ lw_tbl := tb6 (i := 60) rfl
theorem lt_46_9 : (Cond.selects RX11 yX11_counted yX11_counted) ∈ lw_tbl := List.mem_append_left _ (List.mem_of_getElem? (i := 74) rfl)
theorem lt_46_10 : (Cond.code yX11_counted cX11_counted 2 (some .int)) ∈ lw_tbl := tb6 (i := 61) rfl
theorem lt_46_11 : (Cond.methodLink RL 152 yX10_digest) ∈ lw_tbl := tb4 (i := 78) rfl
theorem lt_46_12 : (Cond.instanceMethod yX10_digest) ∈ lw_tbl := tb4 (i := 79) rfl
theorem lt_46_13 : (Cond.selects RX10 yX10_digest yX10_digest) ∈ lw_tbl := tb4 (i := 80) rfl
theorem lt_46_14 : (Cond.code yX10_digest cX10_digest 4 (some .long)) ∈ lw_tbl := tb4 (i := 81) rfl
theorem lt_46_15 : (Cond.constantLong RX10 303 (983)) ∈ lw_tbl := tb4 (i := 82) rfl
theorem lt_46_16 : (Cond.constantLong RX10 305 (31)) ∈ lw_tbl := tb4 (i := 83) rfl
theorem lt_46_17 : (Cond.methodLink RX10 307 yX4_digestOn) ∈ lw_tbl := tb4 (i := 84) rfl
theorem lt_46_18 : (Cond.instanceMethod yX4_digestOn) ∈ lw_tbl := tb4 (i := 85) rfl
theorem lt_46_19 : (Cond.selects RX4 yX4_digestOn yX4_digestOn) ∈ lw_tbl := tb4 (i := 86) rfl
theorem lt_46_20 : (Cond.code yX4_digestOn cX4_digestOn 4 (some .long)) ∈ lw_tbl := tb4 (i := 87) rfl
theorem lt_46_21 : (Cond.constantLong RX4 144 (31)) ∈ lw_tbl := tb4 (i := 91) rfl
theorem lt_46_22 : (Cond.methodLink RX4 140 yX4_digestRow) ∈ lw_tbl := tb4 (i := 88) rfl
theorem lt_46_23 : (Cond.static yX4_digestRow) ∈ lw_tbl := tb4 (i := 89) rfl
theorem lat_46 : ∀ w ∈ wsL_law_r46, w ∈ lw_tbl := List.forall_mem_cons.mpr ⟨lt_46_0, List.forall_mem_cons.mpr ⟨lt_46_1, List.forall_mem_cons.mpr ⟨lt_46_2, List.forall_mem_cons.mpr ⟨lt_46_3, List.forall_mem_cons.mpr ⟨lt_46_4, List.forall_mem_cons.mpr ⟨lt_46_5, List.forall_mem_cons.mpr ⟨lt_46_6, List.forall_mem_cons.mpr ⟨lt_46_7, List.forall_mem_cons.mpr ⟨lt_46_8, List.forall_mem_cons.mpr ⟨lt_46_9, List.forall_mem_cons.mpr ⟨lt_46_10, List.forall_mem_cons.mpr ⟨lt_46_11, List.forall_mem_cons.mpr ⟨lt_46_12, List.forall_mem_cons.mpr ⟨lt_46_13, List.forall_mem_cons.mpr ⟨lt_46_14, List.forall_mem_cons.mpr ⟨lt_46_15, List.forall_mem_cons.mpr ⟨lt_46_16, List.forall_mem_cons.mpr ⟨lt_46_17, List.forall_mem_cons.mpr ⟨lt_46_18, List.forall_mem_cons.mpr ⟨lt_46_19, List.forall_mem_cons.mpr ⟨lt_46_20, List.forall_mem_cons.mpr ⟨lt_46_21, List.forall_mem_cons.mpr ⟨lt_46_22, List.forall_mem_cons.mpr ⟨lt_46_23, fun _ h => absurd h List.not_mem_nil⟩⟩⟩⟩⟩⟩⟩⟩⟩⟩⟩⟩⟩⟩⟩⟩⟩⟩⟩⟩⟩⟩⟩⟩
theorem lt_47_0 : (Cond.code yX4_digestRow cX4_digestRow 6 (some .long)) ∈ lw_tbl := tb4 (i := 90) rfl
theorem lt_47_1 : (Cond.methodLink RL 156 yX11_digest) ∈ lw_tbl := tb6 (i := 62) rfl
theorem lt_47_2 : (Cond.instanceMethod yX11_digest) ∈ lw_tbl := tb6 (i := 63) rfl
theorem lt_47_3 : (Cond.selects RX11 yX11_digest yX11_digest) ∈ lw_tbl := tb6 (i := 64) rfl
theorem lt_47_4 : (Cond.code yX11_digest cX11_digest 4 (some .long)) ∈ lw_tbl := tb6 (i := 65) rfl
theorem lt_47_5 : (Cond.constantLong RX11 319 (983)) ∈ lw_tbl := tb6 (i := 66) rfl
theorem lt_47_6 : (Cond.constantLong RX11 317 (31)) ∈ lw_tbl := tb6 (i := 67) rfl
theorem lt_47_7 : (Cond.methodLink RX11 321 yX11_sums) ∈ lw_tbl := tb6 (i := 68) rfl
theorem lt_47_8 : (Cond.instanceMethod yX11_sums) ∈ lw_tbl := tb6 (i := 70) rfl
theorem lt_47_9 : (Cond.selects RX11 yX11_sums yX11_sums) ∈ lw_tbl := List.mem_append_left _ (List.mem_of_getElem? (i := 75) rfl)
theorem lt_47_10 : (Cond.code yX11_sums cX11_sums 8 (some .long)) ∈ lw_tbl := tb6 (i := 71) rfl
theorem lat_47 : ∀ w ∈ wsL_law_r47, w ∈ lw_tbl := List.forall_mem_cons.mpr ⟨lt_47_0, List.forall_mem_cons.mpr ⟨lt_47_1, List.forall_mem_cons.mpr ⟨lt_47_2, List.forall_mem_cons.mpr ⟨lt_47_3, List.forall_mem_cons.mpr ⟨lt_47_4, List.forall_mem_cons.mpr ⟨lt_47_5, List.forall_mem_cons.mpr ⟨lt_47_6, List.forall_mem_cons.mpr ⟨lt_47_7, List.forall_mem_cons.mpr ⟨lt_47_8, List.forall_mem_cons.mpr ⟨lt_47_9, List.forall_mem_cons.mpr ⟨lt_47_10, fun _ h => absurd h List.not_mem_nil⟩⟩⟩⟩⟩⟩⟩⟩⟩⟩⟩
theorem lc_100 : ∀ w ∈ wsX100, w ∈ lw_tbl := by decide +kernel
theorem lc_110 : ∀ w ∈ wsX110, w ∈ lw_tbl := by decide +kernel
theorem lc_60 : ∀ w ∈ wsX60, w ∈ lw_tbl := by decide +kernel
theorem lc_70 : ∀ w ∈ wsX70, w ∈ lw_tbl := by decide +kernel
theorem lc_10 : ∀ w ∈ wsX10, w ∈ lw_tbl := by decide +kernel
theorem lc_00 : ∀ w ∈ wsX00, w ∈ lw_tbl := by decide +kernel
theorem lc_20 : ∀ w ∈ wsX20, w ∈ lw_tbl := by decide +kernel
theorem lc_30 : ∀ w ∈ wsX30, w ∈ lw_tbl := by decide +kernel
theorem lc_40 : ∀ w ∈ wsX40, w ∈ lw_tbl := by decide +kernel
theorem lc_80 : ∀ w ∈ wsX80, w ∈ lw_tbl := by decide +kernel
theorem lc_90 : ∀ w ∈ wsX90, w ∈ lw_tbl := by decide +kernel
theorem lc_50 : ∀ w ∈ wsX50, w ∈ lw_tbl := by decide +kernel
theorem wsL_law_in : ∀ w ∈ wsL_law, w ∈ lw_tbl := by
  unfold wsL_law
  exact List.forall_mem_append.mpr ⟨List.forall_mem_append.mpr ⟨List.forall_mem_append.mpr ⟨List.forall_mem_append.mpr ⟨List.forall_mem_append.mpr ⟨List.forall_mem_append.mpr ⟨List.forall_mem_append.mpr ⟨List.forall_mem_append.mpr ⟨List.forall_mem_append.mpr ⟨List.forall_mem_append.mpr ⟨List.forall_mem_append.mpr ⟨List.forall_mem_append.mpr ⟨List.forall_mem_append.mpr ⟨List.forall_mem_append.mpr ⟨lat_1, List.forall_mem_append.mpr ⟨lat_2, List.forall_mem_append.mpr ⟨lat_3, List.forall_mem_append.mpr ⟨lat_4, List.forall_mem_append.mpr ⟨lat_5, List.forall_mem_append.mpr ⟨lat_6, List.forall_mem_append.mpr ⟨lat_7, List.forall_mem_append.mpr ⟨lat_8, List.forall_mem_append.mpr ⟨lat_9, List.forall_mem_append.mpr ⟨lat_10, List.forall_mem_append.mpr ⟨lat_11, List.forall_mem_append.mpr ⟨lat_12, List.forall_mem_append.mpr ⟨lat_13, List.forall_mem_append.mpr ⟨lat_14, List.forall_mem_append.mpr ⟨lat_15, List.forall_mem_append.mpr ⟨lat_16, List.forall_mem_append.mpr ⟨lat_17, List.forall_mem_append.mpr ⟨lat_18, List.forall_mem_append.mpr ⟨lat_19, List.forall_mem_append.mpr ⟨lat_20, List.forall_mem_append.mpr ⟨lat_21, List.forall_mem_append.mpr ⟨lat_22, List.forall_mem_append.mpr ⟨lat_23, List.forall_mem_append.mpr ⟨lat_24, List.forall_mem_append.mpr ⟨lat_25, List.forall_mem_append.mpr ⟨lat_26, List.forall_mem_append.mpr ⟨lat_27, List.forall_mem_append.mpr ⟨lat_28, List.forall_mem_append.mpr ⟨lat_29, List.forall_mem_append.mpr ⟨lat_30, List.forall_mem_append.mpr ⟨lat_31, List.forall_mem_append.mpr ⟨lat_32, List.forall_mem_append.mpr ⟨lat_33, List.forall_mem_append.mpr ⟨lat_34, List.forall_mem_append.mpr ⟨lat_35, List.forall_mem_append.mpr ⟨lat_36, List.forall_mem_append.mpr ⟨lat_37, List.forall_mem_append.mpr ⟨lat_38, List.forall_mem_append.mpr ⟨lat_39, List.forall_mem_append.mpr ⟨lat_40, List.forall_mem_append.mpr ⟨lat_41, List.forall_mem_append.mpr ⟨lat_42, List.forall_mem_append.mpr ⟨lat_43, List.forall_mem_append.mpr ⟨lat_44, List.forall_mem_append.mpr ⟨lat_45, List.forall_mem_append.mpr ⟨lat_46, lat_47⟩⟩⟩⟩⟩⟩⟩⟩⟩⟩⟩⟩⟩⟩⟩⟩⟩⟩⟩⟩⟩⟩⟩⟩⟩⟩⟩⟩⟩⟩⟩⟩⟩⟩⟩⟩⟩⟩⟩⟩⟩⟩⟩⟩⟩⟩, lc_100⟩, lc_110⟩, lc_60⟩, lc_70⟩, lc_10⟩, lc_00⟩, lc_20⟩, lc_30⟩, lc_40⟩, lc_80⟩, lc_90⟩, lc_50⟩, fun _ h => absurd h List.not_mem_nil⟩
