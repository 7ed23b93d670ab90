/-! the law's words, on -/
theorem lt_31_0 : (Cond.code yX11_isThen cX11_isThen 1 (some .boolean)) ∈ lw_tbl := tb5 (i := 94) rfl
theorem lt_31_1 : (Cond.constantLong RX11 71 (72)) ∈ lw_tbl := tb5 (i := 95) rfl
theorem lt_31_2 : (Cond.methodLink RX11 183 yX11_goHours) ∈ lw_tbl := tb5 (i := 96) rfl
theorem lt_31_3 : (Cond.instanceMethod yX11_goHours) ∈ lw_tbl := tb5 (i := 98) rfl
theorem lt_31_4 : (Cond.selects RX11 yX11_goHours yX11_goHours) ∈ lw_tbl := List.mem_append_left _ (List.mem_of_getElem? (i := 52) rfl)
theorem lt_31_5 : (Cond.code yX11_goHours cX11_goHours 3 none) ∈ lw_tbl := tb5 (i := 99) rfl
theorem lt_31_6 : (Cond.methodLink RL 73 yX10_left) ∈ lw_tbl := tb3 (i := 111) rfl
theorem lt_31_7 : (Cond.instanceMethod yX10_left) ∈ lw_tbl := tb3 (i := 112) rfl
theorem lt_31_8 : (Cond.selects RX10 yX10_left yX10_left) ∈ lw_tbl := tb3 (i := 113) rfl
theorem lt_31_9 : (Cond.code yX10_left cX10_left 2 (some .int)) ∈ lw_tbl := tb3 (i := 114) rfl
theorem lt_31_10 : (Cond.methodLink RL 76 yX11_left) ∈ lw_tbl := tb5 (i := 100) rfl
theorem lt_31_11 : (Cond.instanceMethod yX11_left) ∈ lw_tbl := tb5 (i := 101) rfl
theorem lt_31_12 : (Cond.selects RX11 yX11_left yX11_left) ∈ lw_tbl := tb5 (i := 102) rfl
theorem lt_31_13 : (Cond.code yX11_left cX11_left 2 (some .int)) ∈ lw_tbl := tb5 (i := 103) rfl
theorem lt_31_14 : (Cond.methodLink RL 77 yX10_plays) ∈ lw_tbl := tb3 (i := 115) rfl
theorem lt_31_15 : (Cond.instanceMethod yX10_plays) ∈ lw_tbl := tb3 (i := 116) rfl
theorem lt_31_16 : (Cond.selects RX10 yX10_plays yX10_plays) ∈ lw_tbl := tb3 (i := 117) rfl
theorem lt_31_17 : (Cond.code yX10_plays cX10_plays 3 (some .int)) ∈ lw_tbl := tb3 (i := 118) rfl
theorem lt_31_18 : (Cond.methodLink RX10 205 yX10_isShift) ∈ lw_tbl := tb3 (i := 119) rfl
theorem lt_31_19 : (Cond.static yX10_isShift) ∈ lw_tbl := tb3 (i := 120) rfl
theorem lt_31_20 : (Cond.code yX10_isShift cX10_isShift 1 (some .boolean)) ∈ lw_tbl := tb3 (i := 121) rfl
theorem lt_31_21 : (Cond.methodLink RX10 208 yX4_notesInChurch) ∈ lw_tbl := tb3 (i := 122) rfl
theorem lt_31_22 : (Cond.instanceMethod yX4_notesInChurch) ∈ lw_tbl := tb3 (i := 123) rfl
theorem lt_31_23 : (Cond.selects RX4 yX4_notesInChurch yX4_notesInChurch) ∈ lw_tbl := tb3 (i := 124) rfl
theorem lat_31 : ∀ w ∈ wsL_law_r31, w ∈ lw_tbl := List.forall_mem_cons.mpr ⟨lt_31_0, List.forall_mem_cons.mpr ⟨lt_31_1, List.forall_mem_cons.mpr ⟨lt_31_2, List.forall_mem_cons.mpr ⟨lt_31_3, List.forall_mem_cons.mpr ⟨lt_31_4, List.forall_mem_cons.mpr ⟨lt_31_5, List.forall_mem_cons.mpr ⟨lt_31_6, List.forall_mem_cons.mpr ⟨lt_31_7, List.forall_mem_cons.mpr ⟨lt_31_8, List.forall_mem_cons.mpr ⟨lt_31_9, List.forall_mem_cons.mpr ⟨lt_31_10, List.forall_mem_cons.mpr ⟨lt_31_11, List.forall_mem_cons.mpr ⟨lt_31_12, List.forall_mem_cons.mpr ⟨lt_31_13, List.forall_mem_cons.mpr ⟨lt_31_14, List.forall_mem_cons.mpr ⟨lt_31_15, List.forall_mem_cons.mpr ⟨lt_31_16, List.forall_mem_cons.mpr ⟨lt_31_17, List.forall_mem_cons.mpr ⟨lt_31_18, List.forall_mem_cons.mpr ⟨lt_31_19, List.forall_mem_cons.mpr ⟨lt_31_20, List.forall_mem_cons.mpr ⟨lt_31_21, List.forall_mem_cons.mpr ⟨lt_31_22, List.forall_mem_cons.mpr ⟨lt_31_23, fun _ h => absurd h List.not_mem_nil⟩⟩⟩⟩⟩⟩⟩⟩⟩⟩⟩⟩⟩⟩⟩⟩⟩⟩⟩⟩⟩⟩⟩⟩
theorem lt_32_0 : (Cond.code yX4_notesInChurch cX4_notesInChurch 4 (some .long)) ∈ lw_tbl := tb3 (i := 125) rfl
theorem lt_32_1 : (Cond.methodLink RX10 212 yX4_howManyPlayed) ∈ lw_tbl := tb3 (i := 126) rfl
theorem lt_32_2 : (Cond.instanceMethod yX4_howManyPlayed) ∈ lw_tbl := tb3 (i := 127) rfl
theorem lt_32_3 : (Cond.selects RX4 yX4_howManyPlayed yX4_howManyPlayed) ∈ lw_tbl := tb3 (i := 128) rfl
theorem lt_32_4 : (Cond.code yX4_howManyPlayed cX4_howManyPlayed 7 (some .int)) ∈ lw_tbl := tb3 (i := 129) rfl
theorem lt_32_5 : (Cond.methodLink RX4 118 yX4_hymnNote) ∈ lw_tbl := tb3 (i := 130) rfl
theorem lt_32_6 : (Cond.instanceMethod yX4_hymnNote) ∈ lw_tbl := tb3 (i := 131) rfl
theorem lt_32_7 : (Cond.selects RX4 yX4_hymnNote yX4_hymnNote) ∈ lw_tbl := tb3 (i := 132) rfl
theorem lt_32_8 : (Cond.code yX4_hymnNote cX4_hymnNote 3 (some .int)) ∈ lw_tbl := tb3 (i := 133) rfl
theorem lt_32_9 : (Cond.static yX10_hasNote) ∈ lw_tbl := tb3 (i := 135) rfl
theorem lt_32_10 : (Cond.code yX10_hasNote cX10_hasNote 3 (some .boolean)) ∈ lw_tbl := tb3 (i := 136) rfl
theorem lt_32_11 : (Cond.methodLink RL 80 yX11_plays) ∈ lw_tbl := tb5 (i := 104) rfl
theorem lt_32_12 : (Cond.instanceMethod yX11_plays) ∈ lw_tbl := tb5 (i := 105) rfl
theorem lt_32_13 : (Cond.selects RX11 yX11_plays yX11_plays) ∈ lw_tbl := tb5 (i := 106) rfl
theorem lt_32_14 : (Cond.code yX11_plays cX11_plays 3 (some .int)) ∈ lw_tbl := tb5 (i := 107) rfl
theorem lt_32_15 : (Cond.methodLink RX11 198 yX11_isShift) ∈ lw_tbl := tb5 (i := 108) rfl
theorem lt_32_16 : (Cond.static yX11_isShift) ∈ lw_tbl := tb5 (i := 109) rfl
theorem lt_32_17 : (Cond.code yX11_isShift cX11_isShift 1 (some .boolean)) ∈ lw_tbl := tb5 (i := 110) rfl
theorem lt_32_18 : (Cond.constantLong RX11 67 (-6)) ∈ lw_tbl := tb5 (i := 111) rfl
theorem lt_32_19 : (Cond.constantLong RX11 69 (6)) ∈ lw_tbl := tb5 (i := 112) rfl
theorem lt_32_20 : (Cond.methodLink RX11 201 yX11_churchNow) ∈ lw_tbl := tb5 (i := 113) rfl
theorem lt_32_21 : (Cond.instanceMethod yX11_churchNow) ∈ lw_tbl := tb5 (i := 115) rfl
theorem lt_32_22 : (Cond.selects RX11 yX11_churchNow yX11_churchNow) ∈ lw_tbl := List.mem_append_left _ (List.mem_of_getElem? (i := 53) rfl)
theorem lt_32_23 : (Cond.code yX11_churchNow cX11_churchNow 1 (some .int)) ∈ lw_tbl := tb5 (i := 116) rfl
theorem lat_32 : ∀ w ∈ wsL_law_r32, w ∈ lw_tbl := List.forall_mem_cons.mpr ⟨lt_32_0, List.forall_mem_cons.mpr ⟨lt_32_1, List.forall_mem_cons.mpr ⟨lt_32_2, List.forall_mem_cons.mpr ⟨lt_32_3, List.forall_mem_cons.mpr ⟨lt_32_4, List.forall_mem_cons.mpr ⟨lt_32_5, List.forall_mem_cons.mpr ⟨lt_32_6, List.forall_mem_cons.mpr ⟨lt_32_7, List.forall_mem_cons.mpr ⟨lt_32_8, List.forall_mem_cons.mpr ⟨lt_32_9, List.forall_mem_cons.mpr ⟨lt_32_10, List.forall_mem_cons.mpr ⟨lt_32_11, List.forall_mem_cons.mpr ⟨lt_32_12, List.forall_mem_cons.mpr ⟨lt_32_13, List.forall_mem_cons.mpr ⟨lt_32_14, List.forall_mem_cons.mpr ⟨lt_32_15, List.forall_mem_cons.mpr ⟨lt_32_16, List.forall_mem_cons.mpr ⟨lt_32_17, List.forall_mem_cons.mpr ⟨lt_32_18, List.forall_mem_cons.mpr ⟨lt_32_19, List.forall_mem_cons.mpr ⟨lt_32_20, List.forall_mem_cons.mpr ⟨lt_32_21, List.forall_mem_cons.mpr ⟨lt_32_22, List.forall_mem_cons.mpr ⟨lt_32_23, fun _ h => absurd h List.not_mem_nil⟩⟩⟩⟩⟩⟩⟩⟩⟩⟩⟩⟩⟩⟩⟩⟩⟩⟩⟩⟩⟩⟩⟩⟩
theorem lt_33_0 : (Cond.methodLink RX11 194 yX11_playsBy) ∈ lw_tbl := tb5 (i := 117) rfl
theorem lt_33_1 : (Cond.instanceMethod yX11_playsBy) ∈ lw_tbl := tb5 (i := 119) rfl
theorem lt_33_2 : (Cond.selects RX11 yX11_playsBy yX11_playsBy) ∈ lw_tbl := List.mem_append_left _ (List.mem_of_getElem? (i := 54) rfl)
theorem lt_33_3 : (Cond.code yX11_playsBy cX11_playsBy 6 (some .int)) ∈ lw_tbl := tb5 (i := 120) rfl
theorem lt_33_4 : (Cond.methodLink RX11 187 yX11_noteOf) ∈ lw_tbl := tb5 (i := 121) rfl
theorem lt_33_5 : (Cond.instanceMethod yX11_noteOf) ∈ lw_tbl := tb5 (i := 123) rfl
theorem lt_33_6 : (Cond.selects RX11 yX11_noteOf yX11_noteOf) ∈ lw_tbl := List.mem_append_left _ (List.mem_of_getElem? (i := 55) rfl)
theorem lt_33_7 : (Cond.code yX11_noteOf cX11_noteOf 3 (some .int)) ∈ lw_tbl := tb5 (i := 124) rfl
theorem lt_33_8 : (Cond.methodLink RX11 190 yX11_isPlayed) ∈ lw_tbl := tb5 (i := 125) rfl
theorem lt_33_9 : (Cond.instanceMethod yX11_isPlayed) ∈ lw_tbl := tb5 (i := 127) rfl
theorem lt_33_10 : (Cond.selects RX11 yX11_isPlayed yX11_isPlayed) ∈ lw_tbl := List.mem_append_left _ (List.mem_of_getElem? (i := 56) rfl)
theorem lt_33_11 : (Cond.code yX11_isPlayed cX11_isPlayed 5 (some .boolean)) ∈ lw_tbl := tb5 (i := 128) rfl
theorem lt_33_12 : (Cond.methodLink RL 81 yX10_best) ∈ lw_tbl := tb3 (i := 137) rfl
theorem lt_33_13 : (Cond.instanceMethod yX10_best) ∈ lw_tbl := tb3 (i := 138) rfl
theorem lt_33_14 : (Cond.selects RX10 yX10_best yX10_best) ∈ lw_tbl := tb3 (i := 139) rfl
theorem lt_33_15 : (Cond.code yX10_best cX10_best 9 (some .int)) ∈ lw_tbl := tb3 (i := 140) rfl
theorem lt_33_16 : (Cond.methodLink RL 84 yX11_best) ∈ lw_tbl := tb5 (i := 129) rfl
theorem lt_33_17 : (Cond.instanceMethod yX11_best) ∈ lw_tbl := tb5 (i := 130) rfl
theorem lt_33_18 : (Cond.selects RX11 yX11_best yX11_best) ∈ lw_tbl := tb5 (i := 131) rfl
theorem lt_33_19 : (Cond.code yX11_best cX11_best 8 (some .int)) ∈ lw_tbl := tb5 (i := 132) rfl
theorem lt_33_20 : (Cond.methodLink RL 85 yX10_missing) ∈ lw_tbl := tb3 (i := 141) rfl
theorem lt_33_21 : (Cond.instanceMethod yX10_missing) ∈ lw_tbl := tb3 (i := 142) rfl
theorem lt_33_22 : (Cond.selects RX10 yX10_missing yX10_missing) ∈ lw_tbl := tb3 (i := 143) rfl
theorem lt_33_23 : (Cond.code yX10_missing cX10_missing 8 (some .int)) ∈ lw_tbl := tb3 (i := 144) rfl
theorem lat_33 : ∀ w ∈ wsL_law_r33, w ∈ lw_tbl := List.forall_mem_cons.mpr ⟨lt_33_0, List.forall_mem_cons.mpr ⟨lt_33_1, List.forall_mem_cons.mpr ⟨lt_33_2, List.forall_mem_cons.mpr ⟨lt_33_3, List.forall_mem_cons.mpr ⟨lt_33_4, List.forall_mem_cons.mpr ⟨lt_33_5, List.forall_mem_cons.mpr ⟨lt_33_6, List.forall_mem_cons.mpr ⟨lt_33_7, List.forall_mem_cons.mpr ⟨lt_33_8, List.forall_mem_cons.mpr ⟨lt_33_9, List.forall_mem_cons.mpr ⟨lt_33_10, List.forall_mem_cons.mpr ⟨lt_33_11, List.forall_mem_cons.mpr ⟨lt_33_12, List.forall_mem_cons.mpr ⟨lt_33_13, List.forall_mem_cons.mpr ⟨lt_33_14, List.forall_mem_cons.mpr ⟨lt_33_15, List.forall_mem_cons.mpr ⟨lt_33_16, List.forall_mem_cons.mpr ⟨lt_33_17, List.forall_mem_cons.mpr ⟨lt_33_18, List.forall_mem_cons.mpr ⟨lt_33_19, List.forall_mem_cons.mpr ⟨lt_33_20, List.forall_mem_cons.mpr ⟨lt_33_21, List.forall_mem_cons.mpr ⟨lt_33_22, List.forall_mem_cons.mpr ⟨lt_33_23, fun _ h => absurd h List.not_mem_nil⟩⟩⟩⟩⟩⟩⟩⟩⟩⟩⟩⟩⟩⟩⟩⟩⟩⟩⟩⟩⟩⟩⟩⟩
theorem lt_34_0 : (Cond.methodLink RX10 216 yX4_hymnNote) ∈ lw_tbl := tb3 (i := 145) rfl
theorem lt_34_1 : (Cond.methodLink RX10 219 yX10_hasNote) ∈ lw_tbl := tb3 (i := 146) rfl
theorem lt_34_2 : (Cond.methodLink RL 88 yX11_missing) ∈ lw_tbl := tb5 (i := 133) rfl
theorem lt_34_3 : (Cond.instanceMethod yX11_missing) ∈ lw_tbl := tb5 (i := 134) rfl
theorem lt_34_4 : (Cond.selects RX11 yX11_missing yX11_missing) ∈ lw_tbl := tb5 (i := 135) rfl
theorem lt_34_5 : (Cond.code yX11_missing cX11_missing 7 (some .int)) ∈ lw_tbl := tb5 (i := 136) rfl
theorem lt_34_6 : (Cond.methodLink RL 89 yX10_fetchAll) ∈ lw_tbl := tb3 (i := 147) rfl
theorem lt_34_7 : (Cond.instanceMethod yX10_fetchAll) ∈ lw_tbl := tb3 (i := 148) rfl
theorem lt_34_8 : (Cond.selects RX10 yX10_fetchAll yX10_fetchAll) ∈ lw_tbl := tb3 (i := 149) rfl
theorem lt_34_9 : (Cond.code yX10_fetchAll cX10_fetchAll 7 (some .int)) ∈ lw_tbl := tb3 (i := 150) rfl
theorem lt_34_10 : (Cond.methodLink RX10 223 yX4_pipesToFetch) ∈ lw_tbl := tb3 (i := 151) rfl
theorem lt_34_11 : (Cond.instanceMethod yX4_pipesToFetch) ∈ lw_tbl := tb3 (i := 152) rfl
theorem lt_34_12 : (Cond.selects RX4 yX4_pipesToFetch yX4_pipesToFetch) ∈ lw_tbl := tb3 (i := 153) rfl
theorem lt_34_13 : (Cond.code yX4_pipesToFetch cX4_pipesToFetch 9 (some .int)) ∈ lw_tbl := tb3 (i := 154) rfl
theorem lt_34_14 : (Cond.methodLink RX4 130 yX4_firstOfNote) ∈ lw_tbl := tb3 (i := 155) rfl
theorem lt_34_15 : (Cond.instanceMethod yX4_firstOfNote) ∈ lw_tbl := tb3 (i := 157) rfl
theorem lt_34_16 : (Cond.selects RX4 yX4_firstOfNote yX4_firstOfNote) ∈ lw_tbl := List.mem_append_left _ (List.mem_of_getElem? (i := 19) rfl)
theorem lt_34_17 : (Cond.code yX4_firstOfNote cX4_firstOfNote 3 (some .int)) ∈ lw_tbl := tb3 (i := 158) rfl
theorem lt_34_18 : (Cond.methodLink RX10 226 yX10_isFewer) ∈ lw_tbl := tb3 (i := 159) rfl
theorem lt_34_19 : (Cond.static yX10_isFewer) ∈ lw_tbl := tb3 (i := 160) rfl
theorem lt_34_20 : (Cond.code yX10_isFewer cX10_isFewer 4 (some .boolean)) ∈ lw_tbl := tb3 (i := 161) rfl
theorem lt_34_21 : (Cond.methodLink RX10 322 yJ6_bitCount_0f7a4) ∈ lw_tbl := tb3 (i := 162) rfl
theorem lt_34_22 : (Cond.static yJ6_bitCount_0f7a4) ∈ lw_tbl := tb3 (i := 163) rfl
theorem lt_34_23 : (Cond.initialized RJ6) ∈ lw_tbl := tb1 (i := 19) rfl
theorem lat_34 : ∀ w ∈ wsL_law_r34, w ∈ lw_tbl := List.forall_mem_cons.mpr ⟨lt_34_0, List.forall_mem_cons.mpr ⟨lt_34_1, List.forall_mem_cons.mpr ⟨lt_34_2, List.forall_mem_cons.mpr ⟨lt_34_3, List.forall_mem_cons.mpr ⟨lt_34_4, List.forall_mem_cons.mpr ⟨lt_34_5, List.forall_mem_cons.mpr ⟨lt_34_6, List.forall_mem_cons.mpr ⟨lt_34_7, List.forall_mem_cons.mpr ⟨lt_34_8, List.forall_mem_cons.mpr ⟨lt_34_9, List.forall_mem_cons.mpr ⟨lt_34_10, List.forall_mem_cons.mpr ⟨lt_34_11, List.forall_mem_cons.mpr ⟨lt_34_12, List.forall_mem_cons.mpr ⟨lt_34_13, List.forall_mem_cons.mpr ⟨lt_34_14, List.forall_mem_cons.mpr ⟨lt_34_15, List.forall_mem_cons.mpr ⟨lt_34_16, List.forall_mem_cons.mpr ⟨lt_34_17, List.forall_mem_cons.mpr ⟨lt_34_18, List.forall_mem_cons.mpr ⟨lt_34_19, List.forall_mem_cons.mpr ⟨lt_34_20, List.forall_mem_cons.mpr ⟨lt_34_21, List.forall_mem_cons.mpr ⟨lt_34_22, List.forall_mem_cons.mpr ⟨lt_34_23, fun _ h => absurd h List.not_mem_nil⟩⟩⟩⟩⟩⟩⟩⟩⟩⟩⟩⟩⟩⟩⟩⟩⟩⟩⟩⟩⟩⟩⟩⟩
theorem lt_35_0 : (Cond.code yJ6_bitCount_0f7a4 cJ6_bitCount_0f7a4 1 (some .int)) ∈ lw_tbl := tb3 (i := 164) rfl
theorem lt_35_1 : (Cond.constant RJ6 265 (1431655765)) ∈ lw_tbl := tb3 (i := 165) rfl
theorem lt_35_2 : (Cond.constant RJ6 266 (858993459)) ∈ lw_tbl := tb3 (i := 166) rfl
theorem lt_35_3 : (Cond.constant RJ6 267 (252645135)) ∈ lw_tbl := tb3 (i := 167) rfl
theorem lt_35_4 : (Cond.methodLink RL 92 yX11_fetchAll) ∈ lw_tbl := tb5 (i := 137) rfl
theorem lt_35_5 : (Cond.instanceMethod yX11_fetchAll) ∈ lw_tbl := tb5 (i := 138) rfl
theorem lt_35_6 : (Cond.selects RX11 yX11_fetchAll yX11_fetchAll) ∈ lw_tbl := tb5 (i := 139) rfl
theorem lt_35_7 : (Cond.code yX11_fetchAll cX11_fetchAll 6 (some .int)) ∈ lw_tbl := tb5 (i := 140) rfl
theorem lt_35_8 : (Cond.methodLink RX11 204 yX11_isWhole) ∈ lw_tbl := tb5 (i := 141) rfl
theorem lt_35_9 : (Cond.instanceMethod yX11_isWhole) ∈ lw_tbl := tb5 (i := 143) rfl
theorem lt_35_10 : (Cond.selects RX11 yX11_isWhole yX11_isWhole) ∈ lw_tbl := List.mem_append_left _ (List.mem_of_getElem? (i := 57) rfl)
theorem lt_35_11 : (Cond.code yX11_isWhole cX11_isWhole 5 (some .boolean)) ∈ lw_tbl := tb5 (i := 144) rfl
theorem lt_35_12 : (Cond.methodLink RL 93 yX10_falls) ∈ lw_tbl := tb3 (i := 168) rfl
theorem lt_35_13 : (Cond.instanceMethod yX10_falls) ∈ lw_tbl := tb3 (i := 169) rfl
theorem lt_35_14 : (Cond.selects RX10 yX10_falls yX10_falls) ∈ lw_tbl := tb3 (i := 170) rfl
theorem lt_35_15 : (Cond.code yX10_falls cX10_falls 3 (some .int)) ∈ lw_tbl := tb3 (i := 171) rfl
theorem lt_35_16 : (Cond.methodLink RX10 229 yX4_canBeWhole) ∈ lw_tbl := tb3 (i := 172) rfl
theorem lt_35_17 : (Cond.instanceMethod yX4_canBeWhole) ∈ lw_tbl := tb3 (i := 173) rfl
theorem lt_35_18 : (Cond.selects RX4 yX4_canBeWhole yX4_canBeWhole) ∈ lw_tbl := tb3 (i := 174) rfl
theorem lt_35_19 : (Cond.code yX4_canBeWhole cX4_canBeWhole 5 (some .boolean)) ∈ lw_tbl := tb3 (i := 175) rfl
theorem lt_35_20 : (Cond.methodLink RX4 126 yX4_howManyPlayed) ∈ lw_tbl := tb3 (i := 176) rfl
theorem lt_35_21 : (Cond.methodLink RL 96 yX11_falls) ∈ lw_tbl := tb5 (i := 145) rfl
theorem lt_35_22 : (Cond.instanceMethod yX11_falls) ∈ lw_tbl := tb5 (i := 146) rfl
theorem lt_35_23 : (Cond.selects RX11 yX11_falls yX11_falls) ∈ lw_tbl := tb5 (i := 147) rfl
theorem lat_35 : ∀ w ∈ wsL_law_r35, w ∈ lw_tbl := List.forall_mem_cons.mpr ⟨lt_35_0, List.forall_mem_cons.mpr ⟨lt_35_1, List.forall_mem_cons.mpr ⟨lt_35_2, List.forall_mem_cons.mpr ⟨lt_35_3, List.forall_mem_cons.mpr ⟨lt_35_4, List.forall_mem_cons.mpr ⟨lt_35_5, List.forall_mem_cons.mpr ⟨lt_35_6, List.forall_mem_cons.mpr ⟨lt_35_7, List.forall_mem_cons.mpr ⟨lt_35_8, List.forall_mem_cons.mpr ⟨lt_35_9, List.forall_mem_cons.mpr ⟨lt_35_10, List.forall_mem_cons.mpr ⟨lt_35_11, List.forall_mem_cons.mpr ⟨lt_35_12, List.forall_mem_cons.mpr ⟨lt_35_13, List.forall_mem_cons.mpr ⟨lt_35_14, List.forall_mem_cons.mpr ⟨lt_35_15, List.forall_mem_cons.mpr ⟨lt_35_16, List.forall_mem_cons.mpr ⟨lt_35_17, List.forall_mem_cons.mpr ⟨lt_35_18, List.forall_mem_cons.mpr ⟨lt_35_19, List.forall_mem_cons.mpr ⟨lt_35_20, List.forall_mem_cons.mpr ⟨lt_35_21, List.forall_mem_cons.mpr ⟨lt_35_22, List.forall_mem_cons.mpr ⟨lt_35_23, fun _ h => absurd h List.not_mem_nil⟩⟩⟩⟩⟩⟩⟩⟩⟩⟩⟩⟩⟩⟩⟩⟩⟩⟩⟩⟩⟩⟩⟩⟩
theorem lt_36_0 : (Cond.code yX11_falls cX11_falls 3 (some .int)) ∈ lw_tbl := tb5 (i := 148) rfl
theorem lt_36_1 : (Cond.methodLink RL 97 yX10_walk) ∈ lw_tbl := tb3 (i := 177) rfl
theorem lt_36_2 : (Cond.instanceMethod yX10_walk) ∈ lw_tbl := tb3 (i := 178) rfl
theorem lt_36_3 : (Cond.selects RX10 yX10_walk yX10_walk) ∈ lw_tbl := tb3 (i := 179) rfl
theorem lt_36_4 : (Cond.code yX10_walk cX10_walk 3 (some .int)) ∈ lw_tbl := tb3 (i := 180) rfl
theorem lt_36_5 : (Cond.fieldLink RX10 240 "GonePipes$Walk" "length" "I") ∈ lw_tbl := tb1 (i := 193) rfl
theorem lt_36_6 : (Cond.fieldLink RX10 243 "GonePipes$Walk" "first" "I") ∈ lw_tbl := tb1 (i := 195) rfl
theorem lt_36_7 : (Cond.methodLink RX10 233 yX4_placesOf) ∈ lw_tbl := tb3 (i := 181) rfl
theorem lt_36_8 : (Cond.instanceMethod yX4_placesOf) ∈ lw_tbl := tb3 (i := 182) rfl
theorem lt_36_9 : (Cond.selects RX4 yX4_placesOf yX4_placesOf) ∈ lw_tbl := tb3 (i := 183) rfl
theorem lt_36_10 : (Cond.code yX4_placesOf cX4_placesOf 4 (some .int)) ∈ lw_tbl := tb3 (i := 184) rfl
theorem lt_36_11 : (Cond.methodLink RX10 236 yX9_find) ∈ lw_tbl := tb3 (i := 185) rfl
theorem lt_36_12 : (Cond.instanceMethod yX9_find) ∈ lw_tbl := tb3 (i := 186) rfl
theorem lt_36_13 : (Cond.selects RX9 yX9_find yX9_find) ∈ lw_tbl := tb3 (i := 187) rfl
theorem lt_36_14 : (Cond.code yX9_find cX9_find 5 none) ∈ lw_tbl := tb3 (i := 188) rfl
theorem lt_36_15 : (Cond.fieldLink RX9 19 "GonePipes$Walk" "length" "I") ∈ lw_tbl := tb1 (i := 192) rfl
theorem lt_36_16 : (Cond.fieldLink RX9 23 "GonePipes$Walk" "first" "I") ∈ lw_tbl := tb1 (i := 194) rfl
theorem lt_36_17 : (Cond.constant RX9 26 (1000000)) ∈ lw_tbl := tb3 (i := 198) rfl
theorem lt_36_18 : (Cond.fieldLink RX9 27 "GonePipes$Organ" "places" "I") ∈ lw_tbl := tb1 (i := 99) rfl
theorem lt_36_19 : (Cond.methodLink RX9 15 yX9_fill) ∈ lw_tbl := tb3 (i := 189) rfl
theorem lt_36_20 : (Cond.instanceMethod yX9_fill) ∈ lw_tbl := tb3 (i := 191) rfl
theorem lt_36_21 : (Cond.selects RX9 yX9_fill yX9_fill) ∈ lw_tbl := List.mem_append_left _ (List.mem_of_getElem? (i := 20) rfl)
theorem lt_36_22 : (Cond.code yX9_fill cX9_fill 5 none) ∈ lw_tbl := tb3 (i := 192) rfl
theorem lt_36_23 : (Cond.methodLink RX9 36 yX9_leastFrom) ∈ lw_tbl := tb3 (i := 193) rfl
theorem lat_36 : ∀ w ∈ wsL_law_r36, w ∈ lw_tbl := List.forall_mem_cons.mpr ⟨lt_36_0, List.forall_mem_cons.mpr ⟨lt_36_1, List.forall_mem_cons.mpr ⟨lt_36_2, List.forall_mem_cons.mpr ⟨lt_36_3, List.forall_mem_cons.mpr ⟨lt_36_4, List.forall_mem_cons.mpr ⟨lt_36_5, List.forall_mem_cons.mpr ⟨lt_36_6, List.forall_mem_cons.mpr ⟨lt_36_7, List.forall_mem_cons.mpr ⟨lt_36_8, List.forall_mem_cons.mpr ⟨lt_36_9, List.forall_mem_cons.mpr ⟨lt_36_10, List.forall_mem_cons.mpr ⟨lt_36_11, List.forall_mem_cons.mpr ⟨lt_36_12, List.forall_mem_cons.mpr ⟨lt_36_13, List.forall_mem_cons.mpr ⟨lt_36_14, List.forall_mem_cons.mpr ⟨lt_36_15, List.forall_mem_cons.mpr ⟨lt_36_16, List.forall_mem_cons.mpr ⟨lt_36_17, List.forall_mem_cons.mpr ⟨lt_36_18, List.forall_mem_cons.mpr ⟨lt_36_19, List.forall_mem_cons.mpr ⟨lt_36_20, List.forall_mem_cons.mpr ⟨lt_36_21, List.forall_mem_cons.mpr ⟨lt_36_22, List.forall_mem_cons.mpr ⟨lt_36_23, fun _ h => absurd h List.not_mem_nil⟩⟩⟩⟩⟩⟩⟩⟩⟩⟩⟩⟩⟩⟩⟩⟩⟩⟩⟩⟩⟩⟩⟩⟩
theorem lt_37_0 : (Cond.instanceMethod yX9_leastFrom) ∈ lw_tbl := tb3 (i := 195) rfl
theorem lt_37_1 : (Cond.selects RX9 yX9_leastFrom yX9_leastFrom) ∈ lw_tbl := List.mem_append_left _ (List.mem_of_getElem? (i := 21) rfl)
theorem lt_37_2 : (Cond.code yX9_leastFrom cX9_leastFrom 7 (some .int)) ∈ lw_tbl := tb3 (i := 196) rfl
theorem lt_37_3 : (Cond.methodLink RX9 40 Lib.Math.min.name) ∈ lw_tbl := tb3 (i := 199) rfl
theorem lt_37_4 : (Cond.static Lib.Math.min.name) ∈ lw_tbl := tb3 (i := 200) rfl
theorem lt_37_5 : (Cond.code Lib.Math.min.name Lib.Math.min.code 2 (some .int)) ∈ lw_tbl := tb3 (i := 201) rfl
theorem lt_37_6 : (Cond.methodLink RX9 32 yX4_howFar) ∈ lw_tbl := tb3 (i := 197) rfl
theorem lt_37_7 : (Cond.methodLink RL 100 yX11_walk) ∈ lw_tbl := tb5 (i := 149) rfl
theorem lt_37_8 : (Cond.instanceMethod yX11_walk) ∈ lw_tbl := tb5 (i := 150) rfl
theorem lt_37_9 : (Cond.selects RX11 yX11_walk yX11_walk) ∈ lw_tbl := tb5 (i := 151) rfl
theorem lt_37_10 : (Cond.code yX11_walk cX11_walk 6 (some .int)) ∈ lw_tbl := tb5 (i := 152) rfl
theorem lt_37_11 : (Cond.fieldLink RX11 214 "GonePipesModel" "shortest" "I") ∈ lw_tbl := tb4 (i := 110) rfl
theorem lt_37_12 : (Cond.fieldLink RX11 217 "GonePipesModel" "goFirst" "I") ∈ lw_tbl := tb4 (i := 111) rfl
theorem lt_37_13 : (Cond.methodLink RX11 226 yX11_layWalk) ∈ lw_tbl := tb5 (i := 153) rfl
theorem lt_37_14 : (Cond.instanceMethod yX11_layWalk) ∈ lw_tbl := tb5 (i := 155) rfl
theorem lt_37_15 : (Cond.selects RX11 yX11_layWalk yX11_layWalk) ∈ lw_tbl := List.mem_append_left _ (List.mem_of_getElem? (i := 58) rfl)
theorem lt_37_16 : (Cond.code yX11_layWalk cX11_layWalk 5 none) ∈ lw_tbl := tb5 (i := 156) rfl
theorem lt_37_17 : (Cond.constant RX11 213 (1000000)) ∈ lw_tbl := tb5 (i := 157) rfl
theorem lt_37_18 : (Cond.methodLink RX11 220 yX11_longOf) ∈ lw_tbl := tb5 (i := 158) rfl
theorem lt_37_19 : (Cond.instanceMethod yX11_longOf) ∈ lw_tbl := tb5 (i := 160) rfl
theorem lt_37_20 : (Cond.selects RX11 yX11_longOf yX11_longOf) ∈ lw_tbl := List.mem_append_left _ (List.mem_of_getElem? (i := 59) rfl)
theorem lt_37_21 : (Cond.code yX11_longOf cX11_longOf 4 (some .int)) ∈ lw_tbl := tb5 (i := 161) rfl
theorem lt_37_22 : (Cond.methodLink RX11 210 yX11_between) ∈ lw_tbl := tb5 (i := 162) rfl
theorem lt_37_23 : (Cond.instanceMethod yX11_between) ∈ lw_tbl := tb5 (i := 164) rfl
theorem lat_37 : ∀ w ∈ wsL_law_r37, w ∈ lw_tbl := List.forall_mem_cons.mpr ⟨lt_37_0, List.forall_mem_cons.mpr ⟨lt_37_1, List.forall_mem_cons.mpr ⟨lt_37_2, List.forall_mem_cons.mpr ⟨lt_37_3, List.forall_mem_cons.mpr ⟨lt_37_4, List.forall_mem_cons.mpr ⟨lt_37_5, List.forall_mem_cons.mpr ⟨lt_37_6, List.forall_mem_cons.mpr ⟨lt_37_7, List.forall_mem_cons.mpr ⟨lt_37_8, List.forall_mem_cons.mpr ⟨lt_37_9, List.forall_mem_cons.mpr ⟨lt_37_10, List.forall_mem_cons.mpr ⟨lt_37_11, List.forall_mem_cons.mpr ⟨lt_37_12, List.forall_mem_cons.mpr ⟨lt_37_13, List.forall_mem_cons.mpr ⟨lt_37_14, List.forall_mem_cons.mpr ⟨lt_37_15, List.forall_mem_cons.mpr ⟨lt_37_16, List.forall_mem_cons.mpr ⟨lt_37_17, List.forall_mem_cons.mpr ⟨lt_37_18, List.forall_mem_cons.mpr ⟨lt_37_19, List.forall_mem_cons.mpr ⟨lt_37_20, List.forall_mem_cons.mpr ⟨lt_37_21, List.forall_mem_cons.mpr ⟨lt_37_22, List.forall_mem_cons.mpr ⟨lt_37_23, fun _ h => absurd h List.not_mem_nil⟩⟩⟩⟩⟩⟩⟩⟩⟩⟩⟩⟩⟩⟩⟩⟩⟩⟩⟩⟩⟩⟩⟩⟩
theorem lt_38_0 : (Cond.selects RX11 yX11_between yX11_between) ∈ lw_tbl := List.mem_append_left _ (List.mem_of_getElem? (i := 60) rfl)
theorem lt_38_1 : (Cond.code yX11_between cX11_between 3 (some .int)) ∈ lw_tbl := tb5 (i := 165) rfl
theorem lt_38_2 : (Cond.methodLink RX11 207 yX11_apart) ∈ lw_tbl := tb5 (i := 166) rfl
theorem lt_38_3 : (Cond.static yX11_apart) ∈ lw_tbl := tb5 (i := 167) rfl
theorem lt_38_4 : (Cond.code yX11_apart cX11_apart 2 (some .int)) ∈ lw_tbl := tb5 (i := 168) rfl
theorem lt_38_5 : (Cond.methodLink RX11 223 yX11_nextOrder) ∈ lw_tbl := tb5 (i := 169) rfl
theorem lt_38_6 : (Cond.instanceMethod yX11_nextOrder) ∈ lw_tbl := tb5 (i := 171) rfl
theorem lt_38_7 : (Cond.selects RX11 yX11_nextOrder yX11_nextOrder) ∈ lw_tbl := List.mem_append_left _ (List.mem_of_getElem? (i := 61) rfl)
theorem lt_38_8 : (Cond.code yX11_nextOrder cX11_nextOrder 8 (some .boolean)) ∈ lw_tbl := tb5 (i := 172) rfl
theorem lt_38_9 : (Cond.methodLink RL 101 yX10_reading) ∈ lw_tbl := tb3 (i := 202) rfl
theorem lt_38_10 : (Cond.instanceMethod yX10_reading) ∈ lw_tbl := tb3 (i := 203) rfl
theorem lt_38_11 : (Cond.selects RX10 yX10_reading yX10_reading) ∈ lw_tbl := tb3 (i := 204) rfl
theorem lt_38_12 : (Cond.code yX10_reading cX10_reading 5 (some .int)) ∈ lw_tbl := tb3 (i := 205) rfl
theorem lt_38_13 : (Cond.fieldLink RX10 250 "GonePipes$Organ" "readings" "I") ∈ lw_tbl := tb1 (i := 106) rfl
theorem lt_38_14 : (Cond.methodLink RX10 246 yX4_addReading) ∈ lw_tbl := tb3 (i := 206) rfl
theorem lt_38_15 : (Cond.instanceMethod yX4_addReading) ∈ lw_tbl := tb3 (i := 207) rfl
theorem lt_38_16 : (Cond.selects RX4 yX4_addReading yX4_addReading) ∈ lw_tbl := tb3 (i := 208) rfl
theorem lt_38_17 : (Cond.code yX4_addReading cX4_addReading 6 (some .boolean)) ∈ lw_tbl := tb3 (i := 209) rfl
theorem lt_38_18 : (Cond.methodLink RL 105 yX11_reading) ∈ lw_tbl := tb5 (i := 173) rfl
theorem lt_38_19 : (Cond.instanceMethod yX11_reading) ∈ lw_tbl := tb5 (i := 174) rfl
theorem lt_38_20 : (Cond.selects RX11 yX11_reading yX11_reading) ∈ lw_tbl := tb5 (i := 175) rfl
theorem lt_38_21 : (Cond.code yX11_reading cX11_reading 6 (some .int)) ∈ lw_tbl := tb5 (i := 176) rfl
theorem lt_38_22 : (Cond.methodLink RL 106 yX10_forget) ∈ lw_tbl := tb3 (i := 210) rfl
theorem lt_38_23 : (Cond.instanceMethod yX10_forget) ∈ lw_tbl := tb3 (i := 211) rfl
theorem lat_38 : ∀ w ∈ wsL_law_r38, w ∈ lw_tbl := List.forall_mem_cons.mpr ⟨lt_38_0, List.forall_mem_cons.mpr ⟨lt_38_1, List.forall_mem_cons.mpr ⟨lt_38_2, List.forall_mem_cons.mpr ⟨lt_38_3, List.forall_mem_cons.mpr ⟨lt_38_4, List.forall_mem_cons.mpr ⟨lt_38_5, List.forall_mem_cons.mpr ⟨lt_38_6, List.forall_mem_cons.mpr ⟨lt_38_7, List.forall_mem_cons.mpr ⟨lt_38_8, List.forall_mem_cons.mpr ⟨lt_38_9, List.forall_mem_cons.mpr ⟨lt_38_10, List.forall_mem_cons.mpr ⟨lt_38_11, List.forall_mem_cons.mpr ⟨lt_38_12, List.forall_mem_cons.mpr ⟨lt_38_13, List.forall_mem_cons.mpr ⟨lt_38_14, List.forall_mem_cons.mpr ⟨lt_38_15, List.forall_mem_cons.mpr ⟨lt_38_16, List.forall_mem_cons.mpr ⟨lt_38_17, List.forall_mem_cons.mpr ⟨lt_38_18, List.forall_mem_cons.mpr ⟨lt_38_19, List.forall_mem_cons.mpr ⟨lt_38_20, List.forall_mem_cons.mpr ⟨lt_38_21, List.forall_mem_cons.mpr ⟨lt_38_22, List.forall_mem_cons.mpr ⟨lt_38_23, fun _ h => absurd h List.not_mem_nil⟩⟩⟩⟩⟩⟩⟩⟩⟩⟩⟩⟩⟩⟩⟩⟩⟩⟩⟩⟩⟩⟩⟩⟩
theorem lt_39_0 : (Cond.selects RX10 yX10_forget yX10_forget) ∈ lw_tbl := tb3 (i := 212) rfl
theorem lt_39_1 : (Cond.code yX10_forget cX10_forget 2 (some .int)) ∈ lw_tbl := tb3 (i := 213) rfl
theorem lt_39_2 : (Cond.methodLink RL 109 yX11_forget) ∈ lw_tbl := tb5 (i := 177) rfl
theorem lt_39_3 : (Cond.instanceMethod yX11_forget) ∈ lw_tbl := tb5 (i := 178) rfl
theorem lt_39_4 : (Cond.selects RX11 yX11_forget yX11_forget) ∈ lw_tbl := tb5 (i := 179) rfl
theorem lt_39_5 : (Cond.code yX11_forget cX11_forget 2 (some .int)) ∈ lw_tbl := tb5 (i := 180) rfl
theorem lt_39_6 : (Cond.methodLink RL 110 yX10_may) ∈ lw_tbl := tb3 (i := 214) rfl
theorem lt_39_7 : (Cond.instanceMethod yX10_may) ∈ lw_tbl := tb3 (i := 215) rfl
theorem lt_39_8 : (Cond.selects RX10 yX10_may yX10_may) ∈ lw_tbl := tb3 (i := 216) rfl
theorem lt_39_9 : (Cond.code yX10_may cX10_may 2 (some .int)) ∈ lw_tbl := tb3 (i := 217) rfl
theorem lt_39_10 : (Cond.methodLink RX10 253 yX10_kindsThatMayBe) ∈ lw_tbl := tb3 (i := 218) rfl
theorem lt_39_11 : (Cond.instanceMethod yX10_kindsThatMayBe) ∈ lw_tbl := tb3 (i := 220) rfl
theorem lt_39_12 : (Cond.selects RX10 yX10_kindsThatMayBe yX10_kindsThatMayBe) ∈ lw_tbl := List.mem_append_left _ (List.mem_of_getElem? (i := 22) rfl)
theorem lt_39_13 : (Cond.code yX10_kindsThatMayBe cX10_kindsThatMayBe 4 (some .int)) ∈ lw_tbl := tb3 (i := 221) rfl
theorem lt_39_14 : (Cond.methodLink RX10 311 yX10_areReadingsSo) ∈ lw_tbl := tb3 (i := 222) rfl
theorem lt_39_15 : (Cond.instanceMethod yX10_areReadingsSo) ∈ lw_tbl := tb3 (i := 224) rfl
theorem lt_39_16 : (Cond.selects RX10 yX10_areReadingsSo yX10_areReadingsSo) ∈ lw_tbl := List.mem_append_left _ (List.mem_of_getElem? (i := 23) rfl)
theorem lt_39_17 : (Cond.code yX10_areReadingsSo cX10_areReadingsSo 3 (some .boolean)) ∈ lw_tbl := tb3 (i := 225) rfl
theorem lt_39_18 : (Cond.methodLink RX10 315 yX4_lastReadingHour) ∈ lw_tbl := tb3 (i := 226) rfl
theorem lt_39_19 : (Cond.instanceMethod yX4_lastReadingHour) ∈ lw_tbl := tb3 (i := 227) rfl
theorem lt_39_20 : (Cond.selects RX4 yX4_lastReadingHour yX4_lastReadingHour) ∈ lw_tbl := tb3 (i := 228) rfl
theorem lt_39_21 : (Cond.code yX4_lastReadingHour cX4_lastReadingHour 3 (some .int)) ∈ lw_tbl := tb3 (i := 229) rfl
theorem lt_39_22 : (Cond.methodLink RX4 133 Lib.Math.max.name) ∈ lw_tbl := tb3 (i := 230) rfl
theorem lt_39_23 : (Cond.static Lib.Math.max.name) ∈ lw_tbl := tb3 (i := 231) rfl
theorem lat_39 : ∀ w ∈ wsL_law_r39, w ∈ lw_tbl := List.forall_mem_cons.mpr ⟨lt_39_0, List.forall_mem_cons.mpr ⟨lt_39_1, List.forall_mem_cons.mpr ⟨lt_39_2, List.forall_mem_cons.mpr ⟨lt_39_3, List.forall_mem_cons.mpr ⟨lt_39_4, List.forall_mem_cons.mpr ⟨lt_39_5, List.forall_mem_cons.mpr ⟨lt_39_6, List.forall_mem_cons.mpr ⟨lt_39_7, List.forall_mem_cons.mpr ⟨lt_39_8, List.forall_mem_cons.mpr ⟨lt_39_9, List.forall_mem_cons.mpr ⟨lt_39_10, List.forall_mem_cons.mpr ⟨lt_39_11, List.forall_mem_cons.mpr ⟨lt_39_12, List.forall_mem_cons.mpr ⟨lt_39_13, List.forall_mem_cons.mpr ⟨lt_39_14, List.forall_mem_cons.mpr ⟨lt_39_15, List.forall_mem_cons.mpr ⟨lt_39_16, List.forall_mem_cons.mpr ⟨lt_39_17, List.forall_mem_cons.mpr ⟨lt_39_18, List.forall_mem_cons.mpr ⟨lt_39_19, List.forall_mem_cons.mpr ⟨lt_39_20, List.forall_mem_cons.mpr ⟨lt_39_21, List.forall_mem_cons.mpr ⟨lt_39_22, List.forall_mem_cons.mpr ⟨lt_39_23, fun _ h => absurd h List.not_mem_nil⟩⟩⟩⟩⟩⟩⟩⟩⟩⟩⟩⟩⟩⟩⟩⟩⟩⟩⟩⟩⟩⟩⟩⟩
theorem lt_40_0 : (Cond.code Lib.Math.max.name Lib.Math.max.code 2 (some .int)) ∈ lw_tbl := tb3 (i := 232) rfl
theorem lt_40_1 : (Cond.methodLink RX10 318 yX4_agreesWith) ∈ lw_tbl := tb3 (i := 233) rfl
theorem lt_40_2 : (Cond.instanceMethod yX4_agreesWith) ∈ lw_tbl := tb3 (i := 234) rfl
theorem lt_40_3 : (Cond.selects RX4 yX4_agreesWith yX4_agreesWith) ∈ lw_tbl := tb3 (i := 235) rfl
theorem lt_40_4 : (Cond.code yX4_agreesWith cX4_agreesWith 6 (some .boolean)) ∈ lw_tbl := tb3 (i := 236) rfl
theorem lt_40_5 : (Cond.methodLink RX4 136 yX4_isAt) ∈ lw_tbl := tb3 (i := 237) rfl
theorem lt_40_6 : (Cond.instanceMethod yX4_isAt) ∈ lw_tbl := tb3 (i := 239) rfl
theorem lt_40_7 : (Cond.selects RX4 yX4_isAt yX4_isAt) ∈ lw_tbl := List.mem_append_left _ (List.mem_of_getElem? (i := 24) rfl)
theorem lt_40_8 : (Cond.code yX4_isAt cX4_isAt 3 (some .boolean)) ∈ lw_tbl := tb4 (i := 0) rfl
theorem lt_40_9 : (Cond.methodLink RL 113 yX11_may) ∈ lw_tbl := tb5 (i := 181) rfl
theorem lt_40_10 : (Cond.instanceMethod yX11_may) ∈ lw_tbl := tb5 (i := 182) rfl
theorem lt_40_11 : (Cond.selects RX11 yX11_may yX11_may) ∈ lw_tbl := tb5 (i := 183) rfl
theorem lt_40_12 : (Cond.code yX11_may cX11_may 2 (some .int)) ∈ lw_tbl := tb5 (i := 184) rfl
theorem lt_40_13 : (Cond.methodLink RX11 235 yX11_kindsOf) ∈ lw_tbl := tb5 (i := 185) rfl
theorem lt_40_14 : (Cond.instanceMethod yX11_kindsOf) ∈ lw_tbl := tb5 (i := 187) rfl
theorem lt_40_15 : (Cond.selects RX11 yX11_kindsOf yX11_kindsOf) ∈ lw_tbl := List.mem_append_left _ (List.mem_of_getElem? (i := 62) rfl)
theorem lt_40_16 : (Cond.code yX11_kindsOf cX11_kindsOf 4 (some .int)) ∈ lw_tbl := tb5 (i := 188) rfl
theorem lt_40_17 : (Cond.methodLink RX11 232 yX11_mayBe) ∈ lw_tbl := tb5 (i := 189) rfl
theorem lt_40_18 : (Cond.instanceMethod yX11_mayBe) ∈ lw_tbl := tb5 (i := 191) rfl
theorem lt_40_19 : (Cond.selects RX11 yX11_mayBe yX11_mayBe) ∈ lw_tbl := List.mem_append_left _ (List.mem_of_getElem? (i := 63) rfl)
theorem lt_40_20 : (Cond.code yX11_mayBe cX11_mayBe 6 (some .boolean)) ∈ lw_tbl := tb5 (i := 192) rfl
theorem lt_40_21 : (Cond.methodLink RX11 229 yX11_isReadSo) ∈ lw_tbl := tb5 (i := 193) rfl
theorem lt_40_22 : (Cond.instanceMethod yX11_isReadSo) ∈ lw_tbl := tb5 (i := 195) rfl
theorem lt_40_23 : (Cond.selects RX11 yX11_isReadSo yX11_isReadSo) ∈ lw_tbl := List.mem_append_left _ (List.mem_of_getElem? (i := 64) rfl)
theorem lat_40 : ∀ w ∈ wsL_law_r40, w ∈ lw_tbl := List.forall_mem_cons.mpr ⟨lt_40_0, List.forall_mem_cons.mpr ⟨lt_40_1, List.forall_mem_cons.mpr ⟨lt_40_2, List.forall_mem_cons.mpr ⟨lt_40_3, List.forall_mem_cons.mpr ⟨lt_40_4, List.forall_mem_cons.mpr ⟨lt_40_5, List.forall_mem_cons.mpr ⟨lt_40_6, List.forall_mem_cons.mpr ⟨lt_40_7, List.forall_mem_cons.mpr ⟨lt_40_8, List.forall_mem_cons.mpr ⟨lt_40_9, List.forall_mem_cons.mpr ⟨lt_40_10, List.forall_mem_cons.mpr ⟨lt_40_11, List.forall_mem_cons.mpr ⟨lt_40_12, List.forall_mem_cons.mpr ⟨lt_40_13, List.forall_mem_cons.mpr ⟨lt_40_14, List.forall_mem_cons.mpr ⟨lt_40_15, List.forall_mem_cons.mpr ⟨lt_40_16, List.forall_mem_cons.mpr ⟨lt_40_17, List.forall_mem_cons.mpr ⟨lt_40_18, List.forall_mem_cons.mpr ⟨lt_40_19, List.forall_mem_cons.mpr ⟨lt_40_20, List.forall_mem_cons.mpr ⟨lt_40_21, List.forall_mem_cons.mpr ⟨lt_40_22, List.forall_mem_cons.mpr ⟨lt_40_23, fun _ h => absurd h List.not_mem_nil⟩⟩⟩⟩⟩⟩⟩⟩⟩⟩⟩⟩⟩⟩⟩⟩⟩⟩⟩⟩⟩⟩⟩⟩
