/-! METHODS AND THEIR LINKS, by program -/
theorem mi_X0_init : gMi yX0_init cX0_init 1 none 0 := ⟨in_X0, gk1 50 rfl rfl, ⟨by decide, by decide, by decide +kernel⟩, by decide⟩
theorem im_X0_init : Cond.instanceMethod yX0_init ∈ gtb := gk1 49 rfl rfl
theorem mi_X0_clear : gMi yX0_clear cX0_clear 2 none 0 := ⟨in_X0, gk2 158 rfl rfl, ⟨by decide, by decide, by decide +kernel⟩, by decide⟩
theorem im_X0_clear : Cond.instanceMethod yX0_clear ∈ gtb := gk2 156 rfl rfl
theorem se_X0_clear : Cond.selects RX0 yX0_clear yX0_clear ∈ gtb := gk2 157 rfl rfl
theorem mi_X0_cells : gMi yX0_cells cX0_cells 1 (some .int) 0 := ⟨in_X0, gk3 146 rfl rfl, ⟨by decide, by decide, by decide +kernel⟩, by decide⟩
theorem im_X0_cells : Cond.instanceMethod yX0_cells ∈ gtb := gk3 144 rfl rfl
theorem se_X0_cells : Cond.selects RX0 yX0_cells yX0_cells ∈ gtb := gk3 145 rfl rfl
theorem mi_X0_allCells : gMi yX0_allCells cX0_allCells 1 (some .int) 0 := ⟨in_X0, gk4 172 rfl rfl, ⟨by decide, by decide, by decide +kernel⟩, by decide⟩
theorem im_X0_allCells : Cond.instanceMethod yX0_allCells ∈ gtb := gk4 170 rfl rfl
theorem se_X0_allCells : Cond.selects RX0 yX0_allCells yX0_allCells ∈ gtb := gk4 171 rfl rfl
theorem mi_X0_darkOf : gMi yX0_darkOf cX0_darkOf 2 (some .int) 1 := ⟨in_X0, gk3 188 rfl rfl, ⟨by decide, by decide, by decide +kernel⟩, by decide⟩
theorem im_X0_darkOf : Cond.instanceMethod yX0_darkOf ∈ gtb := gk3 186 rfl rfl
theorem se_X0_darkOf : Cond.selects RX0 yX0_darkOf yX0_darkOf ∈ gtb := gk3 187 rfl rfl
theorem mi_X0_firstWord : gMi yX0_firstWord cX0_firstWord 3 (some .int) 1 := ⟨in_X0, gk3 201 rfl rfl, ⟨by decide, by decide, by decide +kernel⟩, by decide⟩
theorem im_X0_firstWord : Cond.instanceMethod yX0_firstWord ∈ gtb := gk3 199 rfl rfl
theorem se_X0_firstWord : Cond.selects RX0 yX0_firstWord yX0_firstWord ∈ gtb := gk3 200 rfl rfl
theorem mi_X0_street : gMi yX0_street cX0_street 2 (some .int) 2 := ⟨in_X0, gk3 89 rfl rfl, ⟨by decide, by decide, by decide +kernel⟩, by decide⟩
theorem sm_X0_street : Cond.static yX0_street ∈ gtb := gk3 88 rfl rfl
theorem mi_X0_hasThief : gMi yX0_hasThief cX0_hasThief 2 (some .boolean) 1 := ⟨in_X0, gk3 98 rfl rfl, ⟨by decide, by decide, by decide +kernel⟩, by decide⟩
theorem im_X0_hasThief : Cond.instanceMethod yX0_hasThief ∈ gtb := gk3 96 rfl rfl
theorem se_X0_hasThief : Cond.selects RX0 yX0_hasThief yX0_hasThief ∈ gtb := gk3 97 rfl rfl
theorem mi_X0_isWhole : gMi yX0_isWhole cX0_isWhole 4 (some .boolean) 1 := ⟨in_X0, gk4 168 rfl rfl, ⟨by decide, by decide, by decide +kernel⟩, by decide⟩
theorem im_X0_isWhole : Cond.instanceMethod yX0_isWhole ∈ gtb := gk4 166 rfl rfl
theorem se_X0_isWhole : Cond.selects RX0 yX0_isWhole yX0_isWhole ∈ gtb := gk4 167 rfl rfl
theorem mi_X0_countWholes : gMi yX0_countWholes cX0_countWholes 3 (some .int) 0 := ⟨in_X0, gk4 164 rfl rfl, ⟨by decide, by decide, by decide +kernel⟩, by decide⟩
theorem im_X0_countWholes : Cond.instanceMethod yX0_countWholes ∈ gtb := gk4 162 rfl rfl
theorem se_X0_countWholes : Cond.selects RX0 yX0_countWholes yX0_countWholes ∈ gtb := gk4 163 rfl rfl
theorem mi_X0_wholeAt : gMi yX0_wholeAt cX0_wholeAt 4 (some .int) 1 := ⟨in_X0, gk4 181 rfl rfl, ⟨by decide, by decide, by decide +kernel⟩, by decide⟩
theorem im_X0_wholeAt : Cond.instanceMethod yX0_wholeAt ∈ gtb := gk4 179 rfl rfl
theorem se_X0_wholeAt : Cond.selects RX0 yX0_wholeAt yX0_wholeAt ∈ gtb := gk4 180 rfl rfl
theorem mi_X0_strokesOfShards : gMi yX0_strokesOfShards cX0_strokesOfShards 4 (some .int) 1 := ⟨in_X0, gk4 189 rfl rfl, ⟨by decide, by decide, by decide +kernel⟩, by decide⟩
theorem im_X0_strokesOfShards : Cond.instanceMethod yX0_strokesOfShards ∈ gtb := gk4 187 rfl rfl
theorem se_X0_strokesOfShards : Cond.selects RX0 yX0_strokesOfShards yX0_strokesOfShards ∈ gtb := gk4 188 rfl rfl
theorem mi_X0_ownerOfMost : gMi yX0_ownerOfMost cX0_ownerOfMost 6 (some .int) 1 := ⟨in_X0, gk4 201 rfl rfl, ⟨by decide, by decide, by decide +kernel⟩, by decide⟩
theorem im_X0_ownerOfMost : Cond.instanceMethod yX0_ownerOfMost ∈ gtb := gk4 199 rfl rfl
theorem se_X0_ownerOfMost : Cond.selects RX0 yX0_ownerOfMost yX0_ownerOfMost ∈ gtb := gk4 200 rfl rfl
theorem mi_X0_cellsOfPerson : gMi yX0_cellsOfPerson cX0_cellsOfPerson 5 (some .int) 2 := ⟨in_X0, gk4 205 rfl rfl, ⟨by decide, by decide, by decide +kernel⟩, by decide⟩
theorem im_X0_cellsOfPerson : Cond.instanceMethod yX0_cellsOfPerson ∈ gtb := gk4 204 rfl rfl
theorem se_X0_cellsOfPerson : Cond.selects RX0 yX0_cellsOfPerson yX0_cellsOfPerson ∈ gtb := g_priv (yX0_cellsOfPerson, 20) (show (yX0_cellsOfPerson, 20) ∈ lw_privs from List.mem_append_right _ (List.mem_append_right _ (List.mem_append_left _ (show (yX0_cellsOfPerson, 20) ∈ lw_privs_3 from List.mem_of_getElem? (i := 11) rfl)))) rfl rfl
theorem mi_X0_cellsWithoutShard : gMi yX0_cellsWithoutShard cX0_cellsWithoutShard 3 (some .int) 0 := ⟨in_X0, gk4 214 rfl rfl, ⟨by decide, by decide, by decide +kernel⟩, by decide⟩
theorem im_X0_cellsWithoutShard : Cond.instanceMethod yX0_cellsWithoutShard ∈ gtb := gk4 212 rfl rfl
theorem se_X0_cellsWithoutShard : Cond.selects RX0 yX0_cellsWithoutShard yX0_cellsWithoutShard ∈ gtb := gk4 213 rfl rfl
theorem mi_X1_init : gMi yX1_init cX1_init 1 none 0 := ⟨in_X1, gk2 83 rfl rfl, ⟨by decide, by decide, by decide +kernel⟩, by decide⟩
theorem im_X1_init : Cond.instanceMethod yX1_init ∈ gtb := gk2 82 rfl rfl
theorem mi_X1_pass : gMi yX1_pass cX1_pass 6 none 4 := ⟨in_X1, gk5 29 rfl rfl, ⟨by decide, by decide, by decide +kernel⟩, by decide⟩
theorem im_X1_pass : Cond.instanceMethod yX1_pass ∈ gtb := gk5 27 rfl rfl
theorem se_X1_pass : Cond.selects RX1 yX1_pass yX1_pass ∈ gtb := gk5 28 rfl rfl
theorem mi_X1_draw : gMi yX1_draw cX1_draw 1 (some .int) 0 := ⟨in_X1, gk5 33 rfl rfl, ⟨by decide, by decide, by decide +kernel⟩, by decide⟩
theorem im_X1_draw : Cond.instanceMethod yX1_draw ∈ gtb := gk5 32 rfl rfl
theorem se_X1_draw : Cond.selects RX1 yX1_draw yX1_draw ∈ gtb := g_priv (yX1_draw, 3) (show (yX1_draw, 3) ∈ lw_privs from List.mem_append_right _ (List.mem_append_right _ (List.mem_append_left _ (show (yX1_draw, 3) ∈ lw_privs_3 from List.mem_of_getElem? (i := 14) rfl)))) rfl rfl
theorem mi_X1_strike : gMi yX1_strike cX1_strike 4 none 1 := ⟨in_X1, gk5 38 rfl rfl, ⟨by decide, by decide, by decide +kernel⟩, by decide⟩
theorem im_X1_strike : Cond.instanceMethod yX1_strike ∈ gtb := gk5 37 rfl rfl
theorem se_X1_strike : Cond.selects RX1 yX1_strike yX1_strike ∈ gtb := g_priv (yX1_strike, 3) (show (yX1_strike, 3) ∈ lw_privs from List.mem_append_right _ (List.mem_append_right _ (List.mem_append_left _ (show (yX1_strike, 3) ∈ lw_privs_3 from List.mem_of_getElem? (i := 15) rfl)))) rfl rfl
theorem mi_X1_melt : gMi yX1_melt cX1_melt 3 none 1 := ⟨in_X1, gk5 42 rfl rfl, ⟨by decide, by decide, by decide +kernel⟩, by decide⟩
theorem im_X1_melt : Cond.instanceMethod yX1_melt ∈ gtb := gk5 41 rfl rfl
theorem se_X1_melt : Cond.selects RX1 yX1_melt yX1_melt ∈ gtb := g_priv (yX1_melt, 3) (show (yX1_melt, 3) ∈ lw_privs from List.mem_append_right _ (List.mem_append_right _ (List.mem_append_right _ (List.mem_append_left _ (show (yX1_melt, 3) ∈ lw_privs_4 from List.mem_of_getElem? (i := 0) rfl))))) rfl rfl
theorem mi_X2_init : gMi yX2_init cX2_init 2 none 1 := ⟨in_X2, gk1 233 rfl rfl, ⟨by decide, by decide, by decide +kernel⟩, by decide⟩
theorem im_X2_init : Cond.instanceMethod yX2_init ∈ gtb := gk1 232 rfl rfl
theorem mi_X2_begin : gMi yX2_begin cX2_begin 3 none 1 := ⟨in_X2, gk3 114 rfl rfl, ⟨by decide, by decide, by decide +kernel⟩, by decide⟩
theorem im_X2_begin : Cond.instanceMethod yX2_begin ∈ gtb := gk3 112 rfl rfl
theorem se_X2_begin : Cond.selects RX2 yX2_begin yX2_begin ∈ gtb := gk3 113 rfl rfl
theorem mi_X2_isBroken : gMi yX2_isBroken cX2_isBroken 2 (some .boolean) 1 := ⟨in_X2, gk3 138 rfl rfl, ⟨by decide, by decide, by decide +kernel⟩, by decide⟩
theorem im_X2_isBroken : Cond.instanceMethod yX2_isBroken ∈ gtb := gk3 136 rfl rfl
theorem se_X2_isBroken : Cond.selects RX2 yX2_isBroken yX2_isBroken ∈ gtb := gk3 137 rfl rfl
theorem mi_X2_unbroken : gMi yX2_unbroken cX2_unbroken 1 (some .int) 0 := ⟨in_X2, gk4 226 rfl rfl, ⟨by decide, by decide, by decide +kernel⟩, by decide⟩
theorem im_X2_unbroken : Cond.instanceMethod yX2_unbroken ∈ gtb := gk4 224 rfl rfl
theorem se_X2_unbroken : Cond.selects RX2 yX2_unbroken yX2_unbroken ∈ gtb := gk4 225 rfl rfl
theorem mi_X2_light : gMi yX2_light cX2_light 2 (some .int) 1 := ⟨in_X2, gk3 142 rfl rfl, ⟨by decide, by decide, by decide +kernel⟩, by decide⟩
theorem im_X2_light : Cond.instanceMethod yX2_light ∈ gtb := gk3 140 rfl rfl
theorem se_X2_light : Cond.selects RX2 yX2_light yX2_light ∈ gtb := gk3 141 rfl rfl
theorem mi_X2_seenBits : gMi yX2_seenBits cX2_seenBits 3 (some .int) 2 := ⟨in_X2, gk3 184 rfl rfl, ⟨by decide, by decide, by decide +kernel⟩, by decide⟩
theorem im_X2_seenBits : Cond.instanceMethod yX2_seenBits ∈ gtb := gk3 182 rfl rfl
theorem se_X2_seenBits : Cond.selects RX2 yX2_seenBits yX2_seenBits ∈ gtb := gk3 183 rfl rfl
theorem mi_X2_wordRead : gMi yX2_wordRead cX2_wordRead 3 (some .int) 2 := ⟨in_X2, gk3 196 rfl rfl, ⟨by decide, by decide, by decide +kernel⟩, by decide⟩
theorem im_X2_wordRead : Cond.instanceMethod yX2_wordRead ∈ gtb := gk3 194 rfl rfl
theorem se_X2_wordRead : Cond.selects RX2 yX2_wordRead yX2_wordRead ∈ gtb := gk3 195 rfl rfl
theorem mi_X2_laidTogether : gMi yX2_laidTogether cX2_laidTogether 3 (some .int) 2 := ⟨in_X2, gk3 213 rfl rfl, ⟨by decide, by decide, by decide +kernel⟩, by decide⟩
theorem im_X2_laidTogether : Cond.instanceMethod yX2_laidTogether ∈ gtb := gk3 211 rfl rfl
theorem se_X2_laidTogether : Cond.selects RX2 yX2_laidTogether yX2_laidTogether ∈ gtb := gk3 212 rfl rfl
theorem mi_X2_firstPair : gMi yX2_firstPair cX2_firstPair 4 (some .int) 1 := ⟨in_X2, gk3 230 rfl rfl, ⟨by decide, by decide, by decide +kernel⟩, by decide⟩
theorem im_X2_firstPair : Cond.instanceMethod yX2_firstPair ∈ gtb := gk3 228 rfl rfl
theorem se_X2_firstPair : Cond.selects RX2 yX2_firstPair yX2_firstPair ∈ gtb := gk3 229 rfl rfl
theorem mi_X2_readingCorners : gMi yX2_readingCorners cX2_readingCorners 4 (some .int) 1 := ⟨in_X2, gk4 47 rfl rfl, ⟨by decide, by decide, by decide +kernel⟩, by decide⟩
theorem im_X2_readingCorners : Cond.instanceMethod yX2_readingCorners ∈ gtb := gk4 45 rfl rfl
theorem se_X2_readingCorners : Cond.selects RX2 yX2_readingCorners yX2_readingCorners ∈ gtb := gk4 46 rfl rfl
theorem mi_X2_leastPutty : gMi yX2_leastPutty cX2_leastPutty 6 (some .int) 2 := ⟨in_X2, gk4 135 rfl rfl, ⟨by decide, by decide, by decide +kernel⟩, by decide⟩
theorem im_X2_leastPutty : Cond.instanceMethod yX2_leastPutty ∈ gtb := gk4 133 rfl rfl
theorem se_X2_leastPutty : Cond.selects RX2 yX2_leastPutty yX2_leastPutty ∈ gtb := gk4 134 rfl rfl
theorem mi_X2_hide : gMi yX2_hide cX2_hide 6 (some .int) 3 := ⟨in_X2, gk4 139 rfl rfl, ⟨by decide, by decide, by decide +kernel⟩, by decide⟩
theorem im_X2_hide : Cond.instanceMethod yX2_hide ∈ gtb := gk4 138 rfl rfl
theorem se_X2_hide : Cond.selects RX2 yX2_hide yX2_hide ∈ gtb := g_priv (yX2_hide, 10) (show (yX2_hide, 10) ∈ lw_privs from List.mem_append_right _ (List.mem_append_right _ (List.mem_append_left _ (show (yX2_hide, 10) ∈ lw_privs_3 from List.mem_of_getElem? (i := 10) rfl)))) rfl rfl
theorem mi_X2_fewestScratches : gMi yX2_fewestScratches cX2_fewestScratches 8 (some .int) 3 := ⟨in_X2, gk4 152 rfl rfl, ⟨by decide, by decide, by decide +kernel⟩, by decide⟩
theorem im_X2_fewestScratches : Cond.instanceMethod yX2_fewestScratches ∈ gtb := gk4 150 rfl rfl
theorem se_X2_fewestScratches : Cond.selects RX2 yX2_fewestScratches yX2_fewestScratches ∈ gtb := gk4 151 rfl rfl
theorem mi_X2_bestForShelf : gMi yX2_bestForShelf cX2_bestForShelf 7 (some .int) 0 := ⟨in_X2, gk4 222 rfl rfl, ⟨by decide, by decide, by decide +kernel⟩, by decide⟩
theorem im_X2_bestForShelf : Cond.instanceMethod yX2_bestForShelf ∈ gtb := gk4 220 rfl rfl
theorem se_X2_bestForShelf : Cond.selects RX2 yX2_bestForShelf yX2_bestForShelf ∈ gtb := gk4 221 rfl rfl
theorem mi_X2_lightOf : gMi yX2_lightOf cX2_lightOf 4 (some .int) 1 := ⟨in_X2, gk4 230 rfl rfl, ⟨by decide, by decide, by decide +kernel⟩, by decide⟩
theorem im_X2_lightOf : Cond.instanceMethod yX2_lightOf ∈ gtb := gk4 229 rfl rfl
theorem se_X2_lightOf : Cond.selects RX2 yX2_lightOf yX2_lightOf ∈ gtb := g_priv (yX2_lightOf, 10) (show (yX2_lightOf, 10) ∈ lw_privs from List.mem_append_right _ (List.mem_append_right _ (List.mem_append_left _ (show (yX2_lightOf, 10) ∈ lw_privs_3 from List.mem_of_getElem? (i := 12) rfl)))) rfl rfl
theorem mi_X2_writerHas : gMi yX2_writerHas cX2_writerHas 4 (some .int) 2 := ⟨in_X2, gk4 239 rfl rfl, ⟨by decide, by decide, by decide +kernel⟩, by decide⟩
theorem im_X2_writerHas : Cond.instanceMethod yX2_writerHas ∈ gtb := gk4 237 rfl rfl
theorem se_X2_writerHas : Cond.selects RX2 yX2_writerHas yX2_writerHas ∈ gtb := gk4 238 rfl rfl
theorem mi_X2_viewOf : gMi yX2_viewOf cX2_viewOf 1 (some .int) 1 := ⟨in_X2, gk5 10 rfl rfl, ⟨by decide, by decide, by decide +kernel⟩, by decide⟩
theorem sm_X2_viewOf : Cond.static yX2_viewOf ∈ gtb := gk5 9 rfl rfl
theorem mi_X2_isRest : gMi yX2_isRest cX2_isRest 5 (some .boolean) 2 := ⟨in_X2, gk5 7 rfl rfl, ⟨by decide, by decide, by decide +kernel⟩, by decide⟩
theorem im_X2_isRest : Cond.instanceMethod yX2_isRest ∈ gtb := gk5 5 rfl rfl
theorem se_X2_isRest : Cond.selects RX2 yX2_isRest yX2_isRest ∈ gtb := gk5 6 rfl rfl
theorem mi_X2_perform : gMi yX2_perform cX2_perform 4 none 3 := ⟨in_X2, gk5 63 rfl rfl, ⟨by decide, by decide, by decide +kernel⟩, by decide⟩
theorem im_X2_perform : Cond.instanceMethod yX2_perform ∈ gtb := gk5 61 rfl rfl
theorem se_X2_perform : Cond.selects RX2 yX2_perform yX2_perform ∈ gtb := gk5 62 rfl rfl
theorem mi_X2_change : gMi yX2_change cX2_change 4 none 3 := ⟨in_X2, gk5 67 rfl rfl, ⟨by decide, by decide, by decide +kernel⟩, by decide⟩
theorem im_X2_change : Cond.instanceMethod yX2_change ∈ gtb := gk5 66 rfl rfl
theorem se_X2_change : Cond.selects RX2 yX2_change yX2_change ∈ gtb := g_priv (yX2_change, 10) (show (yX2_change, 10) ∈ lw_privs from List.mem_append_right _ (List.mem_append_right _ (List.mem_append_right _ (List.mem_append_left _ (show (yX2_change, 10) ∈ lw_privs_4 from List.mem_of_getElem? (i := 3) rfl))))) rfl rfl
theorem mi_X2_forgetOldest : gMi yX2_forgetOldest cX2_forgetOldest 2 none 0 := ⟨in_X2, gk5 71 rfl rfl, ⟨by decide, by decide, by decide +kernel⟩, by decide⟩
theorem im_X2_forgetOldest : Cond.instanceMethod yX2_forgetOldest ∈ gtb := gk5 70 rfl rfl
theorem se_X2_forgetOldest : Cond.selects RX2 yX2_forgetOldest yX2_forgetOldest ∈ gtb := g_priv (yX2_forgetOldest, 10) (show (yX2_forgetOldest, 10) ∈ lw_privs from List.mem_append_right _ (List.mem_append_right _ (List.mem_append_right _ (List.mem_append_left _ (show (yX2_forgetOldest, 10) ∈ lw_privs_4 from List.mem_of_getElem? (i := 4) rfl))))) rfl rfl
theorem mi_X2_takeBack : gMi yX2_takeBack cX2_takeBack 1 (some .boolean) 0 := ⟨in_X2, gk5 87 rfl rfl, ⟨by decide, by decide, by decide +kernel⟩, by decide⟩
theorem im_X2_takeBack : Cond.instanceMethod yX2_takeBack ∈ gtb := gk5 85 rfl rfl
theorem se_X2_takeBack : Cond.selects RX2 yX2_takeBack yX2_takeBack ∈ gtb := gk5 86 rfl rfl
theorem mi_X2_keep : gMi yX2_keep cX2_keep 3 (some .boolean) 0 := ⟨in_X2, gk5 95 rfl rfl, ⟨by decide, by decide, by decide +kernel⟩, by decide⟩
theorem im_X2_keep : Cond.instanceMethod yX2_keep ∈ gtb := gk5 93 rfl rfl
theorem se_X2_keep : Cond.selects RX2 yX2_keep yX2_keep ∈ gtb := gk5 94 rfl rfl
theorem mi_X2_restore : gMi yX2_restore cX2_restore 4 (some .boolean) 1 := ⟨in_X2, gk5 103 rfl rfl, ⟨by decide, by decide, by decide +kernel⟩, by decide⟩
theorem im_X2_restore : Cond.instanceMethod yX2_restore ∈ gtb := gk5 101 rfl rfl
theorem se_X2_restore : Cond.selects RX2 yX2_restore yX2_restore ∈ gtb := gk5 102 rfl rfl
theorem mi_X3_init : gMi yX3_init cX3_init 3 none 2 := ⟨in_X3, gk1 162 rfl rfl, ⟨by decide, by decide, by decide +kernel⟩, by decide⟩
theorem im_X3_init : Cond.instanceMethod yX3_init ∈ gtb := gk1 161 rfl rfl
theorem mi_X3_parse : gMi yX3_parse cX3_parse 4 (some .boolean) 2 := ⟨in_X3, gk2 154 rfl rfl, ⟨by decide, by decide, by decide +kernel⟩, by decide⟩
theorem im_X3_parse : Cond.instanceMethod yX3_parse ∈ gtb := gk2 152 rfl rfl
theorem se_X3_parse : Cond.selects RX3 yX3_parse yX3_parse ∈ gtb := gk2 153 rfl rfl
theorem mi_X3_fail : gMi yX3_fail cX3_fail 2 (some .boolean) 1 := ⟨in_X3, gk3 8 rfl rfl, ⟨by decide, by decide, by decide +kernel⟩, by decide⟩
theorem im_X3_fail : Cond.instanceMethod yX3_fail ∈ gtb := gk3 7 rfl rfl
theorem se_X3_fail : Cond.selects RX3 yX3_fail yX3_fail ∈ gtb := g_priv (yX3_fail, 12) (show (yX3_fail, 12) ∈ lw_privs from List.mem_append_left _ (show (yX3_fail, 12) ∈ lw_privs_1 from List.mem_of_getElem? (i := 4) rfl)) rfl rfl
theorem mi_X3_lineSort : gMi yX3_lineSort cX3_lineSort 1 (some .int) 0 := ⟨in_X3, gk2 181 rfl rfl, ⟨by decide, by decide, by decide +kernel⟩, by decide⟩
theorem im_X3_lineSort : Cond.instanceMethod yX3_lineSort ∈ gtb := gk2 180 rfl rfl
theorem se_X3_lineSort : Cond.selects RX3 yX3_lineSort yX3_lineSort ∈ gtb := g_priv (yX3_lineSort, 12) (show (yX3_lineSort, 12) ∈ lw_privs from List.mem_append_left _ (show (yX3_lineSort, 12) ∈ lw_privs_1 from List.mem_of_getElem? (i := 3) rfl)) rfl rfl
theorem mi_X3_firstLine : gMi yX3_firstLine cX3_firstLine 2 (some .boolean) 0 := ⟨in_X3, gk2 177 rfl rfl, ⟨by decide, by decide, by decide +kernel⟩, by decide⟩
theorem im_X3_firstLine : Cond.instanceMethod yX3_firstLine ∈ gtb := gk2 176 rfl rfl
theorem se_X3_firstLine : Cond.selects RX3 yX3_firstLine yX3_firstLine ∈ gtb := g_priv (yX3_firstLine, 12) (show (yX3_firstLine, 12) ∈ lw_privs from List.mem_append_left _ (show (yX3_firstLine, 12) ∈ lw_privs_1 from List.mem_of_getElem? (i := 2) rfl)) rfl rfl
theorem mi_X3_line : gMi yX3_line cX3_line 3 (some .boolean) 0 := ⟨in_X3, gk3 29 rfl rfl, ⟨by decide, by decide, by decide +kernel⟩, by decide⟩
theorem im_X3_line : Cond.instanceMethod yX3_line ∈ gtb := gk3 28 rfl rfl
theorem se_X3_line : Cond.selects RX3 yX3_line yX3_line ∈ gtb := g_priv (yX3_line, 12) (show (yX3_line, 12) ∈ lw_privs from List.mem_append_left _ (show (yX3_line, 12) ∈ lw_privs_1 from List.mem_of_getElem? (i := 7) rfl)) rfl rfl
theorem mi_X3_roomFor : gMi yX3_roomFor cX3_roomFor 1 (some .int) 1 := ⟨in_X3, gk3 32 rfl rfl, ⟨by decide, by decide, by decide +kernel⟩, by decide⟩
theorem sm_X3_roomFor : Cond.static yX3_roomFor ∈ gtb := gk3 31 rfl rfl
theorem mi_X3_paneLine : gMi yX3_paneLine cX3_paneLine 1 (some .boolean) 0 := ⟨in_X3, gk3 36 rfl rfl, ⟨by decide, by decide, by decide +kernel⟩, by decide⟩
theorem im_X3_paneLine : Cond.instanceMethod yX3_paneLine ∈ gtb := gk3 35 rfl rfl
theorem se_X3_paneLine : Cond.selects RX3 yX3_paneLine yX3_paneLine ∈ gtb := g_priv (yX3_paneLine, 12) (show (yX3_paneLine, 12) ∈ lw_privs from List.mem_append_left _ (show (yX3_paneLine, 12) ∈ lw_privs_1 from List.mem_of_getElem? (i := 8) rfl)) rfl rfl
theorem mi_X3_kindOfPane : gMi yX3_kindOfPane cX3_kindOfPane 2 (some .boolean) 0 := ⟨in_X3, gk3 52 rfl rfl, ⟨by decide, by decide, by decide +kernel⟩, by decide⟩
theorem im_X3_kindOfPane : Cond.instanceMethod yX3_kindOfPane ∈ gtb := gk3 51 rfl rfl
theorem se_X3_kindOfPane : Cond.selects RX3 yX3_kindOfPane yX3_kindOfPane ∈ gtb := g_priv (yX3_kindOfPane, 12) (show (yX3_kindOfPane, 12) ∈ lw_privs from List.mem_append_left _ (show (yX3_kindOfPane, 12) ∈ lw_privs_1 from List.mem_of_getElem? (i := 11) rfl)) rfl rfl
theorem mi_X3_wordLine : gMi yX3_wordLine cX3_wordLine 1 (some .boolean) 0 := ⟨in_X3, gk3 70 rfl rfl, ⟨by decide, by decide, by decide +kernel⟩, by decide⟩
theorem im_X3_wordLine : Cond.instanceMethod yX3_wordLine ∈ gtb := gk3 69 rfl rfl
theorem se_X3_wordLine : Cond.selects RX3 yX3_wordLine yX3_wordLine ∈ gtb := g_priv (yX3_wordLine, 12) (show (yX3_wordLine, 12) ∈ lw_privs from List.mem_append_left _ (show (yX3_wordLine, 12) ∈ lw_privs_1 from List.mem_of_getElem? (i := 14) rfl)) rfl rfl
theorem mi_X3_viewLine : gMi yX3_viewLine cX3_viewLine 1 (some .boolean) 0 := ⟨in_X3, gk3 74 rfl rfl, ⟨by decide, by decide, by decide +kernel⟩, by decide⟩
theorem im_X3_viewLine : Cond.instanceMethod yX3_viewLine ∈ gtb := gk3 73 rfl rfl
theorem se_X3_viewLine : Cond.selects RX3 yX3_viewLine yX3_viewLine ∈ gtb := g_priv (yX3_viewLine, 12) (show (yX3_viewLine, 12) ∈ lw_privs from List.mem_append_left _ (show (yX3_viewLine, 12) ∈ lw_privs_1 from List.mem_of_getElem? (i := 15) rfl)) rfl rfl
theorem mi_X3_cornerLine : gMi yX3_cornerLine cX3_cornerLine 1 (some .boolean) 0 := ⟨in_X3, gk3 78 rfl rfl, ⟨by decide, by decide, by decide +kernel⟩, by decide⟩
theorem im_X3_cornerLine : Cond.instanceMethod yX3_cornerLine ∈ gtb := gk3 77 rfl rfl
theorem se_X3_cornerLine : Cond.selects RX3 yX3_cornerLine yX3_cornerLine ∈ gtb := g_priv (yX3_cornerLine, 12) (show (yX3_cornerLine, 12) ∈ lw_privs from List.mem_append_right _ (List.mem_append_left _ (show (yX3_cornerLine, 12) ∈ lw_privs_2 from List.mem_of_getElem? (i := 0) rfl))) rfl rfl
theorem mi_X3_streetLine : gMi yX3_streetLine cX3_streetLine 4 (some .boolean) 0 := ⟨in_X3, gk3 86 rfl rfl, ⟨by decide, by decide, by decide +kernel⟩, by decide⟩
theorem im_X3_streetLine : Cond.instanceMethod yX3_streetLine ∈ gtb := gk3 85 rfl rfl
theorem se_X3_streetLine : Cond.selects RX3 yX3_streetLine yX3_streetLine ∈ gtb := g_priv (yX3_streetLine, 12) (show (yX3_streetLine, 12) ∈ lw_privs from List.mem_append_right _ (List.mem_append_left _ (show (yX3_streetLine, 12) ∈ lw_privs_2 from List.mem_of_getElem? (i := 2) rfl))) rfl rfl
theorem mi_X3_thiefLine : gMi yX3_thiefLine cX3_thiefLine 1 (some .boolean) 0 := ⟨in_X3, gk3 94 rfl rfl, ⟨by decide, by decide, by decide +kernel⟩, by decide⟩
theorem im_X3_thiefLine : Cond.instanceMethod yX3_thiefLine ∈ gtb := gk3 93 rfl rfl
theorem se_X3_thiefLine : Cond.selects RX3 yX3_thiefLine yX3_thiefLine ∈ gtb := g_priv (yX3_thiefLine, 12) (show (yX3_thiefLine, 12) ∈ lw_privs from List.mem_append_right _ (List.mem_append_left _ (show (yX3_thiefLine, 12) ∈ lw_privs_2 from List.mem_of_getElem? (i := 3) rfl))) rfl rfl
theorem mi_X3_sentLine : gMi yX3_sentLine cX3_sentLine 2 (some .boolean) 0 := ⟨in_X3, gk3 102 rfl rfl, ⟨by decide, by decide, by decide +kernel⟩, by decide⟩
theorem im_X3_sentLine : Cond.instanceMethod yX3_sentLine ∈ gtb := gk3 101 rfl rfl
theorem se_X3_sentLine : Cond.selects RX3 yX3_sentLine yX3_sentLine ∈ gtb := g_priv (yX3_sentLine, 12) (show (yX3_sentLine, 12) ∈ lw_privs from List.mem_append_right _ (List.mem_append_left _ (show (yX3_sentLine, 12) ∈ lw_privs_2 from List.mem_of_getElem? (i := 4) rfl))) rfl rfl
theorem mi_X3_shardLine : gMi yX3_shardLine cX3_shardLine 2 (some .boolean) 0 := ⟨in_X3, gk3 106 rfl rfl, ⟨by decide, by decide, by decide +kernel⟩, by decide⟩
theorem im_X3_shardLine : Cond.instanceMethod yX3_shardLine ∈ gtb := gk3 105 rfl rfl
theorem se_X3_shardLine : Cond.selects RX3 yX3_shardLine yX3_shardLine ∈ gtb := g_priv (yX3_shardLine, 12) (show (yX3_shardLine, 12) ∈ lw_privs from List.mem_append_right _ (List.mem_append_left _ (show (yX3_shardLine, 12) ∈ lw_privs_2 from List.mem_of_getElem? (i := 5) rfl))) rfl rfl
theorem mi_X3_shelfLine : gMi yX3_shelfLine cX3_shelfLine 1 (some .boolean) 0 := ⟨in_X3, gk3 110 rfl rfl, ⟨by decide, by decide, by decide +kernel⟩, by decide⟩
theorem im_X3_shelfLine : Cond.instanceMethod yX3_shelfLine ∈ gtb := gk3 109 rfl rfl
theorem se_X3_shelfLine : Cond.selects RX3 yX3_shelfLine yX3_shelfLine ∈ gtb := g_priv (yX3_shelfLine, 12) (show (yX3_shelfLine, 12) ∈ lw_privs from List.mem_append_right _ (List.mem_append_left _ (show (yX3_shelfLine, 12) ∈ lw_privs_2 from List.mem_of_getElem? (i := 6) rfl))) rfl rfl
theorem mi_X3_fixed : gMi yX3_fixed cX3_fixed 2 (some .boolean) 1 := ⟨in_X3, gk3 14 rfl rfl, ⟨by decide, by decide, by decide +kernel⟩, by decide⟩
theorem im_X3_fixed : Cond.instanceMethod yX3_fixed ∈ gtb := gk3 13 rfl rfl
theorem se_X3_fixed : Cond.selects RX3 yX3_fixed yX3_fixed ∈ gtb := g_priv (yX3_fixed, 12) (show (yX3_fixed, 12) ∈ lw_privs from List.mem_append_left _ (show (yX3_fixed, 12) ∈ lw_privs_1 from List.mem_of_getElem? (i := 5) rfl)) rfl rfl
theorem mi_X3_numberWithin : gMi yX3_numberWithin cX3_numberWithin 3 (some .boolean) 2 := ⟨in_X3, gk3 18 rfl rfl, ⟨by decide, by decide, by decide +kernel⟩, by decide⟩
theorem im_X3_numberWithin : Cond.instanceMethod yX3_numberWithin ∈ gtb := gk3 17 rfl rfl
theorem se_X3_numberWithin : Cond.selects RX3 yX3_numberWithin yX3_numberWithin ∈ gtb := g_priv (yX3_numberWithin, 12) (show (yX3_numberWithin, 12) ∈ lw_privs from List.mem_append_left _ (show (yX3_numberWithin, 12) ∈ lw_privs_1 from List.mem_of_getElem? (i := 6) rfl)) rfl rfl
theorem mi_X3_findName : gMi yX3_findName cX3_findName 4 (some .int) 1 := ⟨in_X3, gk3 48 rfl rfl, ⟨by decide, by decide, by decide +kernel⟩, by decide⟩
theorem im_X3_findName : Cond.instanceMethod yX3_findName ∈ gtb := gk3 47 rfl rfl
theorem se_X3_findName : Cond.selects RX3 yX3_findName yX3_findName ∈ gtb := g_priv (yX3_findName, 12) (show (yX3_findName, 12) ∈ lw_privs from List.mem_append_left _ (show (yX3_findName, 12) ∈ lw_privs_1 from List.mem_of_getElem? (i := 10) rfl)) rfl rfl
theorem mi_X3_newName : gMi yX3_newName cX3_newName 4 (some .boolean) 1 := ⟨in_X3, gk3 40 rfl rfl, ⟨by decide, by decide, by decide +kernel⟩, by decide⟩
theorem im_X3_newName : Cond.instanceMethod yX3_newName ∈ gtb := gk3 39 rfl rfl
theorem se_X3_newName : Cond.selects RX3 yX3_newName yX3_newName ∈ gtb := g_priv (yX3_newName, 12) (show (yX3_newName, 12) ∈ lw_privs from List.mem_append_left _ (show (yX3_newName, 12) ∈ lw_privs_1 from List.mem_of_getElem? (i := 9) rfl)) rfl rfl
theorem mi_X3_knownName : gMi yX3_knownName cX3_knownName 3 (some .boolean) 1 := ⟨in_X3, gk3 82 rfl rfl, ⟨by decide, by decide, by decide +kernel⟩, by decide⟩
theorem im_X3_knownName : Cond.instanceMethod yX3_knownName ∈ gtb := gk3 81 rfl rfl
theorem se_X3_knownName : Cond.selects RX3 yX3_knownName yX3_knownName ∈ gtb := g_priv (yX3_knownName, 12) (show (yX3_knownName, 12) ∈ lw_privs from List.mem_append_right _ (List.mem_append_left _ (show (yX3_knownName, 12) ∈ lw_privs_2 from List.mem_of_getElem? (i := 1) rfl))) rfl rfl
theorem mi_X3_rows : gMi yX3_rows cX3_rows 4 (some .boolean) 1 := ⟨in_X3, gk3 58 rfl rfl, ⟨by decide, by decide, by decide +kernel⟩, by decide⟩
theorem im_X3_rows : Cond.instanceMethod yX3_rows ∈ gtb := gk3 57 rfl rfl
theorem se_X3_rows : Cond.selects RX3 yX3_rows yX3_rows ∈ gtb := g_priv (yX3_rows, 12) (show (yX3_rows, 12) ∈ lw_privs from List.mem_append_left _ (show (yX3_rows, 12) ∈ lw_privs_1 from List.mem_of_getElem? (i := 12) rfl)) rfl rfl
theorem mi_X3_row : gMi yX3_row cX3_row 6 (some .boolean) 2 := ⟨in_X3, gk3 62 rfl rfl, ⟨by decide, by decide, by decide +kernel⟩, by decide⟩
theorem im_X3_row : Cond.instanceMethod yX3_row ∈ gtb := gk3 61 rfl rfl
theorem se_X3_row : Cond.selects RX3 yX3_row yX3_row ∈ gtb := g_priv (yX3_row, 12) (show (yX3_row, 12) ∈ lw_privs from List.mem_append_left _ (show (yX3_row, 12) ∈ lw_privs_1 from List.mem_of_getElem? (i := 13) rfl)) rfl rfl
theorem mi_X4_init : gMi yX4_init cX4_init 1 none 0 := ⟨in_X4, gk1 34 rfl rfl, ⟨by decide, by decide, by decide +kernel⟩, by decide⟩
theorem im_X4_init : Cond.instanceMethod yX4_init ∈ gtb := gk1 33 rfl rfl
theorem mi_X4_hasRoom : gMi yX4_hasRoom cX4_hasRoom 1 (some .boolean) 0 := ⟨in_X4, gk2 138 rfl rfl, ⟨by decide, by decide, by decide +kernel⟩, by decide⟩
theorem im_X4_hasRoom : Cond.instanceMethod yX4_hasRoom ∈ gtb := gk2 136 rfl rfl
theorem se_X4_hasRoom : Cond.selects RX4 yX4_hasRoom yX4_hasRoom ∈ gtb := gk2 137 rfl rfl
theorem mi_X4_put : gMi yX4_put cX4_put 3 none 1 := ⟨in_X4, gk2 142 rfl rfl, ⟨by decide, by decide, by decide +kernel⟩, by decide⟩
theorem im_X4_put : Cond.instanceMethod yX4_put ∈ gtb := gk2 140 rfl rfl
theorem se_X4_put : Cond.selects RX4 yX4_put yX4_put ∈ gtb := gk2 141 rfl rfl
theorem mi_X5_init : gMi yX5_init cX5_init 2 none 1 := ⟨in_X5, gk1 168 rfl rfl, ⟨by decide, by decide, by decide +kernel⟩, by decide⟩
theorem im_X5_init : Cond.instanceMethod yX5_init ∈ gtb := gk1 167 rfl rfl
theorem mi_X5_open : gMi yX5_open cX5_open 2 none 1 := ⟨in_X5, gk2 162 rfl rfl, ⟨by decide, by decide, by decide +kernel⟩, by decide⟩
theorem im_X5_open : Cond.instanceMethod yX5_open ∈ gtb := gk2 160 rfl rfl
theorem se_X5_open : Cond.selects RX5 yX5_open yX5_open ∈ gtb := gk2 161 rfl rfl
theorem mi_X5_step : gMi yX5_step cX5_step 2 none 0 := ⟨in_X5, gk2 169 rfl rfl, ⟨by decide, by decide, by decide +kernel⟩, by decide⟩
theorem im_X5_step : Cond.instanceMethod yX5_step ∈ gtb := gk2 167 rfl rfl
theorem se_X5_step : Cond.selects RX5 yX5_step yX5_step ∈ gtb := gk2 168 rfl rfl
theorem mi_X5_sortAt : gMi yX5_sortAt cX5_sortAt 3 (some .int) 1 := ⟨in_X5, gk2 173 rfl rfl, ⟨by decide, by decide, by decide +kernel⟩, by decide⟩
theorem im_X5_sortAt : Cond.instanceMethod yX5_sortAt ∈ gtb := gk2 172 rfl rfl
theorem se_X5_sortAt : Cond.selects RX5 yX5_sortAt yX5_sortAt ∈ gtb := g_priv (yX5_sortAt, 5) (show (yX5_sortAt, 5) ∈ lw_privs from List.mem_append_left _ (show (yX5_sortAt, 5) ∈ lw_privs_1 from List.mem_of_getElem? (i := 1) rfl)) rfl rfl
theorem mi_X5_is : gMi yX5_is cX5_is 3 (some .boolean) 1 := ⟨in_X5, gk2 186 rfl rfl, ⟨by decide, by decide, by decide +kernel⟩, by decide⟩
theorem im_X5_is : Cond.instanceMethod yX5_is ∈ gtb := gk2 184 rfl rfl
theorem se_X5_is : Cond.selects RX5 yX5_is yX5_is ∈ gtb := gk2 185 rfl rfl
theorem mi_X5_letter : gMi yX5_letter cX5_letter 2 (some .int) 1 := ⟨in_X5, gk3 66 rfl rfl, ⟨by decide, by decide, by decide +kernel⟩, by decide⟩
theorem im_X5_letter : Cond.instanceMethod yX5_letter ∈ gtb := gk3 64 rfl rfl
theorem se_X5_letter : Cond.selects RX5 yX5_letter yX5_letter ∈ gtb := gk3 65 rfl rfl
theorem mi_X5_key : gMi yX5_key cX5_key 4 (some .long) 0 := ⟨in_X5, gk3 44 rfl rfl, ⟨by decide, by decide, by decide +kernel⟩, by decide⟩
theorem im_X5_key : Cond.instanceMethod yX5_key ∈ gtb := gk3 42 rfl rfl
theorem se_X5_key : Cond.selects RX5 yX5_key yX5_key ∈ gtb := gk3 43 rfl rfl
theorem mi_X5_value : gMi yX5_value cX5_value 3 (some .int) 0 := ⟨in_X5, gk3 22 rfl rfl, ⟨by decide, by decide, by decide +kernel⟩, by decide⟩
theorem im_X5_value : Cond.instanceMethod yX5_value ∈ gtb := gk3 20 rfl rfl
theorem se_X5_value : Cond.selects RX5 yX5_value yX5_value ∈ gtb := gk3 21 rfl rfl
theorem mi_X6_init : gMi yX6_init cX6_init 1 none 0 := ⟨in_X6, gk2 68 rfl rfl, ⟨by decide, by decide, by decide +kernel⟩, by decide⟩
theorem im_X6_init : Cond.instanceMethod yX6_init ∈ gtb := gk2 67 rfl rfl
theorem mi_X6_make : gMi yX6_make cX6_make 11 (some .boolean) 5 := ⟨in_X6, gk4 118 rfl rfl, ⟨by decide, by decide, by decide +kernel⟩, by decide⟩
theorem im_X6_make : Cond.instanceMethod yX6_make ∈ gtb := gk4 116 rfl rfl
theorem se_X6_make : Cond.selects RX6 yX6_make yX6_make ∈ gtb := gk4 117 rfl rfl
theorem mi_X6_strokes : gMi yX6_strokes cX6_strokes 1 (some .int) 0 := ⟨in_X6, gk4 122 rfl rfl, ⟨by decide, by decide, by decide +kernel⟩, by decide⟩
theorem im_X6_strokes : Cond.instanceMethod yX6_strokes ∈ gtb := gk4 120 rfl rfl
theorem se_X6_strokes : Cond.selects RX6 yX6_strokes yX6_strokes ∈ gtb := gk4 121 rfl rfl
theorem mi_X7_init : gMi yX7_init cX7_init 2 none 1 := ⟨in_X7, gk2 34 rfl rfl, ⟨by decide, by decide, by decide +kernel⟩, by decide⟩
theorem im_X7_init : Cond.instanceMethod yX7_init ∈ gtb := gk2 33 rfl rfl
theorem mi_X7_goSoonest : gMi yX7_goSoonest cX7_goSoonest 5 none 4 := ⟨in_X7, gk4 8 rfl rfl, ⟨by decide, by decide, by decide +kernel⟩, by decide⟩
theorem im_X7_goSoonest : Cond.instanceMethod yX7_goSoonest ∈ gtb := gk4 6 rfl rfl
theorem se_X7_goSoonest : Cond.selects RX7 yX7_goSoonest yX7_goSoonest ∈ gtb := gk4 7 rfl rfl
theorem mi_X7_goSafest : gMi yX7_goSafest cX7_goSafest 5 none 4 := ⟨in_X7, gk4 65 rfl rfl, ⟨by decide, by decide, by decide +kernel⟩, by decide⟩
theorem im_X7_goSafest : Cond.instanceMethod yX7_goSafest ∈ gtb := gk4 63 rfl rfl
theorem se_X7_goSafest : Cond.selects RX7 yX7_goSafest yX7_goSafest ∈ gtb := gk4 64 rfl rfl
theorem mi_X7_minutes : gMi yX7_minutes cX7_minutes 1 (some .int) 0 := ⟨in_X7, gk4 31 rfl rfl, ⟨by decide, by decide, by decide +kernel⟩, by decide⟩
theorem im_X7_minutes : Cond.instanceMethod yX7_minutes ∈ gtb := gk4 29 rfl rfl
theorem se_X7_minutes : Cond.selects RX7 yX7_minutes yX7_minutes ∈ gtb := gk4 30 rfl rfl
theorem mi_X7_corners : gMi yX7_corners cX7_corners 3 (some .int) 0 := ⟨in_X7, gk4 93 rfl rfl, ⟨by decide, by decide, by decide +kernel⟩, by decide⟩
theorem im_X7_corners : Cond.instanceMethod yX7_corners ∈ gtb := gk4 91 rfl rfl
theorem se_X7_corners : Cond.selects RX7 yX7_corners yX7_corners ∈ gtb := gk4 92 rfl rfl
theorem mi_X7_go : gMi yX7_go cX7_go 5 none 4 := ⟨in_X7, gk4 12 rfl rfl, ⟨by decide, by decide, by decide +kernel⟩, by decide⟩
theorem im_X7_go : Cond.instanceMethod yX7_go ∈ gtb := gk4 11 rfl rfl
theorem se_X7_go : Cond.selects RX7 yX7_go yX7_go ∈ gtb := g_priv (yX7_go, 8) (show (yX7_go, 8) ∈ lw_privs from List.mem_append_right _ (List.mem_append_right _ (List.mem_append_left _ (show (yX7_go, 8) ∈ lw_privs_3 from List.mem_of_getElem? (i := 0) rfl)))) rfl rfl
theorem mi_X7_walk : gMi yX7_walk cX7_walk 8 none 4 := ⟨in_X7, gk4 17 rfl rfl, ⟨by decide, by decide, by decide +kernel⟩, by decide⟩
theorem im_X7_walk : Cond.instanceMethod yX7_walk ∈ gtb := gk4 16 rfl rfl
theorem se_X7_walk : Cond.selects RX7 yX7_walk yX7_walk ∈ gtb := g_priv (yX7_walk, 8) (show (yX7_walk, 8) ∈ lw_privs from List.mem_append_right _ (List.mem_append_right _ (List.mem_append_left _ (show (yX7_walk, 8) ∈ lw_privs_3 from List.mem_of_getElem? (i := 1) rfl)))) rfl rfl
theorem mi_X7_worthBehind : gMi yX7_worthBehind cX7_worthBehind 4 (some .long) 2 := ⟨in_X7, gk4 26 rfl rfl, ⟨by decide, by decide, by decide +kernel⟩, by decide⟩
theorem im_X7_worthBehind : Cond.instanceMethod yX7_worthBehind ∈ gtb := gk4 25 rfl rfl
theorem se_X7_worthBehind : Cond.selects RX7 yX7_worthBehind yX7_worthBehind ∈ gtb := g_priv (yX7_worthBehind, 8) (show (yX7_worthBehind, 8) ∈ lw_privs from List.mem_append_right _ (List.mem_append_right _ (List.mem_append_left _ (show (yX7_worthBehind, 8) ∈ lw_privs_3 from List.mem_of_getElem? (i := 3) rfl)))) rfl rfl
theorem mi_X7_keepIfBetter : gMi yX7_keepIfBetter cX7_keepIfBetter 5 none 2 := ⟨in_X7, gk4 21 rfl rfl, ⟨by decide, by decide, by decide +kernel⟩, by decide⟩
theorem im_X7_keepIfBetter : Cond.instanceMethod yX7_keepIfBetter ∈ gtb := gk4 20 rfl rfl
theorem se_X7_keepIfBetter : Cond.selects RX7 yX7_keepIfBetter yX7_keepIfBetter ∈ gtb := g_priv (yX7_keepIfBetter, 8) (show (yX7_keepIfBetter, 8) ∈ lw_privs from List.mem_append_right _ (List.mem_append_right _ (List.mem_append_left _ (show (yX7_keepIfBetter, 8) ∈ lw_privs_3 from List.mem_of_getElem? (i := 2) rfl)))) rfl rfl
theorem mi_X7_greatestDivisor : gMi yX7_greatestDivisor cX7_greatestDivisor 11 (some .long) 2 := ⟨in_X7, gk4 69 rfl rfl, ⟨by decide, by decide, by decide +kernel⟩, by decide⟩
theorem sm_X7_greatestDivisor : Cond.static yX7_greatestDivisor ∈ gtb := gk4 68 rfl rfl
theorem mi_X8_init : gMi yX8_init cX8_init 1 none 0 := ⟨in_X8, gk1 26 rfl rfl, ⟨by decide, by decide, by decide +kernel⟩, by decide⟩
theorem im_X8_init : Cond.instanceMethod yX8_init ∈ gtb := gk1 25 rfl rfl
theorem mi_X8_feed : gMi yX8_feed cX8_feed 6 (some .int) 5 := ⟨in_X8, gk2 134 rfl rfl, ⟨by decide, by decide, by decide +kernel⟩, by decide⟩
theorem im_X8_feed : Cond.instanceMethod yX8_feed ∈ gtb := gk2 132 rfl rfl
theorem se_X8_feed : Cond.selects RX8 yX8_feed yX8_feed ∈ gtb := gk2 133 rfl rfl
theorem mi_X8_city : gMi yX8_city cX8_city 4 (some .int) 1 := ⟨in_X8, gk2 146 rfl rfl, ⟨by decide, by decide, by decide +kernel⟩, by decide⟩
theorem im_X8_city : Cond.instanceMethod yX8_city ∈ gtb := gk2 144 rfl rfl
theorem se_X8_city : Cond.selects RX8 yX8_city yX8_city ∈ gtb := gk2 145 rfl rfl
theorem mi_X8_fault : gMi yX8_fault cX8_fault 1 (some .int) 0 := ⟨in_X8, gk3 122 rfl rfl, ⟨by decide, by decide, by decide +kernel⟩, by decide⟩
theorem im_X8_fault : Cond.instanceMethod yX8_fault ∈ gtb := gk3 120 rfl rfl
theorem se_X8_fault : Cond.selects RX8 yX8_fault yX8_fault ∈ gtb := gk3 121 rfl rfl
theorem mi_X8_where : gMi yX8_where cX8_where 1 (some .int) 0 := ⟨in_X8, gk3 126 rfl rfl, ⟨by decide, by decide, by decide +kernel⟩, by decide⟩
theorem im_X8_where : Cond.instanceMethod yX8_where ∈ gtb := gk3 124 rfl rfl
theorem se_X8_where : Cond.selects RX8 yX8_where yX8_where ∈ gtb := gk3 125 rfl rfl
theorem mi_X8_pane : gMi yX8_pane cX8_pane 3 (some .int) 2 := ⟨in_X8, gk3 130 rfl rfl, ⟨by decide, by decide, by decide +kernel⟩, by decide⟩
theorem im_X8_pane : Cond.instanceMethod yX8_pane ∈ gtb := gk3 128 rfl rfl
theorem se_X8_pane : Cond.selects RX8 yX8_pane yX8_pane ∈ gtb := gk3 129 rfl rfl
theorem mi_X8_word : gMi yX8_word cX8_word 2 (some .int) 1 := ⟨in_X8, gk3 156 rfl rfl, ⟨by decide, by decide, by decide +kernel⟩, by decide⟩
theorem im_X8_word : Cond.instanceMethod yX8_word ∈ gtb := gk3 154 rfl rfl
theorem se_X8_word : Cond.selects RX8 yX8_word yX8_word ∈ gtb := gk3 155 rfl rfl
theorem mi_X8_view : gMi yX8_view cX8_view 2 (some .int) 1 := ⟨in_X8, gk3 164 rfl rfl, ⟨by decide, by decide, by decide +kernel⟩, by decide⟩
theorem im_X8_view : Cond.instanceMethod yX8_view ∈ gtb := gk3 162 rfl rfl
theorem se_X8_view : Cond.selects RX8 yX8_view yX8_view ∈ gtb := gk3 163 rfl rfl
theorem mi_X8_seen : gMi yX8_seen cX8_seen 4 (some .int) 2 := ⟨in_X8, gk3 172 rfl rfl, ⟨by decide, by decide, by decide +kernel⟩, by decide⟩
theorem im_X8_seen : Cond.instanceMethod yX8_seen ∈ gtb := gk3 170 rfl rfl
theorem se_X8_seen : Cond.selects RX8 yX8_seen yX8_seen ∈ gtb := gk3 171 rfl rfl
theorem mi_X8_read : gMi yX8_read cX8_read 4 (some .int) 2 := ⟨in_X8, gk3 192 rfl rfl, ⟨by decide, by decide, by decide +kernel⟩, by decide⟩
theorem im_X8_read : Cond.instanceMethod yX8_read ∈ gtb := gk3 190 rfl rfl
theorem se_X8_read : Cond.selects RX8 yX8_read yX8_read ∈ gtb := gk3 191 rfl rfl
theorem mi_X8_together : gMi yX8_together cX8_together 4 (some .int) 2 := ⟨in_X8, gk3 205 rfl rfl, ⟨by decide, by decide, by decide +kernel⟩, by decide⟩
theorem im_X8_together : Cond.instanceMethod yX8_together ∈ gtb := gk3 203 rfl rfl
theorem se_X8_together : Cond.selects RX8 yX8_together yX8_together ∈ gtb := gk3 204 rfl rfl
theorem mi_X8_readTogether : gMi yX8_readTogether cX8_readTogether 4 (some .int) 2 := ⟨in_X8, gk3 217 rfl rfl, ⟨by decide, by decide, by decide +kernel⟩, by decide⟩
theorem im_X8_readTogether : Cond.instanceMethod yX8_readTogether ∈ gtb := gk3 215 rfl rfl
theorem se_X8_readTogether : Cond.selects RX8 yX8_readTogether yX8_readTogether ∈ gtb := gk3 216 rfl rfl
theorem mi_X8_viewsFor : gMi yX8_viewsFor cX8_viewsFor 6 (some .int) 2 := ⟨in_X8, gk3 222 rfl rfl, ⟨by decide, by decide, by decide +kernel⟩, by decide⟩
theorem im_X8_viewsFor : Cond.instanceMethod yX8_viewsFor ∈ gtb := gk3 220 rfl rfl
theorem se_X8_viewsFor : Cond.selects RX8 yX8_viewsFor yX8_viewsFor ∈ gtb := gk3 221 rfl rfl
theorem mi_X8_pairFor : gMi yX8_pairFor cX8_pairFor 2 (some .int) 1 := ⟨in_X8, gk3 226 rfl rfl, ⟨by decide, by decide, by decide +kernel⟩, by decide⟩
theorem im_X8_pairFor : Cond.instanceMethod yX8_pairFor ∈ gtb := gk3 224 rfl rfl
theorem se_X8_pairFor : Cond.selects RX8 yX8_pairFor yX8_pairFor ∈ gtb := gk3 225 rfl rfl
theorem mi_X8_soonest : gMi yX8_soonest cX8_soonest 3 (some .int) 2 := ⟨in_X8, gk3 236 rfl rfl, ⟨by decide, by decide, by decide +kernel⟩, by decide⟩
theorem im_X8_soonest : Cond.instanceMethod yX8_soonest ∈ gtb := gk3 234 rfl rfl
theorem se_X8_soonest : Cond.selects RX8 yX8_soonest yX8_soonest ∈ gtb := gk3 235 rfl rfl
theorem mi_X8_soonestAt : gMi yX8_soonestAt cX8_soonestAt 4 (some .int) 3 := ⟨in_X8, gk4 35 rfl rfl, ⟨by decide, by decide, by decide +kernel⟩, by decide⟩
theorem im_X8_soonestAt : Cond.instanceMethod yX8_soonestAt ∈ gtb := gk4 33 rfl rfl
theorem se_X8_soonestAt : Cond.selects RX8 yX8_soonestAt yX8_soonestAt ∈ gtb := gk4 34 rfl rfl
theorem mi_X8_secret : gMi yX8_secret cX8_secret 5 (some .int) 3 := ⟨in_X8, gk4 43 rfl rfl, ⟨by decide, by decide, by decide +kernel⟩, by decide⟩
theorem im_X8_secret : Cond.instanceMethod yX8_secret ∈ gtb := gk4 41 rfl rfl
theorem se_X8_secret : Cond.selects RX8 yX8_secret yX8_secret ∈ gtb := gk4 42 rfl rfl
theorem mi_X8_secretAt : gMi yX8_secretAt cX8_secretAt 6 (some .int) 4 := ⟨in_X8, gk4 53 rfl rfl, ⟨by decide, by decide, by decide +kernel⟩, by decide⟩
theorem im_X8_secretAt : Cond.instanceMethod yX8_secretAt ∈ gtb := gk4 51 rfl rfl
theorem se_X8_secretAt : Cond.selects RX8 yX8_secretAt yX8_secretAt ∈ gtb := gk4 52 rfl rfl
theorem mi_X8_safest : gMi yX8_safest cX8_safest 8 (some .long) 4 := ⟨in_X8, gk4 57 rfl rfl, ⟨by decide, by decide, by decide +kernel⟩, by decide⟩
theorem im_X8_safest : Cond.instanceMethod yX8_safest ∈ gtb := gk4 55 rfl rfl
theorem se_X8_safest : Cond.selects RX8 yX8_safest yX8_safest ∈ gtb := gk4 56 rfl rfl
theorem mi_X8_safestAt : gMi yX8_safestAt cX8_safestAt 6 (some .int) 4 := ⟨in_X8, gk4 73 rfl rfl, ⟨by decide, by decide, by decide +kernel⟩, by decide⟩
theorem im_X8_safestAt : Cond.instanceMethod yX8_safestAt ∈ gtb := gk4 71 rfl rfl
theorem se_X8_safestAt : Cond.selects RX8 yX8_safestAt yX8_safestAt ∈ gtb := gk4 72 rfl rfl
theorem mi_X8_sent : gMi yX8_sent cX8_sent 3 (some .int) 2 := ⟨in_X8, gk4 77 rfl rfl, ⟨by decide, by decide, by decide +kernel⟩, by decide⟩
theorem im_X8_sent : Cond.instanceMethod yX8_sent ∈ gtb := gk4 75 rfl rfl
theorem se_X8_sent : Cond.selects RX8 yX8_sent yX8_sent ∈ gtb := gk4 76 rfl rfl
theorem mi_X8_readers : gMi yX8_readers cX8_readers 2 (some .int) 1 := ⟨in_X8, gk4 85 rfl rfl, ⟨by decide, by decide, by decide +kernel⟩, by decide⟩
theorem im_X8_readers : Cond.instanceMethod yX8_readers ∈ gtb := gk4 83 rfl rfl
theorem se_X8_readers : Cond.selects RX8 yX8_readers yX8_readers ∈ gtb := gk4 84 rfl rfl
theorem mi_X8_overheard : gMi yX8_overheard cX8_overheard 5 (some .int) 1 := ⟨in_X8, gk4 97 rfl rfl, ⟨by decide, by decide, by decide +kernel⟩, by decide⟩
theorem im_X8_overheard : Cond.instanceMethod yX8_overheard ∈ gtb := gk4 95 rfl rfl
theorem se_X8_overheard : Cond.selects RX8 yX8_overheard yX8_overheard ∈ gtb := gk4 96 rfl rfl
theorem mi_X8_unread : gMi yX8_unread cX8_unread 3 (some .int) 0 := ⟨in_X8, gk4 101 rfl rfl, ⟨by decide, by decide, by decide +kernel⟩, by decide⟩
theorem im_X8_unread : Cond.instanceMethod yX8_unread ∈ gtb := gk4 99 rfl rfl
theorem se_X8_unread : Cond.selects RX8 yX8_unread yX8_unread ∈ gtb := gk4 100 rfl rfl
theorem mi_X8_made : gMi yX8_made cX8_made 7 (some .int) 5 := ⟨in_X8, gk4 109 rfl rfl, ⟨by decide, by decide, by decide +kernel⟩, by decide⟩
theorem im_X8_made : Cond.instanceMethod yX8_made ∈ gtb := gk4 107 rfl rfl
theorem se_X8_made : Cond.selects RX8 yX8_made yX8_made ∈ gtb := gk4 108 rfl rfl
theorem mi_X8_madeOf : gMi yX8_madeOf cX8_madeOf 8 (some .int) 6 := ⟨in_X8, gk4 127 rfl rfl, ⟨by decide, by decide, by decide +kernel⟩, by decide⟩
theorem im_X8_madeOf : Cond.instanceMethod yX8_madeOf ∈ gtb := gk4 125 rfl rfl
theorem se_X8_madeOf : Cond.selects RX8 yX8_madeOf yX8_madeOf ∈ gtb := gk4 126 rfl rfl
theorem mi_X8_putty : gMi yX8_putty cX8_putty 5 (some .int) 2 := ⟨in_X8, gk4 131 rfl rfl, ⟨by decide, by decide, by decide +kernel⟩, by decide⟩
theorem im_X8_putty : Cond.instanceMethod yX8_putty ∈ gtb := gk4 129 rfl rfl
theorem se_X8_putty : Cond.selects RX8 yX8_putty yX8_putty ∈ gtb := gk4 130 rfl rfl
theorem mi_X8_puttyOf : gMi yX8_puttyOf cX8_puttyOf 5 (some .int) 2 := ⟨in_X8, gk4 144 rfl rfl, ⟨by decide, by decide, by decide +kernel⟩, by decide⟩
theorem im_X8_puttyOf : Cond.instanceMethod yX8_puttyOf ∈ gtb := gk4 142 rfl rfl
theorem se_X8_puttyOf : Cond.selects RX8 yX8_puttyOf yX8_puttyOf ∈ gtb := gk4 143 rfl rfl
theorem mi_X8_scratches : gMi yX8_scratches cX8_scratches 5 (some .int) 3 := ⟨in_X8, gk4 148 rfl rfl, ⟨by decide, by decide, by decide +kernel⟩, by decide⟩
theorem im_X8_scratches : Cond.instanceMethod yX8_scratches ∈ gtb := gk4 146 rfl rfl
theorem se_X8_scratches : Cond.selects RX8 yX8_scratches yX8_scratches ∈ gtb := gk4 147 rfl rfl
theorem mi_X8_could : gMi yX8_could cX8_could 6 (some .int) 2 := ⟨in_X8, gk4 156 rfl rfl, ⟨by decide, by decide, by decide +kernel⟩, by decide⟩
theorem im_X8_could : Cond.instanceMethod yX8_could ∈ gtb := gk4 154 rfl rfl
theorem se_X8_could : Cond.selects RX8 yX8_could yX8_could ∈ gtb := gk4 155 rfl rfl
theorem mi_X8_wholes : gMi yX8_wholes cX8_wholes 1 (some .int) 0 := ⟨in_X8, gk4 160 rfl rfl, ⟨by decide, by decide, by decide +kernel⟩, by decide⟩
theorem im_X8_wholes : Cond.instanceMethod yX8_wholes ∈ gtb := gk4 158 rfl rfl
theorem se_X8_wholes : Cond.selects RX8 yX8_wholes yX8_wholes ∈ gtb := gk4 159 rfl rfl
theorem mi_X8_whole : gMi yX8_whole cX8_whole 3 (some .int) 1 := ⟨in_X8, gk4 177 rfl rfl, ⟨by decide, by decide, by decide +kernel⟩, by decide⟩
theorem im_X8_whole : Cond.instanceMethod yX8_whole ∈ gtb := gk4 175 rfl rfl
theorem se_X8_whole : Cond.selects RX8 yX8_whole yX8_whole ∈ gtb := gk4 176 rfl rfl
theorem mi_X8_written : gMi yX8_written cX8_written 3 (some .int) 1 := ⟨in_X8, gk4 185 rfl rfl, ⟨by decide, by decide, by decide +kernel⟩, by decide⟩
theorem im_X8_written : Cond.instanceMethod yX8_written ∈ gtb := gk4 183 rfl rfl
theorem se_X8_written : Cond.selects RX8 yX8_written yX8_written ∈ gtb := gk4 184 rfl rfl
theorem mi_X8_wordOf : gMi yX8_wordOf cX8_wordOf 3 (some .int) 1 := ⟨in_X8, gk4 193 rfl rfl, ⟨by decide, by decide, by decide +kernel⟩, by decide⟩
theorem im_X8_wordOf : Cond.instanceMethod yX8_wordOf ∈ gtb := gk4 191 rfl rfl
theorem se_X8_wordOf : Cond.selects RX8 yX8_wordOf yX8_wordOf ∈ gtb := gk4 192 rfl rfl
theorem mi_X8_owner : gMi yX8_owner cX8_owner 3 (some .int) 1 := ⟨in_X8, gk4 197 rfl rfl, ⟨by decide, by decide, by decide +kernel⟩, by decide⟩
theorem im_X8_owner : Cond.instanceMethod yX8_owner ∈ gtb := gk4 195 rfl rfl
theorem se_X8_owner : Cond.selects RX8 yX8_owner yX8_owner ∈ gtb := gk4 196 rfl rfl
theorem mi_X8_missing : gMi yX8_missing cX8_missing 1 (some .int) 0 := ⟨in_X8, gk4 210 rfl rfl, ⟨by decide, by decide, by decide +kernel⟩, by decide⟩
theorem im_X8_missing : Cond.instanceMethod yX8_missing ∈ gtb := gk4 208 rfl rfl
theorem se_X8_missing : Cond.selects RX8 yX8_missing yX8_missing ∈ gtb := gk4 209 rfl rfl
theorem mi_X8_shelf : gMi yX8_shelf cX8_shelf 1 (some .int) 0 := ⟨in_X8, gk4 218 rfl rfl, ⟨by decide, by decide, by decide +kernel⟩, by decide⟩
theorem im_X8_shelf : Cond.instanceMethod yX8_shelf ∈ gtb := gk4 216 rfl rfl
theorem se_X8_shelf : Cond.selects RX8 yX8_shelf yX8_shelf ∈ gtb := gk4 217 rfl rfl
theorem mi_X8_gain : gMi yX8_gain cX8_gain 4 (some .int) 2 := ⟨in_X8, gk4 235 rfl rfl, ⟨by decide, by decide, by decide +kernel⟩, by decide⟩
theorem im_X8_gain : Cond.instanceMethod yX8_gain ∈ gtb := gk4 233 rfl rfl
theorem se_X8_gain : Cond.selects RX8 yX8_gain yX8_gain ∈ gtb := gk4 234 rfl rfl
theorem mi_X8_rests : gMi yX8_rests cX8_rests 4 (some .int) 0 := ⟨in_X8, gk5 3 rfl rfl, ⟨by decide, by decide, by decide +kernel⟩, by decide⟩
theorem im_X8_rests : Cond.instanceMethod yX8_rests ∈ gtb := gk5 1 rfl rfl
theorem se_X8_rests : Cond.selects RX8 yX8_rests yX8_rests ∈ gtb := gk5 2 rfl rfl
theorem mi_X8_rest : gMi yX8_rest cX8_rest 3 (some .int) 0 := ⟨in_X8, gk5 15 rfl rfl, ⟨by decide, by decide, by decide +kernel⟩, by decide⟩
theorem im_X8_rest : Cond.instanceMethod yX8_rest ∈ gtb := gk5 13 rfl rfl
theorem se_X8_rest : Cond.selects RX8 yX8_rest yX8_rest ∈ gtb := gk5 14 rfl rfl
theorem mi_X8_left : gMi yX8_left cX8_left 4 (some .int) 2 := ⟨in_X8, gk5 19 rfl rfl, ⟨by decide, by decide, by decide +kernel⟩, by decide⟩
theorem im_X8_left : Cond.instanceMethod yX8_left ∈ gtb := gk5 17 rfl rfl
theorem se_X8_left : Cond.selects RX8 yX8_left yX8_left ∈ gtb := gk5 18 rfl rfl
theorem mi_X8_hails : gMi yX8_hails cX8_hails 4 (some .int) 2 := ⟨in_X8, gk5 46 rfl rfl, ⟨by decide, by decide, by decide +kernel⟩, by decide⟩
theorem im_X8_hails : Cond.instanceMethod yX8_hails ∈ gtb := gk5 44 rfl rfl
theorem se_X8_hails : Cond.selects RX8 yX8_hails yX8_hails ∈ gtb := gk5 45 rfl rfl
theorem mi_X8_scratch : gMi yX8_scratch cX8_scratch 4 (some .boolean) 2 := ⟨in_X8, gk5 50 rfl rfl, ⟨by decide, by decide, by decide +kernel⟩, by decide⟩
theorem im_X8_scratch : Cond.instanceMethod yX8_scratch ∈ gtb := gk5 48 rfl rfl
theorem se_X8_scratch : Cond.selects RX8 yX8_scratch yX8_scratch ∈ gtb := gk5 49 rfl rfl
theorem mi_X8_cover : gMi yX8_cover cX8_cover 4 (some .boolean) 2 := ⟨in_X8, gk5 75 rfl rfl, ⟨by decide, by decide, by decide +kernel⟩, by decide⟩
theorem im_X8_cover : Cond.instanceMethod yX8_cover ∈ gtb := gk5 73 rfl rfl
theorem se_X8_cover : Cond.selects RX8 yX8_cover yX8_cover ∈ gtb := gk5 74 rfl rfl
theorem mi_X8_breaks : gMi yX8_breaks cX8_breaks 3 (some .boolean) 1 := ⟨in_X8, gk5 79 rfl rfl, ⟨by decide, by decide, by decide +kernel⟩, by decide⟩
theorem im_X8_breaks : Cond.instanceMethod yX8_breaks ∈ gtb := gk5 77 rfl rfl
theorem se_X8_breaks : Cond.selects RX8 yX8_breaks yX8_breaks ∈ gtb := gk5 78 rfl rfl
theorem mi_X8_undo : gMi yX8_undo cX8_undo 1 (some .boolean) 0 := ⟨in_X8, gk5 83 rfl rfl, ⟨by decide, by decide, by decide +kernel⟩, by decide⟩
theorem im_X8_undo : Cond.instanceMethod yX8_undo ∈ gtb := gk5 81 rfl rfl
theorem se_X8_undo : Cond.selects RX8 yX8_undo yX8_undo ∈ gtb := gk5 82 rfl rfl
theorem mi_X8_mark : gMi yX8_mark cX8_mark 1 (some .int) 0 := ⟨in_X8, gk5 91 rfl rfl, ⟨by decide, by decide, by decide +kernel⟩, by decide⟩
theorem im_X8_mark : Cond.instanceMethod yX8_mark ∈ gtb := gk5 89 rfl rfl
theorem se_X8_mark : Cond.selects RX8 yX8_mark yX8_mark ∈ gtb := gk5 90 rfl rfl
theorem mi_X8_back : gMi yX8_back cX8_back 2 (some .boolean) 1 := ⟨in_X8, gk5 99 rfl rfl, ⟨by decide, by decide, by decide +kernel⟩, by decide⟩
theorem im_X8_back : Cond.instanceMethod yX8_back ∈ gtb := gk5 97 rfl rfl
theorem se_X8_back : Cond.selects RX8 yX8_back yX8_back ∈ gtb := gk5 98 rfl rfl
theorem mi_X8_led : gMi yX8_led cX8_led 4 (some .int) 1 := ⟨in_X8, gk5 119 rfl rfl, ⟨by decide, by decide, by decide +kernel⟩, by decide⟩
theorem im_X8_led : Cond.instanceMethod yX8_led ∈ gtb := gk5 117 rfl rfl
theorem se_X8_led : Cond.selects RX8 yX8_led yX8_led ∈ gtb := gk5 118 rfl rfl
theorem mi_X8_size : gMi yX8_size cX8_size 2 (some .int) 1 := ⟨in_X8, gk5 107 rfl rfl, ⟨by decide, by decide, by decide +kernel⟩, by decide⟩
theorem im_X8_size : Cond.instanceMethod yX8_size ∈ gtb := gk5 105 rfl rfl
theorem se_X8_size : Cond.selects RX8 yX8_size yX8_size ∈ gtb := gk5 106 rfl rfl
theorem mi_X8_trouble : gMi yX8_trouble cX8_trouble 1 (some .int) 0 := ⟨in_X8, gk5 111 rfl rfl, ⟨by decide, by decide, by decide +kernel⟩, by decide⟩
theorem im_X8_trouble : Cond.instanceMethod yX8_trouble ∈ gtb := gk5 109 rfl rfl
theorem se_X8_trouble : Cond.selects RX8 yX8_trouble yX8_trouble ∈ gtb := gk5 110 rfl rfl
theorem mi_X8_refuse : gMi yX8_refuse cX8_refuse 2 (some .int) 1 := ⟨in_X8, gk2 150 rfl rfl, ⟨by decide, by decide, by decide +kernel⟩, by decide⟩
theorem im_X8_refuse : Cond.instanceMethod yX8_refuse ∈ gtb := gk2 149 rfl rfl
theorem se_X8_refuse : Cond.selects RX8 yX8_refuse yX8_refuse ∈ gtb := g_priv (yX8_refuse, 11) (show (yX8_refuse, 11) ∈ lw_privs from List.mem_append_left _ (show (yX8_refuse, 11) ∈ lw_privs_1 from List.mem_of_getElem? (i := 0) rfl)) rfl rfl
theorem mi_X8_answer : gMi yX8_answer cX8_answer 2 (some .int) 1 := ⟨in_X8, gk3 118 rfl rfl, ⟨by decide, by decide, by decide +kernel⟩, by decide⟩
theorem im_X8_answer : Cond.instanceMethod yX8_answer ∈ gtb := gk3 117 rfl rfl
theorem se_X8_answer : Cond.selects RX8 yX8_answer yX8_answer ∈ gtb := g_priv (yX8_answer, 11) (show (yX8_answer, 11) ∈ lw_privs from List.mem_append_right _ (List.mem_append_left _ (show (yX8_answer, 11) ∈ lw_privs_2 from List.mem_of_getElem? (i := 7) rfl))) rfl rfl
theorem mi_X8_noCity : gMi yX8_noCity cX8_noCity 1 (some .boolean) 0 := ⟨in_X8, gk4 105 rfl rfl, ⟨by decide, by decide, by decide +kernel⟩, by decide⟩
theorem im_X8_noCity : Cond.instanceMethod yX8_noCity ∈ gtb := gk4 104 rfl rfl
theorem se_X8_noCity : Cond.selects RX8 yX8_noCity yX8_noCity ∈ gtb := g_priv (yX8_noCity, 11) (show (yX8_noCity, 11) ∈ lw_privs from List.mem_append_right _ (List.mem_append_right _ (List.mem_append_left _ (show (yX8_noCity, 11) ∈ lw_privs_3 from List.mem_of_getElem? (i := 8) rfl)))) rfl rfl
theorem mi_X8_isPane : gMi yX8_isPane cX8_isPane 2 (some .boolean) 1 := ⟨in_X8, gk3 134 rfl rfl, ⟨by decide, by decide, by decide +kernel⟩, by decide⟩
theorem im_X8_isPane : Cond.instanceMethod yX8_isPane ∈ gtb := gk3 133 rfl rfl
theorem se_X8_isPane : Cond.selects RX8 yX8_isPane yX8_isPane ∈ gtb := g_priv (yX8_isPane, 11) (show (yX8_isPane, 11) ∈ lw_privs from List.mem_append_right _ (List.mem_append_left _ (show (yX8_isPane, 11) ∈ lw_privs_2 from List.mem_of_getElem? (i := 8) rfl))) rfl rfl
theorem mi_X8_isWord : gMi yX8_isWord cX8_isWord 2 (some .boolean) 1 := ⟨in_X8, gk3 160 rfl rfl, ⟨by decide, by decide, by decide +kernel⟩, by decide⟩
theorem im_X8_isWord : Cond.instanceMethod yX8_isWord ∈ gtb := gk3 159 rfl rfl
theorem se_X8_isWord : Cond.selects RX8 yX8_isWord yX8_isWord ∈ gtb := g_priv (yX8_isWord, 11) (show (yX8_isWord, 11) ∈ lw_privs from List.mem_append_right _ (List.mem_append_left _ (show (yX8_isWord, 11) ∈ lw_privs_2 from List.mem_of_getElem? (i := 9) rfl))) rfl rfl
theorem mi_X8_isView : gMi yX8_isView cX8_isView 2 (some .boolean) 1 := ⟨in_X8, gk3 168 rfl rfl, ⟨by decide, by decide, by decide +kernel⟩, by decide⟩
theorem im_X8_isView : Cond.instanceMethod yX8_isView ∈ gtb := gk3 167 rfl rfl
theorem se_X8_isView : Cond.selects RX8 yX8_isView yX8_isView ∈ gtb := g_priv (yX8_isView, 11) (show (yX8_isView, 11) ∈ lw_privs from List.mem_append_right _ (List.mem_append_left _ (show (yX8_isView, 11) ∈ lw_privs_2 from List.mem_of_getElem? (i := 10) rfl))) rfl rfl
theorem mi_X8_isSight : gMi yX8_isSight cX8_isSight 2 (some .boolean) 1 := ⟨in_X8, gk3 176 rfl rfl, ⟨by decide, by decide, by decide +kernel⟩, by decide⟩
theorem im_X8_isSight : Cond.instanceMethod yX8_isSight ∈ gtb := gk3 175 rfl rfl
theorem se_X8_isSight : Cond.selects RX8 yX8_isSight yX8_isSight ∈ gtb := g_priv (yX8_isSight, 11) (show (yX8_isSight, 11) ∈ lw_privs from List.mem_append_right _ (List.mem_append_left _ (show (yX8_isSight, 11) ∈ lw_privs_2 from List.mem_of_getElem? (i := 11) rfl))) rfl rfl
theorem mi_X8_isCorner : gMi yX8_isCorner cX8_isCorner 2 (some .boolean) 1 := ⟨in_X8, gk4 0 rfl rfl, ⟨by decide, by decide, by decide +kernel⟩, by decide⟩
theorem im_X8_isCorner : Cond.instanceMethod yX8_isCorner ∈ gtb := gk3 239 rfl rfl
theorem se_X8_isCorner : Cond.selects RX8 yX8_isCorner yX8_isCorner ∈ gtb := g_priv (yX8_isCorner, 11) (show (yX8_isCorner, 11) ∈ lw_privs from List.mem_append_right _ (List.mem_append_left _ (show (yX8_isCorner, 11) ∈ lw_privs_2 from List.mem_of_getElem? (i := 14) rfl))) rfl rfl
theorem mi_X8_isLetter : gMi yX8_isLetter cX8_isLetter 2 (some .boolean) 1 := ⟨in_X8, gk4 81 rfl rfl, ⟨by decide, by decide, by decide +kernel⟩, by decide⟩
theorem im_X8_isLetter : Cond.instanceMethod yX8_isLetter ∈ gtb := gk4 80 rfl rfl
theorem se_X8_isLetter : Cond.selects RX8 yX8_isLetter yX8_isLetter ∈ gtb := g_priv (yX8_isLetter, 11) (show (yX8_isLetter, 11) ∈ lw_privs from List.mem_append_right _ (List.mem_append_right _ (List.mem_append_left _ (show (yX8_isLetter, 11) ∈ lw_privs_3 from List.mem_of_getElem? (i := 6) rfl)))) rfl rfl
theorem mi_X8_isCell : gMi yX8_isCell cX8_isCell 2 (some .boolean) 1 := ⟨in_X8, gk5 54 rfl rfl, ⟨by decide, by decide, by decide +kernel⟩, by decide⟩
theorem im_X8_isCell : Cond.instanceMethod yX8_isCell ∈ gtb := gk5 53 rfl rfl
theorem se_X8_isCell : Cond.selects RX8 yX8_isCell yX8_isCell ∈ gtb := g_priv (yX8_isCell, 11) (show (yX8_isCell, 11) ∈ lw_privs from List.mem_append_right _ (List.mem_append_right _ (List.mem_append_right _ (List.mem_append_left _ (show (yX8_isCell, 11) ∈ lw_privs_4 from List.mem_of_getElem? (i := 1) rfl))))) rfl rfl
theorem mi_X8_whyNot : gMi yX8_whyNot cX8_whyNot 3 (some .int) 2 := ⟨in_X8, gk3 180 rfl rfl, ⟨by decide, by decide, by decide +kernel⟩, by decide⟩
theorem im_X8_whyNot : Cond.instanceMethod yX8_whyNot ∈ gtb := gk3 179 rfl rfl
theorem se_X8_whyNot : Cond.selects RX8 yX8_whyNot yX8_whyNot ∈ gtb := g_priv (yX8_whyNot, 11) (show (yX8_whyNot, 11) ∈ lw_privs from List.mem_append_right _ (List.mem_append_left _ (show (yX8_whyNot, 11) ∈ lw_privs_2 from List.mem_of_getElem? (i := 12) rfl))) rfl rfl
theorem mi_X8_whyNotBoth : gMi yX8_whyNotBoth cX8_whyNotBoth 4 (some .int) 2 := ⟨in_X8, gk3 209 rfl rfl, ⟨by decide, by decide, by decide +kernel⟩, by decide⟩
theorem im_X8_whyNotBoth : Cond.instanceMethod yX8_whyNotBoth ∈ gtb := gk3 208 rfl rfl
theorem se_X8_whyNotBoth : Cond.selects RX8 yX8_whyNotBoth yX8_whyNotBoth ∈ gtb := g_priv (yX8_whyNotBoth, 11) (show (yX8_whyNotBoth, 11) ∈ lw_privs from List.mem_append_right _ (List.mem_append_left _ (show (yX8_whyNotBoth, 11) ∈ lw_privs_2 from List.mem_of_getElem? (i := 13) rfl))) rfl rfl
theorem mi_X8_whyNotSafest : gMi yX8_whyNotSafest cX8_whyNotSafest 5 (some .int) 3 := ⟨in_X8, gk4 61 rfl rfl, ⟨by decide, by decide, by decide +kernel⟩, by decide⟩
theorem im_X8_whyNotSafest : Cond.instanceMethod yX8_whyNotSafest ∈ gtb := gk4 60 rfl rfl
theorem se_X8_whyNotSafest : Cond.selects RX8 yX8_whyNotSafest yX8_whyNotSafest ∈ gtb := g_priv (yX8_whyNotSafest, 11) (show (yX8_whyNotSafest, 11) ∈ lw_privs from List.mem_append_right _ (List.mem_append_right _ (List.mem_append_left _ (show (yX8_whyNotSafest, 11) ∈ lw_privs_3 from List.mem_of_getElem? (i := 5) rfl)))) rfl rfl
theorem mi_X8_whyNotMade : gMi yX8_whyNotMade cX8_whyNotMade 7 (some .int) 5 := ⟨in_X8, gk4 113 rfl rfl, ⟨by decide, by decide, by decide +kernel⟩, by decide⟩
theorem im_X8_whyNotMade : Cond.instanceMethod yX8_whyNotMade ∈ gtb := gk4 112 rfl rfl
theorem se_X8_whyNotMade : Cond.selects RX8 yX8_whyNotMade yX8_whyNotMade ∈ gtb := g_priv (yX8_whyNotMade, 11) (show (yX8_whyNotMade, 11) ∈ lw_privs from List.mem_append_right _ (List.mem_append_right _ (List.mem_append_left _ (show (yX8_whyNotMade, 11) ∈ lw_privs_3 from List.mem_of_getElem? (i := 9) rfl)))) rfl rfl
theorem mi_X8_whyNoDays : gMi yX8_whyNoDays cX8_whyNoDays 3 (some .int) 2 := ⟨in_X8, gk5 23 rfl rfl, ⟨by decide, by decide, by decide +kernel⟩, by decide⟩
theorem im_X8_whyNoDays : Cond.instanceMethod yX8_whyNoDays ∈ gtb := gk5 22 rfl rfl
theorem se_X8_whyNoDays : Cond.selects RX8 yX8_whyNoDays yX8_whyNoDays ∈ gtb := g_priv (yX8_whyNoDays, 11) (show (yX8_whyNoDays, 11) ∈ lw_privs from List.mem_append_right _ (List.mem_append_right _ (List.mem_append_left _ (show (yX8_whyNoDays, 11) ∈ lw_privs_3 from List.mem_of_getElem? (i := 13) rfl)))) rfl rfl
theorem mi_X8_act : gMi yX8_act cX8_act 5 (some .boolean) 4 := ⟨in_X8, gk5 59 rfl rfl, ⟨by decide, by decide, by decide +kernel⟩, by decide⟩
theorem im_X8_act : Cond.instanceMethod yX8_act ∈ gtb := gk5 58 rfl rfl
theorem se_X8_act : Cond.selects RX8 yX8_act yX8_act ∈ gtb := g_priv (yX8_act, 11) (show (yX8_act, 11) ∈ lw_privs from List.mem_append_right _ (List.mem_append_right _ (List.mem_append_right _ (List.mem_append_left _ (show (yX8_act, 11) ∈ lw_privs_4 from List.mem_of_getElem? (i := 2) rfl))))) rfl rfl
theorem mi_X8_soonestMinutes : gMi yX8_soonestMinutes cX8_soonestMinutes 4 (some .int) 3 := ⟨in_X8, gk4 4 rfl rfl, ⟨by decide, by decide, by decide +kernel⟩, by decide⟩
theorem im_X8_soonestMinutes : Cond.instanceMethod yX8_soonestMinutes ∈ gtb := gk4 3 rfl rfl
theorem se_X8_soonestMinutes : Cond.selects RX8 yX8_soonestMinutes yX8_soonestMinutes ∈ gtb := g_priv (yX8_soonestMinutes, 11) (show (yX8_soonestMinutes, 11) ∈ lw_privs from List.mem_append_right _ (List.mem_append_left _ (show (yX8_soonestMinutes, 11) ∈ lw_privs_2 from List.mem_of_getElem? (i := 15) rfl))) rfl rfl
theorem mi_X8_cornerOfWay : gMi yX8_cornerOfWay cX8_cornerOfWay 2 (some .int) 1 := ⟨in_X8, gk4 39 rfl rfl, ⟨by decide, by decide, by decide +kernel⟩, by decide⟩
theorem im_X8_cornerOfWay : Cond.instanceMethod yX8_cornerOfWay ∈ gtb := gk4 38 rfl rfl
theorem se_X8_cornerOfWay : Cond.selects RX8 yX8_cornerOfWay yX8_cornerOfWay ∈ gtb := g_priv (yX8_cornerOfWay, 11) (show (yX8_cornerOfWay, 11) ∈ lw_privs from List.mem_append_right _ (List.mem_append_right _ (List.mem_append_left _ (show (yX8_cornerOfWay, 11) ∈ lw_privs_3 from List.mem_of_getElem? (i := 4) rfl)))) rfl rfl
theorem mi_X8_readersOf : gMi yX8_readersOf cX8_readersOf 3 (some .int) 1 := ⟨in_X8, gk4 89 rfl rfl, ⟨by decide, by decide, by decide +kernel⟩, by decide⟩
theorem im_X8_readersOf : Cond.instanceMethod yX8_readersOf ∈ gtb := gk4 88 rfl rfl
theorem se_X8_readersOf : Cond.selects RX8 yX8_readersOf yX8_readersOf ∈ gtb := g_priv (yX8_readersOf, 11) (show (yX8_readersOf, 11) ∈ lw_privs from List.mem_append_right _ (List.mem_append_right _ (List.mem_append_left _ (show (yX8_readersOf, 11) ∈ lw_privs_3 from List.mem_of_getElem? (i := 7) rfl)))) rfl rfl
theorem mi_X9_init : gMi yX9_init cX9_init 1 none 0 := ⟨in_X9, gk6 73 rfl rfl, ⟨by decide, by decide, by decide +kernel⟩, by decide⟩
theorem im_X9_init : Cond.instanceMethod yX9_init ∈ gtb := gk6 72 rfl rfl
theorem mi_X9_find : gMi yX9_find cX9_find 4 (some .int) 1 := ⟨in_X9, gk7 43 rfl rfl, ⟨by decide, by decide, by decide +kernel⟩, by decide⟩
theorem im_X9_find : Cond.instanceMethod yX9_find ∈ gtb := gk7 41 rfl rfl
theorem se_X9_find : Cond.selects RX9 yX9_find yX9_find ∈ gtb := gk7 42 rfl rfl
theorem mi_X9_cells : gMi yX9_cells cX9_cells 1 (some .int) 0 := ⟨in_X9, gk7 145 rfl rfl, ⟨by decide, by decide, by decide +kernel⟩, by decide⟩
theorem im_X9_cells : Cond.instanceMethod yX9_cells ∈ gtb := gk7 143 rfl rfl
theorem se_X9_cells : Cond.selects RX9 yX9_cells yX9_cells ∈ gtb := gk7 144 rfl rfl
theorem mi_X9_all : gMi yX9_all cX9_all 1 (some .int) 0 := ⟨in_X9, gk8 113 rfl rfl, ⟨by decide, by decide, by decide +kernel⟩, by decide⟩
theorem im_X9_all : Cond.instanceMethod yX9_all ∈ gtb := gk8 111 rfl rfl
theorem se_X9_all : Cond.selects RX9 yX9_all yX9_all ∈ gtb := gk8 112 rfl rfl
theorem mi_X9_isThief : gMi yX9_isThief cX9_isThief 2 (some .boolean) 1 := ⟨in_X9, gk7 94 rfl rfl, ⟨by decide, by decide, by decide +kernel⟩, by decide⟩
theorem im_X9_isThief : Cond.instanceMethod yX9_isThief ∈ gtb := gk7 92 rfl rfl
theorem se_X9_isThief : Cond.selects RX9 yX9_isThief yX9_isThief ∈ gtb := gk7 93 rfl rfl
theorem mi_X10_init : gMi yX10_init cX10_init 1 none 0 := ⟨in_X10, gk5 185 rfl rfl, ⟨by decide, by decide, by decide +kernel⟩, by decide⟩
theorem im_X10_init : Cond.instanceMethod yX10_init ∈ gtb := gk5 184 rfl rfl
theorem mi_X10_thrown : gMi yX10_thrown cX10_thrown 1 (some .int) 0 := ⟨in_X10, gk6 56 rfl rfl, ⟨by decide, by decide, by decide +kernel⟩, by decide⟩
theorem im_X10_thrown : Cond.instanceMethod yX10_thrown ∈ gtb := gk6 54 rfl rfl
theorem se_X10_thrown : Cond.selects RX10 yX10_thrown yX10_thrown ∈ gtb := gk6 55 rfl rfl
theorem mi_X10_refused : gMi yX10_refused cX10_refused 2 (some .int) 1 := ⟨in_X10, gk6 68 rfl rfl, ⟨by decide, by decide, by decide +kernel⟩, by decide⟩
theorem im_X10_refused : Cond.instanceMethod yX10_refused ∈ gtb := gk6 67 rfl rfl
theorem se_X10_refused : Cond.selects RX10 yX10_refused yX10_refused ∈ gtb := g_priv (yX10_refused, 35) (show (yX10_refused, 35) ∈ lw_privs from List.mem_append_right _ (List.mem_append_right _ (List.mem_append_right _ (List.mem_append_left _ (show (yX10_refused, 35) ∈ lw_privs_4 from List.mem_of_getElem? (i := 6) rfl))))) rfl rfl
theorem mi_X10_lost : gMi yX10_lost cX10_lost 2 (some .int) 1 := ⟨in_X10, gk8 161 rfl rfl, ⟨by decide, by decide, by decide +kernel⟩, by decide⟩
theorem im_X10_lost : Cond.instanceMethod yX10_lost ∈ gtb := gk8 160 rfl rfl
theorem se_X10_lost : Cond.selects RX10 yX10_lost yX10_lost ∈ gtb := g_priv (yX10_lost, 35) (show (yX10_lost, 35) ∈ lw_privs from List.mem_append_right _ (List.mem_append_right _ (List.mem_append_right _ (List.mem_append_right _ (List.mem_append_right _ (List.mem_append_right _ (List.mem_append_right _ ((show (yX10_lost, 35) ∈ lw_privs_8 from List.mem_of_getElem? (i := 5) rfl))))))))) rfl rfl
theorem mi_X10_denied : gMi yX10_denied cX10_denied 2 (some .boolean) 1 := ⟨in_X10, gk8 216 rfl rfl, ⟨by decide, by decide, by decide +kernel⟩, by decide⟩
theorem im_X10_denied : Cond.instanceMethod yX10_denied ∈ gtb := gk8 215 rfl rfl
theorem se_X10_denied : Cond.selects RX10 yX10_denied yX10_denied ∈ gtb := g_priv (yX10_denied, 35) (show (yX10_denied, 35) ∈ lw_privs from List.mem_append_right _ (List.mem_append_right _ (List.mem_append_right _ (List.mem_append_right _ (List.mem_append_right _ (List.mem_append_right _ (List.mem_append_right _ ((show (yX10_denied, 35) ∈ lw_privs_8 from List.mem_of_getElem? (i := 12) rfl))))))))) rfl rfl
theorem mi_X10_good : gMi yX10_good cX10_good 2 (some .int) 1 := ⟨in_X10, gk7 114 rfl rfl, ⟨by decide, by decide, by decide +kernel⟩, by decide⟩
theorem im_X10_good : Cond.instanceMethod yX10_good ∈ gtb := gk7 113 rfl rfl
theorem se_X10_good : Cond.selects RX10 yX10_good yX10_good ∈ gtb := g_priv (yX10_good, 35) (show (yX10_good, 35) ∈ lw_privs from List.mem_append_right _ (List.mem_append_right _ (List.mem_append_right _ (List.mem_append_right _ (List.mem_append_right _ (List.mem_append_left _ (show (yX10_good, 35) ∈ lw_privs_6 from List.mem_of_getElem? (i := 5) rfl))))))) rfl rfl
theorem mi_X10_granted : gMi yX10_granted cX10_granted 1 (some .boolean) 0 := ⟨in_X10, gk8 224 rfl rfl, ⟨by decide, by decide, by decide +kernel⟩, by decide⟩
theorem im_X10_granted : Cond.instanceMethod yX10_granted ∈ gtb := gk8 223 rfl rfl
theorem se_X10_granted : Cond.selects RX10 yX10_granted yX10_granted ∈ gtb := g_priv (yX10_granted, 35) (show (yX10_granted, 35) ∈ lw_privs from List.mem_append_right _ (List.mem_append_right _ (List.mem_append_right _ (List.mem_append_right _ (List.mem_append_right _ (List.mem_append_right _ (List.mem_append_right _ ((show (yX10_granted, 35) ∈ lw_privs_8 from List.mem_of_getElem? (i := 14) rfl))))))))) rfl rfl
theorem mi_X10_in : gMi yX10_in cX10_in 3 (some .boolean) 3 := ⟨in_X10, gk7 10 rfl rfl, ⟨by decide, by decide, by decide +kernel⟩, by decide⟩
theorem sm_X10_in : Cond.static yX10_in ∈ gtb := gk7 9 rfl rfl
theorem mi_X10_bit : gMi yX10_bit cX10_bit 2 (some .boolean) 2 := ⟨in_X10, gk7 137 rfl rfl, ⟨by decide, by decide, by decide +kernel⟩, by decide⟩
theorem sm_X10_bit : Cond.static yX10_bit ∈ gtb := gk7 136 rfl rfl
theorem mi_X10_bits : gMi yX10_bits cX10_bits 3 (some .int) 1 := ⟨in_X10, gk7 148 rfl rfl, ⟨by decide, by decide, by decide +kernel⟩, by decide⟩
theorem sm_X10_bits : Cond.static yX10_bits ∈ gtb := gk7 147 rfl rfl
theorem mi_X10_common : gMi yX10_common cX10_common 10 (some .long) 2 := ⟨in_X10, gk8 29 rfl rfl, ⟨by decide, by decide, by decide +kernel⟩, by decide⟩
theorem sm_X10_common : Cond.static yX10_common ∈ gtb := gk8 28 rfl rfl
theorem mi_X10_fraction : gMi yX10_fraction cX10_fraction 6 (some .long) 3 := ⟨in_X10, gk8 26 rfl rfl, ⟨by decide, by decide, by decide +kernel⟩, by decide⟩
theorem im_X10_fraction : Cond.instanceMethod yX10_fraction ∈ gtb := gk8 25 rfl rfl
theorem se_X10_fraction : Cond.selects RX10 yX10_fraction yX10_fraction ∈ gtb := g_priv (yX10_fraction, 35) (show (yX10_fraction, 35) ∈ lw_privs from List.mem_append_right _ (List.mem_append_right _ (List.mem_append_right _ (List.mem_append_right _ (List.mem_append_right _ (List.mem_append_right _ (List.mem_append_left _ (show (yX10_fraction, 35) ∈ lw_privs_7 from List.mem_of_getElem? (i := 8) rfl)))))))) rfl rfl
theorem mi_X10_byteAt : gMi yX10_byteAt cX10_byteAt 2 (some .int) 1 := ⟨in_X10, gk6 197 rfl rfl, ⟨by decide, by decide, by decide +kernel⟩, by decide⟩
theorem im_X10_byteAt : Cond.instanceMethod yX10_byteAt ∈ gtb := gk6 196 rfl rfl
theorem se_X10_byteAt : Cond.selects RX10 yX10_byteAt yX10_byteAt ∈ gtb := g_priv (yX10_byteAt, 35) (show (yX10_byteAt, 35) ∈ lw_privs from List.mem_append_right _ (List.mem_append_right _ (List.mem_append_right _ (List.mem_append_left _ (show (yX10_byteAt, 35) ∈ lw_privs_4 from List.mem_of_getElem? (i := 8) rfl))))) rfl rfl
theorem mi_X10_isLetter : gMi yX10_isLetter cX10_isLetter 1 (some .boolean) 1 := ⟨in_X10, gk6 200 rfl rfl, ⟨by decide, by decide, by decide +kernel⟩, by decide⟩
theorem sm_X10_isLetter : Cond.static yX10_isLetter ∈ gtb := gk6 199 rfl rfl
theorem mi_X10_isDigit : gMi yX10_isDigit cX10_isDigit 1 (some .boolean) 1 := ⟨in_X10, gk6 204 rfl rfl, ⟨by decide, by decide, by decide +kernel⟩, by decide⟩
theorem sm_X10_isDigit : Cond.static yX10_isDigit ∈ gtb := gk6 203 rfl rfl
theorem mi_X10_packed : gMi yX10_packed cX10_packed 4 (some .long) 1 := ⟨in_X10, gk6 220 rfl rfl, ⟨by decide, by decide, by decide +kernel⟩, by decide⟩
theorem sm_X10_packed : Cond.static yX10_packed ∈ gtb := gk6 219 rfl rfl
theorem mi_X10_goesOn : gMi yX10_goesOn cX10_goesOn 3 none 0 := ⟨in_X10, gk6 193 rfl rfl, ⟨by decide, by decide, by decide +kernel⟩, by decide⟩
theorem im_X10_goesOn : Cond.instanceMethod yX10_goesOn ∈ gtb := gk6 192 rfl rfl
theorem se_X10_goesOn : Cond.selects RX10 yX10_goesOn yX10_goesOn ∈ gtb := g_priv (yX10_goesOn, 35) (show (yX10_goesOn, 35) ∈ lw_privs from List.mem_append_right _ (List.mem_append_right _ (List.mem_append_right _ (List.mem_append_left _ (show (yX10_goesOn, 35) ∈ lw_privs_4 from List.mem_of_getElem? (i := 7) rfl))))) rfl rfl
theorem mi_X10_flaw : gMi yX10_flaw cX10_flaw 2 none 1 := ⟨in_X10, gk6 230 rfl rfl, ⟨by decide, by decide, by decide +kernel⟩, by decide⟩
theorem im_X10_flaw : Cond.instanceMethod yX10_flaw ∈ gtb := gk6 229 rfl rfl
theorem se_X10_flaw : Cond.selects RX10 yX10_flaw yX10_flaw ∈ gtb := g_priv (yX10_flaw, 35) (show (yX10_flaw, 35) ∈ lw_privs from List.mem_append_right _ (List.mem_append_right _ (List.mem_append_right _ (List.mem_append_left _ (show (yX10_flaw, 35) ∈ lw_privs_4 from List.mem_of_getElem? (i := 13) rfl))))) rfl rfl
theorem mi_X10_flawAt : gMi yX10_flawAt cX10_flawAt 3 none 2 := ⟨in_X10, gk6 234 rfl rfl, ⟨by decide, by decide, by decide +kernel⟩, by decide⟩
theorem im_X10_flawAt : Cond.instanceMethod yX10_flawAt ∈ gtb := gk6 233 rfl rfl
theorem se_X10_flawAt : Cond.selects RX10 yX10_flawAt yX10_flawAt ∈ gtb := g_priv (yX10_flawAt, 35) (show (yX10_flawAt, 35) ∈ lw_privs from List.mem_append_right _ (List.mem_append_right _ (List.mem_append_right _ (List.mem_append_left _ (show (yX10_flawAt, 35) ∈ lw_privs_4 from List.mem_of_getElem? (i := 14) rfl))))) rfl rfl
theorem mi_X10_isWord : gMi yX10_isWord cX10_isWord 2 (some .boolean) 1 := ⟨in_X10, gk6 217 rfl rfl, ⟨by decide, by decide, by decide +kernel⟩, by decide⟩
theorem im_X10_isWord : Cond.instanceMethod yX10_isWord ∈ gtb := gk6 216 rfl rfl
theorem se_X10_isWord : Cond.selects RX10 yX10_isWord yX10_isWord ∈ gtb := g_priv (yX10_isWord, 35) (show (yX10_isWord, 35) ∈ lw_privs from List.mem_append_right _ (List.mem_append_right _ (List.mem_append_right _ (List.mem_append_left _ (show (yX10_isWord, 35) ∈ lw_privs_4 from List.mem_of_getElem? (i := 11) rfl))))) rfl rfl
theorem mi_X10_isSign : gMi yX10_isSign cX10_isSign 2 (some .boolean) 1 := ⟨in_X10, gk7 57 rfl rfl, ⟨by decide, by decide, by decide +kernel⟩, by decide⟩
theorem im_X10_isSign : Cond.instanceMethod yX10_isSign ∈ gtb := gk7 56 rfl rfl
theorem se_X10_isSign : Cond.selects RX10 yX10_isSign yX10_isSign ∈ gtb := g_priv (yX10_isSign, 35) (show (yX10_isSign, 35) ∈ lw_privs from List.mem_append_right _ (List.mem_append_right _ (List.mem_append_right _ (List.mem_append_right _ (List.mem_append_left _ (show (yX10_isSign, 35) ∈ lw_privs_5 from List.mem_of_getElem? (i := 8) rfl)))))) rfl rfl
theorem mi_X10_eatsSign : gMi yX10_eatsSign cX10_eatsSign 3 (some .boolean) 1 := ⟨in_X10, gk7 53 rfl rfl, ⟨by decide, by decide, by decide +kernel⟩, by decide⟩
theorem im_X10_eatsSign : Cond.instanceMethod yX10_eatsSign ∈ gtb := gk7 52 rfl rfl
theorem se_X10_eatsSign : Cond.selects RX10 yX10_eatsSign yX10_eatsSign ∈ gtb := g_priv (yX10_eatsSign, 35) (show (yX10_eatsSign, 35) ∈ lw_privs from List.mem_append_right _ (List.mem_append_right _ (List.mem_append_right _ (List.mem_append_right _ (List.mem_append_left _ (show (yX10_eatsSign, 35) ∈ lw_privs_5 from List.mem_of_getElem? (i := 7) rfl)))))) rfl rfl
theorem mi_X10_needs : gMi yX10_needs cX10_needs 2 none 1 := ⟨in_X10, gk7 3 rfl rfl, ⟨by decide, by decide, by decide +kernel⟩, by decide⟩
theorem im_X10_needs : Cond.instanceMethod yX10_needs ∈ gtb := gk7 2 rfl rfl
theorem se_X10_needs : Cond.selects RX10 yX10_needs yX10_needs ∈ gtb := g_priv (yX10_needs, 35) (show (yX10_needs, 35) ∈ lw_privs from List.mem_append_right _ (List.mem_append_right _ (List.mem_append_right _ (List.mem_append_right _ (List.mem_append_left _ (show (yX10_needs, 35) ∈ lw_privs_5 from List.mem_of_getElem? (i := 0) rfl)))))) rfl rfl
theorem mi_X10_readWhole : gMi yX10_readWhole cX10_readWhole 4 (some .int) 2 := ⟨in_X10, gk7 7 rfl rfl, ⟨by decide, by decide, by decide +kernel⟩, by decide⟩
theorem im_X10_readWhole : Cond.instanceMethod yX10_readWhole ∈ gtb := gk7 6 rfl rfl
theorem se_X10_readWhole : Cond.selects RX10 yX10_readWhole yX10_readWhole ∈ gtb := g_priv (yX10_readWhole, 35) (show (yX10_readWhole, 35) ∈ lw_privs from List.mem_append_right _ (List.mem_append_right _ (List.mem_append_right _ (List.mem_append_right _ (List.mem_append_left _ (show (yX10_readWhole, 35) ∈ lw_privs_5 from List.mem_of_getElem? (i := 1) rfl)))))) rfl rfl
theorem mi_X10_readPart : gMi yX10_readPart cX10_readPart 4 (some .int) 3 := ⟨in_X10, gk6 239 rfl rfl, ⟨by decide, by decide, by decide +kernel⟩, by decide⟩
theorem im_X10_readPart : Cond.instanceMethod yX10_readPart ∈ gtb := gk6 238 rfl rfl
theorem se_X10_readPart : Cond.selects RX10 yX10_readPart yX10_readPart ∈ gtb := g_priv (yX10_readPart, 35) (show (yX10_readPart, 35) ∈ lw_privs from List.mem_append_right _ (List.mem_append_right _ (List.mem_append_right _ (List.mem_append_left _ (show (yX10_readPart, 35) ∈ lw_privs_4 from List.mem_of_getElem? (i := 15) rfl))))) rfl rfl
theorem mi_X10_isName : gMi yX10_isName cX10_isName 1 (some .boolean) 0 := ⟨in_X10, gk7 30 rfl rfl, ⟨by decide, by decide, by decide +kernel⟩, by decide⟩
theorem im_X10_isName : Cond.instanceMethod yX10_isName ∈ gtb := gk7 29 rfl rfl
theorem se_X10_isName : Cond.selects RX10 yX10_isName yX10_isName ∈ gtb := g_priv (yX10_isName, 35) (show (yX10_isName, 35) ∈ lw_privs from List.mem_append_right _ (List.mem_append_right _ (List.mem_append_right _ (List.mem_append_right _ (List.mem_append_left _ (show (yX10_isName, 35) ∈ lw_privs_5 from List.mem_of_getElem? (i := 5) rfl)))))) rfl rfl
theorem mi_X10_begins : gMi yX10_begins cX10_begins 3 none 2 := ⟨in_X10, gk7 22 rfl rfl, ⟨by decide, by decide, by decide +kernel⟩, by decide⟩
theorem im_X10_begins : Cond.instanceMethod yX10_begins ∈ gtb := gk7 21 rfl rfl
theorem se_X10_begins : Cond.selects RX10 yX10_begins yX10_begins ∈ gtb := g_priv (yX10_begins, 35) (show (yX10_begins, 35) ∈ lw_privs from List.mem_append_right _ (List.mem_append_right _ (List.mem_append_right _ (List.mem_append_right _ (List.mem_append_left _ (show (yX10_begins, 35) ∈ lw_privs_5 from List.mem_of_getElem? (i := 3) rfl)))))) rfl rfl
theorem mi_X10_readFresh : gMi yX10_readFresh cX10_readFresh 3 (some .long) 0 := ⟨in_X10, gk7 26 rfl rfl, ⟨by decide, by decide, by decide +kernel⟩, by decide⟩
theorem im_X10_readFresh : Cond.instanceMethod yX10_readFresh ∈ gtb := gk7 25 rfl rfl
theorem se_X10_readFresh : Cond.selects RX10 yX10_readFresh yX10_readFresh ∈ gtb := g_priv (yX10_readFresh, 35) (show (yX10_readFresh, 35) ∈ lw_privs from List.mem_append_right _ (List.mem_append_right _ (List.mem_append_right _ (List.mem_append_right _ (List.mem_append_left _ (show (yX10_readFresh, 35) ∈ lw_privs_5 from List.mem_of_getElem? (i := 4) rfl)))))) rfl rfl
theorem mi_X10_names : gMi yX10_names cX10_names 5 none 3 := ⟨in_X10, gk7 61 rfl rfl, ⟨by decide, by decide, by decide +kernel⟩, by decide⟩
theorem im_X10_names : Cond.instanceMethod yX10_names ∈ gtb := gk7 60 rfl rfl
theorem se_X10_names : Cond.selects RX10 yX10_names yX10_names ∈ gtb := g_priv (yX10_names, 35) (show (yX10_names, 35) ∈ lw_privs from List.mem_append_right _ (List.mem_append_right _ (List.mem_append_right _ (List.mem_append_right _ (List.mem_append_left _ (show (yX10_names, 35) ∈ lw_privs_5 from List.mem_of_getElem? (i := 9) rfl)))))) rfl rfl
theorem mi_X10_knownOne : gMi yX10_knownOne cX10_knownOne 3 (some .int) 1 := ⟨in_X10, gk7 81 rfl rfl, ⟨by decide, by decide, by decide +kernel⟩, by decide⟩
theorem im_X10_knownOne : Cond.instanceMethod yX10_knownOne ∈ gtb := gk7 80 rfl rfl
theorem se_X10_knownOne : Cond.selects RX10 yX10_knownOne yX10_knownOne ∈ gtb := g_priv (yX10_knownOne, 35) (show (yX10_knownOne, 35) ∈ lw_privs from List.mem_append_right _ (List.mem_append_right _ (List.mem_append_right _ (List.mem_append_right _ (List.mem_append_left _ (show (yX10_knownOne, 35) ∈ lw_privs_5 from List.mem_of_getElem? (i := 14) rfl)))))) rfl rfl
theorem mi_X10_readKnown : gMi yX10_readKnown cX10_readKnown 3 (some .int) 1 := ⟨in_X10, gk7 77 rfl rfl, ⟨by decide, by decide, by decide +kernel⟩, by decide⟩
theorem im_X10_readKnown : Cond.instanceMethod yX10_readKnown ∈ gtb := gk7 76 rfl rfl
theorem se_X10_readKnown : Cond.selects RX10 yX10_readKnown yX10_readKnown ∈ gtb := g_priv (yX10_readKnown, 35) (show (yX10_readKnown, 35) ∈ lw_privs from List.mem_append_right _ (List.mem_append_right _ (List.mem_append_right _ (List.mem_append_right _ (List.mem_append_left _ (show (yX10_readKnown, 35) ∈ lw_privs_5 from List.mem_of_getElem? (i := 13) rfl)))))) rfl rfl
theorem mi_X10_readRows : gMi yX10_readRows cX10_readRows 6 none 1 := ⟨in_X10, gk7 49 rfl rfl, ⟨by decide, by decide, by decide +kernel⟩, by decide⟩
theorem im_X10_readRows : Cond.instanceMethod yX10_readRows ∈ gtb := gk7 48 rfl rfl
theorem se_X10_readRows : Cond.selects RX10 yX10_readRows yX10_readRows ∈ gtb := g_priv (yX10_readRows, 35) (show (yX10_readRows, 35) ∈ lw_privs from List.mem_append_right _ (List.mem_append_right _ (List.mem_append_right _ (List.mem_append_right _ (List.mem_append_left _ (show (yX10_readRows, 35) ∈ lw_privs_5 from List.mem_of_getElem? (i := 6) rfl)))))) rfl rfl
theorem mi_X10_readAll : gMi yX10_readAll cX10_readAll 2 none 0 := ⟨in_X10, gk6 208 rfl rfl, ⟨by decide, by decide, by decide +kernel⟩, by decide⟩
theorem im_X10_readAll : Cond.instanceMethod yX10_readAll ∈ gtb := gk6 207 rfl rfl
theorem se_X10_readAll : Cond.selects RX10 yX10_readAll yX10_readAll ∈ gtb := g_priv (yX10_readAll, 35) (show (yX10_readAll, 35) ∈ lw_privs from List.mem_append_right _ (List.mem_append_right _ (List.mem_append_right _ (List.mem_append_left _ (show (yX10_readAll, 35) ∈ lw_privs_4 from List.mem_of_getElem? (i := 9) rfl))))) rfl rfl
theorem mi_X10_readLine : gMi yX10_readLine cX10_readLine 1 none 0 := ⟨in_X10, gk6 212 rfl rfl, ⟨by decide, by decide, by decide +kernel⟩, by decide⟩
theorem im_X10_readLine : Cond.instanceMethod yX10_readLine ∈ gtb := gk6 211 rfl rfl
theorem se_X10_readLine : Cond.selects RX10 yX10_readLine yX10_readLine ∈ gtb := g_priv (yX10_readLine, 35) (show (yX10_readLine, 35) ∈ lw_privs from List.mem_append_right _ (List.mem_append_right _ (List.mem_append_right _ (List.mem_append_left _ (show (yX10_readLine, 35) ∈ lw_privs_4 from List.mem_of_getElem? (i := 10) rfl))))) rfl rfl
theorem mi_X10_readCity : gMi yX10_readCity cX10_readCity 5 none 0 := ⟨in_X10, gk6 226 rfl rfl, ⟨by decide, by decide, by decide +kernel⟩, by decide⟩
theorem im_X10_readCity : Cond.instanceMethod yX10_readCity ∈ gtb := gk6 225 rfl rfl
theorem se_X10_readCity : Cond.selects RX10 yX10_readCity yX10_readCity ∈ gtb := g_priv (yX10_readCity, 35) (show (yX10_readCity, 35) ∈ lw_privs from List.mem_append_right _ (List.mem_append_right _ (List.mem_append_right _ (List.mem_append_left _ (show (yX10_readCity, 35) ∈ lw_privs_4 from List.mem_of_getElem? (i := 12) rfl))))) rfl rfl
theorem mi_X10_readPane : gMi yX10_readPane cX10_readPane 4 none 0 := ⟨in_X10, gk7 18 rfl rfl, ⟨by decide, by decide, by decide +kernel⟩, by decide⟩
theorem im_X10_readPane : Cond.instanceMethod yX10_readPane ∈ gtb := gk7 17 rfl rfl
theorem se_X10_readPane : Cond.selects RX10 yX10_readPane yX10_readPane ∈ gtb := g_priv (yX10_readPane, 35) (show (yX10_readPane, 35) ∈ lw_privs from List.mem_append_right _ (List.mem_append_right _ (List.mem_append_right _ (List.mem_append_right _ (List.mem_append_left _ (show (yX10_readPane, 35) ∈ lw_privs_5 from List.mem_of_getElem? (i := 2) rfl)))))) rfl rfl
theorem mi_X10_readWordLine : gMi yX10_readWordLine cX10_readWordLine 3 none 0 := ⟨in_X10, gk7 65 rfl rfl, ⟨by decide, by decide, by decide +kernel⟩, by decide⟩
theorem im_X10_readWordLine : Cond.instanceMethod yX10_readWordLine ∈ gtb := gk7 64 rfl rfl
theorem se_X10_readWordLine : Cond.selects RX10 yX10_readWordLine yX10_readWordLine ∈ gtb := g_priv (yX10_readWordLine, 35) (show (yX10_readWordLine, 35) ∈ lw_privs from List.mem_append_right _ (List.mem_append_right _ (List.mem_append_right _ (List.mem_append_right _ (List.mem_append_left _ (show (yX10_readWordLine, 35) ∈ lw_privs_5 from List.mem_of_getElem? (i := 10) rfl)))))) rfl rfl
theorem mi_X10_readView : gMi yX10_readView cX10_readView 3 none 0 := ⟨in_X10, gk7 69 rfl rfl, ⟨by decide, by decide, by decide +kernel⟩, by decide⟩
theorem im_X10_readView : Cond.instanceMethod yX10_readView ∈ gtb := gk7 68 rfl rfl
theorem se_X10_readView : Cond.selects RX10 yX10_readView yX10_readView ∈ gtb := g_priv (yX10_readView, 35) (show (yX10_readView, 35) ∈ lw_privs from List.mem_append_right _ (List.mem_append_right _ (List.mem_append_right _ (List.mem_append_right _ (List.mem_append_left _ (show (yX10_readView, 35) ∈ lw_privs_5 from List.mem_of_getElem? (i := 11) rfl)))))) rfl rfl
theorem mi_X10_readCorner : gMi yX10_readCorner cX10_readCorner 4 none 0 := ⟨in_X10, gk7 73 rfl rfl, ⟨by decide, by decide, by decide +kernel⟩, by decide⟩
theorem im_X10_readCorner : Cond.instanceMethod yX10_readCorner ∈ gtb := gk7 72 rfl rfl
theorem se_X10_readCorner : Cond.selects RX10 yX10_readCorner yX10_readCorner ∈ gtb := g_priv (yX10_readCorner, 35) (show (yX10_readCorner, 35) ∈ lw_privs from List.mem_append_right _ (List.mem_append_right _ (List.mem_append_right _ (List.mem_append_right _ (List.mem_append_left _ (show (yX10_readCorner, 35) ∈ lw_privs_5 from List.mem_of_getElem? (i := 12) rfl)))))) rfl rfl
theorem mi_X10_readStreet : gMi yX10_readStreet cX10_readStreet 5 none 0 := ⟨in_X10, gk7 85 rfl rfl, ⟨by decide, by decide, by decide +kernel⟩, by decide⟩
theorem im_X10_readStreet : Cond.instanceMethod yX10_readStreet ∈ gtb := gk7 84 rfl rfl
theorem se_X10_readStreet : Cond.selects RX10 yX10_readStreet yX10_readStreet ∈ gtb := g_priv (yX10_readStreet, 35) (show (yX10_readStreet, 35) ∈ lw_privs from List.mem_append_right _ (List.mem_append_right _ (List.mem_append_right _ (List.mem_append_right _ (List.mem_append_left _ (show (yX10_readStreet, 35) ∈ lw_privs_5 from List.mem_of_getElem? (i := 15) rfl)))))) rfl rfl
theorem mi_X10_readThief : gMi yX10_readThief cX10_readThief 2 none 0 := ⟨in_X10, gk7 90 rfl rfl, ⟨by decide, by decide, by decide +kernel⟩, by decide⟩
theorem im_X10_readThief : Cond.instanceMethod yX10_readThief ∈ gtb := gk7 89 rfl rfl
theorem se_X10_readThief : Cond.selects RX10 yX10_readThief yX10_readThief ∈ gtb := g_priv (yX10_readThief, 35) (show (yX10_readThief, 35) ∈ lw_privs from List.mem_append_right _ (List.mem_append_right _ (List.mem_append_right _ (List.mem_append_right _ (List.mem_append_right _ (List.mem_append_left _ (show (yX10_readThief, 35) ∈ lw_privs_6 from List.mem_of_getElem? (i := 0) rfl))))))) rfl rfl
theorem mi_X10_readSent : gMi yX10_readSent cX10_readSent 4 none 0 := ⟨in_X10, gk7 98 rfl rfl, ⟨by decide, by decide, by decide +kernel⟩, by decide⟩
theorem im_X10_readSent : Cond.instanceMethod yX10_readSent ∈ gtb := gk7 97 rfl rfl
theorem se_X10_readSent : Cond.selects RX10 yX10_readSent yX10_readSent ∈ gtb := g_priv (yX10_readSent, 35) (show (yX10_readSent, 35) ∈ lw_privs from List.mem_append_right _ (List.mem_append_right _ (List.mem_append_right _ (List.mem_append_right _ (List.mem_append_right _ (List.mem_append_left _ (show (yX10_readSent, 35) ∈ lw_privs_6 from List.mem_of_getElem? (i := 1) rfl))))))) rfl rfl
theorem mi_X10_readPerson : gMi yX10_readPerson cX10_readPerson 3 none 0 := ⟨in_X10, gk7 102 rfl rfl, ⟨by decide, by decide, by decide +kernel⟩, by decide⟩
theorem im_X10_readPerson : Cond.instanceMethod yX10_readPerson ∈ gtb := gk7 101 rfl rfl
theorem se_X10_readPerson : Cond.selects RX10 yX10_readPerson yX10_readPerson ∈ gtb := g_priv (yX10_readPerson, 35) (show (yX10_readPerson, 35) ∈ lw_privs from List.mem_append_right _ (List.mem_append_right _ (List.mem_append_right _ (List.mem_append_right _ (List.mem_append_right _ (List.mem_append_left _ (show (yX10_readPerson, 35) ∈ lw_privs_6 from List.mem_of_getElem? (i := 2) rfl))))))) rfl rfl
theorem mi_X10_readShard : gMi yX10_readShard cX10_readShard 3 none 0 := ⟨in_X10, gk7 106 rfl rfl, ⟨by decide, by decide, by decide +kernel⟩, by decide⟩
theorem im_X10_readShard : Cond.instanceMethod yX10_readShard ∈ gtb := gk7 105 rfl rfl
theorem se_X10_readShard : Cond.selects RX10 yX10_readShard yX10_readShard ∈ gtb := g_priv (yX10_readShard, 35) (show (yX10_readShard, 35) ∈ lw_privs from List.mem_append_right _ (List.mem_append_right _ (List.mem_append_right _ (List.mem_append_right _ (List.mem_append_right _ (List.mem_append_left _ (show (yX10_readShard, 35) ∈ lw_privs_6 from List.mem_of_getElem? (i := 3) rfl))))))) rfl rfl
theorem mi_X10_readShelf : gMi yX10_readShelf cX10_readShelf 2 none 0 := ⟨in_X10, gk7 110 rfl rfl, ⟨by decide, by decide, by decide +kernel⟩, by decide⟩
theorem im_X10_readShelf : Cond.instanceMethod yX10_readShelf ∈ gtb := gk7 109 rfl rfl
theorem se_X10_readShelf : Cond.selects RX10 yX10_readShelf yX10_readShelf ∈ gtb := g_priv (yX10_readShelf, 35) (show (yX10_readShelf, 35) ∈ lw_privs from List.mem_append_right _ (List.mem_append_right _ (List.mem_append_right _ (List.mem_append_right _ (List.mem_append_right _ (List.mem_append_left _ (show (yX10_readShelf, 35) ∈ lw_privs_6 from List.mem_of_getElem? (i := 4) rfl))))))) rfl rfl
theorem mi_X10_feed : gMi yX10_feed cX10_feed 8 (some .int) 5 := ⟨in_X10, gk6 60 rfl rfl, ⟨by decide, by decide, by decide +kernel⟩, by decide⟩
theorem im_X10_feed : Cond.instanceMethod yX10_feed ∈ gtb := gk6 58 rfl rfl
theorem se_X10_feed : Cond.selects RX10 yX10_feed yX10_feed ∈ gtb := gk6 59 rfl rfl
theorem mi_X10_city : gMi yX10_city cX10_city 3 (some .int) 1 := ⟨in_X10, gk6 64 rfl rfl, ⟨by decide, by decide, by decide +kernel⟩, by decide⟩
theorem im_X10_city : Cond.instanceMethod yX10_city ∈ gtb := gk6 62 rfl rfl
theorem se_X10_city : Cond.selects RX10 yX10_city yX10_city ∈ gtb := gk6 63 rfl rfl
theorem mi_X10_fault : gMi yX10_fault cX10_fault 1 (some .int) 0 := ⟨in_X10, gk7 118 rfl rfl, ⟨by decide, by decide, by decide +kernel⟩, by decide⟩
theorem im_X10_fault : Cond.instanceMethod yX10_fault ∈ gtb := gk7 116 rfl rfl
theorem se_X10_fault : Cond.selects RX10 yX10_fault yX10_fault ∈ gtb := gk7 117 rfl rfl
theorem mi_X10_where : gMi yX10_where cX10_where 1 (some .int) 0 := ⟨in_X10, gk7 122 rfl rfl, ⟨by decide, by decide, by decide +kernel⟩, by decide⟩
theorem im_X10_where : Cond.instanceMethod yX10_where ∈ gtb := gk7 120 rfl rfl
theorem se_X10_where : Cond.selects RX10 yX10_where yX10_where ∈ gtb := gk7 121 rfl rfl
theorem mi_X10_isPane : gMi yX10_isPane cX10_isPane 2 (some .boolean) 1 := ⟨in_X10, gk7 130 rfl rfl, ⟨by decide, by decide, by decide +kernel⟩, by decide⟩
theorem im_X10_isPane : Cond.instanceMethod yX10_isPane ∈ gtb := gk7 129 rfl rfl
theorem se_X10_isPane : Cond.selects RX10 yX10_isPane yX10_isPane ∈ gtb := g_priv (yX10_isPane, 35) (show (yX10_isPane, 35) ∈ lw_privs from List.mem_append_right _ (List.mem_append_right _ (List.mem_append_right _ (List.mem_append_right _ (List.mem_append_right _ (List.mem_append_left _ (show (yX10_isPane, 35) ∈ lw_privs_6 from List.mem_of_getElem? (i := 6) rfl))))))) rfl rfl
theorem mi_X10_isWordOf : gMi yX10_isWordOf cX10_isWordOf 2 (some .boolean) 1 := ⟨in_X10, gk7 156 rfl rfl, ⟨by decide, by decide, by decide +kernel⟩, by decide⟩
theorem im_X10_isWordOf : Cond.instanceMethod yX10_isWordOf ∈ gtb := gk7 155 rfl rfl
theorem se_X10_isWordOf : Cond.selects RX10 yX10_isWordOf yX10_isWordOf ∈ gtb := g_priv (yX10_isWordOf, 35) (show (yX10_isWordOf, 35) ∈ lw_privs from List.mem_append_right _ (List.mem_append_right _ (List.mem_append_right _ (List.mem_append_right _ (List.mem_append_right _ (List.mem_append_left _ (show (yX10_isWordOf, 35) ∈ lw_privs_6 from List.mem_of_getElem? (i := 9) rfl))))))) rfl rfl
theorem mi_X10_isCorner : gMi yX10_isCorner cX10_isCorner 2 (some .boolean) 1 := ⟨in_X10, gk7 220 rfl rfl, ⟨by decide, by decide, by decide +kernel⟩, by decide⟩
theorem im_X10_isCorner : Cond.instanceMethod yX10_isCorner ∈ gtb := gk7 219 rfl rfl
theorem se_X10_isCorner : Cond.selects RX10 yX10_isCorner yX10_isCorner ∈ gtb := g_priv (yX10_isCorner, 35) (show (yX10_isCorner, 35) ∈ lw_privs from List.mem_append_right _ (List.mem_append_right _ (List.mem_append_right _ (List.mem_append_right _ (List.mem_append_right _ (List.mem_append_right _ (List.mem_append_left _ (show (yX10_isCorner, 35) ∈ lw_privs_7 from List.mem_of_getElem? (i := 1) rfl)))))))) rfl rfl
theorem mi_X10_isView : gMi yX10_isView cX10_isView 2 (some .boolean) 1 := ⟨in_X10, gk7 172 rfl rfl, ⟨by decide, by decide, by decide +kernel⟩, by decide⟩
theorem im_X10_isView : Cond.instanceMethod yX10_isView ∈ gtb := gk7 171 rfl rfl
theorem se_X10_isView : Cond.selects RX10 yX10_isView yX10_isView ∈ gtb := g_priv (yX10_isView, 35) (show (yX10_isView, 35) ∈ lw_privs from List.mem_append_right _ (List.mem_append_right _ (List.mem_append_right _ (List.mem_append_right _ (List.mem_append_right _ (List.mem_append_left _ (show (yX10_isView, 35) ∈ lw_privs_6 from List.mem_of_getElem? (i := 11) rfl))))))) rfl rfl
theorem mi_X10_isBroken : gMi yX10_isBroken cX10_isBroken 2 (some .boolean) 1 := ⟨in_X10, gk7 134 rfl rfl, ⟨by decide, by decide, by decide +kernel⟩, by decide⟩
theorem im_X10_isBroken : Cond.instanceMethod yX10_isBroken ∈ gtb := gk7 133 rfl rfl
theorem se_X10_isBroken : Cond.selects RX10 yX10_isBroken yX10_isBroken ∈ gtb := g_priv (yX10_isBroken, 35) (show (yX10_isBroken, 35) ∈ lw_privs from List.mem_append_right _ (List.mem_append_right _ (List.mem_append_right _ (List.mem_append_right _ (List.mem_append_right _ (List.mem_append_left _ (show (yX10_isBroken, 35) ∈ lw_privs_6 from List.mem_of_getElem? (i := 7) rfl))))))) rfl rfl
theorem mi_X10_darkOf : gMi yX10_darkOf cX10_darkOf 2 (some .int) 1 := ⟨in_X10, gk7 184 rfl rfl, ⟨by decide, by decide, by decide +kernel⟩, by decide⟩
theorem im_X10_darkOf : Cond.instanceMethod yX10_darkOf ∈ gtb := gk7 183 rfl rfl
theorem se_X10_darkOf : Cond.selects RX10 yX10_darkOf yX10_darkOf ∈ gtb := g_priv (yX10_darkOf, 35) (show (yX10_darkOf, 35) ∈ lw_privs from List.mem_append_right _ (List.mem_append_right _ (List.mem_append_right _ (List.mem_append_right _ (List.mem_append_right _ (List.mem_append_left _ (show (yX10_darkOf, 35) ∈ lw_privs_6 from List.mem_of_getElem? (i := 14) rfl))))))) rfl rfl
theorem mi_X10_shownBy : gMi yX10_shownBy cX10_shownBy 2 (some .int) 1 := ⟨in_X10, gk7 180 rfl rfl, ⟨by decide, by decide, by decide +kernel⟩, by decide⟩
theorem im_X10_shownBy : Cond.instanceMethod yX10_shownBy ∈ gtb := gk7 179 rfl rfl
theorem se_X10_shownBy : Cond.selects RX10 yX10_shownBy yX10_shownBy ∈ gtb := g_priv (yX10_shownBy, 35) (show (yX10_shownBy, 35) ∈ lw_privs from List.mem_append_right _ (List.mem_append_right _ (List.mem_append_right _ (List.mem_append_right _ (List.mem_append_right _ (List.mem_append_left _ (show (yX10_shownBy, 35) ∈ lw_privs_6 from List.mem_of_getElem? (i := 13) rfl))))))) rfl rfl
theorem mi_X10_seenOf : gMi yX10_seenOf cX10_seenOf 3 (some .int) 2 := ⟨in_X10, gk7 176 rfl rfl, ⟨by decide, by decide, by decide +kernel⟩, by decide⟩
theorem im_X10_seenOf : Cond.instanceMethod yX10_seenOf ∈ gtb := gk7 175 rfl rfl
theorem se_X10_seenOf : Cond.selects RX10 yX10_seenOf yX10_seenOf ∈ gtb := g_priv (yX10_seenOf, 35) (show (yX10_seenOf, 35) ∈ lw_privs from List.mem_append_right _ (List.mem_append_right _ (List.mem_append_right _ (List.mem_append_right _ (List.mem_append_right _ (List.mem_append_left _ (show (yX10_seenOf, 35) ∈ lw_privs_6 from List.mem_of_getElem? (i := 12) rfl))))))) rfl rfl
theorem mi_X10_readOf : gMi yX10_readOf cX10_readOf 3 (some .int) 1 := ⟨in_X10, gk7 192 rfl rfl, ⟨by decide, by decide, by decide +kernel⟩, by decide⟩
theorem im_X10_readOf : Cond.instanceMethod yX10_readOf ∈ gtb := gk7 191 rfl rfl
theorem se_X10_readOf : Cond.selects RX10 yX10_readOf yX10_readOf ∈ gtb := g_priv (yX10_readOf, 35) (show (yX10_readOf, 35) ∈ lw_privs from List.mem_append_right _ (List.mem_append_right _ (List.mem_append_right _ (List.mem_append_right _ (List.mem_append_right _ (List.mem_append_left _ (show (yX10_readOf, 35) ∈ lw_privs_6 from List.mem_of_getElem? (i := 15) rfl))))))) rfl rfl
theorem mi_X10_refusesSeen : gMi yX10_refusesSeen cX10_refusesSeen 3 (some .int) 2 := ⟨in_X10, gk7 168 rfl rfl, ⟨by decide, by decide, by decide +kernel⟩, by decide⟩
theorem im_X10_refusesSeen : Cond.instanceMethod yX10_refusesSeen ∈ gtb := gk7 167 rfl rfl
theorem se_X10_refusesSeen : Cond.selects RX10 yX10_refusesSeen yX10_refusesSeen ∈ gtb := g_priv (yX10_refusesSeen, 35) (show (yX10_refusesSeen, 35) ∈ lw_privs from List.mem_append_right _ (List.mem_append_right _ (List.mem_append_right _ (List.mem_append_right _ (List.mem_append_right _ (List.mem_append_left _ (show (yX10_refusesSeen, 35) ∈ lw_privs_6 from List.mem_of_getElem? (i := 10) rfl))))))) rfl rfl
theorem mi_X10_pane : gMi yX10_pane cX10_pane 3 (some .int) 2 := ⟨in_X10, gk7 126 rfl rfl, ⟨by decide, by decide, by decide +kernel⟩, by decide⟩
theorem im_X10_pane : Cond.instanceMethod yX10_pane ∈ gtb := gk7 124 rfl rfl
theorem se_X10_pane : Cond.selects RX10 yX10_pane yX10_pane ∈ gtb := gk7 125 rfl rfl
theorem mi_X10_lightOf : gMi yX10_lightOf cX10_lightOf 2 (some .int) 1 := ⟨in_X10, gk7 141 rfl rfl, ⟨by decide, by decide, by decide +kernel⟩, by decide⟩
theorem im_X10_lightOf : Cond.instanceMethod yX10_lightOf ∈ gtb := gk7 140 rfl rfl
theorem se_X10_lightOf : Cond.selects RX10 yX10_lightOf yX10_lightOf ∈ gtb := g_priv (yX10_lightOf, 35) (show (yX10_lightOf, 35) ∈ lw_privs from List.mem_append_right _ (List.mem_append_right _ (List.mem_append_right _ (List.mem_append_right _ (List.mem_append_right _ (List.mem_append_left _ (show (yX10_lightOf, 35) ∈ lw_privs_6 from List.mem_of_getElem? (i := 8) rfl))))))) rfl rfl
theorem mi_X10_word : gMi yX10_word cX10_word 2 (some .int) 1 := ⟨in_X10, gk7 152 rfl rfl, ⟨by decide, by decide, by decide +kernel⟩, by decide⟩
theorem im_X10_word : Cond.instanceMethod yX10_word ∈ gtb := gk7 150 rfl rfl
theorem se_X10_word : Cond.selects RX10 yX10_word yX10_word ∈ gtb := gk7 151 rfl rfl
theorem mi_X10_view : gMi yX10_view cX10_view 2 (some .int) 1 := ⟨in_X10, gk7 160 rfl rfl, ⟨by decide, by decide, by decide +kernel⟩, by decide⟩
theorem im_X10_view : Cond.instanceMethod yX10_view ∈ gtb := gk7 158 rfl rfl
theorem se_X10_view : Cond.selects RX10 yX10_view yX10_view ∈ gtb := gk7 159 rfl rfl
theorem mi_X10_seen : gMi yX10_seen cX10_seen 4 (some .int) 2 := ⟨in_X10, gk7 164 rfl rfl, ⟨by decide, by decide, by decide +kernel⟩, by decide⟩
theorem im_X10_seen : Cond.instanceMethod yX10_seen ∈ gtb := gk7 162 rfl rfl
theorem se_X10_seen : Cond.selects RX10 yX10_seen yX10_seen ∈ gtb := gk7 163 rfl rfl
theorem mi_X10_read : gMi yX10_read cX10_read 4 (some .int) 2 := ⟨in_X10, gk7 188 rfl rfl, ⟨by decide, by decide, by decide +kernel⟩, by decide⟩
theorem im_X10_read : Cond.instanceMethod yX10_read ∈ gtb := gk7 186 rfl rfl
theorem se_X10_read : Cond.selects RX10 yX10_read yX10_read ∈ gtb := gk7 187 rfl rfl
theorem mi_X10_refusesTogether : gMi yX10_refusesTogether cX10_refusesTogether 3 (some .int) 2 := ⟨in_X10, gk7 200 rfl rfl, ⟨by decide, by decide, by decide +kernel⟩, by decide⟩
theorem im_X10_refusesTogether : Cond.instanceMethod yX10_refusesTogether ∈ gtb := gk7 199 rfl rfl
theorem se_X10_refusesTogether : Cond.selects RX10 yX10_refusesTogether yX10_refusesTogether ∈ gtb := g_priv (yX10_refusesTogether, 35) (show (yX10_refusesTogether, 35) ∈ lw_privs from List.mem_append_right _ (List.mem_append_right _ (List.mem_append_right _ (List.mem_append_right _ (List.mem_append_right _ (List.mem_append_right _ (List.mem_append_left _ (show (yX10_refusesTogether, 35) ∈ lw_privs_7 from List.mem_of_getElem? (i := 0) rfl)))))))) rfl rfl
theorem mi_X10_together : gMi yX10_together cX10_together 4 (some .int) 2 := ⟨in_X10, gk7 196 rfl rfl, ⟨by decide, by decide, by decide +kernel⟩, by decide⟩
theorem im_X10_together : Cond.instanceMethod yX10_together ∈ gtb := gk7 194 rfl rfl
theorem se_X10_together : Cond.selects RX10 yX10_together yX10_together ∈ gtb := gk7 195 rfl rfl
theorem mi_X10_readTogether : gMi yX10_readTogether cX10_readTogether 4 (some .int) 2 := ⟨in_X10, gk7 204 rfl rfl, ⟨by decide, by decide, by decide +kernel⟩, by decide⟩
theorem im_X10_readTogether : Cond.instanceMethod yX10_readTogether ∈ gtb := gk7 202 rfl rfl
theorem se_X10_readTogether : Cond.selects RX10 yX10_readTogether yX10_readTogether ∈ gtb := gk7 203 rfl rfl
theorem mi_X10_viewsFor : gMi yX10_viewsFor cX10_viewsFor 5 (some .int) 2 := ⟨in_X10, gk7 208 rfl rfl, ⟨by decide, by decide, by decide +kernel⟩, by decide⟩
theorem im_X10_viewsFor : Cond.instanceMethod yX10_viewsFor ∈ gtb := gk7 206 rfl rfl
theorem se_X10_viewsFor : Cond.selects RX10 yX10_viewsFor yX10_viewsFor ∈ gtb := gk7 207 rfl rfl
theorem mi_X10_pairFor : gMi yX10_pairFor cX10_pairFor 4 (some .int) 1 := ⟨in_X10, gk7 212 rfl rfl, ⟨by decide, by decide, by decide +kernel⟩, by decide⟩
theorem im_X10_pairFor : Cond.instanceMethod yX10_pairFor ∈ gtb := gk7 210 rfl rfl
theorem se_X10_pairFor : Cond.selects RX10 yX10_pairFor yX10_pairFor ∈ gtb := gk7 211 rfl rfl
theorem mi_X10_worthOf : gMi yX10_worthOf cX10_worthOf 10 (some .long) 3 := ⟨in_X10, gk8 0 rfl rfl, ⟨by decide, by decide, by decide +kernel⟩, by decide⟩
theorem im_X10_worthOf : Cond.instanceMethod yX10_worthOf ∈ gtb := gk7 239 rfl rfl
theorem se_X10_worthOf : Cond.selects RX10 yX10_worthOf yX10_worthOf ∈ gtb := g_priv (yX10_worthOf, 35) (show (yX10_worthOf, 35) ∈ lw_privs from List.mem_append_right _ (List.mem_append_right _ (List.mem_append_right _ (List.mem_append_right _ (List.mem_append_right _ (List.mem_append_right _ (List.mem_append_left _ (show (yX10_worthOf, 35) ∈ lw_privs_7 from List.mem_of_getElem? (i := 6) rfl)))))))) rfl rfl
theorem mi_X10_mayBe : gMi yX10_mayBe cX10_mayBe 4 (some .boolean) 3 := ⟨in_X10, gk7 232 rfl rfl, ⟨by decide, by decide, by decide +kernel⟩, by decide⟩
theorem im_X10_mayBe : Cond.instanceMethod yX10_mayBe ∈ gtb := gk7 231 rfl rfl
theorem se_X10_mayBe : Cond.selects RX10 yX10_mayBe yX10_mayBe ∈ gtb := g_priv (yX10_mayBe, 35) (show (yX10_mayBe, 35) ∈ lw_privs from List.mem_append_right _ (List.mem_append_right _ (List.mem_append_right _ (List.mem_append_right _ (List.mem_append_right _ (List.mem_append_right _ (List.mem_append_left _ (show (yX10_mayBe, 35) ∈ lw_privs_7 from List.mem_of_getElem? (i := 4) rfl)))))))) rfl rfl
theorem mi_X10_walks : gMi yX10_walks cX10_walks 7 (some .int) 4 := ⟨in_X10, gk7 228 rfl rfl, ⟨by decide, by decide, by decide +kernel⟩, by decide⟩
theorem im_X10_walks : Cond.instanceMethod yX10_walks ∈ gtb := gk7 227 rfl rfl
theorem se_X10_walks : Cond.selects RX10 yX10_walks yX10_walks ∈ gtb := g_priv (yX10_walks, 35) (show (yX10_walks, 35) ∈ lw_privs from List.mem_append_right _ (List.mem_append_right _ (List.mem_append_right _ (List.mem_append_right _ (List.mem_append_right _ (List.mem_append_right _ (List.mem_append_left _ (show (yX10_walks, 35) ∈ lw_privs_7 from List.mem_of_getElem? (i := 3) rfl)))))))) rfl rfl
theorem mi_X10_ends : gMi yX10_ends cX10_ends 7 none 3 := ⟨in_X10, gk7 236 rfl rfl, ⟨by decide, by decide, by decide +kernel⟩, by decide⟩
theorem im_X10_ends : Cond.instanceMethod yX10_ends ∈ gtb := gk7 235 rfl rfl
theorem se_X10_ends : Cond.selects RX10 yX10_ends yX10_ends ∈ gtb := g_priv (yX10_ends, 35) (show (yX10_ends, 35) ∈ lw_privs from List.mem_append_right _ (List.mem_append_right _ (List.mem_append_right _ (List.mem_append_right _ (List.mem_append_right _ (List.mem_append_right _ (List.mem_append_left _ (show (yX10_ends, 35) ∈ lw_privs_7 from List.mem_of_getElem? (i := 5) rfl)))))))) rfl rfl
theorem mi_X10_minutesOf : gMi yX10_minutesOf cX10_minutesOf 5 (some .int) 4 := ⟨in_X10, gk7 224 rfl rfl, ⟨by decide, by decide, by decide +kernel⟩, by decide⟩
theorem im_X10_minutesOf : Cond.instanceMethod yX10_minutesOf ∈ gtb := gk7 223 rfl rfl
theorem se_X10_minutesOf : Cond.selects RX10 yX10_minutesOf yX10_minutesOf ∈ gtb := g_priv (yX10_minutesOf, 35) (show (yX10_minutesOf, 35) ∈ lw_privs from List.mem_append_right _ (List.mem_append_right _ (List.mem_append_right _ (List.mem_append_right _ (List.mem_append_right _ (List.mem_append_right _ (List.mem_append_left _ (show (yX10_minutesOf, 35) ∈ lw_privs_7 from List.mem_of_getElem? (i := 2) rfl)))))))) rfl rfl
theorem mi_X10_soonest : gMi yX10_soonest cX10_soonest 3 (some .int) 2 := ⟨in_X10, gk7 216 rfl rfl, ⟨by decide, by decide, by decide +kernel⟩, by decide⟩
theorem im_X10_soonest : Cond.instanceMethod yX10_soonest ∈ gtb := gk7 214 rfl rfl
theorem se_X10_soonest : Cond.selects RX10 yX10_soonest yX10_soonest ∈ gtb := gk7 215 rfl rfl
theorem mi_X10_soonestAt : gMi yX10_soonestAt cX10_soonestAt 4 (some .int) 3 := ⟨in_X10, gk8 6 rfl rfl, ⟨by decide, by decide, by decide +kernel⟩, by decide⟩
theorem im_X10_soonestAt : Cond.instanceMethod yX10_soonestAt ∈ gtb := gk8 4 rfl rfl
theorem se_X10_soonestAt : Cond.selects RX10 yX10_soonestAt yX10_soonestAt ∈ gtb := gk8 5 rfl rfl
theorem mi_X10_refusesWay : gMi yX10_refusesWay cX10_refusesWay 4 (some .int) 3 := ⟨in_X10, gk8 14 rfl rfl, ⟨by decide, by decide, by decide +kernel⟩, by decide⟩
theorem im_X10_refusesWay : Cond.instanceMethod yX10_refusesWay ∈ gtb := gk8 13 rfl rfl
theorem se_X10_refusesWay : Cond.selects RX10 yX10_refusesWay yX10_refusesWay ∈ gtb := g_priv (yX10_refusesWay, 35) (show (yX10_refusesWay, 35) ∈ lw_privs from List.mem_append_right _ (List.mem_append_right _ (List.mem_append_right _ (List.mem_append_right _ (List.mem_append_right _ (List.mem_append_right _ (List.mem_append_left _ (show (yX10_refusesWay, 35) ∈ lw_privs_7 from List.mem_of_getElem? (i := 7) rfl)))))))) rfl rfl
theorem mi_X10_secret : gMi yX10_secret cX10_secret 5 (some .int) 3 := ⟨in_X10, gk8 10 rfl rfl, ⟨by decide, by decide, by decide +kernel⟩, by decide⟩
theorem im_X10_secret : Cond.instanceMethod yX10_secret ∈ gtb := gk8 8 rfl rfl
theorem se_X10_secret : Cond.selects RX10 yX10_secret yX10_secret ∈ gtb := gk8 9 rfl rfl
theorem mi_X10_secretAt : gMi yX10_secretAt cX10_secretAt 6 (some .int) 4 := ⟨in_X10, gk8 18 rfl rfl, ⟨by decide, by decide, by decide +kernel⟩, by decide⟩
theorem im_X10_secretAt : Cond.instanceMethod yX10_secretAt ∈ gtb := gk8 16 rfl rfl
theorem se_X10_secretAt : Cond.selects RX10 yX10_secretAt yX10_secretAt ∈ gtb := gk8 17 rfl rfl
theorem mi_X10_safest : gMi yX10_safest cX10_safest 6 (some .long) 4 := ⟨in_X10, gk8 22 rfl rfl, ⟨by decide, by decide, by decide +kernel⟩, by decide⟩
theorem im_X10_safest : Cond.instanceMethod yX10_safest ∈ gtb := gk8 20 rfl rfl
theorem se_X10_safest : Cond.selects RX10 yX10_safest yX10_safest ∈ gtb := gk8 21 rfl rfl
theorem mi_X10_safestAt : gMi yX10_safestAt cX10_safestAt 7 (some .int) 4 := ⟨in_X10, gk8 33 rfl rfl, ⟨by decide, by decide, by decide +kernel⟩, by decide⟩
theorem im_X10_safestAt : Cond.instanceMethod yX10_safestAt ∈ gtb := gk8 31 rfl rfl
theorem se_X10_safestAt : Cond.selects RX10 yX10_safestAt yX10_safestAt ∈ gtb := gk8 32 rfl rfl
theorem mi_X10_isSent : gMi yX10_isSent cX10_isSent 2 (some .boolean) 1 := ⟨in_X10, gk8 41 rfl rfl, ⟨by decide, by decide, by decide +kernel⟩, by decide⟩
theorem im_X10_isSent : Cond.instanceMethod yX10_isSent ∈ gtb := gk8 40 rfl rfl
theorem se_X10_isSent : Cond.selects RX10 yX10_isSent yX10_isSent ∈ gtb := g_priv (yX10_isSent, 35) (show (yX10_isSent, 35) ∈ lw_privs from List.mem_append_right _ (List.mem_append_right _ (List.mem_append_right _ (List.mem_append_right _ (List.mem_append_right _ (List.mem_append_right _ (List.mem_append_left _ (show (yX10_isSent, 35) ∈ lw_privs_7 from List.mem_of_getElem? (i := 9) rfl)))))))) rfl rfl
theorem mi_X10_sent : gMi yX10_sent cX10_sent 3 (some .int) 2 := ⟨in_X10, gk8 37 rfl rfl, ⟨by decide, by decide, by decide +kernel⟩, by decide⟩
theorem im_X10_sent : Cond.instanceMethod yX10_sent ∈ gtb := gk8 35 rfl rfl
theorem se_X10_sent : Cond.selects RX10 yX10_sent yX10_sent ∈ gtb := gk8 36 rfl rfl
theorem mi_X10_readersOf : gMi yX10_readersOf cX10_readersOf 7 (some .int) 1 := ⟨in_X10, gk8 49 rfl rfl, ⟨by decide, by decide, by decide +kernel⟩, by decide⟩
theorem im_X10_readersOf : Cond.instanceMethod yX10_readersOf ∈ gtb := gk8 48 rfl rfl
theorem se_X10_readersOf : Cond.selects RX10 yX10_readersOf yX10_readersOf ∈ gtb := g_priv (yX10_readersOf, 35) (show (yX10_readersOf, 35) ∈ lw_privs from List.mem_append_right _ (List.mem_append_right _ (List.mem_append_right _ (List.mem_append_right _ (List.mem_append_right _ (List.mem_append_right _ (List.mem_append_left _ (show (yX10_readersOf, 35) ∈ lw_privs_7 from List.mem_of_getElem? (i := 10) rfl)))))))) rfl rfl
theorem mi_X10_readers : gMi yX10_readers cX10_readers 2 (some .int) 1 := ⟨in_X10, gk8 45 rfl rfl, ⟨by decide, by decide, by decide +kernel⟩, by decide⟩
theorem im_X10_readers : Cond.instanceMethod yX10_readers ∈ gtb := gk8 43 rfl rfl
theorem se_X10_readers : Cond.selects RX10 yX10_readers yX10_readers ∈ gtb := gk8 44 rfl rfl
theorem mi_X10_overheard : gMi yX10_overheard cX10_overheard 2 (some .int) 1 := ⟨in_X10, gk8 53 rfl rfl, ⟨by decide, by decide, by decide +kernel⟩, by decide⟩
theorem im_X10_overheard : Cond.instanceMethod yX10_overheard ∈ gtb := gk8 51 rfl rfl
theorem se_X10_overheard : Cond.selects RX10 yX10_overheard yX10_overheard ∈ gtb := gk8 52 rfl rfl
theorem mi_X10_unread : gMi yX10_unread cX10_unread 3 (some .int) 0 := ⟨in_X10, gk8 57 rfl rfl, ⟨by decide, by decide, by decide +kernel⟩, by decide⟩
theorem im_X10_unread : Cond.instanceMethod yX10_unread ∈ gtb := gk8 55 rfl rfl
theorem se_X10_unread : Cond.selects RX10 yX10_unread yX10_unread ∈ gtb := gk8 56 rfl rfl
theorem mi_X10_makes : gMi yX10_makes cX10_makes 9 (some .boolean) 5 := ⟨in_X10, gk8 69 rfl rfl, ⟨by decide, by decide, by decide +kernel⟩, by decide⟩
theorem im_X10_makes : Cond.instanceMethod yX10_makes ∈ gtb := gk8 68 rfl rfl
theorem se_X10_makes : Cond.selects RX10 yX10_makes yX10_makes ∈ gtb := g_priv (yX10_makes, 35) (show (yX10_makes, 35) ∈ lw_privs from List.mem_append_right _ (List.mem_append_right _ (List.mem_append_right _ (List.mem_append_right _ (List.mem_append_right _ (List.mem_append_right _ (List.mem_append_left _ (show (yX10_makes, 35) ∈ lw_privs_7 from List.mem_of_getElem? (i := 12) rfl)))))))) rfl rfl
theorem mi_X10_isMade : gMi yX10_isMade cX10_isMade 6 (some .boolean) 5 := ⟨in_X10, gk8 65 rfl rfl, ⟨by decide, by decide, by decide +kernel⟩, by decide⟩
theorem im_X10_isMade : Cond.instanceMethod yX10_isMade ∈ gtb := gk8 64 rfl rfl
theorem se_X10_isMade : Cond.selects RX10 yX10_isMade yX10_isMade ∈ gtb := g_priv (yX10_isMade, 35) (show (yX10_isMade, 35) ∈ lw_privs from List.mem_append_right _ (List.mem_append_right _ (List.mem_append_right _ (List.mem_append_right _ (List.mem_append_right _ (List.mem_append_right _ (List.mem_append_left _ (show (yX10_isMade, 35) ∈ lw_privs_7 from List.mem_of_getElem? (i := 11) rfl)))))))) rfl rfl
theorem mi_X10_made : gMi yX10_made cX10_made 6 (some .int) 5 := ⟨in_X10, gk8 61 rfl rfl, ⟨by decide, by decide, by decide +kernel⟩, by decide⟩
theorem im_X10_made : Cond.instanceMethod yX10_made ∈ gtb := gk8 59 rfl rfl
theorem se_X10_made : Cond.selects RX10 yX10_made yX10_made ∈ gtb := gk8 60 rfl rfl
theorem mi_X10_madeOf : gMi yX10_madeOf cX10_madeOf 7 (some .int) 6 := ⟨in_X10, gk8 73 rfl rfl, ⟨by decide, by decide, by decide +kernel⟩, by decide⟩
theorem im_X10_madeOf : Cond.instanceMethod yX10_madeOf ∈ gtb := gk8 71 rfl rfl
theorem se_X10_madeOf : Cond.selects RX10 yX10_madeOf yX10_madeOf ∈ gtb := gk8 72 rfl rfl
theorem mi_X10_putties : gMi yX10_putties cX10_putties 7 (some .int) 1 := ⟨in_X10, gk8 81 rfl rfl, ⟨by decide, by decide, by decide +kernel⟩, by decide⟩
theorem im_X10_putties : Cond.instanceMethod yX10_putties ∈ gtb := gk8 80 rfl rfl
theorem se_X10_putties : Cond.selects RX10 yX10_putties yX10_putties ∈ gtb := g_priv (yX10_putties, 35) (show (yX10_putties, 35) ∈ lw_privs from List.mem_append_right _ (List.mem_append_right _ (List.mem_append_right _ (List.mem_append_right _ (List.mem_append_right _ (List.mem_append_right _ (List.mem_append_left _ (show (yX10_putties, 35) ∈ lw_privs_7 from List.mem_of_getElem? (i := 13) rfl)))))))) rfl rfl
theorem mi_X10_nextPick : gMi yX10_nextPick cX10_nextPick 5 (some .boolean) 2 := ⟨in_X10, gk8 85 rfl rfl, ⟨by decide, by decide, by decide +kernel⟩, by decide⟩
theorem im_X10_nextPick : Cond.instanceMethod yX10_nextPick ∈ gtb := gk8 84 rfl rfl
theorem se_X10_nextPick : Cond.selects RX10 yX10_nextPick yX10_nextPick ∈ gtb := g_priv (yX10_nextPick, 35) (show (yX10_nextPick, 35) ∈ lw_privs from List.mem_append_right _ (List.mem_append_right _ (List.mem_append_right _ (List.mem_append_right _ (List.mem_append_right _ (List.mem_append_right _ (List.mem_append_left _ (show (yX10_nextPick, 35) ∈ lw_privs_7 from List.mem_of_getElem? (i := 14) rfl)))))))) rfl rfl
theorem mi_X10_putty : gMi yX10_putty cX10_putty 5 (some .int) 2 := ⟨in_X10, gk8 77 rfl rfl, ⟨by decide, by decide, by decide +kernel⟩, by decide⟩
theorem im_X10_putty : Cond.instanceMethod yX10_putty ∈ gtb := gk8 75 rfl rfl
theorem se_X10_putty : Cond.selects RX10 yX10_putty yX10_putty ∈ gtb := gk8 76 rfl rfl
theorem mi_X10_puttyOf : gMi yX10_puttyOf cX10_puttyOf 5 (some .int) 2 := ⟨in_X10, gk8 89 rfl rfl, ⟨by decide, by decide, by decide +kernel⟩, by decide⟩
theorem im_X10_puttyOf : Cond.instanceMethod yX10_puttyOf ∈ gtb := gk8 87 rfl rfl
theorem se_X10_puttyOf : Cond.selects RX10 yX10_puttyOf yX10_puttyOf ∈ gtb := gk8 88 rfl rfl
theorem mi_X10_scratchesOf : gMi yX10_scratchesOf cX10_scratchesOf 6 (some .int) 3 := ⟨in_X10, gk8 97 rfl rfl, ⟨by decide, by decide, by decide +kernel⟩, by decide⟩
theorem im_X10_scratchesOf : Cond.instanceMethod yX10_scratchesOf ∈ gtb := gk8 96 rfl rfl
theorem se_X10_scratchesOf : Cond.selects RX10 yX10_scratchesOf yX10_scratchesOf ∈ gtb := g_priv (yX10_scratchesOf, 35) (show (yX10_scratchesOf, 35) ∈ lw_privs from List.mem_append_right _ (List.mem_append_right _ (List.mem_append_right _ (List.mem_append_right _ (List.mem_append_right _ (List.mem_append_right _ (List.mem_append_left _ (show (yX10_scratchesOf, 35) ∈ lw_privs_7 from List.mem_of_getElem? (i := 15) rfl)))))))) rfl rfl
theorem mi_X10_scratches : gMi yX10_scratches cX10_scratches 5 (some .int) 3 := ⟨in_X10, gk8 93 rfl rfl, ⟨by decide, by decide, by decide +kernel⟩, by decide⟩
theorem im_X10_scratches : Cond.instanceMethod yX10_scratches ∈ gtb := gk8 91 rfl rfl
theorem se_X10_scratches : Cond.selects RX10 yX10_scratches yX10_scratches ∈ gtb := gk8 92 rfl rfl
theorem mi_X10_could : gMi yX10_could cX10_could 6 (some .int) 2 := ⟨in_X10, gk8 101 rfl rfl, ⟨by decide, by decide, by decide +kernel⟩, by decide⟩
theorem im_X10_could : Cond.instanceMethod yX10_could ∈ gtb := gk8 99 rfl rfl
theorem se_X10_could : Cond.selects RX10 yX10_could yX10_could ∈ gtb := gk8 100 rfl rfl
theorem mi_X10_isWhole : gMi yX10_isWhole cX10_isWhole 4 (some .boolean) 1 := ⟨in_X10, gk8 109 rfl rfl, ⟨by decide, by decide, by decide +kernel⟩, by decide⟩
theorem im_X10_isWhole : Cond.instanceMethod yX10_isWhole ∈ gtb := gk8 108 rfl rfl
theorem se_X10_isWhole : Cond.selects RX10 yX10_isWhole yX10_isWhole ∈ gtb := g_priv (yX10_isWhole, 35) (show (yX10_isWhole, 35) ∈ lw_privs from List.mem_append_right _ (List.mem_append_right _ (List.mem_append_right _ (List.mem_append_right _ (List.mem_append_right _ (List.mem_append_right _ (List.mem_append_right _ ((show (yX10_isWhole, 35) ∈ lw_privs_8 from List.mem_of_getElem? (i := 0) rfl))))))))) rfl rfl
theorem mi_X10_wholeAt : gMi yX10_wholeAt cX10_wholeAt 4 (some .int) 1 := ⟨in_X10, gk8 121 rfl rfl, ⟨by decide, by decide, by decide +kernel⟩, by decide⟩
theorem im_X10_wholeAt : Cond.instanceMethod yX10_wholeAt ∈ gtb := gk8 120 rfl rfl
theorem se_X10_wholeAt : Cond.selects RX10 yX10_wholeAt yX10_wholeAt ∈ gtb := g_priv (yX10_wholeAt, 35) (show (yX10_wholeAt, 35) ∈ lw_privs from List.mem_append_right _ (List.mem_append_right _ (List.mem_append_right _ (List.mem_append_right _ (List.mem_append_right _ (List.mem_append_right _ (List.mem_append_right _ ((show (yX10_wholeAt, 35) ∈ lw_privs_8 from List.mem_of_getElem? (i := 1) rfl))))))))) rfl rfl
theorem mi_X10_wholes : gMi yX10_wholes cX10_wholes 3 (some .int) 0 := ⟨in_X10, gk8 105 rfl rfl, ⟨by decide, by decide, by decide +kernel⟩, by decide⟩
theorem im_X10_wholes : Cond.instanceMethod yX10_wholes ∈ gtb := gk8 103 rfl rfl
theorem se_X10_wholes : Cond.selects RX10 yX10_wholes yX10_wholes ∈ gtb := gk8 104 rfl rfl
theorem mi_X10_whole : gMi yX10_whole cX10_whole 3 (some .int) 1 := ⟨in_X10, gk8 117 rfl rfl, ⟨by decide, by decide, by decide +kernel⟩, by decide⟩
theorem im_X10_whole : Cond.instanceMethod yX10_whole ∈ gtb := gk8 115 rfl rfl
theorem se_X10_whole : Cond.selects RX10 yX10_whole yX10_whole ∈ gtb := gk8 116 rfl rfl
theorem mi_X10_writtenBy : gMi yX10_writtenBy cX10_writtenBy 4 (some .int) 1 := ⟨in_X10, gk8 129 rfl rfl, ⟨by decide, by decide, by decide +kernel⟩, by decide⟩
theorem im_X10_writtenBy : Cond.instanceMethod yX10_writtenBy ∈ gtb := gk8 128 rfl rfl
theorem se_X10_writtenBy : Cond.selects RX10 yX10_writtenBy yX10_writtenBy ∈ gtb := g_priv (yX10_writtenBy, 35) (show (yX10_writtenBy, 35) ∈ lw_privs from List.mem_append_right _ (List.mem_append_right _ (List.mem_append_right _ (List.mem_append_right _ (List.mem_append_right _ (List.mem_append_right _ (List.mem_append_right _ ((show (yX10_writtenBy, 35) ∈ lw_privs_8 from List.mem_of_getElem? (i := 2) rfl))))))))) rfl rfl
theorem mi_X10_written : gMi yX10_written cX10_written 3 (some .int) 1 := ⟨in_X10, gk8 125 rfl rfl, ⟨by decide, by decide, by decide +kernel⟩, by decide⟩
theorem im_X10_written : Cond.instanceMethod yX10_written ∈ gtb := gk8 123 rfl rfl
theorem se_X10_written : Cond.selects RX10 yX10_written yX10_written ∈ gtb := gk8 124 rfl rfl
theorem mi_X10_wordOf : gMi yX10_wordOf cX10_wordOf 3 (some .int) 1 := ⟨in_X10, gk8 133 rfl rfl, ⟨by decide, by decide, by decide +kernel⟩, by decide⟩
theorem im_X10_wordOf : Cond.instanceMethod yX10_wordOf ∈ gtb := gk8 131 rfl rfl
theorem se_X10_wordOf : Cond.selects RX10 yX10_wordOf yX10_wordOf ∈ gtb := gk8 132 rfl rfl
theorem mi_X10_cellsOf : gMi yX10_cellsOf cX10_cellsOf 5 (some .int) 2 := ⟨in_X10, gk8 141 rfl rfl, ⟨by decide, by decide, by decide +kernel⟩, by decide⟩
theorem im_X10_cellsOf : Cond.instanceMethod yX10_cellsOf ∈ gtb := gk8 140 rfl rfl
theorem se_X10_cellsOf : Cond.selects RX10 yX10_cellsOf yX10_cellsOf ∈ gtb := g_priv (yX10_cellsOf, 35) (show (yX10_cellsOf, 35) ∈ lw_privs from List.mem_append_right _ (List.mem_append_right _ (List.mem_append_right _ (List.mem_append_right _ (List.mem_append_right _ (List.mem_append_right _ (List.mem_append_right _ ((show (yX10_cellsOf, 35) ∈ lw_privs_8 from List.mem_of_getElem? (i := 3) rfl))))))))) rfl rfl
theorem mi_X10_owner : gMi yX10_owner cX10_owner 5 (some .int) 1 := ⟨in_X10, gk8 137 rfl rfl, ⟨by decide, by decide, by decide +kernel⟩, by decide⟩
theorem im_X10_owner : Cond.instanceMethod yX10_owner ∈ gtb := gk8 135 rfl rfl
theorem se_X10_owner : Cond.selects RX10 yX10_owner yX10_owner ∈ gtb := gk8 136 rfl rfl
theorem mi_X10_missing : gMi yX10_missing cX10_missing 3 (some .int) 0 := ⟨in_X10, gk8 145 rfl rfl, ⟨by decide, by decide, by decide +kernel⟩, by decide⟩
theorem im_X10_missing : Cond.instanceMethod yX10_missing ∈ gtb := gk8 143 rfl rfl
theorem se_X10_missing : Cond.selects RX10 yX10_missing yX10_missing ∈ gtb := gk8 144 rfl rfl
theorem mi_X10_lightOfAll : gMi yX10_lightOfAll cX10_lightOfAll 4 (some .int) 1 := ⟨in_X10, gk8 153 rfl rfl, ⟨by decide, by decide, by decide +kernel⟩, by decide⟩
theorem im_X10_lightOfAll : Cond.instanceMethod yX10_lightOfAll ∈ gtb := gk8 152 rfl rfl
theorem se_X10_lightOfAll : Cond.selects RX10 yX10_lightOfAll yX10_lightOfAll ∈ gtb := g_priv (yX10_lightOfAll, 35) (show (yX10_lightOfAll, 35) ∈ lw_privs from List.mem_append_right _ (List.mem_append_right _ (List.mem_append_right _ (List.mem_append_right _ (List.mem_append_right _ (List.mem_append_right _ (List.mem_append_right _ ((show (yX10_lightOfAll, 35) ∈ lw_privs_8 from List.mem_of_getElem? (i := 4) rfl))))))))) rfl rfl
theorem mi_X10_shelf : gMi yX10_shelf cX10_shelf 3 (some .int) 0 := ⟨in_X10, gk8 149 rfl rfl, ⟨by decide, by decide, by decide +kernel⟩, by decide⟩
theorem im_X10_shelf : Cond.instanceMethod yX10_shelf ∈ gtb := gk8 147 rfl rfl
theorem se_X10_shelf : Cond.selects RX10 yX10_shelf yX10_shelf ∈ gtb := gk8 148 rfl rfl
theorem mi_X10_gainOf : gMi yX10_gainOf cX10_gainOf 4 (some .int) 2 := ⟨in_X10, gk8 165 rfl rfl, ⟨by decide, by decide, by decide +kernel⟩, by decide⟩
theorem im_X10_gainOf : Cond.instanceMethod yX10_gainOf ∈ gtb := gk8 164 rfl rfl
theorem se_X10_gainOf : Cond.selects RX10 yX10_gainOf yX10_gainOf ∈ gtb := g_priv (yX10_gainOf, 35) (show (yX10_gainOf, 35) ∈ lw_privs from List.mem_append_right _ (List.mem_append_right _ (List.mem_append_right _ (List.mem_append_right _ (List.mem_append_right _ (List.mem_append_right _ (List.mem_append_right _ ((show (yX10_gainOf, 35) ∈ lw_privs_8 from List.mem_of_getElem? (i := 6) rfl))))))))) rfl rfl
theorem mi_X10_gain : gMi yX10_gain cX10_gain 4 (some .int) 2 := ⟨in_X10, gk8 157 rfl rfl, ⟨by decide, by decide, by decide +kernel⟩, by decide⟩
theorem im_X10_gain : Cond.instanceMethod yX10_gain ∈ gtb := gk8 155 rfl rfl
theorem se_X10_gain : Cond.selects RX10 yX10_gain yX10_gain ∈ gtb := gk8 156 rfl rfl
theorem mi_X10_viewAt : gMi yX10_viewAt cX10_viewAt 1 (some .int) 1 := ⟨in_X10, gk8 176 rfl rfl, ⟨by decide, by decide, by decide +kernel⟩, by decide⟩
theorem sm_X10_viewAt : Cond.static yX10_viewAt ∈ gtb := gk8 175 rfl rfl
theorem mi_X10_isRest : gMi yX10_isRest cX10_isRest 5 (some .boolean) 2 := ⟨in_X10, gk8 173 rfl rfl, ⟨by decide, by decide, by decide +kernel⟩, by decide⟩
theorem im_X10_isRest : Cond.instanceMethod yX10_isRest ∈ gtb := gk8 172 rfl rfl
theorem se_X10_isRest : Cond.selects RX10 yX10_isRest yX10_isRest ∈ gtb := g_priv (yX10_isRest, 35) (show (yX10_isRest, 35) ∈ lw_privs from List.mem_append_right _ (List.mem_append_right _ (List.mem_append_right _ (List.mem_append_right _ (List.mem_append_right _ (List.mem_append_right _ (List.mem_append_right _ ((show (yX10_isRest, 35) ∈ lw_privs_8 from List.mem_of_getElem? (i := 7) rfl))))))))) rfl rfl
theorem mi_X10_rests : gMi yX10_rests cX10_rests 4 (some .int) 0 := ⟨in_X10, gk8 169 rfl rfl, ⟨by decide, by decide, by decide +kernel⟩, by decide⟩
theorem im_X10_rests : Cond.instanceMethod yX10_rests ∈ gtb := gk8 167 rfl rfl
theorem se_X10_rests : Cond.selects RX10 yX10_rests yX10_rests ∈ gtb := gk8 168 rfl rfl
theorem mi_X10_rest : gMi yX10_rest cX10_rest 3 (some .int) 0 := ⟨in_X10, gk8 180 rfl rfl, ⟨by decide, by decide, by decide +kernel⟩, by decide⟩
theorem im_X10_rest : Cond.instanceMethod yX10_rest ∈ gtb := gk8 178 rfl rfl
theorem se_X10_rest : Cond.selects RX10 yX10_rest yX10_rest ∈ gtb := gk8 179 rfl rfl
theorem mi_X10_daysOf : gMi yX10_daysOf cX10_daysOf 7 (some .int) 2 := ⟨in_X10, gk8 193 rfl rfl, ⟨by decide, by decide, by decide +kernel⟩, by decide⟩
theorem im_X10_daysOf : Cond.instanceMethod yX10_daysOf ∈ gtb := gk8 192 rfl rfl
theorem se_X10_daysOf : Cond.selects RX10 yX10_daysOf yX10_daysOf ∈ gtb := g_priv (yX10_daysOf, 35) (show (yX10_daysOf, 35) ∈ lw_privs from List.mem_append_right _ (List.mem_append_right _ (List.mem_append_right _ (List.mem_append_right _ (List.mem_append_right _ (List.mem_append_right _ (List.mem_append_right _ ((show (yX10_daysOf, 35) ∈ lw_privs_8 from List.mem_of_getElem? (i := 9) rfl))))))))) rfl rfl
theorem mi_X10_refusesDays : gMi yX10_refusesDays cX10_refusesDays 3 (some .int) 2 := ⟨in_X10, gk8 188 rfl rfl, ⟨by decide, by decide, by decide +kernel⟩, by decide⟩
theorem im_X10_refusesDays : Cond.instanceMethod yX10_refusesDays ∈ gtb := gk8 187 rfl rfl
theorem se_X10_refusesDays : Cond.selects RX10 yX10_refusesDays yX10_refusesDays ∈ gtb := g_priv (yX10_refusesDays, 35) (show (yX10_refusesDays, 35) ∈ lw_privs from List.mem_append_right _ (List.mem_append_right _ (List.mem_append_right _ (List.mem_append_right _ (List.mem_append_right _ (List.mem_append_right _ (List.mem_append_right _ ((show (yX10_refusesDays, 35) ∈ lw_privs_8 from List.mem_of_getElem? (i := 8) rfl))))))))) rfl rfl
theorem mi_X10_left : gMi yX10_left cX10_left 4 (some .int) 2 := ⟨in_X10, gk8 184 rfl rfl, ⟨by decide, by decide, by decide +kernel⟩, by decide⟩
theorem im_X10_left : Cond.instanceMethod yX10_left ∈ gtb := gk8 182 rfl rfl
theorem se_X10_left : Cond.selects RX10 yX10_left yX10_left ∈ gtb := gk8 183 rfl rfl
theorem mi_X10_hails : gMi yX10_hails cX10_hails 4 (some .int) 2 := ⟨in_X10, gk8 200 rfl rfl, ⟨by decide, by decide, by decide +kernel⟩, by decide⟩
theorem im_X10_hails : Cond.instanceMethod yX10_hails ∈ gtb := gk8 198 rfl rfl
theorem se_X10_hails : Cond.selects RX10 yX10_hails yX10_hails ∈ gtb := gk8 199 rfl rfl
theorem mi_X10_remembers : gMi yX10_remembers cX10_remembers 2 none 0 := ⟨in_X10, gk8 220 rfl rfl, ⟨by decide, by decide, by decide +kernel⟩, by decide⟩
theorem im_X10_remembers : Cond.instanceMethod yX10_remembers ∈ gtb := gk8 219 rfl rfl
theorem se_X10_remembers : Cond.selects RX10 yX10_remembers yX10_remembers ∈ gtb := g_priv (yX10_remembers, 35) (show (yX10_remembers, 35) ∈ lw_privs from List.mem_append_right _ (List.mem_append_right _ (List.mem_append_right _ (List.mem_append_right _ (List.mem_append_right _ (List.mem_append_right _ (List.mem_append_right _ ((show (yX10_remembers, 35) ∈ lw_privs_8 from List.mem_of_getElem? (i := 13) rfl))))))))) rfl rfl
theorem mi_X10_isCell : gMi yX10_isCell cX10_isCell 3 (some .boolean) 2 := ⟨in_X10, gk8 212 rfl rfl, ⟨by decide, by decide, by decide +kernel⟩, by decide⟩
theorem im_X10_isCell : Cond.instanceMethod yX10_isCell ∈ gtb := gk8 211 rfl rfl
theorem se_X10_isCell : Cond.selects RX10 yX10_isCell yX10_isCell ∈ gtb := g_priv (yX10_isCell, 35) (show (yX10_isCell, 35) ∈ lw_privs from List.mem_append_right _ (List.mem_append_right _ (List.mem_append_right _ (List.mem_append_right _ (List.mem_append_right _ (List.mem_append_right _ (List.mem_append_right _ ((show (yX10_isCell, 35) ∈ lw_privs_8 from List.mem_of_getElem? (i := 11) rfl))))))))) rfl rfl
theorem mi_X10_marksCell : gMi yX10_marksCell cX10_marksCell 4 (some .boolean) 3 := ⟨in_X10, gk8 208 rfl rfl, ⟨by decide, by decide, by decide +kernel⟩, by decide⟩
theorem im_X10_marksCell : Cond.instanceMethod yX10_marksCell ∈ gtb := gk8 207 rfl rfl
theorem se_X10_marksCell : Cond.selects RX10 yX10_marksCell yX10_marksCell ∈ gtb := g_priv (yX10_marksCell, 35) (show (yX10_marksCell, 35) ∈ lw_privs from List.mem_append_right _ (List.mem_append_right _ (List.mem_append_right _ (List.mem_append_right _ (List.mem_append_right _ (List.mem_append_right _ (List.mem_append_right _ ((show (yX10_marksCell, 35) ∈ lw_privs_8 from List.mem_of_getElem? (i := 10) rfl))))))))) rfl rfl
theorem mi_X10_scratch : gMi yX10_scratch cX10_scratch 3 (some .boolean) 2 := ⟨in_X10, gk8 204 rfl rfl, ⟨by decide, by decide, by decide +kernel⟩, by decide⟩
theorem im_X10_scratch : Cond.instanceMethod yX10_scratch ∈ gtb := gk8 202 rfl rfl
theorem se_X10_scratch : Cond.selects RX10 yX10_scratch yX10_scratch ∈ gtb := gk8 203 rfl rfl
theorem mi_X10_cover : gMi yX10_cover cX10_cover 3 (some .boolean) 2 := ⟨in_X10, gk8 228 rfl rfl, ⟨by decide, by decide, by decide +kernel⟩, by decide⟩
theorem im_X10_cover : Cond.instanceMethod yX10_cover ∈ gtb := gk8 226 rfl rfl
theorem se_X10_cover : Cond.selects RX10 yX10_cover yX10_cover ∈ gtb := gk8 227 rfl rfl
theorem mi_X10_breaks : gMi yX10_breaks cX10_breaks 2 (some .boolean) 1 := ⟨in_X10, gk8 232 rfl rfl, ⟨by decide, by decide, by decide +kernel⟩, by decide⟩
theorem im_X10_breaks : Cond.instanceMethod yX10_breaks ∈ gtb := gk8 230 rfl rfl
theorem se_X10_breaks : Cond.selects RX10 yX10_breaks yX10_breaks ∈ gtb := gk8 231 rfl rfl
theorem mi_X10_undo : gMi yX10_undo cX10_undo 2 (some .boolean) 0 := ⟨in_X10, gk8 236 rfl rfl, ⟨by decide, by decide, by decide +kernel⟩, by decide⟩
theorem im_X10_undo : Cond.instanceMethod yX10_undo ∈ gtb := gk8 234 rfl rfl
theorem se_X10_undo : Cond.selects RX10 yX10_undo yX10_undo ∈ gtb := gk8 235 rfl rfl
theorem mi_X10_mark : gMi yX10_mark cX10_mark 2 (some .int) 0 := ⟨in_X10, gk9 0 rfl rfl, ⟨by decide, by decide, by decide +kernel⟩, by decide⟩
theorem im_X10_mark : Cond.instanceMethod yX10_mark ∈ gtb := gk8 238 rfl rfl
theorem se_X10_mark : Cond.selects RX10 yX10_mark yX10_mark ∈ gtb := gk8 239 rfl rfl
theorem mi_X10_back : gMi yX10_back cX10_back 3 (some .boolean) 1 := ⟨in_X10, gk9 4 rfl rfl, ⟨by decide, by decide, by decide +kernel⟩, by decide⟩
theorem im_X10_back : Cond.instanceMethod yX10_back ∈ gtb := gk9 2 rfl rfl
theorem se_X10_back : Cond.selects RX10 yX10_back yX10_back ∈ gtb := gk9 3 rfl rfl
theorem mi_X10_led : gMi yX10_led cX10_led 4 (some .int) 1 := ⟨in_X10, gk9 8 rfl rfl, ⟨by decide, by decide, by decide +kernel⟩, by decide⟩
theorem im_X10_led : Cond.instanceMethod yX10_led ∈ gtb := gk9 6 rfl rfl
theorem se_X10_led : Cond.selects RX10 yX10_led yX10_led ∈ gtb := gk9 7 rfl rfl
theorem mi_X10_size : gMi yX10_size cX10_size 2 (some .int) 1 := ⟨in_X10, gk9 12 rfl rfl, ⟨by decide, by decide, by decide +kernel⟩, by decide⟩
theorem im_X10_size : Cond.instanceMethod yX10_size ∈ gtb := gk9 10 rfl rfl
theorem se_X10_size : Cond.selects RX10 yX10_size yX10_size ∈ gtb := gk9 11 rfl rfl
theorem mi_X10_trouble : gMi yX10_trouble cX10_trouble 1 (some .int) 0 := ⟨in_X10, gk9 16 rfl rfl, ⟨by decide, by decide, by decide +kernel⟩, by decide⟩
theorem im_X10_trouble : Cond.instanceMethod yX10_trouble ∈ gtb := gk9 14 rfl rfl
theorem se_X10_trouble : Cond.selects RX10 yX10_trouble yX10_trouble ∈ gtb := gk9 15 rfl rfl
theorem mi_J6_bitCount_0f7a4 : gMi yJ6_bitCount_0f7a4 cJ6_bitCount_0f7a4 1 (some .int) 1 := ⟨in_J6, gk3 149 rfl rfl, ⟨by decide, by decide, by decide +kernel⟩, by decide⟩
theorem sm_J6_bitCount_0f7a4 : Cond.static yJ6_bitCount_0f7a4 ∈ gtb := gk3 148 rfl rfl
theorem mi_J9_min_7cf53 : gMi yJ9_min_7cf53 cJ9_min_7cf53 2 (some .int) 2 := ⟨in_J9, gk2 165 rfl rfl, ⟨by decide, by decide, by decide +kernel⟩, by decide⟩
theorem sm_J9_min_7cf53 : Cond.static yJ9_min_7cf53 ∈ gtb := gk2 164 rfl rfl
theorem mi_J0_length_8abf5 : gMi yJ0_length_8abf5 cJ0_length_8abf5 1 (some .int) 0 := ⟨in_J0, gk2 190 rfl rfl, ⟨by decide, by decide, by decide +kernel⟩, by decide⟩
theorem im_J0_length_8abf5 : Cond.instanceMethod yJ0_length_8abf5 ∈ gtb := gk2 188 rfl rfl
theorem se_J0_length_8abf5 : Cond.selects RJ0 yJ0_length_8abf5 yJ0_length_8abf5 ∈ gtb := gk2 189 rfl rfl
theorem mi_J0_charAt_5068e : gMi yJ0_charAt_5068e cJ0_charAt_5068e 2 (some .char) 1 := ⟨in_J0, gk2 200 rfl rfl, ⟨by decide, by decide, by decide +kernel⟩, by decide⟩
theorem im_J0_charAt_5068e : Cond.instanceMethod yJ0_charAt_5068e ∈ gtb := gk2 198 rfl rfl
theorem se_J0_charAt_5068e : Cond.selects RJ0 yJ0_charAt_5068e yJ0_charAt_5068e ∈ gtb := gk2 199 rfl rfl
theorem mi_J0_coder_7d493 : gMi yJ0_coder_7d493 cJ0_coder_7d493 1 (some .byte) 0 := ⟨in_J0, gk2 194 rfl rfl, ⟨by decide, by decide, by decide +kernel⟩, by decide⟩
theorem im_J0_coder_7d493 : Cond.instanceMethod yJ0_coder_7d493 ∈ gtb := gk2 192 rfl rfl
theorem se_J0_coder_7d493 : Cond.selects RJ0 yJ0_coder_7d493 yJ0_coder_7d493 ∈ gtb := gk2 193 rfl rfl
theorem mi_J0_isLatin1_aae02 : gMi yJ0_isLatin1_aae02 cJ0_isLatin1_aae02 1 (some .boolean) 0 := ⟨in_J0, gk2 204 rfl rfl, ⟨by decide, by decide, by decide +kernel⟩, by decide⟩
theorem im_J0_isLatin1_aae02 : Cond.instanceMethod yJ0_isLatin1_aae02 ∈ gtb := gk2 202 rfl rfl
theorem se_J0_isLatin1_aae02 : Cond.selects RJ0 yJ0_isLatin1_aae02 yJ0_isLatin1_aae02 ∈ gtb := gk2 203 rfl rfl
theorem mi_J0_checkIndex_df160 : gMi yJ0_checkIndex_df160 cJ0_checkIndex_df160 2 none 2 := ⟨in_J0, gk2 210 rfl rfl, ⟨by decide, by decide, by decide +kernel⟩, by decide⟩
theorem sm_J0_checkIndex_df160 : Cond.static yJ0_checkIndex_df160 ∈ gtb := gk2 209 rfl rfl
theorem mi_J1_charAt_3b067 : gMi yJ1_charAt_3b067 cJ1_charAt_3b067 2 (some .char) 2 := ⟨in_J1, gk2 207 rfl rfl, ⟨by decide, by decide, by decide +kernel⟩, by decide⟩
theorem sm_J1_charAt_3b067 : Cond.static yJ1_charAt_3b067 ∈ gtb := gk2 206 rfl rfl
theorem mi_J2_getChar_3b067 : gMi yJ2_getChar_3b067 cJ2_getChar_3b067 2 (some .char) 2 := ⟨in_J2, gk2 228 rfl rfl, ⟨by decide, by decide, by decide +kernel⟩, by decide⟩
theorem sm_J2_getChar_3b067 : Cond.static yJ2_getChar_3b067 ∈ gtb := gk2 227 rfl rfl
theorem mi_J2_length_9d52b : gMi yJ2_length_9d52b cJ2_length_9d52b 1 (some .int) 1 := ⟨in_J2, gk2 224 rfl rfl, ⟨by decide, by decide, by decide +kernel⟩, by decide⟩
theorem sm_J2_length_9d52b : Cond.static yJ2_length_9d52b ∈ gtb := gk2 223 rfl rfl
theorem mi_J2_charAt_3b067 : gMi yJ2_charAt_3b067 cJ2_charAt_3b067 2 (some .char) 2 := ⟨in_J2, gk2 218 rfl rfl, ⟨by decide, by decide, by decide +kernel⟩, by decide⟩
theorem sm_J2_charAt_3b067 : Cond.static yJ2_charAt_3b067 ∈ gtb := gk2 217 rfl rfl
theorem mi_J2_checkIndex_2214a : gMi yJ2_checkIndex_2214a cJ2_checkIndex_2214a 2 none 2 := ⟨in_J2, gk2 221 rfl rfl, ⟨by decide, by decide, by decide +kernel⟩, by decide⟩
theorem sm_J2_checkIndex_2214a : Cond.static yJ2_checkIndex_2214a ∈ gtb := gk2 220 rfl rfl
theorem mi_J3_checkIndex_8e157 : gMi yJ3_checkIndex_8e157 cJ3_checkIndex_8e157 3 (some .int) 3 := ⟨in_J3, gk2 215 rfl rfl, ⟨by decide, by decide, by decide +kernel⟩, by decide⟩
theorem sm_J3_checkIndex_8e157 : Cond.static yJ3_checkIndex_8e157 ∈ gtb := gk2 214 rfl rfl
theorem lm_L_15 : gIn RL 15 yX8_init cX8_init 1 0 := ⟨rfl, im_X8_init, mi_X8_init, Or.inl (gk1 24 rfl rfl)⟩
theorem lo_X8_1 : Cond.methodLink RX8 1 Lib.objectInit ∈ gtb := gk1 27 rfl rfl
theorem lm_X8_9 : gIn RX8 9 yX4_init cX4_init 1 0 := ⟨rfl, im_X4_init, mi_X4_init, Or.inl (gk1 32 rfl rfl)⟩
theorem lo_X4_1 : Cond.methodLink RX4 1 Lib.objectInit ∈ gtb := gk1 35 rfl rfl
theorem lm_X8_18 : gIn RX8 18 yX0_init cX0_init 1 0 := ⟨rfl, im_X0_init, mi_X0_init, Or.inl (gk1 48 rfl rfl)⟩
theorem lo_X0_3 : Cond.methodLink RX0 3 Lib.objectInit ∈ gtb := gk1 51 rfl rfl
theorem lm_X8_28 : gIn RX8 28 yX3_init cX3_init 3 2 := ⟨rfl, im_X3_init, mi_X3_init, Or.inl (gk1 160 rfl rfl)⟩
theorem lo_X3_5 : Cond.methodLink RX3 5 Lib.objectInit ∈ gtb := gk1 163 rfl rfl
theorem lm_X3_13 : gIn RX3 13 yX5_init cX5_init 2 1 := ⟨rfl, im_X5_init, mi_X5_init, Or.inl (gk1 166 rfl rfl)⟩
theorem lo_X5_1 : Cond.methodLink RX5 1 Lib.objectInit ∈ gtb := gk1 169 rfl rfl
theorem lm_X8_37 : gIn RX8 37 yX2_init cX2_init 2 1 := ⟨rfl, im_X2_init, mi_X2_init, Or.inl (gk1 231 rfl rfl)⟩
theorem lo_X2_5 : Cond.methodLink RX2 5 Lib.objectInit ∈ gtb := gk1 234 rfl rfl
theorem lm_X8_46 : gIn RX8 46 yX7_init cX7_init 2 1 := ⟨rfl, im_X7_init, mi_X7_init, Or.inl (gk2 32 rfl rfl)⟩
theorem lo_X7_1 : Cond.methodLink RX7 1 Lib.objectInit ∈ gtb := gk2 35 rfl rfl
theorem lm_X8_53 : gIn RX8 53 yX6_init cX6_init 1 0 := ⟨rfl, im_X6_init, mi_X6_init, Or.inl (gk2 66 rfl rfl)⟩
theorem lo_X6_1 : Cond.methodLink RX6 1 Lib.objectInit ∈ gtb := gk2 69 rfl rfl
theorem lm_X8_60 : gIn RX8 60 yX1_init cX1_init 1 0 := ⟨rfl, im_X1_init, mi_X1_init, Or.inl (gk2 81 rfl rfl)⟩
theorem lo_X1_1 : Cond.methodLink RX1 1 Lib.objectInit ∈ gtb := gk2 84 rfl rfl
theorem lm_L_19 : gV RL 19 yX8_feed cX8_feed 6 (some .int) 8 5 := ⟨gk2 131 rfl rfl, im_X8_feed, se_X8_feed, rfl, by decide, mi_X8_feed⟩
theorem lm_X8_75 : gV RX8 75 yX4_hasRoom cX4_hasRoom 1 (some .boolean) 4 0 := ⟨gk2 135 rfl rfl, im_X4_hasRoom, se_X4_hasRoom, rfl, by decide, mi_X4_hasRoom⟩
theorem lm_X8_79 : gV RX8 79 yX4_put cX4_put 3 none 4 1 := ⟨gk2 139 rfl rfl, im_X4_put, se_X4_put, rfl, by decide, mi_X4_put⟩
theorem lm_L_24 : gV RL 24 yX8_city cX8_city 4 (some .int) 8 1 := ⟨gk2 143 rfl rfl, im_X8_city, se_X8_city, rfl, by decide, mi_X8_city⟩
theorem lm_X8_86 : gV RX8 86 yX8_refuse cX8_refuse 2 (some .int) 8 1 := ⟨gk2 147 rfl rfl, im_X8_refuse, se_X8_refuse, rfl, by decide, mi_X8_refuse⟩
theorem lm_X8_90 : gV RX8 90 yX3_parse cX3_parse 4 (some .boolean) 3 2 := ⟨gk2 151 rfl rfl, im_X3_parse, se_X3_parse, rfl, by decide, mi_X3_parse⟩
theorem lm_X3_41 : gV RX3 41 yX0_clear cX0_clear 2 none 0 0 := ⟨gk2 155 rfl rfl, im_X0_clear, se_X0_clear, rfl, by decide, mi_X0_clear⟩
theorem lm_X3_50 : gV RX3 50 yX5_open cX5_open 2 none 5 1 := ⟨gk2 159 rfl rfl, im_X5_open, se_X5_open, rfl, by decide, mi_X5_open⟩
theorem lm_X5_29 : gSt RX5 29 yJ9_min_7cf53 cJ9_min_7cf53 2 (some .int) 2 := ⟨gk2 163 rfl rfl, sm_J9_min_7cf53, mi_J9_min_7cf53⟩
theorem lm_X5_35 : gV RX5 35 yX5_step cX5_step 2 none 5 0 := ⟨gk2 166 rfl rfl, im_X5_step, se_X5_step, rfl, by decide, mi_X5_step⟩
theorem lm_X5_38 : gV RX5 38 yX5_sortAt cX5_sortAt 3 (some .int) 5 1 := ⟨gk2 170 rfl rfl, im_X5_sortAt, se_X5_sortAt, rfl, by decide, mi_X5_sortAt⟩
theorem lm_X3_54 : gV RX3 54 yX3_firstLine cX3_firstLine 2 (some .boolean) 3 0 := ⟨gk2 174 rfl rfl, im_X3_firstLine, se_X3_firstLine, rfl, by decide, mi_X3_firstLine⟩
theorem lm_X3_104 : gV RX3 104 yX3_lineSort cX3_lineSort 1 (some .int) 3 0 := ⟨gk2 178 rfl rfl, im_X3_lineSort, se_X3_lineSort, rfl, by decide, mi_X3_lineSort⟩
theorem lm_X3_80 : gV RX3 80 yX5_is cX5_is 3 (some .boolean) 5 1 := ⟨gk2 183 rfl rfl, im_X5_is, se_X5_is, rfl, by decide, mi_X5_is⟩
theorem lm_J0_495 : gSt RJ0 495 yJ1_charAt_3b067 cJ1_charAt_3b067 2 (some .char) 2 := ⟨gk2 205 rfl rfl, sm_J1_charAt_3b067, mi_J1_charAt_3b067⟩
theorem lm_J1_9 : gSt RJ1 9 yJ0_checkIndex_df160 cJ0_checkIndex_df160 2 none 2 := ⟨gk2 208 rfl rfl, sm_J0_checkIndex_df160, mi_J0_checkIndex_df160⟩
theorem lm_J0_1059 : gSt RJ0 1059 yJ3_checkIndex_8e157 cJ3_checkIndex_8e157 3 (some .int) 3 := ⟨gk2 213 rfl rfl, sm_J3_checkIndex_8e157, mi_J3_checkIndex_8e157⟩
theorem lm_J0_498 : gSt RJ0 498 yJ2_charAt_3b067 cJ2_charAt_3b067 2 (some .char) 2 := ⟨gk2 216 rfl rfl, sm_J2_charAt_3b067, mi_J2_charAt_3b067⟩
theorem lm_J2_67 : gSt RJ2 67 yJ2_checkIndex_2214a cJ2_checkIndex_2214a 2 none 2 := ⟨gk2 219 rfl rfl, sm_J2_checkIndex_2214a, mi_J2_checkIndex_2214a⟩
theorem lm_J2_48 : gSt RJ2 48 yJ2_length_9d52b cJ2_length_9d52b 1 (some .int) 1 := ⟨gk2 222 rfl rfl, sm_J2_length_9d52b, mi_J2_length_9d52b⟩
theorem lm_J2_414 : gSt RJ2 414 yJ0_checkIndex_df160 cJ0_checkIndex_df160 2 none 2 := ⟨gk2 225 rfl rfl, sm_J0_checkIndex_df160, mi_J0_checkIndex_df160⟩
theorem lm_J2_71 : gSt RJ2 71 yJ2_getChar_3b067 cJ2_getChar_3b067 2 (some .char) 2 := ⟨gk2 226 rfl rfl, sm_J2_getChar_3b067, mi_J2_getChar_3b067⟩
theorem lm_X3_66 : gV RX3 66 yX3_fail cX3_fail 2 (some .boolean) 3 1 := ⟨gk3 5 rfl rfl, im_X3_fail, se_X3_fail, rfl, by decide, mi_X3_fail⟩
theorem lm_X3_70 : gV RX3 70 yX5_step cX5_step 2 none 5 0 := ⟨gk3 9 rfl rfl, im_X5_step, se_X5_step, rfl, by decide, mi_X5_step⟩
theorem lm_X3_110 : gV RX3 110 yX3_fixed cX3_fixed 2 (some .boolean) 3 1 := ⟨gk3 11 rfl rfl, im_X3_fixed, se_X3_fixed, rfl, by decide, mi_X3_fixed⟩
theorem lm_X3_113 : gV RX3 113 yX3_numberWithin cX3_numberWithin 3 (some .boolean) 3 2 := ⟨gk3 15 rfl rfl, im_X3_numberWithin, se_X3_numberWithin, rfl, by decide, mi_X3_numberWithin⟩
theorem lm_X3_243 : gV RX3 243 yX5_value cX5_value 3 (some .int) 5 0 := ⟨gk3 19 rfl rfl, im_X5_value, se_X5_value, rfl, by decide, mi_X5_value⟩
theorem lm_X3_73 : gV RX3 73 yX3_line cX3_line 3 (some .boolean) 3 0 := ⟨gk3 26 rfl rfl, im_X3_line, se_X3_line, rfl, by decide, mi_X3_line⟩
theorem lm_X3_134 : gSt RX3 134 yX3_roomFor cX3_roomFor 1 (some .int) 1 := ⟨gk3 30 rfl rfl, sm_X3_roomFor, mi_X3_roomFor⟩
theorem lm_X3_141 : gV RX3 141 yX3_paneLine cX3_paneLine 1 (some .boolean) 3 0 := ⟨gk3 33 rfl rfl, im_X3_paneLine, se_X3_paneLine, rfl, by decide, mi_X3_paneLine⟩
theorem lm_X3_162 : gV RX3 162 yX3_newName cX3_newName 4 (some .boolean) 3 1 := ⟨gk3 37 rfl rfl, im_X3_newName, se_X3_newName, rfl, by decide, mi_X3_newName⟩
theorem lm_X3_246 : gV RX3 246 yX5_key cX5_key 4 (some .long) 5 0 := ⟨gk3 41 rfl rfl, im_X5_key, se_X5_key, rfl, by decide, mi_X5_key⟩
theorem lm_X3_250 : gV RX3 250 yX3_findName cX3_findName 4 (some .int) 3 1 := ⟨gk3 45 rfl rfl, im_X3_findName, se_X3_findName, rfl, by decide, mi_X3_findName⟩
theorem lm_X3_171 : gV RX3 171 yX3_kindOfPane cX3_kindOfPane 2 (some .boolean) 3 0 := ⟨gk3 49 rfl rfl, im_X3_kindOfPane, se_X3_kindOfPane, rfl, by decide, mi_X3_kindOfPane⟩
theorem lm_X3_174 : gV RX3 174 yX3_rows cX3_rows 4 (some .boolean) 3 1 := ⟨gk3 55 rfl rfl, im_X3_rows, se_X3_rows, rfl, by decide, mi_X3_rows⟩
theorem lm_X3_254 : gV RX3 254 yX3_row cX3_row 6 (some .boolean) 3 2 := ⟨gk3 59 rfl rfl, im_X3_row, se_X3_row, rfl, by decide, mi_X3_row⟩
theorem lm_X3_261 : gV RX3 261 yX5_letter cX5_letter 2 (some .int) 5 1 := ⟨gk3 63 rfl rfl, im_X5_letter, se_X5_letter, rfl, by decide, mi_X5_letter⟩
theorem lm_X3_144 : gV RX3 144 yX3_wordLine cX3_wordLine 1 (some .boolean) 3 0 := ⟨gk3 67 rfl rfl, im_X3_wordLine, se_X3_wordLine, rfl, by decide, mi_X3_wordLine⟩
theorem lm_X3_147 : gV RX3 147 yX3_viewLine cX3_viewLine 1 (some .boolean) 3 0 := ⟨gk3 71 rfl rfl, im_X3_viewLine, se_X3_viewLine, rfl, by decide, mi_X3_viewLine⟩
theorem lm_X3_150 : gV RX3 150 yX3_cornerLine cX3_cornerLine 1 (some .boolean) 3 0 := ⟨gk3 75 rfl rfl, im_X3_cornerLine, se_X3_cornerLine, rfl, by decide, mi_X3_cornerLine⟩
theorem lm_X3_196 : gV RX3 196 yX3_knownName cX3_knownName 3 (some .boolean) 3 1 := ⟨gk3 79 rfl rfl, im_X3_knownName, se_X3_knownName, rfl, by decide, mi_X3_knownName⟩
theorem lm_X3_153 : gV RX3 153 yX3_streetLine cX3_streetLine 4 (some .boolean) 3 0 := ⟨gk3 83 rfl rfl, im_X3_streetLine, se_X3_streetLine, rfl, by decide, mi_X3_streetLine⟩
theorem lm_X3_205 : gSt RX3 205 yX0_street cX0_street 2 (some .int) 2 := ⟨gk3 87 rfl rfl, sm_X0_street, mi_X0_street⟩
theorem lm_X3_156 : gV RX3 156 yX3_thiefLine cX3_thiefLine 1 (some .boolean) 3 0 := ⟨gk3 91 rfl rfl, im_X3_thiefLine, se_X3_thiefLine, rfl, by decide, mi_X3_thiefLine⟩
theorem lm_X3_213 : gV RX3 213 yX0_hasThief cX0_hasThief 2 (some .boolean) 0 1 := ⟨gk3 95 rfl rfl, im_X0_hasThief, se_X0_hasThief, rfl, by decide, mi_X0_hasThief⟩
theorem lm_X3_159 : gV RX3 159 yX3_sentLine cX3_sentLine 2 (some .boolean) 3 0 := ⟨gk3 99 rfl rfl, im_X3_sentLine, se_X3_sentLine, rfl, by decide, mi_X3_sentLine⟩
theorem lm_X3_165 : gV RX3 165 yX3_shardLine cX3_shardLine 2 (some .boolean) 3 0 := ⟨gk3 103 rfl rfl, im_X3_shardLine, se_X3_shardLine, rfl, by decide, mi_X3_shardLine⟩
theorem lm_X3_168 : gV RX3 168 yX3_shelfLine cX3_shelfLine 1 (some .boolean) 3 0 := ⟨gk3 107 rfl rfl, im_X3_shelfLine, se_X3_shelfLine, rfl, by decide, mi_X3_shelfLine⟩
theorem lm_X8_100 : gV RX8 100 yX2_begin cX2_begin 3 none 2 1 := ⟨gk3 111 rfl rfl, im_X2_begin, se_X2_begin, rfl, by decide, mi_X2_begin⟩
theorem lm_X8_107 : gV RX8 107 yX8_answer cX8_answer 2 (some .int) 8 1 := ⟨gk3 115 rfl rfl, im_X8_answer, se_X8_answer, rfl, by decide, mi_X8_answer⟩
theorem lm_L_28 : gV RL 28 yX8_fault cX8_fault 1 (some .int) 8 0 := ⟨gk3 119 rfl rfl, im_X8_fault, se_X8_fault, rfl, by decide, mi_X8_fault⟩
theorem lm_L_33 : gV RL 33 yX8_where cX8_where 1 (some .int) 8 0 := ⟨gk3 123 rfl rfl, im_X8_where, se_X8_where, rfl, by decide, mi_X8_where⟩
theorem lm_L_37 : gV RL 37 yX8_pane cX8_pane 3 (some .int) 8 2 := ⟨gk3 127 rfl rfl, im_X8_pane, se_X8_pane, rfl, by decide, mi_X8_pane⟩
theorem lm_X8_110 : gV RX8 110 yX8_isPane cX8_isPane 2 (some .boolean) 8 1 := ⟨gk3 131 rfl rfl, im_X8_isPane, se_X8_isPane, rfl, by decide, mi_X8_isPane⟩
theorem lm_X8_123 : gV RX8 123 yX2_isBroken cX2_isBroken 2 (some .boolean) 2 1 := ⟨gk3 135 rfl rfl, im_X2_isBroken, se_X2_isBroken, rfl, by decide, mi_X2_isBroken⟩
theorem lm_X8_126 : gV RX8 126 yX2_light cX2_light 2 (some .int) 2 1 := ⟨gk3 139 rfl rfl, im_X2_light, se_X2_light, rfl, by decide, mi_X2_light⟩
theorem lm_X2_50 : gV RX2 50 yX0_cells cX0_cells 1 (some .int) 0 0 := ⟨gk3 143 rfl rfl, im_X0_cells, se_X0_cells, rfl, by decide, mi_X0_cells⟩
theorem lm_X2_54 : gSt RX2 54 yJ6_bitCount_0f7a4 cJ6_bitCount_0f7a4 1 (some .int) 1 := ⟨gk3 147 rfl rfl, sm_J6_bitCount_0f7a4, mi_J6_bitCount_0f7a4⟩
theorem lm_L_42 : gV RL 42 yX8_word cX8_word 2 (some .int) 8 1 := ⟨gk3 153 rfl rfl, im_X8_word, se_X8_word, rfl, by decide, mi_X8_word⟩
theorem lm_X8_129 : gV RX8 129 yX8_isWord cX8_isWord 2 (some .boolean) 8 1 := ⟨gk3 157 rfl rfl, im_X8_isWord, se_X8_isWord, rfl, by decide, mi_X8_isWord⟩
theorem lm_L_46 : gV RL 46 yX8_view cX8_view 2 (some .int) 8 1 := ⟨gk3 161 rfl rfl, im_X8_view, se_X8_view, rfl, by decide, mi_X8_view⟩
theorem lm_X8_135 : gV RX8 135 yX8_isView cX8_isView 2 (some .boolean) 8 1 := ⟨gk3 165 rfl rfl, im_X8_isView, se_X8_isView, rfl, by decide, mi_X8_isView⟩
theorem lm_L_50 : gV RL 50 yX8_seen cX8_seen 4 (some .int) 8 2 := ⟨gk3 169 rfl rfl, im_X8_seen, se_X8_seen, rfl, by decide, mi_X8_seen⟩
theorem lm_X8_141 : gV RX8 141 yX8_isSight cX8_isSight 2 (some .boolean) 8 1 := ⟨gk3 173 rfl rfl, im_X8_isSight, se_X8_isSight, rfl, by decide, mi_X8_isSight⟩
theorem lm_X8_144 : gV RX8 144 yX8_whyNot cX8_whyNot 3 (some .int) 8 2 := ⟨gk3 177 rfl rfl, im_X8_whyNot, se_X8_whyNot, rfl, by decide, mi_X8_whyNot⟩
theorem lm_X8_148 : gV RX8 148 yX2_seenBits cX2_seenBits 3 (some .int) 2 2 := ⟨gk3 181 rfl rfl, im_X2_seenBits, se_X2_seenBits, rfl, by decide, mi_X2_seenBits⟩
theorem lm_X2_60 : gV RX2 60 yX0_darkOf cX0_darkOf 2 (some .int) 0 1 := ⟨gk3 185 rfl rfl, im_X0_darkOf, se_X0_darkOf, rfl, by decide, mi_X0_darkOf⟩
theorem lm_L_54 : gV RL 54 yX8_read cX8_read 4 (some .int) 8 2 := ⟨gk3 189 rfl rfl, im_X8_read, se_X8_read, rfl, by decide, mi_X8_read⟩
theorem lm_X8_152 : gV RX8 152 yX2_wordRead cX2_wordRead 3 (some .int) 2 2 := ⟨gk3 193 rfl rfl, im_X2_wordRead, se_X2_wordRead, rfl, by decide, mi_X2_wordRead⟩
theorem lm_X2_63 : gV RX2 63 yX2_seenBits cX2_seenBits 3 (some .int) 2 2 := ⟨gk3 197 rfl rfl, im_X2_seenBits, se_X2_seenBits, rfl, by decide, mi_X2_seenBits⟩
theorem lm_X2_67 : gV RX2 67 yX0_firstWord cX0_firstWord 3 (some .int) 0 1 := ⟨gk3 198 rfl rfl, im_X0_firstWord, se_X0_firstWord, rfl, by decide, mi_X0_firstWord⟩
theorem lm_L_58 : gV RL 58 yX8_together cX8_together 4 (some .int) 8 2 := ⟨gk3 202 rfl rfl, im_X8_together, se_X8_together, rfl, by decide, mi_X8_together⟩
theorem lm_X8_155 : gV RX8 155 yX8_whyNotBoth cX8_whyNotBoth 4 (some .int) 8 2 := ⟨gk3 206 rfl rfl, im_X8_whyNotBoth, se_X8_whyNotBoth, rfl, by decide, mi_X8_whyNotBoth⟩
theorem lm_X8_158 : gV RX8 158 yX2_laidTogether cX2_laidTogether 3 (some .int) 2 2 := ⟨gk3 210 rfl rfl, im_X2_laidTogether, se_X2_laidTogether, rfl, by decide, mi_X2_laidTogether⟩
theorem lm_L_62 : gV RL 62 yX8_readTogether cX8_readTogether 4 (some .int) 8 2 := ⟨gk3 214 rfl rfl, im_X8_readTogether, se_X8_readTogether, rfl, by decide, mi_X8_readTogether⟩
theorem lm_X8_161 : gV RX8 161 yX0_firstWord cX0_firstWord 3 (some .int) 0 1 := ⟨gk3 218 rfl rfl, im_X0_firstWord, se_X0_firstWord, rfl, by decide, mi_X0_firstWord⟩
theorem lm_L_66 : gV RL 66 yX8_viewsFor cX8_viewsFor 6 (some .int) 8 2 := ⟨gk3 219 rfl rfl, im_X8_viewsFor, se_X8_viewsFor, rfl, by decide, mi_X8_viewsFor⟩
theorem lm_L_70 : gV RL 70 yX8_pairFor cX8_pairFor 2 (some .int) 8 1 := ⟨gk3 223 rfl rfl, im_X8_pairFor, se_X8_pairFor, rfl, by decide, mi_X8_pairFor⟩
theorem lm_X8_164 : gV RX8 164 yX2_firstPair cX2_firstPair 4 (some .int) 2 1 := ⟨gk3 227 rfl rfl, im_X2_firstPair, se_X2_firstPair, rfl, by decide, mi_X2_firstPair⟩
theorem lm_X2_70 : gV RX2 70 yX2_isBroken cX2_isBroken 2 (some .boolean) 2 1 := ⟨gk3 231 rfl rfl, im_X2_isBroken, se_X2_isBroken, rfl, by decide, mi_X2_isBroken⟩
theorem lm_X2_74 : gV RX2 74 yX2_laidTogether cX2_laidTogether 3 (some .int) 2 2 := ⟨gk3 232 rfl rfl, im_X2_laidTogether, se_X2_laidTogether, rfl, by decide, mi_X2_laidTogether⟩
theorem lm_L_74 : gV RL 74 yX8_soonest cX8_soonest 3 (some .int) 8 2 := ⟨gk3 233 rfl rfl, im_X8_soonest, se_X8_soonest, rfl, by decide, mi_X8_soonest⟩
theorem lm_X8_167 : gV RX8 167 yX8_isCorner cX8_isCorner 2 (some .boolean) 8 1 := ⟨gk3 237 rfl rfl, im_X8_isCorner, se_X8_isCorner, rfl, by decide, mi_X8_isCorner⟩
theorem lm_X8_170 : gV RX8 170 yX8_soonestMinutes cX8_soonestMinutes 4 (some .int) 8 3 := ⟨gk4 1 rfl rfl, im_X8_soonestMinutes, se_X8_soonestMinutes, rfl, by decide, mi_X8_soonestMinutes⟩
theorem lm_X8_174 : gV RX8 174 yX7_goSoonest cX7_goSoonest 5 none 7 4 := ⟨gk4 5 rfl rfl, im_X7_goSoonest, se_X7_goSoonest, rfl, by decide, mi_X7_goSoonest⟩
theorem lm_X7_29 : gV RX7 29 yX7_go cX7_go 5 none 7 4 := ⟨gk4 9 rfl rfl, im_X7_go, se_X7_go, rfl, by decide, mi_X7_go⟩
theorem lm_X7_46 : gV RX7 46 yX7_walk cX7_walk 8 none 7 4 := ⟨gk4 14 rfl rfl, im_X7_walk, se_X7_walk, rfl, by decide, mi_X7_walk⟩
theorem lm_X7_50 : gV RX7 50 yX7_keepIfBetter cX7_keepIfBetter 5 none 7 2 := ⟨gk4 18 rfl rfl, im_X7_keepIfBetter, se_X7_keepIfBetter, rfl, by decide, mi_X7_keepIfBetter⟩
theorem lm_X7_57 : gSt RX7 57 yX0_street cX0_street 2 (some .int) 2 := ⟨gk4 22 rfl rfl, sm_X0_street, mi_X0_street⟩
theorem lm_X7_64 : gV RX7 64 yX7_worthBehind cX7_worthBehind 4 (some .long) 7 2 := ⟨gk4 23 rfl rfl, im_X7_worthBehind, se_X7_worthBehind, rfl, by decide, mi_X7_worthBehind⟩
theorem lm_X8_339 : gV RX8 339 yX7_minutes cX7_minutes 1 (some .int) 7 0 := ⟨gk4 28 rfl rfl, im_X7_minutes, se_X7_minutes, rfl, by decide, mi_X7_minutes⟩
theorem lm_L_78 : gV RL 78 yX8_soonestAt cX8_soonestAt 4 (some .int) 8 3 := ⟨gk4 32 rfl rfl, im_X8_soonestAt, se_X8_soonestAt, rfl, by decide, mi_X8_soonestAt⟩
theorem lm_X8_178 : gV RX8 178 yX8_cornerOfWay cX8_cornerOfWay 2 (some .int) 8 1 := ⟨gk4 36 rfl rfl, im_X8_cornerOfWay, se_X8_cornerOfWay, rfl, by decide, mi_X8_cornerOfWay⟩
theorem lm_L_83 : gV RL 83 yX8_secret cX8_secret 5 (some .int) 8 3 := ⟨gk4 40 rfl rfl, im_X8_secret, se_X8_secret, rfl, by decide, mi_X8_secret⟩
theorem lm_X8_181 : gV RX8 181 yX2_readingCorners cX2_readingCorners 4 (some .int) 2 1 := ⟨gk4 44 rfl rfl, im_X2_readingCorners, se_X2_readingCorners, rfl, by decide, mi_X2_readingCorners⟩
theorem lm_X2_77 : gV RX2 77 yX0_hasThief cX0_hasThief 2 (some .boolean) 0 1 := ⟨gk4 48 rfl rfl, im_X0_hasThief, se_X0_hasThief, rfl, by decide, mi_X0_hasThief⟩
theorem lm_X2_83 : gV RX2 83 yX2_wordRead cX2_wordRead 3 (some .int) 2 2 := ⟨gk4 49 rfl rfl, im_X2_wordRead, se_X2_wordRead, rfl, by decide, mi_X2_wordRead⟩
theorem lm_L_87 : gV RL 87 yX8_secretAt cX8_secretAt 6 (some .int) 8 4 := ⟨gk4 50 rfl rfl, im_X8_secretAt, se_X8_secretAt, rfl, by decide, mi_X8_secretAt⟩
theorem lm_L_92 : gV RL 92 yX8_safest cX8_safest 8 (some .long) 8 4 := ⟨gk4 54 rfl rfl, im_X8_safest, se_X8_safest, rfl, by decide, mi_X8_safest⟩
theorem lm_X8_184 : gV RX8 184 yX8_whyNotSafest cX8_whyNotSafest 5 (some .int) 8 3 := ⟨gk4 58 rfl rfl, im_X8_whyNotSafest, se_X8_whyNotSafest, rfl, by decide, mi_X8_whyNotSafest⟩
theorem lm_X8_322 : gV RX8 322 yX7_goSafest cX7_goSafest 5 none 7 4 := ⟨gk4 62 rfl rfl, im_X7_goSafest, se_X7_goSafest, rfl, by decide, mi_X7_goSafest⟩
theorem lm_X8_193 : gSt RX8 193 yX7_greatestDivisor cX7_greatestDivisor 11 (some .long) 2 := ⟨gk4 67 rfl rfl, sm_X7_greatestDivisor, mi_X7_greatestDivisor⟩
theorem lm_L_97 : gV RL 97 yX8_safestAt cX8_safestAt 6 (some .int) 8 4 := ⟨gk4 70 rfl rfl, im_X8_safestAt, se_X8_safestAt, rfl, by decide, mi_X8_safestAt⟩
theorem lm_L_101 : gV RL 101 yX8_sent cX8_sent 3 (some .int) 8 2 := ⟨gk4 74 rfl rfl, im_X8_sent, se_X8_sent, rfl, by decide, mi_X8_sent⟩
theorem lm_X8_197 : gV RX8 197 yX8_isLetter cX8_isLetter 2 (some .boolean) 8 1 := ⟨gk4 78 rfl rfl, im_X8_isLetter, se_X8_isLetter, rfl, by decide, mi_X8_isLetter⟩
theorem lm_L_105 : gV RL 105 yX8_readers cX8_readers 2 (some .int) 8 1 := ⟨gk4 82 rfl rfl, im_X8_readers, se_X8_readers, rfl, by decide, mi_X8_readers⟩
theorem lm_X8_209 : gV RX8 209 yX8_readersOf cX8_readersOf 3 (some .int) 8 1 := ⟨gk4 86 rfl rfl, im_X8_readersOf, se_X8_readersOf, rfl, by decide, mi_X8_readersOf⟩
theorem lm_X8_345 : gV RX8 345 yX7_corners cX7_corners 3 (some .int) 7 0 := ⟨gk4 90 rfl rfl, im_X7_corners, se_X7_corners, rfl, by decide, mi_X7_corners⟩
theorem lm_L_109 : gV RL 109 yX8_overheard cX8_overheard 5 (some .int) 8 1 := ⟨gk4 94 rfl rfl, im_X8_overheard, se_X8_overheard, rfl, by decide, mi_X8_overheard⟩
theorem lm_L_113 : gV RL 113 yX8_unread cX8_unread 3 (some .int) 8 0 := ⟨gk4 98 rfl rfl, im_X8_unread, se_X8_unread, rfl, by decide, mi_X8_unread⟩
theorem lm_X8_215 : gV RX8 215 yX8_noCity cX8_noCity 1 (some .boolean) 8 0 := ⟨gk4 102 rfl rfl, im_X8_noCity, se_X8_noCity, rfl, by decide, mi_X8_noCity⟩
theorem lm_L_117 : gV RL 117 yX8_made cX8_made 7 (some .int) 8 5 := ⟨gk4 106 rfl rfl, im_X8_made, se_X8_made, rfl, by decide, mi_X8_made⟩
theorem lm_X8_218 : gV RX8 218 yX8_whyNotMade cX8_whyNotMade 7 (some .int) 8 5 := ⟨gk4 110 rfl rfl, im_X8_whyNotMade, se_X8_whyNotMade, rfl, by decide, mi_X8_whyNotMade⟩
theorem lm_X8_327 : gV RX8 327 yX0_darkOf cX0_darkOf 2 (some .int) 0 1 := ⟨gk4 114 rfl rfl, im_X0_darkOf, se_X0_darkOf, rfl, by decide, mi_X0_darkOf⟩
theorem lm_X8_330 : gV RX8 330 yX6_make cX6_make 11 (some .boolean) 6 5 := ⟨gk4 115 rfl rfl, im_X6_make, se_X6_make, rfl, by decide, mi_X6_make⟩
theorem lm_X8_222 : gV RX8 222 yX6_strokes cX6_strokes 1 (some .int) 6 0 := ⟨gk4 119 rfl rfl, im_X6_strokes, se_X6_strokes, rfl, by decide, mi_X6_strokes⟩
theorem lm_X6_16 : gSt RX6 16 yJ6_bitCount_0f7a4 cJ6_bitCount_0f7a4 1 (some .int) 1 := ⟨gk4 123 rfl rfl, sm_J6_bitCount_0f7a4, mi_J6_bitCount_0f7a4⟩
theorem lm_L_121 : gV RL 121 yX8_madeOf cX8_madeOf 8 (some .int) 8 6 := ⟨gk4 124 rfl rfl, im_X8_madeOf, se_X8_madeOf, rfl, by decide, mi_X8_madeOf⟩
theorem lm_L_126 : gV RL 126 yX8_putty cX8_putty 5 (some .int) 8 2 := ⟨gk4 128 rfl rfl, im_X8_putty, se_X8_putty, rfl, by decide, mi_X8_putty⟩
theorem lm_X8_231 : gV RX8 231 yX2_leastPutty cX2_leastPutty 6 (some .int) 2 2 := ⟨gk4 132 rfl rfl, im_X2_leastPutty, se_X2_leastPutty, rfl, by decide, mi_X2_leastPutty⟩
theorem lm_X2_86 : gV RX2 86 yX2_hide cX2_hide 6 (some .int) 2 3 := ⟨gk4 136 rfl rfl, im_X2_hide, se_X2_hide, rfl, by decide, mi_X2_hide⟩
theorem lm_X8_234 : gSt RX8 234 yJ6_bitCount_0f7a4 cJ6_bitCount_0f7a4 1 (some .int) 1 := ⟨gk4 140 rfl rfl, sm_J6_bitCount_0f7a4, mi_J6_bitCount_0f7a4⟩
theorem lm_L_130 : gV RL 130 yX8_puttyOf cX8_puttyOf 5 (some .int) 8 2 := ⟨gk4 141 rfl rfl, im_X8_puttyOf, se_X8_puttyOf, rfl, by decide, mi_X8_puttyOf⟩
theorem lm_L_134 : gV RL 134 yX8_scratches cX8_scratches 5 (some .int) 8 3 := ⟨gk4 145 rfl rfl, im_X8_scratches, se_X8_scratches, rfl, by decide, mi_X8_scratches⟩
theorem lm_X8_239 : gV RX8 239 yX2_fewestScratches cX2_fewestScratches 8 (some .int) 2 3 := ⟨gk4 149 rfl rfl, im_X2_fewestScratches, se_X2_fewestScratches, rfl, by decide, mi_X2_fewestScratches⟩
theorem lm_L_138 : gV RL 138 yX8_could cX8_could 6 (some .int) 8 2 := ⟨gk4 153 rfl rfl, im_X8_could, se_X8_could, rfl, by decide, mi_X8_could⟩
theorem lm_L_142 : gV RL 142 yX8_wholes cX8_wholes 1 (some .int) 8 0 := ⟨gk4 157 rfl rfl, im_X8_wholes, se_X8_wholes, rfl, by decide, mi_X8_wholes⟩
theorem lm_X8_242 : gV RX8 242 yX0_countWholes cX0_countWholes 3 (some .int) 0 0 := ⟨gk4 161 rfl rfl, im_X0_countWholes, se_X0_countWholes, rfl, by decide, mi_X0_countWholes⟩
theorem lm_X0_80 : gV RX0 80 yX0_isWhole cX0_isWhole 4 (some .boolean) 0 1 := ⟨gk4 165 rfl rfl, im_X0_isWhole, se_X0_isWhole, rfl, by decide, mi_X0_isWhole⟩
theorem lm_X0_77 : gV RX0 77 yX0_allCells cX0_allCells 1 (some .int) 0 0 := ⟨gk4 169 rfl rfl, im_X0_allCells, se_X0_allCells, rfl, by decide, mi_X0_allCells⟩
theorem lm_X0_73 : gV RX0 73 yX0_cells cX0_cells 1 (some .int) 0 0 := ⟨gk4 173 rfl rfl, im_X0_cells, se_X0_cells, rfl, by decide, mi_X0_cells⟩
theorem lm_L_146 : gV RL 146 yX8_whole cX8_whole 3 (some .int) 8 1 := ⟨gk4 174 rfl rfl, im_X8_whole, se_X8_whole, rfl, by decide, mi_X8_whole⟩
theorem lm_X8_245 : gV RX8 245 yX0_wholeAt cX0_wholeAt 4 (some .int) 0 1 := ⟨gk4 178 rfl rfl, im_X0_wholeAt, se_X0_wholeAt, rfl, by decide, mi_X0_wholeAt⟩
theorem lm_L_150 : gV RL 150 yX8_written cX8_written 3 (some .int) 8 1 := ⟨gk4 182 rfl rfl, im_X8_written, se_X8_written, rfl, by decide, mi_X8_written⟩
theorem lm_X8_248 : gV RX8 248 yX0_strokesOfShards cX0_strokesOfShards 4 (some .int) 0 1 := ⟨gk4 186 rfl rfl, im_X0_strokesOfShards, se_X0_strokesOfShards, rfl, by decide, mi_X0_strokesOfShards⟩
theorem lm_L_154 : gV RL 154 yX8_wordOf cX8_wordOf 3 (some .int) 8 1 := ⟨gk4 190 rfl rfl, im_X8_wordOf, se_X8_wordOf, rfl, by decide, mi_X8_wordOf⟩
theorem lm_L_158 : gV RL 158 yX8_owner cX8_owner 3 (some .int) 8 1 := ⟨gk4 194 rfl rfl, im_X8_owner, se_X8_owner, rfl, by decide, mi_X8_owner⟩
theorem lm_X8_251 : gV RX8 251 yX0_ownerOfMost cX0_ownerOfMost 6 (some .int) 0 1 := ⟨gk4 198 rfl rfl, im_X0_ownerOfMost, se_X0_ownerOfMost, rfl, by decide, mi_X0_ownerOfMost⟩
theorem lm_X0_84 : gV RX0 84 yX0_cellsOfPerson cX0_cellsOfPerson 5 (some .int) 0 2 := ⟨gk4 202 rfl rfl, im_X0_cellsOfPerson, se_X0_cellsOfPerson, rfl, by decide, mi_X0_cellsOfPerson⟩
theorem lm_X0_88 : gSt RX0 88 yJ6_bitCount_0f7a4 cJ6_bitCount_0f7a4 1 (some .int) 1 := ⟨gk4 206 rfl rfl, sm_J6_bitCount_0f7a4, mi_J6_bitCount_0f7a4⟩
theorem lm_L_162 : gV RL 162 yX8_missing cX8_missing 1 (some .int) 8 0 := ⟨gk4 207 rfl rfl, im_X8_missing, se_X8_missing, rfl, by decide, mi_X8_missing⟩
theorem lm_X8_254 : gV RX8 254 yX0_cellsWithoutShard cX0_cellsWithoutShard 3 (some .int) 0 0 := ⟨gk4 211 rfl rfl, im_X0_cellsWithoutShard, se_X0_cellsWithoutShard, rfl, by decide, mi_X0_cellsWithoutShard⟩
theorem lm_L_166 : gV RL 166 yX8_shelf cX8_shelf 1 (some .int) 8 0 := ⟨gk4 215 rfl rfl, im_X8_shelf, se_X8_shelf, rfl, by decide, mi_X8_shelf⟩
theorem lm_X8_257 : gV RX8 257 yX2_bestForShelf cX2_bestForShelf 7 (some .int) 2 0 := ⟨gk4 219 rfl rfl, im_X2_bestForShelf, se_X2_bestForShelf, rfl, by decide, mi_X2_bestForShelf⟩
theorem lm_X2_93 : gV RX2 93 yX2_unbroken cX2_unbroken 1 (some .int) 2 0 := ⟨gk4 223 rfl rfl, im_X2_unbroken, se_X2_unbroken, rfl, by decide, mi_X2_unbroken⟩
theorem lm_X2_96 : gV RX2 96 yX2_lightOf cX2_lightOf 4 (some .int) 2 1 := ⟨gk4 227 rfl rfl, im_X2_lightOf, se_X2_lightOf, rfl, by decide, mi_X2_lightOf⟩
theorem lm_X2_102 : gV RX2 102 yX2_light cX2_light 2 (some .int) 2 1 := ⟨gk4 231 rfl rfl, im_X2_light, se_X2_light, rfl, by decide, mi_X2_light⟩
theorem lm_L_170 : gV RL 170 yX8_gain cX8_gain 4 (some .int) 8 2 := ⟨gk4 232 rfl rfl, im_X8_gain, se_X8_gain, rfl, by decide, mi_X8_gain⟩
theorem lm_X8_260 : gV RX8 260 yX2_writerHas cX2_writerHas 4 (some .int) 2 2 := ⟨gk4 236 rfl rfl, im_X2_writerHas, se_X2_writerHas, rfl, by decide, mi_X2_writerHas⟩
theorem lm_L_174 : gV RL 174 yX8_rests cX8_rests 4 (some .int) 8 0 := ⟨gk5 0 rfl rfl, im_X8_rests, se_X8_rests, rfl, by decide, mi_X8_rests⟩
theorem lm_X8_263 : gV RX8 263 yX2_isRest cX2_isRest 5 (some .boolean) 2 2 := ⟨gk5 4 rfl rfl, im_X2_isRest, se_X2_isRest, rfl, by decide, mi_X2_isRest⟩
theorem lm_X2_105 : gSt RX2 105 yX2_viewOf cX2_viewOf 1 (some .int) 1 := ⟨gk5 8 rfl rfl, sm_X2_viewOf, mi_X2_viewOf⟩
theorem lm_X2_108 : gV RX2 108 yX2_writerHas cX2_writerHas 4 (some .int) 2 2 := ⟨gk5 11 rfl rfl, im_X2_writerHas, se_X2_writerHas, rfl, by decide, mi_X2_writerHas⟩
theorem lm_L_178 : gV RL 178 yX8_rest cX8_rest 3 (some .int) 8 0 := ⟨gk5 12 rfl rfl, im_X8_rest, se_X8_rest, rfl, by decide, mi_X8_rest⟩
theorem lm_L_182 : gV RL 182 yX8_left cX8_left 4 (some .int) 8 2 := ⟨gk5 16 rfl rfl, im_X8_left, se_X8_left, rfl, by decide, mi_X8_left⟩
theorem lm_X8_267 : gV RX8 267 yX8_whyNoDays cX8_whyNoDays 3 (some .int) 8 2 := ⟨gk5 20 rfl rfl, im_X8_whyNoDays, se_X8_whyNoDays, rfl, by decide, mi_X8_whyNoDays⟩
theorem lm_X8_270 : gV RX8 270 yX2_unbroken cX2_unbroken 1 (some .int) 2 0 := ⟨gk5 25 rfl rfl, im_X2_unbroken, se_X2_unbroken, rfl, by decide, mi_X2_unbroken⟩
theorem lm_X8_273 : gV RX8 273 yX1_pass cX1_pass 6 none 1 4 := ⟨gk5 26 rfl rfl, im_X1_pass, se_X1_pass, rfl, by decide, mi_X1_pass⟩
theorem lm_X1_19 : gV RX1 19 yX1_draw cX1_draw 1 (some .int) 1 0 := ⟨gk5 30 rfl rfl, im_X1_draw, se_X1_draw, rfl, by decide, mi_X1_draw⟩
theorem lm_X1_28 : gV RX1 28 yX1_strike cX1_strike 4 none 1 1 := ⟨gk5 35 rfl rfl, im_X1_strike, se_X1_strike, rfl, by decide, mi_X1_strike⟩
theorem lm_X1_35 : gV RX1 35 yX1_melt cX1_melt 3 none 1 1 := ⟨gk5 39 rfl rfl, im_X1_melt, se_X1_melt, rfl, by decide, mi_X1_melt⟩
theorem lm_L_186 : gV RL 186 yX8_hails cX8_hails 4 (some .int) 8 2 := ⟨gk5 43 rfl rfl, im_X8_hails, se_X8_hails, rfl, by decide, mi_X8_hails⟩
theorem lm_L_190 : gV RL 190 yX8_scratch cX8_scratch 4 (some .boolean) 8 2 := ⟨gk5 47 rfl rfl, im_X8_scratch, se_X8_scratch, rfl, by decide, mi_X8_scratch⟩
theorem lm_X8_282 : gV RX8 282 yX8_isCell cX8_isCell 2 (some .boolean) 8 1 := ⟨gk5 51 rfl rfl, im_X8_isCell, se_X8_isCell, rfl, by decide, mi_X8_isCell⟩
theorem lm_X8_319 : gV RX8 319 yX0_cells cX0_cells 1 (some .int) 0 0 := ⟨gk5 55 rfl rfl, im_X0_cells, se_X0_cells, rfl, by decide, mi_X0_cells⟩
theorem lm_X8_285 : gV RX8 285 yX8_act cX8_act 5 (some .boolean) 8 4 := ⟨gk5 56 rfl rfl, im_X8_act, se_X8_act, rfl, by decide, mi_X8_act⟩
theorem lm_X8_335 : gV RX8 335 yX2_perform cX2_perform 4 none 2 3 := ⟨gk5 60 rfl rfl, im_X2_perform, se_X2_perform, rfl, by decide, mi_X2_perform⟩
theorem lm_X2_111 : gV RX2 111 yX2_change cX2_change 4 none 2 3 := ⟨gk5 64 rfl rfl, im_X2_change, se_X2_change, rfl, by decide, mi_X2_change⟩
theorem lm_X2_115 : gV RX2 115 yX2_forgetOldest cX2_forgetOldest 2 none 2 0 := ⟨gk5 68 rfl rfl, im_X2_forgetOldest, se_X2_forgetOldest, rfl, by decide, mi_X2_forgetOldest⟩
theorem lm_L_195 : gV RL 195 yX8_cover cX8_cover 4 (some .boolean) 8 2 := ⟨gk5 72 rfl rfl, im_X8_cover, se_X8_cover, rfl, by decide, mi_X8_cover⟩
theorem lm_L_199 : gV RL 199 yX8_breaks cX8_breaks 3 (some .boolean) 8 1 := ⟨gk5 76 rfl rfl, im_X8_breaks, se_X8_breaks, rfl, by decide, mi_X8_breaks⟩
theorem lm_L_204 : gV RL 204 yX8_undo cX8_undo 1 (some .boolean) 8 0 := ⟨gk5 80 rfl rfl, im_X8_undo, se_X8_undo, rfl, by decide, mi_X8_undo⟩
theorem lm_X8_289 : gV RX8 289 yX2_takeBack cX2_takeBack 1 (some .boolean) 2 0 := ⟨gk5 84 rfl rfl, im_X2_takeBack, se_X2_takeBack, rfl, by decide, mi_X2_takeBack⟩
theorem lm_L_209 : gV RL 209 yX8_mark cX8_mark 1 (some .int) 8 0 := ⟨gk5 88 rfl rfl, im_X8_mark, se_X8_mark, rfl, by decide, mi_X8_mark⟩
theorem lm_X8_292 : gV RX8 292 yX2_keep cX2_keep 3 (some .boolean) 2 0 := ⟨gk5 92 rfl rfl, im_X2_keep, se_X2_keep, rfl, by decide, mi_X2_keep⟩
theorem lm_L_213 : gV RL 213 yX8_back cX8_back 2 (some .boolean) 8 1 := ⟨gk5 96 rfl rfl, im_X8_back, se_X8_back, rfl, by decide, mi_X8_back⟩
theorem lm_X8_298 : gV RX8 298 yX2_restore cX2_restore 4 (some .boolean) 2 1 := ⟨gk5 100 rfl rfl, im_X2_restore, se_X2_restore, rfl, by decide, mi_X2_restore⟩
theorem lm_L_226 : gV RL 226 yX8_size cX8_size 2 (some .int) 8 1 := ⟨gk5 104 rfl rfl, im_X8_size, se_X8_size, rfl, by decide, mi_X8_size⟩
theorem lm_L_230 : gV RL 230 yX8_trouble cX8_trouble 1 (some .int) 8 0 := ⟨gk5 108 rfl rfl, im_X8_trouble, se_X8_trouble, rfl, by decide, mi_X8_trouble⟩
theorem lm_L_7 : gV RL 7 yX8_led cX8_led 4 (some .int) 8 1 := ⟨gk5 116 rfl rfl, im_X8_led, se_X8_led, rfl, by decide, mi_X8_led⟩
theorem lm_L_18 : gIn RL 18 yX10_init cX10_init 1 0 := ⟨rfl, im_X10_init, mi_X10_init, Or.inl (gk5 183 rfl rfl)⟩
theorem lo_X10_3 : Cond.methodLink RX10 3 Lib.objectInit ∈ gtb := gk5 186 rfl rfl
theorem lm_L_223 : gV RL 223 yX10_thrown cX10_thrown 1 (some .int) 10 0 := ⟨gk6 53 rfl rfl, im_X10_thrown, se_X10_thrown, rfl, by decide, mi_X10_thrown⟩
theorem lm_L_23 : gV RL 23 yX10_feed cX10_feed 8 (some .int) 10 5 := ⟨gk6 57 rfl rfl, im_X10_feed, se_X10_feed, rfl, by decide, mi_X10_feed⟩
theorem lm_L_27 : gV RL 27 yX10_city cX10_city 3 (some .int) 10 1 := ⟨gk6 61 rfl rfl, im_X10_city, se_X10_city, rfl, by decide, mi_X10_city⟩
theorem lm_X10_45 : gV RX10 45 yX10_refused cX10_refused 2 (some .int) 10 1 := ⟨gk6 65 rfl rfl, im_X10_refused, se_X10_refused, rfl, by decide, mi_X10_refused⟩
theorem lm_X10_355 : gIn RX10 355 yX9_init cX9_init 1 0 := ⟨rfl, im_X9_init, mi_X9_init, Or.inr ⟨"GlassPostModel", gkN6 71 rfl rfl⟩⟩
theorem lo_X9_3 : Cond.methodLink RX9 3 Lib.objectInit ∈ gtb := gk6 74 rfl rfl
theorem lm_X10_123 : gV RX10 123 yX10_goesOn cX10_goesOn 3 none 10 0 := ⟨gk6 190 rfl rfl, im_X10_goesOn, se_X10_goesOn, rfl, by decide, mi_X10_goesOn⟩
theorem lm_X10_77 : gV RX10 77 yX10_byteAt cX10_byteAt 2 (some .int) 10 1 := ⟨gk6 194 rfl rfl, im_X10_byteAt, se_X10_byteAt, rfl, by decide, mi_X10_byteAt⟩
theorem lm_X10_86 : gSt RX10 86 yX10_isLetter cX10_isLetter 1 (some .boolean) 1 := ⟨gk6 198 rfl rfl, sm_X10_isLetter, mi_X10_isLetter⟩
theorem lm_X10_100 : gSt RX10 100 yX10_isDigit cX10_isDigit 1 (some .boolean) 1 := ⟨gk6 202 rfl rfl, sm_X10_isDigit, mi_X10_isDigit⟩
theorem lm_X10_356 : gV RX10 356 yX10_readAll cX10_readAll 2 none 10 0 := ⟨gk6 205 rfl rfl, im_X10_readAll, se_X10_readAll, rfl, by decide, mi_X10_readAll⟩
theorem lm_X10_212 : gV RX10 212 yX10_readLine cX10_readLine 1 none 10 0 := ⟨gk6 209 rfl rfl, im_X10_readLine, se_X10_readLine, rfl, by decide, mi_X10_readLine⟩
theorem lm_X10_126 : gV RX10 126 yX10_isWord cX10_isWord 2 (some .boolean) 10 1 := ⟨gk6 214 rfl rfl, im_X10_isWord, se_X10_isWord, rfl, by decide, mi_X10_isWord⟩
theorem lm_X10_116 : gSt RX10 116 yX10_packed cX10_packed 4 (some .long) 1 := ⟨gk6 218 rfl rfl, sm_X10_packed, mi_X10_packed⟩
theorem lm_X10_218 : gV RX10 218 yX10_readCity cX10_readCity 5 none 10 0 := ⟨gk6 223 rfl rfl, im_X10_readCity, se_X10_readCity, rfl, by decide, mi_X10_readCity⟩
theorem lm_X10_130 : gV RX10 130 yX10_flaw cX10_flaw 2 none 10 1 := ⟨gk6 227 rfl rfl, im_X10_flaw, se_X10_flaw, rfl, by decide, mi_X10_flaw⟩
theorem lm_X10_106 : gV RX10 106 yX10_flawAt cX10_flawAt 3 none 10 2 := ⟨gk6 231 rfl rfl, im_X10_flawAt, se_X10_flawAt, rfl, by decide, mi_X10_flawAt⟩
theorem lm_X10_252 : gV RX10 252 yX10_readPart cX10_readPart 4 (some .int) 10 3 := ⟨gk6 236 rfl rfl, im_X10_readPart, se_X10_readPart, rfl, by decide, mi_X10_readPart⟩
theorem lm_X10_138 : gV RX10 138 yX10_needs cX10_needs 2 none 10 1 := ⟨gk7 0 rfl rfl, im_X10_needs, se_X10_needs, rfl, by decide, mi_X10_needs⟩
theorem lm_X10_142 : gV RX10 142 yX10_readWhole cX10_readWhole 4 (some .int) 10 2 := ⟨gk7 4 rfl rfl, im_X10_readWhole, se_X10_readWhole, rfl, by decide, mi_X10_readWhole⟩
theorem lm_X10_134 : gSt RX10 134 yX10_in cX10_in 3 (some .boolean) 3 := ⟨gk7 8 rfl rfl, sm_X10_in, mi_X10_in⟩
theorem lm_X10_221 : gV RX10 221 yX10_readPane cX10_readPane 4 none 10 0 := ⟨gk7 15 rfl rfl, im_X10_readPane, se_X10_readPane, rfl, by decide, mi_X10_readPane⟩
theorem lm_X10_265 : gV RX10 265 yX10_begins cX10_begins 3 none 10 2 := ⟨gk7 19 rfl rfl, im_X10_begins, se_X10_begins, rfl, by decide, mi_X10_begins⟩
theorem lm_X10_268 : gV RX10 268 yX10_readFresh cX10_readFresh 3 (some .long) 10 0 := ⟨gk7 23 rfl rfl, im_X10_readFresh, se_X10_readFresh, rfl, by decide, mi_X10_readFresh⟩
theorem lm_X10_176 : gV RX10 176 yX10_isName cX10_isName 1 (some .boolean) 10 0 := ⟨gk7 27 rfl rfl, im_X10_isName, se_X10_isName, rfl, by decide, mi_X10_isName⟩
theorem lm_X10_180 : gV RX10 180 yX9_find cX9_find 4 (some .int) 9 1 := ⟨gk7 40 rfl rfl, im_X9_find, se_X9_find, rfl, by decide, mi_X9_find⟩
theorem lm_X10_276 : gV RX10 276 yX10_readRows cX10_readRows 6 none 10 1 := ⟨gk7 46 rfl rfl, im_X10_readRows, se_X10_readRows, rfl, by decide, mi_X10_readRows⟩
theorem lm_X10_209 : gV RX10 209 yX10_eatsSign cX10_eatsSign 3 (some .boolean) 10 1 := ⟨gk7 50 rfl rfl, im_X10_eatsSign, se_X10_eatsSign, rfl, by decide, mi_X10_eatsSign⟩
theorem lm_X10_120 : gV RX10 120 yX10_isSign cX10_isSign 2 (some .boolean) 10 1 := ⟨gk7 54 rfl rfl, im_X10_isSign, se_X10_isSign, rfl, by decide, mi_X10_isSign⟩
theorem lm_X10_280 : gV RX10 280 yX10_names cX10_names 5 none 10 3 := ⟨gk7 58 rfl rfl, im_X10_names, se_X10_names, rfl, by decide, mi_X10_names⟩
theorem lm_X10_224 : gV RX10 224 yX10_readWordLine cX10_readWordLine 3 none 10 0 := ⟨gk7 62 rfl rfl, im_X10_readWordLine, se_X10_readWordLine, rfl, by decide, mi_X10_readWordLine⟩
theorem lm_X10_227 : gV RX10 227 yX10_readView cX10_readView 3 none 10 0 := ⟨gk7 66 rfl rfl, im_X10_readView, se_X10_readView, rfl, by decide, mi_X10_readView⟩
theorem lm_X10_230 : gV RX10 230 yX10_readCorner cX10_readCorner 4 none 10 0 := ⟨gk7 70 rfl rfl, im_X10_readCorner, se_X10_readCorner, rfl, by decide, mi_X10_readCorner⟩
theorem lm_X10_303 : gV RX10 303 yX10_readKnown cX10_readKnown 3 (some .int) 10 1 := ⟨gk7 74 rfl rfl, im_X10_readKnown, se_X10_readKnown, rfl, by decide, mi_X10_readKnown⟩
theorem lm_X10_197 : gV RX10 197 yX10_knownOne cX10_knownOne 3 (some .int) 10 1 := ⟨gk7 78 rfl rfl, im_X10_knownOne, se_X10_knownOne, rfl, by decide, mi_X10_knownOne⟩
theorem lm_X10_233 : gV RX10 233 yX10_readStreet cX10_readStreet 5 none 10 0 := ⟨gk7 82 rfl rfl, im_X10_readStreet, se_X10_readStreet, rfl, by decide, mi_X10_readStreet⟩
theorem lm_X10_236 : gV RX10 236 yX10_readThief cX10_readThief 2 none 10 0 := ⟨gk7 87 rfl rfl, im_X10_readThief, se_X10_readThief, rfl, by decide, mi_X10_readThief⟩
theorem lm_X10_319 : gV RX10 319 yX9_isThief cX9_isThief 2 (some .boolean) 9 1 := ⟨gk7 91 rfl rfl, im_X9_isThief, se_X9_isThief, rfl, by decide, mi_X9_isThief⟩
theorem lm_X10_239 : gV RX10 239 yX10_readSent cX10_readSent 4 none 10 0 := ⟨gk7 95 rfl rfl, im_X10_readSent, se_X10_readSent, rfl, by decide, mi_X10_readSent⟩
theorem lm_X10_242 : gV RX10 242 yX10_readPerson cX10_readPerson 3 none 10 0 := ⟨gk7 99 rfl rfl, im_X10_readPerson, se_X10_readPerson, rfl, by decide, mi_X10_readPerson⟩
theorem lm_X10_245 : gV RX10 245 yX10_readShard cX10_readShard 3 none 10 0 := ⟨gk7 103 rfl rfl, im_X10_readShard, se_X10_readShard, rfl, by decide, mi_X10_readShard⟩
theorem lm_X10_248 : gV RX10 248 yX10_readShelf cX10_readShelf 2 none 10 0 := ⟨gk7 107 rfl rfl, im_X10_readShelf, se_X10_readShelf, rfl, by decide, mi_X10_readShelf⟩
theorem lm_X10_49 : gV RX10 49 yX10_good cX10_good 2 (some .int) 10 1 := ⟨gk7 111 rfl rfl, im_X10_good, se_X10_good, rfl, by decide, mi_X10_good⟩
theorem lm_L_32 : gV RL 32 yX10_fault cX10_fault 1 (some .int) 10 0 := ⟨gk7 115 rfl rfl, im_X10_fault, se_X10_fault, rfl, by decide, mi_X10_fault⟩
theorem lm_L_36 : gV RL 36 yX10_where cX10_where 1 (some .int) 10 0 := ⟨gk7 119 rfl rfl, im_X10_where, se_X10_where, rfl, by decide, mi_X10_where⟩
theorem lm_L_41 : gV RL 41 yX10_pane cX10_pane 3 (some .int) 10 2 := ⟨gk7 123 rfl rfl, im_X10_pane, se_X10_pane, rfl, by decide, mi_X10_pane⟩
theorem lm_X10_377 : gV RX10 377 yX10_isPane cX10_isPane 2 (some .boolean) 10 1 := ⟨gk7 127 rfl rfl, im_X10_isPane, se_X10_isPane, rfl, by decide, mi_X10_isPane⟩
theorem lm_X10_383 : gV RX10 383 yX10_isBroken cX10_isBroken 2 (some .boolean) 10 1 := ⟨gk7 131 rfl rfl, im_X10_isBroken, se_X10_isBroken, rfl, by decide, mi_X10_isBroken⟩
theorem lm_X10_367 : gSt RX10 367 yX10_bit cX10_bit 2 (some .boolean) 2 := ⟨gk7 135 rfl rfl, sm_X10_bit, mi_X10_bit⟩
theorem lm_X10_386 : gV RX10 386 yX10_lightOf cX10_lightOf 2 (some .int) 10 1 := ⟨gk7 138 rfl rfl, im_X10_lightOf, se_X10_lightOf, rfl, by decide, mi_X10_lightOf⟩
theorem lm_X10_389 : gV RX10 389 yX9_cells cX9_cells 1 (some .int) 9 0 := ⟨gk7 142 rfl rfl, im_X9_cells, se_X9_cells, rfl, by decide, mi_X9_cells⟩
theorem lm_X10_392 : gSt RX10 392 yX10_bits cX10_bits 3 (some .int) 1 := ⟨gk7 146 rfl rfl, sm_X10_bits, mi_X10_bits⟩
theorem lm_L_45 : gV RL 45 yX10_word cX10_word 2 (some .int) 10 1 := ⟨gk7 149 rfl rfl, im_X10_word, se_X10_word, rfl, by decide, mi_X10_word⟩
theorem lm_X10_395 : gV RX10 395 yX10_isWordOf cX10_isWordOf 2 (some .boolean) 10 1 := ⟨gk7 153 rfl rfl, im_X10_isWordOf, se_X10_isWordOf, rfl, by decide, mi_X10_isWordOf⟩
theorem lm_L_49 : gV RL 49 yX10_view cX10_view 2 (some .int) 10 1 := ⟨gk7 157 rfl rfl, im_X10_view, se_X10_view, rfl, by decide, mi_X10_view⟩
theorem lm_L_53 : gV RL 53 yX10_seen cX10_seen 4 (some .int) 10 2 := ⟨gk7 161 rfl rfl, im_X10_seen, se_X10_seen, rfl, by decide, mi_X10_seen⟩
theorem lm_X10_398 : gV RX10 398 yX10_refusesSeen cX10_refusesSeen 3 (some .int) 10 2 := ⟨gk7 165 rfl rfl, im_X10_refusesSeen, se_X10_refusesSeen, rfl, by decide, mi_X10_refusesSeen⟩
theorem lm_X10_380 : gV RX10 380 yX10_isView cX10_isView 2 (some .boolean) 10 1 := ⟨gk7 169 rfl rfl, im_X10_isView, se_X10_isView, rfl, by decide, mi_X10_isView⟩
theorem lm_X10_401 : gV RX10 401 yX10_seenOf cX10_seenOf 3 (some .int) 10 2 := ⟨gk7 173 rfl rfl, im_X10_seenOf, se_X10_seenOf, rfl, by decide, mi_X10_seenOf⟩
theorem lm_X10_371 : gV RX10 371 yX10_shownBy cX10_shownBy 2 (some .int) 10 1 := ⟨gk7 177 rfl rfl, im_X10_shownBy, se_X10_shownBy, rfl, by decide, mi_X10_shownBy⟩
theorem lm_X10_374 : gV RX10 374 yX10_darkOf cX10_darkOf 2 (some .int) 10 1 := ⟨gk7 181 rfl rfl, im_X10_darkOf, se_X10_darkOf, rfl, by decide, mi_X10_darkOf⟩
theorem lm_L_57 : gV RL 57 yX10_read cX10_read 4 (some .int) 10 2 := ⟨gk7 185 rfl rfl, im_X10_read, se_X10_read, rfl, by decide, mi_X10_read⟩
theorem lm_X10_404 : gV RX10 404 yX10_readOf cX10_readOf 3 (some .int) 10 1 := ⟨gk7 189 rfl rfl, im_X10_readOf, se_X10_readOf, rfl, by decide, mi_X10_readOf⟩
theorem lm_L_61 : gV RL 61 yX10_together cX10_together 4 (some .int) 10 2 := ⟨gk7 193 rfl rfl, im_X10_together, se_X10_together, rfl, by decide, mi_X10_together⟩
theorem lm_X10_407 : gV RX10 407 yX10_refusesTogether cX10_refusesTogether 3 (some .int) 10 2 := ⟨gk7 197 rfl rfl, im_X10_refusesTogether, se_X10_refusesTogether, rfl, by decide, mi_X10_refusesTogether⟩
theorem lm_L_65 : gV RL 65 yX10_readTogether cX10_readTogether 4 (some .int) 10 2 := ⟨gk7 201 rfl rfl, im_X10_readTogether, se_X10_readTogether, rfl, by decide, mi_X10_readTogether⟩
theorem lm_L_69 : gV RL 69 yX10_viewsFor cX10_viewsFor 5 (some .int) 10 2 := ⟨gk7 205 rfl rfl, im_X10_viewsFor, se_X10_viewsFor, rfl, by decide, mi_X10_viewsFor⟩
theorem lm_L_73 : gV RL 73 yX10_pairFor cX10_pairFor 4 (some .int) 10 1 := ⟨gk7 209 rfl rfl, im_X10_pairFor, se_X10_pairFor, rfl, by decide, mi_X10_pairFor⟩
theorem lm_L_77 : gV RL 77 yX10_soonest cX10_soonest 3 (some .int) 10 2 := ⟨gk7 213 rfl rfl, im_X10_soonest, se_X10_soonest, rfl, by decide, mi_X10_soonest⟩
theorem lm_X10_435 : gV RX10 435 yX10_isCorner cX10_isCorner 2 (some .boolean) 10 1 := ⟨gk7 217 rfl rfl, im_X10_isCorner, se_X10_isCorner, rfl, by decide, mi_X10_isCorner⟩
theorem lm_X10_438 : gV RX10 438 yX10_minutesOf cX10_minutesOf 5 (some .int) 10 4 := ⟨gk7 221 rfl rfl, im_X10_minutesOf, se_X10_minutesOf, rfl, by decide, mi_X10_minutesOf⟩
theorem lm_X10_431 : gV RX10 431 yX10_walks cX10_walks 7 (some .int) 10 4 := ⟨gk7 225 rfl rfl, im_X10_walks, se_X10_walks, rfl, by decide, mi_X10_walks⟩
theorem lm_X10_417 : gV RX10 417 yX10_mayBe cX10_mayBe 4 (some .boolean) 10 3 := ⟨gk7 229 rfl rfl, im_X10_mayBe, se_X10_mayBe, rfl, by decide, mi_X10_mayBe⟩
theorem lm_X10_420 : gV RX10 420 yX10_ends cX10_ends 7 none 10 3 := ⟨gk7 233 rfl rfl, im_X10_ends, se_X10_ends, rfl, by decide, mi_X10_ends⟩
theorem lm_X10_424 : gV RX10 424 yX10_worthOf cX10_worthOf 10 (some .long) 10 3 := ⟨gk7 237 rfl rfl, im_X10_worthOf, se_X10_worthOf, rfl, by decide, mi_X10_worthOf⟩
theorem lm_L_82 : gV RL 82 yX10_soonestAt cX10_soonestAt 4 (some .int) 10 3 := ⟨gk8 3 rfl rfl, im_X10_soonestAt, se_X10_soonestAt, rfl, by decide, mi_X10_soonestAt⟩
theorem lm_L_86 : gV RL 86 yX10_secret cX10_secret 5 (some .int) 10 3 := ⟨gk8 7 rfl rfl, im_X10_secret, se_X10_secret, rfl, by decide, mi_X10_secret⟩
theorem lm_X10_441 : gV RX10 441 yX10_refusesWay cX10_refusesWay 4 (some .int) 10 3 := ⟨gk8 11 rfl rfl, im_X10_refusesWay, se_X10_refusesWay, rfl, by decide, mi_X10_refusesWay⟩
theorem lm_L_91 : gV RL 91 yX10_secretAt cX10_secretAt 6 (some .int) 10 4 := ⟨gk8 15 rfl rfl, im_X10_secretAt, se_X10_secretAt, rfl, by decide, mi_X10_secretAt⟩
theorem lm_L_96 : gV RL 96 yX10_safest cX10_safest 6 (some .long) 10 4 := ⟨gk8 19 rfl rfl, im_X10_safest, se_X10_safest, rfl, by decide, mi_X10_safest⟩
theorem lm_X10_445 : gV RX10 445 yX10_fraction cX10_fraction 6 (some .long) 10 3 := ⟨gk8 23 rfl rfl, im_X10_fraction, se_X10_fraction, rfl, by decide, mi_X10_fraction⟩
theorem lm_X10_52 : gSt RX10 52 yX10_common cX10_common 10 (some .long) 2 := ⟨gk8 27 rfl rfl, sm_X10_common, mi_X10_common⟩
theorem lm_L_100 : gV RL 100 yX10_safestAt cX10_safestAt 7 (some .int) 10 4 := ⟨gk8 30 rfl rfl, im_X10_safestAt, se_X10_safestAt, rfl, by decide, mi_X10_safestAt⟩
theorem lm_L_104 : gV RL 104 yX10_sent cX10_sent 3 (some .int) 10 2 := ⟨gk8 34 rfl rfl, im_X10_sent, se_X10_sent, rfl, by decide, mi_X10_sent⟩
theorem lm_X10_449 : gV RX10 449 yX10_isSent cX10_isSent 2 (some .boolean) 10 1 := ⟨gk8 38 rfl rfl, im_X10_isSent, se_X10_isSent, rfl, by decide, mi_X10_isSent⟩
theorem lm_L_108 : gV RL 108 yX10_readers cX10_readers 2 (some .int) 10 1 := ⟨gk8 42 rfl rfl, im_X10_readers, se_X10_readers, rfl, by decide, mi_X10_readers⟩
theorem lm_X10_455 : gV RX10 455 yX10_readersOf cX10_readersOf 7 (some .int) 10 1 := ⟨gk8 46 rfl rfl, im_X10_readersOf, se_X10_readersOf, rfl, by decide, mi_X10_readersOf⟩
theorem lm_L_112 : gV RL 112 yX10_overheard cX10_overheard 2 (some .int) 10 1 := ⟨gk8 50 rfl rfl, im_X10_overheard, se_X10_overheard, rfl, by decide, mi_X10_overheard⟩
theorem lm_L_116 : gV RL 116 yX10_unread cX10_unread 3 (some .int) 10 0 := ⟨gk8 54 rfl rfl, im_X10_unread, se_X10_unread, rfl, by decide, mi_X10_unread⟩
theorem lm_L_120 : gV RL 120 yX10_made cX10_made 6 (some .int) 10 5 := ⟨gk8 58 rfl rfl, im_X10_made, se_X10_made, rfl, by decide, mi_X10_made⟩
theorem lm_X10_464 : gV RX10 464 yX10_isMade cX10_isMade 6 (some .boolean) 10 5 := ⟨gk8 62 rfl rfl, im_X10_isMade, se_X10_isMade, rfl, by decide, mi_X10_isMade⟩
theorem lm_X10_468 : gV RX10 468 yX10_makes cX10_makes 9 (some .boolean) 10 5 := ⟨gk8 66 rfl rfl, im_X10_makes, se_X10_makes, rfl, by decide, mi_X10_makes⟩
theorem lm_L_125 : gV RL 125 yX10_madeOf cX10_madeOf 7 (some .int) 10 6 := ⟨gk8 70 rfl rfl, im_X10_madeOf, se_X10_madeOf, rfl, by decide, mi_X10_madeOf⟩
theorem lm_L_129 : gV RL 129 yX10_putty cX10_putty 5 (some .int) 10 2 := ⟨gk8 74 rfl rfl, im_X10_putty, se_X10_putty, rfl, by decide, mi_X10_putty⟩
theorem lm_X10_474 : gV RX10 474 yX10_putties cX10_putties 7 (some .int) 10 1 := ⟨gk8 78 rfl rfl, im_X10_putties, se_X10_putties, rfl, by decide, mi_X10_putties⟩
theorem lm_X10_471 : gV RX10 471 yX10_nextPick cX10_nextPick 5 (some .boolean) 10 2 := ⟨gk8 82 rfl rfl, im_X10_nextPick, se_X10_nextPick, rfl, by decide, mi_X10_nextPick⟩
theorem lm_L_133 : gV RL 133 yX10_puttyOf cX10_puttyOf 5 (some .int) 10 2 := ⟨gk8 86 rfl rfl, im_X10_puttyOf, se_X10_puttyOf, rfl, by decide, mi_X10_puttyOf⟩
theorem lm_L_137 : gV RL 137 yX10_scratches cX10_scratches 5 (some .int) 10 3 := ⟨gk8 90 rfl rfl, im_X10_scratches, se_X10_scratches, rfl, by decide, mi_X10_scratches⟩
theorem lm_X10_477 : gV RX10 477 yX10_scratchesOf cX10_scratchesOf 6 (some .int) 10 3 := ⟨gk8 94 rfl rfl, im_X10_scratchesOf, se_X10_scratchesOf, rfl, by decide, mi_X10_scratchesOf⟩
theorem lm_L_141 : gV RL 141 yX10_could cX10_could 6 (some .int) 10 2 := ⟨gk8 98 rfl rfl, im_X10_could, se_X10_could, rfl, by decide, mi_X10_could⟩
theorem lm_L_145 : gV RL 145 yX10_wholes cX10_wholes 3 (some .int) 10 0 := ⟨gk8 102 rfl rfl, im_X10_wholes, se_X10_wholes, rfl, by decide, mi_X10_wholes⟩
theorem lm_X10_483 : gV RX10 483 yX10_isWhole cX10_isWhole 4 (some .boolean) 10 1 := ⟨gk8 106 rfl rfl, im_X10_isWhole, se_X10_isWhole, rfl, by decide, mi_X10_isWhole⟩
theorem lm_X10_480 : gV RX10 480 yX9_all cX9_all 1 (some .int) 9 0 := ⟨gk8 110 rfl rfl, im_X9_all, se_X9_all, rfl, by decide, mi_X9_all⟩
theorem lm_L_149 : gV RL 149 yX10_whole cX10_whole 3 (some .int) 10 1 := ⟨gk8 114 rfl rfl, im_X10_whole, se_X10_whole, rfl, by decide, mi_X10_whole⟩
theorem lm_X10_486 : gV RX10 486 yX10_wholeAt cX10_wholeAt 4 (some .int) 10 1 := ⟨gk8 118 rfl rfl, im_X10_wholeAt, se_X10_wholeAt, rfl, by decide, mi_X10_wholeAt⟩
theorem lm_L_153 : gV RL 153 yX10_written cX10_written 3 (some .int) 10 1 := ⟨gk8 122 rfl rfl, im_X10_written, se_X10_written, rfl, by decide, mi_X10_written⟩
theorem lm_X10_489 : gV RX10 489 yX10_writtenBy cX10_writtenBy 4 (some .int) 10 1 := ⟨gk8 126 rfl rfl, im_X10_writtenBy, se_X10_writtenBy, rfl, by decide, mi_X10_writtenBy⟩
theorem lm_L_157 : gV RL 157 yX10_wordOf cX10_wordOf 3 (some .int) 10 1 := ⟨gk8 130 rfl rfl, im_X10_wordOf, se_X10_wordOf, rfl, by decide, mi_X10_wordOf⟩
theorem lm_L_161 : gV RL 161 yX10_owner cX10_owner 5 (some .int) 10 1 := ⟨gk8 134 rfl rfl, im_X10_owner, se_X10_owner, rfl, by decide, mi_X10_owner⟩
theorem lm_X10_492 : gV RX10 492 yX10_cellsOf cX10_cellsOf 5 (some .int) 10 2 := ⟨gk8 138 rfl rfl, im_X10_cellsOf, se_X10_cellsOf, rfl, by decide, mi_X10_cellsOf⟩
theorem lm_L_165 : gV RL 165 yX10_missing cX10_missing 3 (some .int) 10 0 := ⟨gk8 142 rfl rfl, im_X10_missing, se_X10_missing, rfl, by decide, mi_X10_missing⟩
theorem lm_L_169 : gV RL 169 yX10_shelf cX10_shelf 3 (some .int) 10 0 := ⟨gk8 146 rfl rfl, im_X10_shelf, se_X10_shelf, rfl, by decide, mi_X10_shelf⟩
theorem lm_X10_495 : gV RX10 495 yX10_lightOfAll cX10_lightOfAll 4 (some .int) 10 1 := ⟨gk8 150 rfl rfl, im_X10_lightOfAll, se_X10_lightOfAll, rfl, by decide, mi_X10_lightOfAll⟩
theorem lm_L_173 : gV RL 173 yX10_gain cX10_gain 4 (some .int) 10 2 := ⟨gk8 154 rfl rfl, im_X10_gain, se_X10_gain, rfl, by decide, mi_X10_gain⟩
theorem lm_X10_498 : gV RX10 498 yX10_lost cX10_lost 2 (some .int) 10 1 := ⟨gk8 158 rfl rfl, im_X10_lost, se_X10_lost, rfl, by decide, mi_X10_lost⟩
theorem lm_X10_501 : gV RX10 501 yX10_gainOf cX10_gainOf 4 (some .int) 10 2 := ⟨gk8 162 rfl rfl, im_X10_gainOf, se_X10_gainOf, rfl, by decide, mi_X10_gainOf⟩
theorem lm_L_177 : gV RL 177 yX10_rests cX10_rests 4 (some .int) 10 0 := ⟨gk8 166 rfl rfl, im_X10_rests, se_X10_rests, rfl, by decide, mi_X10_rests⟩
theorem lm_X10_507 : gV RX10 507 yX10_isRest cX10_isRest 5 (some .boolean) 10 2 := ⟨gk8 170 rfl rfl, im_X10_isRest, se_X10_isRest, rfl, by decide, mi_X10_isRest⟩
theorem lm_X10_504 : gSt RX10 504 yX10_viewAt cX10_viewAt 1 (some .int) 1 := ⟨gk8 174 rfl rfl, sm_X10_viewAt, mi_X10_viewAt⟩
theorem lm_L_181 : gV RL 181 yX10_rest cX10_rest 3 (some .int) 10 0 := ⟨gk8 177 rfl rfl, im_X10_rest, se_X10_rest, rfl, by decide, mi_X10_rest⟩
theorem lm_L_185 : gV RL 185 yX10_left cX10_left 4 (some .int) 10 2 := ⟨gk8 181 rfl rfl, im_X10_left, se_X10_left, rfl, by decide, mi_X10_left⟩
theorem lm_X10_520 : gV RX10 520 yX10_refusesDays cX10_refusesDays 3 (some .int) 10 2 := ⟨gk8 185 rfl rfl, im_X10_refusesDays, se_X10_refusesDays, rfl, by decide, mi_X10_refusesDays⟩
theorem lm_X10_523 : gV RX10 523 yX10_daysOf cX10_daysOf 7 (some .int) 10 2 := ⟨gk8 190 rfl rfl, im_X10_daysOf, se_X10_daysOf, rfl, by decide, mi_X10_daysOf⟩
theorem lm_L_189 : gV RL 189 yX10_hails cX10_hails 4 (some .int) 10 2 := ⟨gk8 197 rfl rfl, im_X10_hails, se_X10_hails, rfl, by decide, mi_X10_hails⟩
theorem lm_L_194 : gV RL 194 yX10_scratch cX10_scratch 3 (some .boolean) 10 2 := ⟨gk8 201 rfl rfl, im_X10_scratch, se_X10_scratch, rfl, by decide, mi_X10_scratch⟩
theorem lm_X10_538 : gV RX10 538 yX10_marksCell cX10_marksCell 4 (some .boolean) 10 3 := ⟨gk8 205 rfl rfl, im_X10_marksCell, se_X10_marksCell, rfl, by decide, mi_X10_marksCell⟩
theorem lm_X10_526 : gV RX10 526 yX10_isCell cX10_isCell 3 (some .boolean) 10 2 := ⟨gk8 209 rfl rfl, im_X10_isCell, se_X10_isCell, rfl, by decide, mi_X10_isCell⟩
theorem lm_X10_529 : gV RX10 529 yX10_denied cX10_denied 2 (some .boolean) 10 1 := ⟨gk8 213 rfl rfl, im_X10_denied, se_X10_denied, rfl, by decide, mi_X10_denied⟩
theorem lm_X10_532 : gV RX10 532 yX10_remembers cX10_remembers 2 none 10 0 := ⟨gk8 217 rfl rfl, im_X10_remembers, se_X10_remembers, rfl, by decide, mi_X10_remembers⟩
theorem lm_X10_535 : gV RX10 535 yX10_granted cX10_granted 1 (some .boolean) 10 0 := ⟨gk8 221 rfl rfl, im_X10_granted, se_X10_granted, rfl, by decide, mi_X10_granted⟩
theorem lm_L_198 : gV RL 198 yX10_cover cX10_cover 3 (some .boolean) 10 2 := ⟨gk8 225 rfl rfl, im_X10_cover, se_X10_cover, rfl, by decide, mi_X10_cover⟩
theorem lm_L_203 : gV RL 203 yX10_breaks cX10_breaks 2 (some .boolean) 10 1 := ⟨gk8 229 rfl rfl, im_X10_breaks, se_X10_breaks, rfl, by decide, mi_X10_breaks⟩
theorem lm_L_208 : gV RL 208 yX10_undo cX10_undo 2 (some .boolean) 10 0 := ⟨gk8 233 rfl rfl, im_X10_undo, se_X10_undo, rfl, by decide, mi_X10_undo⟩
theorem lm_L_212 : gV RL 212 yX10_mark cX10_mark 2 (some .int) 10 0 := ⟨gk8 237 rfl rfl, im_X10_mark, se_X10_mark, rfl, by decide, mi_X10_mark⟩
theorem lm_L_216 : gV RL 216 yX10_back cX10_back 3 (some .boolean) 10 1 := ⟨gk9 1 rfl rfl, im_X10_back, se_X10_back, rfl, by decide, mi_X10_back⟩
theorem lm_L_222 : gV RL 222 yX10_led cX10_led 4 (some .int) 10 1 := ⟨gk9 5 rfl rfl, im_X10_led, se_X10_led, rfl, by decide, mi_X10_led⟩
theorem lm_L_229 : gV RL 229 yX10_size cX10_size 2 (some .int) 10 1 := ⟨gk9 9 rfl rfl, im_X10_size, se_X10_size, rfl, by decide, mi_X10_size⟩
theorem lm_L_233 : gV RL 233 yX10_trouble cX10_trouble 1 (some .int) 10 0 := ⟨gk9 13 rfl rfl, im_X10_trouble, se_X10_trouble, rfl, by decide, mi_X10_trouble⟩
