theorem cf_X0_goOn : cfV yX0_goOn cX0_goOn 1 none 0 := ⟨k186, k184, k185, k2, ⟨by decide +kernel, by decide +kernel⟩, by decide +kernel⟩
theorem cf_X0_save : cfV yX0_save cX0_save 1 none 0 := ⟨k206, k204, k205, k2, ⟨by decide +kernel, by decide +kernel⟩, by decide +kernel⟩
theorem cf_X0_restore : cfV yX0_restore cX0_restore 2 none 0 := ⟨k256, k254, k255, k2, ⟨by decide +kernel, by decide +kernel⟩, by decide +kernel⟩
theorem cf_X0_copyState : cfV yX0_copyState cX0_copyState 3 none 2 := ⟨k190, k189, s2, k2, ⟨by decide +kernel, by decide +kernel⟩, by decide +kernel⟩
theorem cf_X0_perform : cfV yX0_perform cX0_perform 10 (some .int) 5 := ⟨k210, k208, k209, k2, ⟨by decide +kernel, by decide +kernel⟩, by decide +kernel⟩
theorem cf_X0_maskOf : cfS yX0_maskOf cX0_maskOf 2 (some .int) 2 := ⟨k218, k217, k2, ⟨by decide +kernel, by decide +kernel⟩, by decide +kernel⟩
theorem cf_X0_changeDay : cfV yX0_changeDay cX0_changeDay 9 (some .boolean) 4 := ⟨k222, k221, s3, k2, ⟨by decide +kernel, by decide +kernel⟩, by decide +kernel⟩
theorem cf_X0_isFilled : cfV yX0_isFilled cX0_isFilled 3 (some .boolean) 2 := ⟨k102, k100, k101, k2, ⟨by decide +kernel, by decide +kernel⟩, by decide +kernel⟩
theorem cf_X0_valueOn : cfV yX0_valueOn cX0_valueOn 3 (some .int) 2 := ⟨k247, k245, k246, k2, ⟨by decide +kernel, by decide +kernel⟩, by decide +kernel⟩
theorem cf_X0_differ : cfV yX0_differ cX0_differ 5 (some .boolean) 3 := ⟨k389, k387, k388, k2, ⟨by decide +kernel, by decide +kernel⟩, by decide +kernel⟩
theorem cf_X0_startsRun : cfV yX0_startsRun cX0_startsRun 3 (some .boolean) 2 := ⟨k235, k233, k234, k2, ⟨by decide +kernel, by decide +kernel⟩, by decide +kernel⟩
theorem cf_X0_continuesRun : cfV yX0_continuesRun cX0_continuesRun 4 (some .boolean) 2 := ⟨k239, k238, s6, k2, ⟨by decide +kernel, by decide +kernel⟩, by decide +kernel⟩
theorem cf_X0_runEnd : cfV yX0_runEnd cX0_runEnd 4 (some .int) 2 := ⟨k251, k249, k250, k2, ⟨by decide +kernel, by decide +kernel⟩, by decide +kernel⟩
theorem cf_X0_countRuns : cfV yX0_countRuns cX0_countRuns 4 (some .int) 1 := ⟨k327, k325, k326, k2, ⟨by decide +kernel, by decide +kernel⟩, by decide +kernel⟩
theorem cf_X0_runStart : cfV yX0_runStart cX0_runStart 5 (some .int) 2 := ⟨k339, k337, k338, k2, ⟨by decide +kernel, by decide +kernel⟩, by decide +kernel⟩
theorem cf_X0_countRelated : cfV yX0_countRelated cX0_countRelated 7 (some .int) 4 := ⟨k414, k412, k413, k2, ⟨by decide +kernel, by decide +kernel⟩, by decide +kernel⟩
theorem cf_X0_countRows : cfV yX0_countRows cX0_countRows 3 (some .int) 0 := ⟨k110, k108, k109, k2, ⟨by decide +kernel, by decide +kernel⟩, by decide +kernel⟩
theorem cf_X0_recountRows : cfV yX0_recountRows cX0_recountRows 5 none 1 := ⟨k227, k226, s4, k2, ⟨by decide +kernel, by decide +kernel⟩, by decide +kernel⟩
theorem cf_X0_startsRow : cfV yX0_startsRow cX0_startsRow 3 (some .boolean) 2 := ⟨k231, k230, s5, k2, ⟨by decide +kernel, by decide +kernel⟩, by decide +kernel⟩
theorem cf_X0_sharesRun : cfV yX0_sharesRun cX0_sharesRun 4 (some .boolean) 3 := ⟨k243, k242, s7, k2, ⟨by decide +kernel, by decide +kernel⟩, by decide +kernel⟩
theorem cf_X0_rowPart : cfV yX0_rowPart cX0_rowPart 7 (some .int) 2 := ⟨k366, k364, k365, k2, ⟨by decide +kernel, by decide +kernel⟩, by decide +kernel⟩
theorem cf_X0_rowStart : cfV yX0_rowStart cX0_rowStart 5 (some .int) 2 := ⟨k370, k369, s8, k2, ⟨by decide +kernel, by decide +kernel⟩, by decide +kernel⟩
theorem cf_X0_partOfRow : cfV yX0_partOfRow cX0_partOfRow 6 (some .int) 4 := ⟨k374, k373, s9, k2, ⟨by decide +kernel, by decide +kernel⟩, by decide +kernel⟩
theorem cf_X0_rowEnd : cfV yX0_rowEnd cX0_rowEnd 6 (some .int) 3 := ⟨k378, k377, s10, k2, ⟨by decide +kernel, by decide +kernel⟩, by decide +kernel⟩
theorem cf_X1_append : cfV yX1_append cX1_append 7 (some .boolean) 5 := ⟨k77, k75, k76, k3, ⟨by decide +kernel, by decide +kernel⟩, by decide +kernel⟩
theorem cf_X1_word : cfV yX1_word cX1_word 3 (some .int) 2 := ⟨k300, k298, k299, k3, ⟨by decide +kernel, by decide +kernel⟩, by decide +kernel⟩
theorem cf_X2_tick : cfV yX2_tick cX2_tick 1 (some .int) 0 := ⟨k118, k116, k117, k1, ⟨by decide +kernel, by decide +kernel⟩, by decide +kernel⟩
theorem cf_X2_clock : cfV yX2_clock cX2_clock 1 (some .int) 0 := ⟨k69, k67, k68, k1, ⟨by decide +kernel, by decide +kernel⟩, by decide +kernel⟩
theorem cf_X2_state : cfV yX2_state cX2_state 7 (some .int) 5 := ⟨k202, k200, k201, k1, ⟨by decide +kernel, by decide +kernel⟩, by decide +kernel⟩
theorem cf_X2_queue : cfV yX2_queue cX2_queue 6 (some .boolean) 5 := ⟨k73, k71, k72, k1, ⟨by decide +kernel, by decide +kernel⟩, by decide +kernel⟩
theorem cf_X2_commit : cfV yX2_commit cX2_commit 5 (some .int) 0 := ⟨k296, k294, k295, k1, ⟨by decide +kernel, by decide +kernel⟩, by decide +kernel⟩
theorem cf_X2_failed : cfV yX2_failed cX2_failed 1 (some .int) 0 := ⟨k81, k79, k80, k1, ⟨by decide +kernel, by decide +kernel⟩, by decide +kernel⟩
theorem cf_X2_value : cfV yX2_value cX2_value 5 (some .int) 3 := ⟨k307, k305, k306, k1, ⟨by decide +kernel, by decide +kernel⟩, by decide +kernel⟩
theorem cf_X2_has : cfV yX2_has cX2_has 4 (some .boolean) 3 := ⟨k85, k83, k84, k1, ⟨by decide +kernel, by decide +kernel⟩, by decide +kernel⟩
theorem cf_X2_sum : cfV yX2_sum cX2_sum 9 (some .long) 4 := ⟨k315, k313, k314, k1, ⟨by decide +kernel, by decide +kernel⟩, by decide +kernel⟩
theorem cf_X2_runs : cfV yX2_runs cX2_runs 3 (some .int) 2 := ⟨k323, k321, k322, k1, ⟨by decide +kernel, by decide +kernel⟩, by decide +kernel⟩
theorem cf_X2_run : cfV yX2_run cX2_run 7 (some .int) 4 := ⟨k335, k333, k334, k1, ⟨by decide +kernel, by decide +kernel⟩, by decide +kernel⟩
theorem cf_X2_rows : cfV yX2_rows cX2_rows 1 (some .int) 0 := ⟨k106, k104, k105, k1, ⟨by decide +kernel, by decide +kernel⟩, by decide +kernel⟩
theorem cf_X2_row : cfV yX2_row cX2_row 3 (some .int) 2 := ⟨k362, k360, k361, k1, ⟨by decide +kernel, by decide +kernel⟩, by decide +kernel⟩
theorem cf_X2_changes : cfV yX2_changes cX2_changes 5 (some .int) 2 := ⟨k385, k383, k384, k1, ⟨by decide +kernel, by decide +kernel⟩, by decide +kernel⟩
theorem cf_X2_relation : cfV yX2_relation cX2_relation 5 (some .int) 4 := ⟨k396, k394, k395, k1, ⟨by decide +kernel, by decide +kernel⟩, by decide +kernel⟩
theorem cf_X2_join : cfV yX2_join cX2_join 8 (some .int) 4 := ⟨k409, k407, k408, k1, ⟨by decide +kernel, by decide +kernel⟩, by decide +kernel⟩
theorem cf_X2_refuse : cfS yX2_refuse cX2_refuse 1 none 1 := ⟨k259, k258, k1, ⟨by decide +kernel, by decide +kernel⟩, by decide +kernel⟩
theorem cf_X2_isKey : cfS yX2_isKey cX2_isKey 1 (some .boolean) 1 := ⟨k88, k87, k1, ⟨by decide +kernel, by decide +kernel⟩, by decide +kernel⟩
theorem cf_X2_isDay : cfS yX2_isDay cX2_isDay 1 (some .boolean) 1 := ⟨k91, k90, k1, ⟨by decide +kernel, by decide +kernel⟩, by decide +kernel⟩
theorem cf_X2_isPeriod : cfS yX2_isPeriod cX2_isPeriod 2 (some .boolean) 2 := ⟨k214, k213, k1, ⟨by decide +kernel, by decide +kernel⟩, by decide +kernel⟩
theorem cf_X2_isTime : cfV yX2_isTime cX2_isTime 2 (some .boolean) 1 := ⟨k95, k94, s0, k1, ⟨by decide +kernel, by decide +kernel⟩, by decide +kernel⟩
theorem cf_X2_slotOf : cfS yX2_slotOf cX2_slotOf 2 (some .int) 2 := ⟨k98, k97, k1, ⟨by decide +kernel, by decide +kernel⟩, by decide +kernel⟩
theorem cf_X2_relationOf : cfS yX2_relationOf cX2_relationOf 5 (some .int) 4 := ⟨k399, k398, k1, ⟨by decide +kernel, by decide +kernel⟩, by decide +kernel⟩
theorem cf_X2_forwardRelation : cfS yX2_forwardRelation cX2_forwardRelation 4 (some .int) 4 := ⟨k402, k401, k1, ⟨by decide +kernel, by decide +kernel⟩, by decide +kernel⟩
theorem cf_X3_thrown : cfV yX3_thrown cX3_thrown 1 (some .int) 0 := ⟨k457, k455, k456, k4, ⟨by decide +kernel, by decide +kernel⟩, by decide +kernel⟩
theorem cf_X3_fail : cfV yX3_fail cX3_fail 2 (some .int) 1 := ⟨k465, k464, s11, k4, ⟨by decide +kernel, by decide +kernel⟩, by decide +kernel⟩
theorem cf_X3_isKey : cfS yX3_isKey cX3_isKey 1 (some .boolean) 1 := ⟨k484, k483, k4, ⟨by decide +kernel, by decide +kernel⟩, by decide +kernel⟩
theorem cf_X3_isPeriod : cfS yX3_isPeriod cX3_isPeriod 2 (some .boolean) 2 := ⟨k487, k486, k4, ⟨by decide +kernel, by decide +kernel⟩, by decide +kernel⟩
theorem cf_X3_isTime : cfV yX3_isTime cX3_isTime 2 (some .boolean) 1 := ⟨k549, k548, s23, k4, ⟨by decide +kernel, by decide +kernel⟩, by decide +kernel⟩
theorem cf_X3_place : cfS yX3_place cX3_place 3 (some .int) 3 := ⟨k494, k493, k4, ⟨by decide +kernel, by decide +kernel⟩, by decide +kernel⟩
theorem cf_X3_tick : cfV yX3_tick cX3_tick 2 (some .int) 0 := ⟨k461, k459, k460, k4, ⟨by decide +kernel, by decide +kernel⟩, by decide +kernel⟩
theorem cf_X3_clock : cfV yX3_clock cX3_clock 1 (some .int) 0 := ⟨k469, k467, k468, k4, ⟨by decide +kernel, by decide +kernel⟩, by decide +kernel⟩
theorem cf_X3_alike : cfV yX3_alike cX3_alike 7 (some .boolean) 4 := ⟨k514, k513, s19, k4, ⟨by decide +kernel, by decide +kernel⟩, by decide +kernel⟩
theorem cf_X3_begins : cfV yX3_begins cX3_begins 4 (some .boolean) 3 := ⟨k510, k509, s18, k4, ⟨by decide +kernel, by decide +kernel⟩, by decide +kernel⟩
theorem cf_X3_endOf : cfV yX3_endOf cX3_endOf 5 (some .int) 3 := ⟨k518, k517, s20, k4, ⟨by decide +kernel, by decide +kernel⟩, by decide +kernel⟩
theorem cf_X3_isRun : cfV yX3_isRun cX3_isRun 6 (some .boolean) 5 := ⟨k522, k521, s21, k4, ⟨by decide +kernel, by decide +kernel⟩, by decide +kernel⟩
theorem cf_X3_isRow : cfV yX3_isRow cX3_isRow 4 (some .boolean) 3 := ⟨k506, k505, s17, k4, ⟨by decide +kernel, by decide +kernel⟩, by decide +kernel⟩
theorem cf_X3_countRows : cfV yX3_countRows cX3_countRows 5 (some .int) 0 := ⟨k502, k501, s16, k4, ⟨by decide +kernel, by decide +kernel⟩, by decide +kernel⟩
theorem cf_X3_keep : cfV yX3_keep cX3_keep 2 none 0 := ⟨k477, k476, s12, k4, ⟨by decide +kernel, by decide +kernel⟩, by decide +kernel⟩
theorem cf_X3_goBack : cfV yX3_goBack cX3_goBack 2 none 0 := ⟨k526, k525, s22, k4, ⟨by decide +kernel, by decide +kernel⟩, by decide +kernel⟩
theorem cf_X3_heldIn : cfV yX3_heldIn cX3_heldIn 6 (some .int) 3 := ⟨k491, k490, s14, k4, ⟨by decide +kernel, by decide +kernel⟩, by decide +kernel⟩
theorem cf_X3_change : cfV yX3_change cX3_change 8 none 3 := ⟨k498, k497, s15, k4, ⟨by decide +kernel, by decide +kernel⟩, by decide +kernel⟩
theorem cf_X3_perform : cfV yX3_perform cX3_perform 8 (some .int) 5 := ⟨k481, k480, s13, k4, ⟨by decide +kernel, by decide +kernel⟩, by decide +kernel⟩
theorem cf_X3_state : cfV yX3_state cX3_state 7 (some .int) 5 := ⟨k473, k471, k472, k4, ⟨by decide +kernel, by decide +kernel⟩, by decide +kernel⟩
theorem cf_X3_queue : cfV yX3_queue cX3_queue 6 (some .boolean) 5 := ⟨k530, k528, k529, k4, ⟨by decide +kernel, by decide +kernel⟩, by decide +kernel⟩
theorem cf_X3_commit : cfV yX3_commit cX3_commit 5 (some .int) 0 := ⟨k534, k532, k533, k4, ⟨by decide +kernel, by decide +kernel⟩, by decide +kernel⟩
theorem cf_X3_failed : cfV yX3_failed cX3_failed 1 (some .int) 0 := ⟨k538, k536, k537, k4, ⟨by decide +kernel, by decide +kernel⟩, by decide +kernel⟩
theorem cf_X3_isDay : cfS yX3_isDay cX3_isDay 1 (some .boolean) 1 := ⟨k545, k544, k4, ⟨by decide +kernel, by decide +kernel⟩, by decide +kernel⟩
theorem cf_X3_value : cfV yX3_value cX3_value 5 (some .int) 3 := ⟨k542, k540, k541, k4, ⟨by decide +kernel, by decide +kernel⟩, by decide +kernel⟩
theorem cf_X3_has : cfV yX3_has cX3_has 4 (some .boolean) 3 := ⟨k553, k551, k552, k4, ⟨by decide +kernel, by decide +kernel⟩, by decide +kernel⟩
theorem cf_X3_sum : cfV yX3_sum cX3_sum 8 (some .long) 4 := ⟨k557, k555, k556, k4, ⟨by decide +kernel, by decide +kernel⟩, by decide +kernel⟩
theorem cf_X3_runs : cfV yX3_runs cX3_runs 5 (some .int) 2 := ⟨k561, k559, k560, k4, ⟨by decide +kernel, by decide +kernel⟩, by decide +kernel⟩
theorem cf_X3_run : cfV yX3_run cX3_run 7 (some .int) 4 := ⟨k565, k563, k564, k4, ⟨by decide +kernel, by decide +kernel⟩, by decide +kernel⟩
theorem cf_X3_rows : cfV yX3_rows cX3_rows 1 (some .int) 0 := ⟨k569, k567, k568, k4, ⟨by decide +kernel, by decide +kernel⟩, by decide +kernel⟩
theorem cf_X3_endTime : cfV yX3_endTime cX3_endTime 7 (some .int) 3 := ⟨k577, k576, s24, k4, ⟨by decide +kernel, by decide +kernel⟩, by decide +kernel⟩
theorem cf_X3_row : cfV yX3_row cX3_row 7 (some .int) 2 := ⟨k573, k571, k572, k4, ⟨by decide +kernel, by decide +kernel⟩, by decide +kernel⟩
theorem cf_X3_changes : cfV yX3_changes cX3_changes 7 (some .int) 2 := ⟨k581, k579, k580, k4, ⟨by decide +kernel, by decide +kernel⟩, by decide +kernel⟩
theorem cf_X3_early : cfS yX3_early cX3_early 4 (some .int) 4 := ⟨k591, k590, k4, ⟨by decide +kernel, by decide +kernel⟩, by decide +kernel⟩
theorem cf_X3_lies : cfS yX3_lies cX3_lies 5 (some .int) 4 := ⟨k588, k587, k4, ⟨by decide +kernel, by decide +kernel⟩, by decide +kernel⟩
theorem cf_X3_relation : cfV yX3_relation cX3_relation 5 (some .int) 4 := ⟨k585, k583, k584, k4, ⟨by decide +kernel, by decide +kernel⟩, by decide +kernel⟩
theorem cf_X3_join : cfV yX3_join cX3_join 9 (some .int) 4 := ⟨k595, k593, k594, k4, ⟨by decide +kernel, by decide +kernel⟩, by decide +kernel⟩
theorem inX0 : ∀ w ∈ u_ws RX0 TX0 4, w ∈ WT := by
  intro w h
  obtain ⟨k, hk, rfl⟩ := List.mem_map.mp h
  have hk := List.mem_range.mp hk
  rcases (show k = 0 ∨ k = 1 ∨ k = 2 ∨ k = 3 by omega) with rfl | rfl | rfl | rfl
  · exact k32
  · exact k34
  · exact k36
  · exact k38
theorem inX1 : ∀ w ∈ u_ws RX1 TX1 2, w ∈ WT := by
  intro w h
  obtain ⟨k, hk, rfl⟩ := List.mem_map.mp h
  have hk := List.mem_range.mp hk
  rcases (show k = 0 ∨ k = 1 by omega) with rfl | rfl
  · exact k51
  · exact k53
theorem inX2 : ∀ w ∈ u_ws RX2 TX2 3, w ∈ WT := by
  intro w h
  obtain ⟨k, hk, rfl⟩ := List.mem_map.mp h
  have hk := List.mem_range.mp hk
  rcases (show k = 0 ∨ k = 1 ∨ k = 2 by omega) with rfl | rfl | rfl
  · exact k59
  · exact k61
  · exact k63
theorem inX3 : ∀ w ∈ u_ws RX3 TX3 10, w ∈ WT := by
  intro w h
  obtain ⟨k, hk, rfl⟩ := List.mem_map.mp h
  have hk := List.mem_range.mp hk
  rcases (show k = 0 ∨ k = 1 ∨ k = 2 ∨ k = 3 ∨ k = 4 ∨ k = 5 ∨ k = 6 ∨ k = 7 ∨ k = 8 ∨ k = 9 by omega) with rfl | rfl | rfl | rfl | rfl | rfl | rfl | rfl | rfl | rfl
  · exact k432
  · exact k434
  · exact k436
  · exact k438
  · exact k440
  · exact k442
  · exact k444
  · exact k446
  · exact k448
  · exact k450
