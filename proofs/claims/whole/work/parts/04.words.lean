abbrev m_VT_init : lx_M := (y_VT_init, b_VT_init, 3, none, rm_VT_init)
abbrev m_Gap_init : lx_M := (y_Gap_init, b_Gap_init, 2, none, rm_Gap_init)
abbrev m_Row_init : lx_M := (y_Row_init, b_Row_init, 2, none, rm_Row_init)
abbrev m_His_init : lx_M := (y_His_init, b_His_init, 2, none, rm_His_init)
abbrev m_Itm_init : lx_M := (y_Itm_init, b_Itm_init, 1, none, rm_Itm_init)
abbrev m_Clu_init : lx_M := (y_Clu_init, b_Clu_init, 1, none, rm_Clu_init)
abbrev m_Sea_init : lx_M := (y_Sea_init, b_Sea_init, 1, none, rm_Sea_init)
abbrev m_VT_type : lx_M := (y_VT_type, b_VT_type, 2, (some (.boolean)), rm_VT_type)
abbrev m_Row_append : lx_M := (y_Row_append, b_Row_append, 2, (some (.boolean)), rm_Row_append)
abbrev m_VT_scrap : lx_M := (y_VT_scrap, b_VT_scrap, 1, none, rm_VT_scrap)
abbrev m_Row_length : lx_M := (y_Row_length, b_Row_length, 1, (some (.int)), rm_Row_length)
abbrev m_Row_cut : lx_M := (y_Row_cut, b_Row_cut, 3, none, rm_Row_cut)
abbrev m_VT_insert : lx_M := (y_VT_insert, b_VT_insert, 3, (some (.boolean)), rm_VT_insert)
abbrev m_VT_canTakeClip : lx_M := (y_VT_canTakeClip, b_VT_canTakeClip, 3, (some (.boolean)), rm_VT_canTakeClip)
abbrev m_VT_canEdit : lx_M := (y_VT_canEdit, b_VT_canEdit, 3, (some (.boolean)), rm_VT_canEdit)
abbrev m_VT_isPlace : lx_M := (y_VT_isPlace, b_VT_isPlace, 2, (some (.boolean)), rm_VT_isPlace)
abbrev m_Gap_length : lx_M := (y_Gap_length, b_Gap_length, 1, (some (.int)), rm_Gap_length)
abbrev m_Itm_measure : lx_M := (y_Itm_measure, b_Itm_measure, 4, none, rm_Itm_measure)
abbrev m_Clu_restart : lx_M := (y_Clu_restart, b_Clu_restart, 1, none, rm_Clu_restart)
abbrev m_Itm_begins : lx_M := (y_Itm_begins, b_Itm_begins, 3, (some (.boolean)), rm_Itm_begins)
abbrev m_Itm_beginsLine : lx_M := (y_Itm_beginsLine, b_Itm_beginsLine, 3, (some (.boolean)), rm_Itm_beginsLine)
abbrev m_Gap_at : lx_M := (y_Gap_at, b_Gap_at, 2, (some (.int)), rm_Gap_at)
abbrev m_Row_at : lx_M := (y_Row_at, b_Row_at, 2, (some (.int)), rm_Row_at)
abbrev m_Itm_isSecondHalf : lx_M := (y_Itm_isSecondHalf, b_Itm_isSecondHalf, 2, (some (.boolean)), rm_Itm_isSecondHalf)
abbrev m_Itm_isFirst : lx_M := (y_Itm_isFirst, b_Itm_isFirst, 1, (some (.boolean)), rm_Itm_isFirst)
abbrev m_Itm_isSecond : lx_M := (y_Itm_isSecond, b_Itm_isSecond, 1, (some (.boolean)), rm_Itm_isSecond)
abbrev m_Itm_codeAt : lx_M := (y_Itm_codeAt, b_Itm_codeAt, 4, (some (.int)), rm_Itm_codeAt)
abbrev m_Clu_isCutBefore : lx_M := (y_Clu_isCutBefore, b_Clu_isCutBefore, 3, (some (.boolean)), rm_Clu_isCutBefore)
abbrev m_Clu_isJoinedTo : lx_M := (y_Clu_isJoinedTo, b_Clu_isJoinedTo, 2, (some (.boolean)), rm_Clu_isJoinedTo)
abbrev m_Clu_isMark : lx_M := (y_Clu_isMark, b_Clu_isMark, 1, (some (.boolean)), rm_Clu_isMark)
abbrev m_Clu_isPicture : lx_M := (y_Clu_isPicture, b_Clu_isPicture, 1, (some (.boolean)), rm_Clu_isPicture)
abbrev m_Clu_isFlag : lx_M := (y_Clu_isFlag, b_Clu_isFlag, 1, (some (.boolean)), rm_Clu_isFlag)
abbrev m_Itm_isInside : lx_M := (y_Itm_isInside, b_Itm_isInside, 2, (some (.boolean)), rm_Itm_isInside)
abbrev m_Itm_having : lx_M := (y_Itm_having, b_Itm_having, 3, (some (.int)), rm_Itm_having)
abbrev m_Gap_put : lx_M := (y_Gap_put, b_Gap_put, 3, none, rm_Gap_put)
abbrev m_Gap_moveGap : lx_M := (y_Gap_moveGap, b_Gap_moveGap, 3, none, rm_Gap_moveGap)
abbrev m_Row_copyInto : lx_M := (y_Row_copyInto, b_Row_copyInto, 3, none, rm_Row_copyInto)
abbrev m_Row_put : lx_M := (y_Row_put, b_Row_put, 3, none, rm_Row_put)
abbrev m_VT_clipIsTyping : lx_M := (y_VT_clipIsTyping, b_VT_clipIsTyping, 1, (some (.boolean)), rm_VT_clipIsTyping)
abbrev m_His_extendStep : lx_M := (y_His_extendStep, b_His_extendStep, 2, none, rm_His_extendStep)
abbrev m_His_latest : lx_M := (y_His_latest, b_His_latest, 1, (some (.object "VersionedText$RowText")), rm_His_latest)
abbrev m_Row_become : lx_M := (y_Row_become, b_Row_become, 3, none, rm_Row_become)
abbrev m_His_addStep : lx_M := (y_His_addStep, b_His_addStep, 2, none, rm_His_addStep)
abbrev m_VT_remove : lx_M := (y_VT_remove, b_VT_remove, 3, (some (.boolean)), rm_VT_remove)
abbrev m_Gap_cut : lx_M := (y_Gap_cut, b_Gap_cut, 3, none, rm_Gap_cut)
abbrev m_VT_addClosedStep : lx_M := (y_VT_addClosedStep, b_VT_addClosedStep, 1, none, rm_VT_addClosedStep)
abbrev m_VT_replace : lx_M := (y_VT_replace, b_VT_replace, 3, (some (.boolean)), rm_VT_replace)
abbrev m_VT_undo : lx_M := (y_VT_undo, b_VT_undo, 1, (some (.boolean)), rm_VT_undo)
abbrev m_His_undoable : lx_M := (y_His_undoable, b_His_undoable, 1, (some (.int)), rm_His_undoable)
abbrev m_His_goBack : lx_M := (y_His_goBack, b_His_goBack, 2, none, rm_His_goBack)
abbrev m_Gap_become : lx_M := (y_Gap_become, b_Gap_become, 3, none, rm_Gap_become)
abbrev m_VT_redo : lx_M := (y_VT_redo, b_VT_redo, 1, (some (.boolean)), rm_VT_redo)
abbrev m_His_redoable : lx_M := (y_His_redoable, b_His_redoable, 1, (some (.int)), rm_His_redoable)
abbrev m_His_goForward : lx_M := (y_His_goForward, b_His_goForward, 2, none, rm_His_goForward)
abbrev m_VT_steps : lx_M := (y_VT_steps, b_VT_steps, 2, (some (.int)), rm_VT_steps)
abbrev m_VT_seal : lx_M := (y_VT_seal, b_VT_seal, 1, none, rm_VT_seal)
abbrev m_VT_guard : lx_M := (y_VT_guard, b_VT_guard, 2, (some (.boolean)), rm_VT_guard)
abbrev m_VT_snapshot : lx_M := (y_VT_snapshot, b_VT_snapshot, 2, (some (.int)), rm_VT_snapshot)
abbrev m_VT_release : lx_M := (y_VT_release, b_VT_release, 2, (some (.boolean)), rm_VT_release)
abbrev m_VT_isVersion : lx_M := (y_VT_isVersion, b_VT_isVersion, 2, (some (.boolean)), rm_VT_isVersion)
abbrev m_VT_unit : lx_M := (y_VT_unit, b_VT_unit, 3, (some (.int)), rm_VT_unit)
abbrev m_VT_count : lx_M := (y_VT_count, b_VT_count, 3, (some (.int)), rm_VT_count)
abbrev m_VT_isMetric : lx_M := (y_VT_isMetric, b_VT_isMetric, 1, (some (.boolean)), rm_VT_isMetric)
abbrev m_Itm_number : lx_M := (y_Itm_number, b_Itm_number, 1, (some (.int)), rm_Itm_number)
abbrev m_VT_place : lx_M := (y_VT_place, b_VT_place, 4, (some (.int)), rm_VT_place)
abbrev m_Itm_beginningOf : lx_M := (y_Itm_beginningOf, b_Itm_beginningOf, 2, (some (.int)), rm_Itm_beginningOf)
abbrev m_VT_item : lx_M := (y_VT_item, b_VT_item, 4, (some (.int)), rm_VT_item)
abbrev m_VT_same : lx_M := (y_VT_same, b_VT_same, 3, (some (.boolean)), rm_VT_same)
abbrev m_VT_haveSameUnits : lx_M := (y_VT_haveSameUnits, b_VT_haveSameUnits, 3, (some (.boolean)), rm_VT_haveSameUnits)
abbrev m_VT_find : lx_M := (y_VT_find, b_VT_find, 3, (some (.int)), rm_VT_find)
abbrev m_Sea_takePattern : lx_M := (y_Sea_takePattern, b_Sea_takePattern, 4, (some (.boolean)), rm_Sea_takePattern)
abbrev m_Sea_firstMatch : lx_M := (y_Sea_firstMatch, b_Sea_firstMatch, 5, (some (.int)), rm_Sea_firstMatch)
abbrev m_Sea_reachFrom : lx_M := (y_Sea_reachFrom, b_Sea_reachFrom, 8, none, rm_Sea_reachFrom)
abbrev m_Sea_standsFor : lx_M := (y_Sea_standsFor, b_Sea_standsFor, 3, (some (.boolean)), rm_Sea_standsFor)
abbrev m_VT_end : lx_M := (y_VT_end, b_VT_end, 1, (some (.int)), rm_VT_end)
abbrev m_Sea_matchEnd : lx_M := (y_Sea_matchEnd, b_Sea_matchEnd, 1, (some (.int)), rm_Sea_matchEnd)
abbrev m_Law_cell : lx_M := (y_Law_cell, b_Law_cell, 2, (some (.int)), rm_Law_cell)
abbrev m_Mod_init : lx_M := (y_Mod_init, b_Mod_init, 2, none, rm_Mod_init)
abbrev m_Mod_type : lx_M := (y_Mod_type, b_Mod_type, 2, (some (.boolean)), rm_Mod_type)
abbrev m_Mod_scrap : lx_M := (y_Mod_scrap, b_Mod_scrap, 1, none, rm_Mod_scrap)
abbrev m_Mod_insert : lx_M := (y_Mod_insert, b_Mod_insert, 3, (some (.boolean)), rm_Mod_insert)
abbrev m_Mod_isPlace : lx_M := (y_Mod_isPlace, b_Mod_isPlace, 2, (some (.boolean)), rm_Mod_isPlace)
abbrev m_Mod_lets : lx_M := (y_Mod_lets, b_Mod_lets, 4, (some (.boolean)), rm_Mod_lets)
abbrev m_Mod_findItems : lx_M := (y_Mod_findItems, b_Mod_findItems, 4, none, rm_Mod_findItems)
abbrev m_Mod_begin : lx_M := (y_Mod_begin, b_Mod_begin, 2, none, rm_Mod_begin)
abbrev m_Mod_findLines : lx_M := (y_Mod_findLines, b_Mod_findLines, 6, none, rm_Mod_findLines)
abbrev m_Mod_findPoints : lx_M := (y_Mod_findPoints, b_Mod_findPoints, 7, none, rm_Mod_findPoints)
abbrev m_Mod_bound : lx_M := (y_Mod_bound, b_Mod_bound, 5, (some (.boolean)), rm_Mod_bound)
abbrev m_Mod_isMark : lx_M := (y_Mod_isMark, b_Mod_isMark, 1, (some (.boolean)), rm_Mod_isMark)
abbrev m_Mod_isPicture : lx_M := (y_Mod_isPicture, b_Mod_isPicture, 1, (some (.boolean)), rm_Mod_isPicture)
abbrev m_Mod_isFlag : lx_M := (y_Mod_isFlag, b_Mod_isFlag, 1, (some (.boolean)), rm_Mod_isFlag)
abbrev m_Mod_make : lx_M := (y_Mod_make, b_Mod_make, 6, none, rm_Mod_make)
abbrev m_Mod_show : lx_M := (y_Mod_show, b_Mod_show, 3, none, rm_Mod_show)
abbrev m_Mod_step : lx_M := (y_Mod_step, b_Mod_step, 2, none, rm_Mod_step)
abbrev m_Mod_copy : lx_M := (y_Mod_copy, b_Mod_copy, 4, none, rm_Mod_copy)
abbrev m_Mod_remove : lx_M := (y_Mod_remove, b_Mod_remove, 3, (some (.boolean)), rm_Mod_remove)
abbrev m_Mod_replace : lx_M := (y_Mod_replace, b_Mod_replace, 3, (some (.boolean)), rm_Mod_replace)
abbrev m_Mod_undo : lx_M := (y_Mod_undo, b_Mod_undo, 1, (some (.boolean)), rm_Mod_undo)
abbrev m_Mod_redo : lx_M := (y_Mod_redo, b_Mod_redo, 1, (some (.boolean)), rm_Mod_redo)
abbrev m_Mod_steps : lx_M := (y_Mod_steps, b_Mod_steps, 2, (some (.int)), rm_Mod_steps)
abbrev m_Mod_seal : lx_M := (y_Mod_seal, b_Mod_seal, 1, none, rm_Mod_seal)
abbrev m_Mod_guard : lx_M := (y_Mod_guard, b_Mod_guard, 2, (some (.boolean)), rm_Mod_guard)
abbrev m_Mod_snapshot : lx_M := (y_Mod_snapshot, b_Mod_snapshot, 2, (some (.int)), rm_Mod_snapshot)
abbrev m_Mod_release : lx_M := (y_Mod_release, b_Mod_release, 2, (some (.boolean)), rm_Mod_release)
abbrev m_Mod_unit : lx_M := (y_Mod_unit, b_Mod_unit, 4, (some (.int)), rm_Mod_unit)
abbrev m_Mod_slot : lx_M := (y_Mod_slot, b_Mod_slot, 2, (some (.int)), rm_Mod_slot)
abbrev m_Mod_count : lx_M := (y_Mod_count, b_Mod_count, 3, (some (.int)), rm_Mod_count)
abbrev m_Mod_looks : lx_M := (y_Mod_looks, b_Mod_looks, 4, (some (.boolean)), rm_Mod_looks)
abbrev m_Mod_place : lx_M := (y_Mod_place, b_Mod_place, 4, (some (.int)), rm_Mod_place)
abbrev m_Mod_item : lx_M := (y_Mod_item, b_Mod_item, 5, (some (.int)), rm_Mod_item)
abbrev m_Mod_same : lx_M := (y_Mod_same, b_Mod_same, 7, (some (.boolean)), rm_Mod_same)
abbrev m_Mod_find : lx_M := (y_Mod_find, b_Mod_find, 6, (some (.int)), rm_Mod_find)
abbrev m_Mod_isPattern : lx_M := (y_Mod_isPattern, b_Mod_isPattern, 3, (some (.boolean)), rm_Mod_isPattern)
abbrev m_Mod_match : lx_M := (y_Mod_match, b_Mod_match, 7, (some (.int)), rm_Mod_match)
abbrev m_Mod_stands : lx_M := (y_Mod_stands, b_Mod_stands, 2, (some (.boolean)), rm_Mod_stands)
abbrev m_Mod_end : lx_M := (y_Mod_end, b_Mod_end, 1, (some (.int)), rm_Mod_end)
set_option maxRecDepth 100000 in
theorem co_ck_Clu : ∀ j, j < 3 → lw_tbl[([115, 117, 119] : List Nat).getD j 0]? = some (u_lay R_Clu F_Clu j) := by decide +kernel
set_option maxRecDepth 100000 in
theorem ck_Clu : CK ci_Clu R_Clu F_Clu 3 t_Clu := ⟨rfl, fun w hw => (by obtain ⟨j, hj, rfl⟩ := List.mem_map.mp hw; exact List.mem_of_getElem? (i := ([115, 117, 119] : List Nat).getD j 0) (co_ck_Clu j (List.mem_range.mp hj))), by decide +kernel, by decide +kernel, by decide +kernel⟩
set_option maxRecDepth 100000 in
theorem co_ck_Gap : ∀ j, j < 3 → lw_tbl[([54, 56, 58] : List Nat).getD j 0]? = some (u_lay R_Gap F_Gap j) := by decide +kernel
set_option maxRecDepth 100000 in
theorem ck_Gap : CK ci_Gap R_Gap F_Gap 3 t_Gap := ⟨rfl, fun w hw => (by obtain ⟨j, hj, rfl⟩ := List.mem_map.mp hw; exact List.mem_of_getElem? (i := ([54, 56, 58] : List Nat).getD j 0) (co_ck_Gap j (List.mem_range.mp hj))), by decide +kernel, by decide +kernel, by decide +kernel⟩
set_option maxRecDepth 100000 in
theorem co_ck_His : ∀ j, j < 4 → lw_tbl[([90, 92, 94, 96] : List Nat).getD j 0]? = some (u_lay R_His F_His j) := by decide +kernel
set_option maxRecDepth 100000 in
theorem ck_His : CK ci_His R_His F_His 4 t_His := ⟨rfl, fun w hw => (by obtain ⟨j, hj, rfl⟩ := List.mem_map.mp hw; exact List.mem_of_getElem? (i := ([90, 92, 94, 96] : List Nat).getD j 0) (co_ck_His j (List.mem_range.mp hj))), by decide +kernel, by decide +kernel, by decide +kernel⟩
set_option maxRecDepth 100000 in
theorem co_ck_Itm : ∀ j, j < 5 → lw_tbl[([128, 130, 132, 134, 136] : List Nat).getD j 0]? = some (u_lay R_Itm F_Itm j) := by decide +kernel
set_option maxRecDepth 100000 in
theorem ck_Itm : CK ci_Itm R_Itm F_Itm 5 t_Itm := ⟨rfl, fun w hw => (by obtain ⟨j, hj, rfl⟩ := List.mem_map.mp hw; exact List.mem_of_getElem? (i := ([128, 130, 132, 134, 136] : List Nat).getD j 0) (co_ck_Itm j (List.mem_range.mp hj))), by decide +kernel, by decide +kernel, by decide +kernel⟩
set_option maxRecDepth 100000 in
theorem co_ck_Row : ∀ j, j < 2 → lw_tbl[([70, 72] : List Nat).getD j 0]? = some (u_lay R_Row F_Row j) := by decide +kernel
set_option maxRecDepth 100000 in
theorem ck_Row : CK ci_Row R_Row F_Row 2 t_Row := ⟨rfl, fun w hw => (by obtain ⟨j, hj, rfl⟩ := List.mem_map.mp hw; exact List.mem_of_getElem? (i := ([70, 72] : List Nat).getD j 0) (co_ck_Row j (List.mem_range.mp hj))), by decide +kernel, by decide +kernel, by decide +kernel⟩
set_option maxRecDepth 100000 in
theorem co_ck_Sea : ∀ j, j < 5 → lw_tbl[([150, 152, 154, 156, 158] : List Nat).getD j 0]? = some (u_lay R_Sea F_Sea j) := by decide +kernel
set_option maxRecDepth 100000 in
theorem ck_Sea : CK ci_Sea R_Sea F_Sea 5 t_Sea := ⟨rfl, fun w hw => (by obtain ⟨j, hj, rfl⟩ := List.mem_map.mp hw; exact List.mem_of_getElem? (i := ([150, 152, 154, 156, 158] : List Nat).getD j 0) (co_ck_Sea j (List.mem_range.mp hj))), by decide +kernel, by decide +kernel, by decide +kernel⟩
set_option maxRecDepth 100000 in
theorem co_ck_VT : ∀ j, j < 9 → lw_tbl[([170, 172, 174, 176, 178, 180, 182, 184, 186] : List Nat).getD j 0]? = some (u_lay R_VT F_VT j) := by decide +kernel
set_option maxRecDepth 100000 in
theorem ck_VT : CK ci_VT R_VT F_VT 9 t_VT := ⟨rfl, fun w hw => (by obtain ⟨j, hj, rfl⟩ := List.mem_map.mp hw; exact List.mem_of_getElem? (i := ([170, 172, 174, 176, 178, 180, 182, 184, 186] : List Nat).getD j 0) (co_ck_VT j (List.mem_range.mp hj))), by decide +kernel, by decide +kernel, by decide +kernel⟩
set_option maxRecDepth 100000 in
theorem co_ck_Mod : ∀ j, j < 18 → lw_tbl[([560, 562, 564, 566, 568, 570, 572, 574, 576, 578, 580, 582, 584, 586, 588, 590, 592, 594] : List Nat).getD j 0]? = some (u_lay R_Mod F_Mod j) := by decide +kernel
set_option maxRecDepth 100000 in
theorem ck_Mod : CK ci_Mod R_Mod F_Mod 18 t_Mod := ⟨rfl, fun w hw => (by obtain ⟨j, hj, rfl⟩ := List.mem_map.mp hw; exact List.mem_of_getElem? (i := ([560, 562, 564, 566, 568, 570, 572, 574, 576, 578, 580, 582, 584, 586, 588, 590, 592, 594] : List Nat).getD j 0) (co_ck_Mod j (List.mem_range.mp hj))), by decide +kernel, by decide +kernel, by decide +kernel⟩
set_option maxRecDepth 100000 in
theorem fl_Gap_9 : FL R_Gap 9 ci_Gap 0 true (.array .char) := ⟨_, _, _, _, ck_Gap, by decide, lw_mem 51 rfl, rfl, rfl, rfl, fun _ => rfl⟩
set_option maxRecDepth 100000 in
theorem fl_Gap_15 : FL R_Gap 15 ci_Gap 1 false (.int) := ⟨_, _, _, _, ck_Gap, by decide, lw_mem 52 rfl, rfl, rfl, rfl, fun h => nomatch h⟩
set_option maxRecDepth 100000 in
theorem fl_Gap_19 : FL R_Gap 19 ci_Gap 2 false (.int) := ⟨_, _, _, _, ck_Gap, by decide, lw_mem 53 rfl, rfl, rfl, rfl, fun h => nomatch h⟩
set_option maxRecDepth 100000 in
theorem fl_Row_9 : FL R_Row 9 ci_Row 0 true (.array .char) := ⟨_, _, _, _, ck_Row, by decide, lw_mem 68 rfl, rfl, rfl, rfl, fun _ => rfl⟩
set_option maxRecDepth 100000 in
theorem fl_Row_15 : FL R_Row 15 ci_Row 1 false (.int) := ⟨_, _, _, _, ck_Row, by decide, lw_mem 69 rfl, rfl, rfl, rfl, fun h => nomatch h⟩
set_option maxRecDepth 100000 in
theorem fl_His_13 : FL R_His 13 ci_His 0 true (.array (.object "VersionedText$RowText")) := ⟨_, _, _, _, ck_His, by decide, lw_mem 86 rfl, rfl, rfl, rfl, fun _ => rfl⟩
set_option maxRecDepth 100000 in
theorem fl_His_20 : FL R_His 20 ci_His 1 false (.int) := ⟨_, _, _, _, ck_His, by decide, lw_mem 87 rfl, rfl, rfl, rfl, fun h => nomatch h⟩
set_option maxRecDepth 100000 in
theorem fl_His_24 : FL R_His 24 ci_His 2 false (.int) := ⟨_, _, _, _, ck_His, by decide, lw_mem 88 rfl, rfl, rfl, rfl, fun h => nomatch h⟩
set_option maxRecDepth 100000 in
theorem fl_His_27 : FL R_His 27 ci_His 3 false (.int) := ⟨_, _, _, _, ck_His, by decide, lw_mem 89 rfl, rfl, rfl, rfl, fun h => nomatch h⟩
set_option maxRecDepth 100000 in
theorem fl_Clu_9 : FL R_Clu 9 ci_Clu 0 false (.int) := ⟨_, _, _, _, ck_Clu, by decide, lw_mem 112 rfl, rfl, rfl, rfl, fun h => nomatch h⟩
set_option maxRecDepth 100000 in
theorem fl_Clu_15 : FL R_Clu 15 ci_Clu 1 false (.int) := ⟨_, _, _, _, ck_Clu, by decide, lw_mem 113 rfl, rfl, rfl, rfl, fun h => nomatch h⟩
set_option maxRecDepth 100000 in
theorem fl_Clu_18 : FL R_Clu 18 ci_Clu 2 false (.int) := ⟨_, _, _, _, ck_Clu, by decide, lw_mem 114 rfl, rfl, rfl, rfl, fun h => nomatch h⟩
set_option maxRecDepth 100000 in
theorem fl_Itm_9 : FL R_Itm 9 ci_Itm 0 true (.array .int) := ⟨_, _, _, _, ck_Itm, by decide, lw_mem 123 rfl, rfl, rfl, rfl, fun _ => rfl⟩
set_option maxRecDepth 100000 in
theorem fl_Itm_18 : FL R_Itm 18 ci_Itm 1 true (.object "VersionedText$ClusterWalk") := ⟨_, _, _, _, ck_Itm, by decide, lw_mem 124 rfl, rfl, rfl, rfl, fun _ => rfl⟩
set_option maxRecDepth 100000 in
theorem fl_Itm_22 : FL R_Itm 22 ci_Itm 2 false (.int) := ⟨_, _, _, _, ck_Itm, by decide, lw_mem 125 rfl, rfl, rfl, rfl, fun h => nomatch h⟩
set_option maxRecDepth 100000 in
theorem fl_Itm_26 : FL R_Itm 26 ci_Itm 3 false (.int) := ⟨_, _, _, _, ck_Itm, by decide, lw_mem 126 rfl, rfl, rfl, rfl, fun h => nomatch h⟩
set_option maxRecDepth 100000 in
theorem fl_Itm_29 : FL R_Itm 29 ci_Itm 4 false (.int) := ⟨_, _, _, _, ck_Itm, by decide, lw_mem 127 rfl, rfl, rfl, rfl, fun h => nomatch h⟩
set_option maxRecDepth 100000 in
theorem fl_Sea_9 : FL R_Sea 9 ci_Sea 0 true (.array .int) := ⟨_, _, _, _, ck_Sea, by decide, lw_mem 145 rfl, rfl, rfl, rfl, fun _ => rfl⟩
set_option maxRecDepth 100000 in
theorem fl_Sea_15 : FL R_Sea 15 ci_Sea 1 true (.array .boolean) := ⟨_, _, _, _, ck_Sea, by decide, lw_mem 146 rfl, rfl, rfl, rfl, fun _ => rfl⟩
set_option maxRecDepth 100000 in
theorem fl_Sea_19 : FL R_Sea 19 ci_Sea 2 true (.array .int) := ⟨_, _, _, _, ck_Sea, by decide, lw_mem 147 rfl, rfl, rfl, rfl, fun _ => rfl⟩
set_option maxRecDepth 100000 in
theorem fl_Sea_22 : FL R_Sea 22 ci_Sea 3 false (.int) := ⟨_, _, _, _, ck_Sea, by decide, lw_mem 148 rfl, rfl, rfl, rfl, fun h => nomatch h⟩
set_option maxRecDepth 100000 in
theorem fl_Sea_26 : FL R_Sea 26 ci_Sea 4 false (.int) := ⟨_, _, _, _, ck_Sea, by decide, lw_mem 149 rfl, rfl, rfl, rfl, fun h => nomatch h⟩
set_option maxRecDepth 100000 in
theorem fl_VT_14 : FL R_VT 14 ci_VT 0 true (.object "VersionedText$Text") := ⟨_, _, _, _, ck_VT, by decide, lw_mem 161 rfl, rfl, rfl, rfl, fun _ => rfl⟩
set_option maxRecDepth 100000 in
theorem fl_VT_21 : FL R_VT 21 ci_VT 1 true (.object "VersionedText$RowText") := ⟨_, _, _, _, ck_VT, by decide, lw_mem 162 rfl, rfl, rfl, rfl, fun _ => rfl⟩
set_option maxRecDepth 100000 in
theorem fl_VT_27 : FL R_VT 27 ci_VT 2 true (.array (.object "VersionedText$Text")) := ⟨_, _, _, _, ck_VT, by decide, lw_mem 163 rfl, rfl, rfl, rfl, fun _ => rfl⟩
set_option maxRecDepth 100000 in
theorem fl_VT_31 : FL R_VT 31 ci_VT 3 true (.array .boolean) := ⟨_, _, _, _, ck_VT, by decide, lw_mem 164 rfl, rfl, rfl, rfl, fun _ => rfl⟩
set_option maxRecDepth 100000 in
theorem fl_VT_38 : FL R_VT 38 ci_VT 4 true (.object "VersionedText$History") := ⟨_, _, _, _, ck_VT, by decide, lw_mem 165 rfl, rfl, rfl, rfl, fun _ => rfl⟩
set_option maxRecDepth 100000 in
theorem fl_VT_45 : FL R_VT 45 ci_VT 5 true (.object "VersionedText$Items") := ⟨_, _, _, _, ck_VT, by decide, lw_mem 166 rfl, rfl, rfl, rfl, fun _ => rfl⟩
set_option maxRecDepth 100000 in
theorem fl_VT_52 : FL R_VT 52 ci_VT 6 true (.object "VersionedText$Search") := ⟨_, _, _, _, ck_VT, by decide, lw_mem 167 rfl, rfl, rfl, rfl, fun _ => rfl⟩
set_option maxRecDepth 100000 in
theorem fl_VT_56 : FL R_VT 56 ci_VT 7 false (.int) := ⟨_, _, _, _, ck_VT, by decide, lw_mem 168 rfl, rfl, rfl, rfl, fun h => nomatch h⟩
set_option maxRecDepth 100000 in
theorem fl_VT_60 : FL R_VT 60 ci_VT 8 false (.int) := ⟨_, _, _, _, ck_VT, by decide, lw_mem 169 rfl, rfl, rfl, rfl, fun h => nomatch h⟩
set_option maxRecDepth 100000 in
theorem fl_Mod_7 : FL R_Mod 7 ci_Mod 0 true (.array .int) := ⟨_, _, _, _, ck_Mod, by decide, lw_mem 542 rfl, rfl, rfl, rfl, fun _ => rfl⟩
set_option maxRecDepth 100000 in
theorem fl_Mod_13 : FL R_Mod 13 ci_Mod 1 true (.array .int) := ⟨_, _, _, _, ck_Mod, by decide, lw_mem 543 rfl, rfl, rfl, rfl, fun _ => rfl⟩
set_option maxRecDepth 100000 in
theorem fl_Mod_48 : FL R_Mod 48 ci_Mod 2 false (.int) := ⟨_, _, _, _, ck_Mod, by decide, lw_mem 544 rfl, rfl, rfl, rfl, fun h => nomatch h⟩
set_option maxRecDepth 100000 in
theorem fl_Mod_102 : FL R_Mod 102 ci_Mod 3 false (.int) := ⟨_, _, _, _, ck_Mod, by decide, lw_mem 545 rfl, rfl, rfl, rfl, fun h => nomatch h⟩
set_option maxRecDepth 100000 in
theorem fl_Mod_16 : FL R_Mod 16 ci_Mod 4 true (.array .boolean) := ⟨_, _, _, _, ck_Mod, by decide, lw_mem 546 rfl, rfl, rfl, rfl, fun _ => rfl⟩
set_option maxRecDepth 100000 in
theorem fl_Mod_20 : FL R_Mod 20 ci_Mod 5 true (.array .int) := ⟨_, _, _, _, ck_Mod, by decide, lw_mem 547 rfl, rfl, rfl, rfl, fun _ => rfl⟩
set_option maxRecDepth 100000 in
theorem fl_Mod_45 : FL R_Mod 45 ci_Mod 6 false (.int) := ⟨_, _, _, _, ck_Mod, by decide, lw_mem 548 rfl, rfl, rfl, rfl, fun h => nomatch h⟩
set_option maxRecDepth 100000 in
theorem fl_Mod_89 : FL R_Mod 89 ci_Mod 7 false (.int) := ⟨_, _, _, _, ck_Mod, by decide, lw_mem 549 rfl, rfl, rfl, rfl, fun h => nomatch h⟩
set_option maxRecDepth 100000 in
theorem fl_Mod_23 : FL R_Mod 23 ci_Mod 8 false (.int) := ⟨_, _, _, _, ck_Mod, by decide, lw_mem 550 rfl, rfl, rfl, rfl, fun h => nomatch h⟩
set_option maxRecDepth 100000 in
theorem fl_Mod_27 : FL R_Mod 27 ci_Mod 9 true (.array .int) := ⟨_, _, _, _, ck_Mod, by decide, lw_mem 551 rfl, rfl, rfl, rfl, fun _ => rfl⟩
set_option maxRecDepth 100000 in
theorem fl_Mod_96 : FL R_Mod 96 ci_Mod 10 false (.int) := ⟨_, _, _, _, ck_Mod, by decide, lw_mem 552 rfl, rfl, rfl, rfl, fun h => nomatch h⟩
set_option maxRecDepth 100000 in
theorem fl_Mod_51 : FL R_Mod 51 ci_Mod 11 false (.int) := ⟨_, _, _, _, ck_Mod, by decide, lw_mem 553 rfl, rfl, rfl, rfl, fun h => nomatch h⟩
set_option maxRecDepth 100000 in
theorem fl_Mod_30 : FL R_Mod 30 ci_Mod 12 true (.array .int) := ⟨_, _, _, _, ck_Mod, by decide, lw_mem 554 rfl, rfl, rfl, rfl, fun _ => rfl⟩
set_option maxRecDepth 100000 in
theorem fl_Mod_33 : FL R_Mod 33 ci_Mod 13 true (.array .int) := ⟨_, _, _, _, ck_Mod, by decide, lw_mem 555 rfl, rfl, rfl, rfl, fun _ => rfl⟩
set_option maxRecDepth 100000 in
theorem fl_Mod_73 : FL R_Mod 73 ci_Mod 14 false (.int) := ⟨_, _, _, _, ck_Mod, by decide, lw_mem 556 rfl, rfl, rfl, rfl, fun h => nomatch h⟩
set_option maxRecDepth 100000 in
theorem fl_Mod_36 : FL R_Mod 36 ci_Mod 15 true (.array .int) := ⟨_, _, _, _, ck_Mod, by decide, lw_mem 557 rfl, rfl, rfl, rfl, fun _ => rfl⟩
set_option maxRecDepth 100000 in
theorem fl_Mod_39 : FL R_Mod 39 ci_Mod 16 true (.array .boolean) := ⟨_, _, _, _, ck_Mod, by decide, lw_mem 558 rfl, rfl, rfl, rfl, fun _ => rfl⟩
set_option maxRecDepth 100000 in
theorem fl_Mod_42 : FL R_Mod 42 ci_Mod 17 false (.int) := ⟨_, _, _, _, ck_Mod, by decide, lw_mem 559 rfl, rfl, rfl, rfl, fun h => nomatch h⟩
set_option maxRecDepth 100000 in
theorem cst_Itm_72 : Cond.constant R_Itm 72 55296 ∈ lw_tbl := lw_mem 279 rfl
set_option maxRecDepth 100000 in
theorem cst_Itm_74 : Cond.constant R_Itm 74 56319 ∈ lw_tbl := lw_mem 280 rfl
set_option maxRecDepth 100000 in
theorem cst_Itm_73 : Cond.constant R_Itm 73 56320 ∈ lw_tbl := lw_mem 284 rfl
set_option maxRecDepth 100000 in
theorem cst_Itm_75 : Cond.constant R_Itm 75 57343 ∈ lw_tbl := lw_mem 285 rfl
set_option maxRecDepth 100000 in
theorem cst_Itm_71 : Cond.constant R_Itm 71 65536 ∈ lw_tbl := lw_mem 289 rfl
set_option maxRecDepth 100000 in
theorem cst_Clu_34 : Cond.constant R_Clu 34 127744 ∈ lw_tbl := lw_mem 304 rfl
set_option maxRecDepth 100000 in
theorem cst_Clu_35 : Cond.constant R_Clu 35 129791 ∈ lw_tbl := lw_mem 305 rfl
set_option maxRecDepth 100000 in
theorem cst_Clu_36 : Cond.constant R_Clu 36 127462 ∈ lw_tbl := lw_mem 309 rfl
set_option maxRecDepth 100000 in
theorem cst_Clu_37 : Cond.constant R_Clu 37 127487 ∈ lw_tbl := lw_mem 310 rfl
set_option maxRecDepth 100000 in
theorem cst_Mod_54 : Cond.constant R_Mod 54 55296 ∈ lw_tbl := lw_mem 633 rfl
set_option maxRecDepth 100000 in
theorem cst_Mod_55 : Cond.constant R_Mod 55 56319 ∈ lw_tbl := lw_mem 634 rfl
set_option maxRecDepth 100000 in
theorem cst_Mod_56 : Cond.constant R_Mod 56 56320 ∈ lw_tbl := lw_mem 635 rfl
set_option maxRecDepth 100000 in
theorem cst_Mod_57 : Cond.constant R_Mod 57 57343 ∈ lw_tbl := lw_mem 636 rfl
set_option maxRecDepth 100000 in
theorem cst_Mod_58 : Cond.constant R_Mod 58 65536 ∈ lw_tbl := lw_mem 637 rfl
set_option maxRecDepth 100000 in
theorem cst_Mod_59 : Cond.constant R_Mod 59 127744 ∈ lw_tbl := lw_mem 648 rfl
set_option maxRecDepth 100000 in
theorem cst_Mod_60 : Cond.constant R_Mod 60 129791 ∈ lw_tbl := lw_mem 649 rfl
set_option maxRecDepth 100000 in
theorem cst_Mod_61 : Cond.constant R_Mod 61 127462 ∈ lw_tbl := lw_mem 653 rfl
set_option maxRecDepth 100000 in
theorem cst_Mod_62 : Cond.constant R_Mod 62 127487 ∈ lw_tbl := lw_mem 654 rfl
set_option maxRecDepth 100000 in
theorem cn_Law_15 : CIM R_Law 15 m_VT_init 1 := ⟨⟨lw_mem 41 rfl, lw_mem 27 rfl, by decide, by decide +kernel, lw_mem 39 rfl⟩, lw_mem 40 rfl, rfl, rfl⟩
set_option maxRecDepth 100000 in
theorem oi_VT : Cond.methodLink R_VT 1 Lib.objectInit ∈ lw_tbl ∧ Cond.instanceMethod Lib.objectInit ∈ lw_tbl ∧ Cond.code Lib.objectInit ⟨#[0xb1]⟩ 1 none ∈ lw_tbl := ⟨lw_mem 42 rfl, lw_mem 43 rfl, lw_mem 44 rfl⟩
set_option maxRecDepth 100000 in
theorem cn_VT_11 : CIM R_VT 11 m_Gap_init 1 := ⟨⟨lw_mem 49 rfl, lw_mem 28 rfl, by decide, by decide +kernel, lw_mem 47 rfl⟩, lw_mem 48 rfl, rfl, rfl⟩
set_option maxRecDepth 100000 in
theorem oi_Gap : Cond.methodLink R_Gap 3 Lib.objectInit ∈ lw_tbl ∧ Cond.instanceMethod Lib.objectInit ∈ lw_tbl ∧ Cond.code Lib.objectInit ⟨#[0xb1]⟩ 1 none ∈ lw_tbl := ⟨lw_mem 50 rfl, lw_mem 43 rfl, lw_mem 44 rfl⟩
set_option maxRecDepth 100000 in
theorem cn_VT_20 : CIM R_VT 20 m_Row_init 1 := ⟨⟨lw_mem 66 rfl, lw_mem 29 rfl, by decide, by decide +kernel, lw_mem 64 rfl⟩, lw_mem 65 rfl, rfl, rfl⟩
set_option maxRecDepth 100000 in
theorem oi_Row : Cond.methodLink R_Row 3 Lib.objectInit ∈ lw_tbl ∧ Cond.instanceMethod Lib.objectInit ∈ lw_tbl ∧ Cond.code Lib.objectInit ⟨#[0xb1]⟩ 1 none ∈ lw_tbl := ⟨lw_mem 67 rfl, lw_mem 43 rfl, lw_mem 44 rfl⟩
set_option maxRecDepth 100000 in
theorem cn_VT_37 : CIM R_VT 37 m_His_init 0 := ⟨⟨lw_mem 81 rfl, lw_mem 30 rfl, by decide, by decide +kernel, lw_mem 79 rfl⟩, lw_mem 80 rfl, rfl, rfl⟩
set_option maxRecDepth 100000 in
theorem oi_His : Cond.methodLink R_His 3 Lib.objectInit ∈ lw_tbl ∧ Cond.instanceMethod Lib.objectInit ∈ lw_tbl ∧ Cond.code Lib.objectInit ⟨#[0xb1]⟩ 1 none ∈ lw_tbl := ⟨lw_mem 82 rfl, lw_mem 43 rfl, lw_mem 44 rfl⟩
set_option maxRecDepth 100000 in
theorem cn_His_17 : CIM R_His 17 m_Row_init 1 := ⟨⟨lw_mem 66 rfl, lw_mem 29 rfl, by decide, by decide +kernel, lw_mem 85 rfl⟩, lw_mem 65 rfl, rfl, rfl⟩
set_option maxRecDepth 100000 in
theorem cn_VT_44 : CIM R_VT 44 m_Itm_init 0 := ⟨⟨lw_mem 104 rfl, lw_mem 31 rfl, by decide, by decide +kernel, lw_mem 102 rfl⟩, lw_mem 103 rfl, rfl, rfl⟩
set_option maxRecDepth 100000 in
theorem oi_Itm : Cond.methodLink R_Itm 3 Lib.objectInit ∈ lw_tbl ∧ Cond.instanceMethod Lib.objectInit ∈ lw_tbl ∧ Cond.code Lib.objectInit ⟨#[0xb1]⟩ 1 none ∈ lw_tbl := ⟨lw_mem 105 rfl, lw_mem 43 rfl, lw_mem 44 rfl⟩
set_option maxRecDepth 100000 in
theorem cn_Itm_17 : CIM R_Itm 17 m_Clu_init 0 := ⟨⟨lw_mem 110 rfl, lw_mem 32 rfl, by decide, by decide +kernel, lw_mem 108 rfl⟩, lw_mem 109 rfl, rfl, rfl⟩
set_option maxRecDepth 100000 in
theorem oi_Clu : Cond.methodLink R_Clu 3 Lib.objectInit ∈ lw_tbl ∧ Cond.instanceMethod Lib.objectInit ∈ lw_tbl ∧ Cond.code Lib.objectInit ⟨#[0xb1]⟩ 1 none ∈ lw_tbl := ⟨lw_mem 111 rfl, lw_mem 43 rfl, lw_mem 44 rfl⟩
set_option maxRecDepth 100000 in
theorem cn_VT_51 : CIM R_VT 51 m_Sea_init 0 := ⟨⟨lw_mem 143 rfl, lw_mem 33 rfl, by decide, by decide +kernel, lw_mem 141 rfl⟩, lw_mem 142 rfl, rfl, rfl⟩
set_option maxRecDepth 100000 in
theorem oi_Sea : Cond.methodLink R_Sea 3 Lib.objectInit ∈ lw_tbl ∧ Cond.instanceMethod Lib.objectInit ∈ lw_tbl ∧ Cond.code Lib.objectInit ⟨#[0xb1]⟩ 1 none ∈ lw_tbl := ⟨lw_mem 144 rfl, lw_mem 43 rfl, lw_mem 44 rfl⟩
set_option maxRecDepth 100000 in
theorem cv_Law_21 : CVM R_Law 21 m_VT_type ci_VT 1 := ⟨⟨lw_mem 192 rfl, lw_mem 27 rfl, by decide, by decide +kernel, lw_mem 189 rfl⟩, _, _, _, rfl, lw_mem 190 rfl, lw_mem 191 rfl⟩
set_option maxRecDepth 100000 in
theorem cv_VT_63 : CVM R_VT 63 m_Row_append ci_Row 1 := ⟨⟨lw_mem 196 rfl, lw_mem 29 rfl, by decide, by decide +kernel, lw_mem 193 rfl⟩, _, _, _, rfl, lw_mem 194 rfl, lw_mem 195 rfl⟩
set_option maxRecDepth 100000 in
theorem cv_Law_26 : CVM R_Law 26 m_VT_scrap ci_VT 0 := ⟨⟨lw_mem 200 rfl, lw_mem 27 rfl, by decide, by decide +kernel, lw_mem 197 rfl⟩, _, _, _, rfl, lw_mem 198 rfl, lw_mem 199 rfl⟩
set_option maxRecDepth 100000 in
theorem cv_VT_67 : CVM R_VT 67 m_Row_length ci_Row 0 := ⟨⟨lw_mem 204 rfl, lw_mem 29 rfl, by decide, by decide +kernel, lw_mem 201 rfl⟩, _, _, _, rfl, lw_mem 202 rfl, lw_mem 203 rfl⟩
set_option maxRecDepth 100000 in
theorem cv_VT_71 : CVM R_VT 71 m_Row_cut ci_Row 2 := ⟨⟨lw_mem 208 rfl, lw_mem 29 rfl, by decide, by decide +kernel, lw_mem 205 rfl⟩, _, _, _, rfl, lw_mem 206 rfl, lw_mem 207 rfl⟩
set_option maxRecDepth 100000 in
theorem ac_Row : Cond.methodLink R_Row 19 arraycopyName ∈ lw_tbl ∧ Cond.native arraycopyName ∈ lw_tbl ∧ Cond.static arraycopyName ∈ lw_tbl ∧ Cond.initialized "java/lang/System" ∈ lw_tbl := ⟨lw_mem 209 rfl, lw_mem 211 rfl, lw_mem 210 rfl, lw_mem 35 rfl⟩
set_option maxRecDepth 100000 in
theorem cv_Law_30 : CVM R_Law 30 m_VT_insert ci_VT 1 := ⟨⟨lw_mem 215 rfl, lw_mem 27 rfl, by decide, by decide +kernel, lw_mem 212 rfl⟩, _, _, _, rfl, lw_mem 213 rfl, lw_mem 214 rfl⟩
set_option maxRecDepth 100000 in
theorem cv_VT_75 : CVM R_VT 75 m_VT_canTakeClip ci_VT 2 := ⟨⟨lw_mem 219 rfl, lw_mem 27 rfl, by decide, by decide +kernel, lw_mem 216 rfl⟩, _, _, _, rfl, lw_mem 218 rfl, lw_mem 0 rfl⟩
set_option maxRecDepth 100000 in
theorem cv_VT_94 : CVM R_VT 94 m_VT_canEdit ci_VT 2 := ⟨⟨lw_mem 223 rfl, lw_mem 27 rfl, by decide, by decide +kernel, lw_mem 220 rfl⟩, _, _, _, rfl, lw_mem 222 rfl, lw_mem 1 rfl⟩
set_option maxRecDepth 100000 in
theorem cs_VT_137 : CSS R_VT 137 m_VT_isPlace 2 := ⟨⟨lw_mem 226 rfl, lw_mem 27 rfl, by decide, by decide +kernel, lw_mem 224 rfl⟩, lw_mem 225 rfl⟩
set_option maxRecDepth 100000 in
theorem cf_VT_159_Row : CFM R_VT 159 ci_Row y_Txt_length m_Row_length 0 := ⟨_, _, _, rfl, lw_mem 204 rfl, lw_mem 29 rfl, by decide, by decide +kernel, lw_mem 228 rfl, lw_mem 238 rfl, lw_mem 202 rfl, by decide +kernel⟩
set_option maxRecDepth 100000 in
theorem cf_VT_159_Gap : CFM R_VT 159 ci_Gap y_Txt_length m_Gap_length 0 := ⟨_, _, _, rfl, lw_mem 236 rfl, lw_mem 28 rfl, by decide, by decide +kernel, lw_mem 228 rfl, lw_mem 232 rfl, lw_mem 234 rfl, by decide +kernel⟩
set_option maxRecDepth 100000 in
theorem cv_VT_127 : CVM R_VT 127 m_Itm_measure ci_Itm 2 := ⟨⟨lw_mem 244 rfl, lw_mem 31 rfl, by decide, by decide +kernel, lw_mem 241 rfl⟩, _, _, _, rfl, lw_mem 242 rfl, lw_mem 243 rfl⟩
set_option maxRecDepth 100000 in
theorem cf_Itm_32_Row : CFM R_Itm 32 ci_Row y_Txt_length m_Row_length 0 := ⟨_, _, _, rfl, lw_mem 204 rfl, lw_mem 29 rfl, by decide, by decide +kernel, lw_mem 246 rfl, lw_mem 238 rfl, lw_mem 202 rfl, by decide +kernel⟩
set_option maxRecDepth 100000 in
theorem cf_Itm_32_Gap : CFM R_Itm 32 ci_Gap y_Txt_length m_Gap_length 0 := ⟨_, _, _, rfl, lw_mem 236 rfl, lw_mem 28 rfl, by decide, by decide +kernel, lw_mem 246 rfl, lw_mem 232 rfl, lw_mem 234 rfl, by decide +kernel⟩
set_option maxRecDepth 100000 in
theorem cv_Itm_37 : CVM R_Itm 37 m_Clu_restart ci_Clu 0 := ⟨⟨lw_mem 250 rfl, lw_mem 32 rfl, by decide, by decide +kernel, lw_mem 247 rfl⟩, _, _, _, rfl, lw_mem 248 rfl, lw_mem 249 rfl⟩
set_option maxRecDepth 100000 in
theorem cv_Itm_40 : CVM R_Itm 40 m_Itm_begins ci_Itm 2 := ⟨⟨lw_mem 254 rfl, lw_mem 31 rfl, by decide, by decide +kernel, lw_mem 251 rfl⟩, _, _, _, rfl, lw_mem 253 rfl, lw_mem 2 rfl⟩
set_option maxRecDepth 100000 in
theorem cs_Itm_48 : CSS R_Itm 48 m_Itm_beginsLine 2 := ⟨⟨lw_mem 257 rfl, lw_mem 31 rfl, by decide, by decide +kernel, lw_mem 255 rfl⟩, lw_mem 256 rfl⟩
set_option maxRecDepth 100000 in
theorem cf_Itm_62_Row : CFM R_Itm 62 ci_Row y_Txt_at m_Row_at 1 := ⟨_, _, _, rfl, lw_mem 272 rfl, lw_mem 29 rfl, by decide, by decide +kernel, lw_mem 259 rfl, lw_mem 268 rfl, lw_mem 270 rfl, by decide +kernel⟩
set_option maxRecDepth 100000 in
theorem cf_Itm_62_Gap : CFM R_Itm 62 ci_Gap y_Txt_at m_Gap_at 1 := ⟨_, _, _, rfl, lw_mem 266 rfl, lw_mem 28 rfl, by decide, by decide +kernel, lw_mem 259 rfl, lw_mem 262 rfl, lw_mem 264 rfl, by decide +kernel⟩
set_option maxRecDepth 100000 in
theorem cv_Gap_22 : CVM R_Gap 22 m_Gap_length ci_Gap 0 := ⟨⟨lw_mem 236 rfl, lw_mem 28 rfl, by decide, by decide +kernel, lw_mem 267 rfl⟩, _, _, _, rfl, lw_mem 234 rfl, lw_mem 754 rfl⟩
set_option maxRecDepth 100000 in
theorem cs_Itm_51 : CSS R_Itm 51 m_Itm_isSecondHalf 2 := ⟨⟨lw_mem 275 rfl, lw_mem 31 rfl, by decide, by decide +kernel, lw_mem 273 rfl⟩, lw_mem 274 rfl⟩
set_option maxRecDepth 100000 in
theorem cs_Itm_65 : CSS R_Itm 65 m_Itm_isFirst 1 := ⟨⟨lw_mem 278 rfl, lw_mem 31 rfl, by decide, by decide +kernel, lw_mem 276 rfl⟩, lw_mem 277 rfl⟩
set_option maxRecDepth 100000 in
theorem cs_Itm_68 : CSS R_Itm 68 m_Itm_isSecond 1 := ⟨⟨lw_mem 283 rfl, lw_mem 31 rfl, by decide, by decide +kernel, lw_mem 281 rfl⟩, lw_mem 282 rfl⟩
set_option maxRecDepth 100000 in
theorem cs_Itm_54 : CSS R_Itm 54 m_Itm_codeAt 2 := ⟨⟨lw_mem 288 rfl, lw_mem 31 rfl, by decide, by decide +kernel, lw_mem 286 rfl⟩, lw_mem 287 rfl⟩
set_option maxRecDepth 100000 in
theorem cv_Itm_58 : CVM R_Itm 58 m_Clu_isCutBefore ci_Clu 1 := ⟨⟨lw_mem 293 rfl, lw_mem 32 rfl, by decide, by decide +kernel, lw_mem 290 rfl⟩, _, _, _, rfl, lw_mem 291 rfl, lw_mem 292 rfl⟩
set_option maxRecDepth 100000 in
theorem cv_Clu_21 : CVM R_Clu 21 m_Clu_isJoinedTo ci_Clu 1 := ⟨⟨lw_mem 297 rfl, lw_mem 32 rfl, by decide, by decide +kernel, lw_mem 294 rfl⟩, _, _, _, rfl, lw_mem 296 rfl, lw_mem 3 rfl⟩
set_option maxRecDepth 100000 in
theorem cs_Clu_28 : CSS R_Clu 28 m_Clu_isMark 1 := ⟨⟨lw_mem 300 rfl, lw_mem 32 rfl, by decide, by decide +kernel, lw_mem 298 rfl⟩, lw_mem 299 rfl⟩
set_option maxRecDepth 100000 in
theorem cs_Clu_31 : CSS R_Clu 31 m_Clu_isPicture 1 := ⟨⟨lw_mem 303 rfl, lw_mem 32 rfl, by decide, by decide +kernel, lw_mem 301 rfl⟩, lw_mem 302 rfl⟩
set_option maxRecDepth 100000 in
theorem cs_Clu_25 : CSS R_Clu 25 m_Clu_isFlag 1 := ⟨⟨lw_mem 308 rfl, lw_mem 32 rfl, by decide, by decide +kernel, lw_mem 306 rfl⟩, lw_mem 307 rfl⟩
set_option maxRecDepth 100000 in
theorem cv_VT_160 : CVM R_VT 160 m_Itm_isInside ci_Itm 1 := ⟨⟨lw_mem 314 rfl, lw_mem 31 rfl, by decide, by decide +kernel, lw_mem 311 rfl⟩, _, _, _, rfl, lw_mem 312 rfl, lw_mem 313 rfl⟩
set_option maxRecDepth 100000 in
theorem cv_Itm_44 : CVM R_Itm 44 m_Itm_having ci_Itm 1 := ⟨⟨lw_mem 318 rfl, lw_mem 31 rfl, by decide, by decide +kernel, lw_mem 315 rfl⟩, _, _, _, rfl, lw_mem 316 rfl, lw_mem 317 rfl⟩
set_option maxRecDepth 100000 in
theorem cf_VT_79_Row : CFM R_VT 79 ci_Row y_Txt_put m_Row_put 2 := ⟨_, _, _, rfl, lw_mem 342 rfl, lw_mem 29 rfl, by decide, by decide +kernel, lw_mem 320 rfl, lw_mem 338 rfl, lw_mem 340 rfl, by decide +kernel⟩
set_option maxRecDepth 100000 in
theorem cf_VT_79_Gap : CFM R_VT 79 ci_Gap y_Txt_put m_Gap_put 2 := ⟨_, _, _, rfl, lw_mem 327 rfl, lw_mem 28 rfl, by decide, by decide +kernel, lw_mem 320 rfl, lw_mem 323 rfl, lw_mem 325 rfl, by decide +kernel⟩
set_option maxRecDepth 100000 in
theorem cv_Gap_26 : CVM R_Gap 26 m_Gap_moveGap ci_Gap 1 := ⟨⟨lw_mem 331 rfl, lw_mem 28 rfl, by decide, by decide +kernel, lw_mem 328 rfl⟩, _, _, _, rfl, lw_mem 330 rfl, lw_mem 4 rfl⟩
set_option maxRecDepth 100000 in
theorem ac_Gap : Cond.methodLink R_Gap 44 arraycopyName ∈ lw_tbl ∧ Cond.native arraycopyName ∈ lw_tbl ∧ Cond.static arraycopyName ∈ lw_tbl ∧ Cond.initialized "java/lang/System" ∈ lw_tbl := ⟨lw_mem 332 rfl, lw_mem 211 rfl, lw_mem 210 rfl, lw_mem 35 rfl⟩
set_option maxRecDepth 100000 in
theorem cv_Gap_30 : CVM R_Gap 30 m_Row_copyInto ci_Row 2 := ⟨⟨lw_mem 336 rfl, lw_mem 29 rfl, by decide, by decide +kernel, lw_mem 333 rfl⟩, _, _, _, rfl, lw_mem 334 rfl, lw_mem 335 rfl⟩
set_option maxRecDepth 100000 in
theorem cv_Gap_36 : CVM R_Gap 36 m_Row_length ci_Row 0 := ⟨⟨lw_mem 204 rfl, lw_mem 29 rfl, by decide, by decide +kernel, lw_mem 337 rfl⟩, _, _, _, rfl, lw_mem 202 rfl, lw_mem 203 rfl⟩
set_option maxRecDepth 100000 in
theorem cv_Row_25 : CVM R_Row 25 m_Row_copyInto ci_Row 2 := ⟨⟨lw_mem 336 rfl, lw_mem 29 rfl, by decide, by decide +kernel, lw_mem 343 rfl⟩, _, _, _, rfl, lw_mem 334 rfl, lw_mem 335 rfl⟩
set_option maxRecDepth 100000 in
theorem cv_VT_83 : CVM R_VT 83 m_VT_clipIsTyping ci_VT 0 := ⟨⟨lw_mem 347 rfl, lw_mem 27 rfl, by decide, by decide +kernel, lw_mem 344 rfl⟩, _, _, _, rfl, lw_mem 346 rfl, lw_mem 5 rfl⟩
set_option maxRecDepth 100000 in
theorem cv_VT_163 : CVM R_VT 163 m_Row_at ci_Row 1 := ⟨⟨lw_mem 272 rfl, lw_mem 29 rfl, by decide, by decide +kernel, lw_mem 348 rfl⟩, _, _, _, rfl, lw_mem 270 rfl, lw_mem 755 rfl⟩
set_option maxRecDepth 100000 in
theorem cv_VT_87 : CVM R_VT 87 m_His_extendStep ci_His 1 := ⟨⟨lw_mem 352 rfl, lw_mem 30 rfl, by decide, by decide +kernel, lw_mem 349 rfl⟩, _, _, _, rfl, lw_mem 350 rfl, lw_mem 351 rfl⟩
set_option maxRecDepth 100000 in
theorem cv_His_30 : CVM R_His 30 m_His_latest ci_His 0 := ⟨⟨lw_mem 356 rfl, lw_mem 30 rfl, by decide, by decide +kernel, lw_mem 353 rfl⟩, _, _, _, rfl, lw_mem 355 rfl, lw_mem 6 rfl⟩
set_option maxRecDepth 100000 in
theorem cv_His_34 : CVM R_His 34 m_Row_become ci_Row 1 := ⟨⟨lw_mem 360 rfl, lw_mem 29 rfl, by decide, by decide +kernel, lw_mem 357 rfl⟩, _, _, _, rfl, lw_mem 358 rfl, lw_mem 359 rfl⟩
set_option maxRecDepth 100000 in
theorem cf_Row_29_Row : CFM R_Row 29 ci_Row y_Txt_length m_Row_length 0 := ⟨_, _, _, rfl, lw_mem 204 rfl, lw_mem 29 rfl, by decide, by decide +kernel, lw_mem 362 rfl, lw_mem 238 rfl, lw_mem 202 rfl, by decide +kernel⟩
set_option maxRecDepth 100000 in
theorem cf_Row_29_Gap : CFM R_Row 29 ci_Gap y_Txt_length m_Gap_length 0 := ⟨_, _, _, rfl, lw_mem 236 rfl, lw_mem 28 rfl, by decide, by decide +kernel, lw_mem 362 rfl, lw_mem 232 rfl, lw_mem 234 rfl, by decide +kernel⟩
set_option maxRecDepth 100000 in
theorem cf_Row_34_Row : CFM R_Row 34 ci_Row y_Txt_at m_Row_at 1 := ⟨_, _, _, rfl, lw_mem 272 rfl, lw_mem 29 rfl, by decide, by decide +kernel, lw_mem 364 rfl, lw_mem 268 rfl, lw_mem 270 rfl, by decide +kernel⟩
set_option maxRecDepth 100000 in
theorem cf_Row_34_Gap : CFM R_Row 34 ci_Gap y_Txt_at m_Gap_at 1 := ⟨_, _, _, rfl, lw_mem 266 rfl, lw_mem 28 rfl, by decide, by decide +kernel, lw_mem 364 rfl, lw_mem 262 rfl, lw_mem 264 rfl, by decide +kernel⟩
set_option maxRecDepth 100000 in
theorem cv_VT_91 : CVM R_VT 91 m_His_addStep ci_His 1 := ⟨⟨lw_mem 368 rfl, lw_mem 30 rfl, by decide, by decide +kernel, lw_mem 365 rfl⟩, _, _, _, rfl, lw_mem 366 rfl, lw_mem 367 rfl⟩
set_option maxRecDepth 100000 in
theorem cv_Law_35 : CVM R_Law 35 m_VT_remove ci_VT 2 := ⟨⟨lw_mem 372 rfl, lw_mem 27 rfl, by decide, by decide +kernel, lw_mem 369 rfl⟩, _, _, _, rfl, lw_mem 370 rfl, lw_mem 371 rfl⟩
set_option maxRecDepth 100000 in
theorem cf_VT_97_Row : CFM R_VT 97 ci_Row y_Txt_cut m_Row_cut 2 := ⟨_, _, _, rfl, lw_mem 208 rfl, lw_mem 29 rfl, by decide, by decide +kernel, lw_mem 374 rfl, lw_mem 382 rfl, lw_mem 206 rfl, by decide +kernel⟩
set_option maxRecDepth 100000 in
theorem cf_VT_97_Gap : CFM R_VT 97 ci_Gap y_Txt_cut m_Gap_cut 2 := ⟨_, _, _, rfl, lw_mem 381 rfl, lw_mem 28 rfl, by decide, by decide +kernel, lw_mem 374 rfl, lw_mem 377 rfl, lw_mem 379 rfl, by decide +kernel⟩
set_option maxRecDepth 100000 in
theorem cv_VT_98 : CVM R_VT 98 m_VT_addClosedStep ci_VT 0 := ⟨⟨lw_mem 388 rfl, lw_mem 27 rfl, by decide, by decide +kernel, lw_mem 385 rfl⟩, _, _, _, rfl, lw_mem 387 rfl, lw_mem 7 rfl⟩
set_option maxRecDepth 100000 in
theorem cv_Law_40 : CVM R_Law 40 m_VT_replace ci_VT 2 := ⟨⟨lw_mem 392 rfl, lw_mem 27 rfl, by decide, by decide +kernel, lw_mem 389 rfl⟩, _, _, _, rfl, lw_mem 390 rfl, lw_mem 391 rfl⟩
set_option maxRecDepth 100000 in
theorem cv_Law_44 : CVM R_Law 44 m_VT_undo ci_VT 0 := ⟨⟨lw_mem 396 rfl, lw_mem 27 rfl, by decide, by decide +kernel, lw_mem 393 rfl⟩, _, _, _, rfl, lw_mem 394 rfl, lw_mem 395 rfl⟩
set_option maxRecDepth 100000 in
theorem cv_VT_101 : CVM R_VT 101 m_His_undoable ci_His 0 := ⟨⟨lw_mem 400 rfl, lw_mem 30 rfl, by decide, by decide +kernel, lw_mem 397 rfl⟩, _, _, _, rfl, lw_mem 398 rfl, lw_mem 399 rfl⟩
set_option maxRecDepth 100000 in
theorem cv_VT_104 : CVM R_VT 104 m_His_goBack ci_His 1 := ⟨⟨lw_mem 404 rfl, lw_mem 30 rfl, by decide, by decide +kernel, lw_mem 401 rfl⟩, _, _, _, rfl, lw_mem 402 rfl, lw_mem 403 rfl⟩
set_option maxRecDepth 100000 in
theorem cf_His_38_Row : CFM R_His 38 ci_Row y_Txt_become m_Row_become 1 := ⟨_, _, _, rfl, lw_mem 360 rfl, lw_mem 29 rfl, by decide, by decide +kernel, lw_mem 406 rfl, lw_mem 418 rfl, lw_mem 358 rfl, by decide +kernel⟩
set_option maxRecDepth 100000 in
theorem cf_His_38_Gap : CFM R_His 38 ci_Gap y_Txt_become m_Gap_become 1 := ⟨_, _, _, rfl, lw_mem 413 rfl, lw_mem 28 rfl, by decide, by decide +kernel, lw_mem 406 rfl, lw_mem 409 rfl, lw_mem 411 rfl, by decide +kernel⟩
set_option maxRecDepth 100000 in
theorem cf_Gap_37_Row : CFM R_Gap 37 ci_Row y_Txt_length m_Row_length 0 := ⟨_, _, _, rfl, lw_mem 204 rfl, lw_mem 29 rfl, by decide, by decide +kernel, lw_mem 415 rfl, lw_mem 238 rfl, lw_mem 202 rfl, by decide +kernel⟩
set_option maxRecDepth 100000 in
theorem cf_Gap_37_Gap : CFM R_Gap 37 ci_Gap y_Txt_length m_Gap_length 0 := ⟨_, _, _, rfl, lw_mem 236 rfl, lw_mem 28 rfl, by decide, by decide +kernel, lw_mem 415 rfl, lw_mem 232 rfl, lw_mem 234 rfl, by decide +kernel⟩
set_option maxRecDepth 100000 in
theorem cf_Gap_40_Row : CFM R_Gap 40 ci_Row y_Txt_at m_Row_at 1 := ⟨_, _, _, rfl, lw_mem 272 rfl, lw_mem 29 rfl, by decide, by decide +kernel, lw_mem 417 rfl, lw_mem 268 rfl, lw_mem 270 rfl, by decide +kernel⟩
set_option maxRecDepth 100000 in
theorem cf_Gap_40_Gap : CFM R_Gap 40 ci_Gap y_Txt_at m_Gap_at 1 := ⟨_, _, _, rfl, lw_mem 266 rfl, lw_mem 28 rfl, by decide, by decide +kernel, lw_mem 417 rfl, lw_mem 262 rfl, lw_mem 264 rfl, by decide +kernel⟩
set_option maxRecDepth 100000 in
theorem cv_Law_49 : CVM R_Law 49 m_VT_redo ci_VT 0 := ⟨⟨lw_mem 424 rfl, lw_mem 27 rfl, by decide, by decide +kernel, lw_mem 421 rfl⟩, _, _, _, rfl, lw_mem 422 rfl, lw_mem 423 rfl⟩
set_option maxRecDepth 100000 in
theorem cv_VT_107 : CVM R_VT 107 m_His_redoable ci_His 0 := ⟨⟨lw_mem 428 rfl, lw_mem 30 rfl, by decide, by decide +kernel, lw_mem 425 rfl⟩, _, _, _, rfl, lw_mem 426 rfl, lw_mem 427 rfl⟩
set_option maxRecDepth 100000 in
theorem cv_VT_110 : CVM R_VT 110 m_His_goForward ci_His 1 := ⟨⟨lw_mem 432 rfl, lw_mem 30 rfl, by decide, by decide +kernel, lw_mem 429 rfl⟩, _, _, _, rfl, lw_mem 430 rfl, lw_mem 431 rfl⟩
set_option maxRecDepth 100000 in
theorem cv_Law_53 : CVM R_Law 53 m_VT_steps ci_VT 1 := ⟨⟨lw_mem 436 rfl, lw_mem 27 rfl, by decide, by decide +kernel, lw_mem 433 rfl⟩, _, _, _, rfl, lw_mem 434 rfl, lw_mem 435 rfl⟩
set_option maxRecDepth 100000 in
theorem cv_Law_58 : CVM R_Law 58 m_VT_seal ci_VT 0 := ⟨⟨lw_mem 440 rfl, lw_mem 27 rfl, by decide, by decide +kernel, lw_mem 437 rfl⟩, _, _, _, rfl, lw_mem 438 rfl, lw_mem 439 rfl⟩
set_option maxRecDepth 100000 in
theorem cv_Law_62 : CVM R_Law 62 m_VT_guard ci_VT 1 := ⟨⟨lw_mem 444 rfl, lw_mem 27 rfl, by decide, by decide +kernel, lw_mem 441 rfl⟩, _, _, _, rfl, lw_mem 442 rfl, lw_mem 443 rfl⟩
set_option maxRecDepth 100000 in
theorem cv_Law_66 : CVM R_Law 66 m_VT_snapshot ci_VT 0 := ⟨⟨lw_mem 448 rfl, lw_mem 27 rfl, by decide, by decide +kernel, lw_mem 445 rfl⟩, _, _, _, rfl, lw_mem 446 rfl, lw_mem 447 rfl⟩
set_option maxRecDepth 100000 in
theorem cf_VT_113_Row : CFM R_VT 113 ci_Row y_Txt_become m_Row_become 1 := ⟨_, _, _, rfl, lw_mem 360 rfl, lw_mem 29 rfl, by decide, by decide +kernel, lw_mem 450 rfl, lw_mem 418 rfl, lw_mem 358 rfl, by decide +kernel⟩
set_option maxRecDepth 100000 in
theorem cf_VT_113_Gap : CFM R_VT 113 ci_Gap y_Txt_become m_Gap_become 1 := ⟨_, _, _, rfl, lw_mem 413 rfl, lw_mem 28 rfl, by decide, by decide +kernel, lw_mem 450 rfl, lw_mem 409 rfl, lw_mem 411 rfl, by decide +kernel⟩
set_option maxRecDepth 100000 in
theorem cv_Law_71 : CVM R_Law 71 m_VT_release ci_VT 1 := ⟨⟨lw_mem 454 rfl, lw_mem 27 rfl, by decide, by decide +kernel, lw_mem 451 rfl⟩, _, _, _, rfl, lw_mem 452 rfl, lw_mem 453 rfl⟩
set_option maxRecDepth 100000 in
theorem cv_VT_116 : CVM R_VT 116 m_VT_isVersion ci_VT 1 := ⟨⟨lw_mem 458 rfl, lw_mem 27 rfl, by decide, by decide +kernel, lw_mem 455 rfl⟩, _, _, _, rfl, lw_mem 457 rfl, lw_mem 8 rfl⟩
set_option maxRecDepth 100000 in
theorem cv_Law_75 : CVM R_Law 75 m_VT_unit ci_VT 2 := ⟨⟨lw_mem 462 rfl, lw_mem 27 rfl, by decide, by decide +kernel, lw_mem 459 rfl⟩, _, _, _, rfl, lw_mem 460 rfl, lw_mem 461 rfl⟩
set_option maxRecDepth 100000 in
theorem cf_VT_120_Row : CFM R_VT 120 ci_Row y_Txt_at m_Row_at 1 := ⟨_, _, _, rfl, lw_mem 272 rfl, lw_mem 29 rfl, by decide, by decide +kernel, lw_mem 464 rfl, lw_mem 268 rfl, lw_mem 270 rfl, by decide +kernel⟩
set_option maxRecDepth 100000 in
theorem cf_VT_120_Gap : CFM R_VT 120 ci_Gap y_Txt_at m_Gap_at 1 := ⟨_, _, _, rfl, lw_mem 266 rfl, lw_mem 28 rfl, by decide, by decide +kernel, lw_mem 464 rfl, lw_mem 262 rfl, lw_mem 264 rfl, by decide +kernel⟩
set_option maxRecDepth 100000 in
theorem cv_Law_80 : CVM R_Law 80 m_VT_count ci_VT 2 := ⟨⟨lw_mem 468 rfl, lw_mem 27 rfl, by decide, by decide +kernel, lw_mem 465 rfl⟩, _, _, _, rfl, lw_mem 466 rfl, lw_mem 467 rfl⟩
set_option maxRecDepth 100000 in
theorem cs_VT_124 : CSS R_VT 124 m_VT_isMetric 1 := ⟨⟨lw_mem 471 rfl, lw_mem 27 rfl, by decide, by decide +kernel, lw_mem 469 rfl⟩, lw_mem 470 rfl⟩
set_option maxRecDepth 100000 in
theorem cv_VT_131 : CVM R_VT 131 m_Itm_number ci_Itm 0 := ⟨⟨lw_mem 475 rfl, lw_mem 31 rfl, by decide, by decide +kernel, lw_mem 472 rfl⟩, _, _, _, rfl, lw_mem 473 rfl, lw_mem 474 rfl⟩
set_option maxRecDepth 100000 in
theorem cv_Law_84 : CVM R_Law 84 m_VT_place ci_VT 3 := ⟨⟨lw_mem 479 rfl, lw_mem 27 rfl, by decide, by decide +kernel, lw_mem 476 rfl⟩, _, _, _, rfl, lw_mem 477 rfl, lw_mem 478 rfl⟩
set_option maxRecDepth 100000 in
theorem cv_VT_134 : CVM R_VT 134 m_Itm_beginningOf ci_Itm 1 := ⟨⟨lw_mem 483 rfl, lw_mem 31 rfl, by decide, by decide +kernel, lw_mem 480 rfl⟩, _, _, _, rfl, lw_mem 481 rfl, lw_mem 482 rfl⟩
set_option maxRecDepth 100000 in
theorem cv_Law_89 : CVM R_Law 89 m_VT_item ci_VT 3 := ⟨⟨lw_mem 487 rfl, lw_mem 27 rfl, by decide, by decide +kernel, lw_mem 484 rfl⟩, _, _, _, rfl, lw_mem 485 rfl, lw_mem 486 rfl⟩
set_option maxRecDepth 100000 in
theorem cv_VT_141 : CVM R_VT 141 m_Itm_having ci_Itm 1 := ⟨⟨lw_mem 318 rfl, lw_mem 31 rfl, by decide, by decide +kernel, lw_mem 488 rfl⟩, _, _, _, rfl, lw_mem 316 rfl, lw_mem 317 rfl⟩
set_option maxRecDepth 100000 in
theorem cv_Law_93 : CVM R_Law 93 m_VT_same ci_VT 2 := ⟨⟨lw_mem 492 rfl, lw_mem 27 rfl, by decide, by decide +kernel, lw_mem 489 rfl⟩, _, _, _, rfl, lw_mem 490 rfl, lw_mem 491 rfl⟩
set_option maxRecDepth 100000 in
theorem cs_VT_144 : CSS R_VT 144 m_VT_haveSameUnits 2 := ⟨⟨lw_mem 495 rfl, lw_mem 27 rfl, by decide, by decide +kernel, lw_mem 493 rfl⟩, lw_mem 494 rfl⟩
set_option maxRecDepth 100000 in
theorem cv_Law_97 : CVM R_Law 97 m_VT_find ci_VT 2 := ⟨⟨lw_mem 499 rfl, lw_mem 27 rfl, by decide, by decide +kernel, lw_mem 496 rfl⟩, _, _, _, rfl, lw_mem 497 rfl, lw_mem 498 rfl⟩
set_option maxRecDepth 100000 in
theorem cv_VT_148 : CVM R_VT 148 m_Sea_takePattern ci_Sea 1 := ⟨⟨lw_mem 503 rfl, lw_mem 33 rfl, by decide, by decide +kernel, lw_mem 500 rfl⟩, _, _, _, rfl, lw_mem 501 rfl, lw_mem 502 rfl⟩
set_option maxRecDepth 100000 in
theorem cv_Sea_29 : CVM R_Sea 29 m_Row_length ci_Row 0 := ⟨⟨lw_mem 204 rfl, lw_mem 29 rfl, by decide, by decide +kernel, lw_mem 504 rfl⟩, _, _, _, rfl, lw_mem 202 rfl, lw_mem 203 rfl⟩
set_option maxRecDepth 100000 in
theorem cv_Sea_35 : CVM R_Sea 35 m_Row_at ci_Row 1 := ⟨⟨lw_mem 272 rfl, lw_mem 29 rfl, by decide, by decide +kernel, lw_mem 505 rfl⟩, _, _, _, rfl, lw_mem 270 rfl, lw_mem 755 rfl⟩
set_option maxRecDepth 100000 in
theorem cv_VT_152 : CVM R_VT 152 m_Sea_firstMatch ci_Sea 2 := ⟨⟨lw_mem 509 rfl, lw_mem 33 rfl, by decide, by decide +kernel, lw_mem 506 rfl⟩, _, _, _, rfl, lw_mem 507 rfl, lw_mem 508 rfl⟩
set_option maxRecDepth 100000 in
theorem cf_Sea_39_Row : CFM R_Sea 39 ci_Row y_Txt_length m_Row_length 0 := ⟨_, _, _, rfl, lw_mem 204 rfl, lw_mem 29 rfl, by decide, by decide +kernel, lw_mem 511 rfl, lw_mem 238 rfl, lw_mem 202 rfl, by decide +kernel⟩
set_option maxRecDepth 100000 in
theorem cf_Sea_39_Gap : CFM R_Sea 39 ci_Gap y_Txt_length m_Gap_length 0 := ⟨_, _, _, rfl, lw_mem 236 rfl, lw_mem 28 rfl, by decide, by decide +kernel, lw_mem 511 rfl, lw_mem 232 rfl, lw_mem 234 rfl, by decide +kernel⟩
set_option maxRecDepth 100000 in
theorem cf_Sea_42_Row : CFM R_Sea 42 ci_Row y_Txt_at m_Row_at 1 := ⟨_, _, _, rfl, lw_mem 272 rfl, lw_mem 29 rfl, by decide, by decide +kernel, lw_mem 513 rfl, lw_mem 268 rfl, lw_mem 270 rfl, by decide +kernel⟩
set_option maxRecDepth 100000 in
theorem cf_Sea_42_Gap : CFM R_Sea 42 ci_Gap y_Txt_at m_Gap_at 1 := ⟨_, _, _, rfl, lw_mem 266 rfl, lw_mem 28 rfl, by decide, by decide +kernel, lw_mem 513 rfl, lw_mem 262 rfl, lw_mem 264 rfl, by decide +kernel⟩
set_option maxRecDepth 100000 in
theorem cv_Sea_43 : CVM R_Sea 43 m_Sea_reachFrom ci_Sea 2 := ⟨⟨lw_mem 517 rfl, lw_mem 33 rfl, by decide, by decide +kernel, lw_mem 514 rfl⟩, _, _, _, rfl, lw_mem 516 rfl, lw_mem 9 rfl⟩
set_option maxRecDepth 100000 in
theorem cv_Sea_47 : CVM R_Sea 47 m_Sea_standsFor ci_Sea 2 := ⟨⟨lw_mem 521 rfl, lw_mem 33 rfl, by decide, by decide +kernel, lw_mem 518 rfl⟩, _, _, _, rfl, lw_mem 520 rfl, lw_mem 10 rfl⟩
set_option maxRecDepth 100000 in
theorem mx_Sea : Cond.methodLink R_Sea 51 Lib.Math.max.name ∈ lw_tbl ∧ Cond.static Lib.Math.max.name ∈ lw_tbl ∧ Cond.initialized "java/lang/Math" ∈ lw_tbl ∧ Cond.code Lib.Math.max.name Lib.Math.max.code 2 (some .int) ∈ lw_tbl := ⟨lw_mem 522 rfl, lw_mem 523 rfl, lw_mem 36 rfl, lw_mem 524 rfl⟩
set_option maxRecDepth 100000 in
theorem cv_Law_101 : CVM R_Law 101 m_VT_end ci_VT 0 := ⟨⟨lw_mem 528 rfl, lw_mem 27 rfl, by decide, by decide +kernel, lw_mem 525 rfl⟩, _, _, _, rfl, lw_mem 526 rfl, lw_mem 527 rfl⟩
set_option maxRecDepth 100000 in
theorem cv_VT_156 : CVM R_VT 156 m_Sea_matchEnd ci_Sea 0 := ⟨⟨lw_mem 532 rfl, lw_mem 33 rfl, by decide, by decide +kernel, lw_mem 529 rfl⟩, _, _, _, rfl, lw_mem 530 rfl, lw_mem 531 rfl⟩
set_option maxRecDepth 100000 in
theorem cs_Law_9 : CSS R_Law 9 m_Law_cell 2 := ⟨⟨lw_mem 535 rfl, lw_mem 26 rfl, by decide, by decide +kernel, lw_mem 533 rfl⟩, lw_mem 534 rfl⟩
set_option maxRecDepth 100000 in
theorem cn_Law_20 : CIM R_Law 20 m_Mod_init 1 := ⟨⟨lw_mem 540 rfl, lw_mem 34 rfl, by decide, by decide +kernel, lw_mem 538 rfl⟩, lw_mem 539 rfl, rfl, rfl⟩
set_option maxRecDepth 100000 in
theorem oi_Mod : Cond.methodLink R_Mod 1 Lib.objectInit ∈ lw_tbl ∧ Cond.instanceMethod Lib.objectInit ∈ lw_tbl ∧ Cond.code Lib.objectInit ⟨#[0xb1]⟩ 1 none ∈ lw_tbl := ⟨lw_mem 541 rfl, lw_mem 43 rfl, lw_mem 44 rfl⟩
set_option maxRecDepth 100000 in
theorem cv_Law_25 : CVM R_Law 25 m_Mod_type ci_Mod 1 := ⟨⟨lw_mem 600 rfl, lw_mem 34 rfl, by decide, by decide +kernel, lw_mem 597 rfl⟩, _, _, _, rfl, lw_mem 598 rfl, lw_mem 599 rfl⟩
set_option maxRecDepth 100000 in
theorem cv_Law_29 : CVM R_Law 29 m_Mod_scrap ci_Mod 0 := ⟨⟨lw_mem 604 rfl, lw_mem 34 rfl, by decide, by decide +kernel, lw_mem 601 rfl⟩, _, _, _, rfl, lw_mem 602 rfl, lw_mem 603 rfl⟩
set_option maxRecDepth 100000 in
theorem cv_Law_34 : CVM R_Law 34 m_Mod_insert ci_Mod 1 := ⟨⟨lw_mem 608 rfl, lw_mem 34 rfl, by decide, by decide +kernel, lw_mem 605 rfl⟩, _, _, _, rfl, lw_mem 606 rfl, lw_mem 607 rfl⟩
set_option maxRecDepth 100000 in
theorem cv_Mod_108 : CVM R_Mod 108 m_Mod_isPlace ci_Mod 1 := ⟨⟨lw_mem 612 rfl, lw_mem 34 rfl, by decide, by decide +kernel, lw_mem 609 rfl⟩, _, _, _, rfl, lw_mem 611 rfl, lw_mem 11 rfl⟩
set_option maxRecDepth 100000 in
theorem cv_Mod_111 : CVM R_Mod 111 m_Mod_lets ci_Mod 1 := ⟨⟨lw_mem 616 rfl, lw_mem 34 rfl, by decide, by decide +kernel, lw_mem 613 rfl⟩, _, _, _, rfl, lw_mem 615 rfl, lw_mem 12 rfl⟩
set_option maxRecDepth 100000 in
theorem cv_Mod_92 : CVM R_Mod 92 m_Mod_findItems ci_Mod 2 := ⟨⟨lw_mem 620 rfl, lw_mem 34 rfl, by decide, by decide +kernel, lw_mem 617 rfl⟩, _, _, _, rfl, lw_mem 619 rfl, lw_mem 13 rfl⟩
set_option maxRecDepth 100000 in
theorem cv_Mod_76 : CVM R_Mod 76 m_Mod_begin ci_Mod 1 := ⟨⟨lw_mem 624 rfl, lw_mem 34 rfl, by decide, by decide +kernel, lw_mem 621 rfl⟩, _, _, _, rfl, lw_mem 623 rfl, lw_mem 14 rfl⟩
set_option maxRecDepth 100000 in
theorem cv_Mod_80 : CVM R_Mod 80 m_Mod_findLines ci_Mod 1 := ⟨⟨lw_mem 628 rfl, lw_mem 34 rfl, by decide, by decide +kernel, lw_mem 625 rfl⟩, _, _, _, rfl, lw_mem 627 rfl, lw_mem 15 rfl⟩
set_option maxRecDepth 100000 in
theorem cv_Mod_83 : CVM R_Mod 83 m_Mod_findPoints ci_Mod 1 := ⟨⟨lw_mem 632 rfl, lw_mem 34 rfl, by decide, by decide +kernel, lw_mem 629 rfl⟩, _, _, _, rfl, lw_mem 631 rfl, lw_mem 16 rfl⟩
set_option maxRecDepth 100000 in
theorem cv_Mod_86 : CVM R_Mod 86 m_Mod_bound ci_Mod 1 := ⟨⟨lw_mem 641 rfl, lw_mem 34 rfl, by decide, by decide +kernel, lw_mem 638 rfl⟩, _, _, _, rfl, lw_mem 640 rfl, lw_mem 17 rfl⟩
set_option maxRecDepth 100000 in
theorem cs_Mod_63 : CSS R_Mod 63 m_Mod_isMark 1 := ⟨⟨lw_mem 644 rfl, lw_mem 34 rfl, by decide, by decide +kernel, lw_mem 642 rfl⟩, lw_mem 643 rfl⟩
set_option maxRecDepth 100000 in
theorem cs_Mod_67 : CSS R_Mod 67 m_Mod_isPicture 1 := ⟨⟨lw_mem 647 rfl, lw_mem 34 rfl, by decide, by decide +kernel, lw_mem 645 rfl⟩, lw_mem 646 rfl⟩
set_option maxRecDepth 100000 in
theorem cs_Mod_70 : CSS R_Mod 70 m_Mod_isFlag 1 := ⟨⟨lw_mem 652 rfl, lw_mem 34 rfl, by decide, by decide +kernel, lw_mem 650 rfl⟩, lw_mem 651 rfl⟩
set_option maxRecDepth 100000 in
theorem cv_Mod_114 : CVM R_Mod 114 m_Mod_make ci_Mod 3 := ⟨⟨lw_mem 658 rfl, lw_mem 34 rfl, by decide, by decide +kernel, lw_mem 655 rfl⟩, _, _, _, rfl, lw_mem 657 rfl, lw_mem 18 rfl⟩
set_option maxRecDepth 100000 in
theorem cv_Mod_105 : CVM R_Mod 105 m_Mod_show ci_Mod 1 := ⟨⟨lw_mem 662 rfl, lw_mem 34 rfl, by decide, by decide +kernel, lw_mem 659 rfl⟩, _, _, _, rfl, lw_mem 661 rfl, lw_mem 19 rfl⟩
set_option maxRecDepth 100000 in
theorem cv_Mod_118 : CVM R_Mod 118 m_Mod_step ci_Mod 0 := ⟨⟨lw_mem 666 rfl, lw_mem 34 rfl, by decide, by decide +kernel, lw_mem 663 rfl⟩, _, _, _, rfl, lw_mem 665 rfl, lw_mem 20 rfl⟩
set_option maxRecDepth 100000 in
theorem cv_Mod_99 : CVM R_Mod 99 m_Mod_copy ci_Mod 2 := ⟨⟨lw_mem 670 rfl, lw_mem 34 rfl, by decide, by decide +kernel, lw_mem 667 rfl⟩, _, _, _, rfl, lw_mem 669 rfl, lw_mem 21 rfl⟩
set_option maxRecDepth 100000 in
theorem cv_Law_39 : CVM R_Law 39 m_Mod_remove ci_Mod 2 := ⟨⟨lw_mem 674 rfl, lw_mem 34 rfl, by decide, by decide +kernel, lw_mem 671 rfl⟩, _, _, _, rfl, lw_mem 672 rfl, lw_mem 673 rfl⟩
set_option maxRecDepth 100000 in
theorem cv_Law_43 : CVM R_Law 43 m_Mod_replace ci_Mod 2 := ⟨⟨lw_mem 678 rfl, lw_mem 34 rfl, by decide, by decide +kernel, lw_mem 675 rfl⟩, _, _, _, rfl, lw_mem 676 rfl, lw_mem 677 rfl⟩
set_option maxRecDepth 100000 in
theorem cv_Law_48 : CVM R_Law 48 m_Mod_undo ci_Mod 0 := ⟨⟨lw_mem 682 rfl, lw_mem 34 rfl, by decide, by decide +kernel, lw_mem 679 rfl⟩, _, _, _, rfl, lw_mem 680 rfl, lw_mem 681 rfl⟩
set_option maxRecDepth 100000 in
theorem cv_Law_52 : CVM R_Law 52 m_Mod_redo ci_Mod 0 := ⟨⟨lw_mem 686 rfl, lw_mem 34 rfl, by decide, by decide +kernel, lw_mem 683 rfl⟩, _, _, _, rfl, lw_mem 684 rfl, lw_mem 685 rfl⟩
set_option maxRecDepth 100000 in
theorem cv_Law_57 : CVM R_Law 57 m_Mod_steps ci_Mod 1 := ⟨⟨lw_mem 690 rfl, lw_mem 34 rfl, by decide, by decide +kernel, lw_mem 687 rfl⟩, _, _, _, rfl, lw_mem 688 rfl, lw_mem 689 rfl⟩
set_option maxRecDepth 100000 in
theorem cv_Law_61 : CVM R_Law 61 m_Mod_seal ci_Mod 0 := ⟨⟨lw_mem 694 rfl, lw_mem 34 rfl, by decide, by decide +kernel, lw_mem 691 rfl⟩, _, _, _, rfl, lw_mem 692 rfl, lw_mem 693 rfl⟩
set_option maxRecDepth 100000 in
theorem cv_Law_65 : CVM R_Law 65 m_Mod_guard ci_Mod 1 := ⟨⟨lw_mem 698 rfl, lw_mem 34 rfl, by decide, by decide +kernel, lw_mem 695 rfl⟩, _, _, _, rfl, lw_mem 696 rfl, lw_mem 697 rfl⟩
set_option maxRecDepth 100000 in
theorem cv_Law_70 : CVM R_Law 70 m_Mod_snapshot ci_Mod 0 := ⟨⟨lw_mem 702 rfl, lw_mem 34 rfl, by decide, by decide +kernel, lw_mem 699 rfl⟩, _, _, _, rfl, lw_mem 700 rfl, lw_mem 701 rfl⟩
set_option maxRecDepth 100000 in
theorem cv_Law_74 : CVM R_Law 74 m_Mod_release ci_Mod 1 := ⟨⟨lw_mem 706 rfl, lw_mem 34 rfl, by decide, by decide +kernel, lw_mem 703 rfl⟩, _, _, _, rfl, lw_mem 704 rfl, lw_mem 705 rfl⟩
set_option maxRecDepth 100000 in
theorem cv_Law_79 : CVM R_Law 79 m_Mod_unit ci_Mod 2 := ⟨⟨lw_mem 710 rfl, lw_mem 34 rfl, by decide, by decide +kernel, lw_mem 707 rfl⟩, _, _, _, rfl, lw_mem 708 rfl, lw_mem 709 rfl⟩
set_option maxRecDepth 100000 in
theorem cv_Mod_121 : CVM R_Mod 121 m_Mod_slot ci_Mod 1 := ⟨⟨lw_mem 714 rfl, lw_mem 34 rfl, by decide, by decide +kernel, lw_mem 711 rfl⟩, _, _, _, rfl, lw_mem 713 rfl, lw_mem 22 rfl⟩
set_option maxRecDepth 100000 in
theorem cv_Law_83 : CVM R_Law 83 m_Mod_count ci_Mod 2 := ⟨⟨lw_mem 718 rfl, lw_mem 34 rfl, by decide, by decide +kernel, lw_mem 715 rfl⟩, _, _, _, rfl, lw_mem 716 rfl, lw_mem 717 rfl⟩
set_option maxRecDepth 100000 in
theorem cv_Mod_125 : CVM R_Mod 125 m_Mod_looks ci_Mod 2 := ⟨⟨lw_mem 722 rfl, lw_mem 34 rfl, by decide, by decide +kernel, lw_mem 719 rfl⟩, _, _, _, rfl, lw_mem 721 rfl, lw_mem 23 rfl⟩
set_option maxRecDepth 100000 in
theorem cv_Law_88 : CVM R_Law 88 m_Mod_place ci_Mod 3 := ⟨⟨lw_mem 726 rfl, lw_mem 34 rfl, by decide, by decide +kernel, lw_mem 723 rfl⟩, _, _, _, rfl, lw_mem 724 rfl, lw_mem 725 rfl⟩
set_option maxRecDepth 100000 in
theorem cv_Law_92 : CVM R_Law 92 m_Mod_item ci_Mod 3 := ⟨⟨lw_mem 730 rfl, lw_mem 34 rfl, by decide, by decide +kernel, lw_mem 727 rfl⟩, _, _, _, rfl, lw_mem 728 rfl, lw_mem 729 rfl⟩
set_option maxRecDepth 100000 in
theorem cv_Law_96 : CVM R_Law 96 m_Mod_same ci_Mod 2 := ⟨⟨lw_mem 734 rfl, lw_mem 34 rfl, by decide, by decide +kernel, lw_mem 731 rfl⟩, _, _, _, rfl, lw_mem 732 rfl, lw_mem 733 rfl⟩
set_option maxRecDepth 100000 in
theorem cv_Law_100 : CVM R_Law 100 m_Mod_find ci_Mod 2 := ⟨⟨lw_mem 738 rfl, lw_mem 34 rfl, by decide, by decide +kernel, lw_mem 735 rfl⟩, _, _, _, rfl, lw_mem 736 rfl, lw_mem 737 rfl⟩
set_option maxRecDepth 100000 in
theorem cv_Mod_132 : CVM R_Mod 132 m_Mod_isPattern ci_Mod 0 := ⟨⟨lw_mem 742 rfl, lw_mem 34 rfl, by decide, by decide +kernel, lw_mem 739 rfl⟩, _, _, _, rfl, lw_mem 741 rfl, lw_mem 24 rfl⟩
set_option maxRecDepth 100000 in
theorem cv_Mod_136 : CVM R_Mod 136 m_Mod_match ci_Mod 2 := ⟨⟨lw_mem 746 rfl, lw_mem 34 rfl, by decide, by decide +kernel, lw_mem 743 rfl⟩, _, _, _, rfl, lw_mem 745 rfl, lw_mem 25 rfl⟩
set_option maxRecDepth 100000 in
theorem cs_Mod_129 : CSS R_Mod 129 m_Mod_stands 2 := ⟨⟨lw_mem 749 rfl, lw_mem 34 rfl, by decide, by decide +kernel, lw_mem 747 rfl⟩, lw_mem 748 rfl⟩
set_option maxRecDepth 100000 in
theorem cv_Law_104 : CVM R_Law 104 m_Mod_end ci_Mod 0 := ⟨⟨lw_mem 753 rfl, lw_mem 34 rfl, by decide, by decide +kernel, lw_mem 750 rfl⟩, _, _, _, rfl, lw_mem 751 rfl, lw_mem 752 rfl⟩
