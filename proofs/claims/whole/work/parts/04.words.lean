theorem cl_0 : bs_CL 0 RX0 TX0 3 tyX0 := ⟨rfl, bs_in_of (goodIn_r (u_ws RX0 TX0 3) [194, 196, 198] (by decide +kernel) (by decide +kernel)) (by decide +kernel), tyX0_ok, nmX0⟩
theorem cl_1 : bs_CL 1 RX1 TX1 3 tyX1 := ⟨rfl, bs_in_of (goodIn_r (u_ws RX1 TX1 3) [81, 83, 85] (by decide +kernel) (by decide +kernel)) (by decide +kernel), tyX1_ok, nmX1⟩
theorem cl_2 : bs_CL 2 RX2 TX2 5 tyX2 := ⟨rfl, bs_in_of (goodIn_r (u_ws RX2 TX2 5) [177, 179, 181, 183, 185] (by decide +kernel) (by decide +kernel)) (by decide +kernel), tyX2_ok, nmX2⟩
theorem cl_3 : bs_CL 3 RX3 TX3 2 tyX3 := ⟨rfl, bs_in_of (goodIn_r (u_ws RX3 TX3 2) [214, 216] (by decide +kernel) (by decide +kernel)) (by decide +kernel), tyX3_ok, nmX3⟩
theorem cl_4 : bs_CL 4 RX4 TX4 6 tyX4 := ⟨rfl, bs_in_of (goodIn_r (u_ws RX4 TX4 6) [103, 105, 107, 109, 111, 113] (by decide +kernel) (by decide +kernel)) (by decide +kernel), tyX4_ok, nmX4⟩
theorem cl_5 : bs_CL 5 RX5 TX5 10 tyX5 := ⟨rfl, bs_in_of (goodIn_r (u_ws RX5 TX5 10) [126, 128, 130, 132, 134, 136, 138, 140, 142, 144] (by decide +kernel) (by decide +kernel)) (by decide +kernel), tyX5_ok, nmX5⟩
theorem cl_6 : bs_CL 6 RX6 TX6 24 tyX6 := ⟨rfl, bs_in_of (goodIn_r (u_ws RX6 TX6 24) [572, 574, 576, 578, 580, 582, 584, 586, 588, 590, 592, 594, 596, 598, 600, 602, 604, 606, 608, 610, 612, 614, 616, 618] (by decide +kernel) (by decide +kernel)) (by decide +kernel), tyX6_ok, nmX6⟩
def mX0_init : MI := (yX0_init, cX0_init, 5, none, 3)
def mX0_hasRange : MI := (yX0_hasRange, cX0_hasRange, 3, some .boolean, 2)
def mX0_freeViolation : MI := (yX0_freeViolation, cX0_freeViolation, 5, some .int, 2)
def mX0_firstCellAgainstFree : MI := (yX0_firstCellAgainstFree, cX0_firstCellAgainstFree, 4, some .int, 2)
def mX0_cellsAliveFor : MI := (yX0_cellsAliveFor, cX0_cellsAliveFor, 4, some .int, 1)
def mX0_mixedInto : MI := (yX0_mixedInto, cX0_mixedInto, 7, some .long, 2)
def mX1_init : MI := (yX1_init, cX1_init, 1, none, 0)
def mX1_enter : MI := (yX1_enter, cX1_enter, 1, some .boolean, 0)
def mX1_leave : MI := (yX1_leave, cX1_leave, 1, some .boolean, 0)
def mX1_innermost : MI := (yX1_innermost, cX1_innermost, 1, some .int, 0)
def mX1_isActive : MI := (yX1_isActive, cX1_isActive, 3, some .boolean, 1)
def mX2_init : MI := (yX2_init, cX2_init, 2, none, 1)
def mX2_hasItem : MI := (yX2_hasItem, cX2_hasItem, 2, some .boolean, 1)
def mX2_grantOfRead : MI := (yX2_grantOfRead, cX2_grantOfRead, 3, some .int, 1)
def mX2_grantOfWrite : MI := (yX2_grantOfWrite, cX2_grantOfWrite, 3, some .int, 1)
def mX2_keptByWrite : MI := (yX2_keptByWrite, cX2_keptByWrite, 4, some .int, 1)
def mX2_readViolation : MI := (yX2_readViolation, cX2_readViolation, 5, some .int, 2)
def mX2_writeViolation : MI := (yX2_writeViolation, cX2_writeViolation, 3, some .int, 2)
def mX2_freeViolation : MI := (yX2_freeViolation, cX2_freeViolation, 3, some .int, 2)
def mX2_reborrowViolation : MI := (yX2_reborrowViolation, cX2_reborrowViolation, 4, some .int, 3)
def mX2_hasProtectedFrom : MI := (yX2_hasProtectedFrom, cX2_hasProtectedFrom, 4, some .boolean, 2)
def mX2_hasRoomToReborrow : MI := (yX2_hasRoomToReborrow, cX2_hasRoomToReborrow, 4, some .boolean, 2)
def mX2_applyRead : MI := (yX2_applyRead, cX2_applyRead, 4, none, 1)
def mX2_applyWrite : MI := (yX2_applyWrite, cX2_applyWrite, 2, none, 1)
def mX2_applyReborrow : MI := (yX2_applyReborrow, cX2_applyReborrow, 5, none, 4)
def mX2_insertItem : MI := (yX2_insertItem, cX2_insertItem, 6, none, 4)
def mX2_mixedInto : MI := (yX2_mixedInto, cX2_mixedInto, 7, some .long, 2)
def mX3_init : MI := (yX3_init, cX3_init, 3, none, 2)
def mX4_init : MI := (yX4_init, cX4_init, 1, none, 0)
def mX4_addByte : MI := (yX4_addByte, cX4_addByte, 2, some .boolean, 1)
def mX4_letter : MI := (yX4_letter, cX4_letter, 2, some .int, 1)
def mX4_argument : MI := (yX4_argument, cX4_argument, 4, some .int, 2)
def mX4_parse : MI := (yX4_parse, cX4_parse, 3, some .int, 0)
def mX4_parseCommand : MI := (yX4_parseCommand, cX4_parseCommand, 4, some .boolean, 0)
def mX4_parseArgument : MI := (yX4_parseArgument, cX4_parseArgument, 3, some .boolean, 1)
def mX4_skipSpaces : MI := (yX4_skipSpaces, cX4_skipSpaces, 1, none, 0)
def mX4_byteHere : MI := (yX4_byteHere, cX4_byteHere, 1, some .int, 0)
def mX4_isDigitHere : MI := (yX4_isDigitHere, cX4_isDigitHere, 2, some .boolean, 0)
def mX4_argumentsOf : MI := (yX4_argumentsOf, cX4_argumentsOf, 1, some .int, 1)
def mX5_init : MI := (yX5_init, cX5_init, 1, none, 0)
def mX5_allocate : MI := (yX5_allocate, cX5_allocate, 2, some .int, 1)
def mX5_read : MI := (yX5_read, cX5_read, 3, some .int, 2)
def mX5_write : MI := (yX5_write, cX5_write, 4, some .int, 3)
def mX5_reborrow : MI := (yX5_reborrow, cX5_reborrow, 6, some .int, 5)
def mX5_free : MI := (yX5_free, cX5_free, 2, some .int, 1)
def mX5_enterCall : MI := (yX5_enterCall, cX5_enterCall, 1, some .int, 0)
def mX5_leaveCall : MI := (yX5_leaveCall, cX5_leaveCall, 1, some .int, 0)
def mX5_checkRead : MI := (yX5_checkRead, cX5_checkRead, 5, some .int, 2)
def mX5_checkWrite : MI := (yX5_checkWrite, cX5_checkWrite, 5, some .int, 2)
def mX5_checkFree : MI := (yX5_checkFree, cX5_checkFree, 3, some .int, 1)
def mX5_removedByWrite : MI := (yX5_removedByWrite, cX5_removedByWrite, 5, some .int, 2)
def mX5_stackSize : MI := (yX5_stackSize, cX5_stackSize, 4, some .int, 2)
def mX5_itemTag : MI := (yX5_itemTag, cX5_itemTag, 5, some .int, 3)
def mX5_itemPermission : MI := (yX5_itemPermission, cX5_itemPermission, 5, some .int, 3)
def mX5_itemProtected : MI := (yX5_itemProtected, cX5_itemProtected, 5, some .int, 3)
def mX5_allocationOf : MI := (yX5_allocationOf, cX5_allocationOf, 3, some .int, 1)
def mX5_parent : MI := (yX5_parent, cX5_parent, 3, some .int, 1)
def mX5_liveCells : MI := (yX5_liveCells, cX5_liveCells, 3, some .int, 1)
def mX5_isFreed : MI := (yX5_isFreed, cX5_isFreed, 3, some .int, 1)
def mX5_pointerCount : MI := (yX5_pointerCount, cX5_pointerCount, 1, some .int, 0)
def mX5_callDepth : MI := (yX5_callDepth, cX5_callDepth, 1, some .int, 0)
def mX5_violationCount : MI := (yX5_violationCount, cX5_violationCount, 1, some .int, 0)
def mX5_violationKind : MI := (yX5_violationKind, cX5_violationKind, 1, some .int, 0)
def mX5_violationCell : MI := (yX5_violationCell, cX5_violationCell, 1, some .int, 0)
def mX5_errorCount : MI := (yX5_errorCount, cX5_errorCount, 2, some .int, 1)
def mX5_append : MI := (yX5_append, cX5_append, 2, some .int, 1)
def mX5_clearText : MI := (yX5_clearText, cX5_clearText, 2, some .int, 0)
def mX5_runScript : MI := (yX5_runScript, cX5_runScript, 3, some .int, 0)
def mX5_digest : MI := (yX5_digest, cX5_digest, 5, some .long, 0)
def mX5_performAllocate : MI := (yX5_performAllocate, cX5_performAllocate, 3, some .int, 1)
def mX5_performRead : MI := (yX5_performRead, cX5_performRead, 6, some .int, 2)
def mX5_performWrite : MI := (yX5_performWrite, cX5_performWrite, 8, some .int, 3)
def mX5_performReborrow : MI := (yX5_performReborrow, cX5_performReborrow, 11, some .int, 5)
def mX5_performFree : MI := (yX5_performFree, cX5_performFree, 5, some .int, 1)
def mX5_performEnter : MI := (yX5_performEnter, cX5_performEnter, 1, some .int, 0)
def mX5_performLeave : MI := (yX5_performLeave, cX5_performLeave, 1, some .int, 0)
def mX5_performCommand : MI := (yX5_performCommand, cX5_performCommand, 5, some .int, 1)
def mX5_counted : MI := (yX5_counted, cX5_counted, 3, some .int, 1)
def mX5_violated : MI := (yX5_violated, cX5_violated, 3, some .int, 2)
def mX5_addPointer : MI := (yX5_addPointer, cX5_addPointer, 4, some .int, 2)
def mX5_pointerAt : MI := (yX5_pointerAt, cX5_pointerAt, 2, some (.object "BorrowStacks$Pointer"), 1)
def mX5_allocationAt : MI := (yX5_allocationAt, cX5_allocationAt, 2, some (.object "BorrowStacks$Allocation"), 1)
def mX5_cellAt : MI := (yX5_cellAt, cX5_cellAt, 4, some (.object "BorrowStacks$Cell"), 2)
def mX5_cellThrough : MI := (yX5_cellThrough, cX5_cellThrough, 2, some (.object "BorrowStacks$Cell"), 2)
def mX5_isFailure : MI := (yX5_isFailure, cX5_isFailure, 1, some .boolean, 1)
def mX5_asNumber : MI := (yX5_asNumber, cX5_asNumber, 1, some .int, 1)
def mX5_mixed : MI := (yX5_mixed, cX5_mixed, 4, some .long, 2)
def mX6_init : MI := (yX6_init, cX6_init, 1, none, 0)
def mX6_in : MI := (yX6_in, cX6_in, 3, some .boolean, 3)
def mX6_error : MI := (yX6_error, cX6_error, 2, some .int, 1)
def mX6_violate : MI := (yX6_violate, cX6_violate, 3, some .int, 2)
def mX6_isPointer : MI := (yX6_isPointer, cX6_isPointer, 2, some .boolean, 1)
def mX6_isCell : MI := (yX6_isCell, cX6_isCell, 3, some .boolean, 2)
def mX6_cellOf : MI := (yX6_cellOf, cX6_cellOf, 3, some .int, 2)
def mX6_granting : MI := (yX6_granting, cX6_granting, 7, some .int, 3)
def mX6_above : MI := (yX6_above, cX6_above, 4, some .int, 2)
def mX6_isGuarded : MI := (yX6_isGuarded, cX6_isGuarded, 7, some .boolean, 3)
def mX6_readKind : MI := (yX6_readKind, cX6_readKind, 5, some .int, 2)
def mX6_writeKind : MI := (yX6_writeKind, cX6_writeKind, 5, some .int, 2)
def mX6_rawKind : MI := (yX6_rawKind, cX6_rawKind, 3, some .int, 2)
def mX6_freeKind : MI := (yX6_freeKind, cX6_freeKind, 4, some .int, 2)
def mX6_doRead : MI := (yX6_doRead, cX6_doRead, 5, none, 2)
def mX6_doWrite : MI := (yX6_doWrite, cX6_doWrite, 4, none, 2)
def mX6_insert : MI := (yX6_insert, cX6_insert, 7, none, 5)
def mX6_newPointer : MI := (yX6_newPointer, cX6_newPointer, 3, some .int, 2)
def mX6_allocate : MI := (yX6_allocate, cX6_allocate, 5, some .int, 1)
def mX6_read : MI := (yX6_read, cX6_read, 4, some .int, 2)
def mX6_write : MI := (yX6_write, cX6_write, 7, some .int, 3)
def mX6_reborrowKind : MI := (yX6_reborrowKind, cX6_reborrowKind, 4, some .int, 3)
def mX6_sizeBy : MI := (yX6_sizeBy, cX6_sizeBy, 5, some .int, 3)
def mX6_put : MI := (yX6_put, cX6_put, 7, none, 4)
def mX6_reborrow : MI := (yX6_reborrow, cX6_reborrow, 8, some .int, 5)
def mX6_free : MI := (yX6_free, cX6_free, 5, some .int, 1)
def mX6_enterCall : MI := (yX6_enterCall, cX6_enterCall, 1, some .int, 0)
def mX6_leaveCall : MI := (yX6_leaveCall, cX6_leaveCall, 2, some .int, 0)
def mX6_checkRead : MI := (yX6_checkRead, cX6_checkRead, 3, some .int, 2)
def mX6_checkWrite : MI := (yX6_checkWrite, cX6_checkWrite, 3, some .int, 2)
def mX6_checkFree : MI := (yX6_checkFree, cX6_checkFree, 4, some .int, 1)
def mX6_removedByWrite : MI := (yX6_removedByWrite, cX6_removedByWrite, 4, some .int, 2)
def mX6_isAllocation : MI := (yX6_isAllocation, cX6_isAllocation, 2, some .boolean, 1)
def mX6_isCellOf : MI := (yX6_isCellOf, cX6_isCellOf, 3, some .boolean, 2)
def mX6_placeOf : MI := (yX6_placeOf, cX6_placeOf, 5, some .int, 3)
def mX6_stackSize : MI := (yX6_stackSize, cX6_stackSize, 3, some .int, 2)
def mX6_itemTag : MI := (yX6_itemTag, cX6_itemTag, 5, some .int, 3)
def mX6_itemPermission : MI := (yX6_itemPermission, cX6_itemPermission, 5, some .int, 3)
def mX6_itemProtected : MI := (yX6_itemProtected, cX6_itemProtected, 5, some .int, 3)
def mX6_allocationOf : MI := (yX6_allocationOf, cX6_allocationOf, 2, some .int, 1)
def mX6_parent : MI := (yX6_parent, cX6_parent, 2, some .int, 1)
def mX6_liveOf : MI := (yX6_liveOf, cX6_liveOf, 4, some .int, 1)
def mX6_liveCells : MI := (yX6_liveCells, cX6_liveCells, 2, some .int, 1)
def mX6_isFreed : MI := (yX6_isFreed, cX6_isFreed, 2, some .int, 1)
def mX6_pointerCount : MI := (yX6_pointerCount, cX6_pointerCount, 1, some .int, 0)
def mX6_callDepth : MI := (yX6_callDepth, cX6_callDepth, 1, some .int, 0)
def mX6_violationCount : MI := (yX6_violationCount, cX6_violationCount, 1, some .int, 0)
def mX6_violationKind : MI := (yX6_violationKind, cX6_violationKind, 1, some .int, 0)
def mX6_violationCell : MI := (yX6_violationCell, cX6_violationCell, 1, some .int, 0)
def mX6_errorCount : MI := (yX6_errorCount, cX6_errorCount, 2, some .int, 1)
def mX6_append : MI := (yX6_append, cX6_append, 2, some .int, 1)
def mX6_clearText : MI := (yX6_clearText, cX6_clearText, 2, some .int, 0)
def mX6_isAt : MI := (yX6_isAt, cX6_isAt, 3, some .boolean, 2)
def mX6_blanks : MI := (yX6_blanks, cX6_blanks, 1, none, 0)
def mX6_manyOf : MI := (yX6_manyOf, cX6_manyOf, 1, some .int, 1)
def mX6_takesNumber : MI := (yX6_takesNumber, cX6_takesNumber, 4, some .boolean, 1)
def mX6_takesCommand : MI := (yX6_takesCommand, cX6_takesCommand, 3, some .boolean, 0)
def mX6_isRead : MI := (yX6_isRead, cX6_isRead, 2, some .boolean, 0)
def mX6_execute : MI := (yX6_execute, cX6_execute, 5, some .int, 1)
def mX6_executeAll : MI := (yX6_executeAll, cX6_executeAll, 2, some .int, 0)
def mX6_runScript : MI := (yX6_runScript, cX6_runScript, 2, some .int, 0)
def mX6_mix : MI := (yX6_mix, cX6_mix, 3, none, 1)
def mX6_mixCell : MI := (yX6_mixCell, cX6_mixCell, 3, none, 1)
def mX6_digest : MI := (yX6_digest, cX6_digest, 3, some .long, 0)
abbrev mL_law : MI := (yL_law, code, 4, some .boolean, 1)
theorem kini_X0 : Cond.initialized RX0 ∈ lw_tbl := List.mem_of_getElem? (i := 56) (by decide +kernel)
theorem kini_X1 : Cond.initialized RX1 ∈ lw_tbl := List.mem_of_getElem? (i := 53) (by decide +kernel)
theorem kini_X2 : Cond.initialized RX2 ∈ lw_tbl := List.mem_of_getElem? (i := 57) (by decide +kernel)
theorem kini_X3 : Cond.initialized RX3 ∈ lw_tbl := List.mem_of_getElem? (i := 58) (by decide +kernel)
theorem kini_X4 : Cond.initialized RX4 ∈ lw_tbl := List.mem_of_getElem? (i := 54) (by decide +kernel)
theorem kini_X5 : Cond.initialized RX5 ∈ lw_tbl := List.mem_of_getElem? (i := 52) (by decide +kernel)
theorem kini_X6 : Cond.initialized RX6 ∈ lw_tbl := List.mem_of_getElem? (i := 55) (by decide +kernel)
theorem kini_L : Cond.initialized RL ∈ lw_tbl := List.mem_of_getElem? (i := 51) (by decide +kernel)
theorem kc_X0_init : Cond.code yX0_init mX0_init.2.1 mX0_init.2.2.1 mX0_init.2.2.2.1 ∈ lw_tbl := List.mem_of_getElem? (i := 158) (by decide +kernel)
theorem ko_X0_init : bs_MC mX0_init := ⟨kc_X0_init, kini_X0, List.mem_of_getElem? (i := 157) (by decide +kernel), ⟨by decide +kernel, by decide +kernel, by decide +kernel⟩, ⟨rfl, rfl⟩, by decide⟩
theorem kc_X0_hasRange : Cond.code yX0_hasRange mX0_hasRange.2.1 mX0_hasRange.2.2.1 mX0_hasRange.2.2.2.1 ∈ lw_tbl := List.mem_of_getElem? (i := 241) (by decide +kernel)
theorem ko_X0_hasRange : bs_MV mX0_hasRange 0 := ⟨kc_X0_hasRange, kini_X0, List.mem_of_getElem? (i := 239) (by decide +kernel), List.mem_of_getElem? (i := 240) (by decide +kernel), ⟨by decide +kernel, by decide +kernel, by decide +kernel⟩, by decide, rfl⟩
theorem kc_X0_freeViolation : Cond.code yX0_freeViolation mX0_freeViolation.2.1 mX0_freeViolation.2.2.1 mX0_freeViolation.2.2.2.1 ∈ lw_tbl := List.mem_of_getElem? (i := 333) (by decide +kernel)
theorem ko_X0_freeViolation : bs_MV mX0_freeViolation 0 := ⟨kc_X0_freeViolation, kini_X0, List.mem_of_getElem? (i := 331) (by decide +kernel), List.mem_of_getElem? (i := 332) (by decide +kernel), ⟨by decide +kernel, by decide +kernel, by decide +kernel⟩, by decide, rfl⟩
theorem kc_X0_firstCellAgainstFree : Cond.code yX0_firstCellAgainstFree mX0_firstCellAgainstFree.2.1 mX0_firstCellAgainstFree.2.2.1 mX0_firstCellAgainstFree.2.2.2.1 ∈ lw_tbl := List.mem_of_getElem? (i := 341) (by decide +kernel)
theorem ko_X0_firstCellAgainstFree : bs_MV mX0_firstCellAgainstFree 0 := ⟨kc_X0_firstCellAgainstFree, kini_X0, List.mem_of_getElem? (i := 339) (by decide +kernel), List.mem_of_getElem? (i := 340) (by decide +kernel), ⟨by decide +kernel, by decide +kernel, by decide +kernel⟩, by decide, rfl⟩
theorem kc_X0_cellsAliveFor : Cond.code yX0_cellsAliveFor mX0_cellsAliveFor.2.1 mX0_cellsAliveFor.2.2.1 mX0_cellsAliveFor.2.2.2.1 ∈ lw_tbl := List.mem_of_getElem? (i := 430) (by decide +kernel)
theorem ko_X0_cellsAliveFor : bs_MV mX0_cellsAliveFor 0 := ⟨kc_X0_cellsAliveFor, kini_X0, List.mem_of_getElem? (i := 428) (by decide +kernel), List.mem_of_getElem? (i := 429) (by decide +kernel), ⟨by decide +kernel, by decide +kernel, by decide +kernel⟩, by decide, rfl⟩
theorem kc_X0_mixedInto : Cond.code yX0_mixedInto mX0_mixedInto.2.1 mX0_mixedInto.2.2.1 mX0_mixedInto.2.2.2.1 ∈ lw_tbl := List.mem_of_getElem? (i := 530) (by decide +kernel)
theorem ko_X0_mixedInto : bs_MV mX0_mixedInto 0 := ⟨kc_X0_mixedInto, kini_X0, List.mem_of_getElem? (i := 528) (by decide +kernel), List.mem_of_getElem? (i := 529) (by decide +kernel), ⟨by decide +kernel, by decide +kernel, by decide +kernel⟩, by decide, rfl⟩
theorem kc_X1_init : Cond.code yX1_init mX1_init.2.1 mX1_init.2.2.1 mX1_init.2.2.2.1 ∈ lw_tbl := List.mem_of_getElem? (i := 75) (by decide +kernel)
theorem ko_X1_init : bs_MC mX1_init := ⟨kc_X1_init, kini_X1, List.mem_of_getElem? (i := 74) (by decide +kernel), ⟨by decide +kernel, by decide +kernel, by decide +kernel⟩, ⟨rfl, rfl⟩, by decide⟩
theorem kc_X1_enter : Cond.code yX1_enter mX1_enter.2.1 mX1_enter.2.2.1 mX1_enter.2.2.2.1 ∈ lw_tbl := List.mem_of_getElem? (i := 353) (by decide +kernel)
theorem ko_X1_enter : bs_MV mX1_enter 1 := ⟨kc_X1_enter, kini_X1, List.mem_of_getElem? (i := 351) (by decide +kernel), List.mem_of_getElem? (i := 352) (by decide +kernel), ⟨by decide +kernel, by decide +kernel, by decide +kernel⟩, by decide, rfl⟩
theorem kc_X1_leave : Cond.code yX1_leave mX1_leave.2.1 mX1_leave.2.2.1 mX1_leave.2.2.2.1 ∈ lw_tbl := List.mem_of_getElem? (i := 365) (by decide +kernel)
theorem ko_X1_leave : bs_MV mX1_leave 1 := ⟨kc_X1_leave, kini_X1, List.mem_of_getElem? (i := 363) (by decide +kernel), List.mem_of_getElem? (i := 364) (by decide +kernel), ⟨by decide +kernel, by decide +kernel, by decide +kernel⟩, by decide, rfl⟩
theorem kc_X1_innermost : Cond.code yX1_innermost mX1_innermost.2.1 mX1_innermost.2.2.1 mX1_innermost.2.2.2.1 ∈ lw_tbl := List.mem_of_getElem? (i := 311) (by decide +kernel)
theorem ko_X1_innermost : bs_MV mX1_innermost 1 := ⟨kc_X1_innermost, kini_X1, List.mem_of_getElem? (i := 309) (by decide +kernel), List.mem_of_getElem? (i := 310) (by decide +kernel), ⟨by decide +kernel, by decide +kernel, by decide +kernel⟩, by decide, rfl⟩
theorem kc_X1_isActive : Cond.code yX1_isActive mX1_isActive.2.1 mX1_isActive.2.2.1 mX1_isActive.2.2.2.1 ∈ lw_tbl := List.mem_of_getElem? (i := 257) (by decide +kernel)
theorem ko_X1_isActive : bs_MV mX1_isActive 1 := ⟨kc_X1_isActive, kini_X1, List.mem_of_getElem? (i := 255) (by decide +kernel), List.mem_of_getElem? (i := 256) (by decide +kernel), ⟨by decide +kernel, by decide +kernel, by decide +kernel⟩, by decide, rfl⟩
theorem kc_X2_init : Cond.code yX2_init mX2_init.2.1 mX2_init.2.2.1 mX2_init.2.2.2.1 ∈ lw_tbl := List.mem_of_getElem? (i := 165) (by decide +kernel)
theorem ko_X2_init : bs_MC mX2_init := ⟨kc_X2_init, kini_X2, List.mem_of_getElem? (i := 164) (by decide +kernel), ⟨by decide +kernel, by decide +kernel, by decide +kernel⟩, ⟨rfl, rfl⟩, by decide⟩
theorem kc_X2_hasItem : Cond.code yX2_hasItem mX2_hasItem.2.1 mX2_hasItem.2.2.1 mX2_hasItem.2.2.2.1 ∈ lw_tbl := List.mem_of_getElem? (i := 402) (by decide +kernel)
theorem ko_X2_hasItem : bs_MV mX2_hasItem 2 := ⟨kc_X2_hasItem, kini_X2, List.mem_of_getElem? (i := 400) (by decide +kernel), List.mem_of_getElem? (i := 401) (by decide +kernel), ⟨by decide +kernel, by decide +kernel, by decide +kernel⟩, by decide, rfl⟩
theorem kc_X2_grantOfRead : Cond.code yX2_grantOfRead mX2_grantOfRead.2.1 mX2_grantOfRead.2.2.1 mX2_grantOfRead.2.2.2.1 ∈ lw_tbl := List.mem_of_getElem? (i := 253) (by decide +kernel)
theorem ko_X2_grantOfRead : bs_MV mX2_grantOfRead 2 := ⟨kc_X2_grantOfRead, kini_X2, List.mem_of_getElem? (i := 251) (by decide +kernel), List.mem_of_getElem? (i := 252) (by decide +kernel), ⟨by decide +kernel, by decide +kernel, by decide +kernel⟩, by decide, rfl⟩
theorem kc_X2_grantOfWrite : Cond.code yX2_grantOfWrite mX2_grantOfWrite.2.1 mX2_grantOfWrite.2.2.1 mX2_grantOfWrite.2.2.2.1 ∈ lw_tbl := List.mem_of_getElem? (i := 277) (by decide +kernel)
theorem ko_X2_grantOfWrite : bs_MV mX2_grantOfWrite 2 := ⟨kc_X2_grantOfWrite, kini_X2, List.mem_of_getElem? (i := 275) (by decide +kernel), List.mem_of_getElem? (i := 276) (by decide +kernel), ⟨by decide +kernel, by decide +kernel, by decide +kernel⟩, by decide, rfl⟩
theorem kc_X2_keptByWrite : Cond.code yX2_keptByWrite mX2_keptByWrite.2.1 mX2_keptByWrite.2.2.1 mX2_keptByWrite.2.2.2.1 ∈ lw_tbl := List.mem_of_getElem? (i := 281) (by decide +kernel)
theorem ko_X2_keptByWrite : bs_MV mX2_keptByWrite 2 := ⟨kc_X2_keptByWrite, kini_X2, List.mem_of_getElem? (i := 279) (by decide +kernel), List.mem_of_getElem? (i := 280) (by decide +kernel), ⟨by decide +kernel, by decide +kernel, by decide +kernel⟩, by decide, rfl⟩
theorem kc_X2_readViolation : Cond.code yX2_readViolation mX2_readViolation.2.1 mX2_readViolation.2.2.1 mX2_readViolation.2.2.2.1 ∈ lw_tbl := List.mem_of_getElem? (i := 249) (by decide +kernel)
theorem ko_X2_readViolation : bs_MV mX2_readViolation 2 := ⟨kc_X2_readViolation, kini_X2, List.mem_of_getElem? (i := 247) (by decide +kernel), List.mem_of_getElem? (i := 248) (by decide +kernel), ⟨by decide +kernel, by decide +kernel, by decide +kernel⟩, by decide, rfl⟩
theorem kc_X2_writeViolation : Cond.code yX2_writeViolation mX2_writeViolation.2.1 mX2_writeViolation.2.2.1 mX2_writeViolation.2.2.2.1 ∈ lw_tbl := List.mem_of_getElem? (i := 273) (by decide +kernel)
theorem ko_X2_writeViolation : bs_MV mX2_writeViolation 2 := ⟨kc_X2_writeViolation, kini_X2, List.mem_of_getElem? (i := 271) (by decide +kernel), List.mem_of_getElem? (i := 272) (by decide +kernel), ⟨by decide +kernel, by decide +kernel, by decide +kernel⟩, by decide, rfl⟩
theorem kc_X2_freeViolation : Cond.code yX2_freeViolation mX2_freeViolation.2.1 mX2_freeViolation.2.2.1 mX2_freeViolation.2.2.2.1 ∈ lw_tbl := List.mem_of_getElem? (i := 337) (by decide +kernel)
theorem ko_X2_freeViolation : bs_MV mX2_freeViolation 2 := ⟨kc_X2_freeViolation, kini_X2, List.mem_of_getElem? (i := 335) (by decide +kernel), List.mem_of_getElem? (i := 336) (by decide +kernel), ⟨by decide +kernel, by decide +kernel, by decide +kernel⟩, by decide, rfl⟩
theorem kc_X2_reborrowViolation : Cond.code yX2_reborrowViolation mX2_reborrowViolation.2.1 mX2_reborrowViolation.2.2.1 mX2_reborrowViolation.2.2.2.1 ∈ lw_tbl := List.mem_of_getElem? (i := 301) (by decide +kernel)
theorem ko_X2_reborrowViolation : bs_MV mX2_reborrowViolation 2 := ⟨kc_X2_reborrowViolation, kini_X2, List.mem_of_getElem? (i := 299) (by decide +kernel), List.mem_of_getElem? (i := 300) (by decide +kernel), ⟨by decide +kernel, by decide +kernel, by decide +kernel⟩, by decide, rfl⟩
theorem kc_X2_hasProtectedFrom : Cond.code yX2_hasProtectedFrom mX2_hasProtectedFrom.2.1 mX2_hasProtectedFrom.2.2.1 mX2_hasProtectedFrom.2.2.2.1 ∈ lw_tbl := List.mem_of_getElem? (i := 285) (by decide +kernel)
theorem ko_X2_hasProtectedFrom : bs_MV mX2_hasProtectedFrom 2 := ⟨kc_X2_hasProtectedFrom, kini_X2, List.mem_of_getElem? (i := 283) (by decide +kernel), List.mem_of_getElem? (i := 284) (by decide +kernel), ⟨by decide +kernel, by decide +kernel, by decide +kernel⟩, by decide, rfl⟩
theorem kc_X2_hasRoomToReborrow : Cond.code yX2_hasRoomToReborrow mX2_hasRoomToReborrow.2.1 mX2_hasRoomToReborrow.2.2.1 mX2_hasRoomToReborrow.2.2.2.1 ∈ lw_tbl := List.mem_of_getElem? (i := 307) (by decide +kernel)
theorem ko_X2_hasRoomToReborrow : bs_MV mX2_hasRoomToReborrow 2 := ⟨kc_X2_hasRoomToReborrow, kini_X2, List.mem_of_getElem? (i := 305) (by decide +kernel), List.mem_of_getElem? (i := 306) (by decide +kernel), ⟨by decide +kernel, by decide +kernel, by decide +kernel⟩, by decide, rfl⟩
theorem kc_X2_applyRead : Cond.code yX2_applyRead mX2_applyRead.2.1 mX2_applyRead.2.2.1 mX2_applyRead.2.2.2.1 ∈ lw_tbl := List.mem_of_getElem? (i := 261) (by decide +kernel)
theorem ko_X2_applyRead : bs_MV mX2_applyRead 2 := ⟨kc_X2_applyRead, kini_X2, List.mem_of_getElem? (i := 259) (by decide +kernel), List.mem_of_getElem? (i := 260) (by decide +kernel), ⟨by decide +kernel, by decide +kernel, by decide +kernel⟩, by decide, rfl⟩
theorem kc_X2_applyWrite : Cond.code yX2_applyWrite mX2_applyWrite.2.1 mX2_applyWrite.2.2.1 mX2_applyWrite.2.2.2.1 ∈ lw_tbl := List.mem_of_getElem? (i := 289) (by decide +kernel)
theorem ko_X2_applyWrite : bs_MV mX2_applyWrite 2 := ⟨kc_X2_applyWrite, kini_X2, List.mem_of_getElem? (i := 287) (by decide +kernel), List.mem_of_getElem? (i := 288) (by decide +kernel), ⟨by decide +kernel, by decide +kernel, by decide +kernel⟩, by decide, rfl⟩
theorem kc_X2_applyReborrow : Cond.code yX2_applyReborrow mX2_applyReborrow.2.1 mX2_applyReborrow.2.2.1 mX2_applyReborrow.2.2.2.1 ∈ lw_tbl := List.mem_of_getElem? (i := 315) (by decide +kernel)
theorem ko_X2_applyReborrow : bs_MV mX2_applyReborrow 2 := ⟨kc_X2_applyReborrow, kini_X2, List.mem_of_getElem? (i := 313) (by decide +kernel), List.mem_of_getElem? (i := 314) (by decide +kernel), ⟨by decide +kernel, by decide +kernel, by decide +kernel⟩, by decide, rfl⟩
theorem kc_X2_insertItem : Cond.code yX2_insertItem mX2_insertItem.2.1 mX2_insertItem.2.2.1 mX2_insertItem.2.2.2.1 ∈ lw_tbl := List.mem_of_getElem? (i := 320) (by decide +kernel)
theorem ko_X2_insertItem : bs_MV mX2_insertItem 2 := ⟨kc_X2_insertItem, kini_X2, List.mem_of_getElem? (i := 318) (by decide +kernel), List.mem_of_getElem? (i := 319) (by decide +kernel), ⟨by decide +kernel, by decide +kernel, by decide +kernel⟩, by decide, rfl⟩
theorem kc_X2_mixedInto : Cond.code yX2_mixedInto mX2_mixedInto.2.1 mX2_mixedInto.2.2.1 mX2_mixedInto.2.2.2.1 ∈ lw_tbl := List.mem_of_getElem? (i := 536) (by decide +kernel)
theorem ko_X2_mixedInto : bs_MV mX2_mixedInto 2 := ⟨kc_X2_mixedInto, kini_X2, List.mem_of_getElem? (i := 534) (by decide +kernel), List.mem_of_getElem? (i := 535) (by decide +kernel), ⟨by decide +kernel, by decide +kernel, by decide +kernel⟩, by decide, rfl⟩
theorem kc_X3_init : Cond.code yX3_init mX3_init.2.1 mX3_init.2.2.1 mX3_init.2.2.2.1 ∈ lw_tbl := List.mem_of_getElem? (i := 208) (by decide +kernel)
theorem ko_X3_init : bs_MC mX3_init := ⟨kc_X3_init, kini_X3, List.mem_of_getElem? (i := 207) (by decide +kernel), ⟨by decide +kernel, by decide +kernel, by decide +kernel⟩, ⟨rfl, rfl⟩, by decide⟩
theorem kc_X4_init : Cond.code yX4_init mX4_init.2.1 mX4_init.2.2.1 mX4_init.2.2.2.1 ∈ lw_tbl := List.mem_of_getElem? (i := 93) (by decide +kernel)
theorem ko_X4_init : bs_MC mX4_init := ⟨kc_X4_init, kini_X4, List.mem_of_getElem? (i := 92) (by decide +kernel), ⟨by decide +kernel, by decide +kernel, by decide +kernel⟩, ⟨rfl, rfl⟩, by decide⟩
theorem kc_X4_addByte : Cond.code yX4_addByte mX4_addByte.2.1 mX4_addByte.2.2.1 mX4_addByte.2.2.2.1 ∈ lw_tbl := List.mem_of_getElem? (i := 467) (by decide +kernel)
theorem ko_X4_addByte : bs_MV mX4_addByte 4 := ⟨kc_X4_addByte, kini_X4, List.mem_of_getElem? (i := 465) (by decide +kernel), List.mem_of_getElem? (i := 466) (by decide +kernel), ⟨by decide +kernel, by decide +kernel, by decide +kernel⟩, by decide, rfl⟩
theorem kc_X4_letter : Cond.code yX4_letter mX4_letter.2.1 mX4_letter.2.2.1 mX4_letter.2.2.2.1 ∈ lw_tbl := List.mem_of_getElem? (i := 514) (by decide +kernel)
theorem ko_X4_letter : bs_MV mX4_letter 4 := ⟨kc_X4_letter, kini_X4, List.mem_of_getElem? (i := 512) (by decide +kernel), List.mem_of_getElem? (i := 513) (by decide +kernel), ⟨by decide +kernel, by decide +kernel, by decide +kernel⟩, by decide, rfl⟩
theorem kc_X4_argument : Cond.code yX4_argument mX4_argument.2.1 mX4_argument.2.2.1 mX4_argument.2.2.2.1 ∈ lw_tbl := List.mem_of_getElem? (i := 510) (by decide +kernel)
theorem ko_X4_argument : bs_MV mX4_argument 4 := ⟨kc_X4_argument, kini_X4, List.mem_of_getElem? (i := 508) (by decide +kernel), List.mem_of_getElem? (i := 509) (by decide +kernel), ⟨by decide +kernel, by decide +kernel, by decide +kernel⟩, by decide, rfl⟩
theorem kc_X4_parse : Cond.code yX4_parse mX4_parse.2.1 mX4_parse.2.2.1 mX4_parse.2.2.2.1 ∈ lw_tbl := List.mem_of_getElem? (i := 479) (by decide +kernel)
theorem ko_X4_parse : bs_MV mX4_parse 4 := ⟨kc_X4_parse, kini_X4, List.mem_of_getElem? (i := 477) (by decide +kernel), List.mem_of_getElem? (i := 478) (by decide +kernel), ⟨by decide +kernel, by decide +kernel, by decide +kernel⟩, by decide, rfl⟩
theorem kc_X4_parseCommand : Cond.code yX4_parseCommand mX4_parseCommand.2.1 mX4_parseCommand.2.2.1 mX4_parseCommand.2.2.2.1 ∈ lw_tbl := List.mem_of_getElem? (i := 487) (by decide +kernel)
theorem ko_X4_parseCommand : bs_MV mX4_parseCommand 4 := ⟨kc_X4_parseCommand, kini_X4, List.mem_of_getElem? (i := 486) (by decide +kernel), List.mem_of_getElem? (i := 14) (by decide +kernel), ⟨by decide +kernel, by decide +kernel, by decide +kernel⟩, by decide, rfl⟩
theorem kc_X4_parseArgument : Cond.code yX4_parseArgument mX4_parseArgument.2.1 mX4_parseArgument.2.2.1 mX4_parseArgument.2.2.2.1 ∈ lw_tbl := List.mem_of_getElem? (i := 498) (by decide +kernel)
theorem ko_X4_parseArgument : bs_MV mX4_parseArgument 4 := ⟨kc_X4_parseArgument, kini_X4, List.mem_of_getElem? (i := 497) (by decide +kernel), List.mem_of_getElem? (i := 16) (by decide +kernel), ⟨by decide +kernel, by decide +kernel, by decide +kernel⟩, by decide, rfl⟩
theorem kc_X4_skipSpaces : Cond.code yX4_skipSpaces mX4_skipSpaces.2.1 mX4_skipSpaces.2.2.1 mX4_skipSpaces.2.2.2.1 ∈ lw_tbl := List.mem_of_getElem? (i := 483) (by decide +kernel)
theorem ko_X4_skipSpaces : bs_MV mX4_skipSpaces 4 := ⟨kc_X4_skipSpaces, kini_X4, List.mem_of_getElem? (i := 482) (by decide +kernel), List.mem_of_getElem? (i := 13) (by decide +kernel), ⟨by decide +kernel, by decide +kernel, by decide +kernel⟩, by decide, rfl⟩
theorem kc_X4_byteHere : Cond.code yX4_byteHere mX4_byteHere.2.1 mX4_byteHere.2.2.1 mX4_byteHere.2.2.2.1 ∈ lw_tbl := List.mem_of_getElem? (i := 491) (by decide +kernel)
theorem ko_X4_byteHere : bs_MV mX4_byteHere 4 := ⟨kc_X4_byteHere, kini_X4, List.mem_of_getElem? (i := 490) (by decide +kernel), List.mem_of_getElem? (i := 15) (by decide +kernel), ⟨by decide +kernel, by decide +kernel, by decide +kernel⟩, by decide, rfl⟩
theorem kc_X4_isDigitHere : Cond.code yX4_isDigitHere mX4_isDigitHere.2.1 mX4_isDigitHere.2.2.1 mX4_isDigitHere.2.2.2.1 ∈ lw_tbl := List.mem_of_getElem? (i := 502) (by decide +kernel)
theorem ko_X4_isDigitHere : bs_MV mX4_isDigitHere 4 := ⟨kc_X4_isDigitHere, kini_X4, List.mem_of_getElem? (i := 501) (by decide +kernel), List.mem_of_getElem? (i := 17) (by decide +kernel), ⟨by decide +kernel, by decide +kernel, by decide +kernel⟩, by decide, rfl⟩
theorem kc_X4_argumentsOf : Cond.code yX4_argumentsOf mX4_argumentsOf.2.1 mX4_argumentsOf.2.2.1 mX4_argumentsOf.2.2.2.1 ∈ lw_tbl := List.mem_of_getElem? (i := 494) (by decide +kernel)
theorem ko_X4_argumentsOf : bs_MS mX4_argumentsOf := ⟨kc_X4_argumentsOf, kini_X4, List.mem_of_getElem? (i := 493) (by decide +kernel), ⟨by decide +kernel, by decide +kernel, by decide +kernel⟩, by decide⟩
theorem kc_X5_init : Cond.code yX5_init mX5_init.2.1 mX5_init.2.2.1 mX5_init.2.2.2.1 ∈ lw_tbl := List.mem_of_getElem? (i := 63) (by decide +kernel)
theorem ko_X5_init : bs_MC mX5_init := ⟨kc_X5_init, kini_X5, List.mem_of_getElem? (i := 62) (by decide +kernel), ⟨by decide +kernel, by decide +kernel, by decide +kernel⟩, ⟨rfl, rfl⟩, by decide⟩
theorem kc_X5_allocate : Cond.code yX5_allocate mX5_allocate.2.1 mX5_allocate.2.2.1 mX5_allocate.2.2.2.1 ∈ lw_tbl := List.mem_of_getElem? (i := 150) (by decide +kernel)
theorem ko_X5_allocate : bs_MV mX5_allocate 5 := ⟨kc_X5_allocate, kini_X5, List.mem_of_getElem? (i := 148) (by decide +kernel), List.mem_of_getElem? (i := 149) (by decide +kernel), ⟨by decide +kernel, by decide +kernel, by decide +kernel⟩, by decide, rfl⟩
theorem kc_X5_read : Cond.code yX5_read mX5_read.2.1 mX5_read.2.2.1 mX5_read.2.2.2.1 ∈ lw_tbl := List.mem_of_getElem? (i := 226) (by decide +kernel)
theorem ko_X5_read : bs_MV mX5_read 5 := ⟨kc_X5_read, kini_X5, List.mem_of_getElem? (i := 224) (by decide +kernel), List.mem_of_getElem? (i := 225) (by decide +kernel), ⟨by decide +kernel, by decide +kernel, by decide +kernel⟩, by decide, rfl⟩
theorem kc_X5_write : Cond.code yX5_write mX5_write.2.1 mX5_write.2.2.1 mX5_write.2.2.2.1 ∈ lw_tbl := List.mem_of_getElem? (i := 265) (by decide +kernel)
theorem ko_X5_write : bs_MV mX5_write 5 := ⟨kc_X5_write, kini_X5, List.mem_of_getElem? (i := 263) (by decide +kernel), List.mem_of_getElem? (i := 264) (by decide +kernel), ⟨by decide +kernel, by decide +kernel, by decide +kernel⟩, by decide, rfl⟩
theorem kc_X5_reborrow : Cond.code yX5_reborrow mX5_reborrow.2.1 mX5_reborrow.2.2.1 mX5_reborrow.2.2.2.1 ∈ lw_tbl := List.mem_of_getElem? (i := 293) (by decide +kernel)
theorem ko_X5_reborrow : bs_MV mX5_reborrow 5 := ⟨kc_X5_reborrow, kini_X5, List.mem_of_getElem? (i := 291) (by decide +kernel), List.mem_of_getElem? (i := 292) (by decide +kernel), ⟨by decide +kernel, by decide +kernel, by decide +kernel⟩, by decide, rfl⟩
theorem kc_X5_free : Cond.code yX5_free mX5_free.2.1 mX5_free.2.2.1 mX5_free.2.2.2.1 ∈ lw_tbl := List.mem_of_getElem? (i := 325) (by decide +kernel)
theorem ko_X5_free : bs_MV mX5_free 5 := ⟨kc_X5_free, kini_X5, List.mem_of_getElem? (i := 323) (by decide +kernel), List.mem_of_getElem? (i := 324) (by decide +kernel), ⟨by decide +kernel, by decide +kernel, by decide +kernel⟩, by decide, rfl⟩
theorem kc_X5_enterCall : Cond.code yX5_enterCall mX5_enterCall.2.1 mX5_enterCall.2.2.1 mX5_enterCall.2.2.2.1 ∈ lw_tbl := List.mem_of_getElem? (i := 345) (by decide +kernel)
theorem ko_X5_enterCall : bs_MV mX5_enterCall 5 := ⟨kc_X5_enterCall, kini_X5, List.mem_of_getElem? (i := 343) (by decide +kernel), List.mem_of_getElem? (i := 344) (by decide +kernel), ⟨by decide +kernel, by decide +kernel, by decide +kernel⟩, by decide, rfl⟩
theorem kc_X5_leaveCall : Cond.code yX5_leaveCall mX5_leaveCall.2.1 mX5_leaveCall.2.2.1 mX5_leaveCall.2.2.2.1 ∈ lw_tbl := List.mem_of_getElem? (i := 357) (by decide +kernel)
theorem ko_X5_leaveCall : bs_MV mX5_leaveCall 5 := ⟨kc_X5_leaveCall, kini_X5, List.mem_of_getElem? (i := 355) (by decide +kernel), List.mem_of_getElem? (i := 356) (by decide +kernel), ⟨by decide +kernel, by decide +kernel, by decide +kernel⟩, by decide, rfl⟩
theorem kc_X5_checkRead : Cond.code yX5_checkRead mX5_checkRead.2.1 mX5_checkRead.2.2.1 mX5_checkRead.2.2.2.1 ∈ lw_tbl := List.mem_of_getElem? (i := 369) (by decide +kernel)
theorem ko_X5_checkRead : bs_MV mX5_checkRead 5 := ⟨kc_X5_checkRead, kini_X5, List.mem_of_getElem? (i := 367) (by decide +kernel), List.mem_of_getElem? (i := 368) (by decide +kernel), ⟨by decide +kernel, by decide +kernel, by decide +kernel⟩, by decide, rfl⟩
theorem kc_X5_checkWrite : Cond.code yX5_checkWrite mX5_checkWrite.2.1 mX5_checkWrite.2.2.1 mX5_checkWrite.2.2.2.1 ∈ lw_tbl := List.mem_of_getElem? (i := 373) (by decide +kernel)
theorem ko_X5_checkWrite : bs_MV mX5_checkWrite 5 := ⟨kc_X5_checkWrite, kini_X5, List.mem_of_getElem? (i := 371) (by decide +kernel), List.mem_of_getElem? (i := 372) (by decide +kernel), ⟨by decide +kernel, by decide +kernel, by decide +kernel⟩, by decide, rfl⟩
theorem kc_X5_checkFree : Cond.code yX5_checkFree mX5_checkFree.2.1 mX5_checkFree.2.2.1 mX5_checkFree.2.2.2.1 ∈ lw_tbl := List.mem_of_getElem? (i := 377) (by decide +kernel)
theorem ko_X5_checkFree : bs_MV mX5_checkFree 5 := ⟨kc_X5_checkFree, kini_X5, List.mem_of_getElem? (i := 375) (by decide +kernel), List.mem_of_getElem? (i := 376) (by decide +kernel), ⟨by decide +kernel, by decide +kernel, by decide +kernel⟩, by decide, rfl⟩
theorem kc_X5_removedByWrite : Cond.code yX5_removedByWrite mX5_removedByWrite.2.1 mX5_removedByWrite.2.2.1 mX5_removedByWrite.2.2.2.1 ∈ lw_tbl := List.mem_of_getElem? (i := 381) (by decide +kernel)
theorem ko_X5_removedByWrite : bs_MV mX5_removedByWrite 5 := ⟨kc_X5_removedByWrite, kini_X5, List.mem_of_getElem? (i := 379) (by decide +kernel), List.mem_of_getElem? (i := 380) (by decide +kernel), ⟨by decide +kernel, by decide +kernel, by decide +kernel⟩, by decide, rfl⟩
theorem kc_X5_stackSize : Cond.code yX5_stackSize mX5_stackSize.2.1 mX5_stackSize.2.2.1 mX5_stackSize.2.2.2.1 ∈ lw_tbl := List.mem_of_getElem? (i := 386) (by decide +kernel)
theorem ko_X5_stackSize : bs_MV mX5_stackSize 5 := ⟨kc_X5_stackSize, kini_X5, List.mem_of_getElem? (i := 384) (by decide +kernel), List.mem_of_getElem? (i := 385) (by decide +kernel), ⟨by decide +kernel, by decide +kernel, by decide +kernel⟩, by decide, rfl⟩
theorem kc_X5_itemTag : Cond.code yX5_itemTag mX5_itemTag.2.1 mX5_itemTag.2.2.1 mX5_itemTag.2.2.2.1 ∈ lw_tbl := List.mem_of_getElem? (i := 398) (by decide +kernel)
theorem ko_X5_itemTag : bs_MV mX5_itemTag 5 := ⟨kc_X5_itemTag, kini_X5, List.mem_of_getElem? (i := 396) (by decide +kernel), List.mem_of_getElem? (i := 397) (by decide +kernel), ⟨by decide +kernel, by decide +kernel, by decide +kernel⟩, by decide, rfl⟩
theorem kc_X5_itemPermission : Cond.code yX5_itemPermission mX5_itemPermission.2.1 mX5_itemPermission.2.2.1 mX5_itemPermission.2.2.2.1 ∈ lw_tbl := List.mem_of_getElem? (i := 406) (by decide +kernel)
theorem ko_X5_itemPermission : bs_MV mX5_itemPermission 5 := ⟨kc_X5_itemPermission, kini_X5, List.mem_of_getElem? (i := 404) (by decide +kernel), List.mem_of_getElem? (i := 405) (by decide +kernel), ⟨by decide +kernel, by decide +kernel, by decide +kernel⟩, by decide, rfl⟩
theorem kc_X5_itemProtected : Cond.code yX5_itemProtected mX5_itemProtected.2.1 mX5_itemProtected.2.2.1 mX5_itemProtected.2.2.2.1 ∈ lw_tbl := List.mem_of_getElem? (i := 410) (by decide +kernel)
theorem ko_X5_itemProtected : bs_MV mX5_itemProtected 5 := ⟨kc_X5_itemProtected, kini_X5, List.mem_of_getElem? (i := 408) (by decide +kernel), List.mem_of_getElem? (i := 409) (by decide +kernel), ⟨by decide +kernel, by decide +kernel, by decide +kernel⟩, by decide, rfl⟩
theorem kc_X5_allocationOf : Cond.code yX5_allocationOf mX5_allocationOf.2.1 mX5_allocationOf.2.2.1 mX5_allocationOf.2.2.2.1 ∈ lw_tbl := List.mem_of_getElem? (i := 418) (by decide +kernel)
theorem ko_X5_allocationOf : bs_MV mX5_allocationOf 5 := ⟨kc_X5_allocationOf, kini_X5, List.mem_of_getElem? (i := 416) (by decide +kernel), List.mem_of_getElem? (i := 417) (by decide +kernel), ⟨by decide +kernel, by decide +kernel, by decide +kernel⟩, by decide, rfl⟩
theorem kc_X5_parent : Cond.code yX5_parent mX5_parent.2.1 mX5_parent.2.2.1 mX5_parent.2.2.2.1 ∈ lw_tbl := List.mem_of_getElem? (i := 422) (by decide +kernel)
theorem ko_X5_parent : bs_MV mX5_parent 5 := ⟨kc_X5_parent, kini_X5, List.mem_of_getElem? (i := 420) (by decide +kernel), List.mem_of_getElem? (i := 421) (by decide +kernel), ⟨by decide +kernel, by decide +kernel, by decide +kernel⟩, by decide, rfl⟩
theorem kc_X5_liveCells : Cond.code yX5_liveCells mX5_liveCells.2.1 mX5_liveCells.2.2.1 mX5_liveCells.2.2.2.1 ∈ lw_tbl := List.mem_of_getElem? (i := 426) (by decide +kernel)
theorem ko_X5_liveCells : bs_MV mX5_liveCells 5 := ⟨kc_X5_liveCells, kini_X5, List.mem_of_getElem? (i := 424) (by decide +kernel), List.mem_of_getElem? (i := 425) (by decide +kernel), ⟨by decide +kernel, by decide +kernel, by decide +kernel⟩, by decide, rfl⟩
theorem kc_X5_isFreed : Cond.code yX5_isFreed mX5_isFreed.2.1 mX5_isFreed.2.2.1 mX5_isFreed.2.2.2.1 ∈ lw_tbl := List.mem_of_getElem? (i := 435) (by decide +kernel)
theorem ko_X5_isFreed : bs_MV mX5_isFreed 5 := ⟨kc_X5_isFreed, kini_X5, List.mem_of_getElem? (i := 433) (by decide +kernel), List.mem_of_getElem? (i := 434) (by decide +kernel), ⟨by decide +kernel, by decide +kernel, by decide +kernel⟩, by decide, rfl⟩
theorem kc_X5_pointerCount : Cond.code yX5_pointerCount mX5_pointerCount.2.1 mX5_pointerCount.2.2.1 mX5_pointerCount.2.2.2.1 ∈ lw_tbl := List.mem_of_getElem? (i := 439) (by decide +kernel)
theorem ko_X5_pointerCount : bs_MV mX5_pointerCount 5 := ⟨kc_X5_pointerCount, kini_X5, List.mem_of_getElem? (i := 437) (by decide +kernel), List.mem_of_getElem? (i := 438) (by decide +kernel), ⟨by decide +kernel, by decide +kernel, by decide +kernel⟩, by decide, rfl⟩
theorem kc_X5_callDepth : Cond.code yX5_callDepth mX5_callDepth.2.1 mX5_callDepth.2.2.1 mX5_callDepth.2.2.2.1 ∈ lw_tbl := List.mem_of_getElem? (i := 443) (by decide +kernel)
theorem ko_X5_callDepth : bs_MV mX5_callDepth 5 := ⟨kc_X5_callDepth, kini_X5, List.mem_of_getElem? (i := 441) (by decide +kernel), List.mem_of_getElem? (i := 442) (by decide +kernel), ⟨by decide +kernel, by decide +kernel, by decide +kernel⟩, by decide, rfl⟩
theorem kc_X5_violationCount : Cond.code yX5_violationCount mX5_violationCount.2.1 mX5_violationCount.2.2.1 mX5_violationCount.2.2.2.1 ∈ lw_tbl := List.mem_of_getElem? (i := 447) (by decide +kernel)
theorem ko_X5_violationCount : bs_MV mX5_violationCount 5 := ⟨kc_X5_violationCount, kini_X5, List.mem_of_getElem? (i := 445) (by decide +kernel), List.mem_of_getElem? (i := 446) (by decide +kernel), ⟨by decide +kernel, by decide +kernel, by decide +kernel⟩, by decide, rfl⟩
theorem kc_X5_violationKind : Cond.code yX5_violationKind mX5_violationKind.2.1 mX5_violationKind.2.2.1 mX5_violationKind.2.2.2.1 ∈ lw_tbl := List.mem_of_getElem? (i := 451) (by decide +kernel)
theorem ko_X5_violationKind : bs_MV mX5_violationKind 5 := ⟨kc_X5_violationKind, kini_X5, List.mem_of_getElem? (i := 449) (by decide +kernel), List.mem_of_getElem? (i := 450) (by decide +kernel), ⟨by decide +kernel, by decide +kernel, by decide +kernel⟩, by decide, rfl⟩
theorem kc_X5_violationCell : Cond.code yX5_violationCell mX5_violationCell.2.1 mX5_violationCell.2.2.1 mX5_violationCell.2.2.2.1 ∈ lw_tbl := List.mem_of_getElem? (i := 455) (by decide +kernel)
theorem ko_X5_violationCell : bs_MV mX5_violationCell 5 := ⟨kc_X5_violationCell, kini_X5, List.mem_of_getElem? (i := 453) (by decide +kernel), List.mem_of_getElem? (i := 454) (by decide +kernel), ⟨by decide +kernel, by decide +kernel, by decide +kernel⟩, by decide, rfl⟩
theorem kc_X5_errorCount : Cond.code yX5_errorCount mX5_errorCount.2.1 mX5_errorCount.2.2.1 mX5_errorCount.2.2.2.1 ∈ lw_tbl := List.mem_of_getElem? (i := 459) (by decide +kernel)
theorem ko_X5_errorCount : bs_MV mX5_errorCount 5 := ⟨kc_X5_errorCount, kini_X5, List.mem_of_getElem? (i := 457) (by decide +kernel), List.mem_of_getElem? (i := 458) (by decide +kernel), ⟨by decide +kernel, by decide +kernel, by decide +kernel⟩, by decide, rfl⟩
theorem kc_X5_append : Cond.code yX5_append mX5_append.2.1 mX5_append.2.2.1 mX5_append.2.2.2.1 ∈ lw_tbl := List.mem_of_getElem? (i := 463) (by decide +kernel)
theorem ko_X5_append : bs_MV mX5_append 5 := ⟨kc_X5_append, kini_X5, List.mem_of_getElem? (i := 461) (by decide +kernel), List.mem_of_getElem? (i := 462) (by decide +kernel), ⟨by decide +kernel, by decide +kernel, by decide +kernel⟩, by decide, rfl⟩
theorem kc_X5_clearText : Cond.code yX5_clearText mX5_clearText.2.1 mX5_clearText.2.2.1 mX5_clearText.2.2.2.1 ∈ lw_tbl := List.mem_of_getElem? (i := 471) (by decide +kernel)
theorem ko_X5_clearText : bs_MV mX5_clearText 5 := ⟨kc_X5_clearText, kini_X5, List.mem_of_getElem? (i := 469) (by decide +kernel), List.mem_of_getElem? (i := 470) (by decide +kernel), ⟨by decide +kernel, by decide +kernel, by decide +kernel⟩, by decide, rfl⟩
theorem kc_X5_runScript : Cond.code yX5_runScript mX5_runScript.2.1 mX5_runScript.2.2.1 mX5_runScript.2.2.2.1 ∈ lw_tbl := List.mem_of_getElem? (i := 475) (by decide +kernel)
theorem ko_X5_runScript : bs_MV mX5_runScript 5 := ⟨kc_X5_runScript, kini_X5, List.mem_of_getElem? (i := 473) (by decide +kernel), List.mem_of_getElem? (i := 474) (by decide +kernel), ⟨by decide +kernel, by decide +kernel, by decide +kernel⟩, by decide, rfl⟩
theorem kc_X5_digest : Cond.code yX5_digest mX5_digest.2.1 mX5_digest.2.2.1 mX5_digest.2.2.2.1 ∈ lw_tbl := List.mem_of_getElem? (i := 521) (by decide +kernel)
theorem ko_X5_digest : bs_MV mX5_digest 5 := ⟨kc_X5_digest, kini_X5, List.mem_of_getElem? (i := 519) (by decide +kernel), List.mem_of_getElem? (i := 520) (by decide +kernel), ⟨by decide +kernel, by decide +kernel, by decide +kernel⟩, by decide, rfl⟩
theorem kc_X5_performAllocate : Cond.code yX5_performAllocate mX5_performAllocate.2.1 mX5_performAllocate.2.2.1 mX5_performAllocate.2.2.2.1 ∈ lw_tbl := List.mem_of_getElem? (i := 154) (by decide +kernel)
theorem ko_X5_performAllocate : bs_MV mX5_performAllocate 5 := ⟨kc_X5_performAllocate, kini_X5, List.mem_of_getElem? (i := 153) (by decide +kernel), List.mem_of_getElem? (i := 0) (by decide +kernel), ⟨by decide +kernel, by decide +kernel, by decide +kernel⟩, by decide, rfl⟩
theorem kc_X5_performRead : Cond.code yX5_performRead mX5_performRead.2.1 mX5_performRead.2.2.1 mX5_performRead.2.2.2.1 ∈ lw_tbl := List.mem_of_getElem? (i := 230) (by decide +kernel)
theorem ko_X5_performRead : bs_MV mX5_performRead 5 := ⟨kc_X5_performRead, kini_X5, List.mem_of_getElem? (i := 229) (by decide +kernel), List.mem_of_getElem? (i := 3) (by decide +kernel), ⟨by decide +kernel, by decide +kernel, by decide +kernel⟩, by decide, rfl⟩
theorem kc_X5_performWrite : Cond.code yX5_performWrite mX5_performWrite.2.1 mX5_performWrite.2.2.1 mX5_performWrite.2.2.2.1 ∈ lw_tbl := List.mem_of_getElem? (i := 269) (by decide +kernel)
theorem ko_X5_performWrite : bs_MV mX5_performWrite 5 := ⟨kc_X5_performWrite, kini_X5, List.mem_of_getElem? (i := 268) (by decide +kernel), List.mem_of_getElem? (i := 6) (by decide +kernel), ⟨by decide +kernel, by decide +kernel, by decide +kernel⟩, by decide, rfl⟩
theorem kc_X5_performReborrow : Cond.code yX5_performReborrow mX5_performReborrow.2.1 mX5_performReborrow.2.2.1 mX5_performReborrow.2.2.2.1 ∈ lw_tbl := List.mem_of_getElem? (i := 297) (by decide +kernel)
theorem ko_X5_performReborrow : bs_MV mX5_performReborrow 5 := ⟨kc_X5_performReborrow, kini_X5, List.mem_of_getElem? (i := 296) (by decide +kernel), List.mem_of_getElem? (i := 7) (by decide +kernel), ⟨by decide +kernel, by decide +kernel, by decide +kernel⟩, by decide, rfl⟩
theorem kc_X5_performFree : Cond.code yX5_performFree mX5_performFree.2.1 mX5_performFree.2.2.1 mX5_performFree.2.2.2.1 ∈ lw_tbl := List.mem_of_getElem? (i := 329) (by decide +kernel)
theorem ko_X5_performFree : bs_MV mX5_performFree 5 := ⟨kc_X5_performFree, kini_X5, List.mem_of_getElem? (i := 328) (by decide +kernel), List.mem_of_getElem? (i := 8) (by decide +kernel), ⟨by decide +kernel, by decide +kernel, by decide +kernel⟩, by decide, rfl⟩
theorem kc_X5_performEnter : Cond.code yX5_performEnter mX5_performEnter.2.1 mX5_performEnter.2.2.1 mX5_performEnter.2.2.2.1 ∈ lw_tbl := List.mem_of_getElem? (i := 349) (by decide +kernel)
theorem ko_X5_performEnter : bs_MV mX5_performEnter 5 := ⟨kc_X5_performEnter, kini_X5, List.mem_of_getElem? (i := 348) (by decide +kernel), List.mem_of_getElem? (i := 9) (by decide +kernel), ⟨by decide +kernel, by decide +kernel, by decide +kernel⟩, by decide, rfl⟩
theorem kc_X5_performLeave : Cond.code yX5_performLeave mX5_performLeave.2.1 mX5_performLeave.2.2.1 mX5_performLeave.2.2.2.1 ∈ lw_tbl := List.mem_of_getElem? (i := 361) (by decide +kernel)
theorem ko_X5_performLeave : bs_MV mX5_performLeave 5 := ⟨kc_X5_performLeave, kini_X5, List.mem_of_getElem? (i := 360) (by decide +kernel), List.mem_of_getElem? (i := 10) (by decide +kernel), ⟨by decide +kernel, by decide +kernel, by decide +kernel⟩, by decide, rfl⟩
theorem kc_X5_performCommand : Cond.code yX5_performCommand mX5_performCommand.2.1 mX5_performCommand.2.2.1 mX5_performCommand.2.2.2.1 ∈ lw_tbl := List.mem_of_getElem? (i := 506) (by decide +kernel)
theorem ko_X5_performCommand : bs_MV mX5_performCommand 5 := ⟨kc_X5_performCommand, kini_X5, List.mem_of_getElem? (i := 505) (by decide +kernel), List.mem_of_getElem? (i := 18) (by decide +kernel), ⟨by decide +kernel, by decide +kernel, by decide +kernel⟩, by decide, rfl⟩
theorem kc_X5_counted : Cond.code yX5_counted mX5_counted.2.1 mX5_counted.2.2.1 mX5_counted.2.2.2.1 ∈ lw_tbl := List.mem_of_getElem? (i := 222) (by decide +kernel)
theorem ko_X5_counted : bs_MV mX5_counted 5 := ⟨kc_X5_counted, kini_X5, List.mem_of_getElem? (i := 221) (by decide +kernel), List.mem_of_getElem? (i := 2) (by decide +kernel), ⟨by decide +kernel, by decide +kernel, by decide +kernel⟩, by decide, rfl⟩
theorem kc_X5_violated : Cond.code yX5_violated mX5_violated.2.1 mX5_violated.2.2.1 mX5_violated.2.2.2.1 ∈ lw_tbl := List.mem_of_getElem? (i := 245) (by decide +kernel)
theorem ko_X5_violated : bs_MV mX5_violated 5 := ⟨kc_X5_violated, kini_X5, List.mem_of_getElem? (i := 244) (by decide +kernel), List.mem_of_getElem? (i := 5) (by decide +kernel), ⟨by decide +kernel, by decide +kernel, by decide +kernel⟩, by decide, rfl⟩
theorem kc_X5_addPointer : Cond.code yX5_addPointer mX5_addPointer.2.1 mX5_addPointer.2.2.1 mX5_addPointer.2.2.2.1 ∈ lw_tbl := List.mem_of_getElem? (i := 204) (by decide +kernel)
theorem ko_X5_addPointer : bs_MV mX5_addPointer 5 := ⟨kc_X5_addPointer, kini_X5, List.mem_of_getElem? (i := 203) (by decide +kernel), List.mem_of_getElem? (i := 1) (by decide +kernel), ⟨by decide +kernel, by decide +kernel, by decide +kernel⟩, by decide, rfl⟩
theorem kc_X5_pointerAt : Cond.code yX5_pointerAt mX5_pointerAt.2.1 mX5_pointerAt.2.2.1 mX5_pointerAt.2.2.2.1 ∈ lw_tbl := List.mem_of_getElem? (i := 234) (by decide +kernel)
theorem ko_X5_pointerAt : bs_MV mX5_pointerAt 5 := ⟨kc_X5_pointerAt, kini_X5, List.mem_of_getElem? (i := 233) (by decide +kernel), List.mem_of_getElem? (i := 4) (by decide +kernel), ⟨by decide +kernel, by decide +kernel, by decide +kernel⟩, by decide, rfl⟩
theorem kc_X5_allocationAt : Cond.code yX5_allocationAt mX5_allocationAt.2.1 mX5_allocationAt.2.2.1 mX5_allocationAt.2.2.2.1 ∈ lw_tbl := List.mem_of_getElem? (i := 394) (by decide +kernel)
theorem ko_X5_allocationAt : bs_MV mX5_allocationAt 5 := ⟨kc_X5_allocationAt, kini_X5, List.mem_of_getElem? (i := 393) (by decide +kernel), List.mem_of_getElem? (i := 12) (by decide +kernel), ⟨by decide +kernel, by decide +kernel, by decide +kernel⟩, by decide, rfl⟩
theorem kc_X5_cellAt : Cond.code yX5_cellAt mX5_cellAt.2.1 mX5_cellAt.2.2.1 mX5_cellAt.2.2.2.1 ∈ lw_tbl := List.mem_of_getElem? (i := 390) (by decide +kernel)
theorem ko_X5_cellAt : bs_MV mX5_cellAt 5 := ⟨kc_X5_cellAt, kini_X5, List.mem_of_getElem? (i := 389) (by decide +kernel), List.mem_of_getElem? (i := 11) (by decide +kernel), ⟨by decide +kernel, by decide +kernel, by decide +kernel⟩, by decide, rfl⟩
theorem kc_X5_cellThrough : Cond.code yX5_cellThrough mX5_cellThrough.2.1 mX5_cellThrough.2.2.1 mX5_cellThrough.2.2.2.1 ∈ lw_tbl := List.mem_of_getElem? (i := 237) (by decide +kernel)
theorem ko_X5_cellThrough : bs_MS mX5_cellThrough := ⟨kc_X5_cellThrough, kini_X5, List.mem_of_getElem? (i := 236) (by decide +kernel), ⟨by decide +kernel, by decide +kernel, by decide +kernel⟩, by decide⟩
theorem kc_X5_isFailure : Cond.code yX5_isFailure mX5_isFailure.2.1 mX5_isFailure.2.2.1 mX5_isFailure.2.2.2.1 ∈ lw_tbl := List.mem_of_getElem? (i := 517) (by decide +kernel)
theorem ko_X5_isFailure : bs_MS mX5_isFailure := ⟨kc_X5_isFailure, kini_X5, List.mem_of_getElem? (i := 516) (by decide +kernel), ⟨by decide +kernel, by decide +kernel, by decide +kernel⟩, by decide⟩
theorem kc_X5_asNumber : Cond.code yX5_asNumber mX5_asNumber.2.1 mX5_asNumber.2.2.1 mX5_asNumber.2.2.2.1 ∈ lw_tbl := List.mem_of_getElem? (i := 414) (by decide +kernel)
theorem ko_X5_asNumber : bs_MS mX5_asNumber := ⟨kc_X5_asNumber, kini_X5, List.mem_of_getElem? (i := 413) (by decide +kernel), ⟨by decide +kernel, by decide +kernel, by decide +kernel⟩, by decide⟩
theorem kc_X5_mixed : Cond.code yX5_mixed mX5_mixed.2.1 mX5_mixed.2.2.1 mX5_mixed.2.2.2.1 ∈ lw_tbl := List.mem_of_getElem? (i := 525) (by decide +kernel)
theorem ko_X5_mixed : bs_MS mX5_mixed := ⟨kc_X5_mixed, kini_X5, List.mem_of_getElem? (i := 524) (by decide +kernel), ⟨by decide +kernel, by decide +kernel, by decide +kernel⟩, by decide⟩
theorem kc_X6_init : Cond.code yX6_init mX6_init.2.1 mX6_init.2.2.1 mX6_init.2.2.2.1 ∈ lw_tbl := List.mem_of_getElem? (i := 546) (by decide +kernel)
theorem ko_X6_init : bs_MC mX6_init := ⟨kc_X6_init, kini_X6, List.mem_of_getElem? (i := 545) (by decide +kernel), ⟨by decide +kernel, by decide +kernel, by decide +kernel⟩, ⟨rfl, rfl⟩, by decide⟩
theorem kc_X6_in : Cond.code yX6_in mX6_in.2.1 mX6_in.2.2.1 mX6_in.2.2.2.1 ∈ lw_tbl := List.mem_of_getElem? (i := 628) (by decide +kernel)
theorem ko_X6_in : bs_MS mX6_in := ⟨kc_X6_in, kini_X6, List.mem_of_getElem? (i := 627) (by decide +kernel), ⟨by decide +kernel, by decide +kernel, by decide +kernel⟩, by decide⟩
theorem kc_X6_error : Cond.code yX6_error mX6_error.2.1 mX6_error.2.2.1 mX6_error.2.2.2.1 ∈ lw_tbl := List.mem_of_getElem? (i := 632) (by decide +kernel)
theorem ko_X6_error : bs_MV mX6_error 6 := ⟨kc_X6_error, kini_X6, List.mem_of_getElem? (i := 631) (by decide +kernel), List.mem_of_getElem? (i := 19) (by decide +kernel), ⟨by decide +kernel, by decide +kernel, by decide +kernel⟩, by decide, rfl⟩
theorem kc_X6_violate : Cond.code yX6_violate mX6_violate.2.1 mX6_violate.2.2.1 mX6_violate.2.2.2.1 ∈ lw_tbl := List.mem_of_getElem? (i := 672) (by decide +kernel)
theorem ko_X6_violate : bs_MV mX6_violate 6 := ⟨kc_X6_violate, kini_X6, List.mem_of_getElem? (i := 671) (by decide +kernel), List.mem_of_getElem? (i := 28) (by decide +kernel), ⟨by decide +kernel, by decide +kernel, by decide +kernel⟩, by decide, rfl⟩
theorem kc_X6_isPointer : Cond.code yX6_isPointer mX6_isPointer.2.1 mX6_isPointer.2.2.1 mX6_isPointer.2.2.2.1 ∈ lw_tbl := List.mem_of_getElem? (i := 652) (by decide +kernel)
theorem ko_X6_isPointer : bs_MV mX6_isPointer 6 := ⟨kc_X6_isPointer, kini_X6, List.mem_of_getElem? (i := 651) (by decide +kernel), List.mem_of_getElem? (i := 23) (by decide +kernel), ⟨by decide +kernel, by decide +kernel, by decide +kernel⟩, by decide, rfl⟩
theorem kc_X6_isCell : Cond.code yX6_isCell mX6_isCell.2.1 mX6_isCell.2.2.1 mX6_isCell.2.2.2.1 ∈ lw_tbl := List.mem_of_getElem? (i := 648) (by decide +kernel)
theorem ko_X6_isCell : bs_MV mX6_isCell 6 := ⟨kc_X6_isCell, kini_X6, List.mem_of_getElem? (i := 647) (by decide +kernel), List.mem_of_getElem? (i := 22) (by decide +kernel), ⟨by decide +kernel, by decide +kernel, by decide +kernel⟩, by decide, rfl⟩
theorem kc_X6_cellOf : Cond.code yX6_cellOf mX6_cellOf.2.1 mX6_cellOf.2.2.1 mX6_cellOf.2.2.2.1 ∈ lw_tbl := List.mem_of_getElem? (i := 660) (by decide +kernel)
theorem ko_X6_cellOf : bs_MV mX6_cellOf 6 := ⟨kc_X6_cellOf, kini_X6, List.mem_of_getElem? (i := 659) (by decide +kernel), List.mem_of_getElem? (i := 25) (by decide +kernel), ⟨by decide +kernel, by decide +kernel, by decide +kernel⟩, by decide, rfl⟩
theorem kc_X6_granting : Cond.code yX6_granting mX6_granting.2.1 mX6_granting.2.2.1 mX6_granting.2.2.2.1 ∈ lw_tbl := List.mem_of_getElem? (i := 664) (by decide +kernel)
theorem ko_X6_granting : bs_MV mX6_granting 6 := ⟨kc_X6_granting, kini_X6, List.mem_of_getElem? (i := 663) (by decide +kernel), List.mem_of_getElem? (i := 26) (by decide +kernel), ⟨by decide +kernel, by decide +kernel, by decide +kernel⟩, by decide, rfl⟩
theorem kc_X6_above : Cond.code yX6_above mX6_above.2.1 mX6_above.2.2.1 mX6_above.2.2.2.1 ∈ lw_tbl := List.mem_of_getElem? (i := 688) (by decide +kernel)
theorem ko_X6_above : bs_MV mX6_above 6 := ⟨kc_X6_above, kini_X6, List.mem_of_getElem? (i := 687) (by decide +kernel), List.mem_of_getElem? (i := 31) (by decide +kernel), ⟨by decide +kernel, by decide +kernel, by decide +kernel⟩, by decide, rfl⟩
theorem kc_X6_isGuarded : Cond.code yX6_isGuarded mX6_isGuarded.2.1 mX6_isGuarded.2.2.1 mX6_isGuarded.2.2.2.1 ∈ lw_tbl := List.mem_of_getElem? (i := 668) (by decide +kernel)
theorem ko_X6_isGuarded : bs_MV mX6_isGuarded 6 := ⟨kc_X6_isGuarded, kini_X6, List.mem_of_getElem? (i := 667) (by decide +kernel), List.mem_of_getElem? (i := 27) (by decide +kernel), ⟨by decide +kernel, by decide +kernel, by decide +kernel⟩, by decide, rfl⟩
theorem kc_X6_readKind : Cond.code yX6_readKind mX6_readKind.2.1 mX6_readKind.2.2.1 mX6_readKind.2.2.2.1 ∈ lw_tbl := List.mem_of_getElem? (i := 656) (by decide +kernel)
theorem ko_X6_readKind : bs_MV mX6_readKind 6 := ⟨kc_X6_readKind, kini_X6, List.mem_of_getElem? (i := 655) (by decide +kernel), List.mem_of_getElem? (i := 24) (by decide +kernel), ⟨by decide +kernel, by decide +kernel, by decide +kernel⟩, by decide, rfl⟩
theorem kc_X6_writeKind : Cond.code yX6_writeKind mX6_writeKind.2.1 mX6_writeKind.2.2.1 mX6_writeKind.2.2.2.1 ∈ lw_tbl := List.mem_of_getElem? (i := 684) (by decide +kernel)
theorem ko_X6_writeKind : bs_MV mX6_writeKind 6 := ⟨kc_X6_writeKind, kini_X6, List.mem_of_getElem? (i := 683) (by decide +kernel), List.mem_of_getElem? (i := 30) (by decide +kernel), ⟨by decide +kernel, by decide +kernel, by decide +kernel⟩, by decide, rfl⟩
theorem kc_X6_rawKind : Cond.code yX6_rawKind mX6_rawKind.2.1 mX6_rawKind.2.2.1 mX6_rawKind.2.2.2.1 ∈ lw_tbl := List.mem_of_getElem? (i := 704) (by decide +kernel)
theorem ko_X6_rawKind : bs_MV mX6_rawKind 6 := ⟨kc_X6_rawKind, kini_X6, List.mem_of_getElem? (i := 703) (by decide +kernel), List.mem_of_getElem? (i := 34) (by decide +kernel), ⟨by decide +kernel, by decide +kernel, by decide +kernel⟩, by decide, rfl⟩
theorem kc_X6_freeKind : Cond.code yX6_freeKind mX6_freeKind.2.1 mX6_freeKind.2.2.1 mX6_freeKind.2.2.2.1 ∈ lw_tbl := List.mem_of_getElem? (i := 720) (by decide +kernel)
theorem ko_X6_freeKind : bs_MV mX6_freeKind 6 := ⟨kc_X6_freeKind, kini_X6, List.mem_of_getElem? (i := 719) (by decide +kernel), List.mem_of_getElem? (i := 37) (by decide +kernel), ⟨by decide +kernel, by decide +kernel, by decide +kernel⟩, by decide, rfl⟩
theorem kc_X6_doRead : Cond.code yX6_doRead mX6_doRead.2.1 mX6_doRead.2.2.1 mX6_doRead.2.2.2.1 ∈ lw_tbl := List.mem_of_getElem? (i := 676) (by decide +kernel)
theorem ko_X6_doRead : bs_MV mX6_doRead 6 := ⟨kc_X6_doRead, kini_X6, List.mem_of_getElem? (i := 675) (by decide +kernel), List.mem_of_getElem? (i := 29) (by decide +kernel), ⟨by decide +kernel, by decide +kernel, by decide +kernel⟩, by decide, rfl⟩
theorem kc_X6_doWrite : Cond.code yX6_doWrite mX6_doWrite.2.1 mX6_doWrite.2.2.1 mX6_doWrite.2.2.2.1 ∈ lw_tbl := List.mem_of_getElem? (i := 692) (by decide +kernel)
theorem ko_X6_doWrite : bs_MV mX6_doWrite 6 := ⟨kc_X6_doWrite, kini_X6, List.mem_of_getElem? (i := 691) (by decide +kernel), List.mem_of_getElem? (i := 32) (by decide +kernel), ⟨by decide +kernel, by decide +kernel, by decide +kernel⟩, by decide, rfl⟩
theorem kc_X6_insert : Cond.code yX6_insert mX6_insert.2.1 mX6_insert.2.2.1 mX6_insert.2.2.2.1 ∈ lw_tbl := List.mem_of_getElem? (i := 640) (by decide +kernel)
theorem ko_X6_insert : bs_MV mX6_insert 6 := ⟨kc_X6_insert, kini_X6, List.mem_of_getElem? (i := 639) (by decide +kernel), List.mem_of_getElem? (i := 21) (by decide +kernel), ⟨by decide +kernel, by decide +kernel, by decide +kernel⟩, by decide, rfl⟩
theorem kc_X6_newPointer : Cond.code yX6_newPointer mX6_newPointer.2.1 mX6_newPointer.2.2.1 mX6_newPointer.2.2.2.1 ∈ lw_tbl := List.mem_of_getElem? (i := 636) (by decide +kernel)
theorem ko_X6_newPointer : bs_MV mX6_newPointer 6 := ⟨kc_X6_newPointer, kini_X6, List.mem_of_getElem? (i := 635) (by decide +kernel), List.mem_of_getElem? (i := 20) (by decide +kernel), ⟨by decide +kernel, by decide +kernel, by decide +kernel⟩, by decide, rfl⟩
theorem kc_X6_allocate : Cond.code yX6_allocate mX6_allocate.2.1 mX6_allocate.2.2.1 mX6_allocate.2.2.2.1 ∈ lw_tbl := List.mem_of_getElem? (i := 625) (by decide +kernel)
theorem ko_X6_allocate : bs_MV mX6_allocate 6 := ⟨kc_X6_allocate, kini_X6, List.mem_of_getElem? (i := 623) (by decide +kernel), List.mem_of_getElem? (i := 624) (by decide +kernel), ⟨by decide +kernel, by decide +kernel, by decide +kernel⟩, by decide, rfl⟩
theorem kc_X6_read : Cond.code yX6_read mX6_read.2.1 mX6_read.2.2.1 mX6_read.2.2.2.1 ∈ lw_tbl := List.mem_of_getElem? (i := 644) (by decide +kernel)
theorem ko_X6_read : bs_MV mX6_read 6 := ⟨kc_X6_read, kini_X6, List.mem_of_getElem? (i := 642) (by decide +kernel), List.mem_of_getElem? (i := 643) (by decide +kernel), ⟨by decide +kernel, by decide +kernel, by decide +kernel⟩, by decide, rfl⟩
theorem kc_X6_write : Cond.code yX6_write mX6_write.2.1 mX6_write.2.2.1 mX6_write.2.2.2.1 ∈ lw_tbl := List.mem_of_getElem? (i := 680) (by decide +kernel)
theorem ko_X6_write : bs_MV mX6_write 6 := ⟨kc_X6_write, kini_X6, List.mem_of_getElem? (i := 678) (by decide +kernel), List.mem_of_getElem? (i := 679) (by decide +kernel), ⟨by decide +kernel, by decide +kernel, by decide +kernel⟩, by decide, rfl⟩
theorem kc_X6_reborrowKind : Cond.code yX6_reborrowKind mX6_reborrowKind.2.1 mX6_reborrowKind.2.2.1 mX6_reborrowKind.2.2.2.1 ∈ lw_tbl := List.mem_of_getElem? (i := 700) (by decide +kernel)
theorem ko_X6_reborrowKind : bs_MV mX6_reborrowKind 6 := ⟨kc_X6_reborrowKind, kini_X6, List.mem_of_getElem? (i := 699) (by decide +kernel), List.mem_of_getElem? (i := 33) (by decide +kernel), ⟨by decide +kernel, by decide +kernel, by decide +kernel⟩, by decide, rfl⟩
theorem kc_X6_sizeBy : Cond.code yX6_sizeBy mX6_sizeBy.2.1 mX6_sizeBy.2.2.1 mX6_sizeBy.2.2.2.1 ∈ lw_tbl := List.mem_of_getElem? (i := 708) (by decide +kernel)
theorem ko_X6_sizeBy : bs_MV mX6_sizeBy 6 := ⟨kc_X6_sizeBy, kini_X6, List.mem_of_getElem? (i := 707) (by decide +kernel), List.mem_of_getElem? (i := 35) (by decide +kernel), ⟨by decide +kernel, by decide +kernel, by decide +kernel⟩, by decide, rfl⟩
theorem kc_X6_put : Cond.code yX6_put mX6_put.2.1 mX6_put.2.2.1 mX6_put.2.2.2.1 ∈ lw_tbl := List.mem_of_getElem? (i := 712) (by decide +kernel)
theorem ko_X6_put : bs_MV mX6_put 6 := ⟨kc_X6_put, kini_X6, List.mem_of_getElem? (i := 711) (by decide +kernel), List.mem_of_getElem? (i := 36) (by decide +kernel), ⟨by decide +kernel, by decide +kernel, by decide +kernel⟩, by decide, rfl⟩
theorem kc_X6_reborrow : Cond.code yX6_reborrow mX6_reborrow.2.1 mX6_reborrow.2.2.1 mX6_reborrow.2.2.2.1 ∈ lw_tbl := List.mem_of_getElem? (i := 696) (by decide +kernel)
theorem ko_X6_reborrow : bs_MV mX6_reborrow 6 := ⟨kc_X6_reborrow, kini_X6, List.mem_of_getElem? (i := 694) (by decide +kernel), List.mem_of_getElem? (i := 695) (by decide +kernel), ⟨by decide +kernel, by decide +kernel, by decide +kernel⟩, by decide, rfl⟩
theorem kc_X6_free : Cond.code yX6_free mX6_free.2.1 mX6_free.2.2.1 mX6_free.2.2.2.1 ∈ lw_tbl := List.mem_of_getElem? (i := 716) (by decide +kernel)
theorem ko_X6_free : bs_MV mX6_free 6 := ⟨kc_X6_free, kini_X6, List.mem_of_getElem? (i := 714) (by decide +kernel), List.mem_of_getElem? (i := 715) (by decide +kernel), ⟨by decide +kernel, by decide +kernel, by decide +kernel⟩, by decide, rfl⟩
theorem kc_X6_enterCall : Cond.code yX6_enterCall mX6_enterCall.2.1 mX6_enterCall.2.2.1 mX6_enterCall.2.2.2.1 ∈ lw_tbl := List.mem_of_getElem? (i := 724) (by decide +kernel)
theorem ko_X6_enterCall : bs_MV mX6_enterCall 6 := ⟨kc_X6_enterCall, kini_X6, List.mem_of_getElem? (i := 722) (by decide +kernel), List.mem_of_getElem? (i := 723) (by decide +kernel), ⟨by decide +kernel, by decide +kernel, by decide +kernel⟩, by decide, rfl⟩
theorem kc_X6_leaveCall : Cond.code yX6_leaveCall mX6_leaveCall.2.1 mX6_leaveCall.2.2.1 mX6_leaveCall.2.2.2.1 ∈ lw_tbl := List.mem_of_getElem? (i := 728) (by decide +kernel)
theorem ko_X6_leaveCall : bs_MV mX6_leaveCall 6 := ⟨kc_X6_leaveCall, kini_X6, List.mem_of_getElem? (i := 726) (by decide +kernel), List.mem_of_getElem? (i := 727) (by decide +kernel), ⟨by decide +kernel, by decide +kernel, by decide +kernel⟩, by decide, rfl⟩
theorem kc_X6_checkRead : Cond.code yX6_checkRead mX6_checkRead.2.1 mX6_checkRead.2.2.1 mX6_checkRead.2.2.2.1 ∈ lw_tbl := List.mem_of_getElem? (i := 732) (by decide +kernel)
theorem ko_X6_checkRead : bs_MV mX6_checkRead 6 := ⟨kc_X6_checkRead, kini_X6, List.mem_of_getElem? (i := 730) (by decide +kernel), List.mem_of_getElem? (i := 731) (by decide +kernel), ⟨by decide +kernel, by decide +kernel, by decide +kernel⟩, by decide, rfl⟩
theorem kc_X6_checkWrite : Cond.code yX6_checkWrite mX6_checkWrite.2.1 mX6_checkWrite.2.2.1 mX6_checkWrite.2.2.2.1 ∈ lw_tbl := List.mem_of_getElem? (i := 736) (by decide +kernel)
theorem ko_X6_checkWrite : bs_MV mX6_checkWrite 6 := ⟨kc_X6_checkWrite, kini_X6, List.mem_of_getElem? (i := 734) (by decide +kernel), List.mem_of_getElem? (i := 735) (by decide +kernel), ⟨by decide +kernel, by decide +kernel, by decide +kernel⟩, by decide, rfl⟩
theorem kc_X6_checkFree : Cond.code yX6_checkFree mX6_checkFree.2.1 mX6_checkFree.2.2.1 mX6_checkFree.2.2.2.1 ∈ lw_tbl := List.mem_of_getElem? (i := 740) (by decide +kernel)
theorem ko_X6_checkFree : bs_MV mX6_checkFree 6 := ⟨kc_X6_checkFree, kini_X6, List.mem_of_getElem? (i := 738) (by decide +kernel), List.mem_of_getElem? (i := 739) (by decide +kernel), ⟨by decide +kernel, by decide +kernel, by decide +kernel⟩, by decide, rfl⟩
theorem kc_X6_removedByWrite : Cond.code yX6_removedByWrite mX6_removedByWrite.2.1 mX6_removedByWrite.2.2.1 mX6_removedByWrite.2.2.2.1 ∈ lw_tbl := List.mem_of_getElem? (i := 744) (by decide +kernel)
theorem ko_X6_removedByWrite : bs_MV mX6_removedByWrite 6 := ⟨kc_X6_removedByWrite, kini_X6, List.mem_of_getElem? (i := 742) (by decide +kernel), List.mem_of_getElem? (i := 743) (by decide +kernel), ⟨by decide +kernel, by decide +kernel, by decide +kernel⟩, by decide, rfl⟩
theorem kc_X6_isAllocation : Cond.code yX6_isAllocation mX6_isAllocation.2.1 mX6_isAllocation.2.2.1 mX6_isAllocation.2.2.2.1 ∈ lw_tbl := List.mem_of_getElem? (i := 756) (by decide +kernel)
theorem ko_X6_isAllocation : bs_MV mX6_isAllocation 6 := ⟨kc_X6_isAllocation, kini_X6, List.mem_of_getElem? (i := 755) (by decide +kernel), List.mem_of_getElem? (i := 39) (by decide +kernel), ⟨by decide +kernel, by decide +kernel, by decide +kernel⟩, by decide, rfl⟩
theorem kc_X6_isCellOf : Cond.code yX6_isCellOf mX6_isCellOf.2.1 mX6_isCellOf.2.2.1 mX6_isCellOf.2.2.2.1 ∈ lw_tbl := List.mem_of_getElem? (i := 752) (by decide +kernel)
theorem ko_X6_isCellOf : bs_MV mX6_isCellOf 6 := ⟨kc_X6_isCellOf, kini_X6, List.mem_of_getElem? (i := 751) (by decide +kernel), List.mem_of_getElem? (i := 38) (by decide +kernel), ⟨by decide +kernel, by decide +kernel, by decide +kernel⟩, by decide, rfl⟩
theorem kc_X6_placeOf : Cond.code yX6_placeOf mX6_placeOf.2.1 mX6_placeOf.2.2.1 mX6_placeOf.2.2.2.1 ∈ lw_tbl := List.mem_of_getElem? (i := 764) (by decide +kernel)
theorem ko_X6_placeOf : bs_MV mX6_placeOf 6 := ⟨kc_X6_placeOf, kini_X6, List.mem_of_getElem? (i := 763) (by decide +kernel), List.mem_of_getElem? (i := 40) (by decide +kernel), ⟨by decide +kernel, by decide +kernel, by decide +kernel⟩, by decide, rfl⟩
theorem kc_X6_stackSize : Cond.code yX6_stackSize mX6_stackSize.2.1 mX6_stackSize.2.2.1 mX6_stackSize.2.2.2.1 ∈ lw_tbl := List.mem_of_getElem? (i := 748) (by decide +kernel)
theorem ko_X6_stackSize : bs_MV mX6_stackSize 6 := ⟨kc_X6_stackSize, kini_X6, List.mem_of_getElem? (i := 746) (by decide +kernel), List.mem_of_getElem? (i := 747) (by decide +kernel), ⟨by decide +kernel, by decide +kernel, by decide +kernel⟩, by decide, rfl⟩
theorem kc_X6_itemTag : Cond.code yX6_itemTag mX6_itemTag.2.1 mX6_itemTag.2.2.1 mX6_itemTag.2.2.2.1 ∈ lw_tbl := List.mem_of_getElem? (i := 760) (by decide +kernel)
theorem ko_X6_itemTag : bs_MV mX6_itemTag 6 := ⟨kc_X6_itemTag, kini_X6, List.mem_of_getElem? (i := 758) (by decide +kernel), List.mem_of_getElem? (i := 759) (by decide +kernel), ⟨by decide +kernel, by decide +kernel, by decide +kernel⟩, by decide, rfl⟩
theorem kc_X6_itemPermission : Cond.code yX6_itemPermission mX6_itemPermission.2.1 mX6_itemPermission.2.2.1 mX6_itemPermission.2.2.2.1 ∈ lw_tbl := List.mem_of_getElem? (i := 768) (by decide +kernel)
theorem ko_X6_itemPermission : bs_MV mX6_itemPermission 6 := ⟨kc_X6_itemPermission, kini_X6, List.mem_of_getElem? (i := 766) (by decide +kernel), List.mem_of_getElem? (i := 767) (by decide +kernel), ⟨by decide +kernel, by decide +kernel, by decide +kernel⟩, by decide, rfl⟩
theorem kc_X6_itemProtected : Cond.code yX6_itemProtected mX6_itemProtected.2.1 mX6_itemProtected.2.2.1 mX6_itemProtected.2.2.2.1 ∈ lw_tbl := List.mem_of_getElem? (i := 772) (by decide +kernel)
theorem ko_X6_itemProtected : bs_MV mX6_itemProtected 6 := ⟨kc_X6_itemProtected, kini_X6, List.mem_of_getElem? (i := 770) (by decide +kernel), List.mem_of_getElem? (i := 771) (by decide +kernel), ⟨by decide +kernel, by decide +kernel, by decide +kernel⟩, by decide, rfl⟩
theorem kc_X6_allocationOf : Cond.code yX6_allocationOf mX6_allocationOf.2.1 mX6_allocationOf.2.2.1 mX6_allocationOf.2.2.2.1 ∈ lw_tbl := List.mem_of_getElem? (i := 776) (by decide +kernel)
theorem ko_X6_allocationOf : bs_MV mX6_allocationOf 6 := ⟨kc_X6_allocationOf, kini_X6, List.mem_of_getElem? (i := 774) (by decide +kernel), List.mem_of_getElem? (i := 775) (by decide +kernel), ⟨by decide +kernel, by decide +kernel, by decide +kernel⟩, by decide, rfl⟩
theorem kc_X6_parent : Cond.code yX6_parent mX6_parent.2.1 mX6_parent.2.2.1 mX6_parent.2.2.2.1 ∈ lw_tbl := List.mem_of_getElem? (i := 780) (by decide +kernel)
theorem ko_X6_parent : bs_MV mX6_parent 6 := ⟨kc_X6_parent, kini_X6, List.mem_of_getElem? (i := 778) (by decide +kernel), List.mem_of_getElem? (i := 779) (by decide +kernel), ⟨by decide +kernel, by decide +kernel, by decide +kernel⟩, by decide, rfl⟩
theorem kc_X6_liveOf : Cond.code yX6_liveOf mX6_liveOf.2.1 mX6_liveOf.2.2.1 mX6_liveOf.2.2.2.1 ∈ lw_tbl := List.mem_of_getElem? (i := 788) (by decide +kernel)
theorem ko_X6_liveOf : bs_MV mX6_liveOf 6 := ⟨kc_X6_liveOf, kini_X6, List.mem_of_getElem? (i := 787) (by decide +kernel), List.mem_of_getElem? (i := 41) (by decide +kernel), ⟨by decide +kernel, by decide +kernel, by decide +kernel⟩, by decide, rfl⟩
theorem kc_X6_liveCells : Cond.code yX6_liveCells mX6_liveCells.2.1 mX6_liveCells.2.2.1 mX6_liveCells.2.2.2.1 ∈ lw_tbl := List.mem_of_getElem? (i := 784) (by decide +kernel)
theorem ko_X6_liveCells : bs_MV mX6_liveCells 6 := ⟨kc_X6_liveCells, kini_X6, List.mem_of_getElem? (i := 782) (by decide +kernel), List.mem_of_getElem? (i := 783) (by decide +kernel), ⟨by decide +kernel, by decide +kernel, by decide +kernel⟩, by decide, rfl⟩
theorem kc_X6_isFreed : Cond.code yX6_isFreed mX6_isFreed.2.1 mX6_isFreed.2.2.1 mX6_isFreed.2.2.2.1 ∈ lw_tbl := List.mem_of_getElem? (i := 792) (by decide +kernel)
theorem ko_X6_isFreed : bs_MV mX6_isFreed 6 := ⟨kc_X6_isFreed, kini_X6, List.mem_of_getElem? (i := 790) (by decide +kernel), List.mem_of_getElem? (i := 791) (by decide +kernel), ⟨by decide +kernel, by decide +kernel, by decide +kernel⟩, by decide, rfl⟩
theorem kc_X6_pointerCount : Cond.code yX6_pointerCount mX6_pointerCount.2.1 mX6_pointerCount.2.2.1 mX6_pointerCount.2.2.2.1 ∈ lw_tbl := List.mem_of_getElem? (i := 796) (by decide +kernel)
theorem ko_X6_pointerCount : bs_MV mX6_pointerCount 6 := ⟨kc_X6_pointerCount, kini_X6, List.mem_of_getElem? (i := 794) (by decide +kernel), List.mem_of_getElem? (i := 795) (by decide +kernel), ⟨by decide +kernel, by decide +kernel, by decide +kernel⟩, by decide, rfl⟩
theorem kc_X6_callDepth : Cond.code yX6_callDepth mX6_callDepth.2.1 mX6_callDepth.2.2.1 mX6_callDepth.2.2.2.1 ∈ lw_tbl := List.mem_of_getElem? (i := 800) (by decide +kernel)
theorem ko_X6_callDepth : bs_MV mX6_callDepth 6 := ⟨kc_X6_callDepth, kini_X6, List.mem_of_getElem? (i := 798) (by decide +kernel), List.mem_of_getElem? (i := 799) (by decide +kernel), ⟨by decide +kernel, by decide +kernel, by decide +kernel⟩, by decide, rfl⟩
theorem kc_X6_violationCount : Cond.code yX6_violationCount mX6_violationCount.2.1 mX6_violationCount.2.2.1 mX6_violationCount.2.2.2.1 ∈ lw_tbl := List.mem_of_getElem? (i := 804) (by decide +kernel)
theorem ko_X6_violationCount : bs_MV mX6_violationCount 6 := ⟨kc_X6_violationCount, kini_X6, List.mem_of_getElem? (i := 802) (by decide +kernel), List.mem_of_getElem? (i := 803) (by decide +kernel), ⟨by decide +kernel, by decide +kernel, by decide +kernel⟩, by decide, rfl⟩
theorem kc_X6_violationKind : Cond.code yX6_violationKind mX6_violationKind.2.1 mX6_violationKind.2.2.1 mX6_violationKind.2.2.2.1 ∈ lw_tbl := List.mem_of_getElem? (i := 808) (by decide +kernel)
theorem ko_X6_violationKind : bs_MV mX6_violationKind 6 := ⟨kc_X6_violationKind, kini_X6, List.mem_of_getElem? (i := 806) (by decide +kernel), List.mem_of_getElem? (i := 807) (by decide +kernel), ⟨by decide +kernel, by decide +kernel, by decide +kernel⟩, by decide, rfl⟩
theorem kc_X6_violationCell : Cond.code yX6_violationCell mX6_violationCell.2.1 mX6_violationCell.2.2.1 mX6_violationCell.2.2.2.1 ∈ lw_tbl := List.mem_of_getElem? (i := 812) (by decide +kernel)
theorem ko_X6_violationCell : bs_MV mX6_violationCell 6 := ⟨kc_X6_violationCell, kini_X6, List.mem_of_getElem? (i := 810) (by decide +kernel), List.mem_of_getElem? (i := 811) (by decide +kernel), ⟨by decide +kernel, by decide +kernel, by decide +kernel⟩, by decide, rfl⟩
theorem kc_X6_errorCount : Cond.code yX6_errorCount mX6_errorCount.2.1 mX6_errorCount.2.2.1 mX6_errorCount.2.2.2.1 ∈ lw_tbl := List.mem_of_getElem? (i := 816) (by decide +kernel)
theorem ko_X6_errorCount : bs_MV mX6_errorCount 6 := ⟨kc_X6_errorCount, kini_X6, List.mem_of_getElem? (i := 814) (by decide +kernel), List.mem_of_getElem? (i := 815) (by decide +kernel), ⟨by decide +kernel, by decide +kernel, by decide +kernel⟩, by decide, rfl⟩
theorem kc_X6_append : Cond.code yX6_append mX6_append.2.1 mX6_append.2.2.1 mX6_append.2.2.2.1 ∈ lw_tbl := List.mem_of_getElem? (i := 820) (by decide +kernel)
theorem ko_X6_append : bs_MV mX6_append 6 := ⟨kc_X6_append, kini_X6, List.mem_of_getElem? (i := 818) (by decide +kernel), List.mem_of_getElem? (i := 819) (by decide +kernel), ⟨by decide +kernel, by decide +kernel, by decide +kernel⟩, by decide, rfl⟩
theorem kc_X6_clearText : Cond.code yX6_clearText mX6_clearText.2.1 mX6_clearText.2.2.1 mX6_clearText.2.2.2.1 ∈ lw_tbl := List.mem_of_getElem? (i := 824) (by decide +kernel)
theorem ko_X6_clearText : bs_MV mX6_clearText 6 := ⟨kc_X6_clearText, kini_X6, List.mem_of_getElem? (i := 822) (by decide +kernel), List.mem_of_getElem? (i := 823) (by decide +kernel), ⟨by decide +kernel, by decide +kernel, by decide +kernel⟩, by decide, rfl⟩
theorem kc_X6_isAt : Cond.code yX6_isAt mX6_isAt.2.1 mX6_isAt.2.2.1 mX6_isAt.2.2.2.1 ∈ lw_tbl := List.mem_of_getElem? (i := 840) (by decide +kernel)
theorem ko_X6_isAt : bs_MV mX6_isAt 6 := ⟨kc_X6_isAt, kini_X6, List.mem_of_getElem? (i := 839) (by decide +kernel), List.mem_of_getElem? (i := 44) (by decide +kernel), ⟨by decide +kernel, by decide +kernel, by decide +kernel⟩, by decide, rfl⟩
theorem kc_X6_blanks : Cond.code yX6_blanks mX6_blanks.2.1 mX6_blanks.2.2.1 mX6_blanks.2.2.2.1 ∈ lw_tbl := List.mem_of_getElem? (i := 836) (by decide +kernel)
theorem ko_X6_blanks : bs_MV mX6_blanks 6 := ⟨kc_X6_blanks, kini_X6, List.mem_of_getElem? (i := 835) (by decide +kernel), List.mem_of_getElem? (i := 43) (by decide +kernel), ⟨by decide +kernel, by decide +kernel, by decide +kernel⟩, by decide, rfl⟩
theorem kc_X6_manyOf : Cond.code yX6_manyOf mX6_manyOf.2.1 mX6_manyOf.2.2.1 mX6_manyOf.2.2.2.1 ∈ lw_tbl := List.mem_of_getElem? (i := 847) (by decide +kernel)
theorem ko_X6_manyOf : bs_MS mX6_manyOf := ⟨kc_X6_manyOf, kini_X6, List.mem_of_getElem? (i := 846) (by decide +kernel), ⟨by decide +kernel, by decide +kernel, by decide +kernel⟩, by decide⟩
theorem kc_X6_takesNumber : Cond.code yX6_takesNumber mX6_takesNumber.2.1 mX6_takesNumber.2.2.1 mX6_takesNumber.2.2.2.1 ∈ lw_tbl := List.mem_of_getElem? (i := 851) (by decide +kernel)
theorem ko_X6_takesNumber : bs_MV mX6_takesNumber 6 := ⟨kc_X6_takesNumber, kini_X6, List.mem_of_getElem? (i := 850) (by decide +kernel), List.mem_of_getElem? (i := 46) (by decide +kernel), ⟨by decide +kernel, by decide +kernel, by decide +kernel⟩, by decide, rfl⟩
theorem kc_X6_takesCommand : Cond.code yX6_takesCommand mX6_takesCommand.2.1 mX6_takesCommand.2.2.1 mX6_takesCommand.2.2.2.1 ∈ lw_tbl := List.mem_of_getElem? (i := 844) (by decide +kernel)
theorem ko_X6_takesCommand : bs_MV mX6_takesCommand 6 := ⟨kc_X6_takesCommand, kini_X6, List.mem_of_getElem? (i := 843) (by decide +kernel), List.mem_of_getElem? (i := 45) (by decide +kernel), ⟨by decide +kernel, by decide +kernel, by decide +kernel⟩, by decide, rfl⟩
theorem kc_X6_isRead : Cond.code yX6_isRead mX6_isRead.2.1 mX6_isRead.2.2.1 mX6_isRead.2.2.2.1 ∈ lw_tbl := List.mem_of_getElem? (i := 832) (by decide +kernel)
theorem ko_X6_isRead : bs_MV mX6_isRead 6 := ⟨kc_X6_isRead, kini_X6, List.mem_of_getElem? (i := 831) (by decide +kernel), List.mem_of_getElem? (i := 42) (by decide +kernel), ⟨by decide +kernel, by decide +kernel, by decide +kernel⟩, by decide, rfl⟩
theorem kc_X6_execute : Cond.code yX6_execute mX6_execute.2.1 mX6_execute.2.2.1 mX6_execute.2.2.2.1 ∈ lw_tbl := List.mem_of_getElem? (i := 859) (by decide +kernel)
theorem ko_X6_execute : bs_MV mX6_execute 6 := ⟨kc_X6_execute, kini_X6, List.mem_of_getElem? (i := 858) (by decide +kernel), List.mem_of_getElem? (i := 48) (by decide +kernel), ⟨by decide +kernel, by decide +kernel, by decide +kernel⟩, by decide, rfl⟩
theorem kc_X6_executeAll : Cond.code yX6_executeAll mX6_executeAll.2.1 mX6_executeAll.2.2.1 mX6_executeAll.2.2.2.1 ∈ lw_tbl := List.mem_of_getElem? (i := 855) (by decide +kernel)
theorem ko_X6_executeAll : bs_MV mX6_executeAll 6 := ⟨kc_X6_executeAll, kini_X6, List.mem_of_getElem? (i := 854) (by decide +kernel), List.mem_of_getElem? (i := 47) (by decide +kernel), ⟨by decide +kernel, by decide +kernel, by decide +kernel⟩, by decide, rfl⟩
theorem kc_X6_runScript : Cond.code yX6_runScript mX6_runScript.2.1 mX6_runScript.2.2.1 mX6_runScript.2.2.2.1 ∈ lw_tbl := List.mem_of_getElem? (i := 828) (by decide +kernel)
theorem ko_X6_runScript : bs_MV mX6_runScript 6 := ⟨kc_X6_runScript, kini_X6, List.mem_of_getElem? (i := 826) (by decide +kernel), List.mem_of_getElem? (i := 827) (by decide +kernel), ⟨by decide +kernel, by decide +kernel, by decide +kernel⟩, by decide, rfl⟩
theorem kc_X6_mix : Cond.code yX6_mix mX6_mix.2.1 mX6_mix.2.2.1 mX6_mix.2.2.2.1 ∈ lw_tbl := List.mem_of_getElem? (i := 875) (by decide +kernel)
theorem ko_X6_mix : bs_MV mX6_mix 6 := ⟨kc_X6_mix, kini_X6, List.mem_of_getElem? (i := 874) (by decide +kernel), List.mem_of_getElem? (i := 49) (by decide +kernel), ⟨by decide +kernel, by decide +kernel, by decide +kernel⟩, by decide, rfl⟩
theorem kc_X6_mixCell : Cond.code yX6_mixCell mX6_mixCell.2.1 mX6_mixCell.2.2.1 mX6_mixCell.2.2.2.1 ∈ lw_tbl := List.mem_of_getElem? (i := 880) (by decide +kernel)
theorem ko_X6_mixCell : bs_MV mX6_mixCell 6 := ⟨kc_X6_mixCell, kini_X6, List.mem_of_getElem? (i := 879) (by decide +kernel), List.mem_of_getElem? (i := 50) (by decide +kernel), ⟨by decide +kernel, by decide +kernel, by decide +kernel⟩, by decide, rfl⟩
theorem kc_X6_digest : Cond.code yX6_digest mX6_digest.2.1 mX6_digest.2.2.1 mX6_digest.2.2.2.1 ∈ lw_tbl := List.mem_of_getElem? (i := 870) (by decide +kernel)
theorem ko_X6_digest : bs_MV mX6_digest 6 := ⟨kc_X6_digest, kini_X6, List.mem_of_getElem? (i := 868) (by decide +kernel), List.mem_of_getElem? (i := 869) (by decide +kernel), ⟨by decide +kernel, by decide +kernel, by decide +kernel⟩, by decide, rfl⟩
theorem kk_L_7 : Cond.classLink RL 7 RX5 ∈ lw_tbl := List.mem_of_getElem? (i := 59) (by decide +kernel)
theorem kin_5 : Cond.instantiable RX5 10 ∈ lw_tbl := List.mem_of_getElem? (i := 60) (by decide +kernel)
theorem km_L_9 : Cond.methodLink RL 9 yX5_init ∈ lw_tbl := List.mem_of_getElem? (i := 61) (by decide +kernel)
theorem kob_X5 : Cond.methodLink RX5 3 objectInit ∈ lw_tbl := List.mem_of_getElem? (i := 64) (by decide +kernel)
theorem kk_X5_9 : Cond.classLink RX5 9 RX0 ∈ lw_tbl := List.mem_of_getElem? (i := 67) (by decide +kernel)
theorem kao_0 : Cond.arrayOver (.object RX0) ∈ lw_tbl := List.mem_of_getElem? (i := 68) (by decide +kernel)
theorem kk_X5_15 : Cond.classLink RX5 15 RX3 ∈ lw_tbl := List.mem_of_getElem? (i := 69) (by decide +kernel)
theorem kao_3 : Cond.arrayOver (.object RX3) ∈ lw_tbl := List.mem_of_getElem? (i := 70) (by decide +kernel)
theorem kk_X5_21 : Cond.classLink RX5 21 RX1 ∈ lw_tbl := List.mem_of_getElem? (i := 71) (by decide +kernel)
theorem kin_1 : Cond.instantiable RX1 3 ∈ lw_tbl := List.mem_of_getElem? (i := 72) (by decide +kernel)
theorem km_X5_23 : Cond.methodLink RX5 23 yX1_init ∈ lw_tbl := List.mem_of_getElem? (i := 73) (by decide +kernel)
theorem kob_X1 : Cond.methodLink RX1 3 objectInit ∈ lw_tbl := List.mem_of_getElem? (i := 76) (by decide +kernel)
theorem kf_X1_9 : bs_FL RX1 9 1 0 (.array .int) true := bs_fl cl_1 (by decide) rfl rfl rfl (Or.inl (List.mem_of_getElem? (i := 77) (by decide +kernel)))
theorem kF_X1_9 : bs_FF RX1 9 1 0 (.array .int) := bs_ff cl_1 (by decide) rfl rfl rfl (List.mem_of_getElem? (i := 77) (by decide +kernel))
theorem kf_X1_19 : bs_FL RX1 19 1 1 .int false := bs_fl cl_1 (by decide) rfl rfl rfl (Or.inl (List.mem_of_getElem? (i := 78) (by decide +kernel)))
theorem kf_X5_149 : bs_FL RX5 149 1 1 .int false := bs_fl cl_1 (by decide) rfl rfl rfl (Or.inr ⟨"BorrowStacks", List.mem_of_getElem? (i := 79) (by decide +kernel)⟩)
theorem kf_X1_15 : bs_FL RX1 15 1 2 .int false := bs_fl cl_1 (by decide) rfl rfl rfl (Or.inl (List.mem_of_getElem? (i := 80) (by decide +kernel)))
theorem kar_I : Cond.arrayClass .int ∈ lw_tbl := List.mem_of_getElem? (i := 88) (by decide +kernel)
theorem kk_X5_28 : Cond.classLink RX5 28 RX4 ∈ lw_tbl := List.mem_of_getElem? (i := 89) (by decide +kernel)
theorem kin_4 : Cond.instantiable RX4 6 ∈ lw_tbl := List.mem_of_getElem? (i := 90) (by decide +kernel)
theorem km_X5_30 : Cond.methodLink RX5 30 yX4_init ∈ lw_tbl := List.mem_of_getElem? (i := 91) (by decide +kernel)
theorem kob_X4 : Cond.methodLink RX4 3 objectInit ∈ lw_tbl := List.mem_of_getElem? (i := 94) (by decide +kernel)
theorem kf_X4_9 : bs_FL RX4 9 4 0 (.array .int) true := bs_fl cl_4 (by decide) rfl rfl rfl (Or.inl (List.mem_of_getElem? (i := 95) (by decide +kernel)))
theorem kF_X4_9 : bs_FF RX4 9 4 0 (.array .int) := bs_ff cl_4 (by decide) rfl rfl rfl (List.mem_of_getElem? (i := 95) (by decide +kernel))
theorem kf_X4_21 : bs_FL RX4 21 4 1 .int false := bs_fl cl_4 (by decide) rfl rfl rfl (Or.inl (List.mem_of_getElem? (i := 96) (by decide +kernel)))
theorem kf_X5_158 : bs_FL RX5 158 4 1 .int false := bs_fl cl_4 (by decide) rfl rfl rfl (Or.inr ⟨"BorrowStacks", List.mem_of_getElem? (i := 97) (by decide +kernel)⟩)
theorem kf_X4_15 : bs_FL RX4 15 4 2 (.array .int) true := bs_fl cl_4 (by decide) rfl rfl rfl (Or.inl (List.mem_of_getElem? (i := 98) (by decide +kernel)))
theorem kF_X4_15 : bs_FF RX4 15 4 2 (.array .int) := bs_ff cl_4 (by decide) rfl rfl rfl (List.mem_of_getElem? (i := 98) (by decide +kernel))
theorem kf_X4_18 : bs_FL RX4 18 4 3 (.array .int) true := bs_fl cl_4 (by decide) rfl rfl rfl (Or.inl (List.mem_of_getElem? (i := 99) (by decide +kernel)))
theorem kF_X4_18 : bs_FF RX4 18 4 3 (.array .int) := bs_ff cl_4 (by decide) rfl rfl rfl (List.mem_of_getElem? (i := 99) (by decide +kernel))
theorem kf_X4_25 : bs_FL RX4 25 4 4 .int false := bs_fl cl_4 (by decide) rfl rfl rfl (Or.inl (List.mem_of_getElem? (i := 100) (by decide +kernel)))
theorem kf_X5_164 : bs_FL RX5 164 4 4 .int false := bs_fl cl_4 (by decide) rfl rfl rfl (Or.inr ⟨"BorrowStacks", List.mem_of_getElem? (i := 101) (by decide +kernel)⟩)
theorem kf_X4_28 : bs_FL RX4 28 4 5 .int false := bs_fl cl_4 (by decide) rfl rfl rfl (Or.inl (List.mem_of_getElem? (i := 102) (by decide +kernel)))
theorem kf_X5_11 : bs_FL RX5 11 5 0 (.array (.object "BorrowStacks$Allocation")) true := bs_fl cl_5 (by decide) rfl rfl rfl (Or.inl (List.mem_of_getElem? (i := 116) (by decide +kernel)))
theorem kF_X5_11 : bs_FF RX5 11 5 0 (.array (.object "BorrowStacks$Allocation")) := bs_ff cl_5 (by decide) rfl rfl rfl (List.mem_of_getElem? (i := 116) (by decide +kernel))
theorem kf_X5_179 : bs_FL RX5 179 5 1 .int false := bs_fl cl_5 (by decide) rfl rfl rfl (Or.inl (List.mem_of_getElem? (i := 117) (by decide +kernel)))
theorem kf_X5_17 : bs_FL RX5 17 5 2 (.array (.object "BorrowStacks$Pointer")) true := bs_fl cl_5 (by decide) rfl rfl rfl (Or.inl (List.mem_of_getElem? (i := 118) (by decide +kernel)))
theorem kF_X5_17 : bs_FF RX5 17 5 2 (.array (.object "BorrowStacks$Pointer")) := bs_ff cl_5 (by decide) rfl rfl rfl (List.mem_of_getElem? (i := 118) (by decide +kernel))
theorem kf_X5_146 : bs_FL RX5 146 5 3 .int false := bs_fl cl_5 (by decide) rfl rfl rfl (Or.inl (List.mem_of_getElem? (i := 119) (by decide +kernel)))
theorem kf_X5_24 : bs_FL RX5 24 5 4 (.object "BorrowStacks$Calls") true := bs_fl cl_5 (by decide) rfl rfl rfl (Or.inl (List.mem_of_getElem? (i := 120) (by decide +kernel)))
theorem kF_X5_24 : bs_FF RX5 24 5 4 (.object "BorrowStacks$Calls") := bs_ff cl_5 (by decide) rfl rfl rfl (List.mem_of_getElem? (i := 120) (by decide +kernel))
theorem kf_X5_31 : bs_FL RX5 31 5 5 (.object "BorrowStacks$Script") true := bs_fl cl_5 (by decide) rfl rfl rfl (Or.inl (List.mem_of_getElem? (i := 121) (by decide +kernel)))
theorem kF_X5_31 : bs_FF RX5 31 5 5 (.object "BorrowStacks$Script") := bs_ff cl_5 (by decide) rfl rfl rfl (List.mem_of_getElem? (i := 121) (by decide +kernel))
theorem kf_X5_35 : bs_FL RX5 35 5 6 (.array .int) true := bs_fl cl_5 (by decide) rfl rfl rfl (Or.inl (List.mem_of_getElem? (i := 122) (by decide +kernel)))
theorem kF_X5_35 : bs_FF RX5 35 5 6 (.array .int) := bs_ff cl_5 (by decide) rfl rfl rfl (List.mem_of_getElem? (i := 122) (by decide +kernel))
theorem kf_X5_152 : bs_FL RX5 152 5 7 .int false := bs_fl cl_5 (by decide) rfl rfl rfl (Or.inl (List.mem_of_getElem? (i := 123) (by decide +kernel)))
theorem kf_X5_39 : bs_FL RX5 39 5 8 .int false := bs_fl cl_5 (by decide) rfl rfl rfl (Or.inl (List.mem_of_getElem? (i := 124) (by decide +kernel)))
theorem kf_X5_43 : bs_FL RX5 43 5 9 .int false := bs_fl cl_5 (by decide) rfl rfl rfl (Or.inl (List.mem_of_getElem? (i := 125) (by decide +kernel)))
theorem km_L_13 : bs_ML RL 13 yX5_allocate := Or.inl (List.mem_of_getElem? (i := 147) (by decide +kernel))
theorem km_X5_46 : bs_ML RX5 46 yX5_performAllocate := Or.inl (List.mem_of_getElem? (i := 151) (by decide +kernel))
theorem kin_0 : Cond.instantiable RX0 3 ∈ lw_tbl := List.mem_of_getElem? (i := 155) (by decide +kernel)
theorem km_X5_195 : Cond.methodLink RX5 195 yX0_init ∈ lw_tbl := List.mem_of_getElem? (i := 156) (by decide +kernel)
theorem kob_X0 : Cond.methodLink RX0 3 objectInit ∈ lw_tbl := List.mem_of_getElem? (i := 159) (by decide +kernel)
theorem kk_X0_15 : Cond.classLink RX0 15 RX2 ∈ lw_tbl := List.mem_of_getElem? (i := 160) (by decide +kernel)
theorem kao_2 : Cond.arrayOver (.object RX2) ∈ lw_tbl := List.mem_of_getElem? (i := 161) (by decide +kernel)
theorem kin_2 : Cond.instantiable RX2 5 ∈ lw_tbl := List.mem_of_getElem? (i := 162) (by decide +kernel)
theorem km_X0_21 : Cond.methodLink RX0 21 yX2_init ∈ lw_tbl := List.mem_of_getElem? (i := 163) (by decide +kernel)
theorem kob_X2 : Cond.methodLink RX2 3 objectInit ∈ lw_tbl := List.mem_of_getElem? (i := 166) (by decide +kernel)
theorem kf_X2_9 : bs_FL RX2 9 2 0 (.array .int) true := bs_fl cl_2 (by decide) rfl rfl rfl (Or.inl (List.mem_of_getElem? (i := 167) (by decide +kernel)))
theorem kF_X2_9 : bs_FF RX2 9 2 0 (.array .int) := bs_ff cl_2 (by decide) rfl rfl rfl (List.mem_of_getElem? (i := 167) (by decide +kernel))
theorem kf_X5_117 : bs_FL RX5 117 2 0 (.array .int) true := bs_fl cl_2 (by decide) rfl rfl rfl (Or.inr ⟨"BorrowStacks", List.mem_of_getElem? (i := 168) (by decide +kernel)⟩)
theorem kf_X2_15 : bs_FL RX2 15 2 1 (.array .int) true := bs_fl cl_2 (by decide) rfl rfl rfl (Or.inl (List.mem_of_getElem? (i := 169) (by decide +kernel)))
theorem kF_X2_15 : bs_FF RX2 15 2 1 (.array .int) := bs_ff cl_2 (by decide) rfl rfl rfl (List.mem_of_getElem? (i := 169) (by decide +kernel))
theorem kf_X5_120 : bs_FL RX5 120 2 1 (.array .int) true := bs_fl cl_2 (by decide) rfl rfl rfl (Or.inr ⟨"BorrowStacks", List.mem_of_getElem? (i := 170) (by decide +kernel)⟩)
theorem kf_X2_18 : bs_FL RX2 18 2 2 (.array .int) true := bs_fl cl_2 (by decide) rfl rfl rfl (Or.inl (List.mem_of_getElem? (i := 171) (by decide +kernel)))
theorem kF_X2_18 : bs_FF RX2 18 2 2 (.array .int) := bs_ff cl_2 (by decide) rfl rfl rfl (List.mem_of_getElem? (i := 171) (by decide +kernel))
theorem kf_X5_123 : bs_FL RX5 123 2 2 (.array .int) true := bs_fl cl_2 (by decide) rfl rfl rfl (Or.inr ⟨"BorrowStacks", List.mem_of_getElem? (i := 172) (by decide +kernel)⟩)
theorem kf_X2_21 : bs_FL RX2 21 2 3 .int false := bs_fl cl_2 (by decide) rfl rfl rfl (Or.inl (List.mem_of_getElem? (i := 173) (by decide +kernel)))
theorem kf_X5_103 : bs_FL RX5 103 2 3 .int false := bs_fl cl_2 (by decide) rfl rfl rfl (Or.inr ⟨"BorrowStacks", List.mem_of_getElem? (i := 174) (by decide +kernel)⟩)
theorem kf_X2_63 : bs_FL RX2 63 2 4 .int false := bs_fl cl_2 (by decide) rfl rfl rfl (Or.inl (List.mem_of_getElem? (i := 175) (by decide +kernel)))
theorem kf_X5_209 : bs_FL RX5 209 2 4 .int false := bs_fl cl_2 (by decide) rfl rfl rfl (Or.inr ⟨"BorrowStacks", List.mem_of_getElem? (i := 176) (by decide +kernel)⟩)
theorem kf_X0_9 : bs_FL RX0 9 0 0 .int true := bs_fl cl_0 (by decide) rfl rfl rfl (Or.inl (List.mem_of_getElem? (i := 188) (by decide +kernel)))
theorem kF_X0_9 : bs_FF RX0 9 0 0 .int := bs_ff cl_0 (by decide) rfl rfl rfl (List.mem_of_getElem? (i := 188) (by decide +kernel))
theorem kf_X5_133 : bs_FL RX5 133 0 0 .int true := bs_fl cl_0 (by decide) rfl rfl rfl (Or.inr ⟨"BorrowStacks", List.mem_of_getElem? (i := 189) (by decide +kernel)⟩)
theorem kf_X0_17 : bs_FL RX0 17 0 1 (.array (.object "BorrowStacks$Cell")) true := bs_fl cl_0 (by decide) rfl rfl rfl (Or.inl (List.mem_of_getElem? (i := 190) (by decide +kernel)))
theorem kF_X0_17 : bs_FF RX0 17 0 1 (.array (.object "BorrowStacks$Cell")) := bs_ff cl_0 (by decide) rfl rfl rfl (List.mem_of_getElem? (i := 190) (by decide +kernel))
theorem kf_X5_219 : bs_FL RX5 219 0 1 (.array (.object "BorrowStacks$Cell")) true := bs_fl cl_0 (by decide) rfl rfl rfl (Or.inr ⟨"BorrowStacks", List.mem_of_getElem? (i := 191) (by decide +kernel)⟩)
theorem kf_X0_28 : bs_FL RX0 28 0 2 .boolean false := bs_fl cl_0 (by decide) rfl rfl rfl (Or.inl (List.mem_of_getElem? (i := 192) (by decide +kernel)))
theorem kf_X5_87 : bs_FL RX5 87 0 2 .boolean false := bs_fl cl_0 (by decide) rfl rfl rfl (Or.inr ⟨"BorrowStacks", List.mem_of_getElem? (i := 193) (by decide +kernel)⟩)
theorem km_X5_198 : bs_ML RX5 198 yX5_addPointer := Or.inl (List.mem_of_getElem? (i := 201) (by decide +kernel))
theorem kin_3 : Cond.instantiable RX3 2 ∈ lw_tbl := List.mem_of_getElem? (i := 205) (by decide +kernel)
theorem km_X5_253 : Cond.methodLink RX5 253 yX3_init ∈ lw_tbl := List.mem_of_getElem? (i := 206) (by decide +kernel)
theorem kob_X3 : Cond.methodLink RX3 1 objectInit ∈ lw_tbl := List.mem_of_getElem? (i := 209) (by decide +kernel)
theorem kf_X3_7 : bs_FL RX3 7 3 0 (.object "BorrowStacks$Allocation") true := bs_fl cl_3 (by decide) rfl rfl rfl (Or.inl (List.mem_of_getElem? (i := 210) (by decide +kernel)))
theorem kF_X3_7 : bs_FF RX3 7 3 0 (.object "BorrowStacks$Allocation") := bs_ff cl_3 (by decide) rfl rfl rfl (List.mem_of_getElem? (i := 210) (by decide +kernel))
theorem kf_X5_83 : bs_FL RX5 83 3 0 (.object "BorrowStacks$Allocation") true := bs_fl cl_3 (by decide) rfl rfl rfl (Or.inr ⟨"BorrowStacks", List.mem_of_getElem? (i := 211) (by decide +kernel)⟩)
theorem kf_X3_13 : bs_FL RX3 13 3 1 .int true := bs_fl cl_3 (by decide) rfl rfl rfl (Or.inl (List.mem_of_getElem? (i := 212) (by decide +kernel)))
theorem kF_X3_13 : bs_FF RX3 13 3 1 .int := bs_ff cl_3 (by decide) rfl rfl rfl (List.mem_of_getElem? (i := 212) (by decide +kernel))
theorem kf_X5_136 : bs_FL RX5 136 3 1 .int true := bs_fl cl_3 (by decide) rfl rfl rfl (Or.inr ⟨"BorrowStacks", List.mem_of_getElem? (i := 213) (by decide +kernel)⟩)
theorem km_X5_50 : bs_ML RX5 50 yX5_counted := Or.inl (List.mem_of_getElem? (i := 219) (by decide +kernel))
theorem km_L_18 : bs_ML RL 18 yX5_read := Or.inl (List.mem_of_getElem? (i := 223) (by decide +kernel))
theorem km_X5_53 : bs_ML RX5 53 yX5_performRead := Or.inl (List.mem_of_getElem? (i := 227) (by decide +kernel))
theorem km_X5_75 : bs_ML RX5 75 yX5_pointerAt := Or.inl (List.mem_of_getElem? (i := 231) (by decide +kernel))
theorem km_X5_79 : bs_ML RX5 79 yX5_cellThrough := Or.inl (List.mem_of_getElem? (i := 235) (by decide +kernel))
theorem km_X5_215 : bs_ML RX5 215 yX0_hasRange := Or.inl (List.mem_of_getElem? (i := 238) (by decide +kernel))
theorem km_X5_202 : bs_ML RX5 202 yX5_violated := Or.inl (List.mem_of_getElem? (i := 242) (by decide +kernel))
theorem km_X5_91 : bs_ML RX5 91 yX2_readViolation := Or.inl (List.mem_of_getElem? (i := 246) (by decide +kernel))
theorem km_X2_29 : bs_ML RX2 29 yX2_grantOfRead := Or.inl (List.mem_of_getElem? (i := 250) (by decide +kernel))
theorem km_X2_32 : bs_ML RX2 32 yX1_isActive := Or.inl (List.mem_of_getElem? (i := 254) (by decide +kernel))
theorem km_X5_205 : bs_ML RX5 205 yX2_applyRead := Or.inl (List.mem_of_getElem? (i := 258) (by decide +kernel))
theorem km_L_23 : bs_ML RL 23 yX5_write := Or.inl (List.mem_of_getElem? (i := 262) (by decide +kernel))
theorem km_X5_57 : bs_ML RX5 57 yX5_performWrite := Or.inl (List.mem_of_getElem? (i := 266) (by decide +kernel))
theorem km_X5_97 : bs_ML RX5 97 yX2_writeViolation := Or.inl (List.mem_of_getElem? (i := 270) (by decide +kernel))
theorem km_X2_25 : bs_ML RX2 25 yX2_grantOfWrite := Or.inl (List.mem_of_getElem? (i := 274) (by decide +kernel))
theorem km_X2_38 : bs_ML RX2 38 yX2_keptByWrite := Or.inl (List.mem_of_getElem? (i := 278) (by decide +kernel))
theorem km_X2_41 : bs_ML RX2 41 yX2_hasProtectedFrom := Or.inl (List.mem_of_getElem? (i := 282) (by decide +kernel))
theorem km_X5_212 : bs_ML RX5 212 yX2_applyWrite := Or.inl (List.mem_of_getElem? (i := 286) (by decide +kernel))
theorem km_L_28 : bs_ML RL 28 yX5_reborrow := Or.inl (List.mem_of_getElem? (i := 290) (by decide +kernel))
theorem km_X5_61 : bs_ML RX5 61 yX5_performReborrow := Or.inl (List.mem_of_getElem? (i := 294) (by decide +kernel))
theorem km_X5_223 : bs_ML RX5 223 yX2_reborrowViolation := Or.inl (List.mem_of_getElem? (i := 298) (by decide +kernel))
theorem km_X2_45 : bs_ML RX2 45 yX2_writeViolation := Or.inl (List.mem_of_getElem? (i := 302) (by decide +kernel))
theorem km_X2_49 : bs_ML RX2 49 yX2_readViolation := Or.inl (List.mem_of_getElem? (i := 303) (by decide +kernel))
theorem km_X5_227 : bs_ML RX5 227 yX2_hasRoomToReborrow := Or.inl (List.mem_of_getElem? (i := 304) (by decide +kernel))
theorem km_X5_230 : bs_ML RX5 230 yX1_innermost := Or.inl (List.mem_of_getElem? (i := 308) (by decide +kernel))
theorem km_X5_233 : bs_ML RX5 233 yX2_applyReborrow := Or.inl (List.mem_of_getElem? (i := 312) (by decide +kernel))
theorem km_X2_52 : bs_ML RX2 52 yX2_applyWrite := Or.inl (List.mem_of_getElem? (i := 316) (by decide +kernel))
theorem km_X2_56 : bs_ML RX2 56 yX2_insertItem := Or.inl (List.mem_of_getElem? (i := 317) (by decide +kernel))
theorem km_X2_60 : bs_ML RX2 60 yX2_applyRead := Or.inl (List.mem_of_getElem? (i := 321) (by decide +kernel))
theorem km_L_33 : bs_ML RL 33 yX5_free := Or.inl (List.mem_of_getElem? (i := 322) (by decide +kernel))
theorem km_X5_65 : bs_ML RX5 65 yX5_performFree := Or.inl (List.mem_of_getElem? (i := 326) (by decide +kernel))
theorem km_X5_100 : bs_ML RX5 100 yX0_freeViolation := Or.inl (List.mem_of_getElem? (i := 330) (by decide +kernel))
theorem km_X0_24 : bs_ML RX0 24 yX2_freeViolation := Or.inl (List.mem_of_getElem? (i := 334) (by decide +kernel))
theorem km_X5_237 : bs_ML RX5 237 yX0_firstCellAgainstFree := Or.inl (List.mem_of_getElem? (i := 338) (by decide +kernel))
theorem km_L_37 : bs_ML RL 37 yX5_enterCall := Or.inl (List.mem_of_getElem? (i := 342) (by decide +kernel))
theorem km_X5_68 : bs_ML RX5 68 yX5_performEnter := Or.inl (List.mem_of_getElem? (i := 346) (by decide +kernel))
theorem km_X5_240 : bs_ML RX5 240 yX1_enter := Or.inl (List.mem_of_getElem? (i := 350) (by decide +kernel))
theorem km_L_42 : bs_ML RL 42 yX5_leaveCall := Or.inl (List.mem_of_getElem? (i := 354) (by decide +kernel))
theorem km_X5_72 : bs_ML RX5 72 yX5_performLeave := Or.inl (List.mem_of_getElem? (i := 358) (by decide +kernel))
theorem km_X5_244 : bs_ML RX5 244 yX1_leave := Or.inl (List.mem_of_getElem? (i := 362) (by decide +kernel))
theorem km_L_46 : bs_ML RL 46 yX5_checkRead := Or.inl (List.mem_of_getElem? (i := 366) (by decide +kernel))
theorem km_L_50 : bs_ML RL 50 yX5_checkWrite := Or.inl (List.mem_of_getElem? (i := 370) (by decide +kernel))
theorem km_L_54 : bs_ML RL 54 yX5_checkFree := Or.inl (List.mem_of_getElem? (i := 374) (by decide +kernel))
theorem km_L_58 : bs_ML RL 58 yX5_removedByWrite := Or.inl (List.mem_of_getElem? (i := 378) (by decide +kernel))
theorem km_X5_106 : bs_ML RX5 106 yX2_keptByWrite := Or.inl (List.mem_of_getElem? (i := 382) (by decide +kernel))
theorem km_L_62 : bs_ML RL 62 yX5_stackSize := Or.inl (List.mem_of_getElem? (i := 383) (by decide +kernel))
theorem km_X5_109 : bs_ML RX5 109 yX5_cellAt := Or.inl (List.mem_of_getElem? (i := 387) (by decide +kernel))
theorem km_X5_142 : bs_ML RX5 142 yX5_allocationAt := Or.inl (List.mem_of_getElem? (i := 391) (by decide +kernel))
theorem km_L_66 : bs_ML RL 66 yX5_itemTag := Or.inl (List.mem_of_getElem? (i := 395) (by decide +kernel))
theorem km_X5_113 : bs_ML RX5 113 yX2_hasItem := Or.inl (List.mem_of_getElem? (i := 399) (by decide +kernel))
theorem km_L_70 : bs_ML RL 70 yX5_itemPermission := Or.inl (List.mem_of_getElem? (i := 403) (by decide +kernel))
theorem km_L_74 : bs_ML RL 74 yX5_itemProtected := Or.inl (List.mem_of_getElem? (i := 407) (by decide +kernel))
theorem km_X5_126 : bs_ML RX5 126 yX1_isActive := Or.inl (List.mem_of_getElem? (i := 411) (by decide +kernel))
theorem km_X5_129 : bs_ML RX5 129 yX5_asNumber := Or.inl (List.mem_of_getElem? (i := 412) (by decide +kernel))
theorem km_L_78 : bs_ML RL 78 yX5_allocationOf := Or.inl (List.mem_of_getElem? (i := 415) (by decide +kernel))
theorem km_L_82 : bs_ML RL 82 yX5_parent := Or.inl (List.mem_of_getElem? (i := 419) (by decide +kernel))
theorem km_L_86 : bs_ML RL 86 yX5_liveCells := Or.inl (List.mem_of_getElem? (i := 423) (by decide +kernel))
theorem km_X5_139 : bs_ML RX5 139 yX0_cellsAliveFor := Or.inl (List.mem_of_getElem? (i := 427) (by decide +kernel))
theorem km_X0_32 : bs_ML RX0 32 yX2_grantOfRead := Or.inl (List.mem_of_getElem? (i := 431) (by decide +kernel))
theorem km_L_90 : bs_ML RL 90 yX5_isFreed := Or.inl (List.mem_of_getElem? (i := 432) (by decide +kernel))
theorem km_L_94 : bs_ML RL 94 yX5_pointerCount := Or.inl (List.mem_of_getElem? (i := 436) (by decide +kernel))
theorem km_L_98 : bs_ML RL 98 yX5_callDepth := Or.inl (List.mem_of_getElem? (i := 440) (by decide +kernel))
theorem km_L_102 : bs_ML RL 102 yX5_violationCount := Or.inl (List.mem_of_getElem? (i := 444) (by decide +kernel))
theorem km_L_106 : bs_ML RL 106 yX5_violationKind := Or.inl (List.mem_of_getElem? (i := 448) (by decide +kernel))
theorem km_L_110 : bs_ML RL 110 yX5_violationCell := Or.inl (List.mem_of_getElem? (i := 452) (by decide +kernel))
theorem km_L_114 : bs_ML RL 114 yX5_errorCount := Or.inl (List.mem_of_getElem? (i := 456) (by decide +kernel))
theorem km_L_118 : bs_ML RL 118 yX5_append := Or.inl (List.mem_of_getElem? (i := 460) (by decide +kernel))
theorem km_X5_155 : bs_ML RX5 155 yX4_addByte := Or.inl (List.mem_of_getElem? (i := 464) (by decide +kernel))
theorem km_L_122 : bs_ML RL 122 yX5_clearText := Or.inl (List.mem_of_getElem? (i := 468) (by decide +kernel))
theorem km_L_126 : bs_ML RL 126 yX5_runScript := Or.inl (List.mem_of_getElem? (i := 472) (by decide +kernel))
theorem km_X5_161 : bs_ML RX5 161 yX4_parse := Or.inl (List.mem_of_getElem? (i := 476) (by decide +kernel))
theorem km_X4_31 : bs_ML RX4 31 yX4_skipSpaces := Or.inl (List.mem_of_getElem? (i := 480) (by decide +kernel))
theorem km_X4_34 : bs_ML RX4 34 yX4_parseCommand := Or.inl (List.mem_of_getElem? (i := 484) (by decide +kernel))
theorem km_X4_38 : bs_ML RX4 38 yX4_byteHere := Or.inl (List.mem_of_getElem? (i := 488) (by decide +kernel))
theorem km_X4_42 : bs_ML RX4 42 yX4_argumentsOf := Or.inl (List.mem_of_getElem? (i := 492) (by decide +kernel))
theorem km_X4_46 : bs_ML RX4 46 yX4_parseArgument := Or.inl (List.mem_of_getElem? (i := 495) (by decide +kernel))
theorem km_X4_50 : bs_ML RX4 50 yX4_isDigitHere := Or.inl (List.mem_of_getElem? (i := 499) (by decide +kernel))
theorem km_X5_167 : bs_ML RX5 167 yX5_performCommand := Or.inl (List.mem_of_getElem? (i := 503) (by decide +kernel))
theorem km_X5_247 : bs_ML RX5 247 yX4_argument := Or.inl (List.mem_of_getElem? (i := 507) (by decide +kernel))
theorem km_X5_250 : bs_ML RX5 250 yX4_letter := Or.inl (List.mem_of_getElem? (i := 511) (by decide +kernel))
theorem km_X5_170 : bs_ML RX5 170 yX5_isFailure := Or.inl (List.mem_of_getElem? (i := 515) (by decide +kernel))
theorem km_L_130 : bs_ML RL 130 yX5_digest := Or.inl (List.mem_of_getElem? (i := 518) (by decide +kernel))
theorem kj_X5_173 : Cond.constantLong RX5 173 (12011) ∈ lw_tbl := List.mem_of_getElem? (i := 522) (by decide +kernel)
theorem km_X5_175 : bs_ML RX5 175 yX5_mixed := Or.inl (List.mem_of_getElem? (i := 523) (by decide +kernel))
theorem kj_X5_256 : Cond.constantLong RX5 256 (31) ∈ lw_tbl := List.mem_of_getElem? (i := 526) (by decide +kernel)
theorem km_X5_182 : bs_ML RX5 182 yX0_mixedInto := Or.inl (List.mem_of_getElem? (i := 527) (by decide +kernel))
theorem km_X0_36 : bs_ML RX0 36 yX5_mixed := Or.inr ⟨"BorrowStacks", List.mem_of_getElem? (i := 531) (by decide +kernel)⟩
theorem km_X0_40 : bs_ML RX0 40 yX5_asNumber := Or.inr ⟨"BorrowStacks", List.mem_of_getElem? (i := 532) (by decide +kernel)⟩
theorem km_X0_44 : bs_ML RX0 44 yX2_mixedInto := Or.inl (List.mem_of_getElem? (i := 533) (by decide +kernel))
theorem km_X2_66 : bs_ML RX2 66 yX5_mixed := Or.inr ⟨"BorrowStacks", List.mem_of_getElem? (i := 537) (by decide +kernel)⟩
theorem km_X2_70 : bs_ML RX2 70 yX5_asNumber := Or.inr ⟨"BorrowStacks", List.mem_of_getElem? (i := 538) (by decide +kernel)⟩
theorem km_X5_186 : bs_ML RX5 186 yX5_allocationOf := Or.inl (List.mem_of_getElem? (i := 539) (by decide +kernel))
theorem km_X5_189 : bs_ML RX5 189 yX5_parent := Or.inl (List.mem_of_getElem? (i := 540) (by decide +kernel))
theorem km_X5_192 : bs_ML RX5 192 yX5_liveCells := Or.inl (List.mem_of_getElem? (i := 541) (by decide +kernel))
theorem kk_L_10 : Cond.classLink RL 10 RX6 ∈ lw_tbl := List.mem_of_getElem? (i := 542) (by decide +kernel)
theorem kin_6 : Cond.instantiable RX6 24 ∈ lw_tbl := List.mem_of_getElem? (i := 543) (by decide +kernel)
theorem km_L_12 : Cond.methodLink RL 12 yX6_init ∈ lw_tbl := List.mem_of_getElem? (i := 544) (by decide +kernel)
theorem kob_X6 : Cond.methodLink RX6 1 objectInit ∈ lw_tbl := List.mem_of_getElem? (i := 547) (by decide +kernel)
theorem kf_X6_97 : bs_FL RX6 97 6 0 .int false := bs_fl cl_6 (by decide) rfl rfl rfl (Or.inl (List.mem_of_getElem? (i := 548) (by decide +kernel)))
theorem kf_X6_7 : bs_FL RX6 7 6 1 (.array .int) true := bs_fl cl_6 (by decide) rfl rfl rfl (Or.inl (List.mem_of_getElem? (i := 549) (by decide +kernel)))
theorem kF_X6_7 : bs_FF RX6 7 6 1 (.array .int) := bs_ff cl_6 (by decide) rfl rfl rfl (List.mem_of_getElem? (i := 549) (by decide +kernel))
theorem kf_X6_13 : bs_FL RX6 13 6 2 (.array .boolean) true := bs_fl cl_6 (by decide) rfl rfl rfl (Or.inl (List.mem_of_getElem? (i := 550) (by decide +kernel)))
theorem kF_X6_13 : bs_FF RX6 13 6 2 (.array .boolean) := bs_ff cl_6 (by decide) rfl rfl rfl (List.mem_of_getElem? (i := 550) (by decide +kernel))
theorem kf_X6_17 : bs_FL RX6 17 6 3 (.array .int) true := bs_fl cl_6 (by decide) rfl rfl rfl (Or.inl (List.mem_of_getElem? (i := 551) (by decide +kernel)))
theorem kF_X6_17 : bs_FF RX6 17 6 3 (.array .int) := bs_ff cl_6 (by decide) rfl rfl rfl (List.mem_of_getElem? (i := 551) (by decide +kernel))
theorem kf_X6_20 : bs_FL RX6 20 6 4 (.array .int) true := bs_fl cl_6 (by decide) rfl rfl rfl (Or.inl (List.mem_of_getElem? (i := 552) (by decide +kernel)))
theorem kF_X6_20 : bs_FF RX6 20 6 4 (.array .int) := bs_ff cl_6 (by decide) rfl rfl rfl (List.mem_of_getElem? (i := 552) (by decide +kernel))
theorem kf_X6_23 : bs_FL RX6 23 6 5 (.array .int) true := bs_fl cl_6 (by decide) rfl rfl rfl (Or.inl (List.mem_of_getElem? (i := 553) (by decide +kernel)))
theorem kF_X6_23 : bs_FF RX6 23 6 5 (.array .int) := bs_ff cl_6 (by decide) rfl rfl rfl (List.mem_of_getElem? (i := 553) (by decide +kernel))
theorem kf_X6_26 : bs_FL RX6 26 6 6 (.array .int) true := bs_fl cl_6 (by decide) rfl rfl rfl (Or.inl (List.mem_of_getElem? (i := 554) (by decide +kernel)))
theorem kF_X6_26 : bs_FF RX6 26 6 6 (.array .int) := bs_ff cl_6 (by decide) rfl rfl rfl (List.mem_of_getElem? (i := 554) (by decide +kernel))
theorem kf_X6_29 : bs_FL RX6 29 6 7 (.array .int) true := bs_fl cl_6 (by decide) rfl rfl rfl (Or.inl (List.mem_of_getElem? (i := 555) (by decide +kernel)))
theorem kF_X6_29 : bs_FF RX6 29 6 7 (.array .int) := bs_ff cl_6 (by decide) rfl rfl rfl (List.mem_of_getElem? (i := 555) (by decide +kernel))
theorem kf_X6_64 : bs_FL RX6 64 6 8 .int false := bs_fl cl_6 (by decide) rfl rfl rfl (Or.inl (List.mem_of_getElem? (i := 556) (by decide +kernel)))
theorem kf_X6_32 : bs_FL RX6 32 6 9 (.array .int) true := bs_fl cl_6 (by decide) rfl rfl rfl (Or.inl (List.mem_of_getElem? (i := 557) (by decide +kernel)))
theorem kF_X6_32 : bs_FF RX6 32 6 9 (.array .int) := bs_ff cl_6 (by decide) rfl rfl rfl (List.mem_of_getElem? (i := 557) (by decide +kernel))
theorem kf_X6_35 : bs_FL RX6 35 6 10 (.array .int) true := bs_fl cl_6 (by decide) rfl rfl rfl (Or.inl (List.mem_of_getElem? (i := 558) (by decide +kernel)))
theorem kF_X6_35 : bs_FF RX6 35 6 10 (.array .int) := bs_ff cl_6 (by decide) rfl rfl rfl (List.mem_of_getElem? (i := 558) (by decide +kernel))
theorem kf_X6_127 : bs_FL RX6 127 6 11 .int false := bs_fl cl_6 (by decide) rfl rfl rfl (Or.inl (List.mem_of_getElem? (i := 559) (by decide +kernel)))
theorem kf_X6_58 : bs_FL RX6 58 6 12 .int false := bs_fl cl_6 (by decide) rfl rfl rfl (Or.inl (List.mem_of_getElem? (i := 560) (by decide +kernel)))
theorem kf_X6_61 : bs_FL RX6 61 6 13 .int false := bs_fl cl_6 (by decide) rfl rfl rfl (Or.inl (List.mem_of_getElem? (i := 561) (by decide +kernel)))
theorem kf_X6_38 : bs_FL RX6 38 6 14 .int false := bs_fl cl_6 (by decide) rfl rfl rfl (Or.inl (List.mem_of_getElem? (i := 562) (by decide +kernel)))
theorem kf_X6_42 : bs_FL RX6 42 6 15 (.array .int) true := bs_fl cl_6 (by decide) rfl rfl rfl (Or.inl (List.mem_of_getElem? (i := 563) (by decide +kernel)))
theorem kF_X6_42 : bs_FF RX6 42 6 15 (.array .int) := bs_ff cl_6 (by decide) rfl rfl rfl (List.mem_of_getElem? (i := 563) (by decide +kernel))
theorem kf_X6_54 : bs_FL RX6 54 6 16 .boolean false := bs_fl cl_6 (by decide) rfl rfl rfl (Or.inl (List.mem_of_getElem? (i := 564) (by decide +kernel)))
theorem kf_X6_45 : bs_FL RX6 45 6 17 (.array .int) true := bs_fl cl_6 (by decide) rfl rfl rfl (Or.inl (List.mem_of_getElem? (i := 565) (by decide +kernel)))
theorem kF_X6_45 : bs_FF RX6 45 6 17 (.array .int) := bs_ff cl_6 (by decide) rfl rfl rfl (List.mem_of_getElem? (i := 565) (by decide +kernel))
theorem kf_X6_156 : bs_FL RX6 156 6 18 .int false := bs_fl cl_6 (by decide) rfl rfl rfl (Or.inl (List.mem_of_getElem? (i := 566) (by decide +kernel)))
theorem kf_X6_48 : bs_FL RX6 48 6 19 (.array .int) true := bs_fl cl_6 (by decide) rfl rfl rfl (Or.inl (List.mem_of_getElem? (i := 567) (by decide +kernel)))
theorem kF_X6_48 : bs_FF RX6 48 6 19 (.array .int) := bs_ff cl_6 (by decide) rfl rfl rfl (List.mem_of_getElem? (i := 567) (by decide +kernel))
theorem kf_X6_51 : bs_FL RX6 51 6 20 (.array .int) true := bs_fl cl_6 (by decide) rfl rfl rfl (Or.inl (List.mem_of_getElem? (i := 568) (by decide +kernel)))
theorem kF_X6_51 : bs_FF RX6 51 6 20 (.array .int) := bs_ff cl_6 (by decide) rfl rfl rfl (List.mem_of_getElem? (i := 568) (by decide +kernel))
theorem kf_X6_171 : bs_FL RX6 171 6 21 .int false := bs_fl cl_6 (by decide) rfl rfl rfl (Or.inl (List.mem_of_getElem? (i := 569) (by decide +kernel)))
theorem kf_X6_159 : bs_FL RX6 159 6 22 .int false := bs_fl cl_6 (by decide) rfl rfl rfl (Or.inl (List.mem_of_getElem? (i := 570) (by decide +kernel)))
theorem kf_X6_215 : bs_FL RX6 215 6 23 .long false := bs_fl cl_6 (by decide) rfl rfl rfl (Or.inl (List.mem_of_getElem? (i := 571) (by decide +kernel)))
theorem kar_Z : Cond.arrayClass .boolean ∈ lw_tbl := List.mem_of_getElem? (i := 621) (by decide +kernel)
theorem km_L_17 : bs_ML RL 17 yX6_allocate := Or.inl (List.mem_of_getElem? (i := 622) (by decide +kernel))
theorem km_X6_67 : bs_ML RX6 67 yX6_in := Or.inl (List.mem_of_getElem? (i := 626) (by decide +kernel))
theorem km_X6_93 : bs_ML RX6 93 yX6_error := Or.inl (List.mem_of_getElem? (i := 629) (by decide +kernel))
theorem km_X6_100 : bs_ML RX6 100 yX6_newPointer := Or.inl (List.mem_of_getElem? (i := 633) (by decide +kernel))
theorem km_X6_103 : bs_ML RX6 103 yX6_insert := Or.inl (List.mem_of_getElem? (i := 637) (by decide +kernel))
theorem km_L_22 : bs_ML RL 22 yX6_read := Or.inl (List.mem_of_getElem? (i := 641) (by decide +kernel))
theorem km_X6_107 : bs_ML RX6 107 yX6_isCell := Or.inl (List.mem_of_getElem? (i := 645) (by decide +kernel))
theorem km_X6_71 : bs_ML RX6 71 yX6_isPointer := Or.inl (List.mem_of_getElem? (i := 649) (by decide +kernel))
theorem km_X6_111 : bs_ML RX6 111 yX6_readKind := Or.inl (List.mem_of_getElem? (i := 653) (by decide +kernel))
theorem km_X6_75 : bs_ML RX6 75 yX6_cellOf := Or.inl (List.mem_of_getElem? (i := 657) (by decide +kernel))
theorem km_X6_79 : bs_ML RX6 79 yX6_granting := Or.inl (List.mem_of_getElem? (i := 661) (by decide +kernel))
theorem km_X6_83 : bs_ML RX6 83 yX6_isGuarded := Or.inl (List.mem_of_getElem? (i := 665) (by decide +kernel))
theorem km_X6_114 : bs_ML RX6 114 yX6_violate := Or.inl (List.mem_of_getElem? (i := 669) (by decide +kernel))
theorem km_X6_117 : bs_ML RX6 117 yX6_doRead := Or.inl (List.mem_of_getElem? (i := 673) (by decide +kernel))
theorem km_L_27 : bs_ML RL 27 yX6_write := Or.inl (List.mem_of_getElem? (i := 677) (by decide +kernel))
theorem km_X6_90 : bs_ML RX6 90 yX6_writeKind := Or.inl (List.mem_of_getElem? (i := 681) (by decide +kernel))
theorem km_X6_87 : bs_ML RX6 87 yX6_above := Or.inl (List.mem_of_getElem? (i := 685) (by decide +kernel))
theorem km_X6_121 : bs_ML RX6 121 yX6_doWrite := Or.inl (List.mem_of_getElem? (i := 689) (by decide +kernel))
theorem km_L_32 : bs_ML RL 32 yX6_reborrow := Or.inl (List.mem_of_getElem? (i := 693) (by decide +kernel))
theorem km_X6_130 : bs_ML RX6 130 yX6_reborrowKind := Or.inl (List.mem_of_getElem? (i := 697) (by decide +kernel))
theorem km_X6_124 : bs_ML RX6 124 yX6_rawKind := Or.inl (List.mem_of_getElem? (i := 701) (by decide +kernel))
theorem km_X6_134 : bs_ML RX6 134 yX6_sizeBy := Or.inl (List.mem_of_getElem? (i := 705) (by decide +kernel))
theorem km_X6_137 : bs_ML RX6 137 yX6_put := Or.inl (List.mem_of_getElem? (i := 709) (by decide +kernel))
theorem km_L_36 : bs_ML RL 36 yX6_free := Or.inl (List.mem_of_getElem? (i := 713) (by decide +kernel))
theorem km_X6_141 : bs_ML RX6 141 yX6_freeKind := Or.inl (List.mem_of_getElem? (i := 717) (by decide +kernel))
theorem km_L_41 : bs_ML RL 41 yX6_enterCall := Or.inl (List.mem_of_getElem? (i := 721) (by decide +kernel))
theorem km_L_45 : bs_ML RL 45 yX6_leaveCall := Or.inl (List.mem_of_getElem? (i := 725) (by decide +kernel))
theorem km_L_49 : bs_ML RL 49 yX6_checkRead := Or.inl (List.mem_of_getElem? (i := 729) (by decide +kernel))
theorem km_L_53 : bs_ML RL 53 yX6_checkWrite := Or.inl (List.mem_of_getElem? (i := 733) (by decide +kernel))
theorem km_L_57 : bs_ML RL 57 yX6_checkFree := Or.inl (List.mem_of_getElem? (i := 737) (by decide +kernel))
theorem km_L_61 : bs_ML RL 61 yX6_removedByWrite := Or.inl (List.mem_of_getElem? (i := 741) (by decide +kernel))
theorem km_L_65 : bs_ML RL 65 yX6_stackSize := Or.inl (List.mem_of_getElem? (i := 745) (by decide +kernel))
theorem km_X6_147 : bs_ML RX6 147 yX6_isCellOf := Or.inl (List.mem_of_getElem? (i := 749) (by decide +kernel))
theorem km_X6_144 : bs_ML RX6 144 yX6_isAllocation := Or.inl (List.mem_of_getElem? (i := 753) (by decide +kernel))
theorem km_L_69 : bs_ML RL 69 yX6_itemTag := Or.inl (List.mem_of_getElem? (i := 757) (by decide +kernel))
theorem km_X6_150 : bs_ML RX6 150 yX6_placeOf := Or.inl (List.mem_of_getElem? (i := 761) (by decide +kernel))
theorem km_L_73 : bs_ML RL 73 yX6_itemPermission := Or.inl (List.mem_of_getElem? (i := 765) (by decide +kernel))
theorem km_L_77 : bs_ML RL 77 yX6_itemProtected := Or.inl (List.mem_of_getElem? (i := 769) (by decide +kernel))
theorem km_L_81 : bs_ML RL 81 yX6_allocationOf := Or.inl (List.mem_of_getElem? (i := 773) (by decide +kernel))
theorem km_L_85 : bs_ML RL 85 yX6_parent := Or.inl (List.mem_of_getElem? (i := 777) (by decide +kernel))
theorem km_L_89 : bs_ML RL 89 yX6_liveCells := Or.inl (List.mem_of_getElem? (i := 781) (by decide +kernel))
theorem km_X6_153 : bs_ML RX6 153 yX6_liveOf := Or.inl (List.mem_of_getElem? (i := 785) (by decide +kernel))
theorem km_L_93 : bs_ML RL 93 yX6_isFreed := Or.inl (List.mem_of_getElem? (i := 789) (by decide +kernel))
theorem km_L_97 : bs_ML RL 97 yX6_pointerCount := Or.inl (List.mem_of_getElem? (i := 793) (by decide +kernel))
theorem km_L_101 : bs_ML RL 101 yX6_callDepth := Or.inl (List.mem_of_getElem? (i := 797) (by decide +kernel))
theorem km_L_105 : bs_ML RL 105 yX6_violationCount := Or.inl (List.mem_of_getElem? (i := 801) (by decide +kernel))
theorem km_L_109 : bs_ML RL 109 yX6_violationKind := Or.inl (List.mem_of_getElem? (i := 805) (by decide +kernel))
theorem km_L_113 : bs_ML RL 113 yX6_violationCell := Or.inl (List.mem_of_getElem? (i := 809) (by decide +kernel))
theorem km_L_117 : bs_ML RL 117 yX6_errorCount := Or.inl (List.mem_of_getElem? (i := 813) (by decide +kernel))
theorem km_L_121 : bs_ML RL 121 yX6_append := Or.inl (List.mem_of_getElem? (i := 817) (by decide +kernel))
theorem km_L_125 : bs_ML RL 125 yX6_clearText := Or.inl (List.mem_of_getElem? (i := 821) (by decide +kernel))
theorem km_L_129 : bs_ML RL 129 yX6_runScript := Or.inl (List.mem_of_getElem? (i := 825) (by decide +kernel))
theorem km_X6_207 : bs_ML RX6 207 yX6_isRead := Or.inl (List.mem_of_getElem? (i := 829) (by decide +kernel))
theorem km_X6_165 : bs_ML RX6 165 yX6_blanks := Or.inl (List.mem_of_getElem? (i := 833) (by decide +kernel))
theorem km_X6_162 : bs_ML RX6 162 yX6_isAt := Or.inl (List.mem_of_getElem? (i := 837) (by decide +kernel))
theorem km_X6_177 : bs_ML RX6 177 yX6_takesCommand := Or.inl (List.mem_of_getElem? (i := 841) (by decide +kernel))
theorem km_X6_168 : bs_ML RX6 168 yX6_manyOf := Or.inl (List.mem_of_getElem? (i := 845) (by decide +kernel))
theorem km_X6_174 : bs_ML RX6 174 yX6_takesNumber := Or.inl (List.mem_of_getElem? (i := 848) (by decide +kernel))
theorem km_X6_210 : bs_ML RX6 210 yX6_executeAll := Or.inl (List.mem_of_getElem? (i := 852) (by decide +kernel))
theorem km_X6_204 : bs_ML RX6 204 yX6_execute := Or.inl (List.mem_of_getElem? (i := 856) (by decide +kernel))
theorem km_X6_181 : bs_ML RX6 181 yX6_allocate := Or.inl (List.mem_of_getElem? (i := 860) (by decide +kernel))
theorem km_X6_184 : bs_ML RX6 184 yX6_read := Or.inl (List.mem_of_getElem? (i := 861) (by decide +kernel))
theorem km_X6_187 : bs_ML RX6 187 yX6_write := Or.inl (List.mem_of_getElem? (i := 862) (by decide +kernel))
theorem km_X6_190 : bs_ML RX6 190 yX6_reborrow := Or.inl (List.mem_of_getElem? (i := 863) (by decide +kernel))
theorem km_X6_194 : bs_ML RX6 194 yX6_free := Or.inl (List.mem_of_getElem? (i := 864) (by decide +kernel))
theorem km_X6_197 : bs_ML RX6 197 yX6_enterCall := Or.inl (List.mem_of_getElem? (i := 865) (by decide +kernel))
theorem km_X6_201 : bs_ML RX6 201 yX6_leaveCall := Or.inl (List.mem_of_getElem? (i := 866) (by decide +kernel))
theorem km_L_134 : bs_ML RL 134 yX6_digest := Or.inl (List.mem_of_getElem? (i := 867) (by decide +kernel))
theorem kj_X6_223 : Cond.constantLong RX6 223 (12011) ∈ lw_tbl := List.mem_of_getElem? (i := 871) (by decide +kernel)
theorem km_X6_219 : bs_ML RX6 219 yX6_mix := Or.inl (List.mem_of_getElem? (i := 872) (by decide +kernel))
theorem kj_X6_213 : Cond.constantLong RX6 213 (31) ∈ lw_tbl := List.mem_of_getElem? (i := 876) (by decide +kernel)
theorem km_X6_225 : bs_ML RX6 225 yX6_mixCell := Or.inl (List.mem_of_getElem? (i := 877) (by decide +kernel))
theorem kob_i : Cond.instanceMethod objectInit ∈ lw_tbl := List.mem_of_getElem? (i := 65) (by decide +kernel)
theorem kob_c : Cond.code objectInit ⟨#[0xb1]⟩ 1 none ∈ lw_tbl := List.mem_of_getElem? (i := 66) (by decide +kernel)
