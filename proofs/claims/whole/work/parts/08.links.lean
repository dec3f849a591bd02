/-! LINKS: what a call needs of a method; the field rows, by class and place in the constant pool (gen_links.py) -/
theorem wi_X0_init : jWi yX0_init cX0_init 2 1 := ⟨kim_X0_init, kini_X0, kco_X0_init, rfl, by decide +kernel⟩
theorem wd_X0_greatest : jWd yX0_greatest RX0 cX0_greatest 4 (some .int) 1 := ⟨kim_X0_greatest, kse_X0_greatest, kini_X0, kco_X0_greatest, by decide +kernel⟩
theorem wd_X0_copyAssignment : jWd yX0_copyAssignment RX0 cX0_copyAssignment 3 none 1 := ⟨kim_X0_copyAssignment, kse_X0_copyAssignment, kini_X0, kco_X0_copyAssignment, by decide +kernel⟩
theorem wd_X0_startOf : jWd yX0_startOf RX0 cX0_startOf 2 (some .int) 1 := ⟨kim_X0_startOf, kse_X0_startOf, kini_X0, kco_X0_startOf, by decide +kernel⟩
theorem wd_X0_augment : jWd yX0_augment RX0 cX0_augment 3 (some .boolean) 0 := ⟨kim_X0_augment, kse_X0_augment, kini_X0, kco_X0_augment, by decide +kernel⟩
theorem wd_X0_startAtGroups : jWd yX0_startAtGroups RX0 cX0_startAtGroups 2 none 0 := ⟨kim_X0_startAtGroups, kse_X0_startAtGroups, kini_X0, kco_X0_startAtGroups, by decide +kernel⟩
theorem wd_X0_reach : jWd yX0_reach RX0 cX0_reach 4 none 3 := ⟨kim_X0_reach, kse_X0_reach, kini_X0, kco_X0_reach, by decide +kernel⟩
theorem wd_X0_leave : jWd yX0_leave RX0 cX0_leave 4 (some .int) 1 := ⟨kim_X0_leave, kse_X0_leave, kini_X0, kco_X0_leave, by decide +kernel⟩
theorem wd_X0_leaveWith : jWd yX0_leaveWith RX0 cX0_leaveWith 4 (some .int) 2 := ⟨kim_X0_leaveWith, kse_X0_leaveWith, kini_X0, kco_X0_leaveWith, by decide +kernel⟩
theorem wd_X0_shiftAlong : jWd yX0_shiftAlong RX0 cX0_shiftAlong 4 none 1 := ⟨kim_X0_shiftAlong, kse_X0_shiftAlong, kini_X0, kco_X0_shiftAlong, by decide +kernel⟩
theorem wi_X1_init : jWi yX1_init cX1_init 1 0 := ⟨kim_X1_init, kini_X1, kco_X1_init, rfl, by decide +kernel⟩
theorem wd_X1_clear : jWd yX1_clear RX1 cX1_clear 1 none 0 := ⟨kim_X1_clear, kse_X1_clear, kini_X1, kco_X1_clear, by decide +kernel⟩
theorem wd_X1_add : jWd yX1_add RX1 cX1_add 3 none 2 := ⟨kim_X1_add, kse_X1_add, kini_X1, kco_X1_add, by decide +kernel⟩
theorem wi_X2_init : jWi yX2_init cX2_init 2 1 := ⟨kim_X2_init, kini_X2, kco_X2_init, rfl, by decide +kernel⟩
theorem wd_X2_search : jWd yX2_search RX2 cX2_search 2 (some .int) 1 := ⟨kim_X2_search, kse_X2_search, kini_X2, kco_X2_search, by decide +kernel⟩
theorem wd_X2_collectSuccessors : jWd yX2_collectSuccessors RX2 cX2_collectSuccessors 2 none 0 := ⟨kim_X2_collectSuccessors, kse_X2_collectSuccessors, kini_X2, kco_X2_collectSuccessors, by decide +kernel⟩
theorem wd_X2_buildLayers : jWd yX2_buildLayers RX2 cX2_buildLayers 3 none 0 := ⟨kim_X2_buildLayers, kse_X2_buildLayers, kini_X2, kco_X2_buildLayers, by decide +kernel⟩
theorem wd_X2_leadingTo : jWd yX2_leadingTo RX2 cX2_leadingTo 4 (some .int) 1 := ⟨kim_X2_leadingTo, kse_X2_leadingTo, kini_X2, kco_X2_leadingTo, by decide +kernel⟩
theorem wd_X2_shortestFrom : jWd yX2_shortestFrom RX2 cX2_shortestFrom 3 (some .int) 1 := ⟨kim_X2_shortestFrom, kse_X2_shortestFrom, kini_X2, kco_X2_shortestFrom, by decide +kernel⟩
theorem wd_X2_trace : jWd yX2_trace RX2 cX2_trace 6 (some .boolean) 1 := ⟨kim_X2_trace, kse_X2_trace, kini_X2, kco_X2_trace, by decide +kernel⟩
theorem wd_X2_firstMovable : jWd yX2_firstMovable RX2 cX2_firstMovable 4 (some .int) 2 := ⟨kim_X2_firstMovable, kse_X2_firstMovable, kini_X2, kco_X2_firstMovable, by decide +kernel⟩
theorem wi_X3_init : jWi yX3_init cX3_init 4 3 := ⟨kim_X3_init, kini_X3, kco_X3_init, rfl, by decide +kernel⟩
theorem wd_X3_runOnce : jWd yX3_runOnce RX3 cX3_runOnce 4 (some .int) 0 := ⟨kim_X3_runOnce, kse_X3_runOnce, kini_X3, kco_X3_runOnce, by decide +kernel⟩
theorem wd_X3_nextToTry : jWd yX3_nextToTry RX3 cX3_nextToTry 3 (some .int) 0 := ⟨kim_X3_nextToTry, kse_X3_nextToTry, kini_X3, kco_X3_nextToTry, by decide +kernel⟩
theorem wd_X3_isServedBefore : jWd yX3_isServedBefore RX3 cX3_isServedBefore 5 (some .boolean) 2 := ⟨kim_X3_isServedBefore, kse_X3_isServedBefore, kini_X3, kco_X3_isServedBefore, by decide +kernel⟩
theorem wd_X3_tryToPlace : jWd yX3_tryToPlace RX3 cX3_tryToPlace 3 (some .boolean) 1 := ⟨kim_X3_tryToPlace, kse_X3_tryToPlace, kini_X3, kco_X3_tryToPlace, by decide +kernel⟩
theorem wd_X3_placeAlongPath : jWd yX3_placeAlongPath RX3 cX3_placeAlongPath 5 none 1 := ⟨kim_X3_placeAlongPath, kse_X3_placeAlongPath, kini_X3, kco_X3_placeAlongPath, by decide +kernel⟩
theorem wi_X4_init : jWi yX4_init cX4_init 2 0 := ⟨kim_X4_init, kini_X4, kco_X4_init, rfl, by decide +kernel⟩
theorem wd_X4_maskOfAll : jWd yX4_maskOfAll RX4 cX4_maskOfAll 1 (some .int) 0 := ⟨kim_X4_maskOfAll, kse_X4_maskOfAll, kini_X4, kco_X4_maskOfAll, by decide +kernel⟩
theorem wd_X4_isWaiting : jWd yX4_isWaiting RX4 cX4_isWaiting 2 (some .boolean) 1 := ⟨kim_X4_isWaiting, kse_X4_isWaiting, kini_X4, kco_X4_isWaiting, by decide +kernel⟩
theorem wd_X4_isAssigned : jWd yX4_isAssigned RX4 cX4_isAssigned 2 (some .boolean) 1 := ⟨kim_X4_isAssigned, kse_X4_isAssigned, kini_X4, kco_X4_isAssigned, by decide +kernel⟩
theorem wd_X4_isDeparted : jWd yX4_isDeparted RX4 cX4_isDeparted 2 (some .boolean) 1 := ⟨kim_X4_isDeparted, kse_X4_isDeparted, kini_X4, kco_X4_isDeparted, by decide +kernel⟩
theorem wd_X4_stateNumber : jWd yX4_stateNumber RX4 cX4_stateNumber 2 (some .int) 1 := ⟨kim_X4_stateNumber, kse_X4_stateNumber, kini_X4, kco_X4_stateNumber, by decide +kernel⟩
theorem wd_X4_canBeMoved : jWd yX4_canBeMoved RX4 cX4_canBeMoved 2 (some .boolean) 1 := ⟨kim_X4_canBeMoved, kse_X4_canBeMoved, kini_X4, kco_X4_canBeMoved, by decide +kernel⟩
theorem wd_X4_resourceHasRoom : jWd yX4_resourceHasRoom RX4 cX4_resourceHasRoom 2 (some .boolean) 1 := ⟨kim_X4_resourceHasRoom, kse_X4_resourceHasRoom, kini_X4, kco_X4_resourceHasRoom, by decide +kernel⟩
theorem wd_X4_groupHasRoom : jWd yX4_groupHasRoom RX4 cX4_groupHasRoom 2 (some .boolean) 1 := ⟨kim_X4_groupHasRoom, kse_X4_groupHasRoom, kini_X4, kco_X4_groupHasRoom, by decide +kernel⟩
theorem wd_X4_countAssigned : jWd yX4_countAssigned RX4 cX4_countAssigned 3 (some .int) 0 := ⟨kim_X4_countAssigned, kse_X4_countAssigned, kini_X4, kco_X4_countAssigned, by decide +kernel⟩
theorem wd_X4_countWaiting : jWd yX4_countWaiting RX4 cX4_countWaiting 3 (some .int) 0 := ⟨kim_X4_countWaiting, kse_X4_countWaiting, kini_X4, kco_X4_countWaiting, by decide +kernel⟩
theorem wd_X4_openResource : jWd yX4_openResource RX4 cX4_openResource 3 (some .int) 1 := ⟨kim_X4_openResource, kse_X4_openResource, kini_X4, kco_X4_openResource, by decide +kernel⟩
theorem wd_X4_admit : jWd yX4_admit RX4 cX4_admit 4 (some .int) 2 := ⟨kim_X4_admit, kse_X4_admit, kini_X4, kco_X4_admit, by decide +kernel⟩
theorem wd_X4_dismiss : jWd yX4_dismiss RX4 cX4_dismiss 2 none 1 := ⟨kim_X4_dismiss, kse_X4_dismiss, kini_X4, kco_X4_dismiss, by decide +kernel⟩
theorem wd_X4_accept : jWd yX4_accept RX4 cX4_accept 3 none 2 := ⟨kim_X4_accept, kse_X4_accept, kini_X4, kco_X4_accept, by decide +kernel⟩
theorem wd_X4_assign : jWd yX4_assign RX4 cX4_assign 3 none 2 := ⟨kim_X4_assign, kse_X4_assign, kini_X4, kco_X4_assign, by decide +kernel⟩
theorem wd_X4_move : jWd yX4_move RX4 cX4_move 3 none 2 := ⟨kim_X4_move, kse_X4_move, kini_X4, kco_X4_move, by decide +kernel⟩
theorem wd_X4_putBack : jWd yX4_putBack RX4 cX4_putBack 2 none 1 := ⟨kim_X4_putBack, kse_X4_putBack, kini_X4, kco_X4_putBack, by decide +kernel⟩
theorem wd_X4_putBackBeyondCapacity : jWd yX4_putBackBeyondCapacity RX4 cX4_putBackBeyondCapacity 4 (some .int) 1 := ⟨kim_X4_putBackBeyondCapacity, kse_X4_putBackBeyondCapacity, kini_X4, kco_X4_putBackBeyondCapacity, by decide +kernel⟩
theorem wd_X4_putBackBeyondQuota : jWd yX4_putBackBeyondQuota RX4 cX4_putBackBeyondQuota 4 (some .int) 1 := ⟨kim_X4_putBackBeyondQuota, kse_X4_putBackBeyondQuota, kini_X4, kco_X4_putBackBeyondQuota, by decide +kernel⟩
theorem wi_X5_init : jWi yX5_init cX5_init 1 0 := ⟨kim_X5_init, kini_X5, kco_X5_init, rfl, by decide +kernel⟩
theorem wd_X5_addResource : jWd yX5_addResource RX5 cX5_addResource 3 (some .int) 1 := ⟨kim_X5_addResource, kse_X5_addResource, kini_X5, kco_X5_addResource, by decide +kernel⟩
theorem wd_X5_setCapacity : jWd yX5_setCapacity RX5 cX5_setCapacity 4 (some .int) 2 := ⟨kim_X5_setCapacity, kse_X5_setCapacity, kini_X5, kco_X5_setCapacity, by decide +kernel⟩
theorem wd_X5_setGroup : jWd yX5_setGroup RX5 cX5_setGroup 5 (some .int) 3 := ⟨kim_X5_setGroup, kse_X5_setGroup, kini_X5, kco_X5_setGroup, by decide +kernel⟩
theorem wd_X5_setLimits : jWd yX5_setLimits RX5 cX5_setLimits 3 (some .int) 2 := ⟨kim_X5_setLimits, kse_X5_setLimits, kini_X5, kco_X5_setLimits, by decide +kernel⟩
theorem wd_X5_arrive : jWd yX5_arrive RX5 cX5_arrive 4 (some .int) 2 := ⟨kim_X5_arrive, kse_X5_arrive, kini_X5, kco_X5_arrive, by decide +kernel⟩
theorem wd_X5_depart : jWd yX5_depart RX5 cX5_depart 2 (some .int) 1 := ⟨kim_X5_depart, kse_X5_depart, kini_X5, kco_X5_depart, by decide +kernel⟩
theorem wd_X5_setAccepts : jWd yX5_setAccepts RX5 cX5_setAccepts 3 (some .boolean) 2 := ⟨kim_X5_setAccepts, kse_X5_setAccepts, kini_X5, kco_X5_setAccepts, by decide +kernel⟩
theorem wd_X5_resourceCount : jWd yX5_resourceCount RX5 cX5_resourceCount 1 (some .int) 0 := ⟨kim_X5_resourceCount, kse_X5_resourceCount, kini_X5, kco_X5_resourceCount, by decide +kernel⟩
theorem wd_X5_arrivedCount : jWd yX5_arrivedCount RX5 cX5_arrivedCount 1 (some .int) 0 := ⟨kim_X5_arrivedCount, kse_X5_arrivedCount, kini_X5, kco_X5_arrivedCount, by decide +kernel⟩
theorem wd_X5_assignedCount : jWd yX5_assignedCount RX5 cX5_assignedCount 1 (some .int) 0 := ⟨kim_X5_assignedCount, kse_X5_assignedCount, kini_X5, kco_X5_assignedCount, by decide +kernel⟩
theorem wd_X5_waitingCount : jWd yX5_waitingCount RX5 cX5_waitingCount 1 (some .int) 0 := ⟨kim_X5_waitingCount, kse_X5_waitingCount, kini_X5, kco_X5_waitingCount, by decide +kernel⟩
theorem wd_X5_assignedOf : jWd yX5_assignedOf RX5 cX5_assignedOf 2 (some .int) 1 := ⟨kim_X5_assignedOf, kse_X5_assignedOf, kini_X5, kco_X5_assignedOf, by decide +kernel⟩
theorem wd_X5_load : jWd yX5_load RX5 cX5_load 2 (some .int) 1 := ⟨kim_X5_load, kse_X5_load, kini_X5, kco_X5_load, by decide +kernel⟩
theorem wd_X5_state : jWd yX5_state RX5 cX5_state 2 (some .int) 1 := ⟨kim_X5_state, kse_X5_state, kini_X5, kco_X5_state, by decide +kernel⟩
theorem wd_X5_resourceOf : jWd yX5_resourceOf RX5 cX5_resourceOf 2 (some .int) 1 := ⟨kim_X5_resourceOf, kse_X5_resourceOf, kini_X5, kco_X5_resourceOf, by decide +kernel⟩
theorem wd_X5_movesOf : jWd yX5_movesOf RX5 cX5_movesOf 2 (some .int) 1 := ⟨kim_X5_movesOf, kse_X5_movesOf, kini_X5, kco_X5_movesOf, by decide +kernel⟩
theorem wd_X5_moveCount : jWd yX5_moveCount RX5 cX5_moveCount 1 (some .int) 0 := ⟨kim_X5_moveCount, kse_X5_moveCount, kini_X5, kco_X5_moveCount, by decide +kernel⟩
theorem wd_X5_movedRequest : jWd yX5_movedRequest RX5 cX5_movedRequest 2 (some .int) 1 := ⟨kim_X5_movedRequest, kse_X5_movedRequest, kini_X5, kco_X5_movedRequest, by decide +kernel⟩
theorem wd_X5_movedTo : jWd yX5_movedTo RX5 cX5_movedTo 2 (some .int) 1 := ⟨kim_X5_movedTo, kse_X5_movedTo, kini_X5, kco_X5_movedTo, by decide +kernel⟩
theorem wd_X5_movesNeeded : jWd yX5_movesNeeded RX5 cX5_movesNeeded 2 (some .int) 1 := ⟨kim_X5_movesNeeded, kse_X5_movesNeeded, kini_X5, kco_X5_movesNeeded, by decide +kernel⟩
theorem wd_X5_greatestPossible : jWd yX5_greatestPossible RX5 cX5_greatestPossible 1 (some .int) 0 := ⟨kim_X5_greatestPossible, kse_X5_greatestPossible, kini_X5, kco_X5_greatestPossible, by decide +kernel⟩
theorem wd_X5_gainBy : jWd yX5_gainBy RX5 cX5_gainBy 2 (some .int) 1 := ⟨kim_X5_gainBy, kse_X5_gainBy, kini_X5, kco_X5_gainBy, by decide +kernel⟩
theorem wd_X5_fairness : jWd yX5_fairness RX5 cX5_fairness 8 (some .double) 0 := ⟨kim_X5_fairness, kse_X5_fairness, kini_X5, kco_X5_fairness, by decide +kernel⟩
theorem wd_X5_digest : jWd yX5_digest RX5 cX5_digest 4 (some .long) 0 := ⟨kim_X5_digest, kse_X5_digest, kini_X5, kco_X5_digest, by decide +kernel⟩
theorem wd_X5_requireResource : jWd yX5_requireResource RX5 cX5_requireResource 2 none 1 := ⟨kim_X5_requireResource, kse_X5_requireResource, kini_X5, kco_X5_requireResource, by decide +kernel⟩
theorem wd_X5_requireGroup : jWd yX5_requireGroup RX5 cX5_requireGroup 2 none 1 := ⟨kim_X5_requireGroup, kse_X5_requireGroup, kini_X5, kco_X5_requireGroup, by decide +kernel⟩
theorem wd_X5_requireRequest : jWd yX5_requireRequest RX5 cX5_requireRequest 2 none 1 := ⟨kim_X5_requireRequest, kse_X5_requireRequest, kini_X5, kco_X5_requireRequest, by decide +kernel⟩
theorem wd_X5_requirePresent : jWd yX5_requirePresent RX5 cX5_requirePresent 2 none 1 := ⟨kim_X5_requirePresent, kse_X5_requirePresent, kini_X5, kco_X5_requirePresent, by decide +kernel⟩
theorem wd_X5_requireMask : jWd yX5_requireMask RX5 cX5_requireMask 2 none 1 := ⟨kim_X5_requireMask, kse_X5_requireMask, kini_X5, kco_X5_requireMask, by decide +kernel⟩
theorem wd_X5_requireLogged : jWd yX5_requireLogged RX5 cX5_requireLogged 2 none 1 := ⟨kim_X5_requireLogged, kse_X5_requireLogged, kini_X5, kco_X5_requireLogged, by decide +kernel⟩
theorem ws_X5_isWithin : jWs yX5_isWithin cX5_isWithin 3 (some .boolean) 3 := ⟨kst_X5_isWithin, kini_X5, kco_X5_isWithin, by decide +kernel⟩
theorem ws_X5_hasBit : jWs yX5_hasBit cX5_hasBit 2 (some .boolean) 2 := ⟨kst_X5_hasBit, kini_X5, kco_X5_hasBit, by decide +kernel⟩
theorem ws_X5_lowestResource : jWs yX5_lowestResource cX5_lowestResource 2 (some .int) 1 := ⟨kst_X5_lowestResource, kini_X5, kco_X5_lowestResource, by decide +kernel⟩
theorem ws_X5_mix : jWs yX5_mix cX5_mix 3 (some .long) 2 := ⟨kst_X5_mix, kini_X5, kco_X5_mix, by decide +kernel⟩
theorem wi_X6_init : jWi yX6_init cX6_init 1 0 := ⟨kim_X6_init, kini_X6, kco_X6_init, rfl, by decide +kernel⟩
theorem wd_X6_thrown : jWd yX6_thrown RX6 cX6_thrown 1 (some .int) 0 := ⟨kim_X6_thrown, kse_X6_thrown, kini_X6, kco_X6_thrown, by decide +kernel⟩
theorem wd_X6_fail : jWd yX6_fail RX6 cX6_fail 2 (some .int) 1 := ⟨kim_X6_fail, kse_X6_fail, kini_X6, kco_X6_fail, by decide +kernel⟩
theorem wd_X6_isResource : jWd yX6_isResource RX6 cX6_isResource 2 (some .boolean) 1 := ⟨kim_X6_isResource, kse_X6_isResource, kini_X6, kco_X6_isResource, by decide +kernel⟩
theorem wd_X6_isRequest : jWd yX6_isRequest RX6 cX6_isRequest 2 (some .boolean) 1 := ⟨kim_X6_isRequest, kse_X6_isRequest, kini_X6, kco_X6_isRequest, by decide +kernel⟩
theorem ws_X6_isGroup : jWs yX6_isGroup cX6_isGroup 1 (some .boolean) 1 := ⟨kst_X6_isGroup, kini_X6, kco_X6_isGroup, by decide +kernel⟩
theorem wd_X6_isMask : jWd yX6_isMask RX6 cX6_isMask 2 (some .boolean) 1 := ⟨kim_X6_isMask, kse_X6_isMask, kini_X6, kco_X6_isMask, by decide +kernel⟩
theorem wd_X6_accepts : jWd yX6_accepts RX6 cX6_accepts 3 (some .boolean) 2 := ⟨kim_X6_accepts, kse_X6_accepts, kini_X6, kco_X6_accepts, by decide +kernel⟩
theorem wd_X6_isAt : jWd yX6_isAt RX6 cX6_isAt 3 (some .boolean) 2 := ⟨kim_X6_isAt, kse_X6_isAt, kini_X6, kco_X6_isAt, by decide +kernel⟩
theorem wd_X6_loadOf : jWd yX6_loadOf RX6 cX6_loadOf 4 (some .int) 1 := ⟨kim_X6_loadOf, kse_X6_loadOf, kini_X6, kco_X6_loadOf, by decide +kernel⟩
theorem wd_X6_assignedIn : jWd yX6_assignedIn RX6 cX6_assignedIn 4 (some .int) 1 := ⟨kim_X6_assignedIn, kse_X6_assignedIn, kini_X6, kco_X6_assignedIn, by decide +kernel⟩
theorem wd_X6_findFar : jWd yX6_findFar RX6 cX6_findFar 4 none 0 := ⟨kim_X6_findFar, kse_X6_findFar, kini_X6, kco_X6_findFar, by decide +kernel⟩
theorem wd_X6_brings : jWd yX6_brings RX6 cX6_brings 3 (some .boolean) 2 := ⟨kim_X6_brings, kse_X6_brings, kini_X6, kco_X6_brings, by decide +kernel⟩
theorem wd_X6_canMove : jWd yX6_canMove RX6 cX6_canMove 3 (some .boolean) 2 := ⟨kim_X6_canMove, kse_X6_canMove, kini_X6, kco_X6_canMove, by decide +kernel⟩
theorem wd_X6_firstOf : jWd yX6_firstOf RX6 cX6_firstOf 4 (some .int) 1 := ⟨kim_X6_firstOf, kse_X6_firstOf, kini_X6, kco_X6_firstOf, by decide +kernel⟩
theorem wd_X6_isPlaced : jWd yX6_isPlaced RX6 cX6_isPlaced 7 (some .boolean) 1 := ⟨kim_X6_isPlaced, kse_X6_isPlaced, kini_X6, kco_X6_isPlaced, by decide +kernel⟩
theorem wd_X6_movedFrom : jWd yX6_movedFrom RX6 cX6_movedFrom 5 (some .int) 1 := ⟨kim_X6_movedFrom, kse_X6_movedFrom, kini_X6, kco_X6_movedFrom, by decide +kernel⟩
theorem wd_X6_log : jWd yX6_log RX6 cX6_log 3 none 2 := ⟨kim_X6_log, kse_X6_log, kini_X6, kco_X6_log, by decide +kernel⟩
theorem wd_X6_run : jWd yX6_run RX6 cX6_run 3 (some .int) 0 := ⟨kim_X6_run, kse_X6_run, kini_X6, kco_X6_run, by decide +kernel⟩
theorem wd_X6_next : jWd yX6_next RX6 cX6_next 4 (some .int) 0 := ⟨kim_X6_next, kse_X6_next, kini_X6, kco_X6_next, by decide +kernel⟩
theorem wd_X6_firstIn : jWd yX6_firstIn RX6 cX6_firstIn 3 (some .int) 1 := ⟨kim_X6_firstIn, kse_X6_firstIn, kini_X6, kco_X6_firstIn, by decide +kernel⟩
theorem wd_X6_addResource : jWd yX6_addResource RX6 cX6_addResource 2 (some .int) 1 := ⟨kim_X6_addResource, kse_X6_addResource, kini_X6, kco_X6_addResource, by decide +kernel⟩
theorem wd_X6_setCapacity : jWd yX6_setCapacity RX6 cX6_setCapacity 5 (some .int) 2 := ⟨kim_X6_setCapacity, kse_X6_setCapacity, kini_X6, kco_X6_setCapacity, by decide +kernel⟩
theorem wd_X6_setGroup : jWd yX6_setGroup RX6 cX6_setGroup 6 (some .int) 3 := ⟨kim_X6_setGroup, kse_X6_setGroup, kini_X6, kco_X6_setGroup, by decide +kernel⟩
theorem wd_X6_setLimits : jWd yX6_setLimits RX6 cX6_setLimits 3 (some .int) 2 := ⟨kim_X6_setLimits, kse_X6_setLimits, kini_X6, kco_X6_setLimits, by decide +kernel⟩
theorem wd_X6_arrive : jWd yX6_arrive RX6 cX6_arrive 4 (some .int) 2 := ⟨kim_X6_arrive, kse_X6_arrive, kini_X6, kco_X6_arrive, by decide +kernel⟩
theorem wd_X6_depart : jWd yX6_depart RX6 cX6_depart 2 (some .int) 1 := ⟨kim_X6_depart, kse_X6_depart, kini_X6, kco_X6_depart, by decide +kernel⟩
theorem wd_X6_setAccepts : jWd yX6_setAccepts RX6 cX6_setAccepts 3 (some .boolean) 2 := ⟨kim_X6_setAccepts, kse_X6_setAccepts, kini_X6, kco_X6_setAccepts, by decide +kernel⟩
theorem wd_X6_resourceCount : jWd yX6_resourceCount RX6 cX6_resourceCount 1 (some .int) 0 := ⟨kim_X6_resourceCount, kse_X6_resourceCount, kini_X6, kco_X6_resourceCount, by decide +kernel⟩
theorem wd_X6_arrivedCount : jWd yX6_arrivedCount RX6 cX6_arrivedCount 1 (some .int) 0 := ⟨kim_X6_arrivedCount, kse_X6_arrivedCount, kini_X6, kco_X6_arrivedCount, by decide +kernel⟩
theorem wd_X6_countOf : jWd yX6_countOf RX6 cX6_countOf 4 (some .int) 1 := ⟨kim_X6_countOf, kse_X6_countOf, kini_X6, kco_X6_countOf, by decide +kernel⟩
theorem wd_X6_assignedCount : jWd yX6_assignedCount RX6 cX6_assignedCount 1 (some .int) 0 := ⟨kim_X6_assignedCount, kse_X6_assignedCount, kini_X6, kco_X6_assignedCount, by decide +kernel⟩
theorem wd_X6_waitingCount : jWd yX6_waitingCount RX6 cX6_waitingCount 1 (some .int) 0 := ⟨kim_X6_waitingCount, kse_X6_waitingCount, kini_X6, kco_X6_waitingCount, by decide +kernel⟩
theorem wd_X6_assignedOf : jWd yX6_assignedOf RX6 cX6_assignedOf 2 (some .int) 1 := ⟨kim_X6_assignedOf, kse_X6_assignedOf, kini_X6, kco_X6_assignedOf, by decide +kernel⟩
theorem wd_X6_load : jWd yX6_load RX6 cX6_load 2 (some .int) 1 := ⟨kim_X6_load, kse_X6_load, kini_X6, kco_X6_load, by decide +kernel⟩
theorem wd_X6_state : jWd yX6_state RX6 cX6_state 2 (some .int) 1 := ⟨kim_X6_state, kse_X6_state, kini_X6, kco_X6_state, by decide +kernel⟩
theorem wd_X6_resourceOf : jWd yX6_resourceOf RX6 cX6_resourceOf 2 (some .int) 1 := ⟨kim_X6_resourceOf, kse_X6_resourceOf, kini_X6, kco_X6_resourceOf, by decide +kernel⟩
theorem wd_X6_movesOf : jWd yX6_movesOf RX6 cX6_movesOf 2 (some .int) 1 := ⟨kim_X6_movesOf, kse_X6_movesOf, kini_X6, kco_X6_movesOf, by decide +kernel⟩
theorem wd_X6_moveCount : jWd yX6_moveCount RX6 cX6_moveCount 1 (some .int) 0 := ⟨kim_X6_moveCount, kse_X6_moveCount, kini_X6, kco_X6_moveCount, by decide +kernel⟩
theorem wd_X6_movedRequest : jWd yX6_movedRequest RX6 cX6_movedRequest 2 (some .int) 1 := ⟨kim_X6_movedRequest, kse_X6_movedRequest, kini_X6, kco_X6_movedRequest, by decide +kernel⟩
theorem wd_X6_movedTo : jWd yX6_movedTo RX6 cX6_movedTo 2 (some .int) 1 := ⟨kim_X6_movedTo, kse_X6_movedTo, kini_X6, kco_X6_movedTo, by decide +kernel⟩
theorem wd_X6_movesNeeded : jWd yX6_movesNeeded RX6 cX6_movesNeeded 3 (some .int) 1 := ⟨kim_X6_movesNeeded, kse_X6_movesNeeded, kini_X6, kco_X6_movesNeeded, by decide +kernel⟩
theorem wd_X6_possible : jWd yX6_possible RX6 cX6_possible 6 (some .int) 0 := ⟨kim_X6_possible, kse_X6_possible, kini_X6, kco_X6_possible, by decide +kernel⟩
theorem wd_X6_greatestPossible : jWd yX6_greatestPossible RX6 cX6_greatestPossible 1 (some .int) 0 := ⟨kim_X6_greatestPossible, kse_X6_greatestPossible, kini_X6, kco_X6_greatestPossible, by decide +kernel⟩
theorem wd_X6_gainBy : jWd yX6_gainBy RX6 cX6_gainBy 5 (some .int) 1 := ⟨kim_X6_gainBy, kse_X6_gainBy, kini_X6, kco_X6_gainBy, by decide +kernel⟩
theorem wd_X6_fairness : jWd yX6_fairness RX6 cX6_fairness 8 (some .double) 0 := ⟨kim_X6_fairness, kse_X6_fairness, kini_X6, kco_X6_fairness, by decide +kernel⟩
theorem wd_X6_digest : jWd yX6_digest RX6 cX6_digest 4 (some .long) 0 := ⟨kim_X6_digest, kse_X6_digest, kini_X6, kco_X6_digest, by decide +kernel⟩
theorem ws_J9_min_7cf53 : jWs yJ9_min_7cf53 cJ9_min_7cf53 2 (some .int) 2 := ⟨kst_J9_min_7cf53, kini_J9, kco_J9_min_7cf53, by decide +kernel⟩
section JLINK
variable {G : jG} {X : JX} {k n pc : Nat} {w : va_W} {L : List (Option Value)} {rest : List Value} {rm : Room} {cc : ByteArray} {nL a : Nat} {fs : List Value}
theorem fg_X4_46 {v : Value} (C : JC G X rm cc RX4 nL) (q0 : Nat) (he : w[q0]? = some (a, .inr (4, fs))) (hv : fs[0]? = some v) (d : decode cc pc = .ok (.getfield 46, 3)) (kk : JW G X k n w (pc + 3) L (v :: rest)) : JW G X k n w pc L (.ref a :: rest) :=
  jw_get jU_X4 rfl 0 (by decide) rfl C kfl_X4_46 q0 he hv d kk
theorem fp_X4_46 {v : Int32} (C : JC G X rm cc RX4 nL) (q0 : Nat) (he : w[q0]? = some (a, .inr (4, fs))) (hl : 0 < fs.length) (d : decode cc pc = .ok (.putfield 46, 3)) (kk : JW G X k n (w.set q0 (a, .inr (4, fs.set 0 (.int v)))) (pc + 3) L rest) : JW G X k n w pc L (.int v :: .ref a :: rest) :=
  jw_put (ty := .int) jU_X4 tyX4_ok nmX4 rfl 0 (by decide) rfl rfl (by decide +kernel) C kfl_X4_46 q0 he rfl rfl hl d kk
theorem fg_X5_59 {v : Value} (C : JC G X rm cc RX5 nL) (q0 : Nat) (he : w[q0]? = some (a, .inr (4, fs))) (hv : fs[0]? = some v) (d : decode cc pc = .ok (.getfield 59, 3)) (kk : JW G X k n w (pc + 3) L (v :: rest)) : JW G X k n w pc L (.ref a :: rest) :=
  jw_getN jU_X4 rfl 0 (by decide) rfl C kfn_X5_59 q0 he hv d kk
theorem fp_X5_59 {v : Int32} (C : JC G X rm cc RX5 nL) (q0 : Nat) (he : w[q0]? = some (a, .inr (4, fs))) (hl : 0 < fs.length) (d : decode cc pc = .ok (.putfield 59, 3)) (kk : JW G X k n (w.set q0 (a, .inr (4, fs.set 0 (.int v)))) (pc + 3) L rest) : JW G X k n w pc L (.int v :: .ref a :: rest) :=
  jw_putN (ty := .int) jU_X4 tyX4_ok nmX4 rfl 0 (by decide) rfl rfl (by decide +kernel) C kfn_X5_59 q0 he rfl rfl hl d kk
theorem fg_X2_51 {v : Value} (C : JC G X rm cc RX2 nL) (q0 : Nat) (he : w[q0]? = some (a, .inr (4, fs))) (hv : fs[0]? = some v) (d : decode cc pc = .ok (.getfield 51, 3)) (kk : JW G X k n w (pc + 3) L (v :: rest)) : JW G X k n w pc L (.ref a :: rest) :=
  jw_getN jU_X4 rfl 0 (by decide) rfl C kfn_X2_51 q0 he hv d kk
theorem fp_X2_51 {v : Int32} (C : JC G X rm cc RX2 nL) (q0 : Nat) (he : w[q0]? = some (a, .inr (4, fs))) (hl : 0 < fs.length) (d : decode cc pc = .ok (.putfield 51, 3)) (kk : JW G X k n (w.set q0 (a, .inr (4, fs.set 0 (.int v)))) (pc + 3) L rest) : JW G X k n w pc L (.int v :: .ref a :: rest) :=
  jw_putN (ty := .int) jU_X4 tyX4_ok nmX4 rfl 0 (by decide) rfl rfl (by decide +kernel) C kfn_X2_51 q0 he rfl rfl hl d kk
theorem fg_X0_59 {v : Value} (C : JC G X rm cc RX0 nL) (q0 : Nat) (he : w[q0]? = some (a, .inr (4, fs))) (hv : fs[0]? = some v) (d : decode cc pc = .ok (.getfield 59, 3)) (kk : JW G X k n w (pc + 3) L (v :: rest)) : JW G X k n w pc L (.ref a :: rest) :=
  jw_getN jU_X4 rfl 0 (by decide) rfl C kfn_X0_59 q0 he hv d kk
theorem fp_X0_59 {v : Int32} (C : JC G X rm cc RX0 nL) (q0 : Nat) (he : w[q0]? = some (a, .inr (4, fs))) (hl : 0 < fs.length) (d : decode cc pc = .ok (.putfield 59, 3)) (kk : JW G X k n (w.set q0 (a, .inr (4, fs.set 0 (.int v)))) (pc + 3) L rest) : JW G X k n w pc L (.int v :: .ref a :: rest) :=
  jw_putN (ty := .int) jU_X4 tyX4_ok nmX4 rfl 0 (by decide) rfl rfl (by decide +kernel) C kfn_X0_59 q0 he rfl rfl hl d kk
theorem fg_X4_9 {v : Value} (C : JC G X rm cc RX4 nL) (q0 : Nat) (he : w[q0]? = some (a, .inr (4, fs))) (hv : fs[1]? = some v) (d : decode cc pc = .ok (.getfield 9, 3)) (kk : JW G X k n w (pc + 3) L (v :: rest)) : JW G X k n w pc L (.ref a :: rest) :=
  jw_get jU_X4 rfl 1 (by decide) rfl C kfl_X4_9 q0 he hv d kk
theorem fg_X5_83 {v : Value} (C : JC G X rm cc RX5 nL) (q0 : Nat) (he : w[q0]? = some (a, .inr (4, fs))) (hv : fs[1]? = some v) (d : decode cc pc = .ok (.getfield 83, 3)) (kk : JW G X k n w (pc + 3) L (v :: rest)) : JW G X k n w pc L (.ref a :: rest) :=
  jw_getN jU_X4 rfl 1 (by decide) rfl C kfn_X5_83 q0 he hv d kk
theorem fg_X0_114 {v : Value} (C : JC G X rm cc RX0 nL) (q0 : Nat) (he : w[q0]? = some (a, .inr (4, fs))) (hv : fs[1]? = some v) (d : decode cc pc = .ok (.getfield 114, 3)) (kk : JW G X k n w (pc + 3) L (v :: rest)) : JW G X k n w pc L (.ref a :: rest) :=
  jw_getN jU_X4 rfl 1 (by decide) rfl C kfn_X0_114 q0 he hv d kk
theorem fg_X4_15 {v : Value} (C : JC G X rm cc RX4 nL) (q0 : Nat) (he : w[q0]? = some (a, .inr (4, fs))) (hv : fs[2]? = some v) (d : decode cc pc = .ok (.getfield 15, 3)) (kk : JW G X k n w (pc + 3) L (v :: rest)) : JW G X k n w pc L (.ref a :: rest) :=
  jw_get jU_X4 rfl 2 (by decide) rfl C kfl_X4_15 q0 he hv d kk
theorem fg_X0_62 {v : Value} (C : JC G X rm cc RX0 nL) (q0 : Nat) (he : w[q0]? = some (a, .inr (4, fs))) (hv : fs[2]? = some v) (d : decode cc pc = .ok (.getfield 62, 3)) (kk : JW G X k n w (pc + 3) L (v :: rest)) : JW G X k n w pc L (.ref a :: rest) :=
  jw_getN jU_X4 rfl 2 (by decide) rfl C kfn_X0_62 q0 he hv d kk
theorem fg_X5_154 {v : Value} (C : JC G X rm cc RX5 nL) (q0 : Nat) (he : w[q0]? = some (a, .inr (4, fs))) (hv : fs[2]? = some v) (d : decode cc pc = .ok (.getfield 154, 3)) (kk : JW G X k n w (pc + 3) L (v :: rest)) : JW G X k n w pc L (.ref a :: rest) :=
  jw_getN jU_X4 rfl 2 (by decide) rfl C kfn_X5_154 q0 he hv d kk
theorem fg_X4_18 {v : Value} (C : JC G X rm cc RX4 nL) (q0 : Nat) (he : w[q0]? = some (a, .inr (4, fs))) (hv : fs[3]? = some v) (d : decode cc pc = .ok (.getfield 18, 3)) (kk : JW G X k n w (pc + 3) L (v :: rest)) : JW G X k n w pc L (.ref a :: rest) :=
  jw_get jU_X4 rfl 3 (by decide) rfl C kfl_X4_18 q0 he hv d kk
theorem fg_X5_97 {v : Value} (C : JC G X rm cc RX5 nL) (q0 : Nat) (he : w[q0]? = some (a, .inr (4, fs))) (hv : fs[3]? = some v) (d : decode cc pc = .ok (.getfield 97, 3)) (kk : JW G X k n w (pc + 3) L (v :: rest)) : JW G X k n w pc L (.ref a :: rest) :=
  jw_getN jU_X4 rfl 3 (by decide) rfl C kfn_X5_97 q0 he hv d kk
theorem fg_X0_99 {v : Value} (C : JC G X rm cc RX0 nL) (q0 : Nat) (he : w[q0]? = some (a, .inr (4, fs))) (hv : fs[3]? = some v) (d : decode cc pc = .ok (.getfield 99, 3)) (kk : JW G X k n w (pc + 3) L (v :: rest)) : JW G X k n w pc L (.ref a :: rest) :=
  jw_getN jU_X4 rfl 3 (by decide) rfl C kfn_X0_99 q0 he hv d kk
theorem fg_X4_21 {v : Value} (C : JC G X rm cc RX4 nL) (q0 : Nat) (he : w[q0]? = some (a, .inr (4, fs))) (hv : fs[4]? = some v) (d : decode cc pc = .ok (.getfield 21, 3)) (kk : JW G X k n w (pc + 3) L (v :: rest)) : JW G X k n w pc L (.ref a :: rest) :=
  jw_get jU_X4 rfl 4 (by decide) rfl C kfl_X4_21 q0 he hv d kk
theorem fg_X3_55 {v : Value} (C : JC G X rm cc RX3 nL) (q0 : Nat) (he : w[q0]? = some (a, .inr (4, fs))) (hv : fs[4]? = some v) (d : decode cc pc = .ok (.getfield 55, 3)) (kk : JW G X k n w (pc + 3) L (v :: rest)) : JW G X k n w pc L (.ref a :: rest) :=
  jw_getN jU_X4 rfl 4 (by decide) rfl C kfn_X3_55 q0 he hv d kk
theorem fg_X5_100 {v : Value} (C : JC G X rm cc RX5 nL) (q0 : Nat) (he : w[q0]? = some (a, .inr (4, fs))) (hv : fs[4]? = some v) (d : decode cc pc = .ok (.getfield 100, 3)) (kk : JW G X k n w (pc + 3) L (v :: rest)) : JW G X k n w pc L (.ref a :: rest) :=
  jw_getN jU_X4 rfl 4 (by decide) rfl C kfn_X5_100 q0 he hv d kk
theorem fg_X4_24 {v : Value} (C : JC G X rm cc RX4 nL) (q0 : Nat) (he : w[q0]? = some (a, .inr (4, fs))) (hv : fs[5]? = some v) (d : decode cc pc = .ok (.getfield 24, 3)) (kk : JW G X k n w (pc + 3) L (v :: rest)) : JW G X k n w pc L (.ref a :: rest) :=
  jw_get jU_X4 rfl 5 (by decide) rfl C kfl_X4_24 q0 he hv d kk
theorem fg_X0_63 {v : Value} (C : JC G X rm cc RX0 nL) (q0 : Nat) (he : w[q0]? = some (a, .inr (4, fs))) (hv : fs[5]? = some v) (d : decode cc pc = .ok (.getfield 63, 3)) (kk : JW G X k n w (pc + 3) L (v :: rest)) : JW G X k n w pc L (.ref a :: rest) :=
  jw_getN jU_X4 rfl 5 (by decide) rfl C kfn_X0_63 q0 he hv d kk
theorem fg_X3_52 {v : Value} (C : JC G X rm cc RX3 nL) (q0 : Nat) (he : w[q0]? = some (a, .inr (4, fs))) (hv : fs[5]? = some v) (d : decode cc pc = .ok (.getfield 52, 3)) (kk : JW G X k n w (pc + 3) L (v :: rest)) : JW G X k n w pc L (.ref a :: rest) :=
  jw_getN jU_X4 rfl 5 (by decide) rfl C kfn_X3_52 q0 he hv d kk
theorem fg_X5_151 {v : Value} (C : JC G X rm cc RX5 nL) (q0 : Nat) (he : w[q0]? = some (a, .inr (4, fs))) (hv : fs[5]? = some v) (d : decode cc pc = .ok (.getfield 151, 3)) (kk : JW G X k n w (pc + 3) L (v :: rest)) : JW G X k n w pc L (.ref a :: rest) :=
  jw_getN jU_X4 rfl 5 (by decide) rfl C kfn_X5_151 q0 he hv d kk
theorem fg_X3_27 {v : Value} (C : JC G X rm cc RX3 nL) (q0 : Nat) (he : w[q0]? = some (a, .inr (4, fs))) (hv : fs[6]? = some v) (d : decode cc pc = .ok (.getfield 27, 3)) (kk : JW G X k n w (pc + 3) L (v :: rest)) : JW G X k n w pc L (.ref a :: rest) :=
  jw_getN jU_X4 rfl 6 (by decide) rfl C kfn_X3_27 q0 he hv d kk
theorem fp_X3_27 {v : Int32} (C : JC G X rm cc RX3 nL) (q0 : Nat) (he : w[q0]? = some (a, .inr (4, fs))) (hl : 6 < fs.length) (d : decode cc pc = .ok (.putfield 27, 3)) (kk : JW G X k n (w.set q0 (a, .inr (4, fs.set 6 (.int v)))) (pc + 3) L rest) : JW G X k n w pc L (.int v :: .ref a :: rest) :=
  jw_putN (ty := .int) jU_X4 tyX4_ok nmX4 rfl 6 (by decide) rfl rfl (by decide +kernel) C kfn_X3_27 q0 he rfl rfl hl d kk
theorem fg_X0_51 {v : Value} (C : JC G X rm cc RX0 nL) (q0 : Nat) (he : w[q0]? = some (a, .inr (4, fs))) (hv : fs[6]? = some v) (d : decode cc pc = .ok (.getfield 51, 3)) (kk : JW G X k n w (pc + 3) L (v :: rest)) : JW G X k n w pc L (.ref a :: rest) :=
  jw_getN jU_X4 rfl 6 (by decide) rfl C kfn_X0_51 q0 he hv d kk
theorem fp_X0_51 {v : Int32} (C : JC G X rm cc RX0 nL) (q0 : Nat) (he : w[q0]? = some (a, .inr (4, fs))) (hl : 6 < fs.length) (d : decode cc pc = .ok (.putfield 51, 3)) (kk : JW G X k n (w.set q0 (a, .inr (4, fs.set 6 (.int v)))) (pc + 3) L rest) : JW G X k n w pc L (.int v :: .ref a :: rest) :=
  jw_putN (ty := .int) jU_X4 tyX4_ok nmX4 rfl 6 (by decide) rfl rfl (by decide +kernel) C kfn_X0_51 q0 he rfl rfl hl d kk
theorem fg_X2_54 {v : Value} (C : JC G X rm cc RX2 nL) (q0 : Nat) (he : w[q0]? = some (a, .inr (4, fs))) (hv : fs[6]? = some v) (d : decode cc pc = .ok (.getfield 54, 3)) (kk : JW G X k n w (pc + 3) L (v :: rest)) : JW G X k n w pc L (.ref a :: rest) :=
  jw_getN jU_X4 rfl 6 (by decide) rfl C kfn_X2_54 q0 he hv d kk
theorem fp_X2_54 {v : Int32} (C : JC G X rm cc RX2 nL) (q0 : Nat) (he : w[q0]? = some (a, .inr (4, fs))) (hl : 6 < fs.length) (d : decode cc pc = .ok (.putfield 54, 3)) (kk : JW G X k n (w.set q0 (a, .inr (4, fs.set 6 (.int v)))) (pc + 3) L rest) : JW G X k n w pc L (.int v :: .ref a :: rest) :=
  jw_putN (ty := .int) jU_X4 tyX4_ok nmX4 rfl 6 (by decide) rfl rfl (by decide +kernel) C kfn_X2_54 q0 he rfl rfl hl d kk
theorem fg_X5_119 {v : Value} (C : JC G X rm cc RX5 nL) (q0 : Nat) (he : w[q0]? = some (a, .inr (4, fs))) (hv : fs[6]? = some v) (d : decode cc pc = .ok (.getfield 119, 3)) (kk : JW G X k n w (pc + 3) L (v :: rest)) : JW G X k n w pc L (.ref a :: rest) :=
  jw_getN jU_X4 rfl 6 (by decide) rfl C kfn_X5_119 q0 he hv d kk
theorem fp_X5_119 {v : Int32} (C : JC G X rm cc RX5 nL) (q0 : Nat) (he : w[q0]? = some (a, .inr (4, fs))) (hl : 6 < fs.length) (d : decode cc pc = .ok (.putfield 119, 3)) (kk : JW G X k n (w.set q0 (a, .inr (4, fs.set 6 (.int v)))) (pc + 3) L rest) : JW G X k n w pc L (.int v :: .ref a :: rest) :=
  jw_putN (ty := .int) jU_X4 tyX4_ok nmX4 rfl 6 (by decide) rfl rfl (by decide +kernel) C kfn_X5_119 q0 he rfl rfl hl d kk
theorem fg_X4_56 {v : Value} (C : JC G X rm cc RX4 nL) (q0 : Nat) (he : w[q0]? = some (a, .inr (4, fs))) (hv : fs[6]? = some v) (d : decode cc pc = .ok (.getfield 56, 3)) (kk : JW G X k n w (pc + 3) L (v :: rest)) : JW G X k n w pc L (.ref a :: rest) :=
  jw_get jU_X4 rfl 6 (by decide) rfl C kfl_X4_56 q0 he hv d kk
theorem fp_X4_56 {v : Int32} (C : JC G X rm cc RX4 nL) (q0 : Nat) (he : w[q0]? = some (a, .inr (4, fs))) (hl : 6 < fs.length) (d : decode cc pc = .ok (.putfield 56, 3)) (kk : JW G X k n (w.set q0 (a, .inr (4, fs.set 6 (.int v)))) (pc + 3) L rest) : JW G X k n w pc L (.int v :: .ref a :: rest) :=
  jw_put (ty := .int) jU_X4 tyX4_ok nmX4 rfl 6 (by decide) rfl rfl (by decide +kernel) C kfl_X4_56 q0 he rfl rfl hl d kk
theorem fg_X4_27 {v : Value} (C : JC G X rm cc RX4 nL) (q0 : Nat) (he : w[q0]? = some (a, .inr (4, fs))) (hv : fs[7]? = some v) (d : decode cc pc = .ok (.getfield 27, 3)) (kk : JW G X k n w (pc + 3) L (v :: rest)) : JW G X k n w pc L (.ref a :: rest) :=
  jw_get jU_X4 rfl 7 (by decide) rfl C kfl_X4_27 q0 he hv d kk
theorem fg_X3_44 {v : Value} (C : JC G X rm cc RX3 nL) (q0 : Nat) (he : w[q0]? = some (a, .inr (4, fs))) (hv : fs[7]? = some v) (d : decode cc pc = .ok (.getfield 44, 3)) (kk : JW G X k n w (pc + 3) L (v :: rest)) : JW G X k n w pc L (.ref a :: rest) :=
  jw_getN jU_X4 rfl 7 (by decide) rfl C kfn_X3_44 q0 he hv d kk
theorem fg_X0_84 {v : Value} (C : JC G X rm cc RX0 nL) (q0 : Nat) (he : w[q0]? = some (a, .inr (4, fs))) (hv : fs[7]? = some v) (d : decode cc pc = .ok (.getfield 84, 3)) (kk : JW G X k n w (pc + 3) L (v :: rest)) : JW G X k n w pc L (.ref a :: rest) :=
  jw_getN jU_X4 rfl 7 (by decide) rfl C kfn_X0_84 q0 he hv d kk
theorem fg_X4_30 {v : Value} (C : JC G X rm cc RX4 nL) (q0 : Nat) (he : w[q0]? = some (a, .inr (4, fs))) (hv : fs[8]? = some v) (d : decode cc pc = .ok (.getfield 30, 3)) (kk : JW G X k n w (pc + 3) L (v :: rest)) : JW G X k n w pc L (.ref a :: rest) :=
  jw_get jU_X4 rfl 8 (by decide) rfl C kfl_X4_30 q0 he hv d kk
theorem fg_X2_34 {v : Value} (C : JC G X rm cc RX2 nL) (q0 : Nat) (he : w[q0]? = some (a, .inr (4, fs))) (hv : fs[8]? = some v) (d : decode cc pc = .ok (.getfield 34, 3)) (kk : JW G X k n w (pc + 3) L (v :: rest)) : JW G X k n w pc L (.ref a :: rest) :=
  jw_getN jU_X4 rfl 8 (by decide) rfl C kfn_X2_34 q0 he hv d kk
theorem fg_X0_73 {v : Value} (C : JC G X rm cc RX0 nL) (q0 : Nat) (he : w[q0]? = some (a, .inr (4, fs))) (hv : fs[8]? = some v) (d : decode cc pc = .ok (.getfield 73, 3)) (kk : JW G X k n w (pc + 3) L (v :: rest)) : JW G X k n w pc L (.ref a :: rest) :=
  jw_getN jU_X4 rfl 8 (by decide) rfl C kfn_X0_73 q0 he hv d kk
theorem fg_X4_33 {v : Value} (C : JC G X rm cc RX4 nL) (q0 : Nat) (he : w[q0]? = some (a, .inr (4, fs))) (hv : fs[9]? = some v) (d : decode cc pc = .ok (.getfield 33, 3)) (kk : JW G X k n w (pc + 3) L (v :: rest)) : JW G X k n w pc L (.ref a :: rest) :=
  jw_get jU_X4 rfl 9 (by decide) rfl C kfl_X4_33 q0 he hv d kk
theorem fg_X2_60 {v : Value} (C : JC G X rm cc RX2 nL) (q0 : Nat) (he : w[q0]? = some (a, .inr (4, fs))) (hv : fs[9]? = some v) (d : decode cc pc = .ok (.getfield 60, 3)) (kk : JW G X k n w (pc + 3) L (v :: rest)) : JW G X k n w pc L (.ref a :: rest) :=
  jw_getN jU_X4 rfl 9 (by decide) rfl C kfn_X2_60 q0 he hv d kk
theorem fg_X0_81 {v : Value} (C : JC G X rm cc RX0 nL) (q0 : Nat) (he : w[q0]? = some (a, .inr (4, fs))) (hv : fs[9]? = some v) (d : decode cc pc = .ok (.getfield 81, 3)) (kk : JW G X k n w (pc + 3) L (v :: rest)) : JW G X k n w pc L (.ref a :: rest) :=
  jw_getN jU_X4 rfl 9 (by decide) rfl C kfn_X0_81 q0 he hv d kk
theorem fg_X5_168 {v : Value} (C : JC G X rm cc RX5 nL) (q0 : Nat) (he : w[q0]? = some (a, .inr (4, fs))) (hv : fs[9]? = some v) (d : decode cc pc = .ok (.getfield 168, 3)) (kk : JW G X k n w (pc + 3) L (v :: rest)) : JW G X k n w pc L (.ref a :: rest) :=
  jw_getN jU_X4 rfl 9 (by decide) rfl C kfn_X5_168 q0 he hv d kk
theorem fg_X4_36 {v : Value} (C : JC G X rm cc RX4 nL) (q0 : Nat) (he : w[q0]? = some (a, .inr (4, fs))) (hv : fs[10]? = some v) (d : decode cc pc = .ok (.getfield 36, 3)) (kk : JW G X k n w (pc + 3) L (v :: rest)) : JW G X k n w pc L (.ref a :: rest) :=
  jw_get jU_X4 rfl 10 (by decide) rfl C kfl_X4_36 q0 he hv d kk
theorem fg_X5_171 {v : Value} (C : JC G X rm cc RX5 nL) (q0 : Nat) (he : w[q0]? = some (a, .inr (4, fs))) (hv : fs[10]? = some v) (d : decode cc pc = .ok (.getfield 171, 3)) (kk : JW G X k n w (pc + 3) L (v :: rest)) : JW G X k n w pc L (.ref a :: rest) :=
  jw_getN jU_X4 rfl 10 (by decide) rfl C kfn_X5_171 q0 he hv d kk
theorem fg_X4_39 {v : Value} (C : JC G X rm cc RX4 nL) (q0 : Nat) (he : w[q0]? = some (a, .inr (4, fs))) (hv : fs[11]? = some v) (d : decode cc pc = .ok (.getfield 39, 3)) (kk : JW G X k n w (pc + 3) L (v :: rest)) : JW G X k n w pc L (.ref a :: rest) :=
  jw_get jU_X4 rfl 11 (by decide) rfl C kfl_X4_39 q0 he hv d kk
theorem fp_X4_39 {v : Int32} (C : JC G X rm cc RX4 nL) (q0 : Nat) (he : w[q0]? = some (a, .inr (4, fs))) (hl : 11 < fs.length) (d : decode cc pc = .ok (.putfield 39, 3)) (kk : JW G X k n (w.set q0 (a, .inr (4, fs.set 11 (.int v)))) (pc + 3) L rest) : JW G X k n w pc L (.int v :: .ref a :: rest) :=
  jw_put (ty := .int) jU_X4 tyX4_ok nmX4 rfl 11 (by decide) rfl rfl (by decide +kernel) C kfl_X4_39 q0 he rfl rfl hl d kk
theorem fg_X3_67 {v : Value} (C : JC G X rm cc RX3 nL) (q0 : Nat) (he : w[q0]? = some (a, .inr (4, fs))) (hv : fs[11]? = some v) (d : decode cc pc = .ok (.getfield 67, 3)) (kk : JW G X k n w (pc + 3) L (v :: rest)) : JW G X k n w pc L (.ref a :: rest) :=
  jw_getN jU_X4 rfl 11 (by decide) rfl C kfn_X3_67 q0 he hv d kk
theorem fp_X3_67 {v : Int32} (C : JC G X rm cc RX3 nL) (q0 : Nat) (he : w[q0]? = some (a, .inr (4, fs))) (hl : 11 < fs.length) (d : decode cc pc = .ok (.putfield 67, 3)) (kk : JW G X k n (w.set q0 (a, .inr (4, fs.set 11 (.int v)))) (pc + 3) L rest) : JW G X k n w pc L (.int v :: .ref a :: rest) :=
  jw_putN (ty := .int) jU_X4 tyX4_ok nmX4 rfl 11 (by decide) rfl rfl (by decide +kernel) C kfn_X3_67 q0 he rfl rfl hl d kk
theorem fg_X5_110 {v : Value} (C : JC G X rm cc RX5 nL) (q0 : Nat) (he : w[q0]? = some (a, .inr (4, fs))) (hv : fs[11]? = some v) (d : decode cc pc = .ok (.getfield 110, 3)) (kk : JW G X k n w (pc + 3) L (v :: rest)) : JW G X k n w pc L (.ref a :: rest) :=
  jw_getN jU_X4 rfl 11 (by decide) rfl C kfn_X5_110 q0 he hv d kk
theorem fp_X5_110 {v : Int32} (C : JC G X rm cc RX5 nL) (q0 : Nat) (he : w[q0]? = some (a, .inr (4, fs))) (hl : 11 < fs.length) (d : decode cc pc = .ok (.putfield 110, 3)) (kk : JW G X k n (w.set q0 (a, .inr (4, fs.set 11 (.int v)))) (pc + 3) L rest) : JW G X k n w pc L (.int v :: .ref a :: rest) :=
  jw_putN (ty := .int) jU_X4 tyX4_ok nmX4 rfl 11 (by decide) rfl rfl (by decide +kernel) C kfn_X5_110 q0 he rfl rfl hl d kk
theorem fg_X4_43 {v : Value} (C : JC G X rm cc RX4 nL) (q0 : Nat) (he : w[q0]? = some (a, .inr (4, fs))) (hv : fs[12]? = some v) (d : decode cc pc = .ok (.getfield 43, 3)) (kk : JW G X k n w (pc + 3) L (v :: rest)) : JW G X k n w pc L (.ref a :: rest) :=
  jw_get jU_X4 rfl 12 (by decide) rfl C kfl_X4_43 q0 he hv d kk
theorem fp_X4_43 {v : Int32} (C : JC G X rm cc RX4 nL) (q0 : Nat) (he : w[q0]? = some (a, .inr (4, fs))) (hl : 12 < fs.length) (d : decode cc pc = .ok (.putfield 43, 3)) (kk : JW G X k n (w.set q0 (a, .inr (4, fs.set 12 (.int v)))) (pc + 3) L rest) : JW G X k n w pc L (.int v :: .ref a :: rest) :=
  jw_put (ty := .int) jU_X4 tyX4_ok nmX4 rfl 12 (by decide) rfl rfl (by decide +kernel) C kfl_X4_43 q0 he rfl rfl hl d kk
theorem fg_X5_113 {v : Value} (C : JC G X rm cc RX5 nL) (q0 : Nat) (he : w[q0]? = some (a, .inr (4, fs))) (hv : fs[12]? = some v) (d : decode cc pc = .ok (.getfield 113, 3)) (kk : JW G X k n w (pc + 3) L (v :: rest)) : JW G X k n w pc L (.ref a :: rest) :=
  jw_getN jU_X4 rfl 12 (by decide) rfl C kfn_X5_113 q0 he hv d kk
theorem fp_X5_113 {v : Int32} (C : JC G X rm cc RX5 nL) (q0 : Nat) (he : w[q0]? = some (a, .inr (4, fs))) (hl : 12 < fs.length) (d : decode cc pc = .ok (.putfield 113, 3)) (kk : JW G X k n (w.set q0 (a, .inr (4, fs.set 12 (.int v)))) (pc + 3) L rest) : JW G X k n w pc L (.int v :: .ref a :: rest) :=
  jw_putN (ty := .int) jU_X4 tyX4_ok nmX4 rfl 12 (by decide) rfl rfl (by decide +kernel) C kfn_X5_113 q0 he rfl rfl hl d kk
theorem fg_X1_11 {v : Value} (C : JC G X rm cc RX1 nL) (q0 : Nat) (he : w[q0]? = some (a, .inr (1, fs))) (hv : fs[0]? = some v) (d : decode cc pc = .ok (.getfield 11, 3)) (kk : JW G X k n w (pc + 3) L (v :: rest)) : JW G X k n w pc L (.ref a :: rest) :=
  jw_get jU_X1 rfl 0 (by decide) rfl C kfl_X1_11 q0 he hv d kk
theorem fg_X5_180 {v : Value} (C : JC G X rm cc RX5 nL) (q0 : Nat) (he : w[q0]? = some (a, .inr (1, fs))) (hv : fs[0]? = some v) (d : decode cc pc = .ok (.getfield 180, 3)) (kk : JW G X k n w (pc + 3) L (v :: rest)) : JW G X k n w pc L (.ref a :: rest) :=
  jw_getN jU_X1 rfl 0 (by decide) rfl C kfn_X5_180 q0 he hv d kk
theorem fg_X1_15 {v : Value} (C : JC G X rm cc RX1 nL) (q0 : Nat) (he : w[q0]? = some (a, .inr (1, fs))) (hv : fs[1]? = some v) (d : decode cc pc = .ok (.getfield 15, 3)) (kk : JW G X k n w (pc + 3) L (v :: rest)) : JW G X k n w pc L (.ref a :: rest) :=
  jw_get jU_X1 rfl 1 (by decide) rfl C kfl_X1_15 q0 he hv d kk
theorem fg_X5_183 {v : Value} (C : JC G X rm cc RX5 nL) (q0 : Nat) (he : w[q0]? = some (a, .inr (1, fs))) (hv : fs[1]? = some v) (d : decode cc pc = .ok (.getfield 183, 3)) (kk : JW G X k n w (pc + 3) L (v :: rest)) : JW G X k n w pc L (.ref a :: rest) :=
  jw_getN jU_X1 rfl 1 (by decide) rfl C kfn_X5_183 q0 he hv d kk
theorem fg_X1_18 {v : Value} (C : JC G X rm cc RX1 nL) (q0 : Nat) (he : w[q0]? = some (a, .inr (1, fs))) (hv : fs[2]? = some v) (d : decode cc pc = .ok (.getfield 18, 3)) (kk : JW G X k n w (pc + 3) L (v :: rest)) : JW G X k n w pc L (.ref a :: rest) :=
  jw_get jU_X1 rfl 2 (by decide) rfl C kfl_X1_18 q0 he hv d kk
theorem fp_X1_18 {v : Int32} (C : JC G X rm cc RX1 nL) (q0 : Nat) (he : w[q0]? = some (a, .inr (1, fs))) (hl : 2 < fs.length) (d : decode cc pc = .ok (.putfield 18, 3)) (kk : JW G X k n (w.set q0 (a, .inr (1, fs.set 2 (.int v)))) (pc + 3) L rest) : JW G X k n w pc L (.int v :: .ref a :: rest) :=
  jw_put (ty := .int) jU_X1 tyX1_ok nmX1 rfl 2 (by decide) rfl rfl (by decide +kernel) C kfl_X1_18 q0 he rfl rfl hl d kk
theorem fg_X5_174 {v : Value} (C : JC G X rm cc RX5 nL) (q0 : Nat) (he : w[q0]? = some (a, .inr (1, fs))) (hv : fs[2]? = some v) (d : decode cc pc = .ok (.getfield 174, 3)) (kk : JW G X k n w (pc + 3) L (v :: rest)) : JW G X k n w pc L (.ref a :: rest) :=
  jw_getN jU_X1 rfl 2 (by decide) rfl C kfn_X5_174 q0 he hv d kk
theorem fp_X5_174 {v : Int32} (C : JC G X rm cc RX5 nL) (q0 : Nat) (he : w[q0]? = some (a, .inr (1, fs))) (hl : 2 < fs.length) (d : decode cc pc = .ok (.putfield 174, 3)) (kk : JW G X k n (w.set q0 (a, .inr (1, fs.set 2 (.int v)))) (pc + 3) L rest) : JW G X k n w pc L (.int v :: .ref a :: rest) :=
  jw_putN (ty := .int) jU_X1 tyX1_ok nmX1 rfl 2 (by decide) rfl rfl (by decide +kernel) C kfn_X5_174 q0 he rfl rfl hl d kk
theorem fg_X2_24 {v : Value} (C : JC G X rm cc RX2 nL) (q0 : Nat) (he : w[q0]? = some (a, .inr (2, fs))) (hv : fs[0]? = some v) (d : decode cc pc = .ok (.getfield 24, 3)) (kk : JW G X k n w (pc + 3) L (v :: rest)) : JW G X k n w pc L (.ref a :: rest) :=
  jw_get jU_X2 rfl 0 (by decide) rfl C kfl_X2_24 q0 he hv d kk
theorem fg_X2_9 {v : Value} (C : JC G X rm cc RX2 nL) (q0 : Nat) (he : w[q0]? = some (a, .inr (2, fs))) (hv : fs[1]? = some v) (d : decode cc pc = .ok (.getfield 9, 3)) (kk : JW G X k n w (pc + 3) L (v :: rest)) : JW G X k n w pc L (.ref a :: rest) :=
  jw_get jU_X2 rfl 1 (by decide) rfl C kfl_X2_9 q0 he hv d kk
theorem fg_X2_15 {v : Value} (C : JC G X rm cc RX2 nL) (q0 : Nat) (he : w[q0]? = some (a, .inr (2, fs))) (hv : fs[2]? = some v) (d : decode cc pc = .ok (.getfield 15, 3)) (kk : JW G X k n w (pc + 3) L (v :: rest)) : JW G X k n w pc L (.ref a :: rest) :=
  jw_get jU_X2 rfl 2 (by decide) rfl C kfl_X2_15 q0 he hv d kk
theorem fg_X2_18 {v : Value} (C : JC G X rm cc RX2 nL) (q0 : Nat) (he : w[q0]? = some (a, .inr (2, fs))) (hv : fs[3]? = some v) (d : decode cc pc = .ok (.getfield 18, 3)) (kk : JW G X k n w (pc + 3) L (v :: rest)) : JW G X k n w pc L (.ref a :: rest) :=
  jw_get jU_X2 rfl 3 (by decide) rfl C kfl_X2_18 q0 he hv d kk
theorem fg_X3_74 {v : Value} (C : JC G X rm cc RX3 nL) (q0 : Nat) (he : w[q0]? = some (a, .inr (2, fs))) (hv : fs[3]? = some v) (d : decode cc pc = .ok (.getfield 74, 3)) (kk : JW G X k n w (pc + 3) L (v :: rest)) : JW G X k n w pc L (.ref a :: rest) :=
  jw_getN jU_X2 rfl 3 (by decide) rfl C kfn_X3_74 q0 he hv d kk
theorem fg_X2_21 {v : Value} (C : JC G X rm cc RX2 nL) (q0 : Nat) (he : w[q0]? = some (a, .inr (2, fs))) (hv : fs[4]? = some v) (d : decode cc pc = .ok (.getfield 21, 3)) (kk : JW G X k n w (pc + 3) L (v :: rest)) : JW G X k n w pc L (.ref a :: rest) :=
  jw_get jU_X2 rfl 4 (by decide) rfl C kfl_X2_21 q0 he hv d kk
theorem fg_X3_84 {v : Value} (C : JC G X rm cc RX3 nL) (q0 : Nat) (he : w[q0]? = some (a, .inr (2, fs))) (hv : fs[4]? = some v) (d : decode cc pc = .ok (.getfield 84, 3)) (kk : JW G X k n w (pc + 3) L (v :: rest)) : JW G X k n w pc L (.ref a :: rest) :=
  jw_getN jU_X2 rfl 4 (by decide) rfl C kfn_X3_84 q0 he hv d kk
theorem fg_X2_43 {v : Value} (C : JC G X rm cc RX2 nL) (q0 : Nat) (he : w[q0]? = some (a, .inr (2, fs))) (hv : fs[5]? = some v) (d : decode cc pc = .ok (.getfield 43, 3)) (kk : JW G X k n w (pc + 3) L (v :: rest)) : JW G X k n w pc L (.ref a :: rest) :=
  jw_get jU_X2 rfl 5 (by decide) rfl C kfl_X2_43 q0 he hv d kk
theorem fp_X2_43 {v : Int32} (C : JC G X rm cc RX2 nL) (q0 : Nat) (he : w[q0]? = some (a, .inr (2, fs))) (hl : 5 < fs.length) (d : decode cc pc = .ok (.putfield 43, 3)) (kk : JW G X k n (w.set q0 (a, .inr (2, fs.set 5 (.int v)))) (pc + 3) L rest) : JW G X k n w pc L (.int v :: .ref a :: rest) :=
  jw_put (ty := .int) jU_X2 tyX2_ok nmX2 rfl 5 (by decide) rfl rfl (by decide +kernel) C kfl_X2_43 q0 he rfl rfl hl d kk
theorem fg_X3_81 {v : Value} (C : JC G X rm cc RX3 nL) (q0 : Nat) (he : w[q0]? = some (a, .inr (2, fs))) (hv : fs[5]? = some v) (d : decode cc pc = .ok (.getfield 81, 3)) (kk : JW G X k n w (pc + 3) L (v :: rest)) : JW G X k n w pc L (.ref a :: rest) :=
  jw_getN jU_X2 rfl 5 (by decide) rfl C kfn_X3_81 q0 he hv d kk
theorem fp_X3_81 {v : Int32} (C : JC G X rm cc RX3 nL) (q0 : Nat) (he : w[q0]? = some (a, .inr (2, fs))) (hl : 5 < fs.length) (d : decode cc pc = .ok (.putfield 81, 3)) (kk : JW G X k n (w.set q0 (a, .inr (2, fs.set 5 (.int v)))) (pc + 3) L rest) : JW G X k n w pc L (.int v :: .ref a :: rest) :=
  jw_putN (ty := .int) jU_X2 tyX2_ok nmX2 rfl 5 (by decide) rfl rfl (by decide +kernel) C kfn_X3_81 q0 he rfl rfl hl d kk
theorem fg_X3_15 {v : Value} (C : JC G X rm cc RX3 nL) (q0 : Nat) (he : w[q0]? = some (a, .inr (3, fs))) (hv : fs[0]? = some v) (d : decode cc pc = .ok (.getfield 15, 3)) (kk : JW G X k n w (pc + 3) L (v :: rest)) : JW G X k n w pc L (.ref a :: rest) :=
  jw_get jU_X3 rfl 0 (by decide) rfl C kfl_X3_15 q0 he hv d kk
theorem fg_X3_19 {v : Value} (C : JC G X rm cc RX3 nL) (q0 : Nat) (he : w[q0]? = some (a, .inr (3, fs))) (hv : fs[1]? = some v) (d : decode cc pc = .ok (.getfield 19, 3)) (kk : JW G X k n w (pc + 3) L (v :: rest)) : JW G X k n w pc L (.ref a :: rest) :=
  jw_get jU_X3 rfl 1 (by decide) rfl C kfl_X3_19 q0 he hv d kk
theorem fg_X3_23 {v : Value} (C : JC G X rm cc RX3 nL) (q0 : Nat) (he : w[q0]? = some (a, .inr (3, fs))) (hv : fs[2]? = some v) (d : decode cc pc = .ok (.getfield 23, 3)) (kk : JW G X k n w (pc + 3) L (v :: rest)) : JW G X k n w pc L (.ref a :: rest) :=
  jw_get jU_X3 rfl 2 (by decide) rfl C kfl_X3_23 q0 he hv d kk
theorem fg_X3_9 {v : Value} (C : JC G X rm cc RX3 nL) (q0 : Nat) (he : w[q0]? = some (a, .inr (3, fs))) (hv : fs[3]? = some v) (d : decode cc pc = .ok (.getfield 9, 3)) (kk : JW G X k n w (pc + 3) L (v :: rest)) : JW G X k n w pc L (.ref a :: rest) :=
  jw_get jU_X3 rfl 3 (by decide) rfl C kfl_X3_9 q0 he hv d kk
theorem fg_X0_37 {v : Value} (C : JC G X rm cc RX0 nL) (q0 : Nat) (he : w[q0]? = some (a, .inr (0, fs))) (hv : fs[0]? = some v) (d : decode cc pc = .ok (.getfield 37, 3)) (kk : JW G X k n w (pc + 3) L (v :: rest)) : JW G X k n w pc L (.ref a :: rest) :=
  jw_get jU_X0 rfl 0 (by decide) rfl C kfl_X0_37 q0 he hv d kk
theorem fg_X0_9 {v : Value} (C : JC G X rm cc RX0 nL) (q0 : Nat) (he : w[q0]? = some (a, .inr (0, fs))) (hv : fs[1]? = some v) (d : decode cc pc = .ok (.getfield 9, 3)) (kk : JW G X k n w (pc + 3) L (v :: rest)) : JW G X k n w pc L (.ref a :: rest) :=
  jw_get jU_X0 rfl 1 (by decide) rfl C kfl_X0_9 q0 he hv d kk
theorem fg_X0_15 {v : Value} (C : JC G X rm cc RX0 nL) (q0 : Nat) (he : w[q0]? = some (a, .inr (0, fs))) (hv : fs[2]? = some v) (d : decode cc pc = .ok (.getfield 15, 3)) (kk : JW G X k n w (pc + 3) L (v :: rest)) : JW G X k n w pc L (.ref a :: rest) :=
  jw_get jU_X0 rfl 2 (by decide) rfl C kfl_X0_15 q0 he hv d kk
theorem fg_X0_18 {v : Value} (C : JC G X rm cc RX0 nL) (q0 : Nat) (he : w[q0]? = some (a, .inr (0, fs))) (hv : fs[3]? = some v) (d : decode cc pc = .ok (.getfield 18, 3)) (kk : JW G X k n w (pc + 3) L (v :: rest)) : JW G X k n w pc L (.ref a :: rest) :=
  jw_get jU_X0 rfl 3 (by decide) rfl C kfl_X0_18 q0 he hv d kk
theorem fg_X0_21 {v : Value} (C : JC G X rm cc RX0 nL) (q0 : Nat) (he : w[q0]? = some (a, .inr (0, fs))) (hv : fs[4]? = some v) (d : decode cc pc = .ok (.getfield 21, 3)) (kk : JW G X k n w (pc + 3) L (v :: rest)) : JW G X k n w pc L (.ref a :: rest) :=
  jw_get jU_X0 rfl 4 (by decide) rfl C kfl_X0_21 q0 he hv d kk
theorem fg_X0_24 {v : Value} (C : JC G X rm cc RX0 nL) (q0 : Nat) (he : w[q0]? = some (a, .inr (0, fs))) (hv : fs[5]? = some v) (d : decode cc pc = .ok (.getfield 24, 3)) (kk : JW G X k n w (pc + 3) L (v :: rest)) : JW G X k n w pc L (.ref a :: rest) :=
  jw_get jU_X0 rfl 5 (by decide) rfl C kfl_X0_24 q0 he hv d kk
theorem fg_X0_90 {v : Value} (C : JC G X rm cc RX0 nL) (q0 : Nat) (he : w[q0]? = some (a, .inr (0, fs))) (hv : fs[6]? = some v) (d : decode cc pc = .ok (.getfield 90, 3)) (kk : JW G X k n w (pc + 3) L (v :: rest)) : JW G X k n w pc L (.ref a :: rest) :=
  jw_get jU_X0 rfl 6 (by decide) rfl C kfl_X0_90 q0 he hv d kk
theorem fp_X0_90 {v : Int32} (C : JC G X rm cc RX0 nL) (q0 : Nat) (he : w[q0]? = some (a, .inr (0, fs))) (hl : 6 < fs.length) (d : decode cc pc = .ok (.putfield 90, 3)) (kk : JW G X k n (w.set q0 (a, .inr (0, fs.set 6 (.int v)))) (pc + 3) L rest) : JW G X k n w pc L (.int v :: .ref a :: rest) :=
  jw_put (ty := .int) jU_X0 tyX0_ok nmX0 rfl 6 (by decide) rfl rfl (by decide +kernel) C kfl_X0_90 q0 he rfl rfl hl d kk
theorem fg_X0_27 {v : Value} (C : JC G X rm cc RX0 nL) (q0 : Nat) (he : w[q0]? = some (a, .inr (0, fs))) (hv : fs[7]? = some v) (d : decode cc pc = .ok (.getfield 27, 3)) (kk : JW G X k n w (pc + 3) L (v :: rest)) : JW G X k n w pc L (.ref a :: rest) :=
  jw_get jU_X0 rfl 7 (by decide) rfl C kfl_X0_27 q0 he hv d kk
theorem fg_X0_31 {v : Value} (C : JC G X rm cc RX0 nL) (q0 : Nat) (he : w[q0]? = some (a, .inr (0, fs))) (hv : fs[8]? = some v) (d : decode cc pc = .ok (.getfield 31, 3)) (kk : JW G X k n w (pc + 3) L (v :: rest)) : JW G X k n w pc L (.ref a :: rest) :=
  jw_get jU_X0 rfl 8 (by decide) rfl C kfl_X0_31 q0 he hv d kk
theorem fg_X0_34 {v : Value} (C : JC G X rm cc RX0 nL) (q0 : Nat) (he : w[q0]? = some (a, .inr (0, fs))) (hv : fs[9]? = some v) (d : decode cc pc = .ok (.getfield 34, 3)) (kk : JW G X k n w (pc + 3) L (v :: rest)) : JW G X k n w pc L (.ref a :: rest) :=
  jw_get jU_X0 rfl 9 (by decide) rfl C kfl_X0_34 q0 he hv d kk
theorem fg_X5_10 {v : Value} (C : JC G X rm cc RX5 nL) (q0 : Nat) (he : w[q0]? = some (a, .inr (5, fs))) (hv : fs[0]? = some v) (d : decode cc pc = .ok (.getfield 10, 3)) (kk : JW G X k n w (pc + 3) L (v :: rest)) : JW G X k n w pc L (.ref a :: rest) :=
  jw_get jU_X5 rfl 0 (by decide) rfl C kfl_X5_10 q0 he hv d kk
theorem fg_X5_19 {v : Value} (C : JC G X rm cc RX5 nL) (q0 : Nat) (he : w[q0]? = some (a, .inr (5, fs))) (hv : fs[1]? = some v) (d : decode cc pc = .ok (.getfield 19, 3)) (kk : JW G X k n w (pc + 3) L (v :: rest)) : JW G X k n w pc L (.ref a :: rest) :=
  jw_get jU_X5 rfl 1 (by decide) rfl C kfl_X5_19 q0 he hv d kk
theorem fg_X5_28 {v : Value} (C : JC G X rm cc RX5 nL) (q0 : Nat) (he : w[q0]? = some (a, .inr (5, fs))) (hv : fs[2]? = some v) (d : decode cc pc = .ok (.getfield 28, 3)) (kk : JW G X k n w (pc + 3) L (v :: rest)) : JW G X k n w pc L (.ref a :: rest) :=
  jw_get jU_X5 rfl 2 (by decide) rfl C kfl_X5_28 q0 he hv d kk
theorem fg_X5_37 {v : Value} (C : JC G X rm cc RX5 nL) (q0 : Nat) (he : w[q0]? = some (a, .inr (5, fs))) (hv : fs[3]? = some v) (d : decode cc pc = .ok (.getfield 37, 3)) (kk : JW G X k n w (pc + 3) L (v :: rest)) : JW G X k n w pc L (.ref a :: rest) :=
  jw_get jU_X5 rfl 3 (by decide) rfl C kfl_X5_37 q0 he hv d kk
theorem fg_X5_44 {v : Value} (C : JC G X rm cc RX5 nL) (q0 : Nat) (he : w[q0]? = some (a, .inr (5, fs))) (hv : fs[4]? = some v) (d : decode cc pc = .ok (.getfield 44, 3)) (kk : JW G X k n w (pc + 3) L (v :: rest)) : JW G X k n w pc L (.ref a :: rest) :=
  jw_get jU_X5 rfl 4 (by decide) rfl C kfl_X5_44 q0 he hv d kk
theorem fg_X6_60 {v : Value} (C : JC G X rm cc RX6 nL) (q0 : Nat) (he : w[q0]? = some (a, .inr (6, fs))) (hv : fs[0]? = some v) (d : decode cc pc = .ok (.getfield 60, 3)) (kk : JW G X k n w (pc + 3) L (v :: rest)) : JW G X k n w pc L (.ref a :: rest) :=
  jw_get jU_X6 rfl 0 (by decide) rfl C kfl_X6_60 q0 he hv d kk
theorem fp_X6_60 {v : Int32} (C : JC G X rm cc RX6 nL) (q0 : Nat) (he : w[q0]? = some (a, .inr (6, fs))) (hl : 0 < fs.length) (d : decode cc pc = .ok (.putfield 60, 3)) (kk : JW G X k n (w.set q0 (a, .inr (6, fs.set 0 (.int v)))) (pc + 3) L rest) : JW G X k n w pc L (.int v :: .ref a :: rest) :=
  jw_put (ty := .int) jU_X6 tyX6_ok nmX6 rfl 0 (by decide) rfl rfl (by decide +kernel) C kfl_X6_60 q0 he rfl rfl hl d kk
theorem fg_X6_63 {v : Value} (C : JC G X rm cc RX6 nL) (q0 : Nat) (he : w[q0]? = some (a, .inr (6, fs))) (hv : fs[1]? = some v) (d : decode cc pc = .ok (.getfield 63, 3)) (kk : JW G X k n w (pc + 3) L (v :: rest)) : JW G X k n w pc L (.ref a :: rest) :=
  jw_get jU_X6 rfl 1 (by decide) rfl C kfl_X6_63 q0 he hv d kk
theorem fp_X6_63 {v : Int32} (C : JC G X rm cc RX6 nL) (q0 : Nat) (he : w[q0]? = some (a, .inr (6, fs))) (hl : 1 < fs.length) (d : decode cc pc = .ok (.putfield 63, 3)) (kk : JW G X k n (w.set q0 (a, .inr (6, fs.set 1 (.int v)))) (pc + 3) L rest) : JW G X k n w pc L (.int v :: .ref a :: rest) :=
  jw_put (ty := .int) jU_X6 tyX6_ok nmX6 rfl 1 (by decide) rfl rfl (by decide +kernel) C kfl_X6_63 q0 he rfl rfl hl d kk
theorem fg_X6_9 {v : Value} (C : JC G X rm cc RX6 nL) (q0 : Nat) (he : w[q0]? = some (a, .inr (6, fs))) (hv : fs[2]? = some v) (d : decode cc pc = .ok (.getfield 9, 3)) (kk : JW G X k n w (pc + 3) L (v :: rest)) : JW G X k n w pc L (.ref a :: rest) :=
  jw_get jU_X6 rfl 2 (by decide) rfl C kfl_X6_9 q0 he hv d kk
theorem fg_X6_13 {v : Value} (C : JC G X rm cc RX6 nL) (q0 : Nat) (he : w[q0]? = some (a, .inr (6, fs))) (hv : fs[3]? = some v) (d : decode cc pc = .ok (.getfield 13, 3)) (kk : JW G X k n w (pc + 3) L (v :: rest)) : JW G X k n w pc L (.ref a :: rest) :=
  jw_get jU_X6 rfl 3 (by decide) rfl C kfl_X6_13 q0 he hv d kk
theorem fg_X6_16 {v : Value} (C : JC G X rm cc RX6 nL) (q0 : Nat) (he : w[q0]? = some (a, .inr (6, fs))) (hv : fs[4]? = some v) (d : decode cc pc = .ok (.getfield 16, 3)) (kk : JW G X k n w (pc + 3) L (v :: rest)) : JW G X k n w pc L (.ref a :: rest) :=
  jw_get jU_X6 rfl 4 (by decide) rfl C kfl_X6_16 q0 he hv d kk
theorem fg_X6_66 {v : Value} (C : JC G X rm cc RX6 nL) (q0 : Nat) (he : w[q0]? = some (a, .inr (6, fs))) (hv : fs[5]? = some v) (d : decode cc pc = .ok (.getfield 66, 3)) (kk : JW G X k n w (pc + 3) L (v :: rest)) : JW G X k n w pc L (.ref a :: rest) :=
  jw_get jU_X6 rfl 5 (by decide) rfl C kfl_X6_66 q0 he hv d kk
theorem fp_X6_66 {v : Int32} (C : JC G X rm cc RX6 nL) (q0 : Nat) (he : w[q0]? = some (a, .inr (6, fs))) (hl : 5 < fs.length) (d : decode cc pc = .ok (.putfield 66, 3)) (kk : JW G X k n (w.set q0 (a, .inr (6, fs.set 5 (.int v)))) (pc + 3) L rest) : JW G X k n w pc L (.int v :: .ref a :: rest) :=
  jw_put (ty := .int) jU_X6 tyX6_ok nmX6 rfl 5 (by decide) rfl rfl (by decide +kernel) C kfl_X6_66 q0 he rfl rfl hl d kk
theorem fg_X6_19 {v : Value} (C : JC G X rm cc RX6 nL) (q0 : Nat) (he : w[q0]? = some (a, .inr (6, fs))) (hv : fs[6]? = some v) (d : decode cc pc = .ok (.getfield 19, 3)) (kk : JW G X k n w (pc + 3) L (v :: rest)) : JW G X k n w pc L (.ref a :: rest) :=
  jw_get jU_X6 rfl 6 (by decide) rfl C kfl_X6_19 q0 he hv d kk
theorem fg_X6_22 {v : Value} (C : JC G X rm cc RX6 nL) (q0 : Nat) (he : w[q0]? = some (a, .inr (6, fs))) (hv : fs[7]? = some v) (d : decode cc pc = .ok (.getfield 22, 3)) (kk : JW G X k n w (pc + 3) L (v :: rest)) : JW G X k n w pc L (.ref a :: rest) :=
  jw_get jU_X6 rfl 7 (by decide) rfl C kfl_X6_22 q0 he hv d kk
theorem fg_X6_25 {v : Value} (C : JC G X rm cc RX6 nL) (q0 : Nat) (he : w[q0]? = some (a, .inr (6, fs))) (hv : fs[8]? = some v) (d : decode cc pc = .ok (.getfield 25, 3)) (kk : JW G X k n w (pc + 3) L (v :: rest)) : JW G X k n w pc L (.ref a :: rest) :=
  jw_get jU_X6 rfl 8 (by decide) rfl C kfl_X6_25 q0 he hv d kk
theorem fg_X6_28 {v : Value} (C : JC G X rm cc RX6 nL) (q0 : Nat) (he : w[q0]? = some (a, .inr (6, fs))) (hv : fs[9]? = some v) (d : decode cc pc = .ok (.getfield 28, 3)) (kk : JW G X k n w (pc + 3) L (v :: rest)) : JW G X k n w pc L (.ref a :: rest) :=
  jw_get jU_X6 rfl 9 (by decide) rfl C kfl_X6_28 q0 he hv d kk
theorem fg_X6_31 {v : Value} (C : JC G X rm cc RX6 nL) (q0 : Nat) (he : w[q0]? = some (a, .inr (6, fs))) (hv : fs[10]? = some v) (d : decode cc pc = .ok (.getfield 31, 3)) (kk : JW G X k n w (pc + 3) L (v :: rest)) : JW G X k n w pc L (.ref a :: rest) :=
  jw_get jU_X6 rfl 10 (by decide) rfl C kfl_X6_31 q0 he hv d kk
theorem fg_X6_34 {v : Value} (C : JC G X rm cc RX6 nL) (q0 : Nat) (he : w[q0]? = some (a, .inr (6, fs))) (hv : fs[11]? = some v) (d : decode cc pc = .ok (.getfield 34, 3)) (kk : JW G X k n w (pc + 3) L (v :: rest)) : JW G X k n w pc L (.ref a :: rest) :=
  jw_get jU_X6 rfl 11 (by decide) rfl C kfl_X6_34 q0 he hv d kk
theorem fp_X6_34 {v : Int32} (C : JC G X rm cc RX6 nL) (q0 : Nat) (he : w[q0]? = some (a, .inr (6, fs))) (hl : 11 < fs.length) (d : decode cc pc = .ok (.putfield 34, 3)) (kk : JW G X k n (w.set q0 (a, .inr (6, fs.set 11 (.int v)))) (pc + 3) L rest) : JW G X k n w pc L (.int v :: .ref a :: rest) :=
  jw_put (ty := .int) jU_X6 tyX6_ok nmX6 rfl 11 (by decide) rfl rfl (by decide +kernel) C kfl_X6_34 q0 he rfl rfl hl d kk
theorem fg_X6_38 {v : Value} (C : JC G X rm cc RX6 nL) (q0 : Nat) (he : w[q0]? = some (a, .inr (6, fs))) (hv : fs[12]? = some v) (d : decode cc pc = .ok (.getfield 38, 3)) (kk : JW G X k n w (pc + 3) L (v :: rest)) : JW G X k n w pc L (.ref a :: rest) :=
  jw_get jU_X6 rfl 12 (by decide) rfl C kfl_X6_38 q0 he hv d kk
theorem fp_X6_38 {v : Int32} (C : JC G X rm cc RX6 nL) (q0 : Nat) (he : w[q0]? = some (a, .inr (6, fs))) (hl : 12 < fs.length) (d : decode cc pc = .ok (.putfield 38, 3)) (kk : JW G X k n (w.set q0 (a, .inr (6, fs.set 12 (.int v)))) (pc + 3) L rest) : JW G X k n w pc L (.int v :: .ref a :: rest) :=
  jw_put (ty := .int) jU_X6 tyX6_ok nmX6 rfl 12 (by decide) rfl rfl (by decide +kernel) C kfl_X6_38 q0 he rfl rfl hl d kk
theorem fg_X6_102 {v : Value} (C : JC G X rm cc RX6 nL) (q0 : Nat) (he : w[q0]? = some (a, .inr (6, fs))) (hv : fs[13]? = some v) (d : decode cc pc = .ok (.getfield 102, 3)) (kk : JW G X k n w (pc + 3) L (v :: rest)) : JW G X k n w pc L (.ref a :: rest) :=
  jw_get jU_X6 rfl 13 (by decide) rfl C kfl_X6_102 q0 he hv d kk
theorem fp_X6_102 {v : Int32} (C : JC G X rm cc RX6 nL) (q0 : Nat) (he : w[q0]? = some (a, .inr (6, fs))) (hl : 13 < fs.length) (d : decode cc pc = .ok (.putfield 102, 3)) (kk : JW G X k n (w.set q0 (a, .inr (6, fs.set 13 (.int v)))) (pc + 3) L rest) : JW G X k n w pc L (.int v :: .ref a :: rest) :=
  jw_put (ty := .int) jU_X6 tyX6_ok nmX6 rfl 13 (by decide) rfl rfl (by decide +kernel) C kfl_X6_102 q0 he rfl rfl hl d kk
theorem fg_X6_41 {v : Value} (C : JC G X rm cc RX6 nL) (q0 : Nat) (he : w[q0]? = some (a, .inr (6, fs))) (hv : fs[14]? = some v) (d : decode cc pc = .ok (.getfield 41, 3)) (kk : JW G X k n w (pc + 3) L (v :: rest)) : JW G X k n w pc L (.ref a :: rest) :=
  jw_get jU_X6 rfl 14 (by decide) rfl C kfl_X6_41 q0 he hv d kk
theorem fg_X6_44 {v : Value} (C : JC G X rm cc RX6 nL) (q0 : Nat) (he : w[q0]? = some (a, .inr (6, fs))) (hv : fs[15]? = some v) (d : decode cc pc = .ok (.getfield 44, 3)) (kk : JW G X k n w (pc + 3) L (v :: rest)) : JW G X k n w pc L (.ref a :: rest) :=
  jw_get jU_X6 rfl 15 (by decide) rfl C kfl_X6_44 q0 he hv d kk
theorem fg_X6_47 {v : Value} (C : JC G X rm cc RX6 nL) (q0 : Nat) (he : w[q0]? = some (a, .inr (6, fs))) (hv : fs[16]? = some v) (d : decode cc pc = .ok (.getfield 47, 3)) (kk : JW G X k n w (pc + 3) L (v :: rest)) : JW G X k n w pc L (.ref a :: rest) :=
  jw_get jU_X6 rfl 16 (by decide) rfl C kfl_X6_47 q0 he hv d kk
theorem fg_X6_50 {v : Value} (C : JC G X rm cc RX6 nL) (q0 : Nat) (he : w[q0]? = some (a, .inr (6, fs))) (hv : fs[17]? = some v) (d : decode cc pc = .ok (.getfield 50, 3)) (kk : JW G X k n w (pc + 3) L (v :: rest)) : JW G X k n w pc L (.ref a :: rest) :=
  jw_get jU_X6 rfl 17 (by decide) rfl C kfl_X6_50 q0 he hv d kk
theorem fg_X6_54 {v : Value} (C : JC G X rm cc RX6 nL) (q0 : Nat) (he : w[q0]? = some (a, .inr (6, fs))) (hv : fs[18]? = some v) (d : decode cc pc = .ok (.getfield 54, 3)) (kk : JW G X k n w (pc + 3) L (v :: rest)) : JW G X k n w pc L (.ref a :: rest) :=
  jw_get jU_X6 rfl 18 (by decide) rfl C kfl_X6_54 q0 he hv d kk
theorem fg_X6_57 {v : Value} (C : JC G X rm cc RX6 nL) (q0 : Nat) (he : w[q0]? = some (a, .inr (6, fs))) (hv : fs[19]? = some v) (d : decode cc pc = .ok (.getfield 57, 3)) (kk : JW G X k n w (pc + 3) L (v :: rest)) : JW G X k n w pc L (.ref a :: rest) :=
  jw_get jU_X6 rfl 19 (by decide) rfl C kfl_X6_57 q0 he hv d kk
end JLINK
