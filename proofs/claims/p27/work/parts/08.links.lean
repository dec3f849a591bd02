/-! LINKS: what a call needs of a method; the field rows, by class and place in the constant pool (gen_links.py) -/
theorem wi_X0_init : jWi yX0_init cX0_init 2 1 := ⟨kim_X0_init, kini_X0, kco_X0_init, rfl, by decide +kernel⟩
theorem wi_X1_init : jWi yX1_init cX1_init 1 0 := ⟨kim_X1_init, kini_X1, kco_X1_init, rfl, by decide +kernel⟩
theorem wd_X1_clear : jWd yX1_clear RX1 cX1_clear 1 none 0 := ⟨kim_X1_clear, kse_X1_clear, kini_X1, kco_X1_clear, by decide +kernel⟩
theorem wd_X1_add : jWd yX1_add RX1 cX1_add 3 none 2 := ⟨kim_X1_add, kse_X1_add, kini_X1, kco_X1_add, by decide +kernel⟩
theorem wi_X2_init : jWi yX2_init cX2_init 2 1 := ⟨kim_X2_init, kini_X2, kco_X2_init, rfl, by decide +kernel⟩
theorem wd_X2_search : jWd yX2_search RX2 cX2_search 2 (some .int) 1 := ⟨kim_X2_search, kse_X2_search, kini_X2, kco_X2_search, by decide +kernel⟩
theorem wd_X2_collectSuccessors : jWd yX2_collectSuccessors RX2 cX2_collectSuccessors 2 none 0 := ⟨kim_X2_collectSuccessors, kse_X2_collectSuccessors, kini_X2, kco_X2_collectSuccessors, by decide +kernel⟩
theorem wd_X2_buildLayers : jWd yX2_buildLayers RX2 cX2_buildLayers 3 none 0 := ⟨kim_X2_buildLayers, kse_X2_buildLayers, kini_X2, kco_X2_buildLayers, by decide +kernel⟩
theorem wd_X2_leadingTo : jWd yX2_leadingTo RX2 cX2_leadingTo 4 (some .int) 1 := ⟨kim_X2_leadingTo, kse_X2_leadingTo, kini_X2, kco_X2_leadingTo, by decide +kernel⟩
theorem wd_X2_shortestFrom : jWd yX2_shortestFrom RX2 cX2_shortestFrom 3 (some .int) 1 := ⟨kim_X2_shortestFrom, kse_X2_shortestFrom, kini_X2, kco_X2_shortestFrom, by decide +kernel⟩
theorem wd_X2_trace : jWd yX2_trace RX2 cX2_trace 6 (some .boolean) 1 := ⟨kim_X2_trace, kse_X2_trace, kini_X2, kco_X2_trace, by decide +kernel⟩
theorem wd_X2_firstMovable : jWd yX2_firstMovable RX2 cX2_firstMovable 4 (some .int) 2 := ⟨kim_X2_firstMovable, kse_X2_firstMovable, kini_X2, kco_X2_firstMovable, by decide +kernel⟩
theorem wi_X3_init : jWi yX3_init cX3_init 4 3 := ⟨kim_X3_init, kini_X3, kco_X3_init, rfl, by decide +kernel⟩
theorem wd_X3_runOnce : jWd yX3_runOnce RX3 cX3_runOnce 4 (some .int) 0 := ⟨kim_X3_runOnce, kse_X3_runOnce, kini_X3, kco_X3_runOnce, by decide +kernel⟩
theorem wd_X3_nextToTry : jWd yX3_nextToTry RX3 cX3_nextToTry 3 (some .int) 0 := ⟨kim_X3_nextToTry, kse_X3_nextToTry, kini_X3, kco_X3_nextToTry, by decide +kernel⟩
theorem wd_X3_isServedBefore : jWd yX3_isServedBefore RX3 cX3_isServedBefore 5 (some .boolean) 2 := ⟨kim_X3_isServedBefore, kse_X3_isServedBefore, kini_X3, kco_X3_isServedBefore, by decide +kernel⟩
theorem wd_X3_tryToPlace : jWd yX3_tryToPlace RX3 cX3_tryToPlace 3 (some .boolean) 1 := ⟨kim_X3_tryToPlace, kse_X3_tryToPlace, kini_X3, kco_X3_tryToPlace, by decide +kernel⟩
theorem wd_X3_placeAlongPath : jWd yX3_placeAlongPath RX3 cX3_placeAlongPath 5 none 1 := ⟨kim_X3_placeAlongPath, kse_X3_placeAlongPath, kini_X3, kco_X3_placeAlongPath, by decide +kernel⟩
theorem wi_X4_init : jWi yX4_init cX4_init 2 0 := ⟨kim_X4_init, kini_X4, kco_X4_init, rfl, by decide +kernel⟩
theorem wd_X4_maskOfAll : jWd yX4_maskOfAll RX4 cX4_maskOfAll 1 (some .int) 0 := ⟨kim_X4_maskOfAll, kse_X4_maskOfAll, kini_X4, kco_X4_maskOfAll, by decide +kernel⟩
theorem wd_X4_isWaiting : jWd yX4_isWaiting RX4 cX4_isWaiting 2 (some .boolean) 1 := ⟨kim_X4_isWaiting, kse_X4_isWaiting, kini_X4, kco_X4_isWaiting, by decide +kernel⟩
theorem wd_X4_isAssigned : jWd yX4_isAssigned RX4 cX4_isAssigned 2 (some .boolean) 1 := ⟨kim_X4_isAssigned, kse_X4_isAssigned, kini_X4, kco_X4_isAssigned, by decide +kernel⟩
theorem wd_X4_isDeparted : jWd yX4_isDeparted RX4 cX4_isDeparted 2 (some .boolean) 1 := ⟨kim_X4_isDeparted, kse_X4_isDeparted, kini_X4, kco_X4_isDeparted, by decide +kernel⟩
theorem wd_X4_stateNumber : jWd yX4_stateNumber RX4 cX4_stateNumber 2 (some .int) 1 := ⟨kim_X4_stateNumber, kse_X4_stateNumber, kini_X4, kco_X4_stateNumber, by decide +kernel⟩
theorem wd_X4_canBeMoved : jWd yX4_canBeMoved RX4 cX4_canBeMoved 2 (some .boolean) 1 := ⟨kim_X4_canBeMoved, kse_X4_canBeMoved, kini_X4, kco_X4_canBeMoved, by decide +kernel⟩
theorem wd_X4_resourceHasRoom : jWd yX4_resourceHasRoom RX4 cX4_resourceHasRoom 2 (some .boolean) 1 := ⟨kim_X4_resourceHasRoom, kse_X4_resourceHasRoom, kini_X4, kco_X4_resourceHasRoom, by decide +kernel⟩
theorem wd_X4_groupHasRoom : jWd yX4_groupHasRoom RX4 cX4_groupHasRoom 2 (some .boolean) 1 := ⟨kim_X4_groupHasRoom, kse_X4_groupHasRoom, kini_X4, kco_X4_groupHasRoom, by decide +kernel⟩
theorem wd_X4_openResource : jWd yX4_openResource RX4 cX4_openResource 3 (some .int) 1 := ⟨kim_X4_openResource, kse_X4_openResource, kini_X4, kco_X4_openResource, by decide +kernel⟩
theorem wd_X4_dismiss : jWd yX4_dismiss RX4 cX4_dismiss 2 none 1 := ⟨kim_X4_dismiss, kse_X4_dismiss, kini_X4, kco_X4_dismiss, by decide +kernel⟩
theorem wd_X4_accept : jWd yX4_accept RX4 cX4_accept 3 none 2 := ⟨kim_X4_accept, kse_X4_accept, kini_X4, kco_X4_accept, by decide +kernel⟩
theorem wd_X4_assign : jWd yX4_assign RX4 cX4_assign 3 none 2 := ⟨kim_X4_assign, kse_X4_assign, kini_X4, kco_X4_assign, by decide +kernel⟩
theorem wd_X4_move : jWd yX4_move RX4 cX4_move 3 none 2 := ⟨kim_X4_move, kse_X4_move, kini_X4, kco_X4_move, by decide +kernel⟩
theorem wd_X4_putBack : jWd yX4_putBack RX4 cX4_putBack 2 none 1 := ⟨kim_X4_putBack, kse_X4_putBack, kini_X4, kco_X4_putBack, by decide +kernel⟩
theorem wd_X4_putBackBeyondQuota : jWd yX4_putBackBeyondQuota RX4 cX4_putBackBeyondQuota 4 (some .int) 1 := ⟨kim_X4_putBackBeyondQuota, kse_X4_putBackBeyondQuota, kini_X4, kco_X4_putBackBeyondQuota, by decide +kernel⟩
theorem wi_X5_init : jWi yX5_init cX5_init 1 0 := ⟨kim_X5_init, kini_X5, kco_X5_init, rfl, by decide +kernel⟩
theorem wd_X5_addResource : jWd yX5_addResource RX5 cX5_addResource 3 (some .int) 1 := ⟨kim_X5_addResource, kse_X5_addResource, kini_X5, kco_X5_addResource, by decide +kernel⟩
theorem wd_X5_setGroup : jWd yX5_setGroup RX5 cX5_setGroup 5 (some .int) 3 := ⟨kim_X5_setGroup, kse_X5_setGroup, kini_X5, kco_X5_setGroup, by decide +kernel⟩
theorem wd_X5_setLimits : jWd yX5_setLimits RX5 cX5_setLimits 3 (some .int) 2 := ⟨kim_X5_setLimits, kse_X5_setLimits, kini_X5, kco_X5_setLimits, by decide +kernel⟩
theorem wd_X5_arrive : jWd yX5_arrive RX5 cX5_arrive 4 (some .int) 2 := ⟨kim_X5_arrive, kse_X5_arrive, kini_X5, kco_X5_arrive, by decide +kernel⟩
theorem wd_X5_depart : jWd yX5_depart RX5 cX5_depart 2 (some .int) 1 := ⟨kim_X5_depart, kse_X5_depart, kini_X5, kco_X5_depart, by decide +kernel⟩
theorem wd_X5_setAccepts : jWd yX5_setAccepts RX5 cX5_setAccepts 3 (some .boolean) 2 := ⟨kim_X5_setAccepts, kse_X5_setAccepts, kini_X5, kco_X5_setAccepts, by decide +kernel⟩
theorem wd_X5_resourceCount : jWd yX5_resourceCount RX5 cX5_resourceCount 1 (some .int) 0 := ⟨kim_X5_resourceCount, kse_X5_resourceCount, kini_X5, kco_X5_resourceCount, by decide +kernel⟩
theorem wd_X5_arrivedCount : jWd yX5_arrivedCount RX5 cX5_arrivedCount 1 (some .int) 0 := ⟨kim_X5_arrivedCount, kse_X5_arrivedCount, kini_X5, kco_X5_arrivedCount, by decide +kernel⟩
theorem wd_X5_state : jWd yX5_state RX5 cX5_state 2 (some .int) 1 := ⟨kim_X5_state, kse_X5_state, kini_X5, kco_X5_state, by decide +kernel⟩
theorem wd_X5_resourceOf : jWd yX5_resourceOf RX5 cX5_resourceOf 2 (some .int) 1 := ⟨kim_X5_resourceOf, kse_X5_resourceOf, kini_X5, kco_X5_resourceOf, by decide +kernel⟩
theorem wd_X5_movesOf : jWd yX5_movesOf RX5 cX5_movesOf 2 (some .int) 1 := ⟨kim_X5_movesOf, kse_X5_movesOf, kini_X5, kco_X5_movesOf, by decide +kernel⟩
theorem wd_X5_moveCount : jWd yX5_moveCount RX5 cX5_moveCount 1 (some .int) 0 := ⟨kim_X5_moveCount, kse_X5_moveCount, kini_X5, kco_X5_moveCount, by decide +kernel⟩
theorem wd_X5_movedRequest : jWd yX5_movedRequest RX5 cX5_movedRequest 2 (some .int) 1 := ⟨kim_X5_movedRequest, kse_X5_movedRequest, kini_X5, kco_X5_movedRequest, by decide +kernel⟩
theorem wd_X5_movedTo : jWd yX5_movedTo RX5 cX5_movedTo 2 (some .int) 1 := ⟨kim_X5_movedTo, kse_X5_movedTo, kini_X5, kco_X5_movedTo, by decide +kernel⟩
theorem wd_X5_requireGroup : jWd yX5_requireGroup RX5 cX5_requireGroup 2 none 1 := ⟨kim_X5_requireGroup, kse_X5_requireGroup, kini_X5, kco_X5_requireGroup, by decide +kernel⟩
theorem wd_X5_requireRequest : jWd yX5_requireRequest RX5 cX5_requireRequest 2 none 1 := ⟨kim_X5_requireRequest, kse_X5_requireRequest, kini_X5, kco_X5_requireRequest, by decide +kernel⟩
theorem wd_X5_requirePresent : jWd yX5_requirePresent RX5 cX5_requirePresent 2 none 1 := ⟨kim_X5_requirePresent, kse_X5_requirePresent, kini_X5, kco_X5_requirePresent, by decide +kernel⟩
theorem wd_X5_requireMask : jWd yX5_requireMask RX5 cX5_requireMask 2 none 1 := ⟨kim_X5_requireMask, kse_X5_requireMask, kini_X5, kco_X5_requireMask, by decide +kernel⟩
theorem wd_X5_requireLogged : jWd yX5_requireLogged RX5 cX5_requireLogged 2 none 1 := ⟨kim_X5_requireLogged, kse_X5_requireLogged, kini_X5, kco_X5_requireLogged, by decide +kernel⟩
theorem ws_X5_isWithin : jWs yX5_isWithin cX5_isWithin 3 (some .boolean) 3 := ⟨kst_X5_isWithin, kini_X5, kco_X5_isWithin, by decide +kernel⟩
theorem ws_X5_hasBit : jWs yX5_hasBit cX5_hasBit 2 (some .boolean) 2 := ⟨kst_X5_hasBit, kini_X5, kco_X5_hasBit, by decide +kernel⟩
theorem ws_X5_lowestResource : jWs yX5_lowestResource cX5_lowestResource 2 (some .int) 1 := ⟨kst_X5_lowestResource, kini_X5, kco_X5_lowestResource, by decide +kernel⟩
theorem ws_L_below : jWs yL_below cL_below 2 (some .int) 2 := ⟨kst_L_below, kini_L, kco_L_below, by decide +kernel⟩
theorem ws_L_cell : jWs yL_cell cL_cell 2 (some .int) 2 := ⟨kst_L_cell, kini_L, kco_L_cell, by decide +kernel⟩
theorem ws_L_isPath : jWs yL_isPath cL_isPath 13 (some .boolean) 9 := ⟨kst_L_isPath, kini_L, kco_L_isPath, by decide +kernel⟩
theorem ws_L_bestPath : jWs yL_bestPath cL_bestPath 10 (some .int) 7 := ⟨kst_L_bestPath, kini_L, kco_L_bestPath, by decide +kernel⟩
theorem ws_L_place : jWs yL_place cL_place 11 (some .int) 8 := ⟨kst_L_place, kini_L, kco_L_place, by decide +kernel⟩
theorem ws_L_isSame : jWs yL_isSame cL_isSame 7 (some .boolean) 6 := ⟨kst_L_isSame, kini_L, kco_L_isSame, by decide +kernel⟩
section JLINK
variable {G : jG} {X : JX} {k n pc : Nat} {w : va_W} {L : List (Option Value)} {rest : List Value} {rm : Room} {cc : ByteArray} {nL a : Nat} {fs : List Value}
theorem fg_X4_46 {v : Value} (C : JC G X rm cc RX4 nL) (q0 : Nat) (he : w[q0]? = some (a, .inr (4, fs))) (hv : fs[0]? = some v) (d : decode cc pc = .ok (.getfield 46, 3)) (kk : JW G X k n w (pc + 3) L (v :: rest)) : JW G X k n w pc L (.ref a :: rest) :=
  jw_get jU_X4 rfl 0 (by decide) rfl C kfl_X4_46 q0 he hv d kk
theorem fp_X4_46 {v : Int32} (C : JC G X rm cc RX4 nL) (q0 : Nat) (he : w[q0]? = some (a, .inr (4, fs))) (hl : 0 < fs.length) (d : decode cc pc = .ok (.putfield 46, 3)) (kk : JW G X k n (w.set q0 (a, .inr (4, fs.set 0 (.int v)))) (pc + 3) L rest) : JW G X k n w pc L (.int v :: .ref a :: rest) :=
  jw_put (ty := .int) jU_X4 tyX4_ok nmX4 rfl 0 (by decide) rfl rfl (by decide +kernel) C kfl_X4_46 q0 he rfl rfl hl d kk
theorem fg_X5_59 {v : Value} (C : JC G X rm cc RX5 nL) (q0 : Nat) (he : w[q0]? = some (a, .inr (4, fs))) (hv : fs[0]? = some v) (d : decode cc pc = .ok (.getfield 59, 3)) (kk : JW G X k n w (pc + 3) L (v :: rest)) : JW G X k n w pc L (.ref a :: rest) :=
  jw_getN jU_X4 rfl 0 (by decide) rfl C kfn_X5_59 q0 he hv d kk
theorem fp_X5_59 {v : Int32} (C : JC G X rm cc RX5 nL) (q0 : Nat) (he : w[q0]? = some (a, .inr (4, fs))) (hl : 0 < fs.length) (d : decode cc pc = .ok (.putfield 59, 3)) (kk : JW G X k n (w.set q0 (a, .inr (4, fs.set 0 (.int v)))) (pc + 3) L rest) : JW G X k n w pc L (.int v :: .ref a :: rest) :=
  jw_putN (ty := .int) jU_X4 tyX4_ok nmX4 rfl 0 (by decide) rfl rfl (by decide +kernel) C kfn_X5_59 q0 he rfl rfl hl d kk
theorem fg_X2_51 {v : Value} (C : JC G X rm cc RX2 nL) (q0 : Nat) (he : w[q0]? = some (a, .inr (4, fs))) (hv : fs[0]? = some v) (d : decode cc pc = .ok (.getfield 51, 3)) (kk : JW G X k n w (pc + 3) L (v :: rest)) : JW G X k n w pc L (.ref a :: rest) :=
  jw_getN jU_X4 rfl 0 (by decide) rfl C kfn_X2_51 q0 he hv d kk
theorem fp_X2_51 {v : Int32} (C : JC G X rm cc RX2 nL) (q0 : Nat) (he : w[q0]? = some (a, .inr (4, fs))) (hl : 0 < fs.length) (d : decode cc pc = .ok (.putfield 51, 3)) (kk : JW G X k n (w.set q0 (a, .inr (4, fs.set 0 (.int v)))) (pc + 3) L rest) : JW G X k n w pc L (.int v :: .ref a :: rest) :=
  jw_putN (ty := .int) jU_X4 tyX4_ok nmX4 rfl 0 (by decide) rfl rfl (by decide +kernel) C kfn_X2_51 q0 he rfl rfl hl d kk
theorem fg_X4_9 {v : Value} (C : JC G X rm cc RX4 nL) (q0 : Nat) (he : w[q0]? = some (a, .inr (4, fs))) (hv : fs[1]? = some v) (d : decode cc pc = .ok (.getfield 9, 3)) (kk : JW G X k n w (pc + 3) L (v :: rest)) : JW G X k n w pc L (.ref a :: rest) :=
  jw_get jU_X4 rfl 1 (by decide) rfl C kfl_X4_9 q0 he hv d kk
theorem fg_X4_15 {v : Value} (C : JC G X rm cc RX4 nL) (q0 : Nat) (he : w[q0]? = some (a, .inr (4, fs))) (hv : fs[2]? = some v) (d : decode cc pc = .ok (.getfield 15, 3)) (kk : JW G X k n w (pc + 3) L (v :: rest)) : JW G X k n w pc L (.ref a :: rest) :=
  jw_get jU_X4 rfl 2 (by decide) rfl C kfl_X4_15 q0 he hv d kk
theorem fg_X4_18 {v : Value} (C : JC G X rm cc RX4 nL) (q0 : Nat) (he : w[q0]? = some (a, .inr (4, fs))) (hv : fs[3]? = some v) (d : decode cc pc = .ok (.getfield 18, 3)) (kk : JW G X k n w (pc + 3) L (v :: rest)) : JW G X k n w pc L (.ref a :: rest) :=
  jw_get jU_X4 rfl 3 (by decide) rfl C kfl_X4_18 q0 he hv d kk
theorem fg_X5_97 {v : Value} (C : JC G X rm cc RX5 nL) (q0 : Nat) (he : w[q0]? = some (a, .inr (4, fs))) (hv : fs[3]? = some v) (d : decode cc pc = .ok (.getfield 97, 3)) (kk : JW G X k n w (pc + 3) L (v :: rest)) : JW G X k n w pc L (.ref a :: rest) :=
  jw_getN jU_X4 rfl 3 (by decide) rfl C kfn_X5_97 q0 he hv d kk
theorem fg_X4_21 {v : Value} (C : JC G X rm cc RX4 nL) (q0 : Nat) (he : w[q0]? = some (a, .inr (4, fs))) (hv : fs[4]? = some v) (d : decode cc pc = .ok (.getfield 21, 3)) (kk : JW G X k n w (pc + 3) L (v :: rest)) : JW G X k n w pc L (.ref a :: rest) :=
  jw_get jU_X4 rfl 4 (by decide) rfl C kfl_X4_21 q0 he hv d kk
theorem fg_X3_55 {v : Value} (C : JC G X rm cc RX3 nL) (q0 : Nat) (he : w[q0]? = some (a, .inr (4, fs))) (hv : fs[4]? = some v) (d : decode cc pc = .ok (.getfield 55, 3)) (kk : JW G X k n w (pc + 3) L (v :: rest)) : JW G X k n w pc L (.ref a :: rest) :=
  jw_getN jU_X4 rfl 4 (by decide) rfl C kfn_X3_55 q0 he hv d kk
theorem fg_X5_100 {v : Value} (C : JC G X rm cc RX5 nL) (q0 : Nat) (he : w[q0]? = some (a, .inr (4, fs))) (hv : fs[4]? = some v) (d : decode cc pc = .ok (.getfield 100, 3)) (kk : JW G X k n w (pc + 3) L (v :: rest)) : JW G X k n w pc L (.ref a :: rest) :=
  jw_getN jU_X4 rfl 4 (by decide) rfl C kfn_X5_100 q0 he hv d kk
theorem fg_X4_24 {v : Value} (C : JC G X rm cc RX4 nL) (q0 : Nat) (he : w[q0]? = some (a, .inr (4, fs))) (hv : fs[5]? = some v) (d : decode cc pc = .ok (.getfield 24, 3)) (kk : JW G X k n w (pc + 3) L (v :: rest)) : JW G X k n w pc L (.ref a :: rest) :=
  jw_get jU_X4 rfl 5 (by decide) rfl C kfl_X4_24 q0 he hv d kk
theorem fg_X3_52 {v : Value} (C : JC G X rm cc RX3 nL) (q0 : Nat) (he : w[q0]? = some (a, .inr (4, fs))) (hv : fs[5]? = some v) (d : decode cc pc = .ok (.getfield 52, 3)) (kk : JW G X k n w (pc + 3) L (v :: rest)) : JW G X k n w pc L (.ref a :: rest) :=
  jw_getN jU_X4 rfl 5 (by decide) rfl C kfn_X3_52 q0 he hv d kk
theorem fg_X3_27 {v : Value} (C : JC G X rm cc RX3 nL) (q0 : Nat) (he : w[q0]? = some (a, .inr (4, fs))) (hv : fs[6]? = some v) (d : decode cc pc = .ok (.getfield 27, 3)) (kk : JW G X k n w (pc + 3) L (v :: rest)) : JW G X k n w pc L (.ref a :: rest) :=
  jw_getN jU_X4 rfl 6 (by decide) rfl C kfn_X3_27 q0 he hv d kk
theorem fp_X3_27 {v : Int32} (C : JC G X rm cc RX3 nL) (q0 : Nat) (he : w[q0]? = some (a, .inr (4, fs))) (hl : 6 < fs.length) (d : decode cc pc = .ok (.putfield 27, 3)) (kk : JW G X k n (w.set q0 (a, .inr (4, fs.set 6 (.int v)))) (pc + 3) L rest) : JW G X k n w pc L (.int v :: .ref a :: rest) :=
  jw_putN (ty := .int) jU_X4 tyX4_ok nmX4 rfl 6 (by decide) rfl rfl (by decide +kernel) C kfn_X3_27 q0 he rfl rfl hl d kk
theorem fg_X2_54 {v : Value} (C : JC G X rm cc RX2 nL) (q0 : Nat) (he : w[q0]? = some (a, .inr (4, fs))) (hv : fs[6]? = some v) (d : decode cc pc = .ok (.getfield 54, 3)) (kk : JW G X k n w (pc + 3) L (v :: rest)) : JW G X k n w pc L (.ref a :: rest) :=
  jw_getN jU_X4 rfl 6 (by decide) rfl C kfn_X2_54 q0 he hv d kk
theorem fp_X2_54 {v : Int32} (C : JC G X rm cc RX2 nL) (q0 : Nat) (he : w[q0]? = some (a, .inr (4, fs))) (hl : 6 < fs.length) (d : decode cc pc = .ok (.putfield 54, 3)) (kk : JW G X k n (w.set q0 (a, .inr (4, fs.set 6 (.int v)))) (pc + 3) L rest) : JW G X k n w pc L (.int v :: .ref a :: rest) :=
  jw_putN (ty := .int) jU_X4 tyX4_ok nmX4 rfl 6 (by decide) rfl rfl (by decide +kernel) C kfn_X2_54 q0 he rfl rfl hl d kk
theorem fg_X5_119 {v : Value} (C : JC G X rm cc RX5 nL) (q0 : Nat) (he : w[q0]? = some (a, .inr (4, fs))) (hv : fs[6]? = some v) (d : decode cc pc = .ok (.getfield 119, 3)) (kk : JW G X k n w (pc + 3) L (v :: rest)) : JW G X k n w pc L (.ref a :: rest) :=
  jw_getN jU_X4 rfl 6 (by decide) rfl C kfn_X5_119 q0 he hv d kk
theorem fp_X5_119 {v : Int32} (C : JC G X rm cc RX5 nL) (q0 : Nat) (he : w[q0]? = some (a, .inr (4, fs))) (hl : 6 < fs.length) (d : decode cc pc = .ok (.putfield 119, 3)) (kk : JW G X k n (w.set q0 (a, .inr (4, fs.set 6 (.int v)))) (pc + 3) L rest) : JW G X k n w pc L (.int v :: .ref a :: rest) :=
  jw_putN (ty := .int) jU_X4 tyX4_ok nmX4 rfl 6 (by decide) rfl rfl (by decide +kernel) C kfn_X5_119 q0 he rfl rfl hl d kk
theorem fg_X4_56 {v : Value} (C : JC G X rm cc RX4 nL) (q0 : Nat) (he : w[q0]? = some (a, .inr (4, fs))) (hv : fs[6]? = some v) (d : decode cc pc = .ok (.getfield 56, 3)) (kk : JW G X k n w (pc + 3) L (v :: rest)) : JW G X k n w pc L (.ref a :: rest) :=
  jw_get jU_X4 rfl 6 (by decide) rfl C kfl_X4_56 q0 he hv d kk
theorem fp_X4_56 {v : Int32} (C : JC G X rm cc RX4 nL) (q0 : Nat) (he : w[q0]? = some (a, .inr (4, fs))) (hl : 6 < fs.length) (d : decode cc pc = .ok (.putfield 56, 3)) (kk : JW G X k n (w.set q0 (a, .inr (4, fs.set 6 (.int v)))) (pc + 3) L rest) : JW G X k n w pc L (.int v :: .ref a :: rest) :=
  jw_put (ty := .int) jU_X4 tyX4_ok nmX4 rfl 6 (by decide) rfl rfl (by decide +kernel) C kfl_X4_56 q0 he rfl rfl hl d kk
theorem fg_X4_27 {v : Value} (C : JC G X rm cc RX4 nL) (q0 : Nat) (he : w[q0]? = some (a, .inr (4, fs))) (hv : fs[7]? = some v) (d : decode cc pc = .ok (.getfield 27, 3)) (kk : JW G X k n w (pc + 3) L (v :: rest)) : JW G X k n w pc L (.ref a :: rest) :=
  jw_get jU_X4 rfl 7 (by decide) rfl C kfl_X4_27 q0 he hv d kk
theorem fg_X3_44 {v : Value} (C : JC G X rm cc RX3 nL) (q0 : Nat) (he : w[q0]? = some (a, .inr (4, fs))) (hv : fs[7]? = some v) (d : decode cc pc = .ok (.getfield 44, 3)) (kk : JW G X k n w (pc + 3) L (v :: rest)) : JW G X k n w pc L (.ref a :: rest) :=
  jw_getN jU_X4 rfl 7 (by decide) rfl C kfn_X3_44 q0 he hv d kk
theorem fg_X4_30 {v : Value} (C : JC G X rm cc RX4 nL) (q0 : Nat) (he : w[q0]? = some (a, .inr (4, fs))) (hv : fs[8]? = some v) (d : decode cc pc = .ok (.getfield 30, 3)) (kk : JW G X k n w (pc + 3) L (v :: rest)) : JW G X k n w pc L (.ref a :: rest) :=
  jw_get jU_X4 rfl 8 (by decide) rfl C kfl_X4_30 q0 he hv d kk
theorem fg_X2_34 {v : Value} (C : JC G X rm cc RX2 nL) (q0 : Nat) (he : w[q0]? = some (a, .inr (4, fs))) (hv : fs[8]? = some v) (d : decode cc pc = .ok (.getfield 34, 3)) (kk : JW G X k n w (pc + 3) L (v :: rest)) : JW G X k n w pc L (.ref a :: rest) :=
  jw_getN jU_X4 rfl 8 (by decide) rfl C kfn_X2_34 q0 he hv d kk
theorem fg_X4_33 {v : Value} (C : JC G X rm cc RX4 nL) (q0 : Nat) (he : w[q0]? = some (a, .inr (4, fs))) (hv : fs[9]? = some v) (d : decode cc pc = .ok (.getfield 33, 3)) (kk : JW G X k n w (pc + 3) L (v :: rest)) : JW G X k n w pc L (.ref a :: rest) :=
  jw_get jU_X4 rfl 9 (by decide) rfl C kfl_X4_33 q0 he hv d kk
theorem fg_X2_60 {v : Value} (C : JC G X rm cc RX2 nL) (q0 : Nat) (he : w[q0]? = some (a, .inr (4, fs))) (hv : fs[9]? = some v) (d : decode cc pc = .ok (.getfield 60, 3)) (kk : JW G X k n w (pc + 3) L (v :: rest)) : JW G X k n w pc L (.ref a :: rest) :=
  jw_getN jU_X4 rfl 9 (by decide) rfl C kfn_X2_60 q0 he hv d kk
theorem fg_X5_168 {v : Value} (C : JC G X rm cc RX5 nL) (q0 : Nat) (he : w[q0]? = some (a, .inr (4, fs))) (hv : fs[9]? = some v) (d : decode cc pc = .ok (.getfield 168, 3)) (kk : JW G X k n w (pc + 3) L (v :: rest)) : JW G X k n w pc L (.ref a :: rest) :=
  jw_getN jU_X4 rfl 9 (by decide) rfl C kfn_X5_168 q0 he hv d kk
theorem fg_X4_36 {v : Value} (C : JC G X rm cc RX4 nL) (q0 : Nat) (he : w[q0]? = some (a, .inr (4, fs))) (hv : fs[10]? = some v) (d : decode cc pc = .ok (.getfield 36, 3)) (kk : JW G X k n w (pc + 3) L (v :: rest)) : JW G X k n w pc L (.ref a :: rest) :=
  jw_get jU_X4 rfl 10 (by decide) rfl C kfl_X4_36 q0 he hv d kk
theorem fg_X5_171 {v : Value} (C : JC G X rm cc RX5 nL) (q0 : Nat) (he : w[q0]? = some (a, .inr (4, fs))) (hv : fs[10]? = some v) (d : decode cc pc = .ok (.getfield 171, 3)) (kk : JW G X k n w (pc + 3) L (v :: rest)) : JW G X k n w pc L (.ref a :: rest) :=
  jw_getN jU_X4 rfl 10 (by decide) rfl C kfn_X5_171 q0 he hv d kk
theorem fg_X4_39 {v : Value} (C : JC G X rm cc RX4 nL) (q0 : Nat) (he : w[q0]? = some (a, .inr (4, fs))) (hv : fs[11]? = some v) (d : decode cc pc = .ok (.getfield 39, 3)) (kk : JW G X k n w (pc + 3) L (v :: rest)) : JW G X k n w pc L (.ref a :: rest) :=
  jw_get jU_X4 rfl 11 (by decide) rfl C kfl_X4_39 q0 he hv d kk
theorem fp_X4_39 {v : Int32} (C : JC G X rm cc RX4 nL) (q0 : Nat) (he : w[q0]? = some (a, .inr (4, fs))) (hl : 11 < fs.length) (d : decode cc pc = .ok (.putfield 39, 3)) (kk : JW G X k n (w.set q0 (a, .inr (4, fs.set 11 (.int v)))) (pc + 3) L rest) : JW G X k n w pc L (.int v :: .ref a :: rest) :=
  jw_put (ty := .int) jU_X4 tyX4_ok nmX4 rfl 11 (by decide) rfl rfl (by decide +kernel) C kfl_X4_39 q0 he rfl rfl hl d kk
theorem fg_X3_67 {v : Value} (C : JC G X rm cc RX3 nL) (q0 : Nat) (he : w[q0]? = some (a, .inr (4, fs))) (hv : fs[11]? = some v) (d : decode cc pc = .ok (.getfield 67, 3)) (kk : JW G X k n w (pc + 3) L (v :: rest)) : JW G X k n w pc L (.ref a :: rest) :=
  jw_getN jU_X4 rfl 11 (by decide) rfl C kfn_X3_67 q0 he hv d kk
theorem fp_X3_67 {v : Int32} (C : JC G X rm cc RX3 nL) (q0 : Nat) (he : w[q0]? = some (a, .inr (4, fs))) (hl : 11 < fs.length) (d : decode cc pc = .ok (.putfield 67, 3)) (kk : JW G X k n (w.set q0 (a, .inr (4, fs.set 11 (.int v)))) (pc + 3) L rest) : JW G X k n w pc L (.int v :: .ref a :: rest) :=
  jw_putN (ty := .int) jU_X4 tyX4_ok nmX4 rfl 11 (by decide) rfl rfl (by decide +kernel) C kfn_X3_67 q0 he rfl rfl hl d kk
theorem fg_X5_110 {v : Value} (C : JC G X rm cc RX5 nL) (q0 : Nat) (he : w[q0]? = some (a, .inr (4, fs))) (hv : fs[11]? = some v) (d : decode cc pc = .ok (.getfield 110, 3)) (kk : JW G X k n w (pc + 3) L (v :: rest)) : JW G X k n w pc L (.ref a :: rest) :=
  jw_getN jU_X4 rfl 11 (by decide) rfl C kfn_X5_110 q0 he hv d kk
theorem fp_X5_110 {v : Int32} (C : JC G X rm cc RX5 nL) (q0 : Nat) (he : w[q0]? = some (a, .inr (4, fs))) (hl : 11 < fs.length) (d : decode cc pc = .ok (.putfield 110, 3)) (kk : JW G X k n (w.set q0 (a, .inr (4, fs.set 11 (.int v)))) (pc + 3) L rest) : JW G X k n w pc L (.int v :: .ref a :: rest) :=
  jw_putN (ty := .int) jU_X4 tyX4_ok nmX4 rfl 11 (by decide) rfl rfl (by decide +kernel) C kfn_X5_110 q0 he rfl rfl hl d kk
theorem fg_X4_43 {v : Value} (C : JC G X rm cc RX4 nL) (q0 : Nat) (he : w[q0]? = some (a, .inr (4, fs))) (hv : fs[12]? = some v) (d : decode cc pc = .ok (.getfield 43, 3)) (kk : JW G X k n w (pc + 3) L (v :: rest)) : JW G X k n w pc L (.ref a :: rest) :=
  jw_get jU_X4 rfl 12 (by decide) rfl C kfl_X4_43 q0 he hv d kk
theorem fp_X4_43 {v : Int32} (C : JC G X rm cc RX4 nL) (q0 : Nat) (he : w[q0]? = some (a, .inr (4, fs))) (hl : 12 < fs.length) (d : decode cc pc = .ok (.putfield 43, 3)) (kk : JW G X k n (w.set q0 (a, .inr (4, fs.set 12 (.int v)))) (pc + 3) L rest) : JW G X k n w pc L (.int v :: .ref a :: rest) :=
  jw_put (ty := .int) jU_X4 tyX4_ok nmX4 rfl 12 (by decide) rfl rfl (by decide +kernel) C kfl_X4_43 q0 he rfl rfl hl d kk
theorem fg_X5_113 {v : Value} (C : JC G X rm cc RX5 nL) (q0 : Nat) (he : w[q0]? = some (a, .inr (4, fs))) (hv : fs[12]? = some v) (d : decode cc pc = .ok (.getfield 113, 3)) (kk : JW G X k n w (pc + 3) L (v :: rest)) : JW G X k n w pc L (.ref a :: rest) :=
  jw_getN jU_X4 rfl 12 (by decide) rfl C kfn_X5_113 q0 he hv d kk
theorem fp_X5_113 {v : Int32} (C : JC G X rm cc RX5 nL) (q0 : Nat) (he : w[q0]? = some (a, .inr (4, fs))) (hl : 12 < fs.length) (d : decode cc pc = .ok (.putfield 113, 3)) (kk : JW G X k n (w.set q0 (a, .inr (4, fs.set 12 (.int v)))) (pc + 3) L rest) : JW G X k n w pc L (.int v :: .ref a :: rest) :=
  jw_putN (ty := .int) jU_X4 tyX4_ok nmX4 rfl 12 (by decide) rfl rfl (by decide +kernel) C kfn_X5_113 q0 he rfl rfl hl d kk
theorem fg_X1_11 {v : Value} (C : JC G X rm cc RX1 nL) (q0 : Nat) (he : w[q0]? = some (a, .inr (1, fs))) (hv : fs[0]? = some v) (d : decode cc pc = .ok (.getfield 11, 3)) (kk : JW G X k n w (pc + 3) L (v :: rest)) : JW G X k n w pc L (.ref a :: rest) :=
  jw_get jU_X1 rfl 0 (by decide) rfl C kfl_X1_11 q0 he hv d kk
theorem fg_X5_180 {v : Value} (C : JC G X rm cc RX5 nL) (q0 : Nat) (he : w[q0]? = some (a, .inr (1, fs))) (hv : fs[0]? = some v) (d : decode cc pc = .ok (.getfield 180, 3)) (kk : JW G X k n w (pc + 3) L (v :: rest)) : JW G X k n w pc L (.ref a :: rest) :=
  jw_getN jU_X1 rfl 0 (by decide) rfl C kfn_X5_180 q0 he hv d kk
theorem fg_X1_15 {v : Value} (C : JC G X rm cc RX1 nL) (q0 : Nat) (he : w[q0]? = some (a, .inr (1, fs))) (hv : fs[1]? = some v) (d : decode cc pc = .ok (.getfield 15, 3)) (kk : JW G X k n w (pc + 3) L (v :: rest)) : JW G X k n w pc L (.ref a :: rest) :=
  jw_get jU_X1 rfl 1 (by decide) rfl C kfl_X1_15 q0 he hv d kk
theorem fg_X5_183 {v : Value} (C : JC G X rm cc RX5 nL) (q0 : Nat) (he : w[q0]? = some (a, .inr (1, fs))) (hv : fs[1]? = some v) (d : decode cc pc = .ok (.getfield 183, 3)) (kk : JW G X k n w (pc + 3) L (v :: rest)) : JW G X k n w pc L (.ref a :: rest) :=
  jw_getN jU_X1 rfl 1 (by decide) rfl C kfn_X5_183 q0 he hv d kk
theorem fg_X1_18 {v : Value} (C : JC G X rm cc RX1 nL) (q0 : Nat) (he : w[q0]? = some (a, .inr (1, fs))) (hv : fs[2]? = some v) (d : decode cc pc = .ok (.getfield 18, 3)) (kk : JW G X k n w (pc + 3) L (v :: rest)) : JW G X k n w pc L (.ref a :: rest) :=
  jw_get jU_X1 rfl 2 (by decide) rfl C kfl_X1_18 q0 he hv d kk
theorem fp_X1_18 {v : Int32} (C : JC G X rm cc RX1 nL) (q0 : Nat) (he : w[q0]? = some (a, .inr (1, fs))) (hl : 2 < fs.length) (d : decode cc pc = .ok (.putfield 18, 3)) (kk : JW G X k n (w.set q0 (a, .inr (1, fs.set 2 (.int v)))) (pc + 3) L rest) : JW G X k n w pc L (.int v :: .ref a :: rest) :=
  jw_put (ty := .int) jU_X1 tyX1_ok nmX1 rfl 2 (by decide) rfl rfl (by decide +kernel) C kfl_X1_18 q0 he rfl rfl hl d kk
theorem fg_X5_174 {v : Value} (C : JC G X rm cc RX5 nL) (q0 : Nat) (he : w[q0]? = some (a, .inr (1, fs))) (hv : fs[2]? = some v) (d : decode cc pc = .ok (.getfield 174, 3)) (kk : JW G X k n w (pc + 3) L (v :: rest)) : JW G X k n w pc L (.ref a :: rest) :=
  jw_getN jU_X1 rfl 2 (by decide) rfl C kfn_X5_174 q0 he hv d kk
theorem fp_X5_174 {v : Int32} (C : JC G X rm cc RX5 nL) (q0 : Nat) (he : w[q0]? = some (a, .inr (1, fs))) (hl : 2 < fs.length) (d : decode cc pc = .ok (.putfield 174, 3)) (kk : JW G X k n (w.set q0 (a, .inr (1, fs.set 2 (.int v)))) (pc + 3) L rest) : JW G X k n w pc L (.int v :: .ref a :: rest) :=
  jw_putN (ty := .int) jU_X1 tyX1_ok nmX1 rfl 2 (by decide) rfl rfl (by decide +kernel) C kfn_X5_174 q0 he rfl rfl hl d kk
theorem fg_X2_24 {v : Value} (C : JC G X rm cc RX2 nL) (q0 : Nat) (he : w[q0]? = some (a, .inr (2, fs))) (hv : fs[0]? = some v) (d : decode cc pc = .ok (.getfield 24, 3)) (kk : JW G X k n w (pc + 3) L (v :: rest)) : JW G X k n w pc L (.ref a :: rest) :=
  jw_get jU_X2 rfl 0 (by decide) rfl C kfl_X2_24 q0 he hv d kk
theorem fg_X2_9 {v : Value} (C : JC G X rm cc RX2 nL) (q0 : Nat) (he : w[q0]? = some (a, .inr (2, fs))) (hv : fs[1]? = some v) (d : decode cc pc = .ok (.getfield 9, 3)) (kk : JW G X k n w (pc + 3) L (v :: rest)) : JW G X k n w pc L (.ref a :: rest) :=
  jw_get jU_X2 rfl 1 (by decide) rfl C kfl_X2_9 q0 he hv d kk
theorem fg_X2_15 {v : Value} (C : JC G X rm cc RX2 nL) (q0 : Nat) (he : w[q0]? = some (a, .inr (2, fs))) (hv : fs[2]? = some v) (d : decode cc pc = .ok (.getfield 15, 3)) (kk : JW G X k n w (pc + 3) L (v :: rest)) : JW G X k n w pc L (.ref a :: rest) :=
  jw_get jU_X2 rfl 2 (by decide) rfl C kfl_X2_15 q0 he hv d kk
theorem fg_X2_18 {v : Value} (C : JC G X rm cc RX2 nL) (q0 : Nat) (he : w[q0]? = some (a, .inr (2, fs))) (hv : fs[3]? = some v) (d : decode cc pc = .ok (.getfield 18, 3)) (kk : JW G X k n w (pc + 3) L (v :: rest)) : JW G X k n w pc L (.ref a :: rest) :=
  jw_get jU_X2 rfl 3 (by decide) rfl C kfl_X2_18 q0 he hv d kk
theorem fg_X3_74 {v : Value} (C : JC G X rm cc RX3 nL) (q0 : Nat) (he : w[q0]? = some (a, .inr (2, fs))) (hv : fs[3]? = some v) (d : decode cc pc = .ok (.getfield 74, 3)) (kk : JW G X k n w (pc + 3) L (v :: rest)) : JW G X k n w pc L (.ref a :: rest) :=
  jw_getN jU_X2 rfl 3 (by decide) rfl C kfn_X3_74 q0 he hv d kk
theorem fg_X2_21 {v : Value} (C : JC G X rm cc RX2 nL) (q0 : Nat) (he : w[q0]? = some (a, .inr (2, fs))) (hv : fs[4]? = some v) (d : decode cc pc = .ok (.getfield 21, 3)) (kk : JW G X k n w (pc + 3) L (v :: rest)) : JW G X k n w pc L (.ref a :: rest) :=
  jw_get jU_X2 rfl 4 (by decide) rfl C kfl_X2_21 q0 he hv d kk
theorem fg_X3_84 {v : Value} (C : JC G X rm cc RX3 nL) (q0 : Nat) (he : w[q0]? = some (a, .inr (2, fs))) (hv : fs[4]? = some v) (d : decode cc pc = .ok (.getfield 84, 3)) (kk : JW G X k n w (pc + 3) L (v :: rest)) : JW G X k n w pc L (.ref a :: rest) :=
  jw_getN jU_X2 rfl 4 (by decide) rfl C kfn_X3_84 q0 he hv d kk
theorem fg_X2_43 {v : Value} (C : JC G X rm cc RX2 nL) (q0 : Nat) (he : w[q0]? = some (a, .inr (2, fs))) (hv : fs[5]? = some v) (d : decode cc pc = .ok (.getfield 43, 3)) (kk : JW G X k n w (pc + 3) L (v :: rest)) : JW G X k n w pc L (.ref a :: rest) :=
  jw_get jU_X2 rfl 5 (by decide) rfl C kfl_X2_43 q0 he hv d kk
theorem fp_X2_43 {v : Int32} (C : JC G X rm cc RX2 nL) (q0 : Nat) (he : w[q0]? = some (a, .inr (2, fs))) (hl : 5 < fs.length) (d : decode cc pc = .ok (.putfield 43, 3)) (kk : JW G X k n (w.set q0 (a, .inr (2, fs.set 5 (.int v)))) (pc + 3) L rest) : JW G X k n w pc L (.int v :: .ref a :: rest) :=
  jw_put (ty := .int) jU_X2 tyX2_ok nmX2 rfl 5 (by decide) rfl rfl (by decide +kernel) C kfl_X2_43 q0 he rfl rfl hl d kk
theorem fg_X3_81 {v : Value} (C : JC G X rm cc RX3 nL) (q0 : Nat) (he : w[q0]? = some (a, .inr (2, fs))) (hv : fs[5]? = some v) (d : decode cc pc = .ok (.getfield 81, 3)) (kk : JW G X k n w (pc + 3) L (v :: rest)) : JW G X k n w pc L (.ref a :: rest) :=
  jw_getN jU_X2 rfl 5 (by decide) rfl C kfn_X3_81 q0 he hv d kk
theorem fp_X3_81 {v : Int32} (C : JC G X rm cc RX3 nL) (q0 : Nat) (he : w[q0]? = some (a, .inr (2, fs))) (hl : 5 < fs.length) (d : decode cc pc = .ok (.putfield 81, 3)) (kk : JW G X k n (w.set q0 (a, .inr (2, fs.set 5 (.int v)))) (pc + 3) L rest) : JW G X k n w pc L (.int v :: .ref a :: rest) :=
  jw_putN (ty := .int) jU_X2 tyX2_ok nmX2 rfl 5 (by decide) rfl rfl (by decide +kernel) C kfn_X3_81 q0 he rfl rfl hl d kk
theorem fg_X3_15 {v : Value} (C : JC G X rm cc RX3 nL) (q0 : Nat) (he : w[q0]? = some (a, .inr (3, fs))) (hv : fs[0]? = some v) (d : decode cc pc = .ok (.getfield 15, 3)) (kk : JW G X k n w (pc + 3) L (v :: rest)) : JW G X k n w pc L (.ref a :: rest) :=
  jw_get jU_X3 rfl 0 (by decide) rfl C kfl_X3_15 q0 he hv d kk
theorem fg_X3_19 {v : Value} (C : JC G X rm cc RX3 nL) (q0 : Nat) (he : w[q0]? = some (a, .inr (3, fs))) (hv : fs[1]? = some v) (d : decode cc pc = .ok (.getfield 19, 3)) (kk : JW G X k n w (pc + 3) L (v :: rest)) : JW G X k n w pc L (.ref a :: rest) :=
  jw_get jU_X3 rfl 1 (by decide) rfl C kfl_X3_19 q0 he hv d kk
theorem fg_X3_23 {v : Value} (C : JC G X rm cc RX3 nL) (q0 : Nat) (he : w[q0]? = some (a, .inr (3, fs))) (hv : fs[2]? = some v) (d : decode cc pc = .ok (.getfield 23, 3)) (kk : JW G X k n w (pc + 3) L (v :: rest)) : JW G X k n w pc L (.ref a :: rest) :=
  jw_get jU_X3 rfl 2 (by decide) rfl C kfl_X3_23 q0 he hv d kk
theorem fg_X3_9 {v : Value} (C : JC G X rm cc RX3 nL) (q0 : Nat) (he : w[q0]? = some (a, .inr (3, fs))) (hv : fs[3]? = some v) (d : decode cc pc = .ok (.getfield 9, 3)) (kk : JW G X k n w (pc + 3) L (v :: rest)) : JW G X k n w pc L (.ref a :: rest) :=
  jw_get jU_X3 rfl 3 (by decide) rfl C kfl_X3_9 q0 he hv d kk
theorem fg_X0_37 {v : Value} (C : JC G X rm cc RX0 nL) (q0 : Nat) (he : w[q0]? = some (a, .inr (0, fs))) (hv : fs[0]? = some v) (d : decode cc pc = .ok (.getfield 37, 3)) (kk : JW G X k n w (pc + 3) L (v :: rest)) : JW G X k n w pc L (.ref a :: rest) :=
  jw_get jU_X0 rfl 0 (by decide) rfl C kfl_X0_37 q0 he hv d kk
theorem fg_X0_9 {v : Value} (C : JC G X rm cc RX0 nL) (q0 : Nat) (he : w[q0]? = some (a, .inr (0, fs))) (hv : fs[1]? = some v) (d : decode cc pc = .ok (.getfield 9, 3)) (kk : JW G X k n w (pc + 3) L (v :: rest)) : JW G X k n w pc L (.ref a :: rest) :=
  jw_get jU_X0 rfl 1 (by decide) rfl C kfl_X0_9 q0 he hv d kk
theorem fg_X0_15 {v : Value} (C : JC G X rm cc RX0 nL) (q0 : Nat) (he : w[q0]? = some (a, .inr (0, fs))) (hv : fs[2]? = some v) (d : decode cc pc = .ok (.getfield 15, 3)) (kk : JW G X k n w (pc + 3) L (v :: rest)) : JW G X k n w pc L (.ref a :: rest) :=
  jw_get jU_X0 rfl 2 (by decide) rfl C kfl_X0_15 q0 he hv d kk
theorem fg_X0_18 {v : Value} (C : JC G X rm cc RX0 nL) (q0 : Nat) (he : w[q0]? = some (a, .inr (0, fs))) (hv : fs[3]? = some v) (d : decode cc pc = .ok (.getfield 18, 3)) (kk : JW G X k n w (pc + 3) L (v :: rest)) : JW G X k n w pc L (.ref a :: rest) :=
  jw_get jU_X0 rfl 3 (by decide) rfl C kfl_X0_18 q0 he hv d kk
theorem fg_X0_21 {v : Value} (C : JC G X rm cc RX0 nL) (q0 : Nat) (he : w[q0]? = some (a, .inr (0, fs))) (hv : fs[4]? = some v) (d : decode cc pc = .ok (.getfield 21, 3)) (kk : JW G X k n w (pc + 3) L (v :: rest)) : JW G X k n w pc L (.ref a :: rest) :=
  jw_get jU_X0 rfl 4 (by decide) rfl C kfl_X0_21 q0 he hv d kk
theorem fg_X0_24 {v : Value} (C : JC G X rm cc RX0 nL) (q0 : Nat) (he : w[q0]? = some (a, .inr (0, fs))) (hv : fs[5]? = some v) (d : decode cc pc = .ok (.getfield 24, 3)) (kk : JW G X k n w (pc + 3) L (v :: rest)) : JW G X k n w pc L (.ref a :: rest) :=
  jw_get jU_X0 rfl 5 (by decide) rfl C kfl_X0_24 q0 he hv d kk
theorem fg_X0_27 {v : Value} (C : JC G X rm cc RX0 nL) (q0 : Nat) (he : w[q0]? = some (a, .inr (0, fs))) (hv : fs[7]? = some v) (d : decode cc pc = .ok (.getfield 27, 3)) (kk : JW G X k n w (pc + 3) L (v :: rest)) : JW G X k n w pc L (.ref a :: rest) :=
  jw_get jU_X0 rfl 7 (by decide) rfl C kfl_X0_27 q0 he hv d kk
theorem fg_X0_31 {v : Value} (C : JC G X rm cc RX0 nL) (q0 : Nat) (he : w[q0]? = some (a, .inr (0, fs))) (hv : fs[8]? = some v) (d : decode cc pc = .ok (.getfield 31, 3)) (kk : JW G X k n w (pc + 3) L (v :: rest)) : JW G X k n w pc L (.ref a :: rest) :=
  jw_get jU_X0 rfl 8 (by decide) rfl C kfl_X0_31 q0 he hv d kk
theorem fg_X0_34 {v : Value} (C : JC G X rm cc RX0 nL) (q0 : Nat) (he : w[q0]? = some (a, .inr (0, fs))) (hv : fs[9]? = some v) (d : decode cc pc = .ok (.getfield 34, 3)) (kk : JW G X k n w (pc + 3) L (v :: rest)) : JW G X k n w pc L (.ref a :: rest) :=
  jw_get jU_X0 rfl 9 (by decide) rfl C kfl_X0_34 q0 he hv d kk
theorem fg_X5_10 {v : Value} (C : JC G X rm cc RX5 nL) (q0 : Nat) (he : w[q0]? = some (a, .inr (5, fs))) (hv : fs[0]? = some v) (d : decode cc pc = .ok (.getfield 10, 3)) (kk : JW G X k n w (pc + 3) L (v :: rest)) : JW G X k n w pc L (.ref a :: rest) :=
  jw_get jU_X5 rfl 0 (by decide) rfl C kfl_X5_10 q0 he hv d kk
theorem fg_X5_19 {v : Value} (C : JC G X rm cc RX5 nL) (q0 : Nat) (he : w[q0]? = some (a, .inr (5, fs))) (hv : fs[1]? = some v) (d : decode cc pc = .ok (.getfield 19, 3)) (kk : JW G X k n w (pc + 3) L (v :: rest)) : JW G X k n w pc L (.ref a :: rest) :=
  jw_get jU_X5 rfl 1 (by decide) rfl C kfl_X5_19 q0 he hv d kk
theorem fg_X5_28 {v : Value} (C : JC G X rm cc RX5 nL) (q0 : Nat) (he : w[q0]? = some (a, .inr (5, fs))) (hv : fs[2]? = some v) (d : decode cc pc = .ok (.getfield 28, 3)) (kk : JW G X k n w (pc + 3) L (v :: rest)) : JW G X k n w pc L (.ref a :: rest) :=
  jw_get jU_X5 rfl 2 (by decide) rfl C kfl_X5_28 q0 he hv d kk
theorem fg_X5_37 {v : Value} (C : JC G X rm cc RX5 nL) (q0 : Nat) (he : w[q0]? = some (a, .inr (5, fs))) (hv : fs[3]? = some v) (d : decode cc pc = .ok (.getfield 37, 3)) (kk : JW G X k n w (pc + 3) L (v :: rest)) : JW G X k n w pc L (.ref a :: rest) :=
  jw_get jU_X5 rfl 3 (by decide) rfl C kfl_X5_37 q0 he hv d kk
theorem fg_X5_44 {v : Value} (C : JC G X rm cc RX5 nL) (q0 : Nat) (he : w[q0]? = some (a, .inr (5, fs))) (hv : fs[4]? = some v) (d : decode cc pc = .ok (.getfield 44, 3)) (kk : JW G X k n w (pc + 3) L (v :: rest)) : JW G X k n w pc L (.ref a :: rest) :=
  jw_get jU_X5 rfl 4 (by decide) rfl C kfl_X5_44 q0 he hv d kk
end JLINK
