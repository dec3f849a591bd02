set_option maxRecDepth 100000 in
set_option maxHeartbeats 4000000 in
theorem c_X4_putBack (G : jG) (ad : Nat → Nat) (P : QP) (l : QL) (A : QA) (T : Nat → Bool) (F : QF) (r : Nat) (hI : PI P) (hr : (r : Int) < P.req) : CV G yX4_putBack cX4_putBack 2 (jrm 1 21 0 0) [.ref (ad 1), .int (iI (r : Int))] (wC G ad P l A T F) (fun u : QP => u = pPut P r) (fun u : QP => wC G ad u l A T F) 0 0 := by
  refine cv_intro (own := RX4) [some (.ref (ad 1)), some (.int (iI (r : Int)))] (by decide) rfl rfl rfl (Nat.le_of_ble_eq_true rfl) (fun X C hret => ?_)
  have h1 := hI.plc r
  have h2 := hI.grp r
  have h3 := hI.req
  refine jw_aload_0 (pc := 0) C dX4_putBack_0 ?_
  refine jw_iload_1 (pc := 1) C dX4_putBack_1 ?_
  refine jw_V_Z (pc := 2) C (c_X4_isAssigned G ad P l A T F r (by omega) hI) wd_X4_isAssigned kml_X4_53 1 rfl rfl rfl rfl (Nat.le_of_ble_eq_true rfl) ⟨by decide, by decide⟩ ⟨Nat.zero_le _, Nat.zero_le _⟩ dX4_putBack_2 rfl (fun z u h => ?_)
  subst h
  refine jw_if_eq_b (pc := 5) (tgt := 45) C dX4_putBack_5 (by decide) (fun c_5 => ?_) (fun c_5 => ?_)
  · have c := of_decide_eq_false c_5
    first | exact hret _ _ P dX4_putBack_45 (pPut_neg c).symm | exact hret _ _ (pPutT P r) dX4_putBack_45 (pPut_pos c).symm
  · have c : 0 ≤ P.plc r := of_decide_eq_true c_5
    refine jw_aload_0 (pc := 8) C dX4_putBack_8 ?_
    refine fg_X4_15 (pc := 9) C 1 rfl rfl dX4_putBack_9 ?_
    refine jw_aload_0 (pc := 12) C dX4_putBack_12 ?_
    refine fg_X4_33 (pc := 13) C 1 rfl rfl dX4_putBack_13 ?_
    refine jw_iload_1 (pc := 16) C dX4_putBack_16 ?_
    refine jw_iald (pc := 17) C 13 rfl _ rfl (by omega) (by decide) dX4_putBack_17 ?_
    refine jw_dup2 (pc := 18) C dX4_putBack_18 rfl rfl ?_
    refine jw_iald (pc := 19) C 7 rfl (P.plc r).toNat (by omega) (by omega) (by decide) dX4_putBack_19 ?_
    refine jw_iconst (pc := 20) C dX4_putBack_20 ?_
    refine jw_isub (pc := 21) C dX4_putBack_21 ?_
    refine jw_iast (pc := 22) C 7 rfl (P.plc r).toNat (by omega) (by omega) (by decide) dX4_putBack_22 ?_
    refine jw_aload_0 (pc := 23) C dX4_putBack_23 ?_
    refine fg_X4_24 (pc := 24) C 1 rfl rfl dX4_putBack_24 ?_
    refine jw_aload_0 (pc := 27) C dX4_putBack_27 ?_
    refine fg_X4_27 (pc := 28) C 1 rfl rfl dX4_putBack_28 ?_
    refine jw_iload_1 (pc := 31) C dX4_putBack_31 ?_
    refine jw_iald (pc := 32) C 11 rfl _ rfl (by omega) (by decide) dX4_putBack_32 ?_
    refine jw_dup2 (pc := 33) C dX4_putBack_33 rfl rfl ?_
    refine jw_iald (pc := 34) C 10 rfl (P.grp r).toNat (by omega) (by omega) (by decide) dX4_putBack_34 ?_
    refine jw_iconst (pc := 35) C dX4_putBack_35 ?_
    refine jw_isub (pc := 36) C dX4_putBack_36 ?_
    refine jw_iast (pc := 37) C 10 rfl (P.grp r).toNat (by omega) (by omega) (by decide) dX4_putBack_37 ?_
    refine jw_aload_0 (pc := 38) C dX4_putBack_38 ?_
    refine fg_X4_33 (pc := 39) C 1 rfl rfl dX4_putBack_39 ?_
    refine jw_iload_1 (pc := 42) C dX4_putBack_42 ?_
    refine jw_iconst (pc := 43) C dX4_putBack_43 ?_
    refine jw_iast (pc := 44) C 13 rfl _ rfl (by omega) (by decide) dX4_putBack_44 ?_
    first | exact hret _ _ P dX4_putBack_45 (pPut_neg c).symm | exact hret _ _ (pPutT P r) dX4_putBack_45 (pPut_pos c).symm
set_option maxRecDepth 100000 in
set_option maxHeartbeats 4000000 in
theorem c_X4_assign (G : jG) (ad : Nat → Nat) (P : QP) (l : QL) (A : QA) (T : Nat → Bool) (F : QF) (r a : Nat) (hI : PI P) (hr : (r : Int) < P.req) (ha : a < 12) : CV G yX4_assign cX4_assign 3 (jrm 0 0 0 0) [.ref (ad 1), .int (iI (r : Int)), .int (iI (a : Int))] (wC G ad P l A T F) (fun u : QP => u = pAssign P r a) (fun u : QP => wC G ad u l A T F) 0 0 := by
  refine cv_intro (own := RX4) [some (.ref (ad 1)), some (.int (iI (r : Int))), some (.int (iI (a : Int)))] (by decide) rfl rfl rfl (Nat.le_of_ble_eq_true rfl) (fun X C hret => ?_)
  have h1 := hI.plc r
  have h2 := hI.grp r
  have h3 := hI.req
  refine jw_aload_0 (pc := 0) C dX4_assign_0 ?_
  refine fg_X4_33 (pc := 1) C 1 rfl rfl dX4_assign_1 ?_
  refine jw_iload_1 (pc := 4) C dX4_assign_4 ?_
  refine jw_iload_2 (pc := 5) C dX4_assign_5 ?_
  refine jw_iast (pc := 6) C 13 rfl _ rfl (by omega) (by decide) dX4_assign_6 ?_
  refine jw_aload_0 (pc := 7) C dX4_assign_7 ?_
  refine fg_X4_15 (pc := 8) C 1 rfl rfl dX4_assign_8 ?_
  refine jw_iload_2 (pc := 11) C dX4_assign_11 ?_
  refine jw_dup2 (pc := 12) C dX4_assign_12 rfl rfl ?_
  refine jw_iald (pc := 13) C 7 rfl _ rfl (by omega) (by decide) dX4_assign_13 ?_
  refine jw_iconst (pc := 14) C dX4_assign_14 ?_
  refine jw_iadd (pc := 15) C dX4_assign_15 ?_
  refine jw_iast (pc := 16) C 7 rfl _ rfl (by omega) (by decide) dX4_assign_16 ?_
  refine jw_aload_0 (pc := 17) C dX4_assign_17 ?_
  refine fg_X4_24 (pc := 18) C 1 rfl rfl dX4_assign_18 ?_
  refine jw_aload_0 (pc := 21) C dX4_assign_21 ?_
  refine fg_X4_27 (pc := 22) C 1 rfl rfl dX4_assign_22 ?_
  refine jw_iload_1 (pc := 25) C dX4_assign_25 ?_
  refine jw_iald (pc := 26) C 11 rfl _ rfl (by omega) (by decide) dX4_assign_26 ?_
  refine jw_dup2 (pc := 27) C dX4_assign_27 rfl rfl ?_
  refine jw_iald (pc := 28) C 10 rfl (P.grp r).toNat (by omega) (by omega) (by decide) dX4_assign_28 ?_
  refine jw_iconst (pc := 29) C dX4_assign_29 ?_
  refine jw_iadd (pc := 30) C dX4_assign_30 ?_
  refine jw_iast (pc := 31) C 10 rfl (P.grp r).toNat (by omega) (by omega) (by decide) dX4_assign_31 ?_
  exact hret _ _ (pAssign P r a) dX4_assign_32 rfl
set_option maxRecDepth 100000 in
set_option maxHeartbeats 4000000 in
theorem c_X4_move (G : jG) (ad : Nat → Nat) (P : QP) (l : QL) (A : QA) (T : Nat → Bool) (F : QF) (r a : Nat) (hI : PI P) (hr : (r : Int) < P.req) (ha : a < 12) : CV G yX4_move cX4_move 3 (jrm 2 42 0 0) [.ref (ad 1), .int (iI (r : Int)), .int (iI (a : Int))] (wC G ad P l A T F) (fun u : QP => u = pMove P r a) (fun u : QP => wC G ad u l A T F) 0 0 := by
  refine cv_intro (own := RX4) [some (.ref (ad 1)), some (.int (iI (r : Int))), some (.int (iI (a : Int)))] (by decide) rfl rfl rfl (Nat.le_of_ble_eq_true rfl) (fun X C hret => ?_)
  have h1 := hI.plc r
  have h2 := hI.grp r
  have h3 := hI.req
  refine jw_aload_0 (pc := 0) C dX4_move_0 ?_
  refine jw_iload_1 (pc := 1) C dX4_move_1 ?_
  refine jw_V_V (pc := 2) C (c_X4_putBack G ad P l A T F r hI hr) wd_X4_putBack kml_X4_59 1 rfl rfl rfl rfl (Nat.le_of_ble_eq_true rfl) ⟨by decide, by decide⟩ ⟨Nat.zero_le _, Nat.zero_le _⟩ dX4_move_2 rfl (fun u h => ?_)
  subst h
  refine jw_aload_0 (pc := 5) C dX4_move_5 ?_
  refine jw_iload_1 (pc := 6) C dX4_move_6 ?_
  refine jw_iload_2 (pc := 7) C dX4_move_7 ?_
  refine jw_V_V (pc := 8) C (c_X4_assign G ad (pPut P r) l A T F r a (PI_put hI hr) (by rw [pPut_req]; exact hr) ha) wd_X4_assign kml_X4_67 1 rfl rfl rfl rfl (Nat.le_of_ble_eq_true rfl) ⟨by decide, by decide⟩ ⟨Nat.zero_le _, Nat.zero_le _⟩ dX4_move_8 rfl (fun u h => ?_)
  subst h
  refine jw_aload_0 (pc := 11) C dX4_move_11 ?_
  refine fg_X4_36 (pc := 12) C 1 rfl rfl dX4_move_12 ?_
  refine jw_iload_1 (pc := 15) C dX4_move_15 ?_
  refine jw_dup2 (pc := 16) C dX4_move_16 rfl rfl ?_
  refine jw_iald (pc := 17) C 14 rfl _ rfl (by omega) (by decide) dX4_move_17 ?_
  refine jw_iconst (pc := 18) C dX4_move_18 ?_
  refine jw_iadd (pc := 19) C dX4_move_19 ?_
  refine jw_iast (pc := 20) C 14 rfl _ rfl (by omega) (by decide) dX4_move_20 ?_
  exact hret _ _ (pMove P r a) dX4_move_21 rfl
set_option maxRecDepth 100000 in
set_option maxHeartbeats 4000000 in
theorem c_X4_openResource (G : jG) (ad : Nat → Nat) (P : QP) (l : QL) (A : QA) (T : Nat → Bool) (F : QF) (c : Int) (hI : PI P) (hr : P.res < 12) : CI G yX4_openResource cX4_openResource 3 (jrm 0 0 0 0) [.ref (ad 1), .int (iI c)] (wC G ad P l A T F) (fun (z : Int32) (u : QP) => z = iI P.res ∧ u = pOpen P c) (fun u : QP => wC G ad u l A T F) 0 0 := by
  refine ci_intro (own := RX4) [some (.ref (ad 1)), some (.int (iI c)), none] (by decide) rfl rfl rfl (Nat.le_of_ble_eq_true rfl) (fun X C hret => ?_)
  have h1 := hI.res
  refine jw_aload_0 (pc := 0) C dX4_openResource_0 ?_
  refine fg_X4_46 (pc := 1) C 1 rfl rfl dX4_openResource_1 ?_
  refine jw_istore_2 (pc := 4) C dX4_openResource_4 rfl ?_
  refine jw_aload_0 (pc := 5) C dX4_openResource_5 ?_
  refine fg_X4_9 (pc := 6) C 1 rfl rfl dX4_openResource_6 ?_
  refine jw_iload_2 (pc := 9) C dX4_openResource_9 ?_
  refine jw_iload_1 (pc := 10) C dX4_openResource_10 ?_
  refine jw_iast (pc := 11) C 6 rfl P.res.toNat (by omega) (by omega) (by decide) dX4_openResource_11 ?_
  refine jw_aload_0 (pc := 12) C dX4_openResource_12 ?_
  refine jw_dup (pc := 13) C dX4_openResource_13 rfl ?_
  refine fg_X4_46 (pc := 14) C 1 rfl rfl dX4_openResource_14 ?_
  refine jw_iconst (pc := 17) C dX4_openResource_17 ?_
  refine jw_iadd (pc := 18) C dX4_openResource_18 ?_
  refine fp_X4_46 (pc := 19) C 1 rfl (Nat.le_of_ble_eq_true rfl) dX4_openResource_19 ?_
  refine jw_iload_2 (pc := 22) C dX4_openResource_22 ?_
  exact hret _ _ _ (pOpen P c) dX4_openResource_23 ⟨rfl, rfl⟩
set_option maxRecDepth 100000 in
set_option maxHeartbeats 4000000 in
theorem c_X4_admit (G : jG) (ad : Nat → Nat) (P : QP) (l : QL) (A : QA) (T : Nat → Bool) (F : QF) (g : Int) (m : Int32) (hI : PI P) (hr : P.req < 40) : CI G yX4_admit cX4_admit 4 (jrm 0 0 0 0) [.ref (ad 1), .int (iI g), .int m] (wC G ad P l A T F) (fun (z : Int32) (u : QP) => z = iI P.req ∧ u = pAdmit P g m) (fun u : QP => wC G ad u l A T F) 0 0 := by
  refine ci_intro (own := RX4) [some (.ref (ad 1)), some (.int (iI g)), some (.int m), none] (by decide) rfl rfl rfl (Nat.le_of_ble_eq_true rfl) (fun X C hret => ?_)
  have h1 := hI.req
  refine jw_aload_0 (pc := 0) C dX4_admit_0 ?_
  refine fg_X4_56 (pc := 1) C 1 rfl rfl dX4_admit_1 ?_
  refine jw_istore_3 (pc := 4) C dX4_admit_4 rfl ?_
  refine jw_aload_0 (pc := 5) C dX4_admit_5 ?_
  refine fg_X4_27 (pc := 6) C 1 rfl rfl dX4_admit_6 ?_
  refine jw_iload_3 (pc := 9) C dX4_admit_9 ?_
  refine jw_iload_1 (pc := 10) C dX4_admit_10 ?_
  refine jw_iast (pc := 11) C 11 rfl P.req.toNat (by omega) (by omega) (by decide) dX4_admit_11 ?_
  refine jw_aload_0 (pc := 12) C dX4_admit_12 ?_
  refine fg_X4_30 (pc := 13) C 1 rfl rfl dX4_admit_13 ?_
  refine jw_iload_3 (pc := 16) C dX4_admit_16 ?_
  refine jw_iload_2 (pc := 17) C dX4_admit_17 ?_
  refine jw_iast_r (pc := 18) C 12 rfl P.req.toNat (by omega) (by omega) (by decide) dX4_admit_18 ?_
  refine jw_aload_0 (pc := 19) C dX4_admit_19 ?_
  refine fg_X4_33 (pc := 20) C 1 rfl rfl dX4_admit_20 ?_
  refine jw_iload_3 (pc := 23) C dX4_admit_23 ?_
  refine jw_iconst (pc := 24) C dX4_admit_24 ?_
  refine jw_iast (pc := 25) C 13 rfl P.req.toNat (by omega) (by omega) (by decide) dX4_admit_25 ?_
  refine jw_aload_0 (pc := 26) C dX4_admit_26 ?_
  refine jw_dup (pc := 27) C dX4_admit_27 rfl ?_
  refine fg_X4_56 (pc := 28) C 1 rfl rfl dX4_admit_28 ?_
  refine jw_iconst (pc := 31) C dX4_admit_31 ?_
  refine jw_iadd (pc := 32) C dX4_admit_32 ?_
  refine fp_X4_56 (pc := 33) C 1 rfl (Nat.le_of_ble_eq_true rfl) dX4_admit_33 ?_
  refine jw_iload_3 (pc := 36) C dX4_admit_36 ?_
  exact hret _ _ _ (pAdmit P g m) dX4_admit_37 ⟨rfl, rfl⟩
set_option maxRecDepth 100000 in
set_option maxHeartbeats 4000000 in
theorem c_X4_dismiss (G : jG) (ad : Nat → Nat) (P : QP) (l : QL) (A : QA) (T : Nat → Bool) (F : QF) (r : Nat) (hI : PI P) (hr : (r : Int) < P.req) : CV G yX4_dismiss cX4_dismiss 2 (jrm 2 42 0 0) [.ref (ad 1), .int (iI (r : Int))] (wC G ad P l A T F) (fun u : QP => u = pDismiss P r) (fun u : QP => wC G ad u l A T F) 0 0 := by
  refine cv_intro (own := RX4) [some (.ref (ad 1)), some (.int (iI (r : Int)))] (by decide) rfl rfl rfl (Nat.le_of_ble_eq_true rfl) (fun X C hret => ?_)
  have h1 := hI.plc r
  have h2 := hI.grp r
  have h3 := hI.req
  refine jw_aload_0 (pc := 0) C dX4_dismiss_0 ?_
  refine jw_iload_1 (pc := 1) C dX4_dismiss_1 ?_
  refine jw_V_V (pc := 2) C (c_X4_putBack G ad P l A T F r hI hr) wd_X4_putBack kml_X4_59 1 rfl rfl rfl rfl (Nat.le_of_ble_eq_true rfl) ⟨by decide, by decide⟩ ⟨Nat.zero_le _, Nat.zero_le _⟩ dX4_dismiss_2 rfl (fun u h => ?_)
  subst h
  refine jw_aload_0 (pc := 5) C dX4_dismiss_5 ?_
  refine fg_X4_33 (pc := 6) C 1 rfl rfl dX4_dismiss_6 ?_
  refine jw_iload_1 (pc := 9) C dX4_dismiss_9 ?_
  refine jw_bipush (pc := 10) C dX4_dismiss_10 (by decide) ?_
  refine jw_iast (pc := 12) C 13 rfl _ rfl (by omega) (by decide) dX4_dismiss_12 ?_
  exact hret _ _ (pDismiss P r) dX4_dismiss_13 rfl
set_option maxRecDepth 100000 in
set_option maxHeartbeats 4000000 in
theorem c_X4_accept (G : jG) (ad : Nat → Nat) (P : QP) (l : QL) (A : QA) (T : Nat → Bool) (F : QF) (r : Nat) (m : Int32) (hI : PI P) (hr : (r : Int) < P.req) : CV G yX4_accept cX4_accept 3 (jrm 2 42 0 0) [.ref (ad 1), .int (iI (r : Int)), .int m] (wC G ad P l A T F) (fun u : QP => u = pAccept P r m) (fun u : QP => wC G ad u l A T F) 0 0 := by
  refine cv_intro (own := RX4) [some (.ref (ad 1)), some (.int (iI (r : Int))), some (.int m)] (by decide) rfl rfl rfl (Nat.le_of_ble_eq_true rfl) (fun X C hret => ?_)
  have h1 := hI.plc r
  have h2 := hI.grp r
  have h3 := hI.req
  refine jw_aload_0 (pc := 0) C dX4_accept_0 ?_
  refine fg_X4_30 (pc := 1) C 1 rfl rfl dX4_accept_1 ?_
  refine jw_iload_1 (pc := 4) C dX4_accept_4 ?_
  refine jw_iload_2 (pc := 5) C dX4_accept_5 ?_
  refine jw_iast_r (pc := 6) C 12 rfl _ rfl (by omega) (by decide) dX4_accept_6 ?_
  refine jw_aload_0 (pc := 7) C dX4_accept_7 ?_
  refine jw_iload_1 (pc := 8) C dX4_accept_8 ?_
  refine jw_V_Z (pc := 9) C (c_X4_isAssigned G ad (pMask P r m) l A T F r (by omega) hI) wd_X4_isAssigned kml_X4_53 1 rfl rfl rfl rfl (Nat.le_of_ble_eq_true rfl) ⟨by decide, by decide⟩ ⟨Nat.zero_le _, Nat.zero_le _⟩ dX4_accept_9 rfl (fun z u h => ?_)
  subst h
  refine jw_if_eq_b (pc := 12) (tgt := 33) C dX4_accept_12 (by decide) (fun c_12 => ?_) (fun c_12 => ?_)
  · have e : pMask P r m = pAccept P r m := by rw [pAccept, if_neg (fun q => of_decide_eq_false c_12 q.1)]
    exact hret _ _ _ dX4_accept_33 e
  · refine jw_iload_2 (pc := 15) C dX4_accept_15 ?_
    refine jw_aload_0 (pc := 16) C dX4_accept_16 ?_
    refine fg_X4_33 (pc := 17) C 1 rfl rfl dX4_accept_17 ?_
    refine jw_iload_1 (pc := 20) C dX4_accept_20 ?_
    refine jw_iald (pc := 21) C 13 rfl _ rfl (by omega) (by decide) dX4_accept_21 ?_
    have c : 0 ≤ P.plc r := of_decide_eq_true c_12
    rw [show iI ((pMask P r m).plc r) = iI ((P.plc r).toNat : Int) from by show iI (P.plc r) = _; rw [Int.toNat_of_nonneg c]]
    refine jw_SN0_Z (pc := 22) C (c_X5_hasBit G m (P.plc r).toNat) ws_X5_hasBit kmn_X4_63 rfl rfl (Nat.le_of_ble_eq_true rfl) ⟨by decide, by decide⟩ ⟨Nat.zero_le _, Nat.zero_le _⟩ dX4_accept_22 rfl (fun z u h => ?_)
    subst h
    refine jw_if_ne_b (pc := 25) (tgt := 33) C dX4_accept_25 (by decide) (fun c_25 => ?_) (fun c_25 => ?_)
    · have e : pMask P r m = pAccept P r m := by rw [pAccept, if_neg (fun q => by rw [c_25] at q; exact Bool.noConfusion q.2)]
      exact hret _ _ _ dX4_accept_33 e
    · have e : pPut (pMask P r m) r = pAccept P r m := by rw [pAccept, if_pos ⟨c, c_25⟩]
      refine jw_aload_0 (pc := 28) C dX4_accept_28 ?_
      refine jw_iload_1 (pc := 29) C dX4_accept_29 ?_
      refine jw_V_V (pc := 30) C (c_X4_putBack G ad (pMask P r m) l A T F r hI hr) wd_X4_putBack kml_X4_59 1 rfl rfl rfl rfl (Nat.le_of_ble_eq_true rfl) ⟨by decide, by decide⟩ ⟨Nat.zero_le _, Nat.zero_le _⟩ dX4_accept_30 rfl (fun u h => ?_)
      subst h
      exact hret _ _ _ dX4_accept_33 e
set_option maxRecDepth 100000 in
set_option maxHeartbeats 4000000 in
theorem c_X4_putBackBeyondQuota (G : jG) (ad : Nat → Nat) (P : QP) (l : QL) (A : QA) (T : Nat → Bool) (F : QF) (g : Nat) (hg : g < 4) (hI : PI P) : CI G yX4_putBackBeyondQuota cX4_putBackBeyondQuota 4 (jrm 2 42 0 0) [.ref (ad 1), .int (iI (g : Int))] (wC G ad P l A T F) (fun (z : Int32) (u : QP × Int) => z = iI u.2 ∧ u = pBackQ g P.req.toNat P 0) (fun u : QP × Int => wC G ad u.1 l A T F) 0 0 := by
  refine ci_intro (own := RX4) [some (.ref (ad 1)), some (.int (iI (g : Int))), none, none] (by decide) rfl rfl rfl (Nat.le_of_ble_eq_true rfl) (fun X C hret => ?_)
  have h1 := hI.req
  refine jw_iconst (pc := 0) C dX4_putBackBeyondQuota_0 ?_
  refine jw_istore_2 (pc := 1) C dX4_putBackBeyondQuota_1 rfl ?_
  refine jw_aload_0 (pc := 2) C dX4_putBackBeyondQuota_2 ?_
  refine fg_X4_56 (pc := 3) C 1 rfl rfl dX4_putBackBeyondQuota_3 ?_
  refine jw_iconst (pc := 6) C dX4_putBackBeyondQuota_6 ?_
  refine jw_isub (pc := 7) C dX4_putBackBeyondQuota_7 ?_
  refine jw_istore_3 (pc := 8) C dX4_putBackBeyondQuota_8 rfl ?_
  have K9 : ∀ (n_9 : Nat) (k : Nat) (P2 : QP) (c : Int), (PI P2) → ((k : Int) ≤ P2.req) → (pBackQ g k P2 c = pBackQ g P.req.toNat P 0) → k < n_9 → JW G X 0 0 (wC G ad P2 l A T F) 9 [some (.ref (ad 1)), some (.int (iI (g : Int))), some (.int (iI c)), some (.int (iI ((k : Int) - 1)))] [] := by
    intro n_9
    induction n_9 with
    | zero => intro k P2 c hI2 hk he hm_9; exact absurd hm_9 (Nat.not_lt_zero _)
    | succ n_9 ih_9 =>
      intro k P2 c hI2 hk he hm_9
      have h2 := hI2.req
      have h4 := hI2.asg g
      have h5 := hI2.quo g
      refine jw_iload_3 (pc := 9) C dX4_putBackBeyondQuota_9 ?_
      refine jw_if_lt (pc := 10) (tgt := 60) C dX4_putBackBeyondQuota_10 (by decide) ⟨by omega, by omega⟩ (fun c_10 => ?_) (fun c_10 => ?_)
      · have ek : k = 0 := by omega
        subst ek
        have he2 : (P2, c) = pBackQ g P.req.toNat P 0 := he
        refine jw_iload_2 (pc := 60) C dX4_putBackBeyondQuota_60 ?_
        exact hret _ _ _ (P2, c) dX4_putBackBeyondQuota_61 ⟨rfl, he2⟩
      · obtain ⟨j, rfl⟩ : ∃ j, k = j + 1 := ⟨k - 1, by omega⟩
        have h6 := hI2.plc j
        have h7 := hI2.grp j
        rw [show ((j + 1 : Nat) : Int) - 1 = (j : Int) by omega]
        refine jw_aload_0 (pc := 13) C dX4_putBackBeyondQuota_13 ?_
        refine fg_X4_24 (pc := 14) C 1 rfl rfl dX4_putBackBeyondQuota_14 ?_
        refine jw_iload_1 (pc := 17) C dX4_putBackBeyondQuota_17 ?_
        refine jw_iald (pc := 18) C 10 rfl _ rfl (by omega) (by decide) dX4_putBackBeyondQuota_18 ?_
        refine jw_aload_0 (pc := 19) C dX4_putBackBeyondQuota_19 ?_
        refine fg_X4_18 (pc := 20) C 1 rfl rfl dX4_putBackBeyondQuota_20 ?_
        refine jw_iload_1 (pc := 23) C dX4_putBackBeyondQuota_23 ?_
        refine jw_iald (pc := 24) C 8 rfl _ rfl (by omega) (by decide) dX4_putBackBeyondQuota_24 ?_
        refine jw_icmp_le (pc := 25) (tgt := 60) C dX4_putBackBeyondQuota_25 (by decide) ⟨by omega, by omega⟩ ⟨by omega, by omega⟩ (fun c_25 => ?_) (fun c_25 => ?_)
        · have he2 : (P2, c) = pBackQ g P.req.toNat P 0 := by rw [← he, pBackQ, if_pos c_25]
          refine jw_iload_2 (pc := 60) C dX4_putBackBeyondQuota_60 ?_
          exact hret _ _ _ (P2, c) dX4_putBackBeyondQuota_61 ⟨rfl, he2⟩
        · refine jw_aload_0 (pc := 28) C dX4_putBackBeyondQuota_28 ?_
          refine fg_X4_27 (pc := 29) C 1 rfl rfl dX4_putBackBeyondQuota_29 ?_
          refine jw_iload_3 (pc := 32) C dX4_putBackBeyondQuota_32 ?_
          refine jw_iald (pc := 33) C 11 rfl _ rfl (by omega) (by decide) dX4_putBackBeyondQuota_33 ?_
          refine jw_iload_1 (pc := 34) C dX4_putBackBeyondQuota_34 ?_
          refine jw_icmp_ne (pc := 35) (tgt := 54) C dX4_putBackBeyondQuota_35 (by decide) ⟨by omega, by omega⟩ ⟨by omega, by omega⟩ (fun c_35 => ?_) (fun c_35 => ?_)
          · obtain ⟨P3, c3, hP3, hc3, hI3, hq3, he3⟩ : ∃ P3 c3, P3 = P2 ∧ c3 = c ∧ PI P3 ∧ (j : Int) ≤ P3.req ∧ pBackQ g j P3 c3 = pBackQ g P.req.toNat P 0 := ⟨P2, c, rfl, rfl, hI2, by omega, by rw [← he, pBackQ, if_neg c_25, if_neg (fun q => c_35 q.1)]⟩
            rw [← hP3, ← hc3]
            try rw [← hP3]
            try rw [← hc3]
            refine jw_iinc_3 (pc := 54) C dX4_putBackBeyondQuota_54 rfl ?_
            refine jw_goto (pc := 57) (tgt := 9) C dX4_putBackBeyondQuota_57 (by decide) ?_
            exact ih_9 j P3 c3 hI3 (by omega) he3 (by omega)
          · refine jw_aload_0 (pc := 38) C dX4_putBackBeyondQuota_38 ?_
            refine jw_iload_3 (pc := 39) C dX4_putBackBeyondQuota_39 ?_
            refine jw_V_Z (pc := 40) C (c_X4_isAssigned G ad P2 l A T F j (by omega) hI2) wd_X4_isAssigned kml_X4_53 1 rfl rfl rfl rfl (Nat.le_of_ble_eq_true rfl) ⟨by decide, by decide⟩ ⟨Nat.zero_le _, Nat.zero_le _⟩ dX4_putBackBeyondQuota_40 rfl (fun z u h => ?_)
            subst h
            refine jw_if_eq_b (pc := 43) (tgt := 54) C dX4_putBackBeyondQuota_43 (by decide) (fun c_43 => ?_) (fun c_43 => ?_)
            · obtain ⟨P3, c3, hP3, hc3, hI3, hq3, he3⟩ : ∃ P3 c3, P3 = P2 ∧ c3 = c ∧ PI P3 ∧ (j : Int) ≤ P3.req ∧ pBackQ g j P3 c3 = pBackQ g P.req.toNat P 0 := ⟨P2, c, rfl, rfl, hI2, by omega, by rw [← he, pBackQ, if_neg c_25, if_neg (fun q => of_decide_eq_false c_43 q.2)]⟩
              rw [← hP3, ← hc3]
              try rw [← hP3]
              try rw [← hc3]
              refine jw_iinc_3 (pc := 54) C dX4_putBackBeyondQuota_54 rfl ?_
              refine jw_goto (pc := 57) (tgt := 9) C dX4_putBackBeyondQuota_57 (by decide) ?_
              exact ih_9 j P3 c3 hI3 (by omega) he3 (by omega)
            · refine jw_aload_0 (pc := 46) C dX4_putBackBeyondQuota_46 ?_
              refine jw_iload_3 (pc := 47) C dX4_putBackBeyondQuota_47 ?_
              refine jw_V_V (pc := 48) C (c_X4_putBack G ad P2 l A T F j hI2 (by omega)) wd_X4_putBack kml_X4_59 1 rfl rfl rfl rfl (Nat.le_of_ble_eq_true rfl) ⟨by decide, by decide⟩ ⟨Nat.zero_le _, Nat.zero_le _⟩ dX4_putBackBeyondQuota_48 rfl (fun u h => ?_)
              subst h
              obtain ⟨P3, c3, hP3, hc3, hI3, hq3, he3⟩ : ∃ P3 c3, P3 = pPut P2 j ∧ c3 = c + 1 ∧ PI P3 ∧ (j : Int) ≤ P3.req ∧ pBackQ g j P3 c3 = pBackQ g P.req.toNat P 0 := ⟨pPut P2 j, c + 1, rfl, rfl, PI_put hI2 (by omega), by rw [pPut_req]; omega, by rw [← he, pBackQ, if_neg c_25, if_pos ⟨c_35, of_decide_eq_true c_43⟩]⟩
              refine jw_iinc_2 (pc := 51) C dX4_putBackBeyondQuota_51 rfl ?_
              try rw [← hP3]
              try rw [← hc3]
              refine jw_iinc_3 (pc := 54) C dX4_putBackBeyondQuota_54 rfl ?_
              refine jw_goto (pc := 57) (tgt := 9) C dX4_putBackBeyondQuota_57 (by decide) ?_
              exact ih_9 j P3 c3 hI3 (by omega) he3 (by omega)
  have e0 : (P.req.toNat : Int) = P.req := by omega
  have K := K9 (P.req.toNat + 1) P.req.toNat P 0 hI (by omega) rfl (by omega)
  rw [e0] at K
  exact K
set_option maxRecDepth 100000 in
set_option maxHeartbeats 4000000 in
theorem c_X1_clear (G : jG) (ad : Nat → Nat) (P : QP) (l : QL) (A : QA) (T : Nat → Bool) (F : QF) : CV G yX1_clear cX1_clear 1 (jrm 0 0 0 0) [.ref (ad 2)] (wC G ad P l A T F) (fun u : QL => u = (l.1, l.2.1, 0)) (fun u : QL => wC G ad P u A T F) 0 0 := by
  refine cv_intro (own := RX1) [some (.ref (ad 2))] (by decide) rfl rfl rfl (Nat.le_of_ble_eq_true rfl) (fun X C hret => ?_)
  refine jw_aload_0 (pc := 0) C dX1_clear_0 ?_
  refine jw_iconst (pc := 1) C dX1_clear_1 ?_
  refine fp_X1_18 (pc := 2) C 2 rfl (Nat.le_of_ble_eq_true rfl) dX1_clear_2 ?_
  exact hret _ _ (l.1, l.2.1, 0) dX1_clear_5 rfl
set_option maxRecDepth 100000 in
set_option maxHeartbeats 4000000 in
theorem c_X1_add (G : jG) (ad : Nat → Nat) (P : QP) (l : QL) (A : QA) (T : Nat → Bool) (F : QF) (r a : Int) (hl : 0 ≤ l.sz ∧ l.sz ≤ 200) : CV G yX1_add cX1_add 3 (jrm 0 0 0 0) [.ref (ad 2), .int (iI r), .int (iI a)] (wC G ad P l A T F) (fun u : QL => u = lAdd l r a) (fun u : QL => wC G ad P u A T F) 0 0 := by
  refine cv_intro (own := RX1) [some (.ref (ad 2)), some (.int (iI r)), some (.int (iI a))] (by decide) rfl rfl rfl (Nat.le_of_ble_eq_true rfl) (fun X C hret => ?_)
  refine jw_aload_0 (pc := 0) C dX1_add_0 ?_
  refine fg_X1_18 (pc := 1) C 2 rfl rfl dX1_add_1 ?_
  refine jw_sipush (pc := 4) C dX1_add_4 (by decide) ?_
  refine jw_icmp_ge (pc := 7) (tgt := 40) C dX1_add_7 (by decide) ⟨by omega, by omega⟩ ⟨by omega, by omega⟩ (fun c_7 => ?_) (fun c_7 => ?_)
  · have e : l = lAdd l r a := by rw [lAdd, if_neg (by omega)]
    exact hret _ _ _ dX1_add_40 e
  · have e : (updf l.rq l.sz.toNat r, updf l.tg l.sz.toNat a, l.sz + 1) = lAdd l r a := by rw [lAdd, if_pos (by omega)]
    refine jw_aload_0 (pc := 10) C dX1_add_10 ?_
    refine fg_X1_11 (pc := 11) C 2 rfl rfl dX1_add_11 ?_
    refine jw_aload_0 (pc := 14) C dX1_add_14 ?_
    refine fg_X1_18 (pc := 15) C 2 rfl rfl dX1_add_15 ?_
    refine jw_iload_1 (pc := 18) C dX1_add_18 ?_
    refine jw_iast (pc := 19) C 15 rfl l.sz.toNat (by omega) (by omega) (by decide) dX1_add_19 ?_
    refine jw_aload_0 (pc := 20) C dX1_add_20 ?_
    refine fg_X1_15 (pc := 21) C 2 rfl rfl dX1_add_21 ?_
    refine jw_aload_0 (pc := 24) C dX1_add_24 ?_
    refine fg_X1_18 (pc := 25) C 2 rfl rfl dX1_add_25 ?_
    refine jw_iload_2 (pc := 28) C dX1_add_28 ?_
    refine jw_iast (pc := 29) C 16 rfl l.sz.toNat (by omega) (by omega) (by decide) dX1_add_29 ?_
    refine jw_aload_0 (pc := 30) C dX1_add_30 ?_
    refine jw_dup (pc := 31) C dX1_add_31 rfl ?_
    refine fg_X1_18 (pc := 32) C 2 rfl rfl dX1_add_32 ?_
    refine jw_iconst (pc := 35) C dX1_add_35 ?_
    refine jw_iadd (pc := 36) C dX1_add_36 ?_
    refine fp_X1_18 (pc := 37) C 2 rfl (Nat.le_of_ble_eq_true rfl) dX1_add_37 ?_
    exact hret _ _ _ dX1_add_40 e

