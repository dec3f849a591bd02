set_option maxRecDepth 100000 in
set_option maxHeartbeats 4000000 in
theorem c_X5_requireRequest (G : jG) (ad : Nat → Nat) (P : QP) (l : QL) (A : QA) (T : Nat → Bool) (F : QF) (hI : PI P) (a : Nat) (ha : (a : Int) < P.req) : CV G yX5_requireRequest cX5_requireRequest 2 (jrm 1 22 0 0) [.ref (ad 0), .int (iI (a : Int))] (wC G ad P l A T F) (fun _ : Unit => True) (fun _ : Unit => wC G ad P l A T F) 0 0 := by
  refine cv_intro (own := RX5) [some (.ref (ad 0)), some (.int (iI (a : Int)))] (by decide) rfl rfl rfl (Nat.le_of_ble_eq_true rfl) (fun X C hret => ?_)
  have h1 := hI.res
  have h2 := hI.req
  refine jw_iload_1 (pc := 0) C dX5_requireRequest_0 ?_
  refine jw_iconst (pc := 1) C dX5_requireRequest_1 ?_
  refine jw_aload_0 (pc := 2) C dX5_requireRequest_2 ?_
  refine fg_X5_10 (pc := 3) C 0 rfl rfl dX5_requireRequest_3 ?_
  refine fg_X5_119 (pc := 6) C 1 rfl rfl dX5_requireRequest_6 ?_
  refine jw_iconst (pc := 9) C dX5_requireRequest_9 ?_
  refine jw_isub (pc := 10) C dX5_requireRequest_10 ?_
  refine jw_S0_Z (pc := 11) C (c_X5_isWithin G ((a : Int)) (0) (P.req - 1) ⟨by omega, by omega⟩ ⟨by omega, by omega⟩ ⟨by omega, by omega⟩) ws_X5_isWithin kml_X5_48 rfl rfl (Nat.le_of_ble_eq_true rfl) ⟨by decide, by decide⟩ ⟨Nat.zero_le _, Nat.zero_le _⟩ dX5_requireRequest_11 rfl (fun z u h => ?_)
  subst h
  refine jw_if_ne_b (pc := 14) (tgt := 27) C dX5_requireRequest_14 (by decide) (fun c_14 => ?_) (fun c_14 => ?_)
  · exact hret _ _ () dX5_requireRequest_27 trivial
  · exact absurd (of_decide_eq_false c_14) (fun q => q ⟨by omega, by omega⟩)
set_option maxRecDepth 100000 in
set_option maxHeartbeats 4000000 in
theorem c_X5_requireLogged (G : jG) (ad : Nat → Nat) (P : QP) (l : QL) (A : QA) (T : Nat → Bool) (F : QF) (hl : 0 ≤ l.sz ∧ l.sz ≤ 200) (a : Nat) (ha : (a : Int) < l.sz) : CV G yX5_requireLogged cX5_requireLogged 2 (jrm 1 22 0 0) [.ref (ad 0), .int (iI (a : Int))] (wC G ad P l A T F) (fun _ : Unit => True) (fun _ : Unit => wC G ad P l A T F) 0 0 := by
  refine cv_intro (own := RX5) [some (.ref (ad 0)), some (.int (iI (a : Int)))] (by decide) rfl rfl rfl (Nat.le_of_ble_eq_true rfl) (fun X C hret => ?_)
  refine jw_iload_1 (pc := 0) C dX5_requireLogged_0 ?_
  refine jw_iconst (pc := 1) C dX5_requireLogged_1 ?_
  refine jw_aload_0 (pc := 2) C dX5_requireLogged_2 ?_
  refine fg_X5_19 (pc := 3) C 0 rfl rfl dX5_requireLogged_3 ?_
  refine fg_X5_174 (pc := 6) C 2 rfl rfl dX5_requireLogged_6 ?_
  refine jw_iconst (pc := 9) C dX5_requireLogged_9 ?_
  refine jw_isub (pc := 10) C dX5_requireLogged_10 ?_
  refine jw_S0_Z (pc := 11) C (c_X5_isWithin G ((a : Int)) (0) (l.sz - 1) ⟨by omega, by omega⟩ ⟨by omega, by omega⟩ ⟨by omega, by omega⟩) ws_X5_isWithin kml_X5_48 rfl rfl (Nat.le_of_ble_eq_true rfl) ⟨by decide, by decide⟩ ⟨Nat.zero_le _, Nat.zero_le _⟩ dX5_requireLogged_11 rfl (fun z u h => ?_)
  subst h
  refine jw_if_ne_b (pc := 14) (tgt := 27) C dX5_requireLogged_14 (by decide) (fun c_14 => ?_) (fun c_14 => ?_)
  · exact hret _ _ () dX5_requireLogged_27 trivial
  · exact absurd (of_decide_eq_false c_14) (fun q => q ⟨by omega, by omega⟩)
set_option maxRecDepth 100000 in
set_option maxHeartbeats 4000000 in
theorem c_X5_requireGroup (G : jG) (ad : Nat → Nat) (P : QP) (l : QL) (A : QA) (T : Nat → Bool) (F : QF) (a : Nat) (ha : (a : Int) < 4) : CV G yX5_requireGroup cX5_requireGroup 2 (jrm 1 22 0 0) [.ref (ad 0), .int (iI (a : Int))] (wC G ad P l A T F) (fun _ : Unit => True) (fun _ : Unit => wC G ad P l A T F) 0 0 := by
  refine cv_intro (own := RX5) [some (.ref (ad 0)), some (.int (iI (a : Int)))] (by decide) rfl rfl rfl (Nat.le_of_ble_eq_true rfl) (fun X C hret => ?_)
  refine jw_iload_1 (pc := 0) C dX5_requireGroup_0 ?_
  refine jw_iconst (pc := 1) C dX5_requireGroup_1 ?_
  refine jw_iconst (pc := 2) C dX5_requireGroup_2 ?_
  refine jw_S0_Z (pc := 3) C (c_X5_isWithin G ((a : Int)) (0) (3) ⟨by omega, by omega⟩ ⟨by omega, by omega⟩ ⟨by omega, by omega⟩) ws_X5_isWithin kml_X5_48 rfl rfl (Nat.le_of_ble_eq_true rfl) ⟨by decide, by decide⟩ ⟨Nat.zero_le _, Nat.zero_le _⟩ dX5_requireGroup_3 rfl (fun z u h => ?_)
  subst h
  refine jw_if_ne_b (pc := 6) (tgt := 19) C dX5_requireGroup_6 (by decide) (fun c_6 => ?_) (fun c_6 => ?_)
  · exact hret _ _ () dX5_requireGroup_19 trivial
  · exact absurd (of_decide_eq_false c_6) (fun q => q ⟨by omega, by omega⟩)
set_option maxRecDepth 100000 in
set_option maxHeartbeats 4000000 in
theorem c_X5_requirePresent (G : jG) (ad : Nat → Nat) (P : QP) (l : QL) (A : QA) (T : Nat → Bool) (F : QF) (hI : PI P) (r : Nat) (hr : (r : Int) < P.req) (hd : P.plc r ≠ -2) : CV G yX5_requirePresent cX5_requirePresent 2 (jrm 2 43 0 0) [.ref (ad 0), .int (iI (r : Int))] (wC G ad P l A T F) (fun _ : Unit => True) (fun _ : Unit => wC G ad P l A T F) 0 0 := by
  refine cv_intro (own := RX5) [some (.ref (ad 0)), some (.int (iI (r : Int)))] (by decide) rfl rfl rfl (Nat.le_of_ble_eq_true rfl) (fun X C hret => ?_)
  have h1 := hI.res
  have h2 := hI.req
  refine jw_aload_0 (pc := 0) C dX5_requirePresent_0 ?_
  refine jw_iload_1 (pc := 1) C dX5_requirePresent_1 ?_
  refine jw_V_V (pc := 2) C (c_X5_requireRequest G ad P l A T F hI r hr) wd_X5_requireRequest kml_X5_157 0 rfl rfl rfl rfl (Nat.le_of_ble_eq_true rfl) ⟨by decide, by decide⟩ ⟨Nat.zero_le _, Nat.zero_le _⟩ dX5_requirePresent_2 rfl (fun u h => ?_)
  refine jw_aload_0 (pc := 5) C dX5_requirePresent_5 ?_
  refine fg_X5_10 (pc := 6) C 0 rfl rfl dX5_requirePresent_6 ?_
  refine jw_iload_1 (pc := 9) C dX5_requirePresent_9 ?_
  refine jw_V_Z (pc := 10) C (c_X4_isDeparted G ad P l A T F r (by omega) hI) wd_X4_isDeparted kml_X5_197 1 rfl rfl rfl rfl (Nat.le_of_ble_eq_true rfl) ⟨by decide, by decide⟩ ⟨Nat.zero_le _, Nat.zero_le _⟩ dX5_requirePresent_10 rfl (fun z u h => ?_)
  subst h
  refine jw_if_eq_b (pc := 13) (tgt := 26) C dX5_requirePresent_13 (by decide) (fun c_13 => ?_) (fun c_13 => ?_)
  · exact hret _ _ () dX5_requirePresent_26 trivial
  · exact absurd (of_decide_eq_true c_13) hd
set_option maxRecDepth 100000 in
set_option maxHeartbeats 4000000 in
theorem c_X5_requireMask (G : jG) (ad : Nat → Nat) (P : QP) (l : QL) (A : QA) (T : Nat → Bool) (F : QF) (m : Int32) (hm : mOK P m) : CV G yX5_requireMask cX5_requireMask 2 (jrm 1 20 0 0) [.ref (ad 0), .int m] (wC G ad P l A T F) (fun _ : Unit => True) (fun _ : Unit => wC G ad P l A T F) 0 0 := by
  refine cv_intro (own := RX5) [some (.ref (ad 0)), some (.int m)] (by decide) rfl rfl rfl (Nat.le_of_ble_eq_true rfl) (fun X C hret => ?_)
  refine jw_iload_1 (pc := 0) C dX5_requireMask_0 ?_
  refine jw_if_lt_r (pc := 1) (tgt := 18) C dX5_requireMask_1 (by decide) (fun c_1 => ?_) (fun c_1 => ?_)
  · exact absurd c_1 hm.1
  · refine jw_iload_1 (pc := 4) C dX5_requireMask_4 ?_
    refine jw_aload_0 (pc := 5) C dX5_requireMask_5 ?_
    refine fg_X5_10 (pc := 6) C 0 rfl rfl dX5_requireMask_6 ?_
    refine jw_V_I (pc := 9) C (c_X4_maskOfAll G ad P l A T F) wd_X4_maskOfAll kml_X5_219 1 rfl rfl rfl rfl (Nat.le_of_ble_eq_true rfl) ⟨by decide, by decide⟩ ⟨Nat.zero_le _, Nat.zero_le _⟩ dX5_requireMask_9 rfl (fun z u h => ?_)
    subst h
    refine jw_iconst (pc := 12) C dX5_requireMask_12 ?_
    refine jw_ixor (pc := 13) C dX5_requireMask_13 ?_
    refine jw_iand (pc := 14) C dX5_requireMask_14 ?_
    refine jw_if_eq_r (pc := 15) (tgt := 28) C dX5_requireMask_15 (by decide) (fun c_15 => ?_) (fun c_15 => ?_)
    · exact hret _ _ () dX5_requireMask_28 trivial
    · exact absurd hm.2 c_15
set_option maxRecDepth 100000 in
set_option maxHeartbeats 4000000 in
theorem c_X5_addResource (G : jG) (ad : Nat → Nat) (P : QP) (l : QL) (A : QA) (T : Nat → Bool) (F : QF) (hI : PI P) (hF : PFe P) (c : Int) (hc : 0 ≤ c ∧ c ≤ 4) (hr : P.res < 12) : CI G yX5_addResource cX5_addResource 3 (jrm 6 135 0 0) [.ref (ad 0), .int (iI c)] (wC G ad P l A T F) (fun (z : Int32) (u : QP × QL × QA × (Nat → Bool)) => z = iI P.res ∧ u.1 = (rn (pOpen P c) l).1 ∧ u.2.1 = (rn (pOpen P c) l).2.1) (fun u : QP × QL × QA × (Nat → Bool) => wC G ad u.1 u.2.1 u.2.2.1 u.2.2.2 F) 0 0 := by
  refine ci_intro (own := RX5) [some (.ref (ad 0)), some (.int (iI c)), none] (by decide) rfl rfl rfl (Nat.le_of_ble_eq_true rfl) (fun X C hret => ?_)
  have h1 := hI.res
  have h2 := hI.req
  refine jw_iload_1 (pc := 0) C dX5_addResource_0 ?_
  refine jw_iconst (pc := 1) C dX5_addResource_1 ?_
  refine jw_iconst (pc := 2) C dX5_addResource_2 ?_
  refine jw_S0_Z (pc := 3) C (c_X5_isWithin G (c) (0) (4) ⟨by omega, by omega⟩ ⟨by omega, by omega⟩ ⟨by omega, by omega⟩) ws_X5_isWithin kml_X5_48 rfl rfl (Nat.le_of_ble_eq_true rfl) ⟨by decide, by decide⟩ ⟨Nat.zero_le _, Nat.zero_le _⟩ dX5_addResource_3 rfl (fun z u h => ?_)
  subst h
  refine jw_if_ne_b (pc := 6) (tgt := 19) C dX5_addResource_6 (by decide) (fun c_6 => ?_) (fun c_6 => ?_)
  · refine jw_aload_0 (pc := 19) C dX5_addResource_19 ?_
    refine fg_X5_10 (pc := 20) C 0 rfl rfl dX5_addResource_20 ?_
    refine fg_X5_59 (pc := 23) C 1 rfl rfl dX5_addResource_23 ?_
    refine jw_bipush (pc := 26) C dX5_addResource_26 (by decide) ?_
    refine jw_icmp_lt (pc := 28) (tgt := 41) C dX5_addResource_28 (by decide) ⟨by omega, by omega⟩ ⟨by omega, by omega⟩ (fun c_28 => ?_) (fun c_28 => ?_)
    · refine jw_aload_0 (pc := 41) C dX5_addResource_41 ?_
      refine fg_X5_19 (pc := 42) C 0 rfl rfl dX5_addResource_42 ?_
      refine jw_V_V (pc := 45) C (c_X1_clear G ad P l A T F) wd_X1_clear kml_X5_68 2 rfl rfl rfl rfl (Nat.le_of_ble_eq_true rfl) ⟨by decide, by decide⟩ ⟨Nat.zero_le _, Nat.zero_le _⟩ dX5_addResource_45 rfl (fun u1 h => ?_)
      subst h
      refine jw_aload_0 (pc := 48) C dX5_addResource_48 ?_
      refine fg_X5_10 (pc := 49) C 0 rfl rfl dX5_addResource_49 ?_
      refine jw_iload_1 (pc := 52) C dX5_addResource_52 ?_
      refine jw_V_I (pc := 53) C (c_X4_openResource G ad P (l.1, l.2.1, 0) A T F c hI hr) wd_X4_openResource kml_X5_71 1 rfl rfl rfl rfl (Nat.le_of_ble_eq_true rfl) ⟨by decide, by decide⟩ ⟨Nat.zero_le _, Nat.zero_le _⟩ dX5_addResource_53 rfl (fun z2 u2 h2 => ?_)
      obtain ⟨e1, e2⟩ := h2
      subst e1
      subst e2
      refine jw_istore_2 (pc := 56) C dX5_addResource_56 rfl ?_
      refine jw_aload_0 (pc := 57) C dX5_addResource_57 ?_
      refine fg_X5_37 (pc := 58) C 0 rfl rfl dX5_addResource_58 ?_
      refine jw_V_I (pc := 61) C (c_X3_runOnce G ad (pOpen P c) (l.1, l.2.1, 0) A T F (PI_open hI hr hc) rfl) wd_X3_runOnce kml_X5_75 4 rfl rfl rfl rfl (Nat.le_of_ble_eq_true rfl) ⟨by decide, by decide⟩ ⟨Nat.zero_le _, Nat.zero_le _⟩ dX5_addResource_61 rfl (fun z9 u9 h9 => ?_)
      refine jw_pop (pc := 64) C dX5_addResource_64 rfl ?_
      refine jw_iload_2 (pc := 65) C dX5_addResource_65 ?_
      exact hret _ _ _ u9 dX5_addResource_66 ⟨rfl, h9.2⟩
    · exact absurd hr (by omega)
  · exact absurd (of_decide_eq_false c_6) (fun q => q ⟨by omega, by omega⟩)
set_option maxRecDepth 100000 in
set_option maxHeartbeats 4000000 in
theorem c_X5_setGroup (G : jG) (ad : Nat → Nat) (P : QP) (l : QL) (A : QA) (T : Nat → Bool) (F : QF) (hI : PI P) (hF : PFe P) (a : Nat) (ha : (a : Int) < 4) (q : Int) (hq : 0 ≤ q ∧ q ≤ 40) (v : Int) (hv : 1 ≤ v ∧ v ≤ 10) : CI G yX5_setGroup cX5_setGroup 5 (jrm 6 135 0 0) [.ref (ad 0), .int (iI (a : Int)), .int (iI q), .int (iI v)] (wC G ad P l A T F) (fun (z : Int32) (u : QP × QL × QA × (Nat → Bool)) => z = iI (pBackQ a P.req.toNat (pGrp P a q v) 0).2 ∧ u.1 = (rn (pBackQ a P.req.toNat (pGrp P a q v) 0).1 l).1 ∧ u.2.1 = (rn (pBackQ a P.req.toNat (pGrp P a q v) 0).1 l).2.1) (fun u : QP × QL × QA × (Nat → Bool) => wC G ad u.1 u.2.1 u.2.2.1 u.2.2.2 F) 0 0 := by
  refine ci_intro (own := RX5) [some (.ref (ad 0)), some (.int (iI (a : Int))), some (.int (iI q)), some (.int (iI v)), none] (by decide) rfl rfl rfl (Nat.le_of_ble_eq_true rfl) (fun X C hret => ?_)
  have h1 := hI.res
  have h2 := hI.req
  refine jw_aload_0 (pc := 0) C dX5_setGroup_0 ?_
  refine jw_iload_1 (pc := 1) C dX5_setGroup_1 ?_
  refine jw_V_V (pc := 2) C (c_X5_requireGroup G ad P l A T F a ha) wd_X5_requireGroup kml_X5_90 0 rfl rfl rfl rfl (Nat.le_of_ble_eq_true rfl) ⟨by decide, by decide⟩ ⟨Nat.zero_le _, Nat.zero_le _⟩ dX5_setGroup_2 rfl (fun u h => ?_)
  refine jw_iload_2 (pc := 5) C dX5_setGroup_5 ?_
  refine jw_iconst (pc := 6) C dX5_setGroup_6 ?_
  refine jw_bipush (pc := 7) C dX5_setGroup_7 (by decide) ?_
  refine jw_S0_Z (pc := 9) C (c_X5_isWithin G (q) (0) (40) ⟨by omega, by omega⟩ ⟨by omega, by omega⟩ ⟨by omega, by omega⟩) ws_X5_isWithin kml_X5_48 rfl rfl (Nat.le_of_ble_eq_true rfl) ⟨by decide, by decide⟩ ⟨Nat.zero_le _, Nat.zero_le _⟩ dX5_setGroup_9 rfl (fun z u h => ?_)
  subst h
  refine jw_if_ne_b (pc := 12) (tgt := 25) C dX5_setGroup_12 (by decide) (fun c_12 => ?_) (fun c_12 => ?_)
  · refine jw_iload_3 (pc := 25) C dX5_setGroup_25 ?_
    refine jw_iconst (pc := 26) C dX5_setGroup_26 ?_
    refine jw_bipush (pc := 27) C dX5_setGroup_27 (by decide) ?_
    refine jw_S0_Z (pc := 29) C (c_X5_isWithin G (v) (1) (10) ⟨by omega, by omega⟩ ⟨by omega, by omega⟩ ⟨by omega, by omega⟩) ws_X5_isWithin kml_X5_48 rfl rfl (Nat.le_of_ble_eq_true rfl) ⟨by decide, by decide⟩ ⟨Nat.zero_le _, Nat.zero_le _⟩ dX5_setGroup_29 rfl (fun z u h => ?_)
    subst h
    refine jw_if_ne_b (pc := 32) (tgt := 45) C dX5_setGroup_32 (by decide) (fun c_32 => ?_) (fun c_32 => ?_)
    · refine jw_aload_0 (pc := 45) C dX5_setGroup_45 ?_
      refine fg_X5_19 (pc := 46) C 0 rfl rfl dX5_setGroup_46 ?_
      refine jw_V_V (pc := 49) C (c_X1_clear G ad P l A T F) wd_X1_clear kml_X5_68 2 rfl rfl rfl rfl (Nat.le_of_ble_eq_true rfl) ⟨by decide, by decide⟩ ⟨Nat.zero_le _, Nat.zero_le _⟩ dX5_setGroup_49 rfl (fun u1 h => ?_)
      subst h
      refine jw_aload_0 (pc := 52) C dX5_setGroup_52 ?_
      refine fg_X5_10 (pc := 53) C 0 rfl rfl dX5_setGroup_53 ?_
      refine fg_X5_97 (pc := 56) C 1 rfl rfl dX5_setGroup_56 ?_
      refine jw_iload_1 (pc := 59) C dX5_setGroup_59 ?_
      refine jw_iload_2 (pc := 60) C dX5_setGroup_60 ?_
      refine jw_iast (pc := 61) C 8 rfl a rfl (by omega) (by decide) dX5_setGroup_61 ?_
      refine jw_aload_0 (pc := 62) C dX5_setGroup_62 ?_
      refine fg_X5_10 (pc := 63) C 0 rfl rfl dX5_setGroup_63 ?_
      refine fg_X5_100 (pc := 66) C 1 rfl rfl dX5_setGroup_66 ?_
      refine jw_iload_1 (pc := 69) C dX5_setGroup_69 ?_
      refine jw_iload_3 (pc := 70) C dX5_setGroup_70 ?_
      refine jw_iast (pc := 71) C 9 rfl a rfl (by omega) (by decide) dX5_setGroup_71 ?_
      refine jw_aload_0 (pc := 72) C dX5_setGroup_72 ?_
      refine fg_X5_10 (pc := 73) C 0 rfl rfl dX5_setGroup_73 ?_
      refine jw_iload_1 (pc := 76) C dX5_setGroup_76 ?_
      refine jw_V_I (pc := 77) C (c_X4_putBackBeyondQuota G ad (pGrp P a q v) (l.1, l.2.1, 0) A T F a (by omega) (PI_grp hI hq hv)) wd_X4_putBackBeyondQuota kml_X5_103 1 rfl rfl rfl rfl (Nat.le_of_ble_eq_true rfl) ⟨by decide, by decide⟩ ⟨Nat.zero_le _, Nat.zero_le _⟩ dX5_setGroup_77 rfl (fun z2 u2 h2 => ?_)
      obtain ⟨e1, e2⟩ := h2
      subst e1
      subst e2
      refine jw_istore_4 (pc := 80) C dX5_setGroup_80 rfl ?_
      refine jw_aload_0 (pc := 82) C dX5_setGroup_82 ?_
      refine fg_X5_37 (pc := 83) C 0 rfl rfl dX5_setGroup_83 ?_
      refine jw_V_I (pc := 86) C (c_X3_runOnce G ad (pBackQ a P.req.toNat (pGrp P a q v) 0).1 (l.1, l.2.1, 0) A T F (PI_backQ hI hq hv).1 rfl) wd_X3_runOnce kml_X5_75 4 rfl rfl rfl rfl (Nat.le_of_ble_eq_true rfl) ⟨by decide, by decide⟩ ⟨Nat.zero_le _, Nat.zero_le _⟩ dX5_setGroup_86 rfl (fun z9 u9 h9 => ?_)
      refine jw_pop (pc := 89) C dX5_setGroup_89 rfl ?_
      refine jw_iload_4 (pc := 90) C dX5_setGroup_90 ?_
      exact hret _ _ _ u9 dX5_setGroup_92 ⟨rfl, h9.2⟩
    · exact absurd (of_decide_eq_false c_32) (fun q => q ⟨by omega, by omega⟩)
  · exact absurd (of_decide_eq_false c_12) (fun q => q ⟨by omega, by omega⟩)
set_option maxRecDepth 100000 in
set_option maxHeartbeats 4000000 in
theorem c_X5_setLimits (G : jG) (ad : Nat → Nat) (P : QP) (l : QL) (A : QA) (T : Nat → Bool) (F : QF) (hI : PI P) (hF : PFe P) (x : Int) (hx : 0 ≤ x ∧ x ≤ 5) (y : Int) (hy : 0 ≤ y ∧ y ≤ 20) : CI G yX5_setLimits cX5_setLimits 3 (jrm 6 135 0 0) [.ref (ad 0), .int (iI x), .int (iI y)] (wC G ad P l A T F) (fun (z : Int32) (u : QP × QL × QA × (Nat → Bool)) => z = iI (rn (pLim P x y) l).2.2 ∧ u.1 = (rn (pLim P x y) l).1 ∧ u.2.1 = (rn (pLim P x y) l).2.1) (fun u : QP × QL × QA × (Nat → Bool) => wC G ad u.1 u.2.1 u.2.2.1 u.2.2.2 F) 0 0 := by
  refine ci_intro (own := RX5) [some (.ref (ad 0)), some (.int (iI x)), some (.int (iI y))] (by decide) rfl rfl rfl (Nat.le_of_ble_eq_true rfl) (fun X C hret => ?_)
  have h1 := hI.res
  have h2 := hI.req
  refine jw_iload_1 (pc := 0) C dX5_setLimits_0 ?_
  refine jw_iconst (pc := 1) C dX5_setLimits_1 ?_
  refine jw_iconst (pc := 2) C dX5_setLimits_2 ?_
  refine jw_S0_Z (pc := 3) C (c_X5_isWithin G (x) (0) (5) ⟨by omega, by omega⟩ ⟨by omega, by omega⟩ ⟨by omega, by omega⟩) ws_X5_isWithin kml_X5_48 rfl rfl (Nat.le_of_ble_eq_true rfl) ⟨by decide, by decide⟩ ⟨Nat.zero_le _, Nat.zero_le _⟩ dX5_setLimits_3 rfl (fun z u h => ?_)
  subst h
  refine jw_if_ne_b (pc := 6) (tgt := 19) C dX5_setLimits_6 (by decide) (fun c_6 => ?_) (fun c_6 => ?_)
  · refine jw_iload_2 (pc := 19) C dX5_setLimits_19 ?_
    refine jw_iconst (pc := 20) C dX5_setLimits_20 ?_
    refine jw_bipush (pc := 21) C dX5_setLimits_21 (by decide) ?_
    refine jw_S0_Z (pc := 23) C (c_X5_isWithin G (y) (0) (20) ⟨by omega, by omega⟩ ⟨by omega, by omega⟩ ⟨by omega, by omega⟩) ws_X5_isWithin kml_X5_48 rfl rfl (Nat.le_of_ble_eq_true rfl) ⟨by decide, by decide⟩ ⟨Nat.zero_le _, Nat.zero_le _⟩ dX5_setLimits_23 rfl (fun z u h => ?_)
    subst h
    refine jw_if_ne_b (pc := 26) (tgt := 39) C dX5_setLimits_26 (by decide) (fun c_26 => ?_) (fun c_26 => ?_)
    · refine jw_aload_0 (pc := 39) C dX5_setLimits_39 ?_
      refine fg_X5_19 (pc := 40) C 0 rfl rfl dX5_setLimits_40 ?_
      refine jw_V_V (pc := 43) C (c_X1_clear G ad P l A T F) wd_X1_clear kml_X5_68 2 rfl rfl rfl rfl (Nat.le_of_ble_eq_true rfl) ⟨by decide, by decide⟩ ⟨Nat.zero_le _, Nat.zero_le _⟩ dX5_setLimits_43 rfl (fun u1 h => ?_)
      subst h
      refine jw_aload_0 (pc := 46) C dX5_setLimits_46 ?_
      refine fg_X5_10 (pc := 47) C 0 rfl rfl dX5_setLimits_47 ?_
      refine jw_iload_1 (pc := 50) C dX5_setLimits_50 ?_
      refine fp_X5_110 (pc := 51) C 1 rfl (Nat.le_of_ble_eq_true rfl) dX5_setLimits_51 ?_
      refine jw_aload_0 (pc := 54) C dX5_setLimits_54 ?_
      refine fg_X5_10 (pc := 55) C 0 rfl rfl dX5_setLimits_55 ?_
      refine jw_iload_2 (pc := 58) C dX5_setLimits_58 ?_
      refine fp_X5_113 (pc := 59) C 1 rfl (Nat.le_of_ble_eq_true rfl) dX5_setLimits_59 ?_
      refine jw_aload_0 (pc := 62) C dX5_setLimits_62 ?_
      refine fg_X5_37 (pc := 63) C 0 rfl rfl dX5_setLimits_63 ?_
      refine jw_V_I (pc := 66) C (c_X3_runOnce G ad (pLim P x y) (l.1, l.2.1, 0) A T F (PI_lim hI hx hy) rfl) wd_X3_runOnce kml_X5_75 4 rfl rfl rfl rfl (Nat.le_of_ble_eq_true rfl) ⟨by decide, by decide⟩ ⟨Nat.zero_le _, Nat.zero_le _⟩ dX5_setLimits_66 rfl (fun z9 u9 h9 => ?_)
      exact hret _ _ _ u9 dX5_setLimits_69 h9
    · exact absurd (of_decide_eq_false c_26) (fun q => q ⟨by omega, by omega⟩)
  · exact absurd (of_decide_eq_false c_6) (fun q => q ⟨by omega, by omega⟩)
set_option maxRecDepth 100000 in
set_option maxHeartbeats 4000000 in
theorem c_X5_arrive (G : jG) (ad : Nat → Nat) (P : QP) (l : QL) (A : QA) (T : Nat → Bool) (F : QF) (hI : PI P) (hF : PFe P) (a : Nat) (ha : (a : Int) < 4) (m : Int32) (hm : mOK P m) (hq : P.req < 40) : CI G yX5_arrive cX5_arrive 4 (jrm 5 112 0 0) [.ref (ad 0), .int (iI (a : Int)), .int m] (wC G ad P l A T F) (fun (z : Int32) (u : QP × QL × QA) => z = iI P.req ∧ u.1 = (tryS (pAdmit P (a : Int) m) (l.1, l.2.1, 0) P.req.toNat).2.1 ∧ u.2.1 = (tryS (pAdmit P (a : Int) m) (l.1, l.2.1, 0) P.req.toNat).2.2) (fun u : QP × QL × QA => wC G ad u.1 u.2.1 u.2.2 T F) 0 0 := by
  refine ci_intro (own := RX5) [some (.ref (ad 0)), some (.int (iI (a : Int))), some (.int m), none] (by decide) rfl rfl rfl (Nat.le_of_ble_eq_true rfl) (fun X C hret => ?_)
  have h1 := hI.res
  have h2 := hI.req
  refine jw_aload_0 (pc := 0) C dX5_arrive_0 ?_
  refine jw_iload_1 (pc := 1) C dX5_arrive_1 ?_
  refine jw_V_V (pc := 2) C (c_X5_requireGroup G ad P l A T F a ha) wd_X5_requireGroup kml_X5_90 0 rfl rfl rfl rfl (Nat.le_of_ble_eq_true rfl) ⟨by decide, by decide⟩ ⟨Nat.zero_le _, Nat.zero_le _⟩ dX5_arrive_2 rfl (fun u h => ?_)
  refine jw_aload_0 (pc := 5) C dX5_arrive_5 ?_
  refine jw_iload_2 (pc := 6) C dX5_arrive_6 ?_
  refine jw_V_V (pc := 7) C (c_X5_requireMask G ad P l A T F m hm) wd_X5_requireMask kml_X5_116 0 rfl rfl rfl rfl (Nat.le_of_ble_eq_true rfl) ⟨by decide, by decide⟩ ⟨Nat.zero_le _, Nat.zero_le _⟩ dX5_arrive_7 rfl (fun u h => ?_)
  refine jw_aload_0 (pc := 10) C dX5_arrive_10 ?_
  refine fg_X5_10 (pc := 11) C 0 rfl rfl dX5_arrive_11 ?_
  refine fg_X5_119 (pc := 14) C 1 rfl rfl dX5_arrive_14 ?_
  refine jw_bipush (pc := 17) C dX5_arrive_17 (by decide) ?_
  refine jw_icmp_lt (pc := 19) (tgt := 32) C dX5_arrive_19 (by decide) ⟨by omega, by omega⟩ ⟨by omega, by omega⟩ (fun c_19 => ?_) (fun c_19 => ?_)
  · refine jw_aload_0 (pc := 32) C dX5_arrive_32 ?_
    refine fg_X5_19 (pc := 33) C 0 rfl rfl dX5_arrive_33 ?_
    refine jw_V_V (pc := 36) C (c_X1_clear G ad P l A T F) wd_X1_clear kml_X5_68 2 rfl rfl rfl rfl (Nat.le_of_ble_eq_true rfl) ⟨by decide, by decide⟩ ⟨Nat.zero_le _, Nat.zero_le _⟩ dX5_arrive_36 rfl (fun u1 h => ?_)
    subst h
    refine jw_aload_0 (pc := 39) C dX5_arrive_39 ?_
    refine fg_X5_10 (pc := 40) C 0 rfl rfl dX5_arrive_40 ?_
    refine jw_iload_1 (pc := 43) C dX5_arrive_43 ?_
    refine jw_iload_2 (pc := 44) C dX5_arrive_44 ?_
    refine jw_V_I (pc := 45) C (c_X4_admit G ad P (l.1, l.2.1, 0) A T F (a : Int) m hI hq) wd_X4_admit kml_X5_124 1 rfl rfl rfl rfl (Nat.le_of_ble_eq_true rfl) ⟨by decide, by decide⟩ ⟨Nat.zero_le _, Nat.zero_le _⟩ dX5_arrive_45 rfl (fun z2 u2 h2 => ?_)
    obtain ⟨e1, e2⟩ := h2
    subst e1
    subst e2
    refine jw_istore_3 (pc := 48) C dX5_arrive_48 rfl ?_
    refine jw_aload_0 (pc := 49) C dX5_arrive_49 ?_
    refine fg_X5_37 (pc := 50) C 0 rfl rfl dX5_arrive_50 ?_
    refine jw_iload_3 (pc := 53) C dX5_arrive_53 ?_
    rw [show iI P.req = iI ((P.req.toNat : Nat) : Int) from by rw [Int.toNat_of_nonneg h2.1]]
    refine jw_V_Z (pc := 54) C (c_X3_tryToPlace G ad (pAdmit P (a : Int) m) (l.1, l.2.1, 0) A T F P.req.toNat (PI_admit hI hq ⟨by omega, by omega⟩) (by show ((P.req.toNat : Nat) : Int) < P.req + 1; omega) (updf_same _ _ _) ⟨Int.le_refl 0, (by decide : (0 : Int) ≤ 195)⟩) wd_X3_tryToPlace kml_X5_128 4 rfl rfl rfl rfl (Nat.le_of_ble_eq_true rfl) ⟨by decide, by decide⟩ ⟨Nat.zero_le _, Nat.zero_le _⟩ dX5_arrive_54 rfl (fun z9 u9 h9 => ?_)
    refine jw_pop (pc := 57) C dX5_arrive_57 rfl ?_
    refine jw_iload_3 (pc := 58) C dX5_arrive_58 ?_
    exact hret _ _ _ u9 dX5_arrive_59 ⟨by rw [Int.toNat_of_nonneg h2.1], h9.2⟩
  · exact absurd hq (by omega)
set_option maxRecDepth 100000 in
set_option maxHeartbeats 4000000 in
theorem c_X5_depart (G : jG) (ad : Nat → Nat) (P : QP) (l : QL) (A : QA) (T : Nat → Bool) (F : QF) (hI : PI P) (r : Nat) (hr : (r : Int) < P.req) (hF : PFe P) (hd : P.plc r ≠ -2) : CI G yX5_depart cX5_depart 2 (jrm 6 135 0 0) [.ref (ad 0), .int (iI (r : Int))] (wC G ad P l A T F) (fun (z : Int32) (u : QP × QL × QA × (Nat → Bool)) => z = iI (rn (pDismiss P r) l).2.2 ∧ u.1 = (rn (pDismiss P r) l).1 ∧ u.2.1 = (rn (pDismiss P r) l).2.1) (fun u : QP × QL × QA × (Nat → Bool) => wC G ad u.1 u.2.1 u.2.2.1 u.2.2.2 F) 0 0 := by
  refine ci_intro (own := RX5) [some (.ref (ad 0)), some (.int (iI (r : Int)))] (by decide) rfl rfl rfl (Nat.le_of_ble_eq_true rfl) (fun X C hret => ?_)
  have h1 := hI.res
  have h2 := hI.req
  refine jw_aload_0 (pc := 0) C dX5_depart_0 ?_
  refine jw_iload_1 (pc := 1) C dX5_depart_1 ?_
  refine jw_V_V (pc := 2) C (c_X5_requirePresent G ad P l A T F hI r hr hd) wd_X5_requirePresent kml_X5_132 0 rfl rfl rfl rfl (Nat.le_of_ble_eq_true rfl) ⟨by decide, by decide⟩ ⟨Nat.zero_le _, Nat.zero_le _⟩ dX5_depart_2 rfl (fun u h => ?_)
  refine jw_aload_0 (pc := 5) C dX5_depart_5 ?_
  refine fg_X5_19 (pc := 6) C 0 rfl rfl dX5_depart_6 ?_
  refine jw_V_V (pc := 9) C (c_X1_clear G ad P l A T F) wd_X1_clear kml_X5_68 2 rfl rfl rfl rfl (Nat.le_of_ble_eq_true rfl) ⟨by decide, by decide⟩ ⟨Nat.zero_le _, Nat.zero_le _⟩ dX5_depart_9 rfl (fun u1 h => ?_)
  subst h
  refine jw_aload_0 (pc := 12) C dX5_depart_12 ?_
  refine fg_X5_10 (pc := 13) C 0 rfl rfl dX5_depart_13 ?_
  refine jw_iload_1 (pc := 16) C dX5_depart_16 ?_
  refine jw_V_V (pc := 17) C (c_X4_dismiss G ad P (l.1, l.2.1, 0) A T F r hI hr) wd_X4_dismiss kml_X5_135 1 rfl rfl rfl rfl (Nat.le_of_ble_eq_true rfl) ⟨by decide, by decide⟩ ⟨Nat.zero_le _, Nat.zero_le _⟩ dX5_depart_17 rfl (fun u2 h2 => ?_)
  subst h2
  refine jw_aload_0 (pc := 20) C dX5_depart_20 ?_
  refine fg_X5_37 (pc := 21) C 0 rfl rfl dX5_depart_21 ?_
  refine jw_V_I (pc := 24) C (c_X3_runOnce G ad (pDismiss P r) (l.1, l.2.1, 0) A T F (PI_dismiss hI hr) rfl) wd_X3_runOnce kml_X5_75 4 rfl rfl rfl rfl (Nat.le_of_ble_eq_true rfl) ⟨by decide, by decide⟩ ⟨Nat.zero_le _, Nat.zero_le _⟩ dX5_depart_24 rfl (fun z9 u9 h9 => ?_)
  exact hret _ _ _ u9 dX5_depart_27 h9
set_option maxRecDepth 100000 in
set_option maxHeartbeats 4000000 in
theorem c_X5_setAccepts (G : jG) (ad : Nat → Nat) (P : QP) (l : QL) (A : QA) (T : Nat → Bool) (F : QF) (hI : PI P) (r : Nat) (hr : (r : Int) < P.req) (hF : PFe P) (hd : P.plc r ≠ -2) (m : Int32) (hm : mOK P m) : CZ G yX5_setAccepts cX5_setAccepts 3 (jrm 6 135 0 0) [.ref (ad 0), .int (iI (r : Int)), .int m] (wC G ad P l A T F) (fun (z : Bool) (u : QP × QL × QA × (Nat → Bool)) => z = decide (0 ≤ (rn (pAccept P r m) l).1.plc r) ∧ u.1 = (rn (pAccept P r m) l).1 ∧ u.2.1 = (rn (pAccept P r m) l).2.1) (fun u : QP × QL × QA × (Nat → Bool) => wC G ad u.1 u.2.1 u.2.2.1 u.2.2.2 F) 0 0 := by
  refine cz_intro (own := RX5) [some (.ref (ad 0)), some (.int (iI (r : Int))), some (.int m)] (by decide) rfl rfl rfl (Nat.le_of_ble_eq_true rfl) (fun X C hret => ?_)
  have h1 := hI.res
  have h2 := hI.req
  refine jw_aload_0 (pc := 0) C dX5_setAccepts_0 ?_
  refine jw_iload_1 (pc := 1) C dX5_setAccepts_1 ?_
  refine jw_V_V (pc := 2) C (c_X5_requirePresent G ad P l A T F hI r hr hd) wd_X5_requirePresent kml_X5_132 0 rfl rfl rfl rfl (Nat.le_of_ble_eq_true rfl) ⟨by decide, by decide⟩ ⟨Nat.zero_le _, Nat.zero_le _⟩ dX5_setAccepts_2 rfl (fun u h => ?_)
  refine jw_aload_0 (pc := 5) C dX5_setAccepts_5 ?_
  refine jw_iload_2 (pc := 6) C dX5_setAccepts_6 ?_
  refine jw_V_V (pc := 7) C (c_X5_requireMask G ad P l A T F m hm) wd_X5_requireMask kml_X5_116 0 rfl rfl rfl rfl (Nat.le_of_ble_eq_true rfl) ⟨by decide, by decide⟩ ⟨Nat.zero_le _, Nat.zero_le _⟩ dX5_setAccepts_7 rfl (fun u h => ?_)
  refine jw_aload_0 (pc := 10) C dX5_setAccepts_10 ?_
  refine fg_X5_19 (pc := 11) C 0 rfl rfl dX5_setAccepts_11 ?_
  refine jw_V_V (pc := 14) C (c_X1_clear G ad P l A T F) wd_X1_clear kml_X5_68 2 rfl rfl rfl rfl (Nat.le_of_ble_eq_true rfl) ⟨by decide, by decide⟩ ⟨Nat.zero_le _, Nat.zero_le _⟩ dX5_setAccepts_14 rfl (fun u1 h => ?_)
  subst h
  refine jw_aload_0 (pc := 17) C dX5_setAccepts_17 ?_
  refine fg_X5_10 (pc := 18) C 0 rfl rfl dX5_setAccepts_18 ?_
  refine jw_iload_1 (pc := 21) C dX5_setAccepts_21 ?_
  refine jw_iload_2 (pc := 22) C dX5_setAccepts_22 ?_
  refine jw_V_V (pc := 23) C (c_X4_accept G ad P (l.1, l.2.1, 0) A T F r m hI hr) wd_X4_accept kml_X5_138 1 rfl rfl rfl rfl (Nat.le_of_ble_eq_true rfl) ⟨by decide, by decide⟩ ⟨Nat.zero_le _, Nat.zero_le _⟩ dX5_setAccepts_23 rfl (fun u2 h2 => ?_)
  subst h2
  refine jw_aload_0 (pc := 26) C dX5_setAccepts_26 ?_
  refine fg_X5_37 (pc := 27) C 0 rfl rfl dX5_setAccepts_27 ?_
  refine jw_V_I (pc := 30) C (c_X3_runOnce G ad (pAccept P r m) (l.1, l.2.1, 0) A T F (PI_accept hI hr) rfl) wd_X3_runOnce kml_X5_75 4 rfl rfl rfl rfl (Nat.le_of_ble_eq_true rfl) ⟨by decide, by decide⟩ ⟨Nat.zero_le _, Nat.zero_le _⟩ dX5_setAccepts_30 rfl (fun z9 u9 h9 => ?_)
  refine jw_pop (pc := 33) C dX5_setAccepts_33 rfl ?_
  refine jw_aload_0 (pc := 34) C dX5_setAccepts_34 ?_
  refine fg_X5_10 (pc := 35) C 0 rfl rfl dX5_setAccepts_35 ?_
  refine jw_iload_1 (pc := 38) C dX5_setAccepts_38 ?_
  refine jw_V_Z (pc := 39) C (c_X4_isAssigned G ad u9.1 u9.2.1 u9.2.2.1 u9.2.2.2 F r (by omega) (by rw [h9.2.1]; exact (rn_ok (l := l) (PI_accept hI hr) (PFe_accept hI hF hm)).1.1)) wd_X4_isAssigned kml_X5_142 1 rfl rfl rfl rfl (Nat.le_of_ble_eq_true rfl) ⟨by decide, by decide⟩ ⟨Nat.zero_le _, Nat.zero_le _⟩ dX5_setAccepts_39 rfl (fun z8 u8 h8 => ?_)
  subst h8
  have e9 : u9.1 = (rn (pAccept P r m) l).1 := h9.2.1
  exact hret _ _ _ u9 dX5_setAccepts_42 ⟨by rw [e9], h9.2⟩
set_option maxRecDepth 100000 in
set_option maxHeartbeats 4000000 in
theorem c_X5_resourceCount (G : jG) (ad : Nat → Nat) (P : QP) (l : QL) (A : QA) (T : Nat → Bool) (F : QF)  : CI G yX5_resourceCount cX5_resourceCount 1 (jrm 0 0 0 0) [.ref (ad 0)] (wC G ad P l A T F) (fun (z : Int32) (_ : Unit) => z = iI P.res) (fun _ : Unit => wC G ad P l A T F) 0 0 := by
  refine ci_intro (own := RX5) [some (.ref (ad 0))] (by decide) rfl rfl rfl (Nat.le_of_ble_eq_true rfl) (fun X C hret => ?_)
  refine jw_aload_0 (pc := 0) C dX5_resourceCount_0 ?_
  refine fg_X5_10 (pc := 1) C 0 rfl rfl dX5_resourceCount_1 ?_
  refine fg_X5_59 (pc := 4) C 1 rfl rfl dX5_resourceCount_4 ?_
  exact hret _ _ _ () dX5_resourceCount_7 rfl
set_option maxRecDepth 100000 in
set_option maxHeartbeats 4000000 in
theorem c_X5_arrivedCount (G : jG) (ad : Nat → Nat) (P : QP) (l : QL) (A : QA) (T : Nat → Bool) (F : QF)  : CI G yX5_arrivedCount cX5_arrivedCount 1 (jrm 0 0 0 0) [.ref (ad 0)] (wC G ad P l A T F) (fun (z : Int32) (_ : Unit) => z = iI P.req) (fun _ : Unit => wC G ad P l A T F) 0 0 := by
  refine ci_intro (own := RX5) [some (.ref (ad 0))] (by decide) rfl rfl rfl (Nat.le_of_ble_eq_true rfl) (fun X C hret => ?_)
  refine jw_aload_0 (pc := 0) C dX5_arrivedCount_0 ?_
  refine fg_X5_10 (pc := 1) C 0 rfl rfl dX5_arrivedCount_1 ?_
  refine fg_X5_119 (pc := 4) C 1 rfl rfl dX5_arrivedCount_4 ?_
  exact hret _ _ _ () dX5_arrivedCount_7 rfl
set_option maxRecDepth 100000 in
set_option maxHeartbeats 4000000 in
theorem c_X5_moveCount (G : jG) (ad : Nat → Nat) (P : QP) (l : QL) (A : QA) (T : Nat → Bool) (F : QF)  : CI G yX5_moveCount cX5_moveCount 1 (jrm 0 0 0 0) [.ref (ad 0)] (wC G ad P l A T F) (fun (z : Int32) (_ : Unit) => z = iI l.sz) (fun _ : Unit => wC G ad P l A T F) 0 0 := by
  refine ci_intro (own := RX5) [some (.ref (ad 0))] (by decide) rfl rfl rfl (Nat.le_of_ble_eq_true rfl) (fun X C hret => ?_)
  refine jw_aload_0 (pc := 0) C dX5_moveCount_0 ?_
  refine fg_X5_19 (pc := 1) C 0 rfl rfl dX5_moveCount_1 ?_
  refine fg_X5_174 (pc := 4) C 2 rfl rfl dX5_moveCount_4 ?_
  exact hret _ _ _ () dX5_moveCount_7 rfl
set_option maxRecDepth 100000 in
set_option maxHeartbeats 4000000 in
theorem c_X5_state (G : jG) (ad : Nat → Nat) (P : QP) (l : QL) (A : QA) (T : Nat → Bool) (F : QF) (hI : PI P) (r : Nat) (hr : (r : Int) < P.req)  : CI G yX5_state cX5_state 2 (jrm 2 43 0 0) [.ref (ad 0), .int (iI (r : Int))] (wC G ad P l A T F) (fun (z : Int32) (_ : Unit) => z = iI (stN (P.plc r))) (fun _ : Unit => wC G ad P l A T F) 0 0 := by
  refine ci_intro (own := RX5) [some (.ref (ad 0)), some (.int (iI (r : Int)))] (by decide) rfl rfl rfl (Nat.le_of_ble_eq_true rfl) (fun X C hret => ?_)
  have h1 := hI.res
  have h2 := hI.req
  refine jw_aload_0 (pc := 0) C dX5_state_0 ?_
  refine jw_iload_1 (pc := 1) C dX5_state_1 ?_
  refine jw_V_V (pc := 2) C (c_X5_requireRequest G ad P l A T F hI r hr) wd_X5_requireRequest kml_X5_157 0 rfl rfl rfl rfl (Nat.le_of_ble_eq_true rfl) ⟨by decide, by decide⟩ ⟨Nat.zero_le _, Nat.zero_le _⟩ dX5_state_2 rfl (fun u h => ?_)
  refine jw_aload_0 (pc := 5) C dX5_state_5 ?_
  refine fg_X5_10 (pc := 6) C 0 rfl rfl dX5_state_6 ?_
  refine jw_iload_1 (pc := 9) C dX5_state_9 ?_
  refine jw_V_I (pc := 10) C (c_X4_stateNumber G ad P l A T F r (by omega) hI) wd_X4_stateNumber kml_X5_160 1 rfl rfl rfl rfl (Nat.le_of_ble_eq_true rfl) ⟨by decide, by decide⟩ ⟨Nat.zero_le _, Nat.zero_le _⟩ dX5_state_10 rfl (fun z u h => ?_)
  subst h
  exact hret _ _ _ () dX5_state_13 rfl
set_option maxRecDepth 100000 in
set_option maxHeartbeats 4000000 in
theorem c_X5_resourceOf (G : jG) (ad : Nat → Nat) (P : QP) (l : QL) (A : QA) (T : Nat → Bool) (F : QF) (hI : PI P) (r : Nat) (hr : (r : Int) < P.req) (hd : 0 ≤ P.plc r) : CI G yX5_resourceOf cX5_resourceOf 2 (jrm 2 43 0 0) [.ref (ad 0), .int (iI (r : Int))] (wC G ad P l A T F) (fun (z : Int32) (_ : Unit) => z = iI (P.plc r)) (fun _ : Unit => wC G ad P l A T F) 0 0 := by
  refine ci_intro (own := RX5) [some (.ref (ad 0)), some (.int (iI (r : Int)))] (by decide) rfl rfl rfl (Nat.le_of_ble_eq_true rfl) (fun X C hret => ?_)
  have h1 := hI.res
  have h2 := hI.req
  refine jw_aload_0 (pc := 0) C dX5_resourceOf_0 ?_
  refine jw_iload_1 (pc := 1) C dX5_resourceOf_1 ?_
  refine jw_V_V (pc := 2) C (c_X5_requireRequest G ad P l A T F hI r hr) wd_X5_requireRequest kml_X5_157 0 rfl rfl rfl rfl (Nat.le_of_ble_eq_true rfl) ⟨by decide, by decide⟩ ⟨Nat.zero_le _, Nat.zero_le _⟩ dX5_resourceOf_2 rfl (fun u h => ?_)
  refine jw_aload_0 (pc := 5) C dX5_resourceOf_5 ?_
  refine fg_X5_10 (pc := 6) C 0 rfl rfl dX5_resourceOf_6 ?_
  refine jw_iload_1 (pc := 9) C dX5_resourceOf_9 ?_
  refine jw_V_Z (pc := 10) C (c_X4_isAssigned G ad P l A T F r (by omega) hI) wd_X4_isAssigned kml_X5_142 1 rfl rfl rfl rfl (Nat.le_of_ble_eq_true rfl) ⟨by decide, by decide⟩ ⟨Nat.zero_le _, Nat.zero_le _⟩ dX5_resourceOf_10 rfl (fun z u h => ?_)
  subst h
  refine jw_if_ne_b (pc := 13) (tgt := 26) C dX5_resourceOf_13 (by decide) (fun c_13 => ?_) (fun c_13 => ?_)
  · refine jw_aload_0 (pc := 26) C dX5_resourceOf_26 ?_
    refine fg_X5_10 (pc := 27) C 0 rfl rfl dX5_resourceOf_27 ?_
    refine fg_X5_168 (pc := 30) C 1 rfl rfl dX5_resourceOf_30 ?_
    refine jw_iload_1 (pc := 33) C dX5_resourceOf_33 ?_
    refine jw_iald (pc := 34) C 13 rfl r rfl (by omega) (by decide) dX5_resourceOf_34 ?_
    exact hret _ _ _ () dX5_resourceOf_35 rfl
  · exact absurd hd (of_decide_eq_false c_13)
set_option maxRecDepth 100000 in
set_option maxHeartbeats 4000000 in
theorem c_X5_movesOf (G : jG) (ad : Nat → Nat) (P : QP) (l : QL) (A : QA) (T : Nat → Bool) (F : QF) (hI : PI P) (r : Nat) (hr : (r : Int) < P.req)  : CI G yX5_movesOf cX5_movesOf 2 (jrm 2 43 0 0) [.ref (ad 0), .int (iI (r : Int))] (wC G ad P l A T F) (fun (z : Int32) (_ : Unit) => z = iI (P.mov r)) (fun _ : Unit => wC G ad P l A T F) 0 0 := by
  refine ci_intro (own := RX5) [some (.ref (ad 0)), some (.int (iI (r : Int)))] (by decide) rfl rfl rfl (Nat.le_of_ble_eq_true rfl) (fun X C hret => ?_)
  have h1 := hI.res
  have h2 := hI.req
  refine jw_aload_0 (pc := 0) C dX5_movesOf_0 ?_
  refine jw_iload_1 (pc := 1) C dX5_movesOf_1 ?_
  refine jw_V_V (pc := 2) C (c_X5_requireRequest G ad P l A T F hI r hr) wd_X5_requireRequest kml_X5_157 0 rfl rfl rfl rfl (Nat.le_of_ble_eq_true rfl) ⟨by decide, by decide⟩ ⟨Nat.zero_le _, Nat.zero_le _⟩ dX5_movesOf_2 rfl (fun u h => ?_)
  refine jw_aload_0 (pc := 5) C dX5_movesOf_5 ?_
  refine fg_X5_10 (pc := 6) C 0 rfl rfl dX5_movesOf_6 ?_
  refine fg_X5_171 (pc := 9) C 1 rfl rfl dX5_movesOf_9 ?_
  refine jw_iload_1 (pc := 12) C dX5_movesOf_12 ?_
  refine jw_iald (pc := 13) C 14 rfl r rfl (by omega) (by decide) dX5_movesOf_13 ?_
  exact hret _ _ _ () dX5_movesOf_14 rfl
set_option maxRecDepth 100000 in
set_option maxHeartbeats 4000000 in
theorem c_X5_movedRequest (G : jG) (ad : Nat → Nat) (P : QP) (l : QL) (A : QA) (T : Nat → Bool) (F : QF) (hl : 0 ≤ l.sz ∧ l.sz ≤ 200) (a : Nat) (ha : (a : Int) < l.sz) : CI G yX5_movedRequest cX5_movedRequest 2 (jrm 2 43 0 0) [.ref (ad 0), .int (iI (a : Int))] (wC G ad P l A T F) (fun (z : Int32) (_ : Unit) => z = iI (l.rq a)) (fun _ : Unit => wC G ad P l A T F) 0 0 := by
  refine ci_intro (own := RX5) [some (.ref (ad 0)), some (.int (iI (a : Int)))] (by decide) rfl rfl rfl (Nat.le_of_ble_eq_true rfl) (fun X C hret => ?_)
  refine jw_aload_0 (pc := 0) C dX5_movedRequest_0 ?_
  refine jw_iload_1 (pc := 1) C dX5_movedRequest_1 ?_
  refine jw_V_V (pc := 2) C (c_X5_requireLogged G ad P l A T F hl a ha) wd_X5_requireLogged kml_X5_177 0 rfl rfl rfl rfl (Nat.le_of_ble_eq_true rfl) ⟨by decide, by decide⟩ ⟨Nat.zero_le _, Nat.zero_le _⟩ dX5_movedRequest_2 rfl (fun u h => ?_)
  refine jw_aload_0 (pc := 5) C dX5_movedRequest_5 ?_
  refine fg_X5_19 (pc := 6) C 0 rfl rfl dX5_movedRequest_6 ?_
  refine fg_X5_180 (pc := 9) C 2 rfl rfl dX5_movedRequest_9 ?_
  refine jw_iload_1 (pc := 12) C dX5_movedRequest_12 ?_
  refine jw_iald (pc := 13) C 15 rfl a rfl (by omega) (by decide) dX5_movedRequest_13 ?_
  exact hret _ _ _ () dX5_movedRequest_14 rfl
set_option maxRecDepth 100000 in
set_option maxHeartbeats 4000000 in
theorem c_X5_movedTo (G : jG) (ad : Nat → Nat) (P : QP) (l : QL) (A : QA) (T : Nat → Bool) (F : QF) (hl : 0 ≤ l.sz ∧ l.sz ≤ 200) (a : Nat) (ha : (a : Int) < l.sz) : CI G yX5_movedTo cX5_movedTo 2 (jrm 2 43 0 0) [.ref (ad 0), .int (iI (a : Int))] (wC G ad P l A T F) (fun (z : Int32) (_ : Unit) => z = iI (l.tg a)) (fun _ : Unit => wC G ad P l A T F) 0 0 := by
  refine ci_intro (own := RX5) [some (.ref (ad 0)), some (.int (iI (a : Int)))] (by decide) rfl rfl rfl (Nat.le_of_ble_eq_true rfl) (fun X C hret => ?_)
  refine jw_aload_0 (pc := 0) C dX5_movedTo_0 ?_
  refine jw_iload_1 (pc := 1) C dX5_movedTo_1 ?_
  refine jw_V_V (pc := 2) C (c_X5_requireLogged G ad P l A T F hl a ha) wd_X5_requireLogged kml_X5_177 0 rfl rfl rfl rfl (Nat.le_of_ble_eq_true rfl) ⟨by decide, by decide⟩ ⟨Nat.zero_le _, Nat.zero_le _⟩ dX5_movedTo_2 rfl (fun u h => ?_)
  refine jw_aload_0 (pc := 5) C dX5_movedTo_5 ?_
  refine fg_X5_19 (pc := 6) C 0 rfl rfl dX5_movedTo_6 ?_
  refine fg_X5_183 (pc := 9) C 2 rfl rfl dX5_movedTo_9 ?_
  refine jw_iload_1 (pc := 12) C dX5_movedTo_12 ?_
  refine jw_iald (pc := 13) C 16 rfl a rfl (by omega) (by decide) dX5_movedTo_13 ?_
  exact hret _ _ _ () dX5_movedTo_14 rfl
