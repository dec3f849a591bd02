set_option maxRecDepth 100000 in
set_option maxHeartbeats 4000000 in
theorem c_X0_startOf (G : jG) (ad : Nat → Nat) (P : QP) (l : QL) (A : QA) (T : Nat → Bool) (F : QF) (r : Nat) (hr : r < 40) (hI : PI P) : CI G yX0_startOf cX0_startOf 2 (jrm 1 21 0 0) [.ref (ad 5), .int (iI (r : Int))] (wC G ad P l A T F) (fun (z : Int32) _ => z = iI (stt P r)) (fun _ : Unit => wC G ad P l A T F) 0 0 := by
  refine ci_intro (own := RX0) [some (.ref (ad 5)), some (.int (iI (r : Int)))] (by decide) rfl rfl rfl (Nat.le_of_ble_eq_true rfl) (fun X C hret => ?_)
  refine jw_aload_0 (pc := 0) C dX0_startOf_0 ?_
  refine fg_X0_37 (pc := 1) C 5 rfl rfl dX0_startOf_1 ?_
  refine jw_iload_1 (pc := 4) C dX0_startOf_4 ?_
  refine jw_V_Z (pc := 5) C (c_X4_isDeparted G ad P l A T F r hr hI) wd_X4_isDeparted kml_X0_74 1 rfl rfl rfl rfl (Nat.le_of_ble_eq_true rfl) ⟨by decide, by decide⟩ ⟨Nat.zero_le _, Nat.zero_le _⟩ dX0_startOf_5 rfl (fun z u h => ?_)
  subst h
  refine jw_if_eq_b (pc := 8) (tgt := 13) C dX0_startOf_8 (by decide) (fun c_8 => ?_) (fun c_8 => ?_)
  · refine jw_aload_0 (pc := 13) C dX0_startOf_13 ?_
    refine fg_X0_37 (pc := 14) C 5 rfl rfl dX0_startOf_14 ?_
    refine jw_iload_1 (pc := 17) C dX0_startOf_17 ?_
    refine jw_V_Z (pc := 18) C (c_X4_isAssigned G ad P l A T F r hr hI) wd_X4_isAssigned kml_X0_78 1 rfl rfl rfl rfl (Nat.le_of_ble_eq_true rfl) ⟨by decide, by decide⟩ ⟨Nat.zero_le _, Nat.zero_le _⟩ dX0_startOf_18 rfl (fun z u h => ?_)
    subst h
    refine jw_if_eq_b (pc := 21) (tgt := 38) C dX0_startOf_21 (by decide) (fun c_21 => ?_) (fun c_21 => ?_)
    · have hz : iI (P.grp r) = iI (stt P r) := by rw [stt, if_neg (of_decide_eq_false c_8), if_neg (of_decide_eq_false c_21)]
      refine jw_aload_0 (pc := 38) C dX0_startOf_38 ?_
      refine fg_X0_37 (pc := 39) C 5 rfl rfl dX0_startOf_39 ?_
      refine fg_X0_84 (pc := 42) C 1 rfl rfl dX0_startOf_42 ?_
      refine jw_iload_1 (pc := 45) C dX0_startOf_45 ?_
      refine jw_iald (pc := 46) C 11 rfl _ rfl (by omega) (by decide) dX0_startOf_46 ?_
      exact hret _ _ _ () dX0_startOf_47 hz
    · have hz : iI (4 + P.plc r) = iI (stt P r) := by rw [stt, if_neg (of_decide_eq_false c_8), if_pos (of_decide_eq_true c_21)]
      refine jw_iconst (pc := 24) C dX0_startOf_24 ?_
      refine jw_aload_0 (pc := 25) C dX0_startOf_25 ?_
      refine fg_X0_37 (pc := 26) C 5 rfl rfl dX0_startOf_26 ?_
      refine fg_X0_81 (pc := 29) C 1 rfl rfl dX0_startOf_29 ?_
      refine jw_iload_1 (pc := 32) C dX0_startOf_32 ?_
      refine jw_iald (pc := 33) C 13 rfl _ rfl (by omega) (by decide) dX0_startOf_33 ?_
      refine jw_iadd (pc := 34) C dX0_startOf_34 ?_
      refine jw_goto (pc := 35) (tgt := 47) C dX0_startOf_35 (by decide) ?_
      exact hret _ _ _ () dX0_startOf_47 hz
  · refine jw_iconst (pc := 11) C dX0_startOf_11 ?_
    exact hret _ _ _ () dX0_startOf_12 (by rw [stt, if_pos (of_decide_eq_true c_8)])
set_option maxRecDepth 100000 in
set_option maxHeartbeats 4000000 in
theorem c_X0_copyAssignment (G : jG) (ad : Nat → Nat) (P : QP) (l : QL) (A : QA) (T : Nat → Bool) (F : QF) (wd : Int) (hw : -1 ≤ wd ∧ wd ≤ 40) (hI : PI P) (hF : PFe P) : CV G yX0_copyAssignment cX0_copyAssignment 3 (jrm 2 42 0 0) [.ref (ad 5), .int (iI wd)] (wC G ad P l A T F) (fun u : QF => FV P u ∧ sumF u.used 4 = sumF P.asg 4 ∧ ∀ r : Nat, (r : Int) < P.req → u.acc r = wide P wd r) (fun u : QF => wC G ad P l A T u) 0 0 := by
  refine cv_intro (own := RX0) [some (.ref (ad 5)), some (.int (iI wd)), none] (by decide) rfl rfl rfl (Nat.le_of_ble_eq_true rfl) (fun X C hret => ?_)
  have h1 := hI.res
  have h2 := hI.req
  refine jw_iconst (pc := 0) C dX0_copyAssignment_0 ?_
  refine jw_istore_2 (pc := 1) C dX0_copyAssignment_1 rfl ?_
  have K2 : ∀ (n_2 : Nat) (i : Nat) (F1 : QF), ((i : Int) ≤ P.res) → (∀ a, a < i → F1.load a = P.load a) → 12 - i < n_2 → JW G X 0 0 (wC G ad P l A T F1) 2 [some (.ref (ad 5)), some (.int (iI wd)), some (.int (iI (i : Int)))] [] := by
    intro n_2
    induction n_2 with
    | zero => intro i F1 hi hf1 hm_2; exact absurd hm_2 (Nat.not_lt_zero _)
    | succ n_2 ih_2 =>
      intro i F1 hi hf1 hm_2
      refine jw_iload_2 (pc := 2) C dX0_copyAssignment_2 ?_
      refine jw_aload_0 (pc := 3) C dX0_copyAssignment_3 ?_
      refine fg_X0_37 (pc := 4) C 5 rfl rfl dX0_copyAssignment_4 ?_
      refine fg_X0_59 (pc := 7) C 1 rfl rfl dX0_copyAssignment_7 ?_
      refine jw_icmp_ge (pc := 10) (tgt := 34) C dX0_copyAssignment_10 (by decide) ⟨by omega, by omega⟩ ⟨by omega, by omega⟩ (fun c_10 => ?_) (fun c_10 => ?_)
      · refine jw_iconst (pc := 34) C dX0_copyAssignment_34 ?_
        refine jw_istore_2 (pc := 35) C dX0_copyAssignment_35 rfl ?_
        have K36 : ∀ (n_36 : Nat) (i2 : Nat) (F2 : QF), (i2 ≤ 4) → (∀ a : Nat, (a : Int) < P.res → F2.load a = P.load a) → (∀ a, a < i2 → F2.used a = P.asg a) → 4 - i2 < n_36 → JW G X 0 0 (wC G ad P l A T F2) 36 [some (.ref (ad 5)), some (.int (iI wd)), some (.int (iI (i2 : Int)))] [] := by
          intro n_36
          induction n_36 with
          | zero => intro i2 F2 hi2 hf2 hg2 hm_36; exact absurd hm_36 (Nat.not_lt_zero _)
          | succ n_36 ih_36 =>
            intro i2 F2 hi2 hf2 hg2 hm_36
            refine jw_iload_2 (pc := 36) C dX0_copyAssignment_36 ?_
            refine jw_iconst (pc := 37) C dX0_copyAssignment_37 ?_
            refine jw_icmp_ge (pc := 38) (tgt := 62) C dX0_copyAssignment_38 (by decide) ⟨by omega, by omega⟩ ⟨by omega, by omega⟩ (fun c_38 => ?_) (fun c_38 => ?_)
            · refine jw_iconst (pc := 62) C dX0_copyAssignment_62 ?_
              refine jw_istore_2 (pc := 63) C dX0_copyAssignment_63 rfl ?_
              have K64 : ∀ (n_64 : Nat) (i3 : Nat) (F3 : QF), ((i3 : Int) ≤ P.req) → (∀ a : Nat, (a : Int) < P.res → F3.load a = P.load a) → (∀ a, a < 4 → F3.used a = P.asg a) → (∀ a, a < i3 → F3.node a = stt P a) → (∀ a, a < i3 → F3.acc a = wide P wd a) → 40 - i3 < n_64 → JW G X 0 0 (wC G ad P l A T F3) 64 [some (.ref (ad 5)), some (.int (iI wd)), some (.int (iI (i3 : Int)))] [] := by
                intro n_64
                induction n_64 with
                | zero => intro i3 F3 hi3 hf3 hg3 hn3 ha3 hm_64; exact absurd hm_64 (Nat.not_lt_zero _)
                | succ n_64 ih_64 =>
                  intro i3 F3 hi3 hf3 hg3 hn3 ha3 hm_64
                  refine jw_iload_2 (pc := 64) C dX0_copyAssignment_64 ?_
                  refine jw_aload_0 (pc := 65) C dX0_copyAssignment_65 ?_
                  refine fg_X0_37 (pc := 66) C 5 rfl rfl dX0_copyAssignment_66 ?_
                  refine fg_X0_51 (pc := 69) C 1 rfl rfl dX0_copyAssignment_69 ?_
                  refine jw_icmp_ge (pc := 72) (tgt := 122) C dX0_copyAssignment_72 (by decide) ⟨by omega, by omega⟩ ⟨by omega, by omega⟩ (fun c_72 => ?_) (fun c_72 => ?_)
                  · obtain ⟨v1, v2⟩ := copy_ok (wd := wd) hI hF hf3 hg3 (fun r hr => hn3 r (by omega)) (fun r hr => ha3 r (by omega))
                    exact hret _ _ F3 dX0_copyAssignment_122 ⟨v1, v2, fun r hr => ha3 r (by omega)⟩
                  · refine jw_aload_0 (pc := 75) C dX0_copyAssignment_75 ?_
                    refine fg_X0_9 (pc := 76) C 5 rfl rfl dX0_copyAssignment_76 ?_
                    refine jw_iload_2 (pc := 79) C dX0_copyAssignment_79 ?_
                    refine jw_aload_0 (pc := 80) C dX0_copyAssignment_80 ?_
                    refine jw_iload_2 (pc := 81) C dX0_copyAssignment_81 ?_
                    refine jw_V_I (pc := 82) C (c_X0_startOf G ad P l A T F3 i3 (by omega) hI) wd_X0_startOf kml_X0_66 5 rfl rfl rfl rfl (Nat.le_of_ble_eq_true rfl) ⟨by decide, by decide⟩ ⟨Nat.zero_le _, Nat.zero_le _⟩ dX0_copyAssignment_82 rfl (fun z u h => ?_)
                    subst h
                    refine jw_iast (pc := 85) C 22 rfl _ rfl (by omega) (by decide) dX0_copyAssignment_85 ?_
                    refine jw_aload_0 (pc := 86) C dX0_copyAssignment_86 ?_
                    refine fg_X0_15 (pc := 87) C 5 rfl rfl dX0_copyAssignment_87 ?_
                    refine jw_iload_2 (pc := 90) C dX0_copyAssignment_90 ?_
                    refine jw_iload_2 (pc := 91) C dX0_copyAssignment_91 ?_
                    refine jw_iload_1 (pc := 92) C dX0_copyAssignment_92 ?_
                    refine jw_icmp_ne (pc := 93) (tgt := 106) C dX0_copyAssignment_93 (by decide) ⟨by omega, by omega⟩ ⟨by omega, by omega⟩ (fun c_93 => ?_) (fun c_93 => ?_)
                    · obtain ⟨mw, emw, hmw⟩ : ∃ mw, mw = P.acc i3 ∧ mw = wide P wd i3 := ⟨_, rfl, by rw [wide, if_neg c_93]⟩
                      refine jw_aload_0 (pc := 106) C dX0_copyAssignment_106 ?_
                      refine fg_X0_37 (pc := 107) C 5 rfl rfl dX0_copyAssignment_107 ?_
                      refine fg_X0_73 (pc := 110) C 1 rfl rfl dX0_copyAssignment_110 ?_
                      refine jw_iload_2 (pc := 113) C dX0_copyAssignment_113 ?_
                      refine jw_iald_r (pc := 114) C 12 rfl _ rfl (by omega) (by decide) dX0_copyAssignment_114 ?_
                      try rw [← emw]
                      refine jw_iast_r (pc := 115) C 23 rfl _ rfl (by omega) (by decide) dX0_copyAssignment_115 ?_
                      refine jw_iinc_2 (pc := 116) C dX0_copyAssignment_116 rfl ?_
                      refine jw_goto (pc := 119) (tgt := 64) C dX0_copyAssignment_119 (by decide) ?_
                      exact ih_64 (i3 + 1) (updf F3.node i3 (stt P i3), updf F3.acc i3 mw, F3.load, F3.used, F3.2.2.2.2) (by omega) hf3 hg3 (updf_copy hn3) (by rw [hmw]; exact updf_copy ha3) (by omega)
                    · refine jw_aload_0 (pc := 96) C dX0_copyAssignment_96 ?_
                      refine fg_X0_37 (pc := 97) C 5 rfl rfl dX0_copyAssignment_97 ?_
                      refine jw_V_I (pc := 100) C (c_X4_maskOfAll G ad P l A T (updf F3.node i3 (stt P i3), F3.acc, F3.load, F3.used, F3.2.2.2.2)) wd_X4_maskOfAll kml_X0_70 1 rfl rfl rfl rfl (Nat.le_of_ble_eq_true rfl) ⟨by decide, by decide⟩ ⟨Nat.zero_le _, Nat.zero_le _⟩ dX0_copyAssignment_100 rfl (fun z u h => ?_)
                      obtain ⟨mw, emw, hmw⟩ : ∃ mw, mw = iI 1 <<< (iI P.res &&& 31) - iI 1 ∧ mw = wide P wd i3 := ⟨_, rfl, by rw [wide, if_pos c_93]; rfl⟩
                      rw [← emw] at h
                      rw [h]
                      refine jw_goto (pc := 103) (tgt := 115) C dX0_copyAssignment_103 (by decide) ?_
                      try rw [← emw]
                      refine jw_iast_r (pc := 115) C 23 rfl _ rfl (by omega) (by decide) dX0_copyAssignment_115 ?_
                      refine jw_iinc_2 (pc := 116) C dX0_copyAssignment_116 rfl ?_
                      refine jw_goto (pc := 119) (tgt := 64) C dX0_copyAssignment_119 (by decide) ?_
                      exact ih_64 (i3 + 1) (updf F3.node i3 (stt P i3), updf F3.acc i3 mw, F3.load, F3.used, F3.2.2.2.2) (by omega) hf3 hg3 (updf_copy hn3) (by rw [hmw]; exact updf_copy ha3) (by omega)
              exact K64 41 0 F2 (by omega) hf2 (fun a ha => hg2 a (by omega)) (fun j hj => absurd hj (Nat.not_lt_zero _)) (fun j hj => absurd hj (Nat.not_lt_zero _)) (by omega)
            · refine jw_aload_0 (pc := 41) C dX0_copyAssignment_41 ?_
              refine fg_X0_21 (pc := 42) C 5 rfl rfl dX0_copyAssignment_42 ?_
              refine jw_iload_2 (pc := 45) C dX0_copyAssignment_45 ?_
              refine jw_aload_0 (pc := 46) C dX0_copyAssignment_46 ?_
              refine fg_X0_37 (pc := 47) C 5 rfl rfl dX0_copyAssignment_47 ?_
              refine fg_X0_63 (pc := 50) C 1 rfl rfl dX0_copyAssignment_50 ?_
              refine jw_iload_2 (pc := 53) C dX0_copyAssignment_53 ?_
              refine jw_iald (pc := 54) C 10 rfl _ rfl (by omega) (by decide) dX0_copyAssignment_54 ?_
              refine jw_iast (pc := 55) C 25 rfl _ rfl (by omega) (by decide) dX0_copyAssignment_55 ?_
              refine jw_iinc_2 (pc := 56) C dX0_copyAssignment_56 rfl ?_
              refine jw_goto (pc := 59) (tgt := 36) C dX0_copyAssignment_59 (by decide) ?_
              exact ih_36 (i2 + 1) (F2.node, F2.acc, F2.load, updf F2.used i2 (P.asg i2), F2.2.2.2.2) (by omega) hf2 (updf_copy hg2) (by omega)
        exact K36 5 0 F1 (by omega) (fun a ha => hf1 a (by omega)) (fun j hj => absurd hj (Nat.not_lt_zero _)) (by omega)
      · refine jw_aload_0 (pc := 13) C dX0_copyAssignment_13 ?_
        refine fg_X0_18 (pc := 14) C 5 rfl rfl dX0_copyAssignment_14 ?_
        refine jw_iload_2 (pc := 17) C dX0_copyAssignment_17 ?_
        refine jw_aload_0 (pc := 18) C dX0_copyAssignment_18 ?_
        refine fg_X0_37 (pc := 19) C 5 rfl rfl dX0_copyAssignment_19 ?_
        refine fg_X0_62 (pc := 22) C 1 rfl rfl dX0_copyAssignment_22 ?_
        refine jw_iload_2 (pc := 25) C dX0_copyAssignment_25 ?_
        refine jw_iald (pc := 26) C 7 rfl _ rfl (by omega) (by decide) dX0_copyAssignment_26 ?_
        refine jw_iast (pc := 27) C 24 rfl _ rfl (by omega) (by decide) dX0_copyAssignment_27 ?_
        refine jw_iinc_2 (pc := 28) C dX0_copyAssignment_28 rfl ?_
        refine jw_goto (pc := 31) (tgt := 2) C dX0_copyAssignment_31 (by decide) ?_
        exact ih_2 (i + 1) (F1.node, F1.acc, updf F1.load i (P.load i), F1.used, F1.2.2.2.2) (by omega) (updf_copy hf1) (by omega)
  exact K2 13 0 F (by omega) (fun j hj => absurd hj (Nat.not_lt_zero _)) (by omega)
set_option maxRecDepth 100000 in
set_option maxHeartbeats 4000000 in
theorem c_X0_reach (G : jG) (ad : Nat → Nat) (P : QP) (l : QL) (A : QA) (T : Nat → Bool) (F : QF) (to : Nat) (fr rq : Int) (ht : to < 16) (hq : 0 ≤ F.qd ∧ F.qd ≤ 16) : CV G yX0_reach cX0_reach 4 (jrm 0 0 0 0) [.ref (ad 5), .int (iI (to : Int)), .int (iI fr), .int (iI rq)] (wC G ad P l A T F) (fun u : QF => u = fReach F to fr rq) (fun u : QF => wC G ad P l A T u) 0 0 := by
  refine cv_intro (own := RX0) [some (.ref (ad 5)), some (.int (iI (to : Int))), some (.int (iI fr)), some (.int (iI rq))] (by decide) rfl rfl rfl (Nat.le_of_ble_eq_true rfl) (fun X C hret => ?_)
  refine jw_aload_0 (pc := 0) C dX0_reach_0 ?_
  refine fg_X0_27 (pc := 1) C 5 rfl rfl dX0_reach_1 ?_
  refine jw_iload_1 (pc := 4) C dX0_reach_4 ?_
  refine jw_zald (pc := 5) C 27 rfl _ rfl (by omega) (by decide) dX0_reach_5 ?_
  refine jw_if_ne_b (pc := 6) (tgt := 59) C dX0_reach_6 (by decide) (fun c_6 => ?_) (fun c_6 => ?_)
  · have e : F = fReach F to fr rq := by rw [fReach, if_neg (fun q => by rw [c_6] at q; cases q.1)]
    exact hret _ _ _ dX0_reach_59 e
  · refine jw_aload_0 (pc := 9) C dX0_reach_9 ?_
    refine fg_X0_90 (pc := 10) C 5 rfl rfl dX0_reach_10 ?_
    refine jw_bipush (pc := 13) C dX0_reach_13 (by decide) ?_
    refine jw_icmp_ge (pc := 15) (tgt := 59) C dX0_reach_15 (by decide) ⟨by omega, by omega⟩ ⟨by omega, by omega⟩ (fun c_15 => ?_) (fun c_15 => ?_)
    · have e : F = fReach F to fr rq := by rw [fReach, if_neg (fun q => by omega)]
      exact hret _ _ _ dX0_reach_59 e
    · have e : (F.node, F.acc, F.load, F.used, updf F.que F.qd.toNat (to : Int), F.qd + 1, updf F.seen to true, updf F.bef to fr, updf F.car to rq) = fReach F to fr rq := by rw [fReach, if_pos ⟨c_6, by omega⟩]
      refine jw_aload_0 (pc := 18) C dX0_reach_18 ?_
      refine fg_X0_27 (pc := 19) C 5 rfl rfl dX0_reach_19 ?_
      refine jw_iload_1 (pc := 22) C dX0_reach_22 ?_
      refine jw_iconst (pc := 23) C dX0_reach_23 ?_
      refine jw_zast (pc := 24) (x := true) C 27 rfl _ rfl (by omega) (by decide) dX0_reach_24 ?_
      refine jw_aload_0 (pc := 25) C dX0_reach_25 ?_
      refine fg_X0_31 (pc := 26) C 5 rfl rfl dX0_reach_26 ?_
      refine jw_iload_1 (pc := 29) C dX0_reach_29 ?_
      refine jw_iload_2 (pc := 30) C dX0_reach_30 ?_
      refine jw_iast (pc := 31) C 28 rfl _ rfl (by omega) (by decide) dX0_reach_31 ?_
      refine jw_aload_0 (pc := 32) C dX0_reach_32 ?_
      refine fg_X0_34 (pc := 33) C 5 rfl rfl dX0_reach_33 ?_
      refine jw_iload_1 (pc := 36) C dX0_reach_36 ?_
      refine jw_iload_3 (pc := 37) C dX0_reach_37 ?_
      refine jw_iast (pc := 38) C 29 rfl _ rfl (by omega) (by decide) dX0_reach_38 ?_
      refine jw_aload_0 (pc := 39) C dX0_reach_39 ?_
      refine fg_X0_24 (pc := 40) C 5 rfl rfl dX0_reach_40 ?_
      refine jw_aload_0 (pc := 43) C dX0_reach_43 ?_
      refine fg_X0_90 (pc := 44) C 5 rfl rfl dX0_reach_44 ?_
      refine jw_iload_1 (pc := 47) C dX0_reach_47 ?_
      refine jw_iast (pc := 48) C 26 rfl F.qd.toNat (by show F.qd = _; omega) (by omega) (by decide) dX0_reach_48 ?_
      refine jw_aload_0 (pc := 49) C dX0_reach_49 ?_
      refine jw_dup (pc := 50) C dX0_reach_50 rfl ?_
      refine fg_X0_90 (pc := 51) C 5 rfl rfl dX0_reach_51 ?_
      refine jw_iconst (pc := 54) C dX0_reach_54 ?_
      refine jw_iadd (pc := 55) C dX0_reach_55 ?_
      refine fp_X0_90 (pc := 56) C 5 rfl (Nat.le_of_ble_eq_true rfl) dX0_reach_56 ?_
      exact hret _ _ _ dX0_reach_59 e
set_option maxRecDepth 100000 in
set_option maxHeartbeats 4000000 in
theorem c_X0_startAtGroups (G : jG) (ad : Nat → Nat) (P : QP) (l : QL) (A : QA) (T : Nat → Bool) (F : QF) (hI : PI P) (hV : FV P F) : CV G yX0_startAtGroups cX0_startAtGroups 2 (jrm 1 23 0 0) [.ref (ad 5)] (wC G ad P l A T F) (fun u : QF => SameF F u ∧ BI P u ∧ S3 P u ∧ ∀ g : Nat, g < 4 → u.used g < P.quo g → u.seen g = true) (fun u : QF => wC G ad P l A T u) 0 0 := by
  refine cv_intro (own := RX0) [some (.ref (ad 5)), none] (by decide) rfl rfl rfl (Nat.le_of_ble_eq_true rfl) (fun X C hret => ?_)
  have h1 := hI.res
  refine jw_aload_0 (pc := 0) C dX0_startAtGroups_0 ?_
  refine jw_iconst (pc := 1) C dX0_startAtGroups_1 ?_
  refine fp_X0_90 (pc := 2) C 5 rfl (Nat.le_of_ble_eq_true rfl) dX0_startAtGroups_2 ?_
  refine jw_iconst (pc := 5) C dX0_startAtGroups_5 ?_
  refine jw_istore_1 (pc := 6) C dX0_startAtGroups_6 rfl ?_
  have K7 : ∀ (n_7 : Nat) (i : Nat) (F1 : QF), (i ≤ 16) → (SameF F F1) → (F1.qd = 0) → (∀ n, n < i → F1.seen n = false) → 16 - i < n_7 → JW G X 0 0 (wC G ad P l A T F1) 7 [some (.ref (ad 5)), some (.int (iI (i : Int)))] [] := by
    intro n_7
    induction n_7 with
    | zero => intro i F1 hi hs1 hq1 hf1 hm_7; exact absurd hm_7 (Nat.not_lt_zero _)
    | succ n_7 ih_7 =>
      intro i F1 hi hs1 hq1 hf1 hm_7
      refine jw_iload_1 (pc := 7) C dX0_startAtGroups_7 ?_
      refine jw_bipush (pc := 8) C dX0_startAtGroups_8 (by decide) ?_
      refine jw_icmp_ge (pc := 10) (tgt := 26) C dX0_startAtGroups_10 (by decide) ⟨by omega, by omega⟩ ⟨by omega, by omega⟩ (fun c_10 => ?_) (fun c_10 => ?_)
      · refine jw_iconst (pc := 26) C dX0_startAtGroups_26 ?_
        refine jw_istore_1 (pc := 27) C dX0_startAtGroups_27 rfl ?_
        have K28 : ∀ (n_28 : Nat) (g : Nat) (F2 : QF), (g ≤ 4) → (SameF F F2) → (BI P F2) → (∀ n, 4 ≤ n → n < 16 → F2.seen n = false) → (∀ n, n < g → F2.used n < P.quo n → F2.seen n = true) → 4 - g < n_28 → JW G X 0 0 (wC G ad P l A T F2) 28 [some (.ref (ad 5)), some (.int (iI (g : Int)))] [] := by
          intro n_28
          induction n_28 with
          | zero => intro g F2 hg hs2 hB2 hn2 hf2 hm_28; exact absurd hm_28 (Nat.not_lt_zero _)
          | succ n_28 ih_28 =>
            intro g F2 hg hs2 hB2 hn2 hf2 hm_28
            refine jw_iload_1 (pc := 28) C dX0_startAtGroups_28 ?_
            refine jw_iconst (pc := 29) C dX0_startAtGroups_29 ?_
            refine jw_icmp_ge (pc := 30) (tgt := 64) C dX0_startAtGroups_30 (by decide) ⟨by omega, by omega⟩ ⟨by omega, by omega⟩ (fun c_30 => ?_) (fun c_30 => ?_)
            · exact hret _ _ F2 dX0_startAtGroups_64 ⟨hs2, hB2, fun a ha hs => by (rw [hn2 (4 + a) (by omega) (by omega)] at hs; cases hs), fun n hn hu => hf2 n (by omega) hu⟩
            · have e2 := hs2.us g
              have u1 := hV.usr hI g (by omega)
              have u2 := hI.quo g
              have u3 := hB2.q
              refine jw_aload_0 (pc := 33) C dX0_startAtGroups_33 ?_
              refine fg_X0_21 (pc := 34) C 5 rfl rfl dX0_startAtGroups_34 ?_
              refine jw_iload_1 (pc := 37) C dX0_startAtGroups_37 ?_
              refine jw_iald (pc := 38) C 25 rfl _ rfl (by omega) (by decide) dX0_startAtGroups_38 ?_
              refine jw_aload_0 (pc := 39) C dX0_startAtGroups_39 ?_
              refine fg_X0_37 (pc := 40) C 5 rfl rfl dX0_startAtGroups_40 ?_
              refine fg_X0_99 (pc := 43) C 1 rfl rfl dX0_startAtGroups_43 ?_
              refine jw_iload_1 (pc := 46) C dX0_startAtGroups_46 ?_
              refine jw_iald (pc := 47) C 8 rfl _ rfl (by omega) (by decide) dX0_startAtGroups_47 ?_
              refine jw_icmp_ge (pc := 48) (tgt := 58) C dX0_startAtGroups_48 (by decide) ⟨by omega, by omega⟩ ⟨by omega, by omega⟩ (fun c_48 => ?_) (fun c_48 => ?_)
              · obtain ⟨F3, eF3, hs3, hB3, hn3, hf3⟩ : ∃ F3 : QF, F3 = F2 ∧ SameF F F3 ∧ BI P F3 ∧ (∀ n, 4 ≤ n → n < 16 → F3.seen n = false) ∧ (∀ n, n < g + 1 → F3.used n < P.quo n → F3.seen n = true) := ⟨F2, rfl, hs2, hB2, hn2, fun n hn hu => by
                  by_cases e : n = g
                  · subst e; exact absurd hu (by omega)
                  · exact hf2 n (by omega) hu⟩
                rw [← eF3]
                refine jw_iinc_1 (pc := 58) C dX0_startAtGroups_58 rfl ?_
                refine jw_goto (pc := 61) (tgt := 28) C dX0_startAtGroups_61 (by decide) ?_
                exact ih_28 (g + 1) F3 (by omega) hs3 hB3 hn3 hf3 (by omega)
              · have hro : ReachOK P F2 g (-1) (-1) := ⟨by omega, Or.inl ⟨rfl, by omega, by omega⟩⟩
                obtain ⟨rb1, rb2, rb3, rb4⟩ := BI_reach hI hB2 hro
                have rs := reach_same F2 g (-1) (-1)
                obtain ⟨F3, eF3, hs3, hB3, hn3, hf3⟩ : ∃ F3 : QF, F3 = fReach F2 g (-1) (-1) ∧ SameF F F3 ∧ BI P F3 ∧ (∀ n, 4 ≤ n → n < 16 → F3.seen n = false) ∧ (∀ n, n < g + 1 → F3.used n < P.quo n → F3.seen n = true) := ⟨_, rfl, hs2.tr rs, rb1, fun n h4 hn => by rw [rb4 n (by omega)]; exact hn2 n h4 hn, fun n hn hu => by
                  by_cases e : n = g
                  · subst e; exact rb2
                  · rw [rs.us n] at hu
                    exact rb3.1 n (hf2 n (by omega) hu)⟩
                refine jw_aload_0 (pc := 51) C dX0_startAtGroups_51 ?_
                refine jw_iload_1 (pc := 52) C dX0_startAtGroups_52 ?_
                refine jw_iconst (pc := 53) C dX0_startAtGroups_53 ?_
                refine jw_iconst (pc := 54) C dX0_startAtGroups_54 ?_
                refine jw_V_V (pc := 55) C (c_X0_reach G ad P l A T F2 g (-1) (-1) (by omega) u3) wd_X0_reach kml_X0_102 5 rfl rfl rfl rfl (Nat.le_of_ble_eq_true rfl) ⟨by decide, by decide⟩ ⟨Nat.zero_le _, Nat.zero_le _⟩ dX0_startAtGroups_55 rfl (fun u h => ?_)
                rw [← eF3] at h
                rw [h]
                refine jw_iinc_1 (pc := 58) C dX0_startAtGroups_58 rfl ?_
                refine jw_goto (pc := 61) (tgt := 28) C dX0_startAtGroups_61 (by decide) ?_
                exact ih_28 (g + 1) F3 (by omega) hs3 hB3 hn3 hf3 (by omega)
        exact K28 5 0 F1 (by omega) hs1 (start_BI (fun n hn => hf1 n (by omega)) hq1) (fun n _ hn => hf1 n (by omega)) (fun j hj => absurd hj (Nat.not_lt_zero _)) (by omega)
      · refine jw_aload_0 (pc := 13) C dX0_startAtGroups_13 ?_
        refine fg_X0_27 (pc := 14) C 5 rfl rfl dX0_startAtGroups_14 ?_
        refine jw_iload_1 (pc := 17) C dX0_startAtGroups_17 ?_
        refine jw_iconst (pc := 18) C dX0_startAtGroups_18 ?_
        refine jw_zast (pc := 19) (x := false) C 27 rfl _ rfl (by omega) (by decide) dX0_startAtGroups_19 ?_
        refine jw_iinc_1 (pc := 20) C dX0_startAtGroups_20 rfl ?_
        refine jw_goto (pc := 23) (tgt := 7) C dX0_startAtGroups_23 (by decide) ?_
        exact ih_7 (i + 1) (F1.node, F1.acc, F1.load, F1.used, F1.que, F1.qd, updf F1.seen i false, F1.bef, F1.car) (by omega) hs1 hq1 (updf_fill hf1) (by omega)
  exact K7 17 0 (F.node, F.acc, F.load, F.used, F.que, 0, F.seen, F.bef, F.car) (by omega) ⟨rfl, rfl, rfl, rfl⟩ rfl (fun j hj => absurd hj (Nat.not_lt_zero _)) (by omega)
set_option maxRecDepth 100000 in
set_option maxHeartbeats 4000000 in
theorem c_X0_leaveWith (G : jG) (ad : Nat → Nat) (P : QP) (l : QL) (A : QA) (T : Nat → Bool) (F : QF) (fr : Int) (r : Nat) (hI : PI P) (hV : FV P F) (hB : BI P F) (hS : S3 P F) (hr : (r : Int) < P.req) (hn : F.node r = fr) (hf : 0 ≤ fr ∧ fr ≤ 15) (hs : F.seen fr.toNat = true) : CI G yX0_leaveWith cX0_leaveWith 4 (jrm 1 23 0 0) [.ref (ad 5), .int (iI fr), .int (iI (r : Int))] (wC G ad P l A T F) (fun (z : Int32) (u : QF) => LvPost P F u z (FCl P u r)) (fun u : QF => wC G ad P l A T u) 0 0 := by
  refine ci_intro (own := RX0) [some (.ref (ad 5)), some (.int (iI fr)), some (.int (iI (r : Int))), none] (by decide) rfl rfl rfl (Nat.le_of_ble_eq_true rfl) (fun X C hret => ?_)
  have h1 := hI.res
  have h2 := hI.req
  have h3 := hI.grp r
  refine jw_iconst (pc := 0) C dX0_leaveWith_0 ?_
  refine jw_istore_3 (pc := 1) C dX0_leaveWith_1 rfl ?_
  have K2 : ∀ (n_2 : Nat) (i : Nat) (F1 : QF), ((i : Int) ≤ P.res) → (SameF F F1) → (MonF F F1) → (BI P F1) → (S3 P F1) → (∀ a, a < i → bt (F.acc r) a = true → F1.seen (4 + a) = true) → 12 - i < n_2 → JW G X 0 0 (wC G ad P l A T F1) 2 [some (.ref (ad 5)), some (.int (iI fr)), some (.int (iI (r : Int))), some (.int (iI (i : Int)))] [] := by
    intro n_2
    induction n_2 with
    | zero => intro i F1 hi s1 m1 hB1 hS1 hc1 hm_2; exact absurd hm_2 (Nat.not_lt_zero _)
    | succ n_2 ih_2 =>
      intro i F1 hi s1 m1 hB1 hS1 hc1 hm_2
      refine jw_iload_3 (pc := 2) C dX0_leaveWith_2 ?_
      refine jw_aload_0 (pc := 3) C dX0_leaveWith_3 ?_
      refine fg_X0_37 (pc := 4) C 5 rfl rfl dX0_leaveWith_4 ?_
      refine fg_X0_59 (pc := 7) C 1 rfl rfl dX0_leaveWith_7 ?_
      refine jw_icmp_ge (pc := 10) (tgt := 63) C dX0_leaveWith_10 (by decide) ⟨by omega, by omega⟩ ⟨by omega, by omega⟩ (fun c_10 => ?_) (fun c_10 => ?_)
      · have hfin : ∀ a : Nat, (a : Int) < P.res → bt (F1.acc r) a = true → F1.seen (4 + a) = true := fun a ha hb => hc1 a (by omega) (by rw [← s1.acci r]; exact hb)
        have hn1 : F1.node r = fr := by rw [s1.node r]; exact hn
        refine jw_iload_1 (pc := 63) C dX0_leaveWith_63 ?_
        refine jw_iconst (pc := 64) C dX0_leaveWith_64 ?_
        refine jw_icmp_lt (pc := 65) (tgt := 83) C dX0_leaveWith_65 (by decide) ⟨by omega, by omega⟩ ⟨by omega, by omega⟩ (fun c_65 => ?_) (fun c_65 => ?_)
        · have hpost : LvPost P F F1 (iI (-1)) (FCl P F1 r) := ⟨s1, m1, hB1, -1, rfl, by omega, fun _ => ⟨hS1, ⟨hfin, fun q => by rw [hn1] at q; omega⟩⟩, fun q => absurd rfl q⟩
          refine jw_iconst (pc := 83) C dX0_leaveWith_83 ?_
          exact hret _ _ _ _ dX0_leaveWith_84 hpost
        · refine jw_aload_0 (pc := 68) C dX0_leaveWith_68 ?_
          refine jw_aload_0 (pc := 69) C dX0_leaveWith_69 ?_
          refine fg_X0_37 (pc := 70) C 5 rfl rfl dX0_leaveWith_70 ?_
          refine fg_X0_84 (pc := 73) C 1 rfl rfl dX0_leaveWith_73 ?_
          refine jw_iload_2 (pc := 76) C dX0_leaveWith_76 ?_
          refine jw_iald (pc := 77) C 11 rfl _ rfl (by omega) (by decide) dX0_leaveWith_77 ?_
          refine jw_iload_1 (pc := 78) C dX0_leaveWith_78 ?_
          rw [show iI (P.grp r) = iI ((P.grp r).toNat : Int) from by rw [Int.toNat_of_nonneg h3.1]]
          have hro : ReachOK P F1 (P.grp r).toNat fr (r : Int) := ⟨by omega, Or.inr ⟨r, rfl, hr, hn1, hf.1, by omega, m1.1 _ hs, Or.inr ⟨by omega, by omega, by omega⟩⟩⟩
          obtain ⟨rb1, rb2, rb3, rb4⟩ := BI_reach hI hB1 hro
          have rs := reach_same F1 (P.grp r).toNat fr (r : Int)
          obtain ⟨F2, eF2⟩ : ∃ F2, F2 = fReach F1 (P.grp r).toNat fr (r : Int) := ⟨_, rfl⟩
          rw [← eF2] at rb1 rb2 rb3 rb4 rs
          have hpost : LvPost P F F2 (iI (-1)) (FCl P F2 r) := ⟨s1.tr rs, m1.tr rb3, rb1, -1, rfl, by omega, fun _ => ⟨fun a ha hsn => by
            rw [rb4 (4 + a) (by omega)] at hsn
            rw [rs.ld a]
            exact hS1 a ha hsn, ⟨fun a ha hb => rb3.1 _ (hfin a ha (by rw [← rs.acci r]; exact hb)), fun _ => rb2⟩⟩, fun q => absurd rfl q⟩
          refine jw_iload_2 (pc := 79) C dX0_leaveWith_79 ?_
          refine jw_V_V (pc := 80) C (c_X0_reach G ad P l A T F1 (P.grp r).toNat fr (r : Int) (by omega) hB1.q) wd_X0_reach kml_X0_102 5 rfl rfl rfl rfl (Nat.le_of_ble_eq_true rfl) ⟨by decide, by decide⟩ ⟨Nat.zero_le _, Nat.zero_le _⟩ dX0_leaveWith_80 rfl (fun u h => ?_)
          rw [← eF2] at h
          rw [h]
          refine jw_iconst (pc := 83) C dX0_leaveWith_83 ?_
          exact hret _ _ _ _ dX0_leaveWith_84 hpost
      · refine jw_aload_0 (pc := 13) C dX0_leaveWith_13 ?_
        refine fg_X0_15 (pc := 14) C 5 rfl rfl dX0_leaveWith_14 ?_
        refine jw_iload_2 (pc := 17) C dX0_leaveWith_17 ?_
        refine jw_iald_r (pc := 18) C 23 rfl _ rfl (by omega) (by decide) dX0_leaveWith_18 ?_
        refine jw_iload_3 (pc := 19) C dX0_leaveWith_19 ?_
        refine jw_SN0_Z (pc := 20) C (c_X5_hasBit G (F1.acc r) i) ws_X5_hasBit kmn_X0_110 rfl rfl (Nat.le_of_ble_eq_true rfl) ⟨by decide, by decide⟩ ⟨Nat.zero_le _, Nat.zero_le _⟩ dX0_leaveWith_20 rfl (fun z u h => ?_)
        rw [bitB_bt _ (by omega)] at h
        subst h
        refine jw_if_eq_b (pc := 23) (tgt := 57) C dX0_leaveWith_23 (by decide) (fun c_23 => ?_) (fun c_23 => ?_)
        · obtain ⟨F3, eF3, s3, m3, hB3, hS3, hc3⟩ : ∃ F3 : QF, F3 = F1 ∧ SameF F F3 ∧ MonF F F3 ∧ BI P F3 ∧ S3 P F3 ∧ (∀ a, a < i + 1 → bt (F.acc r) a = true → F3.seen (4 + a) = true) := ⟨F1, rfl, s1, m1, hB1, hS1, fun a ha hb => by
            by_cases e : a = i
            · subst e; rw [← s1.acci r, c_23] at hb; cases hb
            · exact hc1 a (by omega) hb⟩
          try rw [← eF3]
          refine jw_iinc_3 (pc := 57) C dX0_leaveWith_57 rfl ?_
          refine jw_goto (pc := 60) (tgt := 2) C dX0_leaveWith_60 (by decide) ?_
          exact ih_2 (i + 1) F3 (by omega) s3 m3 hB3 hS3 hc3 (by omega)
        · have hbt : bt (F.acc r) i = true := by rw [← s1.acci r]; exact c_23
          have hro : ReachOK P F1 (4 + i) fr (r : Int) := ⟨by omega, Or.inr ⟨r, rfl, hr, by rw [s1.node r]; exact hn, hf.1, by omega, m1.1 _ hs, Or.inl ⟨by omega, by rw [show 4 + i - 4 = i by omega]; exact c_23⟩⟩⟩
          obtain ⟨rb1, rb2, rb3, rb4⟩ := BI_reach hI hB1 hro
          have rs := reach_same F1 (4 + i) fr (r : Int)
          obtain ⟨F2, eF2⟩ : ∃ F2, F2 = fReach F1 (4 + i) fr (r : Int) := ⟨_, rfl⟩
          rw [← eF2] at rb1 rb2 rb3 rb4 rs
          have s2 := s1.tr rs
          have m2 := m1.tr rb3
          have el := s2.ld i
          have lr := hV.ldr hI i (by omega)
          have cr := hI.cap i
          refine jw_aload_0 (pc := 26) C dX0_leaveWith_26 ?_
          refine jw_iconst (pc := 27) C dX0_leaveWith_27 ?_
          refine jw_iload_3 (pc := 28) C dX0_leaveWith_28 ?_
          refine jw_iadd (pc := 29) C dX0_leaveWith_29 ?_
          rw [show iI (4 + (i : Int)) = iI ((4 + i : Nat) : Int) from rfl]
          refine jw_iload_1 (pc := 30) C dX0_leaveWith_30 ?_
          refine jw_iload_2 (pc := 31) C dX0_leaveWith_31 ?_
          refine jw_V_V (pc := 32) C (c_X0_reach G ad P l A T F1 (4 + i) fr (r : Int) (by omega) hB1.q) wd_X0_reach kml_X0_102 5 rfl rfl rfl rfl (Nat.le_of_ble_eq_true rfl) ⟨by decide, by decide⟩ ⟨Nat.zero_le _, Nat.zero_le _⟩ dX0_leaveWith_32 rfl (fun u h => ?_)
          rw [← eF2] at h
          rw [h]
          refine jw_aload_0 (pc := 35) C dX0_leaveWith_35 ?_
          refine fg_X0_18 (pc := 36) C 5 rfl rfl dX0_leaveWith_36 ?_
          refine jw_iload_3 (pc := 39) C dX0_leaveWith_39 ?_
          refine jw_iald (pc := 40) C 24 rfl _ rfl (by omega) (by decide) dX0_leaveWith_40 ?_
          refine jw_aload_0 (pc := 41) C dX0_leaveWith_41 ?_
          refine fg_X0_37 (pc := 42) C 5 rfl rfl dX0_leaveWith_42 ?_
          refine fg_X0_114 (pc := 45) C 1 rfl rfl dX0_leaveWith_45 ?_
          refine jw_iload_3 (pc := 48) C dX0_leaveWith_48 ?_
          refine jw_iald (pc := 49) C 6 rfl _ rfl (by omega) (by decide) dX0_leaveWith_49 ?_
          refine jw_icmp_ge (pc := 50) (tgt := 57) C dX0_leaveWith_50 (by decide) ⟨by omega, by omega⟩ ⟨by omega, by omega⟩ (fun c_50 => ?_) (fun c_50 => ?_)
          · obtain ⟨F3, eF3, s3, m3, hB3, hS3, hc3⟩ : ∃ F3 : QF, F3 = F2 ∧ SameF F F3 ∧ MonF F F3 ∧ BI P F3 ∧ S3 P F3 ∧ (∀ a, a < i + 1 → bt (F.acc r) a = true → F3.seen (4 + a) = true) := ⟨F2, rfl, s2, m2, rb1, fun a ha hsn => by
              by_cases e : a = i
              · subst e; omega
              · rw [rb4 (4 + a) (by omega)] at hsn
                rw [rs.ld a]
                exact hS1 a ha hsn, fun a ha hb => by
              by_cases e : a = i
              · subst e; exact rb2
              · exact rb3.1 _ (hc1 a (by omega) hb)⟩
            try rw [← eF3]
            refine jw_iinc_3 (pc := 57) C dX0_leaveWith_57 rfl ?_
            refine jw_goto (pc := 60) (tgt := 2) C dX0_leaveWith_60 (by decide) ?_
            exact ih_2 (i + 1) F3 (by omega) s3 m3 hB3 hS3 hc3 (by omega)
          · refine jw_iconst (pc := 53) C dX0_leaveWith_53 ?_
            refine jw_iload_3 (pc := 54) C dX0_leaveWith_54 ?_
            refine jw_iadd (pc := 55) C dX0_leaveWith_55 ?_
            exact hret _ _ _ F2 dX0_leaveWith_56 ⟨s2, m2, rb1, 4 + (i : Int), rfl, by omega, fun q => by omega, fun _ => ⟨i, by omega, rfl, rb2, by omega⟩⟩
  exact K2 13 0 F (by omega) (SameF.rf F) (MonF.rf F) hB hS (fun j hj => absurd hj (Nat.not_lt_zero _)) (by omega)
set_option maxRecDepth 100000 in
set_option maxHeartbeats 4000000 in
theorem c_X0_leave (G : jG) (ad : Nat → Nat) (P : QP) (l : QL) (A : QA) (T : Nat → Bool) (F : QF) (fr : Int) (hI : PI P) (hV : FV P F) (hB : BI P F) (hS : S3 P F) (hf : 0 ≤ fr ∧ fr ≤ 15) (hs : F.seen fr.toNat = true) : CI G yX0_leave cX0_leave 4 (jrm 2 46 0 0) [.ref (ad 5), .int (iI fr)] (wC G ad P l A T F) (fun (z : Int32) (u : QF) => LvPost P F u z (∀ r : Nat, (r : Int) < P.req → F.node r = fr → FCl P u r)) (fun u : QF => wC G ad P l A T u) 0 0 := by
  refine ci_intro (own := RX0) [some (.ref (ad 5)), some (.int (iI fr)), none, none] (by decide) rfl rfl rfl (Nat.le_of_ble_eq_true rfl) (fun X C hret => ?_)
  have h2 := hI.req
  refine jw_iconst (pc := 0) C dX0_leave_0 ?_
  refine jw_istore_2 (pc := 1) C dX0_leave_1 rfl ?_
  have K2 : ∀ (n_2 : Nat) (i : Nat) (F1 : QF), ((i : Int) ≤ P.req) → (SameF F F1) → (MonF F F1) → (BI P F1) → (S3 P F1) → (∀ r, r < i → F.node r = fr → FCl P F1 r) → 40 - i < n_2 → JW G X 0 0 (wC G ad P l A T F1) 2 [some (.ref (ad 5)), some (.int (iI fr)), some (.int (iI (i : Int))), none] [] := by
    intro n_2
    induction n_2 with
    | zero => intro i F1 hi s1 m1 hB1 hS1 hc1 hm_2; exact absurd hm_2 (Nat.not_lt_zero _)
    | succ n_2 ih_2 =>
      intro i F1 hi s1 m1 hB1 hS1 hc1 hm_2
      refine jw_iload_2 (pc := 2) C dX0_leave_2 ?_
      refine jw_aload_0 (pc := 3) C dX0_leave_3 ?_
      refine fg_X0_37 (pc := 4) C 5 rfl rfl dX0_leave_4 ?_
      refine fg_X0_51 (pc := 7) C 1 rfl rfl dX0_leave_7 ?_
      refine jw_icmp_ge (pc := 10) (tgt := 43) C dX0_leave_10 (by decide) ⟨by omega, by omega⟩ ⟨by omega, by omega⟩ (fun c_10 => ?_) (fun c_10 => ?_)
      · refine jw_iconst (pc := 43) C dX0_leave_43 ?_
        exact hret _ _ _ F1 dX0_leave_44 ⟨s1, m1, hB1, -1, rfl, by omega, fun _ => ⟨hS1, fun r hr hn => hc1 r (by omega) hn⟩, fun q => absurd rfl q⟩
      · have e1 := s1.node i
        have e2 := node_rng hI (hV.1 i (by omega))
        refine jw_aload_0 (pc := 13) C dX0_leave_13 ?_
        refine fg_X0_9 (pc := 14) C 5 rfl rfl dX0_leave_14 ?_
        refine jw_iload_2 (pc := 17) C dX0_leave_17 ?_
        refine jw_iald (pc := 18) C 22 rfl _ rfl (by omega) (by decide) dX0_leave_18 ?_
        refine jw_iload_1 (pc := 19) C dX0_leave_19 ?_
        refine jw_icmp_ne (pc := 20) (tgt := 37) C dX0_leave_20 (by decide) ⟨by omega, by omega⟩ ⟨by omega, by omega⟩ (fun c_20 => ?_) (fun c_20 => ?_)
        · obtain ⟨F3, eF3, s3, m3, hB3, hS3, hc3⟩ : ∃ F3 : QF, F3 = F1 ∧ SameF F F3 ∧ MonF F F3 ∧ BI P F3 ∧ S3 P F3 ∧ (∀ r, r < i + 1 → F.node r = fr → FCl P F3 r) := ⟨F1, rfl, s1, m1, hB1, hS1, fun r hr hn => by
            by_cases e : r = i
            · subst e; exact absurd (e1.trans hn) c_20
            · exact hc1 r (by omega) hn⟩
          rw [← eF3]
          refine jw_iinc_2 (pc := 37) C dX0_leave_37 rfl ?_
          refine jw_goto (pc := 40) (tgt := 2) C dX0_leave_40 (by decide) ?_
          exact jw_less (ih_2 (i + 1) F3 (by omega) s3 m3 hB3 hS3 hc3 (by omega)) (by repeat (first | exact trivial | refine And.intro rfl ?_))
        · refine jw_aload_0 (pc := 23) C dX0_leave_23 ?_
          refine jw_iload_1 (pc := 24) C dX0_leave_24 ?_
          refine jw_iload_2 (pc := 25) C dX0_leave_25 ?_
          refine jw_V_I (pc := 26) C (c_X0_leaveWith G ad P l A T F1 fr i hI (hV.same s1) hB1 hS1 (by omega) c_20 hf (m1.1 _ hs)) wd_X0_leaveWith kml_X0_106 5 rfl rfl rfl rfl (Nat.le_of_ble_eq_true rfl) ⟨by decide, by decide⟩ ⟨Nat.zero_le _, Nat.zero_le _⟩ dX0_leave_26 rfl (fun z F2 h => ?_)
          obtain ⟨s2, m2, hB2, zz, ez, hzr, hz1, hz2⟩ := h
          subst ez
          refine jw_istore_3 (pc := 29) C dX0_leave_29 rfl ?_
          refine jw_iload_3 (pc := 30) C dX0_leave_30 ?_
          refine jw_iconst (pc := 31) C dX0_leave_31 ?_
          refine jw_icmp_eq (pc := 32) (tgt := 37) C dX0_leave_32 (by decide) ⟨by omega, by omega⟩ ⟨by omega, by omega⟩ (fun c_32 => ?_) (fun c_32 => ?_)
          · obtain ⟨hz3, hz4⟩ := hz1 c_32
            obtain ⟨F3, eF3, s3, m3, hB3, hS3, hc3⟩ : ∃ F3 : QF, F3 = F2 ∧ SameF F F3 ∧ MonF F F3 ∧ BI P F3 ∧ S3 P F3 ∧ (∀ r, r < i + 1 → F.node r = fr → FCl P F3 r) := ⟨F2, rfl, s1.tr s2, m1.tr m2, hB2, hz3, fun r hr hn => by
              by_cases e : r = i
              · subst e; exact hz4
              · exact (hc1 r (by omega) hn).mon s2 m2⟩
            rw [← eF3]
            refine jw_iinc_2 (pc := 37) C dX0_leave_37 rfl ?_
            refine jw_goto (pc := 40) (tgt := 2) C dX0_leave_40 (by decide) ?_
            exact jw_less (ih_2 (i + 1) F3 (by omega) s3 m3 hB3 hS3 hc3 (by omega)) (by repeat (first | exact trivial | refine And.intro rfl ?_))
          · refine jw_iload_3 (pc := 35) C dX0_leave_35 ?_
            obtain ⟨a, a1, a2, a3, a4⟩ := hz2 c_32
            exact hret _ _ _ F2 dX0_leave_36 ⟨s1.tr s2, m1.tr m2, hB2, zz, rfl, hzr, fun q => absurd q c_32, fun _ => ⟨a, a1, a2, a3, by rw [← s1.ld a]; exact a4⟩⟩
  exact K2 41 0 F (by omega) (SameF.rf F) (MonF.rf F) hB hS (fun j hj => absurd hj (Nat.not_lt_zero _)) (by omega)
set_option maxRecDepth 100000 in
set_option maxHeartbeats 4000000 in
theorem c_X0_shiftAlong (G : jG) (ad : Nat → Nat) (P : QP) (l : QL) (A : QA) (T : Nat → Bool) (F : QF) (a : Nat) (hI : PI P) (hV : FV P F) (hB : BI P F) (ha : (a : Int) < P.res) (hs : F.seen (4 + a) = true) (hro : F.load a < P.cap a) : CV G yX0_shiftAlong cX0_shiftAlong 4 (jrm 0 0 0 0) [.ref (ad 5), .int (iI (4 + (a : Int)))] (wC G ad P l A T F) (fun u : QF => FV P u ∧ u.acc = F.acc ∧ sumF u.used 4 = sumF F.used 4 + 1) (fun u : QF => wC G ad P l A T u) 0 0 := by
  refine cv_intro (own := RX0) [some (.ref (ad 5)), some (.int (iI (4 + (a : Int)))), none, none] (by decide) rfl rfl rfl (Nat.le_of_ble_eq_true rfl) (fun X C hret => ?_)
  have h1 := hI.res
  have h2 := hI.req
  have h3 := hB.q
  obtain ⟨p0, hp0, hp1⟩ := hB.2.2.2.1 (4 + a) (by omega) hs
  refine jw_aload_0 (pc := 0) C dX0_shiftAlong_0 ?_
  refine fg_X0_18 (pc := 1) C 5 rfl rfl dX0_shiftAlong_1 ?_
  refine jw_iload_1 (pc := 4) C dX0_shiftAlong_4 ?_
  refine jw_iconst (pc := 5) C dX0_shiftAlong_5 ?_
  refine jw_isub (pc := 6) C dX0_shiftAlong_6 ?_
  refine jw_dup2 (pc := 7) C dX0_shiftAlong_7 rfl rfl ?_
  refine jw_iald (pc := 8) C 24 rfl a (by omega) (by omega) (by decide) dX0_shiftAlong_8 ?_
  refine jw_iconst (pc := 9) C dX0_shiftAlong_9 ?_
  refine jw_iadd (pc := 10) C dX0_shiftAlong_10 ?_
  refine jw_iast (pc := 11) C 24 rfl a (by omega) (by omega) (by decide) dX0_shiftAlong_11 ?_
  refine jw_iload_1 (pc := 12) C dX0_shiftAlong_12 ?_
  refine jw_istore_2 (pc := 13) C dX0_shiftAlong_13 rfl ?_
  refine jw_iconst (pc := 14) C dX0_shiftAlong_14 ?_
  refine jw_istore_3 (pc := 15) C dX0_shiftAlong_15 rfl ?_
  have K16 : ∀ (n_16 : Nat) (i p : Nat) (nd : Nat → Int), (ShI P F nd a p) → (p + i ≤ 15) → 16 - i < n_16 → JW G X 0 0 (wC G ad P l A T (nd, F.acc, updf F.load a (F.load a + 1), F.used, F.2.2.2.2)) 16 [some (.ref (ad 5)), some (.int (iI (4 + (a : Int)))), some (.int (iI (F.que p))), some (.int (iI (i : Int)))] [] := by
    intro n_16
    induction n_16 with
    | zero => intro i p nd hsh hpi hm_16; exact absurd hm_16 (Nat.not_lt_zero _)
    | succ n_16 ih_16 =>
      intro i p nd hsh hpi hm_16
      have hq := hB.qu hI hsh.1
      have hbr := bef_rng hI hB hsh.1
      have eb : QF.bef (nd, F.acc, updf F.load a (F.load a + 1), F.used, F.2.2.2.2) (F.que p).toNat = F.bef (F.que p).toNat := rfl
      refine jw_iload_3 (pc := 16) C dX0_shiftAlong_16 ?_
      refine jw_bipush (pc := 17) C dX0_shiftAlong_17 (by decide) ?_
      refine jw_icmp_ge (pc := 19) (tgt := 57) C dX0_shiftAlong_19 (by decide) ⟨by omega, by omega⟩ ⟨by omega, by omega⟩ (fun c_19 => ?_) (fun c_19 => ?_)
      · exact absurd c_19 (by omega)
      · refine jw_aload_0 (pc := 22) C dX0_shiftAlong_22 ?_
        refine fg_X0_31 (pc := 23) C 5 rfl rfl dX0_shiftAlong_23 ?_
        refine jw_iload_2 (pc := 26) C dX0_shiftAlong_26 ?_
        refine jw_iald (pc := 27) C 28 rfl (F.que p).toNat (by omega) (by omega) (by decide) dX0_shiftAlong_27 ?_
        refine jw_iconst (pc := 28) C dX0_shiftAlong_28 ?_
        refine jw_icmp_eq (pc := 29) (tgt := 57) C dX0_shiftAlong_29 (by decide) ⟨by omega, by omega⟩ ⟨by omega, by omega⟩ (fun c_29 => ?_) (fun c_29 => ?_)
        · obtain ⟨f1, f2, f3, f4⟩ := sh_end hI hV hB ha hro hsh (by omega)
          refine jw_aload_0 (pc := 57) C dX0_shiftAlong_57 ?_
          refine fg_X0_21 (pc := 58) C 5 rfl rfl dX0_shiftAlong_58 ?_
          refine jw_iload_2 (pc := 61) C dX0_shiftAlong_61 ?_
          refine jw_dup2 (pc := 62) C dX0_shiftAlong_62 rfl rfl ?_
          refine jw_iald (pc := 63) C 25 rfl (F.que p).toNat (by omega) (by omega) (by decide) dX0_shiftAlong_63 ?_
          refine jw_iconst (pc := 64) C dX0_shiftAlong_64 ?_
          refine jw_iadd (pc := 65) C dX0_shiftAlong_65 ?_
          refine jw_iast (pc := 66) C 25 rfl (F.que p).toNat (by omega) (by omega) (by decide) dX0_shiftAlong_66 ?_
          exact hret _ _ (nd, F.acc, updf F.load a (F.load a + 1), updf F.used (F.que p).toNat (F.used (F.que p).toNat + 1), F.2.2.2.2) dX0_shiftAlong_67 ⟨f3, rfl, f4⟩
        · obtain ⟨j, r, c1, c2, c3, c4, hsh2⟩ := sh_step hI hB ha hsh (by omega)
          refine jw_aload_0 (pc := 32) C dX0_shiftAlong_32 ?_
          refine fg_X0_9 (pc := 33) C 5 rfl rfl dX0_shiftAlong_33 ?_
          refine jw_aload_0 (pc := 36) C dX0_shiftAlong_36 ?_
          refine fg_X0_34 (pc := 37) C 5 rfl rfl dX0_shiftAlong_37 ?_
          refine jw_iload_2 (pc := 40) C dX0_shiftAlong_40 ?_
          refine jw_iald (pc := 41) C 29 rfl (F.que p).toNat (by omega) (by omega) (by decide) dX0_shiftAlong_41 ?_
          refine jw_iload_2 (pc := 42) C dX0_shiftAlong_42 ?_
          refine jw_iast (pc := 43) C 22 rfl r c3 (by omega) (by decide) dX0_shiftAlong_43 ?_
          refine jw_aload_0 (pc := 44) C dX0_shiftAlong_44 ?_
          refine fg_X0_31 (pc := 45) C 5 rfl rfl dX0_shiftAlong_45 ?_
          refine jw_iload_2 (pc := 48) C dX0_shiftAlong_48 ?_
          refine jw_iald (pc := 49) C 28 rfl (F.que p).toNat (by omega) (by omega) (by decide) dX0_shiftAlong_49 ?_
          refine jw_istore_2 (pc := 50) C dX0_shiftAlong_50 rfl ?_
          refine jw_iinc_3 (pc := 51) C dX0_shiftAlong_51 rfl ?_
          refine jw_goto (pc := 54) (tgt := 16) C dX0_shiftAlong_54 (by decide) ?_
          have K := ih_16 (i + 1) j (updf nd r (F.que p)) hsh2 (by omega) (by omega)
          rw [← c2] at K
          exact K
  have K := K16 17 0 p0 F.node (sh_start hV hB hp0 (by omega)) (by omega) (by omega)
  rw [show F.que p0 = 4 + (a : Int) by omega] at K
  exact K
set_option maxRecDepth 100000 in
set_option maxHeartbeats 4000000 in
theorem c_X0_augment (G : jG) (ad : Nat → Nat) (P : QP) (l : QL) (A : QA) (T : Nat → Bool) (F : QF) (hI : PI P) (hV : FV P F) : CZ G yX0_augment cX0_augment 3 (jrm 3 69 0 0) [.ref (ad 5)] (wC G ad P l A T F) (fun (z : Bool) (u : QF) => FV P u ∧ u.acc = F.acc ∧ (z = true → sumF u.used 4 = sumF F.used 4 + 1) ∧ (z = false → sumF u.used 4 = sumF F.used 4 ∧ NoAug P u)) (fun u : QF => wC G ad P l A T u) 0 0 := by
  refine cz_intro (own := RX0) [some (.ref (ad 5)), none, none] (by decide) rfl rfl rfl (Nat.le_of_ble_eq_true rfl) (fun X C hret => ?_)
  have h1 := hI.res
  have h2 := hI.req
  refine jw_aload_0 (pc := 0) C dX0_augment_0 ?_
  refine jw_V_V (pc := 1) C (c_X0_startAtGroups G ad P l A T F hI hV) wd_X0_startAtGroups kml_X0_87 5 rfl rfl rfl rfl (Nat.le_of_ble_eq_true rfl) ⟨by decide, by decide⟩ ⟨Nat.zero_le _, Nat.zero_le _⟩ dX0_augment_1 rfl (fun F0 h => ?_)
  obtain ⟨s0, hB0, hS0, hg0⟩ := h
  refine jw_iconst (pc := 4) C dX0_augment_4 ?_
  refine jw_istore_1 (pc := 5) C dX0_augment_5 rfl ?_
  have K6 : ∀ (n_6 : Nat) (h : Nat) (F1 : QF), ((h : Int) ≤ F1.qd) → (SameF F F1) → (BI P F1) → (S3 P F1) → (∀ g : Nat, g < 4 → F1.used g < P.quo g → F1.seen g = true) → (∀ i : Nat, i < h → ∀ r : Nat, (r : Int) < P.req → F1.node r = F1.que i → FCl P F1 r) → 16 - h < n_6 → JW G X 0 0 (wC G ad P l A T F1) 6 [some (.ref (ad 5)), some (.int (iI (h : Int))), none] [] := by
    intro n_6
    induction n_6 with
    | zero => intro h F1 hh s1 hB1 hS1 hg1 hc1 hm_6; exact absurd hm_6 (Nat.not_lt_zero _)
    | succ n_6 ih_6 =>
      intro h F1 hh s1 hB1 hS1 hg1 hc1 hm_6
      have hqd := hB1.q
      refine jw_iload_1 (pc := 6) C dX0_augment_6 ?_
      refine jw_aload_0 (pc := 7) C dX0_augment_7 ?_
      refine fg_X0_90 (pc := 8) C 5 rfl rfl dX0_augment_8 ?_
      refine jw_icmp_ge (pc := 11) (tgt := 49) C dX0_augment_11 (by decide) ⟨by omega, by omega⟩ ⟨by omega, by omega⟩ (fun c_11 => ?_) (fun c_11 => ?_)
      · refine jw_iconst (pc := 49) C dX0_augment_49 ?_
        refine hret _ _ false F1 dX0_augment_50 ⟨hV.same s1, s1.2.1, fun q => (by cases q), fun _ => ⟨by rw [s1.2.2.2], hg1, hS1, fun r hr hn hsn => ?_⟩⟩
        have hnr := node_rng hI ((hV.same s1).1 r hr)
        obtain ⟨i, i1, i2⟩ := hB1.2.2.2.1 (F1.node r).toNat (by omega) hsn
        exact hc1 i (by omega) r hr (by omega)
      · refine jw_iload_1 (pc := 14) C dX0_augment_14 ?_
        refine jw_bipush (pc := 15) C dX0_augment_15 (by decide) ?_
        refine jw_icmp_ge (pc := 17) (tgt := 49) C dX0_augment_17 (by decide) ⟨by omega, by omega⟩ ⟨by omega, by omega⟩ (fun c_17 => ?_) (fun c_17 => ?_)
        · refine jw_iconst (pc := 49) C dX0_augment_49 ?_
          refine hret _ _ false F1 dX0_augment_50 ⟨hV.same s1, s1.2.1, fun q => (by cases q), fun _ => ⟨by rw [s1.2.2.2], hg1, hS1, fun r hr hn hsn => ?_⟩⟩
          have hnr := node_rng hI ((hV.same s1).1 r hr)
          obtain ⟨i, i1, i2⟩ := hB1.2.2.2.1 (F1.node r).toNat (by omega) hsn
          exact hc1 i (by omega) r hr (by omega)
        · have hq := hB1.qu hI (p := h) (by omega)
          refine jw_aload_0 (pc := 20) C dX0_augment_20 ?_
          refine jw_aload_0 (pc := 21) C dX0_augment_21 ?_
          refine fg_X0_24 (pc := 22) C 5 rfl rfl dX0_augment_22 ?_
          refine jw_iload_1 (pc := 25) C dX0_augment_25 ?_
          refine jw_iald (pc := 26) C 26 rfl _ rfl (by omega) (by decide) dX0_augment_26 ?_
          refine jw_V_I (pc := 27) C (c_X0_leave G ad P l A T F1 (F1.que h) hI (hV.same s1) hB1 hS1 ⟨hq.1, hq.2.1⟩ hq.2.2) wd_X0_leave kml_X0_93 5 rfl rfl rfl rfl (Nat.le_of_ble_eq_true rfl) ⟨by decide, by decide⟩ ⟨Nat.zero_le _, Nat.zero_le _⟩ dX0_augment_27 rfl (fun z F2 hh => ?_)
          obtain ⟨s2, m2, hB2, zz, ez, hzr, hz1, hz2⟩ := hh
          subst ez
          refine jw_istore_2 (pc := 30) C dX0_augment_30 rfl ?_
          refine jw_iload_2 (pc := 31) C dX0_augment_31 ?_
          refine jw_iconst (pc := 32) C dX0_augment_32 ?_
          refine jw_icmp_eq (pc := 33) (tgt := 43) C dX0_augment_33 (by decide) ⟨by omega, by omega⟩ ⟨by omega, by omega⟩ (fun c_33 => ?_) (fun c_33 => ?_)
          · obtain ⟨hz3, hz4⟩ := hz1 c_33
            refine jw_iinc_1 (pc := 43) C dX0_augment_43 rfl ?_
            refine jw_goto (pc := 46) (tgt := 6) C dX0_augment_46 (by decide) ?_
            exact jw_less (ih_6 (h + 1) F2 (by have := m2.2.1; omega) (s1.tr s2) hB2 hz3 (fun g hg hu => m2.1 g (hg1 g hg (by rw [← s2.us g]; exact hu))) (fun i hi r hr hn => by
              by_cases e : i = h
              · subst e
                exact hz4 r hr (by rw [← s2.node r, hn]; exact m2.2.2 i (by omega))
              · exact (hc1 i (by omega) r hr (by rw [← s2.node r, hn]; exact m2.2.2 i (by omega))).mon s2 m2) (by omega)) (by repeat (first | exact trivial | refine And.intro rfl ?_))
          · obtain ⟨a, a1, a2, a3, a4⟩ := hz2 c_33
            subst a2
            refine jw_aload_0 (pc := 36) C dX0_augment_36 ?_
            refine jw_iload_2 (pc := 37) C dX0_augment_37 ?_
            refine jw_V_V (pc := 38) C (c_X0_shiftAlong G ad P l A T F2 a hI (hV.same (s1.tr s2)) hB2 a1 a3 (by rw [s2.ld a]; exact a4)) wd_X0_shiftAlong kml_X0_96 5 rfl rfl rfl rfl (Nat.le_of_ble_eq_true rfl) ⟨by decide, by decide⟩ ⟨Nat.zero_le _, Nat.zero_le _⟩ dX0_augment_38 rfl (fun F4 hh => ?_)
            obtain ⟨v1, v2, v3⟩ := hh
            refine jw_iconst (pc := 41) C dX0_augment_41 ?_
            exact hret _ _ true F4 dX0_augment_42 ⟨v1, by rw [v2, s2.2.1, s1.2.1], fun _ => by rw [v3, s2.2.2.2, s1.2.2.2], fun q => (by cases q)⟩
  exact K6 17 0 F0 (by have := hB0.q; omega) s0 hB0 hS0 hg0 (fun j hj => absurd hj (Nat.not_lt_zero _)) (by omega)
set_option maxRecDepth 100000 in
set_option maxHeartbeats 4000000 in
theorem c_X0_greatest (G : jG) (ad : Nat → Nat) (P : QP) (l : QL) (A : QA) (T : Nat → Bool) (F : QF) (wd : Int) (hw : -1 ≤ wd ∧ wd ≤ 40) (hI : PI P) (hF : PFe P) : CI G yX0_greatest cX0_greatest 4 (jrm 4 91 0 0) [.ref (ad 5), .int (iI wd)] (wC G ad P l A T F) (fun (z : Int32) (u : QF) => ∃ v : Int, z = iI v ∧ (0 ≤ v ∧ v ≤ 40) ∧ IsMin P (wide P wd) v) (fun u : QF => wC G ad P l A T u) 0 0 := by
  refine ci_intro (own := RX0) [some (.ref (ad 5)), some (.int (iI wd)), none, none] (by decide) rfl rfl rfl (Nat.le_of_ble_eq_true rfl) (fun X C hret => ?_)
  have h1 := hI.res
  have h2 := hI.req
  have h3 := sum_nn hI
  refine jw_aload_0 (pc := 0) C dX0_greatest_0 ?_
  refine jw_iload_1 (pc := 1) C dX0_greatest_1 ?_
  refine jw_V_V (pc := 2) C (c_X0_copyAssignment G ad P l A T F wd hw hI hF) wd_X0_copyAssignment kml_X0_41 5 rfl rfl rfl rfl (Nat.le_of_ble_eq_true rfl) ⟨by decide, by decide⟩ ⟨Nat.zero_le _, Nat.zero_le _⟩ dX0_greatest_2 rfl (fun F0 h => ?_)
  obtain ⟨v1, v2, v3⟩ := h
  refine jw_aload_0 (pc := 5) C dX0_greatest_5 ?_
  refine fg_X0_37 (pc := 6) C 5 rfl rfl dX0_greatest_6 ?_
  refine jw_V_I (pc := 9) C (c_X4_countAssigned G ad P l A T F0) wd_X4_countAssigned kml_X0_45 1 rfl rfl rfl rfl (Nat.le_of_ble_eq_true rfl) ⟨by decide, by decide⟩ ⟨Nat.zero_le _, Nat.zero_le _⟩ dX0_greatest_9 rfl (fun z u h => ?_)
  rw [← v2] at h
  subst h
  refine jw_istore_2 (pc := 12) C dX0_greatest_12 rfl ?_
  refine jw_iconst (pc := 13) C dX0_greatest_13 ?_
  refine jw_istore_3 (pc := 14) C dX0_greatest_14 rfl ?_
  have K15 : ∀ (n_15 : Nat) (i : Nat) (F1 : QF), ((i : Int) ≤ P.req) → (FV P F1) → (F1.acc = F0.acc) → (sumF F1.used 4 = sumF P.asg 4 + (i : Int)) → 40 - i < n_15 → JW G X 0 0 (wC G ad P l A T F1) 15 [some (.ref (ad 5)), some (.int (iI wd)), some (.int (iI (sumF F1.used 4))), some (.int (iI (i : Int)))] [] := by
    intro n_15
    induction n_15 with
    | zero => intro i F1 hi hV1 ha1 hc1 hm_15; exact absurd hm_15 (Nat.not_lt_zero _)
    | succ n_15 ih_15 =>
      intro i F1 hi hV1 ha1 hc1 hm_15
      have hsr : 0 ≤ sumF F1.used 4 ∧ sumF F1.used 4 ≤ 40 := by
        have q1 := flow_tot hI hV1
        have q2 := cntF_le (fun r => decide (4 ≤ F1.node r)) P.req.toNat
        omega
      refine jw_iload_3 (pc := 15) C dX0_greatest_15 ?_
      refine jw_aload_0 (pc := 16) C dX0_greatest_16 ?_
      refine fg_X0_37 (pc := 17) C 5 rfl rfl dX0_greatest_17 ?_
      refine fg_X0_51 (pc := 20) C 1 rfl rfl dX0_greatest_20 ?_
      refine jw_icmp_ge (pc := 23) (tgt := 45) C dX0_greatest_23 (by decide) ⟨by omega, by omega⟩ ⟨by omega, by omega⟩ (fun c_23 => ?_) (fun c_23 => ?_)
      · have hz : IsMin P (wide P wd) (sumF F1.used 4) := (min_full hI hV1 (by omega)).congr (fun r hr => by rw [ha1]; exact v3 r hr) h2.1
        refine jw_iload_2 (pc := 45) C dX0_greatest_45 ?_
        exact hret _ _ _ _ dX0_greatest_46 ⟨_, rfl, hsr, hz⟩
      · refine jw_aload_0 (pc := 26) C dX0_greatest_26 ?_
        refine jw_V_Z (pc := 27) C (c_X0_augment G ad P l A T F1 hI hV1) wd_X0_augment kml_X0_55 5 rfl rfl rfl rfl (Nat.le_of_ble_eq_true rfl) ⟨by decide, by decide⟩ ⟨Nat.zero_le _, Nat.zero_le _⟩ dX0_greatest_27 rfl (fun z F2 h => ?_)
        obtain ⟨a1, a2, a3, a4⟩ := h
        refine jw_if_ne_b (pc := 30) (tgt := 36) C dX0_greatest_30 (by decide) (fun c_30 => ?_) (fun c_30 => ?_)
        · refine jw_iinc_2 (pc := 36) C dX0_greatest_36 rfl ?_
          refine jw_iinc_3 (pc := 39) C dX0_greatest_39 rfl ?_
          refine jw_goto (pc := 42) (tgt := 15) C dX0_greatest_42 (by decide) ?_
          have K := ih_15 (i + 1) F2 (by omega) a1 (by rw [a2, ha1]) (by rw [a3 c_30, hc1]; omega) (by omega)
          rw [a3 c_30] at K
          exact K
        · obtain ⟨a5, a6⟩ := a4 c_30
          have hz : IsMin P (wide P wd) (sumF F1.used 4) := by
            rw [← a5]
            exact (min_noaug hI a1 a6).congr (fun r hr => by rw [a2, ha1]; exact v3 r hr) h2.1
          refine jw_goto (pc := 33) (tgt := 45) C dX0_greatest_33 (by decide) ?_
          refine jw_iload_2 (pc := 45) C dX0_greatest_45 ?_
          exact hret _ _ _ _ dX0_greatest_46 ⟨_, rfl, hsr, hz⟩
  exact K15 41 0 F0 (by omega) v1 rfl (by rw [v2]; omega) (by omega)
