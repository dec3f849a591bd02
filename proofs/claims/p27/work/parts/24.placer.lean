set_option maxRecDepth 100000 in
set_option maxHeartbeats 4000000 in
theorem c_X3_isServedBefore (G : jG) (ad : Nat → Nat) (P : QP) (l : QL) (A : QA) (T : Nat → Bool) (F : QF) (g h : Int) (hI : PI P) (hg : 0 ≤ g ∧ g ≤ 3) (hh : 0 ≤ h ∧ h ≤ 3) : CZ G yX3_isServedBefore cX3_isServedBefore 5 (jrm 0 0 0 0) [.ref (ad 4), .int (iI g), .int (iI h)] (wC G ad P l A T F) (fun (z : Bool) _ => z = servB P g h) (fun _ : Unit => wC G ad P l A T F) 0 0 := by
  refine cz_intro (own := RX3) [some (.ref (ad 4)), some (.int (iI g)), some (.int (iI h)), none, none] (by decide) rfl rfl rfl (Nat.le_of_ble_eq_true rfl) (fun X C hret => ?_)
  have h1 := hI.asg g.toNat
  have h2 := hI.asg h.toNat
  have h3 := hI.wei g.toNat
  have h4 := hI.wei h.toNat
  have h5 := mul_rng h1 h4
  have h6 := mul_rng h2 h3
  refine jw_aload_0 (pc := 0) C dX3_isServedBefore_0 ?_
  refine fg_X3_15 (pc := 1) C 4 rfl rfl dX3_isServedBefore_1 ?_
  refine fg_X3_52 (pc := 4) C 1 rfl rfl dX3_isServedBefore_4 ?_
  refine jw_iload_1 (pc := 7) C dX3_isServedBefore_7 ?_
  refine jw_iald (pc := 8) C 10 rfl g.toNat (by omega) (by omega) (by decide) dX3_isServedBefore_8 ?_
  refine jw_aload_0 (pc := 9) C dX3_isServedBefore_9 ?_
  refine fg_X3_15 (pc := 10) C 4 rfl rfl dX3_isServedBefore_10 ?_
  refine fg_X3_55 (pc := 13) C 1 rfl rfl dX3_isServedBefore_13 ?_
  refine jw_iload_2 (pc := 16) C dX3_isServedBefore_16 ?_
  refine jw_iald (pc := 17) C 9 rfl h.toNat (by omega) (by omega) (by decide) dX3_isServedBefore_17 ?_
  refine jw_imul (pc := 18) C dX3_isServedBefore_18 ?_
  refine jw_istore_3 (pc := 19) C dX3_isServedBefore_19 rfl ?_
  refine jw_aload_0 (pc := 20) C dX3_isServedBefore_20 ?_
  refine fg_X3_15 (pc := 21) C 4 rfl rfl dX3_isServedBefore_21 ?_
  refine fg_X3_52 (pc := 24) C 1 rfl rfl dX3_isServedBefore_24 ?_
  refine jw_iload_2 (pc := 27) C dX3_isServedBefore_27 ?_
  refine jw_iald (pc := 28) C 10 rfl h.toNat (by omega) (by omega) (by decide) dX3_isServedBefore_28 ?_
  refine jw_aload_0 (pc := 29) C dX3_isServedBefore_29 ?_
  refine fg_X3_15 (pc := 30) C 4 rfl rfl dX3_isServedBefore_30 ?_
  refine fg_X3_55 (pc := 33) C 1 rfl rfl dX3_isServedBefore_33 ?_
  refine jw_iload_1 (pc := 36) C dX3_isServedBefore_36 ?_
  refine jw_iald (pc := 37) C 9 rfl g.toNat (by omega) (by omega) (by decide) dX3_isServedBefore_37 ?_
  refine jw_imul (pc := 38) C dX3_isServedBefore_38 ?_
  refine jw_istore_4 (pc := 39) C dX3_isServedBefore_39 rfl ?_
  refine jw_iload_3 (pc := 41) C dX3_isServedBefore_41 ?_
  refine jw_iload_4 (pc := 42) C dX3_isServedBefore_42 ?_
  refine jw_icmp_lt (pc := 44) (tgt := 58) C dX3_isServedBefore_44 (by decide) ⟨by omega, by omega⟩ ⟨by omega, by omega⟩ (fun c_44 => ?_) (fun c_44 => ?_)
  · have hz : true = servB P g h := (decide_eq_true (Or.inl c_44)).symm
    refine jw_iconst (pc := 58) C dX3_isServedBefore_58 ?_
    refine jw_goto (pc := 59) (tgt := 63) C dX3_isServedBefore_59 (by decide) ?_
    exact hret _ _ _ () dX3_isServedBefore_63 hz
  · refine jw_iload_3 (pc := 47) C dX3_isServedBefore_47 ?_
    refine jw_iload_4 (pc := 48) C dX3_isServedBefore_48 ?_
    refine jw_icmp_ne (pc := 50) (tgt := 62) C dX3_isServedBefore_50 (by decide) ⟨by omega, by omega⟩ ⟨by omega, by omega⟩ (fun c_50 => ?_) (fun c_50 => ?_)
    · have hz : false = servB P g h := (decide_eq_false (fun q => q.elim (fun q => c_44 q) (fun q => c_50 q.1))).symm
      refine jw_iconst (pc := 62) C dX3_isServedBefore_62 ?_
      exact hret _ _ _ () dX3_isServedBefore_63 hz
    · refine jw_iload_1 (pc := 53) C dX3_isServedBefore_53 ?_
      refine jw_iload_2 (pc := 54) C dX3_isServedBefore_54 ?_
      refine jw_icmp_ge (pc := 55) (tgt := 62) C dX3_isServedBefore_55 (by decide) ⟨by omega, by omega⟩ ⟨by omega, by omega⟩ (fun c_55 => ?_) (fun c_55 => ?_)
      · have hz : false = servB P g h := (decide_eq_false (fun q => q.elim (fun q => c_44 q) (fun q => by omega))).symm
        refine jw_iconst (pc := 62) C dX3_isServedBefore_62 ?_
        exact hret _ _ _ () dX3_isServedBefore_63 hz
      · have hz : true = servB P g h := (decide_eq_true (Or.inr ⟨c_50, by omega⟩)).symm
        refine jw_iconst (pc := 58) C dX3_isServedBefore_58 ?_
        refine jw_goto (pc := 59) (tgt := 63) C dX3_isServedBefore_59 (by decide) ?_
        exact hret _ _ _ () dX3_isServedBefore_63 hz
set_option maxRecDepth 100000 in
set_option maxHeartbeats 4000000 in
theorem c_X3_nextToTry (G : jG) (ad : Nat → Nat) (P : QP) (l : QL) (A : QA) (T : Nat → Bool) (F : QF) (hI : PI P) : CI G yX3_nextToTry cX3_nextToTry 3 (jrm 1 24 0 0) [.ref (ad 4)] (wC G ad P l A T F) (fun (z : Int32) _ => z = iI (nxF P T P.req.toNat)) (fun _ : Unit => wC G ad P l A T F) 0 0 := by
  refine ci_intro (own := RX3) [some (.ref (ad 4)), none, none] (by decide) rfl rfl rfl (Nat.le_of_ble_eq_true rfl) (fun X C hret => ?_)
  have h1 := hI.req
  refine jw_iconst (pc := 0) C dX3_nextToTry_0 ?_
  refine jw_istore_1 (pc := 1) C dX3_nextToTry_1 rfl ?_
  refine jw_iconst (pc := 2) C dX3_nextToTry_2 ?_
  refine jw_istore_2 (pc := 3) C dX3_nextToTry_3 rfl ?_
  have K4 : ∀ (n_4 : Nat) (i : Nat), ((i : Int) ≤ P.req) → 40 - i < n_4 → JW G X 0 0 (wC G ad P l A T F) 4 [some (.ref (ad 4)), some (.int (iI (nxF P T i))), some (.int (iI (i : Int)))] [] := by
    intro n_4
    induction n_4 with
    | zero => intro i hi hm_4; exact absurd hm_4 (Nat.not_lt_zero _)
    | succ n_4 ih_4 =>
      intro i hi hm_4
      have h2 := hI.grp i
      have h3 := hI.grp (nxF P T i).toNat
      have h4 : -1 ≤ nxF P T i ∧ nxF P T i < i := by
        rcases nxF_spec P T i with h | ⟨k, k1, k2, k3, k4⟩ <;> omega
      refine jw_iload_2 (pc := 4) C dX3_nextToTry_4 ?_
      refine jw_aload_0 (pc := 5) C dX3_nextToTry_5 ?_
      refine fg_X3_15 (pc := 6) C 4 rfl rfl dX3_nextToTry_6 ?_
      refine fg_X3_27 (pc := 9) C 1 rfl rfl dX3_nextToTry_9 ?_
      refine jw_icmp_ge (pc := 12) (tgt := 73) C dX3_nextToTry_12 (by decide) ⟨by omega, by omega⟩ ⟨by omega, by omega⟩ (fun c_12 => ?_) (fun c_12 => ?_)
      · refine jw_iload_1 (pc := 73) C dX3_nextToTry_73 ?_
        have e : P.req.toNat = i := by omega
        exact hret _ _ _ () dX3_nextToTry_74 (by rw [e])
      · refine jw_aload_0 (pc := 15) C dX3_nextToTry_15 ?_
        refine fg_X3_15 (pc := 16) C 4 rfl rfl dX3_nextToTry_16 ?_
        refine jw_iload_2 (pc := 19) C dX3_nextToTry_19 ?_
        refine jw_V_Z (pc := 20) C (c_X4_isWaiting G ad P l A T F i (by omega) hI) wd_X4_isWaiting kml_X3_41 1 rfl rfl rfl rfl (Nat.le_of_ble_eq_true rfl) ⟨by decide, by decide⟩ ⟨Nat.zero_le _, Nat.zero_le _⟩ dX3_nextToTry_20 rfl (fun z u h => ?_)
        subst h
        refine jw_if_eq_b (pc := 23) (tgt := 67) C dX3_nextToTry_23 (by decide) (fun c_23 => ?_) (fun c_23 => ?_)
        · have hz : nxF P T i = nxF P T (i + 1) := by
            rw [nxF, if_neg (fun q => of_decide_eq_false c_23 q.1)]
          refine jw_iinc_2 (pc := 67) C dX3_nextToTry_67 rfl ?_
          refine jw_goto (pc := 70) (tgt := 4) C dX3_nextToTry_70 (by decide) ?_
          have K := ih_4 (i + 1) (by omega) (by omega)
          rw [← hz] at K
          exact K
        · refine jw_aload_0 (pc := 26) C dX3_nextToTry_26 ?_
          refine fg_X3_9 (pc := 27) C 4 rfl rfl dX3_nextToTry_27 ?_
          refine jw_iload_2 (pc := 30) C dX3_nextToTry_30 ?_
          refine jw_zald (pc := 31) C 21 rfl _ rfl (by omega) (by decide) dX3_nextToTry_31 ?_
          refine jw_if_ne_b (pc := 32) (tgt := 67) C dX3_nextToTry_32 (by decide) (fun c_32 => ?_) (fun c_32 => ?_)
          · have hz : nxF P T i = nxF P T (i + 1) := by
              rw [nxF, if_neg (fun q => by rw [c_32] at q; cases q.2.1)]
            refine jw_iinc_2 (pc := 67) C dX3_nextToTry_67 rfl ?_
            refine jw_goto (pc := 70) (tgt := 4) C dX3_nextToTry_70 (by decide) ?_
            have K := ih_4 (i + 1) (by omega) (by omega)
            rw [← hz] at K
            exact K
          · refine jw_iload_1 (pc := 35) C dX3_nextToTry_35 ?_
            refine jw_iconst (pc := 36) C dX3_nextToTry_36 ?_
            refine jw_icmp_eq (pc := 37) (tgt := 65) C dX3_nextToTry_37 (by decide) ⟨by omega, by omega⟩ ⟨by omega, by omega⟩ (fun c_37 => ?_) (fun c_37 => ?_)
            · have hz : (i : Int) = nxF P T (i + 1) := by
                rw [nxF, if_pos ⟨of_decide_eq_true c_23, c_32, Or.inl c_37⟩]
              refine jw_iload_2 (pc := 65) C dX3_nextToTry_65 ?_
              refine jw_istore_1 (pc := 66) C dX3_nextToTry_66 rfl ?_
              refine jw_iinc_2 (pc := 67) C dX3_nextToTry_67 rfl ?_
              refine jw_goto (pc := 70) (tgt := 4) C dX3_nextToTry_70 (by decide) ?_
              have K := ih_4 (i + 1) (by omega) (by omega)
              rw [← hz] at K
              exact K
            · refine jw_aload_0 (pc := 40) C dX3_nextToTry_40 ?_
              refine jw_aload_0 (pc := 41) C dX3_nextToTry_41 ?_
              refine fg_X3_15 (pc := 42) C 4 rfl rfl dX3_nextToTry_42 ?_
              refine fg_X3_44 (pc := 45) C 1 rfl rfl dX3_nextToTry_45 ?_
              refine jw_iload_2 (pc := 48) C dX3_nextToTry_48 ?_
              refine jw_iald (pc := 49) C 11 rfl _ rfl (by omega) (by decide) dX3_nextToTry_49 ?_
              refine jw_aload_0 (pc := 50) C dX3_nextToTry_50 ?_
              refine fg_X3_15 (pc := 51) C 4 rfl rfl dX3_nextToTry_51 ?_
              refine fg_X3_44 (pc := 54) C 1 rfl rfl dX3_nextToTry_54 ?_
              refine jw_iload_1 (pc := 57) C dX3_nextToTry_57 ?_
              refine jw_iald (pc := 58) C 11 rfl (nxF P T i).toNat (by omega) (by omega) (by decide) dX3_nextToTry_58 ?_
              refine jw_V_Z (pc := 59) C (c_X3_isServedBefore G ad P l A T F (P.grp i) (P.grp (nxF P T i).toNat) hI h2 h3) wd_X3_isServedBefore kml_X3_48 4 rfl rfl rfl rfl (Nat.le_of_ble_eq_true rfl) ⟨by decide, by decide⟩ ⟨Nat.zero_le _, Nat.zero_le _⟩ dX3_nextToTry_59 rfl (fun z u h => ?_)
              subst h
              refine jw_if_eq_b (pc := 62) (tgt := 67) C dX3_nextToTry_62 (by decide) (fun c_62 => ?_) (fun c_62 => ?_)
              · have hz : nxF P T i = nxF P T (i + 1) := by
                  rw [nxF, if_neg (fun q => q.2.2.elim (fun q => c_37 q) (fun q => by rw [c_62] at q; cases q))]
                refine jw_iinc_2 (pc := 67) C dX3_nextToTry_67 rfl ?_
                refine jw_goto (pc := 70) (tgt := 4) C dX3_nextToTry_70 (by decide) ?_
                have K := ih_4 (i + 1) (by omega) (by omega)
                rw [← hz] at K
                exact K
              · have hz : (i : Int) = nxF P T (i + 1) := by
                  rw [nxF, if_pos ⟨of_decide_eq_true c_23, c_32, Or.inr c_62⟩]
                refine jw_iload_2 (pc := 65) C dX3_nextToTry_65 ?_
                refine jw_istore_1 (pc := 66) C dX3_nextToTry_66 rfl ?_
                refine jw_iinc_2 (pc := 67) C dX3_nextToTry_67 rfl ?_
                refine jw_goto (pc := 70) (tgt := 4) C dX3_nextToTry_70 (by decide) ?_
                have K := ih_4 (i + 1) (by omega) (by omega)
                rw [← hz] at K
                exact K
  exact K4 41 0 (by omega) (by omega)
set_option maxRecDepth 100000 in
set_option maxHeartbeats 4000000 in
theorem c_X3_placeAlongPath (G : jG) (ad : Nat → Nat) (P : QP) (l : QL) (A : QA) (T : Nat → Bool) (F : QF) (r n : Nat) (hI : PI P) (hA : A.len = (n : Int)) (hp : PathOK P r A.rs A.rq n) (hl : 0 ≤ l.sz ∧ l.sz ≤ 195) (hn : n ≤ 6) : CV G yX3_placeAlongPath cX3_placeAlongPath 5 (jrm 3 64 0 0) [.ref (ad 4), .int (iI (r : Int))] (wC G ad P l A T F) (fun u : QP × QL => u = plS P l r A.rs A.rq (n - 1)) (fun u : QP × QL => wC G ad u.1 u.2 A T F) 0 0 := by
  refine cv_intro (own := RX3) [some (.ref (ad 4)), some (.int (iI (r : Int))), none, none, none] (by decide) rfl rfl rfl (Nat.le_of_ble_eq_true rfl) (fun X C hret => ?_)
  have h1 := hI.res
  have h2 := hI.req
  have hs := plS_ok (l := l) hI hp
  obtain ⟨p1, p2, p3, p4, p5, p6, p7, p8⟩ := id hp
  have p50 := p5 0 (by omega)
  refine jw_aload_0 (pc := 0) C dX3_placeAlongPath_0 ?_
  refine fg_X3_15 (pc := 1) C 4 rfl rfl dX3_placeAlongPath_1 ?_
  refine jw_iload_1 (pc := 4) C dX3_placeAlongPath_4 ?_
  refine jw_aload_0 (pc := 5) C dX3_placeAlongPath_5 ?_
  refine fg_X3_19 (pc := 6) C 4 rfl rfl dX3_placeAlongPath_6 ?_
  refine fg_X3_74 (pc := 9) C 3 rfl rfl dX3_placeAlongPath_9 ?_
  refine jw_iconst (pc := 12) C dX3_placeAlongPath_12 ?_
  refine jw_iald (pc := 13) C 19 rfl 0 rfl (by omega) (by decide) dX3_placeAlongPath_13 ?_
  rw [show iI (A.rs 0) = iI ((A.rs 0).toNat : Int) from by rw [Int.toNat_of_nonneg p50.1]]
  refine jw_V_V (pc := 14) C (c_X4_assign G ad P l A T F r (A.rs 0).toNat hI p1 (by omega)) wd_X4_assign kml_X3_77 1 rfl rfl rfl rfl (Nat.le_of_ble_eq_true rfl) ⟨by decide, by decide⟩ ⟨Nat.zero_le _, Nat.zero_le _⟩ dX3_placeAlongPath_14 rfl (fun u h => ?_)
  subst h
  refine jw_iconst (pc := 17) C dX3_placeAlongPath_17 ?_
  refine jw_istore_2 (pc := 18) C dX3_placeAlongPath_18 rfl ?_
  have K19 : ∀ (n_19 : Nat) (i : Nat), (i + 1 ≤ n) → 12 - i < n_19 → JW G X 0 0 (wC G ad (plS P l r A.rs A.rq i).1 (plS P l r A.rs A.rq i).2 A T F) 19 [some (.ref (ad 4)), some (.int (iI (r : Int))), some (.int (iI (i : Int))), none, none] [] := by
    intro n_19
    induction n_19 with
    | zero => intro i hi hm_19; exact absurd hm_19 (Nat.not_lt_zero _)
    | succ n_19 ih_19 =>
      intro i hi hm_19
      obtain ⟨g1, g2, g3, g4, g5, g6, g7, g8, g9⟩ := hs i (by omega)
      refine jw_iload_2 (pc := 19) C dX3_placeAlongPath_19 ?_
      refine jw_aload_0 (pc := 20) C dX3_placeAlongPath_20 ?_
      refine fg_X3_19 (pc := 21) C 4 rfl rfl dX3_placeAlongPath_21 ?_
      refine fg_X3_81 (pc := 24) C 3 rfl rfl dX3_placeAlongPath_24 ?_
      refine jw_iconst (pc := 27) C dX3_placeAlongPath_27 ?_
      refine jw_isub (pc := 28) C dX3_placeAlongPath_28 ?_
      refine jw_icmp_ge (pc := 29) (tgt := 81) C dX3_placeAlongPath_29 (by decide) ⟨by omega, by omega⟩ ⟨by omega, by omega⟩ (fun c_29 => ?_) (fun c_29 => ?_)
      · have e : n - 1 = i := by omega
        exact hret _ _ (plS P l r A.rs A.rq i) dX3_placeAlongPath_81 (by rw [e])
      · have p51 := p5 (i + 1) (by omega)
        obtain ⟨q1, q2, q3, q4, q5⟩ := p8 i (by omega)
        refine jw_aload_0 (pc := 32) C dX3_placeAlongPath_32 ?_
        refine fg_X3_19 (pc := 33) C 4 rfl rfl dX3_placeAlongPath_33 ?_
        refine fg_X3_84 (pc := 36) C 3 rfl rfl dX3_placeAlongPath_36 ?_
        refine jw_iload_2 (pc := 39) C dX3_placeAlongPath_39 ?_
        refine jw_iald (pc := 40) C 20 rfl _ rfl (by omega) (by decide) dX3_placeAlongPath_40 ?_
        refine jw_istore_3 (pc := 41) C dX3_placeAlongPath_41 rfl ?_
        refine jw_aload_0 (pc := 42) C dX3_placeAlongPath_42 ?_
        refine fg_X3_19 (pc := 43) C 4 rfl rfl dX3_placeAlongPath_43 ?_
        refine fg_X3_74 (pc := 46) C 3 rfl rfl dX3_placeAlongPath_46 ?_
        refine jw_iload_2 (pc := 49) C dX3_placeAlongPath_49 ?_
        refine jw_iconst (pc := 50) C dX3_placeAlongPath_50 ?_
        refine jw_iadd (pc := 51) C dX3_placeAlongPath_51 ?_
        refine jw_iald (pc := 52) C 19 rfl (i + 1) (by omega) (by omega) (by decide) dX3_placeAlongPath_52 ?_
        refine jw_istore_4 (pc := 53) C dX3_placeAlongPath_53 rfl ?_
        refine jw_aload_0 (pc := 55) C dX3_placeAlongPath_55 ?_
        refine fg_X3_15 (pc := 56) C 4 rfl rfl dX3_placeAlongPath_56 ?_
        rw [show iI (A.rq i) = iI ((A.rq i).toNat : Int) from by rw [Int.toNat_of_nonneg q1], show iI (A.rs (i + 1)) = iI ((A.rs (i + 1)).toNat : Int) from by rw [Int.toNat_of_nonneg p51.1]]
        refine jw_iload_3 (pc := 59) C dX3_placeAlongPath_59 ?_
        refine jw_iload_4 (pc := 60) C dX3_placeAlongPath_60 ?_
        refine jw_V_V (pc := 62) C (c_X4_move G ad (plS P l r A.rs A.rq i).1 (plS P l r A.rs A.rq i).2 A T F (A.rq i).toNat (A.rs (i + 1)).toNat g1 (by rw [g2.2.2.2.2.1]; omega) (by omega)) wd_X4_move kml_X3_87 1 rfl rfl rfl rfl (Nat.le_of_ble_eq_true rfl) ⟨by decide, by decide⟩ ⟨Nat.zero_le _, Nat.zero_le _⟩ dX3_placeAlongPath_62 rfl (fun u h => ?_)
        subst h
        refine jw_aload_0 (pc := 65) C dX3_placeAlongPath_65 ?_
        refine fg_X3_23 (pc := 66) C 4 rfl rfl dX3_placeAlongPath_66 ?_
        refine jw_iload_3 (pc := 69) C dX3_placeAlongPath_69 ?_
        refine jw_iload_4 (pc := 70) C dX3_placeAlongPath_70 ?_
        refine jw_V_V (pc := 72) C (c_X1_add G ad (pMove (plS P l r A.rs A.rq i).1 (A.rq i).toNat (A.rs (i + 1)).toNat) (plS P l r A.rs A.rq i).2 A T F ((A.rq i).toNat : Int) ((A.rs (i + 1)).toNat : Int) (by rw [g9 hl.1 (by omega)]; omega)) wd_X1_add kml_X3_90 2 rfl rfl rfl rfl (Nat.le_of_ble_eq_true rfl) ⟨by decide, by decide⟩ ⟨Nat.zero_le _, Nat.zero_le _⟩ dX3_placeAlongPath_72 rfl (fun u h => ?_)
        subst h
        rw [show ((A.rq i).toNat : Int) = A.rq i by omega, show ((A.rs (i + 1)).toNat : Int) = A.rs (i + 1) by omega]
        refine jw_iinc_2 (pc := 75) C dX3_placeAlongPath_75 rfl ?_
        refine jw_goto (pc := 78) (tgt := 19) C dX3_placeAlongPath_78 (by decide) ?_
        exact jw_less (ih_19 (i + 1) (by omega) (by omega)) (by repeat (first | exact trivial | refine And.intro rfl ?_))
  exact K19 13 0 (by omega) (by omega)
set_option maxRecDepth 100000 in
set_option maxHeartbeats 4000000 in
theorem c_X3_tryToPlace (G : jG) (ad : Nat → Nat) (P : QP) (l : QL) (A : QA) (T : Nat → Bool) (F : QF) (r : Nat) (hI : PI P) (hr : (r : Int) < P.req) (hw : P.plc r = -1) (hl : 0 ≤ l.sz ∧ l.sz ≤ 195) : CZ G yX3_tryToPlace cX3_tryToPlace 3 (jrm 4 90 0 0) [.ref (ad 4), .int (iI (r : Int))] (wC G ad P l A T F) (fun (z : Bool) (u : QP × QL × QA) => z = (tryS P l r).1 ∧ u.1 = (tryS P l r).2.1 ∧ u.2.1 = (tryS P l r).2.2) (fun u : QP × QL × QA => wC G ad u.1 u.2.1 u.2.2 T F) 0 0 := by
  refine cz_intro (own := RX3) [some (.ref (ad 4)), some (.int (iI (r : Int))), none] (by decide) rfl rfl rfl (Nat.le_of_ble_eq_true rfl) (fun X C hret => ?_)
  have h1 := hI.res
  have h2 := hI.req
  have h3 := hI.pl
  have h4 := hI.grp r
  have h5 := minL_rng P hI (P.acc r)
  refine jw_aload_0 (pc := 0) C dX3_tryToPlace_0 ?_
  refine fg_X3_15 (pc := 1) C 4 rfl rfl dX3_tryToPlace_1 ?_
  refine jw_aload_0 (pc := 4) C dX3_tryToPlace_4 ?_
  refine fg_X3_15 (pc := 5) C 4 rfl rfl dX3_tryToPlace_5 ?_
  refine fg_X3_44 (pc := 8) C 1 rfl rfl dX3_tryToPlace_8 ?_
  refine jw_iload_1 (pc := 11) C dX3_tryToPlace_11 ?_
  refine jw_iald (pc := 12) C 11 rfl _ rfl (by omega) (by decide) dX3_tryToPlace_12 ?_
  rw [show iI (P.grp r) = iI ((P.grp r).toNat : Int) from by rw [Int.toNat_of_nonneg h4.1]]
  refine jw_V_Z (pc := 13) C (c_X4_groupHasRoom G ad P l A T F (P.grp r).toNat (by omega) hI) wd_X4_groupHasRoom kml_X3_58 1 rfl rfl rfl rfl (Nat.le_of_ble_eq_true rfl) ⟨by decide, by decide⟩ ⟨Nat.zero_le _, Nat.zero_le _⟩ dX3_tryToPlace_13 rfl (fun z u h => ?_)
  subst h
  refine jw_if_ne_b (pc := 16) (tgt := 21) C dX3_tryToPlace_16 (by decide) (fun c_16 => ?_) (fun c_16 => ?_)
  · refine jw_aload_0 (pc := 21) C dX3_tryToPlace_21 ?_
    refine fg_X3_19 (pc := 22) C 4 rfl rfl dX3_tryToPlace_22 ?_
    refine jw_iload_1 (pc := 25) C dX3_tryToPlace_25 ?_
    refine jw_V_I (pc := 26) C (c_X2_search G ad P l A T F r (by omega) hI) wd_X2_search kml_X3_61 3 rfl rfl rfl rfl (Nat.le_of_ble_eq_true rfl) ⟨by decide, by decide⟩ ⟨Nat.zero_le _, Nat.zero_le _⟩ dX3_tryToPlace_26 rfl (fun z A2 h => ?_)
    obtain ⟨ha, hb, hc, hd⟩ := h
    subst ha
    refine jw_istore_2 (pc := 29) C dX3_tryToPlace_29 rfl ?_
    refine jw_iload_2 (pc := 30) C dX3_tryToPlace_30 ?_
    refine jw_if_eq (pc := 31) (tgt := 47) C dX3_tryToPlace_31 (by decide) ⟨by omega, by omega⟩ (fun c_31 => ?_) (fun c_31 => ?_)
    · have hz : tryS P l r = (false, P, l) := by rw [tryS, if_neg (fun q => by omega)]
      refine jw_iconst (pc := 47) C dX3_tryToPlace_47 ?_
      exact hret _ _ _ (P, l, A2) dX3_tryToPlace_48 ⟨by rw [hz], by rw [hz], by rw [hz]⟩
    · refine jw_iload_2 (pc := 34) C dX3_tryToPlace_34 ?_
      refine jw_iconst (pc := 35) C dX3_tryToPlace_35 ?_
      refine jw_isub (pc := 36) C dX3_tryToPlace_36 ?_
      refine jw_aload_0 (pc := 37) C dX3_tryToPlace_37 ?_
      refine fg_X3_15 (pc := 38) C 4 rfl rfl dX3_tryToPlace_38 ?_
      refine fg_X3_67 (pc := 41) C 1 rfl rfl dX3_tryToPlace_41 ?_
      refine jw_icmp_le (pc := 44) (tgt := 49) C dX3_tryToPlace_44 (by decide) ⟨by omega, by omega⟩ ⟨by omega, by omega⟩ (fun c_44 => ?_) (fun c_44 => ?_)
      · have hz : tryS P l r = (true, plX P l r) := by rw [tryS, if_pos ⟨of_decide_eq_true c_16, by omega, by omega⟩]
        have hp := (path_ok hI hr hw (by omega)).1
        have hpe : PathOK P r A2.rs A2.rq (minL P (P.acc r)).toNat := by
          obtain ⟨q1, q2, q3, q4, q5, q6, q7, q8⟩ := hp
          have hc2 : ∀ i : Nat, i < (minL P (P.acc r)).toNat → A2.rs i = pA P (minL P (P.acc r)) (fstA P (P.acc r)) i := fun i hi => by
            rw [hc i (by rw [hb]; omega), hb]
          have hd2 : ∀ i : Nat, i + 1 < (minL P (P.acc r)).toNat → A2.rq i = pRq P (minL P (P.acc r)) (fstA P (P.acc r)) i := fun i hi => by
            rw [hd i (by rw [hb]; omega), hb]
          refine ⟨q1, q2, q3, q4, fun i hi => by rw [hc2 i hi]; exact q5 i hi, fun i j hi hj e => q6 i j hi hj (by rw [← hc2 i hi, ← hc2 j hj]; exact e), by rw [hc2 0 (by omega)]; exact q7, fun i hi => ?_⟩
          rw [hd2 i hi, hc2 i (by omega), hc2 (i + 1) hi]
          exact q8 i hi
        have hpo := hpe
        refine jw_aload_0 (pc := 49) C dX3_tryToPlace_49 ?_
        refine jw_iload_1 (pc := 50) C dX3_tryToPlace_50 ?_
        refine jw_V_V (pc := 51) C (c_X3_placeAlongPath G ad P l A2 T F r (minL P (P.acc r)).toNat hI (by rw [hb]; omega) hpo hl (by omega)) wd_X3_placeAlongPath kml_X3_70 4 rfl rfl rfl rfl (Nat.le_of_ble_eq_true rfl) ⟨by decide, by decide⟩ ⟨Nat.zero_le _, Nat.zero_le _⟩ dX3_tryToPlace_51 rfl (fun u h => ?_)
        subst h
        refine jw_iconst (pc := 54) C dX3_tryToPlace_54 ?_
        refine hret _ _ true ((plS P l r A2.rs A2.rq ((minL P (P.acc r)).toNat - 1)).1, (plS P l r A2.rs A2.rq ((minL P (P.acc r)).toNat - 1)).2, A2) dX3_tryToPlace_55 ?_
        have e : plS P l r A2.rs A2.rq ((minL P (P.acc r)).toNat - 1) = plX P l r := plS_congr (fun j hj => by rw [hc j (by rw [hb]; omega), hb]) (fun j hj => by rw [hd j (by rw [hb]; omega), hb])
        rw [hz, e]
        exact ⟨rfl, rfl, rfl⟩
      · have hz : tryS P l r = (false, P, l) := by rw [tryS, if_neg (fun q => by omega)]
        refine jw_iconst (pc := 47) C dX3_tryToPlace_47 ?_
        exact hret _ _ _ (P, l, A2) dX3_tryToPlace_48 ⟨by rw [hz], by rw [hz], by rw [hz]⟩
  · have hz : tryS P l r = (false, P, l) := by rw [tryS, if_neg (fun q => of_decide_eq_false c_16 q.1)]
    refine jw_iconst (pc := 19) C dX3_tryToPlace_19 ?_
    exact hret _ _ _ (P, l, A) dX3_tryToPlace_20 ⟨by rw [hz], by rw [hz], by rw [hz]⟩
set_option maxRecDepth 100000 in
set_option maxHeartbeats 4000000 in
theorem c_X3_runOnce (G : jG) (ad : Nat → Nat) (P : QP) (l : QL) (A : QA) (T : Nat → Bool) (F : QF) (hI : PI P) (hl : l.sz = 0) : CI G yX3_runOnce cX3_runOnce 4 (jrm 5 112 0 0) [.ref (ad 4)] (wC G ad P l A T F) (fun (z : Int32) (u : QP × QL × QA × (Nat → Bool)) => z = iI (runF P.req.toNat P l (fun _ => false) 0).2.2 ∧ u.1 = (runF P.req.toNat P l (fun _ => false) 0).1 ∧ u.2.1 = (runF P.req.toNat P l (fun _ => false) 0).2.1) (fun u : QP × QL × QA × (Nat → Bool) => wC G ad u.1 u.2.1 u.2.2.1 u.2.2.2 F) 0 0 := by
  refine ci_intro (own := RX3) [some (.ref (ad 4)), none, none, none] (by decide) rfl rfl rfl (Nat.le_of_ble_eq_true rfl) (fun X C hret => ?_)
  have h2 := hI.req
  refine jw_iconst (pc := 0) C dX3_runOnce_0 ?_
  refine jw_istore_1 (pc := 1) C dX3_runOnce_1 rfl ?_
  have K2 : ∀ (n_2 : Nat) (i : Nat) (T1 : Nat → Bool), ((i : Int) ≤ P.req) → (∀ j, j < i → T1 j = false) → 40 - i < n_2 → JW G X 0 0 (wC G ad P l A T1 F) 2 [some (.ref (ad 4)), some (.int (iI (i : Int))), none, none] [] := by
    intro n_2
    induction n_2 with
    | zero => intro i T1 hi hf hm_2; exact absurd hm_2 (Nat.not_lt_zero _)
    | succ n_2 ih_2 =>
      intro i T1 hi hf hm_2
      refine jw_iload_1 (pc := 2) C dX3_runOnce_2 ?_
      refine jw_aload_0 (pc := 3) C dX3_runOnce_3 ?_
      refine fg_X3_15 (pc := 4) C 4 rfl rfl dX3_runOnce_4 ?_
      refine fg_X3_27 (pc := 7) C 1 rfl rfl dX3_runOnce_7 ?_
      refine jw_icmp_ge (pc := 10) (tgt := 26) C dX3_runOnce_10 (by decide) ⟨by omega, by omega⟩ ⟨by omega, by omega⟩ (fun c_10 => ?_) (fun c_10 => ?_)
      · refine jw_iconst (pc := 26) C dX3_runOnce_26 ?_
        refine jw_istore_1 (pc := 27) C dX3_runOnce_27 rfl ?_
        refine jw_iconst (pc := 28) C dX3_runOnce_28 ?_
        refine jw_istore_2 (pc := 29) C dX3_runOnce_29 rfl ?_
        have K30 : ∀ (n_30 : Nat) (i2 : Nat) (P2 : QP) (l2 : QL) (A2 : QA) (T2 : Nat → Bool) (c : Int), (PI P2) → (P2.req = P.req) → ((i2 : Int) ≤ P.req) → (0 ≤ l2.sz ∧ l2.sz ≤ 5 * (i2 : Int)) → (runF (P.req.toNat - i2) P2 l2 T2 c = runF P.req.toNat P l (fun _ => false) 0) → 40 - i2 < n_30 → JW G X 0 0 (wC G ad P2 l2 A2 T2 F) 30 [some (.ref (ad 4)), some (.int (iI c)), some (.int (iI (i2 : Int))), none] [] := by
          intro n_30
          induction n_30 with
          | zero => intro i2 P2 l2 A2 T2 c hI2 hq hi2 hs he hm_30; exact absurd hm_30 (Nat.not_lt_zero _)
          | succ n_30 ih_30 =>
            intro i2 P2 l2 A2 T2 c hI2 hq hi2 hs he hm_30
            refine jw_iload_2 (pc := 30) C dX3_runOnce_30 ?_
            refine jw_aload_0 (pc := 31) C dX3_runOnce_31 ?_
            refine fg_X3_15 (pc := 32) C 4 rfl rfl dX3_runOnce_32 ?_
            refine fg_X3_27 (pc := 35) C 1 rfl rfl dX3_runOnce_35 ?_
            refine jw_icmp_ge (pc := 38) (tgt := 78) C dX3_runOnce_38 (by decide) ⟨by omega, by omega⟩ ⟨by omega, by omega⟩ (fun c_38 => ?_) (fun c_38 => ?_)
            · have hfin : (P2, l2, c) = runF P.req.toNat P l (fun _ => false) 0 := by
                rw [← he, show P.req.toNat - i2 = 0 by omega]
                rfl
              refine jw_iload_1 (pc := 78) C dX3_runOnce_78 ?_
              exact hret _ _ _ (P2, l2, A2, T2) dX3_runOnce_79 ⟨by rw [← hfin], by rw [← hfin], by rw [← hfin]⟩
            · refine jw_aload_0 (pc := 41) C dX3_runOnce_41 ?_
              refine jw_V_I (pc := 42) C (c_X3_nextToTry G ad P2 l2 A2 T2 F hI2) wd_X3_nextToTry kml_X3_33 4 rfl rfl rfl rfl (Nat.le_of_ble_eq_true rfl) ⟨by decide, by decide⟩ ⟨Nat.zero_le _, Nat.zero_le _⟩ dX3_runOnce_42 rfl (fun z u h => ?_)
              obtain ⟨x, hx⟩ : ∃ x, x = nxF P2 T2 P2.req.toNat := ⟨_, rfl⟩
              rw [← hx] at h
              subst h
              have hxr : -1 ≤ x ∧ x ≤ 39 := by
                rcases nxF_spec P2 T2 P2.req.toNat with h | ⟨k, k1, k2, k3, k4⟩ <;> omega
              refine jw_istore_3 (pc := 45) C dX3_runOnce_45 rfl ?_
              refine jw_iload_3 (pc := 46) C dX3_runOnce_46 ?_
              refine jw_iconst (pc := 47) C dX3_runOnce_47 ?_
              refine jw_icmp_ne (pc := 48) (tgt := 54) C dX3_runOnce_48 (by decide) ⟨by omega, by omega⟩ ⟨by omega, by omega⟩ (fun c_48 => ?_) (fun c_48 => ?_)
              · obtain ⟨k, k1, k2, k3, k4⟩ : ∃ k : Nat, k < P2.req.toNat ∧ x = (k : Int) ∧ P2.plc k = -1 ∧ T2 k = false := by
                  rcases nxF_spec P2 T2 P2.req.toNat with h | ⟨k, k1, k2, k3, k4⟩
                  · omega
                  · exact ⟨k, k1, by rw [hx]; exact k2, k3, k4⟩
                subst k2
                refine jw_aload_0 (pc := 54) C dX3_runOnce_54 ?_
                refine fg_X3_9 (pc := 55) C 4 rfl rfl dX3_runOnce_55 ?_
                refine jw_iload_3 (pc := 58) C dX3_runOnce_58 ?_
                refine jw_iconst (pc := 59) C dX3_runOnce_59 ?_
                refine jw_zast (pc := 60) (x := true) C 21 rfl _ rfl (by omega) (by decide) dX3_runOnce_60 ?_
                refine jw_aload_0 (pc := 61) C dX3_runOnce_61 ?_
                refine jw_iload_3 (pc := 62) C dX3_runOnce_62 ?_
                refine jw_V_Z (pc := 63) C (c_X3_tryToPlace G ad P2 l2 A2 (updf T2 k true) F k hI2 (by omega) k3 ⟨hs.1, by omega⟩) wd_X3_tryToPlace kml_X3_37 4 rfl rfl rfl rfl (Nat.le_of_ble_eq_true rfl) ⟨by decide, by decide⟩ ⟨Nat.zero_le _, Nat.zero_le _⟩ dX3_runOnce_63 rfl (fun z u h => ?_)
                obtain ⟨hu1, hu2, hu3⟩ := h
                obtain ⟨t1, t2, t3, t4⟩ := tryS_ok (l := l2) hI2 (show (k : Int) < P2.req by omega) k3
                have t5 := t4 hs.1 (by omega)
                obtain ⟨P3, hP3⟩ : ∃ P3, P3 = (tryS P2 l2 k).2.1 := ⟨_, rfl⟩
                have hI3 : PI P3 := by rw [hP3]; exact t1
                rw [← hP3] at hu2
                rw [hu2]
                have hstep : ∀ c3, c3 = c + (if (tryS P2 l2 k).1 then 1 else 0) → runF (P.req.toNat - (i2 + 1)) P3 u.2.1 (updf T2 k true) c3 = runF P.req.toNat P l (fun _ => false) 0 := by
                  intro c3 e3
                  rw [e3, ← he, show P.req.toNat - i2 = (P.req.toNat - (i2 + 1)) + 1 by omega]
                  conv => rhs; rw [runF]
                  rw [← hx, if_neg (show ¬ (k : Int) = -1 by omega), hP3, hu3, show ((k : Int)).toNat = k by omega]
                refine jw_if_eq_b (pc := 66) (tgt := 72) C dX3_runOnce_66 (by decide) (fun c_66 => ?_) (fun c_66 => ?_)
                · obtain ⟨c3, ec3, hc3⟩ : ∃ c3, c3 = c ∧ runF (P.req.toNat - (i2 + 1)) P3 u.2.1 (updf T2 k true) c3 = runF P.req.toNat P l (fun _ => false) 0 := ⟨c, rfl, hstep c (by rw [← hu1, c_66]; simp)⟩
                  rw [← ec3]
                  try rw [← ec3]
                  refine jw_iinc_2 (pc := 72) C dX3_runOnce_72 rfl ?_
                  refine jw_goto (pc := 75) (tgt := 30) C dX3_runOnce_75 (by decide) ?_
                  exact jw_less (ih_30 (i2 + 1) P3 u.2.1 u.2.2 (updf T2 k true) c3 hI3 (by rw [hP3, (tryS_same P2 l2 k).2.2.2.2.1, hq]) (by omega) (by rw [hu3]; omega) hc3 (by omega)) (by repeat (first | exact trivial | refine And.intro rfl ?_))
                · obtain ⟨c3, ec3, hc3⟩ : ∃ c3, c3 = c + 1 ∧ runF (P.req.toNat - (i2 + 1)) P3 u.2.1 (updf T2 k true) c3 = runF P.req.toNat P l (fun _ => false) 0 := ⟨c + 1, rfl, hstep (c + 1) (by rw [← hu1, c_66]; simp)⟩
                  refine jw_iinc_1 (pc := 69) C dX3_runOnce_69 rfl ?_
                  try rw [← ec3]
                  refine jw_iinc_2 (pc := 72) C dX3_runOnce_72 rfl ?_
                  refine jw_goto (pc := 75) (tgt := 30) C dX3_runOnce_75 (by decide) ?_
                  exact jw_less (ih_30 (i2 + 1) P3 u.2.1 u.2.2 (updf T2 k true) c3 hI3 (by rw [hP3, (tryS_same P2 l2 k).2.2.2.2.1, hq]) (by omega) (by rw [hu3]; omega) hc3 (by omega)) (by repeat (first | exact trivial | refine And.intro rfl ?_))
              · have hfin : (P2, l2, c) = runF P.req.toNat P l (fun _ => false) 0 := by
                  rw [← he, show P.req.toNat - i2 = (P.req.toNat - (i2 + 1)) + 1 by omega, runF, ← hx, if_pos c_48]
                refine jw_goto (pc := 51) (tgt := 78) C dX3_runOnce_51 (by decide) ?_
                refine jw_iload_1 (pc := 78) C dX3_runOnce_78 ?_
                exact hret _ _ _ (P2, l2, A2, T2) dX3_runOnce_79 ⟨by rw [← hfin], by rw [← hfin], by rw [← hfin]⟩
        exact K30 41 0 P l A T1 0 hI rfl (by omega) (by omega) (by
          rw [Nat.sub_zero]
          exact runF_congr _ (fun j hj => hf j (by omega)) (fun P2 l2 r => (tryS_same P2 l2 r).2.2.2.2.1)) (by omega)
      · refine jw_aload_0 (pc := 13) C dX3_runOnce_13 ?_
        refine fg_X3_9 (pc := 14) C 4 rfl rfl dX3_runOnce_14 ?_
        refine jw_iload_1 (pc := 17) C dX3_runOnce_17 ?_
        refine jw_iconst (pc := 18) C dX3_runOnce_18 ?_
        refine jw_zast (pc := 19) (x := false) C 21 rfl _ rfl (by omega) (by decide) dX3_runOnce_19 ?_
        refine jw_iinc_1 (pc := 20) C dX3_runOnce_20 rfl ?_
        refine jw_goto (pc := 23) (tgt := 2) C dX3_runOnce_23 (by decide) ?_
        exact ih_2 (i + 1) (updf T1 i false) (by omega) (updf_fill hf) (by omega)
  exact K2 41 0 T (by omega) (fun j hj => absurd hj (Nat.not_lt_zero _)) (by omega)

