set_option maxRecDepth 100000 in
set_option maxHeartbeats 4000000 in
theorem c_X5_lowestResource (G : jG) (m : Int32) : CI G yX5_lowestResource cX5_lowestResource 2 (jrm 1 21 0 0) [.int m] [] (fun (z : Int32) _ => z = iI (lstI (fun k => bt m k) 12)) (fun _ : Unit => []) 0 0 := by
  refine ci_intro (own := RX5) [some (.int m), none] (by decide) rfl rfl rfl (Nat.le_of_ble_eq_true rfl) (fun X C hret => ?_)
  refine jw_iconst (pc := 0) C dX5_lowestResource_0 ?_
  refine jw_istore_1 (pc := 1) C dX5_lowestResource_1 rfl ?_
  have K2 : ∀ (n_2 : Nat) (i : Nat), (i ≤ 12) → (∀ j, j < i → bt m j = false) → 12 - i < n_2 → JW G X 0 0 [] 2 [some (.int m), some (.int (iI (i : Int)))] [] := by
    intro n_2
    induction n_2 with
    | zero => intro i hi hf hm_2; exact absurd hm_2 (Nat.not_lt_zero _)
    | succ n_2 ih_2 =>
      intro i hi hf hm_2
      refine jw_iload_1 (pc := 2) C dX5_lowestResource_2 ?_
      refine jw_bipush (pc := 3) C dX5_lowestResource_3 (by decide) ?_
      refine jw_icmp_ge (pc := 5) (tgt := 24) C dX5_lowestResource_5 (by decide) ⟨by omega, by omega⟩ ⟨by omega, by omega⟩ (fun c_5 => ?_) (fun c_5 => ?_)
      · refine jw_iconst (pc := 24) C dX5_lowestResource_24 ?_
        exact hret _ _ _ () dX5_lowestResource_25 (by rw [lstI_no (fun j hj => hf j (by omega))])
      · refine jw_iload_0 (pc := 8) C dX5_lowestResource_8 ?_
        refine jw_iload_1 (pc := 9) C dX5_lowestResource_9 ?_
        refine jw_S0_Z (pc := 10) C (c_X5_hasBit G m i) ws_X5_hasBit kml_X5_226 rfl rfl (Nat.le_of_ble_eq_true rfl) ⟨by decide, by decide⟩ ⟨Nat.zero_le _, Nat.zero_le _⟩ dX5_lowestResource_10 rfl (fun z u h => ?_)
        rw [bitB_bt m (by omega)] at h
        subst h
        refine jw_if_eq_b (pc := 13) (tgt := 18) C dX5_lowestResource_13 (by decide) (fun c_13 => ?_) (fun c_13 => ?_)
        · have hz : bt m i = false := c_13
          refine jw_iinc_1 (pc := 18) C dX5_lowestResource_18 rfl ?_
          refine jw_goto (pc := 21) (tgt := 2) C dX5_lowestResource_21 (by decide) ?_
          exact ih_2 (i + 1) (by omega) (lt_s hf hz) (by omega)
        · refine jw_iload_1 (pc := 16) C dX5_lowestResource_16 ?_
          exact hret _ _ _ () dX5_lowestResource_17 (by rw [lstI_of (by omega) c_13 hf])
  exact K2 13 0 (by omega) (fun j hj => absurd hj (Nat.not_lt_zero _)) (by omega)
set_option maxRecDepth 100000 in
set_option maxHeartbeats 4000000 in
theorem c_X2_firstMovable (G : jG) (ad : Nat → Nat) (P : QP) (l : QL) (A : QA) (T : Nat → Bool) (F : QF) (a : Int) (t : Int32) (hI : PI P) (ha : -1 ≤ a ∧ a ≤ 11) : CI G yX2_firstMovable cX2_firstMovable 4 (jrm 1 21 0 0) [.ref (ad 3), .int (iI a), .int t] (wC G ad P l A T F) (fun (z : Int32) _ => z = iI (lstI (fun r => ((decide (P.plc r = a) && movB P r) && decide (¬ (P.acc r &&& t) = 0))) P.req.toNat)) (fun _ : Unit => wC G ad P l A T F) 0 0 := by
  refine ci_intro (own := RX2) [some (.ref (ad 3)), some (.int (iI a)), some (.int t), none] (by decide) rfl rfl rfl (Nat.le_of_ble_eq_true rfl) (fun X C hret => ?_)
  have h1 := hI.req
  refine jw_iconst (pc := 0) C dX2_firstMovable_0 ?_
  refine jw_istore_3 (pc := 1) C dX2_firstMovable_1 rfl ?_
  have K2 : ∀ (n_2 : Nat) (i : Nat), ((i : Int) ≤ P.req) → (∀ j, j < i → ((decide (P.plc j = a) && movB P j) && decide (¬ (P.acc j &&& t) = 0)) = false) → 40 - i < n_2 → JW G X 0 0 (wC G ad P l A T F) 2 [some (.ref (ad 3)), some (.int (iI a)), some (.int t), some (.int (iI (i : Int)))] [] := by
    intro n_2
    induction n_2 with
    | zero => intro i hi hf hm_2; exact absurd hm_2 (Nat.not_lt_zero _)
    | succ n_2 ih_2 =>
      intro i hi hf hm_2
      have h2 := hI.plc i
      refine jw_iload_3 (pc := 2) C dX2_firstMovable_2 ?_
      refine jw_aload_0 (pc := 3) C dX2_firstMovable_3 ?_
      refine fg_X2_24 (pc := 4) C 3 rfl rfl dX2_firstMovable_4 ?_
      refine fg_X2_54 (pc := 7) C 1 rfl rfl dX2_firstMovable_7 ?_
      refine jw_icmp_ge (pc := 10) (tgt := 59) C dX2_firstMovable_10 (by decide) ⟨by omega, by omega⟩ ⟨by omega, by omega⟩ (fun c_10 => ?_) (fun c_10 => ?_)
      · refine jw_iconst (pc := 59) C dX2_firstMovable_59 ?_
        exact hret _ _ _ () dX2_firstMovable_60 (by rw [lstI_no (fun j hj => hf j (by omega))])
      · refine jw_aload_0 (pc := 13) C dX2_firstMovable_13 ?_
        refine fg_X2_24 (pc := 14) C 3 rfl rfl dX2_firstMovable_14 ?_
        refine fg_X2_60 (pc := 17) C 1 rfl rfl dX2_firstMovable_17 ?_
        refine jw_iload_3 (pc := 20) C dX2_firstMovable_20 ?_
        refine jw_iald (pc := 21) C 13 rfl _ rfl (by omega) (by decide) dX2_firstMovable_21 ?_
        refine jw_iload_1 (pc := 22) C dX2_firstMovable_22 ?_
        refine jw_icmp_ne (pc := 23) (tgt := 53) C dX2_firstMovable_23 (by decide) ⟨by omega, by omega⟩ ⟨by omega, by omega⟩ (fun c_23 => ?_) (fun c_23 => ?_)
        · have hz : ((decide (P.plc i = a) && movB P i) && decide (¬ (P.acc i &&& t) = 0)) = false := by rw [decide_eq_false c_23]; rfl
          refine jw_iinc_3 (pc := 53) C dX2_firstMovable_53 rfl ?_
          refine jw_goto (pc := 56) (tgt := 2) C dX2_firstMovable_56 (by decide) ?_
          exact ih_2 (i + 1) (by omega) (lt_s hf hz) (by omega)
        · refine jw_aload_0 (pc := 26) C dX2_firstMovable_26 ?_
          refine fg_X2_24 (pc := 27) C 3 rfl rfl dX2_firstMovable_27 ?_
          refine jw_iload_3 (pc := 30) C dX2_firstMovable_30 ?_
          refine jw_V_Z (pc := 31) C (c_X4_canBeMoved G ad P l A T F i (by omega) hI) wd_X4_canBeMoved kml_X2_57 1 rfl rfl rfl rfl (Nat.le_of_ble_eq_true rfl) ⟨by decide, by decide⟩ ⟨Nat.zero_le _, Nat.zero_le _⟩ dX2_firstMovable_31 rfl (fun z u h => ?_)
          have h : z = movB P i := h
          subst h
          refine jw_if_eq_b (pc := 34) (tgt := 53) C dX2_firstMovable_34 (by decide) (fun c_34 => ?_) (fun c_34 => ?_)
          · have hz : ((decide (P.plc i = a) && movB P i) && decide (¬ (P.acc i &&& t) = 0)) = false := by rw [c_34, Bool.and_false]; rfl
            refine jw_iinc_3 (pc := 53) C dX2_firstMovable_53 rfl ?_
            refine jw_goto (pc := 56) (tgt := 2) C dX2_firstMovable_56 (by decide) ?_
            exact ih_2 (i + 1) (by omega) (lt_s hf hz) (by omega)
          · refine jw_aload_0 (pc := 37) C dX2_firstMovable_37 ?_
            refine fg_X2_24 (pc := 38) C 3 rfl rfl dX2_firstMovable_38 ?_
            refine fg_X2_34 (pc := 41) C 1 rfl rfl dX2_firstMovable_41 ?_
            refine jw_iload_3 (pc := 44) C dX2_firstMovable_44 ?_
            refine jw_iald_r (pc := 45) C 12 rfl _ rfl (by omega) (by decide) dX2_firstMovable_45 ?_
            refine jw_iload_2 (pc := 46) C dX2_firstMovable_46 ?_
            refine jw_iand (pc := 47) C dX2_firstMovable_47 ?_
            refine jw_if_eq_r (pc := 48) (tgt := 53) C dX2_firstMovable_48 (by decide) (fun c_48 => ?_) (fun c_48 => ?_)
            · have hz : ((decide (P.plc i = a) && movB P i) && decide (¬ (P.acc i &&& t) = 0)) = false := by rw [decide_eq_false (not_not_intro c_48), Bool.and_false]
              refine jw_iinc_3 (pc := 53) C dX2_firstMovable_53 rfl ?_
              refine jw_goto (pc := 56) (tgt := 2) C dX2_firstMovable_56 (by decide) ?_
              exact ih_2 (i + 1) (by omega) (lt_s hf hz) (by omega)
            · refine jw_iload_3 (pc := 51) C dX2_firstMovable_51 ?_
              exact hret _ _ _ () dX2_firstMovable_52 (by rw [lstI_of (by omega) (by rw [decide_eq_true c_23, c_34, decide_eq_true c_48]; rfl) hf])
  exact K2 41 0 (by omega) (fun j hj => absurd hj (Nat.not_lt_zero _)) (by omega)
set_option maxRecDepth 100000 in
set_option maxHeartbeats 4000000 in
theorem c_X2_leadingTo (G : jG) (ad : Nat → Nat) (P : QP) (l : QL) (A : QA) (T : Nat → Bool) (F : QF) (t : Int32) (hI : PI P) : CI G yX2_leadingTo cX2_leadingTo 4 (jrm 0 0 0 0) [.ref (ad 3), .int t] (wC G ad P l A T F) (fun (z : Int32) _ => ∀ j, j < 32 → bt z j = (decide ((j : Int) < P.res) && decide (¬ (A.suc j &&& t) = 0))) (fun _ : Unit => wC G ad P l A T F) 0 0 := by
  refine ci_intro (own := RX2) [some (.ref (ad 3)), some (.int t), none, none] (by decide) rfl rfl rfl (Nat.le_of_ble_eq_true rfl) (fun X C hret => ?_)
  have h1 := hI.res
  refine jw_iconst (pc := 0) C dX2_leadingTo_0 ?_
  refine jw_istore_2 (pc := 1) C dX2_leadingTo_1 rfl ?_
  refine jw_iconst (pc := 2) C dX2_leadingTo_2 ?_
  refine jw_istore_3 (pc := 3) C dX2_leadingTo_3 rfl ?_
  have K4 : ∀ (n_4 : Nat) (i : Nat) (m : Int32), ((i : Int) ≤ P.res) → (∀ j, j < 32 → bt m j = (decide (j < i) && decide (¬ (A.suc j &&& t) = 0))) → 12 - i < n_4 → JW G X 0 0 (wC G ad P l A T F) 4 [some (.ref (ad 3)), some (.int t), some (.int m), some (.int (iI (i : Int)))] [] := by
    intro n_4
    induction n_4 with
    | zero => intro i m hi hf hm_4; exact absurd hm_4 (Nat.not_lt_zero _)
    | succ n_4 ih_4 =>
      intro i m hi hf hm_4
      refine jw_iload_3 (pc := 4) C dX2_leadingTo_4 ?_
      refine jw_aload_0 (pc := 5) C dX2_leadingTo_5 ?_
      refine fg_X2_24 (pc := 6) C 3 rfl rfl dX2_leadingTo_6 ?_
      refine fg_X2_51 (pc := 9) C 1 rfl rfl dX2_leadingTo_9 ?_
      refine jw_icmp_ge (pc := 12) (tgt := 38) C dX2_leadingTo_12 (by decide) ⟨by omega, by omega⟩ ⟨by omega, by omega⟩ (fun c_12 => ?_) (fun c_12 => ?_)
      · refine jw_iload_2 (pc := 38) C dX2_leadingTo_38 ?_
        have e : (i : Int) = P.res := by omega
        exact hret _ _ _ () dX2_leadingTo_39 (fun j hj => by rw [hf j hj]; congr 1; exact decide_eq_decide.mpr (by omega))
      · refine jw_aload_0 (pc := 15) C dX2_leadingTo_15 ?_
        refine fg_X2_9 (pc := 16) C 3 rfl rfl dX2_leadingTo_16 ?_
        refine jw_iload_3 (pc := 19) C dX2_leadingTo_19 ?_
        refine jw_iald_r (pc := 20) C 17 rfl _ rfl (by omega) (by decide) dX2_leadingTo_20 ?_
        refine jw_iload_1 (pc := 21) C dX2_leadingTo_21 ?_
        refine jw_iand (pc := 22) C dX2_leadingTo_22 ?_
        refine jw_if_eq_r (pc := 23) (tgt := 32) C dX2_leadingTo_23 (by decide) (fun c_23 => ?_) (fun c_23 => ?_)
        · obtain ⟨m2, e2, hz⟩ : ∃ m2, m2 = m ∧ ∀ j, j < 32 → bt m2 j = (decide (j < i + 1) && decide (¬ (A.suc j &&& t) = 0)) := ⟨m, rfl, fun j hj => by
            rw [hf j hj]
            by_cases e : j = i
            · subst e; rw [decide_eq_false (not_not_intro c_23)]; simp
            · have e1 : decide (j < i) = decide (j < i + 1) := decide_eq_decide.mpr (by omega)
              rw [e1]⟩
          rw [← e2]
          refine jw_iinc_3 (pc := 32) C dX2_leadingTo_32 rfl ?_
          refine jw_goto (pc := 35) (tgt := 4) C dX2_leadingTo_35 (by decide) ?_
          exact ih_4 (i + 1) m2 (by omega) hz (by omega)
        · obtain ⟨m2, e2, hz⟩ : ∃ m2, m2 = m ||| iI 1 <<< (iI (i : Int) &&& 31) ∧ ∀ j, j < 32 → bt m2 j = (decide (j < i + 1) && decide (¬ (A.suc j &&& t) = 0)) := ⟨_, rfl, fun j hj => by
            rw [b_or, hf j hj, b_pow (by omega) hj]
            by_cases e : j = i
            · subst e; rw [decide_eq_true c_23]; simp
            · have e1 : decide (j < i) = decide (j < i + 1) := decide_eq_decide.mpr (by omega)
              rw [e1, decide_eq_false e, Bool.or_false]⟩
          refine jw_iload_2 (pc := 26) C dX2_leadingTo_26 ?_
          refine jw_iconst (pc := 27) C dX2_leadingTo_27 ?_
          refine jw_iload_3 (pc := 28) C dX2_leadingTo_28 ?_
          refine jw_ishl (pc := 29) C dX2_leadingTo_29 ?_
          refine jw_ior (pc := 30) C dX2_leadingTo_30 ?_
          rw [← e2]
          refine jw_istore_2 (pc := 31) C dX2_leadingTo_31 rfl ?_
          refine jw_iinc_3 (pc := 32) C dX2_leadingTo_32 rfl ?_
          refine jw_goto (pc := 35) (tgt := 4) C dX2_leadingTo_35 (by decide) ?_
          exact ih_4 (i + 1) m2 (by omega) hz (by omega)
  exact K4 13 0 (iI 0) (by omega) (fun j hj => by rw [show iI 0 = (0 : Int32) from rfl, b_0]; simp) (by omega)
set_option maxRecDepth 100000 in
set_option maxHeartbeats 4000000 in
theorem c_X2_shortestFrom (G : jG) (ad : Nat → Nat) (P : QP) (l : QL) (A : QA) (T : Nat → Bool) (F : QF) (t : Int32) (hI : PI P) : CI G yX2_shortestFrom cX2_shortestFrom 3 (jrm 0 0 0 0) [.ref (ad 3), .int t] (wC G ad P l A T F) (fun (z : Int32) _ => z = iI (lstI (fun k => decide (¬ (A.lay (k + 1) &&& t) = 0)) P.res.toNat + 1)) (fun _ : Unit => wC G ad P l A T F) 0 0 := by
  refine ci_intro (own := RX2) [some (.ref (ad 3)), some (.int t), none] (by decide) rfl rfl rfl (Nat.le_of_ble_eq_true rfl) (fun X C hret => ?_)
  have h1 := hI.res
  refine jw_iconst (pc := 0) C dX2_shortestFrom_0 ?_
  refine jw_istore_2 (pc := 1) C dX2_shortestFrom_1 rfl ?_
  have K2 : ∀ (n_2 : Nat) (i : Nat), ((i : Int) ≤ P.res) → (∀ j, j < i → decide (¬ (A.lay (j + 1) &&& t) = 0) = false) → 12 - i < n_2 → JW G X 0 0 (wC G ad P l A T F) 2 [some (.ref (ad 3)), some (.int t), some (.int (iI ((i : Int) + 1)))] [] := by
    intro n_2
    induction n_2 with
    | zero => intro i hi hf hm_2; exact absurd hm_2 (Nat.not_lt_zero _)
    | succ n_2 ih_2 =>
      intro i hi hf hm_2
      refine jw_iload_2 (pc := 2) C dX2_shortestFrom_2 ?_
      refine jw_aload_0 (pc := 3) C dX2_shortestFrom_3 ?_
      refine fg_X2_24 (pc := 4) C 3 rfl rfl dX2_shortestFrom_4 ?_
      refine fg_X2_51 (pc := 7) C 1 rfl rfl dX2_shortestFrom_7 ?_
      refine jw_icmp_gt (pc := 10) (tgt := 32) C dX2_shortestFrom_10 (by decide) ⟨by omega, by omega⟩ ⟨by omega, by omega⟩ (fun c_10 => ?_) (fun c_10 => ?_)
      · refine jw_iconst (pc := 32) C dX2_shortestFrom_32 ?_
        exact hret _ _ _ () dX2_shortestFrom_33 (by rw [lstI_no (fun j hj => hf j (by omega))]; rfl)
      · refine jw_aload_0 (pc := 13) C dX2_shortestFrom_13 ?_
        refine fg_X2_15 (pc := 14) C 3 rfl rfl dX2_shortestFrom_14 ?_
        refine jw_iload_2 (pc := 17) C dX2_shortestFrom_17 ?_
        refine jw_iald_r (pc := 18) C 18 rfl (i + 1) (by omega) (by omega) (by decide) dX2_shortestFrom_18 ?_
        refine jw_iload_1 (pc := 19) C dX2_shortestFrom_19 ?_
        refine jw_iand (pc := 20) C dX2_shortestFrom_20 ?_
        refine jw_if_eq_r (pc := 21) (tgt := 26) C dX2_shortestFrom_21 (by decide) (fun c_21 => ?_) (fun c_21 => ?_)
        · have hz : decide (¬ (A.lay (i + 1) &&& t) = 0) = false := decide_eq_false (not_not_intro c_21)
          refine jw_iinc_2 (pc := 26) C dX2_shortestFrom_26 rfl ?_
          refine jw_goto (pc := 29) (tgt := 2) C dX2_shortestFrom_29 (by decide) ?_
          exact ih_2 (i + 1) (by omega) (lt_s hf hz) (by omega)
        · refine jw_iload_2 (pc := 24) C dX2_shortestFrom_24 ?_
          exact hret _ _ _ () dX2_shortestFrom_25 (by rw [lstI_of (by omega) (decide_eq_true c_21) hf])
  exact K2 13 0 (by omega) (fun j hj => absurd hj (Nat.not_lt_zero _)) (by omega)
set_option maxRecDepth 100000 in
set_option maxHeartbeats 4000000 in
theorem c_X2_collectSuccessors (G : jG) (ad : Nat → Nat) (P : QP) (l : QL) (A : QA) (T : Nat → Bool) (F : QF) (hI : PI P) : CV G yX2_collectSuccessors cX2_collectSuccessors 2 (jrm 1 21 0 0) [.ref (ad 3)] (wC G ad P l A T F) (fun u : Nat → Int32 => ∀ a : Nat, (a : Int) < P.res → ∀ b, b < 32 → bt (u a) b = exB (fun r => atB P a r && bt (P.acc r) b) P.req.toNat) (fun u : Nat → Int32 => wC G ad P l (u, A.lay, A.rs, A.rq, A.len) T F) 0 0 := by
  refine cv_intro (own := RX2) [some (.ref (ad 3)), none] (by decide) rfl rfl rfl (Nat.le_of_ble_eq_true rfl) (fun X C hret => ?_)
  have h1 := hI.res
  have h2 := hI.req
  refine jw_iconst (pc := 0) C dX2_collectSuccessors_0 ?_
  refine jw_istore_1 (pc := 1) C dX2_collectSuccessors_1 rfl ?_
  have K2 : ∀ (n_2 : Nat) (i : Nat) (q : Nat → Int32), ((i : Int) ≤ P.res) → (∀ a, a < i → q a = iI 0) → 12 - i < n_2 → JW G X 0 0 (wC G ad P l (q, A.lay, A.rs, A.rq, A.len) T F) 2 [some (.ref (ad 3)), some (.int (iI (i : Int)))] [] := by
    intro n_2
    induction n_2 with
    | zero => intro i q hi hf hm_2; exact absurd hm_2 (Nat.not_lt_zero _)
    | succ n_2 ih_2 =>
      intro i q hi hf hm_2
      refine jw_iload_1 (pc := 2) C dX2_collectSuccessors_2 ?_
      refine jw_aload_0 (pc := 3) C dX2_collectSuccessors_3 ?_
      refine fg_X2_24 (pc := 4) C 3 rfl rfl dX2_collectSuccessors_4 ?_
      refine fg_X2_51 (pc := 7) C 1 rfl rfl dX2_collectSuccessors_7 ?_
      refine jw_icmp_ge (pc := 10) (tgt := 26) C dX2_collectSuccessors_10 (by decide) ⟨by omega, by omega⟩ ⟨by omega, by omega⟩ (fun c_10 => ?_) (fun c_10 => ?_)
      · refine jw_iconst (pc := 26) C dX2_collectSuccessors_26 ?_
        refine jw_istore_1 (pc := 27) C dX2_collectSuccessors_27 rfl ?_
        have K28 : ∀ (n_28 : Nat) (i2 : Nat) (q2 : Nat → Int32), ((i2 : Int) ≤ P.req) → (∀ a : Nat, (a : Int) < P.res → ∀ b, b < 32 → bt (q2 a) b = exB (fun r => atB P a r && bt (P.acc r) b) i2) → 40 - i2 < n_28 → JW G X 0 0 (wC G ad P l (q2, A.lay, A.rs, A.rq, A.len) T F) 28 [some (.ref (ad 3)), some (.int (iI (i2 : Int)))] [] := by
          intro n_28
          induction n_28 with
          | zero => intro i2 q2 hi2 hf2 hm_28; exact absurd hm_28 (Nat.not_lt_zero _)
          | succ n_28 ih_28 =>
            intro i2 q2 hi2 hf2 hm_28
            have h3 := hI.plc i2
            have h4 := hI.plr i2
            refine jw_iload_1 (pc := 28) C dX2_collectSuccessors_28 ?_
            refine jw_aload_0 (pc := 29) C dX2_collectSuccessors_29 ?_
            refine fg_X2_24 (pc := 30) C 3 rfl rfl dX2_collectSuccessors_30 ?_
            refine fg_X2_54 (pc := 33) C 1 rfl rfl dX2_collectSuccessors_33 ?_
            refine jw_icmp_ge (pc := 36) (tgt := 82) C dX2_collectSuccessors_36 (by decide) ⟨by omega, by omega⟩ ⟨by omega, by omega⟩ (fun c_36 => ?_) (fun c_36 => ?_)
            · have e : P.req.toNat = i2 := by omega
              exact hret _ _ q2 dX2_collectSuccessors_82 (by rw [e]; exact hf2)
            · refine jw_aload_0 (pc := 39) C dX2_collectSuccessors_39 ?_
              refine fg_X2_24 (pc := 40) C 3 rfl rfl dX2_collectSuccessors_40 ?_
              refine jw_iload_1 (pc := 43) C dX2_collectSuccessors_43 ?_
              refine jw_V_Z (pc := 44) C (c_X4_canBeMoved G ad P l (q2, A.lay, A.rs, A.rq, A.len) T F i2 (by omega) hI) wd_X4_canBeMoved kml_X2_57 1 rfl rfl rfl rfl (Nat.le_of_ble_eq_true rfl) ⟨by decide, by decide⟩ ⟨Nat.zero_le _, Nat.zero_le _⟩ dX2_collectSuccessors_44 rfl (fun z u h => ?_)
              have h : z = movB P i2 := h
              subst h
              refine jw_if_eq_b (pc := 47) (tgt := 76) C dX2_collectSuccessors_47 (by decide) (fun c_47 => ?_) (fun c_47 => ?_)
              · obtain ⟨q3, e3, hz⟩ : ∃ q3, q3 = q2 ∧ ∀ a : Nat, (a : Int) < P.res → ∀ b, b < 32 → bt (q3 a) b = exB (fun r => atB P a r && bt (P.acc r) b) (i2 + 1) := ⟨q2, rfl, fun a ha b hb => by
                  rw [hf2 a ha b hb]
                  simp only [exB, atB, c_47, Bool.and_false, Bool.false_and, Bool.or_false]⟩
                rw [← e3]
                try rw [← e3]
                refine jw_iinc_1 (pc := 76) C dX2_collectSuccessors_76 rfl ?_
                refine jw_goto (pc := 79) (tgt := 28) C dX2_collectSuccessors_79 (by decide) ?_
                exact ih_28 (i2 + 1) q3 (by omega) hz (by omega)
              · have c := of_decide_eq_true c_47
                obtain ⟨q3, e3, hz⟩ : ∃ q3, q3 = updf q2 (P.plc i2).toNat (q2 (P.plc i2).toNat ||| P.acc i2) ∧ ∀ a : Nat, (a : Int) < P.res → ∀ b, b < 32 → bt (q3 a) b = exB (fun r => atB P a r && bt (P.acc r) b) (i2 + 1) := ⟨_, rfl, fun a ha b hb => by
                  show _ = (exB (fun r => atB P a r && bt (P.acc r) b) i2 || (atB P a i2 && bt (P.acc i2) b))
                  rw [← hf2 a ha b hb]
                  by_cases e : a = (P.plc i2).toNat
                  · subst e
                    have e5 : atB P (P.plc i2).toNat i2 = true := by rw [atB, c_47, decide_eq_true (by omega)]; rfl
                    rw [updf_same, b_or, e5, Bool.true_and]
                  · have e5 : atB P a i2 = false := by rw [atB, decide_eq_false (by omega)]; rfl
                    rw [updf_ne _ _ e, e5, Bool.false_and, Bool.or_false]⟩
                refine jw_aload_0 (pc := 50) C dX2_collectSuccessors_50 ?_
                refine fg_X2_9 (pc := 51) C 3 rfl rfl dX2_collectSuccessors_51 ?_
                refine jw_aload_0 (pc := 54) C dX2_collectSuccessors_54 ?_
                refine fg_X2_24 (pc := 55) C 3 rfl rfl dX2_collectSuccessors_55 ?_
                refine fg_X2_60 (pc := 58) C 1 rfl rfl dX2_collectSuccessors_58 ?_
                refine jw_iload_1 (pc := 61) C dX2_collectSuccessors_61 ?_
                refine jw_iald (pc := 62) C 13 rfl _ rfl (by omega) (by decide) dX2_collectSuccessors_62 ?_
                refine jw_dup2 (pc := 63) C dX2_collectSuccessors_63 rfl rfl ?_
                refine jw_iald_r (pc := 64) C 17 rfl (P.plc i2).toNat (by omega) (by omega) (by decide) dX2_collectSuccessors_64 ?_
                refine jw_aload_0 (pc := 65) C dX2_collectSuccessors_65 ?_
                refine fg_X2_24 (pc := 66) C 3 rfl rfl dX2_collectSuccessors_66 ?_
                refine fg_X2_34 (pc := 69) C 1 rfl rfl dX2_collectSuccessors_69 ?_
                refine jw_iload_1 (pc := 72) C dX2_collectSuccessors_72 ?_
                refine jw_iald_r (pc := 73) C 12 rfl _ rfl (by omega) (by decide) dX2_collectSuccessors_73 ?_
                refine jw_ior (pc := 74) C dX2_collectSuccessors_74 ?_
                refine jw_iast_r (pc := 75) C 17 rfl (P.plc i2).toNat (by omega) (by omega) (by decide) dX2_collectSuccessors_75 ?_
                try rw [← e3]
                refine jw_iinc_1 (pc := 76) C dX2_collectSuccessors_76 rfl ?_
                refine jw_goto (pc := 79) (tgt := 28) C dX2_collectSuccessors_79 (by decide) ?_
                exact ih_28 (i2 + 1) q3 (by omega) hz (by omega)
        exact K28 41 0 q (by omega) (fun a ha b hb => by rw [hf a (by omega), show iI 0 = (0 : Int32) from rfl, b_0]; rfl) (by omega)
      · refine jw_aload_0 (pc := 13) C dX2_collectSuccessors_13 ?_
        refine fg_X2_9 (pc := 14) C 3 rfl rfl dX2_collectSuccessors_14 ?_
        refine jw_iload_1 (pc := 17) C dX2_collectSuccessors_17 ?_
        refine jw_iconst (pc := 18) C dX2_collectSuccessors_18 ?_
        refine jw_iast_r (pc := 19) C 17 rfl _ rfl (by omega) (by decide) dX2_collectSuccessors_19 ?_
        refine jw_iinc_1 (pc := 20) C dX2_collectSuccessors_20 rfl ?_
        refine jw_goto (pc := 23) (tgt := 2) C dX2_collectSuccessors_23 (by decide) ?_
        exact ih_2 (i + 1) (updf q i (iI 0)) (by omega) (updf_fill hf) (by omega)
  exact K2 13 0 A.suc (by omega) (fun j hj => absurd hj (Nat.not_lt_zero _)) (by omega)
set_option maxRecDepth 100000 in
set_option maxHeartbeats 4000000 in
theorem c_X2_buildLayers (G : jG) (ad : Nat → Nat) (P : QP) (l : QL) (A : QA) (T : Nat → Bool) (F : QF) (hI : PI P) (hs : ∀ a : Nat, (a : Int) < P.res → ∀ b, b < 32 → bt (A.suc a) b = exB (fun r => atB P a r && bt (P.acc r) b) P.req.toNat) : CV G yX2_buildLayers cX2_buildLayers 3 (jrm 1 23 0 0) [.ref (ad 3)] (wC G ad P l A T F) (fun u : Nat → Int32 => ∀ k : Nat, 1 ≤ k → (k : Int) ≤ P.res → ∀ j, j < 32 → bt (u k) j = decide (dS P j = (k : Int))) (fun u : Nat → Int32 => wC G ad P l (A.suc, u, A.rs, A.rq, A.len) T F) 0 0 := by
  refine cv_intro (own := RX2) [some (.ref (ad 3)), none, none] (by decide) rfl rfl rfl (Nat.le_of_ble_eq_true rfl) (fun X C hret => ?_)
  have h1 := hI.res
  have h2 := hI.req
  refine jw_aload_0 (pc := 0) C dX2_buildLayers_0 ?_
  refine fg_X2_15 (pc := 1) C 3 rfl rfl dX2_buildLayers_1 ?_
  refine jw_iconst (pc := 4) C dX2_buildLayers_4 ?_
  refine jw_iconst (pc := 5) C dX2_buildLayers_5 ?_
  refine jw_iast_r (pc := 6) C 18 rfl 1 rfl (by omega) (by decide) dX2_buildLayers_6 ?_
  refine jw_iconst (pc := 7) C dX2_buildLayers_7 ?_
  refine jw_istore_1 (pc := 8) C dX2_buildLayers_8 rfl ?_
  have K9 : ∀ (n_9 : Nat) (i : Nat) (q : Nat → Int32), ((i : Int) ≤ P.res) → (∀ j, j < 32 → bt (q 1) j = (decide (j < i) && decide (P.load j < P.cap j))) → 12 - i < n_9 → JW G X 0 0 (wC G ad P l (A.suc, q, A.rs, A.rq, A.len) T F) 9 [some (.ref (ad 3)), some (.int (iI (i : Int))), none] [] := by
    intro n_9
    induction n_9 with
    | zero => intro i q hi hf hm_9; exact absurd hm_9 (Nat.not_lt_zero _)
    | succ n_9 ih_9 =>
      intro i q hi hf hm_9
      refine jw_iload_1 (pc := 9) C dX2_buildLayers_9 ?_
      refine jw_aload_0 (pc := 10) C dX2_buildLayers_10 ?_
      refine fg_X2_24 (pc := 11) C 3 rfl rfl dX2_buildLayers_11 ?_
      refine fg_X2_51 (pc := 14) C 1 rfl rfl dX2_buildLayers_14 ?_
      refine jw_icmp_ge (pc := 17) (tgt := 49) C dX2_buildLayers_17 (by decide) ⟨by omega, by omega⟩ ⟨by omega, by omega⟩ (fun c_17 => ?_) (fun c_17 => ?_)
      · refine jw_aload_0 (pc := 49) C dX2_buildLayers_49 ?_
        refine fg_X2_15 (pc := 50) C 3 rfl rfl dX2_buildLayers_50 ?_
        refine jw_iconst (pc := 53) C dX2_buildLayers_53 ?_
        refine jw_iald_r (pc := 54) C 18 rfl 1 rfl (by omega) (by decide) dX2_buildLayers_54 ?_
        refine jw_istore_1 (pc := 55) C dX2_buildLayers_55 rfl ?_
        refine jw_iconst (pc := 56) C dX2_buildLayers_56 ?_
        refine jw_istore_2 (pc := 57) C dX2_buildLayers_57 rfl ?_
        have K58 : ∀ (n_58 : Nat) (k : Nat) (sm : Int32) (q2 : Nat → Int32), (1 ≤ k ∧ k ≤ 12) → (∀ x : Nat, 1 ≤ x → x ≤ k → ∀ j, j < 32 → bt (q2 x) j = (sn P x j && !sn P (x - 1) j)) → (∀ j, j < 32 → bt sm j = sn P k j) → 12 - k < n_58 → JW G X 0 0 (wC G ad P l (A.suc, q2, A.rs, A.rq, A.len) T F) 58 [some (.ref (ad 3)), some (.int sm), some (.int (iI ((k : Int) + 1)))] [] := by
          intro n_58
          induction n_58 with
          | zero => intro k sm q2 hk hf1 hf2 hm_58; exact absurd hm_58 (Nat.not_lt_zero _)
          | succ n_58 ih_58 =>
            intro k sm q2 hk hf1 hf2 hm_58
            refine jw_iload_2 (pc := 58) C dX2_buildLayers_58 ?_
            refine jw_aload_0 (pc := 59) C dX2_buildLayers_59 ?_
            refine fg_X2_24 (pc := 60) C 3 rfl rfl dX2_buildLayers_60 ?_
            refine fg_X2_51 (pc := 63) C 1 rfl rfl dX2_buildLayers_63 ?_
            refine jw_icmp_gt (pc := 66) (tgt := 106) C dX2_buildLayers_66 (by decide) ⟨by omega, by omega⟩ ⟨by omega, by omega⟩ (fun c_66 => ?_) (fun c_66 => ?_)
            · exact hret _ _ q2 dX2_buildLayers_106 (fun x x1 x2 j hj => by
                rw [hf1 x x1 (by omega) j hj]
                apply Bool.eq_iff_iff.mpr
                rw [decide_eq_true_eq, dS_iff hI x1 (by omega)]
                simp)
            · have hk2 : (k : Int) + 1 ≤ P.res := by omega
              refine jw_aload_0 (pc := 69) C dX2_buildLayers_69 ?_
              refine fg_X2_15 (pc := 70) C 3 rfl rfl dX2_buildLayers_70 ?_
              refine jw_iload_2 (pc := 73) C dX2_buildLayers_73 ?_
              refine jw_aload_0 (pc := 74) C dX2_buildLayers_74 ?_
              refine jw_aload_0 (pc := 75) C dX2_buildLayers_75 ?_
              refine fg_X2_15 (pc := 76) C 3 rfl rfl dX2_buildLayers_76 ?_
              refine jw_iload_2 (pc := 79) C dX2_buildLayers_79 ?_
              refine jw_iconst (pc := 80) C dX2_buildLayers_80 ?_
              refine jw_isub (pc := 81) C dX2_buildLayers_81 ?_
              refine jw_iald_r (pc := 82) C 18 rfl k (by omega) (by omega) (by decide) dX2_buildLayers_82 ?_
              refine jw_V_I (pc := 83) C (c_X2_leadingTo G ad P l (A.suc, q2, A.rs, A.rq, A.len) T F (q2 k) hI) wd_X2_leadingTo kml_X2_66 3 rfl rfl rfl rfl (Nat.le_of_ble_eq_true rfl) ⟨by decide, by decide⟩ ⟨Nat.zero_le _, Nat.zero_le _⟩ dX2_buildLayers_83 rfl (fun z u h => ?_)
              have hnew : ∀ j, j < 32 → bt (z &&& (sm ^^^ iI (-1))) j = (sn P (k + 1) j && !sn P k j) := fun j hj => by
                rw [b_and, h j hj, b_not hj, hf2 j hj]
                cases hsk : sn P k j
                · simp only [Bool.not_false, Bool.and_true]
                  apply Bool.eq_iff_iff.mpr
                  rw [sn_succ]
                  simp only [Bool.and_eq_true, decide_eq_true_eq]
                  constructor
                  · rintro ⟨a1, a2⟩
                    refine ⟨a1, Or.inr ?_⟩
                    rw [b_and0] at a2
                    obtain ⟨b, a3⟩ := Classical.not_forall.mp a2
                    obtain ⟨b1, a4⟩ := Classical.not_imp.mp a3
                    rw [Bool.not_eq_false, Bool.and_eq_true, hs j a1 b b1, exB_iff] at a4
                    obtain ⟨⟨r, r1, r2⟩, a5⟩ := a4
                    rw [Bool.and_eq_true] at r2
                    rw [hf1 k (by omega) (by omega) b b1, Bool.and_eq_true] at a5
                    have := sn_lt a5.1
                    exact ⟨r, r1, r2.1, b, by omega, r2.2, a5.1⟩
                  · rintro ⟨a1, a2⟩
                    refine ⟨a1, ?_⟩
                    rcases a2 with a2 | ⟨r, r1, r2, b, b1, b2, b3⟩
                    · exfalso
                      have : sn P 1 j = true := by rw [sn_succ]; exact ⟨a1, Or.inl a2⟩
                      rw [sn_mono (show 1 ≤ k by omega) this] at hsk
                      cases hsk
                    · intro a3
                      rw [b_and0] at a3
                      have a4 := a3 b (by omega)
                      have a5 : bt (A.suc j) b = true := by rw [hs j a1 b (by omega), exB_iff]; exact ⟨r, r1, by rw [r2, b2]; rfl⟩
                      rw [a5, Bool.true_and, hf1 k (by omega) (by omega) b (by omega), b3, Bool.true_and] at a4
                      have a6 : sn P (k - 1) b = true := by simpa using a4
                      have a7 : sn P (k - 1 + 1) j = true := by rw [sn_succ]; exact ⟨a1, Or.inr ⟨r, r1, r2, b, b1, b2, a6⟩⟩
                      rw [show k - 1 + 1 = k by omega, hsk] at a7
                      cases a7
                · simp only [Bool.not_true, Bool.and_false]
              have e4 : (P.res.toNat : Int) = P.res := by omega
              refine jw_iload_1 (pc := 86) C dX2_buildLayers_86 ?_
              refine jw_iconst (pc := 87) C dX2_buildLayers_87 ?_
              refine jw_ixor (pc := 88) C dX2_buildLayers_88 ?_
              refine jw_iand (pc := 89) C dX2_buildLayers_89 ?_
              refine jw_iast_r (pc := 90) C 18 rfl (k + 1) (by omega) (by omega) (by decide) dX2_buildLayers_90 ?_
              refine jw_iload_1 (pc := 91) C dX2_buildLayers_91 ?_
              refine jw_aload_0 (pc := 92) C dX2_buildLayers_92 ?_
              refine fg_X2_15 (pc := 93) C 3 rfl rfl dX2_buildLayers_93 ?_
              refine jw_iload_2 (pc := 96) C dX2_buildLayers_96 ?_
              refine jw_iald_r (pc := 97) C 18 rfl (k + 1) (by omega) (by omega) (by decide) dX2_buildLayers_97 ?_
              refine jw_ior (pc := 98) C dX2_buildLayers_98 ?_
              refine jw_istore_1 (pc := 99) C dX2_buildLayers_99 rfl ?_
              obtain ⟨s3, es3, hz2⟩ : ∃ s3, s3 = sm ||| updf q2 (k + 1) (z &&& (sm ^^^ iI (-1))) (k + 1) ∧ ∀ j, j < 32 → bt s3 j = sn P (k + 1) j := ⟨_, rfl, fun j hj => by
                rw [b_or, updf_same, hnew j hj, hf2 j hj]
                cases hsk : sn P k j
                · simp
                · rw [sn_mono1 k hsk]; simp⟩
              obtain ⟨q3, e3, hz1⟩ : ∃ q3, q3 = updf q2 (k + 1) (z &&& (sm ^^^ iI (-1))) ∧ ∀ x : Nat, 1 ≤ x → x ≤ k + 1 → ∀ j, j < 32 → bt (q3 x) j = (sn P x j && !sn P (x - 1) j) := ⟨_, rfl, fun x x1 x2 j hj => by
                by_cases e : x = k + 1
                · subst e; rw [updf_same, hnew j hj]; rfl
                · rw [updf_ne _ _ e]; exact hf1 x x1 (by omega) j hj⟩
              rw [← es3]
              refine jw_iinc_2 (pc := 100) C dX2_buildLayers_100 rfl ?_
              refine jw_goto (pc := 103) (tgt := 58) C dX2_buildLayers_103 (by decide) ?_
              subst e3
              exact ih_58 (k + 1) s3 _ (by omega) hz1 hz2 (by omega)
        have hq1 : ∀ j, j < 32 → bt (q 1) j = sn P 1 j := fun j hj => by
          rw [hf j hj]
          apply Bool.eq_iff_iff.mpr
          rw [sn_succ]
          simp only [Bool.and_eq_true, decide_eq_true_eq]
          constructor
          · rintro ⟨a1, a2⟩; exact ⟨by omega, Or.inl a2⟩
          · rintro ⟨a1, a2 | ⟨r, -, -, b, -, -, a3⟩⟩
            · exact ⟨by omega, a2⟩
            · cases a3
        exact K58 12 1 (q 1) q (by omega) (fun x x1 x2 j hj => by rw [show x = 1 by omega, hq1 j hj]; simp [sn]) hq1 (by omega)
      · refine jw_aload_0 (pc := 20) C dX2_buildLayers_20 ?_
        refine fg_X2_24 (pc := 21) C 3 rfl rfl dX2_buildLayers_21 ?_
        refine jw_iload_1 (pc := 24) C dX2_buildLayers_24 ?_
        refine jw_V_Z (pc := 25) C (c_X4_resourceHasRoom G ad P l (A.suc, q, A.rs, A.rq, A.len) T F i (by omega) hI) wd_X4_resourceHasRoom kml_X2_63 1 rfl rfl rfl rfl (Nat.le_of_ble_eq_true rfl) ⟨by decide, by decide⟩ ⟨Nat.zero_le _, Nat.zero_le _⟩ dX2_buildLayers_25 rfl (fun z u h => ?_)
        subst h
        refine jw_if_eq_b (pc := 28) (tgt := 43) C dX2_buildLayers_28 (by decide) (fun c_28 => ?_) (fun c_28 => ?_)
        · obtain ⟨q3, e3, hz⟩ : ∃ q3, q3 = q ∧ ∀ j, j < 32 → bt (q3 1) j = (decide (j < i + 1) && decide (P.load j < P.cap j)) := ⟨q, rfl, fun j hj => by
            rw [hf j hj]
            by_cases e : j = i
            · subst e; rw [c_28]; simp
            · have e1 : decide (j < i) = decide (j < i + 1) := decide_eq_decide.mpr (by omega)
              rw [e1]⟩
          rw [← e3]
          try rw [← e3]
          refine jw_iinc_1 (pc := 43) C dX2_buildLayers_43 rfl ?_
          refine jw_goto (pc := 46) (tgt := 9) C dX2_buildLayers_46 (by decide) ?_
          exact ih_9 (i + 1) q3 (by omega) hz (by omega)
        · obtain ⟨q3, e3, hz⟩ : ∃ q3, q3 = updf q 1 (q 1 ||| iI 1 <<< (iI (i : Int) &&& 31)) ∧ ∀ j, j < 32 → bt (q3 1) j = (decide (j < i + 1) && decide (P.load j < P.cap j)) := ⟨_, rfl, fun j hj => by
            rw [updf_same, b_or, hf j hj, b_pow (by omega) hj]
            by_cases e : j = i
            · subst e; rw [c_28]; simp
            · have e1 : decide (j < i) = decide (j < i + 1) := decide_eq_decide.mpr (by omega)
              rw [e1, decide_eq_false e, Bool.or_false]⟩
          refine jw_aload_0 (pc := 31) C dX2_buildLayers_31 ?_
          refine fg_X2_15 (pc := 32) C 3 rfl rfl dX2_buildLayers_32 ?_
          refine jw_iconst (pc := 35) C dX2_buildLayers_35 ?_
          refine jw_dup2 (pc := 36) C dX2_buildLayers_36 rfl rfl ?_
          refine jw_iald_r (pc := 37) C 18 rfl 1 rfl (by omega) (by decide) dX2_buildLayers_37 ?_
          refine jw_iconst (pc := 38) C dX2_buildLayers_38 ?_
          refine jw_iload_1 (pc := 39) C dX2_buildLayers_39 ?_
          refine jw_ishl (pc := 40) C dX2_buildLayers_40 ?_
          refine jw_ior (pc := 41) C dX2_buildLayers_41 ?_
          refine jw_iast_r (pc := 42) C 18 rfl 1 rfl (by omega) (by decide) dX2_buildLayers_42 ?_
          try rw [← e3]
          refine jw_iinc_1 (pc := 43) C dX2_buildLayers_43 rfl ?_
          refine jw_goto (pc := 46) (tgt := 9) C dX2_buildLayers_46 (by decide) ?_
          exact ih_9 (i + 1) q3 (by omega) hz (by omega)
  exact K9 13 0 (updf A.lay 1 (iI 0)) (by omega) (fun j hj => by rw [updf_same, show iI 0 = (0 : Int32) from rfl, b_0]; simp) (by omega)

