set_option maxRecDepth 100000 in
set_option maxHeartbeats 4000000 in
theorem c_X5_isWithin (G : jG) (a b c : Int) (ha : jr a) (hb : jr b) (hc : jr c) : CZ G yX5_isWithin cX5_isWithin 3 (jrm 0 0 0 0) [.int (iI a), .int (iI b), .int (iI c)] [] (fun (z : Bool) _ => z = decide (b ≤ a ∧ a ≤ c)) (fun _ : Unit => []) 0 0 := by
  refine cz_intro (own := RX5) [some (.int (iI a)), some (.int (iI b)), some (.int (iI c))] (by decide) rfl rfl rfl (Nat.le_of_ble_eq_true rfl) (fun X C hret => ?_)
  refine jw_iload_0 (pc := 0) C dX5_isWithin_0 ?_
  refine jw_iload_1 (pc := 1) C dX5_isWithin_1 ?_
  refine jw_icmp_lt (pc := 2) (tgt := 14) C dX5_isWithin_2 (by decide) ha hb (fun c_2 => ?_) (fun c_2 => ?_)
  · have hz : false = decide (b ≤ a ∧ a ≤ c) := by simp; omega
    refine jw_iconst (pc := 14) C dX5_isWithin_14 ?_
    exact hret _ _ _ () dX5_isWithin_15 hz
  · refine jw_iload_0 (pc := 5) C dX5_isWithin_5 ?_
    refine jw_iload_2 (pc := 6) C dX5_isWithin_6 ?_
    refine jw_icmp_gt (pc := 7) (tgt := 14) C dX5_isWithin_7 (by decide) ⟨by omega, by omega⟩ ⟨by omega, by omega⟩ (fun c_7 => ?_) (fun c_7 => ?_)
    · have hz : false = decide (b ≤ a ∧ a ≤ c) := by simp; omega
      refine jw_iconst (pc := 14) C dX5_isWithin_14 ?_
      exact hret _ _ _ () dX5_isWithin_15 hz
    · have hz : true = decide (b ≤ a ∧ a ≤ c) := by simp; omega
      refine jw_iconst (pc := 10) C dX5_isWithin_10 ?_
      refine jw_goto (pc := 11) (tgt := 15) C dX5_isWithin_11 (by decide) ?_
      exact hret _ _ _ () dX5_isWithin_15 hz
set_option maxRecDepth 100000 in
set_option maxHeartbeats 4000000 in
theorem c_X5_hasBit (G : jG) (m : Int32) (k : Nat) : CZ G yX5_hasBit cX5_hasBit 2 (jrm 0 0 0 0) [.int m, .int (iI (k : Int))] [] (fun (z : Bool) _ => z = bitB m k) (fun _ : Unit => []) 0 0 := by
  refine cz_intro (own := RX5) [some (.int m), some (.int (iI (k : Int)))] (by decide) rfl rfl rfl (Nat.le_of_ble_eq_true rfl) (fun X C hret => ?_)
  refine jw_iload_0 (pc := 0) C dX5_hasBit_0 ?_
  refine jw_iload_1 (pc := 1) C dX5_hasBit_1 ?_
  refine jw_ishr (pc := 2) C dX5_hasBit_2 ?_
  refine jw_iconst (pc := 3) C dX5_hasBit_3 ?_
  refine jw_iand (pc := 4) C dX5_hasBit_4 ?_
  refine jw_if_eq_r (pc := 5) (tgt := 12) C dX5_hasBit_5 (by decide) (fun c_5 => ?_) (fun c_5 => ?_)
  · have hz : false = bitB m k := by simp [bitB, c_5]
    refine jw_iconst (pc := 12) C dX5_hasBit_12 ?_
    exact hret _ _ _ () dX5_hasBit_13 hz
  · have hz : true = bitB m k := by simp [bitB, c_5]
    refine jw_iconst (pc := 8) C dX5_hasBit_8 ?_
    refine jw_goto (pc := 9) (tgt := 13) C dX5_hasBit_9 (by decide) ?_
    exact hret _ _ _ () dX5_hasBit_13 hz
set_option maxRecDepth 100000 in
set_option maxHeartbeats 4000000 in
theorem c_X4_maskOfAll (G : jG) (ad : Nat → Nat) (P : QP) (l : QL) (A : QA) (T : Nat → Bool) (F : QF)  : CI G yX4_maskOfAll cX4_maskOfAll 1 (jrm 0 0 0 0) [.ref (ad 1)] (wC G ad P l A T F) (fun (z : Int32) _ => z = iI 1 <<< (iI P.res &&& 31) - iI 1) (fun _ : Unit => wC G ad P l A T F) 0 0 := by
  refine ci_intro (own := RX4) [some (.ref (ad 1))] (by decide) rfl rfl rfl (Nat.le_of_ble_eq_true rfl) (fun X C hret => ?_)
  refine jw_iconst (pc := 0) C dX4_maskOfAll_0 ?_
  refine jw_aload_0 (pc := 1) C dX4_maskOfAll_1 ?_
  refine fg_X4_46 (pc := 2) C 1 rfl rfl dX4_maskOfAll_2 ?_
  refine jw_ishl (pc := 5) C dX4_maskOfAll_5 ?_
  refine jw_iconst (pc := 6) C dX4_maskOfAll_6 ?_
  refine jw_isub_r (pc := 7) C dX4_maskOfAll_7 ?_
  exact hret _ _ _ () dX4_maskOfAll_8 rfl
set_option maxRecDepth 100000 in
set_option maxHeartbeats 4000000 in
theorem c_X4_isWaiting (G : jG) (ad : Nat → Nat) (P : QP) (l : QL) (A : QA) (T : Nat → Bool) (F : QF) (r : Nat) (hr : r < 40) (hI : PI P) : CZ G yX4_isWaiting cX4_isWaiting 2 (jrm 0 0 0 0) [.ref (ad 1), .int (iI (r : Int))] (wC G ad P l A T F) (fun (z : Bool) _ => z = decide (P.plc r = -1)) (fun _ : Unit => wC G ad P l A T F) 0 0 := by
  refine cz_intro (own := RX4) [some (.ref (ad 1)), some (.int (iI (r : Int)))] (by decide) rfl rfl rfl (Nat.le_of_ble_eq_true rfl) (fun X C hret => ?_)
  have h1 := hI.plc r
  refine jw_aload_0 (pc := 0) C dX4_isWaiting_0 ?_
  refine fg_X4_33 (pc := 1) C 1 rfl rfl dX4_isWaiting_1 ?_
  refine jw_iload_1 (pc := 4) C dX4_isWaiting_4 ?_
  refine jw_iald (pc := 5) C 13 rfl _ rfl (by omega) (by decide) dX4_isWaiting_5 ?_
  refine jw_iconst (pc := 6) C dX4_isWaiting_6 ?_
  refine jw_icmp_ne (pc := 7) (tgt := 14) C dX4_isWaiting_7 (by decide) ⟨by omega, by omega⟩ ⟨by omega, by omega⟩ (fun c_7 => ?_) (fun c_7 => ?_)
  · have hz : false = decide (P.plc r = -1) := by simp <;> omega
    refine jw_iconst (pc := 14) C dX4_isWaiting_14 ?_
    exact hret _ _ _ () dX4_isWaiting_15 hz
  · have hz : true = decide (P.plc r = -1) := by simp <;> omega
    refine jw_iconst (pc := 10) C dX4_isWaiting_10 ?_
    refine jw_goto (pc := 11) (tgt := 15) C dX4_isWaiting_11 (by decide) ?_
    exact hret _ _ _ () dX4_isWaiting_15 hz
set_option maxRecDepth 100000 in
set_option maxHeartbeats 4000000 in
theorem c_X4_isAssigned (G : jG) (ad : Nat → Nat) (P : QP) (l : QL) (A : QA) (T : Nat → Bool) (F : QF) (r : Nat) (hr : r < 40) (hI : PI P) : CZ G yX4_isAssigned cX4_isAssigned 2 (jrm 0 0 0 0) [.ref (ad 1), .int (iI (r : Int))] (wC G ad P l A T F) (fun (z : Bool) _ => z = decide (0 ≤ P.plc r)) (fun _ : Unit => wC G ad P l A T F) 0 0 := by
  refine cz_intro (own := RX4) [some (.ref (ad 1)), some (.int (iI (r : Int)))] (by decide) rfl rfl rfl (Nat.le_of_ble_eq_true rfl) (fun X C hret => ?_)
  have h1 := hI.plc r
  refine jw_aload_0 (pc := 0) C dX4_isAssigned_0 ?_
  refine fg_X4_33 (pc := 1) C 1 rfl rfl dX4_isAssigned_1 ?_
  refine jw_iload_1 (pc := 4) C dX4_isAssigned_4 ?_
  refine jw_iald (pc := 5) C 13 rfl _ rfl (by omega) (by decide) dX4_isAssigned_5 ?_
  refine jw_if_lt (pc := 6) (tgt := 13) C dX4_isAssigned_6 (by decide) ⟨by omega, by omega⟩ (fun c_6 => ?_) (fun c_6 => ?_)
  · have hz : false = decide (0 ≤ P.plc r) := by simp <;> omega
    refine jw_iconst (pc := 13) C dX4_isAssigned_13 ?_
    exact hret _ _ _ () dX4_isAssigned_14 hz
  · have hz : true = decide (0 ≤ P.plc r) := by simp <;> omega
    refine jw_iconst (pc := 9) C dX4_isAssigned_9 ?_
    refine jw_goto (pc := 10) (tgt := 14) C dX4_isAssigned_10 (by decide) ?_
    exact hret _ _ _ () dX4_isAssigned_14 hz
set_option maxRecDepth 100000 in
set_option maxHeartbeats 4000000 in
theorem c_X4_isDeparted (G : jG) (ad : Nat → Nat) (P : QP) (l : QL) (A : QA) (T : Nat → Bool) (F : QF) (r : Nat) (hr : r < 40) (hI : PI P) : CZ G yX4_isDeparted cX4_isDeparted 2 (jrm 0 0 0 0) [.ref (ad 1), .int (iI (r : Int))] (wC G ad P l A T F) (fun (z : Bool) _ => z = decide (P.plc r = -2)) (fun _ : Unit => wC G ad P l A T F) 0 0 := by
  refine cz_intro (own := RX4) [some (.ref (ad 1)), some (.int (iI (r : Int)))] (by decide) rfl rfl rfl (Nat.le_of_ble_eq_true rfl) (fun X C hret => ?_)
  have h1 := hI.plc r
  refine jw_aload_0 (pc := 0) C dX4_isDeparted_0 ?_
  refine fg_X4_33 (pc := 1) C 1 rfl rfl dX4_isDeparted_1 ?_
  refine jw_iload_1 (pc := 4) C dX4_isDeparted_4 ?_
  refine jw_iald (pc := 5) C 13 rfl _ rfl (by omega) (by decide) dX4_isDeparted_5 ?_
  refine jw_bipush (pc := 6) C dX4_isDeparted_6 (by decide) ?_
  refine jw_icmp_ne (pc := 8) (tgt := 15) C dX4_isDeparted_8 (by decide) ⟨by omega, by omega⟩ ⟨by omega, by omega⟩ (fun c_8 => ?_) (fun c_8 => ?_)
  · have hz : false = decide (P.plc r = -2) := by simp <;> omega
    refine jw_iconst (pc := 15) C dX4_isDeparted_15 ?_
    exact hret _ _ _ () dX4_isDeparted_16 hz
  · have hz : true = decide (P.plc r = -2) := by simp <;> omega
    refine jw_iconst (pc := 11) C dX4_isDeparted_11 ?_
    refine jw_goto (pc := 12) (tgt := 16) C dX4_isDeparted_12 (by decide) ?_
    exact hret _ _ _ () dX4_isDeparted_16 hz
set_option maxRecDepth 100000 in
set_option maxHeartbeats 4000000 in
theorem c_X4_stateNumber (G : jG) (ad : Nat → Nat) (P : QP) (l : QL) (A : QA) (T : Nat → Bool) (F : QF) (r : Nat) (hr : r < 40) (hI : PI P) : CI G yX4_stateNumber cX4_stateNumber 2 (jrm 1 21 0 0) [.ref (ad 1), .int (iI (r : Int))] (wC G ad P l A T F) (fun (z : Int32) _ => z = iI (stN (P.plc r))) (fun _ : Unit => wC G ad P l A T F) 0 0 := by
  refine ci_intro (own := RX4) [some (.ref (ad 1)), some (.int (iI (r : Int)))] (by decide) rfl rfl rfl (Nat.le_of_ble_eq_true rfl) (fun X C hret => ?_)
  have h1 := hI.plc r
  refine jw_aload_0 (pc := 0) C dX4_stateNumber_0 ?_
  refine jw_iload_1 (pc := 1) C dX4_stateNumber_1 ?_
  refine jw_V_Z (pc := 2) C (c_X4_isWaiting G ad P l A T F r hr hI) wd_X4_isWaiting kml_X4_49 1 rfl rfl rfl rfl (Nat.le_of_ble_eq_true rfl) ⟨by decide, by decide⟩ ⟨Nat.zero_le _, Nat.zero_le _⟩ dX4_stateNumber_2 rfl (fun z u h => ?_)
  subst h
  refine jw_if_eq_b (pc := 5) (tgt := 10) C dX4_stateNumber_5 (by decide) (fun c_5 => ?_) (fun c_5 => ?_)
  · refine jw_aload_0 (pc := 10) C dX4_stateNumber_10 ?_
    refine jw_iload_1 (pc := 11) C dX4_stateNumber_11 ?_
    refine jw_V_Z (pc := 12) C (c_X4_isAssigned G ad P l A T F r hr hI) wd_X4_isAssigned kml_X4_53 1 rfl rfl rfl rfl (Nat.le_of_ble_eq_true rfl) ⟨by decide, by decide⟩ ⟨Nat.zero_le _, Nat.zero_le _⟩ dX4_stateNumber_12 rfl (fun z u h => ?_)
    subst h
    refine jw_if_eq_b (pc := 15) (tgt := 22) C dX4_stateNumber_15 (by decide) (fun c_15 => ?_) (fun c_15 => ?_)
    · have hz : iI 2 = iI (stN (P.plc r)) := by rw [stN, if_neg (of_decide_eq_false c_5), if_neg (of_decide_eq_false c_15)]
      refine jw_iconst (pc := 22) C dX4_stateNumber_22 ?_
      exact hret _ _ _ () dX4_stateNumber_23 hz
    · have hz : iI 1 = iI (stN (P.plc r)) := by rw [stN, if_neg (of_decide_eq_false c_5), if_pos (of_decide_eq_true c_15)]
      refine jw_iconst (pc := 18) C dX4_stateNumber_18 ?_
      refine jw_goto (pc := 19) (tgt := 23) C dX4_stateNumber_19 (by decide) ?_
      exact hret _ _ _ () dX4_stateNumber_23 hz
  · refine jw_iconst (pc := 8) C dX4_stateNumber_8 ?_
    exact hret _ _ _ () dX4_stateNumber_9 (by rw [stN, if_pos (of_decide_eq_true c_5)])
set_option maxRecDepth 100000 in
set_option maxHeartbeats 4000000 in
theorem c_X4_canBeMoved (G : jG) (ad : Nat → Nat) (P : QP) (l : QL) (A : QA) (T : Nat → Bool) (F : QF) (r : Nat) (hr : r < 40) (hI : PI P) : CZ G yX4_canBeMoved cX4_canBeMoved 2 (jrm 0 0 0 0) [.ref (ad 1), .int (iI (r : Int))] (wC G ad P l A T F) (fun (z : Bool) _ => z = decide (0 ≤ P.plc r ∧ P.mov r < P.ml)) (fun _ : Unit => wC G ad P l A T F) 0 0 := by
  refine cz_intro (own := RX4) [some (.ref (ad 1)), some (.int (iI (r : Int)))] (by decide) rfl rfl rfl (Nat.le_of_ble_eq_true rfl) (fun X C hret => ?_)
  have h1 := hI.plc r
  have h2 := hI.mov r
  have h3 := hI.ml
  refine jw_aload_0 (pc := 0) C dX4_canBeMoved_0 ?_
  refine fg_X4_33 (pc := 1) C 1 rfl rfl dX4_canBeMoved_1 ?_
  refine jw_iload_1 (pc := 4) C dX4_canBeMoved_4 ?_
  refine jw_iald (pc := 5) C 13 rfl _ rfl (by omega) (by decide) dX4_canBeMoved_5 ?_
  refine jw_if_lt (pc := 6) (tgt := 26) C dX4_canBeMoved_6 (by decide) ⟨by omega, by omega⟩ (fun c_6 => ?_) (fun c_6 => ?_)
  · have hz : false = decide (0 ≤ P.plc r ∧ P.mov r < P.ml) := by simp <;> omega
    refine jw_iconst (pc := 26) C dX4_canBeMoved_26 ?_
    exact hret _ _ _ () dX4_canBeMoved_27 hz
  · refine jw_aload_0 (pc := 9) C dX4_canBeMoved_9 ?_
    refine fg_X4_36 (pc := 10) C 1 rfl rfl dX4_canBeMoved_10 ?_
    refine jw_iload_1 (pc := 13) C dX4_canBeMoved_13 ?_
    refine jw_iald (pc := 14) C 14 rfl _ rfl (by omega) (by decide) dX4_canBeMoved_14 ?_
    refine jw_aload_0 (pc := 15) C dX4_canBeMoved_15 ?_
    refine fg_X4_43 (pc := 16) C 1 rfl rfl dX4_canBeMoved_16 ?_
    refine jw_icmp_ge (pc := 19) (tgt := 26) C dX4_canBeMoved_19 (by decide) ⟨by omega, by omega⟩ ⟨by omega, by omega⟩ (fun c_19 => ?_) (fun c_19 => ?_)
    · have hz : false = decide (0 ≤ P.plc r ∧ P.mov r < P.ml) := by simp <;> omega
      refine jw_iconst (pc := 26) C dX4_canBeMoved_26 ?_
      exact hret _ _ _ () dX4_canBeMoved_27 hz
    · have hz : true = decide (0 ≤ P.plc r ∧ P.mov r < P.ml) := by simp <;> omega
      refine jw_iconst (pc := 22) C dX4_canBeMoved_22 ?_
      refine jw_goto (pc := 23) (tgt := 27) C dX4_canBeMoved_23 (by decide) ?_
      exact hret _ _ _ () dX4_canBeMoved_27 hz
set_option maxRecDepth 100000 in
set_option maxHeartbeats 4000000 in
theorem c_X4_resourceHasRoom (G : jG) (ad : Nat → Nat) (P : QP) (l : QL) (A : QA) (T : Nat → Bool) (F : QF) (a : Nat) (ha : a < 12) (hI : PI P) : CZ G yX4_resourceHasRoom cX4_resourceHasRoom 2 (jrm 0 0 0 0) [.ref (ad 1), .int (iI (a : Int))] (wC G ad P l A T F) (fun (z : Bool) _ => z = decide (P.load a < P.cap a)) (fun _ : Unit => wC G ad P l A T F) 0 0 := by
  refine cz_intro (own := RX4) [some (.ref (ad 1)), some (.int (iI (a : Int)))] (by decide) rfl rfl rfl (Nat.le_of_ble_eq_true rfl) (fun X C hret => ?_)
  have h1 := hI.load a
  have h2 := hI.cap a
  refine jw_aload_0 (pc := 0) C dX4_resourceHasRoom_0 ?_
  refine fg_X4_15 (pc := 1) C 1 rfl rfl dX4_resourceHasRoom_1 ?_
  refine jw_iload_1 (pc := 4) C dX4_resourceHasRoom_4 ?_
  refine jw_iald (pc := 5) C 7 rfl _ rfl (by omega) (by decide) dX4_resourceHasRoom_5 ?_
  refine jw_aload_0 (pc := 6) C dX4_resourceHasRoom_6 ?_
  refine fg_X4_9 (pc := 7) C 1 rfl rfl dX4_resourceHasRoom_7 ?_
  refine jw_iload_1 (pc := 10) C dX4_resourceHasRoom_10 ?_
  refine jw_iald (pc := 11) C 6 rfl _ rfl (by omega) (by decide) dX4_resourceHasRoom_11 ?_
  refine jw_icmp_ge (pc := 12) (tgt := 19) C dX4_resourceHasRoom_12 (by decide) ⟨by omega, by omega⟩ ⟨by omega, by omega⟩ (fun c_12 => ?_) (fun c_12 => ?_)
  · have hz : false = decide (P.load a < P.cap a) := by simp <;> omega
    refine jw_iconst (pc := 19) C dX4_resourceHasRoom_19 ?_
    exact hret _ _ _ () dX4_resourceHasRoom_20 hz
  · have hz : true = decide (P.load a < P.cap a) := by simp <;> omega
    refine jw_iconst (pc := 15) C dX4_resourceHasRoom_15 ?_
    refine jw_goto (pc := 16) (tgt := 20) C dX4_resourceHasRoom_16 (by decide) ?_
    exact hret _ _ _ () dX4_resourceHasRoom_20 hz
set_option maxRecDepth 100000 in
set_option maxHeartbeats 4000000 in
theorem c_X4_groupHasRoom (G : jG) (ad : Nat → Nat) (P : QP) (l : QL) (A : QA) (T : Nat → Bool) (F : QF) (g : Nat) (hg : g < 4) (hI : PI P) : CZ G yX4_groupHasRoom cX4_groupHasRoom 2 (jrm 0 0 0 0) [.ref (ad 1), .int (iI (g : Int))] (wC G ad P l A T F) (fun (z : Bool) _ => z = decide (P.asg g < P.quo g)) (fun _ : Unit => wC G ad P l A T F) 0 0 := by
  refine cz_intro (own := RX4) [some (.ref (ad 1)), some (.int (iI (g : Int)))] (by decide) rfl rfl rfl (Nat.le_of_ble_eq_true rfl) (fun X C hret => ?_)
  have h1 := hI.asg g
  have h2 := hI.quo g
  refine jw_aload_0 (pc := 0) C dX4_groupHasRoom_0 ?_
  refine fg_X4_24 (pc := 1) C 1 rfl rfl dX4_groupHasRoom_1 ?_
  refine jw_iload_1 (pc := 4) C dX4_groupHasRoom_4 ?_
  refine jw_iald (pc := 5) C 10 rfl _ rfl (by omega) (by decide) dX4_groupHasRoom_5 ?_
  refine jw_aload_0 (pc := 6) C dX4_groupHasRoom_6 ?_
  refine fg_X4_18 (pc := 7) C 1 rfl rfl dX4_groupHasRoom_7 ?_
  refine jw_iload_1 (pc := 10) C dX4_groupHasRoom_10 ?_
  refine jw_iald (pc := 11) C 8 rfl _ rfl (by omega) (by decide) dX4_groupHasRoom_11 ?_
  refine jw_icmp_ge (pc := 12) (tgt := 19) C dX4_groupHasRoom_12 (by decide) ⟨by omega, by omega⟩ ⟨by omega, by omega⟩ (fun c_12 => ?_) (fun c_12 => ?_)
  · have hz : false = decide (P.asg g < P.quo g) := by simp <;> omega
    refine jw_iconst (pc := 19) C dX4_groupHasRoom_19 ?_
    exact hret _ _ _ () dX4_groupHasRoom_20 hz
  · have hz : true = decide (P.asg g < P.quo g) := by simp <;> omega
    refine jw_iconst (pc := 15) C dX4_groupHasRoom_15 ?_
    refine jw_goto (pc := 16) (tgt := 20) C dX4_groupHasRoom_16 (by decide) ?_
    exact hret _ _ _ () dX4_groupHasRoom_20 hz
