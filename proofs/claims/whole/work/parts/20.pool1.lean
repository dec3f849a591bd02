set_option maxRecDepth 100000 in
set_option maxHeartbeats 4000000 in
theorem c_X4_maskOfAll (G : jG) (ad : Nat → Nat) (s : QC)  : CI G yX4_maskOfAll cX4_maskOfAll 1 (jrm 0 0 0 0) [.ref (ad 1)] (wC G ad s) (fun (z : Int32) _ => z = iI 1 <<< (iI s.1.res &&& 31) - iI 1) (fun _ : Unit => wC G ad s) 0 0 := by
  refine ci_intro (own := RX4) [some (.ref (ad 1))] (by decide) rfl rfl rfl (Nat.le_of_ble_eq_true rfl) (fun X C hret => ?_)
  refine jw_iconst (pc := 0) C dX4_maskOfAll_0 ?_
  refine jw_aload_0 (pc := 1) C dX4_maskOfAll_1 ?_
  refine fg_X4_46 (pc := 2) C 1 rfl rfl dX4_maskOfAll_2 ?_
  refine jw_ishl (pc := 5) C dX4_maskOfAll_5 ?_
  refine jw_iconst (pc := 6) C dX4_maskOfAll_6 ?_
  refine jw_isub_r (pc := 7) C dX4_maskOfAll_7 ?_
  exact hret _ _ _ () dX4_maskOfAll_8 rfl
set_option maxRecDepth 100000 in
set_option maxHeartbeats 4000000 in
theorem c_X4_isWaiting (G : jG) (ad : Nat → Nat) (s : QC) (r : Nat) (hr : r < 40) (hI : PI s.1) : CZ G yX4_isWaiting cX4_isWaiting 2 (jrm 0 0 0 0) [.ref (ad 1), .int (iI (r : Int))] (wC G ad s) (fun (z : Bool) _ => z = decide (s.1.plc r = -1)) (fun _ : Unit => wC G ad s) 0 0 := by
  refine cz_intro (own := RX4) [some (.ref (ad 1)), some (.int (iI (r : Int)))] (by decide) rfl rfl rfl (Nat.le_of_ble_eq_true rfl) (fun X C hret => ?_)
  have h1 := hI.plc r
  refine jw_aload_0 (pc := 0) C dX4_isWaiting_0 ?_
  refine fg_X4_33 (pc := 1) C 1 rfl rfl dX4_isWaiting_1 ?_
  refine jw_iload_1 (pc := 4) C dX4_isWaiting_4 ?_
  refine jw_iald (pc := 5) C 13 rfl _ rfl (by omega) (by decide) dX4_isWaiting_5 ?_
  refine jw_iconst (pc := 6) C dX4_isWaiting_6 ?_
  refine jw_icmp_ne (pc := 7) (tgt := 14) C dX4_isWaiting_7 (by decide) ⟨by omega, by omega⟩ ⟨by omega, by omega⟩ (fun c_7 => ?_) (fun c_7 => ?_)
  · have hz : false = decide (s.1.plc r = -1) := by simp [c_7]
    refine jw_iconst (pc := 14) C dX4_isWaiting_14 ?_
    exact hret _ _ _ () dX4_isWaiting_15 hz
  · have hz : true = decide (s.1.plc r = -1) := by simp [c_7]
    refine jw_iconst (pc := 10) C dX4_isWaiting_10 ?_
    refine jw_goto (pc := 11) (tgt := 15) C dX4_isWaiting_11 (by decide) ?_
    exact hret _ _ _ () dX4_isWaiting_15 hz
set_option maxRecDepth 100000 in
set_option maxHeartbeats 4000000 in
theorem c_X4_isAssigned (G : jG) (ad : Nat → Nat) (s : QC) (r : Nat) (hr : r < 40) (hI : PI s.1) : CZ G yX4_isAssigned cX4_isAssigned 2 (jrm 0 0 0 0) [.ref (ad 1), .int (iI (r : Int))] (wC G ad s) (fun (z : Bool) _ => z = decide (0 ≤ s.1.plc r)) (fun _ : Unit => wC G ad s) 0 0 := by
  refine cz_intro (own := RX4) [some (.ref (ad 1)), some (.int (iI (r : Int)))] (by decide) rfl rfl rfl (Nat.le_of_ble_eq_true rfl) (fun X C hret => ?_)
  have h1 := hI.plc r
  refine jw_aload_0 (pc := 0) C dX4_isAssigned_0 ?_
  refine fg_X4_33 (pc := 1) C 1 rfl rfl dX4_isAssigned_1 ?_
  refine jw_iload_1 (pc := 4) C dX4_isAssigned_4 ?_
  refine jw_iald (pc := 5) C 13 rfl _ rfl (by omega) (by decide) dX4_isAssigned_5 ?_
  refine jw_if_lt (pc := 6) (tgt := 13) C dX4_isAssigned_6 (by decide) ⟨by omega, by omega⟩ (fun c_6 => ?_) (fun c_6 => ?_)
  · have hz : false = decide (0 ≤ s.1.plc r) := by simp; omega
    refine jw_iconst (pc := 13) C dX4_isAssigned_13 ?_
    exact hret _ _ _ () dX4_isAssigned_14 hz
  · have hz : true = decide (0 ≤ s.1.plc r) := by simp; omega
    refine jw_iconst (pc := 9) C dX4_isAssigned_9 ?_
    refine jw_goto (pc := 10) (tgt := 14) C dX4_isAssigned_10 (by decide) ?_
    exact hret _ _ _ () dX4_isAssigned_14 hz
set_option maxRecDepth 100000 in
set_option maxHeartbeats 4000000 in
theorem c_X4_isDeparted (G : jG) (ad : Nat → Nat) (s : QC) (r : Nat) (hr : r < 40) (hI : PI s.1) : CZ G yX4_isDeparted cX4_isDeparted 2 (jrm 0 0 0 0) [.ref (ad 1), .int (iI (r : Int))] (wC G ad s) (fun (z : Bool) _ => z = decide (s.1.plc r = -2)) (fun _ : Unit => wC G ad s) 0 0 := by
  refine cz_intro (own := RX4) [some (.ref (ad 1)), some (.int (iI (r : Int)))] (by decide) rfl rfl rfl (Nat.le_of_ble_eq_true rfl) (fun X C hret => ?_)
  have h1 := hI.plc r
  refine jw_aload_0 (pc := 0) C dX4_isDeparted_0 ?_
  refine fg_X4_33 (pc := 1) C 1 rfl rfl dX4_isDeparted_1 ?_
  refine jw_iload_1 (pc := 4) C dX4_isDeparted_4 ?_
  refine jw_iald (pc := 5) C 13 rfl _ rfl (by omega) (by decide) dX4_isDeparted_5 ?_
  refine jw_bipush (pc := 6) C dX4_isDeparted_6 (by decide) ?_
  refine jw_icmp_ne (pc := 8) (tgt := 15) C dX4_isDeparted_8 (by decide) ⟨by omega, by omega⟩ ⟨by omega, by omega⟩ (fun c_8 => ?_) (fun c_8 => ?_)
  · have hz : false = decide (s.1.plc r = -2) := by simp [c_8]
    refine jw_iconst (pc := 15) C dX4_isDeparted_15 ?_
    exact hret _ _ _ () dX4_isDeparted_16 hz
  · have hz : true = decide (s.1.plc r = -2) := by simp [c_8]
    refine jw_iconst (pc := 11) C dX4_isDeparted_11 ?_
    refine jw_goto (pc := 12) (tgt := 16) C dX4_isDeparted_12 (by decide) ?_
    exact hret _ _ _ () dX4_isDeparted_16 hz
