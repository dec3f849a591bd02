set_option maxRecDepth 100000 in
set_option maxHeartbeats 4000000 in
theorem h_gainBy (sa : Nat → Nat) (G : jG) (ad : Nat → Nat) (P : QP) (l : QL) (A : QA) (T : Nat → Bool) (F : QF) (q : Nat) (f : Nat → Int64) (hI : PI P) (r : Nat) (hr : (r : Int) < P.req) (hF : PFe P) : CH G sa yL_gainBy cL_gainBy 4 [(0, 9, 12, 21)] (jrm 9 170 0 0) [.ref (ad 0), .int (iI (r : Int)), .ref q] (wC G ad P l A T F ++ [jAL G q f]) (fun (z : Int32) (u : QF × Int32) => z = iI 0 ∧ gainZ P r u.2) (fun u : QF × Int32 => wC G ad P l A T u.1 ++ [jAL G q (updf f 0 u.2.toInt64)]) 0 0 := by
  refine ch_intro (own := RL) [some (.ref (ad 0)), some (.int (iI (r : Int))), some (.ref q), none] (by decide) rfl rfl rfl (Nat.le_of_ble_eq_true rfl) (fun X C Ev ht hret => ?_)
  refine jw_aload_2 (pc := 0) C dL_gainBy_0 ?_
  refine jw_iconst (pc := 1) C dL_gainBy_1 ?_
  refine jw_aload_0 (pc := 2) C dL_gainBy_2 ?_
  refine jw_iload_1 (pc := 3) C dL_gainBy_3 ?_
  refine jw_sV_I (pc := 4) (wr := [jAL G q f]) C (c_X5_gainBy G ad P l A T F hI r hr hF) wd_X5_gainBy kml_L_66 0 rfl rfl (List.range 30) [30] rfl rfl rfl rfl (by decide) rfl rfl (Nat.le_of_ble_eq_true rfl) ⟨by decide, by decide⟩ ⟨Nat.zero_le _, Nat.zero_le _⟩ dL_gainBy_4 rfl (fun z u h => ?_)
  refine jw_i2l (pc := 7) C dL_gainBy_7 ?_
  refine jw_last (pc := 8) C 0 rfl 0 rfl (by decide) (by decide) dL_gainBy_8 ?_
  refine jw_goto (pc := 9) (tgt := 15) C dL_gainBy_9 (by decide) ?_
  refine jw_iconst (pc := 15) C dL_gainBy_15 ?_
  exact jw_sub ((List.range 30).map (· + 1) ++ [0]) rfl rfl (hret 16 _ (iI 0) (u, z) _ _ (Nat.le_refl _) (Nat.le_refl _) dL_gainBy_16 ⟨rfl, h⟩)
set_option maxRecDepth 100000 in
set_option maxHeartbeats 4000000 in
theorem h_setAccepts (sa : Nat → Nat) (G : jG) (ad : Nat → Nat) (P : QP) (l : QL) (A : QA) (T : Nat → Bool) (F : QF) (q : Nat) (f : Nat → Int64) (hI : PI P) (r : Nat) (hr : (r : Int) < P.req) (hF : PFe P) (hd : P.plc r ≠ -2) (m : Int32) (hm : mOK P m) : CH G sa yL_setAccepts cL_setAccepts 5 [(0, 17, 20, 21), (0, 17, 24, 36), (0, 17, 28, 13)] (jrm 9 170 0 0) [.ref (ad 0), .int (iI (r : Int)), .int m, .ref q] (wC G ad P l A T F ++ [jAL G q f]) (fun (z : Int32) (u : QP × QL × QA × (Nat → Bool)) => z = iI 0 ∧ u.1 = (rn (pAccept P r m) l).1 ∧ u.2.1 = (rn (pAccept P r m) l).2.1) (fun u : QP × QL × QA × (Nat → Bool) => wC G ad u.1 u.2.1 u.2.2.1 u.2.2.2 F ++ [jAL G q (updf f 0 (if decide (0 ≤ (rn (pAccept P r m) l).1.plc r) = true then 1 else 0))]) 0 0 := by
  refine ch_intro (own := RL) [some (.ref (ad 0)), some (.int (iI (r : Int))), some (.int m), some (.ref q), none] (by decide) rfl rfl rfl (Nat.le_of_ble_eq_true rfl) (fun X C Ev ht hret => ?_)
  refine jw_aload_3 (pc := 0) C dL_setAccepts_0 ?_
  refine jw_iconst (pc := 1) C dL_setAccepts_1 ?_
  refine jw_aload_0 (pc := 2) C dL_setAccepts_2 ?_
  refine jw_iload_1 (pc := 3) C dL_setAccepts_3 ?_
  refine jw_iload_2 (pc := 4) C dL_setAccepts_4 ?_
  refine jw_sV_Z (pc := 5) (wr := [jAL G q f]) C (c_X5_setAccepts G ad P l A T F hI r hr hF hd m hm) wd_X5_setAccepts kml_L_38 0 rfl rfl (List.range 30) [30] rfl rfl rfl rfl (by decide) rfl rfl (Nat.le_of_ble_eq_true rfl) ⟨by decide, by decide⟩ ⟨Nat.zero_le _, Nat.zero_le _⟩ dL_setAccepts_5 rfl (fun z u h => ?_)
  obtain ⟨e, hu⟩ := h
  refine jw_if_eq_b (pc := 8) (tgt := 15) C dL_setAccepts_8 (by decide) (fun c_8 => ?_) (fun c_8 => ?_)
  · refine jw_lconst (pc := 15) C dL_setAccepts_15 ?_
    refine jw_last (pc := 16) C 0 rfl 0 rfl (by decide) (by decide) dL_setAccepts_16 ?_
    refine jw_goto (pc := 17) (tgt := 32) C dL_setAccepts_17 (by decide) ?_
    refine jw_iconst (pc := 32) C dL_setAccepts_32 ?_
    have e9 : decide (0 ≤ (rn (pAccept P r m) l).1.plc r) = false := e.symm.trans c_8
    have K := hret 33 [some (.ref (ad 0)), some (.int (iI (r : Int))), some (.int m), some (.ref q), none] (iI 0) u _ _ (Nat.le_refl _) (Nat.le_refl _) dL_setAccepts_33 ⟨rfl, hu⟩
    rw [e9] at K
    exact jw_sub ((List.range 30).map (· + 1) ++ [0]) rfl rfl K
  · refine jw_lconst (pc := 11) C dL_setAccepts_11 ?_
    refine jw_goto (pc := 12) (tgt := 16) C dL_setAccepts_12 (by decide) ?_
    refine jw_last (pc := 16) C 0 rfl 0 rfl (by decide) (by decide) dL_setAccepts_16 ?_
    refine jw_goto (pc := 17) (tgt := 32) C dL_setAccepts_17 (by decide) ?_
    refine jw_iconst (pc := 32) C dL_setAccepts_32 ?_
    have e9 : decide (0 ≤ (rn (pAccept P r m) l).1.plc r) = true := e.symm.trans c_8
    have K := hret 33 [some (.ref (ad 0)), some (.int (iI (r : Int))), some (.int m), some (.ref q), none] (iI 0) u _ _ (Nat.le_refl _) (Nat.le_refl _) dL_setAccepts_33 ⟨rfl, hu⟩
    rw [e9] at K
    exact jw_sub ((List.range 30).map (· + 1) ++ [0]) rfl rfl K
