set_option maxRecDepth 100000 in
set_option maxHeartbeats 4000000 in
theorem h_addResource (sa : Nat → Nat) (G : jG) (ad : Nat → Nat) (P : QP) (l : QL) (A : QA) (T : Nat → Bool) (F : QF) (q : Nat) (f : Nat → Int64) (hI : PI P) (hF : PFe P) (c : Int) (hc : 0 ≤ c ∧ c ≤ 4) (hr : P.res < 12) : CH G sa yL_addResource cL_addResource 4 [(0, 9, 12, 13), (0, 9, 15, 15)] (jrm 9 170 0 0) [.ref (ad 0), .int (iI c), .ref q] (wC G ad P l A T F ++ [jAL G q f]) (fun (z : Int32) (u : QP × QL × QA × (Nat → Bool)) => z = iI 0 ∧ u.1 = (rn (pOpen P c) l).1 ∧ u.2.1 = (rn (pOpen P c) l).2.1) (fun u : QP × QL × QA × (Nat → Bool) => wC G ad u.1 u.2.1 u.2.2.1 u.2.2.2 F ++ [jAL G q (updf f 0 (iI (P.res)).toInt64)]) 0 0 := by
  refine ch_intro (own := RL) [some (.ref (ad 0)), some (.int (iI c)), some (.ref q), none] (by decide) rfl rfl rfl (Nat.le_of_ble_eq_true rfl) (fun X C Ev ht hret => ?_)
  refine jw_aload_2 (pc := 0) C dL_addResource_0 ?_
  refine jw_iconst (pc := 1) C dL_addResource_1 ?_
  refine jw_aload_0 (pc := 2) C dL_addResource_2 ?_
  refine jw_iload_1 (pc := 3) C dL_addResource_3 ?_
  refine jw_sV_I (pc := 4) (wr := [jAL G q f]) C (c_X5_addResource G ad P l A T F hI hF c hc hr) wd_X5_addResource kml_L_7 0 rfl rfl (List.range 30) [30] rfl rfl rfl rfl (by decide) rfl rfl (Nat.le_of_ble_eq_true rfl) ⟨by decide, by decide⟩ ⟨Nat.zero_le _, Nat.zero_le _⟩ dL_addResource_4 rfl (fun z u h => ?_)
  obtain ⟨e, hu⟩ := h
  subst e
  refine jw_i2l (pc := 7) C dL_addResource_7 ?_
  refine jw_last (pc := 8) C 0 rfl 0 rfl (by decide) (by decide) dL_addResource_8 ?_
  refine jw_goto (pc := 9) (tgt := 18) C dL_addResource_9 (by decide) ?_
  refine jw_iconst (pc := 18) C dL_addResource_18 ?_
  exact jw_sub ((List.range 30).map (· + 1) ++ [0]) rfl rfl (hret 19 _ (iI 0) u _ _ (Nat.le_refl _) (Nat.le_refl _) dL_addResource_19 ⟨rfl, hu⟩)
set_option maxRecDepth 100000 in
set_option maxHeartbeats 4000000 in
theorem h_setCapacity (sa : Nat → Nat) (G : jG) (ad : Nat → Nat) (P : QP) (l : QL) (A : QA) (T : Nat → Bool) (F : QF) (q : Nat) (f : Nat → Int64) (hI : PI P) (hF : PFe P) (a : Nat) (ha : (a : Int) < P.res) (c : Int) (hc : 0 ≤ c ∧ c ≤ 4) : CH G sa yL_setCapacity cL_setCapacity 5 [(0, 10, 13, 21), (0, 10, 17, 13)] (jrm 9 170 0 0) [.ref (ad 0), .int (iI (a : Int)), .int (iI c), .ref q] (wC G ad P l A T F ++ [jAL G q f]) (fun (z : Int32) (u : QP × QL × QA × (Nat → Bool)) => z = iI 0 ∧ u.1 = (rn (pBackC a P.req.toNat (pCap P a c) 0).1 l).1 ∧ u.2.1 = (rn (pBackC a P.req.toNat (pCap P a c) 0).1 l).2.1) (fun u : QP × QL × QA × (Nat → Bool) => wC G ad u.1 u.2.1 u.2.2.1 u.2.2.2 F ++ [jAL G q (updf f 0 (iI ((pBackC a P.req.toNat (pCap P a c) 0).2)).toInt64)]) 0 0 := by
  refine ch_intro (own := RL) [some (.ref (ad 0)), some (.int (iI (a : Int))), some (.int (iI c)), some (.ref q), none] (by decide) rfl rfl rfl (Nat.le_of_ble_eq_true rfl) (fun X C Ev ht hret => ?_)
  refine jw_aload_3 (pc := 0) C dL_setCapacity_0 ?_
  refine jw_iconst (pc := 1) C dL_setCapacity_1 ?_
  refine jw_aload_0 (pc := 2) C dL_setCapacity_2 ?_
  refine jw_iload_1 (pc := 3) C dL_setCapacity_3 ?_
  refine jw_iload_2 (pc := 4) C dL_setCapacity_4 ?_
  refine jw_sV_I (pc := 5) (wr := [jAL G q f]) C (c_X5_setCapacity G ad P l A T F hI hF a ha c hc) wd_X5_setCapacity kml_L_17 0 rfl rfl (List.range 30) [30] rfl rfl rfl rfl (by decide) rfl rfl (Nat.le_of_ble_eq_true rfl) ⟨by decide, by decide⟩ ⟨Nat.zero_le _, Nat.zero_le _⟩ dL_setCapacity_5 rfl (fun z u h => ?_)
  obtain ⟨e, hu⟩ := h
  subst e
  refine jw_i2l (pc := 8) C dL_setCapacity_8 ?_
  refine jw_last (pc := 9) C 0 rfl 0 rfl (by decide) (by decide) dL_setCapacity_9 ?_
  refine jw_goto (pc := 10) (tgt := 21) C dL_setCapacity_10 (by decide) ?_
  refine jw_iconst (pc := 21) C dL_setCapacity_21 ?_
  exact jw_sub ((List.range 30).map (· + 1) ++ [0]) rfl rfl (hret 22 _ (iI 0) u _ _ (Nat.le_refl _) (Nat.le_refl _) dL_setCapacity_22 ⟨rfl, hu⟩)
set_option maxRecDepth 100000 in
set_option maxHeartbeats 4000000 in
theorem h_setGroup (sa : Nat → Nat) (G : jG) (ad : Nat → Nat) (P : QP) (l : QL) (A : QA) (T : Nat → Bool) (F : QF) (q : Nat) (f : Nat → Int64) (hI : PI P) (hF : PFe P) (a : Nat) (ha : (a : Int) < 4) (x : Int) (hx : 0 ≤ x ∧ x ≤ 40) (v : Int) (hv : 1 ≤ v ∧ v ≤ 10) : CH G sa yL_setGroup cL_setGroup 6 [(0, 12, 15, 21), (0, 12, 19, 13)] (jrm 9 170 0 0) [.ref (ad 0), .int (iI (a : Int)), .int (iI x), .int (iI v), .ref q] (wC G ad P l A T F ++ [jAL G q f]) (fun (z : Int32) (u : QP × QL × QA × (Nat → Bool)) => z = iI 0 ∧ u.1 = (rn (pBackQ a P.req.toNat (pGrp P a x v) 0).1 l).1 ∧ u.2.1 = (rn (pBackQ a P.req.toNat (pGrp P a x v) 0).1 l).2.1) (fun u : QP × QL × QA × (Nat → Bool) => wC G ad u.1 u.2.1 u.2.2.1 u.2.2.2 F ++ [jAL G q (updf f 0 (iI ((pBackQ a P.req.toNat (pGrp P a x v) 0).2)).toInt64)]) 0 0 := by
  refine ch_intro (own := RL) [some (.ref (ad 0)), some (.int (iI (a : Int))), some (.int (iI x)), some (.int (iI v)), some (.ref q), none] (by decide) rfl rfl rfl (Nat.le_of_ble_eq_true rfl) (fun X C Ev ht hret => ?_)
  refine jw_aload_4 (pc := 0) C dL_setGroup_0 ?_
  refine jw_iconst (pc := 2) C dL_setGroup_2 ?_
  refine jw_aload_0 (pc := 3) C dL_setGroup_3 ?_
  refine jw_iload_1 (pc := 4) C dL_setGroup_4 ?_
  refine jw_iload_2 (pc := 5) C dL_setGroup_5 ?_
  refine jw_iload_3 (pc := 6) C dL_setGroup_6 ?_
  refine jw_sV_I (pc := 7) (wr := [jAL G q f]) C (c_X5_setGroup G ad P l A T F hI hF a ha x hx v hv) wd_X5_setGroup kml_L_23 0 rfl rfl (List.range 30) [30] rfl rfl rfl rfl (by decide) rfl rfl (Nat.le_of_ble_eq_true rfl) ⟨by decide, by decide⟩ ⟨Nat.zero_le _, Nat.zero_le _⟩ dL_setGroup_7 rfl (fun z u h => ?_)
  obtain ⟨e, hu⟩ := h
  subst e
  refine jw_i2l (pc := 10) C dL_setGroup_10 ?_
  refine jw_last (pc := 11) C 0 rfl 0 rfl (by decide) (by decide) dL_setGroup_11 ?_
  refine jw_goto (pc := 12) (tgt := 23) C dL_setGroup_12 (by decide) ?_
  refine jw_iconst (pc := 23) C dL_setGroup_23 ?_
  exact jw_sub ((List.range 30).map (· + 1) ++ [0]) rfl rfl (hret 24 _ (iI 0) u _ _ (Nat.le_refl _) (Nat.le_refl _) dL_setGroup_24 ⟨rfl, hu⟩)
set_option maxRecDepth 100000 in
set_option maxHeartbeats 4000000 in
theorem h_setLimits (sa : Nat → Nat) (G : jG) (ad : Nat → Nat) (P : QP) (l : QL) (A : QA) (T : Nat → Bool) (F : QF) (q : Nat) (f : Nat → Int64) (hI : PI P) (hF : PFe P) (x : Int) (hx : 0 ≤ x ∧ x ≤ 5) (y : Int) (hy : 0 ≤ y ∧ y ≤ 20) : CH G sa yL_setLimits cL_setLimits 5 [(0, 10, 13, 13)] (jrm 9 170 0 0) [.ref (ad 0), .int (iI x), .int (iI y), .ref q] (wC G ad P l A T F ++ [jAL G q f]) (fun (z : Int32) (u : QP × QL × QA × (Nat → Bool)) => z = iI 0 ∧ u.1 = (rn (pLim P x y) l).1 ∧ u.2.1 = (rn (pLim P x y) l).2.1) (fun u : QP × QL × QA × (Nat → Bool) => wC G ad u.1 u.2.1 u.2.2.1 u.2.2.2 F ++ [jAL G q (updf f 0 (iI ((rn (pLim P x y) l).2.2)).toInt64)]) 0 0 := by
  refine ch_intro (own := RL) [some (.ref (ad 0)), some (.int (iI x)), some (.int (iI y)), some (.ref q), none] (by decide) rfl rfl rfl (Nat.le_of_ble_eq_true rfl) (fun X C Ev ht hret => ?_)
  refine jw_aload_3 (pc := 0) C dL_setLimits_0 ?_
  refine jw_iconst (pc := 1) C dL_setLimits_1 ?_
  refine jw_aload_0 (pc := 2) C dL_setLimits_2 ?_
  refine jw_iload_1 (pc := 3) C dL_setLimits_3 ?_
  refine jw_iload_2 (pc := 4) C dL_setLimits_4 ?_
  refine jw_sV_I (pc := 5) (wr := [jAL G q f]) C (c_X5_setLimits G ad P l A T F hI hF x hx y hy) wd_X5_setLimits kml_L_27 0 rfl rfl (List.range 30) [30] rfl rfl rfl rfl (by decide) rfl rfl (Nat.le_of_ble_eq_true rfl) ⟨by decide, by decide⟩ ⟨Nat.zero_le _, Nat.zero_le _⟩ dL_setLimits_5 rfl (fun z u h => ?_)
  obtain ⟨e, hu⟩ := h
  subst e
  refine jw_i2l (pc := 8) C dL_setLimits_8 ?_
  refine jw_last (pc := 9) C 0 rfl 0 rfl (by decide) (by decide) dL_setLimits_9 ?_
  refine jw_goto (pc := 10) (tgt := 17) C dL_setLimits_10 (by decide) ?_
  refine jw_iconst (pc := 17) C dL_setLimits_17 ?_
  exact jw_sub ((List.range 30).map (· + 1) ++ [0]) rfl rfl (hret 18 _ (iI 0) u _ _ (Nat.le_refl _) (Nat.le_refl _) dL_setLimits_18 ⟨rfl, hu⟩)
set_option maxRecDepth 100000 in
set_option maxHeartbeats 4000000 in
theorem h_arrive (sa : Nat → Nat) (G : jG) (ad : Nat → Nat) (P : QP) (l : QL) (A : QA) (T : Nat → Bool) (F : QF) (q : Nat) (f : Nat → Int64) (hI : PI P) (hF : PFe P) (a : Nat) (ha : (a : Int) < 4) (m : Int32) (hm : mOK P m) (hq : P.req < 40) : CH G sa yL_arrive cL_arrive 5 [(0, 10, 13, 21), (0, 10, 17, 13), (0, 10, 21, 15)] (jrm 9 170 0 0) [.ref (ad 0), .int (iI (a : Int)), .int m, .ref q] (wC G ad P l A T F ++ [jAL G q f]) (fun (z : Int32) (u : QP × QL × QA) => z = iI 0 ∧ u.1 = (tryS (pAdmit P (a : Int) m) (l.1, l.2.1, 0) P.req.toNat).2.1 ∧ u.2.1 = (tryS (pAdmit P (a : Int) m) (l.1, l.2.1, 0) P.req.toNat).2.2) (fun u : QP × QL × QA => wC G ad u.1 u.2.1 u.2.2 T F ++ [jAL G q (updf f 0 (iI (P.req)).toInt64)]) 0 0 := by
  refine ch_intro (own := RL) [some (.ref (ad 0)), some (.int (iI (a : Int))), some (.int m), some (.ref q), none] (by decide) rfl rfl rfl (Nat.le_of_ble_eq_true rfl) (fun X C Ev ht hret => ?_)
  refine jw_aload_3 (pc := 0) C dL_arrive_0 ?_
  refine jw_iconst (pc := 1) C dL_arrive_1 ?_
  refine jw_aload_0 (pc := 2) C dL_arrive_2 ?_
  refine jw_iload_1 (pc := 3) C dL_arrive_3 ?_
  refine jw_iload_2 (pc := 4) C dL_arrive_4 ?_
  refine jw_sV_I (pc := 5) (wr := [jAL G q f]) C (c_X5_arrive G ad P l A T F hI hF a ha m hm hq) wd_X5_arrive kml_L_30 0 rfl rfl (List.range 30) [30] rfl rfl rfl rfl (by decide) rfl rfl (Nat.le_of_ble_eq_true rfl) ⟨by decide, by decide⟩ ⟨Nat.zero_le _, Nat.zero_le _⟩ dL_arrive_5 rfl (fun z u h => ?_)
  obtain ⟨e, hu⟩ := h
  subst e
  refine jw_i2l (pc := 8) C dL_arrive_8 ?_
  refine jw_last (pc := 9) C 0 rfl 0 rfl (by decide) (by decide) dL_arrive_9 ?_
  refine jw_goto (pc := 10) (tgt := 25) C dL_arrive_10 (by decide) ?_
  refine jw_iconst (pc := 25) C dL_arrive_25 ?_
  exact jw_sub ((List.range 30).map (· + 1) ++ [0]) rfl rfl (hret 26 _ (iI 0) u _ _ (Nat.le_refl _) (Nat.le_refl _) dL_arrive_26 ⟨rfl, hu⟩)
set_option maxRecDepth 100000 in
set_option maxHeartbeats 4000000 in
theorem h_depart (sa : Nat → Nat) (G : jG) (ad : Nat → Nat) (P : QP) (l : QL) (A : QA) (T : Nat → Bool) (F : QF) (q : Nat) (f : Nat → Int64) (hI : PI P) (r : Nat) (hr : (r : Int) < P.req) (hF : PFe P) (hd : P.plc r ≠ -2) : CH G sa yL_depart cL_depart 4 [(0, 9, 12, 21), (0, 9, 15, 36)] (jrm 9 170 0 0) [.ref (ad 0), .int (iI (r : Int)), .ref q] (wC G ad P l A T F ++ [jAL G q f]) (fun (z : Int32) (u : QP × QL × QA × (Nat → Bool)) => z = iI 0 ∧ u.1 = (rn (pDismiss P r) l).1 ∧ u.2.1 = (rn (pDismiss P r) l).2.1) (fun u : QP × QL × QA × (Nat → Bool) => wC G ad u.1 u.2.1 u.2.2.1 u.2.2.2 F ++ [jAL G q (updf f 0 (iI ((rn (pDismiss P r) l).2.2)).toInt64)]) 0 0 := by
  refine ch_intro (own := RL) [some (.ref (ad 0)), some (.int (iI (r : Int))), some (.ref q), none] (by decide) rfl rfl rfl (Nat.le_of_ble_eq_true rfl) (fun X C Ev ht hret => ?_)
  refine jw_aload_2 (pc := 0) C dL_depart_0 ?_
  refine jw_iconst (pc := 1) C dL_depart_1 ?_
  refine jw_aload_0 (pc := 2) C dL_depart_2 ?_
  refine jw_iload_1 (pc := 3) C dL_depart_3 ?_
  refine jw_sV_I (pc := 4) (wr := [jAL G q f]) C (c_X5_depart G ad P l A T F hI r hr hF hd) wd_X5_depart kml_L_33 0 rfl rfl (List.range 30) [30] rfl rfl rfl rfl (by decide) rfl rfl (Nat.le_of_ble_eq_true rfl) ⟨by decide, by decide⟩ ⟨Nat.zero_le _, Nat.zero_le _⟩ dL_depart_4 rfl (fun z u h => ?_)
  obtain ⟨e, hu⟩ := h
  subst e
  refine jw_i2l (pc := 7) C dL_depart_7 ?_
  refine jw_last (pc := 8) C 0 rfl 0 rfl (by decide) (by decide) dL_depart_8 ?_
  refine jw_goto (pc := 9) (tgt := 18) C dL_depart_9 (by decide) ?_
  refine jw_iconst (pc := 18) C dL_depart_18 ?_
  exact jw_sub ((List.range 30).map (· + 1) ++ [0]) rfl rfl (hret 19 _ (iI 0) u _ _ (Nat.le_refl _) (Nat.le_refl _) dL_depart_19 ⟨rfl, hu⟩)
set_option maxRecDepth 100000 in
set_option maxHeartbeats 4000000 in
theorem h_assignedOf (sa : Nat → Nat) (G : jG) (ad : Nat → Nat) (P : QP) (l : QL) (A : QA) (T : Nat → Bool) (F : QF) (q : Nat) (f : Nat → Int64) (a : Nat) (ha : (a : Int) < 4) : CH G sa yL_assignedOf cL_assignedOf 4 [(0, 9, 12, 21)] (jrm 9 170 0 0) [.ref (ad 0), .int (iI (a : Int)), .ref q] (wC G ad P l A T F ++ [jAL G q f]) (fun (z : Int32) (u : Unit) => z = iI 0) (fun u : Unit => wC G ad P l A T F ++ [jAL G q (updf f 0 (iI (P.asg a)).toInt64)]) 0 0 := by
  refine ch_intro (own := RL) [some (.ref (ad 0)), some (.int (iI (a : Int))), some (.ref q), none] (by decide) rfl rfl rfl (Nat.le_of_ble_eq_true rfl) (fun X C Ev ht hret => ?_)
  refine jw_aload_2 (pc := 0) C dL_assignedOf_0 ?_
  refine jw_iconst (pc := 1) C dL_assignedOf_1 ?_
  refine jw_aload_0 (pc := 2) C dL_assignedOf_2 ?_
  refine jw_iload_1 (pc := 3) C dL_assignedOf_3 ?_
  refine jw_sV_I (pc := 4) (wr := [jAL G q f]) C (c_X5_assignedOf G ad P l A T F a ha) wd_X5_assignedOf kml_L_42 0 rfl rfl (List.range 30) [30] rfl rfl rfl rfl (by decide) rfl rfl (Nat.le_of_ble_eq_true rfl) ⟨by decide, by decide⟩ ⟨Nat.zero_le _, Nat.zero_le _⟩ dL_assignedOf_4 rfl (fun z u h => ?_)
  have e := h
  subst e
  refine jw_i2l (pc := 7) C dL_assignedOf_7 ?_
  refine jw_last (pc := 8) C 0 rfl 0 rfl (by decide) (by decide) dL_assignedOf_8 ?_
  refine jw_goto (pc := 9) (tgt := 15) C dL_assignedOf_9 (by decide) ?_
  refine jw_iconst (pc := 15) C dL_assignedOf_15 ?_
  exact jw_sub ((List.range 30).map (· + 1) ++ [0]) rfl rfl (hret 16 _ (iI 0) u _ _ (Nat.le_refl _) (Nat.le_refl _) dL_assignedOf_16 rfl)
set_option maxRecDepth 100000 in
set_option maxHeartbeats 4000000 in
theorem h_state (sa : Nat → Nat) (G : jG) (ad : Nat → Nat) (P : QP) (l : QL) (A : QA) (T : Nat → Bool) (F : QF) (q : Nat) (f : Nat → Int64) (hI : PI P) (r : Nat) (hr : (r : Int) < P.req)  : CH G sa yL_state cL_state 4 [(0, 9, 12, 21)] (jrm 9 170 0 0) [.ref (ad 0), .int (iI (r : Int)), .ref q] (wC G ad P l A T F ++ [jAL G q f]) (fun (z : Int32) (u : Unit) => z = iI 0) (fun u : Unit => wC G ad P l A T F ++ [jAL G q (updf f 0 (iI (stN (P.plc r))).toInt64)]) 0 0 := by
  refine ch_intro (own := RL) [some (.ref (ad 0)), some (.int (iI (r : Int))), some (.ref q), none] (by decide) rfl rfl rfl (Nat.le_of_ble_eq_true rfl) (fun X C Ev ht hret => ?_)
  refine jw_aload_2 (pc := 0) C dL_state_0 ?_
  refine jw_iconst (pc := 1) C dL_state_1 ?_
  refine jw_aload_0 (pc := 2) C dL_state_2 ?_
  refine jw_iload_1 (pc := 3) C dL_state_3 ?_
  refine jw_sV_I (pc := 4) (wr := [jAL G q f]) C (c_X5_state G ad P l A T F hI r hr) wd_X5_state kml_L_48 0 rfl rfl (List.range 30) [30] rfl rfl rfl rfl (by decide) rfl rfl (Nat.le_of_ble_eq_true rfl) ⟨by decide, by decide⟩ ⟨Nat.zero_le _, Nat.zero_le _⟩ dL_state_4 rfl (fun z u h => ?_)
  have e := h
  subst e
  refine jw_i2l (pc := 7) C dL_state_7 ?_
  refine jw_last (pc := 8) C 0 rfl 0 rfl (by decide) (by decide) dL_state_8 ?_
  refine jw_goto (pc := 9) (tgt := 15) C dL_state_9 (by decide) ?_
  refine jw_iconst (pc := 15) C dL_state_15 ?_
  exact jw_sub ((List.range 30).map (· + 1) ++ [0]) rfl rfl (hret 16 _ (iI 0) u _ _ (Nat.le_refl _) (Nat.le_refl _) dL_state_16 rfl)
set_option maxRecDepth 100000 in
set_option maxHeartbeats 4000000 in
theorem h_movesOf (sa : Nat → Nat) (G : jG) (ad : Nat → Nat) (P : QP) (l : QL) (A : QA) (T : Nat → Bool) (F : QF) (q : Nat) (f : Nat → Int64) (hI : PI P) (r : Nat) (hr : (r : Int) < P.req)  : CH G sa yL_movesOf cL_movesOf 4 [(0, 9, 12, 21)] (jrm 9 170 0 0) [.ref (ad 0), .int (iI (r : Int)), .ref q] (wC G ad P l A T F ++ [jAL G q f]) (fun (z : Int32) (u : Unit) => z = iI 0) (fun u : Unit => wC G ad P l A T F ++ [jAL G q (updf f 0 (iI (P.mov r)).toInt64)]) 0 0 := by
  refine ch_intro (own := RL) [some (.ref (ad 0)), some (.int (iI (r : Int))), some (.ref q), none] (by decide) rfl rfl rfl (Nat.le_of_ble_eq_true rfl) (fun X C Ev ht hret => ?_)
  refine jw_aload_2 (pc := 0) C dL_movesOf_0 ?_
  refine jw_iconst (pc := 1) C dL_movesOf_1 ?_
  refine jw_aload_0 (pc := 2) C dL_movesOf_2 ?_
  refine jw_iload_1 (pc := 3) C dL_movesOf_3 ?_
  refine jw_sV_I (pc := 4) (wr := [jAL G q f]) C (c_X5_movesOf G ad P l A T F hI r hr) wd_X5_movesOf kml_L_54 0 rfl rfl (List.range 30) [30] rfl rfl rfl rfl (by decide) rfl rfl (Nat.le_of_ble_eq_true rfl) ⟨by decide, by decide⟩ ⟨Nat.zero_le _, Nat.zero_le _⟩ dL_movesOf_4 rfl (fun z u h => ?_)
  have e := h
  subst e
  refine jw_i2l (pc := 7) C dL_movesOf_7 ?_
  refine jw_last (pc := 8) C 0 rfl 0 rfl (by decide) (by decide) dL_movesOf_8 ?_
  refine jw_goto (pc := 9) (tgt := 15) C dL_movesOf_9 (by decide) ?_
  refine jw_iconst (pc := 15) C dL_movesOf_15 ?_
  exact jw_sub ((List.range 30).map (· + 1) ++ [0]) rfl rfl (hret 16 _ (iI 0) u _ _ (Nat.le_refl _) (Nat.le_refl _) dL_movesOf_16 rfl)
set_option maxRecDepth 100000 in
set_option maxHeartbeats 4000000 in
theorem h_resourceOf (sa : Nat → Nat) (G : jG) (ad : Nat → Nat) (P : QP) (l : QL) (A : QA) (T : Nat → Bool) (F : QF) (q : Nat) (f : Nat → Int64) (hI : PI P) (r : Nat) (hr : (r : Int) < P.req) (hd : 0 ≤ P.plc r) : CH G sa yL_resourceOf cL_resourceOf 4 [(0, 9, 12, 21), (0, 9, 15, 36)] (jrm 9 170 0 0) [.ref (ad 0), .int (iI (r : Int)), .ref q] (wC G ad P l A T F ++ [jAL G q f]) (fun (z : Int32) (u : Unit) => z = iI 0) (fun u : Unit => wC G ad P l A T F ++ [jAL G q (updf f 0 (iI (P.plc r)).toInt64)]) 0 0 := by
  refine ch_intro (own := RL) [some (.ref (ad 0)), some (.int (iI (r : Int))), some (.ref q), none] (by decide) rfl rfl rfl (Nat.le_of_ble_eq_true rfl) (fun X C Ev ht hret => ?_)
  refine jw_aload_2 (pc := 0) C dL_resourceOf_0 ?_
  refine jw_iconst (pc := 1) C dL_resourceOf_1 ?_
  refine jw_aload_0 (pc := 2) C dL_resourceOf_2 ?_
  refine jw_iload_1 (pc := 3) C dL_resourceOf_3 ?_
  refine jw_sV_I (pc := 4) (wr := [jAL G q f]) C (c_X5_resourceOf G ad P l A T F hI r hr hd) wd_X5_resourceOf kml_L_51 0 rfl rfl (List.range 30) [30] rfl rfl rfl rfl (by decide) rfl rfl (Nat.le_of_ble_eq_true rfl) ⟨by decide, by decide⟩ ⟨Nat.zero_le _, Nat.zero_le _⟩ dL_resourceOf_4 rfl (fun z u h => ?_)
  have e := h
  subst e
  refine jw_i2l (pc := 7) C dL_resourceOf_7 ?_
  refine jw_last (pc := 8) C 0 rfl 0 rfl (by decide) (by decide) dL_resourceOf_8 ?_
  refine jw_goto (pc := 9) (tgt := 18) C dL_resourceOf_9 (by decide) ?_
  refine jw_iconst (pc := 18) C dL_resourceOf_18 ?_
  exact jw_sub ((List.range 30).map (· + 1) ++ [0]) rfl rfl (hret 19 _ (iI 0) u _ _ (Nat.le_refl _) (Nat.le_refl _) dL_resourceOf_19 rfl)
set_option maxRecDepth 100000 in
set_option maxHeartbeats 4000000 in
theorem h_movedRequest (sa : Nat → Nat) (G : jG) (ad : Nat → Nat) (P : QP) (l : QL) (A : QA) (T : Nat → Bool) (F : QF) (q : Nat) (f : Nat → Int64) (hl : 0 ≤ l.sz ∧ l.sz ≤ 200) (a : Nat) (ha : (a : Int) < l.sz) : CH G sa yL_movedRequest cL_movedRequest 4 [(0, 9, 12, 21)] (jrm 9 170 0 0) [.ref (ad 0), .int (iI (a : Int)), .ref q] (wC G ad P l A T F ++ [jAL G q f]) (fun (z : Int32) (u : Unit) => z = iI 0) (fun u : Unit => wC G ad P l A T F ++ [jAL G q (updf f 0 (iI (l.rq a)).toInt64)]) 0 0 := by
  refine ch_intro (own := RL) [some (.ref (ad 0)), some (.int (iI (a : Int))), some (.ref q), none] (by decide) rfl rfl rfl (Nat.le_of_ble_eq_true rfl) (fun X C Ev ht hret => ?_)
  refine jw_aload_2 (pc := 0) C dL_movedRequest_0 ?_
  refine jw_iconst (pc := 1) C dL_movedRequest_1 ?_
  refine jw_aload_0 (pc := 2) C dL_movedRequest_2 ?_
  refine jw_iload_1 (pc := 3) C dL_movedRequest_3 ?_
  refine jw_sV_I (pc := 4) (wr := [jAL G q f]) C (c_X5_movedRequest G ad P l A T F hl a ha) wd_X5_movedRequest kml_L_57 0 rfl rfl (List.range 30) [30] rfl rfl rfl rfl (by decide) rfl rfl (Nat.le_of_ble_eq_true rfl) ⟨by decide, by decide⟩ ⟨Nat.zero_le _, Nat.zero_le _⟩ dL_movedRequest_4 rfl (fun z u h => ?_)
  have e := h
  subst e
  refine jw_i2l (pc := 7) C dL_movedRequest_7 ?_
  refine jw_last (pc := 8) C 0 rfl 0 rfl (by decide) (by decide) dL_movedRequest_8 ?_
  refine jw_goto (pc := 9) (tgt := 15) C dL_movedRequest_9 (by decide) ?_
  refine jw_iconst (pc := 15) C dL_movedRequest_15 ?_
  exact jw_sub ((List.range 30).map (· + 1) ++ [0]) rfl rfl (hret 16 _ (iI 0) u _ _ (Nat.le_refl _) (Nat.le_refl _) dL_movedRequest_16 rfl)
set_option maxRecDepth 100000 in
set_option maxHeartbeats 4000000 in
theorem h_movedTo (sa : Nat → Nat) (G : jG) (ad : Nat → Nat) (P : QP) (l : QL) (A : QA) (T : Nat → Bool) (F : QF) (q : Nat) (f : Nat → Int64) (hl : 0 ≤ l.sz ∧ l.sz ≤ 200) (a : Nat) (ha : (a : Int) < l.sz) : CH G sa yL_movedTo cL_movedTo 4 [(0, 9, 12, 21)] (jrm 9 170 0 0) [.ref (ad 0), .int (iI (a : Int)), .ref q] (wC G ad P l A T F ++ [jAL G q f]) (fun (z : Int32) (u : Unit) => z = iI 0) (fun u : Unit => wC G ad P l A T F ++ [jAL G q (updf f 0 (iI (l.tg a)).toInt64)]) 0 0 := by
  refine ch_intro (own := RL) [some (.ref (ad 0)), some (.int (iI (a : Int))), some (.ref q), none] (by decide) rfl rfl rfl (Nat.le_of_ble_eq_true rfl) (fun X C Ev ht hret => ?_)
  refine jw_aload_2 (pc := 0) C dL_movedTo_0 ?_
  refine jw_iconst (pc := 1) C dL_movedTo_1 ?_
  refine jw_aload_0 (pc := 2) C dL_movedTo_2 ?_
  refine jw_iload_1 (pc := 3) C dL_movedTo_3 ?_
  refine jw_sV_I (pc := 4) (wr := [jAL G q f]) C (c_X5_movedTo G ad P l A T F hl a ha) wd_X5_movedTo kml_L_60 0 rfl rfl (List.range 30) [30] rfl rfl rfl rfl (by decide) rfl rfl (Nat.le_of_ble_eq_true rfl) ⟨by decide, by decide⟩ ⟨Nat.zero_le _, Nat.zero_le _⟩ dL_movedTo_4 rfl (fun z u h => ?_)
  have e := h
  subst e
  refine jw_i2l (pc := 7) C dL_movedTo_7 ?_
  refine jw_last (pc := 8) C 0 rfl 0 rfl (by decide) (by decide) dL_movedTo_8 ?_
  refine jw_goto (pc := 9) (tgt := 15) C dL_movedTo_9 (by decide) ?_
  refine jw_iconst (pc := 15) C dL_movedTo_15 ?_
  exact jw_sub ((List.range 30).map (· + 1) ++ [0]) rfl rfl (hret 16 _ (iI 0) u _ _ (Nat.le_refl _) (Nat.le_refl _) dL_movedTo_16 rfl)
set_option maxRecDepth 100000 in
set_option maxHeartbeats 4000000 in
theorem h_movesNeeded (sa : Nat → Nat) (G : jG) (ad : Nat → Nat) (P : QP) (l : QL) (A : QA) (T : Nat → Bool) (F : QF) (q : Nat) (f : Nat → Int64) (hI : PI P) (r : Nat) (hr : (r : Int) < P.req) (hd : P.plc r = -1) : CH G sa yL_movesNeeded cL_movesNeeded 4 [(0, 9, 12, 21), (0, 9, 15, 36)] (jrm 9 170 0 0) [.ref (ad 0), .int (iI (r : Int)), .ref q] (wC G ad P l A T F ++ [jAL G q f]) (fun (z : Int32) (u : QA) => z = iI 0) (fun u : QA => wC G ad P l u T F ++ [jAL G q (updf f 0 (iI (minL P (P.acc r) - 1)).toInt64)]) 0 0 := by
  refine ch_intro (own := RL) [some (.ref (ad 0)), some (.int (iI (r : Int))), some (.ref q), none] (by decide) rfl rfl rfl (Nat.le_of_ble_eq_true rfl) (fun X C Ev ht hret => ?_)
  refine jw_aload_2 (pc := 0) C dL_movesNeeded_0 ?_
  refine jw_iconst (pc := 1) C dL_movesNeeded_1 ?_
  refine jw_aload_0 (pc := 2) C dL_movesNeeded_2 ?_
  refine jw_iload_1 (pc := 3) C dL_movesNeeded_3 ?_
  refine jw_sV_I (pc := 4) (wr := [jAL G q f]) C (c_X5_movesNeeded G ad P l A T F hI r hr hd) wd_X5_movesNeeded kml_L_63 0 rfl rfl (List.range 30) [30] rfl rfl rfl rfl (by decide) rfl rfl (Nat.le_of_ble_eq_true rfl) ⟨by decide, by decide⟩ ⟨Nat.zero_le _, Nat.zero_le _⟩ dL_movesNeeded_4 rfl (fun z u h => ?_)
  have e := h
  subst e
  refine jw_i2l (pc := 7) C dL_movesNeeded_7 ?_
  refine jw_last (pc := 8) C 0 rfl 0 rfl (by decide) (by decide) dL_movesNeeded_8 ?_
  refine jw_goto (pc := 9) (tgt := 18) C dL_movesNeeded_9 (by decide) ?_
  refine jw_iconst (pc := 18) C dL_movesNeeded_18 ?_
  exact jw_sub ((List.range 30).map (· + 1) ++ [0]) rfl rfl (hret 19 _ (iI 0) u _ _ (Nat.le_refl _) (Nat.le_refl _) dL_movesNeeded_19 rfl)
