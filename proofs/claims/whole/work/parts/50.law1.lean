abbrev jAL (G : jG) (q : Nat) (f : Nat → Int64) : Nat × va_E := (q, .inl (G.2 2, 1, .inr (.inl f)))
set_option maxRecDepth 100000 in
set_option maxHeartbeats 4000000 in
theorem h_load_IOE (sa : Nat → Nat) (G : jG) (ad : Nat → Nat) (P : QP) (l : QL) (A : QA) (T : Nat → Bool) (F : QF) (q : Nat) (f : Nat → Int64) (hI : PI P) (a : Int) (hj : jr a) (ha : ¬ (0 ≤ a ∧ a < P.res)) : CH G sa yL_load cL_load 4 [(0, 9, 12, 21)] (jrm 8 140 1 6) [.ref (ad 0), .int (iI a), .ref q] (wC G ad P l A T F ++ [jAL G q f]) (fun (z : Int32) (_ : Unit) => z = iI 1) (fun _ : Unit => (wC G ad P l A T F ++ [jAL G q f])) 1 6 := by
  refine ch_intro (own := RL) [some (.ref (ad 0)), some (.int (iI a)), some (.ref q), none] (by decide) rfl rfl rfl (Nat.le_of_ble_eq_true rfl) (fun X C Ev ht hret => ?_)
  refine jw_aload_2 (pc := 0) C dL_load_0 ?_
  refine jw_iconst (pc := 1) C dL_load_1 ?_
  refine jw_aload_0 (pc := 2) C dL_load_2 ?_
  refine jw_iload_1 (pc := 3) C dL_load_3 ?_
  refine jwx_sV_I (pc := 4) (wr := [jAL G q f]) C Ev (c_X5_load_IOE sa G ad P l A T F hI a hj ha) wd_X5_load kml_L_45 0 rfl rfl (List.range 30) [30] rfl rfl rfl rfl (by decide) rfl rfl (Nat.le_of_ble_eq_true rfl) ⟨by decide, by decide⟩ ⟨Nat.le_refl _, Nat.le_refl _⟩ dL_load_4 rfl (fun E hE => ?_) (fun r u h => False.elim h)
  obtain rfl : E = E_IOE := hE
  refine jw_catch (pc := 4) C Ev ht [] 0 9 12 21 [] rfl (fun z hz => by cases hz) (by decide) (by decide) kcl_L_21 jCs_IOE (fun q9 => ?_)
  refine jw_astore_3 (pc := 12) C dL_load_12 rfl ?_
  refine jw_iconst (pc := 13) C dL_load_13 ?_
  exact jw_sub ((List.range 30).map (· + 1) ++ [0]) rfl rfl (hret 14 _ (iI 1) () _ _ (Nat.le_refl _) (Nat.le_refl _) dL_load_14 rfl)
set_option maxRecDepth 100000 in
set_option maxHeartbeats 4000000 in
theorem h_load_ok (sa : Nat → Nat) (G : jG) (ad : Nat → Nat) (P : QP) (l : QL) (A : QA) (T : Nat → Bool) (F : QF) (q : Nat) (f : Nat → Int64) (hI : PI P) (a : Nat) (ha : (a : Int) < P.res) : CH G sa yL_load cL_load 4 [(0, 9, 12, 21)] (jrm 8 140 0 0) [.ref (ad 0), .int (iI (a : Int)), .ref q] (wC G ad P l A T F ++ [jAL G q f]) (fun (z : Int32) (_ : Unit) => z = iI 0) (fun _ : Unit => wC G ad P l A T F ++ [jAL G q (updf f 0 (iI (P.load a)).toInt64)]) 0 0 := by
  refine ch_intro (own := RL) [some (.ref (ad 0)), some (.int (iI (a : Int))), some (.ref q), none] (by decide) rfl rfl rfl (Nat.le_of_ble_eq_true rfl) (fun X C Ev ht hret => ?_)
  refine jw_aload_2 (pc := 0) C dL_load_0 ?_
  refine jw_iconst (pc := 1) C dL_load_1 ?_
  refine jw_aload_0 (pc := 2) C dL_load_2 ?_
  refine jw_iload_1 (pc := 3) C dL_load_3 ?_
  refine jw_sV_I (pc := 4) (wr := [jAL G q f]) C (c_X5_load G ad P l A T F hI a ha) wd_X5_load kml_L_45 0 rfl rfl (List.range 30) [30] rfl rfl rfl rfl (by decide) rfl rfl (Nat.le_of_ble_eq_true rfl) ⟨by decide, by decide⟩ ⟨Nat.zero_le _, Nat.zero_le _⟩ dL_load_4 rfl (fun z u h => ?_)
  subst h
  refine jw_i2l (pc := 7) C dL_load_7 ?_
  refine jw_last (pc := 8) C 0 rfl 0 rfl (by decide) (by decide) dL_load_8 ?_
  refine jw_goto (pc := 9) (tgt := 15) C dL_load_9 (by decide) ?_
  refine jw_iconst (pc := 15) C dL_load_15 ?_
  exact jw_sub ((List.range 30).map (· + 1) ++ [0]) rfl rfl (hret 16 _ (iI 0) () _ _ (Nat.le_refl _) (Nat.le_refl _) dL_load_16 rfl)
set_option maxRecDepth 100000 in
set_option maxHeartbeats 4000000 in
theorem h_addResource_IAE (sa : Nat → Nat) (G : jG) (ad : Nat → Nat) (P : QP) (l : QL) (A : QA) (T : Nat → Bool) (F : QF) (q : Nat) (f : Nat → Int64) (hI : PI P) (a : Int) (hj : jr a) (hc : ¬ (0 ≤ a ∧ a ≤ 4)) : CH G sa yL_addResource cL_addResource 4 [(0, 9, 12, 13), (0, 9, 15, 15)] (jrm 9 170 1 6) [.ref (ad 0), .int (iI a), .ref q] (wC G ad P l A T F ++ [jAL G q f]) (fun (z : Int32) (_ : Unit) => z = iI 1) (fun _ : Unit => (wC G ad P l A T F ++ [jAL G q f])) 1 6 := by
  refine ch_intro (own := RL) [some (.ref (ad 0)), some (.int (iI a)), some (.ref q), none] (by decide) rfl rfl rfl (Nat.le_of_ble_eq_true rfl) (fun X C Ev ht hret => ?_)
  refine jw_aload_2 (pc := 0) C dL_addResource_0 ?_
  refine jw_iconst (pc := 1) C dL_addResource_1 ?_
  refine jw_aload_0 (pc := 2) C dL_addResource_2 ?_
  refine jw_iload_1 (pc := 3) C dL_addResource_3 ?_
  refine jwx_sV_I (pc := 4) (wr := [jAL G q f]) C Ev (c_X5_addResource_IAE sa G ad P l A T F hI a hj hc) wd_X5_addResource kml_L_7 0 rfl rfl (List.range 30) [30] rfl rfl rfl rfl (by decide) rfl rfl (Nat.le_of_ble_eq_true rfl) ⟨by decide, by decide⟩ ⟨Nat.le_refl _, Nat.le_refl _⟩ dL_addResource_4 rfl (fun E hE => ?_) (fun r u h => False.elim h)
  obtain rfl : E = E_IAE := hE
  refine jw_catch (pc := 4) C Ev ht [] 0 9 12 13 [(0, 9, 15, 15)] rfl (fun z hz => by cases hz) (by decide) (by decide) kcl_L_13 jCs_IAE (fun q9 => ?_)
  refine jw_astore_3 (pc := 12) C dL_addResource_12 rfl ?_
  refine jw_iconst (pc := 13) C dL_addResource_13 ?_
  exact jw_sub ((List.range 30).map (· + 1) ++ [0]) rfl rfl (hret 14 _ (iI 1) () _ _ (Nat.le_refl _) (Nat.le_refl _) dL_addResource_14 rfl)
set_option maxRecDepth 100000 in
set_option maxHeartbeats 4000000 in
theorem h_addResource_ISE (sa : Nat → Nat) (G : jG) (ad : Nat → Nat) (P : QP) (l : QL) (A : QA) (T : Nat → Bool) (F : QF) (q : Nat) (f : Nat → Int64) (hI : PI P) (c : Int) (hc : 0 ≤ c ∧ c ≤ 4) (hr : P.res = 12) : CH G sa yL_addResource cL_addResource 4 [(0, 9, 12, 13), (0, 9, 15, 15)] (jrm 9 170 1 6) [.ref (ad 0), .int (iI c), .ref q] (wC G ad P l A T F ++ [jAL G q f]) (fun (z : Int32) (_ : Unit) => z = iI 2) (fun _ : Unit => (wC G ad P l A T F ++ [jAL G q f])) 1 6 := by
  refine ch_intro (own := RL) [some (.ref (ad 0)), some (.int (iI c)), some (.ref q), none] (by decide) rfl rfl rfl (Nat.le_of_ble_eq_true rfl) (fun X C Ev ht hret => ?_)
  refine jw_aload_2 (pc := 0) C dL_addResource_0 ?_
  refine jw_iconst (pc := 1) C dL_addResource_1 ?_
  refine jw_aload_0 (pc := 2) C dL_addResource_2 ?_
  refine jw_iload_1 (pc := 3) C dL_addResource_3 ?_
  refine jwx_sV_I (pc := 4) (wr := [jAL G q f]) C Ev (c_X5_addResource_ISE sa G ad P l A T F hI c hc hr) wd_X5_addResource kml_L_7 0 rfl rfl (List.range 30) [30] rfl rfl rfl rfl (by decide) rfl rfl (Nat.le_of_ble_eq_true rfl) ⟨by decide, by decide⟩ ⟨Nat.le_refl _, Nat.le_refl _⟩ dL_addResource_4 rfl (fun E hE => ?_) (fun r u h => False.elim h)
  obtain rfl : E = E_ISE := hE
  refine jw_catch (pc := 4) C Ev ht [(0, 9, 12, 13)] 0 9 15 15 [] rfl (fun z hz => by
      simp only [List.mem_cons, List.not_mem_nil, or_false] at hz
      rcases hz with rfl
      · exact ⟨by decide, _, kcl_L_13, List.mem_of_getElem? (i := 0) rfl⟩) (by decide) (by decide) kcl_L_15 jCs_ISE (fun q9 => ?_)
  refine jw_astore_3 (pc := 15) C dL_addResource_15 rfl ?_
  refine jw_iconst (pc := 16) C dL_addResource_16 ?_
  exact jw_sub ((List.range 30).map (· + 1) ++ [0]) rfl rfl (hret 17 _ (iI 2) () _ _ (Nat.le_refl _) (Nat.le_refl _) dL_addResource_17 rfl)
set_option maxRecDepth 100000 in
set_option maxHeartbeats 4000000 in
theorem h_setCapacity_IOE (sa : Nat → Nat) (G : jG) (ad : Nat → Nat) (P : QP) (l : QL) (A : QA) (T : Nat → Bool) (F : QF) (q : Nat) (f : Nat → Int64) (hI : PI P) (a : Int) (hj : jr a) (ha : ¬ (0 ≤ a ∧ a < P.res)) (m : Int32) : CH G sa yL_setCapacity cL_setCapacity 5 [(0, 10, 13, 21), (0, 10, 17, 13)] (jrm 9 170 1 6) [.ref (ad 0), .int (iI a), .int m, .ref q] (wC G ad P l A T F ++ [jAL G q f]) (fun (z : Int32) (_ : Unit) => z = iI 1) (fun _ : Unit => (wC G ad P l A T F ++ [jAL G q f])) 1 6 := by
  refine ch_intro (own := RL) [some (.ref (ad 0)), some (.int (iI a)), some (.int m), some (.ref q), none] (by decide) rfl rfl rfl (Nat.le_of_ble_eq_true rfl) (fun X C Ev ht hret => ?_)
  refine jw_aload_3 (pc := 0) C dL_setCapacity_0 ?_
  refine jw_iconst (pc := 1) C dL_setCapacity_1 ?_
  refine jw_aload_0 (pc := 2) C dL_setCapacity_2 ?_
  refine jw_iload_1 (pc := 3) C dL_setCapacity_3 ?_
  refine jw_iload_2 (pc := 4) C dL_setCapacity_4 ?_
  refine jwx_sV_I (pc := 5) (wr := [jAL G q f]) C Ev (c_X5_setCapacity_IOE sa G ad P l A T F hI a hj ha m) wd_X5_setCapacity kml_L_17 0 rfl rfl (List.range 30) [30] rfl rfl rfl rfl (by decide) rfl rfl (Nat.le_of_ble_eq_true rfl) ⟨by decide, by decide⟩ ⟨Nat.le_refl _, Nat.le_refl _⟩ dL_setCapacity_5 rfl (fun E hE => ?_) (fun r u h => False.elim h)
  obtain rfl : E = E_IOE := hE
  refine jw_catch (pc := 5) C Ev ht [] 0 10 13 21 [(0, 10, 17, 13)] rfl (fun z hz => by cases hz) (by decide) (by decide) kcl_L_21 jCs_IOE (fun q9 => ?_)
  refine jw_astore_4 (pc := 13) C dL_setCapacity_13 rfl ?_
  refine jw_iconst (pc := 15) C dL_setCapacity_15 ?_
  exact jw_sub ((List.range 30).map (· + 1) ++ [0]) rfl rfl (hret 16 _ (iI 1) () _ _ (Nat.le_refl _) (Nat.le_refl _) dL_setCapacity_16 rfl)
set_option maxRecDepth 100000 in
set_option maxHeartbeats 4000000 in
theorem h_setCapacity_IAE (sa : Nat → Nat) (G : jG) (ad : Nat → Nat) (P : QP) (l : QL) (A : QA) (T : Nat → Bool) (F : QF) (q : Nat) (f : Nat → Int64) (hI : PI P) (a : Nat) (ha : (a : Int) < P.res) (c : Int) (hj : jr c) (hc : ¬ (0 ≤ c ∧ c ≤ 4)) : CH G sa yL_setCapacity cL_setCapacity 5 [(0, 10, 13, 21), (0, 10, 17, 13)] (jrm 9 170 1 6) [.ref (ad 0), .int (iI (a : Int)), .int (iI c), .ref q] (wC G ad P l A T F ++ [jAL G q f]) (fun (z : Int32) (_ : Unit) => z = iI 2) (fun _ : Unit => (wC G ad P l A T F ++ [jAL G q f])) 1 6 := by
  refine ch_intro (own := RL) [some (.ref (ad 0)), some (.int (iI (a : Int))), some (.int (iI c)), some (.ref q), none] (by decide) rfl rfl rfl (Nat.le_of_ble_eq_true rfl) (fun X C Ev ht hret => ?_)
  refine jw_aload_3 (pc := 0) C dL_setCapacity_0 ?_
  refine jw_iconst (pc := 1) C dL_setCapacity_1 ?_
  refine jw_aload_0 (pc := 2) C dL_setCapacity_2 ?_
  refine jw_iload_1 (pc := 3) C dL_setCapacity_3 ?_
  refine jw_iload_2 (pc := 4) C dL_setCapacity_4 ?_
  refine jwx_sV_I (pc := 5) (wr := [jAL G q f]) C Ev (c_X5_setCapacity_IAE sa G ad P l A T F hI a ha c hj hc) wd_X5_setCapacity kml_L_17 0 rfl rfl (List.range 30) [30] rfl rfl rfl rfl (by decide) rfl rfl (Nat.le_of_ble_eq_true rfl) ⟨by decide, by decide⟩ ⟨Nat.le_refl _, Nat.le_refl _⟩ dL_setCapacity_5 rfl (fun E hE => ?_) (fun r u h => False.elim h)
  obtain rfl : E = E_IAE := hE
  refine jw_catch (pc := 5) C Ev ht [(0, 10, 13, 21)] 0 10 17 13 [] rfl (fun z hz => by
      simp only [List.mem_cons, List.not_mem_nil, or_false] at hz
      rcases hz with rfl
      · exact ⟨by decide, _, kcl_L_21, List.mem_of_getElem? (i := 1) rfl⟩) (by decide) (by decide) kcl_L_13 jCs_IAE (fun q9 => ?_)
  refine jw_astore_4 (pc := 17) C dL_setCapacity_17 rfl ?_
  refine jw_iconst (pc := 19) C dL_setCapacity_19 ?_
  exact jw_sub ((List.range 30).map (· + 1) ++ [0]) rfl rfl (hret 20 _ (iI 2) () _ _ (Nat.le_refl _) (Nat.le_refl _) dL_setCapacity_20 rfl)
set_option maxRecDepth 100000 in
set_option maxHeartbeats 4000000 in
theorem h_setGroup_IOE (sa : Nat → Nat) (G : jG) (ad : Nat → Nat) (P : QP) (l : QL) (A : QA) (T : Nat → Bool) (F : QF) (q : Nat) (f : Nat → Int64) (a : Int) (hj : jr a) (ha : ¬ (0 ≤ a ∧ a < 4)) (m m2 : Int32) : CH G sa yL_setGroup cL_setGroup 6 [(0, 12, 15, 21), (0, 12, 19, 13)] (jrm 9 170 1 6) [.ref (ad 0), .int (iI a), .int m, .int m2, .ref q] (wC G ad P l A T F ++ [jAL G q f]) (fun (z : Int32) (_ : Unit) => z = iI 1) (fun _ : Unit => (wC G ad P l A T F ++ [jAL G q f])) 1 6 := by
  refine ch_intro (own := RL) [some (.ref (ad 0)), some (.int (iI a)), some (.int m), some (.int m2), some (.ref q), none] (by decide) rfl rfl rfl (Nat.le_of_ble_eq_true rfl) (fun X C Ev ht hret => ?_)
  refine jw_aload_4 (pc := 0) C dL_setGroup_0 ?_
  refine jw_iconst (pc := 2) C dL_setGroup_2 ?_
  refine jw_aload_0 (pc := 3) C dL_setGroup_3 ?_
  refine jw_iload_1 (pc := 4) C dL_setGroup_4 ?_
  refine jw_iload_2 (pc := 5) C dL_setGroup_5 ?_
  refine jw_iload_3 (pc := 6) C dL_setGroup_6 ?_
  refine jwx_sV_I (pc := 7) (wr := [jAL G q f]) C Ev (c_X5_setGroup_IOE sa G ad P l A T F a hj ha m m2) wd_X5_setGroup kml_L_23 0 rfl rfl (List.range 30) [30] rfl rfl rfl rfl (by decide) rfl rfl (Nat.le_of_ble_eq_true rfl) ⟨by decide, by decide⟩ ⟨Nat.le_refl _, Nat.le_refl _⟩ dL_setGroup_7 rfl (fun E hE => ?_) (fun r u h => False.elim h)
  obtain rfl : E = E_IOE := hE
  refine jw_catch (pc := 7) C Ev ht [] 0 12 15 21 [(0, 12, 19, 13)] rfl (fun z hz => by cases hz) (by decide) (by decide) kcl_L_21 jCs_IOE (fun q9 => ?_)
  refine jw_astore_5 (pc := 15) C dL_setGroup_15 rfl ?_
  refine jw_iconst (pc := 17) C dL_setGroup_17 ?_
  exact jw_sub ((List.range 30).map (· + 1) ++ [0]) rfl rfl (hret 18 _ (iI 1) () _ _ (Nat.le_refl _) (Nat.le_refl _) dL_setGroup_18 rfl)
set_option maxRecDepth 100000 in
set_option maxHeartbeats 4000000 in
theorem h_setGroup_IAE (sa : Nat → Nat) (G : jG) (ad : Nat → Nat) (P : QP) (l : QL) (A : QA) (T : Nat → Bool) (F : QF) (q : Nat) (f : Nat → Int64) (a : Nat) (ha : (a : Int) < 4) (x : Int) (hjq : jr x) (v : Int) (hjv : jr v) (hb : ¬ ((0 ≤ x ∧ x ≤ 40) ∧ (1 ≤ v ∧ v ≤ 10))) : CH G sa yL_setGroup cL_setGroup 6 [(0, 12, 15, 21), (0, 12, 19, 13)] (jrm 9 170 1 6) [.ref (ad 0), .int (iI (a : Int)), .int (iI x), .int (iI v), .ref q] (wC G ad P l A T F ++ [jAL G q f]) (fun (z : Int32) (_ : Unit) => z = iI 2) (fun _ : Unit => (wC G ad P l A T F ++ [jAL G q f])) 1 6 := by
  refine ch_intro (own := RL) [some (.ref (ad 0)), some (.int (iI (a : Int))), some (.int (iI x)), some (.int (iI v)), some (.ref q), none] (by decide) rfl rfl rfl (Nat.le_of_ble_eq_true rfl) (fun X C Ev ht hret => ?_)
  refine jw_aload_4 (pc := 0) C dL_setGroup_0 ?_
  refine jw_iconst (pc := 2) C dL_setGroup_2 ?_
  refine jw_aload_0 (pc := 3) C dL_setGroup_3 ?_
  refine jw_iload_1 (pc := 4) C dL_setGroup_4 ?_
  refine jw_iload_2 (pc := 5) C dL_setGroup_5 ?_
  refine jw_iload_3 (pc := 6) C dL_setGroup_6 ?_
  refine jwx_sV_I (pc := 7) (wr := [jAL G q f]) C Ev (c_X5_setGroup_IAE sa G ad P l A T F a ha x hjq v hjv hb) wd_X5_setGroup kml_L_23 0 rfl rfl (List.range 30) [30] rfl rfl rfl rfl (by decide) rfl rfl (Nat.le_of_ble_eq_true rfl) ⟨by decide, by decide⟩ ⟨Nat.le_refl _, Nat.le_refl _⟩ dL_setGroup_7 rfl (fun E hE => ?_) (fun r u h => False.elim h)
  obtain rfl : E = E_IAE := hE
  refine jw_catch (pc := 7) C Ev ht [(0, 12, 15, 21)] 0 12 19 13 [] rfl (fun z hz => by
      simp only [List.mem_cons, List.not_mem_nil, or_false] at hz
      rcases hz with rfl
      · exact ⟨by decide, _, kcl_L_21, List.mem_of_getElem? (i := 1) rfl⟩) (by decide) (by decide) kcl_L_13 jCs_IAE (fun q9 => ?_)
  refine jw_astore_5 (pc := 19) C dL_setGroup_19 rfl ?_
  refine jw_iconst (pc := 21) C dL_setGroup_21 ?_
  exact jw_sub ((List.range 30).map (· + 1) ++ [0]) rfl rfl (hret 22 _ (iI 2) () _ _ (Nat.le_refl _) (Nat.le_refl _) dL_setGroup_22 rfl)
set_option maxRecDepth 100000 in
set_option maxHeartbeats 4000000 in
theorem h_setLimits_IAE (sa : Nat → Nat) (G : jG) (ad : Nat → Nat) (P : QP) (l : QL) (A : QA) (T : Nat → Bool) (F : QF) (q : Nat) (f : Nat → Int64) (x : Int) (hjx : jr x) (y : Int) (hjy : jr y) (hb : ¬ ((0 ≤ x ∧ x ≤ 5) ∧ (0 ≤ y ∧ y ≤ 20))) : CH G sa yL_setLimits cL_setLimits 5 [(0, 10, 13, 13)] (jrm 9 170 1 6) [.ref (ad 0), .int (iI x), .int (iI y), .ref q] (wC G ad P l A T F ++ [jAL G q f]) (fun (z : Int32) (_ : Unit) => z = iI 1) (fun _ : Unit => (wC G ad P l A T F ++ [jAL G q f])) 1 6 := by
  refine ch_intro (own := RL) [some (.ref (ad 0)), some (.int (iI x)), some (.int (iI y)), some (.ref q), none] (by decide) rfl rfl rfl (Nat.le_of_ble_eq_true rfl) (fun X C Ev ht hret => ?_)
  refine jw_aload_3 (pc := 0) C dL_setLimits_0 ?_
  refine jw_iconst (pc := 1) C dL_setLimits_1 ?_
  refine jw_aload_0 (pc := 2) C dL_setLimits_2 ?_
  refine jw_iload_1 (pc := 3) C dL_setLimits_3 ?_
  refine jw_iload_2 (pc := 4) C dL_setLimits_4 ?_
  refine jwx_sV_I (pc := 5) (wr := [jAL G q f]) C Ev (c_X5_setLimits_IAE sa G ad P l A T F x hjx y hjy hb) wd_X5_setLimits kml_L_27 0 rfl rfl (List.range 30) [30] rfl rfl rfl rfl (by decide) rfl rfl (Nat.le_of_ble_eq_true rfl) ⟨by decide, by decide⟩ ⟨Nat.le_refl _, Nat.le_refl _⟩ dL_setLimits_5 rfl (fun E hE => ?_) (fun r u h => False.elim h)
  obtain rfl : E = E_IAE := hE
  refine jw_catch (pc := 5) C Ev ht [] 0 10 13 13 [] rfl (fun z hz => by cases hz) (by decide) (by decide) kcl_L_13 jCs_IAE (fun q9 => ?_)
  refine jw_astore_4 (pc := 13) C dL_setLimits_13 rfl ?_
  refine jw_iconst (pc := 15) C dL_setLimits_15 ?_
  exact jw_sub ((List.range 30).map (· + 1) ++ [0]) rfl rfl (hret 16 _ (iI 1) () _ _ (Nat.le_refl _) (Nat.le_refl _) dL_setLimits_16 rfl)
set_option maxRecDepth 100000 in
set_option maxHeartbeats 4000000 in
theorem h_arrive_IOE (sa : Nat → Nat) (G : jG) (ad : Nat → Nat) (P : QP) (l : QL) (A : QA) (T : Nat → Bool) (F : QF) (q : Nat) (f : Nat → Int64) (a : Int) (hj : jr a) (ha : ¬ (0 ≤ a ∧ a < 4)) (m : Int32) : CH G sa yL_arrive cL_arrive 5 [(0, 10, 13, 21), (0, 10, 17, 13), (0, 10, 21, 15)] (jrm 9 170 1 6) [.ref (ad 0), .int (iI a), .int m, .ref q] (wC G ad P l A T F ++ [jAL G q f]) (fun (z : Int32) (_ : Unit) => z = iI 1) (fun _ : Unit => (wC G ad P l A T F ++ [jAL G q f])) 1 6 := by
  refine ch_intro (own := RL) [some (.ref (ad 0)), some (.int (iI a)), some (.int m), some (.ref q), none] (by decide) rfl rfl rfl (Nat.le_of_ble_eq_true rfl) (fun X C Ev ht hret => ?_)
  refine jw_aload_3 (pc := 0) C dL_arrive_0 ?_
  refine jw_iconst (pc := 1) C dL_arrive_1 ?_
  refine jw_aload_0 (pc := 2) C dL_arrive_2 ?_
  refine jw_iload_1 (pc := 3) C dL_arrive_3 ?_
  refine jw_iload_2 (pc := 4) C dL_arrive_4 ?_
  refine jwx_sV_I (pc := 5) (wr := [jAL G q f]) C Ev (c_X5_arrive_IOE sa G ad P l A T F a hj ha m) wd_X5_arrive kml_L_30 0 rfl rfl (List.range 30) [30] rfl rfl rfl rfl (by decide) rfl rfl (Nat.le_of_ble_eq_true rfl) ⟨by decide, by decide⟩ ⟨Nat.le_refl _, Nat.le_refl _⟩ dL_arrive_5 rfl (fun E hE => ?_) (fun r u h => False.elim h)
  obtain rfl : E = E_IOE := hE
  refine jw_catch (pc := 5) C Ev ht [] 0 10 13 21 [(0, 10, 17, 13), (0, 10, 21, 15)] rfl (fun z hz => by cases hz) (by decide) (by decide) kcl_L_21 jCs_IOE (fun q9 => ?_)
  refine jw_astore_4 (pc := 13) C dL_arrive_13 rfl ?_
  refine jw_iconst (pc := 15) C dL_arrive_15 ?_
  exact jw_sub ((List.range 30).map (· + 1) ++ [0]) rfl rfl (hret 16 _ (iI 1) () _ _ (Nat.le_refl _) (Nat.le_refl _) dL_arrive_16 rfl)
set_option maxRecDepth 100000 in
set_option maxHeartbeats 4000000 in
theorem h_arrive_IAE (sa : Nat → Nat) (G : jG) (ad : Nat → Nat) (P : QP) (l : QL) (A : QA) (T : Nat → Bool) (F : QF) (q : Nat) (f : Nat → Int64) (a : Nat) (ha : (a : Int) < 4) (m : Int32) (hm : ¬ mOK P m) : CH G sa yL_arrive cL_arrive 5 [(0, 10, 13, 21), (0, 10, 17, 13), (0, 10, 21, 15)] (jrm 9 170 1 6) [.ref (ad 0), .int (iI (a : Int)), .int m, .ref q] (wC G ad P l A T F ++ [jAL G q f]) (fun (z : Int32) (_ : Unit) => z = iI 2) (fun _ : Unit => (wC G ad P l A T F ++ [jAL G q f])) 1 6 := by
  refine ch_intro (own := RL) [some (.ref (ad 0)), some (.int (iI (a : Int))), some (.int m), some (.ref q), none] (by decide) rfl rfl rfl (Nat.le_of_ble_eq_true rfl) (fun X C Ev ht hret => ?_)
  refine jw_aload_3 (pc := 0) C dL_arrive_0 ?_
  refine jw_iconst (pc := 1) C dL_arrive_1 ?_
  refine jw_aload_0 (pc := 2) C dL_arrive_2 ?_
  refine jw_iload_1 (pc := 3) C dL_arrive_3 ?_
  refine jw_iload_2 (pc := 4) C dL_arrive_4 ?_
  refine jwx_sV_I (pc := 5) (wr := [jAL G q f]) C Ev (c_X5_arrive_IAE sa G ad P l A T F a ha m hm) wd_X5_arrive kml_L_30 0 rfl rfl (List.range 30) [30] rfl rfl rfl rfl (by decide) rfl rfl (Nat.le_of_ble_eq_true rfl) ⟨by decide, by decide⟩ ⟨Nat.le_refl _, Nat.le_refl _⟩ dL_arrive_5 rfl (fun E hE => ?_) (fun r u h => False.elim h)
  obtain rfl : E = E_IAE := hE
  refine jw_catch (pc := 5) C Ev ht [(0, 10, 13, 21)] 0 10 17 13 [(0, 10, 21, 15)] rfl (fun z hz => by
      simp only [List.mem_cons, List.not_mem_nil, or_false] at hz
      rcases hz with rfl
      · exact ⟨by decide, _, kcl_L_21, List.mem_of_getElem? (i := 1) rfl⟩) (by decide) (by decide) kcl_L_13 jCs_IAE (fun q9 => ?_)
  refine jw_astore_4 (pc := 17) C dL_arrive_17 rfl ?_
  refine jw_iconst (pc := 19) C dL_arrive_19 ?_
  exact jw_sub ((List.range 30).map (· + 1) ++ [0]) rfl rfl (hret 20 _ (iI 2) () _ _ (Nat.le_refl _) (Nat.le_refl _) dL_arrive_20 rfl)
set_option maxRecDepth 100000 in
set_option maxHeartbeats 4000000 in
theorem h_arrive_ISE (sa : Nat → Nat) (G : jG) (ad : Nat → Nat) (P : QP) (l : QL) (A : QA) (T : Nat → Bool) (F : QF) (q : Nat) (f : Nat → Int64) (hI : PI P) (a : Nat) (ha : (a : Int) < 4) (m : Int32) (hm : mOK P m) (hq : P.req = 40) : CH G sa yL_arrive cL_arrive 5 [(0, 10, 13, 21), (0, 10, 17, 13), (0, 10, 21, 15)] (jrm 9 170 1 6) [.ref (ad 0), .int (iI (a : Int)), .int m, .ref q] (wC G ad P l A T F ++ [jAL G q f]) (fun (z : Int32) (_ : Unit) => z = iI 3) (fun _ : Unit => (wC G ad P l A T F ++ [jAL G q f])) 1 6 := by
  refine ch_intro (own := RL) [some (.ref (ad 0)), some (.int (iI (a : Int))), some (.int m), some (.ref q), none] (by decide) rfl rfl rfl (Nat.le_of_ble_eq_true rfl) (fun X C Ev ht hret => ?_)
  refine jw_aload_3 (pc := 0) C dL_arrive_0 ?_
  refine jw_iconst (pc := 1) C dL_arrive_1 ?_
  refine jw_aload_0 (pc := 2) C dL_arrive_2 ?_
  refine jw_iload_1 (pc := 3) C dL_arrive_3 ?_
  refine jw_iload_2 (pc := 4) C dL_arrive_4 ?_
  refine jwx_sV_I (pc := 5) (wr := [jAL G q f]) C Ev (c_X5_arrive_ISE sa G ad P l A T F hI a ha m hm hq) wd_X5_arrive kml_L_30 0 rfl rfl (List.range 30) [30] rfl rfl rfl rfl (by decide) rfl rfl (Nat.le_of_ble_eq_true rfl) ⟨by decide, by decide⟩ ⟨Nat.le_refl _, Nat.le_refl _⟩ dL_arrive_5 rfl (fun E hE => ?_) (fun r u h => False.elim h)
  obtain rfl : E = E_ISE := hE
  refine jw_catch (pc := 5) C Ev ht [(0, 10, 13, 21), (0, 10, 17, 13)] 0 10 21 15 [] rfl (fun z hz => by
      simp only [List.mem_cons, List.not_mem_nil, or_false] at hz
      rcases hz with rfl | rfl
      · exact ⟨by decide, _, kcl_L_21, List.mem_of_getElem? (i := 2) rfl⟩
      · exact ⟨by decide, _, kcl_L_13, List.mem_of_getElem? (i := 0) rfl⟩) (by decide) (by decide) kcl_L_15 jCs_ISE (fun q9 => ?_)
  refine jw_astore_4 (pc := 21) C dL_arrive_21 rfl ?_
  refine jw_iconst (pc := 23) C dL_arrive_23 ?_
  exact jw_sub ((List.range 30).map (· + 1) ++ [0]) rfl rfl (hret 24 _ (iI 3) () _ _ (Nat.le_refl _) (Nat.le_refl _) dL_arrive_24 rfl)
set_option maxRecDepth 100000 in
set_option maxHeartbeats 4000000 in
theorem h_depart_IOE (sa : Nat → Nat) (G : jG) (ad : Nat → Nat) (P : QP) (l : QL) (A : QA) (T : Nat → Bool) (F : QF) (q : Nat) (f : Nat → Int64) (hI : PI P) (a : Int) (hj : jr a) (ha : ¬ (0 ≤ a ∧ a < P.req))  : CH G sa yL_depart cL_depart 4 [(0, 9, 12, 21), (0, 9, 15, 36)] (jrm 9 170 1 6) [.ref (ad 0), .int (iI a), .ref q] (wC G ad P l A T F ++ [jAL G q f]) (fun (z : Int32) (_ : Unit) => z = iI 1) (fun _ : Unit => (wC G ad P l A T F ++ [jAL G q f])) 1 6 := by
  refine ch_intro (own := RL) [some (.ref (ad 0)), some (.int (iI a)), some (.ref q), none] (by decide) rfl rfl rfl (Nat.le_of_ble_eq_true rfl) (fun X C Ev ht hret => ?_)
  refine jw_aload_2 (pc := 0) C dL_depart_0 ?_
  refine jw_iconst (pc := 1) C dL_depart_1 ?_
  refine jw_aload_0 (pc := 2) C dL_depart_2 ?_
  refine jw_iload_1 (pc := 3) C dL_depart_3 ?_
  refine jwx_sV_I (pc := 4) (wr := [jAL G q f]) C Ev (c_X5_depart_IOE sa G ad P l A T F hI a hj ha) wd_X5_depart kml_L_33 0 rfl rfl (List.range 30) [30] rfl rfl rfl rfl (by decide) rfl rfl (Nat.le_of_ble_eq_true rfl) ⟨by decide, by decide⟩ ⟨Nat.le_refl _, Nat.le_refl _⟩ dL_depart_4 rfl (fun E hE => ?_) (fun r u h => False.elim h)
  obtain rfl : E = E_IOE := hE
  refine jw_catch (pc := 4) C Ev ht [] 0 9 12 21 [(0, 9, 15, 36)] rfl (fun z hz => by cases hz) (by decide) (by decide) kcl_L_21 jCs_IOE (fun q9 => ?_)
  refine jw_astore_3 (pc := 12) C dL_depart_12 rfl ?_
  refine jw_iconst (pc := 13) C dL_depart_13 ?_
  exact jw_sub ((List.range 30).map (· + 1) ++ [0]) rfl rfl (hret 14 _ (iI 1) () _ _ (Nat.le_refl _) (Nat.le_refl _) dL_depart_14 rfl)
set_option maxRecDepth 100000 in
set_option maxHeartbeats 4000000 in
theorem h_depart_NSE (sa : Nat → Nat) (G : jG) (ad : Nat → Nat) (P : QP) (l : QL) (A : QA) (T : Nat → Bool) (F : QF) (q : Nat) (f : Nat → Int64) (hI : PI P) (r : Nat) (hr : (r : Int) < P.req) (hd : P.plc r = -2) : CH G sa yL_depart cL_depart 4 [(0, 9, 12, 21), (0, 9, 15, 36)] (jrm 9 170 1 6) [.ref (ad 0), .int (iI (r : Int)), .ref q] (wC G ad P l A T F ++ [jAL G q f]) (fun (z : Int32) (_ : Unit) => z = iI 2) (fun _ : Unit => (wC G ad P l A T F ++ [jAL G q f])) 1 6 := by
  refine ch_intro (own := RL) [some (.ref (ad 0)), some (.int (iI (r : Int))), some (.ref q), none] (by decide) rfl rfl rfl (Nat.le_of_ble_eq_true rfl) (fun X C Ev ht hret => ?_)
  refine jw_aload_2 (pc := 0) C dL_depart_0 ?_
  refine jw_iconst (pc := 1) C dL_depart_1 ?_
  refine jw_aload_0 (pc := 2) C dL_depart_2 ?_
  refine jw_iload_1 (pc := 3) C dL_depart_3 ?_
  refine jwx_sV_I (pc := 4) (wr := [jAL G q f]) C Ev (c_X5_depart_NSE sa G ad P l A T F hI r hr hd) wd_X5_depart kml_L_33 0 rfl rfl (List.range 30) [30] rfl rfl rfl rfl (by decide) rfl rfl (Nat.le_of_ble_eq_true rfl) ⟨by decide, by decide⟩ ⟨Nat.le_refl _, Nat.le_refl _⟩ dL_depart_4 rfl (fun E hE => ?_) (fun r u h => False.elim h)
  obtain rfl : E = E_NSE := hE
  refine jw_catch (pc := 4) C Ev ht [(0, 9, 12, 21)] 0 9 15 36 [] rfl (fun z hz => by
      simp only [List.mem_cons, List.not_mem_nil, or_false] at hz
      rcases hz with rfl
      · exact ⟨by decide, _, kcl_L_21, List.mem_of_getElem? (i := 3) rfl⟩) (by decide) (by decide) kcl_L_36 jCs_NSE (fun q9 => ?_)
  refine jw_astore_3 (pc := 15) C dL_depart_15 rfl ?_
  refine jw_iconst (pc := 16) C dL_depart_16 ?_
  exact jw_sub ((List.range 30).map (· + 1) ++ [0]) rfl rfl (hret 17 _ (iI 2) () _ _ (Nat.le_refl _) (Nat.le_refl _) dL_depart_17 rfl)
set_option maxRecDepth 100000 in
set_option maxHeartbeats 4000000 in
theorem h_setAccepts_IOE (sa : Nat → Nat) (G : jG) (ad : Nat → Nat) (P : QP) (l : QL) (A : QA) (T : Nat → Bool) (F : QF) (q : Nat) (f : Nat → Int64) (hI : PI P) (a : Int) (hj : jr a) (ha : ¬ (0 ≤ a ∧ a < P.req)) (m : Int32) : CH G sa yL_setAccepts cL_setAccepts 5 [(0, 17, 20, 21), (0, 17, 24, 36), (0, 17, 28, 13)] (jrm 9 170 1 6) [.ref (ad 0), .int (iI a), .int m, .ref q] (wC G ad P l A T F ++ [jAL G q f]) (fun (z : Int32) (_ : Unit) => z = iI 1) (fun _ : Unit => (wC G ad P l A T F ++ [jAL G q f])) 1 6 := by
  refine ch_intro (own := RL) [some (.ref (ad 0)), some (.int (iI a)), some (.int m), some (.ref q), none] (by decide) rfl rfl rfl (Nat.le_of_ble_eq_true rfl) (fun X C Ev ht hret => ?_)
  refine jw_aload_3 (pc := 0) C dL_setAccepts_0 ?_
  refine jw_iconst (pc := 1) C dL_setAccepts_1 ?_
  refine jw_aload_0 (pc := 2) C dL_setAccepts_2 ?_
  refine jw_iload_1 (pc := 3) C dL_setAccepts_3 ?_
  refine jw_iload_2 (pc := 4) C dL_setAccepts_4 ?_
  refine jwx_sV_Z (pc := 5) (wr := [jAL G q f]) C Ev (c_X5_setAccepts_IOE sa G ad P l A T F hI a hj ha m) wd_X5_setAccepts kml_L_38 0 rfl rfl (List.range 30) [30] rfl rfl rfl rfl (by decide) rfl rfl (Nat.le_of_ble_eq_true rfl) ⟨by decide, by decide⟩ ⟨Nat.le_refl _, Nat.le_refl _⟩ dL_setAccepts_5 rfl (fun E hE => ?_) (fun r u h => False.elim h)
  obtain rfl : E = E_IOE := hE
  refine jw_catch (pc := 5) C Ev ht [] 0 17 20 21 [(0, 17, 24, 36), (0, 17, 28, 13)] rfl (fun z hz => by cases hz) (by decide) (by decide) kcl_L_21 jCs_IOE (fun q9 => ?_)
  refine jw_astore_4 (pc := 20) C dL_setAccepts_20 rfl ?_
  refine jw_iconst (pc := 22) C dL_setAccepts_22 ?_
  exact jw_sub ((List.range 30).map (· + 1) ++ [0]) rfl rfl (hret 23 _ (iI 1) () _ _ (Nat.le_refl _) (Nat.le_refl _) dL_setAccepts_23 rfl)
set_option maxRecDepth 100000 in
set_option maxHeartbeats 4000000 in
theorem h_setAccepts_NSE (sa : Nat → Nat) (G : jG) (ad : Nat → Nat) (P : QP) (l : QL) (A : QA) (T : Nat → Bool) (F : QF) (q : Nat) (f : Nat → Int64) (hI : PI P) (r : Nat) (hr : (r : Int) < P.req) (hd : P.plc r = -2) (m : Int32) : CH G sa yL_setAccepts cL_setAccepts 5 [(0, 17, 20, 21), (0, 17, 24, 36), (0, 17, 28, 13)] (jrm 9 170 1 6) [.ref (ad 0), .int (iI (r : Int)), .int m, .ref q] (wC G ad P l A T F ++ [jAL G q f]) (fun (z : Int32) (_ : Unit) => z = iI 2) (fun _ : Unit => (wC G ad P l A T F ++ [jAL G q f])) 1 6 := by
  refine ch_intro (own := RL) [some (.ref (ad 0)), some (.int (iI (r : Int))), some (.int m), some (.ref q), none] (by decide) rfl rfl rfl (Nat.le_of_ble_eq_true rfl) (fun X C Ev ht hret => ?_)
  refine jw_aload_3 (pc := 0) C dL_setAccepts_0 ?_
  refine jw_iconst (pc := 1) C dL_setAccepts_1 ?_
  refine jw_aload_0 (pc := 2) C dL_setAccepts_2 ?_
  refine jw_iload_1 (pc := 3) C dL_setAccepts_3 ?_
  refine jw_iload_2 (pc := 4) C dL_setAccepts_4 ?_
  refine jwx_sV_Z (pc := 5) (wr := [jAL G q f]) C Ev (c_X5_setAccepts_NSE sa G ad P l A T F hI r hr hd m) wd_X5_setAccepts kml_L_38 0 rfl rfl (List.range 30) [30] rfl rfl rfl rfl (by decide) rfl rfl (Nat.le_of_ble_eq_true rfl) ⟨by decide, by decide⟩ ⟨Nat.le_refl _, Nat.le_refl _⟩ dL_setAccepts_5 rfl (fun E hE => ?_) (fun r u h => False.elim h)
  obtain rfl : E = E_NSE := hE
  refine jw_catch (pc := 5) C Ev ht [(0, 17, 20, 21)] 0 17 24 36 [(0, 17, 28, 13)] rfl (fun z hz => by
      simp only [List.mem_cons, List.not_mem_nil, or_false] at hz
      rcases hz with rfl
      · exact ⟨by decide, _, kcl_L_21, List.mem_of_getElem? (i := 3) rfl⟩) (by decide) (by decide) kcl_L_36 jCs_NSE (fun q9 => ?_)
  refine jw_astore_4 (pc := 24) C dL_setAccepts_24 rfl ?_
  refine jw_iconst (pc := 26) C dL_setAccepts_26 ?_
  exact jw_sub ((List.range 30).map (· + 1) ++ [0]) rfl rfl (hret 27 _ (iI 2) () _ _ (Nat.le_refl _) (Nat.le_refl _) dL_setAccepts_27 rfl)
set_option maxRecDepth 100000 in
set_option maxHeartbeats 4000000 in
theorem h_setAccepts_IAE (sa : Nat → Nat) (G : jG) (ad : Nat → Nat) (P : QP) (l : QL) (A : QA) (T : Nat → Bool) (F : QF) (q : Nat) (f : Nat → Int64) (hI : PI P) (r : Nat) (hr : (r : Int) < P.req) (hd : P.plc r ≠ -2) (m : Int32) (hm : ¬ mOK P m) : CH G sa yL_setAccepts cL_setAccepts 5 [(0, 17, 20, 21), (0, 17, 24, 36), (0, 17, 28, 13)] (jrm 9 170 1 6) [.ref (ad 0), .int (iI (r : Int)), .int m, .ref q] (wC G ad P l A T F ++ [jAL G q f]) (fun (z : Int32) (_ : Unit) => z = iI 3) (fun _ : Unit => (wC G ad P l A T F ++ [jAL G q f])) 1 6 := by
  refine ch_intro (own := RL) [some (.ref (ad 0)), some (.int (iI (r : Int))), some (.int m), some (.ref q), none] (by decide) rfl rfl rfl (Nat.le_of_ble_eq_true rfl) (fun X C Ev ht hret => ?_)
  refine jw_aload_3 (pc := 0) C dL_setAccepts_0 ?_
  refine jw_iconst (pc := 1) C dL_setAccepts_1 ?_
  refine jw_aload_0 (pc := 2) C dL_setAccepts_2 ?_
  refine jw_iload_1 (pc := 3) C dL_setAccepts_3 ?_
  refine jw_iload_2 (pc := 4) C dL_setAccepts_4 ?_
  refine jwx_sV_Z (pc := 5) (wr := [jAL G q f]) C Ev (c_X5_setAccepts_IAE sa G ad P l A T F hI r hr hd m hm) wd_X5_setAccepts kml_L_38 0 rfl rfl (List.range 30) [30] rfl rfl rfl rfl (by decide) rfl rfl (Nat.le_of_ble_eq_true rfl) ⟨by decide, by decide⟩ ⟨Nat.le_refl _, Nat.le_refl _⟩ dL_setAccepts_5 rfl (fun E hE => ?_) (fun r u h => False.elim h)
  obtain rfl : E = E_IAE := hE
  refine jw_catch (pc := 5) C Ev ht [(0, 17, 20, 21), (0, 17, 24, 36)] 0 17 28 13 [] rfl (fun z hz => by
      simp only [List.mem_cons, List.not_mem_nil, or_false] at hz
      rcases hz with rfl | rfl
      · exact ⟨by decide, _, kcl_L_21, List.mem_of_getElem? (i := 1) rfl⟩
      · exact ⟨by decide, _, kcl_L_36, List.mem_of_getElem? (i := 4) rfl⟩) (by decide) (by decide) kcl_L_13 jCs_IAE (fun q9 => ?_)
  refine jw_astore_4 (pc := 28) C dL_setAccepts_28 rfl ?_
  refine jw_iconst (pc := 30) C dL_setAccepts_30 ?_
  exact jw_sub ((List.range 30).map (· + 1) ++ [0]) rfl rfl (hret 31 _ (iI 3) () _ _ (Nat.le_refl _) (Nat.le_refl _) dL_setAccepts_31 rfl)
set_option maxRecDepth 100000 in
set_option maxHeartbeats 4000000 in
theorem h_assignedOf_IOE (sa : Nat → Nat) (G : jG) (ad : Nat → Nat) (P : QP) (l : QL) (A : QA) (T : Nat → Bool) (F : QF) (q : Nat) (f : Nat → Int64) (a : Int) (hj : jr a) (ha : ¬ (0 ≤ a ∧ a < 4)) : CH G sa yL_assignedOf cL_assignedOf 4 [(0, 9, 12, 21)] (jrm 9 170 1 6) [.ref (ad 0), .int (iI a), .ref q] (wC G ad P l A T F ++ [jAL G q f]) (fun (z : Int32) (_ : Unit) => z = iI 1) (fun _ : Unit => (wC G ad P l A T F ++ [jAL G q f])) 1 6 := by
  refine ch_intro (own := RL) [some (.ref (ad 0)), some (.int (iI a)), some (.ref q), none] (by decide) rfl rfl rfl (Nat.le_of_ble_eq_true rfl) (fun X C Ev ht hret => ?_)
  refine jw_aload_2 (pc := 0) C dL_assignedOf_0 ?_
  refine jw_iconst (pc := 1) C dL_assignedOf_1 ?_
  refine jw_aload_0 (pc := 2) C dL_assignedOf_2 ?_
  refine jw_iload_1 (pc := 3) C dL_assignedOf_3 ?_
  refine jwx_sV_I (pc := 4) (wr := [jAL G q f]) C Ev (c_X5_assignedOf_IOE sa G ad P l A T F a hj ha) wd_X5_assignedOf kml_L_42 0 rfl rfl (List.range 30) [30] rfl rfl rfl rfl (by decide) rfl rfl (Nat.le_of_ble_eq_true rfl) ⟨by decide, by decide⟩ ⟨Nat.le_refl _, Nat.le_refl _⟩ dL_assignedOf_4 rfl (fun E hE => ?_) (fun r u h => False.elim h)
  obtain rfl : E = E_IOE := hE
  refine jw_catch (pc := 4) C Ev ht [] 0 9 12 21 [] rfl (fun z hz => by cases hz) (by decide) (by decide) kcl_L_21 jCs_IOE (fun q9 => ?_)
  refine jw_astore_3 (pc := 12) C dL_assignedOf_12 rfl ?_
  refine jw_iconst (pc := 13) C dL_assignedOf_13 ?_
  exact jw_sub ((List.range 30).map (· + 1) ++ [0]) rfl rfl (hret 14 _ (iI 1) () _ _ (Nat.le_refl _) (Nat.le_refl _) dL_assignedOf_14 rfl)
set_option maxRecDepth 100000 in
set_option maxHeartbeats 4000000 in
theorem h_state_IOE (sa : Nat → Nat) (G : jG) (ad : Nat → Nat) (P : QP) (l : QL) (A : QA) (T : Nat → Bool) (F : QF) (q : Nat) (f : Nat → Int64) (hI : PI P) (a : Int) (hj : jr a) (ha : ¬ (0 ≤ a ∧ a < P.req))  : CH G sa yL_state cL_state 4 [(0, 9, 12, 21)] (jrm 9 170 1 6) [.ref (ad 0), .int (iI a), .ref q] (wC G ad P l A T F ++ [jAL G q f]) (fun (z : Int32) (_ : Unit) => z = iI 1) (fun _ : Unit => (wC G ad P l A T F ++ [jAL G q f])) 1 6 := by
  refine ch_intro (own := RL) [some (.ref (ad 0)), some (.int (iI a)), some (.ref q), none] (by decide) rfl rfl rfl (Nat.le_of_ble_eq_true rfl) (fun X C Ev ht hret => ?_)
  refine jw_aload_2 (pc := 0) C dL_state_0 ?_
  refine jw_iconst (pc := 1) C dL_state_1 ?_
  refine jw_aload_0 (pc := 2) C dL_state_2 ?_
  refine jw_iload_1 (pc := 3) C dL_state_3 ?_
  refine jwx_sV_I (pc := 4) (wr := [jAL G q f]) C Ev (c_X5_state_IOE sa G ad P l A T F hI a hj ha) wd_X5_state kml_L_48 0 rfl rfl (List.range 30) [30] rfl rfl rfl rfl (by decide) rfl rfl (Nat.le_of_ble_eq_true rfl) ⟨by decide, by decide⟩ ⟨Nat.le_refl _, Nat.le_refl _⟩ dL_state_4 rfl (fun E hE => ?_) (fun r u h => False.elim h)
  obtain rfl : E = E_IOE := hE
  refine jw_catch (pc := 4) C Ev ht [] 0 9 12 21 [] rfl (fun z hz => by cases hz) (by decide) (by decide) kcl_L_21 jCs_IOE (fun q9 => ?_)
  refine jw_astore_3 (pc := 12) C dL_state_12 rfl ?_
  refine jw_iconst (pc := 13) C dL_state_13 ?_
  exact jw_sub ((List.range 30).map (· + 1) ++ [0]) rfl rfl (hret 14 _ (iI 1) () _ _ (Nat.le_refl _) (Nat.le_refl _) dL_state_14 rfl)
set_option maxRecDepth 100000 in
set_option maxHeartbeats 4000000 in
theorem h_movesOf_IOE (sa : Nat → Nat) (G : jG) (ad : Nat → Nat) (P : QP) (l : QL) (A : QA) (T : Nat → Bool) (F : QF) (q : Nat) (f : Nat → Int64) (hI : PI P) (a : Int) (hj : jr a) (ha : ¬ (0 ≤ a ∧ a < P.req))  : CH G sa yL_movesOf cL_movesOf 4 [(0, 9, 12, 21)] (jrm 9 170 1 6) [.ref (ad 0), .int (iI a), .ref q] (wC G ad P l A T F ++ [jAL G q f]) (fun (z : Int32) (_ : Unit) => z = iI 1) (fun _ : Unit => (wC G ad P l A T F ++ [jAL G q f])) 1 6 := by
  refine ch_intro (own := RL) [some (.ref (ad 0)), some (.int (iI a)), some (.ref q), none] (by decide) rfl rfl rfl (Nat.le_of_ble_eq_true rfl) (fun X C Ev ht hret => ?_)
  refine jw_aload_2 (pc := 0) C dL_movesOf_0 ?_
  refine jw_iconst (pc := 1) C dL_movesOf_1 ?_
  refine jw_aload_0 (pc := 2) C dL_movesOf_2 ?_
  refine jw_iload_1 (pc := 3) C dL_movesOf_3 ?_
  refine jwx_sV_I (pc := 4) (wr := [jAL G q f]) C Ev (c_X5_movesOf_IOE sa G ad P l A T F hI a hj ha) wd_X5_movesOf kml_L_54 0 rfl rfl (List.range 30) [30] rfl rfl rfl rfl (by decide) rfl rfl (Nat.le_of_ble_eq_true rfl) ⟨by decide, by decide⟩ ⟨Nat.le_refl _, Nat.le_refl _⟩ dL_movesOf_4 rfl (fun E hE => ?_) (fun r u h => False.elim h)
  obtain rfl : E = E_IOE := hE
  refine jw_catch (pc := 4) C Ev ht [] 0 9 12 21 [] rfl (fun z hz => by cases hz) (by decide) (by decide) kcl_L_21 jCs_IOE (fun q9 => ?_)
  refine jw_astore_3 (pc := 12) C dL_movesOf_12 rfl ?_
  refine jw_iconst (pc := 13) C dL_movesOf_13 ?_
  exact jw_sub ((List.range 30).map (· + 1) ++ [0]) rfl rfl (hret 14 _ (iI 1) () _ _ (Nat.le_refl _) (Nat.le_refl _) dL_movesOf_14 rfl)
set_option maxRecDepth 100000 in
set_option maxHeartbeats 4000000 in
theorem h_resourceOf_IOE (sa : Nat → Nat) (G : jG) (ad : Nat → Nat) (P : QP) (l : QL) (A : QA) (T : Nat → Bool) (F : QF) (q : Nat) (f : Nat → Int64) (hI : PI P) (a : Int) (hj : jr a) (ha : ¬ (0 ≤ a ∧ a < P.req))  : CH G sa yL_resourceOf cL_resourceOf 4 [(0, 9, 12, 21), (0, 9, 15, 36)] (jrm 9 170 1 6) [.ref (ad 0), .int (iI a), .ref q] (wC G ad P l A T F ++ [jAL G q f]) (fun (z : Int32) (_ : Unit) => z = iI 1) (fun _ : Unit => (wC G ad P l A T F ++ [jAL G q f])) 1 6 := by
  refine ch_intro (own := RL) [some (.ref (ad 0)), some (.int (iI a)), some (.ref q), none] (by decide) rfl rfl rfl (Nat.le_of_ble_eq_true rfl) (fun X C Ev ht hret => ?_)
  refine jw_aload_2 (pc := 0) C dL_resourceOf_0 ?_
  refine jw_iconst (pc := 1) C dL_resourceOf_1 ?_
  refine jw_aload_0 (pc := 2) C dL_resourceOf_2 ?_
  refine jw_iload_1 (pc := 3) C dL_resourceOf_3 ?_
  refine jwx_sV_I (pc := 4) (wr := [jAL G q f]) C Ev (c_X5_resourceOf_IOE sa G ad P l A T F hI a hj ha) wd_X5_resourceOf kml_L_51 0 rfl rfl (List.range 30) [30] rfl rfl rfl rfl (by decide) rfl rfl (Nat.le_of_ble_eq_true rfl) ⟨by decide, by decide⟩ ⟨Nat.le_refl _, Nat.le_refl _⟩ dL_resourceOf_4 rfl (fun E hE => ?_) (fun r u h => False.elim h)
  obtain rfl : E = E_IOE := hE
  refine jw_catch (pc := 4) C Ev ht [] 0 9 12 21 [(0, 9, 15, 36)] rfl (fun z hz => by cases hz) (by decide) (by decide) kcl_L_21 jCs_IOE (fun q9 => ?_)
  refine jw_astore_3 (pc := 12) C dL_resourceOf_12 rfl ?_
  refine jw_iconst (pc := 13) C dL_resourceOf_13 ?_
  exact jw_sub ((List.range 30).map (· + 1) ++ [0]) rfl rfl (hret 14 _ (iI 1) () _ _ (Nat.le_refl _) (Nat.le_refl _) dL_resourceOf_14 rfl)
set_option maxRecDepth 100000 in
set_option maxHeartbeats 4000000 in
theorem h_resourceOf_NSE (sa : Nat → Nat) (G : jG) (ad : Nat → Nat) (P : QP) (l : QL) (A : QA) (T : Nat → Bool) (F : QF) (q : Nat) (f : Nat → Int64) (hI : PI P) (r : Nat) (hr : (r : Int) < P.req) (hd : ¬ 0 ≤ P.plc r) : CH G sa yL_resourceOf cL_resourceOf 4 [(0, 9, 12, 21), (0, 9, 15, 36)] (jrm 9 170 1 6) [.ref (ad 0), .int (iI (r : Int)), .ref q] (wC G ad P l A T F ++ [jAL G q f]) (fun (z : Int32) (_ : Unit) => z = iI 2) (fun _ : Unit => (wC G ad P l A T F ++ [jAL G q f])) 1 6 := by
  refine ch_intro (own := RL) [some (.ref (ad 0)), some (.int (iI (r : Int))), some (.ref q), none] (by decide) rfl rfl rfl (Nat.le_of_ble_eq_true rfl) (fun X C Ev ht hret => ?_)
  refine jw_aload_2 (pc := 0) C dL_resourceOf_0 ?_
  refine jw_iconst (pc := 1) C dL_resourceOf_1 ?_
  refine jw_aload_0 (pc := 2) C dL_resourceOf_2 ?_
  refine jw_iload_1 (pc := 3) C dL_resourceOf_3 ?_
  refine jwx_sV_I (pc := 4) (wr := [jAL G q f]) C Ev (c_X5_resourceOf_NSE sa G ad P l A T F hI r hr hd) wd_X5_resourceOf kml_L_51 0 rfl rfl (List.range 30) [30] rfl rfl rfl rfl (by decide) rfl rfl (Nat.le_of_ble_eq_true rfl) ⟨by decide, by decide⟩ ⟨Nat.le_refl _, Nat.le_refl _⟩ dL_resourceOf_4 rfl (fun E hE => ?_) (fun r u h => False.elim h)
  obtain rfl : E = E_NSE := hE
  refine jw_catch (pc := 4) C Ev ht [(0, 9, 12, 21)] 0 9 15 36 [] rfl (fun z hz => by
      simp only [List.mem_cons, List.not_mem_nil, or_false] at hz
      rcases hz with rfl
      · exact ⟨by decide, _, kcl_L_21, List.mem_of_getElem? (i := 3) rfl⟩) (by decide) (by decide) kcl_L_36 jCs_NSE (fun q9 => ?_)
  refine jw_astore_3 (pc := 15) C dL_resourceOf_15 rfl ?_
  refine jw_iconst (pc := 16) C dL_resourceOf_16 ?_
  exact jw_sub ((List.range 30).map (· + 1) ++ [0]) rfl rfl (hret 17 _ (iI 2) () _ _ (Nat.le_refl _) (Nat.le_refl _) dL_resourceOf_17 rfl)
set_option maxRecDepth 100000 in
set_option maxHeartbeats 4000000 in
theorem h_movesNeeded_IOE (sa : Nat → Nat) (G : jG) (ad : Nat → Nat) (P : QP) (l : QL) (A : QA) (T : Nat → Bool) (F : QF) (q : Nat) (f : Nat → Int64) (hI : PI P) (a : Int) (hj : jr a) (ha : ¬ (0 ≤ a ∧ a < P.req))  : CH G sa yL_movesNeeded cL_movesNeeded 4 [(0, 9, 12, 21), (0, 9, 15, 36)] (jrm 9 170 1 6) [.ref (ad 0), .int (iI a), .ref q] (wC G ad P l A T F ++ [jAL G q f]) (fun (z : Int32) (_ : Unit) => z = iI 1) (fun _ : Unit => (wC G ad P l A T F ++ [jAL G q f])) 1 6 := by
  refine ch_intro (own := RL) [some (.ref (ad 0)), some (.int (iI a)), some (.ref q), none] (by decide) rfl rfl rfl (Nat.le_of_ble_eq_true rfl) (fun X C Ev ht hret => ?_)
  refine jw_aload_2 (pc := 0) C dL_movesNeeded_0 ?_
  refine jw_iconst (pc := 1) C dL_movesNeeded_1 ?_
  refine jw_aload_0 (pc := 2) C dL_movesNeeded_2 ?_
  refine jw_iload_1 (pc := 3) C dL_movesNeeded_3 ?_
  refine jwx_sV_I (pc := 4) (wr := [jAL G q f]) C Ev (c_X5_movesNeeded_IOE sa G ad P l A T F hI a hj ha) wd_X5_movesNeeded kml_L_63 0 rfl rfl (List.range 30) [30] rfl rfl rfl rfl (by decide) rfl rfl (Nat.le_of_ble_eq_true rfl) ⟨by decide, by decide⟩ ⟨Nat.le_refl _, Nat.le_refl _⟩ dL_movesNeeded_4 rfl (fun E hE => ?_) (fun r u h => False.elim h)
  obtain rfl : E = E_IOE := hE
  refine jw_catch (pc := 4) C Ev ht [] 0 9 12 21 [(0, 9, 15, 36)] rfl (fun z hz => by cases hz) (by decide) (by decide) kcl_L_21 jCs_IOE (fun q9 => ?_)
  refine jw_astore_3 (pc := 12) C dL_movesNeeded_12 rfl ?_
  refine jw_iconst (pc := 13) C dL_movesNeeded_13 ?_
  exact jw_sub ((List.range 30).map (· + 1) ++ [0]) rfl rfl (hret 14 _ (iI 1) () _ _ (Nat.le_refl _) (Nat.le_refl _) dL_movesNeeded_14 rfl)
set_option maxRecDepth 100000 in
set_option maxHeartbeats 4000000 in
theorem h_movesNeeded_NSE (sa : Nat → Nat) (G : jG) (ad : Nat → Nat) (P : QP) (l : QL) (A : QA) (T : Nat → Bool) (F : QF) (q : Nat) (f : Nat → Int64) (hI : PI P) (r : Nat) (hr : (r : Int) < P.req) (hd : ¬ P.plc r = -1) : CH G sa yL_movesNeeded cL_movesNeeded 4 [(0, 9, 12, 21), (0, 9, 15, 36)] (jrm 9 170 1 6) [.ref (ad 0), .int (iI (r : Int)), .ref q] (wC G ad P l A T F ++ [jAL G q f]) (fun (z : Int32) (_ : Unit) => z = iI 2) (fun _ : Unit => (wC G ad P l A T F ++ [jAL G q f])) 1 6 := by
  refine ch_intro (own := RL) [some (.ref (ad 0)), some (.int (iI (r : Int))), some (.ref q), none] (by decide) rfl rfl rfl (Nat.le_of_ble_eq_true rfl) (fun X C Ev ht hret => ?_)
  refine jw_aload_2 (pc := 0) C dL_movesNeeded_0 ?_
  refine jw_iconst (pc := 1) C dL_movesNeeded_1 ?_
  refine jw_aload_0 (pc := 2) C dL_movesNeeded_2 ?_
  refine jw_iload_1 (pc := 3) C dL_movesNeeded_3 ?_
  refine jwx_sV_I (pc := 4) (wr := [jAL G q f]) C Ev (c_X5_movesNeeded_NSE sa G ad P l A T F hI r hr hd) wd_X5_movesNeeded kml_L_63 0 rfl rfl (List.range 30) [30] rfl rfl rfl rfl (by decide) rfl rfl (Nat.le_of_ble_eq_true rfl) ⟨by decide, by decide⟩ ⟨Nat.le_refl _, Nat.le_refl _⟩ dL_movesNeeded_4 rfl (fun E hE => ?_) (fun r u h => False.elim h)
  obtain rfl : E = E_NSE := hE
  refine jw_catch (pc := 4) C Ev ht [(0, 9, 12, 21)] 0 9 15 36 [] rfl (fun z hz => by
      simp only [List.mem_cons, List.not_mem_nil, or_false] at hz
      rcases hz with rfl
      · exact ⟨by decide, _, kcl_L_21, List.mem_of_getElem? (i := 3) rfl⟩) (by decide) (by decide) kcl_L_36 jCs_NSE (fun q9 => ?_)
  refine jw_astore_3 (pc := 15) C dL_movesNeeded_15 rfl ?_
  refine jw_iconst (pc := 16) C dL_movesNeeded_16 ?_
  exact jw_sub ((List.range 30).map (· + 1) ++ [0]) rfl rfl (hret 17 _ (iI 2) () _ _ (Nat.le_refl _) (Nat.le_refl _) dL_movesNeeded_17 rfl)
set_option maxRecDepth 100000 in
set_option maxHeartbeats 4000000 in
theorem h_gainBy_IOE (sa : Nat → Nat) (G : jG) (ad : Nat → Nat) (P : QP) (l : QL) (A : QA) (T : Nat → Bool) (F : QF) (q : Nat) (f : Nat → Int64) (hI : PI P) (a : Int) (hj : jr a) (ha : ¬ (0 ≤ a ∧ a < P.req))  : CH G sa yL_gainBy cL_gainBy 4 [(0, 9, 12, 21)] (jrm 9 170 1 6) [.ref (ad 0), .int (iI a), .ref q] (wC G ad P l A T F ++ [jAL G q f]) (fun (z : Int32) (_ : Unit) => z = iI 1) (fun _ : Unit => (wC G ad P l A T F ++ [jAL G q f])) 1 6 := by
  refine ch_intro (own := RL) [some (.ref (ad 0)), some (.int (iI a)), some (.ref q), none] (by decide) rfl rfl rfl (Nat.le_of_ble_eq_true rfl) (fun X C Ev ht hret => ?_)
  refine jw_aload_2 (pc := 0) C dL_gainBy_0 ?_
  refine jw_iconst (pc := 1) C dL_gainBy_1 ?_
  refine jw_aload_0 (pc := 2) C dL_gainBy_2 ?_
  refine jw_iload_1 (pc := 3) C dL_gainBy_3 ?_
  refine jwx_sV_I (pc := 4) (wr := [jAL G q f]) C Ev (c_X5_gainBy_IOE sa G ad P l A T F hI a hj ha) wd_X5_gainBy kml_L_66 0 rfl rfl (List.range 30) [30] rfl rfl rfl rfl (by decide) rfl rfl (Nat.le_of_ble_eq_true rfl) ⟨by decide, by decide⟩ ⟨Nat.le_refl _, Nat.le_refl _⟩ dL_gainBy_4 rfl (fun E hE => ?_) (fun r u h => False.elim h)
  obtain rfl : E = E_IOE := hE
  refine jw_catch (pc := 4) C Ev ht [] 0 9 12 21 [] rfl (fun z hz => by cases hz) (by decide) (by decide) kcl_L_21 jCs_IOE (fun q9 => ?_)
  refine jw_astore_3 (pc := 12) C dL_gainBy_12 rfl ?_
  refine jw_iconst (pc := 13) C dL_gainBy_13 ?_
  exact jw_sub ((List.range 30).map (· + 1) ++ [0]) rfl rfl (hret 14 _ (iI 1) () _ _ (Nat.le_refl _) (Nat.le_refl _) dL_gainBy_14 rfl)
set_option maxRecDepth 100000 in
set_option maxHeartbeats 4000000 in
theorem h_movedRequest_IOE (sa : Nat → Nat) (G : jG) (ad : Nat → Nat) (P : QP) (l : QL) (A : QA) (T : Nat → Bool) (F : QF) (q : Nat) (f : Nat → Int64) (hl : 0 ≤ l.sz ∧ l.sz ≤ 200) (a : Int) (hj : jr a) (ha : ¬ (0 ≤ a ∧ a < l.sz)) : CH G sa yL_movedRequest cL_movedRequest 4 [(0, 9, 12, 21)] (jrm 9 170 1 6) [.ref (ad 0), .int (iI a), .ref q] (wC G ad P l A T F ++ [jAL G q f]) (fun (z : Int32) (_ : Unit) => z = iI 1) (fun _ : Unit => (wC G ad P l A T F ++ [jAL G q f])) 1 6 := by
  refine ch_intro (own := RL) [some (.ref (ad 0)), some (.int (iI a)), some (.ref q), none] (by decide) rfl rfl rfl (Nat.le_of_ble_eq_true rfl) (fun X C Ev ht hret => ?_)
  refine jw_aload_2 (pc := 0) C dL_movedRequest_0 ?_
  refine jw_iconst (pc := 1) C dL_movedRequest_1 ?_
  refine jw_aload_0 (pc := 2) C dL_movedRequest_2 ?_
  refine jw_iload_1 (pc := 3) C dL_movedRequest_3 ?_
  refine jwx_sV_I (pc := 4) (wr := [jAL G q f]) C Ev (c_X5_movedRequest_IOE sa G ad P l A T F hl a hj ha) wd_X5_movedRequest kml_L_57 0 rfl rfl (List.range 30) [30] rfl rfl rfl rfl (by decide) rfl rfl (Nat.le_of_ble_eq_true rfl) ⟨by decide, by decide⟩ ⟨Nat.le_refl _, Nat.le_refl _⟩ dL_movedRequest_4 rfl (fun E hE => ?_) (fun r u h => False.elim h)
  obtain rfl : E = E_IOE := hE
  refine jw_catch (pc := 4) C Ev ht [] 0 9 12 21 [] rfl (fun z hz => by cases hz) (by decide) (by decide) kcl_L_21 jCs_IOE (fun q9 => ?_)
  refine jw_astore_3 (pc := 12) C dL_movedRequest_12 rfl ?_
  refine jw_iconst (pc := 13) C dL_movedRequest_13 ?_
  exact jw_sub ((List.range 30).map (· + 1) ++ [0]) rfl rfl (hret 14 _ (iI 1) () _ _ (Nat.le_refl _) (Nat.le_refl _) dL_movedRequest_14 rfl)
set_option maxRecDepth 100000 in
set_option maxHeartbeats 4000000 in
theorem h_movedTo_IOE (sa : Nat → Nat) (G : jG) (ad : Nat → Nat) (P : QP) (l : QL) (A : QA) (T : Nat → Bool) (F : QF) (q : Nat) (f : Nat → Int64) (hl : 0 ≤ l.sz ∧ l.sz ≤ 200) (a : Int) (hj : jr a) (ha : ¬ (0 ≤ a ∧ a < l.sz)) : CH G sa yL_movedTo cL_movedTo 4 [(0, 9, 12, 21)] (jrm 9 170 1 6) [.ref (ad 0), .int (iI a), .ref q] (wC G ad P l A T F ++ [jAL G q f]) (fun (z : Int32) (_ : Unit) => z = iI 1) (fun _ : Unit => (wC G ad P l A T F ++ [jAL G q f])) 1 6 := by
  refine ch_intro (own := RL) [some (.ref (ad 0)), some (.int (iI a)), some (.ref q), none] (by decide) rfl rfl rfl (Nat.le_of_ble_eq_true rfl) (fun X C Ev ht hret => ?_)
  refine jw_aload_2 (pc := 0) C dL_movedTo_0 ?_
  refine jw_iconst (pc := 1) C dL_movedTo_1 ?_
  refine jw_aload_0 (pc := 2) C dL_movedTo_2 ?_
  refine jw_iload_1 (pc := 3) C dL_movedTo_3 ?_
  refine jwx_sV_I (pc := 4) (wr := [jAL G q f]) C Ev (c_X5_movedTo_IOE sa G ad P l A T F hl a hj ha) wd_X5_movedTo kml_L_60 0 rfl rfl (List.range 30) [30] rfl rfl rfl rfl (by decide) rfl rfl (Nat.le_of_ble_eq_true rfl) ⟨by decide, by decide⟩ ⟨Nat.le_refl _, Nat.le_refl _⟩ dL_movedTo_4 rfl (fun E hE => ?_) (fun r u h => False.elim h)
  obtain rfl : E = E_IOE := hE
  refine jw_catch (pc := 4) C Ev ht [] 0 9 12 21 [] rfl (fun z hz => by cases hz) (by decide) (by decide) kcl_L_21 jCs_IOE (fun q9 => ?_)
  refine jw_astore_3 (pc := 12) C dL_movedTo_12 rfl ?_
  refine jw_iconst (pc := 13) C dL_movedTo_13 ?_
  exact jw_sub ((List.range 30).map (· + 1) ++ [0]) rfl rfl (hret 14 _ (iI 1) () _ _ (Nat.le_refl _) (Nat.le_refl _) dL_movedTo_14 rfl)
