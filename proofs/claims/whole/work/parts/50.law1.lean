abbrev jAL (G : jG) (q : Nat) (f : Nat → Int64) : Nat × va_E := (q, .inl (G.2 2, 1, .inr (.inl f)))
set_option maxRecDepth 100000 in
set_option maxHeartbeats 4000000 in
theorem h_load_IOE (sa : Nat → Nat) (G : jG) (ad : Nat → Nat) (P : QP) (l : QL) (A : QA) (T : Nat → Bool) (F : QF) (q : Nat) (f : Nat → Int64) (hI : PI P) (a : Int) (hj : jr a) (ha : ¬ (0 ≤ a ∧ a < P.res)) : CH G sa yL_load cL_load 4 [(0, 9, 12, 21)] (jrm 8 140 1 6) [.ref (ad 0), .int (iI a), .ref q] (wC G ad P l A T F ++ [jAL G q f]) (fun (z : Int32) (_ : Unit) => z = iI 1) (fun _ : Unit => (wC G ad P l A T F ++ [jAL G q f])) 1 6 := by
  refine ch_intro (own := RL) [some (.ref (ad 0)), some (.int (iI a)), some (.ref q), none] (by decide) rfl rfl rfl (Nat.le_of_ble_eq_true rfl) (fun X C Ev ht hret => ?_)
  refine jw_aload_2 (pc := 0) C dL_load_0 ?_
  refine jw_iconst (pc := 1) C dL_load_1 ?_
  refine jw_aload_0 (pc := 2) C dL_load_2 ?_
  refine jw_iload_1 (pc := 3) C dL_load_3 ?_
  refine jwx_sV_I (pc := 4) (wr := [jAL G q f]) C Ev (c_X5_load_IOE sa G ad P l A T F hI a hj ha) wd_X5_load kml_L_45 0 rfl rfl (List.range 30) [30] rfl rfl rfl rfl (by decide) rfl rfl (Nat.le_of_ble_eq_true rfl) ⟨by decide, by decide⟩ ⟨Nat.le_refl _, Nat.le_refl _⟩ dL_load_4 rfl (fun E hE => ?_) (fun r u h => False.elim h)
  obtain rfl : E = E_IOE := hE
  refine jw_catch (pc := 4) C Ev ht [] 0 9 12 21 [] rfl (fun z hz => by cases hz) (by decide) (by decide) kcl_L_21 jCs_IOE (fun q9 => ?_)
  refine jw_astore_3 (pc := 12) C dL_load_12 rfl ?_
  refine jw_iconst (pc := 13) C dL_load_13 ?_
  exact jw_sub ((List.range 30).map (· + 1) ++ [0]) rfl rfl (hret 14 _ (iI 1) () _ _ (Nat.le_refl _) (Nat.le_refl _) dL_load_14 rfl)
set_option maxRecDepth 100000 in
set_option maxHeartbeats 4000000 in
theorem h_load_ok (sa : Nat → Nat) (G : jG) (ad : Nat → Nat) (P : QP) (l : QL) (A : QA) (T : Nat → Bool) (F : QF) (q : Nat) (f : Nat → Int64) (hI : PI P) (a : Nat) (ha : (a : Int) < P.res) : CH G sa yL_load cL_load 4 [(0, 9, 12, 21)] (jrm 8 140 0 0) [.ref (ad 0), .int (iI (a : Int)), .ref q] (wC G ad P l A T F ++ [jAL G q f]) (fun (z : Int32) (_ : Unit) => z = iI 0) (fun _ : Unit => wC G ad P l A T F ++ [jAL G q (updf f 0 (iI (P.load a)).toInt64)]) 0 0 := by
  refine ch_intro (own := RL) [some (.ref (ad 0)), some (.int (iI (a : Int))), some (.ref q), none] (by decide) rfl rfl rfl (Nat.le_of_ble_eq_true rfl) (fun X C Ev ht hret => ?_)
  refine jw_aload_2 (pc := 0) C dL_load_0 ?_
  refine jw_iconst (pc := 1) C dL_load_1 ?_
  refine jw_aload_0 (pc := 2) C dL_load_2 ?_
  refine jw_iload_1 (pc := 3) C dL_load_3 ?_
  refine jw_sV_I (pc := 4) (wr := [jAL G q f]) C (c_X5_load G ad P l A T F hI a ha) wd_X5_load kml_L_45 0 rfl rfl (List.range 30) [30] rfl rfl rfl rfl (by decide) rfl rfl (Nat.le_of_ble_eq_true rfl) ⟨by decide, by decide⟩ ⟨Nat.zero_le _, Nat.zero_le _⟩ dL_load_4 rfl (fun z u h => ?_)
  subst h
  refine jw_i2l (pc := 7) C dL_load_7 ?_
  refine jw_last (pc := 8) C 0 rfl 0 rfl (by decide) (by decide) dL_load_8 ?_
  refine jw_goto (pc := 9) (tgt := 15) C dL_load_9 (by decide) ?_
  refine jw_iconst (pc := 15) C dL_load_15 ?_
  exact jw_sub ((List.range 30).map (· + 1) ++ [0]) rfl rfl (hret 16 _ (iI 0) () _ _ (Nat.le_refl _) (Nat.le_refl _) dL_load_16 rfl)
