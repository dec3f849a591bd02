/-! the law from its entry, in the words of JW; what the start gives -/
set_option maxRecDepth 100000 in
set_option maxHeartbeats 4000000 in
theorem law_begin {G : jG} {X : JX} {b N : Nat} {xs : Nat → Int32} {sa : Nat → Nat} (C : JC G X room_1 cL_law RL 9) (Ev : JE sa X) (S : JScr X b N xs) (hN : N ≤ 2048) (hend : ∀ (k n : Nat) (w : va_W) (L : List (Option Value)), k ≤ 1086 → n ≤ 10291 → JW G X k n w 1263 L [.int (iI 1)]) : JW G X 0 0 [] 0 [some (.ref b), none, none, none, none, none, none, none, none] [] := by
  refine jw_new (pc := 0) (ci := 5) (fs := [.null, .null, .null, .null, .null]) jU_X5 tyX5_ok rfl C kcl_L_8 kin_X5 kini_X5 (by decide) ⟨Nat.le_of_ble_eq_true rfl, Nat.le_of_ble_eq_true rfl⟩ dL_law_0 (fun o5 => ?_)
  refine jw_eqw [(o5, .inr (5, [.null, .null, .null, .null, .null]))] rfl ?_
  refine jw_dup (pc := 3) C dL_law_3 rfl ?_
  refine jw_sI (pc := 4) (wr := []) C (c_X5_init G o5) wi_X5_init kml_L_69 [0] [] rfl rfl rfl rfl (by decide) rfl rfl (Nat.le_of_ble_eq_true rfl) ⟨by decide, by decide⟩ ⟨Nat.le_of_ble_eq_true rfl, Nat.le_of_ble_eq_true rfl⟩ dL_law_4 rfl (fun ad had => ?_)
  subst had
  refine jw_eqw (wC G ad sP0 sL0 sA0 sT0 sF0) rfl ?_
  refine jw_astore_1 (pc := 7) C dL_law_7 rfl ?_
  refine jw_new (pc := 8) (ci := 6) (fs := [.int (iI 0), .int (iI 0), .null, .null, .null, .int (iI 0), .null, .null, .null, .null, .null, .int (iI 0), .int (iI 0), .int (iI 0), .null, .null, .null, .null, .null, .null]) jU_X6 tyX6_ok rfl C kcl_L_70 kin_X6 kini_X6 (by decide) ⟨Nat.le_of_ble_eq_true rfl, Nat.le_of_ble_eq_true rfl⟩ dL_law_8 (fun o6 => ?_)
  refine jw_dup (pc := 11) C dL_law_11 rfl ?_
  refine jw_sI (pc := 12) (wr := wC G ad sP0 sL0 sA0 sT0 sF0) C (c_X6_init G o6) wi_X6_init kml_L_72 [30] (List.range 30) rfl rfl rfl rfl (by decide) rfl rfl (Nat.le_of_ble_eq_true rfl) ⟨by decide, by decide⟩ ⟨Nat.le_of_ble_eq_true rfl, Nat.le_of_ble_eq_true rfl⟩ dL_law_12 rfl (fun ad2 had => ?_)
  subst had
  refine jw_astore_2 (pc := 15) C dL_law_15 rfl ?_
  refine jw_iconst (pc := 16) C dL_law_16 ?_
  refine jw_newaL (pc := 17) C 1 (by decide) ⟨Nat.le_of_ble_eq_true rfl, Nat.le_of_ble_eq_true rfl⟩ dL_law_17 (fun q => ?_)
  refine jw_sub (w2 := wL G ad ad2 sP0 sL0 sA0 sT0 sF0 q (fun _ => 0) sR0) (List.range 30 ++ [45] ++ (List.range 15).map (· + 30)) rfl rfl ?_
  refine jw_astore_3 (pc := 19) C dL_law_19 rfl ?_
  refine jw_iconst (pc := 20) C dL_law_20 ?_
  refine jw_istore_4 (pc := 21) C dL_law_21 rfl ?_
  exact law_loop C Ev S hN hend 512 0 _ _ sP0 sL0 sA0 sT0 sF0 (fun _ => 0) sR0 (by omega) (by omega) (by decide) (by decide) SV_0 RR_0
theorem u_of {args : Array Value} {s : State} {C : String} {T : u_T} {N : Nat} (hts : ∀ w ∈ lw_tbl, w.before args s = true) (hin : ∀ w ∈ u_ws C T N, w ∈ jAll) (hi : Cond.instantiable C N ∈ jAll) : ∃ (cC : ClassId) (iS : Nat → Nat), u_Kn s C T N cC iS := u_known hts (fun w h => jAll_tbl w (hin w h)) (hts _ (jAll_tbl _ hi))
theorem a_of {args : Array Value} {s : State} {ty : FieldType} (hts : ∀ w ∈ lw_tbl, w.before args s = true) (h : Cond.arrayClass ty ∈ jAll) : ∃ cA : ClassId, ArrOfT s cA ty ∧ s.vm.findClass ("[" ++ ty.toString) = some cA := by
  obtain ⟨cA, kA, comp, h1, h2, h3⟩ := Cond.arrayClass_spec (first := s) (o := none) (idx := []) (args := args) (hts _ (jAll_tbl _ h))
  exact ⟨cA, fun n z => ⟨fun k h => (by cases h), kA, h2, comp, h3⟩, h1⟩
theorem K_of {args : Array Value} {s : State} (hts : ∀ w ∈ lw_tbl, w.before args s = true) : ∃ G : jG, va_K G.1 vwCl (jT G) s := by
  obtain ⟨c0, i0, h0⟩ := u_of hts jU_X0 kin_X0
  obtain ⟨c1, i1, h1⟩ := u_of hts jU_X1 kin_X1
  obtain ⟨c2, i2, h2⟩ := u_of hts jU_X2 kin_X2
  obtain ⟨c3, i3, h3⟩ := u_of hts jU_X3 kin_X3
  obtain ⟨c4, i4, h4⟩ := u_of hts jU_X4 kin_X4
  obtain ⟨c5, i5, h5⟩ := u_of hts jU_X5 kin_X5
  obtain ⟨c6, i6, h6⟩ := u_of hts jU_X6 kin_X6
  obtain ⟨cI, aI, fI⟩ := a_of hts kac_int
  obtain ⟨cZ, aZ, fZ⟩ := a_of hts kac_boolean
  obtain ⟨cJ, aJ, fJ⟩ := a_of hts kac_long
  refine ⟨((fun k => if k = 0 then c0 else if k = 1 then c1 else if k = 2 then c2 else if k = 3 then c3 else if k = 4 then c4 else if k = 5 then c5 else c6, fun k => if k = 0 then i0 else if k = 1 then i1 else if k = 2 then i2 else if k = 3 then i3 else if k = 4 then i4 else if k = 5 then i5 else i6), fun k => if k = 0 then cI else if k = 1 then cZ else cJ), fun k q hq => ?_, fun k q hq => ?_⟩
  · match k, hq with
    | 0, hq => cases hq; exact h0
    | 1, hq => cases hq; exact h1
    | 2, hq => cases hq; exact h2
    | 3, hq => cases hq; exact h3
    | 4, hq => cases hq; exact h4
    | 5, hq => cases hq; exact h5
    | 6, hq => cases hq; exact h6
    | k + 7, hq => cases hq
  · match k, hq with
    | 0, hq => cases hq; exact ⟨aI, fI⟩
    | 1, hq => cases hq; exact ⟨aZ, fZ⟩
    | 2, hq => cases hq; exact ⟨aJ, fJ⟩
    | k + 3, hq => cases hq
theorem jS_tbl : ∀ q ∈ jS, Cond.stringRef RX5 q.1 q.2 ∈ lw_tbl := by decide +kernel
theorem jS_given : ∀ q ∈ jS, Cond.exactly (.string RX5 q.1) "java/lang/String" ∈ flatC (Jvm.Cond.and given_1 narrow_1) := by decide +kernel
theorem jNcs_given : ∀ q ∈ jNcs, Cond.not (.castable q.1 q.2) ∈ flatC (Jvm.Cond.and given_1 narrow_1) := by decide +kernel
theorem jZ_tbl : Cond.laysStatic Bundle.tN "UNASSIGNED_STACK" Bundle.steD ∈ lw_tbl ∧ Cond.laysStatic Bundle.tN "SUPPRESSED_SENTINEL" Bundle.listD ∈ lw_tbl := by decide +kernel
theorem jZ_given : Cond.isRef (.static Bundle.tN "UNASSIGNED_STACK" Bundle.steD) ∈ flatC (Jvm.Cond.and given_1 narrow_1) ∧ Cond.isRef (.static Bundle.tN "SUPPRESSED_SENTINEL" Bundle.listD) ∈ flatC (Jvm.Cond.and given_1 narrow_1) := by decide +kernel
theorem Env_of {args : Array Value} {s : State} (hts : ∀ w ∈ lw_tbl, w.before args s = true) (hgv : (Jvm.Cond.and given_1 narrow_1).before args s = true) : ∃ sa : Nat → Nat, jEnv sa (fun q : Nat => s.heap.size ≤ q) s s.heap := by
  have hg := flat_of_before _ hgv
  have hA : ∀ a : Nat, a < s.heap.size → ¬ (fun q : Nat => s.heap.size ≤ q) a := fun a h h2 => Nat.not_le.mpr h h2
  have hex : ∀ k : Nat, ∃ a : Nat, (∃ t, (k, t) ∈ jS) → (Term.string RX5 k).eval args s none [] s = some (.ref a) := by
    intro k
    by_cases h : ∃ t, (k, t) ∈ jS
    · obtain ⟨t, h⟩ := h
      obtain ⟨a, -, -, -, h1, -⟩ := Cond.exactly_spec (args := args) (first := s) (o := none) (s := s) (idx := []) (t := .string RX5 k) (cls := "java/lang/String") (hg _ (jS_given (k, t) h))
      exact ⟨a, fun _ => h1⟩
    · exact ⟨0, fun h2 => absurd h2 h⟩
  refine ⟨fun k => Classical.choose (hex k), fun z hz => va_Nw.of (jFace_on hz) (hts z (jFace_tbl z hz)), fun q hq => vk_R.of (A := args) (hts _ (jS_tbl q hq)) (Classical.choose_spec (hex q.1) ⟨q.2, hq⟩), fun q hq => va_Nc.of (hg _ (jNcs_given q hq)), ?_, ?_⟩
  · exact vx_Zqof (hts _ jZ_tbl.1) (hts _ (jAll_tbl _ kini__java_lang_Throwable_)) (hg _ jZ_given.1) hA
  · exact vx_Zqof (hts _ jZ_tbl.2) (hts _ (jAll_tbl _ kini__java_lang_Throwable_)) (hg _ jZ_given.2) hA
