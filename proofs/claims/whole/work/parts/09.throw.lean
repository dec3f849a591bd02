/-! THROWING AND CATCHING over JW -/
def jFace : List Cond := lw_tbl.filter Cond.faceAtom
theorem jFace_tbl : ∀ w ∈ jFace, w ∈ lw_tbl := fun _ h => (List.mem_filter.mp h).1
theorem jFace_on {w : Cond} (h : w ∈ jFace) : w.onTables = true := by
  have h2 := (List.mem_filter.mp h).2
  cases w <;> first | rfl | (simp [Cond.faceAtom] at h2)
theorem jFace_warm {w : Cond} (h : w ∈ jFace) {s U : State} (hW : s.WarmedH U.vm) (hZ : va_Nw w s) : va_Nw w U :=
  va_tabs (jFace_on h) (u := s.setVm U.vm) (U := U) rfl (Cond.faceAtom_setVm hW.alike w (List.mem_filter.mp h).2 hZ)
theorem jfd {w : Cond} (h : w ∈ lw_tbl) (g : w.faceAtom = true) : w ∈ jFace := List.mem_filter.mpr ⟨h, g⟩
abbrev E_IAE : String := "java/lang/IllegalArgumentException"
abbrev E_ISE : String := "java/lang/IllegalStateException"
abbrev E_IOE : String := "java/lang/IndexOutOfBoundsException"
abbrev E_NSE : String := "java/util/NoSuchElementException"
abbrev jNames : List String := ["java/lang/RuntimeException", "java/lang/Exception"]
def jS : List (Nat × String) := [(54, "the capacity is not 0 to 4"), (65, "there are 12 resources"), (93, "the quota is not 0 to 40"), (95, "the weight is not 1 to 10"), (106, "the path limit is not 0 to 5"), (108, "the move limit is not 0 to 20"), (122, "40 requests have arrived"), (165, "the request is not assigned"), (189, "the request is not waiting"), (210, "there is no such resource"), (213, "there is no such group"), (215, "no request with this number has arrived"), (217, "the request has departed"), (222, "the mask names a resource that does not exist"), (224, "there is no such index in the log")]
def jNcs : List (String × String) := [(E_ISE, E_IAE), (E_IAE, E_IOE), (E_ISE, E_IOE), (E_NSE, E_IOE), (E_IAE, E_NSE)]
/-! NoSuchElementException's constructor: her first pass bears another index -/
def jN13 : ByteArray := ⟨#[0x2a, 0x2b, 0xb7, 0x00, 0x0d, 0xb1]⟩
def jNTail (own : String) (ic : Nat) (E : String) : List Cond :=
  [.methodLink own ic (Bundle.initS E), .instantiable E 6, .castable E E, .selects E Bundle.tFill0 Bundle.tFill0, .selects E Bundle.tFill Bundle.tFill,
   .lays E Bundle.tN "cause" "Ljava/lang/Throwable;", .lays E Bundle.tN "stackTrace" Bundle.steD, .lays E Bundle.tN "suppressedExceptions" Bundle.listD, .lays E Bundle.tN "detailMessage" "Ljava/lang/String;",
   .isRef (.static Bundle.tN "UNASSIGNED_STACK" Bundle.steD), .isRef (.static Bundle.tN "SUPPRESSED_SENTINEL" Bundle.listD),
   .fieldLink Bundle.tN 198 Bundle.tN "backtrace" "Ljava/lang/Object;", .lays Bundle.tN Bundle.tN "backtrace" "Ljava/lang/Object;", .lays E Bundle.tN "backtrace" "Ljava/lang/Object;"]
def jNPass : List Cond := Bundle.passSAtoms E_NSE "java/lang/RuntimeException" 13 jN13
def jNAtoms (own : String) (ic : Nat) : List Cond := Bundle.throwableAtoms ++ Bundle.throwableSAtoms ++ jNPass ++ Bundle.chainSAtoms "java/lang/RuntimeException" ["java/lang/Exception"] ++ jNTail own ic E_NSE
theorem jN_a {own : String} {ic : Nat} {z : Cond} (h : z ∈ Bundle.throwableAtoms) : z ∈ jNAtoms own ic := by simp only [jNAtoms, List.mem_append]; exact Or.inl (Or.inl (Or.inl (Or.inl h)))
theorem jN_b {own : String} {ic : Nat} {z : Cond} (h : z ∈ Bundle.throwableSAtoms) : z ∈ jNAtoms own ic := by simp only [jNAtoms, List.mem_append]; exact Or.inl (Or.inl (Or.inl (Or.inr h)))
theorem jN_c {own : String} {ic : Nat} {z : Cond} (h : z ∈ jNPass) : z ∈ jNAtoms own ic := by simp only [jNAtoms, List.mem_append]; exact Or.inl (Or.inl (Or.inr h))
theorem jN_d {own : String} {ic : Nat} {z : Cond} (h : z ∈ Bundle.chainSAtoms "java/lang/RuntimeException" ["java/lang/Exception"]) : z ∈ jNAtoms own ic := by simp only [jNAtoms, List.mem_append]; exact Or.inl (Or.inr h)
theorem jN_e {own : String} {ic : Nat} {z : Cond} (h : z ∈ jNTail own ic E_NSE) : z ∈ jNAtoms own ic := by simp only [jNAtoms, List.mem_append]; exact Or.inr h
theorem jN13_0 : decode jN13 0 = .ok (.aload_n 0, 1) := by decide +kernel
theorem jN13_1 : decode jN13 1 = .ok (.aload_n 1, 1) := by decide +kernel
theorem jN13_2 : decode jN13 2 = .ok (.invokespecial 13, 3) := by decide +kernel
theorem jN13_5 : decode jN13 5 = .ok (.return_, 1) := by decide +kernel
section JNSE
variable {p : Program} {l : Launch} {e : Env} {R : Room} {s : State} {m : MethodId} {args : Array Value} {below : List Frame} {meth : Method} {c : Code} {T0 : State} {locs0 : List Loc} {cells slots : Nat}
set_option maxHeartbeats 1000000 in
/-- invokespecial of the constructor and athrow, from the frame behind 'new; dup; ldc' -/
theorem jn_ctor (X : Stand p l e R s m args below meth c T0 locs0 cells slots) (hexec : p.tables.exec = Jvm.exec) (htr : e.platform.stackTraces = false) {own : String} {ic : Nat} (hown : s.vm.findClass own = some m.cls)
    (h : ∀ z ∈ jNAtoms own ic, z.before args s = true) (hlocs : ∀ x ∈ locs0, ∀ cell, s.heap[x.base]? = some cell → cell.vm.isStatics = false)
    {a : Addr} {cX : ClassId} {kX : Class} (hfX : s.vm.findClass E_NSE = some cX) (hkX : s.vm.classes[cX]? = some kX) (hcell : T0.heap[a]? = some (freshCell cX kX)) (hnew : s.heap.size ≤ a) {msg : Value} (hmsg : msg.isRef = true)
    {g : JFrame} (hg : g.method = m) (hsize : g.locals.size = c.maxLocals) (hlocked : g.locked = none) (hentered : g.entered = []) {rest : List Value} (hstack : g.stack = msg :: .ref a :: .ref a :: rest)
    (d6 : decode c.code g.pc = .ok (.invokespecial ic, 3)) (d9 : decode c.code (g.pc + 3) = .ok (.athrow, 1)) (hout : ∀ x ∈ c.exceptionTable.toList, covers x (g.pc + 3) = false)
    (hRf : 5 < R.frames) (hRl : 2 * g.monitorRoom + ((Value.ref a :: rest).map fun v => v.category).sum + 81 ≤ R.locals) (hlocks : meth.locks = false) :
    ∃ U : State, Steps p.tables e below (T0.setTop g) U ∧ U.status = .running ∧ Ended U below (.threw a) ∧ s.WarmedH U.vm ∧ s.sameButNew ({ U with vm := s.vm } : State) locs0 cells slots ∧ ∃ ce, U.heap[a]? = some ce ∧ s.vm.findClass E_NSE = some ce.cls ∧ ce.vm = .none := by
  have hown2 : e.platform.frameOwnsMonitors = true := by rw [X.admits.platform]
  have hfin : e.platform.finalization = false := by rw [X.admits.platform]
  have hpl : e.platform.magicAccessors = ({} : Platform).magicAccessors := by rw [X.admits.platform]
  have tl : ∀ x, x ∈ jNTail own ic E_NSE → x.holds args s none s [] = true := fun x hx => h x (jN_e hx)
  obtain ⟨T, Z0, L, -, Y⟩ := ThrowableC.of_atoms (args := args) hown2 hfin hpl (fun x hx => h x (jN_a hx))
  obtain ⟨Z, M, LZ, LM, hnZ⟩ := Init0T.ofS_atoms (args := args) hpl L Y (fun x hx => h x (jN_b hx))
  obtain ⟨P2, Ps, hlen, L2, hL, hP2m, hl2, hpass⟩ := Bundle.chainS (args := args) hpl hnZ ["java/lang/Exception"] "java/lang/RuntimeException" (by decide +kernel) (by decide +kernel) (fun x hx => h x (jN_d hx))
  obtain ⟨P1, L1, hP1m, hP1s⟩ := PassC.ofS_atoms (args := args) (s := s) hpl (X := E_NSE) (Y := "java/lang/RuntimeException") (index := 13) (bytes := jN13) (by decide +kernel) (by decide) jN13_0 jN13_1 jN13_2 jN13_5 (fun x hx => h x (jN_c hx))
  have hl1 : P1.sup = P2.m := Option.some.inj (hP1s.symm.trans hP2m)
  have hfound : s.vm.findClass E_NSE = some P1.m.cls := findClass_of_methodNamed hP1m
  cases Option.some.inj (hfX.symm.trans hfound)
  obtain ⟨c1, kX', q1, q2, hord, -, -, hn6⟩ := Cond.instantiable_spec (tl (.instantiable E_NSE 6) (by simp [jNTail]))
  cases Option.some.inj (q1.symm.trans hfound)
  cases Option.some.inj (hkX.symm.trans q2)
  have sel : ∀ (x : MethodName) (mid : MethodId), Cond.selects E_NSE x x ∈ jNTail own ic E_NSE → s.methodFound? x.cls x.name x.desc = some mid → s.methodNamed? x = some mid → selectMethod e.platform s.vm P1.m.cls mid = .method mid := by
    intro x mid hx hf hn
    obtain ⟨c2, r2, m2, g1, g2, g3, g4, -⟩ := Cond.selects_spec (tl _ hx)
    cases Option.some.inj (g1.symm.trans hfound)
    cases Option.some.inj (g2.symm.trans hf)
    cases Option.some.inj (g3.symm.trans hn)
    rw [Launch.admits_selectMethod X.admits]
    exact g4
  have hsel0 := sel Bundle.tFill0 T.fill0 (by simp [jNTail]) (State.methodFound?_of_named Y.fill0 (by decide)) Y.fill0
  have hselF := sel Bundle.tFill T.fill (by simp [jNTail]) (State.methodFound?_of_named Y.fill (by decide)) Y.fill
  obtain ⟨cS0, hcS0, hiss⟩ := Y.statics
  obtain ⟨u0, hu0⟩ := Cond.staticRefV Y.unassigned L.unassignedStatic L.statics hcS0 hiss (tl (.isRef (.static Bundle.tN "UNASSIGNED_STACK" Bundle.steD)) (by simp [jNTail]))
  obtain ⟨sen, hsen⟩ := Cond.staticRefV Y.sentinel L.sentinelStatic L.statics hcS0 hiss (tl (.isRef (.static Bundle.tN "SUPPRESSED_SENTINEL" Bundle.listD)) (by simp [jNTail]))
  obtain ⟨cb, ib, fB, b1, b2, b3, b4, -, hnB, htB, hffB⟩ := Cond.ownField (t := .object "java/lang/Object") Y.found L.cls (by decide +kernel) (tl (.fieldLink Bundle.tN 198 Bundle.tN "backtrace" "Ljava/lang/Object;") (by simp [jNTail])) (tl (.lays Bundle.tN Bundle.tN "backtrace" "Ljava/lang/Object;") (by simp [jNTail])) e.platform hpl
  obtain ⟨cS, hcS, heS, -, hkeep⟩ := X.same.2.2.2.2.2 T.aS cS0 hcS0
  have hnotin : ∀ i, (⟨T.aS, i⟩ : Loc) ∉ locs0 := fun i hmem => by
    have h9 := hlocs _ hmem cS0 hcS0
    rw [hiss] at h9; cases h9
  have hknS : cS.vm ≠ .unknown := by
    rw [heS]; intro hu
    rw [show cS0.vm = .unknown from hu] at hiss
    cases hiss
  have hne : T.aS ≠ a := Nat.ne_of_lt (Nat.lt_of_lt_of_le (Array.getElem?_eq_some_iff.mp hcS0).1 hnew)
  obtain ⟨iM, hffM⟩ := Y.msg
  obtain ⟨tyC, dC, hdC, hdnC⟩ := Cond.laysAt hfound q2 Y.cause (tl (.lays E_NSE Bundle.tN "cause" "Ljava/lang/Throwable;") (by simp [jNTail]))
  obtain ⟨tyS, dS, hdS, hdnS⟩ := Cond.laysAt hfound q2 Y.stack (tl (.lays E_NSE Bundle.tN "stackTrace" Bundle.steD) (by simp [jNTail]))
  obtain ⟨tyP, dP, hdP, hdnP⟩ := Cond.laysAt hfound q2 Y.supp (tl (.lays E_NSE Bundle.tN "suppressedExceptions" Bundle.listD) (by simp [jNTail]))
  obtain ⟨tyM, dM, hdM, hdnM⟩ := Cond.laysAt hfound q2 hffM (tl (.lays E_NSE Bundle.tN "detailMessage" "Ljava/lang/String;") (by simp [jNTail]))
  obtain ⟨tyB, dB, hdB, hdnB⟩ := Cond.laysAt hfound q2 hffB (tl (.lays E_NSE Bundle.tN "backtrace" "Ljava/lang/Object;") (by simp [jNTail]))
  have bC := Cond.laysApart hdB hdC hdnB hdnC (by rw [hnB, Y.causeName]; decide)
  have bS := Cond.laysApart hdB hdS hdnB hdnS (by rw [hnB, Y.stackName]; decide)
  have bP := Cond.laysApart hdB hdP hdnB hdnP (by rw [hnB, Y.suppName]; decide)
  have hskip : SkipFacts T e.platform s (fun u => u) u0 ((preparedCellV T.toThrowableT (freshCell P1.m.cls kX) a u0 sen).withEntry T0.cur) :=
    ⟨{ ci198 := cb, i198 := ib, fBack := fB }, ⟨b1, b2, b3, b4⟩, by
      have h9 := fresh_default (c := P1.m.cls) tyB
      rw [htB] at h9
      simpa [preparedCellV, Cell.setSlot, Cell.withEntry, Array.getElem?_setIfInBounds, bC, bS, bP, bC.symm, bS.symm, bP.symm, defaultValue] using h9, fun _ _ => rfl⟩
  obtain ⟨tm, mC, cdC, kC, vm₁, hnC, -, -, -, -, -, -, -, hW1, st1⟩ := Steps.initColdS (tb := p.tables) (e := e) (below := below) (s := s) (U := T0) X.here hexec X.warmed hpl hown (t := Bundle.initS E_NSE) rfl rfl (by decide)
    (tl (.methodLink own ic (Bundle.initS E_NSE)) (by simp [jNTail])) (h (.instanceMethod (Bundle.initS E_NSE)) (jN_c (by simp [jNPass, Bundle.passSAtoms]))) (bytes := jN13) (maxL := 2) (h (.code (Bundle.initS E_NSE) jN13 2 none) (jN_c (by simp [jNPass, Bundle.passSAtoms])))
    (f := g) hg (a := a) (msg := msg) (rest := .ref a :: rest) hstack d6
  cases Option.some.inj (hnC.symm.trans hP1m)
  have X1 := X.noted hW1
  obtain ⟨vm₂, X2, st2⟩ := X1.ctorMessageOffV hexec (g := { g with stack := .ref a :: rest }) hg hsize T L Z LZ M LM (P1 :: P2 :: Ps)
    (fun P hP => by
      rcases List.mem_cons.mp hP with rfl | hP
      · exact L1
      · rcases List.mem_cons.mp hP with rfl | hP
        · exact L2
        · exact hL P hP) ⟨hl1, hl2, hpass⟩ (u0 := u0) (sen := sen) (self := a) hmsg (cell := freshCell P1.m.cls kX) (cellS := cS)
    hcell (fun _ => by simp) (by simp) rfl rfl hsel0 hselF hcS hne hknS (by rw [hkeep _ (hnotin _)]; exact hu0) (by rw [hkeep _ (hnotin _)]; exact hsen)
    (Takes.of_laid q2 hord tyC (by rw [Y.causeType]; rfl)) (Takes.of_laid q2 hord tyS (by rw [Y.stackType]; exact fits_refV_array _ u0)) (Takes.of_laid q2 hord tyP (by rw [Y.suppType]; exact fits_refV_object _ sen))
    (Takes.of_laid q2 hord tyM (by rw [Y.msgType]; exact fits_refV_object _ ⟨msg, hmsg⟩)) Y.objLocals hskip htr [] d6
    (by simp only [List.length_cons, hlen, List.length_nil]; omega) (by simp only [List.length_cons, hlen, List.length_nil]; exact hRl)
  obtain ⟨hwalk, hrun, hended, hWU, hsame⟩ := X2.athrowLeaves hexec (g := { g with stack := .ref a :: rest, pc := g.pc + 3 }) hg hlocked hentered hout (a := a) (rest := rest) rfl d9
  have hlt : a < ((T0.setVm vm₁).setVm vm₂).heap.size := (Array.getElem?_eq_some_iff.mp hcell).1
  have hU := heapAt_setCell_self (s := (T0.setVm vm₁).setVm vm₂) (plainBareV T.toThrowableT (freshCell P1.m.cls kX) a u0 sen msg) hlt
  refine ⟨_, st1 _ (fun acts => ?_), hrun, hended, hWU, hsame.weaken (fun y hy hlt' => ?_) (Nat.le_refl _) (Nat.le_refl _), _, hU, hfound, rfl⟩
  · rw [doInvoke_state]
    exact st2 _ hwalk
  · rcases List.mem_append.mp hy with h1 | h1
    · exact h1
    · exfalso
      have hb : y.base = a := by
        simp only [List.mem_cons, List.not_mem_nil, or_false] at h1
        rcases h1 with rfl | rfl | rfl | rfl | rfl <;> rfl
      rw [hb] at hlt'
      exact Nat.not_lt.mpr hnew hlt'
/-- 'throw new NoSuchElementException("text")' -/
theorem jn_throw {H : Heap} {ls : Array Slot} {rest : List Value} {locs : List Loc} {free : Addr → Prop} {Qc : Array Value → State → Outcome → State → Prop} {XC : String → State → State → Prop} {cc : ByteArray} {pc : Nat} (hexec : p.tables.exec = Jvm.exec) (hb : c.code = cc) (hl : l.stackTraces = false) {own text : String} {ik is ic mc ms sa : Nat} {A : Nat → Prop}
    (hown : s.vm.findClass own = some m.cls) (hk : (Cond.classLink own ik E_NSE).before args s = true) (hini : (Cond.initialized E_NSE).before args s = true) (hstr : vk_R own is text sa s) (hat : ∀ w ∈ (jNAtoms own ic).filter vx_no, w.before args s = true)
    (hgood : ∀ w ∈ Cond.classLink own ik E_NSE :: Cond.initialized E_NSE :: (jNAtoms own ic).filter vx_no, vx_ot w = true)
    (hU : vx_Zq Bundle.tN "UNASSIGNED_STACK" Bundle.steD A s s.heap) (hN : vx_Zq Bundle.tN "SUPPRESSED_SENTINEL" Bundle.listD A s s.heap) (hS : va_S A s.heap H locs) (hsize : ls.size = c.maxLocals)
    (d0 : decode cc pc = .ok (.new ik, 3)) (d3 : decode cc (pc + 3) = .ok (.dup, 1)) (d4 : decode cc (pc + 4) = .ok (.ldc is, 2)) (d6 : decode cc (pc + 6) = .ok (.invokespecial ic, 3)) (d9 : decode cc (pc + 9) = .ok (.athrow, 1))
    (hout : ∀ x ∈ c.exceptionTable.toList, covers x (pc + 9) = false)
    (hRf : 5 < R.frames) (hRl : (rest.map fun v => v.category).sum + 82 ≤ R.locals) (hRc : cells + 1 ≤ R.cells) (hRs : slots + 6 ≤ R.slots) (hlocks : meth.locks = false)
    (hx : ∀ t : State, s.vm.Alike t.vm → H.size ≤ t.heap.size → (∀ q : Nat, q < H.size → t.heap[q]? = H[q]?) → XC E_NSE s t) (hf : ∀ z ∈ locs, free z.base) (hc : cells + 1 ≤ mc) (hs : slots + 6 ≤ ms) :
    W p l e R s m args below meth c H locs cells slots (vx_MQ below Qc XC args s mc ms free) (F0 m pc ls rest) := by
  intro T hT X
  have htr : e.platform.stackTraces = false := (show e.platform.stackTraces = l.stackTraces by rw [X.admits.platform]).trans hl
  have Y := vx_rebase X (R' := { frames := R.frames, locals := R.locals, cells := 1, slots := 6 }) (Nat.le_refl _) (Nat.le_refl _) hRc hRs
  generalize hA : (T.setVm s.vm).setFrames (.invoking m args :: below) = s' at Y
  have hvm : s'.vm = s.vm := by rw [← hA]; rfl
  have hhp : s'.heap = H := by rw [← hA]; exact hT
  have hW0 : s.WarmedH s'.vm := by rw [hvm]; exact State.WarmedH.refl s
  have mv : ∀ w ∈ Cond.classLink own ik E_NSE :: Cond.initialized E_NSE :: (jNAtoms own ic).filter vx_no, w.before args s = true → w.before args s' = true := fun w hw h1 => vx_ot_at hW0 hvm.symm (hgood w hw) h1
  have hU' : vx_Zq Bundle.tN "UNASSIGNED_STACK" Bundle.steD A s' s'.heap := by rw [hhp]; exact vx_Zq.moved hW0.alike (hU.kept hS.2.1)
  have hN' : vx_Zq Bundle.tN "SUPPRESSED_SENTINEL" Bundle.listD A s' s'.heap := by rw [hhp]; exact vx_Zq.moved hW0.alike (hN.kept hS.2.1)
  have h : ∀ w ∈ jNAtoms own ic, w.before args s' = true := vx_own (fun w hw => mv w (List.mem_cons_of_mem _ (List.mem_cons_of_mem _ hw)) (hat w hw)) (vx_isRefq hU'.1) (vx_isRefq hN'.1) hU'.2.word hN'.2.word
  have hown' : s'.vm.findClass own = some m.cls := by rw [hvm]; exact hown
  have hins : (Cond.instantiable E_NSE 6).before args s' = true := h _ (jN_e (by simp [jNTail]))
  obtain ⟨vm₁, cX, kX, hfX, hkX, -, -, X1, st1⟩ := Y.newCold hexec (own := own) (C := E_NSE) (index := ik) (n := 6) hown' (mv _ List.mem_cons_self hk) hins (mv _ (List.mem_cons_of_mem _ List.mem_cons_self) hini)
    (g := F0 m pc ls rest) rfl (by rw [hb]; exact d0) (Nat.le_refl _) (Nat.le_refl _)
  generalize hT1 : (T.setVm vm₁).pushCell { cls := cX, slots := kX.instanceTypes.map defaultValue, vm := .none } = T1 at X1 st1
  have hcat : (Value.ref T.heap.size).category = 1 := rfl
  have hcA : T1.heap[T.heap.size]? = some (freshCell cX kX) := by rw [← hT1]; exact State.heap_pushCell_size _ _
  have d3' : decode c.code (pc + 3) = .ok (.dup, 1) := by rw [hb]; exact d3
  have d4' : decode c.code (pc + 4) = .ok (.ldc is, 2) := by rw [hb]; exact d4
  have hstr' : vk_R own is text sa s' := vk_R.warm hW0 hstr
  obtain ⟨U, hsteps, hrun, hend, hW, hsame, ce, hce, hcl, hcv⟩ := jn_ctor X1 hexec htr (own := own) (ic := ic) hown' h (fun x hx => nomatch hx) hfX hkX hcA (by rw [hhp, hT]; exact Nat.le_refl _) (msg := .ref sa) rfl
    (g := { method := m, pc := pc + 6, locals := ls, stack := .ref sa :: .ref T.heap.size :: .ref T.heap.size :: rest, locked := none }) rfl hsize rfl rfl (rest := rest) rfl
    (by rw [hb]; exact d6) (by rw [hb]; exact d9) hout hRf (by simp only [List.map_cons, List.sum_cons, hcat, JFrame.monitorRoom]; omega) hlocks
  obtain ⟨f1, f2⟩ := vx_frame hsame
  rw [hhp] at f1 f2
  have hWs : s.WarmedH U.vm := State.WarmedH.trans hW0 hW
  rw [hvm] at hcl
  have hall : s.sameButNew ({ U with vm := s.vm } : State) locs mc ms := by
    subst hA
    obtain ⟨e1, e2⟩ := hsame
    rw [State.setFrames_setFrames] at e1
    have h2 : (T.setVm s.vm).sameButNew ({ U with vm := s.vm } : State) [] (0 + 1) (0 + 6) := ⟨e1, e2⟩
    have h3 := X.same.trans h2
    rw [List.append_nil] at h3
    exact h3.mono hc hs
  refine ⟨U, ?_, .threw T.heap.size, hrun, hend, Or.inr ⟨T.heap.size, rfl, E_NSE, ce, locs, hx U hWs.alike f1 (fun q hq => f2 q hq (fun z hz => nomatch hz)), hce, hcv, hcl, hWs, hall, hf⟩⟩
  refine st1 _ ?_
  show Steps p.tables e below (T1.setTop { method := m, pc := pc + 3, locals := ls, stack := .ref T.heap.size :: rest, locked := none }) _
  jvm_step X1.here [X1.here.top, hexec, d3', Value.category]
  exact X1.ldcString hexec (own := own) (text := text) (index := is) (a := sa) hown' hstr'.1 hstr'.2
    (g := { method := m, pc := pc + 4, locals := ls, stack := .ref T.heap.size :: .ref T.heap.size :: rest, locked := none }) rfl d4' _ hsteps
end JNSE
/-- what throwing needs of the launch and the heap -/
def jEnv (sa : Nat → Nat) (A : Nat → Prop) (U : State) (H : Heap) : Prop := (∀ z ∈ jFace, va_Nw z U) ∧ (∀ q ∈ jS, vk_R RX5 q.1 q.2 (sa q.1) U) ∧ (∀ q ∈ jNcs, va_Nc q.1 q.2 U) ∧ vx_Zq Bundle.tN "UNASSIGNED_STACK" Bundle.steD A U H ∧ vx_Zq Bundle.tN "SUPPRESSED_SENTINEL" Bundle.listD A U H
theorem jEnv.go {sa : Nat → Nat} {A A2 : Nat → Prop} {s U : State} {H0 H : Heap} (h : jEnv sa A s H0) (hW : s.WarmedH U.vm) (hk : ∀ q : Nat, q < H0.size → ¬ A q → H[q]? = H0[q]?) (hA : ∀ q, A2 q → A q) : jEnv sa A2 U H := by
  obtain ⟨h1, h2, h3, h4, h5⟩ := h
  exact ⟨fun z hz => jFace_warm hz hW (h1 z hz), fun q hq => (h2 q hq).warm hW, fun q hq => va_Nc.moved hW.alike (h3 q hq), ((h4.kept hk).moved hW.alike).narrow hA, ((h5.kept hk).moved hW.alike).narrow hA⟩
def jPreX (G : jG) (sa : Nat → Nat) (sz : Nat) (w : va_W) : State → Prop := fun U => jPre G sz w U ∧ jEnv sa (va_A w sz) U U.heap
theorem jPreX_blind {G : jG} {sa : Nat → Nat} {sz : Nat} {w : va_W} {av : List Value} : FrameBlind (va_Pc av (jPreX G sa sz w)) := by
  intro a U g mk q
  obtain ⟨q0, q1, q2⟩ := q
  obtain ⟨-, q3⟩ := jPre_blind (av := av) a U g mk ⟨q0, q1⟩
  exact ⟨q0, q3, q2.go (State.WarmedH.refl U) (fun _ _ _ => rfl) (fun _ h => h)⟩
/-- the launch has no stack traces; the environment -/
def JE (sa : Nat → Nat) (X : JX) : Prop :=
  match X with
  | (_p, l, _e, _R, s, _m, _args, _below, _meth, _c, _Q, A) => l.stackTraces = false ∧ jEnv sa A s s.heap
/-- E is thrown at pc -/
def JT (G : jG) (X : JX) (k n : Nat) (w : va_W) (pc : Nat) (L : List (Option Value)) (st : List Value) (E : String) : Prop :=
  match X with
  | (p, l, e, R, s, m, args, below, meth, c, Q, A) => ∀ (H : Heap) (locs : List Loc) (ls : Array Slot) (q : Addr) (ce : Cell), va_P G.1 vwCl w H → va_D A w → va_S A s.heap H locs → lv_has ls L.length (jl0 0 L) → H[q]? = some ce → ce.vm = .none → s.vm.findClass E = some ce.cls → vx_W p l e R s m args below meth c H locs k n Q (F0 m pc ls st) q
/-- an exception that the class makes -/
def JTk (E : String) (ik ic : Nat) : Prop := Cond.classLink RX5 ik E ∈ jAll ∧ Cond.initialized E ∈ jAll ∧ Bundle.fit E = true ∧ ((∀ z ∈ vx_atS RX5 ic E jNames, z ∈ jAll ∨ z ∈ jFace) ∨ (E = E_NSE ∧ ∀ z ∈ (jNAtoms RX5 ic).filter vx_no, z ∈ jAll ∨ z ∈ jFace))
def jIn (z : Cond) : Bool := !vx_no z || (decide (z ∈ lw_tbl) && (goodWord z || z.faceAtom))
theorem jIn_of {L : List Cond} (h : L.all jIn = true) : ∀ z ∈ L, vx_no z = true → z ∈ jAll ∨ z ∈ jFace := by
  intro z hz hn
  have h1 := List.all_eq_true.mp h z hz
  simp only [jIn, hn, Bool.not_true, Bool.false_or, Bool.and_eq_true, decide_eq_true_eq, Bool.or_eq_true] at h1
  rcases h1 with ⟨h2, h3 | h3⟩
  · exact Or.inl (jgd h2 h3)
  · exact Or.inr (jfd h2 h3)
set_option maxRecDepth 20000 in
theorem jA_1 : (Bundle.throwableAtoms).all jIn = true := by decide +kernel
set_option maxRecDepth 20000 in
theorem jA_2 : (Bundle.throwableSAtoms).all jIn = true := by decide +kernel
set_option maxRecDepth 20000 in
theorem jA_3 : (Bundle.passSAtoms "java/lang/RuntimeException" "java/lang/Exception" 7 Bundle.six ++ Bundle.passSAtoms "java/lang/Exception" Bundle.tN 7 Bundle.six).all jIn = true := by decide +kernel
set_option maxRecDepth 20000 in
theorem jA_IAE1 : (Bundle.passSAtoms E_IAE "java/lang/RuntimeException" 7 Bundle.six).all jIn = true := by decide +kernel
set_option maxRecDepth 20000 in
theorem jA_IAE2 : ([.methodLink RX5 56 (Bundle.initS E_IAE), .instantiable E_IAE 6, .castable E_IAE E_IAE, .selects E_IAE Bundle.tFill0 Bundle.tFill0, .selects E_IAE Bundle.tFill Bundle.tFill,
   .lays E_IAE Bundle.tN "cause" "Ljava/lang/Throwable;", .lays E_IAE Bundle.tN "stackTrace" Bundle.steD, .lays E_IAE Bundle.tN "suppressedExceptions" Bundle.listD, .lays E_IAE Bundle.tN "detailMessage" "Ljava/lang/String;",
   .isRef (.static Bundle.tN "UNASSIGNED_STACK" Bundle.steD), .isRef (.static Bundle.tN "SUPPRESSED_SENTINEL" Bundle.listD),
   .fieldLink Bundle.tN 198 Bundle.tN "backtrace" "Ljava/lang/Object;", .lays Bundle.tN Bundle.tN "backtrace" "Ljava/lang/Object;", .lays E_IAE Bundle.tN "backtrace" "Ljava/lang/Object;"] : List Cond).all jIn = true := by decide +kernel
theorem jK_IAE : JTk E_IAE 52 56 := ⟨kcl_X5_52, kini__java_lang_IllegalArgumentException_, by decide +kernel, Or.inl fun z hz => by
  obtain ⟨h1, h2⟩ := List.mem_filter.mp hz
  have h3 : z ∈ Bundle.throwableAtoms ++ Bundle.throwableSAtoms ++ (Bundle.passSAtoms E_IAE "java/lang/RuntimeException" 7 Bundle.six ++ (Bundle.passSAtoms "java/lang/RuntimeException" "java/lang/Exception" 7 Bundle.six ++ Bundle.passSAtoms "java/lang/Exception" Bundle.tN 7 Bundle.six)) ++ _ := h1
  rcases List.mem_append.mp h3 with h4 | h4
  · rcases List.mem_append.mp h4 with h5 | h5
    · rcases List.mem_append.mp h5 with h6 | h6
      · exact jIn_of jA_1 z h6 h2
      · exact jIn_of jA_2 z h6 h2
    · rcases List.mem_append.mp h5 with h6 | h6
      · exact jIn_of jA_IAE1 z h6 h2
      · exact jIn_of jA_3 z h6 h2
  · exact jIn_of jA_IAE2 z h4 h2⟩
theorem jCs_IAE : Cond.castable E_IAE E_IAE ∈ jFace := jfd (by decide +kernel) rfl
set_option maxRecDepth 20000 in
theorem jA_ISE1 : (Bundle.passSAtoms E_ISE "java/lang/RuntimeException" 7 Bundle.six).all jIn = true := by decide +kernel
set_option maxRecDepth 20000 in
theorem jA_ISE2 : ([.methodLink RX5 67 (Bundle.initS E_ISE), .instantiable E_ISE 6, .castable E_ISE E_ISE, .selects E_ISE Bundle.tFill0 Bundle.tFill0, .selects E_ISE Bundle.tFill Bundle.tFill,
   .lays E_ISE Bundle.tN "cause" "Ljava/lang/Throwable;", .lays E_ISE Bundle.tN "stackTrace" Bundle.steD, .lays E_ISE Bundle.tN "suppressedExceptions" Bundle.listD, .lays E_ISE Bundle.tN "detailMessage" "Ljava/lang/String;",
   .isRef (.static Bundle.tN "UNASSIGNED_STACK" Bundle.steD), .isRef (.static Bundle.tN "SUPPRESSED_SENTINEL" Bundle.listD),
   .fieldLink Bundle.tN 198 Bundle.tN "backtrace" "Ljava/lang/Object;", .lays Bundle.tN Bundle.tN "backtrace" "Ljava/lang/Object;", .lays E_ISE Bundle.tN "backtrace" "Ljava/lang/Object;"] : List Cond).all jIn = true := by decide +kernel
theorem jK_ISE : JTk E_ISE 63 67 := ⟨kcl_X5_63, kini__java_lang_IllegalStateException_, by decide +kernel, Or.inl fun z hz => by
  obtain ⟨h1, h2⟩ := List.mem_filter.mp hz
  have h3 : z ∈ Bundle.throwableAtoms ++ Bundle.throwableSAtoms ++ (Bundle.passSAtoms E_ISE "java/lang/RuntimeException" 7 Bundle.six ++ (Bundle.passSAtoms "java/lang/RuntimeException" "java/lang/Exception" 7 Bundle.six ++ Bundle.passSAtoms "java/lang/Exception" Bundle.tN 7 Bundle.six)) ++ _ := h1
  rcases List.mem_append.mp h3 with h4 | h4
  · rcases List.mem_append.mp h4 with h5 | h5
    · rcases List.mem_append.mp h5 with h6 | h6
      · exact jIn_of jA_1 z h6 h2
      · exact jIn_of jA_2 z h6 h2
    · rcases List.mem_append.mp h5 with h6 | h6
      · exact jIn_of jA_ISE1 z h6 h2
      · exact jIn_of jA_3 z h6 h2
  · exact jIn_of jA_ISE2 z h4 h2⟩
theorem jCs_ISE : Cond.castable E_ISE E_ISE ∈ jFace := jfd (by decide +kernel) rfl
set_option maxRecDepth 20000 in
theorem jA_IOE1 : (Bundle.passSAtoms E_IOE "java/lang/RuntimeException" 7 Bundle.six).all jIn = true := by decide +kernel
set_option maxRecDepth 20000 in
theorem jA_IOE2 : ([.methodLink RX5 212 (Bundle.initS E_IOE), .instantiable E_IOE 6, .castable E_IOE E_IOE, .selects E_IOE Bundle.tFill0 Bundle.tFill0, .selects E_IOE Bundle.tFill Bundle.tFill,
   .lays E_IOE Bundle.tN "cause" "Ljava/lang/Throwable;", .lays E_IOE Bundle.tN "stackTrace" Bundle.steD, .lays E_IOE Bundle.tN "suppressedExceptions" Bundle.listD, .lays E_IOE Bundle.tN "detailMessage" "Ljava/lang/String;",
   .isRef (.static Bundle.tN "UNASSIGNED_STACK" Bundle.steD), .isRef (.static Bundle.tN "SUPPRESSED_SENTINEL" Bundle.listD),
   .fieldLink Bundle.tN 198 Bundle.tN "backtrace" "Ljava/lang/Object;", .lays Bundle.tN Bundle.tN "backtrace" "Ljava/lang/Object;", .lays E_IOE Bundle.tN "backtrace" "Ljava/lang/Object;"] : List Cond).all jIn = true := by decide +kernel
theorem jK_IOE : JTk E_IOE 208 212 := ⟨kcl_X5_208, kini__java_lang_IndexOutOfBoundsException_, by decide +kernel, Or.inl fun z hz => by
  obtain ⟨h1, h2⟩ := List.mem_filter.mp hz
  have h3 : z ∈ Bundle.throwableAtoms ++ Bundle.throwableSAtoms ++ (Bundle.passSAtoms E_IOE "java/lang/RuntimeException" 7 Bundle.six ++ (Bundle.passSAtoms "java/lang/RuntimeException" "java/lang/Exception" 7 Bundle.six ++ Bundle.passSAtoms "java/lang/Exception" Bundle.tN 7 Bundle.six)) ++ _ := h1
  rcases List.mem_append.mp h3 with h4 | h4
  · rcases List.mem_append.mp h4 with h5 | h5
    · rcases List.mem_append.mp h5 with h6 | h6
      · exact jIn_of jA_1 z h6 h2
      · exact jIn_of jA_2 z h6 h2
    · rcases List.mem_append.mp h5 with h6 | h6
      · exact jIn_of jA_IOE1 z h6 h2
      · exact jIn_of jA_3 z h6 h2
  · exact jIn_of jA_IOE2 z h4 h2⟩
theorem jCs_IOE : Cond.castable E_IOE E_IOE ∈ jFace := jfd (by decide +kernel) rfl
set_option maxRecDepth 20000 in
theorem jA_NSE1 : jNPass.all jIn = true := by decide +kernel
set_option maxRecDepth 20000 in
theorem jA_NSE2 : (jNTail RX5 167 E_NSE).all jIn = true := by decide +kernel
theorem jK_NSE : JTk E_NSE 163 167 := ⟨kcl_X5_163, kini__java_util_NoSuchElementException_, by decide +kernel, Or.inr ⟨rfl, fun z hz => by
  obtain ⟨h1, h2⟩ := List.mem_filter.mp hz
  simp only [jNAtoms, List.mem_append] at h1
  rcases h1 with (((h1 | h1) | h1) | h1) | h1
  · exact jIn_of jA_1 z h1 h2
  · exact jIn_of jA_2 z h1 h2
  · exact jIn_of jA_NSE1 z h1 h2
  · exact jIn_of jA_3 z h1 h2
  · exact jIn_of jA_NSE2 z h1 h2⟩⟩
theorem jCs_NSE : Cond.castable E_NSE E_NSE ∈ jFace := jfd (by decide +kernel) rfl
def CXI (G : jG) (sa : Nat → Nat) (y : MethodName) (cc : ByteArray) (maxL : Nat) (rm : Room) (args : List Value) (w0 : va_W) {S : Type} (post : Int32 → S → Prop) (w1 : S → va_W) (px : String → Prop) (mc ms : Nat) : Prop :=
  rm.cells = mc ∧ rm.slots = ms ∧ ∀ (l : Launch), l.stackTraces = false → ∀ (sz : Nat), vx_Met l y (Cond.code y cc maxL (some .int) :: jAll) rm (va_Pc args (jPreX G sa sz w0)) (va_Qi post (fun u => jPost G (va_A w0 sz) (w1 u)) (va_A w0 sz)) (vx_X (fun _ : Unit => True) (fun E _ t => px E ∧ jPost G (va_A w0 sz) w0 t) (va_A w0 sz)) mc ms (va_A w0 sz)
theorem cxi_intro {G : jG} {sa : Nat → Nat} {y : MethodName} {cc : ByteArray} {maxL f loc mc ms : Nat} {args : List Value} {w0 : va_W} {S : Type} {post : Int32 → S → Prop} {w1 : S → va_W} {px : String → Prop} {own : String} (L0 : List (Option Value)) (hy : plainName y.cls = true) (hyo : y.cls = own) (hL : jl0 0 L0 = lv_args 0 args) (hLn : L0.length = maxL) (hsl : (lg_sl args).length ≤ maxL)
    (h : ∀ X : JX, JC G X (jrm f loc mc ms) cc own maxL → JE sa X → (∀ (pc : Nat) (L : List (Option Value)) (r : Int32) (u : S) (k n : Nat), k ≤ mc → n ≤ ms → decode cc pc = .ok (.ireturn, 1) → post r u → JW G X k n (w1 u) pc L [.int r]) →
      (∀ (pc ik ic is : Nat) (E text : String) (L : List (Option Value)) (k n : Nat), own = RX5 → JTk E ik ic → (is, text) ∈ jS → px E → L.length = maxL → k + 1 ≤ mc → n + 6 ≤ ms → 5 < f → 82 ≤ loc → decode cc pc = .ok (.new ik, 3) → decode cc (pc + 3) = .ok (.dup, 1) → decode cc (pc + 4) = .ok (.ldc is, 2) → decode cc (pc + 6) = .ok (.invokespecial ic, 3) → decode cc (pc + 9) = .ok (.athrow, 1) → JW G X k n w0 pc L []) →
      (∀ (pc : Nat) (L : List (Option Value)) (st : List Value) (E : String) (k n : Nat), k ≤ mc → n ≤ ms → px E → JT G X k n w0 pc L st E) → JW G X 0 0 w0 0 L0 []) : CXI G sa y cc maxL (jrm f loc mc ms) args w0 post w1 px mc ms := by
  refine ⟨rfl, rfl, fun l hst sz => ?_⟩
  refine vx_ofW (cc := cc) (maxL := maxL) (ret := (some .int)) hy rfl ?_
  intro p e s m args1 below meth c s₁ B hml htb hv
  obtain ⟨rfl, ⟨hsz, hP, hK, hN, hD0⟩, hE⟩ := hv
  have hx := B.exec
  have hb := B.bytes
  have hr := B.returns
  have hts := atoms_spec (ws := (Cond.code y cc maxL (some .int) :: jAll)) B.pre
  have hown : s.vm.findClass own = some m.cls := by rw [← hyo]; exact findClass_of_methodNamed B.named
  have hlocks := B.notSynchronized
  subst hsz
  have hD := hD0.self (sz := s.heap.size)
  have hA : ∀ q : Nat, s.heap.size ≤ q → va_A w0 s.heap.size q := fun q h => Or.inr h
  have hl := lv_entry args (n := maxL) hsl
  rw [lg_entry_eq]
  generalize (lg_sl args ++ List.replicate (maxL - (lg_sl args).length) Slot.unset).toArray = ls at hl ⊢
  rw [← hL] at hl
  have hl2 : lv_has ls L0.length (jl0 0 L0) := by rw [hLn]; exact hl
  have hno : ∀ (pc : Nat), ∀ x ∈ c.exceptionTable.toList, covers x pc = false := fun _ x hx => (htb x hx).elim
  have hend : ∀ (E : String) (H : Heap) (locs : List Loc) (t : State), px E → va_P G.1 vwCl w0 H → va_D (va_A w0 s.heap.size) w0 → va_S (va_A w0 s.heap.size) s.heap H locs → s.vm.Alike t.vm → H.size ≤ t.heap.size → (∀ q : Nat, q < H.size → t.heap[q]? = H[q]?) → (vx_X (fun _ : Unit => True) (fun E _ t => px E ∧ jPost G (va_A w0 s.heap.size) w0 t) (va_A w0 s.heap.size)) E s t := fun E H locs t hp hP hD hS hal h1 h2 =>
    ⟨(), trivial, ⟨hp, hP.kept (fun k q hk => h2 q.1 (hP k q hk).lt), va_K.moved hal hK, hD⟩, Nat.le_trans hS.1 h1, fun q h3 h4 => (h2 q (Nat.lt_of_lt_of_le h3 hS.1)).trans (hS.2.1 q h3 h4)⟩
  have K := h (p, l, e, (jrm f loc mc ms), s, m, args.toArray, below, meth, c, vx_MQ below (va_Qi post (fun u => jPost G (va_A w0 s.heap.size) (w1 u)) (va_A w0 s.heap.size)) (vx_X (fun _ : Unit => True) (fun E _ t => px E ∧ jPost G (va_A w0 s.heap.size) w0 t) (va_A w0 s.heap.size)) args.toArray s mc ms (va_A w0 s.heap.size), va_A w0 s.heap.size) ⟨hx, hb, hml, hown, fun z hz => hts z (List.mem_cons_of_mem _ hz), hN, hK, hlocks, hA, rfl⟩ ⟨hst, hE⟩ ?_ ?_ ?_
  · exact K s.heap [] ls hP hD va_S.rf hl2
  · intro pc L r u k n hk hn hd hp H locs ls hP hD hS hl
    refine W.widen hk hn (vx_ret ?_)
    exact W.iret hx hb hr (fun t ht hW => ⟨⟨r, u, rfl, hp, by rw [ht]; exact hP, va_K.moved hW.alike hK, hD⟩, hS.F ht⟩) hS.2.2 hd hlocks
  · intro pc ik ic is E text L k n hO hJ hstr hp hLn hk hn hf hlo d0 d3 d4 d6 d9 H locs ls hP hD hS hl
    subst hO
    obtain ⟨j1, j2, j3, j4⟩ := hJ
    have hgw : ∀ z, z ∈ jAll ∨ z ∈ jFace → vx_ot z = true := fun z hz => by
      rcases hz with hz | hz
      · simp only [vx_ot, jAll_good z hz, Bool.or_true]
      · simp only [vx_ot, jFace_on hz, Bool.true_or]
    have htz : ∀ z, z ∈ jAll ∨ z ∈ jFace → z.before args.toArray s = true := fun z hz => by
      rcases hz with hz | hz
      · exact hts z (List.mem_cons_of_mem _ hz)
      · exact va_Nw.use (jFace_on hz) (hE.1 z hz)
    have hgd : ∀ A9 : List Cond, (∀ z ∈ A9, z ∈ jAll ∨ z ∈ jFace) → ∀ w ∈ Cond.classLink RX5 ik E :: Cond.initialized E :: A9, vx_ot w = true := fun A9 h9 z hz => by
      rcases List.mem_cons.mp hz with rfl | hz
      · exact hgw _ (Or.inl j1)
      · rcases List.mem_cons.mp hz with rfl | hz
        · exact hgw _ (Or.inl j2)
        · exact hgw z (h9 z hz)
    rcases j4 with j4 | ⟨rfl, j4⟩
    · exact vx_throwS hx hb hst (own := RX5) (cls := E) (text := text) (names := jNames) (ik := ik) (is := is) (ic := ic) (sa := sa is) (A := va_A w0 s.heap.size) hown j3 (by decide +kernel) (htz _ (Or.inl j1)) (htz _ (Or.inl j2)) (hE.2.1 _ hstr) (fun z hz => htz z (j4 z hz))
        (hgd _ j4) hE.2.2.2.1 hE.2.2.2.2 hS (hl.1.trans (hLn.trans hml.symm)) d0 d3 d4 d6 d9 (hno _) (by show 2 + 3 < f; omega) (by show 0 + (13 * (2 + 1) + 43) ≤ loc; omega) hk hn hlocks (fun t hal h1 h2 => hend E H locs t hp hP hD hS hal h1 h2) hS.2.2 hk hn
    · exact jn_throw hx hb hst (own := RX5) (text := text) (ik := ik) (is := is) (ic := ic) (sa := sa is) (A := va_A w0 s.heap.size) hown (htz _ (Or.inl j1)) (htz _ (Or.inl j2)) (hE.2.1 _ hstr) (fun z hz => htz z (j4 z hz))
        (hgd _ j4) hE.2.2.2.1 hE.2.2.2.2 hS (hl.1.trans (hLn.trans hml.symm)) d0 d3 d4 d6 d9 (hno _) hf (by show 0 + 82 ≤ loc; omega) hk hn hlocks (fun t hal h1 h2 => hend E_NSE H locs t hp hP hD hS hal h1 h2) hS.2.2 hk hn
  · intro pc L st E k n hk hn hp H locs ls q ce hP hD hS hl hc1 hc2 hc3
    exact vx_out (hno pc) hlocks hc1 hc2 hc3 (fun t ht hal => hend E H locs t hp hP hD hS hal (by rw [ht]; exact Nat.le_refl _) (fun q _ => by rw [ht])) hS.2.2 hk hn
def CXV (G : jG) (sa : Nat → Nat) (y : MethodName) (cc : ByteArray) (maxL : Nat) (rm : Room) (args : List Value) (w0 : va_W) {S : Type} (post : S → Prop) (w1 : S → va_W) (px : String → Prop) (mc ms : Nat) : Prop :=
  rm.cells = mc ∧ rm.slots = ms ∧ ∀ (l : Launch), l.stackTraces = false → ∀ (sz : Nat), vx_Met l y (Cond.code y cc maxL none :: jAll) rm (va_Pc args (jPreX G sa sz w0)) (va_Qv post (fun u => jPost G (va_A w0 sz) (w1 u)) (va_A w0 sz)) (vx_X (fun _ : Unit => True) (fun E _ t => px E ∧ jPost G (va_A w0 sz) w0 t) (va_A w0 sz)) mc ms (va_A w0 sz)
theorem cxv_intro {G : jG} {sa : Nat → Nat} {y : MethodName} {cc : ByteArray} {maxL f loc mc ms : Nat} {args : List Value} {w0 : va_W} {S : Type} {post : S → Prop} {w1 : S → va_W} {px : String → Prop} {own : String} (L0 : List (Option Value)) (hy : plainName y.cls = true) (hyo : y.cls = own) (hL : jl0 0 L0 = lv_args 0 args) (hLn : L0.length = maxL) (hsl : (lg_sl args).length ≤ maxL)
    (h : ∀ X : JX, JC G X (jrm f loc mc ms) cc own maxL → JE sa X → (∀ (pc : Nat) (L : List (Option Value)) (u : S) (k n : Nat), k ≤ mc → n ≤ ms → decode cc pc = .ok (.return_, 1) → post u → JW G X k n (w1 u) pc L []) →
      (∀ (pc ik ic is : Nat) (E text : String) (L : List (Option Value)) (k n : Nat), own = RX5 → JTk E ik ic → (is, text) ∈ jS → px E → L.length = maxL → k + 1 ≤ mc → n + 6 ≤ ms → 5 < f → 82 ≤ loc → decode cc pc = .ok (.new ik, 3) → decode cc (pc + 3) = .ok (.dup, 1) → decode cc (pc + 4) = .ok (.ldc is, 2) → decode cc (pc + 6) = .ok (.invokespecial ic, 3) → decode cc (pc + 9) = .ok (.athrow, 1) → JW G X k n w0 pc L []) →
      (∀ (pc : Nat) (L : List (Option Value)) (st : List Value) (E : String) (k n : Nat), k ≤ mc → n ≤ ms → px E → JT G X k n w0 pc L st E) → JW G X 0 0 w0 0 L0 []) : CXV G sa y cc maxL (jrm f loc mc ms) args w0 post w1 px mc ms := by
  refine ⟨rfl, rfl, fun l hst sz => ?_⟩
  refine vx_ofW (cc := cc) (maxL := maxL) (ret := none) hy rfl ?_
  intro p e s m args1 below meth c s₁ B hml htb hv
  obtain ⟨rfl, ⟨hsz, hP, hK, hN, hD0⟩, hE⟩ := hv
  have hx := B.exec
  have hb := B.bytes
  have hr := B.returns
  have hts := atoms_spec (ws := (Cond.code y cc maxL none :: jAll)) B.pre
  have hown : s.vm.findClass own = some m.cls := by rw [← hyo]; exact findClass_of_methodNamed B.named
  have hlocks := B.notSynchronized
  subst hsz
  have hD := hD0.self (sz := s.heap.size)
  have hA : ∀ q : Nat, s.heap.size ≤ q → va_A w0 s.heap.size q := fun q h => Or.inr h
  have hl := lv_entry args (n := maxL) hsl
  rw [lg_entry_eq]
  generalize (lg_sl args ++ List.replicate (maxL - (lg_sl args).length) Slot.unset).toArray = ls at hl ⊢
  rw [← hL] at hl
  have hl2 : lv_has ls L0.length (jl0 0 L0) := by rw [hLn]; exact hl
  have hno : ∀ (pc : Nat), ∀ x ∈ c.exceptionTable.toList, covers x pc = false := fun _ x hx => (htb x hx).elim
  have hend : ∀ (E : String) (H : Heap) (locs : List Loc) (t : State), px E → va_P G.1 vwCl w0 H → va_D (va_A w0 s.heap.size) w0 → va_S (va_A w0 s.heap.size) s.heap H locs → s.vm.Alike t.vm → H.size ≤ t.heap.size → (∀ q : Nat, q < H.size → t.heap[q]? = H[q]?) → (vx_X (fun _ : Unit => True) (fun E _ t => px E ∧ jPost G (va_A w0 s.heap.size) w0 t) (va_A w0 s.heap.size)) E s t := fun E H locs t hp hP hD hS hal h1 h2 =>
    ⟨(), trivial, ⟨hp, hP.kept (fun k q hk => h2 q.1 (hP k q hk).lt), va_K.moved hal hK, hD⟩, Nat.le_trans hS.1 h1, fun q h3 h4 => (h2 q (Nat.lt_of_lt_of_le h3 hS.1)).trans (hS.2.1 q h3 h4)⟩
  have K := h (p, l, e, (jrm f loc mc ms), s, m, args.toArray, below, meth, c, vx_MQ below (va_Qv post (fun u => jPost G (va_A w0 s.heap.size) (w1 u)) (va_A w0 s.heap.size)) (vx_X (fun _ : Unit => True) (fun E _ t => px E ∧ jPost G (va_A w0 s.heap.size) w0 t) (va_A w0 s.heap.size)) args.toArray s mc ms (va_A w0 s.heap.size), va_A w0 s.heap.size) ⟨hx, hb, hml, hown, fun z hz => hts z (List.mem_cons_of_mem _ hz), hN, hK, hlocks, hA, rfl⟩ ⟨hst, hE⟩ ?_ ?_ ?_
  · exact K s.heap [] ls hP hD va_S.rf hl2
  · intro pc L u k n hk hn hd hp H locs ls hP hD hS hl
    refine W.widen hk hn (vx_ret ?_)
    exact W.vret hx hb hr (fun t ht hW => ⟨⟨u, rfl, hp, by rw [ht]; exact hP, va_K.moved hW.alike hK, hD⟩, hS.F ht⟩) hS.2.2 hd hlocks
  · intro pc ik ic is E text L k n hO hJ hstr hp hLn hk hn hf hlo d0 d3 d4 d6 d9 H locs ls hP hD hS hl
    subst hO
    obtain ⟨j1, j2, j3, j4⟩ := hJ
    have hgw : ∀ z, z ∈ jAll ∨ z ∈ jFace → vx_ot z = true := fun z hz => by
      rcases hz with hz | hz
      · simp only [vx_ot, jAll_good z hz, Bool.or_true]
      · simp only [vx_ot, jFace_on hz, Bool.true_or]
    have htz : ∀ z, z ∈ jAll ∨ z ∈ jFace → z.before args.toArray s = true := fun z hz => by
      rcases hz with hz | hz
      · exact hts z (List.mem_cons_of_mem _ hz)
      · exact va_Nw.use (jFace_on hz) (hE.1 z hz)
    have hgd : ∀ A9 : List Cond, (∀ z ∈ A9, z ∈ jAll ∨ z ∈ jFace) → ∀ w ∈ Cond.classLink RX5 ik E :: Cond.initialized E :: A9, vx_ot w = true := fun A9 h9 z hz => by
      rcases List.mem_cons.mp hz with rfl | hz
      · exact hgw _ (Or.inl j1)
      · rcases List.mem_cons.mp hz with rfl | hz
        · exact hgw _ (Or.inl j2)
        · exact hgw z (h9 z hz)
    rcases j4 with j4 | ⟨rfl, j4⟩
    · exact vx_throwS hx hb hst (own := RX5) (cls := E) (text := text) (names := jNames) (ik := ik) (is := is) (ic := ic) (sa := sa is) (A := va_A w0 s.heap.size) hown j3 (by decide +kernel) (htz _ (Or.inl j1)) (htz _ (Or.inl j2)) (hE.2.1 _ hstr) (fun z hz => htz z (j4 z hz))
        (hgd _ j4) hE.2.2.2.1 hE.2.2.2.2 hS (hl.1.trans (hLn.trans hml.symm)) d0 d3 d4 d6 d9 (hno _) (by show 2 + 3 < f; omega) (by show 0 + (13 * (2 + 1) + 43) ≤ loc; omega) hk hn hlocks (fun t hal h1 h2 => hend E H locs t hp hP hD hS hal h1 h2) hS.2.2 hk hn
    · exact jn_throw hx hb hst (own := RX5) (text := text) (ik := ik) (is := is) (ic := ic) (sa := sa is) (A := va_A w0 s.heap.size) hown (htz _ (Or.inl j1)) (htz _ (Or.inl j2)) (hE.2.1 _ hstr) (fun z hz => htz z (j4 z hz))
        (hgd _ j4) hE.2.2.2.1 hE.2.2.2.2 hS (hl.1.trans (hLn.trans hml.symm)) d0 d3 d4 d6 d9 (hno _) hf (by show 0 + 82 ≤ loc; omega) hk hn hlocks (fun t hal h1 h2 => hend E_NSE H locs t hp hP hD hS hal h1 h2) hS.2.2 hk hn
  · intro pc L st E k n hk hn hp H locs ls q ce hP hD hS hl hc1 hc2 hc3
    exact vx_out (hno pc) hlocks hc1 hc2 hc3 (fun t ht hal => hend E H locs t hp hP hD hS hal (by rw [ht]; exact Nat.le_refl _) (fun q _ => by rw [ht])) hS.2.2 hk hn
def CXZ (G : jG) (sa : Nat → Nat) (y : MethodName) (cc : ByteArray) (maxL : Nat) (rm : Room) (args : List Value) (w0 : va_W) {S : Type} (post : Bool → S → Prop) (w1 : S → va_W) (px : String → Prop) (mc ms : Nat) : Prop :=
  rm.cells = mc ∧ rm.slots = ms ∧ ∀ (l : Launch), l.stackTraces = false → ∀ (sz : Nat), vx_Met l y (Cond.code y cc maxL (some .boolean) :: jAll) rm (va_Pc args (jPreX G sa sz w0)) (va_Qi (fun r u => ∃ z : Bool, r = jb z ∧ post z u) (fun u => jPost G (va_A w0 sz) (w1 u)) (va_A w0 sz)) (vx_X (fun _ : Unit => True) (fun E _ t => px E ∧ jPost G (va_A w0 sz) w0 t) (va_A w0 sz)) mc ms (va_A w0 sz)
theorem cxz_intro {G : jG} {sa : Nat → Nat} {y : MethodName} {cc : ByteArray} {maxL f loc mc ms : Nat} {args : List Value} {w0 : va_W} {S : Type} {post : Bool → S → Prop} {w1 : S → va_W} {px : String → Prop} {own : String} (L0 : List (Option Value)) (hy : plainName y.cls = true) (hyo : y.cls = own) (hL : jl0 0 L0 = lv_args 0 args) (hLn : L0.length = maxL) (hsl : (lg_sl args).length ≤ maxL)
    (h : ∀ X : JX, JC G X (jrm f loc mc ms) cc own maxL → JE sa X → (∀ (pc : Nat) (L : List (Option Value)) (r : Bool) (u : S) (k n : Nat), k ≤ mc → n ≤ ms → decode cc pc = .ok (.ireturn, 1) → post r u → JW G X k n (w1 u) pc L [.int (jb r)]) →
      (∀ (pc ik ic is : Nat) (E text : String) (L : List (Option Value)) (k n : Nat), own = RX5 → JTk E ik ic → (is, text) ∈ jS → px E → L.length = maxL → k + 1 ≤ mc → n + 6 ≤ ms → 5 < f → 82 ≤ loc → decode cc pc = .ok (.new ik, 3) → decode cc (pc + 3) = .ok (.dup, 1) → decode cc (pc + 4) = .ok (.ldc is, 2) → decode cc (pc + 6) = .ok (.invokespecial ic, 3) → decode cc (pc + 9) = .ok (.athrow, 1) → JW G X k n w0 pc L []) →
      (∀ (pc : Nat) (L : List (Option Value)) (st : List Value) (E : String) (k n : Nat), k ≤ mc → n ≤ ms → px E → JT G X k n w0 pc L st E) → JW G X 0 0 w0 0 L0 []) : CXZ G sa y cc maxL (jrm f loc mc ms) args w0 post w1 px mc ms := by
  refine ⟨rfl, rfl, fun l hst sz => ?_⟩
  refine vx_ofW (cc := cc) (maxL := maxL) (ret := (some .boolean)) hy rfl ?_
  intro p e s m args1 below meth c s₁ B hml htb hv
  obtain ⟨rfl, ⟨hsz, hP, hK, hN, hD0⟩, hE⟩ := hv
  have hx := B.exec
  have hb := B.bytes
  have hr := B.returns
  have hts := atoms_spec (ws := (Cond.code y cc maxL (some .boolean) :: jAll)) B.pre
  have hown : s.vm.findClass own = some m.cls := by rw [← hyo]; exact findClass_of_methodNamed B.named
  have hlocks := B.notSynchronized
  subst hsz
  have hD := hD0.self (sz := s.heap.size)
  have hA : ∀ q : Nat, s.heap.size ≤ q → va_A w0 s.heap.size q := fun q h => Or.inr h
  have hl := lv_entry args (n := maxL) hsl
  rw [lg_entry_eq]
  generalize (lg_sl args ++ List.replicate (maxL - (lg_sl args).length) Slot.unset).toArray = ls at hl ⊢
  rw [← hL] at hl
  have hl2 : lv_has ls L0.length (jl0 0 L0) := by rw [hLn]; exact hl
  have hno : ∀ (pc : Nat), ∀ x ∈ c.exceptionTable.toList, covers x pc = false := fun _ x hx => (htb x hx).elim
  have hend : ∀ (E : String) (H : Heap) (locs : List Loc) (t : State), px E → va_P G.1 vwCl w0 H → va_D (va_A w0 s.heap.size) w0 → va_S (va_A w0 s.heap.size) s.heap H locs → s.vm.Alike t.vm → H.size ≤ t.heap.size → (∀ q : Nat, q < H.size → t.heap[q]? = H[q]?) → (vx_X (fun _ : Unit => True) (fun E _ t => px E ∧ jPost G (va_A w0 s.heap.size) w0 t) (va_A w0 s.heap.size)) E s t := fun E H locs t hp hP hD hS hal h1 h2 =>
    ⟨(), trivial, ⟨hp, hP.kept (fun k q hk => h2 q.1 (hP k q hk).lt), va_K.moved hal hK, hD⟩, Nat.le_trans hS.1 h1, fun q h3 h4 => (h2 q (Nat.lt_of_lt_of_le h3 hS.1)).trans (hS.2.1 q h3 h4)⟩
  have K := h (p, l, e, (jrm f loc mc ms), s, m, args.toArray, below, meth, c, vx_MQ below (va_Qi (fun r u => ∃ z : Bool, r = jb z ∧ post z u) (fun u => jPost G (va_A w0 s.heap.size) (w1 u)) (va_A w0 s.heap.size)) (vx_X (fun _ : Unit => True) (fun E _ t => px E ∧ jPost G (va_A w0 s.heap.size) w0 t) (va_A w0 s.heap.size)) args.toArray s mc ms (va_A w0 s.heap.size), va_A w0 s.heap.size) ⟨hx, hb, hml, hown, fun z hz => hts z (List.mem_cons_of_mem _ hz), hN, hK, hlocks, hA, rfl⟩ ⟨hst, hE⟩ ?_ ?_ ?_
  · exact K s.heap [] ls hP hD va_S.rf hl2
  · intro pc L r u k n hk hn hd hp H locs ls hP hD hS hl
    refine W.widen hk hn (vx_ret ?_)
    exact W.zret (ty := .boolean) hx hb hr (by cases r <;> rfl) (fun t ht hW => ⟨⟨jb r, u, rfl, ⟨r, rfl, hp⟩, by rw [ht]; exact hP, va_K.moved hW.alike hK, hD⟩, hS.F ht⟩) hS.2.2 hd hlocks
  · intro pc ik ic is E text L k n hO hJ hstr hp hLn hk hn hf hlo d0 d3 d4 d6 d9 H locs ls hP hD hS hl
    subst hO
    obtain ⟨j1, j2, j3, j4⟩ := hJ
    have hgw : ∀ z, z ∈ jAll ∨ z ∈ jFace → vx_ot z = true := fun z hz => by
      rcases hz with hz | hz
      · simp only [vx_ot, jAll_good z hz, Bool.or_true]
      · simp only [vx_ot, jFace_on hz, Bool.true_or]
    have htz : ∀ z, z ∈ jAll ∨ z ∈ jFace → z.before args.toArray s = true := fun z hz => by
      rcases hz with hz | hz
      · exact hts z (List.mem_cons_of_mem _ hz)
      · exact va_Nw.use (jFace_on hz) (hE.1 z hz)
    have hgd : ∀ A9 : List Cond, (∀ z ∈ A9, z ∈ jAll ∨ z ∈ jFace) → ∀ w ∈ Cond.classLink RX5 ik E :: Cond.initialized E :: A9, vx_ot w = true := fun A9 h9 z hz => by
      rcases List.mem_cons.mp hz with rfl | hz
      · exact hgw _ (Or.inl j1)
      · rcases List.mem_cons.mp hz with rfl | hz
        · exact hgw _ (Or.inl j2)
        · exact hgw z (h9 z hz)
    rcases j4 with j4 | ⟨rfl, j4⟩
    · exact vx_throwS hx hb hst (own := RX5) (cls := E) (text := text) (names := jNames) (ik := ik) (is := is) (ic := ic) (sa := sa is) (A := va_A w0 s.heap.size) hown j3 (by decide +kernel) (htz _ (Or.inl j1)) (htz _ (Or.inl j2)) (hE.2.1 _ hstr) (fun z hz => htz z (j4 z hz))
        (hgd _ j4) hE.2.2.2.1 hE.2.2.2.2 hS (hl.1.trans (hLn.trans hml.symm)) d0 d3 d4 d6 d9 (hno _) (by show 2 + 3 < f; omega) (by show 0 + (13 * (2 + 1) + 43) ≤ loc; omega) hk hn hlocks (fun t hal h1 h2 => hend E H locs t hp hP hD hS hal h1 h2) hS.2.2 hk hn
    · exact jn_throw hx hb hst (own := RX5) (text := text) (ik := ik) (is := is) (ic := ic) (sa := sa is) (A := va_A w0 s.heap.size) hown (htz _ (Or.inl j1)) (htz _ (Or.inl j2)) (hE.2.1 _ hstr) (fun z hz => htz z (j4 z hz))
        (hgd _ j4) hE.2.2.2.1 hE.2.2.2.2 hS (hl.1.trans (hLn.trans hml.symm)) d0 d3 d4 d6 d9 (hno _) hf (by show 0 + 82 ≤ loc; omega) hk hn hlocks (fun t hal h1 h2 => hend E_NSE H locs t hp hP hD hS hal h1 h2) hS.2.2 hk hn
  · intro pc L st E k n hk hn hp H locs ls q ce hP hD hS hl hc1 hc2 hc3
    exact vx_out (hno pc) hlocks hc1 hc2 hc3 (fun t ht hal => hend E H locs t hp hP hD hS hal (by rw [ht]; exact Nat.le_refl _) (fun q _ => by rw [ht])) hS.2.2 hk hn
section JXCALL
variable {G : jG} {sa : Nat → Nat} {X : JX} {k n pc : Nat} {w : va_W} {L : List (Option Value)} {rest st0 : List Value} {rm : Room} {cc : ByteArray} {own : String} {nL : Nat} {y : MethodName} {bytes : ByteArray} {maxL f loc np idx b q0 ci N mc ms : Nat} {As : List Value} {w0 wr : va_W} {S : Type} {w1 : S → va_W} {Cn : String} {T : u_T} {fs : List Value} {px : String → Prop}
theorem jwx_sV_I {post : Int32 → S → Prop} (C : JC G X rm cc own nL) (Ev : JE sa X) (ct : CXI G sa y bytes maxL (jrm f loc mc ms) (.ref b :: As) w0 post w1 px mc ms) (wd : jWd y Cn bytes maxL (some .int) np) (link : Cond.methodLink own idx y ∈ jAll) (q0 : Nat) (hq : w[q0]? = some (b, .inr (ci, fs))) (hci : vwCl[ci]? = some (Cn, T, N))
    (isC isR : List Nat) (hC : isC.map (fun i => w[i]?) = w0.map some) (hR : isR.map (fun i => w[i]?) = wr.map some) (hnC : va_nd isC = true) (hn : va_nd isR = true) (hdis : ∀ i ∈ isR, i ∉ isC)
    (hAs : As.length = np) (hst : st0 = As.reverse ++ .ref b :: rest) (hrest : (rest.map fun v => v.category).sum ≤ 8) (hrm : f + 1 ≤ rm.frames ∧ 8 + (maxL + 11) + loc ≤ rm.locals) (hk : k + mc ≤ rm.cells ∧ n + ms ≤ rm.slots) (d : decode cc pc = .ok (.invokevirtual idx, 3)) (hL : L.length = nL)
    (kx : ∀ (E : String), px E → JT G X (k + mc) (n + ms) (wr ++ w0) pc L rest E)
    (kk : ∀ (r : Int32) (u : S), post r u → JW G X (k + mc) (n + ms) (wr ++ w1 u) (pc + 3) L (.int r :: rest)) : JW G X k n w pc L st0 := by
  obtain ⟨p, l, e, R, s, m, args, below, meth, c, Q, A⟩ := X
  obtain ⟨hx, hb, hml, hown, hts, hnw, hK, hlk, hA, hR⟩ := C
  obtain ⟨hst9, hEv⟩ := Ev
  subst hR
  intro H locs ls hP hD hS hl
  obtain ⟨wd1, wd2, wd3, wd4, wd5⟩ := wd
  have hPc := hP.sub isC (j_part hC)
  have hDc := j_nd hD hC hnC
  have hFc := va_free hD hS hA isC hC
  refine vx_calli (vx_runV (As := As) (rest := rest) ⟨hx, hb, hml, hown, hts⟩ (ct.2.2 l hst9 H.size) (cwV np hts (jAll_in (fun z hz => ?_)) rfl rfl rfl wd5 hrm) ⟨jPreX_blind, va_recv hK hP hci hq, fun U hU hW => ⟨rfl, ⟨by rw [hU], by rw [hU]; exact hPc, va_K.moved hW.alike hK, fun z hz => jNest_warm hz hW (hnw z hz), hDc⟩, hEv.go hW (by rw [hU]; exact hS.2.1) (fun q h => hFc q h)⟩⟩ rfl hAs (hl.1.trans hL) hst (lv_room hrest) d hk) hS (fun q _ h => hFc q h) hFc (fun q _ h => hFc q h) (fun E ce q9 u t H1 locs1 ht hvm hp hB hz1 hk1 hS1 hc1 hc2 hc3 => ?_) (fun r u t H1 locs1 ht hvm hw hB hz1 hk1 hS1 => ?_)
  · rcases List.mem_append.mp hz with h | h
    · simp only [List.mem_cons, List.not_mem_nil, or_false] at h
      rcases h with rfl | rfl | rfl | rfl
      · exact link
      · exact wd1
      · exact wd2
      · exact wd3
    · exact jAll_code wd4 z h
  · obtain ⟨hpx, hP1, hK1, hD1⟩ := hB
    rw [ht] at hP1
    obtain ⟨hP2, hD2⟩ := va_join hP hD isC isR hC hR hn hdis hk1 hFc hP1 hD1
    exact kx E hpx H1 locs1 ls q9 ce hP2 hD2 hS1 hl hc1 hc2 hc3
  · obtain ⟨hP1, hK1, hD1⟩ := hB
    rw [ht] at hP1
    obtain ⟨hP2, hD2⟩ := va_join hP hD isC isR hC hR hn hdis hk1 hFc hP1 hD1
    exact kk r u hw H1 locs1 ls hP2 hD2 hS1 hl
theorem jwx_V_I {post : Int32 → S → Prop} (C : JC G X rm cc own nL) (Ev : JE sa X) (ct : CXI G sa y bytes maxL (jrm f loc mc ms) (.ref b :: As) w post w1 px mc ms) (wd : jWd y Cn bytes maxL (some .int) np) (link : Cond.methodLink own idx y ∈ jAll) (q0 : Nat) (hq : w[q0]? = some (b, .inr (ci, fs))) (hci : vwCl[ci]? = some (Cn, T, N))
    (hAs : As.length = np) (hst : st0 = As.reverse ++ .ref b :: rest) (hrest : (rest.map fun v => v.category).sum ≤ 8) (hrm : f + 1 ≤ rm.frames ∧ 8 + (maxL + 11) + loc ≤ rm.locals) (hk : k + mc ≤ rm.cells ∧ n + ms ≤ rm.slots) (d : decode cc pc = .ok (.invokevirtual idx, 3)) (hL : L.length = nL)
    (kx : ∀ (E : String), px E → JT G X (k + mc) (n + ms) w pc L rest E)
    (kk : ∀ (r : Int32) (u : S), post r u → JW G X (k + mc) (n + ms) (w1 u) (pc + 3) L (.int r :: rest)) : JW G X k n w pc L st0 :=
  jwx_sV_I (wr := []) C Ev ct wd link q0 hq hci (List.range w.length) [] (j_rng w) rfl (j_nd_rng _) rfl (fun _ h => by cases h) hAs hst hrest hrm hk d hL kx kk
theorem jwx_sV_V {post : S → Prop} (C : JC G X rm cc own nL) (Ev : JE sa X) (ct : CXV G sa y bytes maxL (jrm f loc mc ms) (.ref b :: As) w0 post w1 px mc ms) (wd : jWd y Cn bytes maxL none np) (link : Cond.methodLink own idx y ∈ jAll) (q0 : Nat) (hq : w[q0]? = some (b, .inr (ci, fs))) (hci : vwCl[ci]? = some (Cn, T, N))
    (isC isR : List Nat) (hC : isC.map (fun i => w[i]?) = w0.map some) (hR : isR.map (fun i => w[i]?) = wr.map some) (hnC : va_nd isC = true) (hn : va_nd isR = true) (hdis : ∀ i ∈ isR, i ∉ isC)
    (hAs : As.length = np) (hst : st0 = As.reverse ++ .ref b :: rest) (hrest : (rest.map fun v => v.category).sum ≤ 8) (hrm : f + 1 ≤ rm.frames ∧ 8 + (maxL + 11) + loc ≤ rm.locals) (hk : k + mc ≤ rm.cells ∧ n + ms ≤ rm.slots) (d : decode cc pc = .ok (.invokevirtual idx, 3)) (hL : L.length = nL)
    (kx : ∀ (E : String), px E → JT G X (k + mc) (n + ms) (wr ++ w0) pc L rest E)
    (kk : ∀ (u : S), post u → JW G X (k + mc) (n + ms) (wr ++ w1 u) (pc + 3) L rest) : JW G X k n w pc L st0 := by
  obtain ⟨p, l, e, R, s, m, args, below, meth, c, Q, A⟩ := X
  obtain ⟨hx, hb, hml, hown, hts, hnw, hK, hlk, hA, hR⟩ := C
  obtain ⟨hst9, hEv⟩ := Ev
  subst hR
  intro H locs ls hP hD hS hl
  obtain ⟨wd1, wd2, wd3, wd4, wd5⟩ := wd
  have hPc := hP.sub isC (j_part hC)
  have hDc := j_nd hD hC hnC
  have hFc := va_free hD hS hA isC hC
  refine vx_callv (vx_runV (As := As) (rest := rest) ⟨hx, hb, hml, hown, hts⟩ (ct.2.2 l hst9 H.size) (cwV np hts (jAll_in (fun z hz => ?_)) rfl rfl rfl wd5 hrm) ⟨jPreX_blind, va_recv hK hP hci hq, fun U hU hW => ⟨rfl, ⟨by rw [hU], by rw [hU]; exact hPc, va_K.moved hW.alike hK, fun z hz => jNest_warm hz hW (hnw z hz), hDc⟩, hEv.go hW (by rw [hU]; exact hS.2.1) (fun q h => hFc q h)⟩⟩ rfl hAs (hl.1.trans hL) hst (lv_room hrest) d hk) hS (fun q _ h => hFc q h) hFc (fun q _ h => hFc q h) (fun E ce q9 u t H1 locs1 ht hvm hp hB hz1 hk1 hS1 hc1 hc2 hc3 => ?_) (fun u t H1 locs1 ht hvm hw hB hz1 hk1 hS1 => ?_)
  · rcases List.mem_append.mp hz with h | h
    · simp only [List.mem_cons, List.not_mem_nil, or_false] at h
      rcases h with rfl | rfl | rfl | rfl
      · exact link
      · exact wd1
      · exact wd2
      · exact wd3
    · exact jAll_code wd4 z h
  · obtain ⟨hpx, hP1, hK1, hD1⟩ := hB
    rw [ht] at hP1
    obtain ⟨hP2, hD2⟩ := va_join hP hD isC isR hC hR hn hdis hk1 hFc hP1 hD1
    exact kx E hpx H1 locs1 ls q9 ce hP2 hD2 hS1 hl hc1 hc2 hc3
  · obtain ⟨hP1, hK1, hD1⟩ := hB
    rw [ht] at hP1
    obtain ⟨hP2, hD2⟩ := va_join hP hD isC isR hC hR hn hdis hk1 hFc hP1 hD1
    exact kk u hw H1 locs1 ls hP2 hD2 hS1 hl
theorem jwx_V_V {post : S → Prop} (C : JC G X rm cc own nL) (Ev : JE sa X) (ct : CXV G sa y bytes maxL (jrm f loc mc ms) (.ref b :: As) w post w1 px mc ms) (wd : jWd y Cn bytes maxL none np) (link : Cond.methodLink own idx y ∈ jAll) (q0 : Nat) (hq : w[q0]? = some (b, .inr (ci, fs))) (hci : vwCl[ci]? = some (Cn, T, N))
    (hAs : As.length = np) (hst : st0 = As.reverse ++ .ref b :: rest) (hrest : (rest.map fun v => v.category).sum ≤ 8) (hrm : f + 1 ≤ rm.frames ∧ 8 + (maxL + 11) + loc ≤ rm.locals) (hk : k + mc ≤ rm.cells ∧ n + ms ≤ rm.slots) (d : decode cc pc = .ok (.invokevirtual idx, 3)) (hL : L.length = nL)
    (kx : ∀ (E : String), px E → JT G X (k + mc) (n + ms) w pc L rest E)
    (kk : ∀ (u : S), post u → JW G X (k + mc) (n + ms) (w1 u) (pc + 3) L rest) : JW G X k n w pc L st0 :=
  jwx_sV_V (wr := []) C Ev ct wd link q0 hq hci (List.range w.length) [] (j_rng w) rfl (j_nd_rng _) rfl (fun _ h => by cases h) hAs hst hrest hrm hk d hL kx kk
theorem jwx_sV_Z {post : Bool → S → Prop} (C : JC G X rm cc own nL) (Ev : JE sa X) (ct : CXZ G sa y bytes maxL (jrm f loc mc ms) (.ref b :: As) w0 post w1 px mc ms) (wd : jWd y Cn bytes maxL (some .boolean) np) (link : Cond.methodLink own idx y ∈ jAll) (q0 : Nat) (hq : w[q0]? = some (b, .inr (ci, fs))) (hci : vwCl[ci]? = some (Cn, T, N))
    (isC isR : List Nat) (hC : isC.map (fun i => w[i]?) = w0.map some) (hR : isR.map (fun i => w[i]?) = wr.map some) (hnC : va_nd isC = true) (hn : va_nd isR = true) (hdis : ∀ i ∈ isR, i ∉ isC)
    (hAs : As.length = np) (hst : st0 = As.reverse ++ .ref b :: rest) (hrest : (rest.map fun v => v.category).sum ≤ 8) (hrm : f + 1 ≤ rm.frames ∧ 8 + (maxL + 11) + loc ≤ rm.locals) (hk : k + mc ≤ rm.cells ∧ n + ms ≤ rm.slots) (d : decode cc pc = .ok (.invokevirtual idx, 3)) (hL : L.length = nL)
    (kx : ∀ (E : String), px E → JT G X (k + mc) (n + ms) (wr ++ w0) pc L rest E)
    (kk : ∀ (r : Bool) (u : S), post r u → JW G X (k + mc) (n + ms) (wr ++ w1 u) (pc + 3) L (.int (jb r) :: rest)) : JW G X k n w pc L st0 := by
  obtain ⟨p, l, e, R, s, m, args, below, meth, c, Q, A⟩ := X
  obtain ⟨hx, hb, hml, hown, hts, hnw, hK, hlk, hA, hR⟩ := C
  obtain ⟨hst9, hEv⟩ := Ev
  subst hR
  intro H locs ls hP hD hS hl
  obtain ⟨wd1, wd2, wd3, wd4, wd5⟩ := wd
  have hPc := hP.sub isC (j_part hC)
  have hDc := j_nd hD hC hnC
  have hFc := va_free hD hS hA isC hC
  refine vx_calli (vx_runV (As := As) (rest := rest) ⟨hx, hb, hml, hown, hts⟩ (ct.2.2 l hst9 H.size) (cwV np hts (jAll_in (fun z hz => ?_)) rfl rfl rfl wd5 hrm) ⟨jPreX_blind, va_recv hK hP hci hq, fun U hU hW => ⟨rfl, ⟨by rw [hU], by rw [hU]; exact hPc, va_K.moved hW.alike hK, fun z hz => jNest_warm hz hW (hnw z hz), hDc⟩, hEv.go hW (by rw [hU]; exact hS.2.1) (fun q h => hFc q h)⟩⟩ rfl hAs (hl.1.trans hL) hst (lv_room hrest) d hk) hS (fun q _ h => hFc q h) hFc (fun q _ h => hFc q h) (fun E ce q9 u t H1 locs1 ht hvm hp hB hz1 hk1 hS1 hc1 hc2 hc3 => ?_) (fun r u t H1 locs1 ht hvm hw hB hz1 hk1 hS1 => ?_)
  · rcases List.mem_append.mp hz with h | h
    · simp only [List.mem_cons, List.not_mem_nil, or_false] at h
      rcases h with rfl | rfl | rfl | rfl
      · exact link
      · exact wd1
      · exact wd2
      · exact wd3
    · exact jAll_code wd4 z h
  · obtain ⟨hpx, hP1, hK1, hD1⟩ := hB
    rw [ht] at hP1
    obtain ⟨hP2, hD2⟩ := va_join hP hD isC isR hC hR hn hdis hk1 hFc hP1 hD1
    exact kx E hpx H1 locs1 ls q9 ce hP2 hD2 hS1 hl hc1 hc2 hc3
  · obtain ⟨hP1, hK1, hD1⟩ := hB
    rw [ht] at hP1
    obtain ⟨z, rfl, hw⟩ := hw
    obtain ⟨hP2, hD2⟩ := va_join hP hD isC isR hC hR hn hdis hk1 hFc hP1 hD1
    exact kk z u hw H1 locs1 ls hP2 hD2 hS1 hl
theorem jwx_V_Z {post : Bool → S → Prop} (C : JC G X rm cc own nL) (Ev : JE sa X) (ct : CXZ G sa y bytes maxL (jrm f loc mc ms) (.ref b :: As) w post w1 px mc ms) (wd : jWd y Cn bytes maxL (some .boolean) np) (link : Cond.methodLink own idx y ∈ jAll) (q0 : Nat) (hq : w[q0]? = some (b, .inr (ci, fs))) (hci : vwCl[ci]? = some (Cn, T, N))
    (hAs : As.length = np) (hst : st0 = As.reverse ++ .ref b :: rest) (hrest : (rest.map fun v => v.category).sum ≤ 8) (hrm : f + 1 ≤ rm.frames ∧ 8 + (maxL + 11) + loc ≤ rm.locals) (hk : k + mc ≤ rm.cells ∧ n + ms ≤ rm.slots) (d : decode cc pc = .ok (.invokevirtual idx, 3)) (hL : L.length = nL)
    (kx : ∀ (E : String), px E → JT G X (k + mc) (n + ms) w pc L rest E)
    (kk : ∀ (r : Bool) (u : S), post r u → JW G X (k + mc) (n + ms) (w1 u) (pc + 3) L (.int (jb r) :: rest)) : JW G X k n w pc L st0 :=
  jwx_sV_Z (wr := []) C Ev ct wd link q0 hq hci (List.range w.length) [] (j_rng w) rfl (j_nd_rng _) rfl (fun _ h => by cases h) hAs hst hrest hrm hk d hL kx kk
/-- a method with handlers: what stays the same -/
def JHt (X : JX) (hh : List (Nat × Nat × Nat × Nat)) : Prop :=
  match X with
  | (_p, _l, _e, _R, _s, _m, _args, _below, _meth, c, _Q, _A) => c.exceptionTable.toList = tableOf hh
theorem jw_catch {E : String} {st : List Value} (C : JC G X rm cc own nL) (Ev : JE sa X) {hh : List (Nat × Nat × Nat × Nat)} (ht : JHt X hh) (pre : List (Nat × Nat × Nat × Nat)) (a1 a2 a3 a4 : Nat) (suf : List (Nat × Nat × Nat × Nat)) (hsp : hh = pre ++ (a1, a2, a3, a4) :: suf)
    (hpass : ∀ z ∈ pre, z.2.2.2 ≠ 0 ∧ ∃ nm : String, Cond.classLink own z.2.2.2 nm ∈ jAll ∧ (E, nm) ∈ jNcs) (hcov : covers ⟨a1, a2, a3, a4⟩ pc = true) (h0 : a4 ≠ 0) (hlink : Cond.classLink own a4 E ∈ jAll) (hcast : Cond.castable E E ∈ jFace)
    (kk : ∀ q : Addr, JW G X k n w a3 L [.ref q]) : JT G X k n w pc L st E := by
  obtain ⟨p, l, e, R, s, m, args, below, meth, c, Q, A⟩ := X
  obtain ⟨hx, hb, hml, hown, hts, hnw, hK, hlk, hA, hR⟩ := C
  obtain ⟨hst9, hEv⟩ := Ev
  intro H locs ls q ce hP hD hS hl hc1 hc2 hc3
  refine vx_catch (own := own) (name := E) hown (tableOf pre) ⟨a1, a2, a3, a4⟩ (tableOf suf) (by
    have h : c.exceptionTable.toList = tableOf hh := ht
    rw [h, hsp]
    simp [tableOf]) (fun z hz => ?_) hcov h0 (hts _ hlink) (va_Nw.use (jFace_on hcast) (hEv.1 _ hcast)) hc1 hc2 hc3 (kk q H locs ls hP hD hS hl)
  obtain ⟨z2, hz2, rfl⟩ := List.mem_map.mp hz
  obtain ⟨g1, nm, g2, g3⟩ := hpass z2 hz2
  exact Or.inr ⟨g1, nm, hts _ g2, hEv.2.2.1 _ g3⟩
/-- a contract of a method with handlers that answers an int -/
def CH (G : jG) (sa : Nat → Nat) (y : MethodName) (cc : ByteArray) (maxL : Nat) (hh : List (Nat × Nat × Nat × Nat)) (rm : Room) (args : List Value) (w0 : va_W) {S : Type} (post : Int32 → S → Prop) (w1 : S → va_W) (mc ms : Nat) : Prop :=
  rm.cells = mc ∧ rm.slots = ms ∧ ∀ (l : Launch), l.stackTraces = false → ∀ (sz : Nat), Met l y (Cond.codeWith y cc maxL (some .int) hh :: jAll) rm (va_Pc args (jPreX G sa sz w0)) (va_Qi post (fun u => jPost G (va_A w0 sz) (w1 u)) (va_A w0 sz)) mc ms (va_A w0 sz)
theorem ch_intro {y : MethodName} {hh : List (Nat × Nat × Nat × Nat)} {args : List Value} {post : Int32 → S → Prop} (L0 : List (Option Value)) (hy : plainName y.cls = true) (hyo : y.cls = own) (hL : jl0 0 L0 = lv_args 0 args) (hLn : L0.length = maxL) (hsl : (lg_sl args).length ≤ maxL)
    (h : ∀ X : JX, JC G X (jrm f loc mc ms) cc own maxL → JE sa X → JHt X hh → (∀ (pc : Nat) (L : List (Option Value)) (r : Int32) (u : S) (k n : Nat), k ≤ mc → n ≤ ms → decode cc pc = .ok (.ireturn, 1) → post r u → JW G X k n (w1 u) pc L [.int r]) → JW G X 0 0 w0 0 L0 []) : CH G sa y cc maxL hh (jrm f loc mc ms) args w0 post w1 mc ms := by
  refine ⟨rfl, rfl, fun l hst sz => ?_⟩
  refine MetFree.of_bodyS (code := cc) (maxLocals := maxL) (ret := (some .int)) hy ?_ ?_
  · intro args s m h hn
    obtain ⟨m9, meth, c, hn9, h1, h2, h3, h4, -, h5, h6, -⟩ := Cond.codeWith_spec (atoms_spec (ws := (Cond.codeWith y cc maxL (some .int) hh :: jAll)) h _ List.mem_cons_self)
    cases hn.symm.trans hn9
    exact ⟨meth, c, h1, h2, h3, h4, h5, h6⟩
  · intro p e s m args1 below meth c s₁ B hml hv _
    obtain ⟨rfl, ⟨hsz, hP, hK, hN, hD0⟩, hE⟩ := hv
    have hh0 : s₁.heap = s.heap := by rw [B.state]; rfl
    have hx := B.exec
    have hb := B.bytes
    have hr := B.returns
    have hts := atoms_spec (ws := (Cond.codeWith y cc maxL (some .int) hh :: jAll)) B.pre
    have hown : s.vm.findClass own = some m.cls := by rw [← hyo]; exact findClass_of_methodNamed B.named
    have hlocks := B.notSynchronized
    have htab := vx_table (x := y) B (hts _ List.mem_cons_self)
    have hml2 : c.maxLocals = maxL := by
      obtain ⟨m9, meth9, c9, hn9, h1, h2, h3, h4, -, h5, h6, -⟩ := Cond.codeWith_spec (hts _ List.mem_cons_self)
      cases Option.some.inj (hn9.symm.trans B.named)
      cases Option.some.inj (h1.symm.trans B.method)
      cases Option.some.inj (h2.symm.trans (Stand.of_body B).code)
      exact h4
    subst hsz
    have hD := hD0.self (sz := s.heap.size)
    have hA : ∀ q : Nat, s.heap.size ≤ q → va_A w0 s.heap.size q := fun q h => Or.inr h
    have hl := lv_entry args (n := maxL) hsl
    have K := h (p, l, e, (jrm f loc mc ms), s, m, args.toArray, below, meth, c, MQ below (va_Qi post (fun u => jPost G (va_A w0 s.heap.size) (w1 u)) (va_A w0 s.heap.size)) args.toArray s mc ms (va_A w0 s.heap.size), va_A w0 s.heap.size) ⟨hx, hb, hml2, hown, fun z hz => hts z (List.mem_cons_of_mem _ hz), hN, hK, hlocks, hA, rfl⟩ ⟨hst, hE⟩ htab ?_
    · have K2 : W p l e (jrm f loc mc ms) s m args.toArray below meth c s.heap [] 0 0 (MQ below (va_Qi post (fun u => jPost G (va_A w0 s.heap.size) (w1 u)) (va_A w0 s.heap.size)) args.toArray s mc ms (va_A w0 s.heap.size)) (entryFrame m args.toArray maxL) := by
        rw [lg_entry_eq]
        generalize (lg_sl args ++ List.replicate (maxL - (lg_sl args).length) Slot.unset).toArray = ls at hl ⊢
        rw [← hL] at hl
        have hl2 : lv_has ls L0.length (jl0 0 L0) := by rw [hLn]; exact hl
        exact K s.heap [] ls hP hD va_S.rf hl2
      obtain ⟨t, a1, o, b1, b2, b3⟩ := K2 s₁ hh0 (Stand.of_body B)
      exact ⟨t, o, a1, b1, b2, ⟨b3.1, b3.2⟩⟩
    · intro pc L r u k n hk hn hd hp H locs ls hP hD hS hl
      refine W.widen hk hn ?_
      exact W.iret hx hb hr (fun t ht hW => ⟨⟨r, u, rfl, hp, by rw [ht]; exact hP, va_K.moved hW.alike hK, hD⟩, hS.F ht⟩) hS.2.2 hd hlocks
/-- calling such a one -/
def jWh (y : MethodName) (bytes : ByteArray) (maxL : Nat) (hh : List (Nat × Nat × Nat × Nat)) (np : Nat) : Prop :=
  Cond.static y ∈ jAll ∧ Cond.initialized y.cls ∈ jAll ∧ Cond.codeWith y bytes maxL (some .int) hh ∈ jAll ∧ (y.cls ≠ "java/lang/invoke/MethodHandle" ∧ y.cls ≠ "java/lang/invoke/VarHandle" ∧ (parseMethodDescriptor y.desc).map (fun d => d.parameters.length) = some np)
theorem jw_sH {post : Int32 → S → Prop} {hh : List (Nat × Nat × Nat × Nat)} (C : JC G X rm cc own nL) (Ev : JE sa X) (ct : CH G sa y bytes maxL hh (jrm f loc mc ms) As w0 post w1 mc ms) (wd : jWh y bytes maxL hh np) (link : Cond.methodLink own idx y ∈ jAll)
    (isC isR : List Nat) (hC : isC.map (fun i => w[i]?) = w0.map some) (hR : isR.map (fun i => w[i]?) = wr.map some) (hnC : va_nd isC = true) (hn : va_nd isR = true) (hdis : ∀ i ∈ isR, i ∉ isC)
    (hAs : As.length = np) (hst : st0 = As.reverse ++ rest) (hrest : (rest.map fun v => v.category).sum ≤ 8) (hrm : f + 1 ≤ rm.frames ∧ 8 + (maxL + 11) + loc ≤ rm.locals) (hk : k + mc ≤ rm.cells ∧ n + ms ≤ rm.slots) (d : decode cc pc = .ok (.invokestatic idx, 3)) (hL : L.length = nL)
    (kk : ∀ (r : Int32) (u : S), post r u → JW G X (k + mc) (n + ms) (wr ++ w1 u) (pc + 3) L (.int r :: rest)) : JW G X k n w pc L st0 := by
  obtain ⟨p, l, e, R, s, m, args, below, meth, c, Q, A⟩ := X
  obtain ⟨hx, hb, hml, hown, hts, hnw, hK, hlk, hA, hR⟩ := C
  obtain ⟨hst9, hEv⟩ := Ev
  subst hR
  intro H locs ls hP hD hS hl
  obtain ⟨wd1, wd2, wd3, wd5⟩ := wd
  have hPc := hP.sub isC (j_part hC)
  have hDc := j_nd hD hC hnC
  have hFc := va_free hD hS hA isC hC
  refine va_calli (vx_runSW (hh := hh) (As := As) (rest := rest) ⟨hx, hb, hml, hown, hts⟩ (ct.2.2 l hst9 H.size) (vx_cwSW np hts (jAll_in (fun z hz => ?_)) rfl rfl rfl wd5 hrm) ⟨jPreX_blind, fun U hU hW => ⟨rfl, ⟨by rw [hU], by rw [hU]; exact hPc, va_K.moved hW.alike hK, fun z hz => jNest_warm hz hW (hnw z hz), hDc⟩, hEv.go hW (by rw [hU]; exact hS.2.1) (fun q h => hFc q h)⟩⟩ rfl hAs (hl.1.trans hL) hst (lv_room hrest) d hk) hS (fun q _ h => hFc q h) hFc (fun r u t H1 locs1 ht hvm hw hB hz1 hk1 hS1 => ?_)
  · rcases List.mem_append.mp hz with h | h
    · simp only [List.mem_cons, List.not_mem_nil, or_false] at h
      rcases h with rfl | rfl | rfl
      · exact link
      · exact wd1
      · exact wd2
    · rcases List.mem_cons.mp h with rfl | h
      · exact wd3
      · exact h
  · obtain ⟨hP1, hK1, hD1⟩ := hB
    rw [ht] at hP1
    obtain ⟨hP2, hD2⟩ := va_join hP hD isC isR hC hR hn hdis hk1 hFc hP1 hD1
    exact kk r u hw H1 locs1 ls hP2 hD2 hS1 hl
end JXCALL
