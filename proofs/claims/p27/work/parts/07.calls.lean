/-! CONTRACTS over JW, and calls -/
def jrm (f loc mc ms : Nat) : Room := { frames := f, cells := mc, slots := ms, locals := loc }
def jPre (G : jG) (sz : Nat) (w : va_W) : State → Prop := fun U => U.heap.size = sz ∧ va_P G.1 vwCl w U.heap ∧ va_K G.1 vwCl (jT G) U ∧ (∀ z ∈ jNest, va_Nw z U) ∧ va_D (fun _ => True) w
def jPost (G : jG) (A : Nat → Prop) (w : va_W) : State → Prop := fun t => va_P G.1 vwCl w t.heap ∧ va_K G.1 vwCl (jT G) t ∧ va_D A w
theorem jPre_blind {G : jG} {sz : Nat} {w : va_W} {av : List Value} : FrameBlind (va_Pc av (jPre G sz w)) := by
  intro a U g mk q
  obtain ⟨q0, q1, qP, qK, qN, qD⟩ := q
  exact ⟨q0, q1, qP, va_K.moved (u := U) (U := U.calling g mk a) (Vm.Alike.refl U.vm) qK, fun z hz => va_Nw.same (jNest_on hz) (u := U) (U := U.calling g mk a) rfl (qN z hz), qD⟩
theorem jAll_in {ws : List Cond} (h : ∀ z ∈ ws, z ∈ jAll) : GoodIn jAll ws := fun z hz => ⟨h z hz, good_of_word (jAll_good z (h z hz))⟩
def jWd (y : MethodName) (Cn : String) (bytes : ByteArray) (maxL : Nat) (ret : Option FieldType) (np : Nat) : Prop :=
  Cond.instanceMethod y ∈ jAll ∧ Cond.selects Cn y y ∈ jAll ∧ Cond.initialized Cn ∈ jAll ∧ Cond.code y bytes maxL ret ∈ jAll ∧ (y.cls = Cn ∧ y.cls ≠ "java/lang/invoke/MethodHandle" ∧ y.cls ≠ "java/lang/invoke/VarHandle" ∧ (parseMethodDescriptor y.desc).map (fun d => d.parameters.length) = some np)
def jWs (y : MethodName) (bytes : ByteArray) (maxL : Nat) (ret : Option FieldType) (np : Nat) : Prop :=
  Cond.static y ∈ jAll ∧ Cond.initialized y.cls ∈ jAll ∧ Cond.code y bytes maxL ret ∈ jAll ∧ (y.cls ≠ "java/lang/invoke/MethodHandle" ∧ y.cls ≠ "java/lang/invoke/VarHandle" ∧ (parseMethodDescriptor y.desc).map (fun d => d.parameters.length) = some np)
def jWi (y : MethodName) (bytes : ByteArray) (maxL : Nat) (np : Nat) : Prop :=
  Cond.instanceMethod y ∈ jAll ∧ Cond.initialized y.cls ∈ jAll ∧ Cond.code y bytes maxL none ∈ jAll ∧ y.name = "<init>" ∧ (y.cls ≠ "java/lang/invoke/MethodHandle" ∧ y.cls ≠ "java/lang/invoke/VarHandle" ∧ (parseMethodDescriptor y.desc).map (fun d => d.parameters.length) = some np)
theorem jAll_code {y : MethodName} {bytes : ByteArray} {maxL : Nat} {ret : Option FieldType} (h : Cond.code y bytes maxL ret ∈ jAll) : ∀ z ∈ (Cond.code y bytes maxL ret :: jAll), z ∈ jAll := fun z hz => (List.mem_cons.mp hz).elim (fun e => e ▸ h) (fun h => h)
theorem j_part {w w0 : va_W} {isC : List Nat} (hC : isC.map (fun i => w[i]?) = w0.map some) : isC.filterMap (fun i => w[i]?) = w0 := by
  have h := congrArg (List.filterMap id) hC
  rw [List.filterMap_map, List.filterMap_map] at h
  simpa using h
theorem j_nd {A : Nat → Prop} {w w0 : va_W} {isC : List Nat} (hD : va_D A w) (hC : isC.map (fun i => w[i]?) = w0.map some) (hn : va_nd isC = true) : va_D (fun _ => True) w0 := (hD.sub isC hn hC).weaken (fun _ _ _ _ => trivial)
theorem j_rng (w : va_W) : (List.range w.length).map (fun i => w[i]?) = w.map some := by
  apply List.ext_getElem?
  intro i
  by_cases h : i < w.length
  · simp [h]
  · simp [h]
theorem j_nd_rng : ∀ (n : Nat), va_nd (List.range n) = true := by
  have key : ∀ l : List Nat, l.Nodup → va_nd l = true := by
    intro l
    induction l with
    | nil => intro _; rfl
    | cons a l ih =>
      intro h
      rw [List.nodup_cons] at h
      simp only [va_nd, Bool.and_eq_true, decide_eq_true_eq]
      exact ⟨h.1, ih h.2⟩
  exact fun n => key _ List.nodup_range
def CI (G : jG) (y : MethodName) (cc : ByteArray) (maxL : Nat) (rm : Room) (args : List Value) (w0 : va_W) {S : Type} (post : Int32 → S → Prop) (w1 : S → va_W) (mc ms : Nat) : Prop :=
  rm.cells = mc ∧ rm.slots = ms ∧ ∀ (l : Launch) (sz : Nat), Met l y (Cond.code y cc maxL (some .int) :: jAll) rm (va_Pc args (jPre G sz w0)) (va_Qi post (fun u => jPost G (va_A w0 sz) (w1 u)) (va_A w0 sz)) mc ms (va_A w0 sz)
theorem ci_intro {G : jG} {y : MethodName} {cc : ByteArray} {maxL f loc mc ms : Nat} {args : List Value} {w0 : va_W} {S : Type} {post : Int32 → S → Prop} {w1 : S → va_W} {own : String} (L0 : List (Option Value)) (hy : plainName y.cls = true) (hyo : y.cls = own) (hL : jl0 0 L0 = lv_args 0 args) (hLn : L0.length = maxL) (hsl : (lg_sl args).length ≤ maxL)
    (h : ∀ X : JX, JC G X (jrm f loc mc ms) cc own maxL → (∀ (pc : Nat) (L : List (Option Value)) (r : Int32) (u : S), decode cc pc = .ok (.ireturn, 1) → post r u → JW G X mc ms (w1 u) pc L [.int r]) → JW G X 0 0 w0 0 L0 []) : CI G y cc maxL (jrm f loc mc ms) args w0 post w1 mc ms := by
  refine ⟨rfl, rfl, fun l sz => ?_⟩
  refine Met.ofW (cc := cc) (maxL := maxL) (ret := (some .int)) hy rfl ?_
  intro p e s m args1 below meth c s₁ B hml hv
  obtain ⟨rfl, hsz, hP, hK, hN, hD0⟩ := hv
  have hx := B.exec
  have hb := B.bytes
  have hr := B.returns
  have hts := atoms_spec (ws := (Cond.code y cc maxL (some .int) :: jAll)) B.pre
  have hown : s.vm.findClass own = some m.cls := by rw [← hyo]; exact findClass_of_methodNamed B.named
  have hlocks := B.notSynchronized
  subst hsz
  have hD := hD0.self (sz := s.heap.size)
  have hA : ∀ q : Nat, s.heap.size ≤ q → va_A w0 s.heap.size q := fun q h => Or.inr h
  have hl := lv_entry args (n := maxL) hsl
  rw [lg_entry_eq]
  generalize (lg_sl args ++ List.replicate (maxL - (lg_sl args).length) Slot.unset).toArray = ls at hl ⊢
  rw [← hL] at hl
  have hl2 : lv_has ls L0.length (jl0 0 L0) := by rw [hLn]; exact hl
  have K := h (p, l, e, (jrm f loc mc ms), s, m, args.toArray, below, meth, c, MQ below (va_Qi post (fun u => jPost G (va_A w0 s.heap.size) (w1 u)) (va_A w0 s.heap.size)) args.toArray s mc ms (va_A w0 s.heap.size), va_A w0 s.heap.size) ⟨hx, hb, hml, hown, fun z hz => hts z (List.mem_cons_of_mem _ hz), hN, hK, hlocks, hA, rfl⟩ ?_
  · exact K s.heap [] ls hP hD va_S.rf hl2
  · intro pc L r u hd hp H locs ls hP hD hS hl
    exact W.iret hx hb hr (fun t ht hW => ⟨⟨r, u, rfl, hp, by rw [ht]; exact hP, va_K.moved hW.alike hK, hD⟩, hS.F ht⟩) hS.2.2 hd hlocks
def CV (G : jG) (y : MethodName) (cc : ByteArray) (maxL : Nat) (rm : Room) (args : List Value) (w0 : va_W) {S : Type} (post : S → Prop) (w1 : S → va_W) (mc ms : Nat) : Prop :=
  rm.cells = mc ∧ rm.slots = ms ∧ ∀ (l : Launch) (sz : Nat), Met l y (Cond.code y cc maxL none :: jAll) rm (va_Pc args (jPre G sz w0)) (va_Qv post (fun u => jPost G (va_A w0 sz) (w1 u)) (va_A w0 sz)) mc ms (va_A w0 sz)
theorem cv_intro {G : jG} {y : MethodName} {cc : ByteArray} {maxL f loc mc ms : Nat} {args : List Value} {w0 : va_W} {S : Type} {post : S → Prop} {w1 : S → va_W} {own : String} (L0 : List (Option Value)) (hy : plainName y.cls = true) (hyo : y.cls = own) (hL : jl0 0 L0 = lv_args 0 args) (hLn : L0.length = maxL) (hsl : (lg_sl args).length ≤ maxL)
    (h : ∀ X : JX, JC G X (jrm f loc mc ms) cc own maxL → (∀ (pc : Nat) (L : List (Option Value)) (u : S), decode cc pc = .ok (.return_, 1) → post u → JW G X mc ms (w1 u) pc L []) → JW G X 0 0 w0 0 L0 []) : CV G y cc maxL (jrm f loc mc ms) args w0 post w1 mc ms := by
  refine ⟨rfl, rfl, fun l sz => ?_⟩
  refine Met.ofW (cc := cc) (maxL := maxL) (ret := none) hy rfl ?_
  intro p e s m args1 below meth c s₁ B hml hv
  obtain ⟨rfl, hsz, hP, hK, hN, hD0⟩ := hv
  have hx := B.exec
  have hb := B.bytes
  have hr := B.returns
  have hts := atoms_spec (ws := (Cond.code y cc maxL none :: jAll)) B.pre
  have hown : s.vm.findClass own = some m.cls := by rw [← hyo]; exact findClass_of_methodNamed B.named
  have hlocks := B.notSynchronized
  subst hsz
  have hD := hD0.self (sz := s.heap.size)
  have hA : ∀ q : Nat, s.heap.size ≤ q → va_A w0 s.heap.size q := fun q h => Or.inr h
  have hl := lv_entry args (n := maxL) hsl
  rw [lg_entry_eq]
  generalize (lg_sl args ++ List.replicate (maxL - (lg_sl args).length) Slot.unset).toArray = ls at hl ⊢
  rw [← hL] at hl
  have hl2 : lv_has ls L0.length (jl0 0 L0) := by rw [hLn]; exact hl
  have K := h (p, l, e, (jrm f loc mc ms), s, m, args.toArray, below, meth, c, MQ below (va_Qv post (fun u => jPost G (va_A w0 s.heap.size) (w1 u)) (va_A w0 s.heap.size)) args.toArray s mc ms (va_A w0 s.heap.size), va_A w0 s.heap.size) ⟨hx, hb, hml, hown, fun z hz => hts z (List.mem_cons_of_mem _ hz), hN, hK, hlocks, hA, rfl⟩ ?_
  · exact K s.heap [] ls hP hD va_S.rf hl2
  · intro pc L u hd hp H locs ls hP hD hS hl
    exact W.vret hx hb hr (fun t ht hW => ⟨⟨u, rfl, hp, by rw [ht]; exact hP, va_K.moved hW.alike hK, hD⟩, hS.F ht⟩) hS.2.2 hd hlocks
def CL (G : jG) (y : MethodName) (cc : ByteArray) (maxL : Nat) (rm : Room) (args : List Value) (w0 : va_W) {S : Type} (post : Int64 → S → Prop) (w1 : S → va_W) (mc ms : Nat) : Prop :=
  rm.cells = mc ∧ rm.slots = ms ∧ ∀ (l : Launch) (sz : Nat), Met l y (Cond.code y cc maxL (some .long) :: jAll) rm (va_Pc args (jPre G sz w0)) (va_Ql post (fun u => jPost G (va_A w0 sz) (w1 u)) (va_A w0 sz)) mc ms (va_A w0 sz)
theorem cl_intro {G : jG} {y : MethodName} {cc : ByteArray} {maxL f loc mc ms : Nat} {args : List Value} {w0 : va_W} {S : Type} {post : Int64 → S → Prop} {w1 : S → va_W} {own : String} (L0 : List (Option Value)) (hy : plainName y.cls = true) (hyo : y.cls = own) (hL : jl0 0 L0 = lv_args 0 args) (hLn : L0.length = maxL) (hsl : (lg_sl args).length ≤ maxL)
    (h : ∀ X : JX, JC G X (jrm f loc mc ms) cc own maxL → (∀ (pc : Nat) (L : List (Option Value)) (r : Int64) (u : S), decode cc pc = .ok (.lreturn, 1) → post r u → JW G X mc ms (w1 u) pc L [.long r]) → JW G X 0 0 w0 0 L0 []) : CL G y cc maxL (jrm f loc mc ms) args w0 post w1 mc ms := by
  refine ⟨rfl, rfl, fun l sz => ?_⟩
  refine Met.ofW (cc := cc) (maxL := maxL) (ret := (some .long)) hy rfl ?_
  intro p e s m args1 below meth c s₁ B hml hv
  obtain ⟨rfl, hsz, hP, hK, hN, hD0⟩ := hv
  have hx := B.exec
  have hb := B.bytes
  have hr := B.returns
  have hts := atoms_spec (ws := (Cond.code y cc maxL (some .long) :: jAll)) B.pre
  have hown : s.vm.findClass own = some m.cls := by rw [← hyo]; exact findClass_of_methodNamed B.named
  have hlocks := B.notSynchronized
  subst hsz
  have hD := hD0.self (sz := s.heap.size)
  have hA : ∀ q : Nat, s.heap.size ≤ q → va_A w0 s.heap.size q := fun q h => Or.inr h
  have hl := lv_entry args (n := maxL) hsl
  rw [lg_entry_eq]
  generalize (lg_sl args ++ List.replicate (maxL - (lg_sl args).length) Slot.unset).toArray = ls at hl ⊢
  rw [← hL] at hl
  have hl2 : lv_has ls L0.length (jl0 0 L0) := by rw [hLn]; exact hl
  have K := h (p, l, e, (jrm f loc mc ms), s, m, args.toArray, below, meth, c, MQ below (va_Ql post (fun u => jPost G (va_A w0 s.heap.size) (w1 u)) (va_A w0 s.heap.size)) args.toArray s mc ms (va_A w0 s.heap.size), va_A w0 s.heap.size) ⟨hx, hb, hml, hown, fun z hz => hts z (List.mem_cons_of_mem _ hz), hN, hK, hlocks, hA, rfl⟩ ?_
  · exact K s.heap [] ls hP hD va_S.rf hl2
  · intro pc L r u hd hp H locs ls hP hD hS hl
    exact W.lret hx hb hr (fun t ht hW => ⟨⟨r, u, rfl, hp, by rw [ht]; exact hP, va_K.moved hW.alike hK, hD⟩, hS.F ht⟩) hS.2.2 hd hlocks
def CD (G : jG) (y : MethodName) (cc : ByteArray) (maxL : Nat) (rm : Room) (args : List Value) (w0 : va_W) {S : Type} (post : UInt64 → S → Prop) (w1 : S → va_W) (mc ms : Nat) : Prop :=
  rm.cells = mc ∧ rm.slots = ms ∧ ∀ (l : Launch) (sz : Nat), Met l y (Cond.code y cc maxL (some .double) :: jAll) rm (va_Pc args (jPre G sz w0)) (va_Qd post (fun u => jPost G (va_A w0 sz) (w1 u)) (va_A w0 sz)) mc ms (va_A w0 sz)
theorem cd_intro {G : jG} {y : MethodName} {cc : ByteArray} {maxL f loc mc ms : Nat} {args : List Value} {w0 : va_W} {S : Type} {post : UInt64 → S → Prop} {w1 : S → va_W} {own : String} (L0 : List (Option Value)) (hy : plainName y.cls = true) (hyo : y.cls = own) (hL : jl0 0 L0 = lv_args 0 args) (hLn : L0.length = maxL) (hsl : (lg_sl args).length ≤ maxL)
    (h : ∀ X : JX, JC G X (jrm f loc mc ms) cc own maxL → (∀ (pc : Nat) (L : List (Option Value)) (r : UInt64) (u : S), decode cc pc = .ok (.dreturn, 1) → post r u → JW G X mc ms (w1 u) pc L [.double r]) → JW G X 0 0 w0 0 L0 []) : CD G y cc maxL (jrm f loc mc ms) args w0 post w1 mc ms := by
  refine ⟨rfl, rfl, fun l sz => ?_⟩
  refine Met.ofW (cc := cc) (maxL := maxL) (ret := (some .double)) hy rfl ?_
  intro p e s m args1 below meth c s₁ B hml hv
  obtain ⟨rfl, hsz, hP, hK, hN, hD0⟩ := hv
  have hx := B.exec
  have hb := B.bytes
  have hr := B.returns
  have hts := atoms_spec (ws := (Cond.code y cc maxL (some .double) :: jAll)) B.pre
  have hown : s.vm.findClass own = some m.cls := by rw [← hyo]; exact findClass_of_methodNamed B.named
  have hlocks := B.notSynchronized
  subst hsz
  have hD := hD0.self (sz := s.heap.size)
  have hA : ∀ q : Nat, s.heap.size ≤ q → va_A w0 s.heap.size q := fun q h => Or.inr h
  have hl := lv_entry args (n := maxL) hsl
  rw [lg_entry_eq]
  generalize (lg_sl args ++ List.replicate (maxL - (lg_sl args).length) Slot.unset).toArray = ls at hl ⊢
  rw [← hL] at hl
  have hl2 : lv_has ls L0.length (jl0 0 L0) := by rw [hLn]; exact hl
  have K := h (p, l, e, (jrm f loc mc ms), s, m, args.toArray, below, meth, c, MQ below (va_Qd post (fun u => jPost G (va_A w0 s.heap.size) (w1 u)) (va_A w0 s.heap.size)) args.toArray s mc ms (va_A w0 s.heap.size), va_A w0 s.heap.size) ⟨hx, hb, hml, hown, fun z hz => hts z (List.mem_cons_of_mem _ hz), hN, hK, hlocks, hA, rfl⟩ ?_
  · exact K s.heap [] ls hP hD va_S.rf hl2
  · intro pc L r u hd hp H locs ls hP hD hS hl
    exact W.dret hx hb hr (fun t ht hW => ⟨⟨r, u, rfl, hp, by rw [ht]; exact hP, va_K.moved hW.alike hK, hD⟩, hS.F ht⟩) hS.2.2 hd hlocks
def CZ (G : jG) (y : MethodName) (cc : ByteArray) (maxL : Nat) (rm : Room) (args : List Value) (w0 : va_W) {S : Type} (post : Bool → S → Prop) (w1 : S → va_W) (mc ms : Nat) : Prop :=
  rm.cells = mc ∧ rm.slots = ms ∧ ∀ (l : Launch) (sz : Nat), Met l y (Cond.code y cc maxL (some .boolean) :: jAll) rm (va_Pc args (jPre G sz w0)) (va_Qi (fun r u => ∃ z : Bool, r = jb z ∧ post z u) (fun u => jPost G (va_A w0 sz) (w1 u)) (va_A w0 sz)) mc ms (va_A w0 sz)
theorem cz_intro {G : jG} {y : MethodName} {cc : ByteArray} {maxL f loc mc ms : Nat} {args : List Value} {w0 : va_W} {S : Type} {post : Bool → S → Prop} {w1 : S → va_W} {own : String} (L0 : List (Option Value)) (hy : plainName y.cls = true) (hyo : y.cls = own) (hL : jl0 0 L0 = lv_args 0 args) (hLn : L0.length = maxL) (hsl : (lg_sl args).length ≤ maxL)
    (h : ∀ X : JX, JC G X (jrm f loc mc ms) cc own maxL → (∀ (pc : Nat) (L : List (Option Value)) (r : Bool) (u : S), decode cc pc = .ok (.ireturn, 1) → post r u → JW G X mc ms (w1 u) pc L [.int (jb r)]) → JW G X 0 0 w0 0 L0 []) : CZ G y cc maxL (jrm f loc mc ms) args w0 post w1 mc ms := by
  refine ⟨rfl, rfl, fun l sz => ?_⟩
  refine Met.ofW (cc := cc) (maxL := maxL) (ret := (some .boolean)) hy rfl ?_
  intro p e s m args1 below meth c s₁ B hml hv
  obtain ⟨rfl, hsz, hP, hK, hN, hD0⟩ := hv
  have hx := B.exec
  have hb := B.bytes
  have hr := B.returns
  have hts := atoms_spec (ws := (Cond.code y cc maxL (some .boolean) :: jAll)) B.pre
  have hown : s.vm.findClass own = some m.cls := by rw [← hyo]; exact findClass_of_methodNamed B.named
  have hlocks := B.notSynchronized
  subst hsz
  have hD := hD0.self (sz := s.heap.size)
  have hA : ∀ q : Nat, s.heap.size ≤ q → va_A w0 s.heap.size q := fun q h => Or.inr h
  have hl := lv_entry args (n := maxL) hsl
  rw [lg_entry_eq]
  generalize (lg_sl args ++ List.replicate (maxL - (lg_sl args).length) Slot.unset).toArray = ls at hl ⊢
  rw [← hL] at hl
  have hl2 : lv_has ls L0.length (jl0 0 L0) := by rw [hLn]; exact hl
  have K := h (p, l, e, (jrm f loc mc ms), s, m, args.toArray, below, meth, c, MQ below (va_Qi (fun r u => ∃ z : Bool, r = jb z ∧ post z u) (fun u => jPost G (va_A w0 s.heap.size) (w1 u)) (va_A w0 s.heap.size)) args.toArray s mc ms (va_A w0 s.heap.size), va_A w0 s.heap.size) ⟨hx, hb, hml, hown, fun z hz => hts z (List.mem_cons_of_mem _ hz), hN, hK, hlocks, hA, rfl⟩ ?_
  · exact K s.heap [] ls hP hD va_S.rf hl2
  · intro pc L r u hd hp H locs ls hP hD hS hl
    exact W.zret (ty := .boolean) hx hb hr (by cases r <;> rfl) (fun t ht hW => ⟨⟨jb r, u, rfl, ⟨r, rfl, hp⟩, by rw [ht]; exact hP, va_K.moved hW.alike hK, hD⟩, hS.F ht⟩) hS.2.2 hd hlocks
section JCALL
variable {G : jG} {X : JX} {k n pc : Nat} {w : va_W} {L : List (Option Value)} {rest st0 : List Value} {rm : Room} {cc : ByteArray} {own : String} {nL : Nat} {y : MethodName} {bytes : ByteArray} {maxL f loc np idx b q0 ci N : Nat} {As : List Value} {w0 wr : va_W} {S : Type} {w1 : S → va_W} {Cn : String} {T : u_T} {fs : List Value}
theorem jw_sV_I {post : Int32 → S → Prop} (C : JC G X rm cc own nL) (ct : CI G y bytes maxL (jrm f loc 0 0) (.ref b :: As) w0 post w1 0 0) (wd : jWd y Cn bytes maxL (some .int) np) (link : Cond.methodLink own idx y ∈ jAll) (q0 : Nat) (hq : w[q0]? = some (b, .inr (ci, fs))) (hci : vwCl[ci]? = some (Cn, T, N))
    (isC isR : List Nat) (hC : isC.map (fun i => w[i]?) = w0.map some) (hR : isR.map (fun i => w[i]?) = wr.map some) (hnC : va_nd isC = true) (hn : va_nd isR = true) (hdis : ∀ i ∈ isR, i ∉ isC)
    (hAs : As.length = np) (hst : st0 = As.reverse ++ .ref b :: rest) (hrest : (rest.map fun v => v.category).sum ≤ 8) (hrm : f + 1 ≤ rm.frames ∧ 8 + (maxL + 11) + loc ≤ rm.locals) (hk : k ≤ rm.cells ∧ n ≤ rm.slots) (d : decode cc pc = .ok (.invokevirtual idx, 3)) (hL : L.length = nL)
    (kk : ∀ (r : Int32) (u : S), post r u → JW G X k n (wr ++ w1 u) (pc + 3) L (.int r :: rest)) : JW G X k n w pc L st0 := by
  obtain ⟨p, l, e, R, s, m, args, below, meth, c, Q, A⟩ := X
  obtain ⟨hx, hb, hml, hown, hts, hnw, hK, hlk, hA, hR⟩ := C
  subst hR
  intro H locs ls hP hD hS hl
  obtain ⟨wd1, wd2, wd3, wd4, wd5⟩ := wd
  have hPc := hP.sub isC (j_part hC)
  have hDc := j_nd hD hC hnC
  have hFc := va_free hD hS hA isC hC
  refine va_calli (va_runV (As := As) (rest := rest) ⟨hx, hb, hml, hown, hts⟩ (ct.2.2 l H.size) (cwV np hts (jAll_in (fun z hz => ?_)) rfl rfl rfl wd5 hrm) ⟨jPre_blind, va_recv hK hP hci hq, fun U hU hW => ⟨rfl, by rw [hU], by rw [hU]; exact hPc, va_K.moved hW.alike hK, fun z hz => jNest_warm hz hW (hnw z hz), hDc⟩⟩ rfl hAs (hl.1.trans hL) hst (lv_room hrest) d hk) hS (fun q _ h => hFc q h) hFc (fun r u t H1 locs1 ht hvm hw hB hz1 hk1 hS1 => ?_)
  · rcases List.mem_append.mp hz with h | h
    · simp only [List.mem_cons, List.not_mem_nil, or_false] at h
      rcases h with rfl | rfl | rfl | rfl
      · exact link
      · exact wd1
      · exact wd2
      · exact wd3
    · exact jAll_code wd4 z h
  · obtain ⟨hP1, hK1, hD1⟩ := hB
    rw [ht] at hP1
    obtain ⟨hP2, hD2⟩ := va_join hP hD isC isR hC hR hn hdis hk1 hFc hP1 hD1
    exact kk r u hw H1 locs1 ls hP2 hD2 hS1 hl
theorem jw_V_I {post : Int32 → S → Prop} (C : JC G X rm cc own nL) (ct : CI G y bytes maxL (jrm f loc 0 0) (.ref b :: As) w post w1 0 0) (wd : jWd y Cn bytes maxL (some .int) np) (link : Cond.methodLink own idx y ∈ jAll) (q0 : Nat) (hq : w[q0]? = some (b, .inr (ci, fs))) (hci : vwCl[ci]? = some (Cn, T, N))
    (hAs : As.length = np) (hst : st0 = As.reverse ++ .ref b :: rest) (hrest : (rest.map fun v => v.category).sum ≤ 8) (hrm : f + 1 ≤ rm.frames ∧ 8 + (maxL + 11) + loc ≤ rm.locals) (hk : k ≤ rm.cells ∧ n ≤ rm.slots) (d : decode cc pc = .ok (.invokevirtual idx, 3)) (hL : L.length = nL)
    (kk : ∀ (r : Int32) (u : S), post r u → JW G X k n (w1 u) (pc + 3) L (.int r :: rest)) : JW G X k n w pc L st0 :=
  jw_sV_I (wr := []) C ct wd link q0 hq hci (List.range w.length) [] (j_rng w) rfl (j_nd_rng _) rfl (fun _ h => by cases h) hAs hst hrest hrm hk d hL kk
theorem jw_sS_I {post : Int32 → S → Prop} (C : JC G X rm cc own nL) (ct : CI G y bytes maxL (jrm f loc 0 0) As w0 post w1 0 0) (wd : jWs y bytes maxL (some .int) np) (link : Cond.methodLink own idx y ∈ jAll)
    (isC isR : List Nat) (hC : isC.map (fun i => w[i]?) = w0.map some) (hR : isR.map (fun i => w[i]?) = wr.map some) (hnC : va_nd isC = true) (hn : va_nd isR = true) (hdis : ∀ i ∈ isR, i ∉ isC)
    (hAs : As.length = np) (hst : st0 = As.reverse ++ rest) (hrest : (rest.map fun v => v.category).sum ≤ 8) (hrm : f + 1 ≤ rm.frames ∧ 8 + (maxL + 11) + loc ≤ rm.locals) (hk : k ≤ rm.cells ∧ n ≤ rm.slots) (d : decode cc pc = .ok (.invokestatic idx, 3)) (hL : L.length = nL)
    (kk : ∀ (r : Int32) (u : S), post r u → JW G X k n (wr ++ w1 u) (pc + 3) L (.int r :: rest)) : JW G X k n w pc L st0 := by
  obtain ⟨p, l, e, R, s, m, args, below, meth, c, Q, A⟩ := X
  obtain ⟨hx, hb, hml, hown, hts, hnw, hK, hlk, hA, hR⟩ := C
  subst hR
  intro H locs ls hP hD hS hl
  obtain ⟨wd1, wd2, wd3, wd5⟩ := wd
  have hPc := hP.sub isC (j_part hC)
  have hDc := j_nd hD hC hnC
  have hFc := va_free hD hS hA isC hC
  refine va_calli (va_runS (As := As) (rest := rest) ⟨hx, hb, hml, hown, hts⟩ (ct.2.2 l H.size) (va_cwS np hts (jAll_in (fun z hz => ?_)) rfl rfl rfl wd5 hrm) ⟨jPre_blind, fun U hU hW => ⟨rfl, by rw [hU], by rw [hU]; exact hPc, va_K.moved hW.alike hK, fun z hz => jNest_warm hz hW (hnw z hz), hDc⟩⟩ rfl hAs (hl.1.trans hL) hst (lv_room hrest) d hk) hS (fun q _ h => hFc q h) hFc (fun r u t H1 locs1 ht hvm hw hB hz1 hk1 hS1 => ?_)
  · rcases List.mem_append.mp hz with h | h
    · simp only [List.mem_cons, List.not_mem_nil, or_false] at h
      rcases h with rfl | rfl | rfl
      · exact link
      · exact wd1
      · exact wd2
    · exact jAll_code wd3 z h
  · obtain ⟨hP1, hK1, hD1⟩ := hB
    rw [ht] at hP1
    obtain ⟨hP2, hD2⟩ := va_join hP hD isC isR hC hR hn hdis hk1 hFc hP1 hD1
    exact kk r u hw H1 locs1 ls hP2 hD2 hS1 hl
theorem jw_S0_I {post : Int32 → S → Prop} (C : JC G X rm cc own nL) (ct : CI G y bytes maxL (jrm f loc 0 0) As [] post (fun _ : S => []) 0 0) (wd : jWs y bytes maxL (some .int) np) (link : Cond.methodLink own idx y ∈ jAll)
    (hAs : As.length = np) (hst : st0 = As.reverse ++ rest) (hrest : (rest.map fun v => v.category).sum ≤ 8) (hrm : f + 1 ≤ rm.frames ∧ 8 + (maxL + 11) + loc ≤ rm.locals) (hk : k ≤ rm.cells ∧ n ≤ rm.slots) (d : decode cc pc = .ok (.invokestatic idx, 3)) (hL : L.length = nL)
    (kk : ∀ (r : Int32) (u : S), post r u → JW G X k n w (pc + 3) L (.int r :: rest)) : JW G X k n w pc L st0 :=
  jw_sS_I (wr := w) C ct wd link [] (List.range w.length) rfl (j_rng w) rfl (j_nd_rng _) (fun _ _ h => by cases h) hAs hst hrest hrm hk d hL (by simpa only [List.append_nil] using kk)
theorem jw_sSN_I {post : Int32 → S → Prop} {host : String} (C : JC G X rm cc own nL) (ct : CI G y bytes maxL (jrm f loc 0 0) As w0 post w1 0 0) (wd : jWs y bytes maxL (some .int) np) (link : Cond.methodLinkNest own idx y host ∈ jNest)
    (isC isR : List Nat) (hC : isC.map (fun i => w[i]?) = w0.map some) (hR : isR.map (fun i => w[i]?) = wr.map some) (hnC : va_nd isC = true) (hn : va_nd isR = true) (hdis : ∀ i ∈ isR, i ∉ isC)
    (hAs : As.length = np) (hst : st0 = As.reverse ++ rest) (hrest : (rest.map fun v => v.category).sum ≤ 8) (hrm : f + 1 ≤ rm.frames ∧ 8 + (maxL + 11) + loc ≤ rm.locals) (hk : k ≤ rm.cells ∧ n ≤ rm.slots) (d : decode cc pc = .ok (.invokestatic idx, 3)) (hL : L.length = nL)
    (kk : ∀ (r : Int32) (u : S), post r u → JW G X k n (wr ++ w1 u) (pc + 3) L (.int r :: rest)) : JW G X k n w pc L st0 := by
  obtain ⟨p, l, e, R, s, m, args, below, meth, c, Q, A⟩ := X
  obtain ⟨hx, hb, hml, hown, hts, hnw, hK, hlk, hA, hR⟩ := C
  subst hR
  intro H locs ls hP hD hS hl
  obtain ⟨wd1, wd2, wd3, wd5⟩ := wd
  have hPc := hP.sub isC (j_part hC)
  have hDc := j_nd hD hC hnC
  have hFc := va_free hD hS hA isC hC
  refine va_calli (va_runSN (As := As) (rest := rest) ⟨hx, hb, hml, hown, hts⟩ (ct.2.2 l H.size) ⟨va_cnB np hts (jAll_in (jAll_code wd3)) rfl rfl rfl (hnw _ link) (hts _ wd2) wd5 hrm, hts _ wd1, trivial⟩ ⟨jPre_blind, fun U hU hW => ⟨rfl, by rw [hU], by rw [hU]; exact hPc, va_K.moved hW.alike hK, fun z hz => jNest_warm hz hW (hnw z hz), hDc⟩⟩ rfl hAs (hl.1.trans hL) hst (lv_room hrest) d hk) hS (fun q _ h => hFc q h) hFc (fun r u t H1 locs1 ht hvm hw hB hz1 hk1 hS1 => ?_)
  · obtain ⟨hP1, hK1, hD1⟩ := hB
    rw [ht] at hP1
    obtain ⟨hP2, hD2⟩ := va_join hP hD isC isR hC hR hn hdis hk1 hFc hP1 hD1
    exact kk r u hw H1 locs1 ls hP2 hD2 hS1 hl
theorem jw_SN0_I {post : Int32 → S → Prop} {host : String} (C : JC G X rm cc own nL) (ct : CI G y bytes maxL (jrm f loc 0 0) As [] post (fun _ : S => []) 0 0) (wd : jWs y bytes maxL (some .int) np) (link : Cond.methodLinkNest own idx y host ∈ jNest)
    (hAs : As.length = np) (hst : st0 = As.reverse ++ rest) (hrest : (rest.map fun v => v.category).sum ≤ 8) (hrm : f + 1 ≤ rm.frames ∧ 8 + (maxL + 11) + loc ≤ rm.locals) (hk : k ≤ rm.cells ∧ n ≤ rm.slots) (d : decode cc pc = .ok (.invokestatic idx, 3)) (hL : L.length = nL)
    (kk : ∀ (r : Int32) (u : S), post r u → JW G X k n w (pc + 3) L (.int r :: rest)) : JW G X k n w pc L st0 :=
  jw_sSN_I (wr := w) C ct wd link [] (List.range w.length) rfl (j_rng w) rfl (j_nd_rng _) (fun _ _ h => by cases h) hAs hst hrest hrm hk d hL (by simpa only [List.append_nil] using kk)
theorem jw_sV_V {post : S → Prop} (C : JC G X rm cc own nL) (ct : CV G y bytes maxL (jrm f loc 0 0) (.ref b :: As) w0 post w1 0 0) (wd : jWd y Cn bytes maxL none np) (link : Cond.methodLink own idx y ∈ jAll) (q0 : Nat) (hq : w[q0]? = some (b, .inr (ci, fs))) (hci : vwCl[ci]? = some (Cn, T, N))
    (isC isR : List Nat) (hC : isC.map (fun i => w[i]?) = w0.map some) (hR : isR.map (fun i => w[i]?) = wr.map some) (hnC : va_nd isC = true) (hn : va_nd isR = true) (hdis : ∀ i ∈ isR, i ∉ isC)
    (hAs : As.length = np) (hst : st0 = As.reverse ++ .ref b :: rest) (hrest : (rest.map fun v => v.category).sum ≤ 8) (hrm : f + 1 ≤ rm.frames ∧ 8 + (maxL + 11) + loc ≤ rm.locals) (hk : k ≤ rm.cells ∧ n ≤ rm.slots) (d : decode cc pc = .ok (.invokevirtual idx, 3)) (hL : L.length = nL)
    (kk : ∀ (u : S), post u → JW G X k n (wr ++ w1 u) (pc + 3) L rest) : JW G X k n w pc L st0 := by
  obtain ⟨p, l, e, R, s, m, args, below, meth, c, Q, A⟩ := X
  obtain ⟨hx, hb, hml, hown, hts, hnw, hK, hlk, hA, hR⟩ := C
  subst hR
  intro H locs ls hP hD hS hl
  obtain ⟨wd1, wd2, wd3, wd4, wd5⟩ := wd
  have hPc := hP.sub isC (j_part hC)
  have hDc := j_nd hD hC hnC
  have hFc := va_free hD hS hA isC hC
  refine va_callv (va_runV (As := As) (rest := rest) ⟨hx, hb, hml, hown, hts⟩ (ct.2.2 l H.size) (cwV np hts (jAll_in (fun z hz => ?_)) rfl rfl rfl wd5 hrm) ⟨jPre_blind, va_recv hK hP hci hq, fun U hU hW => ⟨rfl, by rw [hU], by rw [hU]; exact hPc, va_K.moved hW.alike hK, fun z hz => jNest_warm hz hW (hnw z hz), hDc⟩⟩ rfl hAs (hl.1.trans hL) hst (lv_room hrest) d hk) hS (fun q _ h => hFc q h) hFc (fun u t H1 locs1 ht hvm hw hB hz1 hk1 hS1 => ?_)
  · rcases List.mem_append.mp hz with h | h
    · simp only [List.mem_cons, List.not_mem_nil, or_false] at h
      rcases h with rfl | rfl | rfl | rfl
      · exact link
      · exact wd1
      · exact wd2
      · exact wd3
    · exact jAll_code wd4 z h
  · obtain ⟨hP1, hK1, hD1⟩ := hB
    rw [ht] at hP1
    obtain ⟨hP2, hD2⟩ := va_join hP hD isC isR hC hR hn hdis hk1 hFc hP1 hD1
    exact kk u hw H1 locs1 ls hP2 hD2 hS1 hl
theorem jw_V_V {post : S → Prop} (C : JC G X rm cc own nL) (ct : CV G y bytes maxL (jrm f loc 0 0) (.ref b :: As) w post w1 0 0) (wd : jWd y Cn bytes maxL none np) (link : Cond.methodLink own idx y ∈ jAll) (q0 : Nat) (hq : w[q0]? = some (b, .inr (ci, fs))) (hci : vwCl[ci]? = some (Cn, T, N))
    (hAs : As.length = np) (hst : st0 = As.reverse ++ .ref b :: rest) (hrest : (rest.map fun v => v.category).sum ≤ 8) (hrm : f + 1 ≤ rm.frames ∧ 8 + (maxL + 11) + loc ≤ rm.locals) (hk : k ≤ rm.cells ∧ n ≤ rm.slots) (d : decode cc pc = .ok (.invokevirtual idx, 3)) (hL : L.length = nL)
    (kk : ∀ (u : S), post u → JW G X k n (w1 u) (pc + 3) L rest) : JW G X k n w pc L st0 :=
  jw_sV_V (wr := []) C ct wd link q0 hq hci (List.range w.length) [] (j_rng w) rfl (j_nd_rng _) rfl (fun _ h => by cases h) hAs hst hrest hrm hk d hL kk
theorem jw_sS_V {post : S → Prop} (C : JC G X rm cc own nL) (ct : CV G y bytes maxL (jrm f loc 0 0) As w0 post w1 0 0) (wd : jWs y bytes maxL none np) (link : Cond.methodLink own idx y ∈ jAll)
    (isC isR : List Nat) (hC : isC.map (fun i => w[i]?) = w0.map some) (hR : isR.map (fun i => w[i]?) = wr.map some) (hnC : va_nd isC = true) (hn : va_nd isR = true) (hdis : ∀ i ∈ isR, i ∉ isC)
    (hAs : As.length = np) (hst : st0 = As.reverse ++ rest) (hrest : (rest.map fun v => v.category).sum ≤ 8) (hrm : f + 1 ≤ rm.frames ∧ 8 + (maxL + 11) + loc ≤ rm.locals) (hk : k ≤ rm.cells ∧ n ≤ rm.slots) (d : decode cc pc = .ok (.invokestatic idx, 3)) (hL : L.length = nL)
    (kk : ∀ (u : S), post u → JW G X k n (wr ++ w1 u) (pc + 3) L rest) : JW G X k n w pc L st0 := by
  obtain ⟨p, l, e, R, s, m, args, below, meth, c, Q, A⟩ := X
  obtain ⟨hx, hb, hml, hown, hts, hnw, hK, hlk, hA, hR⟩ := C
  subst hR
  intro H locs ls hP hD hS hl
  obtain ⟨wd1, wd2, wd3, wd5⟩ := wd
  have hPc := hP.sub isC (j_part hC)
  have hDc := j_nd hD hC hnC
  have hFc := va_free hD hS hA isC hC
  refine va_callv (va_runS (As := As) (rest := rest) ⟨hx, hb, hml, hown, hts⟩ (ct.2.2 l H.size) (va_cwS np hts (jAll_in (fun z hz => ?_)) rfl rfl rfl wd5 hrm) ⟨jPre_blind, fun U hU hW => ⟨rfl, by rw [hU], by rw [hU]; exact hPc, va_K.moved hW.alike hK, fun z hz => jNest_warm hz hW (hnw z hz), hDc⟩⟩ rfl hAs (hl.1.trans hL) hst (lv_room hrest) d hk) hS (fun q _ h => hFc q h) hFc (fun u t H1 locs1 ht hvm hw hB hz1 hk1 hS1 => ?_)
  · rcases List.mem_append.mp hz with h | h
    · simp only [List.mem_cons, List.not_mem_nil, or_false] at h
      rcases h with rfl | rfl | rfl
      · exact link
      · exact wd1
      · exact wd2
    · exact jAll_code wd3 z h
  · obtain ⟨hP1, hK1, hD1⟩ := hB
    rw [ht] at hP1
    obtain ⟨hP2, hD2⟩ := va_join hP hD isC isR hC hR hn hdis hk1 hFc hP1 hD1
    exact kk u hw H1 locs1 ls hP2 hD2 hS1 hl
theorem jw_S0_V {post : S → Prop} (C : JC G X rm cc own nL) (ct : CV G y bytes maxL (jrm f loc 0 0) As [] post (fun _ : S => []) 0 0) (wd : jWs y bytes maxL none np) (link : Cond.methodLink own idx y ∈ jAll)
    (hAs : As.length = np) (hst : st0 = As.reverse ++ rest) (hrest : (rest.map fun v => v.category).sum ≤ 8) (hrm : f + 1 ≤ rm.frames ∧ 8 + (maxL + 11) + loc ≤ rm.locals) (hk : k ≤ rm.cells ∧ n ≤ rm.slots) (d : decode cc pc = .ok (.invokestatic idx, 3)) (hL : L.length = nL)
    (kk : ∀ (u : S), post u → JW G X k n w (pc + 3) L rest) : JW G X k n w pc L st0 :=
  jw_sS_V (wr := w) C ct wd link [] (List.range w.length) rfl (j_rng w) rfl (j_nd_rng _) (fun _ _ h => by cases h) hAs hst hrest hrm hk d hL (by simpa only [List.append_nil] using kk)
theorem jw_sSN_V {post : S → Prop} {host : String} (C : JC G X rm cc own nL) (ct : CV G y bytes maxL (jrm f loc 0 0) As w0 post w1 0 0) (wd : jWs y bytes maxL none np) (link : Cond.methodLinkNest own idx y host ∈ jNest)
    (isC isR : List Nat) (hC : isC.map (fun i => w[i]?) = w0.map some) (hR : isR.map (fun i => w[i]?) = wr.map some) (hnC : va_nd isC = true) (hn : va_nd isR = true) (hdis : ∀ i ∈ isR, i ∉ isC)
    (hAs : As.length = np) (hst : st0 = As.reverse ++ rest) (hrest : (rest.map fun v => v.category).sum ≤ 8) (hrm : f + 1 ≤ rm.frames ∧ 8 + (maxL + 11) + loc ≤ rm.locals) (hk : k ≤ rm.cells ∧ n ≤ rm.slots) (d : decode cc pc = .ok (.invokestatic idx, 3)) (hL : L.length = nL)
    (kk : ∀ (u : S), post u → JW G X k n (wr ++ w1 u) (pc + 3) L rest) : JW G X k n w pc L st0 := by
  obtain ⟨p, l, e, R, s, m, args, below, meth, c, Q, A⟩ := X
  obtain ⟨hx, hb, hml, hown, hts, hnw, hK, hlk, hA, hR⟩ := C
  subst hR
  intro H locs ls hP hD hS hl
  obtain ⟨wd1, wd2, wd3, wd5⟩ := wd
  have hPc := hP.sub isC (j_part hC)
  have hDc := j_nd hD hC hnC
  have hFc := va_free hD hS hA isC hC
  refine va_callv (va_runSN (As := As) (rest := rest) ⟨hx, hb, hml, hown, hts⟩ (ct.2.2 l H.size) ⟨va_cnB np hts (jAll_in (jAll_code wd3)) rfl rfl rfl (hnw _ link) (hts _ wd2) wd5 hrm, hts _ wd1, trivial⟩ ⟨jPre_blind, fun U hU hW => ⟨rfl, by rw [hU], by rw [hU]; exact hPc, va_K.moved hW.alike hK, fun z hz => jNest_warm hz hW (hnw z hz), hDc⟩⟩ rfl hAs (hl.1.trans hL) hst (lv_room hrest) d hk) hS (fun q _ h => hFc q h) hFc (fun u t H1 locs1 ht hvm hw hB hz1 hk1 hS1 => ?_)
  · obtain ⟨hP1, hK1, hD1⟩ := hB
    rw [ht] at hP1
    obtain ⟨hP2, hD2⟩ := va_join hP hD isC isR hC hR hn hdis hk1 hFc hP1 hD1
    exact kk u hw H1 locs1 ls hP2 hD2 hS1 hl
theorem jw_SN0_V {post : S → Prop} {host : String} (C : JC G X rm cc own nL) (ct : CV G y bytes maxL (jrm f loc 0 0) As [] post (fun _ : S => []) 0 0) (wd : jWs y bytes maxL none np) (link : Cond.methodLinkNest own idx y host ∈ jNest)
    (hAs : As.length = np) (hst : st0 = As.reverse ++ rest) (hrest : (rest.map fun v => v.category).sum ≤ 8) (hrm : f + 1 ≤ rm.frames ∧ 8 + (maxL + 11) + loc ≤ rm.locals) (hk : k ≤ rm.cells ∧ n ≤ rm.slots) (d : decode cc pc = .ok (.invokestatic idx, 3)) (hL : L.length = nL)
    (kk : ∀ (u : S), post u → JW G X k n w (pc + 3) L rest) : JW G X k n w pc L st0 :=
  jw_sSN_V (wr := w) C ct wd link [] (List.range w.length) rfl (j_rng w) rfl (j_nd_rng _) (fun _ _ h => by cases h) hAs hst hrest hrm hk d hL (by simpa only [List.append_nil] using kk)
theorem jw_sV_L {post : Int64 → S → Prop} (C : JC G X rm cc own nL) (ct : CL G y bytes maxL (jrm f loc 0 0) (.ref b :: As) w0 post w1 0 0) (wd : jWd y Cn bytes maxL (some .long) np) (link : Cond.methodLink own idx y ∈ jAll) (q0 : Nat) (hq : w[q0]? = some (b, .inr (ci, fs))) (hci : vwCl[ci]? = some (Cn, T, N))
    (isC isR : List Nat) (hC : isC.map (fun i => w[i]?) = w0.map some) (hR : isR.map (fun i => w[i]?) = wr.map some) (hnC : va_nd isC = true) (hn : va_nd isR = true) (hdis : ∀ i ∈ isR, i ∉ isC)
    (hAs : As.length = np) (hst : st0 = As.reverse ++ .ref b :: rest) (hrest : (rest.map fun v => v.category).sum ≤ 8) (hrm : f + 1 ≤ rm.frames ∧ 8 + (maxL + 11) + loc ≤ rm.locals) (hk : k ≤ rm.cells ∧ n ≤ rm.slots) (d : decode cc pc = .ok (.invokevirtual idx, 3)) (hL : L.length = nL)
    (kk : ∀ (r : Int64) (u : S), post r u → JW G X k n (wr ++ w1 u) (pc + 3) L (.long r :: rest)) : JW G X k n w pc L st0 := by
  obtain ⟨p, l, e, R, s, m, args, below, meth, c, Q, A⟩ := X
  obtain ⟨hx, hb, hml, hown, hts, hnw, hK, hlk, hA, hR⟩ := C
  subst hR
  intro H locs ls hP hD hS hl
  obtain ⟨wd1, wd2, wd3, wd4, wd5⟩ := wd
  have hPc := hP.sub isC (j_part hC)
  have hDc := j_nd hD hC hnC
  have hFc := va_free hD hS hA isC hC
  refine va_calll (va_runV (As := As) (rest := rest) ⟨hx, hb, hml, hown, hts⟩ (ct.2.2 l H.size) (cwV np hts (jAll_in (fun z hz => ?_)) rfl rfl rfl wd5 hrm) ⟨jPre_blind, va_recv hK hP hci hq, fun U hU hW => ⟨rfl, by rw [hU], by rw [hU]; exact hPc, va_K.moved hW.alike hK, fun z hz => jNest_warm hz hW (hnw z hz), hDc⟩⟩ rfl hAs (hl.1.trans hL) hst (lv_room hrest) d hk) hS (fun q _ h => hFc q h) hFc (fun r u t H1 locs1 ht hvm hw hB hz1 hk1 hS1 => ?_)
  · rcases List.mem_append.mp hz with h | h
    · simp only [List.mem_cons, List.not_mem_nil, or_false] at h
      rcases h with rfl | rfl | rfl | rfl
      · exact link
      · exact wd1
      · exact wd2
      · exact wd3
    · exact jAll_code wd4 z h
  · obtain ⟨hP1, hK1, hD1⟩ := hB
    rw [ht] at hP1
    obtain ⟨hP2, hD2⟩ := va_join hP hD isC isR hC hR hn hdis hk1 hFc hP1 hD1
    exact kk r u hw H1 locs1 ls hP2 hD2 hS1 hl
theorem jw_V_L {post : Int64 → S → Prop} (C : JC G X rm cc own nL) (ct : CL G y bytes maxL (jrm f loc 0 0) (.ref b :: As) w post w1 0 0) (wd : jWd y Cn bytes maxL (some .long) np) (link : Cond.methodLink own idx y ∈ jAll) (q0 : Nat) (hq : w[q0]? = some (b, .inr (ci, fs))) (hci : vwCl[ci]? = some (Cn, T, N))
    (hAs : As.length = np) (hst : st0 = As.reverse ++ .ref b :: rest) (hrest : (rest.map fun v => v.category).sum ≤ 8) (hrm : f + 1 ≤ rm.frames ∧ 8 + (maxL + 11) + loc ≤ rm.locals) (hk : k ≤ rm.cells ∧ n ≤ rm.slots) (d : decode cc pc = .ok (.invokevirtual idx, 3)) (hL : L.length = nL)
    (kk : ∀ (r : Int64) (u : S), post r u → JW G X k n (w1 u) (pc + 3) L (.long r :: rest)) : JW G X k n w pc L st0 :=
  jw_sV_L (wr := []) C ct wd link q0 hq hci (List.range w.length) [] (j_rng w) rfl (j_nd_rng _) rfl (fun _ h => by cases h) hAs hst hrest hrm hk d hL kk
theorem jw_sS_L {post : Int64 → S → Prop} (C : JC G X rm cc own nL) (ct : CL G y bytes maxL (jrm f loc 0 0) As w0 post w1 0 0) (wd : jWs y bytes maxL (some .long) np) (link : Cond.methodLink own idx y ∈ jAll)
    (isC isR : List Nat) (hC : isC.map (fun i => w[i]?) = w0.map some) (hR : isR.map (fun i => w[i]?) = wr.map some) (hnC : va_nd isC = true) (hn : va_nd isR = true) (hdis : ∀ i ∈ isR, i ∉ isC)
    (hAs : As.length = np) (hst : st0 = As.reverse ++ rest) (hrest : (rest.map fun v => v.category).sum ≤ 8) (hrm : f + 1 ≤ rm.frames ∧ 8 + (maxL + 11) + loc ≤ rm.locals) (hk : k ≤ rm.cells ∧ n ≤ rm.slots) (d : decode cc pc = .ok (.invokestatic idx, 3)) (hL : L.length = nL)
    (kk : ∀ (r : Int64) (u : S), post r u → JW G X k n (wr ++ w1 u) (pc + 3) L (.long r :: rest)) : JW G X k n w pc L st0 := by
  obtain ⟨p, l, e, R, s, m, args, below, meth, c, Q, A⟩ := X
  obtain ⟨hx, hb, hml, hown, hts, hnw, hK, hlk, hA, hR⟩ := C
  subst hR
  intro H locs ls hP hD hS hl
  obtain ⟨wd1, wd2, wd3, wd5⟩ := wd
  have hPc := hP.sub isC (j_part hC)
  have hDc := j_nd hD hC hnC
  have hFc := va_free hD hS hA isC hC
  refine va_calll (va_runS (As := As) (rest := rest) ⟨hx, hb, hml, hown, hts⟩ (ct.2.2 l H.size) (va_cwS np hts (jAll_in (fun z hz => ?_)) rfl rfl rfl wd5 hrm) ⟨jPre_blind, fun U hU hW => ⟨rfl, by rw [hU], by rw [hU]; exact hPc, va_K.moved hW.alike hK, fun z hz => jNest_warm hz hW (hnw z hz), hDc⟩⟩ rfl hAs (hl.1.trans hL) hst (lv_room hrest) d hk) hS (fun q _ h => hFc q h) hFc (fun r u t H1 locs1 ht hvm hw hB hz1 hk1 hS1 => ?_)
  · rcases List.mem_append.mp hz with h | h
    · simp only [List.mem_cons, List.not_mem_nil, or_false] at h
      rcases h with rfl | rfl | rfl
      · exact link
      · exact wd1
      · exact wd2
    · exact jAll_code wd3 z h
  · obtain ⟨hP1, hK1, hD1⟩ := hB
    rw [ht] at hP1
    obtain ⟨hP2, hD2⟩ := va_join hP hD isC isR hC hR hn hdis hk1 hFc hP1 hD1
    exact kk r u hw H1 locs1 ls hP2 hD2 hS1 hl
theorem jw_S0_L {post : Int64 → S → Prop} (C : JC G X rm cc own nL) (ct : CL G y bytes maxL (jrm f loc 0 0) As [] post (fun _ : S => []) 0 0) (wd : jWs y bytes maxL (some .long) np) (link : Cond.methodLink own idx y ∈ jAll)
    (hAs : As.length = np) (hst : st0 = As.reverse ++ rest) (hrest : (rest.map fun v => v.category).sum ≤ 8) (hrm : f + 1 ≤ rm.frames ∧ 8 + (maxL + 11) + loc ≤ rm.locals) (hk : k ≤ rm.cells ∧ n ≤ rm.slots) (d : decode cc pc = .ok (.invokestatic idx, 3)) (hL : L.length = nL)
    (kk : ∀ (r : Int64) (u : S), post r u → JW G X k n w (pc + 3) L (.long r :: rest)) : JW G X k n w pc L st0 :=
  jw_sS_L (wr := w) C ct wd link [] (List.range w.length) rfl (j_rng w) rfl (j_nd_rng _) (fun _ _ h => by cases h) hAs hst hrest hrm hk d hL (by simpa only [List.append_nil] using kk)
theorem jw_sSN_L {post : Int64 → S → Prop} {host : String} (C : JC G X rm cc own nL) (ct : CL G y bytes maxL (jrm f loc 0 0) As w0 post w1 0 0) (wd : jWs y bytes maxL (some .long) np) (link : Cond.methodLinkNest own idx y host ∈ jNest)
    (isC isR : List Nat) (hC : isC.map (fun i => w[i]?) = w0.map some) (hR : isR.map (fun i => w[i]?) = wr.map some) (hnC : va_nd isC = true) (hn : va_nd isR = true) (hdis : ∀ i ∈ isR, i ∉ isC)
    (hAs : As.length = np) (hst : st0 = As.reverse ++ rest) (hrest : (rest.map fun v => v.category).sum ≤ 8) (hrm : f + 1 ≤ rm.frames ∧ 8 + (maxL + 11) + loc ≤ rm.locals) (hk : k ≤ rm.cells ∧ n ≤ rm.slots) (d : decode cc pc = .ok (.invokestatic idx, 3)) (hL : L.length = nL)
    (kk : ∀ (r : Int64) (u : S), post r u → JW G X k n (wr ++ w1 u) (pc + 3) L (.long r :: rest)) : JW G X k n w pc L st0 := by
  obtain ⟨p, l, e, R, s, m, args, below, meth, c, Q, A⟩ := X
  obtain ⟨hx, hb, hml, hown, hts, hnw, hK, hlk, hA, hR⟩ := C
  subst hR
  intro H locs ls hP hD hS hl
  obtain ⟨wd1, wd2, wd3, wd5⟩ := wd
  have hPc := hP.sub isC (j_part hC)
  have hDc := j_nd hD hC hnC
  have hFc := va_free hD hS hA isC hC
  refine va_calll (va_runSN (As := As) (rest := rest) ⟨hx, hb, hml, hown, hts⟩ (ct.2.2 l H.size) ⟨va_cnB np hts (jAll_in (jAll_code wd3)) rfl rfl rfl (hnw _ link) (hts _ wd2) wd5 hrm, hts _ wd1, trivial⟩ ⟨jPre_blind, fun U hU hW => ⟨rfl, by rw [hU], by rw [hU]; exact hPc, va_K.moved hW.alike hK, fun z hz => jNest_warm hz hW (hnw z hz), hDc⟩⟩ rfl hAs (hl.1.trans hL) hst (lv_room hrest) d hk) hS (fun q _ h => hFc q h) hFc (fun r u t H1 locs1 ht hvm hw hB hz1 hk1 hS1 => ?_)
  · obtain ⟨hP1, hK1, hD1⟩ := hB
    rw [ht] at hP1
    obtain ⟨hP2, hD2⟩ := va_join hP hD isC isR hC hR hn hdis hk1 hFc hP1 hD1
    exact kk r u hw H1 locs1 ls hP2 hD2 hS1 hl
theorem jw_SN0_L {post : Int64 → S → Prop} {host : String} (C : JC G X rm cc own nL) (ct : CL G y bytes maxL (jrm f loc 0 0) As [] post (fun _ : S => []) 0 0) (wd : jWs y bytes maxL (some .long) np) (link : Cond.methodLinkNest own idx y host ∈ jNest)
    (hAs : As.length = np) (hst : st0 = As.reverse ++ rest) (hrest : (rest.map fun v => v.category).sum ≤ 8) (hrm : f + 1 ≤ rm.frames ∧ 8 + (maxL + 11) + loc ≤ rm.locals) (hk : k ≤ rm.cells ∧ n ≤ rm.slots) (d : decode cc pc = .ok (.invokestatic idx, 3)) (hL : L.length = nL)
    (kk : ∀ (r : Int64) (u : S), post r u → JW G X k n w (pc + 3) L (.long r :: rest)) : JW G X k n w pc L st0 :=
  jw_sSN_L (wr := w) C ct wd link [] (List.range w.length) rfl (j_rng w) rfl (j_nd_rng _) (fun _ _ h => by cases h) hAs hst hrest hrm hk d hL (by simpa only [List.append_nil] using kk)
theorem jw_sV_D {post : UInt64 → S → Prop} (C : JC G X rm cc own nL) (ct : CD G y bytes maxL (jrm f loc 0 0) (.ref b :: As) w0 post w1 0 0) (wd : jWd y Cn bytes maxL (some .double) np) (link : Cond.methodLink own idx y ∈ jAll) (q0 : Nat) (hq : w[q0]? = some (b, .inr (ci, fs))) (hci : vwCl[ci]? = some (Cn, T, N))
    (isC isR : List Nat) (hC : isC.map (fun i => w[i]?) = w0.map some) (hR : isR.map (fun i => w[i]?) = wr.map some) (hnC : va_nd isC = true) (hn : va_nd isR = true) (hdis : ∀ i ∈ isR, i ∉ isC)
    (hAs : As.length = np) (hst : st0 = As.reverse ++ .ref b :: rest) (hrest : (rest.map fun v => v.category).sum ≤ 8) (hrm : f + 1 ≤ rm.frames ∧ 8 + (maxL + 11) + loc ≤ rm.locals) (hk : k ≤ rm.cells ∧ n ≤ rm.slots) (d : decode cc pc = .ok (.invokevirtual idx, 3)) (hL : L.length = nL)
    (kk : ∀ (r : UInt64) (u : S), post r u → JW G X k n (wr ++ w1 u) (pc + 3) L (.double r :: rest)) : JW G X k n w pc L st0 := by
  obtain ⟨p, l, e, R, s, m, args, below, meth, c, Q, A⟩ := X
  obtain ⟨hx, hb, hml, hown, hts, hnw, hK, hlk, hA, hR⟩ := C
  subst hR
  intro H locs ls hP hD hS hl
  obtain ⟨wd1, wd2, wd3, wd4, wd5⟩ := wd
  have hPc := hP.sub isC (j_part hC)
  have hDc := j_nd hD hC hnC
  have hFc := va_free hD hS hA isC hC
  refine va_calld (va_runV (As := As) (rest := rest) ⟨hx, hb, hml, hown, hts⟩ (ct.2.2 l H.size) (cwV np hts (jAll_in (fun z hz => ?_)) rfl rfl rfl wd5 hrm) ⟨jPre_blind, va_recv hK hP hci hq, fun U hU hW => ⟨rfl, by rw [hU], by rw [hU]; exact hPc, va_K.moved hW.alike hK, fun z hz => jNest_warm hz hW (hnw z hz), hDc⟩⟩ rfl hAs (hl.1.trans hL) hst (lv_room hrest) d hk) hS (fun q _ h => hFc q h) hFc (fun r u t H1 locs1 ht hvm hw hB hz1 hk1 hS1 => ?_)
  · rcases List.mem_append.mp hz with h | h
    · simp only [List.mem_cons, List.not_mem_nil, or_false] at h
      rcases h with rfl | rfl | rfl | rfl
      · exact link
      · exact wd1
      · exact wd2
      · exact wd3
    · exact jAll_code wd4 z h
  · obtain ⟨hP1, hK1, hD1⟩ := hB
    rw [ht] at hP1
    obtain ⟨hP2, hD2⟩ := va_join hP hD isC isR hC hR hn hdis hk1 hFc hP1 hD1
    exact kk r u hw H1 locs1 ls hP2 hD2 hS1 hl
theorem jw_V_D {post : UInt64 → S → Prop} (C : JC G X rm cc own nL) (ct : CD G y bytes maxL (jrm f loc 0 0) (.ref b :: As) w post w1 0 0) (wd : jWd y Cn bytes maxL (some .double) np) (link : Cond.methodLink own idx y ∈ jAll) (q0 : Nat) (hq : w[q0]? = some (b, .inr (ci, fs))) (hci : vwCl[ci]? = some (Cn, T, N))
    (hAs : As.length = np) (hst : st0 = As.reverse ++ .ref b :: rest) (hrest : (rest.map fun v => v.category).sum ≤ 8) (hrm : f + 1 ≤ rm.frames ∧ 8 + (maxL + 11) + loc ≤ rm.locals) (hk : k ≤ rm.cells ∧ n ≤ rm.slots) (d : decode cc pc = .ok (.invokevirtual idx, 3)) (hL : L.length = nL)
    (kk : ∀ (r : UInt64) (u : S), post r u → JW G X k n (w1 u) (pc + 3) L (.double r :: rest)) : JW G X k n w pc L st0 :=
  jw_sV_D (wr := []) C ct wd link q0 hq hci (List.range w.length) [] (j_rng w) rfl (j_nd_rng _) rfl (fun _ h => by cases h) hAs hst hrest hrm hk d hL kk
theorem jw_sS_D {post : UInt64 → S → Prop} (C : JC G X rm cc own nL) (ct : CD G y bytes maxL (jrm f loc 0 0) As w0 post w1 0 0) (wd : jWs y bytes maxL (some .double) np) (link : Cond.methodLink own idx y ∈ jAll)
    (isC isR : List Nat) (hC : isC.map (fun i => w[i]?) = w0.map some) (hR : isR.map (fun i => w[i]?) = wr.map some) (hnC : va_nd isC = true) (hn : va_nd isR = true) (hdis : ∀ i ∈ isR, i ∉ isC)
    (hAs : As.length = np) (hst : st0 = As.reverse ++ rest) (hrest : (rest.map fun v => v.category).sum ≤ 8) (hrm : f + 1 ≤ rm.frames ∧ 8 + (maxL + 11) + loc ≤ rm.locals) (hk : k ≤ rm.cells ∧ n ≤ rm.slots) (d : decode cc pc = .ok (.invokestatic idx, 3)) (hL : L.length = nL)
    (kk : ∀ (r : UInt64) (u : S), post r u → JW G X k n (wr ++ w1 u) (pc + 3) L (.double r :: rest)) : JW G X k n w pc L st0 := by
  obtain ⟨p, l, e, R, s, m, args, below, meth, c, Q, A⟩ := X
  obtain ⟨hx, hb, hml, hown, hts, hnw, hK, hlk, hA, hR⟩ := C
  subst hR
  intro H locs ls hP hD hS hl
  obtain ⟨wd1, wd2, wd3, wd5⟩ := wd
  have hPc := hP.sub isC (j_part hC)
  have hDc := j_nd hD hC hnC
  have hFc := va_free hD hS hA isC hC
  refine va_calld (va_runS (As := As) (rest := rest) ⟨hx, hb, hml, hown, hts⟩ (ct.2.2 l H.size) (va_cwS np hts (jAll_in (fun z hz => ?_)) rfl rfl rfl wd5 hrm) ⟨jPre_blind, fun U hU hW => ⟨rfl, by rw [hU], by rw [hU]; exact hPc, va_K.moved hW.alike hK, fun z hz => jNest_warm hz hW (hnw z hz), hDc⟩⟩ rfl hAs (hl.1.trans hL) hst (lv_room hrest) d hk) hS (fun q _ h => hFc q h) hFc (fun r u t H1 locs1 ht hvm hw hB hz1 hk1 hS1 => ?_)
  · rcases List.mem_append.mp hz with h | h
    · simp only [List.mem_cons, List.not_mem_nil, or_false] at h
      rcases h with rfl | rfl | rfl
      · exact link
      · exact wd1
      · exact wd2
    · exact jAll_code wd3 z h
  · obtain ⟨hP1, hK1, hD1⟩ := hB
    rw [ht] at hP1
    obtain ⟨hP2, hD2⟩ := va_join hP hD isC isR hC hR hn hdis hk1 hFc hP1 hD1
    exact kk r u hw H1 locs1 ls hP2 hD2 hS1 hl
theorem jw_S0_D {post : UInt64 → S → Prop} (C : JC G X rm cc own nL) (ct : CD G y bytes maxL (jrm f loc 0 0) As [] post (fun _ : S => []) 0 0) (wd : jWs y bytes maxL (some .double) np) (link : Cond.methodLink own idx y ∈ jAll)
    (hAs : As.length = np) (hst : st0 = As.reverse ++ rest) (hrest : (rest.map fun v => v.category).sum ≤ 8) (hrm : f + 1 ≤ rm.frames ∧ 8 + (maxL + 11) + loc ≤ rm.locals) (hk : k ≤ rm.cells ∧ n ≤ rm.slots) (d : decode cc pc = .ok (.invokestatic idx, 3)) (hL : L.length = nL)
    (kk : ∀ (r : UInt64) (u : S), post r u → JW G X k n w (pc + 3) L (.double r :: rest)) : JW G X k n w pc L st0 :=
  jw_sS_D (wr := w) C ct wd link [] (List.range w.length) rfl (j_rng w) rfl (j_nd_rng _) (fun _ _ h => by cases h) hAs hst hrest hrm hk d hL (by simpa only [List.append_nil] using kk)
theorem jw_sSN_D {post : UInt64 → S → Prop} {host : String} (C : JC G X rm cc own nL) (ct : CD G y bytes maxL (jrm f loc 0 0) As w0 post w1 0 0) (wd : jWs y bytes maxL (some .double) np) (link : Cond.methodLinkNest own idx y host ∈ jNest)
    (isC isR : List Nat) (hC : isC.map (fun i => w[i]?) = w0.map some) (hR : isR.map (fun i => w[i]?) = wr.map some) (hnC : va_nd isC = true) (hn : va_nd isR = true) (hdis : ∀ i ∈ isR, i ∉ isC)
    (hAs : As.length = np) (hst : st0 = As.reverse ++ rest) (hrest : (rest.map fun v => v.category).sum ≤ 8) (hrm : f + 1 ≤ rm.frames ∧ 8 + (maxL + 11) + loc ≤ rm.locals) (hk : k ≤ rm.cells ∧ n ≤ rm.slots) (d : decode cc pc = .ok (.invokestatic idx, 3)) (hL : L.length = nL)
    (kk : ∀ (r : UInt64) (u : S), post r u → JW G X k n (wr ++ w1 u) (pc + 3) L (.double r :: rest)) : JW G X k n w pc L st0 := by
  obtain ⟨p, l, e, R, s, m, args, below, meth, c, Q, A⟩ := X
  obtain ⟨hx, hb, hml, hown, hts, hnw, hK, hlk, hA, hR⟩ := C
  subst hR
  intro H locs ls hP hD hS hl
  obtain ⟨wd1, wd2, wd3, wd5⟩ := wd
  have hPc := hP.sub isC (j_part hC)
  have hDc := j_nd hD hC hnC
  have hFc := va_free hD hS hA isC hC
  refine va_calld (va_runSN (As := As) (rest := rest) ⟨hx, hb, hml, hown, hts⟩ (ct.2.2 l H.size) ⟨va_cnB np hts (jAll_in (jAll_code wd3)) rfl rfl rfl (hnw _ link) (hts _ wd2) wd5 hrm, hts _ wd1, trivial⟩ ⟨jPre_blind, fun U hU hW => ⟨rfl, by rw [hU], by rw [hU]; exact hPc, va_K.moved hW.alike hK, fun z hz => jNest_warm hz hW (hnw z hz), hDc⟩⟩ rfl hAs (hl.1.trans hL) hst (lv_room hrest) d hk) hS (fun q _ h => hFc q h) hFc (fun r u t H1 locs1 ht hvm hw hB hz1 hk1 hS1 => ?_)
  · obtain ⟨hP1, hK1, hD1⟩ := hB
    rw [ht] at hP1
    obtain ⟨hP2, hD2⟩ := va_join hP hD isC isR hC hR hn hdis hk1 hFc hP1 hD1
    exact kk r u hw H1 locs1 ls hP2 hD2 hS1 hl
theorem jw_SN0_D {post : UInt64 → S → Prop} {host : String} (C : JC G X rm cc own nL) (ct : CD G y bytes maxL (jrm f loc 0 0) As [] post (fun _ : S => []) 0 0) (wd : jWs y bytes maxL (some .double) np) (link : Cond.methodLinkNest own idx y host ∈ jNest)
    (hAs : As.length = np) (hst : st0 = As.reverse ++ rest) (hrest : (rest.map fun v => v.category).sum ≤ 8) (hrm : f + 1 ≤ rm.frames ∧ 8 + (maxL + 11) + loc ≤ rm.locals) (hk : k ≤ rm.cells ∧ n ≤ rm.slots) (d : decode cc pc = .ok (.invokestatic idx, 3)) (hL : L.length = nL)
    (kk : ∀ (r : UInt64) (u : S), post r u → JW G X k n w (pc + 3) L (.double r :: rest)) : JW G X k n w pc L st0 :=
  jw_sSN_D (wr := w) C ct wd link [] (List.range w.length) rfl (j_rng w) rfl (j_nd_rng _) (fun _ _ h => by cases h) hAs hst hrest hrm hk d hL (by simpa only [List.append_nil] using kk)
theorem jw_sV_Z {post : Bool → S → Prop} (C : JC G X rm cc own nL) (ct : CZ G y bytes maxL (jrm f loc 0 0) (.ref b :: As) w0 post w1 0 0) (wd : jWd y Cn bytes maxL (some .boolean) np) (link : Cond.methodLink own idx y ∈ jAll) (q0 : Nat) (hq : w[q0]? = some (b, .inr (ci, fs))) (hci : vwCl[ci]? = some (Cn, T, N))
    (isC isR : List Nat) (hC : isC.map (fun i => w[i]?) = w0.map some) (hR : isR.map (fun i => w[i]?) = wr.map some) (hnC : va_nd isC = true) (hn : va_nd isR = true) (hdis : ∀ i ∈ isR, i ∉ isC)
    (hAs : As.length = np) (hst : st0 = As.reverse ++ .ref b :: rest) (hrest : (rest.map fun v => v.category).sum ≤ 8) (hrm : f + 1 ≤ rm.frames ∧ 8 + (maxL + 11) + loc ≤ rm.locals) (hk : k ≤ rm.cells ∧ n ≤ rm.slots) (d : decode cc pc = .ok (.invokevirtual idx, 3)) (hL : L.length = nL)
    (kk : ∀ (r : Bool) (u : S), post r u → JW G X k n (wr ++ w1 u) (pc + 3) L (.int (jb r) :: rest)) : JW G X k n w pc L st0 := by
  obtain ⟨p, l, e, R, s, m, args, below, meth, c, Q, A⟩ := X
  obtain ⟨hx, hb, hml, hown, hts, hnw, hK, hlk, hA, hR⟩ := C
  subst hR
  intro H locs ls hP hD hS hl
  obtain ⟨wd1, wd2, wd3, wd4, wd5⟩ := wd
  have hPc := hP.sub isC (j_part hC)
  have hDc := j_nd hD hC hnC
  have hFc := va_free hD hS hA isC hC
  refine va_calli (va_runV (As := As) (rest := rest) ⟨hx, hb, hml, hown, hts⟩ (ct.2.2 l H.size) (cwV np hts (jAll_in (fun z hz => ?_)) rfl rfl rfl wd5 hrm) ⟨jPre_blind, va_recv hK hP hci hq, fun U hU hW => ⟨rfl, by rw [hU], by rw [hU]; exact hPc, va_K.moved hW.alike hK, fun z hz => jNest_warm hz hW (hnw z hz), hDc⟩⟩ rfl hAs (hl.1.trans hL) hst (lv_room hrest) d hk) hS (fun q _ h => hFc q h) hFc (fun r u t H1 locs1 ht hvm hw hB hz1 hk1 hS1 => ?_)
  · rcases List.mem_append.mp hz with h | h
    · simp only [List.mem_cons, List.not_mem_nil, or_false] at h
      rcases h with rfl | rfl | rfl | rfl
      · exact link
      · exact wd1
      · exact wd2
      · exact wd3
    · exact jAll_code wd4 z h
  · obtain ⟨hP1, hK1, hD1⟩ := hB
    rw [ht] at hP1
    obtain ⟨z, rfl, hw⟩ := hw
    obtain ⟨hP2, hD2⟩ := va_join hP hD isC isR hC hR hn hdis hk1 hFc hP1 hD1
    exact kk z u hw H1 locs1 ls hP2 hD2 hS1 hl
theorem jw_V_Z {post : Bool → S → Prop} (C : JC G X rm cc own nL) (ct : CZ G y bytes maxL (jrm f loc 0 0) (.ref b :: As) w post w1 0 0) (wd : jWd y Cn bytes maxL (some .boolean) np) (link : Cond.methodLink own idx y ∈ jAll) (q0 : Nat) (hq : w[q0]? = some (b, .inr (ci, fs))) (hci : vwCl[ci]? = some (Cn, T, N))
    (hAs : As.length = np) (hst : st0 = As.reverse ++ .ref b :: rest) (hrest : (rest.map fun v => v.category).sum ≤ 8) (hrm : f + 1 ≤ rm.frames ∧ 8 + (maxL + 11) + loc ≤ rm.locals) (hk : k ≤ rm.cells ∧ n ≤ rm.slots) (d : decode cc pc = .ok (.invokevirtual idx, 3)) (hL : L.length = nL)
    (kk : ∀ (r : Bool) (u : S), post r u → JW G X k n (w1 u) (pc + 3) L (.int (jb r) :: rest)) : JW G X k n w pc L st0 :=
  jw_sV_Z (wr := []) C ct wd link q0 hq hci (List.range w.length) [] (j_rng w) rfl (j_nd_rng _) rfl (fun _ h => by cases h) hAs hst hrest hrm hk d hL kk
theorem jw_sS_Z {post : Bool → S → Prop} (C : JC G X rm cc own nL) (ct : CZ G y bytes maxL (jrm f loc 0 0) As w0 post w1 0 0) (wd : jWs y bytes maxL (some .boolean) np) (link : Cond.methodLink own idx y ∈ jAll)
    (isC isR : List Nat) (hC : isC.map (fun i => w[i]?) = w0.map some) (hR : isR.map (fun i => w[i]?) = wr.map some) (hnC : va_nd isC = true) (hn : va_nd isR = true) (hdis : ∀ i ∈ isR, i ∉ isC)
    (hAs : As.length = np) (hst : st0 = As.reverse ++ rest) (hrest : (rest.map fun v => v.category).sum ≤ 8) (hrm : f + 1 ≤ rm.frames ∧ 8 + (maxL + 11) + loc ≤ rm.locals) (hk : k ≤ rm.cells ∧ n ≤ rm.slots) (d : decode cc pc = .ok (.invokestatic idx, 3)) (hL : L.length = nL)
    (kk : ∀ (r : Bool) (u : S), post r u → JW G X k n (wr ++ w1 u) (pc + 3) L (.int (jb r) :: rest)) : JW G X k n w pc L st0 := by
  obtain ⟨p, l, e, R, s, m, args, below, meth, c, Q, A⟩ := X
  obtain ⟨hx, hb, hml, hown, hts, hnw, hK, hlk, hA, hR⟩ := C
  subst hR
  intro H locs ls hP hD hS hl
  obtain ⟨wd1, wd2, wd3, wd5⟩ := wd
  have hPc := hP.sub isC (j_part hC)
  have hDc := j_nd hD hC hnC
  have hFc := va_free hD hS hA isC hC
  refine va_calli (va_runS (As := As) (rest := rest) ⟨hx, hb, hml, hown, hts⟩ (ct.2.2 l H.size) (va_cwS np hts (jAll_in (fun z hz => ?_)) rfl rfl rfl wd5 hrm) ⟨jPre_blind, fun U hU hW => ⟨rfl, by rw [hU], by rw [hU]; exact hPc, va_K.moved hW.alike hK, fun z hz => jNest_warm hz hW (hnw z hz), hDc⟩⟩ rfl hAs (hl.1.trans hL) hst (lv_room hrest) d hk) hS (fun q _ h => hFc q h) hFc (fun r u t H1 locs1 ht hvm hw hB hz1 hk1 hS1 => ?_)
  · rcases List.mem_append.mp hz with h | h
    · simp only [List.mem_cons, List.not_mem_nil, or_false] at h
      rcases h with rfl | rfl | rfl
      · exact link
      · exact wd1
      · exact wd2
    · exact jAll_code wd3 z h
  · obtain ⟨hP1, hK1, hD1⟩ := hB
    rw [ht] at hP1
    obtain ⟨z, rfl, hw⟩ := hw
    obtain ⟨hP2, hD2⟩ := va_join hP hD isC isR hC hR hn hdis hk1 hFc hP1 hD1
    exact kk z u hw H1 locs1 ls hP2 hD2 hS1 hl
theorem jw_S0_Z {post : Bool → S → Prop} (C : JC G X rm cc own nL) (ct : CZ G y bytes maxL (jrm f loc 0 0) As [] post (fun _ : S => []) 0 0) (wd : jWs y bytes maxL (some .boolean) np) (link : Cond.methodLink own idx y ∈ jAll)
    (hAs : As.length = np) (hst : st0 = As.reverse ++ rest) (hrest : (rest.map fun v => v.category).sum ≤ 8) (hrm : f + 1 ≤ rm.frames ∧ 8 + (maxL + 11) + loc ≤ rm.locals) (hk : k ≤ rm.cells ∧ n ≤ rm.slots) (d : decode cc pc = .ok (.invokestatic idx, 3)) (hL : L.length = nL)
    (kk : ∀ (r : Bool) (u : S), post r u → JW G X k n w (pc + 3) L (.int (jb r) :: rest)) : JW G X k n w pc L st0 :=
  jw_sS_Z (wr := w) C ct wd link [] (List.range w.length) rfl (j_rng w) rfl (j_nd_rng _) (fun _ _ h => by cases h) hAs hst hrest hrm hk d hL (by simpa only [List.append_nil] using kk)
theorem jw_sSN_Z {post : Bool → S → Prop} {host : String} (C : JC G X rm cc own nL) (ct : CZ G y bytes maxL (jrm f loc 0 0) As w0 post w1 0 0) (wd : jWs y bytes maxL (some .boolean) np) (link : Cond.methodLinkNest own idx y host ∈ jNest)
    (isC isR : List Nat) (hC : isC.map (fun i => w[i]?) = w0.map some) (hR : isR.map (fun i => w[i]?) = wr.map some) (hnC : va_nd isC = true) (hn : va_nd isR = true) (hdis : ∀ i ∈ isR, i ∉ isC)
    (hAs : As.length = np) (hst : st0 = As.reverse ++ rest) (hrest : (rest.map fun v => v.category).sum ≤ 8) (hrm : f + 1 ≤ rm.frames ∧ 8 + (maxL + 11) + loc ≤ rm.locals) (hk : k ≤ rm.cells ∧ n ≤ rm.slots) (d : decode cc pc = .ok (.invokestatic idx, 3)) (hL : L.length = nL)
    (kk : ∀ (r : Bool) (u : S), post r u → JW G X k n (wr ++ w1 u) (pc + 3) L (.int (jb r) :: rest)) : JW G X k n w pc L st0 := by
  obtain ⟨p, l, e, R, s, m, args, below, meth, c, Q, A⟩ := X
  obtain ⟨hx, hb, hml, hown, hts, hnw, hK, hlk, hA, hR⟩ := C
  subst hR
  intro H locs ls hP hD hS hl
  obtain ⟨wd1, wd2, wd3, wd5⟩ := wd
  have hPc := hP.sub isC (j_part hC)
  have hDc := j_nd hD hC hnC
  have hFc := va_free hD hS hA isC hC
  refine va_calli (va_runSN (As := As) (rest := rest) ⟨hx, hb, hml, hown, hts⟩ (ct.2.2 l H.size) ⟨va_cnB np hts (jAll_in (jAll_code wd3)) rfl rfl rfl (hnw _ link) (hts _ wd2) wd5 hrm, hts _ wd1, trivial⟩ ⟨jPre_blind, fun U hU hW => ⟨rfl, by rw [hU], by rw [hU]; exact hPc, va_K.moved hW.alike hK, fun z hz => jNest_warm hz hW (hnw z hz), hDc⟩⟩ rfl hAs (hl.1.trans hL) hst (lv_room hrest) d hk) hS (fun q _ h => hFc q h) hFc (fun r u t H1 locs1 ht hvm hw hB hz1 hk1 hS1 => ?_)
  · obtain ⟨hP1, hK1, hD1⟩ := hB
    rw [ht] at hP1
    obtain ⟨z, rfl, hw⟩ := hw
    obtain ⟨hP2, hD2⟩ := va_join hP hD isC isR hC hR hn hdis hk1 hFc hP1 hD1
    exact kk z u hw H1 locs1 ls hP2 hD2 hS1 hl
theorem jw_SN0_Z {post : Bool → S → Prop} {host : String} (C : JC G X rm cc own nL) (ct : CZ G y bytes maxL (jrm f loc 0 0) As [] post (fun _ : S => []) 0 0) (wd : jWs y bytes maxL (some .boolean) np) (link : Cond.methodLinkNest own idx y host ∈ jNest)
    (hAs : As.length = np) (hst : st0 = As.reverse ++ rest) (hrest : (rest.map fun v => v.category).sum ≤ 8) (hrm : f + 1 ≤ rm.frames ∧ 8 + (maxL + 11) + loc ≤ rm.locals) (hk : k ≤ rm.cells ∧ n ≤ rm.slots) (d : decode cc pc = .ok (.invokestatic idx, 3)) (hL : L.length = nL)
    (kk : ∀ (r : Bool) (u : S), post r u → JW G X k n w (pc + 3) L (.int (jb r) :: rest)) : JW G X k n w pc L st0 :=
  jw_sSN_Z (wr := w) C ct wd link [] (List.range w.length) rfl (j_rng w) rfl (j_nd_rng _) (fun _ _ h => by cases h) hAs hst hrest hrm hk d hL (by simpa only [List.append_nil] using kk)
theorem jw_sI {post : S → Prop} {mc ms : Nat} (C : JC G X rm cc own nL) (ct : CV G y bytes maxL (jrm f loc mc ms) (.ref b :: As) w0 post w1 mc ms) (wd : jWi y bytes maxL np) (link : Cond.methodLink own idx y ∈ jAll)
    (isC isR : List Nat) (hC : isC.map (fun i => w[i]?) = w0.map some) (hR : isR.map (fun i => w[i]?) = wr.map some) (hnC : va_nd isC = true) (hn : va_nd isR = true) (hdis : ∀ i ∈ isR, i ∉ isC)
    (hAs : As.length = np) (hst : st0 = As.reverse ++ .ref b :: rest) (hrest : (rest.map fun v => v.category).sum ≤ 8) (hrm : f + 1 ≤ rm.frames ∧ 8 + (maxL + 11) + loc ≤ rm.locals) (hk : k + mc ≤ rm.cells ∧ n + ms ≤ rm.slots) (d : decode cc pc = .ok (.invokespecial idx, 3)) (hL : L.length = nL)
    (kk : ∀ (u : S), post u → JW G X (k + mc) (n + ms) (wr ++ w1 u) (pc + 3) L rest) : JW G X k n w pc L st0 := by
  obtain ⟨p, l, e, R, s, m, args, below, meth, c, Q, A⟩ := X
  obtain ⟨hx, hb, hml, hown, hts, hnw, hK, hlk, hA, hR⟩ := C
  subst hR
  intro H locs ls hP hD hS hl
  obtain ⟨wd1, wd2, wd3, wd4, wd5⟩ := wd
  have hPc := hP.sub isC (j_part hC)
  have hDc := j_nd hD hC hnC
  have hFc := va_free hD hS hA isC hC
  refine va_callv (va_runI (As := As) (rest := rest) ⟨hx, hb, hml, hown, hts⟩ (ct.2.2 l H.size) (cwI np hts (jAll_in (jAll_code wd3)) rfl rfl rfl (hts _ wd2) (hts _ link) (hts _ wd1) wd4 wd5 hrm) ⟨jPre_blind, fun U hU hW => ⟨rfl, by rw [hU], by rw [hU]; exact hPc, va_K.moved hW.alike hK, fun z hz => jNest_warm hz hW (hnw z hz), hDc⟩⟩ rfl hAs (hl.1.trans hL) hst (lv_room hrest) d hk) hS (fun q _ h => hFc q h) hFc (fun u t H1 locs1 ht hvm hw hB hz1 hk1 hS1 => ?_)
  obtain ⟨hP1, hK1, hD1⟩ := hB
  rw [ht] at hP1
  obtain ⟨hP2, hD2⟩ := va_join hP hD isC isR hC hR hn hdis hk1 hFc hP1 hD1
  exact kk u hw H1 locs1 ls hP2 hD2 hS1 hl
theorem jw_sIN {post : S → Prop} {mc ms : Nat} {host : String} (C : JC G X rm cc own nL) (ct : CV G y bytes maxL (jrm f loc mc ms) (.ref b :: As) w0 post w1 mc ms) (wd : jWi y bytes maxL np) (link : Cond.methodLinkNest own idx y host ∈ jNest)
    (isC isR : List Nat) (hC : isC.map (fun i => w[i]?) = w0.map some) (hR : isR.map (fun i => w[i]?) = wr.map some) (hnC : va_nd isC = true) (hn : va_nd isR = true) (hdis : ∀ i ∈ isR, i ∉ isC)
    (hAs : As.length = np) (hst : st0 = As.reverse ++ .ref b :: rest) (hrest : (rest.map fun v => v.category).sum ≤ 8) (hrm : f + 1 ≤ rm.frames ∧ 8 + (maxL + 11) + loc ≤ rm.locals) (hk : k + mc ≤ rm.cells ∧ n + ms ≤ rm.slots) (d : decode cc pc = .ok (.invokespecial idx, 3)) (hL : L.length = nL)
    (kk : ∀ (u : S), post u → JW G X (k + mc) (n + ms) (wr ++ w1 u) (pc + 3) L rest) : JW G X k n w pc L st0 := by
  obtain ⟨p, l, e, R, s, m, args, below, meth, c, Q, A⟩ := X
  obtain ⟨hx, hb, hml, hown, hts, hnw, hK, hlk, hA, hR⟩ := C
  subst hR
  intro H locs ls hP hD hS hl
  obtain ⟨wd1, wd2, wd3, wd4, wd5⟩ := wd
  have hPc := hP.sub isC (j_part hC)
  have hDc := j_nd hD hC hnC
  have hFc := va_free hD hS hA isC hC
  refine va_callv (va_runIN (As := As) (rest := rest) ⟨hx, hb, hml, hown, hts⟩ (ct.2.2 l H.size) ⟨va_cnB np hts (jAll_in (jAll_code wd3)) rfl rfl rfl (hnw _ link) (hts _ wd2) wd5 hrm, wd4, hts _ wd1⟩ ⟨jPre_blind, fun U hU hW => ⟨rfl, by rw [hU], by rw [hU]; exact hPc, va_K.moved hW.alike hK, fun z hz => jNest_warm hz hW (hnw z hz), hDc⟩⟩ rfl hAs (hl.1.trans hL) hst (lv_room hrest) d hk) hS (fun q _ h => hFc q h) hFc (fun u t H1 locs1 ht hvm hw hB hz1 hk1 hS1 => ?_)
  obtain ⟨hP1, hK1, hD1⟩ := hB
  rw [ht] at hP1
  obtain ⟨hP2, hD2⟩ := va_join hP hD isC isR hC hR hn hdis hk1 hFc hP1 hD1
  exact kk u hw H1 locs1 ls hP2 hD2 hS1 hl
end JCALL
