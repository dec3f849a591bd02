/-! THE JUDGEMENT JW: from this point of the method (world, pc, locals, stack) the machine comes to Q. Rows turn it instruction by instruction; heaps, written places and locals' arrays are hidden in it. -/
abbrev jG : Type := va_G × (Nat → ClassId)
def jT (G : jG) : List (ClassId × FieldType) := [(G.2 0, .int), (G.2 1, .boolean)]
abbrev JX : Type := Program × Launch × Env × Room × State × MethodId × Array Value × List Frame × Method × Code × (State → Prop) × (Nat → Prop)
def jl0 : Nat → List (Option Value) → List (Nat × Value)
  | _, [] => []
  | k, some v :: t => (k, v) :: jl0 (k + 1) t
  | k, none :: t => jl0 (k + 1) t
theorem jl0_mem : ∀ (L : List (Option Value)) (k : Nat) (q : Nat × Value), q ∈ jl0 k L ↔ ∃ j, L[j]? = some (some q.2) ∧ q.1 = k + j
  | [], k, q => by simp [jl0]
  | some v :: t, k, q => by
    simp only [jl0, List.mem_cons, jl0_mem t (k + 1) q]
    constructor
    · rintro (rfl | ⟨j, h1, h2⟩)
      · exact ⟨0, rfl, rfl⟩
      · exact ⟨j + 1, by simpa using h1, by omega⟩
    · rintro ⟨j, h1, h2⟩
      cases j with
      | zero =>
        left
        simp at h1
        obtain ⟨a, b⟩ := q
        simp_all
      | succ j => right; exact ⟨j, by simpa using h1, by omega⟩
  | none :: t, k, q => by
    simp only [jl0, jl0_mem t (k + 1) q]
    constructor
    · rintro ⟨j, h1, h2⟩
      exact ⟨j + 1, by simpa using h1, by omega⟩
    · rintro ⟨j, h1, h2⟩
      cases j with
      | zero => simp at h1
      | succ j => exact ⟨j, by simpa using h1, by omega⟩
def JW (G : jG) (X : JX) (k n : Nat) (w : va_W) (pc : Nat) (L : List (Option Value)) (st : List Value) : Prop :=
  match X with
  | (p, l, e, R, s, m, args, below, meth, c, Q, A) => ∀ (H : Heap) (locs : List Loc) (ls : Array Slot), va_P G.1 vwCl w H → va_D A w → va_S A s.heap H locs → lv_has ls L.length (jl0 0 L) → W p l e R s m args below meth c H locs k n Q (F0 m pc ls st)
/-- what stays the same in a method's body -/
def JC (G : jG) (X : JX) (rm : Room) (cc : ByteArray) (own : String) (nL : Nat) : Prop :=
  match X with
  | (p, _l, _e, R, s, m, args, _below, meth, c, _Q, A) => p.tables.exec = Jvm.exec ∧ c.code = cc ∧ c.maxLocals = nL ∧ s.vm.findClass own = some m.cls ∧ (∀ w ∈ jAll, w.before args s = true) ∧ (∀ w ∈ jNest, va_Nw w s) ∧ va_K G.1 vwCl (jT G) s ∧ meth.locks = false ∧ (∀ q : Nat, s.heap.size ≤ q → A q) ∧ R = rm
/-- an int by its number; a boolean; rows of them -/
def iI (z : Int) : Int32 := Int32.ofInt z
def jb (b : Bool) : Int32 := if b then iI 1 else iI 0
def jiI (f : Nat → Int) : Nat → Int32 := fun j => iI (f j)
def jbF (f : Nat → Bool) : Nat → Int32 := fun j => jb (f j)
def updf {α : Type} (f : Nat → α) (k : Nat) (v : α) : Nat → α := fun j => if j = k then v else f j
abbrev jr (a : Int) : Prop := -2147483648 ≤ a ∧ a < 2147483648
theorem iI_add (a b : Int) : iI a + iI b = iI (a + b) := (Int32.ofInt_add a b).symm
theorem iI_sub (a b : Int) : iI a - iI b = iI (a - b) := (Int32.ofInt_sub a b).symm
theorem iI_mul (a b : Int) : iI a * iI b = iI (a * b) := (Int32.ofInt_mul a b).symm
theorem iI_toInt {a : Int} (h : jr a) : (iI a).toInt = a := Int32.toInt_ofInt_of_le (by have := h.1; omega) (by have := h.2; omega)
theorem iI_lt {a b : Int} (ha : jr a) (hb : jr b) : iI a < iI b ↔ a < b := by rw [Int32.lt_iff_toInt_lt, iI_toInt ha, iI_toInt hb]
theorem iI_le {a b : Int} (ha : jr a) (hb : jr b) : iI a ≤ iI b ↔ a ≤ b := by rw [Int32.le_iff_toInt_le, iI_toInt ha, iI_toInt hb]
theorem iI_eq {a b : Int} (ha : jr a) (hb : jr b) : iI a = iI b ↔ a = b := by
  constructor
  · intro h
    have h2 := congrArg Int32.toInt h
    rwa [iI_toInt ha, iI_toInt hb] at h2
  · intro h; rw [h]
theorem iI_0 : (0 : Int32) = iI 0 := rfl
theorem iI_self (x : Int32) : iI x.toInt = x := Int32.ofInt_toInt x
theorem jr_self (x : Int32) : jr x.toInt := ⟨by have := Int32.le_toInt x; omega, by have := Int32.toInt_lt x; omega⟩
theorem iI_in {k n : Nat} (h : k < n) (hn : n < 1000000) : vp_in (iI (k : Int)) n := by
  rw [vp_in_iff, iI_toInt ⟨by omega, by omega⟩]
  omega
theorem iI_clamp {k : Nat} (h : k < 1000000) : (iI (k : Int)).toNatClampNeg = k := by
  show (iI (k : Int)).toInt.toNat = k
  rw [iI_toInt ⟨by omega, by omega⟩]
  omega
theorem jiI_upd (f : Nat → Int) (k : Nat) (v : Int) : upd (jiI f) k (iI v) = jiI (updf f k v) := by
  funext j
  simp only [upd, jiI, updf]
  split <;> rfl
theorem raw_upd (f : Nat → Int32) (k : Nat) (v : Int32) : upd f k v = updf f k v := by
  funext j
  simp only [upd, updf]
theorem jbF_upd (f : Nat → Bool) (k : Nat) (v : Bool) : upd (jbF f) k (vp_nar .boolean (jb v)) = jbF (updf f k v) := by
  have e : vp_nar .boolean (jb v) = jb v := by cases v <;> rfl
  rw [e]
  funext j
  simp only [upd, jbF, updf]
  split <;> rfl
theorem updL_upd (f : Nat → Int64) (k : Nat) (v : Int64) : vp_updL f k v = updf f k v := by
  funext j
  simp only [vp_updL, updf]
def jc1 : Option Value → Bool
  | none => true
  | some v => v.category == 1
theorem jl_store1 {ls : Array Slot} {n i : Nat} {L : List (Option Value)} {v : Value} (hi : i < L.length) (hc : ∀ a, 0 < i → L[i - 1]? = some a → jc1 a = true)
    (h : lv_has ls n ((i, v) :: (jl0 0 L).filter (fun q => !(q.1 == i) && !(q.1 + 1 == i && q.2.category == 2)))) : lv_has ls n (jl0 0 (L.set i (some v))) := by
  refine ⟨h.1, h.2.1, fun q hq => h.2.2 q ?_⟩
  obtain ⟨j, h1, h2⟩ := (jl0_mem _ _ _).mp hq
  rw [Nat.zero_add] at h2
  by_cases hij : j = i
  · subst hij
    rw [List.getElem?_set_self hi] at h1
    simp only [Option.some.injEq] at h1
    obtain ⟨a, b⟩ := q
    simp only at h1 h2
    subst h1; subst h2
    exact List.mem_cons_self
  · rw [List.getElem?_set_ne (Ne.symm hij)] at h1
    refine List.mem_cons_of_mem _ (List.mem_filter.mpr ⟨(jl0_mem _ _ _).mpr ⟨j, h1, by omega⟩, ?_⟩)
    simp only [h2, Bool.and_eq_true, Bool.not_eq_true', beq_eq_false_iff_ne, ne_eq, hij, not_false_eq_true, true_and, Bool.and_eq_false_imp, beq_iff_eq]
    intro h3 h4
    have h5 := hc (some q.2) (by omega) (by rw [← h3]; simpa using h1)
    simp [jc1, h4] at h5
theorem jl_store2 {ls : Array Slot} {n i : Nat} {L : List (Option Value)} {v : Value} (hi : i + 1 < L.length) (hc : ∀ a, 0 < i → L[i - 1]? = some a → jc1 a = true)
    (h : lv_has ls n ((i, v) :: (jl0 0 L).filter (fun q => !(q.1 == i) && (!(q.1 == i + 1) && !(q.1 + 1 == i && q.2.category == 2))))) : lv_has ls n (jl0 0 ((L.set i (some v)).set (i + 1) none)) := by
  refine ⟨h.1, h.2.1, fun q hq => h.2.2 q ?_⟩
  obtain ⟨j, h1, h2⟩ := (jl0_mem _ _ _).mp hq
  rw [Nat.zero_add] at h2
  by_cases hij1 : j = i + 1
  · subst hij1
    rw [List.getElem?_set_self (by rw [List.length_set]; exact hi)] at h1
    cases h1
  · rw [List.getElem?_set_ne (Ne.symm hij1)] at h1
    by_cases hij : j = i
    · subst hij
      rw [List.getElem?_set_self (by omega)] at h1
      simp only [Option.some.injEq] at h1
      obtain ⟨a, b⟩ := q
      simp only at h1 h2
      subst h1; subst h2
      exact List.mem_cons_self
    · rw [List.getElem?_set_ne (Ne.symm hij)] at h1
      refine List.mem_cons_of_mem _ (List.mem_filter.mpr ⟨(jl0_mem _ _ _).mpr ⟨j, h1, by omega⟩, ?_⟩)
      simp only [h2, Bool.and_eq_true, Bool.not_eq_true', beq_eq_false_iff_ne, ne_eq, hij, hij1, not_false_eq_true, true_and, Bool.and_eq_false_imp, beq_iff_eq]
      intro h3 h4
      have h5 := hc (some q.2) (by omega) (by rw [← h3]; simpa using h1)
      simp [jc1, h4] at h5
section JR
variable {G : jG} {X : JX} {k n pc : Nat} {w : va_W} {L : List (Option Value)} {rest : List Value} {rm : Room} {cc : ByteArray} {own : String} {nL : Nat}
theorem jw_iconst {z : Int} (C : JC G X rm cc own nL) (d : decode cc pc = .ok (.iconst z, 1))  (kk : JW G X k n w (pc + 1) L (.int (iI z) :: rest)) : JW G X k n w (pc) L (rest) := by
  obtain ⟨p, l, e, R, s, m, args, below, meth, c, Q, A⟩ := X
  obtain ⟨hx, hb, hml, hown, hts, hnw, hK, hlk, hA, hR⟩ := C
  intro H locs ls hP hD hS hl
  refine lv_iconst (v := iI z) hx hb d rfl ?_
  exact kk H locs ls hP hD hS hl
theorem jw_bipush {z : Int} (C : JC G X rm cc own nL) (d : decode cc pc = .ok (.bipush z, 2)) (hz : (Int8.ofInt z).toInt32 = iI z) (kk : JW G X k n w (pc + 2) L (.int (iI z) :: rest)) : JW G X k n w (pc) L (rest) := by
  obtain ⟨p, l, e, R, s, m, args, below, meth, c, Q, A⟩ := X
  obtain ⟨hx, hb, hml, hown, hts, hnw, hK, hlk, hA, hR⟩ := C
  intro H locs ls hP hD hS hl
  refine lv_bipush (v := iI z) hx hb d hz ?_
  exact kk H locs ls hP hD hS hl
theorem jw_sipush {z : Int} (C : JC G X rm cc own nL) (d : decode cc pc = .ok (.sipush z, 3)) (hz : (Int16.ofInt z).toInt32 = iI z) (kk : JW G X k n w (pc + 3) L (.int (iI z) :: rest)) : JW G X k n w (pc) L (rest) := by
  obtain ⟨p, l, e, R, s, m, args, below, meth, c, Q, A⟩ := X
  obtain ⟨hx, hb, hml, hown, hts, hnw, hK, hlk, hA, hR⟩ := C
  intro H locs ls hP hD hS hl
  refine lv_sipush (v := iI z) hx hb d hz ?_
  exact kk H locs ls hP hD hS hl
theorem jw_lconst {z : Fin 2} (C : JC G X rm cc own nL) (d : decode cc pc = .ok (.lconst z, 1))  (kk : JW G X k n w (pc + 1) L (.long (Int64.ofNat (z : Nat)) :: rest)) : JW G X k n w (pc) L (rest) := by
  obtain ⟨p, l, e, R, s, m, args, below, meth, c, Q, A⟩ := X
  obtain ⟨hx, hb, hml, hown, hts, hnw, hK, hlk, hA, hR⟩ := C
  intro H locs ls hP hD hS hl
  refine lv_lconst hx hb d rfl ?_
  exact kk H locs ls hP hD hS hl
theorem jw_dconst0  (C : JC G X rm cc own nL) (d : decode cc pc = .ok (.dconst 0, 1))  (kk : JW G X k n w (pc + 1) L (.double FP.dconst0 :: rest)) : JW G X k n w (pc) L (rest) := by
  obtain ⟨p, l, e, R, s, m, args, below, meth, c, Q, A⟩ := X
  obtain ⟨hx, hb, hml, hown, hts, hnw, hK, hlk, hA, hR⟩ := C
  intro H locs ls hP hD hS hl
  refine lv_dconst0 hx hb d ?_
  exact kk H locs ls hP hD hS hl
theorem jw_dconst1  (C : JC G X rm cc own nL) (d : decode cc pc = .ok (.dconst 1, 1))  (kk : JW G X k n w (pc + 1) L (.double FP.dconst1 :: rest)) : JW G X k n w (pc) L (rest) := by
  obtain ⟨p, l, e, R, s, m, args, below, meth, c, Q, A⟩ := X
  obtain ⟨hx, hb, hml, hown, hts, hnw, hK, hlk, hA, hR⟩ := C
  intro H locs ls hP hD hS hl
  refine lv_dconst1 hx hb d ?_
  exact kk H locs ls hP hD hS hl
theorem jw_iadd {a b : Int} (C : JC G X rm cc own nL) (d : decode cc pc = .ok (.iadd, 1))  (kk : JW G X k n w (pc + 1) L (.int (iI (a + b)) :: rest)) : JW G X k n w (pc) L (.int (iI b) :: .int (iI a) :: rest) := by
  obtain ⟨p, l, e, R, s, m, args, below, meth, c, Q, A⟩ := X
  obtain ⟨hx, hb, hml, hown, hts, hnw, hK, hlk, hA, hR⟩ := C
  intro H locs ls hP hD hS hl
  refine lv_iadd hx hb d ?_
  rw [iI_add]
  exact kk H locs ls hP hD hS hl
theorem jw_isub {a b : Int} (C : JC G X rm cc own nL) (d : decode cc pc = .ok (.isub, 1))  (kk : JW G X k n w (pc + 1) L (.int (iI (a - b)) :: rest)) : JW G X k n w (pc) L (.int (iI b) :: .int (iI a) :: rest) := by
  obtain ⟨p, l, e, R, s, m, args, below, meth, c, Q, A⟩ := X
  obtain ⟨hx, hb, hml, hown, hts, hnw, hK, hlk, hA, hR⟩ := C
  intro H locs ls hP hD hS hl
  refine lv_isub hx hb d ?_
  rw [iI_sub]
  exact kk H locs ls hP hD hS hl
theorem jw_imul {a b : Int} (C : JC G X rm cc own nL) (d : decode cc pc = .ok (.imul, 1))  (kk : JW G X k n w (pc + 1) L (.int (iI (a * b)) :: rest)) : JW G X k n w (pc) L (.int (iI b) :: .int (iI a) :: rest) := by
  obtain ⟨p, l, e, R, s, m, args, below, meth, c, Q, A⟩ := X
  obtain ⟨hx, hb, hml, hown, hts, hnw, hK, hlk, hA, hR⟩ := C
  intro H locs ls hP hD hS hl
  refine lv_imul hx hb d ?_
  rw [iI_mul]
  exact kk H locs ls hP hD hS hl
theorem jw_iand {x y : Int32} (C : JC G X rm cc own nL) (d : decode cc pc = .ok (.iand, 1))  (kk : JW G X k n w (pc + 1) L (.int (x &&& y) :: rest)) : JW G X k n w (pc) L (.int y :: .int x :: rest) := by
  obtain ⟨p, l, e, R, s, m, args, below, meth, c, Q, A⟩ := X
  obtain ⟨hx, hb, hml, hown, hts, hnw, hK, hlk, hA, hR⟩ := C
  intro H locs ls hP hD hS hl
  refine lv_iand hx hb d ?_
  exact kk H locs ls hP hD hS hl
theorem jw_ior {x y : Int32} (C : JC G X rm cc own nL) (d : decode cc pc = .ok (.ior, 1))  (kk : JW G X k n w (pc + 1) L (.int (x ||| y) :: rest)) : JW G X k n w (pc) L (.int y :: .int x :: rest) := by
  obtain ⟨p, l, e, R, s, m, args, below, meth, c, Q, A⟩ := X
  obtain ⟨hx, hb, hml, hown, hts, hnw, hK, hlk, hA, hR⟩ := C
  intro H locs ls hP hD hS hl
  refine lv_ior hx hb d ?_
  exact kk H locs ls hP hD hS hl
theorem jw_ixor {x y : Int32} (C : JC G X rm cc own nL) (d : decode cc pc = .ok (.ixor, 1))  (kk : JW G X k n w (pc + 1) L (.int (x ^^^ y) :: rest)) : JW G X k n w (pc) L (.int y :: .int x :: rest) := by
  obtain ⟨p, l, e, R, s, m, args, below, meth, c, Q, A⟩ := X
  obtain ⟨hx, hb, hml, hown, hts, hnw, hK, hlk, hA, hR⟩ := C
  intro H locs ls hP hD hS hl
  refine lv_ixor hx hb d ?_
  exact kk H locs ls hP hD hS hl
theorem jw_ishl {x y : Int32} (C : JC G X rm cc own nL) (d : decode cc pc = .ok (.ishl, 1))  (kk : JW G X k n w (pc + 1) L (.int (x <<< (y &&& 31)) :: rest)) : JW G X k n w (pc) L (.int y :: .int x :: rest) := by
  obtain ⟨p, l, e, R, s, m, args, below, meth, c, Q, A⟩ := X
  obtain ⟨hx, hb, hml, hown, hts, hnw, hK, hlk, hA, hR⟩ := C
  intro H locs ls hP hD hS hl
  refine lv_ishl hx hb d ?_
  exact kk H locs ls hP hD hS hl
theorem jw_ishr {x y : Int32} (C : JC G X rm cc own nL) (d : decode cc pc = .ok (.ishr, 1))  (kk : JW G X k n w (pc + 1) L (.int (x >>> (y &&& 31)) :: rest)) : JW G X k n w (pc) L (.int y :: .int x :: rest) := by
  obtain ⟨p, l, e, R, s, m, args, below, meth, c, Q, A⟩ := X
  obtain ⟨hx, hb, hml, hown, hts, hnw, hK, hlk, hA, hR⟩ := C
  intro H locs ls hP hD hS hl
  refine lv_ishr hx hb d ?_
  exact kk H locs ls hP hD hS hl
theorem jw_isub_r {x y : Int32} (C : JC G X rm cc own nL) (d : decode cc pc = .ok (.isub, 1))  (kk : JW G X k n w (pc + 1) L (.int (x - y) :: rest)) : JW G X k n w (pc) L (.int y :: .int x :: rest) := by
  obtain ⟨p, l, e, R, s, m, args, below, meth, c, Q, A⟩ := X
  obtain ⟨hx, hb, hml, hown, hts, hnw, hK, hlk, hA, hR⟩ := C
  intro H locs ls hP hD hS hl
  refine lv_isub hx hb d ?_
  exact kk H locs ls hP hD hS hl
theorem jw_iadd_r {x y : Int32} (C : JC G X rm cc own nL) (d : decode cc pc = .ok (.iadd, 1))  (kk : JW G X k n w (pc + 1) L (.int (x + y) :: rest)) : JW G X k n w (pc) L (.int y :: .int x :: rest) := by
  obtain ⟨p, l, e, R, s, m, args, below, meth, c, Q, A⟩ := X
  obtain ⟨hx, hb, hml, hown, hts, hnw, hK, hlk, hA, hR⟩ := C
  intro H locs ls hP hD hS hl
  refine lv_iadd hx hb d ?_
  exact kk H locs ls hP hD hS hl
theorem jw_imul_r {x y : Int32} (C : JC G X rm cc own nL) (d : decode cc pc = .ok (.imul, 1))  (kk : JW G X k n w (pc + 1) L (.int (x * y) :: rest)) : JW G X k n w (pc) L (.int y :: .int x :: rest) := by
  obtain ⟨p, l, e, R, s, m, args, below, meth, c, Q, A⟩ := X
  obtain ⟨hx, hb, hml, hown, hts, hnw, hK, hlk, hA, hR⟩ := C
  intro H locs ls hP hD hS hl
  refine lv_imul hx hb d ?_
  exact kk H locs ls hP hD hS hl
theorem jw_ladd {x y : Int64} (C : JC G X rm cc own nL) (d : decode cc pc = .ok (.ladd, 1))  (kk : JW G X k n w (pc + 1) L (.long (x + y) :: rest)) : JW G X k n w (pc) L (.long y :: .long x :: rest) := by
  obtain ⟨p, l, e, R, s, m, args, below, meth, c, Q, A⟩ := X
  obtain ⟨hx, hb, hml, hown, hts, hnw, hK, hlk, hA, hR⟩ := C
  intro H locs ls hP hD hS hl
  refine lv_ladd hx hb d ?_
  exact kk H locs ls hP hD hS hl
theorem jw_lmul {x y : Int64} (C : JC G X rm cc own nL) (d : decode cc pc = .ok (.lmul, 1))  (kk : JW G X k n w (pc + 1) L (.long (x * y) :: rest)) : JW G X k n w (pc) L (.long y :: .long x :: rest) := by
  obtain ⟨p, l, e, R, s, m, args, below, meth, c, Q, A⟩ := X
  obtain ⟨hx, hb, hml, hown, hts, hnw, hK, hlk, hA, hR⟩ := C
  intro H locs ls hP hD hS hl
  refine lv_lmul hx hb d ?_
  exact kk H locs ls hP hD hS hl
theorem jw_lsub {x y : Int64} (C : JC G X rm cc own nL) (d : decode cc pc = .ok (.lsub, 1))  (kk : JW G X k n w (pc + 1) L (.long (x - y) :: rest)) : JW G X k n w (pc) L (.long y :: .long x :: rest) := by
  obtain ⟨p, l, e, R, s, m, args, below, meth, c, Q, A⟩ := X
  obtain ⟨hx, hb, hml, hown, hts, hnw, hK, hlk, hA, hR⟩ := C
  intro H locs ls hP hD hS hl
  refine lv_lsub hx hb d ?_
  exact kk H locs ls hP hD hS hl
theorem jw_i2l {x : Int32} (C : JC G X rm cc own nL) (d : decode cc pc = .ok (.i2l, 1))  (kk : JW G X k n w (pc + 1) L (.long x.toInt64 :: rest)) : JW G X k n w (pc) L (.int x :: rest) := by
  obtain ⟨p, l, e, R, s, m, args, below, meth, c, Q, A⟩ := X
  obtain ⟨hx, hb, hml, hown, hts, hnw, hK, hlk, hA, hR⟩ := C
  intro H locs ls hP hD hS hl
  refine lv_i2l hx hb d rfl ?_
  exact kk H locs ls hP hD hS hl
theorem jw_i2d {x : Int32} (C : JC G X rm cc own nL) (d : decode cc pc = .ok (.i2d, 1))  (kk : JW G X k n w (pc + 1) L (.double (FP.i2d x) :: rest)) : JW G X k n w (pc) L (.int x :: rest) := by
  obtain ⟨p, l, e, R, s, m, args, below, meth, c, Q, A⟩ := X
  obtain ⟨hx, hb, hml, hown, hts, hnw, hK, hlk, hA, hR⟩ := C
  intro H locs ls hP hD hS hl
  refine lv_i2d hx hb d ?_
  exact kk H locs ls hP hD hS hl
theorem jw_dadd {x y : UInt64} (C : JC G X rm cc own nL) (d : decode cc pc = .ok (.dadd, 1)) (hne : vf_n64 (FP.dadd x y)) (kk : JW G X k n w (pc + 1) L (.double (FP.dadd x y) :: rest)) : JW G X k n w (pc) L (.double y :: .double x :: rest) := by
  obtain ⟨p, l, e, R, s, m, args, below, meth, c, Q, A⟩ := X
  obtain ⟨hx, hb, hml, hown, hts, hnw, hK, hlk, hA, hR⟩ := C
  intro H locs ls hP hD hS hl
  refine lv_dadd hx hb d hne ?_
  exact kk H locs ls hP hD hS hl
theorem jw_dmul {x y : UInt64} (C : JC G X rm cc own nL) (d : decode cc pc = .ok (.dmul, 1)) (hne : vf_n64 (FP.dmul x y)) (kk : JW G X k n w (pc + 1) L (.double (FP.dmul x y) :: rest)) : JW G X k n w (pc) L (.double y :: .double x :: rest) := by
  obtain ⟨p, l, e, R, s, m, args, below, meth, c, Q, A⟩ := X
  obtain ⟨hx, hb, hml, hown, hts, hnw, hK, hlk, hA, hR⟩ := C
  intro H locs ls hP hD hS hl
  refine lv_dmul hx hb d hne ?_
  exact kk H locs ls hP hD hS hl
theorem jw_ddiv {x y : UInt64} (C : JC G X rm cc own nL) (d : decode cc pc = .ok (.ddiv, 1)) (hne : vf_n64 (FP.ddiv x y)) (kk : JW G X k n w (pc + 1) L (.double (FP.ddiv x y) :: rest)) : JW G X k n w (pc) L (.double y :: .double x :: rest) := by
  obtain ⟨p, l, e, R, s, m, args, below, meth, c, Q, A⟩ := X
  obtain ⟨hx, hb, hml, hown, hts, hnw, hK, hlk, hA, hR⟩ := C
  intro H locs ls hP hD hS hl
  refine lv_ddiv hx hb d hne ?_
  exact kk H locs ls hP hD hS hl
theorem jw_dcmp {x y : UInt64} {op : CmpOp} (C : JC G X rm cc own nL) (d : decode cc pc = .ok (.dcmp op, 1))  (kk : JW G X k n w (pc + 1) L (.int (Op.cmpValue (FP.dcmp x y) op) :: rest)) : JW G X k n w (pc) L (.double y :: .double x :: rest) := by
  obtain ⟨p, l, e, R, s, m, args, below, meth, c, Q, A⟩ := X
  obtain ⟨hx, hb, hml, hown, hts, hnw, hK, hlk, hA, hR⟩ := C
  intro H locs ls hP hD hS hl
  refine lv_dcmp hx hb d ?_
  exact kk H locs ls hP hD hS hl
theorem jw_lcmp {x y : Int64} (C : JC G X rm cc own nL) (d : decode cc pc = .ok (.lcmp, 1))  (kk : JW G X k n w (pc + 1) L (.int (lg_cmp x y) :: rest)) : JW G X k n w (pc) L (.long y :: .long x :: rest) := by
  obtain ⟨p, l, e, R, s, m, args, below, meth, c, Q, A⟩ := X
  obtain ⟨hx, hb, hml, hown, hts, hnw, hK, hlk, hA, hR⟩ := C
  intro H locs ls hP hD hS hl
  refine W.lcmp hx hb d ?_
  exact kk H locs ls hP hD hS hl
theorem jw_dup {v : Value} (C : JC G X rm cc own nL) (d : decode cc pc = .ok (.dup, 1)) (hv : v.category = 1) (kk : JW G X k n w (pc + 1) L (v :: v :: rest)) : JW G X k n w (pc) L (v :: rest) := by
  obtain ⟨p, l, e, R, s, m, args, below, meth, c, Q, A⟩ := X
  obtain ⟨hx, hb, hml, hown, hts, hnw, hK, hlk, hA, hR⟩ := C
  intro H locs ls hP hD hS hl
  refine lv_dup hx hb d hv ?_
  exact kk H locs ls hP hD hS hl
theorem jw_pop {v : Value} (C : JC G X rm cc own nL) (d : decode cc pc = .ok (.pop, 1)) (hv : v.category = 1) (kk : JW G X k n w (pc + 1) L (rest)) : JW G X k n w (pc) L (v :: rest) := by
  obtain ⟨p, l, e, R, s, m, args, below, meth, c, Q, A⟩ := X
  obtain ⟨hx, hb, hml, hown, hts, hnw, hK, hlk, hA, hR⟩ := C
  intro H locs ls hP hD hS hl
  refine lv_pop hx hb d hv ?_
  exact kk H locs ls hP hD hS hl
theorem jw_dup2 {v u : Value} (C : JC G X rm cc own nL) (d : decode cc pc = .ok (.dup2, 1)) (hv : v.category = 1) (hu : u.category = 1) (kk : JW G X k n w (pc + 1) L (v :: u :: v :: u :: rest)) : JW G X k n w (pc) L (v :: u :: rest) := by
  obtain ⟨p, l, e, R, s, m, args, below, meth, c, Q, A⟩ := X
  obtain ⟨hx, hb, hml, hown, hts, hnw, hK, hlk, hA, hR⟩ := C
  intro H locs ls hP hD hS hl
  refine lv_dup2_11 hx hb d hv hu ?_
  exact kk H locs ls hP hD hS hl
theorem jw_dup_x1 {v u : Value} (C : JC G X rm cc own nL) (d : decode cc pc = .ok (.dup_x1, 1)) (hv : v.category = 1) (hu : u.category = 1) (kk : JW G X k n w (pc + 1) L (v :: u :: v :: rest)) : JW G X k n w (pc) L (v :: u :: rest) := by
  obtain ⟨p, l, e, R, s, m, args, below, meth, c, Q, A⟩ := X
  obtain ⟨hx, hb, hml, hown, hts, hnw, hK, hlk, hA, hR⟩ := C
  intro H locs ls hP hD hS hl
  refine lv_dup_x1 hx hb d hv hu ?_
  exact kk H locs ls hP hD hS hl
theorem jw_ldc2d {idx : Nat} {v : UInt64} (C : JC G X rm cc own nL) (hw : Cond.constantDouble own idx v ∈ jAll) (d : decode cc pc = .ok (.ldc2_w idx, 3)) (kk : JW G X k n w (pc + 3) L (.double v :: rest)) : JW G X k n w (pc) L (rest) := by
  obtain ⟨p, l, e, R, s, m, args, below, meth, c, Q, A⟩ := X
  obtain ⟨hx, hb, hml, hown, hts, hnw, hK, hlk, hA, hR⟩ := C
  intro H locs ls hP hD hS hl
  refine lv_ldc2d hx hb hown (hts _ hw) d ?_
  exact kk H locs ls hP hD hS hl
theorem jw_ldc2l {idx : Nat} {v : Int64} (C : JC G X rm cc own nL) (hw : Cond.constantLong own idx v ∈ jAll) (d : decode cc pc = .ok (.ldc2_w idx, 3)) (kk : JW G X k n w (pc + 3) L (.long v :: rest)) : JW G X k n w (pc) L (rest) := by
  obtain ⟨p, l, e, R, s, m, args, below, meth, c, Q, A⟩ := X
  obtain ⟨hx, hb, hml, hown, hts, hnw, hK, hlk, hA, hR⟩ := C
  intro H locs ls hP hD hS hl
  refine lv_ldc2 hx hb hown (hts _ hw) d ?_
  exact kk H locs ls hP hD hS hl
theorem jw_goto {off : Int} {tgt : Nat} (C : JC G X rm cc own nL) (d : decode cc pc = .ok (.goto off, 3)) (ht : (pc : Int) + off = (tgt : Int)) (kk : JW G X k n w (tgt) L (rest)) : JW G X k n w (pc) L (rest) := by
  obtain ⟨p, l, e, R, s, m, args, below, meth, c, Q, A⟩ := X
  obtain ⟨hx, hb, hml, hown, hts, hnw, hK, hlk, hA, hR⟩ := C
  intro H locs ls hP hD hS hl
  refine lv_goto hx hb d ht ?_
  exact kk H locs ls hP hD hS hl
theorem jw_icmp_lt {a b : Int} {off : Int} {tgt : Nat} (C : JC G X rm cc own nL) (d : decode cc pc = .ok (.if_icmp .lt off, 3)) (ht : (pc : Int) + off = (tgt : Int)) (ra : jr a) (rb : jr b) (kt : a < b → JW G X k n w (tgt) L (rest)) (kf : ¬ (a < b) → JW G X k n w (pc + 3) L (rest)) : JW G X k n w (pc) L (.int (iI b) :: .int (iI a) :: rest) := by
  obtain ⟨p, l, e, R, s, m, args, below, meth, c, Q, A⟩ := X
  obtain ⟨hx, hb, hml, hown, hts, hnw, hK, hlk, hA, hR⟩ := C
  intro H locs ls hP hD hS hl
  refine lv_icmp_lt hx hb d ht (fun h => ?_) (fun h => ?_)
  · exact kt ((iI_lt ra rb).mp h) H locs ls hP hD hS hl
  · exact kf (fun e => h ((iI_lt ra rb).mpr e)) H locs ls hP hD hS hl
theorem jw_if_lt {a : Int} {off : Int} {tgt : Nat} (C : JC G X rm cc own nL) (d : decode cc pc = .ok (.ifCond .lt off, 3)) (ht : (pc : Int) + off = (tgt : Int)) (ra : jr a) (kt : a < 0 → JW G X k n w (tgt) L (rest)) (kf : ¬ (a < 0) → JW G X k n w (pc + 3) L (rest)) : JW G X k n w (pc) L (.int (iI a) :: rest) := by
  obtain ⟨p, l, e, R, s, m, args, below, meth, c, Q, A⟩ := X
  obtain ⟨hx, hb, hml, hown, hts, hnw, hK, hlk, hA, hR⟩ := C
  intro H locs ls hP hD hS hl
  refine lv_if_lt hx hb d ht (fun h => ?_) (fun h => ?_)
  · exact kt ((iI_lt ra ⟨by decide, by decide⟩).mp h) H locs ls hP hD hS hl
  · exact kf (fun e => h ((iI_lt ra ⟨by decide, by decide⟩).mpr e)) H locs ls hP hD hS hl
theorem jw_if_lt_r {x : Int32} {off : Int} {tgt : Nat} (C : JC G X rm cc own nL) (d : decode cc pc = .ok (.ifCond .lt off, 3)) (ht : (pc : Int) + off = (tgt : Int)) (kt : x < 0 → JW G X k n w (tgt) L (rest)) (kf : ¬ (x < 0) → JW G X k n w (pc + 3) L (rest)) : JW G X k n w (pc) L (.int x :: rest) := by
  obtain ⟨p, l, e, R, s, m, args, below, meth, c, Q, A⟩ := X
  obtain ⟨hx, hb, hml, hown, hts, hnw, hK, hlk, hA, hR⟩ := C
  intro H locs ls hP hD hS hl
  refine lv_if_lt hx hb d ht (fun h => ?_) (fun h => ?_)
  · exact kt h H locs ls hP hD hS hl
  · exact kf h H locs ls hP hD hS hl
theorem jw_icmp_lt_r {x y : Int32} {off : Int} {tgt : Nat} (C : JC G X rm cc own nL) (d : decode cc pc = .ok (.if_icmp .lt off, 3)) (ht : (pc : Int) + off = (tgt : Int)) (kt : x < y → JW G X k n w (tgt) L (rest)) (kf : ¬ (x < y) → JW G X k n w (pc + 3) L (rest)) : JW G X k n w (pc) L (.int y :: .int x :: rest) := by
  obtain ⟨p, l, e, R, s, m, args, below, meth, c, Q, A⟩ := X
  obtain ⟨hx, hb, hml, hown, hts, hnw, hK, hlk, hA, hR⟩ := C
  intro H locs ls hP hD hS hl
  refine lv_icmp_lt hx hb d ht (fun h => ?_) (fun h => ?_)
  · exact kt h H locs ls hP hD hS hl
  · exact kf h H locs ls hP hD hS hl
theorem jw_icmp_ge {a b : Int} {off : Int} {tgt : Nat} (C : JC G X rm cc own nL) (d : decode cc pc = .ok (.if_icmp .ge off, 3)) (ht : (pc : Int) + off = (tgt : Int)) (ra : jr a) (rb : jr b) (kt : b ≤ a → JW G X k n w (tgt) L (rest)) (kf : ¬ (b ≤ a) → JW G X k n w (pc + 3) L (rest)) : JW G X k n w (pc) L (.int (iI b) :: .int (iI a) :: rest) := by
  obtain ⟨p, l, e, R, s, m, args, below, meth, c, Q, A⟩ := X
  obtain ⟨hx, hb, hml, hown, hts, hnw, hK, hlk, hA, hR⟩ := C
  intro H locs ls hP hD hS hl
  refine lv_icmp_ge hx hb d ht (fun h => ?_) (fun h => ?_)
  · exact kt ((iI_le rb ra).mp h) H locs ls hP hD hS hl
  · exact kf (fun e => h ((iI_le rb ra).mpr e)) H locs ls hP hD hS hl
theorem jw_if_ge {a : Int} {off : Int} {tgt : Nat} (C : JC G X rm cc own nL) (d : decode cc pc = .ok (.ifCond .ge off, 3)) (ht : (pc : Int) + off = (tgt : Int)) (ra : jr a) (kt : 0 ≤ a → JW G X k n w (tgt) L (rest)) (kf : ¬ (0 ≤ a) → JW G X k n w (pc + 3) L (rest)) : JW G X k n w (pc) L (.int (iI a) :: rest) := by
  obtain ⟨p, l, e, R, s, m, args, below, meth, c, Q, A⟩ := X
  obtain ⟨hx, hb, hml, hown, hts, hnw, hK, hlk, hA, hR⟩ := C
  intro H locs ls hP hD hS hl
  refine lv_if_ge hx hb d ht (fun h => ?_) (fun h => ?_)
  · exact kt ((iI_le ⟨by decide, by decide⟩ ra).mp h) H locs ls hP hD hS hl
  · exact kf (fun e => h ((iI_le ⟨by decide, by decide⟩ ra).mpr e)) H locs ls hP hD hS hl
theorem jw_if_ge_r {x : Int32} {off : Int} {tgt : Nat} (C : JC G X rm cc own nL) (d : decode cc pc = .ok (.ifCond .ge off, 3)) (ht : (pc : Int) + off = (tgt : Int)) (kt : 0 ≤ x → JW G X k n w (tgt) L (rest)) (kf : ¬ (0 ≤ x) → JW G X k n w (pc + 3) L (rest)) : JW G X k n w (pc) L (.int x :: rest) := by
  obtain ⟨p, l, e, R, s, m, args, below, meth, c, Q, A⟩ := X
  obtain ⟨hx, hb, hml, hown, hts, hnw, hK, hlk, hA, hR⟩ := C
  intro H locs ls hP hD hS hl
  refine lv_if_ge hx hb d ht (fun h => ?_) (fun h => ?_)
  · exact kt h H locs ls hP hD hS hl
  · exact kf h H locs ls hP hD hS hl
theorem jw_icmp_ge_r {x y : Int32} {off : Int} {tgt : Nat} (C : JC G X rm cc own nL) (d : decode cc pc = .ok (.if_icmp .ge off, 3)) (ht : (pc : Int) + off = (tgt : Int)) (kt : y ≤ x → JW G X k n w (tgt) L (rest)) (kf : ¬ (y ≤ x) → JW G X k n w (pc + 3) L (rest)) : JW G X k n w (pc) L (.int y :: .int x :: rest) := by
  obtain ⟨p, l, e, R, s, m, args, below, meth, c, Q, A⟩ := X
  obtain ⟨hx, hb, hml, hown, hts, hnw, hK, hlk, hA, hR⟩ := C
  intro H locs ls hP hD hS hl
  refine lv_icmp_ge hx hb d ht (fun h => ?_) (fun h => ?_)
  · exact kt h H locs ls hP hD hS hl
  · exact kf h H locs ls hP hD hS hl
theorem jw_icmp_gt {a b : Int} {off : Int} {tgt : Nat} (C : JC G X rm cc own nL) (d : decode cc pc = .ok (.if_icmp .gt off, 3)) (ht : (pc : Int) + off = (tgt : Int)) (ra : jr a) (rb : jr b) (kt : b < a → JW G X k n w (tgt) L (rest)) (kf : ¬ (b < a) → JW G X k n w (pc + 3) L (rest)) : JW G X k n w (pc) L (.int (iI b) :: .int (iI a) :: rest) := by
  obtain ⟨p, l, e, R, s, m, args, below, meth, c, Q, A⟩ := X
  obtain ⟨hx, hb, hml, hown, hts, hnw, hK, hlk, hA, hR⟩ := C
  intro H locs ls hP hD hS hl
  refine lv_icmp_gt hx hb d ht (fun h => ?_) (fun h => ?_)
  · exact kt ((iI_lt rb ra).mp h) H locs ls hP hD hS hl
  · exact kf (fun e => h ((iI_lt rb ra).mpr e)) H locs ls hP hD hS hl
theorem jw_if_gt {a : Int} {off : Int} {tgt : Nat} (C : JC G X rm cc own nL) (d : decode cc pc = .ok (.ifCond .gt off, 3)) (ht : (pc : Int) + off = (tgt : Int)) (ra : jr a) (kt : 0 < a → JW G X k n w (tgt) L (rest)) (kf : ¬ (0 < a) → JW G X k n w (pc + 3) L (rest)) : JW G X k n w (pc) L (.int (iI a) :: rest) := by
  obtain ⟨p, l, e, R, s, m, args, below, meth, c, Q, A⟩ := X
  obtain ⟨hx, hb, hml, hown, hts, hnw, hK, hlk, hA, hR⟩ := C
  intro H locs ls hP hD hS hl
  refine lv_if_gt hx hb d ht (fun h => ?_) (fun h => ?_)
  · exact kt ((iI_lt ⟨by decide, by decide⟩ ra).mp h) H locs ls hP hD hS hl
  · exact kf (fun e => h ((iI_lt ⟨by decide, by decide⟩ ra).mpr e)) H locs ls hP hD hS hl
theorem jw_if_gt_r {x : Int32} {off : Int} {tgt : Nat} (C : JC G X rm cc own nL) (d : decode cc pc = .ok (.ifCond .gt off, 3)) (ht : (pc : Int) + off = (tgt : Int)) (kt : 0 < x → JW G X k n w (tgt) L (rest)) (kf : ¬ (0 < x) → JW G X k n w (pc + 3) L (rest)) : JW G X k n w (pc) L (.int x :: rest) := by
  obtain ⟨p, l, e, R, s, m, args, below, meth, c, Q, A⟩ := X
  obtain ⟨hx, hb, hml, hown, hts, hnw, hK, hlk, hA, hR⟩ := C
  intro H locs ls hP hD hS hl
  refine lv_if_gt hx hb d ht (fun h => ?_) (fun h => ?_)
  · exact kt h H locs ls hP hD hS hl
  · exact kf h H locs ls hP hD hS hl
theorem jw_icmp_gt_r {x y : Int32} {off : Int} {tgt : Nat} (C : JC G X rm cc own nL) (d : decode cc pc = .ok (.if_icmp .gt off, 3)) (ht : (pc : Int) + off = (tgt : Int)) (kt : y < x → JW G X k n w (tgt) L (rest)) (kf : ¬ (y < x) → JW G X k n w (pc + 3) L (rest)) : JW G X k n w (pc) L (.int y :: .int x :: rest) := by
  obtain ⟨p, l, e, R, s, m, args, below, meth, c, Q, A⟩ := X
  obtain ⟨hx, hb, hml, hown, hts, hnw, hK, hlk, hA, hR⟩ := C
  intro H locs ls hP hD hS hl
  refine lv_icmp_gt hx hb d ht (fun h => ?_) (fun h => ?_)
  · exact kt h H locs ls hP hD hS hl
  · exact kf h H locs ls hP hD hS hl
theorem jw_icmp_le {a b : Int} {off : Int} {tgt : Nat} (C : JC G X rm cc own nL) (d : decode cc pc = .ok (.if_icmp .le off, 3)) (ht : (pc : Int) + off = (tgt : Int)) (ra : jr a) (rb : jr b) (kt : a ≤ b → JW G X k n w (tgt) L (rest)) (kf : ¬ (a ≤ b) → JW G X k n w (pc + 3) L (rest)) : JW G X k n w (pc) L (.int (iI b) :: .int (iI a) :: rest) := by
  obtain ⟨p, l, e, R, s, m, args, below, meth, c, Q, A⟩ := X
  obtain ⟨hx, hb, hml, hown, hts, hnw, hK, hlk, hA, hR⟩ := C
  intro H locs ls hP hD hS hl
  refine lv_icmp_le hx hb d ht (fun h => ?_) (fun h => ?_)
  · exact kt ((iI_le ra rb).mp h) H locs ls hP hD hS hl
  · exact kf (fun e => h ((iI_le ra rb).mpr e)) H locs ls hP hD hS hl
theorem jw_if_le {a : Int} {off : Int} {tgt : Nat} (C : JC G X rm cc own nL) (d : decode cc pc = .ok (.ifCond .le off, 3)) (ht : (pc : Int) + off = (tgt : Int)) (ra : jr a) (kt : a ≤ 0 → JW G X k n w (tgt) L (rest)) (kf : ¬ (a ≤ 0) → JW G X k n w (pc + 3) L (rest)) : JW G X k n w (pc) L (.int (iI a) :: rest) := by
  obtain ⟨p, l, e, R, s, m, args, below, meth, c, Q, A⟩ := X
  obtain ⟨hx, hb, hml, hown, hts, hnw, hK, hlk, hA, hR⟩ := C
  intro H locs ls hP hD hS hl
  refine lv_if_le hx hb d ht (fun h => ?_) (fun h => ?_)
  · exact kt ((iI_le ra ⟨by decide, by decide⟩).mp h) H locs ls hP hD hS hl
  · exact kf (fun e => h ((iI_le ra ⟨by decide, by decide⟩).mpr e)) H locs ls hP hD hS hl
theorem jw_if_le_r {x : Int32} {off : Int} {tgt : Nat} (C : JC G X rm cc own nL) (d : decode cc pc = .ok (.ifCond .le off, 3)) (ht : (pc : Int) + off = (tgt : Int)) (kt : x ≤ 0 → JW G X k n w (tgt) L (rest)) (kf : ¬ (x ≤ 0) → JW G X k n w (pc + 3) L (rest)) : JW G X k n w (pc) L (.int x :: rest) := by
  obtain ⟨p, l, e, R, s, m, args, below, meth, c, Q, A⟩ := X
  obtain ⟨hx, hb, hml, hown, hts, hnw, hK, hlk, hA, hR⟩ := C
  intro H locs ls hP hD hS hl
  refine lv_if_le hx hb d ht (fun h => ?_) (fun h => ?_)
  · exact kt h H locs ls hP hD hS hl
  · exact kf h H locs ls hP hD hS hl
theorem jw_icmp_le_r {x y : Int32} {off : Int} {tgt : Nat} (C : JC G X rm cc own nL) (d : decode cc pc = .ok (.if_icmp .le off, 3)) (ht : (pc : Int) + off = (tgt : Int)) (kt : x ≤ y → JW G X k n w (tgt) L (rest)) (kf : ¬ (x ≤ y) → JW G X k n w (pc + 3) L (rest)) : JW G X k n w (pc) L (.int y :: .int x :: rest) := by
  obtain ⟨p, l, e, R, s, m, args, below, meth, c, Q, A⟩ := X
  obtain ⟨hx, hb, hml, hown, hts, hnw, hK, hlk, hA, hR⟩ := C
  intro H locs ls hP hD hS hl
  refine lv_icmp_le hx hb d ht (fun h => ?_) (fun h => ?_)
  · exact kt h H locs ls hP hD hS hl
  · exact kf h H locs ls hP hD hS hl
theorem jw_icmp_eq {a b : Int} {off : Int} {tgt : Nat} (C : JC G X rm cc own nL) (d : decode cc pc = .ok (.if_icmp .eq off, 3)) (ht : (pc : Int) + off = (tgt : Int)) (ra : jr a) (rb : jr b) (kt : a = b → JW G X k n w (tgt) L (rest)) (kf : ¬ (a = b) → JW G X k n w (pc + 3) L (rest)) : JW G X k n w (pc) L (.int (iI b) :: .int (iI a) :: rest) := by
  obtain ⟨p, l, e, R, s, m, args, below, meth, c, Q, A⟩ := X
  obtain ⟨hx, hb, hml, hown, hts, hnw, hK, hlk, hA, hR⟩ := C
  intro H locs ls hP hD hS hl
  refine lv_icmp_eq hx hb d ht (fun h => ?_) (fun h => ?_)
  · exact kt ((iI_eq ra rb).mp h) H locs ls hP hD hS hl
  · exact kf (fun e => h ((iI_eq ra rb).mpr e)) H locs ls hP hD hS hl
theorem jw_if_eq {a : Int} {off : Int} {tgt : Nat} (C : JC G X rm cc own nL) (d : decode cc pc = .ok (.ifCond .eq off, 3)) (ht : (pc : Int) + off = (tgt : Int)) (ra : jr a) (kt : a = 0 → JW G X k n w (tgt) L (rest)) (kf : ¬ (a = 0) → JW G X k n w (pc + 3) L (rest)) : JW G X k n w (pc) L (.int (iI a) :: rest) := by
  obtain ⟨p, l, e, R, s, m, args, below, meth, c, Q, A⟩ := X
  obtain ⟨hx, hb, hml, hown, hts, hnw, hK, hlk, hA, hR⟩ := C
  intro H locs ls hP hD hS hl
  refine lv_if_eq hx hb d ht (fun h => ?_) (fun h => ?_)
  · exact kt ((iI_eq ra ⟨by decide, by decide⟩).mp h) H locs ls hP hD hS hl
  · exact kf (fun e => h ((iI_eq ra ⟨by decide, by decide⟩).mpr e)) H locs ls hP hD hS hl
theorem jw_if_eq_r {x : Int32} {off : Int} {tgt : Nat} (C : JC G X rm cc own nL) (d : decode cc pc = .ok (.ifCond .eq off, 3)) (ht : (pc : Int) + off = (tgt : Int)) (kt : x = 0 → JW G X k n w (tgt) L (rest)) (kf : ¬ (x = 0) → JW G X k n w (pc + 3) L (rest)) : JW G X k n w (pc) L (.int x :: rest) := by
  obtain ⟨p, l, e, R, s, m, args, below, meth, c, Q, A⟩ := X
  obtain ⟨hx, hb, hml, hown, hts, hnw, hK, hlk, hA, hR⟩ := C
  intro H locs ls hP hD hS hl
  refine lv_if_eq hx hb d ht (fun h => ?_) (fun h => ?_)
  · exact kt h H locs ls hP hD hS hl
  · exact kf h H locs ls hP hD hS hl
theorem jw_icmp_eq_r {x y : Int32} {off : Int} {tgt : Nat} (C : JC G X rm cc own nL) (d : decode cc pc = .ok (.if_icmp .eq off, 3)) (ht : (pc : Int) + off = (tgt : Int)) (kt : x = y → JW G X k n w (tgt) L (rest)) (kf : ¬ (x = y) → JW G X k n w (pc + 3) L (rest)) : JW G X k n w (pc) L (.int y :: .int x :: rest) := by
  obtain ⟨p, l, e, R, s, m, args, below, meth, c, Q, A⟩ := X
  obtain ⟨hx, hb, hml, hown, hts, hnw, hK, hlk, hA, hR⟩ := C
  intro H locs ls hP hD hS hl
  refine lv_icmp_eq hx hb d ht (fun h => ?_) (fun h => ?_)
  · exact kt h H locs ls hP hD hS hl
  · exact kf h H locs ls hP hD hS hl
theorem jw_icmp_ne {a b : Int} {off : Int} {tgt : Nat} (C : JC G X rm cc own nL) (d : decode cc pc = .ok (.if_icmp .ne off, 3)) (ht : (pc : Int) + off = (tgt : Int)) (ra : jr a) (rb : jr b) (kt : ¬ a = b → JW G X k n w (tgt) L (rest)) (kf : a = b → JW G X k n w (pc + 3) L (rest)) : JW G X k n w (pc) L (.int (iI b) :: .int (iI a) :: rest) := by
  obtain ⟨p, l, e, R, s, m, args, below, meth, c, Q, A⟩ := X
  obtain ⟨hx, hb, hml, hown, hts, hnw, hK, hlk, hA, hR⟩ := C
  intro H locs ls hP hD hS hl
  refine lv_icmp_ne hx hb d ht (fun h => ?_) (fun h => ?_)
  · exact kt (fun e => absurd ((iI_eq ra rb).mpr e) (by first | exact h | (intro h2; exact h h2))) H locs ls hP hD hS hl
  · exact kf ((iI_eq ra rb).mp (by first | exact h | exact Decidable.not_not.mp h)) H locs ls hP hD hS hl
theorem jw_if_ne {a : Int} {off : Int} {tgt : Nat} (C : JC G X rm cc own nL) (d : decode cc pc = .ok (.ifCond .ne off, 3)) (ht : (pc : Int) + off = (tgt : Int)) (ra : jr a) (kt : ¬ a = 0 → JW G X k n w (tgt) L (rest)) (kf : a = 0 → JW G X k n w (pc + 3) L (rest)) : JW G X k n w (pc) L (.int (iI a) :: rest) := by
  obtain ⟨p, l, e, R, s, m, args, below, meth, c, Q, A⟩ := X
  obtain ⟨hx, hb, hml, hown, hts, hnw, hK, hlk, hA, hR⟩ := C
  intro H locs ls hP hD hS hl
  refine lv_if_ne hx hb d ht (fun h => ?_) (fun h => ?_)
  · exact kt (fun e => absurd ((iI_eq ra ⟨by decide, by decide⟩).mpr e) (by first | exact h | (intro h2; exact h h2))) H locs ls hP hD hS hl
  · exact kf ((iI_eq ra ⟨by decide, by decide⟩).mp (by first | exact h | exact Decidable.not_not.mp h)) H locs ls hP hD hS hl
theorem jw_if_ne_r {x : Int32} {off : Int} {tgt : Nat} (C : JC G X rm cc own nL) (d : decode cc pc = .ok (.ifCond .ne off, 3)) (ht : (pc : Int) + off = (tgt : Int)) (kt : ¬ x = 0 → JW G X k n w (tgt) L (rest)) (kf : x = 0 → JW G X k n w (pc + 3) L (rest)) : JW G X k n w (pc) L (.int x :: rest) := by
  obtain ⟨p, l, e, R, s, m, args, below, meth, c, Q, A⟩ := X
  obtain ⟨hx, hb, hml, hown, hts, hnw, hK, hlk, hA, hR⟩ := C
  intro H locs ls hP hD hS hl
  refine lv_if_ne hx hb d ht (fun h => ?_) (fun h => ?_)
  · exact kt (by first | exact h | (intro h2; exact h h2)) H locs ls hP hD hS hl
  · exact kf (by first | exact h | exact Decidable.not_not.mp h) H locs ls hP hD hS hl
theorem jw_icmp_ne_r {x y : Int32} {off : Int} {tgt : Nat} (C : JC G X rm cc own nL) (d : decode cc pc = .ok (.if_icmp .ne off, 3)) (ht : (pc : Int) + off = (tgt : Int)) (kt : ¬ x = y → JW G X k n w (tgt) L (rest)) (kf : x = y → JW G X k n w (pc + 3) L (rest)) : JW G X k n w (pc) L (.int y :: .int x :: rest) := by
  obtain ⟨p, l, e, R, s, m, args, below, meth, c, Q, A⟩ := X
  obtain ⟨hx, hb, hml, hown, hts, hnw, hK, hlk, hA, hR⟩ := C
  intro H locs ls hP hD hS hl
  refine lv_icmp_ne hx hb d ht (fun h => ?_) (fun h => ?_)
  · exact kt (by first | exact h | (intro h2; exact h h2)) H locs ls hP hD hS hl
  · exact kf (by first | exact h | exact Decidable.not_not.mp h) H locs ls hP hD hS hl
theorem jb_ne {b : Bool} : jb b = 0 ↔ b = false := by cases b <;> decide
theorem jw_if_eq_b {b : Bool} {off : Int} {tgt : Nat} (C : JC G X rm cc own nL) (d : decode cc pc = .ok (.ifCond .eq off, 3)) (ht : (pc : Int) + off = (tgt : Int)) (kt : b = false → JW G X k n w (tgt) L (rest)) (kf : b = true → JW G X k n w (pc + 3) L (rest)) : JW G X k n w (pc) L (.int (jb b) :: rest) := by
  obtain ⟨p, l, e, R, s, m, args, below, meth, c, Q, A⟩ := X
  obtain ⟨hx, hb, hml, hown, hts, hnw, hK, hlk, hA, hR⟩ := C
  intro H locs ls hP hD hS hl
  refine lv_if_eq hx hb d ht (fun h => ?_) (fun h => ?_)
  · exact kt (by cases b <;> first | rfl | exact absurd h (by decide)) H locs ls hP hD hS hl
  · exact kf (by cases b <;> first | rfl | exact absurd h (by decide)) H locs ls hP hD hS hl
theorem jw_if_ne_b {b : Bool} {off : Int} {tgt : Nat} (C : JC G X rm cc own nL) (d : decode cc pc = .ok (.ifCond .ne off, 3)) (ht : (pc : Int) + off = (tgt : Int)) (kt : b = true → JW G X k n w (tgt) L (rest)) (kf : b = false → JW G X k n w (pc + 3) L (rest)) : JW G X k n w (pc) L (.int (jb b) :: rest) := by
  obtain ⟨p, l, e, R, s, m, args, below, meth, c, Q, A⟩ := X
  obtain ⟨hx, hb, hml, hown, hts, hnw, hK, hlk, hA, hR⟩ := C
  intro H locs ls hP hD hS hl
  refine lv_if_ne hx hb d ht (fun h => ?_) (fun h => ?_)
  · exact kt (by cases b <;> first | rfl | exact absurd h (by decide)) H locs ls hP hD hS hl
  · exact kf (by cases b <;> first | rfl | exact absurd h (by decide)) H locs ls hP hD hS hl
theorem jw_iload_0 {x : Int32} {t : List (Option Value)} (C : JC G X rm cc own nL) (d : decode cc pc = .ok (.iload_n 0, 1)) (kk : JW G X k n w (pc + 1) (some (.int x) :: t) (.int x :: rest)) : JW G X k n w (pc) (some (.int x) :: t) (rest) := by
  obtain ⟨p, l, e, R, s, m, args, below, meth, c, Q, A⟩ := X
  obtain ⟨hx, hb, hml, hown, hts, hnw, hK, hlk, hA, hR⟩ := C
  intro H locs ls hP hD hS hl
  refine lv_iload_n hx hb d rfl (hl.2.2 (0, .int x) ((jl0_mem _ _ _).mpr ⟨0, rfl, by omega⟩)) ?_
  exact kk H locs ls hP hD hS hl
theorem jw_iload_1 {a0 : Option Value} {x : Int32} {t : List (Option Value)} (C : JC G X rm cc own nL) (d : decode cc pc = .ok (.iload_n 1, 1)) (kk : JW G X k n w (pc + 1) (a0 :: some (.int x) :: t) (.int x :: rest)) : JW G X k n w (pc) (a0 :: some (.int x) :: t) (rest) := by
  obtain ⟨p, l, e, R, s, m, args, below, meth, c, Q, A⟩ := X
  obtain ⟨hx, hb, hml, hown, hts, hnw, hK, hlk, hA, hR⟩ := C
  intro H locs ls hP hD hS hl
  refine lv_iload_n hx hb d rfl (hl.2.2 (1, .int x) ((jl0_mem _ _ _).mpr ⟨1, rfl, by omega⟩)) ?_
  exact kk H locs ls hP hD hS hl
theorem jw_iload_2 {a0 a1 : Option Value} {x : Int32} {t : List (Option Value)} (C : JC G X rm cc own nL) (d : decode cc pc = .ok (.iload_n 2, 1)) (kk : JW G X k n w (pc + 1) (a0 :: a1 :: some (.int x) :: t) (.int x :: rest)) : JW G X k n w (pc) (a0 :: a1 :: some (.int x) :: t) (rest) := by
  obtain ⟨p, l, e, R, s, m, args, below, meth, c, Q, A⟩ := X
  obtain ⟨hx, hb, hml, hown, hts, hnw, hK, hlk, hA, hR⟩ := C
  intro H locs ls hP hD hS hl
  refine lv_iload_n hx hb d rfl (hl.2.2 (2, .int x) ((jl0_mem _ _ _).mpr ⟨2, rfl, by omega⟩)) ?_
  exact kk H locs ls hP hD hS hl
theorem jw_iload_3 {a0 a1 a2 : Option Value} {x : Int32} {t : List (Option Value)} (C : JC G X rm cc own nL) (d : decode cc pc = .ok (.iload_n 3, 1)) (kk : JW G X k n w (pc + 1) (a0 :: a1 :: a2 :: some (.int x) :: t) (.int x :: rest)) : JW G X k n w (pc) (a0 :: a1 :: a2 :: some (.int x) :: t) (rest) := by
  obtain ⟨p, l, e, R, s, m, args, below, meth, c, Q, A⟩ := X
  obtain ⟨hx, hb, hml, hown, hts, hnw, hK, hlk, hA, hR⟩ := C
  intro H locs ls hP hD hS hl
  refine lv_iload_n hx hb d rfl (hl.2.2 (3, .int x) ((jl0_mem _ _ _).mpr ⟨3, rfl, by omega⟩)) ?_
  exact kk H locs ls hP hD hS hl
theorem jw_iload_4 {a0 a1 a2 a3 : Option Value} {x : Int32} {t : List (Option Value)} (C : JC G X rm cc own nL) (d : decode cc pc = .ok (.iload 4, 2)) (kk : JW G X k n w (pc + 2) (a0 :: a1 :: a2 :: a3 :: some (.int x) :: t) (.int x :: rest)) : JW G X k n w (pc) (a0 :: a1 :: a2 :: a3 :: some (.int x) :: t) (rest) := by
  obtain ⟨p, l, e, R, s, m, args, below, meth, c, Q, A⟩ := X
  obtain ⟨hx, hb, hml, hown, hts, hnw, hK, hlk, hA, hR⟩ := C
  intro H locs ls hP hD hS hl
  refine lv_iload hx hb d (hl.2.2 (4, .int x) ((jl0_mem _ _ _).mpr ⟨4, rfl, by omega⟩)) ?_
  exact kk H locs ls hP hD hS hl
theorem jw_iload_5 {a0 a1 a2 a3 a4 : Option Value} {x : Int32} {t : List (Option Value)} (C : JC G X rm cc own nL) (d : decode cc pc = .ok (.iload 5, 2)) (kk : JW G X k n w (pc + 2) (a0 :: a1 :: a2 :: a3 :: a4 :: some (.int x) :: t) (.int x :: rest)) : JW G X k n w (pc) (a0 :: a1 :: a2 :: a3 :: a4 :: some (.int x) :: t) (rest) := by
  obtain ⟨p, l, e, R, s, m, args, below, meth, c, Q, A⟩ := X
  obtain ⟨hx, hb, hml, hown, hts, hnw, hK, hlk, hA, hR⟩ := C
  intro H locs ls hP hD hS hl
  refine lv_iload hx hb d (hl.2.2 (5, .int x) ((jl0_mem _ _ _).mpr ⟨5, rfl, by omega⟩)) ?_
  exact kk H locs ls hP hD hS hl
theorem jw_iload_6 {a0 a1 a2 a3 a4 a5 : Option Value} {x : Int32} {t : List (Option Value)} (C : JC G X rm cc own nL) (d : decode cc pc = .ok (.iload 6, 2)) (kk : JW G X k n w (pc + 2) (a0 :: a1 :: a2 :: a3 :: a4 :: a5 :: some (.int x) :: t) (.int x :: rest)) : JW G X k n w (pc) (a0 :: a1 :: a2 :: a3 :: a4 :: a5 :: some (.int x) :: t) (rest) := by
  obtain ⟨p, l, e, R, s, m, args, below, meth, c, Q, A⟩ := X
  obtain ⟨hx, hb, hml, hown, hts, hnw, hK, hlk, hA, hR⟩ := C
  intro H locs ls hP hD hS hl
  refine lv_iload hx hb d (hl.2.2 (6, .int x) ((jl0_mem _ _ _).mpr ⟨6, rfl, by omega⟩)) ?_
  exact kk H locs ls hP hD hS hl
theorem jw_iload_7 {a0 a1 a2 a3 a4 a5 a6 : Option Value} {x : Int32} {t : List (Option Value)} (C : JC G X rm cc own nL) (d : decode cc pc = .ok (.iload 7, 2)) (kk : JW G X k n w (pc + 2) (a0 :: a1 :: a2 :: a3 :: a4 :: a5 :: a6 :: some (.int x) :: t) (.int x :: rest)) : JW G X k n w (pc) (a0 :: a1 :: a2 :: a3 :: a4 :: a5 :: a6 :: some (.int x) :: t) (rest) := by
  obtain ⟨p, l, e, R, s, m, args, below, meth, c, Q, A⟩ := X
  obtain ⟨hx, hb, hml, hown, hts, hnw, hK, hlk, hA, hR⟩ := C
  intro H locs ls hP hD hS hl
  refine lv_iload hx hb d (hl.2.2 (7, .int x) ((jl0_mem _ _ _).mpr ⟨7, rfl, by omega⟩)) ?_
  exact kk H locs ls hP hD hS hl
theorem jw_iload_8 {a0 a1 a2 a3 a4 a5 a6 a7 : Option Value} {x : Int32} {t : List (Option Value)} (C : JC G X rm cc own nL) (d : decode cc pc = .ok (.iload 8, 2)) (kk : JW G X k n w (pc + 2) (a0 :: a1 :: a2 :: a3 :: a4 :: a5 :: a6 :: a7 :: some (.int x) :: t) (.int x :: rest)) : JW G X k n w (pc) (a0 :: a1 :: a2 :: a3 :: a4 :: a5 :: a6 :: a7 :: some (.int x) :: t) (rest) := by
  obtain ⟨p, l, e, R, s, m, args, below, meth, c, Q, A⟩ := X
  obtain ⟨hx, hb, hml, hown, hts, hnw, hK, hlk, hA, hR⟩ := C
  intro H locs ls hP hD hS hl
  refine lv_iload hx hb d (hl.2.2 (8, .int x) ((jl0_mem _ _ _).mpr ⟨8, rfl, by omega⟩)) ?_
  exact kk H locs ls hP hD hS hl
theorem jw_iload_9 {a0 a1 a2 a3 a4 a5 a6 a7 a8 : Option Value} {x : Int32} {t : List (Option Value)} (C : JC G X rm cc own nL) (d : decode cc pc = .ok (.iload 9, 2)) (kk : JW G X k n w (pc + 2) (a0 :: a1 :: a2 :: a3 :: a4 :: a5 :: a6 :: a7 :: a8 :: some (.int x) :: t) (.int x :: rest)) : JW G X k n w (pc) (a0 :: a1 :: a2 :: a3 :: a4 :: a5 :: a6 :: a7 :: a8 :: some (.int x) :: t) (rest) := by
  obtain ⟨p, l, e, R, s, m, args, below, meth, c, Q, A⟩ := X
  obtain ⟨hx, hb, hml, hown, hts, hnw, hK, hlk, hA, hR⟩ := C
  intro H locs ls hP hD hS hl
  refine lv_iload hx hb d (hl.2.2 (9, .int x) ((jl0_mem _ _ _).mpr ⟨9, rfl, by omega⟩)) ?_
  exact kk H locs ls hP hD hS hl
theorem jw_iload_10 {a0 a1 a2 a3 a4 a5 a6 a7 a8 a9 : Option Value} {x : Int32} {t : List (Option Value)} (C : JC G X rm cc own nL) (d : decode cc pc = .ok (.iload 10, 2)) (kk : JW G X k n w (pc + 2) (a0 :: a1 :: a2 :: a3 :: a4 :: a5 :: a6 :: a7 :: a8 :: a9 :: some (.int x) :: t) (.int x :: rest)) : JW G X k n w (pc) (a0 :: a1 :: a2 :: a3 :: a4 :: a5 :: a6 :: a7 :: a8 :: a9 :: some (.int x) :: t) (rest) := by
  obtain ⟨p, l, e, R, s, m, args, below, meth, c, Q, A⟩ := X
  obtain ⟨hx, hb, hml, hown, hts, hnw, hK, hlk, hA, hR⟩ := C
  intro H locs ls hP hD hS hl
  refine lv_iload hx hb d (hl.2.2 (10, .int x) ((jl0_mem _ _ _).mpr ⟨10, rfl, by omega⟩)) ?_
  exact kk H locs ls hP hD hS hl
theorem jw_iload_11 {a0 a1 a2 a3 a4 a5 a6 a7 a8 a9 a10 : Option Value} {x : Int32} {t : List (Option Value)} (C : JC G X rm cc own nL) (d : decode cc pc = .ok (.iload 11, 2)) (kk : JW G X k n w (pc + 2) (a0 :: a1 :: a2 :: a3 :: a4 :: a5 :: a6 :: a7 :: a8 :: a9 :: a10 :: some (.int x) :: t) (.int x :: rest)) : JW G X k n w (pc) (a0 :: a1 :: a2 :: a3 :: a4 :: a5 :: a6 :: a7 :: a8 :: a9 :: a10 :: some (.int x) :: t) (rest) := by
  obtain ⟨p, l, e, R, s, m, args, below, meth, c, Q, A⟩ := X
  obtain ⟨hx, hb, hml, hown, hts, hnw, hK, hlk, hA, hR⟩ := C
  intro H locs ls hP hD hS hl
  refine lv_iload hx hb d (hl.2.2 (11, .int x) ((jl0_mem _ _ _).mpr ⟨11, rfl, by omega⟩)) ?_
  exact kk H locs ls hP hD hS hl
theorem jw_iload_12 {a0 a1 a2 a3 a4 a5 a6 a7 a8 a9 a10 a11 : Option Value} {x : Int32} {t : List (Option Value)} (C : JC G X rm cc own nL) (d : decode cc pc = .ok (.iload 12, 2)) (kk : JW G X k n w (pc + 2) (a0 :: a1 :: a2 :: a3 :: a4 :: a5 :: a6 :: a7 :: a8 :: a9 :: a10 :: a11 :: some (.int x) :: t) (.int x :: rest)) : JW G X k n w (pc) (a0 :: a1 :: a2 :: a3 :: a4 :: a5 :: a6 :: a7 :: a8 :: a9 :: a10 :: a11 :: some (.int x) :: t) (rest) := by
  obtain ⟨p, l, e, R, s, m, args, below, meth, c, Q, A⟩ := X
  obtain ⟨hx, hb, hml, hown, hts, hnw, hK, hlk, hA, hR⟩ := C
  intro H locs ls hP hD hS hl
  refine lv_iload hx hb d (hl.2.2 (12, .int x) ((jl0_mem _ _ _).mpr ⟨12, rfl, by omega⟩)) ?_
  exact kk H locs ls hP hD hS hl
theorem jw_iload_13 {a0 a1 a2 a3 a4 a5 a6 a7 a8 a9 a10 a11 a12 : Option Value} {x : Int32} {t : List (Option Value)} (C : JC G X rm cc own nL) (d : decode cc pc = .ok (.iload 13, 2)) (kk : JW G X k n w (pc + 2) (a0 :: a1 :: a2 :: a3 :: a4 :: a5 :: a6 :: a7 :: a8 :: a9 :: a10 :: a11 :: a12 :: some (.int x) :: t) (.int x :: rest)) : JW G X k n w (pc) (a0 :: a1 :: a2 :: a3 :: a4 :: a5 :: a6 :: a7 :: a8 :: a9 :: a10 :: a11 :: a12 :: some (.int x) :: t) (rest) := by
  obtain ⟨p, l, e, R, s, m, args, below, meth, c, Q, A⟩ := X
  obtain ⟨hx, hb, hml, hown, hts, hnw, hK, hlk, hA, hR⟩ := C
  intro H locs ls hP hD hS hl
  refine lv_iload hx hb d (hl.2.2 (13, .int x) ((jl0_mem _ _ _).mpr ⟨13, rfl, by omega⟩)) ?_
  exact kk H locs ls hP hD hS hl
theorem jw_iload_14 {a0 a1 a2 a3 a4 a5 a6 a7 a8 a9 a10 a11 a12 a13 : Option Value} {x : Int32} {t : List (Option Value)} (C : JC G X rm cc own nL) (d : decode cc pc = .ok (.iload 14, 2)) (kk : JW G X k n w (pc + 2) (a0 :: a1 :: a2 :: a3 :: a4 :: a5 :: a6 :: a7 :: a8 :: a9 :: a10 :: a11 :: a12 :: a13 :: some (.int x) :: t) (.int x :: rest)) : JW G X k n w (pc) (a0 :: a1 :: a2 :: a3 :: a4 :: a5 :: a6 :: a7 :: a8 :: a9 :: a10 :: a11 :: a12 :: a13 :: some (.int x) :: t) (rest) := by
  obtain ⟨p, l, e, R, s, m, args, below, meth, c, Q, A⟩ := X
  obtain ⟨hx, hb, hml, hown, hts, hnw, hK, hlk, hA, hR⟩ := C
  intro H locs ls hP hD hS hl
  refine lv_iload hx hb d (hl.2.2 (14, .int x) ((jl0_mem _ _ _).mpr ⟨14, rfl, by omega⟩)) ?_
  exact kk H locs ls hP hD hS hl
theorem jw_iload_15 {a0 a1 a2 a3 a4 a5 a6 a7 a8 a9 a10 a11 a12 a13 a14 : Option Value} {x : Int32} {t : List (Option Value)} (C : JC G X rm cc own nL) (d : decode cc pc = .ok (.iload 15, 2)) (kk : JW G X k n w (pc + 2) (a0 :: a1 :: a2 :: a3 :: a4 :: a5 :: a6 :: a7 :: a8 :: a9 :: a10 :: a11 :: a12 :: a13 :: a14 :: some (.int x) :: t) (.int x :: rest)) : JW G X k n w (pc) (a0 :: a1 :: a2 :: a3 :: a4 :: a5 :: a6 :: a7 :: a8 :: a9 :: a10 :: a11 :: a12 :: a13 :: a14 :: some (.int x) :: t) (rest) := by
  obtain ⟨p, l, e, R, s, m, args, below, meth, c, Q, A⟩ := X
  obtain ⟨hx, hb, hml, hown, hts, hnw, hK, hlk, hA, hR⟩ := C
  intro H locs ls hP hD hS hl
  refine lv_iload hx hb d (hl.2.2 (15, .int x) ((jl0_mem _ _ _).mpr ⟨15, rfl, by omega⟩)) ?_
  exact kk H locs ls hP hD hS hl
theorem jw_iload_16 {a0 a1 a2 a3 a4 a5 a6 a7 a8 a9 a10 a11 a12 a13 a14 a15 : Option Value} {x : Int32} {t : List (Option Value)} (C : JC G X rm cc own nL) (d : decode cc pc = .ok (.iload 16, 2)) (kk : JW G X k n w (pc + 2) (a0 :: a1 :: a2 :: a3 :: a4 :: a5 :: a6 :: a7 :: a8 :: a9 :: a10 :: a11 :: a12 :: a13 :: a14 :: a15 :: some (.int x) :: t) (.int x :: rest)) : JW G X k n w (pc) (a0 :: a1 :: a2 :: a3 :: a4 :: a5 :: a6 :: a7 :: a8 :: a9 :: a10 :: a11 :: a12 :: a13 :: a14 :: a15 :: some (.int x) :: t) (rest) := by
  obtain ⟨p, l, e, R, s, m, args, below, meth, c, Q, A⟩ := X
  obtain ⟨hx, hb, hml, hown, hts, hnw, hK, hlk, hA, hR⟩ := C
  intro H locs ls hP hD hS hl
  refine lv_iload hx hb d (hl.2.2 (16, .int x) ((jl0_mem _ _ _).mpr ⟨16, rfl, by omega⟩)) ?_
  exact kk H locs ls hP hD hS hl
theorem jw_iload_17 {a0 a1 a2 a3 a4 a5 a6 a7 a8 a9 a10 a11 a12 a13 a14 a15 a16 : Option Value} {x : Int32} {t : List (Option Value)} (C : JC G X rm cc own nL) (d : decode cc pc = .ok (.iload 17, 2)) (kk : JW G X k n w (pc + 2) (a0 :: a1 :: a2 :: a3 :: a4 :: a5 :: a6 :: a7 :: a8 :: a9 :: a10 :: a11 :: a12 :: a13 :: a14 :: a15 :: a16 :: some (.int x) :: t) (.int x :: rest)) : JW G X k n w (pc) (a0 :: a1 :: a2 :: a3 :: a4 :: a5 :: a6 :: a7 :: a8 :: a9 :: a10 :: a11 :: a12 :: a13 :: a14 :: a15 :: a16 :: some (.int x) :: t) (rest) := by
  obtain ⟨p, l, e, R, s, m, args, below, meth, c, Q, A⟩ := X
  obtain ⟨hx, hb, hml, hown, hts, hnw, hK, hlk, hA, hR⟩ := C
  intro H locs ls hP hD hS hl
  refine lv_iload hx hb d (hl.2.2 (17, .int x) ((jl0_mem _ _ _).mpr ⟨17, rfl, by omega⟩)) ?_
  exact kk H locs ls hP hD hS hl
theorem jw_iload_18 {a0 a1 a2 a3 a4 a5 a6 a7 a8 a9 a10 a11 a12 a13 a14 a15 a16 a17 : Option Value} {x : Int32} {t : List (Option Value)} (C : JC G X rm cc own nL) (d : decode cc pc = .ok (.iload 18, 2)) (kk : JW G X k n w (pc + 2) (a0 :: a1 :: a2 :: a3 :: a4 :: a5 :: a6 :: a7 :: a8 :: a9 :: a10 :: a11 :: a12 :: a13 :: a14 :: a15 :: a16 :: a17 :: some (.int x) :: t) (.int x :: rest)) : JW G X k n w (pc) (a0 :: a1 :: a2 :: a3 :: a4 :: a5 :: a6 :: a7 :: a8 :: a9 :: a10 :: a11 :: a12 :: a13 :: a14 :: a15 :: a16 :: a17 :: some (.int x) :: t) (rest) := by
  obtain ⟨p, l, e, R, s, m, args, below, meth, c, Q, A⟩ := X
  obtain ⟨hx, hb, hml, hown, hts, hnw, hK, hlk, hA, hR⟩ := C
  intro H locs ls hP hD hS hl
  refine lv_iload hx hb d (hl.2.2 (18, .int x) ((jl0_mem _ _ _).mpr ⟨18, rfl, by omega⟩)) ?_
  exact kk H locs ls hP hD hS hl
theorem jw_iload_19 {a0 a1 a2 a3 a4 a5 a6 a7 a8 a9 a10 a11 a12 a13 a14 a15 a16 a17 a18 : Option Value} {x : Int32} {t : List (Option Value)} (C : JC G X rm cc own nL) (d : decode cc pc = .ok (.iload 19, 2)) (kk : JW G X k n w (pc + 2) (a0 :: a1 :: a2 :: a3 :: a4 :: a5 :: a6 :: a7 :: a8 :: a9 :: a10 :: a11 :: a12 :: a13 :: a14 :: a15 :: a16 :: a17 :: a18 :: some (.int x) :: t) (.int x :: rest)) : JW G X k n w (pc) (a0 :: a1 :: a2 :: a3 :: a4 :: a5 :: a6 :: a7 :: a8 :: a9 :: a10 :: a11 :: a12 :: a13 :: a14 :: a15 :: a16 :: a17 :: a18 :: some (.int x) :: t) (rest) := by
  obtain ⟨p, l, e, R, s, m, args, below, meth, c, Q, A⟩ := X
  obtain ⟨hx, hb, hml, hown, hts, hnw, hK, hlk, hA, hR⟩ := C
  intro H locs ls hP hD hS hl
  refine lv_iload hx hb d (hl.2.2 (19, .int x) ((jl0_mem _ _ _).mpr ⟨19, rfl, by omega⟩)) ?_
  exact kk H locs ls hP hD hS hl
theorem jw_iload_20 {a0 a1 a2 a3 a4 a5 a6 a7 a8 a9 a10 a11 a12 a13 a14 a15 a16 a17 a18 a19 : Option Value} {x : Int32} {t : List (Option Value)} (C : JC G X rm cc own nL) (d : decode cc pc = .ok (.iload 20, 2)) (kk : JW G X k n w (pc + 2) (a0 :: a1 :: a2 :: a3 :: a4 :: a5 :: a6 :: a7 :: a8 :: a9 :: a10 :: a11 :: a12 :: a13 :: a14 :: a15 :: a16 :: a17 :: a18 :: a19 :: some (.int x) :: t) (.int x :: rest)) : JW G X k n w (pc) (a0 :: a1 :: a2 :: a3 :: a4 :: a5 :: a6 :: a7 :: a8 :: a9 :: a10 :: a11 :: a12 :: a13 :: a14 :: a15 :: a16 :: a17 :: a18 :: a19 :: some (.int x) :: t) (rest) := by
  obtain ⟨p, l, e, R, s, m, args, below, meth, c, Q, A⟩ := X
  obtain ⟨hx, hb, hml, hown, hts, hnw, hK, hlk, hA, hR⟩ := C
  intro H locs ls hP hD hS hl
  refine lv_iload hx hb d (hl.2.2 (20, .int x) ((jl0_mem _ _ _).mpr ⟨20, rfl, by omega⟩)) ?_
  exact kk H locs ls hP hD hS hl
theorem jw_iload_21 {a0 a1 a2 a3 a4 a5 a6 a7 a8 a9 a10 a11 a12 a13 a14 a15 a16 a17 a18 a19 a20 : Option Value} {x : Int32} {t : List (Option Value)} (C : JC G X rm cc own nL) (d : decode cc pc = .ok (.iload 21, 2)) (kk : JW G X k n w (pc + 2) (a0 :: a1 :: a2 :: a3 :: a4 :: a5 :: a6 :: a7 :: a8 :: a9 :: a10 :: a11 :: a12 :: a13 :: a14 :: a15 :: a16 :: a17 :: a18 :: a19 :: a20 :: some (.int x) :: t) (.int x :: rest)) : JW G X k n w (pc) (a0 :: a1 :: a2 :: a3 :: a4 :: a5 :: a6 :: a7 :: a8 :: a9 :: a10 :: a11 :: a12 :: a13 :: a14 :: a15 :: a16 :: a17 :: a18 :: a19 :: a20 :: some (.int x) :: t) (rest) := by
  obtain ⟨p, l, e, R, s, m, args, below, meth, c, Q, A⟩ := X
  obtain ⟨hx, hb, hml, hown, hts, hnw, hK, hlk, hA, hR⟩ := C
  intro H locs ls hP hD hS hl
  refine lv_iload hx hb d (hl.2.2 (21, .int x) ((jl0_mem _ _ _).mpr ⟨21, rfl, by omega⟩)) ?_
  exact kk H locs ls hP hD hS hl
theorem jw_iload_22 {a0 a1 a2 a3 a4 a5 a6 a7 a8 a9 a10 a11 a12 a13 a14 a15 a16 a17 a18 a19 a20 a21 : Option Value} {x : Int32} {t : List (Option Value)} (C : JC G X rm cc own nL) (d : decode cc pc = .ok (.iload 22, 2)) (kk : JW G X k n w (pc + 2) (a0 :: a1 :: a2 :: a3 :: a4 :: a5 :: a6 :: a7 :: a8 :: a9 :: a10 :: a11 :: a12 :: a13 :: a14 :: a15 :: a16 :: a17 :: a18 :: a19 :: a20 :: a21 :: some (.int x) :: t) (.int x :: rest)) : JW G X k n w (pc) (a0 :: a1 :: a2 :: a3 :: a4 :: a5 :: a6 :: a7 :: a8 :: a9 :: a10 :: a11 :: a12 :: a13 :: a14 :: a15 :: a16 :: a17 :: a18 :: a19 :: a20 :: a21 :: some (.int x) :: t) (rest) := by
  obtain ⟨p, l, e, R, s, m, args, below, meth, c, Q, A⟩ := X
  obtain ⟨hx, hb, hml, hown, hts, hnw, hK, hlk, hA, hR⟩ := C
  intro H locs ls hP hD hS hl
  refine lv_iload hx hb d (hl.2.2 (22, .int x) ((jl0_mem _ _ _).mpr ⟨22, rfl, by omega⟩)) ?_
  exact kk H locs ls hP hD hS hl
theorem jw_iload_23 {a0 a1 a2 a3 a4 a5 a6 a7 a8 a9 a10 a11 a12 a13 a14 a15 a16 a17 a18 a19 a20 a21 a22 : Option Value} {x : Int32} {t : List (Option Value)} (C : JC G X rm cc own nL) (d : decode cc pc = .ok (.iload 23, 2)) (kk : JW G X k n w (pc + 2) (a0 :: a1 :: a2 :: a3 :: a4 :: a5 :: a6 :: a7 :: a8 :: a9 :: a10 :: a11 :: a12 :: a13 :: a14 :: a15 :: a16 :: a17 :: a18 :: a19 :: a20 :: a21 :: a22 :: some (.int x) :: t) (.int x :: rest)) : JW G X k n w (pc) (a0 :: a1 :: a2 :: a3 :: a4 :: a5 :: a6 :: a7 :: a8 :: a9 :: a10 :: a11 :: a12 :: a13 :: a14 :: a15 :: a16 :: a17 :: a18 :: a19 :: a20 :: a21 :: a22 :: some (.int x) :: t) (rest) := by
  obtain ⟨p, l, e, R, s, m, args, below, meth, c, Q, A⟩ := X
  obtain ⟨hx, hb, hml, hown, hts, hnw, hK, hlk, hA, hR⟩ := C
  intro H locs ls hP hD hS hl
  refine lv_iload hx hb d (hl.2.2 (23, .int x) ((jl0_mem _ _ _).mpr ⟨23, rfl, by omega⟩)) ?_
  exact kk H locs ls hP hD hS hl
theorem jw_iload_24 {a0 a1 a2 a3 a4 a5 a6 a7 a8 a9 a10 a11 a12 a13 a14 a15 a16 a17 a18 a19 a20 a21 a22 a23 : Option Value} {x : Int32} {t : List (Option Value)} (C : JC G X rm cc own nL) (d : decode cc pc = .ok (.iload 24, 2)) (kk : JW G X k n w (pc + 2) (a0 :: a1 :: a2 :: a3 :: a4 :: a5 :: a6 :: a7 :: a8 :: a9 :: a10 :: a11 :: a12 :: a13 :: a14 :: a15 :: a16 :: a17 :: a18 :: a19 :: a20 :: a21 :: a22 :: a23 :: some (.int x) :: t) (.int x :: rest)) : JW G X k n w (pc) (a0 :: a1 :: a2 :: a3 :: a4 :: a5 :: a6 :: a7 :: a8 :: a9 :: a10 :: a11 :: a12 :: a13 :: a14 :: a15 :: a16 :: a17 :: a18 :: a19 :: a20 :: a21 :: a22 :: a23 :: some (.int x) :: t) (rest) := by
  obtain ⟨p, l, e, R, s, m, args, below, meth, c, Q, A⟩ := X
  obtain ⟨hx, hb, hml, hown, hts, hnw, hK, hlk, hA, hR⟩ := C
  intro H locs ls hP hD hS hl
  refine lv_iload hx hb d (hl.2.2 (24, .int x) ((jl0_mem _ _ _).mpr ⟨24, rfl, by omega⟩)) ?_
  exact kk H locs ls hP hD hS hl
theorem jw_iload_25 {a0 a1 a2 a3 a4 a5 a6 a7 a8 a9 a10 a11 a12 a13 a14 a15 a16 a17 a18 a19 a20 a21 a22 a23 a24 : Option Value} {x : Int32} {t : List (Option Value)} (C : JC G X rm cc own nL) (d : decode cc pc = .ok (.iload 25, 2)) (kk : JW G X k n w (pc + 2) (a0 :: a1 :: a2 :: a3 :: a4 :: a5 :: a6 :: a7 :: a8 :: a9 :: a10 :: a11 :: a12 :: a13 :: a14 :: a15 :: a16 :: a17 :: a18 :: a19 :: a20 :: a21 :: a22 :: a23 :: a24 :: some (.int x) :: t) (.int x :: rest)) : JW G X k n w (pc) (a0 :: a1 :: a2 :: a3 :: a4 :: a5 :: a6 :: a7 :: a8 :: a9 :: a10 :: a11 :: a12 :: a13 :: a14 :: a15 :: a16 :: a17 :: a18 :: a19 :: a20 :: a21 :: a22 :: a23 :: a24 :: some (.int x) :: t) (rest) := by
  obtain ⟨p, l, e, R, s, m, args, below, meth, c, Q, A⟩ := X
  obtain ⟨hx, hb, hml, hown, hts, hnw, hK, hlk, hA, hR⟩ := C
  intro H locs ls hP hD hS hl
  refine lv_iload hx hb d (hl.2.2 (25, .int x) ((jl0_mem _ _ _).mpr ⟨25, rfl, by omega⟩)) ?_
  exact kk H locs ls hP hD hS hl
theorem jw_iload_26 {a0 a1 a2 a3 a4 a5 a6 a7 a8 a9 a10 a11 a12 a13 a14 a15 a16 a17 a18 a19 a20 a21 a22 a23 a24 a25 : Option Value} {x : Int32} {t : List (Option Value)} (C : JC G X rm cc own nL) (d : decode cc pc = .ok (.iload 26, 2)) (kk : JW G X k n w (pc + 2) (a0 :: a1 :: a2 :: a3 :: a4 :: a5 :: a6 :: a7 :: a8 :: a9 :: a10 :: a11 :: a12 :: a13 :: a14 :: a15 :: a16 :: a17 :: a18 :: a19 :: a20 :: a21 :: a22 :: a23 :: a24 :: a25 :: some (.int x) :: t) (.int x :: rest)) : JW G X k n w (pc) (a0 :: a1 :: a2 :: a3 :: a4 :: a5 :: a6 :: a7 :: a8 :: a9 :: a10 :: a11 :: a12 :: a13 :: a14 :: a15 :: a16 :: a17 :: a18 :: a19 :: a20 :: a21 :: a22 :: a23 :: a24 :: a25 :: some (.int x) :: t) (rest) := by
  obtain ⟨p, l, e, R, s, m, args, below, meth, c, Q, A⟩ := X
  obtain ⟨hx, hb, hml, hown, hts, hnw, hK, hlk, hA, hR⟩ := C
  intro H locs ls hP hD hS hl
  refine lv_iload hx hb d (hl.2.2 (26, .int x) ((jl0_mem _ _ _).mpr ⟨26, rfl, by omega⟩)) ?_
  exact kk H locs ls hP hD hS hl
theorem jw_iload_27 {a0 a1 a2 a3 a4 a5 a6 a7 a8 a9 a10 a11 a12 a13 a14 a15 a16 a17 a18 a19 a20 a21 a22 a23 a24 a25 a26 : Option Value} {x : Int32} {t : List (Option Value)} (C : JC G X rm cc own nL) (d : decode cc pc = .ok (.iload 27, 2)) (kk : JW G X k n w (pc + 2) (a0 :: a1 :: a2 :: a3 :: a4 :: a5 :: a6 :: a7 :: a8 :: a9 :: a10 :: a11 :: a12 :: a13 :: a14 :: a15 :: a16 :: a17 :: a18 :: a19 :: a20 :: a21 :: a22 :: a23 :: a24 :: a25 :: a26 :: some (.int x) :: t) (.int x :: rest)) : JW G X k n w (pc) (a0 :: a1 :: a2 :: a3 :: a4 :: a5 :: a6 :: a7 :: a8 :: a9 :: a10 :: a11 :: a12 :: a13 :: a14 :: a15 :: a16 :: a17 :: a18 :: a19 :: a20 :: a21 :: a22 :: a23 :: a24 :: a25 :: a26 :: some (.int x) :: t) (rest) := by
  obtain ⟨p, l, e, R, s, m, args, below, meth, c, Q, A⟩ := X
  obtain ⟨hx, hb, hml, hown, hts, hnw, hK, hlk, hA, hR⟩ := C
  intro H locs ls hP hD hS hl
  refine lv_iload hx hb d (hl.2.2 (27, .int x) ((jl0_mem _ _ _).mpr ⟨27, rfl, by omega⟩)) ?_
  exact kk H locs ls hP hD hS hl
theorem jw_istore_0 {b0 : Option Value} {x : Int32} {t : List (Option Value)} (C : JC G X rm cc own nL) (d : decode cc pc = .ok (.istore_n 0, 1)) (kk : JW G X k n w (pc + 1) (some (.int x) :: t) (rest)) : JW G X k n w (pc) (b0 :: t) (.int x :: rest) := by
  obtain ⟨p, l, e, R, s, m, args, below, meth, c, Q, A⟩ := X
  obtain ⟨hx, hb, hml, hown, hts, hnw, hK, hlk, hA, hR⟩ := C
  intro H locs ls hP hD hS hl
  refine lv_istore_n hx hb d rfl hl (by simp only [List.length_cons]; omega) rfl (fun ls2 h2 => ?_)
  exact kk H locs ls2 hP hD hS (by have h3 := jl_store1 (L := b0 :: t) (v := .int x) (by simp only [List.length_cons]; omega) (fun a h _ => absurd h (Nat.lt_irrefl 0)) h2; exact h3)
theorem jw_istore_1 {a0 b0 : Option Value} {x : Int32} {t : List (Option Value)} (C : JC G X rm cc own nL) (d : decode cc pc = .ok (.istore_n 1, 1)) (hc : jc1 a0 = true) (kk : JW G X k n w (pc + 1) (a0 :: some (.int x) :: t) (rest)) : JW G X k n w (pc) (a0 :: b0 :: t) (.int x :: rest) := by
  obtain ⟨p, l, e, R, s, m, args, below, meth, c, Q, A⟩ := X
  obtain ⟨hx, hb, hml, hown, hts, hnw, hK, hlk, hA, hR⟩ := C
  intro H locs ls hP hD hS hl
  refine lv_istore_n hx hb d rfl hl (by simp only [List.length_cons]; omega) rfl (fun ls2 h2 => ?_)
  exact kk H locs ls2 hP hD hS (by have h3 := jl_store1 (L := a0 :: b0 :: t) (v := .int x) (by simp only [List.length_cons]; omega) (fun a _ h => by cases h; exact hc) h2; exact h3)
theorem jw_istore_2 {a0 a1 b0 : Option Value} {x : Int32} {t : List (Option Value)} (C : JC G X rm cc own nL) (d : decode cc pc = .ok (.istore_n 2, 1)) (hc : jc1 a1 = true) (kk : JW G X k n w (pc + 1) (a0 :: a1 :: some (.int x) :: t) (rest)) : JW G X k n w (pc) (a0 :: a1 :: b0 :: t) (.int x :: rest) := by
  obtain ⟨p, l, e, R, s, m, args, below, meth, c, Q, A⟩ := X
  obtain ⟨hx, hb, hml, hown, hts, hnw, hK, hlk, hA, hR⟩ := C
  intro H locs ls hP hD hS hl
  refine lv_istore_n hx hb d rfl hl (by simp only [List.length_cons]; omega) rfl (fun ls2 h2 => ?_)
  exact kk H locs ls2 hP hD hS (by have h3 := jl_store1 (L := a0 :: a1 :: b0 :: t) (v := .int x) (by simp only [List.length_cons]; omega) (fun a _ h => by cases h; exact hc) h2; exact h3)
theorem jw_istore_3 {a0 a1 a2 b0 : Option Value} {x : Int32} {t : List (Option Value)} (C : JC G X rm cc own nL) (d : decode cc pc = .ok (.istore_n 3, 1)) (hc : jc1 a2 = true) (kk : JW G X k n w (pc + 1) (a0 :: a1 :: a2 :: some (.int x) :: t) (rest)) : JW G X k n w (pc) (a0 :: a1 :: a2 :: b0 :: t) (.int x :: rest) := by
  obtain ⟨p, l, e, R, s, m, args, below, meth, c, Q, A⟩ := X
  obtain ⟨hx, hb, hml, hown, hts, hnw, hK, hlk, hA, hR⟩ := C
  intro H locs ls hP hD hS hl
  refine lv_istore_n hx hb d rfl hl (by simp only [List.length_cons]; omega) rfl (fun ls2 h2 => ?_)
  exact kk H locs ls2 hP hD hS (by have h3 := jl_store1 (L := a0 :: a1 :: a2 :: b0 :: t) (v := .int x) (by simp only [List.length_cons]; omega) (fun a _ h => by cases h; exact hc) h2; exact h3)
theorem jw_istore_4 {a0 a1 a2 a3 b0 : Option Value} {x : Int32} {t : List (Option Value)} (C : JC G X rm cc own nL) (d : decode cc pc = .ok (.istore 4, 2)) (hc : jc1 a3 = true) (kk : JW G X k n w (pc + 2) (a0 :: a1 :: a2 :: a3 :: some (.int x) :: t) (rest)) : JW G X k n w (pc) (a0 :: a1 :: a2 :: a3 :: b0 :: t) (.int x :: rest) := by
  obtain ⟨p, l, e, R, s, m, args, below, meth, c, Q, A⟩ := X
  obtain ⟨hx, hb, hml, hown, hts, hnw, hK, hlk, hA, hR⟩ := C
  intro H locs ls hP hD hS hl
  refine lv_istore hx hb d hl (by simp only [List.length_cons]; omega) rfl (fun ls2 h2 => ?_)
  exact kk H locs ls2 hP hD hS (by have h3 := jl_store1 (L := a0 :: a1 :: a2 :: a3 :: b0 :: t) (v := .int x) (by simp only [List.length_cons]; omega) (fun a _ h => by cases h; exact hc) h2; exact h3)
theorem jw_istore_5 {a0 a1 a2 a3 a4 b0 : Option Value} {x : Int32} {t : List (Option Value)} (C : JC G X rm cc own nL) (d : decode cc pc = .ok (.istore 5, 2)) (hc : jc1 a4 = true) (kk : JW G X k n w (pc + 2) (a0 :: a1 :: a2 :: a3 :: a4 :: some (.int x) :: t) (rest)) : JW G X k n w (pc) (a0 :: a1 :: a2 :: a3 :: a4 :: b0 :: t) (.int x :: rest) := by
  obtain ⟨p, l, e, R, s, m, args, below, meth, c, Q, A⟩ := X
  obtain ⟨hx, hb, hml, hown, hts, hnw, hK, hlk, hA, hR⟩ := C
  intro H locs ls hP hD hS hl
  refine lv_istore hx hb d hl (by simp only [List.length_cons]; omega) rfl (fun ls2 h2 => ?_)
  exact kk H locs ls2 hP hD hS (by have h3 := jl_store1 (L := a0 :: a1 :: a2 :: a3 :: a4 :: b0 :: t) (v := .int x) (by simp only [List.length_cons]; omega) (fun a _ h => by cases h; exact hc) h2; exact h3)
theorem jw_istore_6 {a0 a1 a2 a3 a4 a5 b0 : Option Value} {x : Int32} {t : List (Option Value)} (C : JC G X rm cc own nL) (d : decode cc pc = .ok (.istore 6, 2)) (hc : jc1 a5 = true) (kk : JW G X k n w (pc + 2) (a0 :: a1 :: a2 :: a3 :: a4 :: a5 :: some (.int x) :: t) (rest)) : JW G X k n w (pc) (a0 :: a1 :: a2 :: a3 :: a4 :: a5 :: b0 :: t) (.int x :: rest) := by
  obtain ⟨p, l, e, R, s, m, args, below, meth, c, Q, A⟩ := X
  obtain ⟨hx, hb, hml, hown, hts, hnw, hK, hlk, hA, hR⟩ := C
  intro H locs ls hP hD hS hl
  refine lv_istore hx hb d hl (by simp only [List.length_cons]; omega) rfl (fun ls2 h2 => ?_)
  exact kk H locs ls2 hP hD hS (by have h3 := jl_store1 (L := a0 :: a1 :: a2 :: a3 :: a4 :: a5 :: b0 :: t) (v := .int x) (by simp only [List.length_cons]; omega) (fun a _ h => by cases h; exact hc) h2; exact h3)
theorem jw_istore_7 {a0 a1 a2 a3 a4 a5 a6 b0 : Option Value} {x : Int32} {t : List (Option Value)} (C : JC G X rm cc own nL) (d : decode cc pc = .ok (.istore 7, 2)) (hc : jc1 a6 = true) (kk : JW G X k n w (pc + 2) (a0 :: a1 :: a2 :: a3 :: a4 :: a5 :: a6 :: some (.int x) :: t) (rest)) : JW G X k n w (pc) (a0 :: a1 :: a2 :: a3 :: a4 :: a5 :: a6 :: b0 :: t) (.int x :: rest) := by
  obtain ⟨p, l, e, R, s, m, args, below, meth, c, Q, A⟩ := X
  obtain ⟨hx, hb, hml, hown, hts, hnw, hK, hlk, hA, hR⟩ := C
  intro H locs ls hP hD hS hl
  refine lv_istore hx hb d hl (by simp only [List.length_cons]; omega) rfl (fun ls2 h2 => ?_)
  exact kk H locs ls2 hP hD hS (by have h3 := jl_store1 (L := a0 :: a1 :: a2 :: a3 :: a4 :: a5 :: a6 :: b0 :: t) (v := .int x) (by simp only [List.length_cons]; omega) (fun a _ h => by cases h; exact hc) h2; exact h3)
theorem jw_istore_8 {a0 a1 a2 a3 a4 a5 a6 a7 b0 : Option Value} {x : Int32} {t : List (Option Value)} (C : JC G X rm cc own nL) (d : decode cc pc = .ok (.istore 8, 2)) (hc : jc1 a7 = true) (kk : JW G X k n w (pc + 2) (a0 :: a1 :: a2 :: a3 :: a4 :: a5 :: a6 :: a7 :: some (.int x) :: t) (rest)) : JW G X k n w (pc) (a0 :: a1 :: a2 :: a3 :: a4 :: a5 :: a6 :: a7 :: b0 :: t) (.int x :: rest) := by
  obtain ⟨p, l, e, R, s, m, args, below, meth, c, Q, A⟩ := X
  obtain ⟨hx, hb, hml, hown, hts, hnw, hK, hlk, hA, hR⟩ := C
  intro H locs ls hP hD hS hl
  refine lv_istore hx hb d hl (by simp only [List.length_cons]; omega) rfl (fun ls2 h2 => ?_)
  exact kk H locs ls2 hP hD hS (by have h3 := jl_store1 (L := a0 :: a1 :: a2 :: a3 :: a4 :: a5 :: a6 :: a7 :: b0 :: t) (v := .int x) (by simp only [List.length_cons]; omega) (fun a _ h => by cases h; exact hc) h2; exact h3)
theorem jw_istore_9 {a0 a1 a2 a3 a4 a5 a6 a7 a8 b0 : Option Value} {x : Int32} {t : List (Option Value)} (C : JC G X rm cc own nL) (d : decode cc pc = .ok (.istore 9, 2)) (hc : jc1 a8 = true) (kk : JW G X k n w (pc + 2) (a0 :: a1 :: a2 :: a3 :: a4 :: a5 :: a6 :: a7 :: a8 :: some (.int x) :: t) (rest)) : JW G X k n w (pc) (a0 :: a1 :: a2 :: a3 :: a4 :: a5 :: a6 :: a7 :: a8 :: b0 :: t) (.int x :: rest) := by
  obtain ⟨p, l, e, R, s, m, args, below, meth, c, Q, A⟩ := X
  obtain ⟨hx, hb, hml, hown, hts, hnw, hK, hlk, hA, hR⟩ := C
  intro H locs ls hP hD hS hl
  refine lv_istore hx hb d hl (by simp only [List.length_cons]; omega) rfl (fun ls2 h2 => ?_)
  exact kk H locs ls2 hP hD hS (by have h3 := jl_store1 (L := a0 :: a1 :: a2 :: a3 :: a4 :: a5 :: a6 :: a7 :: a8 :: b0 :: t) (v := .int x) (by simp only [List.length_cons]; omega) (fun a _ h => by cases h; exact hc) h2; exact h3)
theorem jw_istore_10 {a0 a1 a2 a3 a4 a5 a6 a7 a8 a9 b0 : Option Value} {x : Int32} {t : List (Option Value)} (C : JC G X rm cc own nL) (d : decode cc pc = .ok (.istore 10, 2)) (hc : jc1 a9 = true) (kk : JW G X k n w (pc + 2) (a0 :: a1 :: a2 :: a3 :: a4 :: a5 :: a6 :: a7 :: a8 :: a9 :: some (.int x) :: t) (rest)) : JW G X k n w (pc) (a0 :: a1 :: a2 :: a3 :: a4 :: a5 :: a6 :: a7 :: a8 :: a9 :: b0 :: t) (.int x :: rest) := by
  obtain ⟨p, l, e, R, s, m, args, below, meth, c, Q, A⟩ := X
  obtain ⟨hx, hb, hml, hown, hts, hnw, hK, hlk, hA, hR⟩ := C
  intro H locs ls hP hD hS hl
  refine lv_istore hx hb d hl (by simp only [List.length_cons]; omega) rfl (fun ls2 h2 => ?_)
  exact kk H locs ls2 hP hD hS (by have h3 := jl_store1 (L := a0 :: a1 :: a2 :: a3 :: a4 :: a5 :: a6 :: a7 :: a8 :: a9 :: b0 :: t) (v := .int x) (by simp only [List.length_cons]; omega) (fun a _ h => by cases h; exact hc) h2; exact h3)
theorem jw_istore_11 {a0 a1 a2 a3 a4 a5 a6 a7 a8 a9 a10 b0 : Option Value} {x : Int32} {t : List (Option Value)} (C : JC G X rm cc own nL) (d : decode cc pc = .ok (.istore 11, 2)) (hc : jc1 a10 = true) (kk : JW G X k n w (pc + 2) (a0 :: a1 :: a2 :: a3 :: a4 :: a5 :: a6 :: a7 :: a8 :: a9 :: a10 :: some (.int x) :: t) (rest)) : JW G X k n w (pc) (a0 :: a1 :: a2 :: a3 :: a4 :: a5 :: a6 :: a7 :: a8 :: a9 :: a10 :: b0 :: t) (.int x :: rest) := by
  obtain ⟨p, l, e, R, s, m, args, below, meth, c, Q, A⟩ := X
  obtain ⟨hx, hb, hml, hown, hts, hnw, hK, hlk, hA, hR⟩ := C
  intro H locs ls hP hD hS hl
  refine lv_istore hx hb d hl (by simp only [List.length_cons]; omega) rfl (fun ls2 h2 => ?_)
  exact kk H locs ls2 hP hD hS (by have h3 := jl_store1 (L := a0 :: a1 :: a2 :: a3 :: a4 :: a5 :: a6 :: a7 :: a8 :: a9 :: a10 :: b0 :: t) (v := .int x) (by simp only [List.length_cons]; omega) (fun a _ h => by cases h; exact hc) h2; exact h3)
theorem jw_istore_12 {a0 a1 a2 a3 a4 a5 a6 a7 a8 a9 a10 a11 b0 : Option Value} {x : Int32} {t : List (Option Value)} (C : JC G X rm cc own nL) (d : decode cc pc = .ok (.istore 12, 2)) (hc : jc1 a11 = true) (kk : JW G X k n w (pc + 2) (a0 :: a1 :: a2 :: a3 :: a4 :: a5 :: a6 :: a7 :: a8 :: a9 :: a10 :: a11 :: some (.int x) :: t) (rest)) : JW G X k n w (pc) (a0 :: a1 :: a2 :: a3 :: a4 :: a5 :: a6 :: a7 :: a8 :: a9 :: a10 :: a11 :: b0 :: t) (.int x :: rest) := by
  obtain ⟨p, l, e, R, s, m, args, below, meth, c, Q, A⟩ := X
  obtain ⟨hx, hb, hml, hown, hts, hnw, hK, hlk, hA, hR⟩ := C
  intro H locs ls hP hD hS hl
  refine lv_istore hx hb d hl (by simp only [List.length_cons]; omega) rfl (fun ls2 h2 => ?_)
  exact kk H locs ls2 hP hD hS (by have h3 := jl_store1 (L := a0 :: a1 :: a2 :: a3 :: a4 :: a5 :: a6 :: a7 :: a8 :: a9 :: a10 :: a11 :: b0 :: t) (v := .int x) (by simp only [List.length_cons]; omega) (fun a _ h => by cases h; exact hc) h2; exact h3)
theorem jw_istore_13 {a0 a1 a2 a3 a4 a5 a6 a7 a8 a9 a10 a11 a12 b0 : Option Value} {x : Int32} {t : List (Option Value)} (C : JC G X rm cc own nL) (d : decode cc pc = .ok (.istore 13, 2)) (hc : jc1 a12 = true) (kk : JW G X k n w (pc + 2) (a0 :: a1 :: a2 :: a3 :: a4 :: a5 :: a6 :: a7 :: a8 :: a9 :: a10 :: a11 :: a12 :: some (.int x) :: t) (rest)) : JW G X k n w (pc) (a0 :: a1 :: a2 :: a3 :: a4 :: a5 :: a6 :: a7 :: a8 :: a9 :: a10 :: a11 :: a12 :: b0 :: t) (.int x :: rest) := by
  obtain ⟨p, l, e, R, s, m, args, below, meth, c, Q, A⟩ := X
  obtain ⟨hx, hb, hml, hown, hts, hnw, hK, hlk, hA, hR⟩ := C
  intro H locs ls hP hD hS hl
  refine lv_istore hx hb d hl (by simp only [List.length_cons]; omega) rfl (fun ls2 h2 => ?_)
  exact kk H locs ls2 hP hD hS (by have h3 := jl_store1 (L := a0 :: a1 :: a2 :: a3 :: a4 :: a5 :: a6 :: a7 :: a8 :: a9 :: a10 :: a11 :: a12 :: b0 :: t) (v := .int x) (by simp only [List.length_cons]; omega) (fun a _ h => by cases h; exact hc) h2; exact h3)
theorem jw_istore_14 {a0 a1 a2 a3 a4 a5 a6 a7 a8 a9 a10 a11 a12 a13 b0 : Option Value} {x : Int32} {t : List (Option Value)} (C : JC G X rm cc own nL) (d : decode cc pc = .ok (.istore 14, 2)) (hc : jc1 a13 = true) (kk : JW G X k n w (pc + 2) (a0 :: a1 :: a2 :: a3 :: a4 :: a5 :: a6 :: a7 :: a8 :: a9 :: a10 :: a11 :: a12 :: a13 :: some (.int x) :: t) (rest)) : JW G X k n w (pc) (a0 :: a1 :: a2 :: a3 :: a4 :: a5 :: a6 :: a7 :: a8 :: a9 :: a10 :: a11 :: a12 :: a13 :: b0 :: t) (.int x :: rest) := by
  obtain ⟨p, l, e, R, s, m, args, below, meth, c, Q, A⟩ := X
  obtain ⟨hx, hb, hml, hown, hts, hnw, hK, hlk, hA, hR⟩ := C
  intro H locs ls hP hD hS hl
  refine lv_istore hx hb d hl (by simp only [List.length_cons]; omega) rfl (fun ls2 h2 => ?_)
  exact kk H locs ls2 hP hD hS (by have h3 := jl_store1 (L := a0 :: a1 :: a2 :: a3 :: a4 :: a5 :: a6 :: a7 :: a8 :: a9 :: a10 :: a11 :: a12 :: a13 :: b0 :: t) (v := .int x) (by simp only [List.length_cons]; omega) (fun a _ h => by cases h; exact hc) h2; exact h3)
theorem jw_istore_15 {a0 a1 a2 a3 a4 a5 a6 a7 a8 a9 a10 a11 a12 a13 a14 b0 : Option Value} {x : Int32} {t : List (Option Value)} (C : JC G X rm cc own nL) (d : decode cc pc = .ok (.istore 15, 2)) (hc : jc1 a14 = true) (kk : JW G X k n w (pc + 2) (a0 :: a1 :: a2 :: a3 :: a4 :: a5 :: a6 :: a7 :: a8 :: a9 :: a10 :: a11 :: a12 :: a13 :: a14 :: some (.int x) :: t) (rest)) : JW G X k n w (pc) (a0 :: a1 :: a2 :: a3 :: a4 :: a5 :: a6 :: a7 :: a8 :: a9 :: a10 :: a11 :: a12 :: a13 :: a14 :: b0 :: t) (.int x :: rest) := by
  obtain ⟨p, l, e, R, s, m, args, below, meth, c, Q, A⟩ := X
  obtain ⟨hx, hb, hml, hown, hts, hnw, hK, hlk, hA, hR⟩ := C
  intro H locs ls hP hD hS hl
  refine lv_istore hx hb d hl (by simp only [List.length_cons]; omega) rfl (fun ls2 h2 => ?_)
  exact kk H locs ls2 hP hD hS (by have h3 := jl_store1 (L := a0 :: a1 :: a2 :: a3 :: a4 :: a5 :: a6 :: a7 :: a8 :: a9 :: a10 :: a11 :: a12 :: a13 :: a14 :: b0 :: t) (v := .int x) (by simp only [List.length_cons]; omega) (fun a _ h => by cases h; exact hc) h2; exact h3)
theorem jw_istore_16 {a0 a1 a2 a3 a4 a5 a6 a7 a8 a9 a10 a11 a12 a13 a14 a15 b0 : Option Value} {x : Int32} {t : List (Option Value)} (C : JC G X rm cc own nL) (d : decode cc pc = .ok (.istore 16, 2)) (hc : jc1 a15 = true) (kk : JW G X k n w (pc + 2) (a0 :: a1 :: a2 :: a3 :: a4 :: a5 :: a6 :: a7 :: a8 :: a9 :: a10 :: a11 :: a12 :: a13 :: a14 :: a15 :: some (.int x) :: t) (rest)) : JW G X k n w (pc) (a0 :: a1 :: a2 :: a3 :: a4 :: a5 :: a6 :: a7 :: a8 :: a9 :: a10 :: a11 :: a12 :: a13 :: a14 :: a15 :: b0 :: t) (.int x :: rest) := by
  obtain ⟨p, l, e, R, s, m, args, below, meth, c, Q, A⟩ := X
  obtain ⟨hx, hb, hml, hown, hts, hnw, hK, hlk, hA, hR⟩ := C
  intro H locs ls hP hD hS hl
  refine lv_istore hx hb d hl (by simp only [List.length_cons]; omega) rfl (fun ls2 h2 => ?_)
  exact kk H locs ls2 hP hD hS (by have h3 := jl_store1 (L := a0 :: a1 :: a2 :: a3 :: a4 :: a5 :: a6 :: a7 :: a8 :: a9 :: a10 :: a11 :: a12 :: a13 :: a14 :: a15 :: b0 :: t) (v := .int x) (by simp only [List.length_cons]; omega) (fun a _ h => by cases h; exact hc) h2; exact h3)
theorem jw_istore_17 {a0 a1 a2 a3 a4 a5 a6 a7 a8 a9 a10 a11 a12 a13 a14 a15 a16 b0 : Option Value} {x : Int32} {t : List (Option Value)} (C : JC G X rm cc own nL) (d : decode cc pc = .ok (.istore 17, 2)) (hc : jc1 a16 = true) (kk : JW G X k n w (pc + 2) (a0 :: a1 :: a2 :: a3 :: a4 :: a5 :: a6 :: a7 :: a8 :: a9 :: a10 :: a11 :: a12 :: a13 :: a14 :: a15 :: a16 :: some (.int x) :: t) (rest)) : JW G X k n w (pc) (a0 :: a1 :: a2 :: a3 :: a4 :: a5 :: a6 :: a7 :: a8 :: a9 :: a10 :: a11 :: a12 :: a13 :: a14 :: a15 :: a16 :: b0 :: t) (.int x :: rest) := by
  obtain ⟨p, l, e, R, s, m, args, below, meth, c, Q, A⟩ := X
  obtain ⟨hx, hb, hml, hown, hts, hnw, hK, hlk, hA, hR⟩ := C
  intro H locs ls hP hD hS hl
  refine lv_istore hx hb d hl (by simp only [List.length_cons]; omega) rfl (fun ls2 h2 => ?_)
  exact kk H locs ls2 hP hD hS (by have h3 := jl_store1 (L := a0 :: a1 :: a2 :: a3 :: a4 :: a5 :: a6 :: a7 :: a8 :: a9 :: a10 :: a11 :: a12 :: a13 :: a14 :: a15 :: a16 :: b0 :: t) (v := .int x) (by simp only [List.length_cons]; omega) (fun a _ h => by cases h; exact hc) h2; exact h3)
theorem jw_istore_18 {a0 a1 a2 a3 a4 a5 a6 a7 a8 a9 a10 a11 a12 a13 a14 a15 a16 a17 b0 : Option Value} {x : Int32} {t : List (Option Value)} (C : JC G X rm cc own nL) (d : decode cc pc = .ok (.istore 18, 2)) (hc : jc1 a17 = true) (kk : JW G X k n w (pc + 2) (a0 :: a1 :: a2 :: a3 :: a4 :: a5 :: a6 :: a7 :: a8 :: a9 :: a10 :: a11 :: a12 :: a13 :: a14 :: a15 :: a16 :: a17 :: some (.int x) :: t) (rest)) : JW G X k n w (pc) (a0 :: a1 :: a2 :: a3 :: a4 :: a5 :: a6 :: a7 :: a8 :: a9 :: a10 :: a11 :: a12 :: a13 :: a14 :: a15 :: a16 :: a17 :: b0 :: t) (.int x :: rest) := by
  obtain ⟨p, l, e, R, s, m, args, below, meth, c, Q, A⟩ := X
  obtain ⟨hx, hb, hml, hown, hts, hnw, hK, hlk, hA, hR⟩ := C
  intro H locs ls hP hD hS hl
  refine lv_istore hx hb d hl (by simp only [List.length_cons]; omega) rfl (fun ls2 h2 => ?_)
  exact kk H locs ls2 hP hD hS (by have h3 := jl_store1 (L := a0 :: a1 :: a2 :: a3 :: a4 :: a5 :: a6 :: a7 :: a8 :: a9 :: a10 :: a11 :: a12 :: a13 :: a14 :: a15 :: a16 :: a17 :: b0 :: t) (v := .int x) (by simp only [List.length_cons]; omega) (fun a _ h => by cases h; exact hc) h2; exact h3)
theorem jw_istore_19 {a0 a1 a2 a3 a4 a5 a6 a7 a8 a9 a10 a11 a12 a13 a14 a15 a16 a17 a18 b0 : Option Value} {x : Int32} {t : List (Option Value)} (C : JC G X rm cc own nL) (d : decode cc pc = .ok (.istore 19, 2)) (hc : jc1 a18 = true) (kk : JW G X k n w (pc + 2) (a0 :: a1 :: a2 :: a3 :: a4 :: a5 :: a6 :: a7 :: a8 :: a9 :: a10 :: a11 :: a12 :: a13 :: a14 :: a15 :: a16 :: a17 :: a18 :: some (.int x) :: t) (rest)) : JW G X k n w (pc) (a0 :: a1 :: a2 :: a3 :: a4 :: a5 :: a6 :: a7 :: a8 :: a9 :: a10 :: a11 :: a12 :: a13 :: a14 :: a15 :: a16 :: a17 :: a18 :: b0 :: t) (.int x :: rest) := by
  obtain ⟨p, l, e, R, s, m, args, below, meth, c, Q, A⟩ := X
  obtain ⟨hx, hb, hml, hown, hts, hnw, hK, hlk, hA, hR⟩ := C
  intro H locs ls hP hD hS hl
  refine lv_istore hx hb d hl (by simp only [List.length_cons]; omega) rfl (fun ls2 h2 => ?_)
  exact kk H locs ls2 hP hD hS (by have h3 := jl_store1 (L := a0 :: a1 :: a2 :: a3 :: a4 :: a5 :: a6 :: a7 :: a8 :: a9 :: a10 :: a11 :: a12 :: a13 :: a14 :: a15 :: a16 :: a17 :: a18 :: b0 :: t) (v := .int x) (by simp only [List.length_cons]; omega) (fun a _ h => by cases h; exact hc) h2; exact h3)
theorem jw_istore_20 {a0 a1 a2 a3 a4 a5 a6 a7 a8 a9 a10 a11 a12 a13 a14 a15 a16 a17 a18 a19 b0 : Option Value} {x : Int32} {t : List (Option Value)} (C : JC G X rm cc own nL) (d : decode cc pc = .ok (.istore 20, 2)) (hc : jc1 a19 = true) (kk : JW G X k n w (pc + 2) (a0 :: a1 :: a2 :: a3 :: a4 :: a5 :: a6 :: a7 :: a8 :: a9 :: a10 :: a11 :: a12 :: a13 :: a14 :: a15 :: a16 :: a17 :: a18 :: a19 :: some (.int x) :: t) (rest)) : JW G X k n w (pc) (a0 :: a1 :: a2 :: a3 :: a4 :: a5 :: a6 :: a7 :: a8 :: a9 :: a10 :: a11 :: a12 :: a13 :: a14 :: a15 :: a16 :: a17 :: a18 :: a19 :: b0 :: t) (.int x :: rest) := by
  obtain ⟨p, l, e, R, s, m, args, below, meth, c, Q, A⟩ := X
  obtain ⟨hx, hb, hml, hown, hts, hnw, hK, hlk, hA, hR⟩ := C
  intro H locs ls hP hD hS hl
  refine lv_istore hx hb d hl (by simp only [List.length_cons]; omega) rfl (fun ls2 h2 => ?_)
  exact kk H locs ls2 hP hD hS (by have h3 := jl_store1 (L := a0 :: a1 :: a2 :: a3 :: a4 :: a5 :: a6 :: a7 :: a8 :: a9 :: a10 :: a11 :: a12 :: a13 :: a14 :: a15 :: a16 :: a17 :: a18 :: a19 :: b0 :: t) (v := .int x) (by simp only [List.length_cons]; omega) (fun a _ h => by cases h; exact hc) h2; exact h3)
theorem jw_istore_21 {a0 a1 a2 a3 a4 a5 a6 a7 a8 a9 a10 a11 a12 a13 a14 a15 a16 a17 a18 a19 a20 b0 : Option Value} {x : Int32} {t : List (Option Value)} (C : JC G X rm cc own nL) (d : decode cc pc = .ok (.istore 21, 2)) (hc : jc1 a20 = true) (kk : JW G X k n w (pc + 2) (a0 :: a1 :: a2 :: a3 :: a4 :: a5 :: a6 :: a7 :: a8 :: a9 :: a10 :: a11 :: a12 :: a13 :: a14 :: a15 :: a16 :: a17 :: a18 :: a19 :: a20 :: some (.int x) :: t) (rest)) : JW G X k n w (pc) (a0 :: a1 :: a2 :: a3 :: a4 :: a5 :: a6 :: a7 :: a8 :: a9 :: a10 :: a11 :: a12 :: a13 :: a14 :: a15 :: a16 :: a17 :: a18 :: a19 :: a20 :: b0 :: t) (.int x :: rest) := by
  obtain ⟨p, l, e, R, s, m, args, below, meth, c, Q, A⟩ := X
  obtain ⟨hx, hb, hml, hown, hts, hnw, hK, hlk, hA, hR⟩ := C
  intro H locs ls hP hD hS hl
  refine lv_istore hx hb d hl (by simp only [List.length_cons]; omega) rfl (fun ls2 h2 => ?_)
  exact kk H locs ls2 hP hD hS (by have h3 := jl_store1 (L := a0 :: a1 :: a2 :: a3 :: a4 :: a5 :: a6 :: a7 :: a8 :: a9 :: a10 :: a11 :: a12 :: a13 :: a14 :: a15 :: a16 :: a17 :: a18 :: a19 :: a20 :: b0 :: t) (v := .int x) (by simp only [List.length_cons]; omega) (fun a _ h => by cases h; exact hc) h2; exact h3)
theorem jw_istore_22 {a0 a1 a2 a3 a4 a5 a6 a7 a8 a9 a10 a11 a12 a13 a14 a15 a16 a17 a18 a19 a20 a21 b0 : Option Value} {x : Int32} {t : List (Option Value)} (C : JC G X rm cc own nL) (d : decode cc pc = .ok (.istore 22, 2)) (hc : jc1 a21 = true) (kk : JW G X k n w (pc + 2) (a0 :: a1 :: a2 :: a3 :: a4 :: a5 :: a6 :: a7 :: a8 :: a9 :: a10 :: a11 :: a12 :: a13 :: a14 :: a15 :: a16 :: a17 :: a18 :: a19 :: a20 :: a21 :: some (.int x) :: t) (rest)) : JW G X k n w (pc) (a0 :: a1 :: a2 :: a3 :: a4 :: a5 :: a6 :: a7 :: a8 :: a9 :: a10 :: a11 :: a12 :: a13 :: a14 :: a15 :: a16 :: a17 :: a18 :: a19 :: a20 :: a21 :: b0 :: t) (.int x :: rest) := by
  obtain ⟨p, l, e, R, s, m, args, below, meth, c, Q, A⟩ := X
  obtain ⟨hx, hb, hml, hown, hts, hnw, hK, hlk, hA, hR⟩ := C
  intro H locs ls hP hD hS hl
  refine lv_istore hx hb d hl (by simp only [List.length_cons]; omega) rfl (fun ls2 h2 => ?_)
  exact kk H locs ls2 hP hD hS (by have h3 := jl_store1 (L := a0 :: a1 :: a2 :: a3 :: a4 :: a5 :: a6 :: a7 :: a8 :: a9 :: a10 :: a11 :: a12 :: a13 :: a14 :: a15 :: a16 :: a17 :: a18 :: a19 :: a20 :: a21 :: b0 :: t) (v := .int x) (by simp only [List.length_cons]; omega) (fun a _ h => by cases h; exact hc) h2; exact h3)
theorem jw_istore_23 {a0 a1 a2 a3 a4 a5 a6 a7 a8 a9 a10 a11 a12 a13 a14 a15 a16 a17 a18 a19 a20 a21 a22 b0 : Option Value} {x : Int32} {t : List (Option Value)} (C : JC G X rm cc own nL) (d : decode cc pc = .ok (.istore 23, 2)) (hc : jc1 a22 = true) (kk : JW G X k n w (pc + 2) (a0 :: a1 :: a2 :: a3 :: a4 :: a5 :: a6 :: a7 :: a8 :: a9 :: a10 :: a11 :: a12 :: a13 :: a14 :: a15 :: a16 :: a17 :: a18 :: a19 :: a20 :: a21 :: a22 :: some (.int x) :: t) (rest)) : JW G X k n w (pc) (a0 :: a1 :: a2 :: a3 :: a4 :: a5 :: a6 :: a7 :: a8 :: a9 :: a10 :: a11 :: a12 :: a13 :: a14 :: a15 :: a16 :: a17 :: a18 :: a19 :: a20 :: a21 :: a22 :: b0 :: t) (.int x :: rest) := by
  obtain ⟨p, l, e, R, s, m, args, below, meth, c, Q, A⟩ := X
  obtain ⟨hx, hb, hml, hown, hts, hnw, hK, hlk, hA, hR⟩ := C
  intro H locs ls hP hD hS hl
  refine lv_istore hx hb d hl (by simp only [List.length_cons]; omega) rfl (fun ls2 h2 => ?_)
  exact kk H locs ls2 hP hD hS (by have h3 := jl_store1 (L := a0 :: a1 :: a2 :: a3 :: a4 :: a5 :: a6 :: a7 :: a8 :: a9 :: a10 :: a11 :: a12 :: a13 :: a14 :: a15 :: a16 :: a17 :: a18 :: a19 :: a20 :: a21 :: a22 :: b0 :: t) (v := .int x) (by simp only [List.length_cons]; omega) (fun a _ h => by cases h; exact hc) h2; exact h3)
theorem jw_istore_24 {a0 a1 a2 a3 a4 a5 a6 a7 a8 a9 a10 a11 a12 a13 a14 a15 a16 a17 a18 a19 a20 a21 a22 a23 b0 : Option Value} {x : Int32} {t : List (Option Value)} (C : JC G X rm cc own nL) (d : decode cc pc = .ok (.istore 24, 2)) (hc : jc1 a23 = true) (kk : JW G X k n w (pc + 2) (a0 :: a1 :: a2 :: a3 :: a4 :: a5 :: a6 :: a7 :: a8 :: a9 :: a10 :: a11 :: a12 :: a13 :: a14 :: a15 :: a16 :: a17 :: a18 :: a19 :: a20 :: a21 :: a22 :: a23 :: some (.int x) :: t) (rest)) : JW G X k n w (pc) (a0 :: a1 :: a2 :: a3 :: a4 :: a5 :: a6 :: a7 :: a8 :: a9 :: a10 :: a11 :: a12 :: a13 :: a14 :: a15 :: a16 :: a17 :: a18 :: a19 :: a20 :: a21 :: a22 :: a23 :: b0 :: t) (.int x :: rest) := by
  obtain ⟨p, l, e, R, s, m, args, below, meth, c, Q, A⟩ := X
  obtain ⟨hx, hb, hml, hown, hts, hnw, hK, hlk, hA, hR⟩ := C
  intro H locs ls hP hD hS hl
  refine lv_istore hx hb d hl (by simp only [List.length_cons]; omega) rfl (fun ls2 h2 => ?_)
  exact kk H locs ls2 hP hD hS (by have h3 := jl_store1 (L := a0 :: a1 :: a2 :: a3 :: a4 :: a5 :: a6 :: a7 :: a8 :: a9 :: a10 :: a11 :: a12 :: a13 :: a14 :: a15 :: a16 :: a17 :: a18 :: a19 :: a20 :: a21 :: a22 :: a23 :: b0 :: t) (v := .int x) (by simp only [List.length_cons]; omega) (fun a _ h => by cases h; exact hc) h2; exact h3)
theorem jw_istore_25 {a0 a1 a2 a3 a4 a5 a6 a7 a8 a9 a10 a11 a12 a13 a14 a15 a16 a17 a18 a19 a20 a21 a22 a23 a24 b0 : Option Value} {x : Int32} {t : List (Option Value)} (C : JC G X rm cc own nL) (d : decode cc pc = .ok (.istore 25, 2)) (hc : jc1 a24 = true) (kk : JW G X k n w (pc + 2) (a0 :: a1 :: a2 :: a3 :: a4 :: a5 :: a6 :: a7 :: a8 :: a9 :: a10 :: a11 :: a12 :: a13 :: a14 :: a15 :: a16 :: a17 :: a18 :: a19 :: a20 :: a21 :: a22 :: a23 :: a24 :: some (.int x) :: t) (rest)) : JW G X k n w (pc) (a0 :: a1 :: a2 :: a3 :: a4 :: a5 :: a6 :: a7 :: a8 :: a9 :: a10 :: a11 :: a12 :: a13 :: a14 :: a15 :: a16 :: a17 :: a18 :: a19 :: a20 :: a21 :: a22 :: a23 :: a24 :: b0 :: t) (.int x :: rest) := by
  obtain ⟨p, l, e, R, s, m, args, below, meth, c, Q, A⟩ := X
  obtain ⟨hx, hb, hml, hown, hts, hnw, hK, hlk, hA, hR⟩ := C
  intro H locs ls hP hD hS hl
  refine lv_istore hx hb d hl (by simp only [List.length_cons]; omega) rfl (fun ls2 h2 => ?_)
  exact kk H locs ls2 hP hD hS (by have h3 := jl_store1 (L := a0 :: a1 :: a2 :: a3 :: a4 :: a5 :: a6 :: a7 :: a8 :: a9 :: a10 :: a11 :: a12 :: a13 :: a14 :: a15 :: a16 :: a17 :: a18 :: a19 :: a20 :: a21 :: a22 :: a23 :: a24 :: b0 :: t) (v := .int x) (by simp only [List.length_cons]; omega) (fun a _ h => by cases h; exact hc) h2; exact h3)
theorem jw_istore_26 {a0 a1 a2 a3 a4 a5 a6 a7 a8 a9 a10 a11 a12 a13 a14 a15 a16 a17 a18 a19 a20 a21 a22 a23 a24 a25 b0 : Option Value} {x : Int32} {t : List (Option Value)} (C : JC G X rm cc own nL) (d : decode cc pc = .ok (.istore 26, 2)) (hc : jc1 a25 = true) (kk : JW G X k n w (pc + 2) (a0 :: a1 :: a2 :: a3 :: a4 :: a5 :: a6 :: a7 :: a8 :: a9 :: a10 :: a11 :: a12 :: a13 :: a14 :: a15 :: a16 :: a17 :: a18 :: a19 :: a20 :: a21 :: a22 :: a23 :: a24 :: a25 :: some (.int x) :: t) (rest)) : JW G X k n w (pc) (a0 :: a1 :: a2 :: a3 :: a4 :: a5 :: a6 :: a7 :: a8 :: a9 :: a10 :: a11 :: a12 :: a13 :: a14 :: a15 :: a16 :: a17 :: a18 :: a19 :: a20 :: a21 :: a22 :: a23 :: a24 :: a25 :: b0 :: t) (.int x :: rest) := by
  obtain ⟨p, l, e, R, s, m, args, below, meth, c, Q, A⟩ := X
  obtain ⟨hx, hb, hml, hown, hts, hnw, hK, hlk, hA, hR⟩ := C
  intro H locs ls hP hD hS hl
  refine lv_istore hx hb d hl (by simp only [List.length_cons]; omega) rfl (fun ls2 h2 => ?_)
  exact kk H locs ls2 hP hD hS (by have h3 := jl_store1 (L := a0 :: a1 :: a2 :: a3 :: a4 :: a5 :: a6 :: a7 :: a8 :: a9 :: a10 :: a11 :: a12 :: a13 :: a14 :: a15 :: a16 :: a17 :: a18 :: a19 :: a20 :: a21 :: a22 :: a23 :: a24 :: a25 :: b0 :: t) (v := .int x) (by simp only [List.length_cons]; omega) (fun a _ h => by cases h; exact hc) h2; exact h3)
theorem jw_istore_27 {a0 a1 a2 a3 a4 a5 a6 a7 a8 a9 a10 a11 a12 a13 a14 a15 a16 a17 a18 a19 a20 a21 a22 a23 a24 a25 a26 b0 : Option Value} {x : Int32} {t : List (Option Value)} (C : JC G X rm cc own nL) (d : decode cc pc = .ok (.istore 27, 2)) (hc : jc1 a26 = true) (kk : JW G X k n w (pc + 2) (a0 :: a1 :: a2 :: a3 :: a4 :: a5 :: a6 :: a7 :: a8 :: a9 :: a10 :: a11 :: a12 :: a13 :: a14 :: a15 :: a16 :: a17 :: a18 :: a19 :: a20 :: a21 :: a22 :: a23 :: a24 :: a25 :: a26 :: some (.int x) :: t) (rest)) : JW G X k n w (pc) (a0 :: a1 :: a2 :: a3 :: a4 :: a5 :: a6 :: a7 :: a8 :: a9 :: a10 :: a11 :: a12 :: a13 :: a14 :: a15 :: a16 :: a17 :: a18 :: a19 :: a20 :: a21 :: a22 :: a23 :: a24 :: a25 :: a26 :: b0 :: t) (.int x :: rest) := by
  obtain ⟨p, l, e, R, s, m, args, below, meth, c, Q, A⟩ := X
  obtain ⟨hx, hb, hml, hown, hts, hnw, hK, hlk, hA, hR⟩ := C
  intro H locs ls hP hD hS hl
  refine lv_istore hx hb d hl (by simp only [List.length_cons]; omega) rfl (fun ls2 h2 => ?_)
  exact kk H locs ls2 hP hD hS (by have h3 := jl_store1 (L := a0 :: a1 :: a2 :: a3 :: a4 :: a5 :: a6 :: a7 :: a8 :: a9 :: a10 :: a11 :: a12 :: a13 :: a14 :: a15 :: a16 :: a17 :: a18 :: a19 :: a20 :: a21 :: a22 :: a23 :: a24 :: a25 :: a26 :: b0 :: t) (v := .int x) (by simp only [List.length_cons]; omega) (fun a _ h => by cases h; exact hc) h2; exact h3)
theorem jw_aload_0 {x : Nat} {t : List (Option Value)} (C : JC G X rm cc own nL) (d : decode cc pc = .ok (.aload_n 0, 1)) (kk : JW G X k n w (pc + 1) (some (.ref x) :: t) (.ref x :: rest)) : JW G X k n w (pc) (some (.ref x) :: t) (rest) := by
  obtain ⟨p, l, e, R, s, m, args, below, meth, c, Q, A⟩ := X
  obtain ⟨hx, hb, hml, hown, hts, hnw, hK, hlk, hA, hR⟩ := C
  intro H locs ls hP hD hS hl
  refine lv_aload_n hx hb d rfl (hl.2.2 (0, .ref x) ((jl0_mem _ _ _).mpr ⟨0, rfl, by omega⟩)) ?_
  exact kk H locs ls hP hD hS hl
theorem jw_aload_1 {a0 : Option Value} {x : Nat} {t : List (Option Value)} (C : JC G X rm cc own nL) (d : decode cc pc = .ok (.aload_n 1, 1)) (kk : JW G X k n w (pc + 1) (a0 :: some (.ref x) :: t) (.ref x :: rest)) : JW G X k n w (pc) (a0 :: some (.ref x) :: t) (rest) := by
  obtain ⟨p, l, e, R, s, m, args, below, meth, c, Q, A⟩ := X
  obtain ⟨hx, hb, hml, hown, hts, hnw, hK, hlk, hA, hR⟩ := C
  intro H locs ls hP hD hS hl
  refine lv_aload_n hx hb d rfl (hl.2.2 (1, .ref x) ((jl0_mem _ _ _).mpr ⟨1, rfl, by omega⟩)) ?_
  exact kk H locs ls hP hD hS hl
theorem jw_aload_2 {a0 a1 : Option Value} {x : Nat} {t : List (Option Value)} (C : JC G X rm cc own nL) (d : decode cc pc = .ok (.aload_n 2, 1)) (kk : JW G X k n w (pc + 1) (a0 :: a1 :: some (.ref x) :: t) (.ref x :: rest)) : JW G X k n w (pc) (a0 :: a1 :: some (.ref x) :: t) (rest) := by
  obtain ⟨p, l, e, R, s, m, args, below, meth, c, Q, A⟩ := X
  obtain ⟨hx, hb, hml, hown, hts, hnw, hK, hlk, hA, hR⟩ := C
  intro H locs ls hP hD hS hl
  refine lv_aload_n hx hb d rfl (hl.2.2 (2, .ref x) ((jl0_mem _ _ _).mpr ⟨2, rfl, by omega⟩)) ?_
  exact kk H locs ls hP hD hS hl
theorem jw_aload_3 {a0 a1 a2 : Option Value} {x : Nat} {t : List (Option Value)} (C : JC G X rm cc own nL) (d : decode cc pc = .ok (.aload_n 3, 1)) (kk : JW G X k n w (pc + 1) (a0 :: a1 :: a2 :: some (.ref x) :: t) (.ref x :: rest)) : JW G X k n w (pc) (a0 :: a1 :: a2 :: some (.ref x) :: t) (rest) := by
  obtain ⟨p, l, e, R, s, m, args, below, meth, c, Q, A⟩ := X
  obtain ⟨hx, hb, hml, hown, hts, hnw, hK, hlk, hA, hR⟩ := C
  intro H locs ls hP hD hS hl
  refine lv_aload_n hx hb d rfl (hl.2.2 (3, .ref x) ((jl0_mem _ _ _).mpr ⟨3, rfl, by omega⟩)) ?_
  exact kk H locs ls hP hD hS hl
theorem jw_aload_4 {a0 a1 a2 a3 : Option Value} {x : Nat} {t : List (Option Value)} (C : JC G X rm cc own nL) (d : decode cc pc = .ok (.aload 4, 2)) (kk : JW G X k n w (pc + 2) (a0 :: a1 :: a2 :: a3 :: some (.ref x) :: t) (.ref x :: rest)) : JW G X k n w (pc) (a0 :: a1 :: a2 :: a3 :: some (.ref x) :: t) (rest) := by
  obtain ⟨p, l, e, R, s, m, args, below, meth, c, Q, A⟩ := X
  obtain ⟨hx, hb, hml, hown, hts, hnw, hK, hlk, hA, hR⟩ := C
  intro H locs ls hP hD hS hl
  refine lv_aload hx hb d (hl.2.2 (4, .ref x) ((jl0_mem _ _ _).mpr ⟨4, rfl, by omega⟩)) ?_
  exact kk H locs ls hP hD hS hl
theorem jw_aload_5 {a0 a1 a2 a3 a4 : Option Value} {x : Nat} {t : List (Option Value)} (C : JC G X rm cc own nL) (d : decode cc pc = .ok (.aload 5, 2)) (kk : JW G X k n w (pc + 2) (a0 :: a1 :: a2 :: a3 :: a4 :: some (.ref x) :: t) (.ref x :: rest)) : JW G X k n w (pc) (a0 :: a1 :: a2 :: a3 :: a4 :: some (.ref x) :: t) (rest) := by
  obtain ⟨p, l, e, R, s, m, args, below, meth, c, Q, A⟩ := X
  obtain ⟨hx, hb, hml, hown, hts, hnw, hK, hlk, hA, hR⟩ := C
  intro H locs ls hP hD hS hl
  refine lv_aload hx hb d (hl.2.2 (5, .ref x) ((jl0_mem _ _ _).mpr ⟨5, rfl, by omega⟩)) ?_
  exact kk H locs ls hP hD hS hl
theorem jw_aload_6 {a0 a1 a2 a3 a4 a5 : Option Value} {x : Nat} {t : List (Option Value)} (C : JC G X rm cc own nL) (d : decode cc pc = .ok (.aload 6, 2)) (kk : JW G X k n w (pc + 2) (a0 :: a1 :: a2 :: a3 :: a4 :: a5 :: some (.ref x) :: t) (.ref x :: rest)) : JW G X k n w (pc) (a0 :: a1 :: a2 :: a3 :: a4 :: a5 :: some (.ref x) :: t) (rest) := by
  obtain ⟨p, l, e, R, s, m, args, below, meth, c, Q, A⟩ := X
  obtain ⟨hx, hb, hml, hown, hts, hnw, hK, hlk, hA, hR⟩ := C
  intro H locs ls hP hD hS hl
  refine lv_aload hx hb d (hl.2.2 (6, .ref x) ((jl0_mem _ _ _).mpr ⟨6, rfl, by omega⟩)) ?_
  exact kk H locs ls hP hD hS hl
theorem jw_aload_7 {a0 a1 a2 a3 a4 a5 a6 : Option Value} {x : Nat} {t : List (Option Value)} (C : JC G X rm cc own nL) (d : decode cc pc = .ok (.aload 7, 2)) (kk : JW G X k n w (pc + 2) (a0 :: a1 :: a2 :: a3 :: a4 :: a5 :: a6 :: some (.ref x) :: t) (.ref x :: rest)) : JW G X k n w (pc) (a0 :: a1 :: a2 :: a3 :: a4 :: a5 :: a6 :: some (.ref x) :: t) (rest) := by
  obtain ⟨p, l, e, R, s, m, args, below, meth, c, Q, A⟩ := X
  obtain ⟨hx, hb, hml, hown, hts, hnw, hK, hlk, hA, hR⟩ := C
  intro H locs ls hP hD hS hl
  refine lv_aload hx hb d (hl.2.2 (7, .ref x) ((jl0_mem _ _ _).mpr ⟨7, rfl, by omega⟩)) ?_
  exact kk H locs ls hP hD hS hl
theorem jw_aload_8 {a0 a1 a2 a3 a4 a5 a6 a7 : Option Value} {x : Nat} {t : List (Option Value)} (C : JC G X rm cc own nL) (d : decode cc pc = .ok (.aload 8, 2)) (kk : JW G X k n w (pc + 2) (a0 :: a1 :: a2 :: a3 :: a4 :: a5 :: a6 :: a7 :: some (.ref x) :: t) (.ref x :: rest)) : JW G X k n w (pc) (a0 :: a1 :: a2 :: a3 :: a4 :: a5 :: a6 :: a7 :: some (.ref x) :: t) (rest) := by
  obtain ⟨p, l, e, R, s, m, args, below, meth, c, Q, A⟩ := X
  obtain ⟨hx, hb, hml, hown, hts, hnw, hK, hlk, hA, hR⟩ := C
  intro H locs ls hP hD hS hl
  refine lv_aload hx hb d (hl.2.2 (8, .ref x) ((jl0_mem _ _ _).mpr ⟨8, rfl, by omega⟩)) ?_
  exact kk H locs ls hP hD hS hl
theorem jw_aload_9 {a0 a1 a2 a3 a4 a5 a6 a7 a8 : Option Value} {x : Nat} {t : List (Option Value)} (C : JC G X rm cc own nL) (d : decode cc pc = .ok (.aload 9, 2)) (kk : JW G X k n w (pc + 2) (a0 :: a1 :: a2 :: a3 :: a4 :: a5 :: a6 :: a7 :: a8 :: some (.ref x) :: t) (.ref x :: rest)) : JW G X k n w (pc) (a0 :: a1 :: a2 :: a3 :: a4 :: a5 :: a6 :: a7 :: a8 :: some (.ref x) :: t) (rest) := by
  obtain ⟨p, l, e, R, s, m, args, below, meth, c, Q, A⟩ := X
  obtain ⟨hx, hb, hml, hown, hts, hnw, hK, hlk, hA, hR⟩ := C
  intro H locs ls hP hD hS hl
  refine lv_aload hx hb d (hl.2.2 (9, .ref x) ((jl0_mem _ _ _).mpr ⟨9, rfl, by omega⟩)) ?_
  exact kk H locs ls hP hD hS hl
theorem jw_aload_10 {a0 a1 a2 a3 a4 a5 a6 a7 a8 a9 : Option Value} {x : Nat} {t : List (Option Value)} (C : JC G X rm cc own nL) (d : decode cc pc = .ok (.aload 10, 2)) (kk : JW G X k n w (pc + 2) (a0 :: a1 :: a2 :: a3 :: a4 :: a5 :: a6 :: a7 :: a8 :: a9 :: some (.ref x) :: t) (.ref x :: rest)) : JW G X k n w (pc) (a0 :: a1 :: a2 :: a3 :: a4 :: a5 :: a6 :: a7 :: a8 :: a9 :: some (.ref x) :: t) (rest) := by
  obtain ⟨p, l, e, R, s, m, args, below, meth, c, Q, A⟩ := X
  obtain ⟨hx, hb, hml, hown, hts, hnw, hK, hlk, hA, hR⟩ := C
  intro H locs ls hP hD hS hl
  refine lv_aload hx hb d (hl.2.2 (10, .ref x) ((jl0_mem _ _ _).mpr ⟨10, rfl, by omega⟩)) ?_
  exact kk H locs ls hP hD hS hl
theorem jw_aload_11 {a0 a1 a2 a3 a4 a5 a6 a7 a8 a9 a10 : Option Value} {x : Nat} {t : List (Option Value)} (C : JC G X rm cc own nL) (d : decode cc pc = .ok (.aload 11, 2)) (kk : JW G X k n w (pc + 2) (a0 :: a1 :: a2 :: a3 :: a4 :: a5 :: a6 :: a7 :: a8 :: a9 :: a10 :: some (.ref x) :: t) (.ref x :: rest)) : JW G X k n w (pc) (a0 :: a1 :: a2 :: a3 :: a4 :: a5 :: a6 :: a7 :: a8 :: a9 :: a10 :: some (.ref x) :: t) (rest) := by
  obtain ⟨p, l, e, R, s, m, args, below, meth, c, Q, A⟩ := X
  obtain ⟨hx, hb, hml, hown, hts, hnw, hK, hlk, hA, hR⟩ := C
  intro H locs ls hP hD hS hl
  refine lv_aload hx hb d (hl.2.2 (11, .ref x) ((jl0_mem _ _ _).mpr ⟨11, rfl, by omega⟩)) ?_
  exact kk H locs ls hP hD hS hl
theorem jw_aload_12 {a0 a1 a2 a3 a4 a5 a6 a7 a8 a9 a10 a11 : Option Value} {x : Nat} {t : List (Option Value)} (C : JC G X rm cc own nL) (d : decode cc pc = .ok (.aload 12, 2)) (kk : JW G X k n w (pc + 2) (a0 :: a1 :: a2 :: a3 :: a4 :: a5 :: a6 :: a7 :: a8 :: a9 :: a10 :: a11 :: some (.ref x) :: t) (.ref x :: rest)) : JW G X k n w (pc) (a0 :: a1 :: a2 :: a3 :: a4 :: a5 :: a6 :: a7 :: a8 :: a9 :: a10 :: a11 :: some (.ref x) :: t) (rest) := by
  obtain ⟨p, l, e, R, s, m, args, below, meth, c, Q, A⟩ := X
  obtain ⟨hx, hb, hml, hown, hts, hnw, hK, hlk, hA, hR⟩ := C
  intro H locs ls hP hD hS hl
  refine lv_aload hx hb d (hl.2.2 (12, .ref x) ((jl0_mem _ _ _).mpr ⟨12, rfl, by omega⟩)) ?_
  exact kk H locs ls hP hD hS hl
theorem jw_aload_13 {a0 a1 a2 a3 a4 a5 a6 a7 a8 a9 a10 a11 a12 : Option Value} {x : Nat} {t : List (Option Value)} (C : JC G X rm cc own nL) (d : decode cc pc = .ok (.aload 13, 2)) (kk : JW G X k n w (pc + 2) (a0 :: a1 :: a2 :: a3 :: a4 :: a5 :: a6 :: a7 :: a8 :: a9 :: a10 :: a11 :: a12 :: some (.ref x) :: t) (.ref x :: rest)) : JW G X k n w (pc) (a0 :: a1 :: a2 :: a3 :: a4 :: a5 :: a6 :: a7 :: a8 :: a9 :: a10 :: a11 :: a12 :: some (.ref x) :: t) (rest) := by
  obtain ⟨p, l, e, R, s, m, args, below, meth, c, Q, A⟩ := X
  obtain ⟨hx, hb, hml, hown, hts, hnw, hK, hlk, hA, hR⟩ := C
  intro H locs ls hP hD hS hl
  refine lv_aload hx hb d (hl.2.2 (13, .ref x) ((jl0_mem _ _ _).mpr ⟨13, rfl, by omega⟩)) ?_
  exact kk H locs ls hP hD hS hl
theorem jw_aload_14 {a0 a1 a2 a3 a4 a5 a6 a7 a8 a9 a10 a11 a12 a13 : Option Value} {x : Nat} {t : List (Option Value)} (C : JC G X rm cc own nL) (d : decode cc pc = .ok (.aload 14, 2)) (kk : JW G X k n w (pc + 2) (a0 :: a1 :: a2 :: a3 :: a4 :: a5 :: a6 :: a7 :: a8 :: a9 :: a10 :: a11 :: a12 :: a13 :: some (.ref x) :: t) (.ref x :: rest)) : JW G X k n w (pc) (a0 :: a1 :: a2 :: a3 :: a4 :: a5 :: a6 :: a7 :: a8 :: a9 :: a10 :: a11 :: a12 :: a13 :: some (.ref x) :: t) (rest) := by
  obtain ⟨p, l, e, R, s, m, args, below, meth, c, Q, A⟩ := X
  obtain ⟨hx, hb, hml, hown, hts, hnw, hK, hlk, hA, hR⟩ := C
  intro H locs ls hP hD hS hl
  refine lv_aload hx hb d (hl.2.2 (14, .ref x) ((jl0_mem _ _ _).mpr ⟨14, rfl, by omega⟩)) ?_
  exact kk H locs ls hP hD hS hl
theorem jw_aload_15 {a0 a1 a2 a3 a4 a5 a6 a7 a8 a9 a10 a11 a12 a13 a14 : Option Value} {x : Nat} {t : List (Option Value)} (C : JC G X rm cc own nL) (d : decode cc pc = .ok (.aload 15, 2)) (kk : JW G X k n w (pc + 2) (a0 :: a1 :: a2 :: a3 :: a4 :: a5 :: a6 :: a7 :: a8 :: a9 :: a10 :: a11 :: a12 :: a13 :: a14 :: some (.ref x) :: t) (.ref x :: rest)) : JW G X k n w (pc) (a0 :: a1 :: a2 :: a3 :: a4 :: a5 :: a6 :: a7 :: a8 :: a9 :: a10 :: a11 :: a12 :: a13 :: a14 :: some (.ref x) :: t) (rest) := by
  obtain ⟨p, l, e, R, s, m, args, below, meth, c, Q, A⟩ := X
  obtain ⟨hx, hb, hml, hown, hts, hnw, hK, hlk, hA, hR⟩ := C
  intro H locs ls hP hD hS hl
  refine lv_aload hx hb d (hl.2.2 (15, .ref x) ((jl0_mem _ _ _).mpr ⟨15, rfl, by omega⟩)) ?_
  exact kk H locs ls hP hD hS hl
theorem jw_aload_16 {a0 a1 a2 a3 a4 a5 a6 a7 a8 a9 a10 a11 a12 a13 a14 a15 : Option Value} {x : Nat} {t : List (Option Value)} (C : JC G X rm cc own nL) (d : decode cc pc = .ok (.aload 16, 2)) (kk : JW G X k n w (pc + 2) (a0 :: a1 :: a2 :: a3 :: a4 :: a5 :: a6 :: a7 :: a8 :: a9 :: a10 :: a11 :: a12 :: a13 :: a14 :: a15 :: some (.ref x) :: t) (.ref x :: rest)) : JW G X k n w (pc) (a0 :: a1 :: a2 :: a3 :: a4 :: a5 :: a6 :: a7 :: a8 :: a9 :: a10 :: a11 :: a12 :: a13 :: a14 :: a15 :: some (.ref x) :: t) (rest) := by
  obtain ⟨p, l, e, R, s, m, args, below, meth, c, Q, A⟩ := X
  obtain ⟨hx, hb, hml, hown, hts, hnw, hK, hlk, hA, hR⟩ := C
  intro H locs ls hP hD hS hl
  refine lv_aload hx hb d (hl.2.2 (16, .ref x) ((jl0_mem _ _ _).mpr ⟨16, rfl, by omega⟩)) ?_
  exact kk H locs ls hP hD hS hl
theorem jw_aload_17 {a0 a1 a2 a3 a4 a5 a6 a7 a8 a9 a10 a11 a12 a13 a14 a15 a16 : Option Value} {x : Nat} {t : List (Option Value)} (C : JC G X rm cc own nL) (d : decode cc pc = .ok (.aload 17, 2)) (kk : JW G X k n w (pc + 2) (a0 :: a1 :: a2 :: a3 :: a4 :: a5 :: a6 :: a7 :: a8 :: a9 :: a10 :: a11 :: a12 :: a13 :: a14 :: a15 :: a16 :: some (.ref x) :: t) (.ref x :: rest)) : JW G X k n w (pc) (a0 :: a1 :: a2 :: a3 :: a4 :: a5 :: a6 :: a7 :: a8 :: a9 :: a10 :: a11 :: a12 :: a13 :: a14 :: a15 :: a16 :: some (.ref x) :: t) (rest) := by
  obtain ⟨p, l, e, R, s, m, args, below, meth, c, Q, A⟩ := X
  obtain ⟨hx, hb, hml, hown, hts, hnw, hK, hlk, hA, hR⟩ := C
  intro H locs ls hP hD hS hl
  refine lv_aload hx hb d (hl.2.2 (17, .ref x) ((jl0_mem _ _ _).mpr ⟨17, rfl, by omega⟩)) ?_
  exact kk H locs ls hP hD hS hl
theorem jw_aload_18 {a0 a1 a2 a3 a4 a5 a6 a7 a8 a9 a10 a11 a12 a13 a14 a15 a16 a17 : Option Value} {x : Nat} {t : List (Option Value)} (C : JC G X rm cc own nL) (d : decode cc pc = .ok (.aload 18, 2)) (kk : JW G X k n w (pc + 2) (a0 :: a1 :: a2 :: a3 :: a4 :: a5 :: a6 :: a7 :: a8 :: a9 :: a10 :: a11 :: a12 :: a13 :: a14 :: a15 :: a16 :: a17 :: some (.ref x) :: t) (.ref x :: rest)) : JW G X k n w (pc) (a0 :: a1 :: a2 :: a3 :: a4 :: a5 :: a6 :: a7 :: a8 :: a9 :: a10 :: a11 :: a12 :: a13 :: a14 :: a15 :: a16 :: a17 :: some (.ref x) :: t) (rest) := by
  obtain ⟨p, l, e, R, s, m, args, below, meth, c, Q, A⟩ := X
  obtain ⟨hx, hb, hml, hown, hts, hnw, hK, hlk, hA, hR⟩ := C
  intro H locs ls hP hD hS hl
  refine lv_aload hx hb d (hl.2.2 (18, .ref x) ((jl0_mem _ _ _).mpr ⟨18, rfl, by omega⟩)) ?_
  exact kk H locs ls hP hD hS hl
theorem jw_aload_19 {a0 a1 a2 a3 a4 a5 a6 a7 a8 a9 a10 a11 a12 a13 a14 a15 a16 a17 a18 : Option Value} {x : Nat} {t : List (Option Value)} (C : JC G X rm cc own nL) (d : decode cc pc = .ok (.aload 19, 2)) (kk : JW G X k n w (pc + 2) (a0 :: a1 :: a2 :: a3 :: a4 :: a5 :: a6 :: a7 :: a8 :: a9 :: a10 :: a11 :: a12 :: a13 :: a14 :: a15 :: a16 :: a17 :: a18 :: some (.ref x) :: t) (.ref x :: rest)) : JW G X k n w (pc) (a0 :: a1 :: a2 :: a3 :: a4 :: a5 :: a6 :: a7 :: a8 :: a9 :: a10 :: a11 :: a12 :: a13 :: a14 :: a15 :: a16 :: a17 :: a18 :: some (.ref x) :: t) (rest) := by
  obtain ⟨p, l, e, R, s, m, args, below, meth, c, Q, A⟩ := X
  obtain ⟨hx, hb, hml, hown, hts, hnw, hK, hlk, hA, hR⟩ := C
  intro H locs ls hP hD hS hl
  refine lv_aload hx hb d (hl.2.2 (19, .ref x) ((jl0_mem _ _ _).mpr ⟨19, rfl, by omega⟩)) ?_
  exact kk H locs ls hP hD hS hl
theorem jw_aload_20 {a0 a1 a2 a3 a4 a5 a6 a7 a8 a9 a10 a11 a12 a13 a14 a15 a16 a17 a18 a19 : Option Value} {x : Nat} {t : List (Option Value)} (C : JC G X rm cc own nL) (d : decode cc pc = .ok (.aload 20, 2)) (kk : JW G X k n w (pc + 2) (a0 :: a1 :: a2 :: a3 :: a4 :: a5 :: a6 :: a7 :: a8 :: a9 :: a10 :: a11 :: a12 :: a13 :: a14 :: a15 :: a16 :: a17 :: a18 :: a19 :: some (.ref x) :: t) (.ref x :: rest)) : JW G X k n w (pc) (a0 :: a1 :: a2 :: a3 :: a4 :: a5 :: a6 :: a7 :: a8 :: a9 :: a10 :: a11 :: a12 :: a13 :: a14 :: a15 :: a16 :: a17 :: a18 :: a19 :: some (.ref x) :: t) (rest) := by
  obtain ⟨p, l, e, R, s, m, args, below, meth, c, Q, A⟩ := X
  obtain ⟨hx, hb, hml, hown, hts, hnw, hK, hlk, hA, hR⟩ := C
  intro H locs ls hP hD hS hl
  refine lv_aload hx hb d (hl.2.2 (20, .ref x) ((jl0_mem _ _ _).mpr ⟨20, rfl, by omega⟩)) ?_
  exact kk H locs ls hP hD hS hl
theorem jw_aload_21 {a0 a1 a2 a3 a4 a5 a6 a7 a8 a9 a10 a11 a12 a13 a14 a15 a16 a17 a18 a19 a20 : Option Value} {x : Nat} {t : List (Option Value)} (C : JC G X rm cc own nL) (d : decode cc pc = .ok (.aload 21, 2)) (kk : JW G X k n w (pc + 2) (a0 :: a1 :: a2 :: a3 :: a4 :: a5 :: a6 :: a7 :: a8 :: a9 :: a10 :: a11 :: a12 :: a13 :: a14 :: a15 :: a16 :: a17 :: a18 :: a19 :: a20 :: some (.ref x) :: t) (.ref x :: rest)) : JW G X k n w (pc) (a0 :: a1 :: a2 :: a3 :: a4 :: a5 :: a6 :: a7 :: a8 :: a9 :: a10 :: a11 :: a12 :: a13 :: a14 :: a15 :: a16 :: a17 :: a18 :: a19 :: a20 :: some (.ref x) :: t) (rest) := by
  obtain ⟨p, l, e, R, s, m, args, below, meth, c, Q, A⟩ := X
  obtain ⟨hx, hb, hml, hown, hts, hnw, hK, hlk, hA, hR⟩ := C
  intro H locs ls hP hD hS hl
  refine lv_aload hx hb d (hl.2.2 (21, .ref x) ((jl0_mem _ _ _).mpr ⟨21, rfl, by omega⟩)) ?_
  exact kk H locs ls hP hD hS hl
theorem jw_aload_22 {a0 a1 a2 a3 a4 a5 a6 a7 a8 a9 a10 a11 a12 a13 a14 a15 a16 a17 a18 a19 a20 a21 : Option Value} {x : Nat} {t : List (Option Value)} (C : JC G X rm cc own nL) (d : decode cc pc = .ok (.aload 22, 2)) (kk : JW G X k n w (pc + 2) (a0 :: a1 :: a2 :: a3 :: a4 :: a5 :: a6 :: a7 :: a8 :: a9 :: a10 :: a11 :: a12 :: a13 :: a14 :: a15 :: a16 :: a17 :: a18 :: a19 :: a20 :: a21 :: some (.ref x) :: t) (.ref x :: rest)) : JW G X k n w (pc) (a0 :: a1 :: a2 :: a3 :: a4 :: a5 :: a6 :: a7 :: a8 :: a9 :: a10 :: a11 :: a12 :: a13 :: a14 :: a15 :: a16 :: a17 :: a18 :: a19 :: a20 :: a21 :: some (.ref x) :: t) (rest) := by
  obtain ⟨p, l, e, R, s, m, args, below, meth, c, Q, A⟩ := X
  obtain ⟨hx, hb, hml, hown, hts, hnw, hK, hlk, hA, hR⟩ := C
  intro H locs ls hP hD hS hl
  refine lv_aload hx hb d (hl.2.2 (22, .ref x) ((jl0_mem _ _ _).mpr ⟨22, rfl, by omega⟩)) ?_
  exact kk H locs ls hP hD hS hl
theorem jw_aload_23 {a0 a1 a2 a3 a4 a5 a6 a7 a8 a9 a10 a11 a12 a13 a14 a15 a16 a17 a18 a19 a20 a21 a22 : Option Value} {x : Nat} {t : List (Option Value)} (C : JC G X rm cc own nL) (d : decode cc pc = .ok (.aload 23, 2)) (kk : JW G X k n w (pc + 2) (a0 :: a1 :: a2 :: a3 :: a4 :: a5 :: a6 :: a7 :: a8 :: a9 :: a10 :: a11 :: a12 :: a13 :: a14 :: a15 :: a16 :: a17 :: a18 :: a19 :: a20 :: a21 :: a22 :: some (.ref x) :: t) (.ref x :: rest)) : JW G X k n w (pc) (a0 :: a1 :: a2 :: a3 :: a4 :: a5 :: a6 :: a7 :: a8 :: a9 :: a10 :: a11 :: a12 :: a13 :: a14 :: a15 :: a16 :: a17 :: a18 :: a19 :: a20 :: a21 :: a22 :: some (.ref x) :: t) (rest) := by
  obtain ⟨p, l, e, R, s, m, args, below, meth, c, Q, A⟩ := X
  obtain ⟨hx, hb, hml, hown, hts, hnw, hK, hlk, hA, hR⟩ := C
  intro H locs ls hP hD hS hl
  refine lv_aload hx hb d (hl.2.2 (23, .ref x) ((jl0_mem _ _ _).mpr ⟨23, rfl, by omega⟩)) ?_
  exact kk H locs ls hP hD hS hl
theorem jw_aload_24 {a0 a1 a2 a3 a4 a5 a6 a7 a8 a9 a10 a11 a12 a13 a14 a15 a16 a17 a18 a19 a20 a21 a22 a23 : Option Value} {x : Nat} {t : List (Option Value)} (C : JC G X rm cc own nL) (d : decode cc pc = .ok (.aload 24, 2)) (kk : JW G X k n w (pc + 2) (a0 :: a1 :: a2 :: a3 :: a4 :: a5 :: a6 :: a7 :: a8 :: a9 :: a10 :: a11 :: a12 :: a13 :: a14 :: a15 :: a16 :: a17 :: a18 :: a19 :: a20 :: a21 :: a22 :: a23 :: some (.ref x) :: t) (.ref x :: rest)) : JW G X k n w (pc) (a0 :: a1 :: a2 :: a3 :: a4 :: a5 :: a6 :: a7 :: a8 :: a9 :: a10 :: a11 :: a12 :: a13 :: a14 :: a15 :: a16 :: a17 :: a18 :: a19 :: a20 :: a21 :: a22 :: a23 :: some (.ref x) :: t) (rest) := by
  obtain ⟨p, l, e, R, s, m, args, below, meth, c, Q, A⟩ := X
  obtain ⟨hx, hb, hml, hown, hts, hnw, hK, hlk, hA, hR⟩ := C
  intro H locs ls hP hD hS hl
  refine lv_aload hx hb d (hl.2.2 (24, .ref x) ((jl0_mem _ _ _).mpr ⟨24, rfl, by omega⟩)) ?_
  exact kk H locs ls hP hD hS hl
theorem jw_aload_25 {a0 a1 a2 a3 a4 a5 a6 a7 a8 a9 a10 a11 a12 a13 a14 a15 a16 a17 a18 a19 a20 a21 a22 a23 a24 : Option Value} {x : Nat} {t : List (Option Value)} (C : JC G X rm cc own nL) (d : decode cc pc = .ok (.aload 25, 2)) (kk : JW G X k n w (pc + 2) (a0 :: a1 :: a2 :: a3 :: a4 :: a5 :: a6 :: a7 :: a8 :: a9 :: a10 :: a11 :: a12 :: a13 :: a14 :: a15 :: a16 :: a17 :: a18 :: a19 :: a20 :: a21 :: a22 :: a23 :: a24 :: some (.ref x) :: t) (.ref x :: rest)) : JW G X k n w (pc) (a0 :: a1 :: a2 :: a3 :: a4 :: a5 :: a6 :: a7 :: a8 :: a9 :: a10 :: a11 :: a12 :: a13 :: a14 :: a15 :: a16 :: a17 :: a18 :: a19 :: a20 :: a21 :: a22 :: a23 :: a24 :: some (.ref x) :: t) (rest) := by
  obtain ⟨p, l, e, R, s, m, args, below, meth, c, Q, A⟩ := X
  obtain ⟨hx, hb, hml, hown, hts, hnw, hK, hlk, hA, hR⟩ := C
  intro H locs ls hP hD hS hl
  refine lv_aload hx hb d (hl.2.2 (25, .ref x) ((jl0_mem _ _ _).mpr ⟨25, rfl, by omega⟩)) ?_
  exact kk H locs ls hP hD hS hl
theorem jw_aload_26 {a0 a1 a2 a3 a4 a5 a6 a7 a8 a9 a10 a11 a12 a13 a14 a15 a16 a17 a18 a19 a20 a21 a22 a23 a24 a25 : Option Value} {x : Nat} {t : List (Option Value)} (C : JC G X rm cc own nL) (d : decode cc pc = .ok (.aload 26, 2)) (kk : JW G X k n w (pc + 2) (a0 :: a1 :: a2 :: a3 :: a4 :: a5 :: a6 :: a7 :: a8 :: a9 :: a10 :: a11 :: a12 :: a13 :: a14 :: a15 :: a16 :: a17 :: a18 :: a19 :: a20 :: a21 :: a22 :: a23 :: a24 :: a25 :: some (.ref x) :: t) (.ref x :: rest)) : JW G X k n w (pc) (a0 :: a1 :: a2 :: a3 :: a4 :: a5 :: a6 :: a7 :: a8 :: a9 :: a10 :: a11 :: a12 :: a13 :: a14 :: a15 :: a16 :: a17 :: a18 :: a19 :: a20 :: a21 :: a22 :: a23 :: a24 :: a25 :: some (.ref x) :: t) (rest) := by
  obtain ⟨p, l, e, R, s, m, args, below, meth, c, Q, A⟩ := X
  obtain ⟨hx, hb, hml, hown, hts, hnw, hK, hlk, hA, hR⟩ := C
  intro H locs ls hP hD hS hl
  refine lv_aload hx hb d (hl.2.2 (26, .ref x) ((jl0_mem _ _ _).mpr ⟨26, rfl, by omega⟩)) ?_
  exact kk H locs ls hP hD hS hl
theorem jw_aload_27 {a0 a1 a2 a3 a4 a5 a6 a7 a8 a9 a10 a11 a12 a13 a14 a15 a16 a17 a18 a19 a20 a21 a22 a23 a24 a25 a26 : Option Value} {x : Nat} {t : List (Option Value)} (C : JC G X rm cc own nL) (d : decode cc pc = .ok (.aload 27, 2)) (kk : JW G X k n w (pc + 2) (a0 :: a1 :: a2 :: a3 :: a4 :: a5 :: a6 :: a7 :: a8 :: a9 :: a10 :: a11 :: a12 :: a13 :: a14 :: a15 :: a16 :: a17 :: a18 :: a19 :: a20 :: a21 :: a22 :: a23 :: a24 :: a25 :: a26 :: some (.ref x) :: t) (.ref x :: rest)) : JW G X k n w (pc) (a0 :: a1 :: a2 :: a3 :: a4 :: a5 :: a6 :: a7 :: a8 :: a9 :: a10 :: a11 :: a12 :: a13 :: a14 :: a15 :: a16 :: a17 :: a18 :: a19 :: a20 :: a21 :: a22 :: a23 :: a24 :: a25 :: a26 :: some (.ref x) :: t) (rest) := by
  obtain ⟨p, l, e, R, s, m, args, below, meth, c, Q, A⟩ := X
  obtain ⟨hx, hb, hml, hown, hts, hnw, hK, hlk, hA, hR⟩ := C
  intro H locs ls hP hD hS hl
  refine lv_aload hx hb d (hl.2.2 (27, .ref x) ((jl0_mem _ _ _).mpr ⟨27, rfl, by omega⟩)) ?_
  exact kk H locs ls hP hD hS hl
theorem jw_astore_0 {b0 : Option Value} {x : Nat} {t : List (Option Value)} (C : JC G X rm cc own nL) (d : decode cc pc = .ok (.astore_n 0, 1)) (kk : JW G X k n w (pc + 1) (some (.ref x) :: t) (rest)) : JW G X k n w (pc) (b0 :: t) (.ref x :: rest) := by
  obtain ⟨p, l, e, R, s, m, args, below, meth, c, Q, A⟩ := X
  obtain ⟨hx, hb, hml, hown, hts, hnw, hK, hlk, hA, hR⟩ := C
  intro H locs ls hP hD hS hl
  refine lv_astore_n hx hb d rfl hl (by simp only [List.length_cons]; omega) rfl (fun ls2 h2 => ?_)
  exact kk H locs ls2 hP hD hS (by have h3 := jl_store1 (L := b0 :: t) (v := .ref x) (by simp only [List.length_cons]; omega) (fun a h _ => absurd h (Nat.lt_irrefl 0)) h2; exact h3)
theorem jw_astore_1 {a0 b0 : Option Value} {x : Nat} {t : List (Option Value)} (C : JC G X rm cc own nL) (d : decode cc pc = .ok (.astore_n 1, 1)) (hc : jc1 a0 = true) (kk : JW G X k n w (pc + 1) (a0 :: some (.ref x) :: t) (rest)) : JW G X k n w (pc) (a0 :: b0 :: t) (.ref x :: rest) := by
  obtain ⟨p, l, e, R, s, m, args, below, meth, c, Q, A⟩ := X
  obtain ⟨hx, hb, hml, hown, hts, hnw, hK, hlk, hA, hR⟩ := C
  intro H locs ls hP hD hS hl
  refine lv_astore_n hx hb d rfl hl (by simp only [List.length_cons]; omega) rfl (fun ls2 h2 => ?_)
  exact kk H locs ls2 hP hD hS (by have h3 := jl_store1 (L := a0 :: b0 :: t) (v := .ref x) (by simp only [List.length_cons]; omega) (fun a _ h => by cases h; exact hc) h2; exact h3)
theorem jw_astore_2 {a0 a1 b0 : Option Value} {x : Nat} {t : List (Option Value)} (C : JC G X rm cc own nL) (d : decode cc pc = .ok (.astore_n 2, 1)) (hc : jc1 a1 = true) (kk : JW G X k n w (pc + 1) (a0 :: a1 :: some (.ref x) :: t) (rest)) : JW G X k n w (pc) (a0 :: a1 :: b0 :: t) (.ref x :: rest) := by
  obtain ⟨p, l, e, R, s, m, args, below, meth, c, Q, A⟩ := X
  obtain ⟨hx, hb, hml, hown, hts, hnw, hK, hlk, hA, hR⟩ := C
  intro H locs ls hP hD hS hl
  refine lv_astore_n hx hb d rfl hl (by simp only [List.length_cons]; omega) rfl (fun ls2 h2 => ?_)
  exact kk H locs ls2 hP hD hS (by have h3 := jl_store1 (L := a0 :: a1 :: b0 :: t) (v := .ref x) (by simp only [List.length_cons]; omega) (fun a _ h => by cases h; exact hc) h2; exact h3)
theorem jw_astore_3 {a0 a1 a2 b0 : Option Value} {x : Nat} {t : List (Option Value)} (C : JC G X rm cc own nL) (d : decode cc pc = .ok (.astore_n 3, 1)) (hc : jc1 a2 = true) (kk : JW G X k n w (pc + 1) (a0 :: a1 :: a2 :: some (.ref x) :: t) (rest)) : JW G X k n w (pc) (a0 :: a1 :: a2 :: b0 :: t) (.ref x :: rest) := by
  obtain ⟨p, l, e, R, s, m, args, below, meth, c, Q, A⟩ := X
  obtain ⟨hx, hb, hml, hown, hts, hnw, hK, hlk, hA, hR⟩ := C
  intro H locs ls hP hD hS hl
  refine lv_astore_n hx hb d rfl hl (by simp only [List.length_cons]; omega) rfl (fun ls2 h2 => ?_)
  exact kk H locs ls2 hP hD hS (by have h3 := jl_store1 (L := a0 :: a1 :: a2 :: b0 :: t) (v := .ref x) (by simp only [List.length_cons]; omega) (fun a _ h => by cases h; exact hc) h2; exact h3)
theorem jw_astore_4 {a0 a1 a2 a3 b0 : Option Value} {x : Nat} {t : List (Option Value)} (C : JC G X rm cc own nL) (d : decode cc pc = .ok (.astore 4, 2)) (hc : jc1 a3 = true) (kk : JW G X k n w (pc + 2) (a0 :: a1 :: a2 :: a3 :: some (.ref x) :: t) (rest)) : JW G X k n w (pc) (a0 :: a1 :: a2 :: a3 :: b0 :: t) (.ref x :: rest) := by
  obtain ⟨p, l, e, R, s, m, args, below, meth, c, Q, A⟩ := X
  obtain ⟨hx, hb, hml, hown, hts, hnw, hK, hlk, hA, hR⟩ := C
  intro H locs ls hP hD hS hl
  refine lv_astore hx hb d hl (by simp only [List.length_cons]; omega) rfl (fun ls2 h2 => ?_)
  exact kk H locs ls2 hP hD hS (by have h3 := jl_store1 (L := a0 :: a1 :: a2 :: a3 :: b0 :: t) (v := .ref x) (by simp only [List.length_cons]; omega) (fun a _ h => by cases h; exact hc) h2; exact h3)
theorem jw_astore_5 {a0 a1 a2 a3 a4 b0 : Option Value} {x : Nat} {t : List (Option Value)} (C : JC G X rm cc own nL) (d : decode cc pc = .ok (.astore 5, 2)) (hc : jc1 a4 = true) (kk : JW G X k n w (pc + 2) (a0 :: a1 :: a2 :: a3 :: a4 :: some (.ref x) :: t) (rest)) : JW G X k n w (pc) (a0 :: a1 :: a2 :: a3 :: a4 :: b0 :: t) (.ref x :: rest) := by
  obtain ⟨p, l, e, R, s, m, args, below, meth, c, Q, A⟩ := X
  obtain ⟨hx, hb, hml, hown, hts, hnw, hK, hlk, hA, hR⟩ := C
  intro H locs ls hP hD hS hl
  refine lv_astore hx hb d hl (by simp only [List.length_cons]; omega) rfl (fun ls2 h2 => ?_)
  exact kk H locs ls2 hP hD hS (by have h3 := jl_store1 (L := a0 :: a1 :: a2 :: a3 :: a4 :: b0 :: t) (v := .ref x) (by simp only [List.length_cons]; omega) (fun a _ h => by cases h; exact hc) h2; exact h3)
theorem jw_astore_6 {a0 a1 a2 a3 a4 a5 b0 : Option Value} {x : Nat} {t : List (Option Value)} (C : JC G X rm cc own nL) (d : decode cc pc = .ok (.astore 6, 2)) (hc : jc1 a5 = true) (kk : JW G X k n w (pc + 2) (a0 :: a1 :: a2 :: a3 :: a4 :: a5 :: some (.ref x) :: t) (rest)) : JW G X k n w (pc) (a0 :: a1 :: a2 :: a3 :: a4 :: a5 :: b0 :: t) (.ref x :: rest) := by
  obtain ⟨p, l, e, R, s, m, args, below, meth, c, Q, A⟩ := X
  obtain ⟨hx, hb, hml, hown, hts, hnw, hK, hlk, hA, hR⟩ := C
  intro H locs ls hP hD hS hl
  refine lv_astore hx hb d hl (by simp only [List.length_cons]; omega) rfl (fun ls2 h2 => ?_)
  exact kk H locs ls2 hP hD hS (by have h3 := jl_store1 (L := a0 :: a1 :: a2 :: a3 :: a4 :: a5 :: b0 :: t) (v := .ref x) (by simp only [List.length_cons]; omega) (fun a _ h => by cases h; exact hc) h2; exact h3)
theorem jw_astore_7 {a0 a1 a2 a3 a4 a5 a6 b0 : Option Value} {x : Nat} {t : List (Option Value)} (C : JC G X rm cc own nL) (d : decode cc pc = .ok (.astore 7, 2)) (hc : jc1 a6 = true) (kk : JW G X k n w (pc + 2) (a0 :: a1 :: a2 :: a3 :: a4 :: a5 :: a6 :: some (.ref x) :: t) (rest)) : JW G X k n w (pc) (a0 :: a1 :: a2 :: a3 :: a4 :: a5 :: a6 :: b0 :: t) (.ref x :: rest) := by
  obtain ⟨p, l, e, R, s, m, args, below, meth, c, Q, A⟩ := X
  obtain ⟨hx, hb, hml, hown, hts, hnw, hK, hlk, hA, hR⟩ := C
  intro H locs ls hP hD hS hl
  refine lv_astore hx hb d hl (by simp only [List.length_cons]; omega) rfl (fun ls2 h2 => ?_)
  exact kk H locs ls2 hP hD hS (by have h3 := jl_store1 (L := a0 :: a1 :: a2 :: a3 :: a4 :: a5 :: a6 :: b0 :: t) (v := .ref x) (by simp only [List.length_cons]; omega) (fun a _ h => by cases h; exact hc) h2; exact h3)
theorem jw_astore_8 {a0 a1 a2 a3 a4 a5 a6 a7 b0 : Option Value} {x : Nat} {t : List (Option Value)} (C : JC G X rm cc own nL) (d : decode cc pc = .ok (.astore 8, 2)) (hc : jc1 a7 = true) (kk : JW G X k n w (pc + 2) (a0 :: a1 :: a2 :: a3 :: a4 :: a5 :: a6 :: a7 :: some (.ref x) :: t) (rest)) : JW G X k n w (pc) (a0 :: a1 :: a2 :: a3 :: a4 :: a5 :: a6 :: a7 :: b0 :: t) (.ref x :: rest) := by
  obtain ⟨p, l, e, R, s, m, args, below, meth, c, Q, A⟩ := X
  obtain ⟨hx, hb, hml, hown, hts, hnw, hK, hlk, hA, hR⟩ := C
  intro H locs ls hP hD hS hl
  refine lv_astore hx hb d hl (by simp only [List.length_cons]; omega) rfl (fun ls2 h2 => ?_)
  exact kk H locs ls2 hP hD hS (by have h3 := jl_store1 (L := a0 :: a1 :: a2 :: a3 :: a4 :: a5 :: a6 :: a7 :: b0 :: t) (v := .ref x) (by simp only [List.length_cons]; omega) (fun a _ h => by cases h; exact hc) h2; exact h3)
theorem jw_astore_9 {a0 a1 a2 a3 a4 a5 a6 a7 a8 b0 : Option Value} {x : Nat} {t : List (Option Value)} (C : JC G X rm cc own nL) (d : decode cc pc = .ok (.astore 9, 2)) (hc : jc1 a8 = true) (kk : JW G X k n w (pc + 2) (a0 :: a1 :: a2 :: a3 :: a4 :: a5 :: a6 :: a7 :: a8 :: some (.ref x) :: t) (rest)) : JW G X k n w (pc) (a0 :: a1 :: a2 :: a3 :: a4 :: a5 :: a6 :: a7 :: a8 :: b0 :: t) (.ref x :: rest) := by
  obtain ⟨p, l, e, R, s, m, args, below, meth, c, Q, A⟩ := X
  obtain ⟨hx, hb, hml, hown, hts, hnw, hK, hlk, hA, hR⟩ := C
  intro H locs ls hP hD hS hl
  refine lv_astore hx hb d hl (by simp only [List.length_cons]; omega) rfl (fun ls2 h2 => ?_)
  exact kk H locs ls2 hP hD hS (by have h3 := jl_store1 (L := a0 :: a1 :: a2 :: a3 :: a4 :: a5 :: a6 :: a7 :: a8 :: b0 :: t) (v := .ref x) (by simp only [List.length_cons]; omega) (fun a _ h => by cases h; exact hc) h2; exact h3)
theorem jw_astore_10 {a0 a1 a2 a3 a4 a5 a6 a7 a8 a9 b0 : Option Value} {x : Nat} {t : List (Option Value)} (C : JC G X rm cc own nL) (d : decode cc pc = .ok (.astore 10, 2)) (hc : jc1 a9 = true) (kk : JW G X k n w (pc + 2) (a0 :: a1 :: a2 :: a3 :: a4 :: a5 :: a6 :: a7 :: a8 :: a9 :: some (.ref x) :: t) (rest)) : JW G X k n w (pc) (a0 :: a1 :: a2 :: a3 :: a4 :: a5 :: a6 :: a7 :: a8 :: a9 :: b0 :: t) (.ref x :: rest) := by
  obtain ⟨p, l, e, R, s, m, args, below, meth, c, Q, A⟩ := X
  obtain ⟨hx, hb, hml, hown, hts, hnw, hK, hlk, hA, hR⟩ := C
  intro H locs ls hP hD hS hl
  refine lv_astore hx hb d hl (by simp only [List.length_cons]; omega) rfl (fun ls2 h2 => ?_)
  exact kk H locs ls2 hP hD hS (by have h3 := jl_store1 (L := a0 :: a1 :: a2 :: a3 :: a4 :: a5 :: a6 :: a7 :: a8 :: a9 :: b0 :: t) (v := .ref x) (by simp only [List.length_cons]; omega) (fun a _ h => by cases h; exact hc) h2; exact h3)
theorem jw_astore_11 {a0 a1 a2 a3 a4 a5 a6 a7 a8 a9 a10 b0 : Option Value} {x : Nat} {t : List (Option Value)} (C : JC G X rm cc own nL) (d : decode cc pc = .ok (.astore 11, 2)) (hc : jc1 a10 = true) (kk : JW G X k n w (pc + 2) (a0 :: a1 :: a2 :: a3 :: a4 :: a5 :: a6 :: a7 :: a8 :: a9 :: a10 :: some (.ref x) :: t) (rest)) : JW G X k n w (pc) (a0 :: a1 :: a2 :: a3 :: a4 :: a5 :: a6 :: a7 :: a8 :: a9 :: a10 :: b0 :: t) (.ref x :: rest) := by
  obtain ⟨p, l, e, R, s, m, args, below, meth, c, Q, A⟩ := X
  obtain ⟨hx, hb, hml, hown, hts, hnw, hK, hlk, hA, hR⟩ := C
  intro H locs ls hP hD hS hl
  refine lv_astore hx hb d hl (by simp only [List.length_cons]; omega) rfl (fun ls2 h2 => ?_)
  exact kk H locs ls2 hP hD hS (by have h3 := jl_store1 (L := a0 :: a1 :: a2 :: a3 :: a4 :: a5 :: a6 :: a7 :: a8 :: a9 :: a10 :: b0 :: t) (v := .ref x) (by simp only [List.length_cons]; omega) (fun a _ h => by cases h; exact hc) h2; exact h3)
theorem jw_astore_12 {a0 a1 a2 a3 a4 a5 a6 a7 a8 a9 a10 a11 b0 : Option Value} {x : Nat} {t : List (Option Value)} (C : JC G X rm cc own nL) (d : decode cc pc = .ok (.astore 12, 2)) (hc : jc1 a11 = true) (kk : JW G X k n w (pc + 2) (a0 :: a1 :: a2 :: a3 :: a4 :: a5 :: a6 :: a7 :: a8 :: a9 :: a10 :: a11 :: some (.ref x) :: t) (rest)) : JW G X k n w (pc) (a0 :: a1 :: a2 :: a3 :: a4 :: a5 :: a6 :: a7 :: a8 :: a9 :: a10 :: a11 :: b0 :: t) (.ref x :: rest) := by
  obtain ⟨p, l, e, R, s, m, args, below, meth, c, Q, A⟩ := X
  obtain ⟨hx, hb, hml, hown, hts, hnw, hK, hlk, hA, hR⟩ := C
  intro H locs ls hP hD hS hl
  refine lv_astore hx hb d hl (by simp only [List.length_cons]; omega) rfl (fun ls2 h2 => ?_)
  exact kk H locs ls2 hP hD hS (by have h3 := jl_store1 (L := a0 :: a1 :: a2 :: a3 :: a4 :: a5 :: a6 :: a7 :: a8 :: a9 :: a10 :: a11 :: b0 :: t) (v := .ref x) (by simp only [List.length_cons]; omega) (fun a _ h => by cases h; exact hc) h2; exact h3)
theorem jw_astore_13 {a0 a1 a2 a3 a4 a5 a6 a7 a8 a9 a10 a11 a12 b0 : Option Value} {x : Nat} {t : List (Option Value)} (C : JC G X rm cc own nL) (d : decode cc pc = .ok (.astore 13, 2)) (hc : jc1 a12 = true) (kk : JW G X k n w (pc + 2) (a0 :: a1 :: a2 :: a3 :: a4 :: a5 :: a6 :: a7 :: a8 :: a9 :: a10 :: a11 :: a12 :: some (.ref x) :: t) (rest)) : JW G X k n w (pc) (a0 :: a1 :: a2 :: a3 :: a4 :: a5 :: a6 :: a7 :: a8 :: a9 :: a10 :: a11 :: a12 :: b0 :: t) (.ref x :: rest) := by
  obtain ⟨p, l, e, R, s, m, args, below, meth, c, Q, A⟩ := X
  obtain ⟨hx, hb, hml, hown, hts, hnw, hK, hlk, hA, hR⟩ := C
  intro H locs ls hP hD hS hl
  refine lv_astore hx hb d hl (by simp only [List.length_cons]; omega) rfl (fun ls2 h2 => ?_)
  exact kk H locs ls2 hP hD hS (by have h3 := jl_store1 (L := a0 :: a1 :: a2 :: a3 :: a4 :: a5 :: a6 :: a7 :: a8 :: a9 :: a10 :: a11 :: a12 :: b0 :: t) (v := .ref x) (by simp only [List.length_cons]; omega) (fun a _ h => by cases h; exact hc) h2; exact h3)
theorem jw_astore_14 {a0 a1 a2 a3 a4 a5 a6 a7 a8 a9 a10 a11 a12 a13 b0 : Option Value} {x : Nat} {t : List (Option Value)} (C : JC G X rm cc own nL) (d : decode cc pc = .ok (.astore 14, 2)) (hc : jc1 a13 = true) (kk : JW G X k n w (pc + 2) (a0 :: a1 :: a2 :: a3 :: a4 :: a5 :: a6 :: a7 :: a8 :: a9 :: a10 :: a11 :: a12 :: a13 :: some (.ref x) :: t) (rest)) : JW G X k n w (pc) (a0 :: a1 :: a2 :: a3 :: a4 :: a5 :: a6 :: a7 :: a8 :: a9 :: a10 :: a11 :: a12 :: a13 :: b0 :: t) (.ref x :: rest) := by
  obtain ⟨p, l, e, R, s, m, args, below, meth, c, Q, A⟩ := X
  obtain ⟨hx, hb, hml, hown, hts, hnw, hK, hlk, hA, hR⟩ := C
  intro H locs ls hP hD hS hl
  refine lv_astore hx hb d hl (by simp only [List.length_cons]; omega) rfl (fun ls2 h2 => ?_)
  exact kk H locs ls2 hP hD hS (by have h3 := jl_store1 (L := a0 :: a1 :: a2 :: a3 :: a4 :: a5 :: a6 :: a7 :: a8 :: a9 :: a10 :: a11 :: a12 :: a13 :: b0 :: t) (v := .ref x) (by simp only [List.length_cons]; omega) (fun a _ h => by cases h; exact hc) h2; exact h3)
theorem jw_astore_15 {a0 a1 a2 a3 a4 a5 a6 a7 a8 a9 a10 a11 a12 a13 a14 b0 : Option Value} {x : Nat} {t : List (Option Value)} (C : JC G X rm cc own nL) (d : decode cc pc = .ok (.astore 15, 2)) (hc : jc1 a14 = true) (kk : JW G X k n w (pc + 2) (a0 :: a1 :: a2 :: a3 :: a4 :: a5 :: a6 :: a7 :: a8 :: a9 :: a10 :: a11 :: a12 :: a13 :: a14 :: some (.ref x) :: t) (rest)) : JW G X k n w (pc) (a0 :: a1 :: a2 :: a3 :: a4 :: a5 :: a6 :: a7 :: a8 :: a9 :: a10 :: a11 :: a12 :: a13 :: a14 :: b0 :: t) (.ref x :: rest) := by
  obtain ⟨p, l, e, R, s, m, args, below, meth, c, Q, A⟩ := X
  obtain ⟨hx, hb, hml, hown, hts, hnw, hK, hlk, hA, hR⟩ := C
  intro H locs ls hP hD hS hl
  refine lv_astore hx hb d hl (by simp only [List.length_cons]; omega) rfl (fun ls2 h2 => ?_)
  exact kk H locs ls2 hP hD hS (by have h3 := jl_store1 (L := a0 :: a1 :: a2 :: a3 :: a4 :: a5 :: a6 :: a7 :: a8 :: a9 :: a10 :: a11 :: a12 :: a13 :: a14 :: b0 :: t) (v := .ref x) (by simp only [List.length_cons]; omega) (fun a _ h => by cases h; exact hc) h2; exact h3)
theorem jw_astore_16 {a0 a1 a2 a3 a4 a5 a6 a7 a8 a9 a10 a11 a12 a13 a14 a15 b0 : Option Value} {x : Nat} {t : List (Option Value)} (C : JC G X rm cc own nL) (d : decode cc pc = .ok (.astore 16, 2)) (hc : jc1 a15 = true) (kk : JW G X k n w (pc + 2) (a0 :: a1 :: a2 :: a3 :: a4 :: a5 :: a6 :: a7 :: a8 :: a9 :: a10 :: a11 :: a12 :: a13 :: a14 :: a15 :: some (.ref x) :: t) (rest)) : JW G X k n w (pc) (a0 :: a1 :: a2 :: a3 :: a4 :: a5 :: a6 :: a7 :: a8 :: a9 :: a10 :: a11 :: a12 :: a13 :: a14 :: a15 :: b0 :: t) (.ref x :: rest) := by
  obtain ⟨p, l, e, R, s, m, args, below, meth, c, Q, A⟩ := X
  obtain ⟨hx, hb, hml, hown, hts, hnw, hK, hlk, hA, hR⟩ := C
  intro H locs ls hP hD hS hl
  refine lv_astore hx hb d hl (by simp only [List.length_cons]; omega) rfl (fun ls2 h2 => ?_)
  exact kk H locs ls2 hP hD hS (by have h3 := jl_store1 (L := a0 :: a1 :: a2 :: a3 :: a4 :: a5 :: a6 :: a7 :: a8 :: a9 :: a10 :: a11 :: a12 :: a13 :: a14 :: a15 :: b0 :: t) (v := .ref x) (by simp only [List.length_cons]; omega) (fun a _ h => by cases h; exact hc) h2; exact h3)
theorem jw_astore_17 {a0 a1 a2 a3 a4 a5 a6 a7 a8 a9 a10 a11 a12 a13 a14 a15 a16 b0 : Option Value} {x : Nat} {t : List (Option Value)} (C : JC G X rm cc own nL) (d : decode cc pc = .ok (.astore 17, 2)) (hc : jc1 a16 = true) (kk : JW G X k n w (pc + 2) (a0 :: a1 :: a2 :: a3 :: a4 :: a5 :: a6 :: a7 :: a8 :: a9 :: a10 :: a11 :: a12 :: a13 :: a14 :: a15 :: a16 :: some (.ref x) :: t) (rest)) : JW G X k n w (pc) (a0 :: a1 :: a2 :: a3 :: a4 :: a5 :: a6 :: a7 :: a8 :: a9 :: a10 :: a11 :: a12 :: a13 :: a14 :: a15 :: a16 :: b0 :: t) (.ref x :: rest) := by
  obtain ⟨p, l, e, R, s, m, args, below, meth, c, Q, A⟩ := X
  obtain ⟨hx, hb, hml, hown, hts, hnw, hK, hlk, hA, hR⟩ := C
  intro H locs ls hP hD hS hl
  refine lv_astore hx hb d hl (by simp only [List.length_cons]; omega) rfl (fun ls2 h2 => ?_)
  exact kk H locs ls2 hP hD hS (by have h3 := jl_store1 (L := a0 :: a1 :: a2 :: a3 :: a4 :: a5 :: a6 :: a7 :: a8 :: a9 :: a10 :: a11 :: a12 :: a13 :: a14 :: a15 :: a16 :: b0 :: t) (v := .ref x) (by simp only [List.length_cons]; omega) (fun a _ h => by cases h; exact hc) h2; exact h3)
theorem jw_astore_18 {a0 a1 a2 a3 a4 a5 a6 a7 a8 a9 a10 a11 a12 a13 a14 a15 a16 a17 b0 : Option Value} {x : Nat} {t : List (Option Value)} (C : JC G X rm cc own nL) (d : decode cc pc = .ok (.astore 18, 2)) (hc : jc1 a17 = true) (kk : JW G X k n w (pc + 2) (a0 :: a1 :: a2 :: a3 :: a4 :: a5 :: a6 :: a7 :: a8 :: a9 :: a10 :: a11 :: a12 :: a13 :: a14 :: a15 :: a16 :: a17 :: some (.ref x) :: t) (rest)) : JW G X k n w (pc) (a0 :: a1 :: a2 :: a3 :: a4 :: a5 :: a6 :: a7 :: a8 :: a9 :: a10 :: a11 :: a12 :: a13 :: a14 :: a15 :: a16 :: a17 :: b0 :: t) (.ref x :: rest) := by
  obtain ⟨p, l, e, R, s, m, args, below, meth, c, Q, A⟩ := X
  obtain ⟨hx, hb, hml, hown, hts, hnw, hK, hlk, hA, hR⟩ := C
  intro H locs ls hP hD hS hl
  refine lv_astore hx hb d hl (by simp only [List.length_cons]; omega) rfl (fun ls2 h2 => ?_)
  exact kk H locs ls2 hP hD hS (by have h3 := jl_store1 (L := a0 :: a1 :: a2 :: a3 :: a4 :: a5 :: a6 :: a7 :: a8 :: a9 :: a10 :: a11 :: a12 :: a13 :: a14 :: a15 :: a16 :: a17 :: b0 :: t) (v := .ref x) (by simp only [List.length_cons]; omega) (fun a _ h => by cases h; exact hc) h2; exact h3)
theorem jw_astore_19 {a0 a1 a2 a3 a4 a5 a6 a7 a8 a9 a10 a11 a12 a13 a14 a15 a16 a17 a18 b0 : Option Value} {x : Nat} {t : List (Option Value)} (C : JC G X rm cc own nL) (d : decode cc pc = .ok (.astore 19, 2)) (hc : jc1 a18 = true) (kk : JW G X k n w (pc + 2) (a0 :: a1 :: a2 :: a3 :: a4 :: a5 :: a6 :: a7 :: a8 :: a9 :: a10 :: a11 :: a12 :: a13 :: a14 :: a15 :: a16 :: a17 :: a18 :: some (.ref x) :: t) (rest)) : JW G X k n w (pc) (a0 :: a1 :: a2 :: a3 :: a4 :: a5 :: a6 :: a7 :: a8 :: a9 :: a10 :: a11 :: a12 :: a13 :: a14 :: a15 :: a16 :: a17 :: a18 :: b0 :: t) (.ref x :: rest) := by
  obtain ⟨p, l, e, R, s, m, args, below, meth, c, Q, A⟩ := X
  obtain ⟨hx, hb, hml, hown, hts, hnw, hK, hlk, hA, hR⟩ := C
  intro H locs ls hP hD hS hl
  refine lv_astore hx hb d hl (by simp only [List.length_cons]; omega) rfl (fun ls2 h2 => ?_)
  exact kk H locs ls2 hP hD hS (by have h3 := jl_store1 (L := a0 :: a1 :: a2 :: a3 :: a4 :: a5 :: a6 :: a7 :: a8 :: a9 :: a10 :: a11 :: a12 :: a13 :: a14 :: a15 :: a16 :: a17 :: a18 :: b0 :: t) (v := .ref x) (by simp only [List.length_cons]; omega) (fun a _ h => by cases h; exact hc) h2; exact h3)
theorem jw_astore_20 {a0 a1 a2 a3 a4 a5 a6 a7 a8 a9 a10 a11 a12 a13 a14 a15 a16 a17 a18 a19 b0 : Option Value} {x : Nat} {t : List (Option Value)} (C : JC G X rm cc own nL) (d : decode cc pc = .ok (.astore 20, 2)) (hc : jc1 a19 = true) (kk : JW G X k n w (pc + 2) (a0 :: a1 :: a2 :: a3 :: a4 :: a5 :: a6 :: a7 :: a8 :: a9 :: a10 :: a11 :: a12 :: a13 :: a14 :: a15 :: a16 :: a17 :: a18 :: a19 :: some (.ref x) :: t) (rest)) : JW G X k n w (pc) (a0 :: a1 :: a2 :: a3 :: a4 :: a5 :: a6 :: a7 :: a8 :: a9 :: a10 :: a11 :: a12 :: a13 :: a14 :: a15 :: a16 :: a17 :: a18 :: a19 :: b0 :: t) (.ref x :: rest) := by
  obtain ⟨p, l, e, R, s, m, args, below, meth, c, Q, A⟩ := X
  obtain ⟨hx, hb, hml, hown, hts, hnw, hK, hlk, hA, hR⟩ := C
  intro H locs ls hP hD hS hl
  refine lv_astore hx hb d hl (by simp only [List.length_cons]; omega) rfl (fun ls2 h2 => ?_)
  exact kk H locs ls2 hP hD hS (by have h3 := jl_store1 (L := a0 :: a1 :: a2 :: a3 :: a4 :: a5 :: a6 :: a7 :: a8 :: a9 :: a10 :: a11 :: a12 :: a13 :: a14 :: a15 :: a16 :: a17 :: a18 :: a19 :: b0 :: t) (v := .ref x) (by simp only [List.length_cons]; omega) (fun a _ h => by cases h; exact hc) h2; exact h3)
theorem jw_astore_21 {a0 a1 a2 a3 a4 a5 a6 a7 a8 a9 a10 a11 a12 a13 a14 a15 a16 a17 a18 a19 a20 b0 : Option Value} {x : Nat} {t : List (Option Value)} (C : JC G X rm cc own nL) (d : decode cc pc = .ok (.astore 21, 2)) (hc : jc1 a20 = true) (kk : JW G X k n w (pc + 2) (a0 :: a1 :: a2 :: a3 :: a4 :: a5 :: a6 :: a7 :: a8 :: a9 :: a10 :: a11 :: a12 :: a13 :: a14 :: a15 :: a16 :: a17 :: a18 :: a19 :: a20 :: some (.ref x) :: t) (rest)) : JW G X k n w (pc) (a0 :: a1 :: a2 :: a3 :: a4 :: a5 :: a6 :: a7 :: a8 :: a9 :: a10 :: a11 :: a12 :: a13 :: a14 :: a15 :: a16 :: a17 :: a18 :: a19 :: a20 :: b0 :: t) (.ref x :: rest) := by
  obtain ⟨p, l, e, R, s, m, args, below, meth, c, Q, A⟩ := X
  obtain ⟨hx, hb, hml, hown, hts, hnw, hK, hlk, hA, hR⟩ := C
  intro H locs ls hP hD hS hl
  refine lv_astore hx hb d hl (by simp only [List.length_cons]; omega) rfl (fun ls2 h2 => ?_)
  exact kk H locs ls2 hP hD hS (by have h3 := jl_store1 (L := a0 :: a1 :: a2 :: a3 :: a4 :: a5 :: a6 :: a7 :: a8 :: a9 :: a10 :: a11 :: a12 :: a13 :: a14 :: a15 :: a16 :: a17 :: a18 :: a19 :: a20 :: b0 :: t) (v := .ref x) (by simp only [List.length_cons]; omega) (fun a _ h => by cases h; exact hc) h2; exact h3)
theorem jw_astore_22 {a0 a1 a2 a3 a4 a5 a6 a7 a8 a9 a10 a11 a12 a13 a14 a15 a16 a17 a18 a19 a20 a21 b0 : Option Value} {x : Nat} {t : List (Option Value)} (C : JC G X rm cc own nL) (d : decode cc pc = .ok (.astore 22, 2)) (hc : jc1 a21 = true) (kk : JW G X k n w (pc + 2) (a0 :: a1 :: a2 :: a3 :: a4 :: a5 :: a6 :: a7 :: a8 :: a9 :: a10 :: a11 :: a12 :: a13 :: a14 :: a15 :: a16 :: a17 :: a18 :: a19 :: a20 :: a21 :: some (.ref x) :: t) (rest)) : JW G X k n w (pc) (a0 :: a1 :: a2 :: a3 :: a4 :: a5 :: a6 :: a7 :: a8 :: a9 :: a10 :: a11 :: a12 :: a13 :: a14 :: a15 :: a16 :: a17 :: a18 :: a19 :: a20 :: a21 :: b0 :: t) (.ref x :: rest) := by
  obtain ⟨p, l, e, R, s, m, args, below, meth, c, Q, A⟩ := X
  obtain ⟨hx, hb, hml, hown, hts, hnw, hK, hlk, hA, hR⟩ := C
  intro H locs ls hP hD hS hl
  refine lv_astore hx hb d hl (by simp only [List.length_cons]; omega) rfl (fun ls2 h2 => ?_)
  exact kk H locs ls2 hP hD hS (by have h3 := jl_store1 (L := a0 :: a1 :: a2 :: a3 :: a4 :: a5 :: a6 :: a7 :: a8 :: a9 :: a10 :: a11 :: a12 :: a13 :: a14 :: a15 :: a16 :: a17 :: a18 :: a19 :: a20 :: a21 :: b0 :: t) (v := .ref x) (by simp only [List.length_cons]; omega) (fun a _ h => by cases h; exact hc) h2; exact h3)
theorem jw_astore_23 {a0 a1 a2 a3 a4 a5 a6 a7 a8 a9 a10 a11 a12 a13 a14 a15 a16 a17 a18 a19 a20 a21 a22 b0 : Option Value} {x : Nat} {t : List (Option Value)} (C : JC G X rm cc own nL) (d : decode cc pc = .ok (.astore 23, 2)) (hc : jc1 a22 = true) (kk : JW G X k n w (pc + 2) (a0 :: a1 :: a2 :: a3 :: a4 :: a5 :: a6 :: a7 :: a8 :: a9 :: a10 :: a11 :: a12 :: a13 :: a14 :: a15 :: a16 :: a17 :: a18 :: a19 :: a20 :: a21 :: a22 :: some (.ref x) :: t) (rest)) : JW G X k n w (pc) (a0 :: a1 :: a2 :: a3 :: a4 :: a5 :: a6 :: a7 :: a8 :: a9 :: a10 :: a11 :: a12 :: a13 :: a14 :: a15 :: a16 :: a17 :: a18 :: a19 :: a20 :: a21 :: a22 :: b0 :: t) (.ref x :: rest) := by
  obtain ⟨p, l, e, R, s, m, args, below, meth, c, Q, A⟩ := X
  obtain ⟨hx, hb, hml, hown, hts, hnw, hK, hlk, hA, hR⟩ := C
  intro H locs ls hP hD hS hl
  refine lv_astore hx hb d hl (by simp only [List.length_cons]; omega) rfl (fun ls2 h2 => ?_)
  exact kk H locs ls2 hP hD hS (by have h3 := jl_store1 (L := a0 :: a1 :: a2 :: a3 :: a4 :: a5 :: a6 :: a7 :: a8 :: a9 :: a10 :: a11 :: a12 :: a13 :: a14 :: a15 :: a16 :: a17 :: a18 :: a19 :: a20 :: a21 :: a22 :: b0 :: t) (v := .ref x) (by simp only [List.length_cons]; omega) (fun a _ h => by cases h; exact hc) h2; exact h3)
theorem jw_astore_24 {a0 a1 a2 a3 a4 a5 a6 a7 a8 a9 a10 a11 a12 a13 a14 a15 a16 a17 a18 a19 a20 a21 a22 a23 b0 : Option Value} {x : Nat} {t : List (Option Value)} (C : JC G X rm cc own nL) (d : decode cc pc = .ok (.astore 24, 2)) (hc : jc1 a23 = true) (kk : JW G X k n w (pc + 2) (a0 :: a1 :: a2 :: a3 :: a4 :: a5 :: a6 :: a7 :: a8 :: a9 :: a10 :: a11 :: a12 :: a13 :: a14 :: a15 :: a16 :: a17 :: a18 :: a19 :: a20 :: a21 :: a22 :: a23 :: some (.ref x) :: t) (rest)) : JW G X k n w (pc) (a0 :: a1 :: a2 :: a3 :: a4 :: a5 :: a6 :: a7 :: a8 :: a9 :: a10 :: a11 :: a12 :: a13 :: a14 :: a15 :: a16 :: a17 :: a18 :: a19 :: a20 :: a21 :: a22 :: a23 :: b0 :: t) (.ref x :: rest) := by
  obtain ⟨p, l, e, R, s, m, args, below, meth, c, Q, A⟩ := X
  obtain ⟨hx, hb, hml, hown, hts, hnw, hK, hlk, hA, hR⟩ := C
  intro H locs ls hP hD hS hl
  refine lv_astore hx hb d hl (by simp only [List.length_cons]; omega) rfl (fun ls2 h2 => ?_)
  exact kk H locs ls2 hP hD hS (by have h3 := jl_store1 (L := a0 :: a1 :: a2 :: a3 :: a4 :: a5 :: a6 :: a7 :: a8 :: a9 :: a10 :: a11 :: a12 :: a13 :: a14 :: a15 :: a16 :: a17 :: a18 :: a19 :: a20 :: a21 :: a22 :: a23 :: b0 :: t) (v := .ref x) (by simp only [List.length_cons]; omega) (fun a _ h => by cases h; exact hc) h2; exact h3)
theorem jw_astore_25 {a0 a1 a2 a3 a4 a5 a6 a7 a8 a9 a10 a11 a12 a13 a14 a15 a16 a17 a18 a19 a20 a21 a22 a23 a24 b0 : Option Value} {x : Nat} {t : List (Option Value)} (C : JC G X rm cc own nL) (d : decode cc pc = .ok (.astore 25, 2)) (hc : jc1 a24 = true) (kk : JW G X k n w (pc + 2) (a0 :: a1 :: a2 :: a3 :: a4 :: a5 :: a6 :: a7 :: a8 :: a9 :: a10 :: a11 :: a12 :: a13 :: a14 :: a15 :: a16 :: a17 :: a18 :: a19 :: a20 :: a21 :: a22 :: a23 :: a24 :: some (.ref x) :: t) (rest)) : JW G X k n w (pc) (a0 :: a1 :: a2 :: a3 :: a4 :: a5 :: a6 :: a7 :: a8 :: a9 :: a10 :: a11 :: a12 :: a13 :: a14 :: a15 :: a16 :: a17 :: a18 :: a19 :: a20 :: a21 :: a22 :: a23 :: a24 :: b0 :: t) (.ref x :: rest) := by
  obtain ⟨p, l, e, R, s, m, args, below, meth, c, Q, A⟩ := X
  obtain ⟨hx, hb, hml, hown, hts, hnw, hK, hlk, hA, hR⟩ := C
  intro H locs ls hP hD hS hl
  refine lv_astore hx hb d hl (by simp only [List.length_cons]; omega) rfl (fun ls2 h2 => ?_)
  exact kk H locs ls2 hP hD hS (by have h3 := jl_store1 (L := a0 :: a1 :: a2 :: a3 :: a4 :: a5 :: a6 :: a7 :: a8 :: a9 :: a10 :: a11 :: a12 :: a13 :: a14 :: a15 :: a16 :: a17 :: a18 :: a19 :: a20 :: a21 :: a22 :: a23 :: a24 :: b0 :: t) (v := .ref x) (by simp only [List.length_cons]; omega) (fun a _ h => by cases h; exact hc) h2; exact h3)
theorem jw_astore_26 {a0 a1 a2 a3 a4 a5 a6 a7 a8 a9 a10 a11 a12 a13 a14 a15 a16 a17 a18 a19 a20 a21 a22 a23 a24 a25 b0 : Option Value} {x : Nat} {t : List (Option Value)} (C : JC G X rm cc own nL) (d : decode cc pc = .ok (.astore 26, 2)) (hc : jc1 a25 = true) (kk : JW G X k n w (pc + 2) (a0 :: a1 :: a2 :: a3 :: a4 :: a5 :: a6 :: a7 :: a8 :: a9 :: a10 :: a11 :: a12 :: a13 :: a14 :: a15 :: a16 :: a17 :: a18 :: a19 :: a20 :: a21 :: a22 :: a23 :: a24 :: a25 :: some (.ref x) :: t) (rest)) : JW G X k n w (pc) (a0 :: a1 :: a2 :: a3 :: a4 :: a5 :: a6 :: a7 :: a8 :: a9 :: a10 :: a11 :: a12 :: a13 :: a14 :: a15 :: a16 :: a17 :: a18 :: a19 :: a20 :: a21 :: a22 :: a23 :: a24 :: a25 :: b0 :: t) (.ref x :: rest) := by
  obtain ⟨p, l, e, R, s, m, args, below, meth, c, Q, A⟩ := X
  obtain ⟨hx, hb, hml, hown, hts, hnw, hK, hlk, hA, hR⟩ := C
  intro H locs ls hP hD hS hl
  refine lv_astore hx hb d hl (by simp only [List.length_cons]; omega) rfl (fun ls2 h2 => ?_)
  exact kk H locs ls2 hP hD hS (by have h3 := jl_store1 (L := a0 :: a1 :: a2 :: a3 :: a4 :: a5 :: a6 :: a7 :: a8 :: a9 :: a10 :: a11 :: a12 :: a13 :: a14 :: a15 :: a16 :: a17 :: a18 :: a19 :: a20 :: a21 :: a22 :: a23 :: a24 :: a25 :: b0 :: t) (v := .ref x) (by simp only [List.length_cons]; omega) (fun a _ h => by cases h; exact hc) h2; exact h3)
theorem jw_astore_27 {a0 a1 a2 a3 a4 a5 a6 a7 a8 a9 a10 a11 a12 a13 a14 a15 a16 a17 a18 a19 a20 a21 a22 a23 a24 a25 a26 b0 : Option Value} {x : Nat} {t : List (Option Value)} (C : JC G X rm cc own nL) (d : decode cc pc = .ok (.astore 27, 2)) (hc : jc1 a26 = true) (kk : JW G X k n w (pc + 2) (a0 :: a1 :: a2 :: a3 :: a4 :: a5 :: a6 :: a7 :: a8 :: a9 :: a10 :: a11 :: a12 :: a13 :: a14 :: a15 :: a16 :: a17 :: a18 :: a19 :: a20 :: a21 :: a22 :: a23 :: a24 :: a25 :: a26 :: some (.ref x) :: t) (rest)) : JW G X k n w (pc) (a0 :: a1 :: a2 :: a3 :: a4 :: a5 :: a6 :: a7 :: a8 :: a9 :: a10 :: a11 :: a12 :: a13 :: a14 :: a15 :: a16 :: a17 :: a18 :: a19 :: a20 :: a21 :: a22 :: a23 :: a24 :: a25 :: a26 :: b0 :: t) (.ref x :: rest) := by
  obtain ⟨p, l, e, R, s, m, args, below, meth, c, Q, A⟩ := X
  obtain ⟨hx, hb, hml, hown, hts, hnw, hK, hlk, hA, hR⟩ := C
  intro H locs ls hP hD hS hl
  refine lv_astore hx hb d hl (by simp only [List.length_cons]; omega) rfl (fun ls2 h2 => ?_)
  exact kk H locs ls2 hP hD hS (by have h3 := jl_store1 (L := a0 :: a1 :: a2 :: a3 :: a4 :: a5 :: a6 :: a7 :: a8 :: a9 :: a10 :: a11 :: a12 :: a13 :: a14 :: a15 :: a16 :: a17 :: a18 :: a19 :: a20 :: a21 :: a22 :: a23 :: a24 :: a25 :: a26 :: b0 :: t) (v := .ref x) (by simp only [List.length_cons]; omega) (fun a _ h => by cases h; exact hc) h2; exact h3)
theorem jw_iinc_0 {a z : Int} {t : List (Option Value)} (C : JC G X rm cc own nL) (d : decode cc pc = .ok (.iinc 0 z, 3)) (kk : JW G X k n w (pc + 3) (some (.int (iI (a + z))) :: t) (rest)) : JW G X k n w (pc) (some (.int (iI a)) :: t) (rest) := by
  obtain ⟨p, l, e, R, s, m, args, below, meth, c, Q, A⟩ := X
  obtain ⟨hx, hb, hml, hown, hts, hnw, hK, hlk, hA, hR⟩ := C
  intro H locs ls hP hD hS hl
  obtain ⟨j, hj⟩ := List.getElem?_of_mem ((jl0_mem (some (.int (iI a)) :: t) 0 (0, Value.int (iI a))).mpr ⟨0, rfl, by omega⟩)
  refine lv_iinc (v := iI (a + z)) hx hb d hl (k := j) hj (by rw [← iI_add]; rfl) (by simp only [List.length_cons]; omega) rfl (fun ls2 h2 => ?_)
  exact kk H locs ls2 hP hD hS (by have h3 := jl_store1 (L := some (.int (iI a)) :: t) (v := .int (iI (a + z))) (by simp only [List.length_cons]; omega) (fun a h _ => absurd h (Nat.lt_irrefl 0)) h2; exact h3)
theorem jw_iinc_1 {a0 : Option Value} {a z : Int} {t : List (Option Value)} (C : JC G X rm cc own nL) (d : decode cc pc = .ok (.iinc 1 z, 3)) (hc : jc1 a0 = true) (kk : JW G X k n w (pc + 3) (a0 :: some (.int (iI (a + z))) :: t) (rest)) : JW G X k n w (pc) (a0 :: some (.int (iI a)) :: t) (rest) := by
  obtain ⟨p, l, e, R, s, m, args, below, meth, c, Q, A⟩ := X
  obtain ⟨hx, hb, hml, hown, hts, hnw, hK, hlk, hA, hR⟩ := C
  intro H locs ls hP hD hS hl
  obtain ⟨j, hj⟩ := List.getElem?_of_mem ((jl0_mem (a0 :: some (.int (iI a)) :: t) 0 (1, Value.int (iI a))).mpr ⟨1, rfl, by omega⟩)
  refine lv_iinc (v := iI (a + z)) hx hb d hl (k := j) hj (by rw [← iI_add]; rfl) (by simp only [List.length_cons]; omega) rfl (fun ls2 h2 => ?_)
  exact kk H locs ls2 hP hD hS (by have h3 := jl_store1 (L := a0 :: some (.int (iI a)) :: t) (v := .int (iI (a + z))) (by simp only [List.length_cons]; omega) (fun a _ h => by cases h; exact hc) h2; exact h3)
theorem jw_iinc_2 {a0 a1 : Option Value} {a z : Int} {t : List (Option Value)} (C : JC G X rm cc own nL) (d : decode cc pc = .ok (.iinc 2 z, 3)) (hc : jc1 a1 = true) (kk : JW G X k n w (pc + 3) (a0 :: a1 :: some (.int (iI (a + z))) :: t) (rest)) : JW G X k n w (pc) (a0 :: a1 :: some (.int (iI a)) :: t) (rest) := by
  obtain ⟨p, l, e, R, s, m, args, below, meth, c, Q, A⟩ := X
  obtain ⟨hx, hb, hml, hown, hts, hnw, hK, hlk, hA, hR⟩ := C
  intro H locs ls hP hD hS hl
  obtain ⟨j, hj⟩ := List.getElem?_of_mem ((jl0_mem (a0 :: a1 :: some (.int (iI a)) :: t) 0 (2, Value.int (iI a))).mpr ⟨2, rfl, by omega⟩)
  refine lv_iinc (v := iI (a + z)) hx hb d hl (k := j) hj (by rw [← iI_add]; rfl) (by simp only [List.length_cons]; omega) rfl (fun ls2 h2 => ?_)
  exact kk H locs ls2 hP hD hS (by have h3 := jl_store1 (L := a0 :: a1 :: some (.int (iI a)) :: t) (v := .int (iI (a + z))) (by simp only [List.length_cons]; omega) (fun a _ h => by cases h; exact hc) h2; exact h3)
theorem jw_iinc_3 {a0 a1 a2 : Option Value} {a z : Int} {t : List (Option Value)} (C : JC G X rm cc own nL) (d : decode cc pc = .ok (.iinc 3 z, 3)) (hc : jc1 a2 = true) (kk : JW G X k n w (pc + 3) (a0 :: a1 :: a2 :: some (.int (iI (a + z))) :: t) (rest)) : JW G X k n w (pc) (a0 :: a1 :: a2 :: some (.int (iI a)) :: t) (rest) := by
  obtain ⟨p, l, e, R, s, m, args, below, meth, c, Q, A⟩ := X
  obtain ⟨hx, hb, hml, hown, hts, hnw, hK, hlk, hA, hR⟩ := C
  intro H locs ls hP hD hS hl
  obtain ⟨j, hj⟩ := List.getElem?_of_mem ((jl0_mem (a0 :: a1 :: a2 :: some (.int (iI a)) :: t) 0 (3, Value.int (iI a))).mpr ⟨3, rfl, by omega⟩)
  refine lv_iinc (v := iI (a + z)) hx hb d hl (k := j) hj (by rw [← iI_add]; rfl) (by simp only [List.length_cons]; omega) rfl (fun ls2 h2 => ?_)
  exact kk H locs ls2 hP hD hS (by have h3 := jl_store1 (L := a0 :: a1 :: a2 :: some (.int (iI a)) :: t) (v := .int (iI (a + z))) (by simp only [List.length_cons]; omega) (fun a _ h => by cases h; exact hc) h2; exact h3)
theorem jw_iinc_4 {a0 a1 a2 a3 : Option Value} {a z : Int} {t : List (Option Value)} (C : JC G X rm cc own nL) (d : decode cc pc = .ok (.iinc 4 z, 3)) (hc : jc1 a3 = true) (kk : JW G X k n w (pc + 3) (a0 :: a1 :: a2 :: a3 :: some (.int (iI (a + z))) :: t) (rest)) : JW G X k n w (pc) (a0 :: a1 :: a2 :: a3 :: some (.int (iI a)) :: t) (rest) := by
  obtain ⟨p, l, e, R, s, m, args, below, meth, c, Q, A⟩ := X
  obtain ⟨hx, hb, hml, hown, hts, hnw, hK, hlk, hA, hR⟩ := C
  intro H locs ls hP hD hS hl
  obtain ⟨j, hj⟩ := List.getElem?_of_mem ((jl0_mem (a0 :: a1 :: a2 :: a3 :: some (.int (iI a)) :: t) 0 (4, Value.int (iI a))).mpr ⟨4, rfl, by omega⟩)
  refine lv_iinc (v := iI (a + z)) hx hb d hl (k := j) hj (by rw [← iI_add]; rfl) (by simp only [List.length_cons]; omega) rfl (fun ls2 h2 => ?_)
  exact kk H locs ls2 hP hD hS (by have h3 := jl_store1 (L := a0 :: a1 :: a2 :: a3 :: some (.int (iI a)) :: t) (v := .int (iI (a + z))) (by simp only [List.length_cons]; omega) (fun a _ h => by cases h; exact hc) h2; exact h3)
theorem jw_iinc_5 {a0 a1 a2 a3 a4 : Option Value} {a z : Int} {t : List (Option Value)} (C : JC G X rm cc own nL) (d : decode cc pc = .ok (.iinc 5 z, 3)) (hc : jc1 a4 = true) (kk : JW G X k n w (pc + 3) (a0 :: a1 :: a2 :: a3 :: a4 :: some (.int (iI (a + z))) :: t) (rest)) : JW G X k n w (pc) (a0 :: a1 :: a2 :: a3 :: a4 :: some (.int (iI a)) :: t) (rest) := by
  obtain ⟨p, l, e, R, s, m, args, below, meth, c, Q, A⟩ := X
  obtain ⟨hx, hb, hml, hown, hts, hnw, hK, hlk, hA, hR⟩ := C
  intro H locs ls hP hD hS hl
  obtain ⟨j, hj⟩ := List.getElem?_of_mem ((jl0_mem (a0 :: a1 :: a2 :: a3 :: a4 :: some (.int (iI a)) :: t) 0 (5, Value.int (iI a))).mpr ⟨5, rfl, by omega⟩)
  refine lv_iinc (v := iI (a + z)) hx hb d hl (k := j) hj (by rw [← iI_add]; rfl) (by simp only [List.length_cons]; omega) rfl (fun ls2 h2 => ?_)
  exact kk H locs ls2 hP hD hS (by have h3 := jl_store1 (L := a0 :: a1 :: a2 :: a3 :: a4 :: some (.int (iI a)) :: t) (v := .int (iI (a + z))) (by simp only [List.length_cons]; omega) (fun a _ h => by cases h; exact hc) h2; exact h3)
theorem jw_iinc_6 {a0 a1 a2 a3 a4 a5 : Option Value} {a z : Int} {t : List (Option Value)} (C : JC G X rm cc own nL) (d : decode cc pc = .ok (.iinc 6 z, 3)) (hc : jc1 a5 = true) (kk : JW G X k n w (pc + 3) (a0 :: a1 :: a2 :: a3 :: a4 :: a5 :: some (.int (iI (a + z))) :: t) (rest)) : JW G X k n w (pc) (a0 :: a1 :: a2 :: a3 :: a4 :: a5 :: some (.int (iI a)) :: t) (rest) := by
  obtain ⟨p, l, e, R, s, m, args, below, meth, c, Q, A⟩ := X
  obtain ⟨hx, hb, hml, hown, hts, hnw, hK, hlk, hA, hR⟩ := C
  intro H locs ls hP hD hS hl
  obtain ⟨j, hj⟩ := List.getElem?_of_mem ((jl0_mem (a0 :: a1 :: a2 :: a3 :: a4 :: a5 :: some (.int (iI a)) :: t) 0 (6, Value.int (iI a))).mpr ⟨6, rfl, by omega⟩)
  refine lv_iinc (v := iI (a + z)) hx hb d hl (k := j) hj (by rw [← iI_add]; rfl) (by simp only [List.length_cons]; omega) rfl (fun ls2 h2 => ?_)
  exact kk H locs ls2 hP hD hS (by have h3 := jl_store1 (L := a0 :: a1 :: a2 :: a3 :: a4 :: a5 :: some (.int (iI a)) :: t) (v := .int (iI (a + z))) (by simp only [List.length_cons]; omega) (fun a _ h => by cases h; exact hc) h2; exact h3)
theorem jw_iinc_7 {a0 a1 a2 a3 a4 a5 a6 : Option Value} {a z : Int} {t : List (Option Value)} (C : JC G X rm cc own nL) (d : decode cc pc = .ok (.iinc 7 z, 3)) (hc : jc1 a6 = true) (kk : JW G X k n w (pc + 3) (a0 :: a1 :: a2 :: a3 :: a4 :: a5 :: a6 :: some (.int (iI (a + z))) :: t) (rest)) : JW G X k n w (pc) (a0 :: a1 :: a2 :: a3 :: a4 :: a5 :: a6 :: some (.int (iI a)) :: t) (rest) := by
  obtain ⟨p, l, e, R, s, m, args, below, meth, c, Q, A⟩ := X
  obtain ⟨hx, hb, hml, hown, hts, hnw, hK, hlk, hA, hR⟩ := C
  intro H locs ls hP hD hS hl
  obtain ⟨j, hj⟩ := List.getElem?_of_mem ((jl0_mem (a0 :: a1 :: a2 :: a3 :: a4 :: a5 :: a6 :: some (.int (iI a)) :: t) 0 (7, Value.int (iI a))).mpr ⟨7, rfl, by omega⟩)
  refine lv_iinc (v := iI (a + z)) hx hb d hl (k := j) hj (by rw [← iI_add]; rfl) (by simp only [List.length_cons]; omega) rfl (fun ls2 h2 => ?_)
  exact kk H locs ls2 hP hD hS (by have h3 := jl_store1 (L := a0 :: a1 :: a2 :: a3 :: a4 :: a5 :: a6 :: some (.int (iI a)) :: t) (v := .int (iI (a + z))) (by simp only [List.length_cons]; omega) (fun a _ h => by cases h; exact hc) h2; exact h3)
theorem jw_iinc_8 {a0 a1 a2 a3 a4 a5 a6 a7 : Option Value} {a z : Int} {t : List (Option Value)} (C : JC G X rm cc own nL) (d : decode cc pc = .ok (.iinc 8 z, 3)) (hc : jc1 a7 = true) (kk : JW G X k n w (pc + 3) (a0 :: a1 :: a2 :: a3 :: a4 :: a5 :: a6 :: a7 :: some (.int (iI (a + z))) :: t) (rest)) : JW G X k n w (pc) (a0 :: a1 :: a2 :: a3 :: a4 :: a5 :: a6 :: a7 :: some (.int (iI a)) :: t) (rest) := by
  obtain ⟨p, l, e, R, s, m, args, below, meth, c, Q, A⟩ := X
  obtain ⟨hx, hb, hml, hown, hts, hnw, hK, hlk, hA, hR⟩ := C
  intro H locs ls hP hD hS hl
  obtain ⟨j, hj⟩ := List.getElem?_of_mem ((jl0_mem (a0 :: a1 :: a2 :: a3 :: a4 :: a5 :: a6 :: a7 :: some (.int (iI a)) :: t) 0 (8, Value.int (iI a))).mpr ⟨8, rfl, by omega⟩)
  refine lv_iinc (v := iI (a + z)) hx hb d hl (k := j) hj (by rw [← iI_add]; rfl) (by simp only [List.length_cons]; omega) rfl (fun ls2 h2 => ?_)
  exact kk H locs ls2 hP hD hS (by have h3 := jl_store1 (L := a0 :: a1 :: a2 :: a3 :: a4 :: a5 :: a6 :: a7 :: some (.int (iI a)) :: t) (v := .int (iI (a + z))) (by simp only [List.length_cons]; omega) (fun a _ h => by cases h; exact hc) h2; exact h3)
theorem jw_iinc_9 {a0 a1 a2 a3 a4 a5 a6 a7 a8 : Option Value} {a z : Int} {t : List (Option Value)} (C : JC G X rm cc own nL) (d : decode cc pc = .ok (.iinc 9 z, 3)) (hc : jc1 a8 = true) (kk : JW G X k n w (pc + 3) (a0 :: a1 :: a2 :: a3 :: a4 :: a5 :: a6 :: a7 :: a8 :: some (.int (iI (a + z))) :: t) (rest)) : JW G X k n w (pc) (a0 :: a1 :: a2 :: a3 :: a4 :: a5 :: a6 :: a7 :: a8 :: some (.int (iI a)) :: t) (rest) := by
  obtain ⟨p, l, e, R, s, m, args, below, meth, c, Q, A⟩ := X
  obtain ⟨hx, hb, hml, hown, hts, hnw, hK, hlk, hA, hR⟩ := C
  intro H locs ls hP hD hS hl
  obtain ⟨j, hj⟩ := List.getElem?_of_mem ((jl0_mem (a0 :: a1 :: a2 :: a3 :: a4 :: a5 :: a6 :: a7 :: a8 :: some (.int (iI a)) :: t) 0 (9, Value.int (iI a))).mpr ⟨9, rfl, by omega⟩)
  refine lv_iinc (v := iI (a + z)) hx hb d hl (k := j) hj (by rw [← iI_add]; rfl) (by simp only [List.length_cons]; omega) rfl (fun ls2 h2 => ?_)
  exact kk H locs ls2 hP hD hS (by have h3 := jl_store1 (L := a0 :: a1 :: a2 :: a3 :: a4 :: a5 :: a6 :: a7 :: a8 :: some (.int (iI a)) :: t) (v := .int (iI (a + z))) (by simp only [List.length_cons]; omega) (fun a _ h => by cases h; exact hc) h2; exact h3)
theorem jw_iinc_10 {a0 a1 a2 a3 a4 a5 a6 a7 a8 a9 : Option Value} {a z : Int} {t : List (Option Value)} (C : JC G X rm cc own nL) (d : decode cc pc = .ok (.iinc 10 z, 3)) (hc : jc1 a9 = true) (kk : JW G X k n w (pc + 3) (a0 :: a1 :: a2 :: a3 :: a4 :: a5 :: a6 :: a7 :: a8 :: a9 :: some (.int (iI (a + z))) :: t) (rest)) : JW G X k n w (pc) (a0 :: a1 :: a2 :: a3 :: a4 :: a5 :: a6 :: a7 :: a8 :: a9 :: some (.int (iI a)) :: t) (rest) := by
  obtain ⟨p, l, e, R, s, m, args, below, meth, c, Q, A⟩ := X
  obtain ⟨hx, hb, hml, hown, hts, hnw, hK, hlk, hA, hR⟩ := C
  intro H locs ls hP hD hS hl
  obtain ⟨j, hj⟩ := List.getElem?_of_mem ((jl0_mem (a0 :: a1 :: a2 :: a3 :: a4 :: a5 :: a6 :: a7 :: a8 :: a9 :: some (.int (iI a)) :: t) 0 (10, Value.int (iI a))).mpr ⟨10, rfl, by omega⟩)
  refine lv_iinc (v := iI (a + z)) hx hb d hl (k := j) hj (by rw [← iI_add]; rfl) (by simp only [List.length_cons]; omega) rfl (fun ls2 h2 => ?_)
  exact kk H locs ls2 hP hD hS (by have h3 := jl_store1 (L := a0 :: a1 :: a2 :: a3 :: a4 :: a5 :: a6 :: a7 :: a8 :: a9 :: some (.int (iI a)) :: t) (v := .int (iI (a + z))) (by simp only [List.length_cons]; omega) (fun a _ h => by cases h; exact hc) h2; exact h3)
theorem jw_iinc_11 {a0 a1 a2 a3 a4 a5 a6 a7 a8 a9 a10 : Option Value} {a z : Int} {t : List (Option Value)} (C : JC G X rm cc own nL) (d : decode cc pc = .ok (.iinc 11 z, 3)) (hc : jc1 a10 = true) (kk : JW G X k n w (pc + 3) (a0 :: a1 :: a2 :: a3 :: a4 :: a5 :: a6 :: a7 :: a8 :: a9 :: a10 :: some (.int (iI (a + z))) :: t) (rest)) : JW G X k n w (pc) (a0 :: a1 :: a2 :: a3 :: a4 :: a5 :: a6 :: a7 :: a8 :: a9 :: a10 :: some (.int (iI a)) :: t) (rest) := by
  obtain ⟨p, l, e, R, s, m, args, below, meth, c, Q, A⟩ := X
  obtain ⟨hx, hb, hml, hown, hts, hnw, hK, hlk, hA, hR⟩ := C
  intro H locs ls hP hD hS hl
  obtain ⟨j, hj⟩ := List.getElem?_of_mem ((jl0_mem (a0 :: a1 :: a2 :: a3 :: a4 :: a5 :: a6 :: a7 :: a8 :: a9 :: a10 :: some (.int (iI a)) :: t) 0 (11, Value.int (iI a))).mpr ⟨11, rfl, by omega⟩)
  refine lv_iinc (v := iI (a + z)) hx hb d hl (k := j) hj (by rw [← iI_add]; rfl) (by simp only [List.length_cons]; omega) rfl (fun ls2 h2 => ?_)
  exact kk H locs ls2 hP hD hS (by have h3 := jl_store1 (L := a0 :: a1 :: a2 :: a3 :: a4 :: a5 :: a6 :: a7 :: a8 :: a9 :: a10 :: some (.int (iI a)) :: t) (v := .int (iI (a + z))) (by simp only [List.length_cons]; omega) (fun a _ h => by cases h; exact hc) h2; exact h3)
theorem jw_iinc_12 {a0 a1 a2 a3 a4 a5 a6 a7 a8 a9 a10 a11 : Option Value} {a z : Int} {t : List (Option Value)} (C : JC G X rm cc own nL) (d : decode cc pc = .ok (.iinc 12 z, 3)) (hc : jc1 a11 = true) (kk : JW G X k n w (pc + 3) (a0 :: a1 :: a2 :: a3 :: a4 :: a5 :: a6 :: a7 :: a8 :: a9 :: a10 :: a11 :: some (.int (iI (a + z))) :: t) (rest)) : JW G X k n w (pc) (a0 :: a1 :: a2 :: a3 :: a4 :: a5 :: a6 :: a7 :: a8 :: a9 :: a10 :: a11 :: some (.int (iI a)) :: t) (rest) := by
  obtain ⟨p, l, e, R, s, m, args, below, meth, c, Q, A⟩ := X
  obtain ⟨hx, hb, hml, hown, hts, hnw, hK, hlk, hA, hR⟩ := C
  intro H locs ls hP hD hS hl
  obtain ⟨j, hj⟩ := List.getElem?_of_mem ((jl0_mem (a0 :: a1 :: a2 :: a3 :: a4 :: a5 :: a6 :: a7 :: a8 :: a9 :: a10 :: a11 :: some (.int (iI a)) :: t) 0 (12, Value.int (iI a))).mpr ⟨12, rfl, by omega⟩)
  refine lv_iinc (v := iI (a + z)) hx hb d hl (k := j) hj (by rw [← iI_add]; rfl) (by simp only [List.length_cons]; omega) rfl (fun ls2 h2 => ?_)
  exact kk H locs ls2 hP hD hS (by have h3 := jl_store1 (L := a0 :: a1 :: a2 :: a3 :: a4 :: a5 :: a6 :: a7 :: a8 :: a9 :: a10 :: a11 :: some (.int (iI a)) :: t) (v := .int (iI (a + z))) (by simp only [List.length_cons]; omega) (fun a _ h => by cases h; exact hc) h2; exact h3)
theorem jw_iinc_13 {a0 a1 a2 a3 a4 a5 a6 a7 a8 a9 a10 a11 a12 : Option Value} {a z : Int} {t : List (Option Value)} (C : JC G X rm cc own nL) (d : decode cc pc = .ok (.iinc 13 z, 3)) (hc : jc1 a12 = true) (kk : JW G X k n w (pc + 3) (a0 :: a1 :: a2 :: a3 :: a4 :: a5 :: a6 :: a7 :: a8 :: a9 :: a10 :: a11 :: a12 :: some (.int (iI (a + z))) :: t) (rest)) : JW G X k n w (pc) (a0 :: a1 :: a2 :: a3 :: a4 :: a5 :: a6 :: a7 :: a8 :: a9 :: a10 :: a11 :: a12 :: some (.int (iI a)) :: t) (rest) := by
  obtain ⟨p, l, e, R, s, m, args, below, meth, c, Q, A⟩ := X
  obtain ⟨hx, hb, hml, hown, hts, hnw, hK, hlk, hA, hR⟩ := C
  intro H locs ls hP hD hS hl
  obtain ⟨j, hj⟩ := List.getElem?_of_mem ((jl0_mem (a0 :: a1 :: a2 :: a3 :: a4 :: a5 :: a6 :: a7 :: a8 :: a9 :: a10 :: a11 :: a12 :: some (.int (iI a)) :: t) 0 (13, Value.int (iI a))).mpr ⟨13, rfl, by omega⟩)
  refine lv_iinc (v := iI (a + z)) hx hb d hl (k := j) hj (by rw [← iI_add]; rfl) (by simp only [List.length_cons]; omega) rfl (fun ls2 h2 => ?_)
  exact kk H locs ls2 hP hD hS (by have h3 := jl_store1 (L := a0 :: a1 :: a2 :: a3 :: a4 :: a5 :: a6 :: a7 :: a8 :: a9 :: a10 :: a11 :: a12 :: some (.int (iI a)) :: t) (v := .int (iI (a + z))) (by simp only [List.length_cons]; omega) (fun a _ h => by cases h; exact hc) h2; exact h3)
theorem jw_iinc_14 {a0 a1 a2 a3 a4 a5 a6 a7 a8 a9 a10 a11 a12 a13 : Option Value} {a z : Int} {t : List (Option Value)} (C : JC G X rm cc own nL) (d : decode cc pc = .ok (.iinc 14 z, 3)) (hc : jc1 a13 = true) (kk : JW G X k n w (pc + 3) (a0 :: a1 :: a2 :: a3 :: a4 :: a5 :: a6 :: a7 :: a8 :: a9 :: a10 :: a11 :: a12 :: a13 :: some (.int (iI (a + z))) :: t) (rest)) : JW G X k n w (pc) (a0 :: a1 :: a2 :: a3 :: a4 :: a5 :: a6 :: a7 :: a8 :: a9 :: a10 :: a11 :: a12 :: a13 :: some (.int (iI a)) :: t) (rest) := by
  obtain ⟨p, l, e, R, s, m, args, below, meth, c, Q, A⟩ := X
  obtain ⟨hx, hb, hml, hown, hts, hnw, hK, hlk, hA, hR⟩ := C
  intro H locs ls hP hD hS hl
  obtain ⟨j, hj⟩ := List.getElem?_of_mem ((jl0_mem (a0 :: a1 :: a2 :: a3 :: a4 :: a5 :: a6 :: a7 :: a8 :: a9 :: a10 :: a11 :: a12 :: a13 :: some (.int (iI a)) :: t) 0 (14, Value.int (iI a))).mpr ⟨14, rfl, by omega⟩)
  refine lv_iinc (v := iI (a + z)) hx hb d hl (k := j) hj (by rw [← iI_add]; rfl) (by simp only [List.length_cons]; omega) rfl (fun ls2 h2 => ?_)
  exact kk H locs ls2 hP hD hS (by have h3 := jl_store1 (L := a0 :: a1 :: a2 :: a3 :: a4 :: a5 :: a6 :: a7 :: a8 :: a9 :: a10 :: a11 :: a12 :: a13 :: some (.int (iI a)) :: t) (v := .int (iI (a + z))) (by simp only [List.length_cons]; omega) (fun a _ h => by cases h; exact hc) h2; exact h3)
theorem jw_iinc_15 {a0 a1 a2 a3 a4 a5 a6 a7 a8 a9 a10 a11 a12 a13 a14 : Option Value} {a z : Int} {t : List (Option Value)} (C : JC G X rm cc own nL) (d : decode cc pc = .ok (.iinc 15 z, 3)) (hc : jc1 a14 = true) (kk : JW G X k n w (pc + 3) (a0 :: a1 :: a2 :: a3 :: a4 :: a5 :: a6 :: a7 :: a8 :: a9 :: a10 :: a11 :: a12 :: a13 :: a14 :: some (.int (iI (a + z))) :: t) (rest)) : JW G X k n w (pc) (a0 :: a1 :: a2 :: a3 :: a4 :: a5 :: a6 :: a7 :: a8 :: a9 :: a10 :: a11 :: a12 :: a13 :: a14 :: some (.int (iI a)) :: t) (rest) := by
  obtain ⟨p, l, e, R, s, m, args, below, meth, c, Q, A⟩ := X
  obtain ⟨hx, hb, hml, hown, hts, hnw, hK, hlk, hA, hR⟩ := C
  intro H locs ls hP hD hS hl
  obtain ⟨j, hj⟩ := List.getElem?_of_mem ((jl0_mem (a0 :: a1 :: a2 :: a3 :: a4 :: a5 :: a6 :: a7 :: a8 :: a9 :: a10 :: a11 :: a12 :: a13 :: a14 :: some (.int (iI a)) :: t) 0 (15, Value.int (iI a))).mpr ⟨15, rfl, by omega⟩)
  refine lv_iinc (v := iI (a + z)) hx hb d hl (k := j) hj (by rw [← iI_add]; rfl) (by simp only [List.length_cons]; omega) rfl (fun ls2 h2 => ?_)
  exact kk H locs ls2 hP hD hS (by have h3 := jl_store1 (L := a0 :: a1 :: a2 :: a3 :: a4 :: a5 :: a6 :: a7 :: a8 :: a9 :: a10 :: a11 :: a12 :: a13 :: a14 :: some (.int (iI a)) :: t) (v := .int (iI (a + z))) (by simp only [List.length_cons]; omega) (fun a _ h => by cases h; exact hc) h2; exact h3)
theorem jw_iinc_16 {a0 a1 a2 a3 a4 a5 a6 a7 a8 a9 a10 a11 a12 a13 a14 a15 : Option Value} {a z : Int} {t : List (Option Value)} (C : JC G X rm cc own nL) (d : decode cc pc = .ok (.iinc 16 z, 3)) (hc : jc1 a15 = true) (kk : JW G X k n w (pc + 3) (a0 :: a1 :: a2 :: a3 :: a4 :: a5 :: a6 :: a7 :: a8 :: a9 :: a10 :: a11 :: a12 :: a13 :: a14 :: a15 :: some (.int (iI (a + z))) :: t) (rest)) : JW G X k n w (pc) (a0 :: a1 :: a2 :: a3 :: a4 :: a5 :: a6 :: a7 :: a8 :: a9 :: a10 :: a11 :: a12 :: a13 :: a14 :: a15 :: some (.int (iI a)) :: t) (rest) := by
  obtain ⟨p, l, e, R, s, m, args, below, meth, c, Q, A⟩ := X
  obtain ⟨hx, hb, hml, hown, hts, hnw, hK, hlk, hA, hR⟩ := C
  intro H locs ls hP hD hS hl
  obtain ⟨j, hj⟩ := List.getElem?_of_mem ((jl0_mem (a0 :: a1 :: a2 :: a3 :: a4 :: a5 :: a6 :: a7 :: a8 :: a9 :: a10 :: a11 :: a12 :: a13 :: a14 :: a15 :: some (.int (iI a)) :: t) 0 (16, Value.int (iI a))).mpr ⟨16, rfl, by omega⟩)
  refine lv_iinc (v := iI (a + z)) hx hb d hl (k := j) hj (by rw [← iI_add]; rfl) (by simp only [List.length_cons]; omega) rfl (fun ls2 h2 => ?_)
  exact kk H locs ls2 hP hD hS (by have h3 := jl_store1 (L := a0 :: a1 :: a2 :: a3 :: a4 :: a5 :: a6 :: a7 :: a8 :: a9 :: a10 :: a11 :: a12 :: a13 :: a14 :: a15 :: some (.int (iI a)) :: t) (v := .int (iI (a + z))) (by simp only [List.length_cons]; omega) (fun a _ h => by cases h; exact hc) h2; exact h3)
theorem jw_iinc_17 {a0 a1 a2 a3 a4 a5 a6 a7 a8 a9 a10 a11 a12 a13 a14 a15 a16 : Option Value} {a z : Int} {t : List (Option Value)} (C : JC G X rm cc own nL) (d : decode cc pc = .ok (.iinc 17 z, 3)) (hc : jc1 a16 = true) (kk : JW G X k n w (pc + 3) (a0 :: a1 :: a2 :: a3 :: a4 :: a5 :: a6 :: a7 :: a8 :: a9 :: a10 :: a11 :: a12 :: a13 :: a14 :: a15 :: a16 :: some (.int (iI (a + z))) :: t) (rest)) : JW G X k n w (pc) (a0 :: a1 :: a2 :: a3 :: a4 :: a5 :: a6 :: a7 :: a8 :: a9 :: a10 :: a11 :: a12 :: a13 :: a14 :: a15 :: a16 :: some (.int (iI a)) :: t) (rest) := by
  obtain ⟨p, l, e, R, s, m, args, below, meth, c, Q, A⟩ := X
  obtain ⟨hx, hb, hml, hown, hts, hnw, hK, hlk, hA, hR⟩ := C
  intro H locs ls hP hD hS hl
  obtain ⟨j, hj⟩ := List.getElem?_of_mem ((jl0_mem (a0 :: a1 :: a2 :: a3 :: a4 :: a5 :: a6 :: a7 :: a8 :: a9 :: a10 :: a11 :: a12 :: a13 :: a14 :: a15 :: a16 :: some (.int (iI a)) :: t) 0 (17, Value.int (iI a))).mpr ⟨17, rfl, by omega⟩)
  refine lv_iinc (v := iI (a + z)) hx hb d hl (k := j) hj (by rw [← iI_add]; rfl) (by simp only [List.length_cons]; omega) rfl (fun ls2 h2 => ?_)
  exact kk H locs ls2 hP hD hS (by have h3 := jl_store1 (L := a0 :: a1 :: a2 :: a3 :: a4 :: a5 :: a6 :: a7 :: a8 :: a9 :: a10 :: a11 :: a12 :: a13 :: a14 :: a15 :: a16 :: some (.int (iI a)) :: t) (v := .int (iI (a + z))) (by simp only [List.length_cons]; omega) (fun a _ h => by cases h; exact hc) h2; exact h3)
theorem jw_iinc_18 {a0 a1 a2 a3 a4 a5 a6 a7 a8 a9 a10 a11 a12 a13 a14 a15 a16 a17 : Option Value} {a z : Int} {t : List (Option Value)} (C : JC G X rm cc own nL) (d : decode cc pc = .ok (.iinc 18 z, 3)) (hc : jc1 a17 = true) (kk : JW G X k n w (pc + 3) (a0 :: a1 :: a2 :: a3 :: a4 :: a5 :: a6 :: a7 :: a8 :: a9 :: a10 :: a11 :: a12 :: a13 :: a14 :: a15 :: a16 :: a17 :: some (.int (iI (a + z))) :: t) (rest)) : JW G X k n w (pc) (a0 :: a1 :: a2 :: a3 :: a4 :: a5 :: a6 :: a7 :: a8 :: a9 :: a10 :: a11 :: a12 :: a13 :: a14 :: a15 :: a16 :: a17 :: some (.int (iI a)) :: t) (rest) := by
  obtain ⟨p, l, e, R, s, m, args, below, meth, c, Q, A⟩ := X
  obtain ⟨hx, hb, hml, hown, hts, hnw, hK, hlk, hA, hR⟩ := C
  intro H locs ls hP hD hS hl
  obtain ⟨j, hj⟩ := List.getElem?_of_mem ((jl0_mem (a0 :: a1 :: a2 :: a3 :: a4 :: a5 :: a6 :: a7 :: a8 :: a9 :: a10 :: a11 :: a12 :: a13 :: a14 :: a15 :: a16 :: a17 :: some (.int (iI a)) :: t) 0 (18, Value.int (iI a))).mpr ⟨18, rfl, by omega⟩)
  refine lv_iinc (v := iI (a + z)) hx hb d hl (k := j) hj (by rw [← iI_add]; rfl) (by simp only [List.length_cons]; omega) rfl (fun ls2 h2 => ?_)
  exact kk H locs ls2 hP hD hS (by have h3 := jl_store1 (L := a0 :: a1 :: a2 :: a3 :: a4 :: a5 :: a6 :: a7 :: a8 :: a9 :: a10 :: a11 :: a12 :: a13 :: a14 :: a15 :: a16 :: a17 :: some (.int (iI a)) :: t) (v := .int (iI (a + z))) (by simp only [List.length_cons]; omega) (fun a _ h => by cases h; exact hc) h2; exact h3)
theorem jw_iinc_19 {a0 a1 a2 a3 a4 a5 a6 a7 a8 a9 a10 a11 a12 a13 a14 a15 a16 a17 a18 : Option Value} {a z : Int} {t : List (Option Value)} (C : JC G X rm cc own nL) (d : decode cc pc = .ok (.iinc 19 z, 3)) (hc : jc1 a18 = true) (kk : JW G X k n w (pc + 3) (a0 :: a1 :: a2 :: a3 :: a4 :: a5 :: a6 :: a7 :: a8 :: a9 :: a10 :: a11 :: a12 :: a13 :: a14 :: a15 :: a16 :: a17 :: a18 :: some (.int (iI (a + z))) :: t) (rest)) : JW G X k n w (pc) (a0 :: a1 :: a2 :: a3 :: a4 :: a5 :: a6 :: a7 :: a8 :: a9 :: a10 :: a11 :: a12 :: a13 :: a14 :: a15 :: a16 :: a17 :: a18 :: some (.int (iI a)) :: t) (rest) := by
  obtain ⟨p, l, e, R, s, m, args, below, meth, c, Q, A⟩ := X
  obtain ⟨hx, hb, hml, hown, hts, hnw, hK, hlk, hA, hR⟩ := C
  intro H locs ls hP hD hS hl
  obtain ⟨j, hj⟩ := List.getElem?_of_mem ((jl0_mem (a0 :: a1 :: a2 :: a3 :: a4 :: a5 :: a6 :: a7 :: a8 :: a9 :: a10 :: a11 :: a12 :: a13 :: a14 :: a15 :: a16 :: a17 :: a18 :: some (.int (iI a)) :: t) 0 (19, Value.int (iI a))).mpr ⟨19, rfl, by omega⟩)
  refine lv_iinc (v := iI (a + z)) hx hb d hl (k := j) hj (by rw [← iI_add]; rfl) (by simp only [List.length_cons]; omega) rfl (fun ls2 h2 => ?_)
  exact kk H locs ls2 hP hD hS (by have h3 := jl_store1 (L := a0 :: a1 :: a2 :: a3 :: a4 :: a5 :: a6 :: a7 :: a8 :: a9 :: a10 :: a11 :: a12 :: a13 :: a14 :: a15 :: a16 :: a17 :: a18 :: some (.int (iI a)) :: t) (v := .int (iI (a + z))) (by simp only [List.length_cons]; omega) (fun a _ h => by cases h; exact hc) h2; exact h3)
theorem jw_iinc_20 {a0 a1 a2 a3 a4 a5 a6 a7 a8 a9 a10 a11 a12 a13 a14 a15 a16 a17 a18 a19 : Option Value} {a z : Int} {t : List (Option Value)} (C : JC G X rm cc own nL) (d : decode cc pc = .ok (.iinc 20 z, 3)) (hc : jc1 a19 = true) (kk : JW G X k n w (pc + 3) (a0 :: a1 :: a2 :: a3 :: a4 :: a5 :: a6 :: a7 :: a8 :: a9 :: a10 :: a11 :: a12 :: a13 :: a14 :: a15 :: a16 :: a17 :: a18 :: a19 :: some (.int (iI (a + z))) :: t) (rest)) : JW G X k n w (pc) (a0 :: a1 :: a2 :: a3 :: a4 :: a5 :: a6 :: a7 :: a8 :: a9 :: a10 :: a11 :: a12 :: a13 :: a14 :: a15 :: a16 :: a17 :: a18 :: a19 :: some (.int (iI a)) :: t) (rest) := by
  obtain ⟨p, l, e, R, s, m, args, below, meth, c, Q, A⟩ := X
  obtain ⟨hx, hb, hml, hown, hts, hnw, hK, hlk, hA, hR⟩ := C
  intro H locs ls hP hD hS hl
  obtain ⟨j, hj⟩ := List.getElem?_of_mem ((jl0_mem (a0 :: a1 :: a2 :: a3 :: a4 :: a5 :: a6 :: a7 :: a8 :: a9 :: a10 :: a11 :: a12 :: a13 :: a14 :: a15 :: a16 :: a17 :: a18 :: a19 :: some (.int (iI a)) :: t) 0 (20, Value.int (iI a))).mpr ⟨20, rfl, by omega⟩)
  refine lv_iinc (v := iI (a + z)) hx hb d hl (k := j) hj (by rw [← iI_add]; rfl) (by simp only [List.length_cons]; omega) rfl (fun ls2 h2 => ?_)
  exact kk H locs ls2 hP hD hS (by have h3 := jl_store1 (L := a0 :: a1 :: a2 :: a3 :: a4 :: a5 :: a6 :: a7 :: a8 :: a9 :: a10 :: a11 :: a12 :: a13 :: a14 :: a15 :: a16 :: a17 :: a18 :: a19 :: some (.int (iI a)) :: t) (v := .int (iI (a + z))) (by simp only [List.length_cons]; omega) (fun a _ h => by cases h; exact hc) h2; exact h3)
theorem jw_iinc_21 {a0 a1 a2 a3 a4 a5 a6 a7 a8 a9 a10 a11 a12 a13 a14 a15 a16 a17 a18 a19 a20 : Option Value} {a z : Int} {t : List (Option Value)} (C : JC G X rm cc own nL) (d : decode cc pc = .ok (.iinc 21 z, 3)) (hc : jc1 a20 = true) (kk : JW G X k n w (pc + 3) (a0 :: a1 :: a2 :: a3 :: a4 :: a5 :: a6 :: a7 :: a8 :: a9 :: a10 :: a11 :: a12 :: a13 :: a14 :: a15 :: a16 :: a17 :: a18 :: a19 :: a20 :: some (.int (iI (a + z))) :: t) (rest)) : JW G X k n w (pc) (a0 :: a1 :: a2 :: a3 :: a4 :: a5 :: a6 :: a7 :: a8 :: a9 :: a10 :: a11 :: a12 :: a13 :: a14 :: a15 :: a16 :: a17 :: a18 :: a19 :: a20 :: some (.int (iI a)) :: t) (rest) := by
  obtain ⟨p, l, e, R, s, m, args, below, meth, c, Q, A⟩ := X
  obtain ⟨hx, hb, hml, hown, hts, hnw, hK, hlk, hA, hR⟩ := C
  intro H locs ls hP hD hS hl
  obtain ⟨j, hj⟩ := List.getElem?_of_mem ((jl0_mem (a0 :: a1 :: a2 :: a3 :: a4 :: a5 :: a6 :: a7 :: a8 :: a9 :: a10 :: a11 :: a12 :: a13 :: a14 :: a15 :: a16 :: a17 :: a18 :: a19 :: a20 :: some (.int (iI a)) :: t) 0 (21, Value.int (iI a))).mpr ⟨21, rfl, by omega⟩)
  refine lv_iinc (v := iI (a + z)) hx hb d hl (k := j) hj (by rw [← iI_add]; rfl) (by simp only [List.length_cons]; omega) rfl (fun ls2 h2 => ?_)
  exact kk H locs ls2 hP hD hS (by have h3 := jl_store1 (L := a0 :: a1 :: a2 :: a3 :: a4 :: a5 :: a6 :: a7 :: a8 :: a9 :: a10 :: a11 :: a12 :: a13 :: a14 :: a15 :: a16 :: a17 :: a18 :: a19 :: a20 :: some (.int (iI a)) :: t) (v := .int (iI (a + z))) (by simp only [List.length_cons]; omega) (fun a _ h => by cases h; exact hc) h2; exact h3)
theorem jw_iinc_22 {a0 a1 a2 a3 a4 a5 a6 a7 a8 a9 a10 a11 a12 a13 a14 a15 a16 a17 a18 a19 a20 a21 : Option Value} {a z : Int} {t : List (Option Value)} (C : JC G X rm cc own nL) (d : decode cc pc = .ok (.iinc 22 z, 3)) (hc : jc1 a21 = true) (kk : JW G X k n w (pc + 3) (a0 :: a1 :: a2 :: a3 :: a4 :: a5 :: a6 :: a7 :: a8 :: a9 :: a10 :: a11 :: a12 :: a13 :: a14 :: a15 :: a16 :: a17 :: a18 :: a19 :: a20 :: a21 :: some (.int (iI (a + z))) :: t) (rest)) : JW G X k n w (pc) (a0 :: a1 :: a2 :: a3 :: a4 :: a5 :: a6 :: a7 :: a8 :: a9 :: a10 :: a11 :: a12 :: a13 :: a14 :: a15 :: a16 :: a17 :: a18 :: a19 :: a20 :: a21 :: some (.int (iI a)) :: t) (rest) := by
  obtain ⟨p, l, e, R, s, m, args, below, meth, c, Q, A⟩ := X
  obtain ⟨hx, hb, hml, hown, hts, hnw, hK, hlk, hA, hR⟩ := C
  intro H locs ls hP hD hS hl
  obtain ⟨j, hj⟩ := List.getElem?_of_mem ((jl0_mem (a0 :: a1 :: a2 :: a3 :: a4 :: a5 :: a6 :: a7 :: a8 :: a9 :: a10 :: a11 :: a12 :: a13 :: a14 :: a15 :: a16 :: a17 :: a18 :: a19 :: a20 :: a21 :: some (.int (iI a)) :: t) 0 (22, Value.int (iI a))).mpr ⟨22, rfl, by omega⟩)
  refine lv_iinc (v := iI (a + z)) hx hb d hl (k := j) hj (by rw [← iI_add]; rfl) (by simp only [List.length_cons]; omega) rfl (fun ls2 h2 => ?_)
  exact kk H locs ls2 hP hD hS (by have h3 := jl_store1 (L := a0 :: a1 :: a2 :: a3 :: a4 :: a5 :: a6 :: a7 :: a8 :: a9 :: a10 :: a11 :: a12 :: a13 :: a14 :: a15 :: a16 :: a17 :: a18 :: a19 :: a20 :: a21 :: some (.int (iI a)) :: t) (v := .int (iI (a + z))) (by simp only [List.length_cons]; omega) (fun a _ h => by cases h; exact hc) h2; exact h3)
theorem jw_iinc_23 {a0 a1 a2 a3 a4 a5 a6 a7 a8 a9 a10 a11 a12 a13 a14 a15 a16 a17 a18 a19 a20 a21 a22 : Option Value} {a z : Int} {t : List (Option Value)} (C : JC G X rm cc own nL) (d : decode cc pc = .ok (.iinc 23 z, 3)) (hc : jc1 a22 = true) (kk : JW G X k n w (pc + 3) (a0 :: a1 :: a2 :: a3 :: a4 :: a5 :: a6 :: a7 :: a8 :: a9 :: a10 :: a11 :: a12 :: a13 :: a14 :: a15 :: a16 :: a17 :: a18 :: a19 :: a20 :: a21 :: a22 :: some (.int (iI (a + z))) :: t) (rest)) : JW G X k n w (pc) (a0 :: a1 :: a2 :: a3 :: a4 :: a5 :: a6 :: a7 :: a8 :: a9 :: a10 :: a11 :: a12 :: a13 :: a14 :: a15 :: a16 :: a17 :: a18 :: a19 :: a20 :: a21 :: a22 :: some (.int (iI a)) :: t) (rest) := by
  obtain ⟨p, l, e, R, s, m, args, below, meth, c, Q, A⟩ := X
  obtain ⟨hx, hb, hml, hown, hts, hnw, hK, hlk, hA, hR⟩ := C
  intro H locs ls hP hD hS hl
  obtain ⟨j, hj⟩ := List.getElem?_of_mem ((jl0_mem (a0 :: a1 :: a2 :: a3 :: a4 :: a5 :: a6 :: a7 :: a8 :: a9 :: a10 :: a11 :: a12 :: a13 :: a14 :: a15 :: a16 :: a17 :: a18 :: a19 :: a20 :: a21 :: a22 :: some (.int (iI a)) :: t) 0 (23, Value.int (iI a))).mpr ⟨23, rfl, by omega⟩)
  refine lv_iinc (v := iI (a + z)) hx hb d hl (k := j) hj (by rw [← iI_add]; rfl) (by simp only [List.length_cons]; omega) rfl (fun ls2 h2 => ?_)
  exact kk H locs ls2 hP hD hS (by have h3 := jl_store1 (L := a0 :: a1 :: a2 :: a3 :: a4 :: a5 :: a6 :: a7 :: a8 :: a9 :: a10 :: a11 :: a12 :: a13 :: a14 :: a15 :: a16 :: a17 :: a18 :: a19 :: a20 :: a21 :: a22 :: some (.int (iI a)) :: t) (v := .int (iI (a + z))) (by simp only [List.length_cons]; omega) (fun a _ h => by cases h; exact hc) h2; exact h3)
theorem jw_iinc_24 {a0 a1 a2 a3 a4 a5 a6 a7 a8 a9 a10 a11 a12 a13 a14 a15 a16 a17 a18 a19 a20 a21 a22 a23 : Option Value} {a z : Int} {t : List (Option Value)} (C : JC G X rm cc own nL) (d : decode cc pc = .ok (.iinc 24 z, 3)) (hc : jc1 a23 = true) (kk : JW G X k n w (pc + 3) (a0 :: a1 :: a2 :: a3 :: a4 :: a5 :: a6 :: a7 :: a8 :: a9 :: a10 :: a11 :: a12 :: a13 :: a14 :: a15 :: a16 :: a17 :: a18 :: a19 :: a20 :: a21 :: a22 :: a23 :: some (.int (iI (a + z))) :: t) (rest)) : JW G X k n w (pc) (a0 :: a1 :: a2 :: a3 :: a4 :: a5 :: a6 :: a7 :: a8 :: a9 :: a10 :: a11 :: a12 :: a13 :: a14 :: a15 :: a16 :: a17 :: a18 :: a19 :: a20 :: a21 :: a22 :: a23 :: some (.int (iI a)) :: t) (rest) := by
  obtain ⟨p, l, e, R, s, m, args, below, meth, c, Q, A⟩ := X
  obtain ⟨hx, hb, hml, hown, hts, hnw, hK, hlk, hA, hR⟩ := C
  intro H locs ls hP hD hS hl
  obtain ⟨j, hj⟩ := List.getElem?_of_mem ((jl0_mem (a0 :: a1 :: a2 :: a3 :: a4 :: a5 :: a6 :: a7 :: a8 :: a9 :: a10 :: a11 :: a12 :: a13 :: a14 :: a15 :: a16 :: a17 :: a18 :: a19 :: a20 :: a21 :: a22 :: a23 :: some (.int (iI a)) :: t) 0 (24, Value.int (iI a))).mpr ⟨24, rfl, by omega⟩)
  refine lv_iinc (v := iI (a + z)) hx hb d hl (k := j) hj (by rw [← iI_add]; rfl) (by simp only [List.length_cons]; omega) rfl (fun ls2 h2 => ?_)
  exact kk H locs ls2 hP hD hS (by have h3 := jl_store1 (L := a0 :: a1 :: a2 :: a3 :: a4 :: a5 :: a6 :: a7 :: a8 :: a9 :: a10 :: a11 :: a12 :: a13 :: a14 :: a15 :: a16 :: a17 :: a18 :: a19 :: a20 :: a21 :: a22 :: a23 :: some (.int (iI a)) :: t) (v := .int (iI (a + z))) (by simp only [List.length_cons]; omega) (fun a _ h => by cases h; exact hc) h2; exact h3)
theorem jw_iinc_25 {a0 a1 a2 a3 a4 a5 a6 a7 a8 a9 a10 a11 a12 a13 a14 a15 a16 a17 a18 a19 a20 a21 a22 a23 a24 : Option Value} {a z : Int} {t : List (Option Value)} (C : JC G X rm cc own nL) (d : decode cc pc = .ok (.iinc 25 z, 3)) (hc : jc1 a24 = true) (kk : JW G X k n w (pc + 3) (a0 :: a1 :: a2 :: a3 :: a4 :: a5 :: a6 :: a7 :: a8 :: a9 :: a10 :: a11 :: a12 :: a13 :: a14 :: a15 :: a16 :: a17 :: a18 :: a19 :: a20 :: a21 :: a22 :: a23 :: a24 :: some (.int (iI (a + z))) :: t) (rest)) : JW G X k n w (pc) (a0 :: a1 :: a2 :: a3 :: a4 :: a5 :: a6 :: a7 :: a8 :: a9 :: a10 :: a11 :: a12 :: a13 :: a14 :: a15 :: a16 :: a17 :: a18 :: a19 :: a20 :: a21 :: a22 :: a23 :: a24 :: some (.int (iI a)) :: t) (rest) := by
  obtain ⟨p, l, e, R, s, m, args, below, meth, c, Q, A⟩ := X
  obtain ⟨hx, hb, hml, hown, hts, hnw, hK, hlk, hA, hR⟩ := C
  intro H locs ls hP hD hS hl
  obtain ⟨j, hj⟩ := List.getElem?_of_mem ((jl0_mem (a0 :: a1 :: a2 :: a3 :: a4 :: a5 :: a6 :: a7 :: a8 :: a9 :: a10 :: a11 :: a12 :: a13 :: a14 :: a15 :: a16 :: a17 :: a18 :: a19 :: a20 :: a21 :: a22 :: a23 :: a24 :: some (.int (iI a)) :: t) 0 (25, Value.int (iI a))).mpr ⟨25, rfl, by omega⟩)
  refine lv_iinc (v := iI (a + z)) hx hb d hl (k := j) hj (by rw [← iI_add]; rfl) (by simp only [List.length_cons]; omega) rfl (fun ls2 h2 => ?_)
  exact kk H locs ls2 hP hD hS (by have h3 := jl_store1 (L := a0 :: a1 :: a2 :: a3 :: a4 :: a5 :: a6 :: a7 :: a8 :: a9 :: a10 :: a11 :: a12 :: a13 :: a14 :: a15 :: a16 :: a17 :: a18 :: a19 :: a20 :: a21 :: a22 :: a23 :: a24 :: some (.int (iI a)) :: t) (v := .int (iI (a + z))) (by simp only [List.length_cons]; omega) (fun a _ h => by cases h; exact hc) h2; exact h3)
theorem jw_iinc_26 {a0 a1 a2 a3 a4 a5 a6 a7 a8 a9 a10 a11 a12 a13 a14 a15 a16 a17 a18 a19 a20 a21 a22 a23 a24 a25 : Option Value} {a z : Int} {t : List (Option Value)} (C : JC G X rm cc own nL) (d : decode cc pc = .ok (.iinc 26 z, 3)) (hc : jc1 a25 = true) (kk : JW G X k n w (pc + 3) (a0 :: a1 :: a2 :: a3 :: a4 :: a5 :: a6 :: a7 :: a8 :: a9 :: a10 :: a11 :: a12 :: a13 :: a14 :: a15 :: a16 :: a17 :: a18 :: a19 :: a20 :: a21 :: a22 :: a23 :: a24 :: a25 :: some (.int (iI (a + z))) :: t) (rest)) : JW G X k n w (pc) (a0 :: a1 :: a2 :: a3 :: a4 :: a5 :: a6 :: a7 :: a8 :: a9 :: a10 :: a11 :: a12 :: a13 :: a14 :: a15 :: a16 :: a17 :: a18 :: a19 :: a20 :: a21 :: a22 :: a23 :: a24 :: a25 :: some (.int (iI a)) :: t) (rest) := by
  obtain ⟨p, l, e, R, s, m, args, below, meth, c, Q, A⟩ := X
  obtain ⟨hx, hb, hml, hown, hts, hnw, hK, hlk, hA, hR⟩ := C
  intro H locs ls hP hD hS hl
  obtain ⟨j, hj⟩ := List.getElem?_of_mem ((jl0_mem (a0 :: a1 :: a2 :: a3 :: a4 :: a5 :: a6 :: a7 :: a8 :: a9 :: a10 :: a11 :: a12 :: a13 :: a14 :: a15 :: a16 :: a17 :: a18 :: a19 :: a20 :: a21 :: a22 :: a23 :: a24 :: a25 :: some (.int (iI a)) :: t) 0 (26, Value.int (iI a))).mpr ⟨26, rfl, by omega⟩)
  refine lv_iinc (v := iI (a + z)) hx hb d hl (k := j) hj (by rw [← iI_add]; rfl) (by simp only [List.length_cons]; omega) rfl (fun ls2 h2 => ?_)
  exact kk H locs ls2 hP hD hS (by have h3 := jl_store1 (L := a0 :: a1 :: a2 :: a3 :: a4 :: a5 :: a6 :: a7 :: a8 :: a9 :: a10 :: a11 :: a12 :: a13 :: a14 :: a15 :: a16 :: a17 :: a18 :: a19 :: a20 :: a21 :: a22 :: a23 :: a24 :: a25 :: some (.int (iI a)) :: t) (v := .int (iI (a + z))) (by simp only [List.length_cons]; omega) (fun a _ h => by cases h; exact hc) h2; exact h3)
theorem jw_iinc_27 {a0 a1 a2 a3 a4 a5 a6 a7 a8 a9 a10 a11 a12 a13 a14 a15 a16 a17 a18 a19 a20 a21 a22 a23 a24 a25 a26 : Option Value} {a z : Int} {t : List (Option Value)} (C : JC G X rm cc own nL) (d : decode cc pc = .ok (.iinc 27 z, 3)) (hc : jc1 a26 = true) (kk : JW G X k n w (pc + 3) (a0 :: a1 :: a2 :: a3 :: a4 :: a5 :: a6 :: a7 :: a8 :: a9 :: a10 :: a11 :: a12 :: a13 :: a14 :: a15 :: a16 :: a17 :: a18 :: a19 :: a20 :: a21 :: a22 :: a23 :: a24 :: a25 :: a26 :: some (.int (iI (a + z))) :: t) (rest)) : JW G X k n w (pc) (a0 :: a1 :: a2 :: a3 :: a4 :: a5 :: a6 :: a7 :: a8 :: a9 :: a10 :: a11 :: a12 :: a13 :: a14 :: a15 :: a16 :: a17 :: a18 :: a19 :: a20 :: a21 :: a22 :: a23 :: a24 :: a25 :: a26 :: some (.int (iI a)) :: t) (rest) := by
  obtain ⟨p, l, e, R, s, m, args, below, meth, c, Q, A⟩ := X
  obtain ⟨hx, hb, hml, hown, hts, hnw, hK, hlk, hA, hR⟩ := C
  intro H locs ls hP hD hS hl
  obtain ⟨j, hj⟩ := List.getElem?_of_mem ((jl0_mem (a0 :: a1 :: a2 :: a3 :: a4 :: a5 :: a6 :: a7 :: a8 :: a9 :: a10 :: a11 :: a12 :: a13 :: a14 :: a15 :: a16 :: a17 :: a18 :: a19 :: a20 :: a21 :: a22 :: a23 :: a24 :: a25 :: a26 :: some (.int (iI a)) :: t) 0 (27, Value.int (iI a))).mpr ⟨27, rfl, by omega⟩)
  refine lv_iinc (v := iI (a + z)) hx hb d hl (k := j) hj (by rw [← iI_add]; rfl) (by simp only [List.length_cons]; omega) rfl (fun ls2 h2 => ?_)
  exact kk H locs ls2 hP hD hS (by have h3 := jl_store1 (L := a0 :: a1 :: a2 :: a3 :: a4 :: a5 :: a6 :: a7 :: a8 :: a9 :: a10 :: a11 :: a12 :: a13 :: a14 :: a15 :: a16 :: a17 :: a18 :: a19 :: a20 :: a21 :: a22 :: a23 :: a24 :: a25 :: a26 :: some (.int (iI a)) :: t) (v := .int (iI (a + z))) (by simp only [List.length_cons]; omega) (fun a _ h => by cases h; exact hc) h2; exact h3)
theorem jw_get {ref cls : String} {T : u_T} {N ci idx : Nat} {a : Nat} {fs : List Value} {v : Value} (hin : ∀ w ∈ u_ws cls T N, w ∈ jAll) (hc : vwCl[ci]? = some (cls, T, N)) (kf : Nat) (hk : kf < N) (hr : (T kf).1 = ref) (C : JC G X rm cc own nL) (hlink : Cond.fieldLink own idx ref (T kf).2.1 (T kf).2.2.1 ∈ jAll)
    (q0 : Nat) (he : w[q0]? = some (a, .inr (ci, fs))) (hv : fs[kf]? = some v) (d : decode cc pc = .ok (.getfield idx, 3)) (kk : JW G X k n w (pc + 3) L (v :: rest)) : JW G X k n w pc L (.ref a :: rest) := by
  obtain ⟨p, l, e, R, s, m, args, below, meth, c, Q, A⟩ := X
  obtain ⟨hx, hb, hml, hown, hts, hnw, hK, hlk, hA, hR⟩ := C
  intro H locs ls hP hD hS hl
  exact va_get hx hb hts hin hown hK hP q0 he hc kf hk (hts _ hlink) (fun x h => by rw [← hr]; exact h) hv d (kk H locs ls hP hD hS hl)
theorem jw_put {ref cls : String} {T : u_T} {N ci idx : Nat} {a : Nat} {fs : List Value} {v : Value} {ty0 : Nat → FieldType} {ty : FieldType} (hin : ∀ w ∈ u_ws cls T N, w ∈ jAll) (hty : ∀ k, k < N → parseFieldDescriptor (T k).2.2.1 = some (ty0 k)) (hnm : ∀ a, a < N → ∀ b, b < N → a ≠ b → (T a).2.1 ≠ (T b).2.1) (hc : vwCl[ci]? = some (cls, T, N)) (kf : Nat) (hk : kf < N) (hr : (T kf).1 = ref) (hfin : (T kf).2.2.2 = false) (hd : parseFieldDescriptor (T kf).2.2.1 = some ty) (C : JC G X rm cc own nL) (hlink : Cond.fieldLink own idx ref (T kf).2.1 (T kf).2.2.1 ∈ jAll)
    (q0 : Nat) (he : w[q0]? = some (a, .inr (ci, fs))) (hn : narrow ty v = v) (hfit : fits ty v = true) (hl : kf < fs.length) (d : decode cc pc = .ok (.putfield idx, 3)) (kk : JW G X k n (w.set q0 (a, .inr (ci, fs.set kf v))) (pc + 3) L rest) : JW G X k n w pc L (v :: .ref a :: rest) := by
  obtain ⟨p, l, e, R, s, m, args, below, meth, c, Q, A⟩ := X
  obtain ⟨hx, hb, hml, hown, hts, hnw, hK, hlk, hA, hR⟩ := C
  intro H locs ls hP hD hS hl2
  exact va_put hx hb hts hin ty0 hty hnm hown hK hP hD hS q0 he hc kf hk (hts _ hlink) (fun x h => by rw [← hr]; exact h) hfin hd hn hfit hl d (fun H1 locs1 hP1 hD1 hS1 => kk H1 locs1 ls hP1 hD1 hS1 hl2)
theorem jw_getN {ref cls host : String} {T : u_T} {N ci idx : Nat} {a : Nat} {fs : List Value} {v : Value} (hin : ∀ w ∈ u_ws cls T N, w ∈ jAll) (hc : vwCl[ci]? = some (cls, T, N)) (kf : Nat) (hk : kf < N) (hr : (T kf).1 = ref) (C : JC G X rm cc own nL) (hlink : Cond.fieldLinkNest own idx ref (T kf).2.1 (T kf).2.2.1 host ∈ jNest)
    (q0 : Nat) (he : w[q0]? = some (a, .inr (ci, fs))) (hv : fs[kf]? = some v) (d : decode cc pc = .ok (.getfield idx, 3)) (kk : JW G X k n w (pc + 3) L (v :: rest)) : JW G X k n w pc L (.ref a :: rest) := by
  obtain ⟨p, l, e, R, s, m, args, below, meth, c, Q, A⟩ := X
  obtain ⟨hx, hb, hml, hown, hts, hnw, hK, hlk, hA, hR⟩ := C
  intro H locs ls hP hD hS hl
  exact va_getN hx hb hts hin hown hK hP q0 he hc kf hk (va_Nw.use (jNest_on hlink) (hnw _ hlink)) (fun x h => by rw [← hr]; exact h) hv d (kk H locs ls hP hD hS hl)
theorem jw_putN {ref cls host : String} {T : u_T} {N ci idx : Nat} {a : Nat} {fs : List Value} {v : Value} {ty0 : Nat → FieldType} {ty : FieldType} (hin : ∀ w ∈ u_ws cls T N, w ∈ jAll) (hty : ∀ k, k < N → parseFieldDescriptor (T k).2.2.1 = some (ty0 k)) (hnm : ∀ a, a < N → ∀ b, b < N → a ≠ b → (T a).2.1 ≠ (T b).2.1) (hc : vwCl[ci]? = some (cls, T, N)) (kf : Nat) (hk : kf < N) (hr : (T kf).1 = ref) (hfin : (T kf).2.2.2 = false) (hd : parseFieldDescriptor (T kf).2.2.1 = some ty) (C : JC G X rm cc own nL) (hlink : Cond.fieldLinkNest own idx ref (T kf).2.1 (T kf).2.2.1 host ∈ jNest)
    (q0 : Nat) (he : w[q0]? = some (a, .inr (ci, fs))) (hn : narrow ty v = v) (hfit : fits ty v = true) (hl : kf < fs.length) (d : decode cc pc = .ok (.putfield idx, 3)) (kk : JW G X k n (w.set q0 (a, .inr (ci, fs.set kf v))) (pc + 3) L rest) : JW G X k n w pc L (v :: .ref a :: rest) := by
  obtain ⟨p, l, e, R, s, m, args, below, meth, c, Q, A⟩ := X
  obtain ⟨hx, hb, hml, hown, hts, hnw, hK, hlk, hA, hR⟩ := C
  intro H locs ls hP hD hS hl2
  exact va_putN hx hb hts hin ty0 hty hnm hown hK hP hD hS q0 he hc kf hk (va_Nw.use (jNest_on hlink) (hnw _ hlink)) (fun x h => by rw [← hr]; exact h) hfin hd hn hfit hl d (fun H1 locs1 hP1 hD1 hS1 => kk H1 locs1 ls hP1 hD1 hS1 hl2)
theorem jw_iald {a N : Nat} {f : Nat → Int} {i : Int} (C : JC G X rm cc own nL) (q0 : Nat) (he : w[q0]? = some (a, .inl (G.2 0, N, .inl (jiI f)))) (j : Nat) (hj : i = (j : Int)) (hn : j < N) (hN : N < 1000000) (d : decode cc pc = .ok (.iaload, 1)) (kk : JW G X k n w (pc + 1) L (.int (iI (f j)) :: rest)) : JW G X k n w (pc) L (.int (iI i) :: .ref a :: rest) := by
  obtain ⟨p, l, e, R, s, m, args, below, meth, c, Q, A⟩ := X
  obtain ⟨hx, hb, hml, hown, hts, hnw, hK, hlk, hA, hR⟩ := C
  intro H locs ls hP hD hS hl
  subst hj
  refine va_iald hx hb hK hP q0 0 he rfl (iI_in hn hN) d ?_
  rw [iI_clamp (Nat.lt_trans hn hN)]
  exact kk H locs ls hP hD hS hl
theorem jw_iald_r {a N : Nat} {f : Nat → Int32} {i : Int} (C : JC G X rm cc own nL) (q0 : Nat) (he : w[q0]? = some (a, .inl (G.2 0, N, .inl (f)))) (j : Nat) (hj : i = (j : Int)) (hn : j < N) (hN : N < 1000000) (d : decode cc pc = .ok (.iaload, 1)) (kk : JW G X k n w (pc + 1) L (.int (f j) :: rest)) : JW G X k n w (pc) L (.int (iI i) :: .ref a :: rest) := by
  obtain ⟨p, l, e, R, s, m, args, below, meth, c, Q, A⟩ := X
  obtain ⟨hx, hb, hml, hown, hts, hnw, hK, hlk, hA, hR⟩ := C
  intro H locs ls hP hD hS hl
  subst hj
  refine va_iald hx hb hK hP q0 0 he rfl (iI_in hn hN) d ?_
  rw [iI_clamp (Nat.lt_trans hn hN)]
  exact kk H locs ls hP hD hS hl
theorem jw_zald {a N : Nat} {f : Nat → Bool} {i : Int} (C : JC G X rm cc own nL) (q0 : Nat) (he : w[q0]? = some (a, .inl (G.2 1, N, .inl (jbF f)))) (j : Nat) (hj : i = (j : Int)) (hn : j < N) (hN : N < 1000000) (d : decode cc pc = .ok (.baload, 1)) (kk : JW G X k n w (pc + 1) L (.int (jb (f j)) :: rest)) : JW G X k n w (pc) L (.int (iI i) :: .ref a :: rest) := by
  obtain ⟨p, l, e, R, s, m, args, below, meth, c, Q, A⟩ := X
  obtain ⟨hx, hb, hml, hown, hts, hnw, hK, hlk, hA, hR⟩ := C
  intro H locs ls hP hD hS hl
  subst hj
  refine va_zald hx hb hK hP q0 1 he rfl (iI_in hn hN) d ?_
  rw [iI_clamp (Nat.lt_trans hn hN)]
  exact kk H locs ls hP hD hS hl
theorem jw_iast {a N : Nat} {f : Nat → Int} {i : Int} {x : Int} (C : JC G X rm cc own nL) (q0 : Nat) (he : w[q0]? = some (a, .inl (G.2 0, N, .inl (jiI f)))) (j : Nat) (hj : i = (j : Int)) (hn : j < N) (hN : N < 1000000) (d : decode cc pc = .ok (.iastore, 1)) (kk : JW G X k n (w.set q0 (a, .inl (G.2 0, N, .inl (jiI (updf f j x))))) (pc + 1) L (rest)) : JW G X k n w (pc) L (.int (iI x) :: .int (iI i) :: .ref a :: rest) := by
  obtain ⟨p, l, e, R, s, m, args, below, meth, c, Q, A⟩ := X
  obtain ⟨hx, hb, hml, hown, hts, hnw, hK, hlk, hA, hR⟩ := C
  intro H locs ls hP hD hS hl
  subst hj
  refine va_iast hx hb hK hP hD hS q0 0 he rfl (iI_in hn hN) d (fun H1 locs1 hP1 hD1 hS1 => ?_)
  rw [iI_clamp (Nat.lt_trans hn hN), jiI_upd] at hP1 hD1
  exact kk H1 locs1 ls hP1 hD1 hS1 hl
theorem jw_iast_r {a N : Nat} {f : Nat → Int32} {i : Int} {x : Int32} (C : JC G X rm cc own nL) (q0 : Nat) (he : w[q0]? = some (a, .inl (G.2 0, N, .inl (f)))) (j : Nat) (hj : i = (j : Int)) (hn : j < N) (hN : N < 1000000) (d : decode cc pc = .ok (.iastore, 1)) (kk : JW G X k n (w.set q0 (a, .inl (G.2 0, N, .inl (updf f j x)))) (pc + 1) L (rest)) : JW G X k n w (pc) L (.int (x) :: .int (iI i) :: .ref a :: rest) := by
  obtain ⟨p, l, e, R, s, m, args, below, meth, c, Q, A⟩ := X
  obtain ⟨hx, hb, hml, hown, hts, hnw, hK, hlk, hA, hR⟩ := C
  intro H locs ls hP hD hS hl
  subst hj
  refine va_iast hx hb hK hP hD hS q0 0 he rfl (iI_in hn hN) d (fun H1 locs1 hP1 hD1 hS1 => ?_)
  rw [iI_clamp (Nat.lt_trans hn hN), raw_upd] at hP1 hD1
  exact kk H1 locs1 ls hP1 hD1 hS1 hl
theorem jw_zast {a N : Nat} {f : Nat → Bool} {i : Int} {x : Bool} (C : JC G X rm cc own nL) (q0 : Nat) (he : w[q0]? = some (a, .inl (G.2 1, N, .inl (jbF f)))) (j : Nat) (hj : i = (j : Int)) (hn : j < N) (hN : N < 1000000) (d : decode cc pc = .ok (.bastore, 1)) (kk : JW G X k n (w.set q0 (a, .inl (G.2 1, N, .inl (jbF (updf f j x))))) (pc + 1) L (rest)) : JW G X k n w (pc) L (.int (jb x) :: .int (iI i) :: .ref a :: rest) := by
  obtain ⟨p, l, e, R, s, m, args, below, meth, c, Q, A⟩ := X
  obtain ⟨hx, hb, hml, hown, hts, hnw, hK, hlk, hA, hR⟩ := C
  intro H locs ls hP hD hS hl
  subst hj
  refine va_zast hx hb hK hP hD hS q0 1 he rfl (iI_in hn hN) d (fun H1 locs1 hP1 hD1 hS1 => ?_)
  rw [iI_clamp (Nat.lt_trans hn hN), jbF_upd] at hP1 hD1
  exact kk H1 locs1 ls hP1 hD1 hS1 hl
theorem jw_widen {k2 n2 : Nat} {st : List Value} (h1 : k ≤ k2) (h2 : n ≤ n2) (kk : JW G X k2 n2 w pc L st) : JW G X k n w pc L st := by
  obtain ⟨p, l, e, R, s, m, args, below, meth, c, Q, A⟩ := X
  intro H locs ls hP hD hS hl
  exact W.widen h1 h2 (kk H locs ls hP hD hS hl)
/-- fewer locals are known -/
theorem jw_forget {L2 : List (Option Value)} {st : List Value} (h1 : L2.length = L.length) (h2 : ∀ (j : Nat) (v : Value), L2[j]? = some (some v) → L[j]? = some (some v)) (kk : JW G X k n w pc L2 st) : JW G X k n w pc L st := by
  obtain ⟨p, l, e, R, s, m, args, below, meth, c, Q, A⟩ := X
  intro H locs ls hP hD hS hl
  refine kk H locs ls hP hD hS ⟨hl.1.trans h1.symm, hl.2.1, fun q hq => hl.2.2 q ?_⟩
  obtain ⟨j, h3, h4⟩ := (jl0_mem _ _ _).mp hq
  exact (jl0_mem _ _ _).mpr ⟨j, h2 j _ h3, h4⟩
/-- the world in another order, or a part of it -/
theorem jw_sub {w2 : va_W} {st : List Value} (is : List Nat) (hn : va_nd is = true) (hs : is.map (fun i => w[i]?) = w2.map some) (kk : JW G X k n w2 pc L st) : JW G X k n w pc L st := by
  obtain ⟨p, l, e, R, s, m, args, below, meth, c, Q, A⟩ := X
  intro H locs ls hP hD hS hl
  refine kk H locs ls (hP.sub is ?_) (hD.sub is hn hs) hS hl
  have h := congrArg (List.filterMap id) hs
  rw [List.filterMap_map, List.filterMap_map] at h
  simpa using h
end JR
