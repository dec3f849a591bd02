/-! MORE ROWS: remainders and quotients, constants, the script in a method of the law, a static call that makes cells -/
theorem iI_div {a b : Nat} (ha : a < 2147483648) (hb : b < 2147483648) : iI (a : Int) / iI (b : Int) = iI ((a / b : Nat) : Int) := by
  apply Int32.toInt_inj.mp
  have h0 : a / b ≤ a := Nat.div_le_self a b
  obtain ⟨q, hq0⟩ : ∃ q : Nat, q = a / b := ⟨_, rfl⟩
  rw [← hq0] at h0 ⊢
  rw [Int32.toInt_div, iI_toInt (a := (a : Int)) ⟨by omega, by omega⟩, iI_toInt (a := (b : Int)) ⟨by omega, by omega⟩, iI_toInt (a := (q : Int)) ⟨by omega, by omega⟩, ← Int.ofNat_tdiv, ← hq0]
  clear hq0
  have hq : q < 2147483648 := by omega
  first | (rw [Int.bmod_eq_of_le (by omega) (by omega)]; done) | (simp only [Int.bmod]; omega) | (unfold Int.bmod; simp; omega)
theorem iI_rem {a b : Nat} (ha : a < 2147483648) (hb : b < 2147483648) : iI (a : Int) - iI (a : Int) / iI (b : Int) * iI (b : Int) = iI ((a % b : Nat) : Int) := by
  rw [iI_div ha hb, iI_mul, iI_sub]
  apply congrArg iI
  have h := Nat.div_add_mod a b
  have h2 : b * (a / b) = (a / b) * b := Nat.mul_comm _ _
  have h3 : (((a / b) * b : Nat) : Int) = ((a / b : Nat) : Int) * (b : Int) := Int.natCast_mul _ _
  rw [← h3]
  omega
theorem and_pos (v : Int32) : ∃ c : Nat, c < 2147483648 ∧ v &&& (2147483647 : Int32) = iI (c : Int) := by
  refine ⟨(v.toBitVec &&& 2147483647#32).toNat, ?_, ?_⟩
  · rw [BitVec.toNat_and]
    exact Nat.lt_of_le_of_lt Nat.and_le_right (by decide)
  · apply Int32.toBitVec_inj.mp
    rw [Int32.toBitVec_and]
    show v.toBitVec &&& 2147483647#32 = BitVec.ofInt 32 _
    rw [BitVec.ofInt_natCast, BitVec.ofNat_toNat, BitVec.setWidth_eq]
section JMORE
variable {G : jG} {X : JX} {k n pc : Nat} {w : va_W} {L : List (Option Value)} {rest : List Value} {rm : Room} {cc : ByteArray} {own : String} {nL : Nat}
theorem jw_irem_n {a b : Nat} (C : JC G X rm cc own nL) (hb0 : 0 < b) (ha : a < 2147483648) (hb2 : b < 2147483648) (d : decode cc pc = .ok (.irem, 1)) (kk : JW G X k n w (pc + 1) L (.int (iI ((a % b : Nat) : Int)) :: rest)) : JW G X k n w pc L (.int (iI (b : Int)) :: .int (iI (a : Int)) :: rest) := by
  obtain ⟨p, l, e, R, s, m, args, below, meth, c, Q, A⟩ := X
  obtain ⟨hx, hb, hml, hown, hts, hnw, hK, hlk, hA, hR⟩ := C
  intro H locs ls hP hD hS hl
  refine lv_irem hx hb d (fun q => ?_) ?_
  · have := (iI_eq (a := (b : Int)) (b := 0) ⟨by omega, by omega⟩ ⟨by omega, by omega⟩).mp q
    omega
  · rw [iI_rem ha hb2]
    exact kk H locs ls hP hD hS hl
theorem jw_idiv_n {a b : Nat} (C : JC G X rm cc own nL) (hb0 : 0 < b) (ha : a < 2147483648) (hb2 : b < 2147483648) (d : decode cc pc = .ok (.idiv, 1)) (kk : JW G X k n w (pc + 1) L (.int (iI ((a / b : Nat) : Int)) :: rest)) : JW G X k n w pc L (.int (iI (b : Int)) :: .int (iI (a : Int)) :: rest) := by
  obtain ⟨p, l, e, R, s, m, args, below, meth, c, Q, A⟩ := X
  obtain ⟨hx, hb, hml, hown, hts, hnw, hK, hlk, hA, hR⟩ := C
  intro H locs ls hP hD hS hl
  refine lv_idiv hx hb d (fun q => ?_) ?_
  · have := (iI_eq (a := (b : Int)) (b := 0) ⟨by omega, by omega⟩ ⟨by omega, by omega⟩).mp q
    omega
  · rw [iI_div ha hb2]
    exact kk H locs ls hP hD hS hl
theorem jw_ldc {idx : Nat} {v : Int32} (C : JC G X rm cc own nL) (hw : Cond.constant own idx v ∈ jAll) (d : decode cc pc = .ok (.ldc idx, 2)) (kk : JW G X k n w (pc + 2) L (.int v :: rest)) : JW G X k n w pc L rest := by
  obtain ⟨p, l, e, R, s, m, args, below, meth, c, Q, A⟩ := X
  obtain ⟨hx, hb, hml, hown, hts, hnw, hK, hlk, hA, hR⟩ := C
  intro H locs ls hP hD hS hl
  refine lv_ldc hx hb hown (hts _ hw) d ?_
  exact kk H locs ls hP hD hS hl
end JMORE
/-- the script, in the law's own frame and in the frame of a method that it calls -/
def JScr (X : JX) (b N : Nat) (xs : Nat → Int32) : Prop :=
  match X with
  | (_p, _l, _e, _R, s, _m, _args, _below, _meth, _c, _Q, A) => va_X b N xs s s.heap ∧ b < s.heap.size ∧ ¬ A b
section JSCR
variable {G : jG} {X : JX} {k n pc : Nat} {w : va_W} {L : List (Option Value)} {rest : List Value} {rm : Room} {cc : ByteArray} {own : String} {nL b N : Nat} {xs : Nat → Int32}
theorem jw_sld {i : Int} (C : JC G X rm cc own nL) (S : JScr X b N xs) (j : Nat) (hj : i = (j : Int)) (hn : j < N) (hN : N < 1000000) (d : decode cc pc = .ok (.iaload, 1)) (kk : JW G X k n w (pc + 1) L (.int (xs j) :: rest)) : JW G X k n w pc L (.int (iI i) :: .ref b :: rest) := by
  obtain ⟨p, l, e, R, s, m, args, below, meth, c, Q, A⟩ := X
  obtain ⟨hx, hb, hml, hown, hts, hnw, hK, hlk, hA, hR⟩ := C
  obtain ⟨hX, hbl, hbA⟩ := S
  intro H locs ls hP hD hS hl
  subst hj
  refine va_sld hx hb hX hbl hbA hS (iI_in hn hN) d ?_
  rw [iI_clamp (Nat.lt_trans hn hN)]
  exact kk H locs ls hP hD hS hl
theorem jw_slen (C : JC G X rm cc own nL) (S : JScr X b N xs) (d : decode cc pc = .ok (.arraylength, 1)) (kk : JW G X k n w (pc + 1) L (.int (iI (N : Int)) :: rest)) : JW G X k n w pc L (.ref b :: rest) := by
  obtain ⟨p, l, e, R, s, m, args, below, meth, c, Q, A⟩ := X
  obtain ⟨hx, hb, hml, hown, hts, hnw, hK, hlk, hA, hR⟩ := C
  obtain ⟨hX, hbl, hbA⟩ := S
  intro H locs ls hP hD hS hl
  refine va_slen hx hb hX hbl hbA hS d ?_
  have e : Int32.ofNat N = iI (N : Int) := (iI_nI N).symm
  rw [e]
  exact kk H locs ls hP hD hS hl
end JSCR
/-- a contract of a method that reads the script and nothing else -/
def CIs (G : jG) (y : MethodName) (cc : ByteArray) (maxL : Nat) (rm : Room) (args : List Value) (b N : Nat) (xs : Nat → Int32) (post : Int32 → Prop) : Prop :=
  rm.cells = 0 ∧ rm.slots = 0 ∧ ∀ (l : Launch) (sz : Nat), Met l y (Cond.code y cc maxL (some .int) :: jAll) rm (va_Pc args (fun U => jPre G sz [] U ∧ va_X b N xs U U.heap ∧ b < sz)) (va_Qi (fun r (_ : Unit) => post r) (fun _ => jPost G (va_A [] sz) []) (va_A [] sz)) 0 0 (va_A [] sz)
theorem cis_intro {G : jG} {y : MethodName} {cc : ByteArray} {maxL f loc : Nat} {args : List Value} {b N : Nat} {xs : Nat → Int32} {post : Int32 → Prop} {own : String} (L0 : List (Option Value)) (hy : plainName y.cls = true) (hyo : y.cls = own) (hL : jl0 0 L0 = lv_args 0 args) (hLn : L0.length = maxL) (hsl : (lg_sl args).length ≤ maxL)
    (h : ∀ X : JX, JC G X (jrm f loc 0 0) cc own maxL → JScr X b N xs → (∀ (pc : Nat) (L : List (Option Value)) (r : Int32), decode cc pc = .ok (.ireturn, 1) → post r → JW G X 0 0 [] pc L [.int r]) → JW G X 0 0 [] 0 L0 []) : CIs G y cc maxL (jrm f loc 0 0) args b N xs post := by
  refine ⟨rfl, rfl, fun l sz => ?_⟩
  refine Met.ofW (cc := cc) (maxL := maxL) (ret := (some .int)) hy rfl ?_
  intro p e s m args1 below meth c s₁ B hml hv
  obtain ⟨rfl, ⟨hsz, hP, hK, hN, hD0⟩, hXs, hbl⟩ := hv
  have hx := B.exec
  have hb := B.bytes
  have hr := B.returns
  have hts := atoms_spec (ws := (Cond.code y cc maxL (some .int) :: jAll)) B.pre
  have hown : s.vm.findClass own = some m.cls := by rw [← hyo]; exact findClass_of_methodNamed B.named
  have hlocks := B.notSynchronized
  subst hsz
  have hD := hD0.self (sz := s.heap.size)
  have hA : ∀ q : Nat, s.heap.size ≤ q → va_A [] s.heap.size q := fun q h => Or.inr h
  have hl := lv_entry args (n := maxL) hsl
  rw [lg_entry_eq]
  generalize (lg_sl args ++ List.replicate (maxL - (lg_sl args).length) Slot.unset).toArray = ls at hl ⊢
  rw [← hL] at hl
  have hl2 : lv_has ls L0.length (jl0 0 L0) := by rw [hLn]; exact hl
  have K := h (p, l, e, (jrm f loc 0 0), s, m, args.toArray, below, meth, c, MQ below (va_Qi (fun r (_ : Unit) => post r) (fun _ => jPost G (va_A [] s.heap.size) []) (va_A [] s.heap.size)) args.toArray s 0 0 (va_A [] s.heap.size), va_A [] s.heap.size) ⟨hx, hb, hml, hown, fun z hz => hts z (List.mem_cons_of_mem _ hz), hN, hK, hlocks, hA, rfl⟩ ⟨hXs, hbl, fun q => ?_⟩ ?_
  · exact K s.heap [] ls hP hD va_S.rf hl2
  · rcases q with ⟨i, z, q⟩ | q
    · simp at q
    · exact absurd hbl (Nat.not_lt.mpr q)
  · intro pc L r hd hp H locs ls hP hD hS hl
    exact W.iret hx hb hr (fun t ht hW => ⟨⟨r, (), rfl, hp, by rw [ht]; exact hP, va_K.moved hW.alike hK, hD⟩, hS.F ht⟩) hS.2.2 hd hlocks
theorem jPreS_blind {G : jG} {sz b N : Nat} {w : va_W} {av : List Value} {xs : Nat → Int32} : FrameBlind (va_Pc av (fun U => jPre G sz w U ∧ va_X b N xs U U.heap ∧ b < sz)) := by
  intro a U g mk q
  obtain ⟨q0, ⟨q1, qP, qK, qN, qD⟩, qX, qb⟩ := q
  exact ⟨q0, ⟨q1, qP, va_K.moved (u := U) (U := U.calling g mk a) (Vm.Alike.refl U.vm) qK, fun z hz => va_Nw.same (jNest_on hz) (u := U) (U := U.calling g mk a) rfl (qN z hz), qD⟩, va_X.moved (u := U) (U := U.calling g mk a) (Vm.Alike.refl U.vm) qX, qb⟩
section JCALL2
variable {G : jG} {X : JX} {k n pc : Nat} {w : va_W} {L : List (Option Value)} {rest st0 : List Value} {rm : Room} {cc : ByteArray} {own : String} {nL : Nat} {y : MethodName} {bytes : ByteArray} {maxL f loc np idx b q0 ci N : Nat} {As : List Value} {w0 wr : va_W} {S : Type} {w1 : S → va_W} {xs : Nat → Int32}
theorem jw_cell {post : Int32 → Prop} (C : JC G X rm cc own nL) (Sc : JScr X b N xs) (ct : CIs G y bytes maxL (jrm f loc 0 0) As b N xs post) (wd : jWs y bytes maxL (some .int) np) (link : Cond.methodLink own idx y ∈ jAll)
    (hAs : As.length = np) (hst : st0 = As.reverse ++ rest) (hrest : (rest.map fun v => v.category).sum ≤ 8) (hrm : f + 1 ≤ rm.frames ∧ 8 + (maxL + 11) + loc ≤ rm.locals) (hk : k ≤ rm.cells ∧ n ≤ rm.slots) (d : decode cc pc = .ok (.invokestatic idx, 3)) (hL : L.length = nL)
    (kk : ∀ r : Int32, post r → JW G X k n w (pc + 3) L (.int r :: rest)) : JW G X k n w pc L st0 := by
  obtain ⟨p, l, e, R, s, m, args, below, meth, c, Q, A⟩ := X
  obtain ⟨hx, hb, hml, hown, hts, hnw, hK, hlk, hA, hR⟩ := C
  obtain ⟨hXs, hbl, hbA⟩ := Sc
  subst hR
  intro H locs ls hP hD hS hl
  obtain ⟨wd1, wd2, wd3, wd5⟩ := wd
  have hC : ([] : List Nat).map (fun i => w[i]?) = ([] : va_W).map some := rfl
  have hPc := hP.sub [] (j_part hC)
  have hDc := j_nd hD hC rfl
  have hFc := va_free hD hS hA [] hC
  refine va_calli (va_runS (As := As) (rest := rest) ⟨hx, hb, hml, hown, hts⟩ (ct.2.2 l H.size) (va_cwS np hts (jAll_in (fun z hz => ?_)) rfl rfl rfl wd5 hrm) ⟨jPreS_blind, fun U hU hW => ⟨rfl, ⟨by rw [hU], by rw [hU]; exact hPc, va_K.moved hW.alike hK, fun z hz => jNest_warm hz hW (hnw z hz), hDc⟩, by rw [hU]; exact (va_X.moved hW.alike hXs).kept (hS.2.1 b hbl hbA), Nat.lt_of_lt_of_le hbl hS.1⟩⟩ rfl hAs (hl.1.trans hL) hst (lv_room hrest) d hk) hS (fun q _ h => hFc q h) hFc (fun r u t H1 locs1 ht hvm hw hB hz1 hk1 hS1 => ?_)
  · rcases List.mem_append.mp hz with h | h
    · simp only [List.mem_cons, List.not_mem_nil, or_false] at h
      rcases h with rfl | rfl | rfl
      · exact link
      · exact wd1
      · exact wd2
    · exact jAll_code wd3 z h
  · obtain ⟨hP1, hK1, hD1⟩ := hB
    rw [ht] at hP1
    obtain ⟨hP2, hD2⟩ := va_join hP hD [] (List.range w.length) hC (j_rng w) (j_nd_rng _) (fun _ _ h => by cases h) hk1 hFc hP1 hD1
    rw [List.append_nil] at hP2 hD2
    exact kk r hw H1 locs1 ls hP2 hD2 hS1 hl
theorem jw_sSm_I {post : Int32 → S → Prop} {mc ms : Nat} (C : JC G X rm cc own nL) (ct : CI G y bytes maxL (jrm f loc mc ms) As w0 post w1 mc ms) (wd : jWs y bytes maxL (some .int) np) (link : Cond.methodLink own idx y ∈ jAll)
    (isC isR : List Nat) (hC : isC.map (fun i => w[i]?) = w0.map some) (hR : isR.map (fun i => w[i]?) = wr.map some) (hnC : va_nd isC = true) (hn : va_nd isR = true) (hdis : ∀ i ∈ isR, i ∉ isC)
    (hAs : As.length = np) (hst : st0 = As.reverse ++ rest) (hrest : (rest.map fun v => v.category).sum ≤ 8) (hrm : f + 1 ≤ rm.frames ∧ 8 + (maxL + 11) + loc ≤ rm.locals) (hk : k + mc ≤ rm.cells ∧ n + ms ≤ rm.slots) (d : decode cc pc = .ok (.invokestatic idx, 3)) (hL : L.length = nL)
    (kk : ∀ (r : Int32) (u : S), post r u → JW G X (k + mc) (n + ms) (wr ++ w1 u) (pc + 3) L (.int r :: rest)) : JW G X k n w pc L st0 := by
  obtain ⟨p, l, e, R, s, m, args, below, meth, c, Q, A⟩ := X
  obtain ⟨hx, hb, hml, hown, hts, hnw, hK, hlk, hA, hR⟩ := C
  subst hR
  intro H locs ls hP hD hS hl
  obtain ⟨wd1, wd2, wd3, wd5⟩ := wd
  have hPc := hP.sub isC (j_part hC)
  have hDc := j_nd hD hC hnC
  have hFc := va_free hD hS hA isC hC
  refine va_calli (va_runS (As := As) (rest := rest) ⟨hx, hb, hml, hown, hts⟩ (ct.2.2 l H.size) (va_cwS np hts (jAll_in (fun z hz => ?_)) rfl rfl rfl wd5 hrm) ⟨jPre_blind, fun U hU hW => ⟨rfl, by rw [hU], by rw [hU]; exact hPc, va_K.moved hW.alike hK, fun z hz => jNest_warm hz hW (hnw z hz), hDc⟩⟩ rfl hAs (hl.1.trans hL) hst (lv_room hrest) d hk) hS (fun q _ h => hFc q h) hFc (fun r u t H1 locs1 ht hvm hw hB hz1 hk1 hS1 => ?_)
  · rcases List.mem_append.mp hz with h | h
    · simp only [List.mem_cons, List.not_mem_nil, or_false] at h
      rcases h with rfl | rfl | rfl
      · exact link
      · exact wd1
      · exact wd2
    · exact jAll_code wd3 z h
  · obtain ⟨hP1, hK1, hD1⟩ := hB
    rw [ht] at hP1
    obtain ⟨hP2, hD2⟩ := va_join hP hD isC isR hC hR hn hdis hk1 hFc hP1 hD1
    exact kk r u hw H1 locs1 ls hP2 hD2 hS1 hl
end JCALL2
