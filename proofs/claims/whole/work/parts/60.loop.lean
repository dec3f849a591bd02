/-! rows for the law's own loop: the script, the switch, a new long array -/
def JScr (X : JX) (b N : Nat) (xs : Nat → Int32) : Prop :=
  match X with
  | (_p, _l, _e, _R, s, _m, _args, _below, _meth, _c, _Q, A) => va_X b N xs s s.heap ∧ b < s.heap.size ∧ ¬ A b
section JLOOP
variable {G : jG} {X : JX} {k n pc : Nat} {w : va_W} {L : List (Option Value)} {rest : List Value} {rm : Room} {cc : ByteArray} {own : String} {nL b N : Nat} {xs : Nat → Int32}
theorem jw_sld {i : Int} (C : JC G X rm cc own nL) (S : JScr X b N xs) (j : Nat) (hj : i = (j : Int)) (hn : j < N) (hN : N < 1000000) (d : decode cc pc = .ok (.iaload, 1)) (kk : JW G X k n w (pc + 1) L (.int (xs j) :: rest)) : JW G X k n w pc L (.int (iI i) :: .ref b :: rest) := by
  obtain ⟨p, l, e, R, s, m, args, below, meth, c, Q, A⟩ := X
  obtain ⟨hx, hb, hml, hown, hts, hnw, hK, hlk, hA, hR⟩ := C
  obtain ⟨hX, hbl, hbA⟩ := S
  intro H locs ls hP hD hS hl
  subst hj
  refine va_sld hx hb hX hbl hbA hS (iI_in hn hN) d ?_
  rw [iI_clamp (Nat.lt_trans hn hN)]
  exact kk H locs ls hP hD hS hl
theorem jw_slen (C : JC G X rm cc own nL) (S : JScr X b N xs) (d : decode cc pc = .ok (.arraylength, 1)) (kk : JW G X k n w (pc + 1) L (.int (iI (N : Int)) :: rest)) : JW G X k n w pc L (.ref b :: rest) := by
  obtain ⟨p, l, e, R, s, m, args, below, meth, c, Q, A⟩ := X
  obtain ⟨hx, hb, hml, hown, hts, hnw, hK, hlk, hA, hR⟩ := C
  obtain ⟨hX, hbl, hbA⟩ := S
  intro H locs ls hP hD hS hl
  refine va_slen hx hb hX hbl hbA hS d ?_
  have e : Int32.ofNat N = iI (N : Int) := (iI_nI N).symm
  rw [e]
  exact kk H locs ls hP hD hS hl
theorem jw_tabOut {dflt lo hi : Int} {offs : Array Int} {len : Nat} {x : Int32} {tgt : Nat} (C : JC G X rm cc own nL) (d : decode cc pc = .ok (.tableswitch dflt lo hi offs, len)) (h : x.toInt < lo ∨ hi < x.toInt) (ht : (pc : Int) + dflt = (tgt : Int)) (kk : JW G X k n w tgt L rest) : JW G X k n w pc L (.int x :: rest) := by
  obtain ⟨p, l, e, R, s, m, args, below, meth, c, Q, A⟩ := X
  obtain ⟨hx, hb, hml, hown, hts, hnw, hK, hlk, hA, hR⟩ := C
  intro H locs ls hP hD hS hl
  exact lv_tableOut hx hb d h ht (kk H locs ls hP hD hS hl)
theorem jw_tabIn {dflt lo hi : Int} {offs : Array Int} {len : Nat} {x : Int32} {off : Int} {tgt : Nat} (C : JC G X rm cc own nL) (d : decode cc pc = .ok (.tableswitch dflt lo hi offs, len)) (h1 : ¬ x.toInt < lo) (h2 : ¬ hi < x.toInt) (ho : offs[(x.toInt - lo).toNat]? = some off) (ht : (pc : Int) + off = (tgt : Int)) (kk : JW G X k n w tgt L rest) : JW G X k n w pc L (.int x :: rest) := by
  obtain ⟨p, l, e, R, s, m, args, below, meth, c, Q, A⟩ := X
  obtain ⟨hx, hb, hml, hown, hts, hnw, hK, hlk, hA, hR⟩ := C
  intro H locs ls hP hD hS hl
  exact lv_tableIn hx hb d h1 h2 ho ht (kk H locs ls hP hD hS hl)
theorem jw_newaL (C : JC G X rm cc own nL) (N : Nat) (hN : N < 1000000) (hk : k + 1 ≤ rm.cells ∧ n + N ≤ rm.slots) (d : decode cc pc = .ok (.newarray .long, 2)) (kk : ∀ q : Nat, JW G X (k + 1) (n + N) (w ++ [(q, .inl (G.2 2, N, .inr (.inl (fun _ => 0))))]) (pc + 2) L (.ref q :: rest)) : JW G X k n w pc L (.int (iI (N : Int)) :: rest) := by
  obtain ⟨p, l, e, R, s, m, args, below, meth, c, Q, A⟩ := X
  obtain ⟨hx, hb, hml, hown, hts, hnw, hK, hlk, hA, hR⟩ := C
  subst hR
  intro H locs ls hP hD hS hl
  refine va_newa (atype := .long) hx hb (hts _ kac_long) (ty := .long) rfl hK hP hD hS hA (N' := N) (a0 := (N, .inr (.inl (fun _ => 0)))) (fun cA => rfl) (by rw [iI_0, iI_lt ⟨by omega, by omega⟩ ⟨by omega, by omega⟩]; omega) (iI_clamp hN) (by show N * 8 ≤ _; omega) hk.1 hk.2 d (fun q cA H1 hK1 hP1 hD1 hS1 => ?_)
  have e1 : s.vm.findClass ("[" ++ FieldType.long.toString) = some cA := (hK1.2 3 (cA, .long) rfl).2
  have e2 : s.vm.findClass ("[" ++ FieldType.long.toString) = some (G.2 2) := (hK.2 2 (G.2 2, .long) rfl).2
  have e3 : cA = G.2 2 := Option.some.inj (e1.symm.trans e2)
  subst e3
  exact kk q H1 locs ls hP1 hD1 hS1 hl
end JLOOP
