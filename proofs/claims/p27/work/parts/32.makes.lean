/-! MAKING: new, newarray, final fields, Object's constructor; the constructors -/
def JIni (X : JX) : Prop :=
  match X with
  | (_p, _l, _e, _R, _s, _m, _args, _below, meth, _c, _Q, _A) => meth.name = "<init>"
theorem cvi_intro {G : jG} {y : MethodName} {cc : ByteArray} {maxL f loc mc ms : Nat} {args : List Value} {w0 : va_W} {S : Type} {post : S → Prop} {w1 : S → va_W} {own : String} (L0 : List (Option Value)) (hy : plainName y.cls = true) (hyo : y.cls = own) (hyn : y.name = "<init>") (hL : jl0 0 L0 = lv_args 0 args) (hLn : L0.length = maxL) (hsl : (lg_sl args).length ≤ maxL)
    (h : ∀ X : JX, JC G X (jrm f loc mc ms) cc own maxL → JIni X → (∀ (pc : Nat) (L : List (Option Value)) (u : S), decode cc pc = .ok (.return_, 1) → post u → JW G X mc ms (w1 u) pc L []) → JW G X 0 0 w0 0 L0 []) : CV G y cc maxL (jrm f loc mc ms) args w0 post w1 mc ms := by
  refine ⟨rfl, rfl, fun l sz => ?_⟩
  refine Met.ofW (cc := cc) (maxL := maxL) (ret := none) hy rfl ?_
  intro p e s m args1 below meth c s₁ B hml hv
  obtain ⟨rfl, hsz, hP, hK, hN, hD0⟩ := hv
  have hx := B.exec
  have hb := B.bytes
  have hr := B.returns
  have hts := atoms_spec (ws := (Cond.code y cc maxL none :: jAll)) B.pre
  have hown : s.vm.findClass own = some m.cls := by rw [← hyo]; exact findClass_of_methodNamed B.named
  have hlocks := B.notSynchronized
  subst hsz
  have hD := hD0.self (sz := s.heap.size)
  have hA : ∀ q : Nat, s.heap.size ≤ q → va_A w0 s.heap.size q := fun q h => Or.inr h
  have hl := lv_entry args (n := maxL) hsl
  rw [lg_entry_eq]
  generalize (lg_sl args ++ List.replicate (maxL - (lg_sl args).length) Slot.unset).toArray = ls at hl ⊢
  rw [← hL] at hl
  have hl2 : lv_has ls L0.length (jl0 0 L0) := by rw [hLn]; exact hl
  have K := h (p, l, e, (jrm f loc mc ms), s, m, args.toArray, below, meth, c, MQ below (va_Qv post (fun u => jPost G (va_A w0 s.heap.size) (w1 u)) (va_A w0 s.heap.size)) args.toArray s mc ms (va_A w0 s.heap.size), va_A w0 s.heap.size) ⟨hx, hb, hml, hown, fun z hz => hts z (List.mem_cons_of_mem _ hz), hN, hK, hlocks, hA, rfl⟩ ((name_of_methodNamed B.named B.method).1.trans hyn) ?_
  · exact K s.heap [] ls hP hD va_S.rf hl2
  · intro pc L u hd hp H locs ls hP hD hS hl
    exact W.vret hx hb hr (fun t ht hW => ⟨⟨u, rfl, hp, by rw [ht]; exact hP, va_K.moved hW.alike hK, hD⟩, hS.F ht⟩) hS.2.2 hd hlocks
section JMAKE
theorem jw_eqw {G : jG} {X : JX} {k n pc : Nat} {w : va_W} {L : List (Option Value)} {st : List Value} (w2 : va_W) (h : w = w2) (kk : JW G X k n w2 pc L st) : JW G X k n w pc L st := h ▸ kk
variable {G : jG} {X : JX} {k n pc : Nat} {w : va_W} {L : List (Option Value)} {rest : List Value} {rm : Room} {cc : ByteArray} {own : String} {nL a : Nat}
theorem jw_objInit {idx : Nat} (C : JC G X rm cc own nL) (link : Cond.methodLink own idx objectInit ∈ jAll) (hf : 1 ≤ rm.frames) (hlo : 12 ≤ rm.locals) (d : decode cc pc = .ok (.invokespecial idx, 3)) (hL : L.length = nL) (kk : JW G X k n w (pc + 3) L []) : JW G X k n w pc L [.ref a] := by
  obtain ⟨p, l, e, R, s, m, args, below, meth, c, Q, A⟩ := X
  obtain ⟨hx, hb, hml, hown, hts, hnw, hK, hlk, hA, hR⟩ := C
  subst hR
  intro H locs ls hP hD hS hl
  refine W.objInit hx hb hown (hts _ link) (hts _ kim_Object__init___V) (hts _ kco_objectInit) rfl (hl.1.trans (hL.trans hml.symm)) (a := a) (rest := []) rfl d hf (by show 2 * 0 + 0 + 12 ≤ _; omega) ?_
  exact W.eq (g2 := F0 m (pc + 3) ls []) rfl (kk H locs ls hP hD hS hl)
theorem jw_newaI (C : JC G X rm cc own nL) (N : Nat) (hN : N < 1000000) (hk : k + 1 ≤ rm.cells ∧ n + N ≤ rm.slots) (d : decode cc pc = .ok (.newarray .int, 2)) (kk : ∀ q : Nat, JW G X (k + 1) (n + N) (w ++ [jAI G q N (jiI (fun _ => 0))]) (pc + 2) L (.ref q :: rest)) : JW G X k n w pc L (.int (iI (N : Int)) :: rest) := by
  obtain ⟨p, l, e, R, s, m, args, below, meth, c, Q, A⟩ := X
  obtain ⟨hx, hb, hml, hown, hts, hnw, hK, hlk, hA, hR⟩ := C
  subst hR
  intro H locs ls hP hD hS hl
  refine va_newa (atype := .int) hx hb (hts _ kac_int) (ty := .int) rfl hK hP hD hS hA (N' := N) (a0 := (N, .inl (jiI (fun _ => 0)))) (fun cA => rfl) (by rw [iI_0, iI_lt ⟨by omega, by omega⟩ ⟨by omega, by omega⟩]; omega) (iI_clamp hN) (by show N * 4 ≤ _; omega) hk.1 hk.2 d (fun q cA H1 hK1 hP1 hD1 hS1 => ?_)
  have e1 : s.vm.findClass ("[" ++ FieldType.int.toString) = some cA := (hK1.2 2 (cA, .int) rfl).2
  have e2 : s.vm.findClass ("[" ++ FieldType.int.toString) = some (G.2 0) := (hK.2 0 (G.2 0, .int) rfl).2
  have e3 : cA = G.2 0 := Option.some.inj (e1.symm.trans e2)
  subst e3
  exact kk q H1 locs ls hP1 hD1 hS1 hl
theorem jw_newaZ (C : JC G X rm cc own nL) (N : Nat) (hN : N < 1000000) (hk : k + 1 ≤ rm.cells ∧ n + N ≤ rm.slots) (d : decode cc pc = .ok (.newarray .boolean, 2)) (kk : ∀ q : Nat, JW G X (k + 1) (n + N) (w ++ [jAZ G q N (jbF (fun _ => false))]) (pc + 2) L (.ref q :: rest)) : JW G X k n w pc L (.int (iI (N : Int)) :: rest) := by
  obtain ⟨p, l, e, R, s, m, args, below, meth, c, Q, A⟩ := X
  obtain ⟨hx, hb, hml, hown, hts, hnw, hK, hlk, hA, hR⟩ := C
  subst hR
  intro H locs ls hP hD hS hl
  refine va_newa (atype := .boolean) hx hb (hts _ kac_boolean) (ty := .boolean) rfl hK hP hD hS hA (N' := N) (a0 := (N, .inl (jbF (fun _ => false)))) (fun cA => rfl) (by rw [iI_0, iI_lt ⟨by omega, by omega⟩ ⟨by omega, by omega⟩]; omega) (iI_clamp hN) (by show N * 1 ≤ _; omega) hk.1 hk.2 d (fun q cA H1 hK1 hP1 hD1 hS1 => ?_)
  have e1 : s.vm.findClass ("[" ++ FieldType.boolean.toString) = some cA := (hK1.2 2 (cA, .boolean) rfl).2
  have e2 : s.vm.findClass ("[" ++ FieldType.boolean.toString) = some (G.2 1) := (hK.2 1 (G.2 1, .boolean) rfl).2
  have e3 : cA = G.2 1 := Option.some.inj (e1.symm.trans e2)
  subst e3
  exact kk q H1 locs ls hP1 hD1 hS1 hl
theorem jw_new {C2 : String} {T : u_T} {N ci idx : Nat} {ty0 : Nat → FieldType} {fs : List Value} (hin : ∀ w ∈ u_ws C2 T N, w ∈ jAll) (hty : ∀ k, k < N → parseFieldDescriptor (T k).2.2.1 = some (ty0 k)) (hc : vwCl[ci]? = some (C2, T, N)) (C : JC G X rm cc own nL) (hcl : Cond.classLink own idx C2 ∈ jAll) (hinst : Cond.instantiable C2 N ∈ jAll) (hini : Cond.initialized C2 ∈ jAll) (hfs : ∀ j, j < N → defaultValue (ty0 j) = vp_V fs j) (hk : k + 1 ≤ rm.cells ∧ n + N ≤ rm.slots) (d : decode cc pc = .ok (.new idx, 3)) (kk : ∀ q : Nat, JW G X (k + 1) (n + N) (w ++ [(q, .inr (ci, fs))]) (pc + 3) L (.ref q :: rest)) : JW G X k n w pc L rest := by
  obtain ⟨p, l, e, R, s, m, args, below, meth, c, Q, A⟩ := X
  obtain ⟨hx, hb, hml, hown, hts, hnw, hK, hlk, hA, hR⟩ := C
  subst hR
  intro H locs ls hP hD hS hl
  exact va_new hx hb hts hin ty0 hty hown (hts _ hcl) (hts _ hinst) (hts _ hini) hK hP hD hS hA hc hfs hk.1 hk.2 d (fun q H1 hP1 hD1 hS1 => kk q H1 locs ls hP1 hD1 hS1 hl)
theorem jw_putF {ref cls : String} {T : u_T} {N ci idx : Nat} {fs : List Value} {v : Value} {ty0 : Nat → FieldType} {ty : FieldType} (hin : ∀ w ∈ u_ws cls T N, w ∈ jAll) (hty : ∀ k, k < N → parseFieldDescriptor (T k).2.2.1 = some (ty0 k)) (hnm : ∀ a, a < N → ∀ b, b < N → a ≠ b → (T a).2.1 ≠ (T b).2.1) (hc : vwCl[ci]? = some (cls, T, N)) (kf : Nat) (hk : kf < N) (hr : (T kf).1 = ref) (hfin : (T kf).2.2.2 = true) (hdecl : (T kf).1 = own) (hd : parseFieldDescriptor (T kf).2.2.1 = some ty) (C : JC G X rm cc own nL) (Hi : JIni X) (hlink : Cond.fieldLink own idx ref (T kf).2.1 (T kf).2.2.1 ∈ jAll)
    (q0 : Nat) (he : w[q0]? = some (a, .inr (ci, fs))) (hn : narrow ty v = v) (hfit : fits ty v = true) (hl : kf < fs.length) (d : decode cc pc = .ok (.putfield idx, 3)) (kk : JW G X k n (w.set q0 (a, .inr (ci, fs.set kf v))) (pc + 3) L rest) : JW G X k n w pc L (v :: .ref a :: rest) := by
  obtain ⟨p, l, e, R, s, m, args, below, meth, c, Q, A⟩ := X
  obtain ⟨hx, hb, hml, hown, hts, hnw, hK, hlk, hA, hR⟩ := C
  intro H locs ls hP hD hS hl2
  exact va_putF hx hb hts hin ty0 hty hnm hown hK hP hD hS q0 he hc kf hk (hts _ hlink) (fun x h => by rw [← hr]; exact h) hfin Hi hdecl hd hn hfit hl d (fun H1 locs1 hP1 hD1 hS1 => kk H1 locs1 ls hP1 hD1 hS1 hl2)
end JMAKE
def fl (v : Int) (k : Nat) : Nat → Int := fun i => if i < k then v else 0
theorem fl_0 (v : Int) : fl v 0 = fun _ => 0 := by
  funext i
  unfold fl
  rw [if_neg (Nat.not_lt_zero _)]
theorem fl_up (v : Int) (k : Nat) : updf (fl v k) k v = fl v (k + 1) := by
  funext i
  unfold fl updf
  by_cases e : i = k
  · rw [if_pos e, if_pos (by omega)]
  · rw [if_neg e]
    show (if i < k then v else 0) = _
    by_cases h : i < k
    · rw [if_pos h, if_pos (by omega)]
    · rw [if_neg h, if_neg (by omega)]
abbrev z0 : Nat → Int := fun _ => 0
set_option maxRecDepth 100000 in
set_option maxHeartbeats 4000000 in
theorem c_X1_init (G : jG) (b : Nat) : CV G yX1_init cX1_init 1 (jrm 1 20 2 400) [.ref b] [(b, .inr (1, [.null, .null, .int (iI 0)]))] (fun _ : (Nat → Nat) => True) (fun ad : Nat → Nat => [(b, .inr (1, [.ref (ad 0), .ref (ad 1), .int (iI 0)])), jAI G (ad 0) 200 (jiI z0), jAI G (ad 1) 200 (jiI z0)]) 2 400 := by
  refine cvi_intro (own := RX1) [some (.ref b)] (by decide) rfl rfl rfl rfl (Nat.le_of_ble_eq_true rfl) (fun X C Hi hret => ?_)
  refine jw_aload_0 (pc := 0) C dX1_init_0 ?_
  refine jw_objInit (pc := 1) C kml_X1_3 (Nat.le_of_ble_eq_true rfl) (Nat.le_of_ble_eq_true rfl) dX1_init_1 rfl ?_
  refine jw_aload_0 (pc := 4) C dX1_init_4 ?_
  refine jw_sipush (pc := 5) C dX1_init_5 (by decide) ?_
  refine jw_newaI (pc := 8) C 200 (by decide) ⟨Nat.le_of_ble_eq_true rfl, Nat.le_of_ble_eq_true rfl⟩ dX1_init_8 (fun q0 => ?_)
  refine jw_eqw [(b, .inr (1, [.null, .null, .int (iI 0)])), jAI G q0 200 (jiI (fun _ => 0))] rfl ?_
  refine jw_putF (pc := 10) (ty := (.array .int)) jU_X1 tyX1_ok nmX1 rfl 0 (by decide) rfl rfl rfl (by decide +kernel) C Hi kfl_X1_11 0 rfl rfl rfl (Nat.le_of_ble_eq_true rfl) dX1_init_10 ?_
  refine jw_eqw [(b, .inr (1, [.ref q0, .null, .int (iI 0)])), jAI G q0 200 (jiI (fun _ => 0))] rfl ?_
  refine jw_aload_0 (pc := 13) C dX1_init_13 ?_
  refine jw_sipush (pc := 14) C dX1_init_14 (by decide) ?_
  refine jw_newaI (pc := 17) C 200 (by decide) ⟨Nat.le_of_ble_eq_true rfl, Nat.le_of_ble_eq_true rfl⟩ dX1_init_17 (fun q1 => ?_)
  refine jw_eqw [(b, .inr (1, [.ref q0, .null, .int (iI 0)])), jAI G q0 200 (jiI (fun _ => 0)), jAI G q1 200 (jiI (fun _ => 0))] rfl ?_
  refine jw_putF (pc := 19) (ty := (.array .int)) jU_X1 tyX1_ok nmX1 rfl 1 (by decide) rfl rfl rfl (by decide +kernel) C Hi kfl_X1_15 0 rfl rfl rfl (Nat.le_of_ble_eq_true rfl) dX1_init_19 ?_
  refine jw_eqw [(b, .inr (1, [.ref q0, .ref q1, .int (iI 0)])), jAI G q0 200 (jiI (fun _ => 0)), jAI G q1 200 (jiI (fun _ => 0))] rfl ?_
  exact hret _ _ (fun i => ([q0, q1] : List Nat).getD i 0) dX1_init_22 trivial
set_option maxRecDepth 100000 in
set_option maxHeartbeats 4000000 in
theorem c_X2_init (G : jG) (b p : Nat) : CV G yX2_init cX2_init 2 (jrm 1 20 4 49) [.ref b, .ref p] [(b, .inr (2, [.null, .null, .null, .null, .null, .int (iI 0)]))] (fun _ : (Nat → Nat) => True) (fun ad : Nat → Nat => [(b, .inr (2, [.ref p, .ref (ad 0), .ref (ad 1), .ref (ad 2), .ref (ad 3), .int (iI 0)])), jAI G (ad 0) 12 (jiI z0), jAI G (ad 1) 13 (jiI z0), jAI G (ad 2) 12 (jiI z0), jAI G (ad 3) 12 (jiI z0)]) 4 49 := by
  refine cvi_intro (own := RX2) [some (.ref b), some (.ref p)] (by decide) rfl rfl rfl rfl (Nat.le_of_ble_eq_true rfl) (fun X C Hi hret => ?_)
  refine jw_aload_0 (pc := 0) C dX2_init_0 ?_
  refine jw_objInit (pc := 1) C kml_X2_3 (Nat.le_of_ble_eq_true rfl) (Nat.le_of_ble_eq_true rfl) dX2_init_1 rfl ?_
  refine jw_aload_0 (pc := 4) C dX2_init_4 ?_
  refine jw_bipush (pc := 5) C dX2_init_5 (by decide) ?_
  refine jw_newaI (pc := 7) C 12 (by decide) ⟨Nat.le_of_ble_eq_true rfl, Nat.le_of_ble_eq_true rfl⟩ dX2_init_7 (fun q0 => ?_)
  refine jw_eqw [(b, .inr (2, [.null, .null, .null, .null, .null, .int (iI 0)])), jAI G q0 12 (jiI (fun _ => 0))] rfl ?_
  refine jw_putF (pc := 9) (ty := (.array .int)) jU_X2 tyX2_ok nmX2 rfl 1 (by decide) rfl rfl rfl (by decide +kernel) C Hi kfl_X2_9 0 rfl rfl rfl (Nat.le_of_ble_eq_true rfl) dX2_init_9 ?_
  refine jw_eqw [(b, .inr (2, [.null, .ref q0, .null, .null, .null, .int (iI 0)])), jAI G q0 12 (jiI (fun _ => 0))] rfl ?_
  refine jw_aload_0 (pc := 12) C dX2_init_12 ?_
  refine jw_bipush (pc := 13) C dX2_init_13 (by decide) ?_
  refine jw_newaI (pc := 15) C 13 (by decide) ⟨Nat.le_of_ble_eq_true rfl, Nat.le_of_ble_eq_true rfl⟩ dX2_init_15 (fun q1 => ?_)
  refine jw_eqw [(b, .inr (2, [.null, .ref q0, .null, .null, .null, .int (iI 0)])), jAI G q0 12 (jiI (fun _ => 0)), jAI G q1 13 (jiI (fun _ => 0))] rfl ?_
  refine jw_putF (pc := 17) (ty := (.array .int)) jU_X2 tyX2_ok nmX2 rfl 2 (by decide) rfl rfl rfl (by decide +kernel) C Hi kfl_X2_15 0 rfl rfl rfl (Nat.le_of_ble_eq_true rfl) dX2_init_17 ?_
  refine jw_eqw [(b, .inr (2, [.null, .ref q0, .ref q1, .null, .null, .int (iI 0)])), jAI G q0 12 (jiI (fun _ => 0)), jAI G q1 13 (jiI (fun _ => 0))] rfl ?_
  refine jw_aload_0 (pc := 20) C dX2_init_20 ?_
  refine jw_bipush (pc := 21) C dX2_init_21 (by decide) ?_
  refine jw_newaI (pc := 23) C 12 (by decide) ⟨Nat.le_of_ble_eq_true rfl, Nat.le_of_ble_eq_true rfl⟩ dX2_init_23 (fun q2 => ?_)
  refine jw_eqw [(b, .inr (2, [.null, .ref q0, .ref q1, .null, .null, .int (iI 0)])), jAI G q0 12 (jiI (fun _ => 0)), jAI G q1 13 (jiI (fun _ => 0)), jAI G q2 12 (jiI (fun _ => 0))] rfl ?_
  refine jw_putF (pc := 25) (ty := (.array .int)) jU_X2 tyX2_ok nmX2 rfl 3 (by decide) rfl rfl rfl (by decide +kernel) C Hi kfl_X2_18 0 rfl rfl rfl (Nat.le_of_ble_eq_true rfl) dX2_init_25 ?_
  refine jw_eqw [(b, .inr (2, [.null, .ref q0, .ref q1, .ref q2, .null, .int (iI 0)])), jAI G q0 12 (jiI (fun _ => 0)), jAI G q1 13 (jiI (fun _ => 0)), jAI G q2 12 (jiI (fun _ => 0))] rfl ?_
  refine jw_aload_0 (pc := 28) C dX2_init_28 ?_
  refine jw_bipush (pc := 29) C dX2_init_29 (by decide) ?_
  refine jw_newaI (pc := 31) C 12 (by decide) ⟨Nat.le_of_ble_eq_true rfl, Nat.le_of_ble_eq_true rfl⟩ dX2_init_31 (fun q3 => ?_)
  refine jw_eqw [(b, .inr (2, [.null, .ref q0, .ref q1, .ref q2, .null, .int (iI 0)])), jAI G q0 12 (jiI (fun _ => 0)), jAI G q1 13 (jiI (fun _ => 0)), jAI G q2 12 (jiI (fun _ => 0)), jAI G q3 12 (jiI (fun _ => 0))] rfl ?_
  refine jw_putF (pc := 33) (ty := (.array .int)) jU_X2 tyX2_ok nmX2 rfl 4 (by decide) rfl rfl rfl (by decide +kernel) C Hi kfl_X2_21 0 rfl rfl rfl (Nat.le_of_ble_eq_true rfl) dX2_init_33 ?_
  refine jw_eqw [(b, .inr (2, [.null, .ref q0, .ref q1, .ref q2, .ref q3, .int (iI 0)])), jAI G q0 12 (jiI (fun _ => 0)), jAI G q1 13 (jiI (fun _ => 0)), jAI G q2 12 (jiI (fun _ => 0)), jAI G q3 12 (jiI (fun _ => 0))] rfl ?_
  refine jw_aload_0 (pc := 36) C dX2_init_36 ?_
  refine jw_aload_1 (pc := 37) C dX2_init_37 ?_
  refine jw_putF (pc := 38) (ty := (.object "MatchingService$Pool")) jU_X2 tyX2_ok nmX2 rfl 0 (by decide) rfl rfl rfl (by decide +kernel) C Hi kfl_X2_24 0 rfl rfl rfl (Nat.le_of_ble_eq_true rfl) dX2_init_38 ?_
  refine jw_eqw [(b, .inr (2, [.ref p, .ref q0, .ref q1, .ref q2, .ref q3, .int (iI 0)])), jAI G q0 12 (jiI (fun _ => 0)), jAI G q1 13 (jiI (fun _ => 0)), jAI G q2 12 (jiI (fun _ => 0)), jAI G q3 12 (jiI (fun _ => 0))] rfl ?_
  exact hret _ _ (fun i => ([q0, q1, q2, q3] : List Nat).getD i 0) dX2_init_41 trivial
set_option maxRecDepth 100000 in
set_option maxHeartbeats 4000000 in
theorem c_X3_init (G : jG) (b p r g : Nat) : CV G yX3_init cX3_init 4 (jrm 1 20 1 40) [.ref b, .ref p, .ref r, .ref g] [(b, .inr (3, [.null, .null, .null, .null]))] (fun _ : (Nat → Nat) => True) (fun ad : Nat → Nat => [(b, .inr (3, [.ref p, .ref r, .ref g, .ref (ad 0)])), jAZ G (ad 0) 40 (jbF (fun _ => false))]) 1 40 := by
  refine cvi_intro (own := RX3) [some (.ref b), some (.ref p), some (.ref r), some (.ref g)] (by decide) rfl rfl rfl rfl (Nat.le_of_ble_eq_true rfl) (fun X C Hi hret => ?_)
  refine jw_aload_0 (pc := 0) C dX3_init_0 ?_
  refine jw_objInit (pc := 1) C kml_X3_3 (Nat.le_of_ble_eq_true rfl) (Nat.le_of_ble_eq_true rfl) dX3_init_1 rfl ?_
  refine jw_aload_0 (pc := 4) C dX3_init_4 ?_
  refine jw_bipush (pc := 5) C dX3_init_5 (by decide) ?_
  refine jw_newaZ (pc := 7) C 40 (by decide) ⟨Nat.le_of_ble_eq_true rfl, Nat.le_of_ble_eq_true rfl⟩ dX3_init_7 (fun q0 => ?_)
  refine jw_eqw [(b, .inr (3, [.null, .null, .null, .null])), jAZ G q0 40 (jbF (fun _ => false))] rfl ?_
  refine jw_putF (pc := 9) (ty := (.array .boolean)) jU_X3 tyX3_ok nmX3 rfl 3 (by decide) rfl rfl rfl (by decide +kernel) C Hi kfl_X3_9 0 rfl rfl rfl (Nat.le_of_ble_eq_true rfl) dX3_init_9 ?_
  refine jw_eqw [(b, .inr (3, [.null, .null, .null, .ref q0])), jAZ G q0 40 (jbF (fun _ => false))] rfl ?_
  refine jw_aload_0 (pc := 12) C dX3_init_12 ?_
  refine jw_aload_1 (pc := 13) C dX3_init_13 ?_
  refine jw_putF (pc := 14) (ty := (.object "MatchingService$Pool")) jU_X3 tyX3_ok nmX3 rfl 0 (by decide) rfl rfl rfl (by decide +kernel) C Hi kfl_X3_15 0 rfl rfl rfl (Nat.le_of_ble_eq_true rfl) dX3_init_14 ?_
  refine jw_eqw [(b, .inr (3, [.ref p, .null, .null, .ref q0])), jAZ G q0 40 (jbF (fun _ => false))] rfl ?_
  refine jw_aload_0 (pc := 17) C dX3_init_17 ?_
  refine jw_aload_2 (pc := 18) C dX3_init_18 ?_
  refine jw_putF (pc := 19) (ty := (.object "MatchingService$PathSearch")) jU_X3 tyX3_ok nmX3 rfl 1 (by decide) rfl rfl rfl (by decide +kernel) C Hi kfl_X3_19 0 rfl rfl rfl (Nat.le_of_ble_eq_true rfl) dX3_init_19 ?_
  refine jw_eqw [(b, .inr (3, [.ref p, .ref r, .null, .ref q0])), jAZ G q0 40 (jbF (fun _ => false))] rfl ?_
  refine jw_aload_0 (pc := 22) C dX3_init_22 ?_
  refine jw_aload_3 (pc := 23) C dX3_init_23 ?_
  refine jw_putF (pc := 24) (ty := (.object "MatchingService$MoveLog")) jU_X3 tyX3_ok nmX3 rfl 2 (by decide) rfl rfl rfl (by decide +kernel) C Hi kfl_X3_23 0 rfl rfl rfl (Nat.le_of_ble_eq_true rfl) dX3_init_24 ?_
  refine jw_eqw [(b, .inr (3, [.ref p, .ref r, .ref g, .ref q0])), jAZ G q0 40 (jbF (fun _ => false))] rfl ?_
  exact hret _ _ (fun i => ([q0] : List Nat).getD i 0) dX3_init_27 trivial
set_option maxRecDepth 100000 in
set_option maxHeartbeats 4000000 in
theorem c_X0_init (G : jG) (b p : Nat) : CV G yX0_init cX0_init 2 (jrm 1 20 8 160) [.ref b, .ref p] [(b, .inr (0, [.null, .null, .null, .null, .null, .null, .int (iI 0), .null, .null, .null]))] (fun _ : (Nat → Nat) => True) (fun ad : Nat → Nat => [(b, .inr (0, [.ref p, .ref (ad 0), .ref (ad 1), .ref (ad 2), .ref (ad 3), .ref (ad 4), .int (iI 0), .ref (ad 5), .ref (ad 6), .ref (ad 7)])), jAI G (ad 0) 40 (jiI z0), jAI G (ad 1) 40 (jiI z0), jAI G (ad 2) 12 (jiI z0), jAI G (ad 3) 4 (jiI z0), jAI G (ad 4) 16 (jiI z0), jAZ G (ad 5) 16 (jbF (fun _ => false)), jAI G (ad 6) 16 (jiI z0), jAI G (ad 7) 16 (jiI z0)]) 8 160 := by
  refine cvi_intro (own := RX0) [some (.ref b), some (.ref p)] (by decide) rfl rfl rfl rfl (Nat.le_of_ble_eq_true rfl) (fun X C Hi hret => ?_)
  refine jw_aload_0 (pc := 0) C dX0_init_0 ?_
  refine jw_objInit (pc := 1) C kml_X0_3 (Nat.le_of_ble_eq_true rfl) (Nat.le_of_ble_eq_true rfl) dX0_init_1 rfl ?_
  refine jw_aload_0 (pc := 4) C dX0_init_4 ?_
  refine jw_bipush (pc := 5) C dX0_init_5 (by decide) ?_
  refine jw_newaI (pc := 7) C 40 (by decide) ⟨Nat.le_of_ble_eq_true rfl, Nat.le_of_ble_eq_true rfl⟩ dX0_init_7 (fun q0 => ?_)
  refine jw_eqw [(b, .inr (0, [.null, .null, .null, .null, .null, .null, .int (iI 0), .null, .null, .null])), jAI G q0 40 (jiI (fun _ => 0))] rfl ?_
  refine jw_putF (pc := 9) (ty := (.array .int)) jU_X0 tyX0_ok nmX0 rfl 1 (by decide) rfl rfl rfl (by decide +kernel) C Hi kfl_X0_9 0 rfl rfl rfl (Nat.le_of_ble_eq_true rfl) dX0_init_9 ?_
  refine jw_eqw [(b, .inr (0, [.null, .ref q0, .null, .null, .null, .null, .int (iI 0), .null, .null, .null])), jAI G q0 40 (jiI (fun _ => 0))] rfl ?_
  refine jw_aload_0 (pc := 12) C dX0_init_12 ?_
  refine jw_bipush (pc := 13) C dX0_init_13 (by decide) ?_
  refine jw_newaI (pc := 15) C 40 (by decide) ⟨Nat.le_of_ble_eq_true rfl, Nat.le_of_ble_eq_true rfl⟩ dX0_init_15 (fun q1 => ?_)
  refine jw_eqw [(b, .inr (0, [.null, .ref q0, .null, .null, .null, .null, .int (iI 0), .null, .null, .null])), jAI G q0 40 (jiI (fun _ => 0)), jAI G q1 40 (jiI (fun _ => 0))] rfl ?_
  refine jw_putF (pc := 17) (ty := (.array .int)) jU_X0 tyX0_ok nmX0 rfl 2 (by decide) rfl rfl rfl (by decide +kernel) C Hi kfl_X0_15 0 rfl rfl rfl (Nat.le_of_ble_eq_true rfl) dX0_init_17 ?_
  refine jw_eqw [(b, .inr (0, [.null, .ref q0, .ref q1, .null, .null, .null, .int (iI 0), .null, .null, .null])), jAI G q0 40 (jiI (fun _ => 0)), jAI G q1 40 (jiI (fun _ => 0))] rfl ?_
  refine jw_aload_0 (pc := 20) C dX0_init_20 ?_
  refine jw_bipush (pc := 21) C dX0_init_21 (by decide) ?_
  refine jw_newaI (pc := 23) C 12 (by decide) ⟨Nat.le_of_ble_eq_true rfl, Nat.le_of_ble_eq_true rfl⟩ dX0_init_23 (fun q2 => ?_)
  refine jw_eqw [(b, .inr (0, [.null, .ref q0, .ref q1, .null, .null, .null, .int (iI 0), .null, .null, .null])), jAI G q0 40 (jiI (fun _ => 0)), jAI G q1 40 (jiI (fun _ => 0)), jAI G q2 12 (jiI (fun _ => 0))] rfl ?_
  refine jw_putF (pc := 25) (ty := (.array .int)) jU_X0 tyX0_ok nmX0 rfl 3 (by decide) rfl rfl rfl (by decide +kernel) C Hi kfl_X0_18 0 rfl rfl rfl (Nat.le_of_ble_eq_true rfl) dX0_init_25 ?_
  refine jw_eqw [(b, .inr (0, [.null, .ref q0, .ref q1, .ref q2, .null, .null, .int (iI 0), .null, .null, .null])), jAI G q0 40 (jiI (fun _ => 0)), jAI G q1 40 (jiI (fun _ => 0)), jAI G q2 12 (jiI (fun _ => 0))] rfl ?_
  refine jw_aload_0 (pc := 28) C dX0_init_28 ?_
  refine jw_iconst (pc := 29) C dX0_init_29 ?_
  refine jw_newaI (pc := 30) C 4 (by decide) ⟨Nat.le_of_ble_eq_true rfl, Nat.le_of_ble_eq_true rfl⟩ dX0_init_30 (fun q3 => ?_)
  refine jw_eqw [(b, .inr (0, [.null, .ref q0, .ref q1, .ref q2, .null, .null, .int (iI 0), .null, .null, .null])), jAI G q0 40 (jiI (fun _ => 0)), jAI G q1 40 (jiI (fun _ => 0)), jAI G q2 12 (jiI (fun _ => 0)), jAI G q3 4 (jiI (fun _ => 0))] rfl ?_
  refine jw_putF (pc := 32) (ty := (.array .int)) jU_X0 tyX0_ok nmX0 rfl 4 (by decide) rfl rfl rfl (by decide +kernel) C Hi kfl_X0_21 0 rfl rfl rfl (Nat.le_of_ble_eq_true rfl) dX0_init_32 ?_
  refine jw_eqw [(b, .inr (0, [.null, .ref q0, .ref q1, .ref q2, .ref q3, .null, .int (iI 0), .null, .null, .null])), jAI G q0 40 (jiI (fun _ => 0)), jAI G q1 40 (jiI (fun _ => 0)), jAI G q2 12 (jiI (fun _ => 0)), jAI G q3 4 (jiI (fun _ => 0))] rfl ?_
  refine jw_aload_0 (pc := 35) C dX0_init_35 ?_
  refine jw_bipush (pc := 36) C dX0_init_36 (by decide) ?_
  refine jw_newaI (pc := 38) C 16 (by decide) ⟨Nat.le_of_ble_eq_true rfl, Nat.le_of_ble_eq_true rfl⟩ dX0_init_38 (fun q4 => ?_)
  refine jw_eqw [(b, .inr (0, [.null, .ref q0, .ref q1, .ref q2, .ref q3, .null, .int (iI 0), .null, .null, .null])), jAI G q0 40 (jiI (fun _ => 0)), jAI G q1 40 (jiI (fun _ => 0)), jAI G q2 12 (jiI (fun _ => 0)), jAI G q3 4 (jiI (fun _ => 0)), jAI G q4 16 (jiI (fun _ => 0))] rfl ?_
  refine jw_putF (pc := 40) (ty := (.array .int)) jU_X0 tyX0_ok nmX0 rfl 5 (by decide) rfl rfl rfl (by decide +kernel) C Hi kfl_X0_24 0 rfl rfl rfl (Nat.le_of_ble_eq_true rfl) dX0_init_40 ?_
  refine jw_eqw [(b, .inr (0, [.null, .ref q0, .ref q1, .ref q2, .ref q3, .ref q4, .int (iI 0), .null, .null, .null])), jAI G q0 40 (jiI (fun _ => 0)), jAI G q1 40 (jiI (fun _ => 0)), jAI G q2 12 (jiI (fun _ => 0)), jAI G q3 4 (jiI (fun _ => 0)), jAI G q4 16 (jiI (fun _ => 0))] rfl ?_
  refine jw_aload_0 (pc := 43) C dX0_init_43 ?_
  refine jw_bipush (pc := 44) C dX0_init_44 (by decide) ?_
  refine jw_newaZ (pc := 46) C 16 (by decide) ⟨Nat.le_of_ble_eq_true rfl, Nat.le_of_ble_eq_true rfl⟩ dX0_init_46 (fun q5 => ?_)
  refine jw_eqw [(b, .inr (0, [.null, .ref q0, .ref q1, .ref q2, .ref q3, .ref q4, .int (iI 0), .null, .null, .null])), jAI G q0 40 (jiI (fun _ => 0)), jAI G q1 40 (jiI (fun _ => 0)), jAI G q2 12 (jiI (fun _ => 0)), jAI G q3 4 (jiI (fun _ => 0)), jAI G q4 16 (jiI (fun _ => 0)), jAZ G q5 16 (jbF (fun _ => false))] rfl ?_
  refine jw_putF (pc := 48) (ty := (.array .boolean)) jU_X0 tyX0_ok nmX0 rfl 7 (by decide) rfl rfl rfl (by decide +kernel) C Hi kfl_X0_27 0 rfl rfl rfl (Nat.le_of_ble_eq_true rfl) dX0_init_48 ?_
  refine jw_eqw [(b, .inr (0, [.null, .ref q0, .ref q1, .ref q2, .ref q3, .ref q4, .int (iI 0), .ref q5, .null, .null])), jAI G q0 40 (jiI (fun _ => 0)), jAI G q1 40 (jiI (fun _ => 0)), jAI G q2 12 (jiI (fun _ => 0)), jAI G q3 4 (jiI (fun _ => 0)), jAI G q4 16 (jiI (fun _ => 0)), jAZ G q5 16 (jbF (fun _ => false))] rfl ?_
  refine jw_aload_0 (pc := 51) C dX0_init_51 ?_
  refine jw_bipush (pc := 52) C dX0_init_52 (by decide) ?_
  refine jw_newaI (pc := 54) C 16 (by decide) ⟨Nat.le_of_ble_eq_true rfl, Nat.le_of_ble_eq_true rfl⟩ dX0_init_54 (fun q6 => ?_)
  refine jw_eqw [(b, .inr (0, [.null, .ref q0, .ref q1, .ref q2, .ref q3, .ref q4, .int (iI 0), .ref q5, .null, .null])), jAI G q0 40 (jiI (fun _ => 0)), jAI G q1 40 (jiI (fun _ => 0)), jAI G q2 12 (jiI (fun _ => 0)), jAI G q3 4 (jiI (fun _ => 0)), jAI G q4 16 (jiI (fun _ => 0)), jAZ G q5 16 (jbF (fun _ => false)), jAI G q6 16 (jiI (fun _ => 0))] rfl ?_
  refine jw_putF (pc := 56) (ty := (.array .int)) jU_X0 tyX0_ok nmX0 rfl 8 (by decide) rfl rfl rfl (by decide +kernel) C Hi kfl_X0_31 0 rfl rfl rfl (Nat.le_of_ble_eq_true rfl) dX0_init_56 ?_
  refine jw_eqw [(b, .inr (0, [.null, .ref q0, .ref q1, .ref q2, .ref q3, .ref q4, .int (iI 0), .ref q5, .ref q6, .null])), jAI G q0 40 (jiI (fun _ => 0)), jAI G q1 40 (jiI (fun _ => 0)), jAI G q2 12 (jiI (fun _ => 0)), jAI G q3 4 (jiI (fun _ => 0)), jAI G q4 16 (jiI (fun _ => 0)), jAZ G q5 16 (jbF (fun _ => false)), jAI G q6 16 (jiI (fun _ => 0))] rfl ?_
  refine jw_aload_0 (pc := 59) C dX0_init_59 ?_
  refine jw_bipush (pc := 60) C dX0_init_60 (by decide) ?_
  refine jw_newaI (pc := 62) C 16 (by decide) ⟨Nat.le_of_ble_eq_true rfl, Nat.le_of_ble_eq_true rfl⟩ dX0_init_62 (fun q7 => ?_)
  refine jw_eqw [(b, .inr (0, [.null, .ref q0, .ref q1, .ref q2, .ref q3, .ref q4, .int (iI 0), .ref q5, .ref q6, .null])), jAI G q0 40 (jiI (fun _ => 0)), jAI G q1 40 (jiI (fun _ => 0)), jAI G q2 12 (jiI (fun _ => 0)), jAI G q3 4 (jiI (fun _ => 0)), jAI G q4 16 (jiI (fun _ => 0)), jAZ G q5 16 (jbF (fun _ => false)), jAI G q6 16 (jiI (fun _ => 0)), jAI G q7 16 (jiI (fun _ => 0))] rfl ?_
  refine jw_putF (pc := 64) (ty := (.array .int)) jU_X0 tyX0_ok nmX0 rfl 9 (by decide) rfl rfl rfl (by decide +kernel) C Hi kfl_X0_34 0 rfl rfl rfl (Nat.le_of_ble_eq_true rfl) dX0_init_64 ?_
  refine jw_eqw [(b, .inr (0, [.null, .ref q0, .ref q1, .ref q2, .ref q3, .ref q4, .int (iI 0), .ref q5, .ref q6, .ref q7])), jAI G q0 40 (jiI (fun _ => 0)), jAI G q1 40 (jiI (fun _ => 0)), jAI G q2 12 (jiI (fun _ => 0)), jAI G q3 4 (jiI (fun _ => 0)), jAI G q4 16 (jiI (fun _ => 0)), jAZ G q5 16 (jbF (fun _ => false)), jAI G q6 16 (jiI (fun _ => 0)), jAI G q7 16 (jiI (fun _ => 0))] rfl ?_
  refine jw_aload_0 (pc := 67) C dX0_init_67 ?_
  refine jw_aload_1 (pc := 68) C dX0_init_68 ?_
  refine jw_putF (pc := 69) (ty := (.object "MatchingService$Pool")) jU_X0 tyX0_ok nmX0 rfl 0 (by decide) rfl rfl rfl (by decide +kernel) C Hi kfl_X0_37 0 rfl rfl rfl (Nat.le_of_ble_eq_true rfl) dX0_init_69 ?_
  refine jw_eqw [(b, .inr (0, [.ref p, .ref q0, .ref q1, .ref q2, .ref q3, .ref q4, .int (iI 0), .ref q5, .ref q6, .ref q7])), jAI G q0 40 (jiI (fun _ => 0)), jAI G q1 40 (jiI (fun _ => 0)), jAI G q2 12 (jiI (fun _ => 0)), jAI G q3 4 (jiI (fun _ => 0)), jAI G q4 16 (jiI (fun _ => 0)), jAZ G q5 16 (jbF (fun _ => false)), jAI G q6 16 (jiI (fun _ => 0)), jAI G q7 16 (jiI (fun _ => 0))] rfl ?_
  exact hret _ _ (fun i => ([q0, q1, q2, q3, q4, q5, q6, q7] : List Nat).getD i 0) dX0_init_72 trivial
set_option maxRecDepth 100000 in
set_option maxHeartbeats 4000000 in
theorem c_X4_init (G : jG) (b : Nat) : CV G yX4_init cX4_init 2 (jrm 1 20 9 196) [.ref b] [(b, .inr (4, [.int (iI 0), .null, .null, .null, .null, .null, .int (iI 0), .null, .null, .null, .null, .int (iI 0), .int (iI 0)]))] (fun _ : (Nat → Nat) => True) (fun ad : Nat → Nat => [(b, .inr (4, [.int (iI 0), .ref (ad 0), .ref (ad 1), .ref (ad 2), .ref (ad 3), .ref (ad 4), .int (iI 0), .ref (ad 5), .ref (ad 6), .ref (ad 7), .ref (ad 8), .int (iI 2), .int (iI 3)])), jAI G (ad 0) 12 (jiI z0), jAI G (ad 1) 12 (jiI z0), jAI G (ad 2) 4 (jiI (fl 40 4)), jAI G (ad 3) 4 (jiI (fl 1 4)), jAI G (ad 4) 4 (jiI z0), jAI G (ad 5) 40 (jiI z0), jAI G (ad 6) 40 (jiI z0), jAI G (ad 7) 40 (jiI z0), jAI G (ad 8) 40 (jiI z0)]) 9 196 := by
  refine cvi_intro (own := RX4) [some (.ref b), none] (by decide) rfl rfl rfl rfl (Nat.le_of_ble_eq_true rfl) (fun X C Hi hret => ?_)
  refine jw_aload_0 (pc := 0) C dX4_init_0 ?_
  refine jw_objInit (pc := 1) C kml_X4_3 (Nat.le_of_ble_eq_true rfl) (Nat.le_of_ble_eq_true rfl) dX4_init_1 rfl ?_
  refine jw_aload_0 (pc := 4) C dX4_init_4 ?_
  refine jw_bipush (pc := 5) C dX4_init_5 (by decide) ?_
  refine jw_newaI (pc := 7) C 12 (by decide) ⟨Nat.le_of_ble_eq_true rfl, Nat.le_of_ble_eq_true rfl⟩ dX4_init_7 (fun q0 => ?_)
  refine jw_eqw [(b, .inr (4, [.int (iI 0), .null, .null, .null, .null, .null, .int (iI 0), .null, .null, .null, .null, .int (iI 0), .int (iI 0)])), jAI G q0 12 (jiI (fun _ => 0))] rfl ?_
  refine jw_putF (pc := 9) (ty := (.array .int)) jU_X4 tyX4_ok nmX4 rfl 1 (by decide) rfl rfl rfl (by decide +kernel) C Hi kfl_X4_9 0 rfl rfl rfl (Nat.le_of_ble_eq_true rfl) dX4_init_9 ?_
  refine jw_eqw [(b, .inr (4, [.int (iI 0), .ref q0, .null, .null, .null, .null, .int (iI 0), .null, .null, .null, .null, .int (iI 0), .int (iI 0)])), jAI G q0 12 (jiI (fun _ => 0))] rfl ?_
  refine jw_aload_0 (pc := 12) C dX4_init_12 ?_
  refine jw_bipush (pc := 13) C dX4_init_13 (by decide) ?_
  refine jw_newaI (pc := 15) C 12 (by decide) ⟨Nat.le_of_ble_eq_true rfl, Nat.le_of_ble_eq_true rfl⟩ dX4_init_15 (fun q1 => ?_)
  refine jw_eqw [(b, .inr (4, [.int (iI 0), .ref q0, .null, .null, .null, .null, .int (iI 0), .null, .null, .null, .null, .int (iI 0), .int (iI 0)])), jAI G q0 12 (jiI (fun _ => 0)), jAI G q1 12 (jiI (fun _ => 0))] rfl ?_
  refine jw_putF (pc := 17) (ty := (.array .int)) jU_X4 tyX4_ok nmX4 rfl 2 (by decide) rfl rfl rfl (by decide +kernel) C Hi kfl_X4_15 0 rfl rfl rfl (Nat.le_of_ble_eq_true rfl) dX4_init_17 ?_
  refine jw_eqw [(b, .inr (4, [.int (iI 0), .ref q0, .ref q1, .null, .null, .null, .int (iI 0), .null, .null, .null, .null, .int (iI 0), .int (iI 0)])), jAI G q0 12 (jiI (fun _ => 0)), jAI G q1 12 (jiI (fun _ => 0))] rfl ?_
  refine jw_aload_0 (pc := 20) C dX4_init_20 ?_
  refine jw_iconst (pc := 21) C dX4_init_21 ?_
  refine jw_newaI (pc := 22) C 4 (by decide) ⟨Nat.le_of_ble_eq_true rfl, Nat.le_of_ble_eq_true rfl⟩ dX4_init_22 (fun q2 => ?_)
  refine jw_eqw [(b, .inr (4, [.int (iI 0), .ref q0, .ref q1, .null, .null, .null, .int (iI 0), .null, .null, .null, .null, .int (iI 0), .int (iI 0)])), jAI G q0 12 (jiI (fun _ => 0)), jAI G q1 12 (jiI (fun _ => 0)), jAI G q2 4 (jiI (fun _ => 0))] rfl ?_
  refine jw_putF (pc := 24) (ty := (.array .int)) jU_X4 tyX4_ok nmX4 rfl 3 (by decide) rfl rfl rfl (by decide +kernel) C Hi kfl_X4_18 0 rfl rfl rfl (Nat.le_of_ble_eq_true rfl) dX4_init_24 ?_
  refine jw_eqw [(b, .inr (4, [.int (iI 0), .ref q0, .ref q1, .ref q2, .null, .null, .int (iI 0), .null, .null, .null, .null, .int (iI 0), .int (iI 0)])), jAI G q0 12 (jiI (fun _ => 0)), jAI G q1 12 (jiI (fun _ => 0)), jAI G q2 4 (jiI (fun _ => 0))] rfl ?_
  refine jw_aload_0 (pc := 27) C dX4_init_27 ?_
  refine jw_iconst (pc := 28) C dX4_init_28 ?_
  refine jw_newaI (pc := 29) C 4 (by decide) ⟨Nat.le_of_ble_eq_true rfl, Nat.le_of_ble_eq_true rfl⟩ dX4_init_29 (fun q3 => ?_)
  refine jw_eqw [(b, .inr (4, [.int (iI 0), .ref q0, .ref q1, .ref q2, .null, .null, .int (iI 0), .null, .null, .null, .null, .int (iI 0), .int (iI 0)])), jAI G q0 12 (jiI (fun _ => 0)), jAI G q1 12 (jiI (fun _ => 0)), jAI G q2 4 (jiI (fun _ => 0)), jAI G q3 4 (jiI (fun _ => 0))] rfl ?_
  refine jw_putF (pc := 31) (ty := (.array .int)) jU_X4 tyX4_ok nmX4 rfl 4 (by decide) rfl rfl rfl (by decide +kernel) C Hi kfl_X4_21 0 rfl rfl rfl (Nat.le_of_ble_eq_true rfl) dX4_init_31 ?_
  refine jw_eqw [(b, .inr (4, [.int (iI 0), .ref q0, .ref q1, .ref q2, .ref q3, .null, .int (iI 0), .null, .null, .null, .null, .int (iI 0), .int (iI 0)])), jAI G q0 12 (jiI (fun _ => 0)), jAI G q1 12 (jiI (fun _ => 0)), jAI G q2 4 (jiI (fun _ => 0)), jAI G q3 4 (jiI (fun _ => 0))] rfl ?_
  refine jw_aload_0 (pc := 34) C dX4_init_34 ?_
  refine jw_iconst (pc := 35) C dX4_init_35 ?_
  refine jw_newaI (pc := 36) C 4 (by decide) ⟨Nat.le_of_ble_eq_true rfl, Nat.le_of_ble_eq_true rfl⟩ dX4_init_36 (fun q4 => ?_)
  refine jw_eqw [(b, .inr (4, [.int (iI 0), .ref q0, .ref q1, .ref q2, .ref q3, .null, .int (iI 0), .null, .null, .null, .null, .int (iI 0), .int (iI 0)])), jAI G q0 12 (jiI (fun _ => 0)), jAI G q1 12 (jiI (fun _ => 0)), jAI G q2 4 (jiI (fun _ => 0)), jAI G q3 4 (jiI (fun _ => 0)), jAI G q4 4 (jiI (fun _ => 0))] rfl ?_
  refine jw_putF (pc := 38) (ty := (.array .int)) jU_X4 tyX4_ok nmX4 rfl 5 (by decide) rfl rfl rfl (by decide +kernel) C Hi kfl_X4_24 0 rfl rfl rfl (Nat.le_of_ble_eq_true rfl) dX4_init_38 ?_
  refine jw_eqw [(b, .inr (4, [.int (iI 0), .ref q0, .ref q1, .ref q2, .ref q3, .ref q4, .int (iI 0), .null, .null, .null, .null, .int (iI 0), .int (iI 0)])), jAI G q0 12 (jiI (fun _ => 0)), jAI G q1 12 (jiI (fun _ => 0)), jAI G q2 4 (jiI (fun _ => 0)), jAI G q3 4 (jiI (fun _ => 0)), jAI G q4 4 (jiI (fun _ => 0))] rfl ?_
  refine jw_aload_0 (pc := 41) C dX4_init_41 ?_
  refine jw_bipush (pc := 42) C dX4_init_42 (by decide) ?_
  refine jw_newaI (pc := 44) C 40 (by decide) ⟨Nat.le_of_ble_eq_true rfl, Nat.le_of_ble_eq_true rfl⟩ dX4_init_44 (fun q5 => ?_)
  refine jw_eqw [(b, .inr (4, [.int (iI 0), .ref q0, .ref q1, .ref q2, .ref q3, .ref q4, .int (iI 0), .null, .null, .null, .null, .int (iI 0), .int (iI 0)])), jAI G q0 12 (jiI (fun _ => 0)), jAI G q1 12 (jiI (fun _ => 0)), jAI G q2 4 (jiI (fun _ => 0)), jAI G q3 4 (jiI (fun _ => 0)), jAI G q4 4 (jiI (fun _ => 0)), jAI G q5 40 (jiI (fun _ => 0))] rfl ?_
  refine jw_putF (pc := 46) (ty := (.array .int)) jU_X4 tyX4_ok nmX4 rfl 7 (by decide) rfl rfl rfl (by decide +kernel) C Hi kfl_X4_27 0 rfl rfl rfl (Nat.le_of_ble_eq_true rfl) dX4_init_46 ?_
  refine jw_eqw [(b, .inr (4, [.int (iI 0), .ref q0, .ref q1, .ref q2, .ref q3, .ref q4, .int (iI 0), .ref q5, .null, .null, .null, .int (iI 0), .int (iI 0)])), jAI G q0 12 (jiI (fun _ => 0)), jAI G q1 12 (jiI (fun _ => 0)), jAI G q2 4 (jiI (fun _ => 0)), jAI G q3 4 (jiI (fun _ => 0)), jAI G q4 4 (jiI (fun _ => 0)), jAI G q5 40 (jiI (fun _ => 0))] rfl ?_
  refine jw_aload_0 (pc := 49) C dX4_init_49 ?_
  refine jw_bipush (pc := 50) C dX4_init_50 (by decide) ?_
  refine jw_newaI (pc := 52) C 40 (by decide) ⟨Nat.le_of_ble_eq_true rfl, Nat.le_of_ble_eq_true rfl⟩ dX4_init_52 (fun q6 => ?_)
  refine jw_eqw [(b, .inr (4, [.int (iI 0), .ref q0, .ref q1, .ref q2, .ref q3, .ref q4, .int (iI 0), .ref q5, .null, .null, .null, .int (iI 0), .int (iI 0)])), jAI G q0 12 (jiI (fun _ => 0)), jAI G q1 12 (jiI (fun _ => 0)), jAI G q2 4 (jiI (fun _ => 0)), jAI G q3 4 (jiI (fun _ => 0)), jAI G q4 4 (jiI (fun _ => 0)), jAI G q5 40 (jiI (fun _ => 0)), jAI G q6 40 (jiI (fun _ => 0))] rfl ?_
  refine jw_putF (pc := 54) (ty := (.array .int)) jU_X4 tyX4_ok nmX4 rfl 8 (by decide) rfl rfl rfl (by decide +kernel) C Hi kfl_X4_30 0 rfl rfl rfl (Nat.le_of_ble_eq_true rfl) dX4_init_54 ?_
  refine jw_eqw [(b, .inr (4, [.int (iI 0), .ref q0, .ref q1, .ref q2, .ref q3, .ref q4, .int (iI 0), .ref q5, .ref q6, .null, .null, .int (iI 0), .int (iI 0)])), jAI G q0 12 (jiI (fun _ => 0)), jAI G q1 12 (jiI (fun _ => 0)), jAI G q2 4 (jiI (fun _ => 0)), jAI G q3 4 (jiI (fun _ => 0)), jAI G q4 4 (jiI (fun _ => 0)), jAI G q5 40 (jiI (fun _ => 0)), jAI G q6 40 (jiI (fun _ => 0))] rfl ?_
  refine jw_aload_0 (pc := 57) C dX4_init_57 ?_
  refine jw_bipush (pc := 58) C dX4_init_58 (by decide) ?_
  refine jw_newaI (pc := 60) C 40 (by decide) ⟨Nat.le_of_ble_eq_true rfl, Nat.le_of_ble_eq_true rfl⟩ dX4_init_60 (fun q7 => ?_)
  refine jw_eqw [(b, .inr (4, [.int (iI 0), .ref q0, .ref q1, .ref q2, .ref q3, .ref q4, .int (iI 0), .ref q5, .ref q6, .null, .null, .int (iI 0), .int (iI 0)])), jAI G q0 12 (jiI (fun _ => 0)), jAI G q1 12 (jiI (fun _ => 0)), jAI G q2 4 (jiI (fun _ => 0)), jAI G q3 4 (jiI (fun _ => 0)), jAI G q4 4 (jiI (fun _ => 0)), jAI G q5 40 (jiI (fun _ => 0)), jAI G q6 40 (jiI (fun _ => 0)), jAI G q7 40 (jiI (fun _ => 0))] rfl ?_
  refine jw_putF (pc := 62) (ty := (.array .int)) jU_X4 tyX4_ok nmX4 rfl 9 (by decide) rfl rfl rfl (by decide +kernel) C Hi kfl_X4_33 0 rfl rfl rfl (Nat.le_of_ble_eq_true rfl) dX4_init_62 ?_
  refine jw_eqw [(b, .inr (4, [.int (iI 0), .ref q0, .ref q1, .ref q2, .ref q3, .ref q4, .int (iI 0), .ref q5, .ref q6, .ref q7, .null, .int (iI 0), .int (iI 0)])), jAI G q0 12 (jiI (fun _ => 0)), jAI G q1 12 (jiI (fun _ => 0)), jAI G q2 4 (jiI (fun _ => 0)), jAI G q3 4 (jiI (fun _ => 0)), jAI G q4 4 (jiI (fun _ => 0)), jAI G q5 40 (jiI (fun _ => 0)), jAI G q6 40 (jiI (fun _ => 0)), jAI G q7 40 (jiI (fun _ => 0))] rfl ?_
  refine jw_aload_0 (pc := 65) C dX4_init_65 ?_
  refine jw_bipush (pc := 66) C dX4_init_66 (by decide) ?_
  refine jw_newaI (pc := 68) C 40 (by decide) ⟨Nat.le_of_ble_eq_true rfl, Nat.le_of_ble_eq_true rfl⟩ dX4_init_68 (fun q8 => ?_)
  refine jw_eqw [(b, .inr (4, [.int (iI 0), .ref q0, .ref q1, .ref q2, .ref q3, .ref q4, .int (iI 0), .ref q5, .ref q6, .ref q7, .null, .int (iI 0), .int (iI 0)])), jAI G q0 12 (jiI (fun _ => 0)), jAI G q1 12 (jiI (fun _ => 0)), jAI G q2 4 (jiI (fun _ => 0)), jAI G q3 4 (jiI (fun _ => 0)), jAI G q4 4 (jiI (fun _ => 0)), jAI G q5 40 (jiI (fun _ => 0)), jAI G q6 40 (jiI (fun _ => 0)), jAI G q7 40 (jiI (fun _ => 0)), jAI G q8 40 (jiI (fun _ => 0))] rfl ?_
  refine jw_putF (pc := 70) (ty := (.array .int)) jU_X4 tyX4_ok nmX4 rfl 10 (by decide) rfl rfl rfl (by decide +kernel) C Hi kfl_X4_36 0 rfl rfl rfl (Nat.le_of_ble_eq_true rfl) dX4_init_70 ?_
  refine jw_eqw [(b, .inr (4, [.int (iI 0), .ref q0, .ref q1, .ref q2, .ref q3, .ref q4, .int (iI 0), .ref q5, .ref q6, .ref q7, .ref q8, .int (iI 0), .int (iI 0)])), jAI G q0 12 (jiI (fun _ => 0)), jAI G q1 12 (jiI (fun _ => 0)), jAI G q2 4 (jiI (fun _ => 0)), jAI G q3 4 (jiI (fun _ => 0)), jAI G q4 4 (jiI (fun _ => 0)), jAI G q5 40 (jiI (fun _ => 0)), jAI G q6 40 (jiI (fun _ => 0)), jAI G q7 40 (jiI (fun _ => 0)), jAI G q8 40 (jiI (fun _ => 0))] rfl ?_
  refine jw_aload_0 (pc := 73) C dX4_init_73 ?_
  refine jw_iconst (pc := 74) C dX4_init_74 ?_
  refine fp_X4_39 (pc := 75) C 0 rfl (Nat.le_of_ble_eq_true rfl) dX4_init_75 ?_
  refine jw_eqw [(b, .inr (4, [.int (iI 0), .ref q0, .ref q1, .ref q2, .ref q3, .ref q4, .int (iI 0), .ref q5, .ref q6, .ref q7, .ref q8, .int (iI 2), .int (iI 0)])), jAI G q0 12 (jiI (fun _ => 0)), jAI G q1 12 (jiI (fun _ => 0)), jAI G q2 4 (jiI (fun _ => 0)), jAI G q3 4 (jiI (fun _ => 0)), jAI G q4 4 (jiI (fun _ => 0)), jAI G q5 40 (jiI (fun _ => 0)), jAI G q6 40 (jiI (fun _ => 0)), jAI G q7 40 (jiI (fun _ => 0)), jAI G q8 40 (jiI (fun _ => 0))] rfl ?_
  refine jw_aload_0 (pc := 78) C dX4_init_78 ?_
  refine jw_iconst (pc := 79) C dX4_init_79 ?_
  refine fp_X4_43 (pc := 80) C 0 rfl (Nat.le_of_ble_eq_true rfl) dX4_init_80 ?_
  refine jw_eqw [(b, .inr (4, [.int (iI 0), .ref q0, .ref q1, .ref q2, .ref q3, .ref q4, .int (iI 0), .ref q5, .ref q6, .ref q7, .ref q8, .int (iI 2), .int (iI 3)])), jAI G q0 12 (jiI (fun _ => 0)), jAI G q1 12 (jiI (fun _ => 0)), jAI G q2 4 (jiI (fun _ => 0)), jAI G q3 4 (jiI (fun _ => 0)), jAI G q4 4 (jiI (fun _ => 0)), jAI G q5 40 (jiI (fun _ => 0)), jAI G q6 40 (jiI (fun _ => 0)), jAI G q7 40 (jiI (fun _ => 0)), jAI G q8 40 (jiI (fun _ => 0))] rfl ?_
  refine jw_iconst (pc := 83) C dX4_init_83 ?_
  refine jw_istore_1 (pc := 84) C dX4_init_84 rfl ?_
  have K : ∀ (N : Nat) (i : Nat), i ≤ 4 → 4 - i < N → JW G X 9 196 [(b, .inr (4, [.int (iI 0), .ref (q0), .ref (q1), .ref (q2), .ref (q3), .ref (q4), .int (iI 0), .ref (q5), .ref (q6), .ref (q7), .ref (q8), .int (iI 2), .int (iI 3)])), jAI G (q0) 12 (jiI z0), jAI G (q1) 12 (jiI z0), jAI G (q2) 4 (jiI (fl 40 i)), jAI G (q3) 4 (jiI (fl 1 i)), jAI G (q4) 4 (jiI z0), jAI G (q5) 40 (jiI z0), jAI G (q6) 40 (jiI z0), jAI G (q7) 40 (jiI z0), jAI G (q8) 40 (jiI z0)] 85 [some (.ref b), some (.int (iI (i : Int)))] [] := by
    intro N
    induction N with
    | zero => intro i hi hm; exact absurd hm (Nat.not_lt_zero _)
    | succ N ih =>
      intro i hi hm
      refine jw_iload_1 (pc := 85) C dX4_init_85 ?_
      refine jw_iconst (pc := 86) C dX4_init_86 ?_
      refine jw_icmp_ge (pc := 87) (tgt := 111) C dX4_init_87 (by decide) ⟨by omega, by omega⟩ ⟨by omega, by omega⟩ (fun c => ?_) (fun c => ?_)
      · obtain rfl : i = 4 := by omega
        exact hret _ _ (fun i => ([q0, q1, q2, q3, q4, q5, q6, q7, q8] : List Nat).getD i 0) dX4_init_111 trivial
      · refine jw_aload_0 (pc := 90) C dX4_init_90 ?_
        refine fg_X4_18 (pc := 91) C 0 rfl rfl dX4_init_91 ?_
        refine jw_iload_1 (pc := 94) C dX4_init_94 ?_
        refine jw_bipush (pc := 95) C dX4_init_95 (by decide) ?_
        refine jw_iast (pc := 97) C 3 rfl i rfl (by omega) (by decide) dX4_init_97 ?_
        refine jw_aload_0 (pc := 98) C dX4_init_98 ?_
        refine fg_X4_21 (pc := 99) C 0 rfl rfl dX4_init_99 ?_
        refine jw_iload_1 (pc := 102) C dX4_init_102 ?_
        refine jw_iconst (pc := 103) C dX4_init_103 ?_
        refine jw_iast (pc := 104) C 4 rfl i rfl (by omega) (by decide) dX4_init_104 ?_
        refine jw_iinc_1 (pc := 105) C dX4_init_105 rfl ?_
        refine jw_goto (pc := 108) (tgt := 85) C dX4_init_108 (by decide) ?_
        have K2 := ih (i + 1) (by omega) (by omega)
        rw [← fl_up, ← fl_up] at K2
        exact K2
  have K3 := K 5 0 (by omega) (by omega)
  rw [fl_0, fl_0] at K3
  exact K3
/-- the first states -/
def sP0 : QP := (0, z0, z0, fl 40 4, fl 1 4, z0, 0, z0, jiI z0, z0, z0, 2, 3)
def sL0 : QL := (z0, z0, 0)
def sA0 : QA := (jiI z0, jiI z0, z0, z0, 0)
def sT0 : Nat → Bool := fun _ => false
def sF0 : QF := (z0, jiI z0, z0, z0, z0, 0, sT0, z0, z0)
def u4 (v : Int) : Nat → Int := updf (updf (updf (updf z0 0 v) 1 v) 2 v) 3 v
def sR0 : QR := (0, 0, z0, u4 40, u4 1, 0, z0, jiI z0, z0, z0, z0, 2, 3, 0, z0, z0, z0, sT0, z0, z0)
set_option maxRecDepth 100000 in
set_option maxHeartbeats 4000000 in
theorem c_X5_init (G : jG) (b : Nat) : CV G yX5_init cX5_init 1 (jrm 2 43 29 881) [.ref b] [(b, .inr (5, [.null, .null, .null, .null, .null]))] (fun ad : Nat → Nat => ad 0 = b) (fun ad : Nat → Nat => wC G ad sP0 sL0 sA0 sT0 sF0) 29 881 := by
  refine cvi_intro (own := RX5) [some (.ref b)] (by decide) rfl rfl rfl rfl (Nat.le_of_ble_eq_true rfl) (fun X C Hi hret => ?_)
  refine jw_aload_0 (pc := 0) C dX5_init_0 ?_
  refine jw_objInit (pc := 1) C kml_X5_1 (Nat.le_of_ble_eq_true rfl) (Nat.le_of_ble_eq_true rfl) dX5_init_1 rfl ?_
  refine jw_aload_0 (pc := 4) C dX5_init_4 ?_
  refine jw_new (pc := 5) (ci := 4) (fs := [.int (iI 0), .null, .null, .null, .null, .null, .int (iI 0), .null, .null, .null, .null, .int (iI 0), .int (iI 0)]) jU_X4 tyX4_ok rfl C kcl_X5_7 kin_X4 kini_X4 (by decide) ⟨Nat.le_of_ble_eq_true rfl, Nat.le_of_ble_eq_true rfl⟩ dX5_init_5 (fun oX4 => ?_)
  refine jw_eqw [(b, .inr (5, [.null, .null, .null, .null, .null])), (oX4, .inr (4, [.int (iI 0), .null, .null, .null, .null, .null, .int (iI 0), .null, .null, .null, .null, .int (iI 0), .int (iI 0)]))] rfl ?_
  refine jw_dup (pc := 8) C dX5_init_8 rfl ?_
  refine jw_sI (pc := 9) (wr := [(b, .inr (5, [.null, .null, .null, .null, .null]))]) C (c_X4_init G oX4) wi_X4_init kml_X5_9 [1] [0] rfl rfl rfl rfl (by decide) rfl rfl (Nat.le_of_ble_eq_true rfl) ⟨by decide, by decide⟩ ⟨Nat.le_of_ble_eq_true rfl, Nat.le_of_ble_eq_true rfl⟩ dX5_init_9 rfl (fun uX4 _ => ?_)
  refine jw_eqw [(b, .inr (5, [.null, .null, .null, .null, .null])), (oX4, .inr (4, [.int (iI 0), .ref (uX4 0), .ref (uX4 1), .ref (uX4 2), .ref (uX4 3), .ref (uX4 4), .int (iI 0), .ref (uX4 5), .ref (uX4 6), .ref (uX4 7), .ref (uX4 8), .int (iI 2), .int (iI 3)])), jAI G (uX4 0) 12 (jiI (fun _ => 0)), jAI G (uX4 1) 12 (jiI (fun _ => 0)), jAI G (uX4 2) 4 (jiI (fl 40 4)), jAI G (uX4 3) 4 (jiI (fl 1 4)), jAI G (uX4 4) 4 (jiI (fun _ => 0)), jAI G (uX4 5) 40 (jiI (fun _ => 0)), jAI G (uX4 6) 40 (jiI (fun _ => 0)), jAI G (uX4 7) 40 (jiI (fun _ => 0)), jAI G (uX4 8) 40 (jiI (fun _ => 0))] rfl ?_
  refine jw_putF (pc := 12) (ty := (.object "MatchingService$Pool")) jU_X5 tyX5_ok nmX5 rfl 0 (by decide) rfl rfl rfl (by decide +kernel) C Hi kfl_X5_10 0 rfl rfl rfl (Nat.le_of_ble_eq_true rfl) dX5_init_12 ?_
  refine jw_eqw [(b, .inr (5, [.ref oX4, .null, .null, .null, .null])), (oX4, .inr (4, [.int (iI 0), .ref (uX4 0), .ref (uX4 1), .ref (uX4 2), .ref (uX4 3), .ref (uX4 4), .int (iI 0), .ref (uX4 5), .ref (uX4 6), .ref (uX4 7), .ref (uX4 8), .int (iI 2), .int (iI 3)])), jAI G (uX4 0) 12 (jiI (fun _ => 0)), jAI G (uX4 1) 12 (jiI (fun _ => 0)), jAI G (uX4 2) 4 (jiI (fl 40 4)), jAI G (uX4 3) 4 (jiI (fl 1 4)), jAI G (uX4 4) 4 (jiI (fun _ => 0)), jAI G (uX4 5) 40 (jiI (fun _ => 0)), jAI G (uX4 6) 40 (jiI (fun _ => 0)), jAI G (uX4 7) 40 (jiI (fun _ => 0)), jAI G (uX4 8) 40 (jiI (fun _ => 0))] rfl ?_
  refine jw_aload_0 (pc := 15) C dX5_init_15 ?_
  refine jw_new (pc := 16) (ci := 1) (fs := [.null, .null, .int (iI 0)]) jU_X1 tyX1_ok rfl C kcl_X5_16 kin_X1 kini_X1 (by decide) ⟨Nat.le_of_ble_eq_true rfl, Nat.le_of_ble_eq_true rfl⟩ dX5_init_16 (fun oX1 => ?_)
  refine jw_eqw [(b, .inr (5, [.ref oX4, .null, .null, .null, .null])), (oX4, .inr (4, [.int (iI 0), .ref (uX4 0), .ref (uX4 1), .ref (uX4 2), .ref (uX4 3), .ref (uX4 4), .int (iI 0), .ref (uX4 5), .ref (uX4 6), .ref (uX4 7), .ref (uX4 8), .int (iI 2), .int (iI 3)])), jAI G (uX4 0) 12 (jiI (fun _ => 0)), jAI G (uX4 1) 12 (jiI (fun _ => 0)), jAI G (uX4 2) 4 (jiI (fl 40 4)), jAI G (uX4 3) 4 (jiI (fl 1 4)), jAI G (uX4 4) 4 (jiI (fun _ => 0)), jAI G (uX4 5) 40 (jiI (fun _ => 0)), jAI G (uX4 6) 40 (jiI (fun _ => 0)), jAI G (uX4 7) 40 (jiI (fun _ => 0)), jAI G (uX4 8) 40 (jiI (fun _ => 0)), (oX1, .inr (1, [.null, .null, .int (iI 0)]))] rfl ?_
  refine jw_dup (pc := 19) C dX5_init_19 rfl ?_
  refine jw_sIN (pc := 20) (wr := [(b, .inr (5, [.ref oX4, .null, .null, .null, .null])), (oX4, .inr (4, [.int (iI 0), .ref (uX4 0), .ref (uX4 1), .ref (uX4 2), .ref (uX4 3), .ref (uX4 4), .int (iI 0), .ref (uX4 5), .ref (uX4 6), .ref (uX4 7), .ref (uX4 8), .int (iI 2), .int (iI 3)])), jAI G (uX4 0) 12 (jiI (fun _ => 0)), jAI G (uX4 1) 12 (jiI (fun _ => 0)), jAI G (uX4 2) 4 (jiI (fl 40 4)), jAI G (uX4 3) 4 (jiI (fl 1 4)), jAI G (uX4 4) 4 (jiI (fun _ => 0)), jAI G (uX4 5) 40 (jiI (fun _ => 0)), jAI G (uX4 6) 40 (jiI (fun _ => 0)), jAI G (uX4 7) 40 (jiI (fun _ => 0)), jAI G (uX4 8) 40 (jiI (fun _ => 0))]) C (c_X1_init G oX1) wi_X1_init kmn_X5_18 [11] [0, 1, 2, 3, 4, 5, 6, 7, 8, 9, 10] rfl rfl rfl rfl (by decide) rfl rfl (Nat.le_of_ble_eq_true rfl) ⟨by decide, by decide⟩ ⟨Nat.le_of_ble_eq_true rfl, Nat.le_of_ble_eq_true rfl⟩ dX5_init_20 rfl (fun uX1 _ => ?_)
  refine jw_eqw [(b, .inr (5, [.ref oX4, .null, .null, .null, .null])), (oX4, .inr (4, [.int (iI 0), .ref (uX4 0), .ref (uX4 1), .ref (uX4 2), .ref (uX4 3), .ref (uX4 4), .int (iI 0), .ref (uX4 5), .ref (uX4 6), .ref (uX4 7), .ref (uX4 8), .int (iI 2), .int (iI 3)])), jAI G (uX4 0) 12 (jiI (fun _ => 0)), jAI G (uX4 1) 12 (jiI (fun _ => 0)), jAI G (uX4 2) 4 (jiI (fl 40 4)), jAI G (uX4 3) 4 (jiI (fl 1 4)), jAI G (uX4 4) 4 (jiI (fun _ => 0)), jAI G (uX4 5) 40 (jiI (fun _ => 0)), jAI G (uX4 6) 40 (jiI (fun _ => 0)), jAI G (uX4 7) 40 (jiI (fun _ => 0)), jAI G (uX4 8) 40 (jiI (fun _ => 0)), (oX1, .inr (1, [.ref (uX1 0), .ref (uX1 1), .int (iI 0)])), jAI G (uX1 0) 200 (jiI (fun _ => 0)), jAI G (uX1 1) 200 (jiI (fun _ => 0))] rfl ?_
  refine jw_putF (pc := 23) (ty := (.object "MatchingService$MoveLog")) jU_X5 tyX5_ok nmX5 rfl 1 (by decide) rfl rfl rfl (by decide +kernel) C Hi kfl_X5_19 0 rfl rfl rfl (Nat.le_of_ble_eq_true rfl) dX5_init_23 ?_
  refine jw_eqw [(b, .inr (5, [.ref oX4, .ref oX1, .null, .null, .null])), (oX4, .inr (4, [.int (iI 0), .ref (uX4 0), .ref (uX4 1), .ref (uX4 2), .ref (uX4 3), .ref (uX4 4), .int (iI 0), .ref (uX4 5), .ref (uX4 6), .ref (uX4 7), .ref (uX4 8), .int (iI 2), .int (iI 3)])), jAI G (uX4 0) 12 (jiI (fun _ => 0)), jAI G (uX4 1) 12 (jiI (fun _ => 0)), jAI G (uX4 2) 4 (jiI (fl 40 4)), jAI G (uX4 3) 4 (jiI (fl 1 4)), jAI G (uX4 4) 4 (jiI (fun _ => 0)), jAI G (uX4 5) 40 (jiI (fun _ => 0)), jAI G (uX4 6) 40 (jiI (fun _ => 0)), jAI G (uX4 7) 40 (jiI (fun _ => 0)), jAI G (uX4 8) 40 (jiI (fun _ => 0)), (oX1, .inr (1, [.ref (uX1 0), .ref (uX1 1), .int (iI 0)])), jAI G (uX1 0) 200 (jiI (fun _ => 0)), jAI G (uX1 1) 200 (jiI (fun _ => 0))] rfl ?_
  refine jw_aload_0 (pc := 26) C dX5_init_26 ?_
  refine jw_new (pc := 27) (ci := 2) (fs := [.null, .null, .null, .null, .null, .int (iI 0)]) jU_X2 tyX2_ok rfl C kcl_X5_23 kin_X2 kini_X2 (by decide) ⟨Nat.le_of_ble_eq_true rfl, Nat.le_of_ble_eq_true rfl⟩ dX5_init_27 (fun oX2 => ?_)
  refine jw_eqw [(b, .inr (5, [.ref oX4, .ref oX1, .null, .null, .null])), (oX4, .inr (4, [.int (iI 0), .ref (uX4 0), .ref (uX4 1), .ref (uX4 2), .ref (uX4 3), .ref (uX4 4), .int (iI 0), .ref (uX4 5), .ref (uX4 6), .ref (uX4 7), .ref (uX4 8), .int (iI 2), .int (iI 3)])), jAI G (uX4 0) 12 (jiI (fun _ => 0)), jAI G (uX4 1) 12 (jiI (fun _ => 0)), jAI G (uX4 2) 4 (jiI (fl 40 4)), jAI G (uX4 3) 4 (jiI (fl 1 4)), jAI G (uX4 4) 4 (jiI (fun _ => 0)), jAI G (uX4 5) 40 (jiI (fun _ => 0)), jAI G (uX4 6) 40 (jiI (fun _ => 0)), jAI G (uX4 7) 40 (jiI (fun _ => 0)), jAI G (uX4 8) 40 (jiI (fun _ => 0)), (oX1, .inr (1, [.ref (uX1 0), .ref (uX1 1), .int (iI 0)])), jAI G (uX1 0) 200 (jiI (fun _ => 0)), jAI G (uX1 1) 200 (jiI (fun _ => 0)), (oX2, .inr (2, [.null, .null, .null, .null, .null, .int (iI 0)]))] rfl ?_
  refine jw_dup (pc := 30) C dX5_init_30 rfl ?_
  refine jw_aload_0 (pc := 31) C dX5_init_31 ?_
  refine fg_X5_10 (pc := 32) C 0 rfl rfl dX5_init_32 ?_
  refine jw_sI (pc := 35) (wr := [(b, .inr (5, [.ref oX4, .ref oX1, .null, .null, .null])), (oX4, .inr (4, [.int (iI 0), .ref (uX4 0), .ref (uX4 1), .ref (uX4 2), .ref (uX4 3), .ref (uX4 4), .int (iI 0), .ref (uX4 5), .ref (uX4 6), .ref (uX4 7), .ref (uX4 8), .int (iI 2), .int (iI 3)])), jAI G (uX4 0) 12 (jiI (fun _ => 0)), jAI G (uX4 1) 12 (jiI (fun _ => 0)), jAI G (uX4 2) 4 (jiI (fl 40 4)), jAI G (uX4 3) 4 (jiI (fl 1 4)), jAI G (uX4 4) 4 (jiI (fun _ => 0)), jAI G (uX4 5) 40 (jiI (fun _ => 0)), jAI G (uX4 6) 40 (jiI (fun _ => 0)), jAI G (uX4 7) 40 (jiI (fun _ => 0)), jAI G (uX4 8) 40 (jiI (fun _ => 0)), (oX1, .inr (1, [.ref (uX1 0), .ref (uX1 1), .int (iI 0)])), jAI G (uX1 0) 200 (jiI (fun _ => 0)), jAI G (uX1 1) 200 (jiI (fun _ => 0))]) C (c_X2_init G oX2 oX4) wi_X2_init kml_X5_25 [14] [0, 1, 2, 3, 4, 5, 6, 7, 8, 9, 10, 11, 12, 13] rfl rfl rfl rfl (by decide) rfl rfl (Nat.le_of_ble_eq_true rfl) ⟨by decide, by decide⟩ ⟨Nat.le_of_ble_eq_true rfl, Nat.le_of_ble_eq_true rfl⟩ dX5_init_35 rfl (fun uX2 _ => ?_)
  refine jw_eqw [(b, .inr (5, [.ref oX4, .ref oX1, .null, .null, .null])), (oX4, .inr (4, [.int (iI 0), .ref (uX4 0), .ref (uX4 1), .ref (uX4 2), .ref (uX4 3), .ref (uX4 4), .int (iI 0), .ref (uX4 5), .ref (uX4 6), .ref (uX4 7), .ref (uX4 8), .int (iI 2), .int (iI 3)])), jAI G (uX4 0) 12 (jiI (fun _ => 0)), jAI G (uX4 1) 12 (jiI (fun _ => 0)), jAI G (uX4 2) 4 (jiI (fl 40 4)), jAI G (uX4 3) 4 (jiI (fl 1 4)), jAI G (uX4 4) 4 (jiI (fun _ => 0)), jAI G (uX4 5) 40 (jiI (fun _ => 0)), jAI G (uX4 6) 40 (jiI (fun _ => 0)), jAI G (uX4 7) 40 (jiI (fun _ => 0)), jAI G (uX4 8) 40 (jiI (fun _ => 0)), (oX1, .inr (1, [.ref (uX1 0), .ref (uX1 1), .int (iI 0)])), jAI G (uX1 0) 200 (jiI (fun _ => 0)), jAI G (uX1 1) 200 (jiI (fun _ => 0)), (oX2, .inr (2, [.ref oX4, .ref (uX2 0), .ref (uX2 1), .ref (uX2 2), .ref (uX2 3), .int (iI 0)])), jAI G (uX2 0) 12 (jiI (fun _ => 0)), jAI G (uX2 1) 13 (jiI (fun _ => 0)), jAI G (uX2 2) 12 (jiI (fun _ => 0)), jAI G (uX2 3) 12 (jiI (fun _ => 0))] rfl ?_
  refine jw_putF (pc := 38) (ty := (.object "MatchingService$PathSearch")) jU_X5 tyX5_ok nmX5 rfl 2 (by decide) rfl rfl rfl (by decide +kernel) C Hi kfl_X5_28 0 rfl rfl rfl (Nat.le_of_ble_eq_true rfl) dX5_init_38 ?_
  refine jw_eqw [(b, .inr (5, [.ref oX4, .ref oX1, .ref oX2, .null, .null])), (oX4, .inr (4, [.int (iI 0), .ref (uX4 0), .ref (uX4 1), .ref (uX4 2), .ref (uX4 3), .ref (uX4 4), .int (iI 0), .ref (uX4 5), .ref (uX4 6), .ref (uX4 7), .ref (uX4 8), .int (iI 2), .int (iI 3)])), jAI G (uX4 0) 12 (jiI (fun _ => 0)), jAI G (uX4 1) 12 (jiI (fun _ => 0)), jAI G (uX4 2) 4 (jiI (fl 40 4)), jAI G (uX4 3) 4 (jiI (fl 1 4)), jAI G (uX4 4) 4 (jiI (fun _ => 0)), jAI G (uX4 5) 40 (jiI (fun _ => 0)), jAI G (uX4 6) 40 (jiI (fun _ => 0)), jAI G (uX4 7) 40 (jiI (fun _ => 0)), jAI G (uX4 8) 40 (jiI (fun _ => 0)), (oX1, .inr (1, [.ref (uX1 0), .ref (uX1 1), .int (iI 0)])), jAI G (uX1 0) 200 (jiI (fun _ => 0)), jAI G (uX1 1) 200 (jiI (fun _ => 0)), (oX2, .inr (2, [.ref oX4, .ref (uX2 0), .ref (uX2 1), .ref (uX2 2), .ref (uX2 3), .int (iI 0)])), jAI G (uX2 0) 12 (jiI (fun _ => 0)), jAI G (uX2 1) 13 (jiI (fun _ => 0)), jAI G (uX2 2) 12 (jiI (fun _ => 0)), jAI G (uX2 3) 12 (jiI (fun _ => 0))] rfl ?_
  refine jw_aload_0 (pc := 41) C dX5_init_41 ?_
  refine jw_new (pc := 42) (ci := 3) (fs := [.null, .null, .null, .null]) jU_X3 tyX3_ok rfl C kcl_X5_32 kin_X3 kini_X3 (by decide) ⟨Nat.le_of_ble_eq_true rfl, Nat.le_of_ble_eq_true rfl⟩ dX5_init_42 (fun oX3 => ?_)
  refine jw_eqw [(b, .inr (5, [.ref oX4, .ref oX1, .ref oX2, .null, .null])), (oX4, .inr (4, [.int (iI 0), .ref (uX4 0), .ref (uX4 1), .ref (uX4 2), .ref (uX4 3), .ref (uX4 4), .int (iI 0), .ref (uX4 5), .ref (uX4 6), .ref (uX4 7), .ref (uX4 8), .int (iI 2), .int (iI 3)])), jAI G (uX4 0) 12 (jiI (fun _ => 0)), jAI G (uX4 1) 12 (jiI (fun _ => 0)), jAI G (uX4 2) 4 (jiI (fl 40 4)), jAI G (uX4 3) 4 (jiI (fl 1 4)), jAI G (uX4 4) 4 (jiI (fun _ => 0)), jAI G (uX4 5) 40 (jiI (fun _ => 0)), jAI G (uX4 6) 40 (jiI (fun _ => 0)), jAI G (uX4 7) 40 (jiI (fun _ => 0)), jAI G (uX4 8) 40 (jiI (fun _ => 0)), (oX1, .inr (1, [.ref (uX1 0), .ref (uX1 1), .int (iI 0)])), jAI G (uX1 0) 200 (jiI (fun _ => 0)), jAI G (uX1 1) 200 (jiI (fun _ => 0)), (oX2, .inr (2, [.ref oX4, .ref (uX2 0), .ref (uX2 1), .ref (uX2 2), .ref (uX2 3), .int (iI 0)])), jAI G (uX2 0) 12 (jiI (fun _ => 0)), jAI G (uX2 1) 13 (jiI (fun _ => 0)), jAI G (uX2 2) 12 (jiI (fun _ => 0)), jAI G (uX2 3) 12 (jiI (fun _ => 0)), (oX3, .inr (3, [.null, .null, .null, .null]))] rfl ?_
  refine jw_dup (pc := 45) C dX5_init_45 rfl ?_
  refine jw_aload_0 (pc := 46) C dX5_init_46 ?_
  refine fg_X5_10 (pc := 47) C 0 rfl rfl dX5_init_47 ?_
  refine jw_aload_0 (pc := 50) C dX5_init_50 ?_
  refine fg_X5_28 (pc := 51) C 0 rfl rfl dX5_init_51 ?_
  refine jw_aload_0 (pc := 54) C dX5_init_54 ?_
  refine fg_X5_19 (pc := 55) C 0 rfl rfl dX5_init_55 ?_
  refine jw_sI (pc := 58) (wr := [(b, .inr (5, [.ref oX4, .ref oX1, .ref oX2, .null, .null])), (oX4, .inr (4, [.int (iI 0), .ref (uX4 0), .ref (uX4 1), .ref (uX4 2), .ref (uX4 3), .ref (uX4 4), .int (iI 0), .ref (uX4 5), .ref (uX4 6), .ref (uX4 7), .ref (uX4 8), .int (iI 2), .int (iI 3)])), jAI G (uX4 0) 12 (jiI (fun _ => 0)), jAI G (uX4 1) 12 (jiI (fun _ => 0)), jAI G (uX4 2) 4 (jiI (fl 40 4)), jAI G (uX4 3) 4 (jiI (fl 1 4)), jAI G (uX4 4) 4 (jiI (fun _ => 0)), jAI G (uX4 5) 40 (jiI (fun _ => 0)), jAI G (uX4 6) 40 (jiI (fun _ => 0)), jAI G (uX4 7) 40 (jiI (fun _ => 0)), jAI G (uX4 8) 40 (jiI (fun _ => 0)), (oX1, .inr (1, [.ref (uX1 0), .ref (uX1 1), .int (iI 0)])), jAI G (uX1 0) 200 (jiI (fun _ => 0)), jAI G (uX1 1) 200 (jiI (fun _ => 0)), (oX2, .inr (2, [.ref oX4, .ref (uX2 0), .ref (uX2 1), .ref (uX2 2), .ref (uX2 3), .int (iI 0)])), jAI G (uX2 0) 12 (jiI (fun _ => 0)), jAI G (uX2 1) 13 (jiI (fun _ => 0)), jAI G (uX2 2) 12 (jiI (fun _ => 0)), jAI G (uX2 3) 12 (jiI (fun _ => 0))]) C (c_X3_init G oX3 oX4 oX2 oX1) wi_X3_init kml_X5_34 [19] [0, 1, 2, 3, 4, 5, 6, 7, 8, 9, 10, 11, 12, 13, 14, 15, 16, 17, 18] rfl rfl rfl rfl (by decide) rfl rfl (Nat.le_of_ble_eq_true rfl) ⟨by decide, by decide⟩ ⟨Nat.le_of_ble_eq_true rfl, Nat.le_of_ble_eq_true rfl⟩ dX5_init_58 rfl (fun uX3 _ => ?_)
  refine jw_eqw [(b, .inr (5, [.ref oX4, .ref oX1, .ref oX2, .null, .null])), (oX4, .inr (4, [.int (iI 0), .ref (uX4 0), .ref (uX4 1), .ref (uX4 2), .ref (uX4 3), .ref (uX4 4), .int (iI 0), .ref (uX4 5), .ref (uX4 6), .ref (uX4 7), .ref (uX4 8), .int (iI 2), .int (iI 3)])), jAI G (uX4 0) 12 (jiI (fun _ => 0)), jAI G (uX4 1) 12 (jiI (fun _ => 0)), jAI G (uX4 2) 4 (jiI (fl 40 4)), jAI G (uX4 3) 4 (jiI (fl 1 4)), jAI G (uX4 4) 4 (jiI (fun _ => 0)), jAI G (uX4 5) 40 (jiI (fun _ => 0)), jAI G (uX4 6) 40 (jiI (fun _ => 0)), jAI G (uX4 7) 40 (jiI (fun _ => 0)), jAI G (uX4 8) 40 (jiI (fun _ => 0)), (oX1, .inr (1, [.ref (uX1 0), .ref (uX1 1), .int (iI 0)])), jAI G (uX1 0) 200 (jiI (fun _ => 0)), jAI G (uX1 1) 200 (jiI (fun _ => 0)), (oX2, .inr (2, [.ref oX4, .ref (uX2 0), .ref (uX2 1), .ref (uX2 2), .ref (uX2 3), .int (iI 0)])), jAI G (uX2 0) 12 (jiI (fun _ => 0)), jAI G (uX2 1) 13 (jiI (fun _ => 0)), jAI G (uX2 2) 12 (jiI (fun _ => 0)), jAI G (uX2 3) 12 (jiI (fun _ => 0)), (oX3, .inr (3, [.ref oX4, .ref oX2, .ref oX1, .ref (uX3 0)])), jAZ G (uX3 0) 40 (jbF (fun _ => false))] rfl ?_
  refine jw_putF (pc := 61) (ty := (.object "MatchingService$Placer")) jU_X5 tyX5_ok nmX5 rfl 3 (by decide) rfl rfl rfl (by decide +kernel) C Hi kfl_X5_37 0 rfl rfl rfl (Nat.le_of_ble_eq_true rfl) dX5_init_61 ?_
  refine jw_eqw [(b, .inr (5, [.ref oX4, .ref oX1, .ref oX2, .ref oX3, .null])), (oX4, .inr (4, [.int (iI 0), .ref (uX4 0), .ref (uX4 1), .ref (uX4 2), .ref (uX4 3), .ref (uX4 4), .int (iI 0), .ref (uX4 5), .ref (uX4 6), .ref (uX4 7), .ref (uX4 8), .int (iI 2), .int (iI 3)])), jAI G (uX4 0) 12 (jiI (fun _ => 0)), jAI G (uX4 1) 12 (jiI (fun _ => 0)), jAI G (uX4 2) 4 (jiI (fl 40 4)), jAI G (uX4 3) 4 (jiI (fl 1 4)), jAI G (uX4 4) 4 (jiI (fun _ => 0)), jAI G (uX4 5) 40 (jiI (fun _ => 0)), jAI G (uX4 6) 40 (jiI (fun _ => 0)), jAI G (uX4 7) 40 (jiI (fun _ => 0)), jAI G (uX4 8) 40 (jiI (fun _ => 0)), (oX1, .inr (1, [.ref (uX1 0), .ref (uX1 1), .int (iI 0)])), jAI G (uX1 0) 200 (jiI (fun _ => 0)), jAI G (uX1 1) 200 (jiI (fun _ => 0)), (oX2, .inr (2, [.ref oX4, .ref (uX2 0), .ref (uX2 1), .ref (uX2 2), .ref (uX2 3), .int (iI 0)])), jAI G (uX2 0) 12 (jiI (fun _ => 0)), jAI G (uX2 1) 13 (jiI (fun _ => 0)), jAI G (uX2 2) 12 (jiI (fun _ => 0)), jAI G (uX2 3) 12 (jiI (fun _ => 0)), (oX3, .inr (3, [.ref oX4, .ref oX2, .ref oX1, .ref (uX3 0)])), jAZ G (uX3 0) 40 (jbF (fun _ => false))] rfl ?_
  refine jw_aload_0 (pc := 64) C dX5_init_64 ?_
  refine jw_new (pc := 65) (ci := 0) (fs := [.null, .null, .null, .null, .null, .null, .int (iI 0), .null, .null, .null]) jU_X0 tyX0_ok rfl C kcl_X5_41 kin_X0 kini_X0 (by decide) ⟨Nat.le_of_ble_eq_true rfl, Nat.le_of_ble_eq_true rfl⟩ dX5_init_65 (fun oX0 => ?_)
  refine jw_eqw [(b, .inr (5, [.ref oX4, .ref oX1, .ref oX2, .ref oX3, .null])), (oX4, .inr (4, [.int (iI 0), .ref (uX4 0), .ref (uX4 1), .ref (uX4 2), .ref (uX4 3), .ref (uX4 4), .int (iI 0), .ref (uX4 5), .ref (uX4 6), .ref (uX4 7), .ref (uX4 8), .int (iI 2), .int (iI 3)])), jAI G (uX4 0) 12 (jiI (fun _ => 0)), jAI G (uX4 1) 12 (jiI (fun _ => 0)), jAI G (uX4 2) 4 (jiI (fl 40 4)), jAI G (uX4 3) 4 (jiI (fl 1 4)), jAI G (uX4 4) 4 (jiI (fun _ => 0)), jAI G (uX4 5) 40 (jiI (fun _ => 0)), jAI G (uX4 6) 40 (jiI (fun _ => 0)), jAI G (uX4 7) 40 (jiI (fun _ => 0)), jAI G (uX4 8) 40 (jiI (fun _ => 0)), (oX1, .inr (1, [.ref (uX1 0), .ref (uX1 1), .int (iI 0)])), jAI G (uX1 0) 200 (jiI (fun _ => 0)), jAI G (uX1 1) 200 (jiI (fun _ => 0)), (oX2, .inr (2, [.ref oX4, .ref (uX2 0), .ref (uX2 1), .ref (uX2 2), .ref (uX2 3), .int (iI 0)])), jAI G (uX2 0) 12 (jiI (fun _ => 0)), jAI G (uX2 1) 13 (jiI (fun _ => 0)), jAI G (uX2 2) 12 (jiI (fun _ => 0)), jAI G (uX2 3) 12 (jiI (fun _ => 0)), (oX3, .inr (3, [.ref oX4, .ref oX2, .ref oX1, .ref (uX3 0)])), jAZ G (uX3 0) 40 (jbF (fun _ => false)), (oX0, .inr (0, [.null, .null, .null, .null, .null, .null, .int (iI 0), .null, .null, .null]))] rfl ?_
  refine jw_dup (pc := 68) C dX5_init_68 rfl ?_
  refine jw_aload_0 (pc := 69) C dX5_init_69 ?_
  refine fg_X5_10 (pc := 70) C 0 rfl rfl dX5_init_70 ?_
  refine jw_sI (pc := 73) (wr := [(b, .inr (5, [.ref oX4, .ref oX1, .ref oX2, .ref oX3, .null])), (oX4, .inr (4, [.int (iI 0), .ref (uX4 0), .ref (uX4 1), .ref (uX4 2), .ref (uX4 3), .ref (uX4 4), .int (iI 0), .ref (uX4 5), .ref (uX4 6), .ref (uX4 7), .ref (uX4 8), .int (iI 2), .int (iI 3)])), jAI G (uX4 0) 12 (jiI (fun _ => 0)), jAI G (uX4 1) 12 (jiI (fun _ => 0)), jAI G (uX4 2) 4 (jiI (fl 40 4)), jAI G (uX4 3) 4 (jiI (fl 1 4)), jAI G (uX4 4) 4 (jiI (fun _ => 0)), jAI G (uX4 5) 40 (jiI (fun _ => 0)), jAI G (uX4 6) 40 (jiI (fun _ => 0)), jAI G (uX4 7) 40 (jiI (fun _ => 0)), jAI G (uX4 8) 40 (jiI (fun _ => 0)), (oX1, .inr (1, [.ref (uX1 0), .ref (uX1 1), .int (iI 0)])), jAI G (uX1 0) 200 (jiI (fun _ => 0)), jAI G (uX1 1) 200 (jiI (fun _ => 0)), (oX2, .inr (2, [.ref oX4, .ref (uX2 0), .ref (uX2 1), .ref (uX2 2), .ref (uX2 3), .int (iI 0)])), jAI G (uX2 0) 12 (jiI (fun _ => 0)), jAI G (uX2 1) 13 (jiI (fun _ => 0)), jAI G (uX2 2) 12 (jiI (fun _ => 0)), jAI G (uX2 3) 12 (jiI (fun _ => 0)), (oX3, .inr (3, [.ref oX4, .ref oX2, .ref oX1, .ref (uX3 0)])), jAZ G (uX3 0) 40 (jbF (fun _ => false))]) C (c_X0_init G oX0 oX4) wi_X0_init kml_X5_43 [21] [0, 1, 2, 3, 4, 5, 6, 7, 8, 9, 10, 11, 12, 13, 14, 15, 16, 17, 18, 19, 20] rfl rfl rfl rfl (by decide) rfl rfl (Nat.le_of_ble_eq_true rfl) ⟨by decide, by decide⟩ ⟨Nat.le_of_ble_eq_true rfl, Nat.le_of_ble_eq_true rfl⟩ dX5_init_73 rfl (fun uX0 _ => ?_)
  refine jw_eqw [(b, .inr (5, [.ref oX4, .ref oX1, .ref oX2, .ref oX3, .null])), (oX4, .inr (4, [.int (iI 0), .ref (uX4 0), .ref (uX4 1), .ref (uX4 2), .ref (uX4 3), .ref (uX4 4), .int (iI 0), .ref (uX4 5), .ref (uX4 6), .ref (uX4 7), .ref (uX4 8), .int (iI 2), .int (iI 3)])), jAI G (uX4 0) 12 (jiI (fun _ => 0)), jAI G (uX4 1) 12 (jiI (fun _ => 0)), jAI G (uX4 2) 4 (jiI (fl 40 4)), jAI G (uX4 3) 4 (jiI (fl 1 4)), jAI G (uX4 4) 4 (jiI (fun _ => 0)), jAI G (uX4 5) 40 (jiI (fun _ => 0)), jAI G (uX4 6) 40 (jiI (fun _ => 0)), jAI G (uX4 7) 40 (jiI (fun _ => 0)), jAI G (uX4 8) 40 (jiI (fun _ => 0)), (oX1, .inr (1, [.ref (uX1 0), .ref (uX1 1), .int (iI 0)])), jAI G (uX1 0) 200 (jiI (fun _ => 0)), jAI G (uX1 1) 200 (jiI (fun _ => 0)), (oX2, .inr (2, [.ref oX4, .ref (uX2 0), .ref (uX2 1), .ref (uX2 2), .ref (uX2 3), .int (iI 0)])), jAI G (uX2 0) 12 (jiI (fun _ => 0)), jAI G (uX2 1) 13 (jiI (fun _ => 0)), jAI G (uX2 2) 12 (jiI (fun _ => 0)), jAI G (uX2 3) 12 (jiI (fun _ => 0)), (oX3, .inr (3, [.ref oX4, .ref oX2, .ref oX1, .ref (uX3 0)])), jAZ G (uX3 0) 40 (jbF (fun _ => false)), (oX0, .inr (0, [.ref oX4, .ref (uX0 0), .ref (uX0 1), .ref (uX0 2), .ref (uX0 3), .ref (uX0 4), .int (iI 0), .ref (uX0 5), .ref (uX0 6), .ref (uX0 7)])), jAI G (uX0 0) 40 (jiI (fun _ => 0)), jAI G (uX0 1) 40 (jiI (fun _ => 0)), jAI G (uX0 2) 12 (jiI (fun _ => 0)), jAI G (uX0 3) 4 (jiI (fun _ => 0)), jAI G (uX0 4) 16 (jiI (fun _ => 0)), jAZ G (uX0 5) 16 (jbF (fun _ => false)), jAI G (uX0 6) 16 (jiI (fun _ => 0)), jAI G (uX0 7) 16 (jiI (fun _ => 0))] rfl ?_
  refine jw_putF (pc := 76) (ty := (.object "MatchingService$Flow")) jU_X5 tyX5_ok nmX5 rfl 4 (by decide) rfl rfl rfl (by decide +kernel) C Hi kfl_X5_44 0 rfl rfl rfl (Nat.le_of_ble_eq_true rfl) dX5_init_76 ?_
  refine jw_eqw [(b, .inr (5, [.ref oX4, .ref oX1, .ref oX2, .ref oX3, .ref oX0])), (oX4, .inr (4, [.int (iI 0), .ref (uX4 0), .ref (uX4 1), .ref (uX4 2), .ref (uX4 3), .ref (uX4 4), .int (iI 0), .ref (uX4 5), .ref (uX4 6), .ref (uX4 7), .ref (uX4 8), .int (iI 2), .int (iI 3)])), jAI G (uX4 0) 12 (jiI (fun _ => 0)), jAI G (uX4 1) 12 (jiI (fun _ => 0)), jAI G (uX4 2) 4 (jiI (fl 40 4)), jAI G (uX4 3) 4 (jiI (fl 1 4)), jAI G (uX4 4) 4 (jiI (fun _ => 0)), jAI G (uX4 5) 40 (jiI (fun _ => 0)), jAI G (uX4 6) 40 (jiI (fun _ => 0)), jAI G (uX4 7) 40 (jiI (fun _ => 0)), jAI G (uX4 8) 40 (jiI (fun _ => 0)), (oX1, .inr (1, [.ref (uX1 0), .ref (uX1 1), .int (iI 0)])), jAI G (uX1 0) 200 (jiI (fun _ => 0)), jAI G (uX1 1) 200 (jiI (fun _ => 0)), (oX2, .inr (2, [.ref oX4, .ref (uX2 0), .ref (uX2 1), .ref (uX2 2), .ref (uX2 3), .int (iI 0)])), jAI G (uX2 0) 12 (jiI (fun _ => 0)), jAI G (uX2 1) 13 (jiI (fun _ => 0)), jAI G (uX2 2) 12 (jiI (fun _ => 0)), jAI G (uX2 3) 12 (jiI (fun _ => 0)), (oX3, .inr (3, [.ref oX4, .ref oX2, .ref oX1, .ref (uX3 0)])), jAZ G (uX3 0) 40 (jbF (fun _ => false)), (oX0, .inr (0, [.ref oX4, .ref (uX0 0), .ref (uX0 1), .ref (uX0 2), .ref (uX0 3), .ref (uX0 4), .int (iI 0), .ref (uX0 5), .ref (uX0 6), .ref (uX0 7)])), jAI G (uX0 0) 40 (jiI (fun _ => 0)), jAI G (uX0 1) 40 (jiI (fun _ => 0)), jAI G (uX0 2) 12 (jiI (fun _ => 0)), jAI G (uX0 3) 4 (jiI (fun _ => 0)), jAI G (uX0 4) 16 (jiI (fun _ => 0)), jAZ G (uX0 5) 16 (jbF (fun _ => false)), jAI G (uX0 6) 16 (jiI (fun _ => 0)), jAI G (uX0 7) 16 (jiI (fun _ => 0))] rfl ?_
  refine jw_sub [0, 1, 11, 14, 19, 21, 2, 3, 4, 5, 6, 7, 8, 9, 10, 12, 13, 15, 16, 17, 18, 20, 22, 23, 24, 25, 26, 27, 28, 29] rfl rfl (hret _ _ (fun i => ([b, oX4, oX1, oX2, oX3, oX0, (uX4 0), (uX4 1), (uX4 2), (uX4 3), (uX4 4), (uX4 5), (uX4 6), (uX4 7), (uX4 8), (uX1 0), (uX1 1), (uX2 0), (uX2 1), (uX2 2), (uX2 3), (uX3 0), (uX0 0), (uX0 1), (uX0 2), (uX0 3), (uX0 4), (uX0 5), (uX0 6), (uX0 7)] : List Nat).getD i 0) dX5_init_79 rfl)
