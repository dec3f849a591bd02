/-! the law's loop: forgetting locals, the comparison behind a call -/
section JFORGET
variable {G : jG} {X : JX} {k n pc : Nat} {w : va_W} {L : List (Option Value)} {st : List Value}
theorem jw_lcut {L2 : List (Option Value)} (h : L2.length = L.length) (hs : ∀ (i : Nat) (v : Value), L2[i]? = some (some v) → L[i]? = some (some v)) (kk : JW G X k n w pc L2 st) : JW G X k n w pc L st := by
  obtain ⟨p, l, e, R, s, m, args, below, meth, c, Q, A⟩ := X
  intro H locs ls hP hD hS hl
  refine kk H locs ls hP hD hS ?_
  rw [h]
  exact ⟨hl.1, hl.2.1, fun q hq => by
    obtain ⟨j, h1, h2⟩ := (jl0_mem _ _ _).mp hq
    exact hl.2.2 q ((jl0_mem _ _ _).mpr ⟨j, hs _ _ h1, h2⟩)⟩
theorem jw_lf4 {a0 a1 a2 a3 a4 x5 x6 x7 x8 : Option Value} (kk : JW G X k n w pc [a0, a1, a2, a3, a4, none, none, none, none] st) : JW G X k n w pc [a0, a1, a2, a3, a4, x5, x6, x7, x8] st := by
  refine jw_lcut (L2 := [a0, a1, a2, a3, a4, none, none, none, none]) rfl (fun i v h => ?_) kk
  match i, h with
  | 0, h => exact h
  | 1, h => exact h
  | 2, h => exact h
  | 3, h => exact h
  | 4, h => exact h
  | 5, h => cases h
  | 6, h => cases h
  | 7, h => cases h
  | 8, h => cases h
  | (j + 9), h => cases h
end JFORGET
theorem RR_thr {P : QP} {l : QL} {R u : QR} (h : RR P l R) (e : u.2 = R.2) : RR P l u := by
  obtain ⟨t, x⟩ := u
  obtain ⟨t2, x2⟩ := R
  obtain rfl : x = x2 := e
  exact ⟨h.1, h.2.1, h.2.2.1, h.2.2.2.1, h.2.2.2.2.1, h.2.2.2.2.2.1, h.2.2.2.2.2.2.1, h.2.2.2.2.2.2.2.1, h.2.2.2.2.2.2.2.2.1, h.2.2.2.2.2.2.2.2.2.1, h.2.2.2.2.2.2.2.2.2.2.1, h.2.2.2.2.2.2.2.2.2.2.2.1, h.2.2.2.2.2.2.2.2.2.2.2.2.1, h.2.2.2.2.2.2.2.2.2.2.2.2.2⟩
/-- the world at the loop's head -/
abbrev wL (G : jG) (ad ad2 : Nat → Nat) (P : QP) (l : QL) (A : QA) (T : Nat → Bool) (F : QF) (q : Nat) (f : Nat → Int64) (R : QR) : va_W := (wC G ad P l A T F ++ [jAL G q f]) ++ wR G ad2 R
abbrev lL (b : Nat) (ad ad2 : Nat → Nat) (q : Nat) (i : Nat) : List (Option Value) := [some (.ref b), some (.ref (ad 0)), some (.ref (ad2 0)), some (.ref q), some (.int (iI (i : Int))), none, none, none, none]
/-- what goes on behind a step of the script -/
def LK (G : jG) (X : JX) (ad ad2 : Nat → Nat) (q b i k n : Nat) : Prop := ∀ (P : QP) (l : QL) (A : QA) (T : Nat → Bool) (F : QF) (f : Nat → Int64) (R : QR), SV P l → RR P l R → JW G X k n (wL G ad ad2 P l A T F q f R) 1256 (lL b ad ad2 q i) []
theorem LK.widen {G : jG} {X : JX} {ad ad2 : Nat → Nat} {q b i k n : Nat} (kk : LK G X ad ad2 q b i (k + 1) (n + 6)) : LK G X ad ad2 q b i k n := fun P l A T F f R h1 h2 => jw_widen (Nat.le_succ _) (Nat.le_add_right _ _) (kk P l A T F f R h1 h2)
section JLOOP2
variable {G : jG} {X : JX} {k n pc : Nat} {w : va_W} {L : List (Option Value)} {rest : List Value} {rm : Room} {cc : ByteArray} {own : String} {nL b N : Nat} {xs : Nat → Int32}
theorem jw_sldi {i a : Int} (C : JC G X rm cc own nL) (S : JScr X b N xs) (j : Nat) (hj : i = (j : Int)) (hn : j < N) (hN : N < 1000000) (ea : xs j = iI a) (d : decode cc pc = .ok (.iaload, 1)) (kk : JW G X k n w (pc + 1) L (.int (iI a) :: rest)) : JW G X k n w pc L (.int (iI i) :: .ref b :: rest) :=
  jw_sld C S j hj hn hN d (by rw [ea]; exact kk)
end JLOOP2
theorem iI_code {c : Int} (h : 0 ≤ c ∧ c ≤ 3) (e : iI c = 0) : c = 0 := (iI_eq ⟨by omega, by omega⟩ ⟨by omega, by omega⟩).mp e
set_option maxRecDepth 100000 in
set_option maxHeartbeats 4000000 in
theorem lw_tl {G : jG} {X : JX} {k n : Nat} {ad ad2 : Nat → Nat} {q b i : Nat} {P : QP} {l : QL} {A : QA} {T : Nat → Bool} {F : QF} {f : Nat → Int64} {u : QR} {zm : Int32} {code : Int} (C : JC G X room_1 cL_law RL 9) (p : Nat) {off : Int}
    (d0 : decode cL_law p = .ok (.istore 6, 2)) (d2 : decode cL_law (p + 2) = .ok (.aload_n 2, 1)) (d3 : decode cL_law (p + 3) = .ok (.invokevirtual 79, 3)) (d6 : decode cL_law (p + 6) = .ok (.iload 5, 2)) (d8 : decode cL_law (p + 8) = .ok (.if_icmp .eq 5, 3)) (d13 : decode cL_law (p + 13) = .ok (.iload 5, 2)) (d15 : decode cL_law (p + 15) = .ok (.ifCond .ne 15, 3)) (d18 : decode cL_law (p + 18) = .ok (.aload_n 3, 1)) (d19 : decode cL_law (p + 19) = .ok (.iconst 0, 1)) (d20 : decode cL_law (p + 20) = .ok (.laload, 1)) (d21 : decode cL_law (p + 21) = .ok (.iload 6, 2)) (d23 : decode cL_law (p + 23) = .ok (.i2l, 1)) (d24 : decode cL_law (p + 24) = .ok (.lcmp, 1)) (d25 : decode cL_law (p + 25) = .ok (.ifCond .eq 5, 3)) (d30 : decode cL_law (p + 30) = .ok (.goto off, 3)) (ht : ((p + 30 : Nat) : Int) + off = ((1256 : Nat) : Int))
    (hk : k ≤ 1086 ∧ n ≤ 10291) (hc : 0 ≤ code ∧ code ≤ 3) (hV : SV P l) (hR : RR P l u) (hu : u.1 = code) (hf : code = 0 → f 0 = zm.toInt64) (kk : LK G X ad ad2 q b i k n) :
    JW G X k n (wL G ad ad2 P l A T F q f u) p [some (.ref b), some (.ref (ad 0)), some (.ref (ad2 0)), some (.ref q), some (.int (iI (i : Int))), some (.int (iI code)), none, none, none] [.int zm] := by
  have hE : JW G X k n (wL G ad ad2 P l A T F q f u) (p + 30) [some (.ref b), some (.ref (ad 0)), some (.ref (ad2 0)), some (.ref q), some (.int (iI (i : Int))), some (.int (iI code)), some (.int zm), none, none] [] := jw_goto (tgt := 1256) C d30 ht (jw_lf4 (kk P l A T F f u hV hR))
  refine jw_istore_6 (pc := p) C d0 rfl ?_
  refine jw_aload_2 (pc := p + 2) C d2 ?_
  refine jw_sV_I (pc := p + 3) (wr := wC G ad P l A T F ++ [jAL G q f]) C (c_X6_thrown G ad2 u) wd_X6_thrown kml_L_79 31 rfl rfl ((List.range 15).map (· + 31)) (List.range 31) rfl rfl rfl rfl (by decide) rfl rfl (Nat.le_of_ble_eq_true rfl) ⟨by decide, by decide⟩ ⟨hk.1, hk.2⟩ d3 rfl (fun z _ h => ?_)
  subst h
  refine jw_iload_5 (pc := p + 6) C d6 ?_
  refine jw_icmp_eq_r (pc := p + 8) (tgt := p + 13) C d8 (by omega) (fun _ => ?_) (fun h => absurd (congrArg iI hu) h)
  refine jw_iload_5 (pc := p + 13) C d13 ?_
  refine jw_if_ne_r (pc := p + 15) (tgt := p + 30) C d15 (by omega) (fun _ => hE) (fun h => ?_)
  have h0 := iI_code hc h
  refine jw_aload_3 (pc := p + 18) C d18 ?_
  refine jw_iconst (pc := p + 19) C d19 ?_
  refine jw_lald (pc := p + 20) C 30 rfl 0 rfl (by decide) (by decide) d20 ?_
  refine jw_iload_6 (pc := p + 21) C d21 ?_
  refine jw_i2l (pc := p + 23) C d23 ?_
  refine jw_lcmp (pc := p + 24) C d24 ?_
  exact jw_if_eq_r (pc := p + 25) (tgt := p + 30) C d25 (by omega) (fun _ => hE) (fun h => absurd ((lg_cmp_eq _ _).mpr (hf h0)) h)
