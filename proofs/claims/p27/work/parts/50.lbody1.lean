/-! THE LAW'S BODY: its nine rows beside the service -/
abbrev wA (G : jG) (q : Nat → Nat) (f mv : Nat → Int) (ac : Nat → Int32) (u wh lg we cn gr : Nat → Int) : va_W :=
  [jAI G (q 0) 4 (jiI f), jAI G (q 1) 16 (jiI mv), jAI G (q 2) 16 ac, jAI G (q 3) 4 (jiI u), jAI G (q 4) 16 (jiI wh), jAI G (q 5) 200 (jiI lg), jAI G (q 6) 4 (jiI we), jAI G (q 7) 4 (jiI cn), jAI G (q 8) 16 (jiI gr)]
abbrev wP (G : jG) (q : Nat → Nat) (f : Nat → Int) (P : QP) (u lg : Nat → Int) : va_W := wA G q f P.mov P.acc u P.plc lg P.wei P.asg P.grp
theorem rmk {k n : Nat} (h : k ≤ 1000 ∧ n ≤ 10000) : k ≤ room_1.cells ∧ n ≤ room_1.slots := ⟨Nat.le_trans h.1 (Nat.le_of_ble_eq_true rfl), Nat.le_trans h.2 (Nat.le_of_ble_eq_true rfl)⟩
theorem rmk2 {k n : Nat} (h : k + 1 ≤ 1000 ∧ n + 4 ≤ 10000) : k + 1 ≤ room_1.cells ∧ n + 4 ≤ room_1.slots := rmk h
theorem c_bp (G : jG) (qa qm qk qp : Nat) (P : QP) (f u : Nat → Int) (m : Int32) (hI : PI P) (hA : AtR P f) (hC : LC P) (r : Nat) (hr : (r : Int) < P.req) (hw : P.plc r = -1) (hm : P.acc r = m) (ml : Int) (hml : P.ml = ml) : CI G yL_bestPath cL_bestPath 10 (jrm 1 32 0 0) [.int (iI 4), .int m, .ref qa, .ref qm, .int (iI ml), .ref qk, .ref qp] [jAI G qa 4 (jiI f), jAI G qm 16 (jiI P.mov), jAI G qk 16 P.acc, jAI G qp 4 (jiI u)] (fun (z : Int32) (u : Nat → Int) => BP P f m z u) (fun u : Nat → Int => [jAI G qa 4 (jiI f), jAI G qm 16 (jiI P.mov), jAI G qk 16 P.acc, jAI G qp 4 (jiI u)]) 0 0 := by
  subst hml
  exact c_L_bestPath G qa qm qk qp P f u m hI hA hC r hr hw hm
theorem c_same (G : jG) (ad : Nat → Nat) (P : QP) (l : QL) (A : QA) (T : Nat → Bool) (F : QF) (qw qm qg : Nat) (lg : Nat → Int) (n0 : Nat) (hI : PI P) (hl : 0 ≤ l.sz ∧ l.sz ≤ 200) (hq : P.req ≤ 14) (hG : LG l lg n0) (hn : n0 ≤ 190) (mn : Nat) (hmn : P.req = (mn : Int)) : CZ G yL_isSame cL_isSame 7 (jrm 3 64 0 0) [.ref (ad 0), .int (iI (mn : Int)), .ref qw, .ref qm, .ref qg, .int (iI (n0 : Int))] ([jAI G qw 16 (jiI P.plc), jAI G qm 16 (jiI P.mov), jAI G qg 200 (jiI lg)] ++ wC G ad P l A T F) (fun (z : Bool) (_ : Unit) => z = true) (fun _ : Unit => ([jAI G qw 16 (jiI P.plc), jAI G qm 16 (jiI P.mov), jAI G qg 200 (jiI lg)] ++ wC G ad P l A T F)) 0 0 := by
  have h := c_L_isSame G ad P l A T F qw qm qg lg n0 hI hl hq hG hn
  rw [hmn] at h
  exact h
/-- what goes on at the head of the law's loop -/
def KH (G : jG) (X : JX) (ad q : Nat → Nat) (b : Nat) (pl ml : Int) (j k n : Nat) : Prop := ∀ (P : QP) (l : QL) (A : QA) (T : Nat → Bool) (F : QF) (f u lg : Nat → Int) (mn : Nat), HV P l f → P.pl = pl → P.ml = ml → P.req = (mn : Int) → mn ≤ j → JW G X k n (wP G q f P u lg ++ wC G ad P l A T F) 171 [some (.ref b), some (.ref (ad 0)), some (.int (iI 4)), some (.int (iI pl)), some (.int (iI ml)), some (.ref (q 0)), some (.ref (q 6)), some (.ref (q 7)), some (.ref (q 2)), some (.ref (q 8)), some (.ref (q 4)), some (.ref (q 1)), some (.ref (q 3)), some (.ref (q 5)), some (.int (iI (mn : Int))), some (.int (iI (j : Int))), none, none, none, none, none, none, none, none, none, none, none, none] []
set_option maxRecDepth 100000 in
set_option maxHeartbeats 4000000 in
theorem lw_same {G : jG} {X : JX} {ad q : Nat → Nat} {b : Nat} {pl ml : Int} {k n j k1 n1 mn n0 : Nat} (C : JC G X room_1 cL_law RL 28) (hk : k ≤ k1 ∧ n ≤ n1) (hk1 : k1 ≤ 1000 ∧ n1 ≤ 10000) (P : QP) (l : QL) (A : QA) (T : Nat → Bool) (F : QF) (f u lg : Nat → Int) (hV : HV P l f) (hpl : P.pl = pl) (hml : P.ml = ml) (hmn : P.req = (mn : Int)) (hj : mn ≤ j + 1) (hG : LG l lg n0) (hn : n0 ≤ 190) (kk : KH G X ad q b pl ml (j + 1) k1 n1) : JW G X k n (wP G q f P u lg ++ wC G ad P l A T F) 731 [some (.ref b), some (.ref (ad 0)), some (.int (iI 4)), some (.int (iI pl)), some (.int (iI ml)), some (.ref (q 0)), some (.ref (q 6)), some (.ref (q 7)), some (.ref (q 2)), some (.ref (q 8)), some (.ref (q 4)), some (.ref (q 1)), some (.ref (q 3)), some (.ref (q 5)), some (.int (iI (mn : Int))), some (.int (iI (j : Int))), none, none, none, some (.int (iI (n0 : Int))), none, none, none, none, none, none, none, none] [] := by
  refine jw_aload_1 (pc := 731) C dL_law_731 ?_
  refine jw_iload_14 (pc := 732) C dL_law_732 ?_
  refine jw_aload_10 (pc := 734) C dL_law_734 ?_
  refine jw_aload_11 (pc := 736) C dL_law_736 ?_
  refine jw_aload_13 (pc := 738) C dL_law_738 ?_
  refine jw_iload_19 (pc := 740) C dL_law_740 ?_
  refine jw_sS_Z (pc := 742) (wr := [jAI G (q 0) 4 (jiI f), jAI G (q 2) 16 P.acc, jAI G (q 3) 4 (jiI u), jAI G (q 6) 4 (jiI P.wei), jAI G (q 7) 4 (jiI P.asg), jAI G (q 8) 16 (jiI P.grp)]) C (c_same G ad P l A T F (q 4) (q 1) (q 5) lg n0 hV.1.1 hV.1.2.2 hV.2.1.2.2.2.1 hG hn mn hmn) ws_L_isSame kml_L_77 ([4, 1, 5] ++ (List.range 30).map (· + 9)) [0, 2, 3, 6, 7, 8] rfl rfl rfl rfl (by decide) rfl rfl (Nat.le_of_ble_eq_true rfl) ⟨by decide, by decide⟩ (rmk ⟨by omega, by omega⟩) dL_law_742 rfl (fun z u9 h => ?_)
  subst h
  refine jw_sub (w2 := wP G q f P u lg ++ wC G ad P l A T F) ([0, 7, 1, 2, 6, 8, 3, 4, 5] ++ (List.range 30).map (· + 9)) rfl rfl ?_
  refine jw_if_ne_b (pc := 745) (tgt := 750) C dL_law_745 (by decide) (fun c_745 => ?_) (fun c_745 => ?_)
  · refine jw_iinc_15 (pc := 750) C dL_law_750 rfl ?_
    refine jw_goto (pc := 753) (tgt := 171) C dL_law_753 (by decide) ?_
    exact jw_less (jw_widen hk.1 hk.2 (kk P l A T F f u lg mn hV hpl hml hmn hj)) (by repeat (first | exact trivial | refine And.intro rfl ?_))
  · exact absurd c_745 (by decide)
