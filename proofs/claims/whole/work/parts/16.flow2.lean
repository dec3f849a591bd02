/-! FLOWS: the start, what the contracts say -/
def PFe (P : QP) : Prop := (∀ a : Nat, (a : Int) < P.res → P.load a ≤ P.cap a) ∧ (∀ g : Nat, g < 4 → P.asg g ≤ P.quo g) ∧ PFa P ∧ (∀ r : Nat, (r : Int) < P.req → ∀ j, j < 32 → bt (P.acc r) j = true → (j : Int) < P.res)
def maskAll (z : Int) : Int32 := iI 1 <<< (iI z &&& 31) - iI 1
def wide (P : QP) (wd : Int) (r : Nat) : Int32 := if (r : Int) = wd then maskAll P.res else P.acc r
def stt (P : QP) (r : Nat) : Int := if P.plc r = -2 then -1 else if 0 ≤ P.plc r then 4 + P.plc r else P.grp r
theorem stt_rng {P : QP} (hI : PI P) (r : Nat) : -1 ≤ stt P r ∧ stt P r ≤ 15 := by
  have h1 := hI.plc r
  have h2 := hI.grp r
  unfold stt
  split
  · omega
  · split <;> omega
theorem maskAll_bt {P : QP} (hI : PI P) {j : Nat} (hj : j < 32) : bt (maskAll P.res) j = decide ((j : Int) < P.res) := by
  have hr := hI.res
  have h := b_all P.res.toNat (by omega) j hj
  rw [show ((P.res.toNat : Nat) : Int) = P.res by omega] at h
  unfold maskAll
  rw [h]
  exact decide_eq_decide.mpr (by omega)
theorem updf_copy {α : Type} {f g : Nat → α} {i : Nat} (h : ∀ a, a < i → f a = g a) : ∀ a, a < i + 1 → updf f i (g i) a = g a := by
  intro a ha
  by_cases e : a = i
  · subst e; exact updf_same _ _ _
  · rw [updf_ne _ _ e]; exact h a (by omega)
theorem copy_ok {P : QP} {F : QF} {wd : Int} (hI : PI P) (hF : PFe P) (h1 : ∀ a : Nat, (a : Int) < P.res → F.load a = P.load a) (h2 : ∀ g : Nat, g < 4 → F.used g = P.asg g) (h3 : ∀ r : Nat, (r : Int) < P.req → F.node r = stt P r) (h4 : ∀ r : Nat, (r : Int) < P.req → F.acc r = wide P wd r) : FV P F ∧ sumF F.used 4 = sumF P.asg 4 := by
  obtain ⟨f1, f2, f3, f4⟩ := hF
  have hr := hI.res
  refine ⟨⟨fun r hr2 => ?_, fun a ha => ?_, fun g hg => ?_, fun a ha => by rw [h1 a ha]; exact f1 a ha, fun g hg => by rw [h2 g hg]; exact f2 g hg, fun r hr2 j hj hb => ?_⟩, sumF_congr (fun i hi => h2 i hi)⟩
  · unfold NodeOK
    rw [h3 r hr2, h4 r hr2]
    unfold stt
    by_cases e : P.plc r = -2
    · rw [if_pos e]; exact Or.inl ⟨e, rfl⟩
    · rw [if_neg e]
      refine Or.inr ⟨e, ?_⟩
      by_cases e2 : 0 ≤ P.plc r
      · rw [if_pos e2]
        have e3 := hI.plr r hr2
        refine Or.inr ⟨(P.plc r).toNat, by omega, by omega, ?_⟩
        unfold wide
        split
        · rw [maskAll_bt hI (by omega)]
          exact decide_eq_true (by omega)
        · exact f3 r hr2 e2
      · rw [if_neg e2]; exact Or.inl rfl
  · rw [h1 a ha, hI.2.1 a]
    apply cntF_congr
    intro r hr2
    have hp := hI.plc r
    have hg := hI.grp r
    rw [h3 r (by omega)]
    unfold stt
    split
    · exact decide_eq_decide.mpr (by omega)
    · split <;> exact decide_eq_decide.mpr (by omega)
  · rw [h2 g hg, hI.2.2 g]
    apply cntF_congr
    intro r hr2
    have hp := hI.plc r
    have hg := hI.grp r
    rw [h3 r (by omega)]
    unfold stt
    by_cases q : P.grp r = (g : Int)
    · rw [decide_eq_true q, Bool.true_and]
      split
      · exact decide_eq_decide.mpr (by omega)
      · split <;> exact decide_eq_decide.mpr (by omega)
    · rw [decide_eq_false q, Bool.false_and]
      exact (decide_eq_false (fun z : 0 ≤ P.plc r ∧ P.grp r = (g : Int) => q z.2))
  · rw [h4 r hr2] at hb
    unfold wide at hb
    split at hb
    · rw [maskAll_bt hI hj] at hb
      exact of_decide_eq_true hb
    · exact f4 r hr2 j hj hb
theorem cutV_congr {P : QP} {acc acc2 : Nat → Int32} (h : ∀ r : Nat, (r : Int) < P.req → acc2 r = acc r) (hq : 0 ≤ P.req) (cg ca : Nat → Bool) : cutV P acc2 cg ca = cutV P acc cg ca := by
  unfold cutV
  congr 1
  apply cntF_congr
  intro j hj
  rw [h j (by omega)]
theorem IsMin.congr {P : QP} {acc acc2 : Nat → Int32} {v : Int} (h : ∀ r : Nat, (r : Int) < P.req → acc2 r = acc r) (hq : 0 ≤ P.req) (g : IsMin P acc2 v) : IsMin P acc v := by
  obtain ⟨⟨a, b, e⟩, h2⟩ := g
  exact ⟨⟨a, b, by rw [← e, cutV_congr h hq]⟩, fun cg ca => by rw [← cutV_congr h hq]; exact h2 cg ca⟩
theorem node_rng {P : QP} {F : QF} (hI : PI P) {r : Nat} (h : NodeOK P F.acc F.node r) : -1 ≤ F.node r ∧ F.node r ≤ 15 := by
  have hg := hI.grp r
  have hr := hI.res
  rcases h with ⟨z1, z2⟩ | ⟨z1, z2 | ⟨a, z2, z3, z4⟩⟩ <;> omega
theorem FV.ldr {P : QP} {F : QF} (hI : PI P) (h : FV P F) (a : Nat) (ha : (a : Int) < P.res) : 0 ≤ F.load a ∧ F.load a ≤ 4 := by
  have h1 := cntF_nn (fun r => decide (F.node r = 4 + (a : Int))) P.req.toNat
  have h2 := h.2.1 a ha
  have h3 := h.2.2.2.1 a ha
  have h4 := hI.cap a
  omega
theorem FV.usr {P : QP} {F : QF} (hI : PI P) (h : FV P F) (g : Nat) (hg : g < 4) : 0 ≤ F.used g ∧ F.used g ≤ 40 := by
  have h1 := cntF_nn (fun r => decide (P.grp r = (g : Int)) && decide (4 ≤ F.node r)) P.req.toNat
  have h2 := h.2.2.1 g hg
  have h3 := h.2.2.2.2.1 g hg
  have h4 := hI.quo g
  omega
def LvRoom (P : QP) (F u : QF) (zz : Int) : Prop := ∃ a : Nat, (a : Int) < P.res ∧ zz = 4 + (a : Int) ∧ u.seen (4 + a) = true ∧ F.load a < P.cap a
def LvPost (P : QP) (F u : QF) (z : Int32) (C : Prop) : Prop := SameF F u ∧ MonF F u ∧ BI P u ∧ ∃ zz : Int, z = iI zz ∧ (-1 ≤ zz ∧ zz ≤ 15) ∧ (zz = -1 → S3 P u ∧ C) ∧ (¬ zz = -1 → LvRoom P F u zz)
theorem bef_rng {P : QP} {F : QF} (hI : PI P) (hB : BI P F) {p : Nat} (hp : (p : Int) < F.qd) : -1 ≤ F.bef (F.que p).toNat ∧ F.bef (F.que p).toNat ≤ 15 := by
  have hr := hI.res
  rcases hB.2.2.2.2.2 p hp with ⟨c, -, -⟩ | ⟨j, r, c1, c2, -⟩
  · omega
  · have := hB.2.2.1 j (by omega)
    omega
theorem BI.q (P : QP) {F : QF} (hB : BI P F) : 0 ≤ F.qd ∧ F.qd ≤ 16 := hB.1
theorem BI.qu {P : QP} {F : QF} (hI : PI P) (hB : BI P F) {p : Nat} (hp : (p : Int) < F.qd) : 0 ≤ F.que p ∧ F.que p ≤ 15 ∧ F.seen (F.que p).toNat = true := by
  have hr := hI.res
  have := hB.2.2.1 p hp
  exact ⟨this.1, by omega, this.2.2⟩
theorem start_BI {P : QP} {F : QF} (h : ∀ n, n < 16 → F.seen n = false) (hq : F.qd = 0) : BI P F := by
  refine ⟨by omega, ?_, fun i hi => by omega, fun n hn hs => by (rw [h n hn] at hs; cases hs), fun i j hi => by omega, fun i hi => by omega⟩
  rw [hq]
  have : cntF F.seen 16 = cntF (fun _ => false) 16 := cntF_congr (fun j hj => h j hj)
  rw [this]
  rfl
theorem SameF.node {F F2 : QF} (h : SameF F F2) (i : Nat) : F2.node i = F.node i := congrFun h.1 i
theorem SameF.acci {F F2 : QF} (h : SameF F F2) (i : Nat) : F2.acc i = F.acc i := congrFun h.2.1 i
theorem SameF.ld {F F2 : QF} (h : SameF F F2) (i : Nat) : F2.load i = F.load i := congrFun h.2.2.1 i
theorem SameF.us {F F2 : QF} (h : SameF F F2) (i : Nat) : F2.used i = F.used i := congrFun h.2.2.2 i
theorem sum_nn {P : QP} (hI : PI P) : 0 ≤ sumF P.asg 4 := by
  have h0 := hI.asg 0
  have h1 := hI.asg 1
  have h2 := hI.asg 2
  have h3 := hI.asg 3
  simp only [sumF]
  omega
