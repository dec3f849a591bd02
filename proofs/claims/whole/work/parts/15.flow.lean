/-! FLOWS: what is assigned at once, augmenting paths, cuts -/
theorem cntF_or {p p1 p2 : Nat → Bool} : ∀ {n : Nat}, (∀ r, r < n → p r = (p1 r || p2 r)) → (∀ r, r < n → (p1 r && p2 r) = false) → cntF p n = cntF p1 n + cntF p2 n
  | 0, _, _ => rfl
  | n + 1, h, hd => by
    have ih := cntF_or (n := n) (fun r hr => h r (by omega)) (fun r hr => hd r (by omega))
    have h1 := h n (by omega)
    have h2 := hd n (by omega)
    simp only [cntF, ih, h1]
    cases e1 : p1 n <;> cases e2 : p2 n
    · simp
    · simp; omega
    · simp; omega
    · rw [e1, e2] at h2; cases h2
theorem sumF_congr {f g : Nat → Int} : ∀ {n : Nat}, (∀ i, i < n → f i = g i) → sumF f n = sumF g n
  | 0, _ => rfl
  | n + 1, h => by simp only [sumF]; rw [sumF_congr (n := n) (fun i hi => h i (by omega)), h n (by omega)]
theorem sumF_le {f g : Nat → Int} : ∀ {n : Nat}, (∀ i, i < n → f i ≤ g i) → sumF f n ≤ sumF g n
  | 0, _ => Int.le_refl _
  | n + 1, h => by
    have h1 := sumF_le (n := n) (fun i hi => h i (by omega))
    have h2 := h n (by omega)
    simp only [sumF]
    omega
theorem sumF_zero : ∀ n, sumF (fun _ => 0) n = 0
  | 0 => rfl
  | n + 1 => by simp only [sumF, sumF_zero n]; rfl
theorem sumF_cnt (f : Nat → Int) (c : Nat → Bool) (p : Nat → Bool) (n : Nat) : ∀ m : Nat, sumF (fun g => if c g then cntF (fun r => decide (f r = (g : Int)) && p r) n else 0) m = cntF (fun r => decide (0 ≤ f r ∧ f r < (m : Int)) && (c (f r).toNat && p r)) n
  | 0 => by
    simp only [sumF]
    symm
    have : cntF (fun r => decide (0 ≤ f r ∧ f r < ((0 : Nat) : Int)) && (c (f r).toNat && p r)) n = cntF (fun _ => false) n := by
      apply cntF_congr
      intro j _
      rw [decide_eq_false (by omega)]
      rfl
    rw [this]
    clear this
    induction n with
    | zero => rfl
    | succ n ih => simp [cntF, ih]
  | m + 1 => by
    have ih := sumF_cnt f c p n m
    simp only [sumF, ih]
    by_cases hc : c m = true
    · rw [if_pos hc]
      symm
      apply cntF_or
      · intro r _
        by_cases e : f r = (m : Int)
        · rw [e]
          have e1 : ((m : Int)).toNat = m := by omega
          rw [e1, hc, decide_eq_true (show (0 : Int) ≤ m ∧ (m : Int) < ((m + 1 : Nat) : Int) by omega), decide_eq_false (show ¬ ((0 : Int) ≤ m ∧ (m : Int) < (m : Int)) by omega), decide_eq_true rfl]
          simp
        · rw [decide_eq_false e]
          have : decide (0 ≤ f r ∧ f r < ((m + 1 : Nat) : Int)) = decide (0 ≤ f r ∧ f r < (m : Int)) := decide_eq_decide.mpr (by omega)
          rw [this]
          simp
      · intro r _
        by_cases e : f r = (m : Int)
        · rw [decide_eq_false (show ¬ (0 ≤ f r ∧ f r < (m : Int)) by omega)]; rfl
        · rw [decide_eq_false e]; simp
    · rw [if_neg hc, Int.add_zero]
      symm
      apply cntF_congr
      intro r _
      by_cases e : f r = (m : Int)
      · rw [e, show ((m : Int)).toNat = m by omega]
        have : c m = false := by simpa using hc
        rw [this]; simp
      · have : decide (0 ≤ f r ∧ f r < ((m + 1 : Nat) : Int)) = decide (0 ≤ f r ∧ f r < (m : Int)) := decide_eq_decide.mpr (by omega)
        rw [this]
def NodeOK (P : QP) (acc : Nat → Int32) (nd : Nat → Int) (r : Nat) : Prop := (P.plc r = -2 ∧ nd r = -1) ∨ (¬ P.plc r = -2 ∧ (nd r = P.grp r ∨ ∃ a : Nat, (a : Int) < P.res ∧ nd r = 4 + (a : Int) ∧ bt (acc r) a = true))
def FV (P : QP) (F : QF) : Prop :=
  (∀ r : Nat, (r : Int) < P.req → NodeOK P F.acc F.node r) ∧
  (∀ a : Nat, (a : Int) < P.res → F.load a = cntF (fun r => decide (F.node r = 4 + (a : Int))) P.req.toNat) ∧
  (∀ g : Nat, g < 4 → F.used g = cntF (fun r => decide (P.grp r = (g : Int)) && decide (4 ≤ F.node r)) P.req.toNat) ∧
  (∀ a : Nat, (a : Int) < P.res → F.load a ≤ P.cap a) ∧ (∀ g : Nat, g < 4 → F.used g ≤ P.quo g) ∧
  (∀ r : Nat, (r : Int) < P.req → ∀ j, j < 32 → bt (F.acc r) j = true → (j : Int) < P.res)
def SameF (F F2 : QF) : Prop := F2.node = F.node ∧ F2.acc = F.acc ∧ F2.load = F.load ∧ F2.used = F.used
theorem SameF.rf (F : QF) : SameF F F := ⟨rfl, rfl, rfl, rfl⟩
theorem SameF.tr {F H K : QF} (h : SameF F H) (g : SameF H K) : SameF F K := by
  obtain ⟨a1, a2, a3, a4⟩ := h
  obtain ⟨b1, b2, b3, b4⟩ := g
  exact ⟨b1.trans a1, b2.trans a2, b3.trans a3, b4.trans a4⟩
theorem FV.same {P : QP} {F F2 : QF} (h : FV P F) (s : SameF F F2) : FV P F2 := by
  obtain ⟨s1, s2, s3, s4⟩ := s
  unfold FV
  rw [s1, s2, s3, s4]
  exact h
def MonF (F F2 : QF) : Prop := (∀ n, F.seen n = true → F2.seen n = true) ∧ F.qd ≤ F2.qd ∧ ∀ i : Nat, (i : Int) < F.qd → F2.que i = F.que i
theorem MonF.rf (F : QF) : MonF F F := ⟨fun _ h => h, Int.le_refl _, fun _ _ => rfl⟩
theorem MonF.tr {F H K : QF} (h : MonF F H) (g : MonF H K) : MonF F K := ⟨fun n q => g.1 n (h.1 n q), Int.le_trans h.2.1 g.2.1, fun i q => (g.2.2 i (Int.lt_of_lt_of_le q h.2.1)).trans (h.2.2 i q)⟩
def EdgeOK (P : QP) (F : QF) (i : Nat) : Prop :=
  (F.bef (F.que i).toNat = -1 ∧ F.que i < 4 ∧ F.used (F.que i).toNat < P.quo (F.que i).toNat) ∨
  ∃ j r : Nat, j < i ∧ F.bef (F.que i).toNat = F.que j ∧ F.car (F.que i).toNat = (r : Int) ∧ (r : Int) < P.req ∧ F.node r = F.que j ∧ ((4 ≤ F.que i ∧ bt (F.acc r) (F.que i - 4).toNat = true) ∨ (F.que i < 4 ∧ 4 ≤ F.que j ∧ P.grp r = F.que i))
def BI (P : QP) (F : QF) : Prop :=
  (0 ≤ F.qd ∧ F.qd ≤ 16) ∧ F.qd = cntF F.seen 16 ∧
  (∀ i : Nat, (i : Int) < F.qd → 0 ≤ F.que i ∧ F.que i < 4 + P.res ∧ F.seen (F.que i).toNat = true) ∧
  (∀ n : Nat, n < 16 → F.seen n = true → ∃ i : Nat, (i : Int) < F.qd ∧ F.que i = (n : Int)) ∧
  (∀ i j : Nat, (i : Int) < F.qd → (j : Int) < F.qd → F.que i = F.que j → i = j) ∧
  (∀ i : Nat, (i : Int) < F.qd → EdgeOK P F i)
def S3 (P : QP) (F : QF) : Prop := ∀ a : Nat, (a : Int) < P.res → F.seen (4 + a) = true → P.cap a ≤ F.load a
def FCl (P : QP) (F : QF) (r : Nat) : Prop := (∀ a : Nat, (a : Int) < P.res → bt (F.acc r) a = true → F.seen (4 + a) = true) ∧ (4 ≤ F.node r → F.seen (P.grp r).toNat = true)
theorem FCl.mon {P : QP} {F F2 : QF} {r : Nat} (h : FCl P F r) (s : SameF F F2) (m : MonF F F2) : FCl P F2 r := by
  obtain ⟨s1, s2, s3, s4⟩ := s
  unfold FCl
  rw [s1, s2]
  exact ⟨fun a ha hb => m.1 _ (h.1 a ha hb), fun q => m.1 _ (h.2 q)⟩
def fReach (F : QF) (to : Nat) (fr rq : Int) : QF := if F.seen to = false ∧ F.qd < 16 then (F.node, F.acc, F.load, F.used, updf F.que F.qd.toNat (to : Int), F.qd + 1, updf F.seen to true, updf F.bef to fr, updf F.car to rq) else F
def ReachOK (P : QP) (F : QF) (to : Nat) (fr rq : Int) : Prop :=
  (to : Int) < 4 + P.res ∧ ((fr = -1 ∧ to < 4 ∧ F.used to < P.quo to) ∨ ∃ r : Nat, rq = (r : Int) ∧ (r : Int) < P.req ∧ F.node r = fr ∧ 0 ≤ fr ∧ fr < 16 ∧ F.seen fr.toNat = true ∧ ((4 ≤ to ∧ bt (F.acc r) (to - 4) = true) ∨ (to < 4 ∧ 4 ≤ fr ∧ P.grp r = (to : Int))))
theorem reach_same (F : QF) (to : Nat) (fr rq : Int) : SameF F (fReach F to fr rq) := by
  unfold fReach
  split
  · exact ⟨rfl, rfl, rfl, rfl⟩
  · exact SameF.rf F
theorem BI_reach {P : QP} {F : QF} {to : Nat} {fr rq : Int} (hI : PI P) (hB : BI P F) (h : ReachOK P F to fr rq) : BI P (fReach F to fr rq) ∧ (fReach F to fr rq).seen to = true ∧ MonF F (fReach F to fr rq) ∧ (∀ n, n ≠ to → (fReach F to fr rq).seen n = F.seen n) := by
  have hr := hI.res
  obtain ⟨h1, h2⟩ := h
  obtain ⟨b0, b1, b2, b3, b4, b5⟩ := id hB
  by_cases hs : F.seen to = true
  · have e : fReach F to fr rq = F := by rw [fReach, if_neg (fun q => by rw [hs] at q; cases q.1)]
    rw [e]
    exact ⟨hB, hs, MonF.rf F, fun _ _ => rfl⟩
  · have hs : F.seen to = false := by simpa using hs
    have hlt : F.qd < 16 := by
      have := cntF_lt (p := F.seen) (q := fun _ => true) (n := 16) (k := to) (by omega) (fun _ _ _ => rfl) hs rfl
      have := cntF_le (fun _ => true) 16
      omega
    have e : fReach F to fr rq = (F.node, F.acc, F.load, F.used, updf F.que F.qd.toNat (to : Int), F.qd + 1, updf F.seen to true, updf F.bef to fr, updf F.car to rq) := by rw [fReach, if_pos ⟨hs, hlt⟩]
    rw [e]
    have hseen : ∀ n, updf F.seen to true n = (F.seen n || decide (n = to)) := by
      intro n
      by_cases q : n = to
      · subst q; rw [updf_same]; simp
      · rw [updf_ne _ _ q, decide_eq_false q, Bool.or_false]
    have hold : ∀ i : Nat, (i : Int) < F.qd → updf F.que F.qd.toNat (to : Int) i = F.que i := fun i hi => updf_ne _ _ (by omega)
    have hnew : updf F.que F.qd.toNat (to : Int) F.qd.toNat = (to : Int) := updf_same _ _ _
    have hnt : ∀ i : Nat, (i : Int) < F.qd → (F.que i).toNat ≠ to := by
      intro i hi q
      have := (b2 i hi).2.2
      rw [q, hs] at this
      cases this
    refine ⟨⟨?_, ?_, ?_, ?_, ?_, ?_⟩, ?_, ⟨?_, ?_, ?_⟩, ?_⟩
    · show 0 ≤ F.qd + 1 ∧ F.qd + 1 ≤ 16
      omega
    · show F.qd + 1 = cntF (updf F.seen to true) 16
      rw [cntF_upd (p := F.seen) (k := to) (by omega) (fun j hj => updf_ne _ _ hj), updf_same, hs, ← b1]
      simp
    · intro i hi
      have hi : (i : Int) < F.qd + 1 := hi
      show 0 ≤ updf F.que F.qd.toNat (to : Int) i ∧ updf F.que F.qd.toNat (to : Int) i < 4 + P.res ∧ updf F.seen to true (updf F.que F.qd.toNat (to : Int) i).toNat = true
      by_cases q : i = F.qd.toNat
      · subst q
        rw [hnew, hseen]
        refine ⟨by omega, h1, ?_⟩
        simp
      · have hi2 : (i : Int) < F.qd := by omega
        rw [hold i hi2, hseen]
        obtain ⟨c1, c2, c3⟩ := b2 i hi2
        exact ⟨c1, c2, by rw [c3]; rfl⟩
    · intro n hn hsn
      have hsn : updf F.seen to true n = true := hsn
      show ∃ i : Nat, (i : Int) < F.qd + 1 ∧ updf F.que F.qd.toNat (to : Int) i = (n : Int)
      by_cases q : n = to
      · subst q; exact ⟨F.qd.toNat, by omega, hnew⟩
      · rw [updf_ne _ _ q] at hsn
        obtain ⟨i, i1, i2⟩ := b3 n hn hsn
        exact ⟨i, by omega, by rw [hold i i1]; exact i2⟩
    · intro i j hi hj hij
      have hi : (i : Int) < F.qd + 1 := hi
      have hj : (j : Int) < F.qd + 1 := hj
      have hij : updf F.que F.qd.toNat (to : Int) i = updf F.que F.qd.toNat (to : Int) j := hij
      by_cases q : i = F.qd.toNat
      · by_cases q2 : j = F.qd.toNat
        · omega
        · exfalso
          rw [q, hnew, hold j (by omega)] at hij
          exact hnt j (by omega) (by omega)
      · by_cases q2 : j = F.qd.toNat
        · exfalso
          rw [q2, hnew, hold i (by omega)] at hij
          exact hnt i (by omega) (by omega)
        · rw [hold i (by omega), hold j (by omega)] at hij
          exact b4 i j (by omega) (by omega) hij
    · intro i hi
      have hi : (i : Int) < F.qd + 1 := hi
      show (updf F.bef to fr (updf F.que F.qd.toNat (to : Int) i).toNat = -1 ∧ updf F.que F.qd.toNat (to : Int) i < 4 ∧ F.used (updf F.que F.qd.toNat (to : Int) i).toNat < P.quo (updf F.que F.qd.toNat (to : Int) i).toNat) ∨ ∃ j r : Nat, j < i ∧ updf F.bef to fr (updf F.que F.qd.toNat (to : Int) i).toNat = updf F.que F.qd.toNat (to : Int) j ∧ updf F.car to rq (updf F.que F.qd.toNat (to : Int) i).toNat = (r : Int) ∧ (r : Int) < P.req ∧ F.node r = updf F.que F.qd.toNat (to : Int) j ∧ ((4 ≤ updf F.que F.qd.toNat (to : Int) i ∧ bt (F.acc r) (updf F.que F.qd.toNat (to : Int) i - 4).toNat = true) ∨ (updf F.que F.qd.toNat (to : Int) i < 4 ∧ 4 ≤ updf F.que F.qd.toNat (to : Int) j ∧ P.grp r = updf F.que F.qd.toNat (to : Int) i))
      by_cases q : i = F.qd.toNat
      · rw [q, hnew, show ((to : Int)).toNat = to by omega, updf_same, updf_same]
        rcases h2 with ⟨c1, c2, c3⟩ | ⟨r, c1, c2, c3, c4, c5, c6, c7⟩
        · exact Or.inl ⟨c1, by omega, c3⟩
        · right
          obtain ⟨j, j1, j2⟩ := b3 fr.toNat (by omega) c6
          refine ⟨j, r, by omega, ?_, c1, c2, ?_, ?_⟩
          · rw [hold j j1, j2]; omega
          · rw [hold j j1, j2, c3]; omega
          · rw [hold j j1, j2, show ((to : Int) - 4).toNat = to - 4 by omega]
            rcases c7 with ⟨d1, d2⟩ | ⟨d1, d2, d3⟩
            · exact Or.inl ⟨by omega, d2⟩
            · exact Or.inr ⟨by omega, by omega, d3⟩
      · have hi2 : (i : Int) < F.qd := by omega
        rw [hold i hi2, updf_ne _ _ (hnt i hi2), updf_ne _ _ (hnt i hi2)]
        rcases b5 i hi2 with c | ⟨j, r, c1, c2, c3, c4, c5, c6⟩
        · exact Or.inl c
        · right
          refine ⟨j, r, c1, ?_, c3, c4, ?_, ?_⟩
          · rw [hold j (by omega)]; exact c2
          · rw [hold j (by omega)]; exact c5
          · rw [hold j (by omega)]; exact c6
    · exact updf_same _ _ _
    · intro n q
      show updf F.seen to true n = true
      rw [hseen, q]; rfl
    · show F.qd ≤ F.qd + 1
      omega
    · exact hold
    · intro n q
      exact updf_ne _ _ q
/-- on the way back along an augmenting path: the node at place p of the queue is next; all counts are right but for it and the end -/
def ShI (P : QP) (F : QF) (nd : Nat → Int) (en p : Nat) : Prop :=
  (p : Int) < F.qd ∧
  (∀ b : Nat, (b : Int) < P.res → cntF (fun r => decide (nd r = 4 + (b : Int))) P.req.toNat = F.load b + (if b = en then 1 else 0) - (if F.que p = 4 + (b : Int) then 1 else 0)) ∧
  (∀ g : Nat, g < 4 → cntF (fun r => decide (P.grp r = (g : Int)) && decide (4 ≤ nd r)) P.req.toNat = F.used g + (if F.que p = (g : Int) then 1 else 0)) ∧
  (∀ r : Nat, (r : Int) < P.req → NodeOK P F.acc nd r) ∧
  (∀ i r : Nat, i ≤ p → F.bef (F.que i).toNat ≠ -1 → F.car (F.que i).toNat = (r : Int) → nd r = F.bef (F.que i).toNat)
theorem sh_start {P : QP} {F : QF} {en p : Nat} (hV : FV P F) (hB : BI P F) (hp : (p : Int) < F.qd) (he : F.que p = 4 + (en : Int)) : ShI P F F.node en p := by
  obtain ⟨v1, v2, v3, v4, v5, v6⟩ := hV
  obtain ⟨b0, b1, b2, b3, b4, b5⟩ := hB
  refine ⟨hp, fun b hb => ?_, fun g hg => ?_, v1, fun i r hi h1 h2 => ?_⟩
  · rw [← v2 b hb, he]
    by_cases q : b = en
    · subst q; rw [if_pos rfl, if_pos rfl]; omega
    · rw [if_neg q, if_neg (by omega)]; omega
  · rw [← v3 g hg, he, if_neg (by omega)]; omega
  · rcases b5 i (by omega) with ⟨c, -, -⟩ | ⟨j, r2, c1, c2, c3, c4, c5, c6⟩
    · exact absurd c h1
    · have e : r = r2 := by rw [h2] at c3; omega
      subst e
      rw [c5, c2]
theorem sh_step {P : QP} {F : QF} {nd : Nat → Int} {en p : Nat} (hI : PI P) (hB : BI P F) (hen : (en : Int) < P.res) (h : ShI P F nd en p) (hb : F.bef (F.que p).toNat ≠ -1) : ∃ j r : Nat, j < p ∧ F.bef (F.que p).toNat = F.que j ∧ F.car (F.que p).toNat = (r : Int) ∧ (r : Int) < P.req ∧ ShI P F (updf nd r (F.que p)) en j := by
  obtain ⟨b0, b1, b2, b3, b4, b5⟩ := hB
  obtain ⟨s0, s1, s2, s3, s4⟩ := h
  rcases b5 p s0 with ⟨c, -, -⟩ | ⟨j, r, c1, c2, c3, c4, c5, c6⟩
  · exact absurd c hb
  · have hnd : nd r = F.que j := by rw [← c2]; exact s4 p r (Nat.le_refl _) hb c3
    have hrn : r < P.req.toNat := by omega
    have hqj := b2 j (by omega)
    have hqp := b2 p s0
    refine ⟨j, r, c1, c2, c3, c4, by omega, fun b hb2 => ?_, fun g hg => ?_, fun x hx => ?_, fun i x hi h1 h2 => ?_⟩
    · rw [cntF_upd (p := fun x => decide (nd x = 4 + (b : Int))) (q := fun x => decide (updf nd r (F.que p) x = 4 + (b : Int))) hrn (fun x hx => by simp only [updf_ne _ _ hx]), s1 b hb2, updf_same, hnd]
      by_cases q1 : F.que j = 4 + (b : Int) <;> by_cases q2 : F.que p = 4 + (b : Int) <;> simp [q1, q2] <;> omega
    · rw [cntF_upd (p := fun x => decide (P.grp x = (g : Int)) && decide (4 ≤ nd x)) (q := fun x => decide (P.grp x = (g : Int)) && decide (4 ≤ updf nd r (F.que p) x)) hrn (fun x hx => by simp only [updf_ne _ _ hx]), s2 g hg, updf_same, hnd]
      have hno := s3 r c4
      have hg2 := hI.grp r
      rcases c6 with ⟨d1, d2⟩ | ⟨d1, d2, d3⟩
      · -- to a resource
        by_cases q : 4 ≤ F.que j
        · have e1 : ¬ F.que p = (g : Int) := by omega
          have e2 : ¬ F.que j = (g : Int) := by omega
          rw [if_neg e1, if_neg e2, decide_eq_true q, decide_eq_true d1]
          omega
        · have hgr : P.grp r = F.que j := by
            rcases hno with ⟨z1, z2⟩ | ⟨z1, z2 | ⟨a, z2, z3, z4⟩⟩
            · rw [hnd] at z2; omega
            · rw [hnd] at z2; exact z2.symm
            · rw [hnd] at z3; omega
          have e1 : ¬ F.que p = (g : Int) := by omega
          rw [if_neg e1, decide_eq_false q, decide_eq_true d1, hgr]
          by_cases z : F.que j = (g : Int)
          · rw [if_pos z, decide_eq_true z]; simp
          · rw [if_neg z, decide_eq_false z]; simp
      · have e2 : ¬ F.que j = (g : Int) := by omega
        rw [if_neg e2, decide_eq_true d2, decide_eq_false (show ¬ 4 ≤ F.que p by omega), d3]
        by_cases z : F.que p = (g : Int)
        · rw [if_pos z, decide_eq_true z]; simp <;> omega
        · rw [if_neg z, decide_eq_false z]; simp
    · by_cases e : x = r
      · subst e
        unfold NodeOK
        rw [updf_same]
        have hno := s3 x hx
        have hnd2 : ¬ P.plc x = -2 := by
          rcases hno with ⟨z1, z2⟩ | ⟨z1, -⟩
          · rw [hnd] at z2; omega
          · exact z1
        rcases c6 with ⟨d1, d2⟩ | ⟨d1, d2, d3⟩
        · exact Or.inr ⟨hnd2, Or.inr ⟨(F.que p - 4).toNat, by omega, by omega, d2⟩⟩
        · exact Or.inr ⟨hnd2, Or.inl d3.symm⟩
      · have := s3 x hx
        unfold NodeOK
        rw [updf_ne _ _ e]
        exact this
    · by_cases e : x = r
      · exfalso
        subst e
        have z1 := s4 i x (by omega) h1 h2
        rw [hnd] at z1
        rcases b5 i (by omega) with ⟨c, -, -⟩ | ⟨j2, r2, d1, d2, d3, d4, d5, d6⟩
        · exact h1 c
        · have := b4 j j2 (by omega) (by omega) (by rw [z1, d2])
          omega
      · rw [updf_ne _ _ e]
        exact s4 i x (by omega) h1 h2
theorem sh_end {P : QP} {F : QF} {nd : Nat → Int} {en p : Nat} (hI : PI P) (hV : FV P F) (hB : BI P F) (hen : (en : Int) < P.res) (hroom : F.load en < P.cap en) (h : ShI P F nd en p) (hb : F.bef (F.que p).toNat = -1) :
    0 ≤ F.que p ∧ F.que p < 4 ∧ FV P (nd, F.acc, updf F.load en (F.load en + 1), updf F.used (F.que p).toNat (F.used (F.que p).toNat + 1), F.2.2.2.2) ∧ sumF (updf F.used (F.que p).toNat (F.used (F.que p).toNat + 1)) 4 = sumF F.used 4 + 1 := by
  obtain ⟨v1, v2, v3, v4, v5, v6⟩ := hV
  obtain ⟨b0, b1, b2, b3, b4, b5⟩ := hB
  obtain ⟨s0, s1, s2, s3, s4⟩ := h
  have hqp := b2 p s0
  have hst : F.que p < 4 ∧ F.used (F.que p).toNat < P.quo (F.que p).toNat := by
    rcases b5 p s0 with ⟨c1, c2, c3⟩ | ⟨j, r, c1, c2, -⟩
    · exact ⟨c2, c3⟩
    · have := b2 j (by omega)
      omega
  obtain ⟨st1, st2⟩ := hst
  refine ⟨hqp.1, st1, ⟨s3, fun a ha => ?_, fun g hg => ?_, fun a ha => ?_, fun g hg => ?_, v6⟩, ?_⟩
  · show updf F.load en (F.load en + 1) a = cntF (fun r => decide (nd r = 4 + (a : Int))) P.req.toNat
    rw [s1 a ha, if_neg (show ¬ F.que p = 4 + (a : Int) by omega)]
    by_cases e : a = en
    · subst e; rw [updf_same, if_pos rfl]; omega
    · rw [updf_ne _ _ e, if_neg e]; omega
  · show updf F.used (F.que p).toNat (F.used (F.que p).toNat + 1) g = cntF (fun r => decide (P.grp r = (g : Int)) && decide (4 ≤ nd r)) P.req.toNat
    rw [s2 g hg]
    by_cases e : g = (F.que p).toNat
    · subst e; rw [updf_same, if_pos (by omega)]
    · rw [updf_ne _ _ e, if_neg (by omega)]; omega
  · show updf F.load en (F.load en + 1) a ≤ P.cap a
    by_cases e : a = en
    · subst e; rw [updf_same]; omega
    · rw [updf_ne _ _ e]; exact v4 a ha
  · show updf F.used (F.que p).toNat (F.used (F.que p).toNat + 1) g ≤ P.quo g
    by_cases e : g = (F.que p).toNat
    · subst e; rw [updf_same]; omega
    · rw [updf_ne _ _ e]; exact v5 g hg
  · obtain ⟨z, hz⟩ : ∃ z : Nat, z = (F.que p).toNat := ⟨_, rfl⟩
    rw [← hz]
    have hz4 : z < 4 := by omega
    simp only [sumF]
    rcases (by omega : z = 0 ∨ z = 1 ∨ z = 2 ∨ z = 3) with q | q | q | q <;> subst q <;> simp [updf] <;> omega
/-- a cut: groups by their quotas, resources by their capacities, and the requests that remain -/
def cutV (P : QP) (acc : Nat → Int32) (cg ca : Nat → Bool) : Int :=
  sumF (fun g => if cg g then P.quo g else 0) 4 + sumF (fun a => if ca a then P.cap a else 0) P.res.toNat + cntF (fun r => decide (¬ P.plc r = -2) && (!cg (P.grp r).toNat && exB (fun a => bt (acc r) a && !ca a) P.res.toNat)) P.req.toNat
def IsMin (P : QP) (acc : Nat → Int32) (v : Int) : Prop := (∃ cg ca, cutV P acc cg ca = v) ∧ ∀ cg ca, v ≤ cutV P acc cg ca
theorem IsMin.uniq {P : QP} {acc : Nat → Int32} {v u : Int} (h : IsMin P acc v) (g : IsMin P acc u) : v = u := by
  obtain ⟨⟨a, b, e⟩, h2⟩ := h
  obtain ⟨⟨c, d, f⟩, g2⟩ := g
  have := h2 c d
  have := g2 a b
  omega
theorem node_cases {P : QP} {F : QF} (hI : PI P) {r : Nat} (h : NodeOK P F.acc F.node r) (h4 : 4 ≤ F.node r) : ¬ P.plc r = -2 ∧ ∃ a : Nat, (a : Int) < P.res ∧ F.node r = 4 + (a : Int) ∧ bt (F.acc r) a = true := by
  have hg := hI.grp r
  rcases h with ⟨z1, z2⟩ | ⟨z1, z2 | z2⟩
  · omega
  · omega
  · exact ⟨z1, z2⟩
theorem flow_sum {P : QP} {F : QF} (hI : PI P) (hV : FV P F) (c : Nat → Bool) : sumF (fun g => if c g then F.used g else 0) 4 = cntF (fun r => c (P.grp r).toNat && decide (4 ≤ F.node r)) P.req.toNat := by
  have h := sumF_cnt P.grp c (fun r => decide (4 ≤ F.node r)) P.req.toNat 4
  rw [sumF_congr (g := fun g => if c g then cntF (fun r => decide (P.grp r = (g : Int)) && decide (4 ≤ F.node r)) P.req.toNat else 0) (fun i hi => by rw [hV.2.2.1 i hi]), h]
  apply cntF_congr
  intro j _
  have := hI.grp j
  rw [decide_eq_true (show 0 ≤ P.grp j ∧ P.grp j < ((4 : Nat) : Int) by omega), Bool.true_and]
theorem load_sum {P : QP} {F : QF} (hI : PI P) (hV : FV P F) (c : Nat → Bool) : sumF (fun a => if c a then F.load a else 0) P.res.toNat = cntF (fun r => c (F.node r - 4).toNat && decide (4 ≤ F.node r)) P.req.toNat := by
  have hr := hI.res
  have h := sumF_cnt (fun r => F.node r - 4) c (fun _ => true) P.req.toNat P.res.toNat
  rw [sumF_congr (g := fun a => if c a then cntF (fun r => decide (F.node r - 4 = (a : Int)) && true) P.req.toNat else 0) (fun i hi => by
    rw [hV.2.1 i (by omega)]
    have : cntF (fun r => decide (F.node r = 4 + (i : Int))) P.req.toNat = cntF (fun r => decide (F.node r - 4 = (i : Int)) && true) P.req.toNat := by
      apply cntF_congr
      intro j _
      rw [Bool.and_true]
      exact decide_eq_decide.mpr (by omega)
    rw [this]), h]
  apply cntF_congr
  intro j hj
  by_cases h4 : 4 ≤ F.node j
  · obtain ⟨-, a, a1, a2, -⟩ := node_cases hI (hV.1 j (by omega)) h4
    rw [decide_eq_true h4, decide_eq_true (show 0 ≤ F.node j - 4 ∧ F.node j - 4 < (P.res.toNat : Int) by omega)]
    simp
  · rw [decide_eq_false h4, decide_eq_false (show ¬ (0 ≤ F.node j - 4 ∧ F.node j - 4 < (P.res.toNat : Int)) by omega)]
    simp
theorem flow_tot {P : QP} {F : QF} (hI : PI P) (hV : FV P F) : sumF F.used 4 = cntF (fun r => decide (4 ≤ F.node r)) P.req.toNat := by
  have h := flow_sum hI hV (fun _ => true)
  simpa using h
/-- no flow passes a cut's value -/
theorem flow_weak {P : QP} {F : QF} (hI : PI P) (hV : FV P F) (cg ca : Nat → Bool) : sumF F.used 4 ≤ cutV P F.acc cg ca := by
  have hr := hI.res
  rw [flow_tot hI hV]
  have e1 := flow_sum hI hV cg
  have e2 := load_sum hI hV ca
  have l1 : sumF (fun g => if cg g then F.used g else 0) 4 ≤ sumF (fun g => if cg g then P.quo g else 0) 4 := sumF_le (fun i hi => by
    have := hV.2.2.2.2.1 i hi
    split <;> omega)
  have l2 : sumF (fun a => if ca a then F.load a else 0) P.res.toNat ≤ sumF (fun a => if ca a then P.cap a else 0) P.res.toNat := sumF_le (fun i hi => by
    have := hV.2.2.2.1 i (by omega)
    split <;> omega)
  have s1 : cntF (fun r => decide (4 ≤ F.node r)) P.req.toNat = cntF (fun r => cg (P.grp r).toNat && decide (4 ≤ F.node r)) P.req.toNat + cntF (fun r => !cg (P.grp r).toNat && decide (4 ≤ F.node r)) P.req.toNat := cntF_or (fun r _ => by cases cg (P.grp r).toNat <;> cases decide (4 ≤ F.node r) <;> rfl) (fun r _ => by cases cg (P.grp r).toNat <;> cases decide (4 ≤ F.node r) <;> rfl)
  have s2 : cntF (fun r => !cg (P.grp r).toNat && decide (4 ≤ F.node r)) P.req.toNat = cntF (fun r => (!cg (P.grp r).toNat && decide (4 ≤ F.node r)) && ca (F.node r - 4).toNat) P.req.toNat + cntF (fun r => (!cg (P.grp r).toNat && decide (4 ≤ F.node r)) && !ca (F.node r - 4).toNat) P.req.toNat := cntF_or (fun r _ => by cases cg (P.grp r).toNat <;> cases decide (4 ≤ F.node r) <;> cases ca (F.node r - 4).toNat <;> rfl) (fun r _ => by cases cg (P.grp r).toNat <;> cases decide (4 ≤ F.node r) <;> cases ca (F.node r - 4).toNat <;> rfl)
  have s3 : cntF (fun r => (!cg (P.grp r).toNat && decide (4 ≤ F.node r)) && ca (F.node r - 4).toNat) P.req.toNat ≤ cntF (fun r => ca (F.node r - 4).toNat && decide (4 ≤ F.node r)) P.req.toNat := cntF_mono (fun r _ h => by
    revert h
    cases cg (P.grp r).toNat <;> cases decide (4 ≤ F.node r) <;> cases ca (F.node r - 4).toNat <;> simp)
  have s4 : cntF (fun r => (!cg (P.grp r).toNat && decide (4 ≤ F.node r)) && !ca (F.node r - 4).toNat) P.req.toNat ≤ cntF (fun r => decide (¬ P.plc r = -2) && (!cg (P.grp r).toNat && exB (fun a => bt (F.acc r) a && !ca a) P.res.toNat)) P.req.toNat := cntF_mono (fun r hr2 h => by
    simp only [Bool.and_eq_true, decide_eq_true_eq] at h
    obtain ⟨⟨h1, h2⟩, h3⟩ := h
    obtain ⟨d, a, a1, a2, a3⟩ := node_cases hI (hV.1 r (by omega)) h2
    rw [a2, show (4 + (a : Int) - 4).toNat = a by omega] at h3
    rw [decide_eq_true d, h1, exB_iff.mpr ⟨a, by omega, by rw [a3, h3]; rfl⟩]
    rfl)
  unfold cutV
  omega
/-- where no path augments, a cut is reached -/
def NoAug (P : QP) (F : QF) : Prop := (∀ g : Nat, g < 4 → F.used g < P.quo g → F.seen g = true) ∧ S3 P F ∧ ∀ r : Nat, (r : Int) < P.req → 0 ≤ F.node r → F.seen (F.node r).toNat = true → FCl P F r
theorem flow_cut {P : QP} {F : QF} (hI : PI P) (hV : FV P F) (hN : NoAug P F) : cutV P F.acc (fun g => !F.seen g) (fun a => F.seen (4 + a)) = sumF F.used 4 := by
  have hr := hI.res
  obtain ⟨n1, n2, n3⟩ := hN
  rw [flow_tot hI hV]
  have e1 := flow_sum hI hV (fun g => !F.seen g)
  have e2 := load_sum hI hV (fun a => F.seen (4 + a))
  have l1 : sumF (fun g => if (!F.seen g) = true then P.quo g else 0) 4 = sumF (fun g => if (!F.seen g) = true then F.used g else 0) 4 := sumF_congr (fun i hi => by
    have h1 := hV.2.2.2.2.1 i hi
    have h2 := n1 i hi
    cases e : F.seen i
    · have : ¬ F.used i < P.quo i := fun q => by rw [h2 q] at e; cases e
      simp; omega
    · simp)
  have l2 : sumF (fun a => if F.seen (4 + a) = true then P.cap a else 0) P.res.toNat = sumF (fun a => if F.seen (4 + a) = true then F.load a else 0) P.res.toNat := sumF_congr (fun i hi => by
    have h1 := hV.2.2.2.1 i (by omega)
    have h2 := n2 i (by omega)
    cases e : F.seen (4 + i)
    · simp
    · have := h2 e
      simp; omega)
  have s1 : cntF (fun r => decide (4 ≤ F.node r)) P.req.toNat = cntF (fun r => !F.seen (P.grp r).toNat && decide (4 ≤ F.node r)) P.req.toNat + cntF (fun r => F.seen (P.grp r).toNat && decide (4 ≤ F.node r)) P.req.toNat := cntF_or (fun r _ => by cases F.seen (P.grp r).toNat <;> cases decide (4 ≤ F.node r) <;> rfl) (fun r _ => by cases F.seen (P.grp r).toNat <;> cases decide (4 ≤ F.node r) <;> rfl)
  have s2 : cntF (fun r => F.seen (P.grp r).toNat && decide (4 ≤ F.node r)) P.req.toNat = cntF (fun r => F.seen (4 + (F.node r - 4).toNat) && decide (4 ≤ F.node r)) P.req.toNat + cntF (fun r => decide (¬ P.plc r = -2) && (!(!F.seen (P.grp r).toNat) && exB (fun a => bt (F.acc r) a && !F.seen (4 + a)) P.res.toNat)) P.req.toNat := cntF_or (fun r hr2 => by
      have hno := hV.1 r (by omega)
      by_cases h4 : 4 ≤ F.node r
      · obtain ⟨d, a, a1, a2, a3⟩ := node_cases hI hno h4
        rw [decide_eq_true h4, decide_eq_true d, a2, show (4 + (a : Int) - 4).toNat = a by omega]
        cases e : F.seen (4 + a)
        · rw [exB_iff.mpr ⟨a, by omega, by rw [a3, e]; rfl⟩]
          cases F.seen (P.grp r).toNat <;> rfl
        · have := (n3 r (by omega) (by omega) (by rw [a2, show (4 + (a : Int)).toNat = 4 + a by omega]; exact e)).2 h4
          rw [this]; rfl
      · rw [decide_eq_false h4, Bool.and_false, Bool.and_false, Bool.false_or]
        symm
        have hg := hI.grp r
        cases es : F.seen (P.grp r).toNat
        · simp
        · rcases hno with ⟨z1, z2⟩ | ⟨z1, z2 | ⟨a, z2, z3, z4⟩⟩
          · rw [decide_eq_false (fun q => q z1)]; rfl
          · have hcl := (n3 r (by omega) (by omega) (by rw [z2]; exact es)).1
            have : exB (fun a => bt (F.acc r) a && !F.seen (4 + a)) P.res.toNat = false := exB_no.mpr (fun k hk => by
              cases e : bt (F.acc r) k
              · rfl
              · rw [hcl k (by omega) e]; rfl)
            rw [this]; simp
          · omega) (fun r hr2 => by
      have hno := hV.1 r (by omega)
      by_cases h4 : 4 ≤ F.node r
      · obtain ⟨d, a, a1, a2, a3⟩ := node_cases hI hno h4
        rw [a2, show (4 + (a : Int) - 4).toNat = a by omega]
        cases e : F.seen (4 + a)
        · simp
        · have hcl := (n3 r (by omega) (by omega) (by rw [a2, show (4 + (a : Int)).toNat = 4 + a by omega]; exact e)).1
          have : exB (fun a => bt (F.acc r) a && !F.seen (4 + a)) P.res.toNat = false := exB_no.mpr (fun k hk => by
            cases e2 : bt (F.acc r) k
            · rfl
            · rw [hcl k (by omega) e2]; rfl)
          rw [this]; simp
      · rw [decide_eq_false h4]; simp)
  unfold cutV
  rw [l1, l2, e1, e2]
  show _ + _ + cntF (fun r => decide (¬ P.plc r = -2) && (!(!F.seen (P.grp r).toNat) && exB (fun a => bt (F.acc r) a && !F.seen (4 + a)) P.res.toNat)) P.req.toNat = _
  have s3 : cntF (fun r => F.seen (4 + (F.node r - 4).toNat) && decide (4 ≤ F.node r)) P.req.toNat = cntF (fun r => (fun a => F.seen (4 + a)) (F.node r - 4).toNat && decide (4 ≤ F.node r)) P.req.toNat := rfl
  omega
theorem min_noaug {P : QP} {F : QF} (hI : PI P) (hV : FV P F) (hN : NoAug P F) : IsMin P F.acc (sumF F.used 4) := ⟨⟨_, _, flow_cut hI hV hN⟩, fun cg ca => flow_weak hI hV cg ca⟩
theorem min_full {P : QP} {F : QF} (hI : PI P) (hV : FV P F) (h : P.req ≤ sumF F.used 4) : IsMin P F.acc (sumF F.used 4) := by
  have h1 := flow_weak hI hV (fun _ => false) (fun _ => false)
  have hq := hI.req
  have h2 : cutV P F.acc (fun _ => false) (fun _ => false) ≤ P.req := by
    unfold cutV
    have a1 : sumF (fun g => if (fun _ : Nat => false) g = true then P.quo g else 0) 4 = 0 := by simp [sumF]
    have a2 : sumF (fun a => if (fun _ : Nat => false) a = true then P.cap a else 0) P.res.toNat = 0 := by
      have : sumF (fun a => if (fun _ : Nat => false) a = true then P.cap a else 0) P.res.toNat = sumF (fun _ => 0) P.res.toNat := sumF_congr (fun i _ => by simp)
      rw [this, sumF_zero]
    rw [a1, a2]
    have := cntF_le (fun r => decide (¬ P.plc r = -2) && (!(fun _ : Nat => false) (P.grp r).toNat && exB (fun a => bt (F.acc r) a && !(fun _ : Nat => false) a) P.res.toNat)) P.req.toNat
    omega
  exact ⟨⟨fun _ => false, fun _ => false, by omega⟩, fun cg ca => flow_weak hI hV cg ca⟩
