/-! PLACING ALONG A PATH, ONE TRY, A RUN -/
def PFa (P : QP) : Prop := ∀ x : Nat, (x : Int) < P.req → 0 ≤ P.plc x → bt (P.acc x) (P.plc x).toNat = true
def plS (P : QP) (l : QL) (r : Nat) (rs rq : Nat → Int) : Nat → QP × QL
  | 0 => (pAssign P r (rs 0).toNat, l)
  | i + 1 => (pMove (plS P l r rs rq i).1 (rq i).toNat (rs (i + 1)).toNat, lAdd (plS P l r rs rq i).2 (rq i) (rs (i + 1)))
/-- what a placing's path must be -/
def PathOK (P : QP) (r : Nat) (rs rq : Nat → Int) (L : Nat) : Prop :=
  (r : Int) < P.req ∧ P.plc r = -1 ∧ 1 ≤ L ∧ L ≤ 12 ∧ (∀ i, i < L → 0 ≤ rs i ∧ rs i < P.res) ∧ (∀ i j, i < L → j < L → rs i = rs j → i = j) ∧ bt (P.acc r) (rs 0).toNat = true ∧
  (∀ i, i + 1 < L → 0 ≤ rq i ∧ rq i < P.req ∧ P.plc (rq i).toNat = rs i ∧ P.mov (rq i).toNat < P.ml ∧ bt (P.acc (rq i).toNat) (rs (i + 1)).toNat = true)
/-- same but places, moves, counts -/
def SameQ (P P2 : QP) : Prop := P2.res = P.res ∧ P2.cap = P.cap ∧ P2.quo = P.quo ∧ P2.wei = P.wei ∧ P2.req = P.req ∧ P2.grp = P.grp ∧ P2.acc = P.acc ∧ P2.pl = P.pl ∧ P2.ml = P.ml
theorem SameQ.rf (P : QP) : SameQ P P := ⟨rfl, rfl, rfl, rfl, rfl, rfl, rfl, rfl, rfl⟩
theorem SameQ.tr {P Q S : QP} (h : SameQ P Q) (g : SameQ Q S) : SameQ P S := by
  obtain ⟨a1, a2, a3, a4, a5, a6, a7, a8, a9⟩ := h
  obtain ⟨b1, b2, b3, b4, b5, b6, b7, b8, b9⟩ := g
  exact ⟨b1.trans a1, b2.trans a2, b3.trans a3, b4.trans a4, b5.trans a5, b6.trans a6, b7.trans a7, b8.trans a8, b9.trans a9⟩
theorem same_put (P : QP) (r : Nat) : SameQ P (pPut P r) := ⟨pPut_res P r, pPut_cap P r, pPut_quo P r, pPut_wei P r, pPut_req P r, pPut_grp P r, pPut_acc P r, pPut_pl P r, pPut_ml P r⟩
theorem same_move (P : QP) (r a : Nat) : SameQ P (pMove P r a) := by
  have h := same_put P r
  exact h
theorem pMove_plc (P : QP) (r a x : Nat) : (pMove P r a).plc x = if x = r then (a : Int) else P.plc x := by
  show updf (pPut P r).plc r (a : Int) x = _
  by_cases e : x = r
  · subst e; rw [updf_same, if_pos rfl]
  · rw [updf_ne _ _ e, if_neg e]
    unfold pPut
    split
    · show updf P.plc r (-1) x = _
      rw [updf_ne _ _ e]
    · rfl
theorem pMove_mov (P : QP) (r a x : Nat) : (pMove P r a).mov x = if x = r then P.mov r + 1 else P.mov x := by
  show updf (pPut P r).mov r ((pPut P r).mov r + 1) x = _
  rw [pPut_mov]
  by_cases e : x = r
  · subst e; rw [updf_same, if_pos rfl]
  · rw [updf_ne _ _ e, if_neg e]
theorem pMove_load {P : QP} {r a : Nat} (hp : 0 ≤ P.plc r) (b : Nat) : (pMove P r a).load b = P.load b - (if P.plc r = (b : Int) then 1 else 0) + (if a = b then 1 else 0) := by
  show updf (pPut P r).load a ((pPut P r).load a + 1) b = _
  rw [pPut_pos hp]
  show updf (updf P.load (P.plc r).toNat (P.load (P.plc r).toNat - 1)) a (updf P.load (P.plc r).toNat (P.load (P.plc r).toNat - 1) a + 1) b = _
  by_cases e : b = a
  · subst e
    rw [updf_same, if_pos rfl]
    by_cases e2 : b = (P.plc r).toNat
    · subst e2; rw [updf_same, if_pos (by omega)]
    · rw [updf_ne _ _ e2, if_neg (by omega)]; omega
  · rw [updf_ne _ _ e, if_neg (fun q : a = b => e q.symm)]
    by_cases e2 : b = (P.plc r).toNat
    · subst e2; rw [updf_same, if_pos (by omega)]; omega
    · rw [updf_ne _ _ e2, if_neg (by omega)]; omega
theorem pMove_asg {P : QP} {r a : Nat} (hp : 0 ≤ P.plc r) (g : Nat) : (pMove P r a).asg g = P.asg g := by
  show updf (pPut P r).asg ((pPut P r).grp r).toNat ((pPut P r).asg ((pPut P r).grp r).toNat + 1) g = _
  rw [pPut_grp, pPut_pos hp]
  show updf (updf P.asg (P.grp r).toNat (P.asg (P.grp r).toNat - 1)) (P.grp r).toNat (updf P.asg (P.grp r).toNat (P.asg (P.grp r).toNat - 1) (P.grp r).toNat + 1) g = _
  by_cases e : g = (P.grp r).toNat
  · subst e; rw [updf_same, updf_same]; omega
  · rw [updf_ne _ _ e, updf_ne _ _ e]
/-- step by step -/
def StepOK (P : QP) (l : QL) (r : Nat) (rs rq : Nat → Int) (i : Nat) (Q : QP) (k : QL) : Prop :=
  PI Q ∧ SameQ P Q ∧ (∀ x, x ≠ r → (∀ j, j < i → (rq j).toNat ≠ x) → Q.plc x = P.plc x ∧ Q.mov x = P.mov x) ∧ (∀ x, x ≠ r → (0 ≤ P.plc x → 0 ≤ Q.plc x) ∧ (P.plc x < 0 → Q.plc x = P.plc x)) ∧ 0 ≤ Q.plc r ∧
  (∀ b : Nat, Q.load b = P.load b + (if rs i = (b : Int) then 1 else 0)) ∧ (∀ g : Nat, Q.asg g = P.asg g + (if P.grp r = (g : Int) then 1 else 0)) ∧ (PFa P → PFa Q) ∧ (0 ≤ l.sz → l.sz + i ≤ 200 → k.sz = l.sz + i)
theorem plS_ok {P : QP} {l : QL} {r : Nat} {rs rq : Nat → Int} {L : Nat} (hI : PI P) (h : PathOK P r rs rq L) : ∀ i, i < L → StepOK P l r rs rq i (plS P l r rs rq i).1 (plS P l r rs rq i).2 := by
  obtain ⟨hr, hw, hL1, hL2, h1, h2, h3, h4⟩ := h
  intro i
  induction i with
  | zero =>
    intro hi
    have h10 := h1 0 hi
    refine ⟨PI_assign hI hr (by omega) (by omega), ⟨rfl, rfl, rfl, rfl, rfl, rfl, rfl, rfl, rfl⟩, fun x hx _ => ⟨updf_ne _ _ hx, rfl⟩, fun x hx => ?_, ?_, fun b => ?_, fun g => ?_, fun hF x hx hp => ?_, fun _ _ => by simp [plS]⟩
    · have e : (plS P l r rs rq 0).1.plc x = P.plc x := updf_ne _ _ hx
      rw [e]
      exact ⟨fun q => q, fun _ => rfl⟩
    · show 0 ≤ updf P.plc r ((rs 0).toNat : Int) r
      rw [updf_same]; omega
    · show updf P.load (rs 0).toNat (P.load (rs 0).toNat + 1) b = _
      by_cases e : b = (rs 0).toNat
      · subst e; rw [updf_same, if_pos (by omega)]
      · rw [updf_ne _ _ e, if_neg (by omega)]; omega
    · have hg := hI.grp r
      show updf P.asg (P.grp r).toNat (P.asg (P.grp r).toNat + 1) g = _
      by_cases e : g = (P.grp r).toNat
      · subst e; rw [updf_same, if_pos (by omega)]
      · rw [updf_ne _ _ e, if_neg (by omega)]; omega
    · show bt (P.acc x) (updf P.plc r ((rs 0).toNat : Int) x).toNat = true
      by_cases e : x = r
      · subst e; rw [updf_same]; exact h3
      · rw [updf_ne _ _ e]
        have hp : 0 ≤ updf P.plc r ((rs 0).toNat : Int) x := hp
        rw [updf_ne _ _ e] at hp
        exact hF x hx hp
  | succ i ih =>
    intro hi
    obtain ⟨g1, g2, g3, g4, g5, g6, g7, g8, g9⟩ := ih (by omega)
    obtain ⟨q1, q2, q3, q4, q5⟩ := h4 i hi
    have h1i := h1 i (by omega)
    have h1s := h1 (i + 1) hi
    have hne : (rq i).toNat ≠ r := by
      intro e
      rw [e, hw] at q3
      omega
    have hnj : ∀ j, j < i → (rq j).toNat ≠ (rq i).toNat := by
      intro j hj e
      have a1 := (h4 j (by omega)).2.2.1
      rw [e, q3] at a1
      have := h2 i j (by omega) (by omega) a1
      omega
    obtain ⟨s1, s2⟩ := g3 (rq i).toNat hne hnj
    obtain ⟨e1, e2, e3, e4, e5, e6, e7, e8, e9⟩ := id g2
    have hml := hI.ml
    have hp : 0 ≤ (plS P l r rs rq i).1.plc (rq i).toNat := by rw [s1, q3]; exact h1i.1
    refine ⟨PI_move g1 (by rw [e5]; omega) (by rw [e1]; omega) (by rw [s2]; omega), g2.tr (same_move _ _ _), fun x hx hj => ?_, fun x hx => ?_, ?_, fun b => ?_, fun g => ?_, fun hF x hx hp2 => ?_, fun a1 a2 => ?_⟩
    · obtain ⟨t1, t2⟩ := g3 x hx (fun j hj2 => hj j (by omega))
      have t3 : x ≠ (rq i).toNat := fun e => hj i (by omega) e.symm
      exact ⟨by show (pMove _ _ _).plc x = _; rw [pMove_plc, if_neg t3]; exact t1, by show (pMove _ _ _).mov x = _; rw [pMove_mov, if_neg t3]; exact t2⟩
    · show (0 ≤ P.plc x → 0 ≤ (pMove _ _ _).plc x) ∧ (P.plc x < 0 → (pMove _ _ _).plc x = P.plc x)
      rw [pMove_plc]
      by_cases e : x = (rq i).toNat
      · rw [if_pos e]
        refine ⟨fun _ => by omega, fun q => ?_⟩
        rw [e, q3] at q
        omega
      · rw [if_neg e]; exact g4 x hx
    · show 0 ≤ (pMove _ _ _).plc r
      rw [pMove_plc, if_neg (fun e => hne e.symm)]
      exact g5
    · show (pMove _ _ _).load b = _
      rw [pMove_load hp, s1, q3, g6 b]
      by_cases e : rs i = (b : Int)
      · rw [if_pos e]
        by_cases e8 : (rs (i + 1)).toNat = b
        · rw [if_pos e8, if_pos (by omega)]; omega
        · rw [if_neg e8, if_neg (by omega)]; omega
      · rw [if_neg e]
        by_cases e8 : (rs (i + 1)).toNat = b
        · rw [if_pos e8, if_pos (by omega)]; omega
        · rw [if_neg e8, if_neg (by omega)]; omega
    · show (pMove _ _ _).asg g = _
      rw [pMove_asg hp, g7 g]
    · have hF2 := g8 hF
      have hp2 : 0 ≤ (pMove (plS P l r rs rq i).1 (rq i).toNat (rs (i + 1)).toNat).plc x := hp2
      have ea : (pMove (plS P l r rs rq i).1 (rq i).toNat (rs (i + 1)).toNat).acc = P.acc := (same_move _ _ _).2.2.2.2.2.2.1.trans e7
      show bt ((pMove _ _ _).acc x) ((pMove _ _ _).plc x).toNat = true
      rw [ea]
      rw [pMove_plc] at hp2 ⊢
      by_cases e : x = (rq i).toNat
      · rw [if_pos e]
        rw [e]
        exact q5
      · rw [if_neg e] at hp2 ⊢
        have hx2 : (x : Int) < (plS P l r rs rq i).1.req := by
          have : (x : Int) < (pMove (plS P l r rs rq i).1 (rq i).toNat (rs (i + 1)).toNat).req := hx
          rw [(same_move _ _ _).2.2.2.2.1] at this
          exact this
        have := hF2 x hx2 hp2
        rw [e7] at this
        exact this
    · have a3 := g9 a1 (by omega)
      show (lAdd _ _ _).sz = _
      unfold lAdd
      rw [if_pos (by rw [a3]; omega)]
      show (plS P l r rs rq i).2.sz + 1 = _
      rw [a3]; omega
theorem plS_congr {P : QP} {l : QL} {r : Nat} {rs rq rs2 rq2 : Nat → Int} : ∀ {i : Nat}, (∀ j, j ≤ i → rs2 j = rs j) → (∀ j, j < i → rq2 j = rq j) → plS P l r rs2 rq2 i = plS P l r rs rq i
  | 0, h1, _ => by simp only [plS]; rw [h1 0 (by omega)]
  | i + 1, h1, h2 => by
    simp only [plS]
    rw [plS_congr (i := i) (fun j hj => h1 j (by omega)) (fun j hj => h2 j (by omega)), h1 (i + 1) (by omega), h2 i (by omega)]
/-- the best path of a waiting request is one to place along -/
theorem path_ok {P : QP} (hI : PI P) {r : Nat} (hr : (r : Int) < P.req) (hw : P.plc r = -1) (hL : 1 ≤ minL P (P.acc r)) : PathOK P r (pA P (minL P (P.acc r)) (fstA P (P.acc r))) (pRq P (minL P (P.acc r)) (fstA P (P.acc r))) (minL P (P.acc r)).toNat ∧ (∃ a : Nat, pA P (minL P (P.acc r)) (fstA P (P.acc r)) ((minL P (P.acc r)).toNat - 1) = (a : Int) ∧ P.load a < P.cap a) := by
  rcases minL_spec P hI (P.acc r) with ⟨e1, -, -⟩ | ⟨a, e1, e2, e3, e4, e5, e6, e7⟩
  · omega
  · obtain ⟨n, hn⟩ : ∃ n : Nat, dS P a = (n : Int) := ⟨(dS P a).toNat, by omega⟩
    rw [e3, e6, hn]
    have hp := path_spec P hI hn (by omega) (by omega)
    have et : ((n : Int)).toNat = n := by omega
    rw [et]
    refine ⟨⟨hr, hw, by omega, by omega, fun i hi => ?_, fun i j hi hj hij => ?_, ?_, fun i hi => ?_⟩, ?_⟩
    · obtain ⟨b, b1, b2, b3, b4⟩ := hp i hi
      rw [b2]; omega
    · obtain ⟨b, b1, b2, b3, b4⟩ := hp i hi
      obtain ⟨c, c1, c2, c3, c4⟩ := hp j hj
      rw [b2, c2] at hij
      have ebc : b = c := by omega
      subst ebc
      omega
    · show bt (P.acc r) ((a : Int)).toNat = true
      rw [show ((a : Int)).toNat = a by omega]
      exact e2
    · obtain ⟨b, b1, b2, b3, b4⟩ := hp i (by omega)
      obtain ⟨q, d, d1, d2, d3, d4, d5, d6, d7⟩ := b4 hi
      rw [d2, b2, d6]
      have eq : ((q : Int)).toNat = q := by omega
      have ed : ((d : Int)).toNat = d := by omega
      rw [eq, ed]
      exact ⟨by omega, d1, d3, d4, d7⟩
    · obtain ⟨b, b1, b2, b3, b4⟩ := hp (n - 1) (by omega)
      refine ⟨b, b2, ?_⟩
      clear b4
      have b5 : dS P b = ((1 : Nat) : Int) := by rw [b3]; omega
      have b6 := ((dS_iff hI (by omega) (by omega)).mp b5).1
      rw [sn_succ] at b6
      rcases b6.2 with z | ⟨_, _, _, _, _, _, z⟩
      · exact z
      · cases z
/-- the state behind a placing -/
def plX (P : QP) (l : QL) (r : Nat) : QP × QL := plS P l r (pA P (minL P (P.acc r)) (fstA P (P.acc r))) (pRq P (minL P (P.acc r)) (fstA P (P.acc r))) ((minL P (P.acc r)).toNat - 1)
def canP (P : QP) (r : Nat) : Prop := P.asg (P.grp r).toNat < P.quo (P.grp r).toNat ∧ 1 ≤ minL P (P.acc r) ∧ minL P (P.acc r) - 1 ≤ P.pl
def tryS (P : QP) (l : QL) (r : Nat) : Bool × QP × QL := if P.asg (P.grp r).toNat < P.quo (P.grp r).toNat ∧ 1 ≤ minL P (P.acc r) ∧ minL P (P.acc r) - 1 ≤ P.pl then (true, plX P l r) else (false, P, l)
def servB (P : QP) (g h : Int) : Bool := decide (P.asg g.toNat * P.wei h.toNat < P.asg h.toNat * P.wei g.toNat ∨ (P.asg g.toNat * P.wei h.toNat = P.asg h.toNat * P.wei g.toNat ∧ g < h))
def nxP (P : QP) (T : Nat → Bool) (i : Nat) (b : Int) : Prop := P.plc i = -1 ∧ T i = false ∧ (b = -1 ∨ servB P (P.grp i) (P.grp b.toNat) = true)
def nxF (P : QP) (T : Nat → Bool) : Nat → Int
  | 0 => -1
  | i + 1 => if P.plc i = -1 ∧ T i = false ∧ (nxF P T i = -1 ∨ servB P (P.grp i) (P.grp (nxF P T i).toNat) = true) then (i : Int) else nxF P T i
def runF : Nat → QP → QL → (Nat → Bool) → Int → QP × QL × Int
  | 0, P, l, _, c => (P, l, c)
  | n + 1, P, l, T, c => if nxF P T P.req.toNat = -1 then (P, l, c) else runF n (tryS P l (nxF P T P.req.toNat).toNat).2.1 (tryS P l (nxF P T P.req.toNat).toNat).2.2 (updf T (nxF P T P.req.toNat).toNat true) (c + if (tryS P l (nxF P T P.req.toNat).toNat).1 then 1 else 0)
theorem nxF_spec (P : QP) (T : Nat → Bool) : ∀ n, (nxF P T n = -1) ∨ ∃ k : Nat, k < n ∧ nxF P T n = (k : Int) ∧ P.plc k = -1 ∧ T k = false
  | 0 => Or.inl rfl
  | n + 1 => by
    simp only [nxF]
    split
    · rename_i h
      exact Or.inr ⟨n, by omega, rfl, h.1, h.2.1⟩
    · rcases nxF_spec P T n with h | ⟨k, h1, h2, h3, h4⟩
      · exact Or.inl h
      · exact Or.inr ⟨k, by omega, h2, h3, h4⟩
theorem nxF_congr {P : QP} {T T2 : Nat → Bool} : ∀ {n : Nat}, (∀ j, j < n → T2 j = T j) → nxF P T2 n = nxF P T n
  | 0, _ => rfl
  | n + 1, h => by
    simp only [nxF]
    rw [nxF_congr (n := n) (fun j hj => h j (by omega)), h n (by omega)]
theorem runF_congr : ∀ (n : Nat) {P : QP} {l : QL} {T T2 : Nat → Bool} {c : Int}, (∀ j, j < P.req.toNat → T2 j = T j) → (∀ (P2 : QP) (l2 : QL) (r : Nat), (tryS P2 l2 r).2.1.req = P2.req) → runF n P l T2 c = runF n P l T c
  | 0, _, _, _, _, _, _, _ => rfl
  | n + 1, P, l, T, T2, c, h, hq => by
    simp only [runF]
    rw [nxF_congr h]
    split
    · rfl
    · apply runF_congr n _ hq
      intro j hj
      rw [hq] at hj
      by_cases e : j = (nxF P T P.req.toNat).toNat
      · subst e; rw [updf_same, updf_same]
      · rw [updf_ne _ _ e, updf_ne _ _ e]; exact h j hj
theorem plS_same (P : QP) (l : QL) (r : Nat) (rs rq : Nat → Int) : ∀ i, SameQ P (plS P l r rs rq i).1
  | 0 => ⟨rfl, rfl, rfl, rfl, rfl, rfl, rfl, rfl, rfl⟩
  | i + 1 => (plS_same P l r rs rq i).tr (same_move _ _ _)
theorem tryS_same (P : QP) (l : QL) (r : Nat) : SameQ P (tryS P l r).2.1 := by
  unfold tryS
  split
  · exact plS_same _ _ _ _ _ _
  · exact SameQ.rf P
theorem tryS_ok {P : QP} {l : QL} {r : Nat} (hI : PI P) (hr : (r : Int) < P.req) (hw : P.plc r = -1) : PI (tryS P l r).2.1 ∧ (PFa P → PFa (tryS P l r).2.1) ∧ (∀ x, x ≠ r → (0 ≤ P.plc x → 0 ≤ (tryS P l r).2.1.plc x) ∧ (P.plc x < 0 → (tryS P l r).2.1.plc x = P.plc x)) ∧ (0 ≤ l.sz → l.sz ≤ 195 → l.sz ≤ (tryS P l r).2.2.sz ∧ (tryS P l r).2.2.sz ≤ l.sz + 5) := by
  unfold tryS
  split
  · rename_i h
    obtain ⟨h1, h2, h3⟩ := h
    have hp := (path_ok hI hr hw h2).1
    have hpl := hI.pl
    have hs := plS_ok (l := l) hI hp ((minL P (P.acc r)).toNat - 1) (by omega)
    obtain ⟨g1, g2, g3, g4, g5, g6, g7, g8, g9⟩ := hs
    refine ⟨g1, g8, g4, fun a1 a2 => ?_⟩
    have := g9 a1 (by omega)
    show l.sz ≤ (plX P l r).2.sz ∧ (plX P l r).2.sz ≤ _
    unfold plX
    omega
  · exact ⟨hI, fun h => h, fun x _ => ⟨fun q => q, fun _ => rfl⟩, fun a1 a2 => ⟨Int.le_refl _, by show l.sz ≤ l.sz + 5; omega⟩⟩
theorem mul_rng {a b : Int} (ha : 0 ≤ a ∧ a ≤ 40) (hb : 0 ≤ b ∧ b ≤ 10) : 0 ≤ a * b ∧ a * b ≤ 400 := by
  constructor
  · exact Int.mul_nonneg ha.1 hb.1
  · have h1 := Int.mul_le_mul ha.2 hb.2 hb.1 (by omega : (0 : Int) ≤ 40)
    omega
