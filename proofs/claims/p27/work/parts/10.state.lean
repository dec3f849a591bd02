/-! THE STATES: the pool QP (as the class holds it), its log QL, the searches' rows; the world wC of the service's thirty cells; the model's state QR and its world wR -/
abbrev QP : Type := Int × (Nat → Int) × (Nat → Int) × (Nat → Int) × (Nat → Int) × (Nat → Int) × Int × (Nat → Int) × (Nat → Int32) × (Nat → Int) × (Nat → Int) × Int × Int
abbrev QP.res (P : QP) : Int := P.1
abbrev QP.cap (P : QP) : Nat → Int := P.2.1
abbrev QP.load (P : QP) : Nat → Int := P.2.2.1
abbrev QP.quo (P : QP) : Nat → Int := P.2.2.2.1
abbrev QP.wei (P : QP) : Nat → Int := P.2.2.2.2.1
abbrev QP.asg (P : QP) : Nat → Int := P.2.2.2.2.2.1
abbrev QP.req (P : QP) : Int := P.2.2.2.2.2.2.1
abbrev QP.grp (P : QP) : Nat → Int := P.2.2.2.2.2.2.2.1
abbrev QP.acc (P : QP) : Nat → Int32 := P.2.2.2.2.2.2.2.2.1
abbrev QP.plc (P : QP) : Nat → Int := P.2.2.2.2.2.2.2.2.2.1
abbrev QP.mov (P : QP) : Nat → Int := P.2.2.2.2.2.2.2.2.2.2.1
abbrev QP.pl (P : QP) : Int := P.2.2.2.2.2.2.2.2.2.2.2.1
abbrev QP.ml (P : QP) : Int := P.2.2.2.2.2.2.2.2.2.2.2.2
abbrev QL : Type := (Nat → Int) × (Nat → Int) × Int
abbrev QL.rq (s : QL) : Nat → Int := s.1
abbrev QL.tg (s : QL) : Nat → Int := s.2.1
abbrev QL.sz (s : QL) : Int := s.2.2
abbrev QA : Type := (Nat → Int32) × (Nat → Int32) × (Nat → Int) × (Nat → Int) × Int
abbrev QA.suc (s : QA) : Nat → Int32 := s.1
abbrev QA.lay (s : QA) : Nat → Int32 := s.2.1
abbrev QA.rs (s : QA) : Nat → Int := s.2.2.1
abbrev QA.rq (s : QA) : Nat → Int := s.2.2.2.1
abbrev QA.len (s : QA) : Int := s.2.2.2.2
abbrev QF : Type := (Nat → Int) × (Nat → Int32) × (Nat → Int) × (Nat → Int) × (Nat → Int) × Int × (Nat → Bool) × (Nat → Int) × (Nat → Int)
abbrev QF.node (s : QF) : Nat → Int := s.1
abbrev QF.acc (s : QF) : Nat → Int32 := s.2.1
abbrev QF.load (s : QF) : Nat → Int := s.2.2.1
abbrev QF.used (s : QF) : Nat → Int := s.2.2.2.1
abbrev QF.que (s : QF) : Nat → Int := s.2.2.2.2.1
abbrev QF.qd (s : QF) : Int := s.2.2.2.2.2.1
abbrev QF.seen (s : QF) : Nat → Bool := s.2.2.2.2.2.2.1
abbrev QF.bef (s : QF) : Nat → Int := s.2.2.2.2.2.2.2.1
abbrev QF.car (s : QF) : Nat → Int := s.2.2.2.2.2.2.2.2
abbrev jAI (G : jG) (a : Nat) (N : Nat) (f : Nat → Int32) : Nat × va_E := (a, .inl (G.2 0, N, .inl f))
abbrev jAZ (G : jG) (a : Nat) (N : Nat) (f : Nat → Int32) : Nat × va_E := (a, .inl (G.2 1, N, .inl f))
/-- the thirty cells of a service -/
abbrev wC (G : jG) (ad : Nat → Nat) (P : QP) (l : QL) (A : QA) (T : Nat → Bool) (F : QF) : va_W :=
  [(ad 0, .inr (5, [.ref (ad 1), .ref (ad 2), .ref (ad 3), .ref (ad 4), .ref (ad 5)])),
   (ad 1, .inr (4, [.int (iI P.res), .ref (ad 6), .ref (ad 7), .ref (ad 8), .ref (ad 9), .ref (ad 10), .int (iI P.req), .ref (ad 11), .ref (ad 12), .ref (ad 13), .ref (ad 14), .int (iI P.pl), .int (iI P.ml)])),
   (ad 2, .inr (1, [.ref (ad 15), .ref (ad 16), .int (iI l.sz)])),
   (ad 3, .inr (2, [.ref (ad 1), .ref (ad 17), .ref (ad 18), .ref (ad 19), .ref (ad 20), .int (iI A.len)])),
   (ad 4, .inr (3, [.ref (ad 1), .ref (ad 3), .ref (ad 2), .ref (ad 21)])),
   (ad 5, .inr (0, [.ref (ad 1), .ref (ad 22), .ref (ad 23), .ref (ad 24), .ref (ad 25), .ref (ad 26), .int (iI F.qd), .ref (ad 27), .ref (ad 28), .ref (ad 29)])),
   jAI G (ad 6) 12 (jiI P.cap), jAI G (ad 7) 12 (jiI P.load), jAI G (ad 8) 4 (jiI P.quo), jAI G (ad 9) 4 (jiI P.wei), jAI G (ad 10) 4 (jiI P.asg),
   jAI G (ad 11) 40 (jiI P.grp), jAI G (ad 12) 40 P.acc, jAI G (ad 13) 40 (jiI P.plc), jAI G (ad 14) 40 (jiI P.mov),
   jAI G (ad 15) 200 (jiI l.rq), jAI G (ad 16) 200 (jiI l.tg),
   jAI G (ad 17) 12 A.suc, jAI G (ad 18) 13 A.lay, jAI G (ad 19) 12 (jiI A.rs), jAI G (ad 20) 12 (jiI A.rq),
   jAZ G (ad 21) 40 (jbF T),
   jAI G (ad 22) 40 (jiI F.node), jAI G (ad 23) 40 F.acc, jAI G (ad 24) 12 (jiI F.load), jAI G (ad 25) 4 (jiI F.used), jAI G (ad 26) 16 (jiI F.que),
   jAZ G (ad 27) 16 (jbF F.seen), jAI G (ad 28) 16 (jiI F.bef), jAI G (ad 29) 16 (jiI F.car)]
/-- the model's state, as it holds it -/
abbrev QR : Type := Int × Int × (Nat → Int) × (Nat → Int) × (Nat → Int) × Int × (Nat → Int) × (Nat → Int32) × (Nat → Int) × (Nat → Int) × (Nat → Int) × Int × Int × Int × (Nat → Int) × (Nat → Int) × (Nat → Int) × (Nat → Bool) × (Nat → Int) × (Nat → Int)
abbrev QR.thr (R : QR) : Int := R.1
abbrev QR.res (R : QR) : Int := R.2.1
abbrev QR.cap (R : QR) : Nat → Int := R.2.2.1
abbrev QR.quo (R : QR) : Nat → Int := R.2.2.2.1
abbrev QR.wei (R : QR) : Nat → Int := R.2.2.2.2.1
abbrev QR.req (R : QR) : Int := R.2.2.2.2.2.1
abbrev QR.grp (R : QR) : Nat → Int := R.2.2.2.2.2.2.1
abbrev QR.msk (R : QR) : Nat → Int32 := R.2.2.2.2.2.2.2.1
abbrev QR.st (R : QR) : Nat → Int := R.2.2.2.2.2.2.2.2.1
abbrev QR.pls (R : QR) : Nat → Int := R.2.2.2.2.2.2.2.2.2.1
abbrev QR.mov (R : QR) : Nat → Int := R.2.2.2.2.2.2.2.2.2.2.1
abbrev QR.pl (R : QR) : Int := R.2.2.2.2.2.2.2.2.2.2.2.1
abbrev QR.ml (R : QR) : Int := R.2.2.2.2.2.2.2.2.2.2.2.2.1
abbrev QR.lgd (R : QR) : Int := R.2.2.2.2.2.2.2.2.2.2.2.2.2.1
abbrev QR.lr (R : QR) : Nat → Int := R.2.2.2.2.2.2.2.2.2.2.2.2.2.2.1
abbrev QR.lp (R : QR) : Nat → Int := R.2.2.2.2.2.2.2.2.2.2.2.2.2.2.2.1
abbrev QR.far (R : QR) : Nat → Int := R.2.2.2.2.2.2.2.2.2.2.2.2.2.2.2.2.1
abbrev QR.tri (R : QR) : Nat → Bool := R.2.2.2.2.2.2.2.2.2.2.2.2.2.2.2.2.2.1
abbrev QR.pr (R : QR) : Nat → Int := R.2.2.2.2.2.2.2.2.2.2.2.2.2.2.2.2.2.2.1
abbrev QR.pp (R : QR) : Nat → Int := R.2.2.2.2.2.2.2.2.2.2.2.2.2.2.2.2.2.2.2
/-- the model's fifteen cells -/
abbrev wR (G : jG) (ad : Nat → Nat) (s : QR) : va_W :=
  [(ad 0, .inr (6, [.int (iI s.thr), .int (iI s.res), .ref (ad 1), .ref (ad 2), .ref (ad 3), .int (iI s.req), .ref (ad 4), .ref (ad 5), .ref (ad 6), .ref (ad 7), .ref (ad 8), .int (iI s.pl), .int (iI s.ml), .int (iI s.lgd), .ref (ad 9), .ref (ad 10), .ref (ad 11), .ref (ad 12), .ref (ad 13), .ref (ad 14)])),
   jAI G (ad 1) 12 (jiI s.cap), jAI G (ad 2) 4 (jiI s.quo), jAI G (ad 3) 4 (jiI s.wei), jAI G (ad 4) 40 (jiI s.grp), jAI G (ad 5) 40 s.msk, jAI G (ad 6) 40 (jiI s.st), jAI G (ad 7) 40 (jiI s.pls), jAI G (ad 8) 40 (jiI s.mov),
   jAI G (ad 9) 400 (jiI s.lr), jAI G (ad 10) 400 (jiI s.lp), jAI G (ad 11) 12 (jiI s.far), jAZ G (ad 12) 40 (jbF s.tri), jAI G (ad 13) 12 (jiI s.pr), jAI G (ad 14) 12 (jiI s.pp)]
/-- how many numbers below n have p -/
def cntF (p : Nat → Bool) : Nat → Int
  | 0 => 0
  | n + 1 => cntF p n + (if p n then 1 else 0)
/-- the ranges of a pool's numbers, and its counts -/
def PR (P : QP) : Prop := (0 ≤ P.res ∧ P.res ≤ 12) ∧ (0 ≤ P.req ∧ P.req ≤ 40) ∧ (0 ≤ P.pl ∧ P.pl ≤ 5) ∧ (0 ≤ P.ml ∧ P.ml ≤ 20) ∧ (∀ i, 0 ≤ P.cap i ∧ P.cap i ≤ 4) ∧ (∀ i, 0 ≤ P.quo i ∧ P.quo i ≤ 40) ∧ (∀ i, 0 ≤ P.wei i ∧ P.wei i ≤ 10) ∧ (∀ i, i < 4 → 1 ≤ P.wei i) ∧ (∀ i, 0 ≤ P.grp i ∧ P.grp i ≤ 3) ∧ (∀ i, -2 ≤ P.plc i ∧ P.plc i ≤ 11) ∧ (∀ i, 0 ≤ P.mov i ∧ P.mov i ≤ 20) ∧ (∀ i : Nat, (i : Int) < P.req → P.plc i < P.res)
def PCt (P : QP) : Prop := (∀ a : Nat, P.load a = cntF (fun r => decide (P.plc r = (a : Int))) P.req.toNat) ∧ (∀ g : Nat, P.asg g = cntF (fun r => decide (0 ≤ P.plc r ∧ P.grp r = (g : Int))) P.req.toNat)
def PI (P : QP) : Prop := PR P ∧ PCt P
section
variable {P : QP}
theorem PI.res (h : PI P) : 0 ≤ P.res ∧ P.res ≤ 12 := h.1.1
theorem PI.req (h : PI P) : 0 ≤ P.req ∧ P.req ≤ 40 := h.1.2.1
theorem PI.pl (h : PI P) : 0 ≤ P.pl ∧ P.pl ≤ 5 := h.1.2.2.1
theorem PI.ml (h : PI P) : 0 ≤ P.ml ∧ P.ml ≤ 20 := h.1.2.2.2.1
theorem PI.cap (h : PI P) (i : Nat) : 0 ≤ P.cap i ∧ P.cap i ≤ 4 := h.1.2.2.2.2.1 i
theorem PI.quo (h : PI P) (i : Nat) : 0 ≤ P.quo i ∧ P.quo i ≤ 40 := h.1.2.2.2.2.2.1 i
theorem PI.wei (h : PI P) (i : Nat) : 0 ≤ P.wei i ∧ P.wei i ≤ 10 := h.1.2.2.2.2.2.2.1 i
theorem PI.wei1 (h : PI P) (i : Nat) (hi : i < 4) : 1 ≤ P.wei i := h.1.2.2.2.2.2.2.2.1 i hi
theorem PI.grp (h : PI P) (i : Nat) : 0 ≤ P.grp i ∧ P.grp i ≤ 3 := h.1.2.2.2.2.2.2.2.2.1 i
theorem PI.plc (h : PI P) (i : Nat) : -2 ≤ P.plc i ∧ P.plc i ≤ 11 := h.1.2.2.2.2.2.2.2.2.2.1 i
theorem PI.mov (h : PI P) (i : Nat) : 0 ≤ P.mov i ∧ P.mov i ≤ 20 := h.1.2.2.2.2.2.2.2.2.2.2.1 i
theorem PI.plr (h : PI P) (i : Nat) (hi : (i : Int) < P.req) : P.plc i < P.res := h.1.2.2.2.2.2.2.2.2.2.2.2 i hi
end
theorem cntF_nn (p : Nat → Bool) : ∀ n, 0 ≤ cntF p n
  | 0 => Int.le_refl 0
  | n + 1 => by
    have := cntF_nn p n
    simp only [cntF]
    split <;> omega
theorem cntF_le (p : Nat → Bool) : ∀ n : Nat, cntF p n ≤ n
  | 0 => Int.le_refl 0
  | n + 1 => by
    have := cntF_le p n
    simp only [cntF]
    split <;> omega
theorem PI.load {P : QP} (h : PI P) (a : Nat) : 0 ≤ P.load a ∧ P.load a ≤ 40 := by
  have h1 := h.2.1 a
  have h2 := cntF_nn (fun r => decide (P.plc r = (a : Int))) P.req.toNat
  have h3 := cntF_le (fun r => decide (P.plc r = (a : Int))) P.req.toNat
  have h4 := h.req
  omega
theorem PI.asg {P : QP} (h : PI P) (g : Nat) : 0 ≤ P.asg g ∧ P.asg g ≤ 40 := by
  have h1 := h.2.2 g
  have h2 := cntF_nn (fun r => decide (0 ≤ P.plc r ∧ P.grp r = (g : Int))) P.req.toNat
  have h3 := cntF_le (fun r => decide (0 ≤ P.plc r ∧ P.grp r = (g : Int))) P.req.toNat
  have h4 := h.req
  omega
