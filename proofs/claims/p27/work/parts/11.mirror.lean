/-! WHAT THE POOL'S METHODS DO, in words of QP -/
theorem cntF_congr {p q : Nat → Bool} : ∀ {n : Nat}, (∀ j, j < n → q j = p j) → cntF q n = cntF p n
  | 0, _ => rfl
  | n + 1, h => by
    simp only [cntF]
    rw [cntF_congr (fun j hj => h j (by omega)), h n (by omega)]
theorem cntF_upd {p q : Nat → Bool} {k : Nat} : ∀ {n : Nat}, k < n → (∀ j, j ≠ k → q j = p j) → cntF q n = cntF p n - (if p k then 1 else 0) + (if q k then 1 else 0)
  | 0, hk, _ => absurd hk (Nat.not_lt_zero _)
  | n + 1, hk, h => by
    simp only [cntF]
    by_cases e : k = n
    · subst e
      rw [cntF_congr (fun j hj => h j (by omega))]
      omega
    · rw [cntF_upd (k := k) (by omega) h, h n (by omega)]
      omega
theorem cntF_pos {p : Nat → Bool} {k : Nat} : ∀ {n : Nat}, k < n → p k = true → 1 ≤ cntF p n
  | 0, hk, _ => absurd hk (Nat.not_lt_zero _)
  | n + 1, hk, h => by
    simp only [cntF]
    by_cases e : k = n
    · subst e
      have := cntF_nn p k
      rw [if_pos h]
      omega
    · have := cntF_pos (n := n) (k := k) (by omega) h
      split <;> omega
theorem cntF_mono {p q : Nat → Bool} : ∀ {n : Nat}, (∀ j, j < n → p j = true → q j = true) → cntF p n ≤ cntF q n
  | 0, _ => Int.le_refl 0
  | n + 1, h => by
    have h1 := cntF_mono (n := n) (fun j hj => h j (by omega))
    simp only [cntF]
    have h2 := h n (by omega)
    cases e : p n
    · simp only [Bool.false_eq_true, if_false]
      split <;> omega
    · rw [if_pos (h2 e)]
      simp only [if_true]
      omega
theorem updf_same {α : Type} (f : Nat → α) (k : Nat) (v : α) : updf f k v k = v := by simp [updf]
theorem updf_ne {α : Type} (f : Nat → α) {k j : Nat} (v : α) (h : j ≠ k) : updf f k v j = f j := by simp [updf, h]
def stN (p : Int) : Int := if p = -1 then 0 else if 0 ≤ p then 1 else 2
abbrev pPutT (P : QP) (r : Nat) : QP := (P.res, P.cap, updf P.load (P.plc r).toNat (P.load (P.plc r).toNat - 1), P.quo, P.wei, updf P.asg (P.grp r).toNat (P.asg (P.grp r).toNat - 1), P.req, P.grp, P.acc, updf P.plc r (-1), P.mov, P.pl, P.ml)
def pPut (P : QP) (r : Nat) : QP := if 0 ≤ P.plc r then pPutT P r else P
def pAssign (P : QP) (r a : Nat) : QP := (P.res, P.cap, updf P.load a (P.load a + 1), P.quo, P.wei, updf P.asg (P.grp r).toNat (P.asg (P.grp r).toNat + 1), P.req, P.grp, P.acc, updf P.plc r (a : Int), P.mov, P.pl, P.ml)
def pBump (P : QP) (r : Nat) : QP := (P.res, P.cap, P.load, P.quo, P.wei, P.asg, P.req, P.grp, P.acc, P.plc, updf P.mov r (P.mov r + 1), P.pl, P.ml)
def pMove (P : QP) (r a : Nat) : QP := pBump (pAssign (pPut P r) r a) r
def pOpen (P : QP) (c : Int) : QP := (P.res + 1, updf P.cap P.res.toNat c, P.load, P.quo, P.wei, P.asg, P.req, P.grp, P.acc, P.plc, P.mov, P.pl, P.ml)
def pAdmit (P : QP) (g : Int) (m : Int32) : QP := (P.res, P.cap, P.load, P.quo, P.wei, P.asg, P.req + 1, updf P.grp P.req.toNat g, updf P.acc P.req.toNat m, updf P.plc P.req.toNat (-1), P.mov, P.pl, P.ml)
def pGone (P : QP) (r : Nat) : QP := (P.res, P.cap, P.load, P.quo, P.wei, P.asg, P.req, P.grp, P.acc, updf P.plc r (-2), P.mov, P.pl, P.ml)
def pDismiss (P : QP) (r : Nat) : QP := pGone (pPut P r) r
def pMask (P : QP) (r : Nat) (m : Int32) : QP := (P.res, P.cap, P.load, P.quo, P.wei, P.asg, P.req, P.grp, updf P.acc r m, P.plc, P.mov, P.pl, P.ml)
def pCap (P : QP) (a : Nat) (c : Int) : QP := (P.res, updf P.cap a c, P.load, P.quo, P.wei, P.asg, P.req, P.grp, P.acc, P.plc, P.mov, P.pl, P.ml)
def pGrp (P : QP) (g : Nat) (q w : Int) : QP := (P.res, P.cap, P.load, updf P.quo g q, updf P.wei g w, P.asg, P.req, P.grp, P.acc, P.plc, P.mov, P.pl, P.ml)
def pLim (P : QP) (x y : Int) : QP := (P.res, P.cap, P.load, P.quo, P.wei, P.asg, P.req, P.grp, P.acc, P.plc, P.mov, x, y)
/-- a mask's bit, as the class asks for it -/
def bitB (m : Int32) (k : Nat) : Bool := decide (¬ ((m >>> (iI (k : Int) &&& 31)) &&& iI 1) = 0)
def pAccept (P : QP) (r : Nat) (m : Int32) : QP := if 0 ≤ P.plc r ∧ bitB m (P.plc r).toNat = false then pPut (pMask P r m) r else pMask P r m
def pBackC (a : Nat) : Nat → QP → Int → QP × Int
  | 0, P, c => (P, c)
  | k + 1, P, c => if P.load a ≤ P.cap a then (P, c) else if P.plc k = (a : Int) then pBackC a k (pPut P k) (c + 1) else pBackC a k P c
def pBackQ (g : Nat) : Nat → QP → Int → QP × Int
  | 0, P, c => (P, c)
  | k + 1, P, c => if P.asg g ≤ P.quo g then (P, c) else if P.grp k = (g : Int) ∧ 0 ≤ P.plc k then pBackQ g k (pPut P k) (c + 1) else pBackQ g k P c
theorem pPut_pos {P : QP} {r : Nat} (h : 0 ≤ P.plc r) : pPut P r = pPutT P r := if_pos h
theorem pPut_neg {P : QP} {r : Nat} (h : ¬ 0 ≤ P.plc r) : pPut P r = P := if_neg h
theorem PI_put {P : QP} {r : Nat} (hI : PI P) (hr : (r : Int) < P.req) : PI (pPut P r) := by
  by_cases h : 0 ≤ P.plc r
  · rw [pPut_pos h]
    obtain ⟨⟨h1, h2, h3, h4, h5, h6, h7, h8, h9, h10, h11, h12⟩, h13, h14⟩ := hI
    have hrn : r < P.req.toNat := by omega
    refine ⟨⟨h1, h2, h3, h4, h5, h6, h7, h8, h9, fun i => ?_, h11, fun i hi => ?_⟩, fun a => ?_, fun g => ?_⟩
    · show -2 ≤ updf P.plc r (-1) i ∧ updf P.plc r (-1) i ≤ 11
      by_cases e : i = r
      · subst e; rw [updf_same]; omega
      · rw [updf_ne _ _ e]; exact h10 i
    · show updf P.plc r (-1) i < P.res
      by_cases e : i = r
      · subst e; rw [updf_same]; omega
      · rw [updf_ne _ _ e]; exact h12 i hi
    · show updf P.load (P.plc r).toNat (P.load (P.plc r).toNat - 1) a = cntF (fun x => decide (updf P.plc r (-1) x = (a : Int))) P.req.toNat
      have hq := cntF_upd (p := fun x => decide (P.plc x = (a : Int))) (q := fun x => decide (updf P.plc r (-1) x = (a : Int))) hrn (fun j hj => by simp only [updf_ne _ _ hj])
      rw [hq, updf_same, ← h13 a]
      have e1 : decide ((-1 : Int) = (a : Int)) = false := by simp <;> omega
      rw [e1]
      by_cases e : a = (P.plc r).toNat
      · subst e
        have e2 : decide (P.plc r = ((P.plc r).toNat : Int)) = true := by simp <;> omega
        rw [updf_same, e2]
        simp
      · have e2 : decide (P.plc r = (a : Int)) = false := by simp <;> omega
        rw [updf_ne _ _ e, e2]
        simp
    · show updf P.asg (P.grp r).toNat (P.asg (P.grp r).toNat - 1) g = cntF (fun x => decide (0 ≤ updf P.plc r (-1) x ∧ P.grp x = (g : Int))) P.req.toNat
      have hq := cntF_upd (p := fun x => decide (0 ≤ P.plc x ∧ P.grp x = (g : Int))) (q := fun x => decide (0 ≤ updf P.plc r (-1) x ∧ P.grp x = (g : Int))) hrn (fun j hj => by simp only [updf_ne _ _ hj])
      rw [hq, updf_same, ← h14 g]
      have hg := h9 r
      have e1 : decide (0 ≤ (-1 : Int) ∧ P.grp r = (g : Int)) = false := by simp
      rw [e1]
      by_cases e : g = (P.grp r).toNat
      · subst e
        have e2 : decide (0 ≤ P.plc r ∧ P.grp r = ((P.grp r).toNat : Int)) = true := by simp <;> omega
        rw [updf_same, e2]
        simp
      · have e2 : decide (0 ≤ P.plc r ∧ P.grp r = (g : Int)) = false := by simp <;> omega
        rw [updf_ne _ _ e, e2]
        simp
  · rw [pPut_neg h]; exact hI
theorem PI_assign {P : QP} {r a : Nat} (hI : PI P) (hr : (r : Int) < P.req) (h : P.plc r < 0) (ha : (a : Int) < P.res) : PI (pAssign P r a) := by
  obtain ⟨⟨h1, h2, h3, h4, h5, h6, h7, h8, h9, h10, h11, h12⟩, h13, h14⟩ := hI
  have hrn : r < P.req.toNat := by omega
  refine ⟨⟨h1, h2, h3, h4, h5, h6, h7, h8, h9, fun i => ?_, h11, fun i hi => ?_⟩, fun b => ?_, fun g => ?_⟩
  · show -2 ≤ updf P.plc r (a : Int) i ∧ updf P.plc r (a : Int) i ≤ 11
    by_cases e : i = r
    · subst e; rw [updf_same]; omega
    · rw [updf_ne _ _ e]; exact h10 i
  · show updf P.plc r (a : Int) i < P.res
    by_cases e : i = r
    · subst e; rw [updf_same]; omega
    · rw [updf_ne _ _ e]; exact h12 i hi
  · show updf P.load a (P.load a + 1) b = cntF (fun x => decide (updf P.plc r (a : Int) x = (b : Int))) P.req.toNat
    have hq := cntF_upd (p := fun x => decide (P.plc x = (b : Int))) (q := fun x => decide (updf P.plc r (a : Int) x = (b : Int))) hrn (fun j hj => by simp only [updf_ne _ _ hj])
    rw [hq, updf_same, ← h13 b]
    have e1 : decide (P.plc r = (b : Int)) = false := by simp <;> omega
    rw [e1]
    by_cases e : b = a
    · subst e
      rw [updf_same]
      simp
    · have e2 : decide ((a : Int) = (b : Int)) = false := by simp <;> omega
      rw [updf_ne _ _ e, e2]
      simp
  · show updf P.asg (P.grp r).toNat (P.asg (P.grp r).toNat + 1) g = cntF (fun x => decide (0 ≤ updf P.plc r (a : Int) x ∧ P.grp x = (g : Int))) P.req.toNat
    have hq := cntF_upd (p := fun x => decide (0 ≤ P.plc x ∧ P.grp x = (g : Int))) (q := fun x => decide (0 ≤ updf P.plc r (a : Int) x ∧ P.grp x = (g : Int))) hrn (fun j hj => by simp only [updf_ne _ _ hj])
    rw [hq, updf_same, ← h14 g]
    have hg := h9 r
    have e1 : decide (0 ≤ P.plc r ∧ P.grp r = (g : Int)) = false := by simp <;> omega
    rw [e1]
    by_cases e : g = (P.grp r).toNat
    · subst e
      have e2 : decide (0 ≤ (a : Int) ∧ P.grp r = ((P.grp r).toNat : Int)) = true := by simp <;> omega
      rw [updf_same, e2]
      simp
    · have e2 : decide (0 ≤ (a : Int) ∧ P.grp r = (g : Int)) = false := by simp <;> omega
      rw [updf_ne _ _ e, e2]
      simp
theorem PI_bump {P : QP} {r : Nat} (hI : PI P) (h : P.mov r < 20) : PI (pBump P r) := by
  obtain ⟨⟨h1, h2, h3, h4, h5, h6, h7, h8, h9, h10, h11, h12⟩, h13, h14⟩ := hI
  refine ⟨⟨h1, h2, h3, h4, h5, h6, h7, h8, h9, h10, fun i => ?_, h12⟩, h13, h14⟩
  show 0 ≤ updf P.mov r (P.mov r + 1) i ∧ updf P.mov r (P.mov r + 1) i ≤ 20
  by_cases e : i = r
  · subst e; rw [updf_same]; have := h11 i; omega
  · rw [updf_ne _ _ e]; exact h11 i
theorem pPut_plc (P : QP) (r : Nat) : (pPut P r).plc r < 0 := by
  by_cases h : 0 ≤ P.plc r
  · rw [pPut_pos h]; show updf P.plc r (-1) r < 0; rw [updf_same]; omega
  · rw [pPut_neg h]; omega
theorem pPut_req (P : QP) (r : Nat) : (pPut P r).req = P.req := by unfold pPut; split <;> rfl
theorem pPut_res (P : QP) (r : Nat) : (pPut P r).res = P.res := by unfold pPut; split <;> rfl
theorem pPut_cap (P : QP) (r : Nat) : (pPut P r).cap = P.cap := by unfold pPut; split <;> rfl
theorem pPut_quo (P : QP) (r : Nat) : (pPut P r).quo = P.quo := by unfold pPut; split <;> rfl
theorem pPut_wei (P : QP) (r : Nat) : (pPut P r).wei = P.wei := by unfold pPut; split <;> rfl
theorem pPut_grp (P : QP) (r : Nat) : (pPut P r).grp = P.grp := by unfold pPut; split <;> rfl
theorem pPut_acc (P : QP) (r : Nat) : (pPut P r).acc = P.acc := by unfold pPut; split <;> rfl
theorem pPut_mov (P : QP) (r : Nat) : (pPut P r).mov = P.mov := by unfold pPut; split <;> rfl
theorem pPut_pl (P : QP) (r : Nat) : (pPut P r).pl = P.pl := by unfold pPut; split <;> rfl
theorem pPut_ml (P : QP) (r : Nat) : (pPut P r).ml = P.ml := by unfold pPut; split <;> rfl
theorem PI_move {P : QP} {r a : Nat} (hI : PI P) (hr : (r : Int) < P.req) (ha : (a : Int) < P.res) (hm : P.mov r < 20) : PI (pMove P r a) := by
  refine PI_bump (PI_assign (PI_put hI hr) (by rw [pPut_req]; exact hr) (pPut_plc P r) (by rw [pPut_res]; exact ha)) ?_
  show (pPut P r).mov r < 20
  rw [pPut_mov]
  exact hm
def sumF (f : Nat → Int) : Nat → Int
  | 0 => 0
  | n + 1 => sumF f n + f n
def lAdd (l : QL) (r a : Int) : QL := if l.sz < 200 then (updf l.rq l.sz.toNat r, updf l.tg l.sz.toNat a, l.sz + 1) else l
theorem updf_fill {α : Type} {f : Nat → α} {v : α} {i : Nat} (h : ∀ a, a < i → f a = v) : ∀ a, a < i + 1 → updf f i v a = v := by
  intro a ha
  by_cases e : a = i
  · subst e; exact updf_same _ _ _
  · rw [updf_ne _ _ e]; exact h a (by omega)
