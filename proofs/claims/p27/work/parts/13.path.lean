/-! PATHS, by numbers: exB (some number below n has p), lstI (the first such, or -1), sn (a resource has a path of at most k resources), dS (how many resources its shortest path has; 100: none) -/
def exB (p : Nat → Bool) : Nat → Bool
  | 0 => false
  | n + 1 => exB p n || p n
theorem exB_iff {p : Nat → Bool} : ∀ {n : Nat}, exB p n = true ↔ ∃ k, k < n ∧ p k = true
  | 0 => by simp [exB]
  | n + 1 => by
    simp only [exB, Bool.or_eq_true, exB_iff (n := n)]
    constructor
    · rintro (⟨k, h1, h2⟩ | h)
      · exact ⟨k, by omega, h2⟩
      · exact ⟨n, by omega, h⟩
    · rintro ⟨k, h1, h2⟩
      by_cases e : k = n
      · subst e; exact Or.inr h2
      · exact Or.inl ⟨k, by omega, h2⟩
theorem exB_no {p : Nat → Bool} {n : Nat} : exB p n = false ↔ ∀ k, k < n → p k = false := by
  rw [← Bool.not_eq_true, exB_iff]
  constructor
  · intro h k hk
    cases e : p k
    · rfl
    · exact absurd ⟨k, hk, e⟩ h
  · rintro h ⟨k, hk, e⟩
    rw [h k hk] at e
    cases e
theorem exB_congr {p q : Nat → Bool} {n : Nat} (h : ∀ k, k < n → p k = q k) : exB p n = exB q n := by
  apply Bool.eq_iff_iff.mpr
  rw [exB_iff, exB_iff]
  constructor
  · rintro ⟨k, h1, h2⟩; exact ⟨k, h1, by rw [← h k h1]; exact h2⟩
  · rintro ⟨k, h1, h2⟩; exact ⟨k, h1, by rw [h k h1]; exact h2⟩
def lstI (p : Nat → Bool) : Nat → Int
  | 0 => -1
  | n + 1 => if 0 ≤ lstI p n then lstI p n else if p n then (n : Int) else -1
theorem lstI_spec (p : Nat → Bool) : ∀ n, (lstI p n = -1 ∧ ∀ j, j < n → p j = false) ∨ ∃ k : Nat, k < n ∧ lstI p n = (k : Int) ∧ p k = true ∧ ∀ j, j < k → p j = false
  | 0 => Or.inl ⟨rfl, fun j h => absurd h (Nat.not_lt_zero _)⟩
  | n + 1 => by
    rcases lstI_spec p n with ⟨h1, h2⟩ | ⟨k, h1, h2, h3, h4⟩
    · cases e : p n
      · left
        refine ⟨by simp [lstI, h1, e], fun j hj => ?_⟩
        by_cases ej : j = n
        · subst ej; exact e
        · exact h2 j (by omega)
      · right
        exact ⟨n, by omega, by simp [lstI, h1, e], e, h2⟩
    · right
      exact ⟨k, by omega, by simp only [lstI]; rw [if_pos (by omega)]; exact h2, h3, h4⟩
theorem lstI_of {p : Nat → Bool} {n k : Nat} (hk : k < n) (h : p k = true) (h2 : ∀ j, j < k → p j = false) : lstI p n = (k : Int) := by
  rcases lstI_spec p n with ⟨g1, g2⟩ | ⟨i, g1, g2, g3, g4⟩
  · rw [g2 k hk] at h; cases h
  · rcases Nat.lt_trichotomy i k with e | e | e
    · rw [h2 i e] at g3; cases g3
    · rw [g2, e]
    · rw [g4 k e] at h; cases h
theorem lstI_no {p : Nat → Bool} {n : Nat} (h : ∀ j, j < n → p j = false) : lstI p n = -1 := by
  rcases lstI_spec p n with ⟨g1, g2⟩ | ⟨i, g1, g2, g3, g4⟩
  · exact g1
  · rw [h i g1] at g3; cases g3
theorem lstI_congr {p q : Nat → Bool} {n : Nat} (h : ∀ k, k < n → p k = q k) : lstI p n = lstI q n := by
  rcases lstI_spec q n with ⟨g1, g2⟩ | ⟨i, g1, g2, g3, g4⟩
  · rw [g1]; exact lstI_no fun j hj => by rw [h j hj]; exact g2 j hj
  · rw [g2]; exact lstI_of g1 (by rw [h i g1]; exact g3) fun j hj => by rw [h j (by omega)]; exact g4 j hj
theorem lstI_rng (p : Nat → Bool) (n : Nat) : -1 ≤ lstI p n ∧ lstI p n < n := by
  rcases lstI_spec p n with ⟨g1, g2⟩ | ⟨i, g1, g2, g3, g4⟩ <;> omega
def movB (P : QP) (r : Nat) : Bool := decide (0 ≤ P.plc r ∧ P.mov r < P.ml)
def atB (P : QP) (a r : Nat) : Bool := decide (P.plc r = (a : Int)) && movB P r
def sn (P : QP) : Nat → Nat → Bool
  | 0, _ => false
  | k + 1, a => decide ((a : Int) < P.res) && (decide (P.load a < P.cap a) || exB (fun r => atB P a r && exB (fun b => bt (P.acc r) b && sn P k b) 12) P.req.toNat)
def dS (P : QP) (a : Nat) : Int := if lstI (fun k => sn P (k + 1) a) 12 = -1 then 100 else lstI (fun k => sn P (k + 1) a) 12 + 1
theorem sn_lt {P : QP} {k a : Nat} (h : sn P k a = true) : (a : Int) < P.res := by
  cases k with
  | zero => cases h
  | succ k =>
    simp only [sn, Bool.and_eq_true, decide_eq_true_eq] at h
    exact h.1
theorem sn_succ {P : QP} {k a : Nat} : sn P (k + 1) a = true ↔ (a : Int) < P.res ∧ (P.load a < P.cap a ∨ ∃ r, r < P.req.toNat ∧ atB P a r = true ∧ ∃ b, b < 12 ∧ bt (P.acc r) b = true ∧ sn P k b = true) := by
  simp only [sn, Bool.and_eq_true, Bool.or_eq_true, decide_eq_true_eq, exB_iff]
theorem sn_mono1 {P : QP} : ∀ (k : Nat) {a : Nat}, sn P k a = true → sn P (k + 1) a = true
  | 0, _, h => by cases h
  | k + 1, a, h => by
    rw [sn_succ] at h ⊢
    obtain ⟨h1, h2⟩ := h
    refine ⟨h1, h2.imp id ?_⟩
    rintro ⟨r, g1, g2, b, g3, g4, g5⟩
    exact ⟨r, g1, g2, b, g3, g4, sn_mono1 k g5⟩
theorem sn_mono {P : QP} {j k a : Nat} (hjk : j ≤ k) (h : sn P j a = true) : sn P k a = true := by
  induction k with
  | zero => have e : j = 0 := by omega
            rw [← e]; exact h
  | succ k ih =>
    by_cases e : j = k + 1
    · rw [← e]; exact h
    · exact sn_mono1 k (ih (by omega))
/-- once nothing is added, nothing is added any more -/
theorem sn_stop {P : QP} {k : Nat} (h : ∀ a, sn P (k + 1) a = sn P k a) : ∀ (m a : Nat), sn P (k + m) a = sn P k a
  | 0, a => rfl
  | m + 1, a => by
    have ih := sn_stop h m
    rw [← h a]
    apply Bool.eq_iff_iff.mpr
    show sn P (k + m + 1) a = true ↔ _
    rw [sn_succ, sn_succ]
    constructor
    · rintro ⟨h1, h2⟩
      refine ⟨h1, h2.imp id ?_⟩
      rintro ⟨r, g1, g2, b, g3, g4, g5⟩
      exact ⟨r, g1, g2, b, g3, g4, by rw [← ih b]; exact g5⟩
    · rintro ⟨h1, h2⟩
      refine ⟨h1, h2.imp id ?_⟩
      rintro ⟨r, g1, g2, b, g3, g4, g5⟩
      exact ⟨r, g1, g2, b, g3, g4, by rw [ih b]; exact g5⟩
theorem cntF_lt {p q : Nat → Bool} {k : Nat} : ∀ {n : Nat}, k < n → (∀ j, j < n → p j = true → q j = true) → p k = false → q k = true → cntF p n + 1 ≤ cntF q n
  | 0, hk, _, _, _ => absurd hk (Nat.not_lt_zero _)
  | n + 1, hk, h, hp, hq => by
    by_cases e : k = n
    · subst e
      have h1 := cntF_mono (n := k) (fun j hj => h j (by omega))
      simp only [cntF, hp, hq]
      simp
      omega
    · have h1 := cntF_lt (n := n) (k := k) (by omega) (fun j hj => h j (by omega)) hp hq
      have h2 := h n (by omega)
      simp only [cntF]
      cases e2 : p n
      · simp only [Bool.false_eq_true, if_false]
        split <;> omega
      · rw [if_pos (h2 e2)]
        simp only [if_true]
        omega
theorem sn_grow {P : QP} (hI : PI P) : ∀ k : Nat, (∃ j, j ≤ k ∧ ∀ a, sn P (j + 1) a = sn P j a) ∨ (k : Int) ≤ cntF (fun a => sn P k a) 12
  | 0 => Or.inr (by have := cntF_nn (fun a => sn P 0 a) 12; omega)
  | k + 1 => by
    rcases sn_grow hI k with ⟨j, h1, h2⟩ | h
    · exact Or.inl ⟨j, by omega, h2⟩
    · by_cases e : ∀ a, sn P (k + 1) a = sn P k a
      · exact Or.inl ⟨k, by omega, e⟩
      · right
        obtain ⟨a, ha⟩ := Classical.not_forall.mp e
        have h3 : sn P k a = false := by
          cases q : sn P k a
          · rfl
          · exact absurd ((sn_mono1 k q).trans q.symm) ha
        have h4 : sn P (k + 1) a = true := by
          cases q : sn P (k + 1) a
          · exact absurd (q.trans h3.symm) ha
          · rfl
        have h5 := sn_lt h4
        have h6 := hI.res
        have := cntF_lt (p := fun a => sn P k a) (q := fun a => sn P (k + 1) a) (n := 12) (k := a) (by omega) (fun j _ q => sn_mono1 k q) h3 h4
        omega
theorem cntF_cut {p : Nat → Bool} {m : Nat} : ∀ {n : Nat}, (∀ j, p j = true → j < m) → cntF p n ≤ m
  | 0, _ => by simp [cntF]
  | n + 1, h => by
    simp only [cntF]
    by_cases e : n < m
    · have := cntF_le p n
      split <;> omega
    · have h1 : p n = false := by
        cases q : p n
        · rfl
        · exact absurd (h n q) e
      rw [h1]
      have := cntF_cut (n := n) h
      simp
      omega
theorem cntF_all {p : Nat → Bool} {m : Nat} : ∀ {n : Nat}, m ≤ n → (∀ j, p j = true → j < m) → (m : Int) ≤ cntF p n → ∀ j, j < m → p j = true := by
  intro n hmn h hc j hj
  cases q : p j
  · exfalso
    have h1 := cntF_lt (p := p) (q := fun i => decide (i < m)) (n := n) (k := j) (by omega) (fun i _ z => decide_eq_true (h i z)) q (decide_eq_true hj)
    have h2 := cntF_cut (p := fun i => decide (i < m)) (m := m) (n := n) (fun i z => of_decide_eq_true z)
    omega
  · rfl
/-- no shortest path is longer than there are resources -/
theorem sn_full {P : QP} (hI : PI P) (m a : Nat) : sn P (P.res.toNat + m) a = sn P P.res.toNat a := by
  have hr := hI.res
  rcases sn_grow hI P.res.toNat with ⟨j, h1, h2⟩ | h
  · have e1 := sn_stop h2 (P.res.toNat - j) a
    have e2 := sn_stop h2 (P.res.toNat - j + m) a
    rw [show j + (P.res.toNat - j) = P.res.toNat by omega] at e1
    rw [show j + (P.res.toNat - j + m) = P.res.toNat + m by omega] at e2
    rw [e1, e2]
  · refine sn_stop (fun b => ?_) m a
    have h3 := cntF_all (p := fun a => sn P P.res.toNat a) (m := P.res.toNat) (n := 12) (by omega) (fun j q => by have := sn_lt q; omega) h
    cases q : sn P P.res.toNat b
    · cases q2 : sn P (P.res.toNat + 1) b
      · rfl
      · have h4 := sn_lt q2
        have h5 : sn P P.res.toNat b = true := h3 b (by omega)
        rw [h5] at q
        cases q
    · exact sn_mono1 _ q
/-- what a shortest length says -/
theorem dS_iff {P : QP} (hI : PI P) {a k : Nat} (hk : 1 ≤ k) (hk2 : k < 100) : dS P a = (k : Int) ↔ sn P k a = true ∧ sn P (k - 1) a = false := by
  have hr := hI.res
  unfold dS
  rcases lstI_spec (fun k => sn P (k + 1) a) 12 with ⟨g1, g2⟩ | ⟨i, g1, g2, g3, g4⟩
  · rw [if_pos g1]
    constructor
    · intro h; omega
    · rintro ⟨h1, -⟩
      exfalso
      have h2 : sn P 12 a = false := g2 11 (by omega)
      have e1 := sn_full hI (12 - P.res.toNat) a
      rw [show P.res.toNat + (12 - P.res.toNat) = 12 by omega] at e1
      rcases Nat.lt_or_ge k 13 with h | h
      · rw [sn_mono (show k ≤ 12 by omega) h1] at h2; cases h2
      · have e2 := sn_full hI (k - P.res.toNat) a
        rw [show P.res.toNat + (k - P.res.toNat) = k by omega] at e2
        rw [e2, ← e1, h2] at h1
        cases h1
  · rw [if_neg (by omega), g2]
    constructor
    · intro h
      have e : k = i + 1 := by omega
      subst e
      refine ⟨g3, ?_⟩
      cases i with
      | zero => rfl
      | succ i => exact g4 i (by omega)
    · rintro ⟨h1, h2⟩
      have h3 : ¬ k ≤ i := by
        intro q
        have := g4 (k - 1) (by omega)
        try simp only at this
        rw [show k - 1 + 1 = k by omega, h1] at this
        cases this
      have h4 : ¬ i + 1 ≤ k - 1 := by
        intro q
        rw [sn_mono q g3] at h2
        cases h2
      omega
theorem dS_rng {P : QP} (hI : PI P) (a : Nat) : (1 ≤ dS P a ∧ dS P a ≤ P.res) ∨ dS P a = 100 := by
  have hr := hI.res
  unfold dS
  rcases lstI_spec (fun k => sn P (k + 1) a) 12 with ⟨g1, g2⟩ | ⟨i, g1, g2, g3, g4⟩
  · right; rw [if_pos g1]
  · left
    rw [if_neg (by omega), g2]
    refine ⟨by omega, ?_⟩
    rcases Nat.lt_or_ge i P.res.toNat with h | h
    · omega
    · exfalso
      have e1 := sn_full hI (i + 1 - P.res.toNat) a
      rw [show P.res.toNat + (i + 1 - P.res.toNat) = i + 1 by omega] at e1
      try simp only at g3
      rw [e1] at g3
      have h5 := sn_lt g3
      cases hz : P.res.toNat with
      | zero => omega
      | succ z =>
        have := g4 z (by omega)
        try simp only at this
        rw [← hz, g3] at this
        cases this
theorem dS_no {P : QP} (hI : PI P) {a : Nat} : dS P a = 100 ↔ ∀ k, k ≤ 12 → sn P k a = false := by
  unfold dS
  rcases lstI_spec (fun k => sn P (k + 1) a) 12 with ⟨g1, g2⟩ | ⟨i, g1, g2, g3, g4⟩
  · rw [if_pos g1]
    refine ⟨fun _ k hk => ?_, fun _ => rfl⟩
    cases k with
    | zero => rfl
    | succ k => exact g2 k (by omega)
  · rw [if_neg (by omega), g2]
    refine ⟨fun h => by omega, fun h => ?_⟩
    try simp only at g3
    rw [h (i + 1) (by omega)] at g3
    cases g3
/-- the best path: its length L (-1: none), its first resource, the request that leaves a resource, where it goes -/
def minL (P : QP) (m : Int32) : Int := lstI (fun k => exB (fun a => bt m a && decide (dS P a = (k : Int) + 1)) 12) 12 + 1
def fstA (P : QP) (m : Int32) : Int := lstI (fun a => bt m a && decide (dS P a = minL P m)) 12
def nR (P : QP) (a : Int) (d : Int) : Int := lstI (fun r => (decide (P.plc r = a) && movB P r) && exB (fun b => bt (P.acc r) b && decide (dS P b = d)) 12) P.req.toNat
def nA (P : QP) (r : Nat) (d : Int) : Int := lstI (fun b => bt (P.acc r) b && decide (dS P b = d)) 12
def pA (P : QP) (L a0 : Int) : Nat → Int
  | 0 => a0
  | i + 1 => nA P (nR P (pA P L a0 i) (L - 1 - i)).toNat (L - 1 - i)
def pRq (P : QP) (L a0 : Int) (i : Nat) : Int := nR P (pA P L a0 i) (L - 1 - i)
theorem minL_spec (P : QP) (hI : PI P) (m : Int32) : (minL P m = 0 ∧ fstA P m = -1 ∧ ∀ a, a < 12 → bt m a = true → dS P a = 100) ∨ ∃ a : Nat, (a : Int) < P.res ∧ bt m a = true ∧ minL P m = dS P a ∧ 1 ≤ dS P a ∧ dS P a ≤ 12 ∧ fstA P m = (a : Int) ∧ (∀ b, b < 12 → bt m b = true → dS P a < dS P b ∨ (dS P a = dS P b ∧ a ≤ b)) := by
  have hr := hI.res
  rcases lstI_spec (fun k => exB (fun a => bt m a && decide (dS P a = (k : Int) + 1)) 12) 12 with ⟨g1, g2⟩ | ⟨k, g1, g2, g3, g4⟩
  · left
    have e : minL P m = 0 := by unfold minL; rw [g1]; rfl
    have h1 : ∀ a, a < 12 → bt m a = true → dS P a = 100 := by
      intro a ha hb
      rcases dS_rng hI a with h | h
      · exfalso
        have h2 := g2 (dS P a - 1).toNat (by omega)
        rw [exB_no] at h2
        have h3 := h2 a ha
        rw [hb, Bool.true_and] at h3
        have h4 := of_decide_eq_false h3
        omega
      · exact h
    refine ⟨e, ?_, h1⟩
    unfold fstA
    rw [e]
    apply lstI_no
    intro a ha
    cases hb : bt m a
    · rfl
    · rw [Bool.true_and, h1 a ha hb]; rfl
  · right
    have e : minL P m = (k : Int) + 1 := by unfold minL; rw [g2]
    rw [exB_iff] at g3
    obtain ⟨a1, h1, h2⟩ := g3
    have hmin : ∀ b, b < 12 → bt m b = true → (k : Int) + 1 ≤ dS P b := by
      intro b hb hbt
      rcases dS_rng hI b with h | h
      · rcases (by omega : dS P b < (k : Int) + 1 ∨ (k : Int) + 1 ≤ dS P b) with q | q
        · exfalso
          have h5 := g4 (dS P b - 1).toNat (by omega)
          rw [exB_no] at h5
          have h6 := h5 b hb
          rw [hbt, Bool.true_and] at h6
          have h7 := of_decide_eq_false h6
          omega
        · exact q
      · omega
    have hf : ∃ a, a < 12 ∧ (bt m a && decide (dS P a = minL P m)) = true := ⟨a1, h1, by rw [e]; exact h2⟩
    rcases lstI_spec (fun a => bt m a && decide (dS P a = minL P m)) 12 with ⟨f1, f2⟩ | ⟨a, f1, f2, f3, f4⟩
    · obtain ⟨z, z1, z2⟩ := hf
      rw [f2 z z1] at z2
      cases z2
    · simp only [Bool.and_eq_true, decide_eq_true_eq] at f3
      have hd : dS P a = (k : Int) + 1 := by rw [f3.2, e]
      have hk12 : dS P a ≤ 12 := by omega
      have hs := ((dS_iff hI (k := k + 1) (by omega) (by omega)).mp (by rw [hd]; omega)).1
      refine ⟨a, sn_lt hs, f3.1, f3.2.symm, by omega, hk12, f2, fun b hb hbt => ?_⟩
      have h8 := hmin b hb hbt
      by_cases q : dS P b = (k : Int) + 1
      · right
        refine ⟨by omega, ?_⟩
        rcases Nat.lt_or_ge b a with z | z
        · have h9 := f4 b z
          simp only [hbt, e, q, decide_true, Bool.and_self] at h9
          cases h9
        · exact z
      · left; omega
/-- a step of the path -/
theorem step_spec (P : QP) (hI : PI P) {a : Nat} {d : Nat} (hd : dS P a = (d : Int) + 1) (hd1 : 1 ≤ d) (hd2 : d ≤ 12) : ∃ (r b : Nat), (r : Int) < P.req ∧ nR P (a : Int) (d : Int) = (r : Int) ∧ P.plc r = (a : Int) ∧ P.mov r < P.ml ∧ (b : Int) < P.res ∧ nA P r (d : Int) = (b : Int) ∧ bt (P.acc r) b = true ∧ dS P b = (d : Int) := by
  have hr := hI.res
  have hq := hI.req
  have h1 := (dS_iff hI (a := a) (k := d + 1) (by omega) (by omega)).mp (by rw [hd]; omega)
  obtain ⟨h2, h3⟩ := h1
  rw [sn_succ] at h2
  obtain ⟨hlt, h2⟩ := h2
  have h4 : ∃ r, r < P.req.toNat ∧ atB P a r = true ∧ ∃ b, b < 12 ∧ bt (P.acc r) b = true ∧ sn P d b = true := by
    rcases h2 with h | h
    · exfalso
      have : sn P 1 a = true := by rw [sn_succ]; exact ⟨hlt, Or.inl h⟩
      rw [sn_mono (show 1 ≤ d + 1 - 1 by omega) this] at h3
      cases h3
    · exact h
  obtain ⟨r1, g1, g2, b1, g3, g4, g5⟩ := h4
  have g6 : dS P b1 = (d : Int) := by
    rw [dS_iff hI hd1 (by omega)]
    refine ⟨g5, ?_⟩
    cases q : sn P (d - 1) b1
    · rfl
    · exfalso
      have : sn P (d - 1 + 1) a = true := by rw [sn_succ]; exact ⟨hlt, Or.inr ⟨r1, g1, g2, b1, g3, g4, q⟩⟩
      rw [show d - 1 + 1 = d + 1 - 1 by omega, h3] at this
      cases this
  rcases lstI_spec (fun r => (decide (P.plc r = (a : Int)) && movB P r) && exB (fun b => bt (P.acc r) b && decide (dS P b = (d : Int))) 12) P.req.toNat with ⟨f1, f2⟩ | ⟨r, f1, f2, f3, f4⟩
  · exfalso
    have z := f2 r1 g1
    have z2 : exB (fun b => bt (P.acc r1) b && decide (dS P b = (d : Int))) 12 = true := exB_iff.mpr ⟨b1, g3, by rw [g4, decide_eq_true g6]; rfl⟩
    have z3 : (decide (P.plc r1 = (a : Int)) && movB P r1) = true := g2
    rw [z2, z3] at z
    cases z
  · simp only [Bool.and_eq_true, decide_eq_true_eq] at f3
    obtain ⟨⟨k1, k2⟩, k3⟩ := f3
    have k4 := of_decide_eq_true k2
    rw [exB_iff] at k3
    obtain ⟨b2, k5, k6⟩ := k3
    rcases lstI_spec (fun b => bt (P.acc r) b && decide (dS P b = (d : Int))) 12 with ⟨e1, e2⟩ | ⟨b, e1, e2, e3, e4⟩
    · rw [e2 b2 k5] at k6; cases k6
    · simp only [Bool.and_eq_true, decide_eq_true_eq] at e3
      have hb := sn_lt ((dS_iff hI hd1 (by omega)).mp e3.2).1
      exact ⟨r, b, by omega, f2, k1, k4.2, hb, e2, e3.1, e3.2⟩
/-- the whole path -/
theorem path_spec (P : QP) (hI : PI P) {a0 : Nat} {L : Nat} (h0 : dS P a0 = (L : Int)) (hL1 : 1 ≤ L) (hL2 : L ≤ 12) : ∀ i : Nat, i < L → ∃ a : Nat, (a : Int) < P.res ∧ pA P L a0 i = (a : Int) ∧ dS P a = (L : Int) - i ∧ (i + 1 < L → ∃ (r b : Nat), (r : Int) < P.req ∧ pRq P L a0 i = (r : Int) ∧ P.plc r = (a : Int) ∧ P.mov r < P.ml ∧ (b : Int) < P.res ∧ pA P L a0 (i + 1) = (b : Int) ∧ bt (P.acc r) b = true) := by
  have key : ∀ (i a : Nat), i < L → pA P L a0 i = (a : Int) → dS P a = (L : Int) - i → (i + 1 < L → ∃ (r b : Nat), (r : Int) < P.req ∧ pRq P L a0 i = (r : Int) ∧ P.plc r = (a : Int) ∧ P.mov r < P.ml ∧ (b : Int) < P.res ∧ pA P L a0 (i + 1) = (b : Int) ∧ bt (P.acc r) b = true ∧ dS P b = (L : Int) - (i + 1)) := by
    intro i a hi ha hd hi2
    obtain ⟨r, b, s1, s2, s3, s4, s5, s6, s7, s8⟩ := step_spec P hI (a := a) (d := L - 1 - i) (by rw [hd]; omega) (by omega) (by omega)
    have ed : ((L - 1 - i : Nat) : Int) = (L : Int) - 1 - i := by omega
    rw [ed] at s2 s6 s8
    refine ⟨r, b, s1, ?_, s3, s4, s5, ?_, s7, by rw [s8]; omega⟩
    · unfold pRq; rw [ha]; exact s2
    · show nA P (nR P (pA P L a0 i) (L - 1 - i)).toNat (L - 1 - i) = _
      rw [ha, s2]
      exact s6
  intro i
  induction i with
  | zero =>
    intro hi
    have hs := ((dS_iff hI hL1 (by omega)).mp h0).1
    refine ⟨a0, sn_lt hs, rfl, by rw [h0]; omega, fun h => ?_⟩
    obtain ⟨r, b, s1, s2, s3, s4, s5, s6, s7, s8⟩ := key 0 a0 hi rfl (by rw [h0]; omega) h
    exact ⟨r, b, s1, s2, s3, s4, s5, s6, s7⟩
  | succ i ih =>
    intro hi
    obtain ⟨a, h1, h2, h3, h4⟩ := ih (by omega)
    obtain ⟨r, b, s1, s2, s3, s4, s5, s6, s7, s8⟩ := key i a (by omega) h2 h3 hi
    refine ⟨b, s5, s6, by rw [s8]; omega, fun h => ?_⟩
    obtain ⟨r2, b2, t1, t2, t3, t4, t5, t6, t7, t8⟩ := key (i + 1) b hi s6 (by rw [s8]; omega) h
    exact ⟨r2, b2, t1, t2, t3, t4, t5, t6, t7⟩
theorem msk_ex {P : QP} (hI : PI P) {x y : Int32} {d : Nat} (hd : 1 ≤ d ∧ d ≤ 12) (hy : ∀ j, j < 32 → bt y j = decide (dS P j = (d : Int))) : decide (¬ (x &&& y) = 0) = exB (fun b => bt x b && decide (dS P b = (d : Int))) 12 := by
  apply Bool.eq_iff_iff.mpr
  rw [decide_eq_true_eq, exB_iff, b_and0]
  constructor
  · intro h
    obtain ⟨b, h1⟩ := Classical.not_forall.mp h
    obtain ⟨h2, h3⟩ := Classical.not_imp.mp h1
    rw [Bool.not_eq_false, hy b h2, Bool.and_eq_true] at h3
    have h4 := of_decide_eq_true h3.2
    have h5 := sn_lt ((dS_iff hI hd.1 (by omega)).mp h4).1
    have h6 := hI.res
    exact ⟨b, by omega, by rw [h3.1, h3.2]; rfl⟩
  · rintro ⟨b, h1, h2⟩ h3
    have h4 := h3 b (by omega)
    rw [hy b (by omega), h2] at h4
    cases h4
theorem lstI_ext {p : Nat → Bool} {n : Nat} : ∀ {m : Nat}, n ≤ m → (∀ k, n ≤ k → k < m → p k = false) → lstI p m = lstI p n
  | 0, h, _ => by rw [show n = 0 by omega]
  | m + 1, h, hp => by
    by_cases e : n = m + 1
    · rw [e]
    · have ih := lstI_ext (m := m) (n := n) (by omega) (fun k h1 h2 => hp k h1 (by omega))
      simp only [lstI, ih, hp m (by omega) (by omega)]
      have := lstI_rng p n
      split
      · rfl
      · simp; omega
theorem short_spec {P : QP} (hI : PI P) {m : Int32} {lay : Nat → Int32} (hl : ∀ k : Nat, 1 ≤ k → (k : Int) ≤ P.res → ∀ j, j < 32 → bt (lay k) j = decide (dS P j = (k : Int))) : lstI (fun k => decide (¬ (lay (k + 1) &&& m) = 0)) P.res.toNat + 1 = minL P m := by
  have hr := hI.res
  unfold minL
  congr 1
  rw [lstI_ext (n := P.res.toNat) (m := 12) (p := fun k => exB (fun a => bt m a && decide (dS P a = (k : Int) + 1)) 12) (by omega)]
  · apply lstI_congr
    intro k hk
    have e : lay (k + 1) &&& m = m &&& lay (k + 1) := by
      apply b_ext
      intro i _
      rw [b_and, b_and, Bool.and_comm]
    rw [e, msk_ex hI (d := k + 1) (by omega) (hl (k + 1) (by omega) (by omega))]
    rfl
  · intro k h1 h2
    rw [exB_no]
    intro a ha
    have h3 := dS_rng hI a
    rw [decide_eq_false (by omega), Bool.and_false]
/-- fewer locals: L2 says no more than L -/
def jle : List (Option Value) → List (Option Value) → Prop
  | [], [] => True
  | none :: t, _ :: t' => jle t t'
  | some v :: t, x :: t' => x = some v ∧ jle t t'
  | _, _ => False
theorem jle_len : ∀ {a b : List (Option Value)}, jle a b → a.length = b.length
  | [], [], _ => rfl
  | [], _ :: _, h => h.elim
  | none :: _, [], h => h.elim
  | some _ :: _, [], h => h.elim
  | none :: t, _ :: t', h => by
    have h : jle t t' := h
    simp [jle_len h]
  | some v :: t, x :: t', h => by
    have h : x = some v ∧ jle t t' := h
    simp [jle_len h.2]
theorem jle_get : ∀ {a b : List (Option Value)}, jle a b → ∀ (j : Nat) (v : Value), a[j]? = some (some v) → b[j]? = some (some v)
  | [], [], _, j, v, g => g
  | [], _ :: _, h, _, _, _ => h.elim
  | none :: _, [], h, _, _, _ => h.elim
  | some _ :: _, [], h, _, _, _ => h.elim
  | none :: t, x :: t', h, 0, v, g => by simp at g
  | none :: t, x :: t', h, j + 1, v, g => by
    have h : jle t t' := h
    simpa using jle_get h j v (by simpa using g)
  | some u :: t, x :: t', h, 0, v, g => by
    have h : x = some u ∧ jle t t' := h
    simp at g
    simp [h.1, g]
  | some u :: t, x :: t', h, j + 1, v, g => by
    have h : x = some u ∧ jle t t' := h
    simpa using jle_get h.2 j v (by simpa using g)
theorem jw_less {G : jG} {X : JX} {k n pc : Nat} {w : va_W} {L L2 : List (Option Value)} {st : List Value} (kk : JW G X k n w pc L2 st) (h : jle L2 L) : JW G X k n w pc L st := jw_forget (jle_len h) (jle_get h) kk
theorem minL_rng (P : QP) (hI : PI P) (m : Int32) : 0 ≤ minL P m ∧ minL P m ≤ 12 := by
  rcases minL_spec P hI m with ⟨e1, -, -⟩ | ⟨a, e1, e2, e3, e4, e5, e6, e7⟩ <;> omega
