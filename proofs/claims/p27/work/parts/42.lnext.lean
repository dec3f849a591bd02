/-! WHO IS TRIED NEXT: the law goes by groups, the service by requests -/
theorem servB_iff {P : QP} {g h : Int} : servB P g h = true ↔ P.asg g.toNat * P.wei h.toNat < P.asg h.toNat * P.wei g.toNat ∨ (P.asg g.toNat * P.wei h.toNat = P.asg h.toNat * P.wei g.toNat ∧ g < h) := by
  unfold servB
  exact decide_eq_true_iff
theorem mul_mid {a b c x y z : Int} (hz : 0 < z) (hx : 0 < x) (h1 : a * y ≤ b * x) (h2 : b * z ≤ c * y) : y * (a * z) ≤ y * (c * x) ∧ ((a * y < b * x ∨ b * z < c * y) → y * (a * z) < y * (c * x)) := by
  have e1 : y * (a * z) = (a * y) * z := by rw [Int.mul_comm a y, Int.mul_assoc]
  have e2 : (b * x) * z = (b * z) * x := Int.mul_right_comm b x z
  have e3 : y * (c * x) = (c * y) * x := by rw [Int.mul_comm c y, Int.mul_assoc]
  rw [e1, e3]
  have k1 : (a * y) * z ≤ (b * x) * z := Int.mul_le_mul_of_nonneg_right h1 (by omega)
  have k2 : (b * z) * x ≤ (c * y) * x := Int.mul_le_mul_of_nonneg_right h2 (by omega)
  refine ⟨by omega, fun h => ?_⟩
  rcases h with h | h
  · have k3 : (a * y) * z < (b * x) * z := Int.mul_lt_mul_of_pos_right h hz
    omega
  · have k3 : (b * z) * x < (c * y) * x := Int.mul_lt_mul_of_pos_right h hx
    omega
theorem servB_trans {P : QP} (hI : PI P) {g h i : Int} (hg : 0 ≤ g ∧ g ≤ 3) (hh : 0 ≤ h ∧ h ≤ 3) (hi : 0 ≤ i ∧ i ≤ 3) (h1 : servB P g h = true) (h2 : servB P h i = true) : servB P g i = true := by
  rw [servB_iff] at h1 h2 ⊢
  have x1 := hI.wei1 g.toNat (by omega)
  have y1 := hI.wei1 h.toNat (by omega)
  have z1 := hI.wei1 i.toNat (by omega)
  generalize P.asg g.toNat = a at h1 h2 ⊢
  generalize P.asg h.toNat = b at h1 h2 ⊢
  generalize P.asg i.toNat = c at h1 h2 ⊢
  generalize P.wei g.toNat = x at h1 h2 x1 ⊢
  generalize P.wei h.toNat = y at h1 h2 y1 ⊢
  generalize P.wei i.toNat = z at h1 h2 z1 ⊢
  have k1 : a * y ≤ b * x := by omega
  have k2 : b * z ≤ c * y := by omega
  obtain ⟨m1, m2⟩ := mul_mid (by omega : 0 < z) (by omega : 0 < x) k1 k2
  by_cases q : a * y < b * x ∨ b * z < c * y
  · left
    exact Int.lt_of_mul_lt_mul_left (m2 q) (by omega)
  · have q1 : g < h ∧ h < i := by omega
    have m3 : a * z ≤ c * x := Int.le_of_mul_le_mul_left m1 (by omega)
    omega
theorem servB_tot {P : QP} {g h : Int} (h1 : ¬ servB P g h = true) : servB P h g = true ∨ g = h := by
  rw [servB_iff] at h1
  rw [servB_iff]
  omega
theorem servB_asym {P : QP} {g h : Int} (h1 : servB P g h = true) (h2 : servB P h g = true) : False := by
  rw [servB_iff] at h1 h2
  omega
/-- waiting and not tried -/
def wtB (P : QP) (T : Nat → Bool) (r : Nat) : Prop := P.plc r = -1 ∧ T r = false
def betB (P : QP) (k j : Nat) : Prop := servB P (P.grp k) (P.grp j) = true ∨ (P.grp k = P.grp j ∧ k < j)
theorem betB_asym {P : QP} {k j : Nat} (h1 : betB P k j) (h2 : betB P j k) : False := by
  rcases h1 with h1 | ⟨h1, h3⟩
  · rcases h2 with h2 | ⟨h2, h4⟩
    · exact servB_asym h1 h2
    · rw [h2] at h1
      exact servB_asym h1 h1
  · rcases h2 with h2 | ⟨h2, h4⟩
    · rw [h1] at h2
      exact servB_asym h2 h2
    · omega
theorem betB_serv {P : QP} (hI : PI P) {n k j : Nat} (h1 : servB P (P.grp n) (P.grp k) = true) (h2 : betB P k j) : servB P (P.grp n) (P.grp j) = true := by
  rcases h2 with h2 | ⟨h2, h3⟩
  · exact servB_trans hI (hI.grp n) (hI.grp k) (hI.grp j) h1 h2
  · rw [← h2]; exact h1
theorem nxF_best {P : QP} (hI : PI P) (T : Nat → Bool) : ∀ n : Nat, (nxF P T n = -1 ∧ ∀ j, j < n → ¬ wtB P T j) ∨ ∃ k : Nat, k < n ∧ nxF P T n = (k : Int) ∧ wtB P T k ∧ ∀ j, j < n → wtB P T j → j = k ∨ betB P k j
  | 0 => Or.inl ⟨rfl, fun j hj => absurd hj (Nat.not_lt_zero _)⟩
  | n + 1 => by
    simp only [nxF]
    rcases nxF_best hI T n with ⟨h1, h2⟩ | ⟨k, h1, h2, h3, h4⟩
    · by_cases c : wtB P T n
      · right
        rw [if_pos ⟨c.1, c.2, Or.inl h1⟩]
        refine ⟨n, by omega, rfl, c, fun j hj hw => ?_⟩
        by_cases e : j = n
        · exact Or.inl e
        · exact absurd hw (h2 j (by omega))
      · left
        rw [if_neg (fun q => c ⟨q.1, q.2.1⟩)]
        refine ⟨h1, fun j hj hw => ?_⟩
        by_cases e : j = n
        · rw [e] at hw; exact c hw
        · exact h2 j (by omega) hw
    · right
      have ek : (nxF P T n).toNat = k := by omega
      rw [ek]
      by_cases c : wtB P T n ∧ servB P (P.grp n) (P.grp k) = true
      · rw [if_pos ⟨c.1.1, c.1.2, Or.inr c.2⟩]
        refine ⟨n, by omega, rfl, c.1, fun j hj hw => ?_⟩
        by_cases e : j = n
        · exact Or.inl e
        · right
          left
          rcases h4 j (by omega) hw with e2 | e2
          · rw [e2]; exact c.2
          · exact betB_serv hI c.2 e2
      · rw [if_neg (fun q => c ⟨⟨q.1, q.2.1⟩, q.2.2.elim (fun q => by omega) (fun q => q)⟩)]
        refine ⟨k, by omega, h2, h3, fun j hj hw => ?_⟩
        by_cases e : j = n
        · right
          rw [e] at hw ⊢
          have c2 : ¬ servB P (P.grp n) (P.grp k) = true := fun q => c ⟨hw, q⟩
          rcases servB_tot c2 with q | q
          · exact Or.inl q
          · exact Or.inr ⟨q.symm, h1⟩
        · exact h4 j (by omega) hw
/-- the first of a group -/
def fiB (P : QP) (T : Nat → Bool) (g r : Nat) : Bool := decide (P.grp r = (g : Int)) && (decide (P.plc r = -1) && !(T r))
theorem fiB_iff {P : QP} {T : Nat → Bool} {g r : Nat} : fiB P T g r = true ↔ P.grp r = (g : Int) ∧ wtB P T r := by
  unfold fiB wtB
  simp only [Bool.and_eq_true, decide_eq_true_eq, Bool.not_eq_true']
/-- what the law has found when it has gone through the groups below c -/
def lnS (P : QP) (T : Nat → Bool) (c : Nat) (v : Int) : Prop := (v = -1 ∧ ∀ j : Nat, (j : Int) < P.req → wtB P T j → ¬ P.grp j < (c : Int)) ∨ ∃ k : Nat, (k : Int) < P.req ∧ v = (k : Int) ∧ wtB P T k ∧ P.grp k < (c : Int) ∧ ∀ j : Nat, (j : Int) < P.req → wtB P T j → P.grp j < (c : Int) → j = k ∨ betB P k j
theorem lnS_0 {P : QP} (hI : PI P) {T : Nat → Bool} : lnS P T 0 (-1) := Or.inl ⟨rfl, fun j _ _ h => by have := hI.grp j; omega⟩
theorem lnS_none {P : QP} {T : Nat → Bool} {c : Nat} {v : Int} (h : lnS P T c v) (hn : ∀ j : Nat, (j : Int) < P.req → ¬ fiB P T c j = true) : lnS P T (c + 1) v := by
  have hc : ∀ j : Nat, (j : Int) < P.req → wtB P T j → P.grp j < ((c + 1 : Nat) : Int) → P.grp j < (c : Int) := fun j hj hw hg => by
    rcases (by omega : P.grp j < (c : Int) ∨ P.grp j = (c : Int)) with e | e
    · exact e
    · exact absurd (fiB_iff.mpr ⟨e, hw⟩) (hn j hj)
  rcases h with ⟨h1, h2⟩ | ⟨k, h1, h2, h3, h4, h5⟩
  · exact Or.inl ⟨h1, fun j hj hw hg => h2 j hj hw (hc j hj hw hg)⟩
  · exact Or.inr ⟨k, h1, h2, h3, by omega, fun j hj hw hg => h5 j hj hw (hc j hj hw hg)⟩
theorem lnS_keep {P : QP} {T : Nat → Bool} {c k : Nat} (h : lnS P T c (k : Int)) (hle : ¬ P.asg c * P.wei (P.grp k).toNat < P.asg (P.grp k).toNat * P.wei c) : lnS P T (c + 1) (k : Int) := by
  rcases h with ⟨h1, h2⟩ | ⟨k2, h1, h2, h3, h4, h5⟩
  · omega
  · have ek : k2 = k := by omega
    subst ek
    refine Or.inr ⟨k2, h1, rfl, h3, by omega, fun j hj hw hg => ?_⟩
    rcases (by omega : P.grp j < (c : Int) ∨ P.grp j = (c : Int)) with e | e
    · exact h5 j hj hw e
    · right
      left
      rw [servB_iff, e, show ((c : Int)).toNat = c by omega]
      omega
theorem lnS_take {P : QP} (hI : PI P) {T : Nat → Bool} {c x : Nat} {v : Int} (hc : c < 4) (h : lnS P T c v) (hx : (x : Int) < P.req) (h1 : fiB P T c x = true) (h2 : ∀ j : Nat, j < x → ¬ fiB P T c j = true) (hlt : v < 0 ∨ P.asg c * P.wei (P.grp v.toNat).toNat < P.asg (P.grp v.toNat).toNat * P.wei c) : lnS P T (c + 1) (x : Int) := by
  obtain ⟨g1, g2⟩ := fiB_iff.mp h1
  have hsame : ∀ j : Nat, wtB P T j → P.grp j = (c : Int) → j = x ∨ betB P x j := fun j hw e => by
    by_cases ej : j = x
    · exact Or.inl ej
    · right
      right
      refine ⟨by rw [g1, e], ?_⟩
      rcases Nat.lt_or_ge j x with q | q
      · exact absurd (fiB_iff.mpr ⟨e, hw⟩) (h2 j q)
      · omega
  refine Or.inr ⟨x, hx, rfl, g2, by omega, fun j hj hw hg => ?_⟩
  rcases (by omega : P.grp j < (c : Int) ∨ P.grp j = (c : Int)) with e | e
  · rcases h with ⟨k1, k2⟩ | ⟨k, k1, k2, k3, k4, k5⟩
    · exact absurd e (k2 j hj hw)
    · have ek : v.toNat = k := by omega
      rw [ek] at hlt
      have hs : servB P (P.grp x) (P.grp k) = true := by
        rw [servB_iff, g1, show ((c : Int)).toNat = c by omega]
        rcases hlt with q | q
        · omega
        · exact Or.inl q
      right
      left
      rcases k5 j hj hw e with q | q
      · rw [q]; exact hs
      · exact betB_serv hI hs q
  · exact hsame j hw e
/-- both find the same -/
theorem lnS_end {P : QP} (hI : PI P) {T : Nat → Bool} {v : Int} (h : lnS P T 4 v) : nxF P T P.req.toNat = v := by
  have hq := hI.req
  rcases nxF_best hI T P.req.toNat with ⟨h1, h2⟩ | ⟨k, h1, h2, h3, h4⟩
  · rcases h with ⟨g1, g2⟩ | ⟨j, g1, g2, g3, g4, g5⟩
    · omega
    · exact absurd g3 (h2 j (by omega))
  · rcases h with ⟨g1, g2⟩ | ⟨j, g1, g2, g3, g4, g5⟩
    · have := hI.grp k
      exact absurd (by omega) (g2 k (by omega) h3)
    · have hgk := hI.grp k
      have hgj := hI.grp j
      rcases g5 k (by omega) h3 (by omega) with e | e
      · omega
      · rcases h4 j (by omega) g3 with e2 | e2
        · omega
        · exact False.elim (betB_asym e e2)
