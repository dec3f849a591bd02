/-! what each step of the service keeps: PI, PFe, the log's bounds -/
theorem PI_open {P : QP} {c : Int} (hI : PI P) (h : P.res < 12) (hc : 0 ≤ c ∧ c ≤ 4) : PI (pOpen P c) := by
  obtain ⟨⟨h1, h2, h3, h4, h5, h6, h7, h8, h9, h10, h11, h12⟩, h13, h14⟩ := hI
  refine ⟨⟨?_, h2, h3, h4, fun i => ?_, h6, h7, h8, h9, h10, h11, fun i hi => ?_⟩, h13, h14⟩
  · show 0 ≤ P.res + 1 ∧ P.res + 1 ≤ 12
    omega
  · show 0 ≤ updf P.cap P.res.toNat c i ∧ updf P.cap P.res.toNat c i ≤ 4
    by_cases e : i = P.res.toNat
    · rw [e, updf_same]; exact hc
    · rw [updf_ne _ _ e]; exact h5 i
  · show P.plc i < P.res + 1
    have := h12 i hi
    omega
theorem PI_admit {P : QP} {g : Int} {m : Int32} (hI : PI P) (h : P.req < 40) (hg : 0 ≤ g ∧ g ≤ 3) : PI (pAdmit P g m) := by
  obtain ⟨⟨h1, h2, h3, h4, h5, h6, h7, h8, h9, h10, h11, h12⟩, h13, h14⟩ := hI
  have e0 : (P.req + 1).toNat = P.req.toNat + 1 := by omega
  refine ⟨⟨h1, ?_, h3, h4, h5, h6, h7, h8, fun i => ?_, fun i => ?_, h11, fun i hi => ?_⟩, fun a => ?_, fun b => ?_⟩
  · show 0 ≤ P.req + 1 ∧ P.req + 1 ≤ 40
    omega
  · show 0 ≤ updf P.grp P.req.toNat g i ∧ updf P.grp P.req.toNat g i ≤ 3
    by_cases e : i = P.req.toNat
    · rw [e, updf_same]; exact hg
    · rw [updf_ne _ _ e]; exact h9 i
  · show -2 ≤ updf P.plc P.req.toNat (-1) i ∧ updf P.plc P.req.toNat (-1) i ≤ 11
    by_cases e : i = P.req.toNat
    · rw [e, updf_same]; omega
    · rw [updf_ne _ _ e]; exact h10 i
  · show updf P.plc P.req.toNat (-1) i < P.res
    by_cases e : i = P.req.toNat
    · rw [e, updf_same]; omega
    · have hi2 : (i : Int) < P.req + 1 := hi
      rw [updf_ne _ _ e]; exact h12 i (by omega)
  · show P.load a = cntF (fun x => decide (updf P.plc P.req.toNat (-1) x = (a : Int))) (P.req + 1).toNat
    rw [e0, h13 a]
    simp only [cntF, updf_same]
    have e1 : decide ((-1 : Int) = (a : Int)) = false := by simp <;> omega
    rw [e1, cntF_congr (p := fun x => decide (P.plc x = (a : Int))) (q := fun x => decide (updf P.plc P.req.toNat (-1) x = (a : Int))) (fun j hj => by simp only [updf_ne _ _ (Nat.ne_of_lt hj)])]
    simp
  · show P.asg b = cntF (fun x => decide (0 ≤ updf P.plc P.req.toNat (-1) x ∧ updf P.grp P.req.toNat g x = (b : Int))) (P.req + 1).toNat
    rw [e0, h14 b]
    simp only [cntF, updf_same]
    have e1 : decide (0 ≤ (-1 : Int) ∧ g = (b : Int)) = false := by simp
    rw [e1, cntF_congr (p := fun x => decide (0 ≤ P.plc x ∧ P.grp x = (b : Int))) (q := fun x => decide (0 ≤ updf P.plc P.req.toNat (-1) x ∧ updf P.grp P.req.toNat g x = (b : Int))) (fun j hj => by simp only [updf_ne _ _ (Nat.ne_of_lt hj)])]
    simp
theorem PI_gone {P : QP} {r : Nat} (hI : PI P) (h : P.plc r < 0) : PI (pGone P r) := by
  obtain ⟨⟨h1, h2, h3, h4, h5, h6, h7, h8, h9, h10, h11, h12⟩, h13, h14⟩ := hI
  refine ⟨⟨h1, h2, h3, h4, h5, h6, h7, h8, h9, fun i => ?_, h11, fun i hi => ?_⟩, fun a => ?_, fun b => ?_⟩
  · show -2 ≤ updf P.plc r (-2) i ∧ updf P.plc r (-2) i ≤ 11
    by_cases e : i = r
    · rw [e, updf_same]; omega
    · rw [updf_ne _ _ e]; exact h10 i
  · show updf P.plc r (-2) i < P.res
    by_cases e : i = r
    · rw [e, updf_same]; omega
    · rw [updf_ne _ _ e]; exact h12 i hi
  · show P.load a = cntF (fun x => decide (updf P.plc r (-2) x = (a : Int))) P.req.toNat
    rw [h13 a]
    refine (cntF_congr fun j _ => ?_).symm
    by_cases e : j = r
    · rw [e, updf_same, decide_eq_false (by omega), decide_eq_false (by omega)]
    · rw [updf_ne _ _ e]
  · show P.asg b = cntF (fun x => decide (0 ≤ updf P.plc r (-2) x ∧ P.grp x = (b : Int))) P.req.toNat
    rw [h14 b]
    refine (cntF_congr fun j _ => ?_).symm
    by_cases e : j = r
    · rw [e, updf_same, decide_eq_false (by omega), decide_eq_false (by omega)]
    · rw [updf_ne _ _ e]
theorem PI_dismiss {P : QP} {r : Nat} (hI : PI P) (hr : (r : Int) < P.req) : PI (pDismiss P r) := PI_gone (PI_put hI hr) (pPut_plc P r)
theorem PI_mask {P : QP} {r : Nat} {m : Int32} (hI : PI P) : PI (pMask P r m) := hI
theorem PI_accept {P : QP} {r : Nat} {m : Int32} (hI : PI P) (hr : (r : Int) < P.req) : PI (pAccept P r m) := by
  unfold pAccept
  split
  · exact PI_put (PI_mask hI) hr
  · exact PI_mask hI
theorem PI_cap {P : QP} {a : Nat} {c : Int} (hI : PI P) (hc : 0 ≤ c ∧ c ≤ 4) : PI (pCap P a c) := by
  obtain ⟨⟨h1, h2, h3, h4, h5, h6, h7, h8, h9, h10, h11, h12⟩, h13, h14⟩ := hI
  refine ⟨⟨h1, h2, h3, h4, fun i => ?_, h6, h7, h8, h9, h10, h11, h12⟩, h13, h14⟩
  show 0 ≤ updf P.cap a c i ∧ updf P.cap a c i ≤ 4
  by_cases e : i = a
  · rw [e, updf_same]; exact hc
  · rw [updf_ne _ _ e]; exact h5 i
theorem PI_grp {P : QP} {g : Nat} {q w : Int} (hI : PI P) (hq : 0 ≤ q ∧ q ≤ 40) (hw : 1 ≤ w ∧ w ≤ 10) : PI (pGrp P g q w) := by
  obtain ⟨⟨h1, h2, h3, h4, h5, h6, h7, h8, h9, h10, h11, h12⟩, h13, h14⟩ := hI
  refine ⟨⟨h1, h2, h3, h4, h5, fun i => ?_, fun i => ?_, fun i hi => ?_, h9, h10, h11, h12⟩, h13, h14⟩
  · show 0 ≤ updf P.quo g q i ∧ updf P.quo g q i ≤ 40
    by_cases e : i = g
    · rw [e, updf_same]; exact hq
    · rw [updf_ne _ _ e]; exact h6 i
  · show 0 ≤ updf P.wei g w i ∧ updf P.wei g w i ≤ 10
    by_cases e : i = g
    · rw [e, updf_same]; omega
    · rw [updf_ne _ _ e]; exact h7 i
  · show 1 ≤ updf P.wei g w i
    by_cases e : i = g
    · rw [e, updf_same]; omega
    · rw [updf_ne _ _ e]; exact h8 i hi
theorem PI_lim {P : QP} {x y : Int} (hI : PI P) (hx : 0 ≤ x ∧ x ≤ 5) (hy : 0 ≤ y ∧ y ≤ 20) : PI (pLim P x y) := by
  obtain ⟨⟨h1, h2, h3, h4, h5, h6, h7, h8, h9, h10, h11, h12⟩, h13, h14⟩ := hI
  exact ⟨⟨h1, h2, hx, hy, h5, h6, h7, h8, h9, h10, h11, h12⟩, h13, h14⟩
/-- some requests put back -/
def Less (P Q : QP) : Prop := (Q.res = P.res ∧ Q.cap = P.cap ∧ Q.quo = P.quo ∧ Q.wei = P.wei ∧ Q.req = P.req ∧ Q.grp = P.grp ∧ Q.acc = P.acc ∧ Q.mov = P.mov ∧ Q.pl = P.pl ∧ Q.ml = P.ml) ∧ (∀ b, Q.load b ≤ P.load b) ∧ (∀ g, Q.asg g ≤ P.asg g) ∧ ∀ x, Q.plc x = P.plc x ∨ (Q.plc x = -1 ∧ 0 ≤ P.plc x)
theorem Less.rf (P : QP) : Less P P := ⟨⟨rfl, rfl, rfl, rfl, rfl, rfl, rfl, rfl, rfl, rfl⟩, fun _ => Int.le_refl _, fun _ => Int.le_refl _, fun _ => Or.inl rfl⟩
theorem Less.tr {P Q S : QP} (h : Less P Q) (g : Less Q S) : Less P S := by
  obtain ⟨⟨a1, a2, a3, a4, a5, a6, a7, a8, a9, a10⟩, h2, h3, h4⟩ := h
  obtain ⟨⟨b1, b2, b3, b4, b5, b6, b7, b8, b9, b10⟩, g2, g3, g4⟩ := g
  refine ⟨⟨b1.trans a1, b2.trans a2, b3.trans a3, b4.trans a4, b5.trans a5, b6.trans a6, b7.trans a7, b8.trans a8, b9.trans a9, b10.trans a10⟩, fun b => Int.le_trans (g2 b) (h2 b), fun b => Int.le_trans (g3 b) (h3 b), fun x => ?_⟩
  rcases g4 x with e | ⟨e, e2⟩
  · rw [e]; exact h4 x
  · rcases h4 x with f | ⟨f, f2⟩
    · exact Or.inr ⟨e, f ▸ e2⟩
    · exact Or.inr ⟨e, f2⟩
theorem Less_put (P : QP) (r : Nat) : Less P (pPut P r) := by
  by_cases h : 0 ≤ P.plc r
  · rw [pPut_pos h]
    refine ⟨⟨rfl, rfl, rfl, rfl, rfl, rfl, rfl, rfl, rfl, rfl⟩, fun b => ?_, fun b => ?_, fun x => ?_⟩
    · show updf P.load (P.plc r).toNat (P.load (P.plc r).toNat - 1) b ≤ P.load b
      by_cases e : b = (P.plc r).toNat
      · rw [e, updf_same]; omega
      · rw [updf_ne _ _ e]; exact Int.le_refl _
    · show updf P.asg (P.grp r).toNat (P.asg (P.grp r).toNat - 1) b ≤ P.asg b
      by_cases e : b = (P.grp r).toNat
      · rw [e, updf_same]; omega
      · rw [updf_ne _ _ e]; exact Int.le_refl _
    · show updf P.plc r (-1) x = P.plc x ∨ (updf P.plc r (-1) x = -1 ∧ 0 ≤ P.plc x)
      by_cases e : x = r
      · rw [e, updf_same]; exact Or.inr ⟨rfl, h⟩
      · rw [updf_ne _ _ e]; exact Or.inl rfl
  · rw [pPut_neg h]; exact Less.rf P
theorem Less.fa {P Q : QP} (h : Less P Q) (hF : PFa P) : PFa Q := by
  obtain ⟨⟨a1, a2, a3, a4, a5, a6, a7, a8, a9, a10⟩, h2, h3, h4⟩ := h
  intro x hx hp
  rw [a5] at hx
  rw [a7]
  rcases h4 x with e | ⟨e, e2⟩
  · rw [e] at hp ⊢; exact hF x hx hp
  · omega
theorem Less.fe {P Q : QP} (h : Less P Q) (hF : PFe P) : PFe Q := by
  obtain ⟨f1, f2, f3, f4⟩ := hF
  have h0 := h.fa f3
  obtain ⟨⟨a1, a2, a3, a4, a5, a6, a7, a8, a9, a10⟩, h2, h3, h4⟩ := h
  refine ⟨fun a ha => ?_, fun g hg => ?_, h0, fun r hr j hj hb => ?_⟩
  · rw [a1] at ha; rw [a2]; exact Int.le_trans (h2 a) (f1 a ha)
  · rw [a3]; exact Int.le_trans (h3 g) (f2 g hg)
  · rw [a5] at hr; rw [a7] at hb; rw [a1]; exact f4 r hr j hj hb
theorem backC_ok (a : Nat) : ∀ (k : Nat) (P : QP) (c : Int), PI P → (k : Int) ≤ P.req → 0 ≤ c → PI (pBackC a k P c).1 ∧ Less P (pBackC a k P c).1 ∧ 0 ≤ (pBackC a k P c).2 ∧ (pBackC a k P c).2 ≤ c + k ∧ ((∀ j : Nat, k ≤ j → (j : Int) < P.req → P.plc j ≠ (a : Int)) → 0 ≤ P.cap a → (pBackC a k P c).1.load a ≤ P.cap a)
  | 0, P, c, hI, hk, hc => ⟨hI, Less.rf P, hc, by show c ≤ c + 0; omega, fun h h0 => by
      show P.load a ≤ P.cap a
      rw [hI.2.1 a, cntF_congr (p := fun _ => false) (q := fun r => decide (P.plc r = (a : Int))) (fun j hj => decide_eq_false (h j (Nat.zero_le j) (by omega)))]
      have : ∀ n, cntF (fun _ => false) n = 0 := fun n => by
        induction n with
        | zero => rfl
        | succ n ih => simp [cntF, ih]
      rw [this]; exact h0⟩
  | k + 1, P, c, hI, hk, hc => by
    simp only [pBackC]
    split
    · rename_i h
      exact ⟨hI, Less.rf P, hc, by show c ≤ c + ((k + 1 : Nat) : Int); omega, fun _ _ => h⟩
    · split
      · rename_i h1 h2
        obtain ⟨g1, g2, g3, g4, g5⟩ := backC_ok a k (pPut P k) (c + 1) (PI_put hI (by omega)) (by rw [pPut_req]; omega) (by omega)
        refine ⟨g1, (Less_put P k).tr g2, g3, by omega, fun h h0 => ?_⟩
        rw [pPut_req, pPut_cap] at g5
        refine g5 (fun j hj hj2 => ?_) h0
        by_cases e : j = k
        · rw [e]; have := pPut_plc P k; omega
        · rcases (Less_put P k).2.2.2 j with e2 | ⟨e2, -⟩
          · rw [e2]; exact h j (by omega) hj2
          · omega
      · rename_i h1 h2
        obtain ⟨g1, g2, g3, g4, g5⟩ := backC_ok a k P c hI (by omega) hc
        refine ⟨g1, g2, g3, by omega, fun h h0 => g5 (fun j hj hj2 => ?_) h0⟩
        by_cases e : j = k
        · rw [e]; exact h2
        · exact h j (by omega) hj2
theorem backQ_ok (g : Nat) : ∀ (k : Nat) (P : QP) (c : Int), PI P → (k : Int) ≤ P.req → 0 ≤ c → PI (pBackQ g k P c).1 ∧ Less P (pBackQ g k P c).1 ∧ 0 ≤ (pBackQ g k P c).2 ∧ (pBackQ g k P c).2 ≤ c + k ∧ ((∀ j : Nat, k ≤ j → (j : Int) < P.req → ¬ (P.grp j = (g : Int) ∧ 0 ≤ P.plc j)) → 0 ≤ P.quo g → (pBackQ g k P c).1.asg g ≤ P.quo g)
  | 0, P, c, hI, hk, hc => ⟨hI, Less.rf P, hc, by show c ≤ c + 0; omega, fun h h0 => by
      show P.asg g ≤ P.quo g
      rw [hI.2.2 g, cntF_congr (p := fun _ => false) (q := fun r => decide (0 ≤ P.plc r ∧ P.grp r = (g : Int))) (fun j hj => decide_eq_false (fun q => h j (Nat.zero_le j) (by omega) ⟨q.2, q.1⟩))]
      have : ∀ n, cntF (fun _ => false) n = 0 := fun n => by
        induction n with
        | zero => rfl
        | succ n ih => simp [cntF, ih]
      rw [this]; exact h0⟩
  | k + 1, P, c, hI, hk, hc => by
    simp only [pBackQ]
    split
    · rename_i h
      exact ⟨hI, Less.rf P, hc, by show c ≤ c + ((k + 1 : Nat) : Int); omega, fun _ _ => h⟩
    · split
      · rename_i h1 h2
        obtain ⟨g1, g2, g3, g4, g5⟩ := backQ_ok g k (pPut P k) (c + 1) (PI_put hI (by omega)) (by rw [pPut_req]; omega) (by omega)
        refine ⟨g1, (Less_put P k).tr g2, g3, by omega, fun h h0 => ?_⟩
        rw [pPut_req, pPut_quo, pPut_grp] at g5
        refine g5 (fun j hj hj2 => ?_) h0
        by_cases e : j = k
        · rw [e]; have := pPut_plc P k; exact fun q => by omega
        · rcases (Less_put P k).2.2.2 j with e2 | ⟨e2, -⟩
          · rw [e2]; exact h j (by omega) hj2
          · exact fun q => by omega
      · rename_i h1 h2
        obtain ⟨g1, g2, g3, g4, g5⟩ := backQ_ok g k P c hI (by omega) hc
        refine ⟨g1, g2, g3, by omega, fun h h0 => g5 (fun j hj hj2 => ?_) h0⟩
        by_cases e : j = k
        · rw [e]; exact h2
        · exact h j (by omega) hj2
theorem tryS_fe {P : QP} {l : QL} {r : Nat} (hI : PI P) (hr : (r : Int) < P.req) (hw : P.plc r = -1) (hF : PFe P) : PFe (tryS P l r).2.1 := by
  unfold tryS
  split
  · rename_i h
    obtain ⟨h1, h2, h3⟩ := h
    obtain ⟨hp, a, ha1, ha2⟩ := path_ok hI hr hw h2
    obtain ⟨g1, g2, g3, g4, g5, g6, g7, g8, g9⟩ := plS_ok (l := l) hI hp ((minL P (P.acc r)).toNat - 1) (by omega)
    rw [ha1] at g6
    obtain ⟨f1, f2, f3, f4⟩ := hF
    obtain ⟨b1, b2, b3, b4, b5, b6, b7, b8, b9⟩ := g2
    show PFe (plX P l r).1
    unfold plX
    refine ⟨fun b hb => ?_, fun g hg => ?_, g8 f3, fun x hx j hj hb => ?_⟩
    · rw [b1] at hb
      rw [b2, g6 b]
      have := f1 b hb
      split
      · rename_i e
        have e2 : a = b := by omega
        subst e2
        omega
      · omega
    · rw [b3, g7 g]
      have := f2 g hg
      split
      · rename_i e
        rw [e] at h1
        have e2 : ((g : Int)).toNat = g := by omega
        rw [e2] at h1
        omega
      · omega
    · rw [b5] at hx
      rw [b7] at hb
      rw [b1]
      exact f4 x hx j hj hb
  · exact hF
theorem runF_ok : ∀ (n : Nat) (P : QP) (l : QL) (T : Nat → Bool) (c : Int), PI P → 0 ≤ l.sz → l.sz + 5 * n ≤ 200 → 0 ≤ c → PI (runF n P l T c).1 ∧ SameQ P (runF n P l T c).1 ∧ (PFe P → PFe (runF n P l T c).1) ∧ (0 ≤ (runF n P l T c).2.1.sz ∧ (runF n P l T c).2.1.sz ≤ 200) ∧ (0 ≤ (runF n P l T c).2.2 ∧ (runF n P l T c).2.2 ≤ c + n)
  | 0, P, l, T, c, hI, h0, h1, hc => ⟨hI, SameQ.rf P, fun h => h, ⟨h0, by show l.sz ≤ 200; omega⟩, ⟨hc, by show c ≤ c + 0; omega⟩⟩
  | n + 1, P, l, T, c, hI, h0, h1, hc => by
    simp only [runF]
    split
    · exact ⟨hI, SameQ.rf P, fun h => h, ⟨h0, by show l.sz ≤ 200; omega⟩, ⟨hc, by show c ≤ c + ((n + 1 : Nat) : Int); omega⟩⟩
    · rename_i hn
      rcases nxF_spec P T P.req.toNat with e | ⟨k, e1, e2, e3, e4⟩
      · exact absurd e hn
      · have ek : (nxF P T P.req.toNat).toNat = k := by omega
        rw [ek]
        have hk : (k : Int) < P.req := by omega
        obtain ⟨g1, g2, g3, g4⟩ := tryS_ok (l := l) hI hk e3
        have g5 := tryS_same P l k
        have g6 := fun h => tryS_fe (l := l) hI hk e3 h
        obtain ⟨g7, g8⟩ := g4 h0 (by omega)
        generalize tryS P l k = t at g1 g2 g3 g5 g6 g7 g8 ⊢
        obtain ⟨z, P2, l2⟩ := t
        simp only at g1 g2 g3 g5 g6 g7 g8 ⊢
        obtain ⟨i1, i2, i3, i4, i5⟩ := runF_ok n P2 l2 (updf T k true) (c + if z = true then 1 else 0) g1 (by omega) (by omega) (by split <;> omega)
        refine ⟨i1, g5.tr i2, fun h => i3 (g6 h), i4, i5.1, ?_⟩
        have := i5.2
        split at this
        · simp_all; omega
        · simp_all; omega
