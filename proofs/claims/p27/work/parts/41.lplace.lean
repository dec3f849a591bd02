/-! PLACING ALONG A ROW, as the law does it -/
def lpA (f : Nat → Int) (p : Nat → Nat) : Nat → (Nat → Int)
  | 0 => f
  | i + 1 => updf (lpA f p i) (p (i + 1)) (f (p i))
def lpW (wh f : Nat → Int) (p : Nat → Nat) : Nat → (Nat → Int)
  | 0 => wh
  | i + 1 => updf (lpW wh f p i) (f (p i)).toNat (p (i + 1) : Int)
def lpM (mv f : Nat → Int) (p : Nat → Nat) : Nat → (Nat → Int)
  | 0 => mv
  | i + 1 => updf (lpM mv f p i) (f (p i)).toNat (lpM mv f p i (f (p i)).toNat + 1)
def lpG (lg f : Nat → Int) (p : Nat → Nat) (n0 : Nat) : Nat → (Nat → Int)
  | 0 => lg
  | i + 1 => updf (updf (lpG lg f p n0 i) (n0 + 2 * i) (f (p i))) (n0 + 2 * i + 1) (p (i + 1) : Int)
/-- the law's log holds the service's -/
def LG (l : QL) (lg : Nat → Int) (n0 : Nat) : Prop := (n0 : Int) = 2 * l.sz ∧ 0 ≤ l.sz ∧ ∀ k : Nat, (k : Int) < l.sz → l.rq k = lg (2 * k) ∧ l.tg k = lg (2 * k + 1)
theorem okP_path {P : QP} {f : Nat → Int} {m : Int32} {L : Nat} {p : Nat → Nat} (hA : AtR P f) (hC : LC P) {r : Nat} (hr : (r : Int) < P.req) (hw : P.plc r = -1) (hm : P.acc r = m) (g : okP P f m L p) (hL1 : 1 ≤ L) (hL2 : L ≤ 4) : PathOK P r (fun k => (p k : Int)) (fun k => f (p k)) L := by
  refine ⟨hr, hw, hL1, by omega, fun i hi => ?_, fun i j hi hj e => g.2.1 i j hi hj ?_, ?_, fun i hi => ?_⟩
  · have := g.1 i hi
    show 0 ≤ (p i : Int) ∧ (p i : Int) < P.res
    rw [hC.1]
    omega
  · have e2 : (p i : Int) = (p j : Int) := e
    omega
  · show bt (P.acc r) ((p 0 : Int)).toNat = true
    rw [hm, show ((p 0 : Int)).toNat = p 0 by omega]
    exact g.2.2.1
  · obtain ⟨t, t1, t2, t3, t4, t5⟩ := okP_t hA g hi
    show 0 ≤ f (p i) ∧ f (p i) < P.req ∧ P.plc (f (p i)).toNat = (p i : Int) ∧ P.mov (f (p i)).toNat < P.ml ∧ bt (P.acc (f (p i)).toNat) ((p (i + 1) : Int)).toNat = true
    rw [t1, show ((t : Int)).toNat = t by omega, show ((p (i + 1) : Int)).toNat = p (i + 1) by omega]
    exact ⟨by omega, t2, t3, t4, t5⟩
theorem plX_row {P : QP} {f : Nat → Int} {l : QL} {m : Int32} {L : Nat} {p : Nat → Nat} (hI : PI P) (hA : AtR P f) (hC : LC P) {r : Nat} (hm : P.acc r = m) (hL1 : 1 ≤ L) (hL2 : L ≤ 4) (hd : ∀ i, i < L → p i < 4) (hmin : minL P m = (L : Int)) (hp : ∀ k, k < L → pA P (minL P m) (fstA P m) k = (p k : Int)) : plX P l r = plS P l r (fun k => (p k : Int)) (fun k => f (p k)) (L - 1) := by
  subst hm
  unfold plX
  rw [show (minL P (P.acc r)).toNat - 1 = L - 1 by omega]
  refine plS_congr (fun j hj => hp j (by omega)) (fun j hj => ?_)
  rcases minL_spec P hI (P.acc r) with ⟨e1, e2, e3⟩ | ⟨a, e1, e2, e3, e4, e5, e6, e7⟩
  · omega
  · have hsp := path_spec P hI (a0 := a) (L := L) (by omega) hL1 (by omega) j (by omega)
    rw [← hmin, ← e6] at hsp
    obtain ⟨a1, a2, a3, a4, a5⟩ := hsp
    obtain ⟨r2, b, r1, r3, r4, r5, -⟩ := a5 (by omega)
    have h1 := hp j (by omega)
    have ea : a1 = p j := by omega
    subst ea
    show pRq P (minL P (P.acc r)) (fstA P (P.acc r)) j = f (p j)
    rw [r3, hA.2 (p j) r2 (hd j (by omega)) r1 r4]
theorem LG_add {l : QL} {lg : Nat → Int} {n0 : Nat} {a b : Int} (h : LG l lg n0) (hs : l.sz < 200) : LG (lAdd l a b) (updf (updf lg n0 a) (n0 + 1) b) (n0 + 2) := by
  obtain ⟨h1, h2, h3⟩ := h
  unfold lAdd
  rw [if_pos hs]
  refine ⟨?_, ?_, fun k hk => ?_⟩
  · show ((n0 + 2 : Nat) : Int) = 2 * (l.sz + 1)
    omega
  · show 0 ≤ l.sz + 1
    omega
  · have hk2 : (k : Int) < l.sz + 1 := hk
    show updf l.rq l.sz.toNat a k = _ ∧ updf l.tg l.sz.toNat b k = _
    by_cases e : k = l.sz.toNat
    · have e1 : 2 * k = n0 := by omega
      have e2 : 2 * k + 1 = n0 + 1 := by omega
      rw [e1, e, updf_same, updf_same, updf_same, updf_ne _ _ (by omega), updf_same]
      exact ⟨rfl, rfl⟩
    · rw [updf_ne _ _ e, updf_ne _ _ e, updf_ne _ _ (by omega), updf_ne _ _ (by omega), updf_ne _ _ (by omega), updf_ne _ _ (by omega)]
      exact h3 k (by omega)
theorem lp_eq {P : QP} {f : Nat → Int} {l : QL} {m : Int32} {L : Nat} {p : Nat → Nat} {lg : Nat → Int} {n0 : Nat} (hI : PI P) (hA : AtR P f) (hC : LC P) {r : Nat} (hr : (r : Int) < P.req) (hw : P.plc r = -1) (hm : P.acc r = m) (g : okP P f m L p) (hL1 : 1 ≤ L) (hL2 : L ≤ 4) (hG : LG l lg n0) (hs : l.sz + L ≤ 200) : ∀ i, i < L →
    (plS P l r (fun k => (p k : Int)) (fun k => f (p k)) i).1.plc = updf (lpW P.plc f p i) r (p 0 : Int) ∧ (plS P l r (fun k => (p k : Int)) (fun k => f (p k)) i).1.mov = lpM P.mov f p i ∧ (plS P l r (fun k => (p k : Int)) (fun k => f (p k)) i).1.asg = updf P.asg (P.grp r).toNat (P.asg (P.grp r).toNat + 1) ∧ LG (plS P l r (fun k => (p k : Int)) (fun k => f (p k)) i).2 (lpG lg f p n0 i) (n0 + 2 * i) := by
  have hP := okP_path hA hC hr hw hm g hL1 hL2
  intro i
  induction i with
  | zero =>
    intro hi
    refine ⟨?_, rfl, rfl, hG⟩
    show updf P.plc r (((p 0 : Int)).toNat : Int) = updf P.plc r (p 0 : Int)
    rw [show (((p 0 : Int)).toNat : Int) = (p 0 : Int) by omega]
  | succ i ih =>
    intro hi
    obtain ⟨i1, i2, i3, i4⟩ := ih (by omega)
    obtain ⟨s1, s2, s3, s4, s5, s6, s7, s8, s9⟩ := plS_ok (l := l) hI hP i (by omega)
    obtain ⟨t, t1, t2, t3, t4, t5⟩ := okP_t hA g hi
    have et : (f (p i)).toNat = t := by omega
    have hne : t ≠ r := by
      intro e
      rw [e, hw] at t3
      omega
    have e0 : (((p (i + 1) : Int)).toNat : Int) = (p (i + 1) : Int) := by omega
    have hpt : 0 ≤ (plS P l r (fun k => (p k : Int)) (fun k => f (p k)) i).1.plc t := (s4 t hne).1 (by omega)
    refine ⟨?_, ?_, ?_, ?_⟩
    · funext x
      show (pMove (plS P l r (fun k => (p k : Int)) (fun k => f (p k)) i).1 (f (p i)).toNat ((p (i + 1) : Int)).toNat).plc x = updf (updf (lpW P.plc f p i) (f (p i)).toNat (p (i + 1) : Int)) r (p 0 : Int) x
      rw [pMove_plc, e0, i1, et]
      by_cases e : x = t
      · rw [if_pos e, updf_ne _ _ (by rw [e]; exact hne), e, updf_same]
      · rw [if_neg e]
        by_cases e2 : x = r
        · rw [e2, updf_same, updf_same]
        · rw [updf_ne _ _ e2, updf_ne _ _ e2, updf_ne _ _ e]
    · funext x
      show (pMove (plS P l r (fun k => (p k : Int)) (fun k => f (p k)) i).1 (f (p i)).toNat ((p (i + 1) : Int)).toNat).mov x = updf (lpM P.mov f p i) (f (p i)).toNat (lpM P.mov f p i (f (p i)).toNat + 1) x
      rw [pMove_mov, i2, et]
      by_cases e : x = t
      · rw [if_pos e, e, updf_same]
      · rw [if_neg e, updf_ne _ _ e]
    · funext x
      show (pMove (plS P l r (fun k => (p k : Int)) (fun k => f (p k)) i).1 (f (p i)).toNat ((p (i + 1) : Int)).toNat).asg x = _
      rw [et, pMove_asg hpt, i3]
    · have h9 := s9 hG.2.1 (by omega)
      have h10 := LG_add (a := f (p i)) (b := (p (i + 1) : Int)) i4 (by omega)
      exact h10
theorem lpW_out {wh f : Nat → Int} {p : Nat → Nat} {x : Nat} : ∀ {i : Nat}, (∀ k, k < i → (f (p k)).toNat ≠ x) → lpW wh f p i x = wh x
  | 0, _ => rfl
  | i + 1, h => by
    show updf (lpW wh f p i) (f (p i)).toNat (p (i + 1) : Int) x = _
    rw [updf_ne _ _ (fun e => h i (by omega) e.symm)]
    exact lpW_out (fun k hk => h k (by omega))
theorem lpW_in {wh f : Nat → Int} {p : Nat → Nat} {k : Nat} : ∀ {i : Nat}, k < i → (∀ j, j < i → j ≠ k → (f (p j)).toNat ≠ (f (p k)).toNat) → lpW wh f p i (f (p k)).toNat = (p (k + 1) : Int)
  | 0, hk, _ => absurd hk (Nat.not_lt_zero _)
  | i + 1, hk, h => by
    show updf (lpW wh f p i) (f (p i)).toNat (p (i + 1) : Int) (f (p k)).toNat = _
    by_cases e : k = i
    · subst e; rw [updf_same]
    · rw [updf_ne _ _ (fun e2 => h i (by omega) (fun q => e q.symm) e2.symm)]
      exact lpW_in (by omega) (fun j hj => h j (by omega))
theorem lpA_out {f : Nat → Int} {p : Nat → Nat} {a : Nat} : ∀ {i : Nat}, (∀ k, k < i → p (k + 1) ≠ a) → lpA f p i a = f a
  | 0, _ => rfl
  | i + 1, h => by
    show updf (lpA f p i) (p (i + 1)) (f (p i)) a = _
    rw [updf_ne _ _ (fun e => h i (by omega) e.symm)]
    exact lpA_out (fun k hk => h k (by omega))
theorem lpA_in {f : Nat → Int} {p : Nat → Nat} {k : Nat} : ∀ {i : Nat}, k < i → (∀ j, j < i → j ≠ k → p (j + 1) ≠ p (k + 1)) → lpA f p i (p (k + 1)) = f (p k)
  | 0, hk, _ => absurd hk (Nat.not_lt_zero _)
  | i + 1, hk, h => by
    show updf (lpA f p i) (p (i + 1)) (f (p i)) (p (k + 1)) = _
    by_cases e : k = i
    · subst e; rw [updf_same]
    · rw [updf_ne _ _ (fun e2 => h i (by omega) (fun q => e q.symm) e2.symm)]
      exact lpA_in (by omega) (fun j hj => h j (by omega))
theorem lp_at {P : QP} {f : Nat → Int} {l : QL} {m : Int32} {L : Nat} {p : Nat → Nat} (hA : AtR P f) {Q : QP} {r : Nat} (hr : (r : Int) < P.req) (hw : P.plc r = -1) (g : okP P f m L p) (hL1 : 1 ≤ L) (hreq : Q.req = P.req) (hplc : Q.plc = updf (lpW P.plc f p (L - 1)) r (p 0 : Int)) : AtR Q (updf (lpA f p (L - 1)) (p 0) (r : Int)) := by
  have hT : ∀ k, k < L - 1 → ∃ t : Nat, f (p k) = (t : Int) ∧ (t : Int) < P.req ∧ P.plc t = (p k : Int) ∧ (f (p k)).toNat = t ∧ t ≠ r := fun k hk => by
    obtain ⟨t, t1, t2, t3, t4, t5⟩ := okP_t hA g (k := k) (by omega)
    refine ⟨t, t1, t2, t3, by omega, fun e => ?_⟩
    rw [e, hw] at t3
    omega
  have hTd : ∀ j k, j < L - 1 → k < L - 1 → j ≠ k → (f (p j)).toNat ≠ (f (p k)).toNat := fun j k hj hk hne e => by
    obtain ⟨t, t1, t2, t3, t4, t5⟩ := hT j hj
    obtain ⟨u, u1, u2, u3, u4, u5⟩ := hT k hk
    rw [t4, u4] at e
    rw [e, u3] at t3
    exact hne (g.2.1 j k (by omega) (by omega) (by omega))
  have hpd : ∀ j k, j < L → k < L → j ≠ k → p j ≠ p k := fun j k hj hk hne e => hne (g.2.1 j k hj hk e)
  have hQr : Q.plc r = (p 0 : Int) := by rw [hplc, updf_same]
  have hQt : ∀ k, k < L - 1 → Q.plc (f (p k)).toNat = (p (k + 1) : Int) := fun k hk => by
    obtain ⟨t, t1, t2, t3, t4, t5⟩ := hT k hk
    rw [hplc, updf_ne _ _ (by rw [t4]; exact t5)]
    exact lpW_in hk (fun j hj hne => hTd j k hj hk hne)
  have hQo : ∀ x, x ≠ r → (∀ k, k < L - 1 → (f (p k)).toNat ≠ x) → Q.plc x = P.plc x := fun x hx h => by
    rw [hplc, updf_ne _ _ hx]
    exact lpW_out h
  have hF0 : updf (lpA f p (L - 1)) (p 0) (r : Int) (p 0) = (r : Int) := updf_same _ _ _
  have hFk : ∀ k, k < L - 1 → updf (lpA f p (L - 1)) (p 0) (r : Int) (p (k + 1)) = f (p k) := fun k hk => by
    rw [updf_ne _ _ (hpd (k + 1) 0 (by omega) (by omega) (by omega))]
    exact lpA_in hk (fun j hj hne => hpd (j + 1) (k + 1) (by omega) (by omega) (by omega))
  have hFo : ∀ a, (∀ k, k < L → p k ≠ a) → updf (lpA f p (L - 1)) (p 0) (r : Int) a = f a := fun a h => by
    rw [updf_ne _ _ (fun e => h 0 (by omega) e.symm)]
    exact lpA_out (fun k hk => h (k + 1) (by omega))
  refine ⟨fun a ha => ?_, fun a x ha hx hp => ?_⟩
  · by_cases hin : ∃ k, k < L ∧ p k = a
    · obtain ⟨k, hk, rfl⟩ := hin
      right
      cases k with
      | zero => exact ⟨r, hF0, by rw [hreq]; exact hr, hQr⟩
      | succ k =>
        obtain ⟨t, t1, t2, t3, t4, t5⟩ := hT k (by omega)
        have h1 := hQt k (by omega)
        rw [t4] at h1
        exact ⟨t, by rw [hFk k (by omega)]; exact t1, by rw [hreq]; exact t2, h1⟩
    · have hno : ∀ k, k < L → p k ≠ a := fun k hk e => hin ⟨k, hk, e⟩
      rw [hFo a hno]
      rcases hA.1 a ha with h | ⟨x, x1, x2, x3⟩
      · exact Or.inl h
      · right
        refine ⟨x, x1, by rw [hreq]; exact x2, ?_⟩
        rw [hQo x (fun e => by rw [e, hw] at x3; omega) (fun k hk e => by
          obtain ⟨t, t1, t2, t3, t4, t5⟩ := hT k hk
          rw [← e, t4, t3] at x3
          exact hno k (by omega) (by omega))]
        exact x3
  · rw [hreq] at hx
    by_cases e : x = r
    · rw [e, hQr] at hp
      have ea : a = p 0 := by omega
      rw [ea, hF0, e]
    · by_cases hin : ∃ k, k < L - 1 ∧ (f (p k)).toNat = x
      · obtain ⟨k, hk, ek⟩ := hin
        have h1 := hQt k hk
        rw [ek, hp] at h1
        have ea : a = p (k + 1) := by omega
        obtain ⟨t, t1, t2, t3, t4, t5⟩ := hT k hk
        rw [ea, hFk k hk]
        omega
      · have hno : ∀ k, k < L - 1 → (f (p k)).toNat ≠ x := fun k hk ek => hin ⟨k, hk, ek⟩
        rw [hQo x e hno] at hp
        have hfa := hA.2 a x ha hx hp
        rw [hFo a (fun k hk ek => ?_)]
        · exact hfa
        · rcases (by omega : k < L - 1 ∨ k = L - 1) with q | q
          · apply hno k q
            rw [ek]
            omega
          · have h4 := g.2.2.2.1
            rw [← q, ek] at h4
            omega
