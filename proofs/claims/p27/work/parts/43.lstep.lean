/-! THE LAW'S STEPS AGAINST THE SERVICE'S, in words of QP -/
/-- what bestPath answers -/
def BP (P : QP) (f : Nat → Int) (m : Int32) (z : Int32) (u : Nat → Int) : Prop :=
  (z = iI 0 ∧ minL P m = 0) ∨ ∃ (L : Nat) (p : Nat → Nat), 1 ≤ L ∧ L ≤ 4 ∧ z = iI (L : Int) ∧ minL P m = (L : Int) ∧ okP P f m L p ∧ (∀ k, k < L → pA P (minL P m) (fstA P m) k = (p k : Int)) ∧ ∀ k, k < L → u k = (p k : Int)
theorem LC_of {P Q : QP} (h : LC P) (h1 : Q.res = P.res) (h2 : Q.cap = P.cap) (h3 : Q.quo = P.quo) (h4 : Q.req ≤ 14) (h5 : Q.pl = P.pl) (h6 : Q.ml = P.ml) : LC Q := by
  obtain ⟨a1, a2, a3, a4, a5, a6⟩ := h
  exact ⟨h1.trans a1, by rw [h2]; exact a2, by rw [h3]; exact a3, h4, by rw [h5]; exact a5, by rw [h6]; exact a6⟩
theorem LC_same {P Q : QP} (h : LC P) (g : SameQ P Q) : LC Q := by
  obtain ⟨a1, a2, a3, a4, a5, a6, a7, a8, a9⟩ := g
  exact LC_of h a1 a2 a3 (by rw [a5]; exact h.2.2.2.1) a8 a9
theorem grp_room {P : QP} (hI : PI P) (hC : LC P) (r : Nat) : P.asg (P.grp r).toNat < P.quo (P.grp r).toNat := by
  have hg := hI.grp r
  rw [hC.2.2.1 _ (by omega), hI.2.2 _]
  have h1 := cntF_le (fun x => decide (0 ≤ P.plc x ∧ P.grp x = ((P.grp r).toNat : Int))) P.req.toNat
  have h2 := hC.2.2.2.1
  have h3 := hI.req
  omega
theorem try_no {P : QP} {l : QL} {r : Nat} (h : ¬ (1 ≤ minL P (P.acc r) ∧ minL P (P.acc r) - 1 ≤ P.pl)) : tryS P l r = (false, P, l) := by
  unfold tryS
  rw [if_neg (fun q => h q.2)]
theorem try_yes {P : QP} {f : Nat → Int} {l : QL} {r L : Nat} {p : Nat → Nat} {lg : Nat → Int} {n0 : Nat} (hI : PI P) (hA : AtR P f) (hC : LC P) (hr : (r : Int) < P.req) (hw : P.plc r = -1) (hL1 : 1 ≤ L) (hL2 : L ≤ 4) (hmin : minL P (P.acc r) = (L : Int)) (g : okP P f (P.acc r) L p) (hp : ∀ k, k < L → pA P (minL P (P.acc r)) (fstA P (P.acc r)) k = (p k : Int)) (hpl : (L : Int) - 1 ≤ P.pl) (hG : LG l lg n0) (hs : l.sz + L ≤ 200) :
    (tryS P l r).1 = true ∧ SameQ P (tryS P l r).2.1 ∧ (tryS P l r).2.1.plc = updf (lpW P.plc f p (L - 1)) r (p 0 : Int) ∧ (tryS P l r).2.1.mov = lpM P.mov f p (L - 1) ∧ (tryS P l r).2.1.asg = updf P.asg (P.grp r).toNat (P.asg (P.grp r).toNat + 1) ∧ LG (tryS P l r).2.2 (lpG lg f p n0 (L - 1)) (n0 + 2 * (L - 1)) ∧ AtR (tryS P l r).2.1 (updf (lpA f p (L - 1)) (p 0) (r : Int)) := by
  have hsm := tryS_same P l r
  have e : tryS P l r = (true, plX P l r) := by
    unfold tryS
    rw [if_pos ⟨grp_room hI hC r, by omega, by omega⟩]
  rw [e] at hsm ⊢
  obtain ⟨h1, h2, h3, h4⟩ := lp_eq hI hA hC hr hw rfl g hL1 hL2 hG hs (L - 1) (by omega)
  rw [← plX_row hI hA hC rfl hL1 hL2 g.1 hmin hp] at h1 h2 h3 h4
  exact ⟨rfl, hsm, h1, h2, h3, h4, lp_at (l := l) hA hr hw g hL1 hsm.2.2.2.2.1 h1⟩
theorem AtR_neg {P Q : QP} {f : Nat → Int} {r : Nat} {v : Int} (hA : AtR P f) (hn : P.plc r < 0) (hv : v < 0) (h1 : Q.req = P.req) (h2 : Q.plc = updf P.plc r v) : AtR Q f := by
  refine ⟨fun a ha => ?_, fun a x ha hx hp => ?_⟩
  · rcases hA.1 a ha with h | ⟨x, x1, x2, x3⟩
    · exact Or.inl h
    · refine Or.inr ⟨x, x1, by rw [h1]; exact x2, ?_⟩
      rw [h2, updf_ne _ _ (fun e => by rw [e] at x3; omega)]
      exact x3
  · rw [h2] at hp
    by_cases e : x = r
    · rw [e, updf_same] at hp; omega
    · rw [updf_ne _ _ e] at hp
      exact hA.2 a x ha (by rw [← h1]; exact hx) hp
theorem AtR_eq {P Q : QP} {f : Nat → Int} (hA : AtR P f) (h1 : Q.req = P.req) (h2 : Q.plc = P.plc) : AtR Q f := by
  unfold AtR
  rw [h1, h2]
  exact hA
theorem AtR_put {P Q : QP} {f : Nat → Int} {r b : Nat} {v : Int} (hA : AtR P f) (hr : (r : Int) < P.req) (hb : b < 4) (hp0 : P.plc r = (b : Int)) (hv : v < 0) (h1 : Q.req = P.req) (h2 : Q.plc = updf P.plc r v) : AtR Q (updf f b (-1)) := by
  have hfb := hA.2 b r hb hr hp0
  refine ⟨fun a ha => ?_, fun a x ha hx hp => ?_⟩
  · by_cases ea : a = b
    · left; rw [ea, updf_same]
    · rw [updf_ne _ _ ea]
      rcases hA.1 a ha with h | ⟨x, x1, x2, x3⟩
      · exact Or.inl h
      · refine Or.inr ⟨x, x1, by rw [h1]; exact x2, ?_⟩
        rw [h2, updf_ne _ _ (fun e => by rw [e, hp0] at x3; omega)]
        exact x3
  · rw [h2] at hp
    by_cases e : x = r
    · rw [e, updf_same] at hp; omega
    · rw [updf_ne _ _ e] at hp
      have h3 := hA.2 a x ha (by rw [← h1]; exact hx) hp
      rw [updf_ne _ _ (fun ea => by rw [ea, hfb] at h3; omega)]
      exact h3
theorem AtR_admit {P : QP} {f : Nat → Int} {g : Int} {m : Int32} (hI : PI P) (hA : AtR P f) : AtR (pAdmit P g m) f := by
  have hq := hI.req
  refine ⟨fun a ha => ?_, fun a x ha hx hp => ?_⟩
  · rcases hA.1 a ha with h | ⟨x, x1, x2, x3⟩
    · exact Or.inl h
    · refine Or.inr ⟨x, x1, ?_, ?_⟩
      · show (x : Int) < P.req + 1
        omega
      · show updf P.plc P.req.toNat (-1) x = _
        rw [updf_ne _ _ (by omega)]
        exact x3
  · have hx2 : (x : Int) < P.req + 1 := hx
    have hp2 : updf P.plc P.req.toNat (-1) x = (a : Int) := hp
    by_cases e : x = P.req.toNat
    · rw [e, updf_same] at hp2; omega
    · rw [updf_ne _ _ e] at hp2
      exact hA.2 a x ha (by omega) hp2
/-- what holds at the head of the law's loop -/
def HV (P : QP) (l : QL) (f : Nat → Int) : Prop := SV P l ∧ LC P ∧ AtR P f
theorem mask16 : ∀ i, i < 16 → (¬ (iI ((i : Nat) : Int) < 0) ∧ iI ((i : Nat) : Int) &&& (maskAll 4 ^^^ iI (-1)) = 0) := by decide +kernel
theorem mOK16 {P : QP} (hC : LC P) {i : Nat} (hi : i < 16) : mOK P (iI (i : Int)) := by
  unfold mOK
  rw [hC.1]
  exact mask16 i hi
theorem b_one1 (x : Int32) : (x &&& iI 1 = iI 1) ↔ ¬ (x &&& iI 1 = 0) := by
  constructor
  · intro h h2
    rw [h] at h2
    exact absurd h2 (by decide)
  · intro h
    apply b_ext
    intro i hi
    rw [b_and, b_one i hi]
    by_cases e : i = 0
    · subst e
      cases hb : bt x 0
      · exfalso
        apply h
        rw [b_and0]
        intro k hk
        rw [b_one k hk]
        by_cases e : k = 0
        · subst e; rw [hb]; rfl
        · rw [decide_eq_false e, Bool.and_false]
      · rfl
    · rw [decide_eq_false e, Bool.and_false]
/-- a mask's bit as the law asks for it -/
theorem bitz {m : Int32} {k : Nat} (hk : k < 31) : ((m >>> (iI (k : Int) &&& 31)) &&& iI 1) = 0 ↔ bt m k = false := by
  have h := bitB_bt m hk
  unfold bitB at h
  rw [← h]
  simp
theorem bit1z {m : Int32} {k : Nat} (hk : k < 31) : ((m >>> (iI (k : Int) &&& 31)) &&& iI 1) = iI 1 ↔ bt m k = true := by
  rw [b_one1, bitz hk]
  simp
theorem stN_b (p : Int) : stN p = if 0 ≤ p then 1 else if p = -1 then 0 else 2 := by
  unfold stN
  by_cases h : p = -1
  · subst h
    decide
  · simp only [if_neg h]
theorem grp_wei {P : QP} (hI : PI P) (a b : Nat) : 0 ≤ P.asg a * P.wei b ∧ P.asg a * P.wei b ≤ 400 := mul_rng (hI.asg a) (hI.wei b)
theorem pDismiss_same (P : QP) (r : Nat) : SameQ P (pDismiss P r) := same_put P r
theorem pAccept_req (P : QP) (r : Nat) (m : Int32) : (pAccept P r m).res = P.res ∧ (pAccept P r m).cap = P.cap ∧ (pAccept P r m).quo = P.quo ∧ (pAccept P r m).wei = P.wei ∧ (pAccept P r m).req = P.req ∧ (pAccept P r m).grp = P.grp ∧ (pAccept P r m).pl = P.pl ∧ (pAccept P r m).ml = P.ml := by
  unfold pAccept
  split
  · exact ⟨pPut_res (pMask P r m) r, pPut_cap (pMask P r m) r, pPut_quo (pMask P r m) r, pPut_wei (pMask P r m) r, pPut_req (pMask P r m) r, pPut_grp (pMask P r m) r, pPut_pl (pMask P r m) r, pPut_ml (pMask P r m) r⟩
  · exact ⟨rfl, rfl, rfl, rfl, rfl, rfl, rfl, rfl⟩
