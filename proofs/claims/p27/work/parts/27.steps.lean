/-! the service's state and its steps -/
def SV (P : QP) (l : QL) : Prop := PI P ∧ PFe P ∧ 0 ≤ l.sz ∧ l.sz ≤ 200
/-- a mask that names only resources that are -/
def mOK (P : QP) (m : Int32) : Prop := ¬ (m < 0) ∧ m &&& (maskAll P.res ^^^ iI (-1)) = 0
theorem mOK_bits {P : QP} {m : Int32} (hI : PI P) (h : mOK P m) : ∀ j, j < 32 → bt m j = true → (j : Int) < P.res := by
  intro j hj hb
  have h1 := b_and0.mp h.2 j hj
  rw [hb, b_not hj, maskAll_bt hI hj, Bool.true_and] at h1
  by_cases e : (j : Int) < P.res
  · exact e
  · rw [decide_eq_false e] at h1; cases h1
/-- all waiting requests tried once, the log anew -/
def rn (P : QP) (l : QL) : QP × QL × Int := runF P.req.toNat P (l.1, l.2.1, 0) (fun _ => false) 0
theorem rn_ok {P : QP} {l : QL} (hI : PI P) (hF : PFe P) : SV (rn P l).1 (rn P l).2.1 ∧ SameQ P (rn P l).1 ∧ 0 ≤ (rn P l).2.2 ∧ (rn P l).2.2 ≤ 40 := by
  have hr := hI.req
  obtain ⟨h1, h2, h3, h4, h5⟩ := runF_ok P.req.toNat P (l.1, l.2.1, 0) (fun _ => false) 0 hI (Int.le_refl 0) (by show (0 : Int) + 5 * (P.req.toNat : Int) ≤ 200; omega) (Int.le_refl 0)
  exact ⟨⟨h1, h3 hF, h4.1, h4.2⟩, h2, h5.1, by have := h5.2; show (runF P.req.toNat P (l.1, l.2.1, 0) (fun _ => false) 0).2.2 ≤ 40; omega⟩
theorem cnt0 {p : Nat → Bool} : ∀ n, (∀ j, j < n → p j = false) → cntF p n = 0
  | 0, _ => rfl
  | n + 1, h => by
    simp only [cntF]
    rw [cnt0 n (fun j hj => h j (by omega)), h n (by omega)]
    rfl
theorem PFe_open {P : QP} {c : Int} (hI : PI P) (hF : PFe P) (hc : 0 ≤ c) : PFe (pOpen P c) := by
  obtain ⟨f1, f2, f3, f4⟩ := hF
  have hr := hI.res
  refine ⟨fun a ha => ?_, f2, f3, fun r hr j hj hb => ?_⟩
  · show P.load a ≤ updf P.cap P.res.toNat c a
    have ha2 : (a : Int) < P.res + 1 := ha
    by_cases e : a = P.res.toNat
    · rw [e, updf_same, hI.2.1, cnt0 _ (fun j hj => decide_eq_false (by have := hI.plr j (by omega); omega))]
      exact hc
    · rw [updf_ne _ _ e]; exact f1 a (by omega)
  · have := f4 r hr j hj hb
    show (j : Int) < P.res + 1
    omega
theorem PFe_admit {P : QP} {g : Int} {m : Int32} (hI : PI P) (hF : PFe P) (hm : mOK P m) : PFe (pAdmit P g m) := by
  obtain ⟨f1, f2, f3, f4⟩ := hF
  have hr := hI.req
  refine ⟨f1, f2, fun x hx hp => ?_, fun r hr2 j hj hb => ?_⟩
  · have hx2 : (x : Int) < P.req + 1 := hx
    have hp2 : 0 ≤ updf P.plc P.req.toNat (-1) x := hp
    show bt (updf P.acc P.req.toNat m x) (updf P.plc P.req.toNat (-1) x).toNat = true
    by_cases e : x = P.req.toNat
    · rw [e, updf_same] at hp2; omega
    · rw [updf_ne _ _ e] at hp2 ⊢
      rw [updf_ne _ _ e]
      exact f3 x (by omega) hp2
  · have hx2 : (r : Int) < P.req + 1 := hr2
    have hb2 : bt (updf P.acc P.req.toNat m r) j = true := hb
    by_cases e : r = P.req.toNat
    · rw [e, updf_same] at hb2; exact mOK_bits hI hm j hj hb2
    · rw [updf_ne _ _ e] at hb2; exact f4 r (by omega) j hj hb2
theorem PFe_dismiss {P : QP} {r : Nat} (hF : PFe P) : PFe (pDismiss P r) := by
  obtain ⟨f1, f2, f3, f4⟩ := (Less_put P r).fe hF
  refine ⟨f1, f2, fun x hx hp => ?_, f4⟩
  have hp2 : 0 ≤ updf (pPut P r).plc r (-2) x := hp
  show bt ((pPut P r).acc x) (updf (pPut P r).plc r (-2) x).toNat = true
  by_cases e : x = r
  · rw [e, updf_same] at hp2; omega
  · rw [updf_ne _ _ e] at hp2 ⊢
    exact f3 x hx hp2
theorem PFe_accept {P : QP} {r : Nat} {m : Int32} (hI : PI P) (hF : PFe P) (hm : mOK P m) : PFe (pAccept P r m) := by
  obtain ⟨f1, f2, f3, f4⟩ := hF
  have hpl := hI.plc r
  have h4 : ∀ x : Nat, (x : Int) < P.req → ∀ j, j < 32 → bt (updf P.acc r m x) j = true → (j : Int) < P.res := fun x hx j hj hb => by
    by_cases e : x = r
    · rw [e, updf_same] at hb; exact mOK_bits hI hm j hj hb
    · rw [updf_ne _ _ e] at hb; exact f4 x hx j hj hb
  unfold pAccept
  split
  · rename_i h
    have L := Less_put (pMask P r m) r
    have hq : (pPut (pMask P r m) r).plc r < 0 := pPut_plc _ r
    obtain ⟨⟨a1, a2, a3, a4, a5, a6, a7, a8, a9, a10⟩, h2, h3, h5⟩ := L
    refine ⟨fun a ha => ?_, fun g hg => ?_, fun x hx hp => ?_, fun x hx j hj hb => ?_⟩
    · rw [a1] at ha; rw [a2]; exact Int.le_trans (h2 a) (f1 a ha)
    · rw [a3]; exact Int.le_trans (h3 g) (f2 g hg)
    · rw [a5] at hx
      rw [a7]
      show bt (updf P.acc r m x) _ = true
      by_cases e : x = r
      · rw [e] at hp; omega
      · rw [updf_ne _ _ e]
        rcases h5 x with e2 | ⟨e2, e3⟩
        · rw [e2] at hp ⊢; exact f3 x hx hp
        · omega
    · rw [a5] at hx; rw [a7] at hb; rw [a1]; exact h4 x hx j hj hb
  · rename_i h
    refine ⟨f1, f2, fun x hx hp => ?_, h4⟩
    show bt (updf P.acc r m x) (P.plc x).toNat = true
    have hp2 : 0 ≤ P.plc x := hp
    by_cases e : x = r
    · rw [e] at hp2 ⊢
      rw [updf_same]
      cases hb : bitB m (P.plc r).toNat
      · exact absurd ⟨hp2, hb⟩ h
      · rw [← bitB_bt m (by omega)]; exact hb
    · rw [updf_ne _ _ e]; exact f3 x hx hp2
theorem PFe_backC {P : QP} {a : Nat} {c : Int} (hI : PI P) (hF : PFe P) (hc : 0 ≤ c ∧ c ≤ 4) : PFe (pBackC a P.req.toNat (pCap P a c) 0).1 := by
  obtain ⟨f1, f2, f3, f4⟩ := hF
  have hr := hI.req
  obtain ⟨g1, L, g3, g4, g5⟩ := backC_ok a P.req.toNat (pCap P a c) 0 (PI_cap hI hc) (by show (P.req.toNat : Int) ≤ P.req; omega) (Int.le_refl 0)
  have L3 := L.fa (P := pCap P a c) f3
  have g6 := g5 (fun j hj hj2 => by have hj3 : (j : Int) < P.req := hj2; omega) (by show 0 ≤ updf P.cap a c a; rw [updf_same]; exact hc.1)
  obtain ⟨⟨a1, a2, a3, a4, a5, a6, a7, a8, a9, a10⟩, h2, h3, h4⟩ := L
  refine ⟨fun b hb => ?_, fun g hg => ?_, L3, fun x hx j hj hb => ?_⟩
  · rw [a1] at hb; rw [a2]
    by_cases e : b = a
    · rw [e]; exact g6
    · have := h2 b
      have h9 : P.load b ≤ P.cap b := f1 b hb
      show _ ≤ updf P.cap a c b
      rw [updf_ne _ _ e]
      exact Int.le_trans this h9
  · rw [a3]; exact Int.le_trans (h3 g) (f2 g hg)
  · rw [a5] at hx; rw [a7] at hb; rw [a1]; exact f4 x hx j hj hb
theorem PFe_backQ {P : QP} {g : Nat} {q w : Int} (hI : PI P) (hF : PFe P) (hq : 0 ≤ q ∧ q ≤ 40) (hw : 1 ≤ w ∧ w ≤ 10) : PFe (pBackQ g P.req.toNat (pGrp P g q w) 0).1 := by
  obtain ⟨f1, f2, f3, f4⟩ := hF
  have hr := hI.req
  obtain ⟨g1, L, g3, g4, g5⟩ := backQ_ok g P.req.toNat (pGrp P g q w) 0 (PI_grp hI hq hw) (by show (P.req.toNat : Int) ≤ P.req; omega) (Int.le_refl 0)
  have L3 := L.fa (P := pGrp P g q w) f3
  have g6 := g5 (fun j hj hj2 => by have hj3 : (j : Int) < P.req := hj2; omega) (by show 0 ≤ updf P.quo g q g; rw [updf_same]; exact hq.1)
  obtain ⟨⟨a1, a2, a3, a4, a5, a6, a7, a8, a9, a10⟩, h2, h3, h4⟩ := L
  refine ⟨fun b hb => ?_, fun b hb => ?_, L3, fun x hx j hj hb => ?_⟩
  · rw [a1] at hb; rw [a2]; exact Int.le_trans (h2 b) (f1 b hb)
  · rw [a3]
    by_cases e : b = g
    · rw [e]; exact g6
    · have := h3 b
      have h9 : P.asg b ≤ P.quo b := f2 b hb
      show _ ≤ updf P.quo g q b
      rw [updf_ne _ _ e]
      exact Int.le_trans this h9
  · rw [a5] at hx; rw [a7] at hb; rw [a1]; exact f4 x hx j hj hb
theorem PI_backC {P : QP} {a : Nat} {c : Int} (hI : PI P) (hc : 0 ≤ c ∧ c ≤ 4) : PI (pBackC a P.req.toNat (pCap P a c) 0).1 ∧ 0 ≤ (pBackC a P.req.toNat (pCap P a c) 0).2 ∧ (pBackC a P.req.toNat (pCap P a c) 0).2 ≤ 40 := by
  have hr := hI.req
  obtain ⟨g1, L, g3, g4, g5⟩ := backC_ok a P.req.toNat (pCap P a c) 0 (PI_cap hI hc) (by show (P.req.toNat : Int) ≤ P.req; omega) (Int.le_refl 0)
  exact ⟨g1, g3, by omega⟩
theorem PI_backQ {P : QP} {g : Nat} {q w : Int} (hI : PI P) (hq : 0 ≤ q ∧ q ≤ 40) (hw : 1 ≤ w ∧ w ≤ 10) : PI (pBackQ g P.req.toNat (pGrp P g q w) 0).1 ∧ 0 ≤ (pBackQ g P.req.toNat (pGrp P g q w) 0).2 ∧ (pBackQ g P.req.toNat (pGrp P g q w) 0).2 ≤ 40 := by
  have hr := hI.req
  obtain ⟨g1, L, g3, g4, g5⟩ := backQ_ok g P.req.toNat (pGrp P g q w) 0 (PI_grp hI hq hw) (by show (P.req.toNat : Int) ≤ P.req; omega) (Int.le_refl 0)
  exact ⟨g1, g3, by omega⟩
