/-! THE LAW'S ROWS OF RESOURCES: digits to the base of four, their order; paths at resources with room for one -/
def lef (row : Nat) : Nat → Nat
  | 0 => row
  | j + 1 => lef row j / 4
def dg (row L k : Nat) : Nat := lef row (L - 1 - k) % 4
def enc (p : Nat → Nat) : Nat → Nat
  | 0 => 0
  | n + 1 => enc p n * 4 + p n
def p4 : Nat → Nat
  | 0 => 1
  | n + 1 => p4 n * 4
theorem lef_4 (row : Nat) : ∀ j, lef (row / 4) j = lef row (j + 1)
  | 0 => rfl
  | j + 1 => by
    show lef (row / 4) j / 4 = lef row (j + 1) / 4
    rw [lef_4 row j]
theorem dg_lt (row L k : Nat) : dg row L k < 4 := Nat.mod_lt _ (by omega)
theorem dg_last (row L : Nat) : dg row (L + 1) L = row % 4 := by
  unfold dg
  rw [show L + 1 - 1 - L = 0 by omega]
  rfl
theorem dg_step {row L k : Nat} (h : k < L) : dg row (L + 1) k = dg (row / 4) L k := by
  unfold dg
  rw [lef_4, show L + 1 - 1 - k = (L - 1 - k) + 1 by omega]
theorem enc_congr {p q : Nat → Nat} : ∀ {n : Nat}, (∀ k, k < n → p k = q k) → enc p n = enc q n
  | 0, _ => rfl
  | n + 1, h => by
    simp only [enc]
    rw [enc_congr (n := n) (fun k hk => h k (by omega)), h n (by omega)]
theorem enc_dg : ∀ (L row : Nat), row < p4 L → enc (dg row L) L = row
  | 0, row, h => by
    simp only [p4] at h
    simp only [enc]
    omega
  | L + 1, row, h => by
    simp only [p4] at h
    simp only [enc]
    rw [enc_congr (q := dg (row / 4) L) (fun k hk => dg_step hk), enc_dg L (row / 4) (by omega), dg_last]
    omega
theorem enc_lt {p : Nat → Nat} : ∀ {n : Nat}, (∀ k, k < n → p k < 4) → enc p n < p4 n
  | 0, _ => by simp only [enc, p4]; omega
  | n + 1, h => by
    have h1 := enc_lt (p := p) (n := n) (fun k hk => h k (by omega))
    have h2 := h n (by omega)
    simp only [enc, p4]
    omega
theorem dg_enc {p : Nat → Nat} : ∀ {n : Nat}, (∀ k, k < n → p k < 4) → ∀ k, k < n → dg (enc p n) n k = p k
  | 0, _, k, hk => absurd hk (Nat.not_lt_zero _)
  | n + 1, h, k, hk => by
    have h2 := h n (by omega)
    by_cases e : k = n
    · subst e
      rw [dg_last]
      simp only [enc]
      omega
    · rw [dg_step (by omega)]
      have e1 : enc p (n + 1) / 4 = enc p n := by
        simp only [enc]
        omega
      rw [e1]
      exact dg_enc (n := n) (fun k hk => h k (by omega)) k (by omega)
theorem enc_lex {p q : Nat → Nat} : ∀ {n : Nat}, (∀ k, k < n → p k < 4) → (∀ k, k < n → q k < 4) → (∀ i, i < n → (∀ j, j < i → q j = p j) → q i ≤ p i) → (∀ j, j < n → q j = p j) ∨ enc q n < enc p n
  | 0, _, _, _ => Or.inl fun j hj => absurd hj (Nat.not_lt_zero _)
  | n + 1, hp, hq, h => by
    have p1 := hp n (by omega)
    have q1 := hq n (by omega)
    rcases enc_lex (n := n) (fun k hk => hp k (by omega)) (fun k hk => hq k (by omega)) (fun i hi => h i (by omega)) with e | e
    · have h2 := h n (by omega) e
      have e2 : enc q n = enc p n := enc_congr e
      by_cases e3 : q n = p n
      · left
        intro j hj
        by_cases ej : j = n
        · rw [ej]; exact e3
        · exact e j (by omega)
      · right
        simp only [enc]
        omega
    · right
      simp only [enc]
      omega
/-- of each of the four resources its request, -1: none -/
def AtR (P : QP) (f : Nat → Int) : Prop := (∀ a : Nat, a < 4 → f a = -1 ∨ ∃ r : Nat, f a = (r : Int) ∧ (r : Int) < P.req ∧ P.plc r = (a : Int)) ∧ ∀ a r : Nat, a < 4 → (r : Int) < P.req → P.plc r = (a : Int) → f a = (r : Int)
/-- what the law keeps as it is -/
def LC (P : QP) : Prop := P.res = 4 ∧ (∀ a : Nat, a < 4 → P.cap a = 1) ∧ (∀ g : Nat, g < 4 → P.quo g = 40) ∧ P.req ≤ 14 ∧ P.pl ≤ 3 ∧ P.ml ≤ 3
/-- the law's word of a path -/
def okP (P : QP) (f : Nat → Int) (m : Int32) (L : Nat) (p : Nat → Nat) : Prop :=
  (∀ i, i < L → p i < 4) ∧ (∀ i j, i < L → j < L → p i = p j → i = j) ∧ bt m (p 0) = true ∧ f (p (L - 1)) < 0 ∧ ∀ k, k + 1 < L → 0 ≤ f (p k) ∧ P.mov (f (p k)).toNat < P.ml ∧ bt (P.acc (f (p k)).toNat) (p (k + 1)) = true
theorem okP_congr {P : QP} {f : Nat → Int} {m : Int32} {L : Nat} {p q : Nat → Nat} (hL : 1 ≤ L) (h : ∀ k, k < L → q k = p k) (g : okP P f m L p) : okP P f m L q := by
  obtain ⟨g1, g2, g3, g4, g5⟩ := g
  refine ⟨fun i hi => by rw [h i hi]; exact g1 i hi, fun i j hi hj e => g2 i j hi hj (by rw [← h i hi, ← h j hj]; exact e), by rw [h 0 (by omega)]; exact g3, by rw [h (L - 1) (by omega)]; exact g4, fun k hk => ?_⟩
  rw [h k (by omega), h (k + 1) hk]
  exact g5 k hk
theorem lstI_le {p : Nat → Bool} {n k : Nat} (hk : k < n) (h : p k = true) : lstI p n ≤ (k : Int) := by
  rcases lstI_spec p n with ⟨g1, g2⟩ | ⟨i, g1, g2, g3, g4⟩
  · omega
  · rcases Nat.lt_or_ge k i with q | q
    · rw [g4 k q] at h; cases h
    · omega
theorem at_room {P : QP} {f : Nat → Int} (hI : PI P) (hA : AtR P f) (hC : LC P) {a : Nat} (ha : a < 4) : P.load a < P.cap a ↔ f a < 0 := by
  have hq := hI.req
  rw [hC.2.1 a ha, hI.2.1 a]
  rcases hA.1 a ha with h | ⟨r, h1, h2, h3⟩
  · rw [h, cnt0 P.req.toNat (fun j hj => decide_eq_false fun e => by have := hA.2 a j ha (by omega) e; omega)]
    exact ⟨fun _ => by omega, fun _ => by omega⟩
  · have h4 := cntF_pos (p := fun x => decide (P.plc x = (a : Int))) (n := P.req.toNat) (k := r) (by omega) (decide_eq_true h3)
    rw [h1]
    constructor
    · intro h; omega
    · intro h; omega
theorem okP_t {P : QP} {f : Nat → Int} {m : Int32} {L : Nat} {p : Nat → Nat} (hA : AtR P f) (g : okP P f m L p) {k : Nat} (hk : k + 1 < L) : ∃ t : Nat, f (p k) = (t : Int) ∧ (t : Int) < P.req ∧ P.plc t = (p k : Int) ∧ P.mov t < P.ml ∧ bt (P.acc t) (p (k + 1)) = true := by
  obtain ⟨h1, h2, h3⟩ := g.2.2.2.2 k hk
  rcases hA.1 (p k) (g.1 k (by omega)) with e | ⟨r, e1, e2, e3⟩
  · omega
  · have er : (f (p k)).toNat = r := by omega
    rw [er] at h2 h3
    exact ⟨r, e1, e2, e3, h2, h3⟩
theorem okP_up {P : QP} {f : Nat → Int} {m : Int32} {L : Nat} {p : Nat → Nat} (hA : AtR P f) (hC : LC P) (g : okP P f m L p) {i d : Nat} (hi : i + 1 < L) (h : sn P d (p (i + 1)) = true) : sn P (d + 1) (p i) = true := by
  obtain ⟨t, t1, t2, t3, t4, t5⟩ := okP_t hA g hi
  have hp := g.1 i (by omega)
  have hp2 := g.1 (i + 1) hi
  rw [sn_succ]
  refine ⟨by rw [hC.1]; omega, Or.inr ⟨t, by omega, ?_, p (i + 1), by omega, t5, h⟩⟩
  simp only [atB, movB, Bool.and_eq_true, decide_eq_true_eq]
  exact ⟨t3, by omega, t4⟩
theorem okP_sn {P : QP} {f : Nat → Int} {m : Int32} {L : Nat} {p : Nat → Nat} (hI : PI P) (hA : AtR P f) (hC : LC P) (g : okP P f m L p) : ∀ d i : Nat, i + d + 1 = L → sn P (d + 1) (p i) = true
  | 0, i, h => by
    have hp := g.1 i (by omega)
    rw [sn_succ]
    refine ⟨by rw [hC.1]; omega, Or.inl ((at_room hI hA hC hp).mpr ?_)⟩
    have e : i = L - 1 := by omega
    rw [e]
    exact g.2.2.2.1
  | d + 1, i, h => okP_up hA hC g (by omega) (okP_sn hI hA hC g d (i + 1) (by omega))
theorem dS_le {P : QP} {k a : Nat} (h : sn P (k + 1) a = true) (hk : k < 12) : 1 ≤ dS P a ∧ dS P a ≤ k + 1 := by
  unfold dS
  rcases lstI_spec (fun k => sn P (k + 1) a) 12 with ⟨g1, g2⟩ | ⟨i, g1, g2, g3, g4⟩
  · have z : sn P (k + 1) a = false := g2 k hk
    rw [h] at z; cases z
  · rw [if_neg (by omega), g2]
    rcases Nat.lt_or_ge k i with q | q
    · have z : sn P (k + 1) a = false := g4 k q
      rw [h] at z; cases z
    · omega
theorem okP_min {P : QP} {f : Nat → Int} {m : Int32} {L : Nat} {p : Nat → Nat} (hI : PI P) (hA : AtR P f) (hC : LC P) (g : okP P f m L p) (hL1 : 1 ≤ L) (hL2 : L ≤ 4) : 1 ≤ minL P m ∧ minL P m ≤ L := by
  have h1 := dS_le (okP_sn hI hA hC g (L - 1) 0 (by omega)) (by omega)
  have hp := g.1 0 (by omega)
  rcases minL_spec P hI m with ⟨e1, e2, e3⟩ | ⟨a, e1, e2, e3, e4, e5, e6, e7⟩
  · have := e3 (p 0) (by omega) g.2.2.1
    omega
  · have := e7 (p 0) (by omega) g.2.2.1
    omega
theorem okP_dS {P : QP} {f : Nat → Int} {m : Int32} {L : Nat} {p : Nat → Nat} (hI : PI P) (hA : AtR P f) (hC : LC P) (g : okP P f m L p) (hL1 : 1 ≤ L) (hL2 : L ≤ 4) (hm : minL P m = (L : Int)) : ∀ i : Nat, i < L → dS P (p i) = (L : Int) - i := by
  intro i
  induction i with
  | zero =>
    intro hi
    have h1 := dS_le (okP_sn hI hA hC g (L - 1) 0 (by omega)) (by omega)
    have hp := g.1 0 (by omega)
    rcases minL_spec P hI m with ⟨e1, e2, e3⟩ | ⟨a, e1, e2, e3, e4, e5, e6, e7⟩
    · omega
    · have := e7 (p 0) (by omega) g.2.2.1
      omega
  | succ i ih =>
    intro hi
    have h0 := ih (by omega)
    have h1 := dS_le (okP_sn hI hA hC g (L - 2 - i) (i + 1) (by omega)) (by omega)
    obtain ⟨d, hd⟩ : ∃ d : Nat, dS P (p (i + 1)) = (d : Int) := ⟨(dS P (p (i + 1))).toNat, by omega⟩
    have h2 := ((dS_iff hI (k := d) (by omega) (by omega)).mp hd).1
    have h3 := dS_le (okP_up hA hC g hi h2) (by omega)
    omega
theorem okP_lex {P : QP} {f : Nat → Int} {m : Int32} {L : Nat} {p : Nat → Nat} (hI : PI P) (hA : AtR P f) (hC : LC P) (g : okP P f m L p) (hL1 : 1 ≤ L) (hL2 : L ≤ 4) (hm : minL P m = (L : Int)) : ∀ i : Nat, i < L → (∀ j, j < i → pA P (minL P m) (fstA P m) j = (p j : Int)) → pA P (minL P m) (fstA P m) i ≤ (p i : Int) := by
  have hd := okP_dS hI hA hC g hL1 hL2 hm
  intro i hi hj
  rcases minL_spec P hI m with ⟨e1, e2, e3⟩ | ⟨a, e1, e2, e3, e4, e5, e6, e7⟩
  · omega
  · cases i with
    | zero =>
      have hp := g.1 0 (by omega)
      have h1 := e7 (p 0) (by omega) g.2.2.1
      have h2 := hd 0 (by omega)
      show fstA P m ≤ (p 0 : Int)
      rw [e6]
      omega
    | succ i =>
      have hpi := hj i (by omega)
      have hsp := path_spec P hI (a0 := a) (L := L) (by omega) hL1 (by omega) i (by omega)
      rw [← hm, ← e6] at hsp
      obtain ⟨a1, a2, a3, a4, a5⟩ := hsp
      obtain ⟨r, b, r1, r2, r3, r4, b1, b2, b3⟩ := a5 (by omega)
      have ea : a1 = p i := by omega
      subst ea
      have hfr := hA.2 (p i) r (g.1 i (by omega)) r1 r3
      obtain ⟨h1, h2, h3⟩ := g.2.2.2.2 i (by omega)
      have er : (f (p i)).toNat = r := by omega
      rw [er] at h2 h3
      have hp2 := g.1 (i + 1) hi
      have hd2 := hd (i + 1) hi
      show nA P (nR P (pA P (minL P m) (fstA P m) i) (minL P m - 1 - i)).toNat (minL P m - 1 - i) ≤ _
      have e9 : nR P (pA P (minL P m) (fstA P m) i) (minL P m - 1 - i) = (r : Int) := r2
      rw [e9]
      show nA P r _ ≤ _
      unfold nA
      refine lstI_le (by omega) ?_
      rw [h3, decide_eq_true (by omega)]
      rfl
theorem okP_pA {P : QP} {f : Nat → Int} {m : Int32} (hI : PI P) (hA : AtR P f) (hC : LC P) {r : Nat} (hr : (r : Int) < P.req) (hw : P.plc r = -1) (hm : P.acc r = m) (h1 : 1 ≤ minL P m) : okP P f m (minL P m).toNat (fun k => (pA P (minL P m) (fstA P m) k).toNat) := by
  subst hm
  obtain ⟨⟨-, -, -, -, c1, c2, c3, c4⟩, a, ea, hla⟩ := path_ok hI hr hw h1
  have c0 : ∀ i, i < (minL P (P.acc r)).toNat → 0 ≤ pA P (minL P (P.acc r)) (fstA P (P.acc r)) i ∧ pA P (minL P (P.acc r)) (fstA P (P.acc r)) i < 4 := fun i hi => by
    have := c1 i hi
    rw [hC.1] at this
    exact this
  refine ⟨fun i hi => ?_, fun i j hi hj e => c2 i j hi hj ?_, c3, ?_, fun k hk => ?_⟩
  · have := c0 i hi
    show (pA P (minL P (P.acc r)) (fstA P (P.acc r)) i).toNat < 4
    omega
  · have h2 := c0 i hi
    have h3 := c0 j hj
    have e2 : (pA P (minL P (P.acc r)) (fstA P (P.acc r)) i).toNat = (pA P (minL P (P.acc r)) (fstA P (P.acc r)) j).toNat := e
    omega
  · have h2 := c0 ((minL P (P.acc r)).toNat - 1) (by omega)
    show f (pA P (minL P (P.acc r)) (fstA P (P.acc r)) ((minL P (P.acc r)).toNat - 1)).toNat < 0
    rw [ea] at h2 ⊢
    exact (at_room hI hA hC (by omega)).mp hla
  · obtain ⟨k1, k2, k3, k4, k5⟩ := c4 k hk
    have h2 := c0 k (by omega)
    show 0 ≤ f (pA P (minL P (P.acc r)) (fstA P (P.acc r)) k).toNat ∧ P.mov (f (pA P (minL P (P.acc r)) (fstA P (P.acc r)) k).toNat).toNat < P.ml ∧ bt (P.acc (f (pA P (minL P (P.acc r)) (fstA P (P.acc r)) k).toNat).toNat) (pA P (minL P (P.acc r)) (fstA P (P.acc r)) (k + 1)).toNat = true
    have e1 := hA.2 (pA P (minL P (P.acc r)) (fstA P (P.acc r)) k).toNat (pRq P (minL P (P.acc r)) (fstA P (P.acc r)) k).toNat (by omega) (by omega) (by rw [k3]; omega)
    rw [e1]
    exact ⟨by omega, k4, k5⟩
theorem best_none {P : QP} {f : Nat → Int} {m : Int32} (hI : PI P) (hA : AtR P f) (hC : LC P) {r : Nat} (hr : (r : Int) < P.req) (hw : P.plc r = -1) (hm : P.acc r = m) (h : ∀ L, 1 ≤ L → L ≤ 4 → ∀ row, row < p4 L → ¬ okP P f m L (dg row L)) : minL P m = 0 := by
  have hres := hC.1
  rcases minL_spec P hI m with ⟨e1, e2, e3⟩ | ⟨a, e1, e2, e3, e4, e5, e6, e7⟩
  · exact e1
  · exfalso
    have g := okP_pA hI hA hC hr hw hm (by omega)
    have hR := dS_rng hI a
    exact h (minL P m).toNat (by omega) (by omega) _ (enc_lt g.1) (okP_congr (by omega) (dg_enc g.1) g)
theorem best_some {P : QP} {f : Nat → Int} {m : Int32} (hI : PI P) (hA : AtR P f) (hC : LC P) {r : Nat} (hr : (r : Int) < P.req) (hw : P.plc r = -1) (hm : P.acc r = m) {L row : Nat} (hL1 : 1 ≤ L) (hL2 : L ≤ 4) (hrow : row < p4 L) (g : okP P f m L (dg row L)) (h1 : ∀ x, x < row → ¬ okP P f m L (dg x L)) (h2 : ∀ K, 1 ≤ K → K < L → ∀ x, x < p4 K → ¬ okP P f m K (dg x K)) : minL P m = (L : Int) ∧ ∀ k, k < L → pA P (minL P m) (fstA P m) k = (dg row L k : Int) := by
  have hmin := okP_min hI hA hC g hL1 hL2
  have gq := okP_pA hI hA hC hr hw hm hmin.1
  have eL : minL P m = (L : Int) := by
    rcases (by omega : minL P m = (L : Int) ∨ minL P m < (L : Int)) with e | e
    · exact e
    · exfalso
      exact h2 (minL P m).toNat (by omega) (by omega) _ (enc_lt gq.1) (okP_congr (by omega) (dg_enc gq.1) gq)
  have eN : (minL P m).toNat = L := by omega
  refine ⟨eL, ?_⟩
  rw [eN] at gq
  have c0 : ∀ i, i < L → 0 ≤ pA P (minL P m) (fstA P m) i := fun i hi => by
    have hp := path_ok hI hr hw (by rw [hm]; exact hmin.1)
    rw [hm] at hp
    exact (hp.1.2.2.2.2.1 i (by omega)).1
  have key : ∀ i, i < L → (∀ j, j < i → (fun k => (pA P (minL P m) (fstA P m) k).toNat) j = dg row L j) → (fun k => (pA P (minL P m) (fstA P m) k).toNat) i ≤ dg row L i := by
    intro i hi hj
    have h3 := okP_lex hI hA hC g hL1 hL2 eL i hi (fun j hj2 => by
      have h5 : (pA P (minL P m) (fstA P m) j).toNat = dg row L j := hj j hj2
      have h6 := c0 j (by omega)
      omega)
    show (pA P (minL P m) (fstA P m) i).toNat ≤ dg row L i
    omega
  rcases enc_lex (p := dg row L) (q := fun k => (pA P (minL P m) (fstA P m) k).toNat) (n := L) (fun k _ => dg_lt row L k) gq.1 key with e | e
  · intro k hk
    have h3 : (pA P (minL P m) (fstA P m) k).toNat = dg row L k := e k hk
    have h4 := c0 k hk
    omega
  · exfalso
    rw [enc_dg L row hrow] at e
    exact h1 _ e (okP_congr hL1 (dg_enc gq.1) gq)
