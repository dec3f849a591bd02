/-! fairness: no NaN, and the squares' sum is positive as soon as a request is assigned -/
abbrev fz (x : UInt64) : Int := FP.Core.zval FP.Core.b64 (FP.Core.val64 x)
def fM (K : Nat) (x : UInt64) : Prop := x.toNat % 2 ^ 63 < K * 2 ^ 52
theorem fM.up {K L : Nat} {x : UInt64} (h : fM K x) (hl : K ≤ L) : fM L x := Nat.lt_of_lt_of_le h (Nat.mul_le_mul_right _ hl)
theorem fM.fin {K : Nat} {x : UInt64} (h : fM K x) (hK : K ≤ 2047) : FP.Core.DFin x := FP.Core.fin_of_lt h hK
theorem f_nn2 {x : UInt64} (h : FP.Core.dIsNaN x = false) : vf_n64 x := by
  unfold vf_n64
  rw [UInt64.le_iff_toNat_le, FP.Core.mask_toNat]
  exact (FP.Core.ne_nan x).mp ((FP.Core.notNaN_iff x).mp h)
theorem fM.nn {K : Nat} {x : UInt64} (h : fM K x) (hK : K ≤ 2047) : vf_n64 x := f_nn2 (h.fin hK).notNaN
theorem fM.lt {K : Nat} {x : UInt64} (h : x.toNat < K * 2 ^ 52) : fM K x := Nat.lt_of_le_of_lt (Nat.mod_le _ _) h
theorem f_pos {K : Nat} {x : UInt64} (h : x.toNat < K * 2 ^ 52) (hK : K ≤ 2047) : 0 ≤ fz x :=
  FP.Core.zval_nonneg ((fM.lt h).fin hK).ne_nan (Nat.lt_of_lt_of_le h (Nat.le_trans (Nat.mul_le_mul_right _ hK) (by decide +kernel)))
theorem f_add {a b : UInt64} {K : Nat} (ha : fM K a) (hb : fM K b) (hK : K ≤ 2045) (za : 0 ≤ fz a) (zb : 0 ≤ fz b) :
    fM (K + 2) (FP.dadd a b) ∧ fz a ≤ fz (FP.dadd a b) ∧ fz b ≤ fz (FP.dadd a b) ∧ vf_n64 (FP.dadd a b) := by
  have h1 : fM (K + 2) (FP.dadd a b) := FP.Core.dadd_mag ha hb (Nat.le_trans hK (by decide))
  have fa := ha.fin (Nat.le_trans hK (by decide))
  have fb := hb.fin (Nat.le_trans hK (by decide))
  have e : FP.Core.val64 (FP.dadd a b) = FP.Core.round FP.Core.b64 (FP.Core.exactSum (FP.Core.val64 a) (FP.Core.val64 b)) := FP.Core.val64_dadd a b
  refine ⟨h1, ?_, ?_, h1.nn (Nat.add_le_add_right hK 2)⟩
  · show fz a ≤ FP.Core.zval FP.Core.b64 (FP.Core.val64 (FP.dadd a b))
    rw [e]
    exact FP.Core.sum_ge FP.Core.good_b64 fa fb (FP.Core.val64_fits a) (FP.Core.val64_fits b) (FP.Core.val64_fits a) fa.ne_nan (Int.le_add_of_nonneg_right zb)
  · show fz b ≤ FP.Core.zval FP.Core.b64 (FP.Core.val64 (FP.dadd a b))
    rw [e]
    exact FP.Core.sum_ge FP.Core.good_b64 fa fb (FP.Core.val64_fits a) (FP.Core.val64_fits b) (FP.Core.val64_fits b) fb.ne_nan (Int.le_add_of_nonneg_left za)
def shN (a w : Nat) : UInt64 := FP.ddiv (FP.i2d (iI (a : Int))) (FP.i2d (iI (w : Int)))
def shC (a w : Nat) : Bool := w == 0 || (Nat.blt (shN a w).toNat (1040 * 2 ^ 52) && Nat.blt (FP.dmul (shN a w) (shN a w)).toNat (1060 * 2 ^ 52) && (if a = 0 then FP.dmul (shN a w) (shN a w) == 0 else FP.dcmp (FP.dmul (shN a w) (shN a w)) 0 == some .gt))
theorem sh_tab : ∀ a, a < 41 → ∀ w, w < 11 → shC a w = true := by decide +kernel
def f_sh (a w : Int) : UInt64 := FP.ddiv (FP.i2d (iI a)) (FP.i2d (iI w))
def ShOK (a : Int) (x : UInt64) : Prop := fM 1040 x ∧ 0 ≤ fz x ∧ fM 1060 (FP.dmul x x) ∧ 0 ≤ fz (FP.dmul x x) ∧ (a ≠ 0 → 0 < fz (FP.dmul x x)) ∧ (a = 0 → FP.dmul x x = 0)
theorem ShOK.m1 {a : Int} {x : UInt64} (h : ShOK a x) : fM 1040 x := h.1
theorem ShOK.z1 {a : Int} {x : UInt64} (h : ShOK a x) : 0 ≤ fz x := h.2.1
theorem ShOK.m2 {a : Int} {x : UInt64} (h : ShOK a x) : fM 1060 (FP.dmul x x) := h.2.2.1
theorem ShOK.z2 {a : Int} {x : UInt64} (h : ShOK a x) : 0 ≤ fz (FP.dmul x x) := h.2.2.2.1
theorem ShOK.p2 {a : Int} {x : UInt64} (h : ShOK a x) : a ≠ 0 → 0 < fz (FP.dmul x x) := h.2.2.2.2.1
theorem ShOK.e2 {a : Int} {x : UInt64} (h : ShOK a x) : a = 0 → FP.dmul x x = 0 := h.2.2.2.2.2
theorem sh_okN {n k : Nat} (hn : n < 41) (hk : k < 11) (h1 : 1 ≤ k) : ShOK (n : Int) (shN n k) := by
  have h := sh_tab n hn k hk
  unfold shC at h
  have hk0 : (k == 0) = false := by cases k with
    | zero => exact absurd h1 (by decide)
    | succ k => rfl
  rw [hk0, Bool.false_or, Bool.and_eq_true, Bool.and_eq_true] at h
  obtain ⟨⟨g1, g2⟩, g3⟩ := h
  have g1 := Nat.le_of_ble_eq_true g1
  have g2 := Nat.le_of_ble_eq_true g2
  generalize shN n k = x at g1 g2 g3 ⊢
  refine ⟨fM.lt g1, f_pos g1 (by decide), fM.lt g2, f_pos g2 (by decide), fun e => ?_, fun e => ?_⟩
  · rw [if_neg (fun q => e (by rw [q]; rfl))] at g3
    have h5 := (FP.Core.dcmp_gt.mp (eq_of_beq g3)).2.2
    rw [FP.Core.zval64_zero] at h5
    exact h5
  · rw [if_pos (Int.ofNat.inj e)] at g3
    exact eq_of_beq g3
theorem sh_ok {a w : Int} (ha : 0 ≤ a ∧ a ≤ 40) (hw : 1 ≤ w ∧ w ≤ 10) : ShOK a (f_sh a w) := by
  obtain ⟨n, rfl⟩ : ∃ n : Nat, a = (n : Int) := ⟨a.toNat, by omega⟩
  obtain ⟨k, rfl⟩ : ∃ n : Nat, w = (n : Int) := ⟨w.toNat, by omega⟩
  exact sh_okN (by omega) (by omega) (by omega)
theorem f_four {q : UInt64} (hq : FP.Core.DFin q) (hz : 0 < fz q) : 0 < fz (FP.dmul 4616189618054758400 q) := by
  have e : FP.Core.val64 (FP.dmul 4616189618054758400 q) = FP.Core.round FP.Core.b64 (FP.Core.exactProduct (FP.Core.val64 4616189618054758400) (FP.Core.val64 q)) := FP.Core.val64_dmul _ q
  have e4 : FP.Core.val64 4616189618054758400 = .fin false 4503599627370496 (-50) := by decide +kernel
  have hf := FP.Core.val64_fits q
  have hn := hq.ne_nan
  obtain ⟨t, d, r, hd⟩ := hq
  have hzz : fz q = FP.Core.zval FP.Core.b64 (.fin t d r) := by show FP.Core.zval _ (FP.Core.val64 q) = _; rw [hd]
  have hr : FP.Core.b64.qmin ≤ r := by rw [hd] at hf; exact hf.2.1
  suffices h : FP.Core.zval FP.Core.b64 (FP.Core.val64 q) ≤ fz (FP.dmul 4616189618054758400 q) from Int.lt_of_lt_of_le hz h
  show _ ≤ FP.Core.zval _ (FP.Core.val64 (FP.dmul 4616189618054758400 q))
  rw [e, e4, hd]
  refine FP.Core.zval_round_ge FP.Core.good_b64 (e0 := FP.Core.b64.qmin - 50) (by rw [← hd]; exact hf) (by rw [← hd]; exact hn) (by omega) (by omega) ?_
  have k1 : (FP.Core.b64.qmin - (FP.Core.b64.qmin - 50)).toNat = 50 := by omega
  have k2 : ((-50 : Int) + r - (FP.Core.b64.qmin - 50)).toNat = (r - FP.Core.b64.qmin).toNat := by omega
  rw [k1]
  rw [hzz] at hz
  unfold FP.Core.zval at hz ⊢
  have k3 : FP.Core.zmag FP.Core.b64 (.fin t d r) = d * 2 ^ (r - FP.Core.b64.qmin).toNat := rfl
  have k4 : FP.Core.sgn (.fin t d r) = t := rfl
  rw [k3, k4] at hz ⊢
  unfold FP.Core.inUnits
  rw [k2, Nat.mul_assoc]
  generalize d * 2 ^ (r - FP.Core.b64.qmin).toNat = y at hz ⊢
  cases t
  · simp only [FP.Core.signed, Bool.false_eq_true, if_false, bne_self_eq_false] at hz ⊢
    omega
  · simp only [FP.Core.signed, if_true] at hz
    omega
/-- the sums -/
def f_sum (f : Nat → UInt64) : Nat → UInt64
  | 0 => FP.dconst0
  | n + 1 => FP.dadd (f_sum f n) (f n)
theorem f_d0 : FP.dconst0 = (0 : UInt64) := by decide +kernel
theorem f_sum_ok {f : Nat → UInt64} {K : Nat} (hK1 : 1 ≤ K) (hK : K ≤ 1100) (hf : ∀ i, i < 4 → fM K (f i) ∧ 0 ≤ fz (f i)) : ∀ n, n ≤ 4 → fM (K + 2 * n) (f_sum f n) ∧ 0 ≤ fz (f_sum f n) ∧ (∀ i, i < n → fz (f i) ≤ fz (f_sum f n)) ∧ (∀ i, i < n → vf_n64 (f_sum f (i + 1)))
  | 0, _ => by
    have e : f_sum f 0 = 0 := f_d0
    refine ⟨?_, ?_, fun i hi => absurd hi (Nat.not_lt_zero _), fun i hi => absurd hi (Nat.not_lt_zero _)⟩
    · rw [e]
      exact (fM.lt (K := 1) (by decide +kernel)).up hK1
    · rw [e]; show 0 ≤ FP.Core.zval _ _; rw [FP.Core.zval64_zero]; exact Int.le_refl 0
  | n + 1, hn => by
    obtain ⟨h1, h2, h3, h4⟩ := f_sum_ok hK1 hK hf n (Nat.le_of_succ_le hn)
    obtain ⟨g1, g2⟩ := hf n hn
    have e9 : K + 2 * n ≤ 2045 := by omega
    obtain ⟨k1, k2, k3, k4⟩ := f_add (K := K + 2 * n) h1 (g1.up (Nat.le_add_right _ _)) e9 h2 g2
    refine ⟨k1, Int.le_trans h2 k2, fun i hi => ?_, fun i hi => ?_⟩
    · rcases Nat.lt_succ_iff_lt_or_eq.mp hi with e | e
      · exact Int.le_trans (h3 i e) k2
      · rw [e]; exact k3
    · rcases Nat.lt_succ_iff_lt_or_eq.mp hi with e | e
      · exact h4 i e
      · rw [e]; exact k4
/-- the answer -/
def fairF (a w : Nat → Int) : UInt64 :=
  if a 0 = 0 ∧ a 1 = 0 ∧ a 2 = 0 ∧ a 3 = 0 then FP.dconst1
  else FP.ddiv (FP.dmul (f_sum (fun g => f_sh (a g) (w g)) 4) (f_sum (fun g => f_sh (a g) (w g)) 4)) (FP.dmul 4616189618054758400 (f_sum (fun g => FP.dmul (f_sh (a g) (w g)) (f_sh (a g) (w g))) 4))
def FairOK (a w : Nat → Int) (s q : Nat → UInt64) : Prop :=
  (∀ i, i < 4 → vf_n64 (f_sh (a i) (w i)) ∧ vf_n64 (FP.dmul (f_sh (a i) (w i)) (f_sh (a i) (w i)))) ∧ (∀ i, i < 4 → vf_n64 (s (i + 1))) ∧ (∀ i, i < 4 → vf_n64 (q (i + 1))) ∧
  ((a 0 = 0 ∧ a 1 = 0 ∧ a 2 = 0 ∧ a 3 = 0) → FP.dcmp (q 4) 0 = some .eq) ∧
  (¬ (a 0 = 0 ∧ a 1 = 0 ∧ a 2 = 0 ∧ a 3 = 0) → FP.dcmp (q 4) 0 = some .gt ∧ vf_n64 (FP.dmul (s 4) (s 4)) ∧ vf_n64 (FP.dmul 4616189618054758400 (q 4)) ∧ vf_n64 (FP.ddiv (FP.dmul (s 4) (s 4)) (FP.dmul 4616189618054758400 (q 4))))
theorem fair_ok {a w : Nat → Int} (ha : ∀ i, i < 4 → 0 ≤ a i ∧ a i ≤ 40) (hw : ∀ i, i < 4 → 1 ≤ w i ∧ w i ≤ 10) : FairOK a w (f_sum (fun g => f_sh (a g) (w g))) (f_sum (fun g => FP.dmul (f_sh (a g) (w g)) (f_sh (a g) (w g)))) := by
  have hs := fun i hi => sh_ok (ha i hi) (hw i hi)
  obtain ⟨s1, s2, s3, s4⟩ := f_sum_ok (f := fun g => f_sh (a g) (w g)) (K := 1040) (by decide) (by decide) (fun i hi => ⟨(hs i hi).m1, (hs i hi).z1⟩) 4 (Nat.le_refl 4)
  obtain ⟨q1, q2, q3, q4⟩ := f_sum_ok (f := fun g => FP.dmul (f_sh (a g) (w g)) (f_sh (a g) (w g))) (K := 1060) (by decide) (by decide) (fun i hi => ⟨(hs i hi).m2, (hs i hi).z2⟩) 4 (Nat.le_refl 4)
  generalize hS : f_sum (fun g => f_sh (a g) (w g)) = s at s1 s2 s3 s4 ⊢
  generalize hQ : f_sum (fun g => FP.dmul (f_sh (a g) (w g)) (f_sh (a g) (w g))) = q at q1 q2 q3 q4 ⊢
  have qf := q1.fin (by decide)
  refine ⟨fun i hi => ⟨(hs i hi).m1.nn (by decide), (hs i hi).m2.nn (by decide)⟩, s4, q4, fun h => ?_, fun h => ?_⟩
  · obtain ⟨h0, h1, h2, h3⟩ := h
    have e : q 4 = 0 := by
      rw [← hQ]
      simp only [f_sum]
      rw [(hs 0 (by decide)).e2 h0, (hs 1 (by decide)).e2 h1, (hs 2 (by decide)).e2 h2, (hs 3 (by decide)).e2 h3]
      decide +kernel
    rw [e]
    decide +kernel
  · have hp : 0 < fz (q 4) := by
      by_cases h0 : a 0 = 0
      · by_cases h1 : a 1 = 0
        · by_cases h2 : a 2 = 0
          · exact Int.lt_of_lt_of_le ((hs 3 (by decide)).p2 (fun h3 => h ⟨h0, h1, h2, h3⟩)) (q3 3 (by decide))
          · exact Int.lt_of_lt_of_le ((hs 2 (by decide)).p2 h2) (q3 2 (by decide))
        · exact Int.lt_of_lt_of_le ((hs 1 (by decide)).p2 h1) (q3 1 (by decide))
      · exact Int.lt_of_lt_of_le ((hs 0 (by decide)).p2 h0) (q3 0 (by decide))
    have m1 : fM 1074 (FP.dmul (s 4) (s 4)) := FP.Core.dmul_mag (Ka := 1048) (Kb := 1048) s1 s1 (by decide) (by decide)
    have m4 : fM 1026 4616189618054758400 := fM.lt (by decide +kernel)
    have m2 : fM 1072 (FP.dmul 4616189618054758400 (q 4)) := FP.Core.dmul_mag (Ka := 1026) (Kb := 1068) m4 q1 (by decide) (by decide)
    have f1 := m1.fin (by decide)
    have f2 := m2.fin (by decide)
    have z2 := f_four qf hp
    have n0 : FP.Core.val64 0 ≠ .nan := by rw [FP.Core.val64_zero]; exact FP.Core.Datum.noConfusion
    exact ⟨FP.Core.dcmp_gt.mpr ⟨qf.ne_nan, n0, by rw [FP.Core.zval64_zero]; exact hp⟩, m1.nn (by decide), m2.nn (by decide), f_nn2 (FP.Core.ddiv_out f1.notNaN f2 (FP.Core.dnot_zero f2.ne_nan (Int.ne_of_gt z2)))⟩
