/-! the model against the service -/
/-- R holds what P and l hold; the rest of R (thrown, far, tried, path) is free -/
def RR (P : QP) (l : QL) (R : QR) : Prop :=
  R.res = P.res ∧ R.cap = P.cap ∧ R.quo = P.quo ∧ R.wei = P.wei ∧ R.req = P.req ∧ R.grp = P.grp ∧ R.msk = P.acc ∧ R.mov = P.mov ∧ R.pl = P.pl ∧ R.ml = P.ml ∧
  (∀ r : Nat, (r : Int) < P.req → R.st r = stN (P.plc r)) ∧ (∀ r : Nat, (r : Int) < P.req → 0 ≤ P.plc r → R.pls r = P.plc r) ∧ R.lgd = l.sz ∧ ∀ i : Nat, (i : Int) < l.sz → R.lr i = l.rq i ∧ R.lp i = l.tg i
theorem u4_fl (v : Int) : u4 v = fl v 4 := by
  funext i
  unfold u4 fl updf
  by_cases h3 : i = 3
  · subst h3; rfl
  · rw [if_neg h3]
    by_cases h2 : i = 2
    · subst h2; rfl
    · rw [if_neg h2]
      by_cases h1 : i = 1
      · subst h1; rfl
      · rw [if_neg h1]
        by_cases h0 : i = 0
        · subst h0; rfl
        · rw [if_neg h0, if_neg (by omega)]
theorem RR_0 : RR sP0 sL0 sR0 := ⟨rfl, rfl, u4_fl 40, u4_fl 1, rfl, rfl, rfl, rfl, rfl, rfl, fun r hr => absurd hr (by show ¬ ((r : Int) < 0); omega), fun r hr => absurd hr (by show ¬ ((r : Int) < 0); omega), rfl, fun i hi => absurd hi (by show ¬ ((i : Int) < 0); omega)⟩
theorem SV_0 : SV sP0 sL0 := by
  refine ⟨⟨⟨⟨by decide, by decide⟩, ⟨by decide, by decide⟩, ⟨by decide, by decide⟩, ⟨by decide, by decide⟩, fun i => ⟨by show (0 : Int) ≤ 0; omega, by show (0 : Int) ≤ 4; omega⟩, fun i => ?_, fun i => ?_, fun i hi => ?_, fun i => ⟨by show (0 : Int) ≤ 0; omega, by show (0 : Int) ≤ 3; omega⟩, fun i => ⟨by show (-2 : Int) ≤ 0; omega, by show (0 : Int) ≤ 11; omega⟩, fun i => ⟨by show (0 : Int) ≤ 0; omega, by show (0 : Int) ≤ 20; omega⟩, fun i hi => absurd hi (by show ¬ ((i : Int) < 0); omega)⟩, fun a => rfl, fun g => rfl⟩, ⟨fun a ha => absurd ha (by show ¬ ((a : Int) < 0); omega), fun g hg => ?_, fun x hx => absurd hx (by show ¬ ((x : Int) < 0); omega), fun r hr => absurd hr (by show ¬ ((r : Int) < 0); omega)⟩, by decide, by decide⟩
  · show 0 ≤ fl 40 4 i ∧ fl 40 4 i ≤ 40
    unfold fl; split <;> omega
  · show 0 ≤ fl 1 4 i ∧ fl 1 4 i ≤ 10
    unfold fl; split <;> omega
  · show 1 ≤ fl 1 4 i
    unfold fl; rw [if_pos hi]; omega
  · show (0 : Int) ≤ fl 40 4 g
    unfold fl; split <;> omega
theorem stN_1 {p : Int} : stN p = 1 ↔ 0 ≤ p := by
  unfold stN
  split
  · constructor
    · intro h; omega
    · intro h; omega
  · split
    · rename_i h; exact ⟨fun _ => h, fun _ => rfl⟩
    · constructor
      · intro h; omega
      · intro h; omega
theorem stN_0 {p : Int} : stN p = 0 ↔ p = -1 := by
  unfold stN
  split
  · rename_i h; exact ⟨fun _ => h, fun _ => rfl⟩
  · split
    · constructor
      · intro h; omega
      · intro h; omega
    · constructor
      · intro h; omega
      · intro h; omega
theorem stN_2 {p : Int} (hp : -2 ≤ p) : stN p = 2 ↔ p = -2 := by
  unfold stN
  split
  · constructor
    · intro h; omega
    · intro h; omega
  · split
    · constructor
      · intro h; omega
      · intro h; omega
    · exact ⟨fun _ => by omega, fun _ => rfl⟩
theorem stN_rng (p : Int) : 0 ≤ stN p ∧ stN p ≤ 2 := by
  unfold stN
  split
  · omega
  · split <;> omega
theorem b_one1 (x : Int32) : (x &&& iI 1 = iI 1) ↔ ¬ (x &&& iI 1 = 0) := by
  constructor
  · intro h h2
    rw [h] at h2
    exact absurd h2 (by decide)
  · intro h
    apply b_ext
    intro i hi
    rw [b_and, b_one i hi]
    by_cases e : i = 0
    · subst e
      cases hb : bt x 0
      · exfalso
        apply h
        rw [b_and0]
        intro k hk
        rw [b_one k hk]
        by_cases e : k = 0
        · subst e; rw [hb]; rfl
        · rw [decide_eq_false e, Bool.and_false]
      · rfl
    · rw [decide_eq_false e, Bool.and_false]
/-- a mask's bit as the model asks for it -/
theorem bit1 (m : Int32) (k : Nat) (hk : k < 31) : decide ((m >>> (iI (k : Int) &&& 31)) &&& iI 1 = iI 1) = bt m k := by
  rw [← bitB_bt m hk]
  unfold bitB
  exact decide_eq_decide.mpr (b_one1 _)
theorem pow_iI : ∀ n, n < 13 → iI 1 <<< (iI ((n : Nat) : Int) &&& 31) = iI ((2 ^ n : Nat) : Int) := by decide +kernel
theorem mask_lt {P : QP} {m : Int32} (hI : PI P) : mOK P m ↔ ¬ (m < 0) ∧ m < iI 1 <<< (iI P.res &&& 31) := by
  have hr := hI.res
  obtain ⟨n, hn⟩ : ∃ n : Nat, P.res = (n : Int) := ⟨P.res.toNat, by omega⟩
  have hn2 : n < 13 := by omega
  have hp : (2 ^ n : Nat) ≤ 4096 := by
    have := Nat.pow_le_pow_right (n := 2) (by omega) (show n ≤ 12 by omega)
    simpa using this
  rw [hn, pow_iI n hn2]
  have key : ¬ (m < 0) → (m < iI ((2 ^ n : Nat) : Int) ↔ m.toBitVec.toNat < 2 ^ n) := by
    intro h0
    rw [iI_0] at h0
    obtain ⟨t, ht⟩ : ∃ t : Nat, t = 2 ^ n := ⟨_, rfl⟩
    rw [← ht] at hp ⊢
    have h1 : 0 ≤ m.toInt := by
      have := mt (Int32.lt_iff_toInt_lt (x := m) (y := iI 0)).mpr h0
      rw [iI_toInt ⟨by omega, by omega⟩] at this
      omega
    rw [Int32.lt_iff_toInt_lt, iI_toInt ⟨by omega, by omega⟩]
    have e : m.toInt = (m.toBitVec.toNat : Int) := by
      have h2 : m.toInt = m.toBitVec.toInt := rfl
      rw [h2] at h1 ⊢
      rw [BitVec.toInt_eq_toNat_cond] at h1 ⊢
      have := m.toBitVec.isLt
      split
      · rfl
      · rename_i h3
        rw [if_neg h3] at h1
        omega
    rw [e]
    omega
  unfold mOK
  refine and_congr_right fun h0 => ?_
  rw [key h0, b_and0]
  constructor
  · intro h
    apply Nat.lt_pow_two_of_testBit
    intro i hi
    by_cases h32 : i < 32
    · have h1 := h i h32
      rw [b_not h32, maskAll_bt hI h32, decide_eq_false (show ¬ ((i : Int) < P.res) by omega)] at h1
      simpa [bt, BitVec.getLsbD] using h1
    · exact Nat.testBit_lt_two_pow (Nat.lt_of_lt_of_le m.toBitVec.isLt (Nat.pow_le_pow_right (by omega) (by omega)))
  · intro h k hk
    rw [b_not hk, maskAll_bt hI hk]
    by_cases e : (k : Int) < P.res
    · rw [decide_eq_true e, Bool.not_true, Bool.and_false]
    · have h1 : m.toBitVec.toNat.testBit k = false := Nat.testBit_lt_two_pow (Nat.lt_of_lt_of_le h (Nat.pow_le_pow_right (by omega) (by omega)))
      have h2 : bt m k = false := h1
      rw [h2, Bool.false_and]
