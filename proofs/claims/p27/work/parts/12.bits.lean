/-! ===== Int32 by its bits: bt x i ===== -/
def bt (x : Int32) (i : Nat) : Bool := x.toBitVec.getLsbD i
theorem b_ext {x y : Int32} (h : ∀ i, i < 32 → bt x i = bt y i) : x = y := Int32.toBitVec_inj.mp (BitVec.eq_of_getLsbD_eq (fun i hi => h i hi))
theorem b_or (x y : Int32) (i : Nat) : bt (x ||| y) i = (bt x i || bt y i) := by unfold bt; rw [Int32.toBitVec_or, BitVec.getLsbD_or]
theorem b_and (x y : Int32) (i : Nat) : bt (x &&& y) i = (bt x i && bt y i) := by unfold bt; rw [Int32.toBitVec_and, BitVec.getLsbD_and]
theorem b_xor (x y : Int32) (i : Nat) : bt (x ^^^ y) i = (bt x i ^^ bt y i) := by unfold bt; rw [Int32.toBitVec_xor, BitVec.getLsbD_xor]
theorem b_big {x : Int32} {i : Nat} (h : 32 ≤ i) : bt x i = false := BitVec.getLsbD_of_ge _ _ h
theorem b_255 (i : Nat) : bt 255 i = decide (i < 8) := by
  rcases Nat.lt_or_ge i 32 with h | h
  · exact (by decide +kernel : ∀ i, i < 32 → bt 255 i = decide (i < 8)) i h
  · rw [b_big h, decide_eq_false (by omega)]
theorem b_65535 (i : Nat) : bt 65535 i = decide (i < 16) := by
  rcases Nat.lt_or_ge i 32 with h | h
  · exact (by decide +kernel : ∀ i, i < 32 → bt 65535 i = decide (i < 16)) i h
  · rw [b_big h, decide_eq_false (by omega)]
theorem b_m1 : ∀ i, i < 32 → bt (-1) i = true := by decide +kernel
theorem b_0 (i : Nat) : bt 0 i = false := BitVec.getLsbD_zero
theorem s_l : ∀ n, n < 32 → ((nI n &&& 31).toBitVec.smod 32).toNat = n := by decide +kernel
theorem s_u : ∀ n, n < 32 → (((nI n).toUInt32 &&& Int32.toUInt32 31).toBitVec % 32).toNat = n := by decide +kernel
theorem b_shl (n : Nat) (hn : n < 32) (x : Int32) {i : Nat} (hi : i < 32) : bt (x <<< (nI n &&& 31)) i = (decide (n ≤ i) && bt x (i - n)) := by
  unfold bt
  rw [Int32.toBitVec_shiftLeft]
  show (x.toBitVec <<< ((nI n &&& 31).toBitVec.smod 32).toNat).getLsbD i = _
  rw [s_l n hn, BitVec.getLsbD_shiftLeft]
  rcases Nat.lt_or_ge i n with h | h
  · simp [h, Nat.not_le.mpr h]
  · simp [hi, h, Nat.not_lt.mpr h]
theorem b_ushr (n : Nat) (hn : n < 32) (x : Int32) (i : Nat) : bt ((x.toUInt32 >>> ((nI n).toUInt32 &&& Int32.toUInt32 31)).toInt32) i = bt x (n + i) := by
  show (x.toUInt32 >>> ((nI n).toUInt32 &&& Int32.toUInt32 31)).toBitVec.getLsbD i = x.toUInt32.toBitVec.getLsbD (n + i)
  rw [UInt32.toBitVec_shiftRight]
  show (x.toUInt32.toBitVec >>> (((nI n).toUInt32 &&& Int32.toUInt32 31).toBitVec % 32).toNat).getLsbD i = _
  rw [s_u n hn, BitVec.getLsbD_ushiftRight]
theorem b_sshr (n : Nat) (hn : n < 32) (x : Int32) {i : Nat} (hi : i < 32) : bt (x >>> (nI n &&& 31)) i = if n + i < 32 then bt x (n + i) else bt x 31 := by
  unfold bt
  rw [Int32.toBitVec_shiftRight]
  show (x.toBitVec.sshiftRight ((nI n &&& 31).toBitVec.smod 32).toNat).getLsbD i = _
  rw [s_l n hn, BitVec.getLsbD_sshiftRight, BitVec.msb_eq_getLsbD_last]
  simp [hi]
theorem b_shl8 (x : Int32) {i : Nat} (hi : i < 32) : bt (x <<< ((8 : Int32) &&& 31)) i = (decide (8 ≤ i) && bt x (i - 8)) := b_shl 8 (by omega) x hi
theorem b_shl16 (x : Int32) {i : Nat} (hi : i < 32) : bt (x <<< ((16 : Int32) &&& 31)) i = (decide (16 ≤ i) && bt x (i - 16)) := b_shl 16 (by omega) x hi
theorem b_shl24 (x : Int32) {i : Nat} (hi : i < 32) : bt (x <<< ((24 : Int32) &&& 31)) i = (decide (24 ≤ i) && bt x (i - 24)) := b_shl 24 (by omega) x hi
theorem b_sshr8 (x : Int32) {i : Nat} (hi : i < 32) : bt (x >>> ((8 : Int32) &&& 31)) i = if 8 + i < 32 then bt x (8 + i) else bt x 31 := b_sshr 8 (by omega) x hi
/-! my rows on masks -/
theorem iI_nI (k : Nat) : iI (k : Int) = nI k := by
  first | rfl | (unfold iI nI; simp)
theorem b_and0 {a b : Int32} : a &&& b = 0 ↔ ∀ k, k < 32 → (bt a k && bt b k) = false := by
  constructor
  · intro h k hk
    rw [← b_and, h, b_0]
  · intro h
    apply b_ext
    intro i hi
    rw [b_and, b_0]
    exact h i hi
theorem b_one : ∀ j, j < 32 → bt (iI 1) j = decide (j = 0) := by decide +kernel
theorem bitB_bt (m : Int32) {k : Nat} (hk : k < 31) : bitB m k = bt m k := by
  unfold bitB
  rw [iI_nI]
  have key : ((m >>> (nI k &&& 31)) &&& iI 1) = 0 ↔ bt m k = false := by
    rw [b_and0]
    constructor
    · intro h
      have h0 := h 0 (by omega)
      rw [b_sshr k (by omega) m (by omega), if_pos (by omega), b_one 0 (by omega)] at h0
      simpa using h0
    · intro h j hj
      rw [b_one j hj]
      by_cases e : j = 0
      · subst e
        rw [b_sshr k (by omega) m (by omega), if_pos (by omega)]
        simpa using h
      · simp [e]
  cases hb : bt m k
  · simp [key.mpr hb]
  · simp only [decide_eq_true_eq]
    intro h
    rw [key.mp h] at hb
    cases hb
theorem b_pow {k j : Nat} (hk : k < 32) (hj : j < 32) : bt (iI 1 <<< (iI (k : Int) &&& 31)) j = decide (j = k) := by
  rw [iI_nI, b_shl k hk _ hj]
  rcases Nat.lt_or_ge j k with h | h
  · have e1 : decide (k ≤ j) = false := decide_eq_false (by omega)
    rw [e1]
    have e2 : decide (j = k) = false := decide_eq_false (by omega)
    rw [e2]
    rfl
  · have e1 : decide (k ≤ j) = true := decide_eq_true h
    rw [e1, b_one _ (by omega), Bool.true_and]
    apply decide_eq_decide.mpr
    omega
theorem b_not {m : Int32} {j : Nat} (hj : j < 32) : bt (m ^^^ iI (-1)) j = !bt m j := by
  rw [b_xor, show iI (-1) = -1 from rfl, b_m1 j hj]
  cases bt m j <;> rfl
theorem b_all : ∀ n, n < 13 → ∀ j, j < 32 → bt (iI 1 <<< (iI ((n : Nat) : Int) &&& 31) - iI 1) j = decide (j < n) := by decide +kernel
