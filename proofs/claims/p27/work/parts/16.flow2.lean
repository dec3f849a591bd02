/-! FLOWS: the start, what the contracts say -/
def PFe (P : QP) : Prop := (∀ a : Nat, (a : Int) < P.res → P.load a ≤ P.cap a) ∧ (∀ g : Nat, g < 4 → P.asg g ≤ P.quo g) ∧ PFa P ∧ (∀ r : Nat, (r : Int) < P.req → ∀ j, j < 32 → bt (P.acc r) j = true → (j : Int) < P.res)
def maskAll (z : Int) : Int32 := iI 1 <<< (iI z &&& 31) - iI 1
theorem maskAll_bt {P : QP} (hI : PI P) {j : Nat} (hj : j < 32) : bt (maskAll P.res) j = decide ((j : Int) < P.res) := by
  have hr := hI.res
  have h := b_all P.res.toNat (by omega) j hj
  rw [show ((P.res.toNat : Nat) : Int) = P.res by omega] at h
  unfold maskAll
  rw [h]
  exact decide_eq_decide.mpr (by omega)
