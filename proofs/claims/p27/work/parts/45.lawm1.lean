/-! THE LAW'S METHODS below, cell, isPath, bestPath -/
set_option maxRecDepth 100000 in
set_option maxHeartbeats 4000000 in
theorem c_L_below (G : jG) (v : Int32) (n : Nat) (hn : 0 < n) (hn2 : n < 2147483648) : CI G yL_below cL_below 2 (jrm 0 0 0 0) [.int v, .int (iI (n : Int))] [] (fun (z : Int32) (_ : Unit) => ∃ i : Nat, i < n ∧ z = iI (i : Int)) (fun _ : Unit => []) 0 0 := by
  refine ci_intro (own := RL) [some (.int v), some (.int (iI (n : Int)))] (by decide) rfl rfl rfl (Nat.le_of_ble_eq_true rfl) (fun X C hret => ?_)
  refine jw_iload_0 (pc := 0) C dL_below_0 ?_
  refine jw_ldc (pc := 1) C kcn_L_7 dL_below_1 ?_
  refine jw_iand (pc := 3) C dL_below_3 ?_
  obtain ⟨c, hc, e⟩ := and_pos v
  rw [e]
  refine jw_iload_1 (pc := 4) C dL_below_4 ?_
  refine jw_irem_n (b := n) (pc := 5) C hn hc hn2 dL_below_5 ?_
  exact hret _ _ _ () dL_below_6 ⟨c % n, Nat.mod_lt _ hn, rfl⟩
theorem c_L_cell (G : jG) (b N : Nat) (xs : Nat → Int32) (i : Nat) (hi : i < 100) (hN : N ≤ 260) : CIs G yL_cell cL_cell 2 (jrm 0 0 0 0) [.ref b, .int (iI (i : Int))] b N xs (fun _ => True) := by
  refine cis_intro (own := RL) [some (.ref b), some (.int (iI (i : Int)))] (by decide) rfl rfl rfl (Nat.le_of_ble_eq_true rfl) (fun X C Sc hret => ?_)
  refine jw_iload_1 (pc := 0) C dL_cell_0 ?_
  refine jw_aload_0 (pc := 1) C dL_cell_1 ?_
  refine jw_slen (pc := 2) C Sc dL_cell_2 ?_
  refine jw_icmp_ge (pc := 3) (tgt := 12) C dL_cell_3 (by decide) ⟨by omega, by omega⟩ ⟨by omega, by omega⟩ (fun c_3 => ?_) (fun c_3 => ?_)
  · refine jw_ldc (pc := 12) C kcn_L_8 dL_cell_12 ?_
    refine jw_iload_1 (pc := 14) C dL_cell_14 ?_
    refine jw_iconst (pc := 15) C dL_cell_15 ?_
    refine jw_iadd (pc := 16) C dL_cell_16 ?_
    refine jw_imul_r (pc := 17) C dL_cell_17 ?_
    exact hret 18 _ _ dL_cell_18 trivial
  · refine jw_aload_0 (pc := 6) C dL_cell_6 ?_
    refine jw_iload_1 (pc := 7) C dL_cell_7 ?_
    refine jw_sld (pc := 8) C Sc i rfl (by omega) (by omega) dL_cell_8 ?_
    refine jw_goto (pc := 9) (tgt := 18) C dL_cell_9 (by decide) ?_
    exact hret 18 _ _ dL_cell_18 trivial
theorem lef_le (row : Nat) : ∀ j, lef row j ≤ row
  | 0 => Nat.le_refl _
  | j + 1 => Nat.le_trans (Nat.div_le_self _ _) (lef_le row j)
theorem dgx {row L j : Nat} (h : j < L) : dg row L (L - 1 - j) = lef row j % 4 := by
  unfold dg
  rw [show L - 1 - (L - 1 - j) = j by omega]
theorem p4_le : ∀ K, K ≤ 4 → p4 K ≤ 256 := by decide
set_option maxRecDepth 100000 in
set_option maxHeartbeats 4000000 in
theorem c_L_isPath (G : jG) (qa qm qk qp : Nat) (P : QP) (f u : Nat → Int) (m : Int32) (L row : Nat) (hL : 1 ≤ L ∧ L ≤ 4) (hrow : row < 256) (hf : ∀ a, a < 4 → -1 ≤ f a ∧ f a < 16) (hmv : ∀ r, 0 ≤ P.mov r ∧ P.mov r ≤ 20) (hml : 0 ≤ P.ml ∧ P.ml ≤ 20) : CZ G yL_isPath cL_isPath 13 (jrm 0 0 0 0) [.int (iI (row : Int)), .int (iI (L : Int)), .int (iI 4), .int m, .ref qa, .ref qm, .int (iI P.ml), .ref qk, .ref qp] [jAI G qa 4 (jiI f), jAI G qm 16 (jiI P.mov), jAI G qk 16 P.acc, jAI G qp 4 (jiI u)] (fun (z : Bool) (u : Nat → Int) => (z = true ∧ okP P f m L (dg row L) ∧ ∀ k, k < L → u k = (dg row L k : Int)) ∨ (z = false ∧ ¬ okP P f m L (dg row L))) (fun u : Nat → Int => [jAI G qa 4 (jiI f), jAI G qm 16 (jiI P.mov), jAI G qk 16 P.acc, jAI G qp 4 (jiI u)]) 0 0 := by
  refine cz_intro (own := RL) [some (.int (iI (row : Int))), some (.int (iI (L : Int))), some (.int (iI 4)), some (.int m), some (.ref qa), some (.ref qm), some (.int (iI P.ml)), some (.ref qk), some (.ref qp), none, none, none, none] (by decide) rfl rfl rfl (Nat.le_of_ble_eq_true rfl) (fun X C hret => ?_)
  refine jw_iload_0 (pc := 0) C dL_isPath_0 ?_
  refine jw_istore_9 (pc := 1) C dL_isPath_1 rfl ?_
  refine jw_iconst (pc := 3) C dL_isPath_3 ?_
  refine jw_istore_10 (pc := 4) C dL_isPath_4 rfl ?_
  refine jw_iload_1 (pc := 6) C dL_isPath_6 ?_
  refine jw_iconst (pc := 7) C dL_isPath_7 ?_
  refine jw_isub (pc := 8) C dL_isPath_8 ?_
  refine jw_istore_11 (pc := 9) C dL_isPath_9 rfl ?_
  have K11 : ∀ (n_11 : Nat) (j : Nat) (us : Int32) (v : Nat → Int) (x : Int), (j ≤ L) → (x = (L : Int) - 1 - j) → (∀ k, L - j ≤ k → k < L → v k = (dg row L k : Int)) → (∀ b, b < 4 → (bt us b = true ↔ ∃ k, L - j ≤ k ∧ k < L ∧ dg row L k = b)) → (∀ i k, L - j ≤ i → i < L → L - j ≤ k → k < L → dg row L i = dg row L k → i = k) → 5 - j < n_11 → JW G X 0 0 [jAI G qa 4 (jiI f), jAI G qm 16 (jiI P.mov), jAI G qk 16 P.acc, jAI G qp 4 (jiI v)] 11 [some (.int (iI (row : Int))), some (.int (iI (L : Int))), some (.int (iI 4)), some (.int m), some (.ref qa), some (.ref qm), some (.int (iI P.ml)), some (.ref qk), some (.ref qp), some (.int (iI (lef row j : Int))), some (.int us), some (.int (iI x)), none] [] := by
    intro n_11
    induction n_11 with
    | zero => intro j us v x hj hx hv hus hd hm_11; exact absurd hm_11 (Nat.not_lt_zero _)
    | succ n_11 ih_11 =>
      intro j us v x hj hx hv hus hd hm_11
      refine jw_iload_11 (pc := 11) C dL_isPath_11 ?_
      refine jw_if_lt (pc := 13) (tgt := 65) C dL_isPath_13 (by decide) ⟨by omega, by omega⟩ (fun c_13 => ?_) (fun c_13 => ?_)
      · have hjL : j = L := by omega
        have hv9 : ∀ k, k < L → v k = (dg row L k : Int) := fun k hk => hv k (by omega) hk
        have hd9 : ∀ i k, i < L → k < L → dg row L i = dg row L k → i = k := fun i k hi hk => hd i k (by omega) hi (by omega) hk
        have hfe := hf (dg row L (L - 1)) (dg_lt _ _ _)
        refine jw_iload_3 (pc := 65) C dL_isPath_65 ?_
        refine jw_aload_8 (pc := 66) C dL_isPath_66 ?_
        refine jw_iconst (pc := 68) C dL_isPath_68 ?_
        refine jw_iald (pc := 69) C 3 rfl 0 rfl (by omega) (by decide) dL_isPath_69 ?_
        rw [hv9 0 (by omega)]
        refine jw_ishr (pc := 70) C dL_isPath_70 ?_
        refine jw_iconst (pc := 71) C dL_isPath_71 ?_
        refine jw_iand (pc := 72) C dL_isPath_72 ?_
        refine jw_if_eq_r (pc := 73) (tgt := 88) C dL_isPath_73 (by decide) (fun c_73 => ?_) (fun c_73 => ?_)
        · have hz : ¬ okP P f m L (dg row L) := fun g => by
            have h9 := (bitz (Nat.lt_of_lt_of_le (dg_lt row L 0) (by omega))).mp c_73
            rw [g.2.2.1] at h9
            cases h9
          refine jw_iconst (pc := 88) C dL_isPath_88 ?_
          exact hret _ _ false _ dL_isPath_89 (Or.inr ⟨rfl, hz⟩)
        · have hb0 : bt m (dg row L 0) = true := by
            cases q : bt m (dg row L 0)
            · exact absurd ((bitz (Nat.lt_of_lt_of_le (dg_lt row L 0) (by omega))).mpr q) c_73
            · rfl
          refine jw_aload_4 (pc := 76) C dL_isPath_76 ?_
          refine jw_aload_8 (pc := 78) C dL_isPath_78 ?_
          refine jw_iload_1 (pc := 80) C dL_isPath_80 ?_
          refine jw_iconst (pc := 81) C dL_isPath_81 ?_
          refine jw_isub (pc := 82) C dL_isPath_82 ?_
          refine jw_iald (pc := 83) C 3 rfl (L - 1) (by omega) (by omega) (by decide) dL_isPath_83 ?_
          refine jw_iald (pc := 84) C 0 rfl (dg row L (L - 1)) (hv9 (L - 1) (by omega)) (dg_lt _ _ _) (by decide) dL_isPath_84 ?_
          refine jw_if_lt (pc := 85) (tgt := 90) C dL_isPath_85 (by decide) ⟨by omega, by omega⟩ (fun c_85 => ?_) (fun c_85 => ?_)
          · refine jw_iconst (pc := 90) C dL_isPath_90 ?_
            refine jw_istore_11 (pc := 91) C dL_isPath_91 rfl ?_
            have K93 : ∀ (n_93 : Nat) (k : Nat), (1 ≤ k ∧ k ≤ L) → (∀ i, i + 1 < k → 0 ≤ f (dg row L i) ∧ P.mov (f (dg row L i)).toNat < P.ml ∧ bt (P.acc (f (dg row L i)).toNat) (dg row L (i + 1)) = true) → 5 - k < n_93 → JW G X 0 0 [jAI G qa 4 (jiI f), jAI G qm 16 (jiI P.mov), jAI G qk 16 P.acc, jAI G qp 4 (jiI v)] 93 [some (.int (iI (row : Int))), some (.int (iI (L : Int))), some (.int (iI 4)), some (.int m), some (.ref qa), some (.ref qm), some (.int (iI P.ml)), some (.ref qk), some (.ref qp), some (.int (iI (lef row j : Int))), some (.int us), some (.int (iI (k : Int))), none] [] := by
              intro n_93
              induction n_93 with
              | zero => intro k hk hall hm_93; exact absurd hm_93 (Nat.not_lt_zero _)
              | succ n_93 ih_93 =>
                intro k hk hall hm_93
                refine jw_iload_11 (pc := 93) C dL_isPath_93 ?_
                refine jw_iload_1 (pc := 95) C dL_isPath_95 ?_
                refine jw_icmp_ge (pc := 96) (tgt := 150) C dL_isPath_96 (by decide) ⟨by omega, by omega⟩ ⟨by omega, by omega⟩ (fun c_96 => ?_) (fun c_96 => ?_)
                · have hz : okP P f m L (dg row L) := ⟨fun i _ => dg_lt _ _ _, fun i k hi hk => hd9 i k hi hk, hb0, c_85, fun i hi => hall i (by omega)⟩
                  refine jw_iconst (pc := 150) C dL_isPath_150 ?_
                  exact hret _ _ true _ dL_isPath_151 (Or.inl ⟨rfl, hz, hv9⟩)
                · have hfk := hf (dg row L (k - 1)) (dg_lt _ _ _)
                  have hkk : k - 1 + 1 = k := by omega
                  refine jw_aload_4 (pc := 99) C dL_isPath_99 ?_
                  refine jw_aload_8 (pc := 101) C dL_isPath_101 ?_
                  refine jw_iload_11 (pc := 103) C dL_isPath_103 ?_
                  refine jw_iconst (pc := 105) C dL_isPath_105 ?_
                  refine jw_isub (pc := 106) C dL_isPath_106 ?_
                  refine jw_iald (pc := 107) C 3 rfl (k - 1) (by omega) (by omega) (by decide) dL_isPath_107 ?_
                  refine jw_iald (pc := 108) C 0 rfl (dg row L (k - 1)) (hv9 (k - 1) (by omega)) (dg_lt _ _ _) (by decide) dL_isPath_108 ?_
                  refine jw_istore_12 (pc := 109) C dL_isPath_109 rfl ?_
                  refine jw_iload_12 (pc := 111) C dL_isPath_111 ?_
                  refine jw_if_lt (pc := 113) (tgt := 142) C dL_isPath_113 (by decide) ⟨by omega, by omega⟩ (fun c_113 => ?_) (fun c_113 => ?_)
                  · have hz : ¬ okP P f m L (dg row L) := fun g => by
                      have := (g.2.2.2.2 (k - 1) (by omega)).1
                      omega
                    refine jw_iconst (pc := 142) C dL_isPath_142 ?_
                    exact hret _ _ false _ dL_isPath_143 (Or.inr ⟨rfl, hz⟩)
                  · have hmk := hmv (f (dg row L (k - 1))).toNat
                    refine jw_aload_5 (pc := 116) C dL_isPath_116 ?_
                    refine jw_iload_12 (pc := 118) C dL_isPath_118 ?_
                    refine jw_iald (pc := 120) C 1 rfl (f (dg row L (k - 1))).toNat (by omega) (by omega) (by decide) dL_isPath_120 ?_
                    refine jw_iload_6 (pc := 121) C dL_isPath_121 ?_
                    refine jw_icmp_ge (pc := 123) (tgt := 142) C dL_isPath_123 (by decide) ⟨by omega, by omega⟩ ⟨by omega, by omega⟩ (fun c_123 => ?_) (fun c_123 => ?_)
                    · have hz : ¬ okP P f m L (dg row L) := fun g => by
                        have := (g.2.2.2.2 (k - 1) (by omega)).2.1
                        omega
                      refine jw_iconst (pc := 142) C dL_isPath_142 ?_
                      exact hret _ _ false _ dL_isPath_143 (Or.inr ⟨rfl, hz⟩)
                    · refine jw_aload_7 (pc := 126) C dL_isPath_126 ?_
                      refine jw_iload_12 (pc := 128) C dL_isPath_128 ?_
                      refine jw_iald_r (pc := 130) C 2 rfl (f (dg row L (k - 1))).toNat (by omega) (by omega) (by decide) dL_isPath_130 ?_
                      refine jw_aload_8 (pc := 131) C dL_isPath_131 ?_
                      refine jw_iload_11 (pc := 133) C dL_isPath_133 ?_
                      refine jw_iald (pc := 135) C 3 rfl k rfl (by omega) (by decide) dL_isPath_135 ?_
                      rw [hv9 k (by omega)]
                      refine jw_ishr (pc := 136) C dL_isPath_136 ?_
                      refine jw_iconst (pc := 137) C dL_isPath_137 ?_
                      refine jw_iand (pc := 138) C dL_isPath_138 ?_
                      refine jw_if_ne_r (pc := 139) (tgt := 144) C dL_isPath_139 (by decide) (fun c_139 => ?_) (fun c_139 => ?_)
                      · have hall2 : ∀ i, i + 1 < k + 1 → 0 ≤ f (dg row L i) ∧ P.mov (f (dg row L i)).toNat < P.ml ∧ bt (P.acc (f (dg row L i)).toNat) (dg row L (i + 1)) = true := fun i hi => by
                          by_cases e : i + 1 = k
                          · have ei : i = k - 1 := by omega
                            refine ⟨by rw [ei]; omega, by rw [ei]; omega, ?_⟩
                            rw [ei, hkk]
                            cases q : bt (P.acc (f (dg row L (k - 1))).toNat) (dg row L k)
                            · exact absurd ((bitz (Nat.lt_of_lt_of_le (dg_lt row L k) (by omega))).mpr q) c_139
                            · rfl
                          · exact hall i (by omega)
                        refine jw_iinc_11 (pc := 144) C dL_isPath_144 rfl ?_
                        refine jw_goto (pc := 147) (tgt := 93) C dL_isPath_147 (by decide) ?_
                        exact jw_less (ih_93 (k + 1) (by omega) hall2 (by omega)) (by repeat (first | exact trivial | refine And.intro rfl ?_))
                      · have hz : ¬ okP P f m L (dg row L) := fun g => by
                          have h9 := (g.2.2.2.2 (k - 1) (by omega)).2.2
                          rw [hkk, (bitz (Nat.lt_of_lt_of_le (dg_lt row L k) (by omega))).mp c_139] at h9
                          cases h9
                        refine jw_iconst (pc := 142) C dL_isPath_142 ?_
                        exact hret _ _ false _ dL_isPath_143 (Or.inr ⟨rfl, hz⟩)
            exact K93 6 1 (by omega) (fun i hi => absurd hi (by omega)) (by omega)
          · have hz : ¬ okP P f m L (dg row L) := fun g => c_85 g.2.2.2.1
            refine jw_iconst (pc := 88) C dL_isPath_88 ?_
            exact hret _ _ false _ dL_isPath_89 (Or.inr ⟨rfl, hz⟩)
      · have hjL : j < L := by omega
        have hdx := dgx (row := row) hjL
        have hlt : lef row j % 4 < 4 := Nat.mod_lt _ (by omega)
        refine jw_aload_8 (pc := 16) C dL_isPath_16 ?_
        refine jw_iload_11 (pc := 18) C dL_isPath_18 ?_
        refine jw_iload_9 (pc := 20) C dL_isPath_20 ?_
        refine jw_iload_2 (pc := 22) C dL_isPath_22 ?_
        refine jw_irem_n (b := 4) (pc := 23) C (by decide) (Nat.lt_of_le_of_lt (lef_le row j) (by omega)) (by decide) dL_isPath_23 ?_
        refine jw_iast (pc := 24) C 3 rfl (L - 1 - j) (by omega) (by omega) (by decide) dL_isPath_24 ?_
        refine jw_iload_9 (pc := 25) C dL_isPath_25 ?_
        refine jw_iload_2 (pc := 27) C dL_isPath_27 ?_
        refine jw_idiv_n (b := 4) (pc := 28) C (by decide) (Nat.lt_of_le_of_lt (lef_le row j) (by omega)) (by decide) dL_isPath_28 ?_
        refine jw_istore_9 (pc := 29) C dL_isPath_29 rfl ?_
        refine jw_iload_10 (pc := 31) C dL_isPath_31 ?_
        refine jw_aload_8 (pc := 33) C dL_isPath_33 ?_
        refine jw_iload_11 (pc := 35) C dL_isPath_35 ?_
        refine jw_iald (pc := 37) C 3 rfl (L - 1 - j) (by omega) (by omega) (by decide) dL_isPath_37 ?_
        rw [updf_same]
        refine jw_ishr (pc := 38) C dL_isPath_38 ?_
        refine jw_iconst (pc := 39) C dL_isPath_39 ?_
        refine jw_iand (pc := 40) C dL_isPath_40 ?_
        refine jw_iconst (pc := 41) C dL_isPath_41 ?_
        refine jw_icmp_ne_r (pc := 42) (tgt := 47) C dL_isPath_42 (by decide) (fun c_42 => ?_) (fun c_42 => ?_)
        · have hb : bt us (lef row j % 4) = false := by
            cases q : bt us (lef row j % 4)
            · rfl
            · exact absurd ((bit1z (by omega)).mpr q) c_42
          have hv2 : ∀ k, L - (j + 1) ≤ k → k < L → updf v (L - 1 - j) ((lef row j % 4 : Nat) : Int) k = (dg row L k : Int) := fun k h1 h2 => by
            by_cases e : k = L - 1 - j
            · rw [e, updf_same, hdx]
            · rw [updf_ne _ _ e]; exact hv k (by omega) h2
          have hus2 : ∀ b, b < 4 → (bt (us ||| iI 1 <<< (iI ((lef row j % 4 : Nat) : Int) &&& 31)) b = true ↔ ∃ k, L - (j + 1) ≤ k ∧ k < L ∧ dg row L k = b) := fun b hb4 => by
            rw [b_or, b_pow (by omega) (by omega), Bool.or_eq_true, decide_eq_true_iff, hus b hb4]
            constructor
            · rintro (⟨k, k1, k2, k3⟩ | e)
              · exact ⟨k, by omega, k2, k3⟩
              · exact ⟨L - 1 - j, by omega, by omega, by rw [hdx, e]⟩
            · rintro ⟨k, k1, k2, k3⟩
              by_cases e : k = L - 1 - j
              · right; rw [← k3, e, hdx]
              · left; exact ⟨k, by omega, k2, k3⟩
          have hd2 : ∀ i k, L - (j + 1) ≤ i → i < L → L - (j + 1) ≤ k → k < L → dg row L i = dg row L k → i = k := fun i k i1 i2 k1 k2 e => by
            have hno : ∀ x, L - j ≤ x → x < L → dg row L x ≠ lef row j % 4 := fun x x1 x2 ex => by
              rw [(hus _ hlt).mpr ⟨x, x1, x2, ex⟩] at hb
              cases hb
            by_cases ei : i = L - 1 - j
            · by_cases ek : k = L - 1 - j
              · omega
              · rw [ei, hdx] at e
                exact absurd e.symm (hno k (by omega) k2)
            · by_cases ek : k = L - 1 - j
              · rw [ek, hdx] at e
                exact absurd e (hno i (by omega) i2)
              · exact hd i k (by omega) i2 (by omega) k2 e
          refine jw_iload_10 (pc := 47) C dL_isPath_47 ?_
          refine jw_iconst (pc := 49) C dL_isPath_49 ?_
          refine jw_aload_8 (pc := 50) C dL_isPath_50 ?_
          refine jw_iload_11 (pc := 52) C dL_isPath_52 ?_
          refine jw_iald (pc := 54) C 3 rfl (L - 1 - j) (by omega) (by omega) (by decide) dL_isPath_54 ?_
          rw [updf_same]
          refine jw_ishl (pc := 55) C dL_isPath_55 ?_
          refine jw_ior (pc := 56) C dL_isPath_56 ?_
          refine jw_istore_10 (pc := 57) C dL_isPath_57 rfl ?_
          refine jw_iinc_11 (pc := 59) C dL_isPath_59 rfl ?_
          refine jw_goto (pc := 62) (tgt := 11) C dL_isPath_62 (by decide) ?_
          exact ih_11 (j + 1) _ _ _ (by omega) (by omega) hv2 hus2 hd2 (by omega)
        · have hz : ¬ okP P f m L (dg row L) := fun g => by
            obtain ⟨k, k1, k2, k3⟩ := (hus _ hlt).mp ((bit1z (by omega)).mp c_42)
            have := g.2.1 k (L - 1 - j) k2 (by omega) (by rw [k3, hdx])
            omega
          refine jw_iconst (pc := 45) C dL_isPath_45 ?_
          exact hret _ _ false _ dL_isPath_46 (Or.inr ⟨rfl, hz⟩)
  exact K11 6 0 (iI 0) u _ (by omega) (by omega) (fun k h1 h2 => absurd h1 (by omega)) (fun b hb => by rw [show iI 0 = (0 : Int32) from rfl, b_0]; exact ⟨fun q => (by cases q), fun ⟨k, h1, h2, _⟩ => absurd h1 (by omega)⟩) (fun i k h1 h2 => absurd h1 (by omega)) (by omega)
set_option maxRecDepth 100000 in
set_option maxHeartbeats 4000000 in
theorem c_L_bestPath (G : jG) (qa qm qk qp : Nat) (P : QP) (f u : Nat → Int) (m : Int32) (hI : PI P) (hA : AtR P f) (hC : LC P) (r : Nat) (hr : (r : Int) < P.req) (hw : P.plc r = -1) (hm : P.acc r = m) : CI G yL_bestPath cL_bestPath 10 (jrm 1 32 0 0) [.int (iI 4), .int m, .ref qa, .ref qm, .int (iI P.ml), .ref qk, .ref qp] [jAI G qa 4 (jiI f), jAI G qm 16 (jiI P.mov), jAI G qk 16 P.acc, jAI G qp 4 (jiI u)] (fun (z : Int32) (u : Nat → Int) => BP P f m z u) (fun u : Nat → Int => [jAI G qa 4 (jiI f), jAI G qm 16 (jiI P.mov), jAI G qk 16 P.acc, jAI G qp 4 (jiI u)]) 0 0 := by
  refine ci_intro (own := RL) [some (.int (iI 4)), some (.int m), some (.ref qa), some (.ref qm), some (.int (iI P.ml)), some (.ref qk), some (.ref qp), none, none, none] (by decide) rfl rfl rfl (Nat.le_of_ble_eq_true rfl) (fun X C hret => ?_)
  have h1 := hI.ml
  have h2 := hC.2.2.2.1
  have hf : ∀ a, a < 4 → -1 ≤ f a ∧ f a < 16 := fun a ha => by
    rcases hA.1 a ha with e | ⟨x, x1, x2, x3⟩ <;> omega
  refine jw_iconst (pc := 0) C dL_bestPath_0 ?_
  refine jw_istore_7 (pc := 1) C dL_bestPath_1 rfl ?_
  refine jw_iconst (pc := 3) C dL_bestPath_3 ?_
  refine jw_istore_8 (pc := 4) C dL_bestPath_4 rfl ?_
  have K6 : ∀ (n_6 : Nat) (K : Nat) (v : Nat → Int) (y : Int), (1 ≤ K ∧ K ≤ 5) → (y = (p4 (K - 1) : Int)) → (∀ J, 1 ≤ J → J < K → ∀ x, x < p4 J → ¬ okP P f m J (dg x J)) → 6 - K < n_6 → JW G X 0 0 [jAI G qa 4 (jiI f), jAI G qm 16 (jiI P.mov), jAI G qk 16 P.acc, jAI G qp 4 (jiI v)] 6 [some (.int (iI 4)), some (.int m), some (.ref qa), some (.ref qm), some (.int (iI P.ml)), some (.ref qk), some (.ref qp), some (.int (iI y)), some (.int (iI (K : Int))), none] [] := by
    intro n_6
    induction n_6 with
    | zero => intro K v y hK hy hno hm_6; exact absurd hm_6 (Nat.not_lt_zero _)
    | succ n_6 ih_6 =>
      intro K v y hK hy hno hm_6
      refine jw_iload_8 (pc := 6) C dL_bestPath_6 ?_
      refine jw_iload_0 (pc := 8) C dL_bestPath_8 ?_
      refine jw_icmp_gt (pc := 9) (tgt := 63) C dL_bestPath_9 (by decide) ⟨by omega, by omega⟩ ⟨by omega, by omega⟩ (fun c_9 => ?_) (fun c_9 => ?_)
      · refine jw_iconst (pc := 63) C dL_bestPath_63 ?_
        exact hret _ _ _ v dL_bestPath_64 (Or.inl ⟨rfl, best_none hI hA hC hr hw hm (fun J j1 j2 => hno J j1 (by omega))⟩)
      · have hp4 := p4_le K (by omega)
        have hyK : y * 4 = (p4 K : Int) := by
          obtain ⟨J, rfl⟩ : ∃ J, K = J + 1 := ⟨K - 1, by omega⟩
          rw [hy]
          show (p4 J : Int) * 4 = ((p4 J * 4 : Nat) : Int)
          omega
        refine jw_iload_7 (pc := 12) C dL_bestPath_12 ?_
        refine jw_iload_0 (pc := 14) C dL_bestPath_14 ?_
        refine jw_imul (pc := 15) C dL_bestPath_15 ?_
        refine jw_istore_7 (pc := 16) C dL_bestPath_16 rfl ?_
        refine jw_iconst (pc := 18) C dL_bestPath_18 ?_
        refine jw_istore_9 (pc := 19) C dL_bestPath_19 rfl ?_
        have K21 : ∀ (n_21 : Nat) (x : Nat) (v2 : Nat → Int), (x ≤ p4 K) → (∀ x2, x2 < x → ¬ okP P f m K (dg x2 K)) → 257 - x < n_21 → JW G X 0 0 [jAI G qa 4 (jiI f), jAI G qm 16 (jiI P.mov), jAI G qk 16 P.acc, jAI G qp 4 (jiI v2)] 21 [some (.int (iI 4)), some (.int m), some (.ref qa), some (.ref qm), some (.int (iI P.ml)), some (.ref qk), some (.ref qp), some (.int (iI (y * 4))), some (.int (iI (K : Int))), some (.int (iI (x : Int)))] [] := by
          intro n_21
          induction n_21 with
          | zero => intro x v2 hx hnx hm_21; exact absurd hm_21 (Nat.not_lt_zero _)
          | succ n_21 ih_21 =>
            intro x v2 hx hnx hm_21
            refine jw_iload_9 (pc := 21) C dL_bestPath_21 ?_
            refine jw_iload_7 (pc := 23) C dL_bestPath_23 ?_
            refine jw_icmp_ge (pc := 25) (tgt := 57) C dL_bestPath_25 (by decide) ⟨by omega, by omega⟩ ⟨by omega, by omega⟩ (fun c_25 => ?_) (fun c_25 => ?_)
            · have hno2 : ∀ J, 1 ≤ J → J < K + 1 → ∀ x, x < p4 J → ¬ okP P f m J (dg x J) := fun J j1 j2 x9 h9 => by
                by_cases e : J = K
                · rw [e] at h9 ⊢; exact hnx x9 (by omega)
                · exact hno J j1 (by omega) x9 h9
              refine jw_iinc_8 (pc := 57) C dL_bestPath_57 rfl ?_
              refine jw_goto (pc := 60) (tgt := 6) C dL_bestPath_60 (by decide) ?_
              exact jw_less (ih_6 (K + 1) _ (y * 4) (by omega) hyK hno2 (by omega)) (by repeat (first | exact trivial | refine And.intro rfl ?_))
            · refine jw_iload_9 (pc := 28) C dL_bestPath_28 ?_
              refine jw_iload_8 (pc := 30) C dL_bestPath_30 ?_
              refine jw_iload_0 (pc := 32) C dL_bestPath_32 ?_
              refine jw_iload_1 (pc := 33) C dL_bestPath_33 ?_
              refine jw_aload_2 (pc := 34) C dL_bestPath_34 ?_
              refine jw_aload_3 (pc := 35) C dL_bestPath_35 ?_
              refine jw_iload_4 (pc := 36) C dL_bestPath_36 ?_
              refine jw_aload_5 (pc := 38) C dL_bestPath_38 ?_
              refine jw_aload_6 (pc := 40) C dL_bestPath_40 ?_
              refine jw_sS_Z (pc := 42) (wr := []) C (c_L_isPath G qa qm qk qp P f v2 m K x (by omega) (by omega) hf hI.mov h1) ws_L_isPath kml_L_9 [0, 1, 2, 3] [] rfl rfl rfl rfl (by decide) rfl rfl (Nat.le_of_ble_eq_true rfl) ⟨by decide, by decide⟩ ⟨Nat.zero_le _, Nat.zero_le _⟩ dL_bestPath_42 rfl (fun z u3 h => ?_)
              refine jw_if_eq_b (pc := 45) (tgt := 51) C dL_bestPath_45 (by decide) (fun c_45 => ?_) (fun c_45 => ?_)
              · have hnx2 : ∀ x2, x2 < x + 1 → ¬ okP P f m K (dg x2 K) := fun x2 h2 => by
                  by_cases e : x2 = x
                  · rw [e]; rcases h with ⟨h, _⟩ | ⟨_, h⟩
                    · rw [c_45] at h; cases h
                    · exact h
                  · exact hnx x2 (by omega)
                refine jw_iinc_9 (pc := 51) C dL_bestPath_51 rfl ?_
                refine jw_goto (pc := 54) (tgt := 21) C dL_bestPath_54 (by decide) ?_
                exact ih_21 (x + 1) _ (by omega) hnx2 (by omega)
              · have hz : BP P f m (iI (K : Int)) u3 := by
                  rcases h with ⟨_, h, hu⟩ | ⟨h, _⟩
                  · obtain ⟨b1, b2⟩ := best_some hI hA hC hr hw hm hK.1 (by omega) (by omega) h hnx (fun J j1 j2 => hno J j1 j2)
                    exact Or.inr ⟨K, dg x K, hK.1, by omega, rfl, b1, h, b2, hu⟩
                  · rw [c_45] at h; cases h
                refine jw_iload_8 (pc := 48) C dL_bestPath_48 ?_
                exact hret _ _ _ u3 dL_bestPath_50 hz
        exact K21 258 0 v (by omega) (fun x2 h => absurd h (by omega)) (by omega)
  exact K6 6 1 u 1 (by omega) (by rfl) (fun J j1 j2 => absurd j1 (by omega)) (by omega)
