/-! THE LAW'S BEGINNING: four resources with room for one, the weights, the law's rows -/
theorem rn0 {P : QP} {l : QL} (h : P.req = 0) : rn P l = (P, (l.1, l.2.1, 0), 0) := by
  unfold rn
  rw [show P.req.toNat = 0 by omega]
  rfl
theorem backQ0 {P : QP} {a : Nat} {x v : Int} (h : P.req = 0) : pBackQ a P.req.toNat (pGrp P a x v) 0 = (pGrp P a x v, 0) := by
  rw [show P.req.toNat = 0 by omega]
  rfl
theorem PFe0 {P : QP} (hI : PI P) (h : P.req = 0) : PFe P := by
  have e : P.req.toNat = 0 := by omega
  refine ⟨fun a _ => ?_, fun g _ => ?_, fun x hx => absurd hx (by omega), fun r hr => absurd hr (by omega)⟩
  · rw [hI.2.1 a, e]
    exact (hI.cap a).1
  · rw [hI.2.2 g, e]
    exact (hI.quo g).1
theorem SV_0 : SV sP0 sL0 := by
  have hI : PI sP0 := by
    refine ⟨⟨⟨by decide, by decide⟩, ⟨by decide, by decide⟩, ⟨by decide, by decide⟩, ⟨by decide, by decide⟩, fun i => ⟨by show (0 : Int) ≤ 0; omega, by show (0 : Int) ≤ 4; omega⟩, fun i => ?_, fun i => ?_, fun i hi => ?_, fun i => ⟨by show (0 : Int) ≤ 0; omega, by show (0 : Int) ≤ 3; omega⟩, fun i => ⟨by show (-2 : Int) ≤ 0; omega, by show (0 : Int) ≤ 11; omega⟩, fun i => ⟨by show (0 : Int) ≤ 0; omega, by show (0 : Int) ≤ 20; omega⟩, fun i hi => absurd hi (by show ¬ ((i : Int) < 0); omega)⟩, fun a => rfl, fun g => rfl⟩
    · show 0 ≤ fl 40 4 i ∧ fl 40 4 i ≤ 40
      unfold fl; split <;> omega
    · show 0 ≤ fl 1 4 i ∧ fl 1 4 i ≤ 10
      unfold fl; split <;> omega
    · show 1 ≤ fl 1 4 i
      unfold fl; rw [if_pos hi]; omega
  exact ⟨hI, PFe0 hI rfl, by decide, by decide⟩
/-- what holds when i resources are opened -/
def IV (i : Nat) (pl ml : Int) (P : QP) (l : QL) (f we : Nat → Int) : Prop :=
  (SV P l ∧ P.res = (i : Int) ∧ P.req = 0 ∧ P.pl = pl ∧ P.ml = ml) ∧ (∀ a : Nat, a < i → P.cap a = 1) ∧ (∀ g : Nat, g < 4 → P.quo g = 40) ∧ (P.mov = z0 ∧ P.plc = z0 ∧ P.acc = jiI z0 ∧ P.grp = z0 ∧ P.asg = z0) ∧ (∀ g : Nat, g < i → P.wei g = we g) ∧ (∀ g : Nat, 4 ≤ g → P.wei g = 0 ∧ we g = 0) ∧ ∀ a : Nat, a < i → f a = -1
theorem IV_0 {x y : Int} (hx : 0 ≤ x ∧ x ≤ 5) (hy : 0 ≤ y ∧ y ≤ 20) : IV 0 x y (pLim sP0 x y) (sL0.1, sL0.2.1, 0) (fun _ => 0) (fun _ => 0) := by
  have hI : PI (pLim sP0 x y) := PI_lim SV_0.1 hx hy
  refine ⟨⟨⟨hI, PFe0 hI rfl, by show (0 : Int) ≤ 0; omega, by show (0 : Int) ≤ 200; omega⟩, rfl, rfl, rfl, rfl⟩, fun a h => absurd h (Nat.not_lt_zero _), fun g hg => ?_, ⟨rfl, rfl, rfl, rfl, rfl⟩, fun g h => absurd h (Nat.not_lt_zero _), fun g hg => ⟨?_, rfl⟩, fun a h => absurd h (Nat.not_lt_zero _)⟩
  · show fl 40 4 g = 40
    unfold fl; rw [if_pos hg]
  · show fl 1 4 g = 0
    unfold fl; rw [if_neg (by omega)]
theorem IV_open {i : Nat} {x y : Int} {P : QP} {l : QL} {f we : Nat → Int} (h : IV i x y P l f we) (hi : i < 4) : PI (pOpen P 1) ∧ PFe (pOpen P 1) ∧ (pOpen P 1).req = 0 := by
  obtain ⟨⟨hS, h1, h2, h3, h4⟩, -⟩ := h
  have hI : PI (pOpen P 1) := PI_open hS.1 (by omega) ⟨by decide, by decide⟩
  exact ⟨hI, PFe0 hI h2, h2⟩
theorem IV_step {i : Nat} {x y v : Int} {P : QP} {l l2 : QL} {f we : Nat → Int} (h : IV i x y P l f we) (hi : i < 4) (hv : 1 ≤ v ∧ v ≤ 10) (hl2 : l2.sz = 0) : IV (i + 1) x y (pGrp (pOpen P 1) i 40 v) l2 (updf f i (-1)) (updf we i v) := by
  obtain ⟨hI1, hF1, hr1⟩ := IV_open h hi
  obtain ⟨⟨hS, h1, h2, h3, h4⟩, h5, h6, ⟨h7, h8, h9, h10, h11⟩, h12, h13, h14⟩ := h
  have hI : PI (pGrp (pOpen P 1) i 40 v) := PI_grp hI1 ⟨by decide, by decide⟩ hv
  refine ⟨⟨⟨hI, PFe0 hI h2, by omega, by omega⟩, ?_, h2, h3, h4⟩, fun a ha => ?_, fun g hg => ?_, ⟨h7, h8, h9, h10, h11⟩, fun g hg => ?_, fun g hg => ?_, fun a ha => ?_⟩
  · show P.res + 1 = ((i + 1 : Nat) : Int)
    omega
  · show updf P.cap P.res.toNat 1 a = 1
    by_cases e : a = P.res.toNat
    · rw [e, updf_same]
    · rw [updf_ne _ _ e]; exact h5 a (by omega)
  · show updf P.quo i 40 g = 40
    by_cases e : g = i
    · rw [e, updf_same]
    · rw [updf_ne _ _ e]; exact h6 g hg
  · show updf P.wei i v g = updf we i v g
    by_cases e : g = i
    · rw [e, updf_same, updf_same]
    · rw [updf_ne _ _ e, updf_ne _ _ e]; exact h12 g (by omega)
  · show updf P.wei i v g = 0 ∧ updf we i v g = 0
    rw [updf_ne _ _ (by omega), updf_ne _ _ (by omega)]
    exact h13 g hg
  · by_cases e : a = i
    · rw [e, updf_same]
    · rw [updf_ne _ _ e]; exact h14 a (by omega)
theorem IV_end {x y : Int} {P : QP} {l : QL} {f we : Nat → Int} (h : IV 4 x y P l f we) (hx : x ≤ 3) (hy : y ≤ 3) : HV P l f ∧ P.wei = we := by
  obtain ⟨⟨hS, h1, h2, h3, h4⟩, h5, h6, ⟨h7, h8, h9, h10, h11⟩, h12, h13, h14⟩ := h
  refine ⟨⟨hS, ⟨h1, h5, h6, by omega, by omega, by omega⟩, fun a ha => Or.inl (h14 a ha), fun a r ha hr => absurd hr (by omega)⟩, ?_⟩
  funext g
  by_cases hg : g < 4
  · exact h12 g hg
  · rw [(h13 g (by omega)).1, (h13 g (by omega)).2]
set_option maxRecDepth 100000 in
set_option maxHeartbeats 4000000 in
theorem law_b1 {G : jG} {X : JX} {ad : Nat → Nat} {b N : Nat} {xs : Nat → Int32} (C : JC G X room_1 cL_law RL 28) (S : JScr X b N xs) (hN : N ≤ 260) (hend : ∀ (k n : Nat) (w : va_W) (L : List (Option Value)), k ≤ 1000 → n ≤ 10000 → JW G X k n w 769 L [.int (iI 1)]) : JW G X 30 900 (wC G ad sP0 sL0 sA0 sT0 sF0) 8 [some (.ref b), some (.ref (ad 0)), none, none, none, none, none, none, none, none, none, none, none, none, none, none, none, none, none, none, none, none, none, none, none, none, none, none] [] := by
  refine jw_iconst (pc := 8) C dL_law_8 ?_
  refine jw_istore_2 (pc := 9) C dL_law_9 rfl ?_
  refine jw_aload_0 (pc := 10) C dL_law_10 ?_
  refine jw_iconst (pc := 11) C dL_law_11 ?_
  refine jw_cell (pc := 12) C S (c_L_cell G b N xs 0 (by omega) hN) ws_L_cell kml_L_41 rfl rfl (Nat.le_of_ble_eq_true rfl) ⟨by decide, by decide⟩ (rmk ⟨by omega, by omega⟩) dL_law_12 rfl (fun cw _ => ?_)
  refine jw_iconst (pc := 15) C dL_law_15 ?_
  refine jw_S0_I (pc := 16) C (c_L_below G cw 4 (by decide) (by decide)) ws_L_below kml_L_45 rfl rfl (Nat.le_of_ble_eq_true rfl) ⟨by decide, by decide⟩ (rmk ⟨by omega, by omega⟩) dL_law_16 rfl (fun z u9 h => ?_)
  obtain ⟨x3, h3, rfl⟩ := h
  clear cw
  refine jw_istore_3 (pc := 19) C dL_law_19 rfl ?_
  refine jw_iconst (pc := 20) C dL_law_20 ?_
  refine jw_aload_0 (pc := 21) C dL_law_21 ?_
  refine jw_iconst (pc := 22) C dL_law_22 ?_
  refine jw_cell (pc := 23) C S (c_L_cell G b N xs 1 (by omega) hN) ws_L_cell kml_L_41 rfl rfl (Nat.le_of_ble_eq_true rfl) ⟨by decide, by decide⟩ (rmk ⟨by omega, by omega⟩) dL_law_23 rfl (fun cw _ => ?_)
  refine jw_iconst (pc := 26) C dL_law_26 ?_
  refine jw_S0_I (pc := 27) C (c_L_below G cw 3 (by decide) (by decide)) ws_L_below kml_L_45 rfl rfl (Nat.le_of_ble_eq_true rfl) ⟨by decide, by decide⟩ (rmk ⟨by omega, by omega⟩) dL_law_27 rfl (fun z u9 h => ?_)
  obtain ⟨x4, h4, rfl⟩ := h
  clear cw
  refine jw_iadd (pc := 30) C dL_law_30 ?_
  refine jw_istore_4 (pc := 31) C dL_law_31 rfl ?_
  refine jw_aload_1 (pc := 33) C dL_law_33 ?_
  refine jw_iload_3 (pc := 34) C dL_law_34 ?_
  refine jw_iload_4 (pc := 35) C dL_law_35 ?_
  refine jw_sV_I (pc := 37) (wr := []) C (c_X5_setLimits G ad sP0 sL0 sA0 sT0 sF0 SV_0.1 SV_0.2.1 (x3 : Int) ⟨by omega, by omega⟩ (1 + (x4 : Int)) ⟨by omega, by omega⟩) wd_X5_setLimits kml_L_49 0 rfl rfl (List.range 30) [] rfl rfl rfl rfl (by decide) rfl rfl (Nat.le_of_ble_eq_true rfl) ⟨by decide, by decide⟩ (rmk ⟨by omega, by omega⟩) dL_law_37 rfl (fun z u9 h => ?_)
  obtain ⟨hz, hu1, hu2⟩ := h
  have hz0 : z = iI 0 := by rw [hz, rn0 (by rfl)] <;> rfl
  have hw1 : u9.1 = (pLim sP0 (x3 : Int) (1 + (x4 : Int))) := by rw [hu1, rn0 (by rfl)] <;> rfl
  have hw2 : u9.2.1 = (sL0.1, sL0.2.1, 0) := by rw [hu2, rn0 (by rfl)] <;> rfl
  clear hz hu1 hu2
  subst hz0
  refine jw_eqw (wC G ad u9.1 u9.2.1 u9.2.2.1 u9.2.2.2 sF0) rfl ?_
  rw [hw1, hw2]
  refine jw_if_eq (pc := 40) (tgt := 45) C dL_law_40 (by decide) ⟨by omega, by omega⟩ (fun c_40 => ?_) (fun c_40 => ?_)
  · refine jw_iload_2 (pc := 45) C dL_law_45 ?_
    refine jw_newaI (pc := 46) C 4 (by omega) (rmk ⟨by omega, by omega⟩) dL_law_46 (fun q0 => ?_)
    refine jw_astore_5 (pc := 48) C dL_law_48 rfl ?_
    refine jw_iconst (pc := 50) C dL_law_50 ?_
    refine jw_newaI (pc := 51) C 4 (by omega) (rmk ⟨by omega, by omega⟩) dL_law_51 (fun q6 => ?_)
    refine jw_astore_6 (pc := 53) C dL_law_53 rfl ?_
    refine jw_iconst (pc := 55) C dL_law_55 ?_
    refine jw_newaI (pc := 56) C 4 (by omega) (rmk ⟨by omega, by omega⟩) dL_law_56 (fun q7 => ?_)
    refine jw_astore_7 (pc := 58) C dL_law_58 rfl ?_
    refine jw_eqw (wC G ad (pLim sP0 (x3 : Int) (1 + (x4 : Int))) (sL0.1, sL0.2.1, 0) u9.2.2.1 u9.2.2.2 sF0 ++ [jAI G q0 4 (jiI (fun _ => 0)), jAI G q6 4 (jiI (fun _ => 0)), jAI G q7 4 (jiI z0)]) rfl ?_
    refine jw_iconst (pc := 60) C dL_law_60 ?_
    refine jw_istore_8 (pc := 61) C dL_law_61 rfl ?_
    have K63 : ∀ (n_63 : Nat) (i : Nat) (P : QP) (l : QL) (A : QA) (T : Nat → Bool) (f we : Nat → Int), (i ≤ 4) → (IV i (x3 : Int) (1 + (x4 : Int)) P l f we) → 5 - i < n_63 → JW G X 33 912 (wC G ad P l A T sF0 ++ [jAI G q0 4 (jiI f), jAI G q6 4 (jiI we), jAI G q7 4 (jiI z0)]) 63 [some (.ref b), some (.ref (ad 0)), some (.int (iI 4)), some (.int (iI (x3 : Int))), some (.int (iI (1 + (x4 : Int)))), some (.ref q0), some (.ref q6), some (.ref q7), some (.int (iI (i : Int))), none, none, none, none, none, none, none, none, none, none, none, none, none, none, none, none, none, none, none] [] := by
      intro n_63
      induction n_63 with
      | zero => intro i P l A T f we hi hB hm_63; exact absurd hm_63 (Nat.not_lt_zero _)
      | succ n_63 ih_63 =>
        intro i P l A T f we hi hB hm_63
        have hres := hB.1.2.1
        refine jw_iload_8 (pc := 63) C dL_law_63 ?_
        refine jw_iconst (pc := 65) C dL_law_65 ?_
        refine jw_icmp_ge (pc := 66) (tgt := 129) C dL_law_66 (by decide) ⟨by omega, by omega⟩ ⟨by omega, by omega⟩ (fun c_66 => ?_) (fun c_66 => ?_)
        · have hi4 : i = 4 := by omega
          subst hi4
          refine jw_bipush (pc := 129) C dL_law_129 (by decide) ?_
          refine jw_newaI (pc := 131) C 16 (by omega) (rmk ⟨by omega, by omega⟩) dL_law_131 (fun q8 => ?_)
          refine jw_astore_8 (pc := 133) C dL_law_133 rfl ?_
          refine jw_bipush (pc := 135) C dL_law_135 (by decide) ?_
          refine jw_newaI (pc := 137) C 16 (by omega) (rmk ⟨by omega, by omega⟩) dL_law_137 (fun q9 => ?_)
          refine jw_astore_9 (pc := 139) C dL_law_139 rfl ?_
          refine jw_bipush (pc := 141) C dL_law_141 (by decide) ?_
          refine jw_newaI (pc := 143) C 16 (by omega) (rmk ⟨by omega, by omega⟩) dL_law_143 (fun q10 => ?_)
          refine jw_astore_10 (pc := 145) C dL_law_145 rfl ?_
          refine jw_bipush (pc := 147) C dL_law_147 (by decide) ?_
          refine jw_newaI (pc := 149) C 16 (by omega) (rmk ⟨by omega, by omega⟩) dL_law_149 (fun q11 => ?_)
          refine jw_astore_11 (pc := 151) C dL_law_151 rfl ?_
          refine jw_iconst (pc := 153) C dL_law_153 ?_
          refine jw_newaI (pc := 154) C 4 (by omega) (rmk ⟨by omega, by omega⟩) dL_law_154 (fun q12 => ?_)
          refine jw_astore_12 (pc := 156) C dL_law_156 rfl ?_
          refine jw_sipush (pc := 158) C dL_law_158 (by decide) ?_
          refine jw_newaI (pc := 161) C 200 (by omega) (rmk ⟨by omega, by omega⟩) dL_law_161 (fun q13 => ?_)
          refine jw_astore_13 (pc := 163) C dL_law_163 rfl ?_
          refine jw_iconst (pc := 165) C dL_law_165 ?_
          refine jw_istore_14 (pc := 166) C dL_law_166 rfl ?_
          refine jw_iconst (pc := 168) C dL_law_168 ?_
          refine jw_istore_15 (pc := 169) C dL_law_169 rfl ?_
          refine jw_widen (k2 := 39) (n2 := 1180) (by omega) (by omega) ?_
          obtain ⟨hV4, hwe⟩ := IV_end hB (by omega) (by omega)
          obtain ⟨⟨hS4, b1, b2, b3, b4⟩, b5, b6, ⟨b7, b8, b9, b10, b11⟩, -⟩ := hB
          have K := law_loop (ad := ad) (q := (fun i => [q0, q11, q8, q12, q10, q13, q6, q7, q9].getD i 0)) C S hN hend 14 0 39 1180 (by omega) (by omega) (by omega) P l A T sF0 f z0 z0 0 hV4 b3 b4 b2 (Nat.le_refl 0)
          have K2 : JW G X 39 1180 (wA G (fun i => [q0, q11, q8, q12, q10, q13, q6, q7, q9].getD i 0) f P.mov P.acc z0 P.plc z0 P.wei P.asg P.grp ++ wC G ad P l A T sF0) 171 [some (.ref b), some (.ref (ad 0)), some (.int (iI 4)), some (.int (iI (x3 : Int))), some (.int (iI (1 + (x4 : Int)))), some (.ref q0), some (.ref q6), some (.ref q7), some (.ref q8), some (.ref q9), some (.ref q10), some (.ref q11), some (.ref q12), some (.ref q13), some (.int (iI ((0 : Nat) : Int))), some (.int (iI ((0 : Nat) : Int))), none, none, none, none, none, none, none, none, none, none, none, none] [] := K
          rw [b7, b8, b9, b10, b11, hwe] at K2
          refine jw_sub (w2 := wA G (fun i => [q0, q11, q8, q12, q10, q13, q6, q7, q9].getD i 0) f z0 (jiI z0) z0 z0 z0 we z0 z0 ++ wC G ad P l A T sF0) ([30, 36, 33, 37, 35, 38, 31, 32, 34] ++ List.range 30) rfl rfl ?_
          exact jw_less K2 (by repeat (first | exact trivial | refine And.intro rfl ?_))
        · have hop := IV_open hB (by omega)
          refine jw_aload_6 (pc := 69) C dL_law_69 ?_
          refine jw_iload_8 (pc := 71) C dL_law_71 ?_
          refine jw_iconst (pc := 73) C dL_law_73 ?_
          refine jw_aload_0 (pc := 74) C dL_law_74 ?_
          refine jw_iconst (pc := 75) C dL_law_75 ?_
          refine jw_iload_8 (pc := 76) C dL_law_76 ?_
          refine jw_iadd (pc := 78) C dL_law_78 ?_
          rw [show (2 : Int) + (i : Int) = ((2 + i : Nat) : Int) by omega]
          refine jw_cell (pc := 79) C S (c_L_cell G b N xs (2 + i) (by omega) hN) ws_L_cell kml_L_41 rfl rfl (Nat.le_of_ble_eq_true rfl) ⟨by decide, by decide⟩ (rmk ⟨by omega, by omega⟩) dL_law_79 rfl (fun cw _ => ?_)
          refine jw_bipush (pc := 82) C dL_law_82 (by decide) ?_
          refine jw_S0_I (pc := 84) C (c_L_below G cw 10 (by decide) (by decide)) ws_L_below kml_L_45 rfl rfl (Nat.le_of_ble_eq_true rfl) ⟨by decide, by decide⟩ (rmk ⟨by omega, by omega⟩) dL_law_84 rfl (fun z u9 h => ?_)
          obtain ⟨x5, h5, rfl⟩ := h
          clear cw
          refine jw_iadd (pc := 87) C dL_law_87 ?_
          refine jw_iast (pc := 88) C 31 rfl i rfl (by omega) (by decide) dL_law_88 ?_
          refine jw_aload_1 (pc := 89) C dL_law_89 ?_
          refine jw_iconst (pc := 90) C dL_law_90 ?_
          refine jw_sV_I (pc := 91) (wr := [jAI G q0 4 (jiI f), jAI G q6 4 (jiI (updf we i (1 + (x5 : Int)))), jAI G q7 4 (jiI z0)]) C (c_X5_addResource G ad P l A T sF0 hB.1.1.1 hB.1.1.2.1 1 ⟨by decide, by decide⟩ (by omega)) wd_X5_addResource kml_L_52 0 rfl rfl (List.range 30) [30, 31, 32] rfl rfl rfl rfl (by decide) rfl rfl (Nat.le_of_ble_eq_true rfl) ⟨by decide, by decide⟩ (rmk ⟨by omega, by omega⟩) dL_law_91 rfl (fun z u9 h => ?_)
          obtain ⟨rfl, hu1, hu2⟩ := h
          rw [rn0 hop.2.2] at hu1 hu2
          refine jw_sub (w2 := wC G ad u9.1 u9.2.1 u9.2.2.1 u9.2.2.2 sF0 ++ [jAI G q0 4 (jiI f), jAI G q6 4 (jiI (updf we i (1 + (x5 : Int)))), jAI G q7 4 (jiI z0)]) ((List.range 30).map (· + 3) ++ [0, 1, 2]) rfl rfl ?_
          rw [hu1, hu2]
          refine jw_iload_8 (pc := 94) C dL_law_94 ?_
          refine jw_icmp_ne (pc := 96) (tgt := 115) C dL_law_96 (by decide) ⟨by omega, by omega⟩ ⟨by omega, by omega⟩ (fun c_96 => ?_) (fun c_96 => ?_)
          · exact absurd hB.1.2.1 c_96
          · refine jw_aload_1 (pc := 99) C dL_law_99 ?_
            refine jw_iload_8 (pc := 100) C dL_law_100 ?_
            refine jw_bipush (pc := 102) C dL_law_102 (by decide) ?_
            refine jw_aload_6 (pc := 104) C dL_law_104 ?_
            refine jw_iload_8 (pc := 106) C dL_law_106 ?_
            refine jw_iald (pc := 108) C 31 rfl i rfl (by omega) (by decide) dL_law_108 ?_
            rw [updf_same]
            refine jw_sV_I (pc := 109) (wr := [jAI G q0 4 (jiI f), jAI G q6 4 (jiI (updf we i (1 + (x5 : Int)))), jAI G q7 4 (jiI z0)]) C (c_X5_setGroup G ad (pOpen P 1) (l.1, l.2.1, 0) u9.2.2.1 u9.2.2.2 sF0 hop.1 hop.2.1 i (by omega) 40 ⟨by decide, by decide⟩ (1 + (x5 : Int)) ⟨by omega, by omega⟩) wd_X5_setGroup kml_L_55 0 rfl rfl (List.range 30) [30, 31, 32] rfl rfl rfl rfl (by decide) rfl rfl (Nat.le_of_ble_eq_true rfl) ⟨by decide, by decide⟩ (rmk ⟨by omega, by omega⟩) dL_law_109 rfl (fun z u8 h => ?_)
            obtain ⟨hz, hv1, hv2⟩ := h
            have hz0 : z = iI 0 := by rw [hz, backQ0 hop.2.2] <;> rfl
            have hw1 : u8.1 = pGrp (pOpen P 1) i 40 (1 + (x5 : Int)) := by rw [hv1, backQ0 hop.2.2, rn0 (by exact hop.2.2)] <;> rfl
            have hw2 : u8.2.1 = (l.1, l.2.1, 0) := by rw [hv2, backQ0 hop.2.2, rn0 (by exact hop.2.2)] <;> rfl
            clear hz hv1 hv2
            subst hz0
            refine jw_sub (w2 := wC G ad u8.1 u8.2.1 u8.2.2.1 u8.2.2.2 sF0 ++ [jAI G q0 4 (jiI f), jAI G q6 4 (jiI (updf we i (1 + (x5 : Int)))), jAI G q7 4 (jiI z0)]) ((List.range 30).map (· + 3) ++ [0, 1, 2]) rfl rfl ?_
            rw [hw1, hw2]
            refine jw_if_eq (pc := 112) (tgt := 117) C dL_law_112 (by decide) ⟨by omega, by omega⟩ (fun c_112 => ?_) (fun c_112 => ?_)
            · refine jw_aload_5 (pc := 117) C dL_law_117 ?_
              refine jw_iload_8 (pc := 119) C dL_law_119 ?_
              refine jw_iconst (pc := 121) C dL_law_121 ?_
              refine jw_iast (pc := 122) C 30 rfl i rfl (by omega) (by decide) dL_law_122 ?_
              refine jw_iinc_8 (pc := 123) C dL_law_123 rfl ?_
              refine jw_goto (pc := 126) (tgt := 63) C dL_law_126 (by decide) ?_
              exact ih_63 (i + 1) (pGrp (pOpen P 1) i 40 (1 + (x5 : Int))) (l.1, l.2.1, 0) u8.2.2.1 u8.2.2.2 (updf f i (-1)) (updf we i (1 + (x5 : Int))) (by omega) (IV_step hB (by omega) ⟨by omega, by omega⟩ rfl) (by omega)
            · exact absurd rfl c_112
    exact jw_widen (by omega) (by omega) (K63 6 0 (pLim sP0 (x3 : Int) (1 + (x4 : Int))) (sL0.1, sL0.2.1, 0) u9.2.2.1 u9.2.2.2 (fun _ => 0) (fun _ => 0) (by omega) (IV_0 ⟨by omega, by omega⟩ ⟨by omega, by omega⟩) (by omega))
  · exact absurd rfl c_40
set_option maxRecDepth 100000 in
set_option maxHeartbeats 4000000 in
theorem law_begin {G : jG} {X : JX} {b N : Nat} {xs : Nat → Int32} (C : JC G X room_1 cL_law RL 28) (S : JScr X b N xs) (hN : N ≤ 260) (hend : ∀ (k n : Nat) (w : va_W) (L : List (Option Value)), k ≤ 1000 → n ≤ 10000 → JW G X k n w 769 L [.int (iI 1)]) : JW G X 0 0 [] 0 [some (.ref b), none, none, none, none, none, none, none, none, none, none, none, none, none, none, none, none, none, none, none, none, none, none, none, none, none, none, none] [] := by
  refine jw_new (pc := 0) (ci := 5) (fs := [.null, .null, .null, .null, .null]) jU_X5 tyX5_ok rfl C kcl_L_16 kin_X5 kini_X5 (by decide) ⟨Nat.le_of_ble_eq_true rfl, Nat.le_of_ble_eq_true rfl⟩ dL_law_0 (fun o5 => ?_)
  refine jw_eqw [(o5, .inr (5, [.null, .null, .null, .null, .null]))] rfl ?_
  refine jw_dup (pc := 3) C dL_law_3 rfl ?_
  refine jw_sI (pc := 4) (wr := []) C (c_X5_init G o5) wi_X5_init kml_L_40 [0] [] rfl rfl rfl rfl (by decide) rfl rfl (Nat.le_of_ble_eq_true rfl) ⟨by decide, by decide⟩ ⟨Nat.le_of_ble_eq_true rfl, Nat.le_of_ble_eq_true rfl⟩ dL_law_4 rfl (fun ad had => ?_)
  subst had
  refine jw_eqw (wC G ad sP0 sL0 sA0 sT0 sF0) rfl ?_
  refine jw_astore_1 (pc := 7) C dL_law_7 rfl ?_
  exact jw_widen (Nat.le_of_ble_eq_true rfl) (Nat.le_of_ble_eq_true rfl) (law_b1 C S hN hend)
theorem u_of {args : Array Value} {s : State} {C : String} {T : u_T} {N : Nat} (hts : ∀ w ∈ lw_tbl, w.before args s = true) (hin : ∀ w ∈ u_ws C T N, w ∈ jAll) (hi : Cond.instantiable C N ∈ jAll) : ∃ (cC : ClassId) (iS : Nat → Nat), u_Kn s C T N cC iS := u_known hts (fun w h => jAll_tbl w (hin w h)) (hts _ (jAll_tbl _ hi))
theorem a_of {args : Array Value} {s : State} {ty : FieldType} (hts : ∀ w ∈ lw_tbl, w.before args s = true) (h : Cond.arrayClass ty ∈ jAll) : ∃ cA : ClassId, ArrOfT s cA ty ∧ s.vm.findClass ("[" ++ ty.toString) = some cA := by
  obtain ⟨cA, kA, comp, h1, h2, h3⟩ := Cond.arrayClass_spec (first := s) (o := none) (idx := []) (args := args) (hts _ (jAll_tbl _ h))
  exact ⟨cA, fun n z => ⟨fun k h => (by cases h), kA, h2, comp, h3⟩, h1⟩
theorem K_of {args : Array Value} {s : State} (hts : ∀ w ∈ lw_tbl, w.before args s = true) : ∃ G : jG, va_K G.1 vwCl (jT G) s := by
  obtain ⟨c0, i0, h0⟩ := u_of hts jU_X0 kin_X0
  obtain ⟨c1, i1, h1⟩ := u_of hts jU_X1 kin_X1
  obtain ⟨c2, i2, h2⟩ := u_of hts jU_X2 kin_X2
  obtain ⟨c3, i3, h3⟩ := u_of hts jU_X3 kin_X3
  obtain ⟨c4, i4, h4⟩ := u_of hts jU_X4 kin_X4
  obtain ⟨c5, i5, h5⟩ := u_of hts jU_X5 kin_X5
  obtain ⟨cI, aI, fI⟩ := a_of hts kac_int
  obtain ⟨cZ, aZ, fZ⟩ := a_of hts kac_boolean
  refine ⟨((fun k => if k = 0 then c0 else if k = 1 then c1 else if k = 2 then c2 else if k = 3 then c3 else if k = 4 then c4 else c5, fun k => if k = 0 then i0 else if k = 1 then i1 else if k = 2 then i2 else if k = 3 then i3 else if k = 4 then i4 else i5), fun k => if k = 0 then cI else cZ), fun k q hq => ?_, fun k q hq => ?_⟩
  · match k, hq with
    | 0, hq => cases hq; exact h0
    | 1, hq => cases hq; exact h1
    | 2, hq => cases hq; exact h2
    | 3, hq => cases hq; exact h3
    | 4, hq => cases hq; exact h4
    | 5, hq => cases hq; exact h5
    | k + 6, hq => cases hq
  · match k, hq with
    | 0, hq => cases hq; exact ⟨aI, fI⟩
    | 1, hq => cases hq; exact ⟨aZ, fZ⟩
    | k + 2, hq => cases hq
