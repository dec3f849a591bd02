/-! THE LAW'S METHODS place, isSame -/
set_option maxRecDepth 100000 in
set_option maxHeartbeats 4000000 in
theorem c_L_place (G : jG) (qa qw qm qp qg : Nat) (P : QP) (f u lg : Nat → Int) (p : Nat → Nat) (r L n0 : Nat) (hL : 1 ≤ L ∧ L ≤ 4) (hr : r < 16) (hn : n0 ≤ 190) (hu : ∀ k, k < L → u k = (p k : Int)) (hp4 : ∀ k, k < L → p k < 4) (hft : ∀ k, k + 1 < L → 0 ≤ f (p k) ∧ f (p k) < 16) : CI G yL_place cL_place 11 (jrm 0 0 1 4) [.int (iI (r : Int)), .int (iI (L : Int)), .ref qp, .ref qa, .ref qw, .ref qm, .ref qg, .int (iI (n0 : Int))] [jAI G qa 4 (jiI f), jAI G qw 16 (jiI P.plc), jAI G qm 16 (jiI P.mov), jAI G qp 4 (jiI u), jAI G qg 200 (jiI lg)] (fun (z : Int32) (_ : Unit) => z = iI ((n0 + 2 * (L - 1) : Nat) : Int)) (fun _ : Unit => [jAI G qa 4 (jiI (updf (lpA f p (L - 1)) (p 0) (r : Int))), jAI G qw 16 (jiI (updf (lpW P.plc f p (L - 1)) r (p 0 : Int))), jAI G qm 16 (jiI (lpM P.mov f p (L - 1))), jAI G qp 4 (jiI u), jAI G qg 200 (jiI (lpG lg f p n0 (L - 1)))]) 1 4 := by
  refine ci_intro (own := RL) [some (.int (iI (r : Int))), some (.int (iI (L : Int))), some (.ref qp), some (.ref qa), some (.ref qw), some (.ref qm), some (.ref qg), some (.int (iI (n0 : Int))), none, none, none] (by decide) rfl rfl rfl (Nat.le_of_ble_eq_true rfl) (fun X C hret => ?_)
  refine jw_iload_7 (pc := 0) C dL_place_0 ?_
  refine jw_istore_8 (pc := 2) C dL_place_2 rfl ?_
  refine jw_iload_1 (pc := 4) C dL_place_4 ?_
  refine jw_newaI (pc := 5) C L (by omega) ⟨Nat.le_of_ble_eq_true rfl, (by show 0 + L ≤ 4; omega)⟩ dL_place_5 (fun q9 => ?_)
  refine jw_eqw ([jAI G qa 4 (jiI f), jAI G qw 16 (jiI P.plc), jAI G qm 16 (jiI P.mov), jAI G qp 4 (jiI u), jAI G qg 200 (jiI lg), jAI G q9 L (jiI (fun _ => 0))]) rfl ?_
  refine jw_astore_9 (pc := 7) C dL_place_7 rfl ?_
  refine jw_iconst (pc := 9) C dL_place_9 ?_
  refine jw_istore_10 (pc := 10) C dL_place_10 rfl ?_
  have K12 : ∀ (n_12 : Nat) (k : Nat) (t : Nat → Int), (1 ≤ k ∧ k ≤ L) → (∀ i, 1 ≤ i → i < k → t i = f (p (i - 1))) → 5 - k < n_12 → JW G X (0 + 1) (0 + L) ([jAI G qa 4 (jiI f), jAI G qw 16 (jiI P.plc), jAI G qm 16 (jiI P.mov), jAI G qp 4 (jiI u), jAI G qg 200 (jiI lg), jAI G q9 L (jiI t)]) 12 [some (.int (iI (r : Int))), some (.int (iI (L : Int))), some (.ref qp), some (.ref qa), some (.ref qw), some (.ref qm), some (.ref qg), some (.int (iI (n0 : Int))), some (.int (iI (n0 : Int))), some (.ref q9), some (.int (iI (k : Int)))] [] := by
    intro n_12
    induction n_12 with
    | zero => intro k t hk ht hm_12; exact absurd hm_12 (Nat.not_lt_zero _)
    | succ n_12 ih_12 =>
      intro k t hk ht hm_12
      refine jw_iload_10 (pc := 12) C dL_place_12 ?_
      refine jw_iload_1 (pc := 14) C dL_place_14 ?_
      refine jw_icmp_ge (pc := 15) (tgt := 37) C dL_place_15 (by decide) ⟨by omega, by omega⟩ ⟨by omega, by omega⟩ (fun c_15 => ?_) (fun c_15 => ?_)
      · have hkL : k = L := by omega
        refine jw_iconst (pc := 37) C dL_place_37 ?_
        refine jw_istore_10 (pc := 38) C dL_place_38 rfl ?_
        have K40 : ∀ (n_40 : Nat) (i : Nat) (x y : Int), (i + 1 ≤ L) → (x = (i : Int) + 1) → (y = ((n0 + 2 * i : Nat) : Int)) → 5 - i < n_40 → JW G X (0 + 1) (0 + L) ([jAI G qa 4 (jiI (lpA f p i)), jAI G qw 16 (jiI (lpW P.plc f p i)), jAI G qm 16 (jiI (lpM P.mov f p i)), jAI G qp 4 (jiI u), jAI G qg 200 (jiI (lpG lg f p n0 i)), jAI G q9 L (jiI t)]) 40 [some (.int (iI (r : Int))), some (.int (iI (L : Int))), some (.ref qp), some (.ref qa), some (.ref qw), some (.ref qm), some (.ref qg), some (.int (iI (n0 : Int))), some (.int (iI y)), some (.ref q9), some (.int (iI x))] [] := by
          intro n_40
          induction n_40 with
          | zero => intro i x y hi hx hy hm_40; exact absurd hm_40 (Nat.not_lt_zero _)
          | succ n_40 ih_40 =>
            intro i x y hi hx hy hm_40
            refine jw_iload_10 (pc := 40) C dL_place_40 ?_
            refine jw_iload_1 (pc := 42) C dL_place_42 ?_
            refine jw_icmp_ge (pc := 43) (tgt := 111) C dL_place_43 (by decide) ⟨by omega, by omega⟩ ⟨by omega, by omega⟩ (fun c_43 => ?_) (fun c_43 => ?_)
            · have hiL : i = L - 1 := by omega
              refine jw_aload_3 (pc := 111) C dL_place_111 ?_
              refine jw_aload_2 (pc := 112) C dL_place_112 ?_
              refine jw_iconst (pc := 113) C dL_place_113 ?_
              refine jw_iald (pc := 114) C 3 rfl 0 rfl (by omega) (by decide) dL_place_114 ?_
              rw [hu 0 (by omega)]
              refine jw_iload_0 (pc := 115) C dL_place_115 ?_
              refine jw_iast (pc := 116) C 0 rfl (p 0) rfl (hp4 0 (by omega)) (by decide) dL_place_116 ?_
              refine jw_aload_4 (pc := 117) C dL_place_117 ?_
              refine jw_iload_0 (pc := 119) C dL_place_119 ?_
              refine jw_aload_2 (pc := 120) C dL_place_120 ?_
              refine jw_iconst (pc := 121) C dL_place_121 ?_
              refine jw_iald (pc := 122) C 3 rfl 0 rfl (by omega) (by decide) dL_place_122 ?_
              rw [hu 0 (by omega)]
              refine jw_iast (pc := 123) C 1 rfl r rfl (by omega) (by decide) dL_place_123 ?_
              refine jw_iload_8 (pc := 124) C dL_place_124 ?_
              subst hiL
              refine jw_widen (k2 := 1) (n2 := 4) (by omega) (by omega) (jw_sub (w2 := [jAI G qa 4 (jiI (updf (lpA f p (L - 1)) (p 0) (r : Int))), jAI G qw 16 (jiI (updf (lpW P.plc f p (L - 1)) r (p 0 : Int))), jAI G qm 16 (jiI (lpM P.mov f p (L - 1))), jAI G qp 4 (jiI u), jAI G qg 200 (jiI (lpG lg f p n0 (L - 1)))]) [0, 1, 2, 3, 4] rfl rfl ?_)
              exact hret _ _ _ () dL_place_126 (by rw [hy])
            · have ht1 := ht (i + 1) (by omega) (by omega)
              have hu1 := hu (i + 1) (by omega)
              have hp1 := hp4 (i + 1) (by omega)
              have hf1 := hft i (by omega)
              have hii : i + 1 - 1 = i := by omega
              rw [hii] at ht1
              refine jw_aload_3 (pc := 46) C dL_place_46 ?_
              refine jw_aload_2 (pc := 47) C dL_place_47 ?_
              refine jw_iload_10 (pc := 48) C dL_place_48 ?_
              refine jw_iald (pc := 50) C 3 rfl (i + 1) (by omega) (by omega) (by decide) dL_place_50 ?_
              refine jw_aload_9 (pc := 51) C dL_place_51 ?_
              refine jw_iload_10 (pc := 53) C dL_place_53 ?_
              refine jw_iald (pc := 55) C 5 rfl (i + 1) (by omega) (by omega) (by omega) dL_place_55 ?_
              rw [ht1]
              refine jw_iast (pc := 56) C 0 rfl (p (i + 1)) hu1 hp1 (by decide) dL_place_56 ?_
              refine jw_aload_4 (pc := 57) C dL_place_57 ?_
              refine jw_aload_9 (pc := 59) C dL_place_59 ?_
              refine jw_iload_10 (pc := 61) C dL_place_61 ?_
              refine jw_iald (pc := 63) C 5 rfl (i + 1) (by omega) (by omega) (by omega) dL_place_63 ?_
              rw [ht1]
              refine jw_aload_2 (pc := 64) C dL_place_64 ?_
              refine jw_iload_10 (pc := 65) C dL_place_65 ?_
              refine jw_iald (pc := 67) C 3 rfl (i + 1) (by omega) (by omega) (by decide) dL_place_67 ?_
              rw [hu1]
              refine jw_iast (pc := 68) C 1 rfl (f (p i)).toNat (by omega) (by omega) (by decide) dL_place_68 ?_
              refine jw_aload_5 (pc := 69) C dL_place_69 ?_
              refine jw_aload_9 (pc := 71) C dL_place_71 ?_
              refine jw_iload_10 (pc := 73) C dL_place_73 ?_
              refine jw_iald (pc := 75) C 5 rfl (i + 1) (by omega) (by omega) (by omega) dL_place_75 ?_
              rw [ht1]
              refine jw_dup2 (pc := 76) C dL_place_76 rfl rfl ?_
              refine jw_iald (pc := 77) C 2 rfl (f (p i)).toNat (by omega) (by omega) (by decide) dL_place_77 ?_
              refine jw_iconst (pc := 78) C dL_place_78 ?_
              refine jw_iadd (pc := 79) C dL_place_79 ?_
              refine jw_iast (pc := 80) C 2 rfl (f (p i)).toNat (by omega) (by omega) (by decide) dL_place_80 ?_
              refine jw_aload_6 (pc := 81) C dL_place_81 ?_
              refine jw_iload_8 (pc := 83) C dL_place_83 ?_
              refine jw_aload_9 (pc := 85) C dL_place_85 ?_
              refine jw_iload_10 (pc := 87) C dL_place_87 ?_
              refine jw_iald (pc := 89) C 5 rfl (i + 1) (by omega) (by omega) (by omega) dL_place_89 ?_
              rw [ht1]
              refine jw_iast (pc := 90) C 4 rfl (n0 + 2 * i) (by omega) (by omega) (by decide) dL_place_90 ?_
              refine jw_aload_6 (pc := 91) C dL_place_91 ?_
              refine jw_iload_8 (pc := 93) C dL_place_93 ?_
              refine jw_iconst (pc := 95) C dL_place_95 ?_
              refine jw_iadd (pc := 96) C dL_place_96 ?_
              refine jw_aload_2 (pc := 97) C dL_place_97 ?_
              refine jw_iload_10 (pc := 98) C dL_place_98 ?_
              refine jw_iald (pc := 100) C 3 rfl (i + 1) (by omega) (by omega) (by decide) dL_place_100 ?_
              rw [hu1]
              refine jw_iast (pc := 101) C 4 rfl (n0 + 2 * i + 1) (by omega) (by omega) (by decide) dL_place_101 ?_
              refine jw_iinc_8 (pc := 102) C dL_place_102 rfl ?_
              refine jw_iinc_10 (pc := 105) C dL_place_105 rfl ?_
              refine jw_goto (pc := 108) (tgt := 40) C dL_place_108 (by decide) ?_
              exact ih_40 (i + 1) _ _ (by omega) (by omega) (by omega) (by omega)
        exact K40 6 0 1 _ (by omega) (by omega) (by omega) (by omega)
      · have ht2 : ∀ i, 1 ≤ i → i < k + 1 → updf t k (f (p (k - 1))) i = f (p (i - 1)) := fun i i1 i2 => by
          by_cases e : i = k
          · rw [e, updf_same]
          · rw [updf_ne _ _ e]; exact ht i i1 (by omega)
        refine jw_aload_9 (pc := 18) C dL_place_18 ?_
        refine jw_iload_10 (pc := 20) C dL_place_20 ?_
        refine jw_aload_3 (pc := 22) C dL_place_22 ?_
        refine jw_aload_2 (pc := 23) C dL_place_23 ?_
        refine jw_iload_10 (pc := 24) C dL_place_24 ?_
        refine jw_iconst (pc := 26) C dL_place_26 ?_
        refine jw_isub (pc := 27) C dL_place_27 ?_
        refine jw_iald (pc := 28) C 3 rfl (k - 1) (by omega) (by omega) (by decide) dL_place_28 ?_
        refine jw_iald (pc := 29) C 0 rfl (p (k - 1)) (hu (k - 1) (by omega)) (hp4 (k - 1) (by omega)) (by decide) dL_place_29 ?_
        refine jw_iast (pc := 30) C 5 rfl k rfl (by omega) (by omega) dL_place_30 ?_
        refine jw_iinc_10 (pc := 31) C dL_place_31 rfl ?_
        refine jw_goto (pc := 34) (tgt := 12) C dL_place_34 (by decide) ?_
        exact ih_12 (k + 1) _ (by omega) ht2 (by omega)
  exact K12 6 1 _ (by omega) (fun i h1 h2 => absurd h1 (by omega)) (by omega)
set_option maxRecDepth 100000 in
set_option maxHeartbeats 4000000 in
theorem c_L_isSame (G : jG) (ad : Nat → Nat) (P : QP) (l : QL) (A : QA) (T : Nat → Bool) (F : QF) (qw qm qg : Nat) (lg : Nat → Int) (n0 : Nat) (hI : PI P) (hl : 0 ≤ l.sz ∧ l.sz ≤ 200) (hq : P.req ≤ 14) (hG : LG l lg n0) (hn : n0 ≤ 190) : CZ G yL_isSame cL_isSame 7 (jrm 3 64 0 0) [.ref (ad 0), .int (iI P.req), .ref qw, .ref qm, .ref qg, .int (iI (n0 : Int))] ([jAI G qw 16 (jiI P.plc), jAI G qm 16 (jiI P.mov), jAI G qg 200 (jiI lg)] ++ wC G ad P l A T F) (fun (z : Bool) (_ : Unit) => z = true) (fun _ : Unit => ([jAI G qw 16 (jiI P.plc), jAI G qm 16 (jiI P.mov), jAI G qg 200 (jiI lg)] ++ wC G ad P l A T F)) 0 0 := by
  refine cz_intro (own := RL) [some (.ref (ad 0)), some (.int (iI P.req)), some (.ref qw), some (.ref qm), some (.ref qg), some (.int (iI (n0 : Int))), none] (by decide) rfl rfl rfl (Nat.le_of_ble_eq_true rfl) (fun X C hret => ?_)
  have h1 := hI.req
  have hG1 := hG.1
  have hG2 := hG.2.1
  refine jw_aload_0 (pc := 0) C dL_isSame_0 ?_
  refine jw_sV_I (pc := 1) (wr := [jAI G qw 16 (jiI P.plc), jAI G qm 16 (jiI P.mov), jAI G qg 200 (jiI lg)]) C (c_X5_arrivedCount G ad P l A T F) wd_X5_arrivedCount kml_L_15 3 rfl rfl ((List.range 30).map (· + 3)) [0, 1, 2] rfl rfl rfl rfl (by decide) rfl rfl (Nat.le_of_ble_eq_true rfl) ⟨by decide, by decide⟩ ⟨Nat.zero_le _, Nat.zero_le _⟩ dL_isSame_1 rfl (fun z u h => ?_)
  subst h
  refine jw_iload_1 (pc := 4) C dL_isSame_4 ?_
  refine jw_icmp_ne (pc := 5) (tgt := 19) C dL_isSame_5 (by decide) ⟨by omega, by omega⟩ ⟨by omega, by omega⟩ (fun c_5 => ?_) (fun c_5 => ?_)
  · exact absurd rfl c_5
  · refine jw_aload_0 (pc := 8) C dL_isSame_8 ?_
    refine jw_sV_I (pc := 9) (wr := [jAI G qw 16 (jiI P.plc), jAI G qm 16 (jiI P.mov), jAI G qg 200 (jiI lg)]) C (c_X5_moveCount G ad P l A T F) wd_X5_moveCount kml_L_21 3 rfl rfl ((List.range 30).map (· + 3)) [0, 1, 2] rfl rfl rfl rfl (by decide) rfl rfl (Nat.le_of_ble_eq_true rfl) ⟨by decide, by decide⟩ ⟨Nat.zero_le _, Nat.zero_le _⟩ dL_isSame_9 rfl (fun z u h => ?_)
    subst h
    refine jw_iload_5 (pc := 12) C dL_isSame_12 ?_
    refine jw_iconst (pc := 14) C dL_isSame_14 ?_
    refine jw_idiv_n (b := 2) (pc := 15) C (by decide) (by omega) (by decide) dL_isSame_15 ?_
    refine jw_icmp_eq (pc := 16) (tgt := 21) C dL_isSame_16 (by decide) ⟨by omega, by omega⟩ ⟨by omega, by omega⟩ (fun c_16 => ?_) (fun c_16 => ?_)
    · refine jw_iconst (pc := 21) C dL_isSame_21 ?_
      refine jw_istore_6 (pc := 22) C dL_isSame_22 rfl ?_
      have K24 : ∀ (n_24 : Nat) (i : Nat), ((i : Int) ≤ P.req) → 15 - i < n_24 → JW G X 0 0 ([jAI G qw 16 (jiI P.plc), jAI G qm 16 (jiI P.mov), jAI G qg 200 (jiI lg)] ++ wC G ad P l A T F) 24 [some (.ref (ad 0)), some (.int (iI P.req)), some (.ref qw), some (.ref qm), some (.ref qg), some (.int (iI (n0 : Int))), some (.int (iI (i : Int)))] [] := by
        intro n_24
        induction n_24 with
        | zero => intro i hi hm_24; exact absurd hm_24 (Nat.not_lt_zero _)
        | succ n_24 ih_24 =>
          intro i hi hm_24
          refine jw_iload_6 (pc := 24) C dL_isSame_24 ?_
          refine jw_iload_1 (pc := 26) C dL_isSame_26 ?_
          refine jw_icmp_ge (pc := 27) (tgt := 104) C dL_isSame_27 (by decide) ⟨by omega, by omega⟩ ⟨by omega, by omega⟩ (fun c_27 => ?_) (fun c_27 => ?_)
          · refine jw_iconst (pc := 104) C dL_isSame_104 ?_
            refine jw_istore_6 (pc := 105) C dL_isSame_105 rfl ?_
            have K107 : ∀ (n_107 : Nat) (i2 : Nat), ((i2 : Int) ≤ l.sz) → 201 - i2 < n_107 → JW G X 0 0 ([jAI G qw 16 (jiI P.plc), jAI G qm 16 (jiI P.mov), jAI G qg 200 (jiI lg)] ++ wC G ad P l A T F) 107 [some (.ref (ad 0)), some (.int (iI P.req)), some (.ref qw), some (.ref qm), some (.ref qg), some (.int (iI (n0 : Int))), some (.int (iI (i2 : Int)))] [] := by
              intro n_107
              induction n_107 with
              | zero => intro i2 hi2 hm_107; exact absurd hm_107 (Nat.not_lt_zero _)
              | succ n_107 ih_107 =>
                intro i2 hi2 hm_107
                refine jw_iload_6 (pc := 107) C dL_isSame_107 ?_
                refine jw_iload_5 (pc := 109) C dL_isSame_109 ?_
                refine jw_iconst (pc := 111) C dL_isSame_111 ?_
                refine jw_idiv_n (b := 2) (pc := 112) C (by decide) (by omega) (by decide) dL_isSame_112 ?_
                refine jw_icmp_ge (pc := 113) (tgt := 158) C dL_isSame_113 (by decide) ⟨by omega, by omega⟩ ⟨by omega, by omega⟩ (fun c_113 => ?_) (fun c_113 => ?_)
                · refine jw_iconst (pc := 158) C dL_isSame_158 ?_
                  exact hret _ _ true () dL_isSame_159 rfl
                · refine jw_aload_0 (pc := 116) C dL_isSame_116 ?_
                  refine jw_iload_6 (pc := 117) C dL_isSame_117 ?_
                  refine jw_sV_I (pc := 119) (wr := [jAI G qw 16 (jiI P.plc), jAI G qm 16 (jiI P.mov), jAI G qg 200 (jiI lg)]) C (c_X5_movedRequest G ad P l A T F hl i2 (by omega)) wd_X5_movedRequest kml_L_34 3 rfl rfl ((List.range 30).map (· + 3)) [0, 1, 2] rfl rfl rfl rfl (by decide) rfl rfl (Nat.le_of_ble_eq_true rfl) ⟨by decide, by decide⟩ ⟨Nat.zero_le _, Nat.zero_le _⟩ dL_isSame_119 rfl (fun z u h => ?_)
                  subst h
                  refine jw_aload_4 (pc := 122) C dL_isSame_122 ?_
                  refine jw_iconst (pc := 124) C dL_isSame_124 ?_
                  refine jw_iload_6 (pc := 125) C dL_isSame_125 ?_
                  refine jw_imul (pc := 127) C dL_isSame_127 ?_
                  refine jw_iald (pc := 128) C 2 rfl (2 * i2) (by omega) (by omega) (by decide) dL_isSame_128 ?_
                  refine jw_icmp_ne_r (pc := 129) (tgt := 150) C dL_isSame_129 (by decide) (fun c_129 => ?_) (fun c_129 => ?_)
                  · exact absurd (by rw [(hG.2.2 i2 (by omega)).1]) c_129
                  · refine jw_aload_0 (pc := 132) C dL_isSame_132 ?_
                    refine jw_iload_6 (pc := 133) C dL_isSame_133 ?_
                    refine jw_sV_I (pc := 135) (wr := [jAI G qw 16 (jiI P.plc), jAI G qm 16 (jiI P.mov), jAI G qg 200 (jiI lg)]) C (c_X5_movedTo G ad P l A T F hl i2 (by omega)) wd_X5_movedTo kml_L_37 3 rfl rfl ((List.range 30).map (· + 3)) [0, 1, 2] rfl rfl rfl rfl (by decide) rfl rfl (Nat.le_of_ble_eq_true rfl) ⟨by decide, by decide⟩ ⟨Nat.zero_le _, Nat.zero_le _⟩ dL_isSame_135 rfl (fun z u h => ?_)
                    subst h
                    refine jw_aload_4 (pc := 138) C dL_isSame_138 ?_
                    refine jw_iconst (pc := 140) C dL_isSame_140 ?_
                    refine jw_iload_6 (pc := 141) C dL_isSame_141 ?_
                    refine jw_imul (pc := 143) C dL_isSame_143 ?_
                    refine jw_iconst (pc := 144) C dL_isSame_144 ?_
                    refine jw_iadd (pc := 145) C dL_isSame_145 ?_
                    refine jw_iald (pc := 146) C 2 rfl (2 * i2 + 1) (by omega) (by omega) (by decide) dL_isSame_146 ?_
                    refine jw_icmp_eq_r (pc := 147) (tgt := 152) C dL_isSame_147 (by decide) (fun c_147 => ?_) (fun c_147 => ?_)
                    · refine jw_iinc_6 (pc := 152) C dL_isSame_152 rfl ?_
                      refine jw_goto (pc := 155) (tgt := 107) C dL_isSame_155 (by decide) ?_
                      exact ih_107 (i2 + 1) (by omega) (by omega)
                    · exact absurd (by rw [(hG.2.2 i2 (by omega)).2]) c_147
            exact K107 202 0 (by omega) (by omega)
          · refine jw_aload_0 (pc := 30) C dL_isSame_30 ?_
            refine jw_iload_6 (pc := 31) C dL_isSame_31 ?_
            refine jw_sV_I (pc := 33) (wr := [jAI G qw 16 (jiI P.plc), jAI G qm 16 (jiI P.mov), jAI G qg 200 (jiI lg)]) C (c_X5_state G ad P l A T F hI i (by omega)) wd_X5_state kml_L_24 3 rfl rfl ((List.range 30).map (· + 3)) [0, 1, 2] rfl rfl rfl rfl (by decide) rfl rfl (Nat.le_of_ble_eq_true rfl) ⟨by decide, by decide⟩ ⟨Nat.zero_le _, Nat.zero_le _⟩ dL_isSame_33 rfl (fun z u h => ?_)
            subst h
            have h2 := hI.plc i
            have h3 := hI.mov i
            refine jw_aload_2 (pc := 36) C dL_isSame_36 ?_
            refine jw_iload_6 (pc := 37) C dL_isSame_37 ?_
            refine jw_iald (pc := 39) C 0 rfl i rfl (by omega) (by decide) dL_isSame_39 ?_
            refine jw_if_lt (pc := 40) (tgt := 47) C dL_isSame_40 (by decide) ⟨by omega, by omega⟩ (fun c_40 => ?_) (fun c_40 => ?_)
            · refine jw_aload_2 (pc := 47) C dL_isSame_47 ?_
              refine jw_iload_6 (pc := 48) C dL_isSame_48 ?_
              refine jw_iald (pc := 50) C 0 rfl _ rfl (by omega) (by decide) dL_isSame_50 ?_
              refine jw_iconst (pc := 51) C dL_isSame_51 ?_
              refine jw_icmp_ne (pc := 52) (tgt := 59) C dL_isSame_52 (by decide) ⟨by omega, by omega⟩ ⟨by omega, by omega⟩ (fun c_52 => ?_) (fun c_52 => ?_)
              · have hst : stN (P.plc i) = 2 := by rw [stN_b, if_neg (by omega), if_neg (by omega)]
                refine jw_iconst (pc := 59) C dL_isSame_59 ?_
                refine jw_icmp_ne (pc := 60) (tgt := 96) C dL_isSame_60 (by decide) ⟨by omega, by omega⟩ ⟨by omega, by omega⟩ (fun c_60 => ?_) (fun c_60 => ?_)
                · exact absurd hst c_60
                · refine jw_aload_2 (pc := 63) C dL_isSame_63 ?_
                  refine jw_iload_6 (pc := 64) C dL_isSame_64 ?_
                  refine jw_iald (pc := 66) C 0 rfl i rfl (by omega) (by decide) dL_isSame_66 ?_
                  refine jw_if_lt (pc := 67) (tgt := 83) C dL_isSame_67 (by decide) ⟨by omega, by omega⟩ (fun c_67 => ?_) (fun c_67 => ?_)
                  · refine jw_aload_0 (pc := 83) C dL_isSame_83 ?_
                    refine jw_iload_6 (pc := 84) C dL_isSame_84 ?_
                    refine jw_sV_I (pc := 86) (wr := [jAI G qw 16 (jiI P.plc), jAI G qm 16 (jiI P.mov), jAI G qg 200 (jiI lg)]) C (c_X5_movesOf G ad P l A T F hI i (by omega)) wd_X5_movesOf kml_L_31 3 rfl rfl ((List.range 30).map (· + 3)) [0, 1, 2] rfl rfl rfl rfl (by decide) rfl rfl (Nat.le_of_ble_eq_true rfl) ⟨by decide, by decide⟩ ⟨Nat.zero_le _, Nat.zero_le _⟩ dL_isSame_86 rfl (fun z u h => ?_)
                    subst h
                    refine jw_aload_3 (pc := 89) C dL_isSame_89 ?_
                    refine jw_iload_6 (pc := 90) C dL_isSame_90 ?_
                    refine jw_iald (pc := 92) C 1 rfl i rfl (by omega) (by decide) dL_isSame_92 ?_
                    refine jw_icmp_eq (pc := 93) (tgt := 98) C dL_isSame_93 (by decide) ⟨by omega, by omega⟩ ⟨by omega, by omega⟩ (fun c_93 => ?_) (fun c_93 => ?_)
                    · refine jw_iinc_6 (pc := 98) C dL_isSame_98 rfl ?_
                      refine jw_goto (pc := 101) (tgt := 24) C dL_isSame_101 (by decide) ?_
                      exact ih_24 (i + 1) (by omega) (by omega)
                    · exact absurd rfl c_93
                  · refine jw_aload_0 (pc := 70) C dL_isSame_70 ?_
                    refine jw_iload_6 (pc := 71) C dL_isSame_71 ?_
                    refine jw_sV_I (pc := 73) (wr := [jAI G qw 16 (jiI P.plc), jAI G qm 16 (jiI P.mov), jAI G qg 200 (jiI lg)]) C (c_X5_resourceOf G ad P l A T F hI i (by omega) (by omega)) wd_X5_resourceOf kml_L_28 3 rfl rfl ((List.range 30).map (· + 3)) [0, 1, 2] rfl rfl rfl rfl (by decide) rfl rfl (Nat.le_of_ble_eq_true rfl) ⟨by decide, by decide⟩ ⟨Nat.zero_le _, Nat.zero_le _⟩ dL_isSame_73 rfl (fun z u h => ?_)
                    subst h
                    refine jw_aload_2 (pc := 76) C dL_isSame_76 ?_
                    refine jw_iload_6 (pc := 77) C dL_isSame_77 ?_
                    refine jw_iald (pc := 79) C 0 rfl i rfl (by omega) (by decide) dL_isSame_79 ?_
                    refine jw_icmp_ne (pc := 80) (tgt := 96) C dL_isSame_80 (by decide) ⟨by omega, by omega⟩ ⟨by omega, by omega⟩ (fun c_80 => ?_) (fun c_80 => ?_)
                    · exact absurd rfl c_80
                    · refine jw_aload_0 (pc := 83) C dL_isSame_83 ?_
                      refine jw_iload_6 (pc := 84) C dL_isSame_84 ?_
                      refine jw_sV_I (pc := 86) (wr := [jAI G qw 16 (jiI P.plc), jAI G qm 16 (jiI P.mov), jAI G qg 200 (jiI lg)]) C (c_X5_movesOf G ad P l A T F hI i (by omega)) wd_X5_movesOf kml_L_31 3 rfl rfl ((List.range 30).map (· + 3)) [0, 1, 2] rfl rfl rfl rfl (by decide) rfl rfl (Nat.le_of_ble_eq_true rfl) ⟨by decide, by decide⟩ ⟨Nat.zero_le _, Nat.zero_le _⟩ dL_isSame_86 rfl (fun z u h => ?_)
                      subst h
                      refine jw_aload_3 (pc := 89) C dL_isSame_89 ?_
                      refine jw_iload_6 (pc := 90) C dL_isSame_90 ?_
                      refine jw_iald (pc := 92) C 1 rfl i rfl (by omega) (by decide) dL_isSame_92 ?_
                      refine jw_icmp_eq (pc := 93) (tgt := 98) C dL_isSame_93 (by decide) ⟨by omega, by omega⟩ ⟨by omega, by omega⟩ (fun c_93 => ?_) (fun c_93 => ?_)
                      · refine jw_iinc_6 (pc := 98) C dL_isSame_98 rfl ?_
                        refine jw_goto (pc := 101) (tgt := 24) C dL_isSame_101 (by decide) ?_
                        exact ih_24 (i + 1) (by omega) (by omega)
                      · exact absurd rfl c_93
              · have hst : stN (P.plc i) = 0 := by rw [stN_b, if_neg (by omega), if_pos (by omega)]
                refine jw_iconst (pc := 55) C dL_isSame_55 ?_
                refine jw_goto (pc := 56) (tgt := 60) C dL_isSame_56 (by decide) ?_
                refine jw_icmp_ne (pc := 60) (tgt := 96) C dL_isSame_60 (by decide) ⟨by omega, by omega⟩ ⟨by omega, by omega⟩ (fun c_60 => ?_) (fun c_60 => ?_)
                · exact absurd hst c_60
                · refine jw_aload_2 (pc := 63) C dL_isSame_63 ?_
                  refine jw_iload_6 (pc := 64) C dL_isSame_64 ?_
                  refine jw_iald (pc := 66) C 0 rfl i rfl (by omega) (by decide) dL_isSame_66 ?_
                  refine jw_if_lt (pc := 67) (tgt := 83) C dL_isSame_67 (by decide) ⟨by omega, by omega⟩ (fun c_67 => ?_) (fun c_67 => ?_)
                  · refine jw_aload_0 (pc := 83) C dL_isSame_83 ?_
                    refine jw_iload_6 (pc := 84) C dL_isSame_84 ?_
                    refine jw_sV_I (pc := 86) (wr := [jAI G qw 16 (jiI P.plc), jAI G qm 16 (jiI P.mov), jAI G qg 200 (jiI lg)]) C (c_X5_movesOf G ad P l A T F hI i (by omega)) wd_X5_movesOf kml_L_31 3 rfl rfl ((List.range 30).map (· + 3)) [0, 1, 2] rfl rfl rfl rfl (by decide) rfl rfl (Nat.le_of_ble_eq_true rfl) ⟨by decide, by decide⟩ ⟨Nat.zero_le _, Nat.zero_le _⟩ dL_isSame_86 rfl (fun z u h => ?_)
                    subst h
                    refine jw_aload_3 (pc := 89) C dL_isSame_89 ?_
                    refine jw_iload_6 (pc := 90) C dL_isSame_90 ?_
                    refine jw_iald (pc := 92) C 1 rfl i rfl (by omega) (by decide) dL_isSame_92 ?_
                    refine jw_icmp_eq (pc := 93) (tgt := 98) C dL_isSame_93 (by decide) ⟨by omega, by omega⟩ ⟨by omega, by omega⟩ (fun c_93 => ?_) (fun c_93 => ?_)
                    · refine jw_iinc_6 (pc := 98) C dL_isSame_98 rfl ?_
                      refine jw_goto (pc := 101) (tgt := 24) C dL_isSame_101 (by decide) ?_
                      exact ih_24 (i + 1) (by omega) (by omega)
                    · exact absurd rfl c_93
                  · refine jw_aload_0 (pc := 70) C dL_isSame_70 ?_
                    refine jw_iload_6 (pc := 71) C dL_isSame_71 ?_
                    refine jw_sV_I (pc := 73) (wr := [jAI G qw 16 (jiI P.plc), jAI G qm 16 (jiI P.mov), jAI G qg 200 (jiI lg)]) C (c_X5_resourceOf G ad P l A T F hI i (by omega) (by omega)) wd_X5_resourceOf kml_L_28 3 rfl rfl ((List.range 30).map (· + 3)) [0, 1, 2] rfl rfl rfl rfl (by decide) rfl rfl (Nat.le_of_ble_eq_true rfl) ⟨by decide, by decide⟩ ⟨Nat.zero_le _, Nat.zero_le _⟩ dL_isSame_73 rfl (fun z u h => ?_)
                    subst h
                    refine jw_aload_2 (pc := 76) C dL_isSame_76 ?_
                    refine jw_iload_6 (pc := 77) C dL_isSame_77 ?_
                    refine jw_iald (pc := 79) C 0 rfl i rfl (by omega) (by decide) dL_isSame_79 ?_
                    refine jw_icmp_ne (pc := 80) (tgt := 96) C dL_isSame_80 (by decide) ⟨by omega, by omega⟩ ⟨by omega, by omega⟩ (fun c_80 => ?_) (fun c_80 => ?_)
                    · exact absurd rfl c_80
                    · refine jw_aload_0 (pc := 83) C dL_isSame_83 ?_
                      refine jw_iload_6 (pc := 84) C dL_isSame_84 ?_
                      refine jw_sV_I (pc := 86) (wr := [jAI G qw 16 (jiI P.plc), jAI G qm 16 (jiI P.mov), jAI G qg 200 (jiI lg)]) C (c_X5_movesOf G ad P l A T F hI i (by omega)) wd_X5_movesOf kml_L_31 3 rfl rfl ((List.range 30).map (· + 3)) [0, 1, 2] rfl rfl rfl rfl (by decide) rfl rfl (Nat.le_of_ble_eq_true rfl) ⟨by decide, by decide⟩ ⟨Nat.zero_le _, Nat.zero_le _⟩ dL_isSame_86 rfl (fun z u h => ?_)
                      subst h
                      refine jw_aload_3 (pc := 89) C dL_isSame_89 ?_
                      refine jw_iload_6 (pc := 90) C dL_isSame_90 ?_
                      refine jw_iald (pc := 92) C 1 rfl i rfl (by omega) (by decide) dL_isSame_92 ?_
                      refine jw_icmp_eq (pc := 93) (tgt := 98) C dL_isSame_93 (by decide) ⟨by omega, by omega⟩ ⟨by omega, by omega⟩ (fun c_93 => ?_) (fun c_93 => ?_)
                      · refine jw_iinc_6 (pc := 98) C dL_isSame_98 rfl ?_
                        refine jw_goto (pc := 101) (tgt := 24) C dL_isSame_101 (by decide) ?_
                        exact ih_24 (i + 1) (by omega) (by omega)
                      · exact absurd rfl c_93
            · have hst : stN (P.plc i) = 1 := by rw [stN_b, if_pos (by omega)]
              refine jw_iconst (pc := 43) C dL_isSame_43 ?_
              refine jw_goto (pc := 44) (tgt := 60) C dL_isSame_44 (by decide) ?_
              refine jw_icmp_ne (pc := 60) (tgt := 96) C dL_isSame_60 (by decide) ⟨by omega, by omega⟩ ⟨by omega, by omega⟩ (fun c_60 => ?_) (fun c_60 => ?_)
              · exact absurd hst c_60
              · refine jw_aload_2 (pc := 63) C dL_isSame_63 ?_
                refine jw_iload_6 (pc := 64) C dL_isSame_64 ?_
                refine jw_iald (pc := 66) C 0 rfl i rfl (by omega) (by decide) dL_isSame_66 ?_
                refine jw_if_lt (pc := 67) (tgt := 83) C dL_isSame_67 (by decide) ⟨by omega, by omega⟩ (fun c_67 => ?_) (fun c_67 => ?_)
                · refine jw_aload_0 (pc := 83) C dL_isSame_83 ?_
                  refine jw_iload_6 (pc := 84) C dL_isSame_84 ?_
                  refine jw_sV_I (pc := 86) (wr := [jAI G qw 16 (jiI P.plc), jAI G qm 16 (jiI P.mov), jAI G qg 200 (jiI lg)]) C (c_X5_movesOf G ad P l A T F hI i (by omega)) wd_X5_movesOf kml_L_31 3 rfl rfl ((List.range 30).map (· + 3)) [0, 1, 2] rfl rfl rfl rfl (by decide) rfl rfl (Nat.le_of_ble_eq_true rfl) ⟨by decide, by decide⟩ ⟨Nat.zero_le _, Nat.zero_le _⟩ dL_isSame_86 rfl (fun z u h => ?_)
                  subst h
                  refine jw_aload_3 (pc := 89) C dL_isSame_89 ?_
                  refine jw_iload_6 (pc := 90) C dL_isSame_90 ?_
                  refine jw_iald (pc := 92) C 1 rfl i rfl (by omega) (by decide) dL_isSame_92 ?_
                  refine jw_icmp_eq (pc := 93) (tgt := 98) C dL_isSame_93 (by decide) ⟨by omega, by omega⟩ ⟨by omega, by omega⟩ (fun c_93 => ?_) (fun c_93 => ?_)
                  · refine jw_iinc_6 (pc := 98) C dL_isSame_98 rfl ?_
                    refine jw_goto (pc := 101) (tgt := 24) C dL_isSame_101 (by decide) ?_
                    exact ih_24 (i + 1) (by omega) (by omega)
                  · exact absurd rfl c_93
                · refine jw_aload_0 (pc := 70) C dL_isSame_70 ?_
                  refine jw_iload_6 (pc := 71) C dL_isSame_71 ?_
                  refine jw_sV_I (pc := 73) (wr := [jAI G qw 16 (jiI P.plc), jAI G qm 16 (jiI P.mov), jAI G qg 200 (jiI lg)]) C (c_X5_resourceOf G ad P l A T F hI i (by omega) (by omega)) wd_X5_resourceOf kml_L_28 3 rfl rfl ((List.range 30).map (· + 3)) [0, 1, 2] rfl rfl rfl rfl (by decide) rfl rfl (Nat.le_of_ble_eq_true rfl) ⟨by decide, by decide⟩ ⟨Nat.zero_le _, Nat.zero_le _⟩ dL_isSame_73 rfl (fun z u h => ?_)
                  subst h
                  refine jw_aload_2 (pc := 76) C dL_isSame_76 ?_
                  refine jw_iload_6 (pc := 77) C dL_isSame_77 ?_
                  refine jw_iald (pc := 79) C 0 rfl i rfl (by omega) (by decide) dL_isSame_79 ?_
                  refine jw_icmp_ne (pc := 80) (tgt := 96) C dL_isSame_80 (by decide) ⟨by omega, by omega⟩ ⟨by omega, by omega⟩ (fun c_80 => ?_) (fun c_80 => ?_)
                  · exact absurd rfl c_80
                  · refine jw_aload_0 (pc := 83) C dL_isSame_83 ?_
                    refine jw_iload_6 (pc := 84) C dL_isSame_84 ?_
                    refine jw_sV_I (pc := 86) (wr := [jAI G qw 16 (jiI P.plc), jAI G qm 16 (jiI P.mov), jAI G qg 200 (jiI lg)]) C (c_X5_movesOf G ad P l A T F hI i (by omega)) wd_X5_movesOf kml_L_31 3 rfl rfl ((List.range 30).map (· + 3)) [0, 1, 2] rfl rfl rfl rfl (by decide) rfl rfl (Nat.le_of_ble_eq_true rfl) ⟨by decide, by decide⟩ ⟨Nat.zero_le _, Nat.zero_le _⟩ dL_isSame_86 rfl (fun z u h => ?_)
                    subst h
                    refine jw_aload_3 (pc := 89) C dL_isSame_89 ?_
                    refine jw_iload_6 (pc := 90) C dL_isSame_90 ?_
                    refine jw_iald (pc := 92) C 1 rfl i rfl (by omega) (by decide) dL_isSame_92 ?_
                    refine jw_icmp_eq (pc := 93) (tgt := 98) C dL_isSame_93 (by decide) ⟨by omega, by omega⟩ ⟨by omega, by omega⟩ (fun c_93 => ?_) (fun c_93 => ?_)
                    · refine jw_iinc_6 (pc := 98) C dL_isSame_98 rfl ?_
                      refine jw_goto (pc := 101) (tgt := 24) C dL_isSame_101 (by decide) ?_
                      exact ih_24 (i + 1) (by omega) (by omega)
                    · exact absurd rfl c_93
      exact K24 16 0 (by omega) (by omega)
    · exact absurd (by omega) c_16
