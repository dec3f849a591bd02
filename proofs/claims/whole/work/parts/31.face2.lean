def mixJ (d : Int64) (n : Int) : Int64 := d * 31 + (iI n).toInt64
def digA (P : QP) (d : Int64) : Nat → Int64
  | 0 => d
  | a + 1 => mixJ (mixJ (digA P d a) (P.cap a)) (P.load a)
def digR (P : QP) (d : Int64) : Nat → Int64
  | 0 => d
  | r + 1 => if 0 ≤ P.plc r then mixJ (mixJ (mixJ (digR P d r) (stN (P.plc r))) (P.mov r)) (P.plc r) else mixJ (mixJ (digR P d r) (stN (P.plc r))) (P.mov r)
def dig0 (P : QP) : Int64 := mixJ (mixJ 43 P.res) P.req
def digF (P : QP) (l : QL) : Int64 := mixJ (digR P (digA P (dig0 P) P.res.toNat) P.req.toNat) l.sz
set_option maxRecDepth 100000 in
set_option maxHeartbeats 4000000 in
theorem c_X5_mix (G : jG) (d : Int64) (n : Int) : CL G yX5_mix cX5_mix 3 (jrm 0 0 0 0) [.long d, .int (iI n)] [] (fun (z : Int64) (_ : Unit) => z = mixJ d n) (fun _ : Unit => []) 0 0 := by
  refine cl_intro (own := RX5) [some (.long d), none, some (.int (iI n))] (by decide) rfl rfl rfl (Nat.le_of_ble_eq_true rfl) (fun X C hret => ?_)
  refine jw_lload_0 (pc := 0) C dX5_mix_0 ?_
  refine jw_ldc2l (pc := 1) C kcn_X5_230 dX5_mix_1 ?_
  refine jw_lmul (pc := 4) C dX5_mix_4 ?_
  refine jw_iload_2 (pc := 5) C dX5_mix_5 ?_
  refine jw_i2l (pc := 6) C dX5_mix_6 ?_
  refine jw_ladd (pc := 7) C dX5_mix_7 ?_
  exact hret _ _ _ () dX5_mix_8 rfl
set_option maxRecDepth 100000 in
set_option maxHeartbeats 4000000 in
theorem c_X5_digest (G : jG) (ad : Nat → Nat) (P : QP) (l : QL) (A : QA) (T : Nat → Bool) (F : QF) (hI : PI P) : CL G yX5_digest cX5_digest 4 (jrm 2 42 0 0) [.ref (ad 0)] (wC G ad P l A T F) (fun (z : Int64) (_ : Unit) => z = digF P l) (fun _ : Unit => wC G ad P l A T F) 0 0 := by
  refine cl_intro (own := RX5) [some (.ref (ad 0)), none, none, none] (by decide) rfl rfl rfl (Nat.le_of_ble_eq_true rfl) (fun X C hret => ?_)
  have h1 := hI.res
  have h2 := hI.req
  refine jw_ldc2l (pc := 0) C kcn_X5_202 dX5_digest_0 ?_
  refine jw_aload_0 (pc := 3) C dX5_digest_3 ?_
  refine fg_X5_10 (pc := 4) C 0 rfl rfl dX5_digest_4 ?_
  refine fg_X5_59 (pc := 7) C 1 rfl rfl dX5_digest_7 ?_
  refine jw_S0_L (pc := 10) C (c_X5_mix G (43) (P.res)) ws_X5_mix kml_X5_204 rfl rfl (Nat.le_of_ble_eq_true rfl) ⟨by decide, by decide⟩ ⟨Nat.zero_le _, Nat.zero_le _⟩ dX5_digest_10 rfl (fun z u h => ?_)
  subst h
  refine jw_lstore_1 (pc := 13) C dX5_digest_13 rfl ?_
  refine jw_lload_1 (pc := 14) C dX5_digest_14 ?_
  refine jw_aload_0 (pc := 15) C dX5_digest_15 ?_
  refine fg_X5_10 (pc := 16) C 0 rfl rfl dX5_digest_16 ?_
  refine fg_X5_119 (pc := 19) C 1 rfl rfl dX5_digest_19 ?_
  refine jw_S0_L (pc := 22) C (c_X5_mix G (mixJ 43 P.res) (P.req)) ws_X5_mix kml_X5_204 rfl rfl (Nat.le_of_ble_eq_true rfl) ⟨by decide, by decide⟩ ⟨Nat.zero_le _, Nat.zero_le _⟩ dX5_digest_22 rfl (fun z u h => ?_)
  subst h
  refine jw_lstore_1 (pc := 25) C dX5_digest_25 rfl ?_
  refine jw_iconst (pc := 26) C dX5_digest_26 ?_
  refine jw_istore_3 (pc := 27) C dX5_digest_27 rfl ?_
  have K28 : ∀ (n_28 : Nat) (a : Nat), ((a : Int) ≤ P.res) → 12 - a < n_28 → JW G X 0 0 (wC G ad P l A T F) 28 [some (.ref (ad 0)), some (.long (digA P (dig0 P) a)), none, some (.int (iI (a : Int)))] [] := by
    intro n_28
    induction n_28 with
    | zero => intro a ha hm_28; exact absurd hm_28 (Nat.not_lt_zero _)
    | succ n_28 ih_28 =>
      intro a ha hm_28
      refine jw_iload_3 (pc := 28) C dX5_digest_28 ?_
      refine jw_aload_0 (pc := 29) C dX5_digest_29 ?_
      refine fg_X5_10 (pc := 30) C 0 rfl rfl dX5_digest_30 ?_
      refine fg_X5_59 (pc := 33) C 1 rfl rfl dX5_digest_33 ?_
      refine jw_icmp_ge (pc := 36) (tgt := 73) C dX5_digest_36 (by decide) ⟨by omega, by omega⟩ ⟨by omega, by omega⟩ (fun c_36 => ?_) (fun c_36 => ?_)
      · obtain rfl : a = P.res.toNat := by omega
        refine jw_iconst (pc := 73) C dX5_digest_73 ?_
        refine jw_istore_3 (pc := 74) C dX5_digest_74 rfl ?_
        have K75 : ∀ (n_75 : Nat) (r : Nat), ((r : Int) ≤ P.req) → 40 - r < n_75 → JW G X 0 0 (wC G ad P l A T F) 75 [some (.ref (ad 0)), some (.long (digR P (digA P (dig0 P) P.res.toNat) r)), none, some (.int (iI (r : Int)))] [] := by
          intro n_75
          induction n_75 with
          | zero => intro r hr hm_75; exact absurd hm_75 (Nat.not_lt_zero _)
          | succ n_75 ih_75 =>
            intro r hr hm_75
            refine jw_iload_3 (pc := 75) C dX5_digest_75 ?_
            refine jw_aload_0 (pc := 76) C dX5_digest_76 ?_
            refine fg_X5_10 (pc := 77) C 0 rfl rfl dX5_digest_77 ?_
            refine fg_X5_119 (pc := 80) C 1 rfl rfl dX5_digest_80 ?_
            refine jw_icmp_ge (pc := 83) (tgt := 144) C dX5_digest_83 (by decide) ⟨by omega, by omega⟩ ⟨by omega, by omega⟩ (fun c_83 => ?_) (fun c_83 => ?_)
            · obtain rfl : r = P.req.toNat := by omega
              refine jw_lload_1 (pc := 144) C dX5_digest_144 ?_
              refine jw_aload_0 (pc := 145) C dX5_digest_145 ?_
              refine fg_X5_19 (pc := 146) C 0 rfl rfl dX5_digest_146 ?_
              refine fg_X5_174 (pc := 149) C 2 rfl rfl dX5_digest_149 ?_
              refine jw_S0_L (pc := 152) C (c_X5_mix G (digR P (digA P (dig0 P) P.res.toNat) P.req.toNat) (l.sz)) ws_X5_mix kml_X5_204 rfl rfl (Nat.le_of_ble_eq_true rfl) ⟨by decide, by decide⟩ ⟨Nat.zero_le _, Nat.zero_le _⟩ dX5_digest_152 rfl (fun z u h => ?_)
              subst h
              exact hret _ _ _ () dX5_digest_155 rfl
            · refine jw_lload_1 (pc := 86) C dX5_digest_86 ?_
              refine jw_aload_0 (pc := 87) C dX5_digest_87 ?_
              refine fg_X5_10 (pc := 88) C 0 rfl rfl dX5_digest_88 ?_
              refine jw_iload_3 (pc := 91) C dX5_digest_91 ?_
              refine jw_V_I (pc := 92) C (c_X4_stateNumber G ad P l A T F r (by omega) hI) wd_X4_stateNumber kml_X5_160 1 rfl rfl rfl rfl (Nat.le_of_ble_eq_true rfl) ⟨by decide, by decide⟩ ⟨Nat.zero_le _, Nat.zero_le _⟩ dX5_digest_92 rfl (fun z u h => ?_)
              subst h
              refine jw_S0_L (pc := 95) C (c_X5_mix G (digR P (digA P (dig0 P) P.res.toNat) r) (stN (P.plc r))) ws_X5_mix kml_X5_204 rfl rfl (Nat.le_of_ble_eq_true rfl) ⟨by decide, by decide⟩ ⟨Nat.zero_le _, Nat.zero_le _⟩ dX5_digest_95 rfl (fun z u h => ?_)
              subst h
              refine jw_lstore_1 (pc := 98) C dX5_digest_98 rfl ?_
              refine jw_lload_1 (pc := 99) C dX5_digest_99 ?_
              refine jw_aload_0 (pc := 100) C dX5_digest_100 ?_
              refine fg_X5_10 (pc := 101) C 0 rfl rfl dX5_digest_101 ?_
              refine fg_X5_171 (pc := 104) C 1 rfl rfl dX5_digest_104 ?_
              refine jw_iload_3 (pc := 107) C dX5_digest_107 ?_
              refine jw_iald (pc := 108) C 14 rfl r rfl (by omega) (by decide) dX5_digest_108 ?_
              refine jw_S0_L (pc := 109) C (c_X5_mix G (mixJ (digR P (digA P (dig0 P) P.res.toNat) r) (stN (P.plc r))) (P.mov r)) ws_X5_mix kml_X5_204 rfl rfl (Nat.le_of_ble_eq_true rfl) ⟨by decide, by decide⟩ ⟨Nat.zero_le _, Nat.zero_le _⟩ dX5_digest_109 rfl (fun z u h => ?_)
              subst h
              refine jw_lstore_1 (pc := 112) C dX5_digest_112 rfl ?_
              refine jw_aload_0 (pc := 113) C dX5_digest_113 ?_
              refine fg_X5_10 (pc := 114) C 0 rfl rfl dX5_digest_114 ?_
              refine jw_iload_3 (pc := 117) C dX5_digest_117 ?_
              refine jw_V_Z (pc := 118) C (c_X4_isAssigned G ad P l A T F r (by omega) hI) wd_X4_isAssigned kml_X5_142 1 rfl rfl rfl rfl (Nat.le_of_ble_eq_true rfl) ⟨by decide, by decide⟩ ⟨Nat.zero_le _, Nat.zero_le _⟩ dX5_digest_118 rfl (fun z u h => ?_)
              subst h
              refine jw_if_eq_b (pc := 121) (tgt := 138) C dX5_digest_121 (by decide) (fun c_121 => ?_) (fun c_121 => ?_)
              · have e9 : digR P (digA P (dig0 P) P.res.toNat) (r + 1) = mixJ (mixJ (digR P (digA P (dig0 P) P.res.toNat) r) (stN (P.plc r))) (P.mov r) := if_neg (of_decide_eq_false c_121)
                refine jw_iinc_3 (pc := 138) C dX5_digest_138 rfl ?_
                refine jw_goto (pc := 141) (tgt := 75) C dX5_digest_141 (by decide) ?_
                have K := ih_75 (r + 1) (by omega) (by omega)
                rw [e9] at K
                exact K
              · have e9 : digR P (digA P (dig0 P) P.res.toNat) (r + 1) = mixJ (mixJ (mixJ (digR P (digA P (dig0 P) P.res.toNat) r) (stN (P.plc r))) (P.mov r)) (P.plc r) := if_pos (of_decide_eq_true c_121)
                refine jw_lload_1 (pc := 124) C dX5_digest_124 ?_
                refine jw_aload_0 (pc := 125) C dX5_digest_125 ?_
                refine fg_X5_10 (pc := 126) C 0 rfl rfl dX5_digest_126 ?_
                refine fg_X5_168 (pc := 129) C 1 rfl rfl dX5_digest_129 ?_
                refine jw_iload_3 (pc := 132) C dX5_digest_132 ?_
                refine jw_iald (pc := 133) C 13 rfl r rfl (by omega) (by decide) dX5_digest_133 ?_
                refine jw_S0_L (pc := 134) C (c_X5_mix G (mixJ (mixJ (digR P (digA P (dig0 P) P.res.toNat) r) (stN (P.plc r))) (P.mov r)) (P.plc r)) ws_X5_mix kml_X5_204 rfl rfl (Nat.le_of_ble_eq_true rfl) ⟨by decide, by decide⟩ ⟨Nat.zero_le _, Nat.zero_le _⟩ dX5_digest_134 rfl (fun z u h => ?_)
                subst h
                refine jw_lstore_1 (pc := 137) C dX5_digest_137 rfl ?_
                refine jw_iinc_3 (pc := 138) C dX5_digest_138 rfl ?_
                refine jw_goto (pc := 141) (tgt := 75) C dX5_digest_141 (by decide) ?_
                have K := ih_75 (r + 1) (by omega) (by omega)
                rw [e9] at K
                exact K
        exact K75 41 0 (by omega) (by omega)
      · refine jw_lload_1 (pc := 39) C dX5_digest_39 ?_
        refine jw_aload_0 (pc := 40) C dX5_digest_40 ?_
        refine fg_X5_10 (pc := 41) C 0 rfl rfl dX5_digest_41 ?_
        refine fg_X5_83 (pc := 44) C 1 rfl rfl dX5_digest_44 ?_
        refine jw_iload_3 (pc := 47) C dX5_digest_47 ?_
        refine jw_iald (pc := 48) C 6 rfl a rfl (by omega) (by decide) dX5_digest_48 ?_
        refine jw_S0_L (pc := 49) C (c_X5_mix G (digA P (dig0 P) a) (P.cap a)) ws_X5_mix kml_X5_204 rfl rfl (Nat.le_of_ble_eq_true rfl) ⟨by decide, by decide⟩ ⟨Nat.zero_le _, Nat.zero_le _⟩ dX5_digest_49 rfl (fun z u h => ?_)
        subst h
        refine jw_lstore_1 (pc := 52) C dX5_digest_52 rfl ?_
        refine jw_lload_1 (pc := 53) C dX5_digest_53 ?_
        refine jw_aload_0 (pc := 54) C dX5_digest_54 ?_
        refine fg_X5_10 (pc := 55) C 0 rfl rfl dX5_digest_55 ?_
        refine fg_X5_154 (pc := 58) C 1 rfl rfl dX5_digest_58 ?_
        refine jw_iload_3 (pc := 61) C dX5_digest_61 ?_
        refine jw_iald (pc := 62) C 7 rfl a rfl (by omega) (by decide) dX5_digest_62 ?_
        refine jw_S0_L (pc := 63) C (c_X5_mix G (mixJ (digA P (dig0 P) a) (P.cap a)) (P.load a)) ws_X5_mix kml_X5_204 rfl rfl (Nat.le_of_ble_eq_true rfl) ⟨by decide, by decide⟩ ⟨Nat.zero_le _, Nat.zero_le _⟩ dX5_digest_63 rfl (fun z u h => ?_)
        subst h
        refine jw_lstore_1 (pc := 66) C dX5_digest_66 rfl ?_
        refine jw_iinc_3 (pc := 67) C dX5_digest_67 rfl ?_
        refine jw_goto (pc := 70) (tgt := 28) C dX5_digest_70 (by decide) ?_
        exact ih_28 (a + 1) (by omega) (by omega)
  exact K28 13 0 (by omega) (by omega)
set_option maxRecDepth 100000 in
set_option maxHeartbeats 4000000 in
theorem c_X5_fairness (G : jG) (ad : Nat → Nat) (P : QP) (l : QL) (A : QA) (T : Nat → Bool) (F : QF) (hI : PI P) : CD G yX5_fairness cX5_fairness 8 (jrm 0 0 0 0) [.ref (ad 0)] (wC G ad P l A T F) (fun (z : UInt64) (_ : Unit) => z = fairF P.asg P.wei) (fun _ : Unit => wC G ad P l A T F) 0 0 := by
  refine cd_intro (own := RX5) [some (.ref (ad 0)), none, none, none, none, none, none, none] (by decide) rfl rfl rfl (Nat.le_of_ble_eq_true rfl) (fun X C hret => ?_)
  have hf := fair_ok (a := P.asg) (w := P.wei) (fun i _ => hI.asg i) (fun i hi => ⟨hI.wei1 i hi, (hI.wei i).2⟩)
  refine jw_dconst0 (pc := 0) C dX5_fairness_0 ?_
  refine jw_dstore_1 (pc := 1) C dX5_fairness_1 rfl ?_
  refine jw_dconst0 (pc := 2) C dX5_fairness_2 ?_
  refine jw_dstore_3 (pc := 3) C dX5_fairness_3 rfl ?_
  refine jw_iconst (pc := 4) C dX5_fairness_4 ?_
  refine jw_istore_5 (pc := 5) C dX5_fairness_5 rfl ?_
  have K7 : ∀ (n_7 : Nat) (i : Nat), (i ≤ 4) → 4 - i < n_7 → JW G X 0 0 (wC G ad P l A T F) 7 [some (.ref (ad 0)), some (.double (f_sum (fun g => f_sh (P.asg g) (P.wei g)) i)), none, some (.double (f_sum (fun g => FP.dmul (f_sh (P.asg g) (P.wei g)) (f_sh (P.asg g) (P.wei g))) i)), none, some (.int (iI (i : Int))), none, none] [] := by
    intro n_7
    induction n_7 with
    | zero => intro i hi hm_7; exact absurd hm_7 (Nat.not_lt_zero _)
    | succ n_7 ih_7 =>
      intro i hi hm_7
      refine jw_iload_5 (pc := 7) C dX5_fairness_7 ?_
      refine jw_iconst (pc := 9) C dX5_fairness_9 ?_
      refine jw_icmp_ge (pc := 10) (tgt := 57) C dX5_fairness_10 (by decide) ⟨by omega, by omega⟩ ⟨by omega, by omega⟩ (fun c_10 => ?_) (fun c_10 => ?_)
      · obtain rfl : i = 4 := by omega
        refine jw_dload_3 (pc := 57) C dX5_fairness_57 ?_
        refine jw_dconst0 (pc := 58) C dX5_fairness_58 ?_
        refine jw_dcmp (pc := 59) C dX5_fairness_59 ?_
        refine jw_if_le_r (pc := 60) (tgt := 75) C dX5_fairness_60 (by decide) (fun c_60 => ?_) (fun c_60 => ?_)
        · have hz : (P.asg 0 = 0 ∧ P.asg 1 = 0 ∧ P.asg 2 = 0 ∧ P.asg 3 = 0) := Classical.byContradiction (fun q => by
            have g : FP.dcmp (f_sum (fun g => FP.dmul (f_sh (P.asg g) (P.wei g)) (f_sh (P.asg g) (P.wei g))) 4) FP.dconst0 = some .gt := by rw [f_d0]; exact (hf.2.2.2.2 q).1
            rw [g] at c_60
            exact absurd c_60 (by decide))
          have e : FP.dconst1 = fairF P.asg P.wei := (if_pos hz).symm
          refine jw_dconst1 (pc := 75) C dX5_fairness_75 ?_
          exact hret _ _ _ () dX5_fairness_76 e
        · have hz : ¬ (P.asg 0 = 0 ∧ P.asg 1 = 0 ∧ P.asg 2 = 0 ∧ P.asg 3 = 0) := fun q => by
            have g : FP.dcmp (f_sum (fun g => FP.dmul (f_sh (P.asg g) (P.wei g)) (f_sh (P.asg g) (P.wei g))) 4) FP.dconst0 = some .eq := by rw [f_d0]; exact hf.2.2.2.1 q
            rw [g] at c_60
            exact absurd (by decide) c_60
          have hp := hf.2.2.2.2 hz
          have e : FP.ddiv (FP.dmul (f_sum (fun g => f_sh (P.asg g) (P.wei g)) 4) (f_sum (fun g => f_sh (P.asg g) (P.wei g)) 4)) (FP.dmul 4616189618054758400 (f_sum (fun g => FP.dmul (f_sh (P.asg g) (P.wei g)) (f_sh (P.asg g) (P.wei g))) 4)) = fairF P.asg P.wei := (if_neg hz).symm
          refine jw_dload_1 (pc := 63) C dX5_fairness_63 ?_
          refine jw_dload_1 (pc := 64) C dX5_fairness_64 ?_
          refine jw_dmul (pc := 65) C dX5_fairness_65 hp.2.1 ?_
          refine jw_ldc2d (pc := 66) C kcn_X5_200 dX5_fairness_66 ?_
          refine jw_dload_3 (pc := 69) C dX5_fairness_69 ?_
          refine jw_dmul (pc := 70) C dX5_fairness_70 hp.2.2.1 ?_
          refine jw_ddiv (pc := 71) C dX5_fairness_71 hp.2.2.2 ?_
          refine jw_goto (pc := 72) (tgt := 76) C dX5_fairness_72 (by decide) ?_
          exact hret _ _ _ () dX5_fairness_76 e
      · refine jw_aload_0 (pc := 13) C dX5_fairness_13 ?_
        refine fg_X5_10 (pc := 14) C 0 rfl rfl dX5_fairness_14 ?_
        refine fg_X5_151 (pc := 17) C 1 rfl rfl dX5_fairness_17 ?_
        refine jw_iload_5 (pc := 20) C dX5_fairness_20 ?_
        refine jw_iald (pc := 22) C 10 rfl i rfl (by omega) (by decide) dX5_fairness_22 ?_
        refine jw_i2d (pc := 23) C dX5_fairness_23 ?_
        refine jw_aload_0 (pc := 24) C dX5_fairness_24 ?_
        refine fg_X5_10 (pc := 25) C 0 rfl rfl dX5_fairness_25 ?_
        refine fg_X5_100 (pc := 28) C 1 rfl rfl dX5_fairness_28 ?_
        refine jw_iload_5 (pc := 31) C dX5_fairness_31 ?_
        refine jw_iald (pc := 33) C 9 rfl i rfl (by omega) (by decide) dX5_fairness_33 ?_
        refine jw_i2d (pc := 34) C dX5_fairness_34 ?_
        refine jw_ddiv (pc := 35) C dX5_fairness_35 (hf.1 i (by omega)).1 ?_
        refine jw_dstore_6 (pc := 36) C dX5_fairness_36 rfl ?_
        refine jw_dload_1 (pc := 38) C dX5_fairness_38 ?_
        refine jw_dload_6 (pc := 39) C dX5_fairness_39 ?_
        refine jw_dadd (pc := 41) C dX5_fairness_41 (hf.2.1 i (by omega)) ?_
        refine jw_dstore_1 (pc := 42) C dX5_fairness_42 rfl ?_
        refine jw_dload_3 (pc := 43) C dX5_fairness_43 ?_
        refine jw_dload_6 (pc := 44) C dX5_fairness_44 ?_
        refine jw_dload_6 (pc := 46) C dX5_fairness_46 ?_
        refine jw_dmul (pc := 48) C dX5_fairness_48 (hf.1 i (by omega)).2 ?_
        refine jw_dadd (pc := 49) C dX5_fairness_49 (hf.2.2.1 i (by omega)) ?_
        refine jw_dstore_3 (pc := 50) C dX5_fairness_50 rfl ?_
        refine jw_iinc_5 (pc := 51) C dX5_fairness_51 rfl ?_
        refine jw_goto (pc := 54) (tgt := 7) C dX5_fairness_54 (by decide) ?_
        exact jw_less (ih_7 (i + 1) (by omega) (by omega)) (by repeat (first | exact trivial | refine And.intro rfl ?_))
  exact K7 5 0 (by omega) (by omega)
