theorem backQ_stop {a : Nat} {P : QP} {c : Int} (h : P.asg a ≤ P.quo a) : ∀ k, pBackQ a k P c = (P, c)
  | 0 => rfl
  | k + 1 => by rw [pBackQ, if_pos h]
theorem backQ_skip {a k : Nat} {P : QP} {c : Int} (h : ¬ ((P.grp k = (a : Int) ∧ 0 ≤ P.plc k) ∧ P.quo a < P.asg a)) : pBackQ a (k + 1) P c = pBackQ a k P c := by
  by_cases q : P.asg a ≤ P.quo a
  · rw [backQ_stop q, backQ_stop q]
  · rw [pBackQ, if_neg q, if_neg (fun w => h ⟨w, by omega⟩)]
theorem backQ_take {a k : Nat} {P : QP} {c : Int} (h : P.grp k = (a : Int) ∧ 0 ≤ P.plc k) (h2 : P.quo a < P.asg a) : pBackQ a (k + 1) P c = pBackQ a k (pPut P k) (c + 1) := by
  rw [pBackQ, if_neg (by omega), if_pos h]
theorem RR_grp {P : QP} {l : QL} {R : QR} {a : Nat} {q w : Int} (h : RR P l R) : RR (pGrp P a q w) (l.1, l.2.1, 0) (0, R.res, R.cap, updf R.quo a q, updf R.wei a w, R.req, R.grp, R.msk, R.st, R.pls, R.mov, R.pl, R.ml, 0, R.lr, R.lp, R.far, R.tri, R.pr, R.pp) := by
  obtain ⟨h1, h2, h3, h4, h5, h6, h7, h8, h9, h10, h11, h12, h13, h14⟩ := h
  refine ⟨h1, h2, ?_, ?_, h5, h6, h7, h8, h9, h10, h11, h12, rfl, fun i hi => absurd hi (by show ¬ ((i : Int) < 0); omega)⟩
  · show updf R.quo a q = updf P.quo a q
    rw [h3]
  · show updf R.wei a w = updf P.wei a w
    rw [h4]
set_option maxRecDepth 100000 in
set_option maxHeartbeats 4000000 in
theorem c_X6_setGroup (G : jG) (ad : Nat → Nat) (P : QP) (l : QL) (R : QR) (hI : PI P) (hR : RR P l R) (hF : PFe P) (a : Int) (hj : jr a) (x : Int) (hjx : jr x) (y : Int) (hjy : jr y) : CI G yX6_setGroup cX6_setGroup 6 (jrm 7 160 0 0) [.ref (ad 0), .int (iI a), .int (iI x), .int (iI y)] (wR G ad R) (fun (z : Int32) (u : QR) => ((0 ≤ a ∧ a < 4) ∧ ((0 ≤ x ∧ x ≤ 40) ∧ (1 ≤ y ∧ y ≤ 10)) ∧ u.thr = 0 ∧ z = iI (pBackQ a.toNat P.req.toNat (pGrp P a.toNat x y) 0).2 ∧ RR (rn (pBackQ a.toNat P.req.toNat (pGrp P a.toNat x y) 0).1 l).1 (rn (pBackQ a.toNat P.req.toNat (pGrp P a.toNat x y) 0).1 l).2.1 u) ∨ ((0 ≤ a ∧ a < 4) ∧ ¬ ((0 ≤ x ∧ x ≤ 40) ∧ (1 ≤ y ∧ y ≤ 10)) ∧ u.1 = 2 ∧ u.2 = R.2) ∨ (¬ (0 ≤ a ∧ a < 4) ∧ u.1 = 1 ∧ u.2 = R.2)) (fun u : QR => wR G ad u) 0 0 := by
  refine ci_intro (own := RX6) [some (.ref (ad 0)), some (.int (iI a)), some (.int (iI x)), some (.int (iI y)), none, none] (by decide) rfl rfl rfl (Nat.le_of_ble_eq_true rfl) (fun X C hret => ?_)
  obtain ⟨thr, rs, cp, qu, we, rq, gr, ms, st, pls, mv, plm, mlm, lgd, lr, lp, fr, tr, pr, pp⟩ := R
  obtain ⟨(rfl : rs = P.res), (rfl : cp = P.cap), (rfl : qu = P.quo), (rfl : we = P.wei), (rfl : rq = P.req), (rfl : gr = P.grp), (rfl : ms = P.acc), (rfl : mv = P.mov), (rfl : plm = P.pl), (rfl : mlm = P.ml), (hst : ∀ r : Nat, (r : Int) < P.req → st r = stN (P.plc r)), (hpl : ∀ r : Nat, (r : Int) < P.req → 0 ≤ P.plc r → pls r = P.plc r), (elg : lgd = l.sz), (hlog : ∀ i : Nat, (i : Int) < l.sz → lr i = l.rq i ∧ lp i = l.tg i)⟩ := hR
  have hRR : RR P l (thr, P.res, P.cap, P.quo, P.wei, P.req, P.grp, P.acc, st, pls, P.mov, P.pl, P.ml, lgd, lr, lp, fr, tr, pr, pp) := ⟨rfl, rfl, rfl, rfl, rfl, rfl, rfl, rfl, rfl, rfl, hst, hpl, elg, hlog⟩
  refine jw_eqw (wR9 G ad thr P.res P.cap P.quo P.wei P.req P.grp P.acc st pls P.mov P.pl P.ml lgd lr lp fr tr pr pp) rfl ?_
  have h1 := hI.res
  have h2 := hI.req
  
  refine jw_aload_0 (pc := 0) C dX6_setGroup_0 ?_
  refine jw_iconst (pc := 1) C dX6_setGroup_1 ?_
  refine fp_X6_60 (pc := 2) C 0 rfl (Nat.le_of_ble_eq_true rfl) dX6_setGroup_2 ?_
  refine jw_iload_1 (pc := 5) C dX6_setGroup_5 ?_
  refine jw_S0_Z (pc := 6) C (c_X6_isGroup G a hj) ws_X6_isGroup kml_X6_125 rfl rfl (Nat.le_of_ble_eq_true rfl) ⟨by decide, by decide⟩ ⟨Nat.zero_le _, Nat.zero_le _⟩ dX6_setGroup_6 rfl (fun z u h => ?_)
  subst h
  refine jw_if_ne_b (pc := 9) (tgt := 18) C dX6_setGroup_9 (by decide) (fun c_9 => ?_) (fun c_9 => ?_)
  · have hok := of_decide_eq_true c_9
    obtain ⟨j, ej⟩ : ∃ j : Nat, a = (j : Int) := ⟨a.toNat, by omega⟩
    subst ej
    refine jw_iload_2 (pc := 18) C dX6_setGroup_18 ?_
    refine jw_if_lt (pc := 19) (tgt := 39) C dX6_setGroup_19 (by decide) hjx (fun c_19 => ?_) (fun c_19 => ?_)
    · have hnc : ¬ ((0 ≤ x ∧ x ≤ 40) ∧ (1 ≤ y ∧ y ≤ 10)) := fun q => by omega
      refine jw_aload_0 (pc := 39) C dX6_setGroup_39 ?_
      refine jw_iconst (pc := 40) C dX6_setGroup_40 ?_
      refine jw_V_I (pc := 41) C (c_X6_fail G ad (0, P.res, P.cap, P.quo, P.wei, P.req, P.grp, P.acc, st, pls, P.mov, P.pl, P.ml, lgd, lr, lp, fr, tr, pr, pp) 2) wd_X6_fail kml_X6_116 0 rfl rfl rfl rfl (Nat.le_of_ble_eq_true rfl) ⟨by decide, by decide⟩ ⟨Nat.zero_le _, Nat.zero_le _⟩ dX6_setGroup_41 rfl (fun zf uf hf => ?_)
      obtain ⟨ef, eg⟩ := hf
      subst ef
      subst eg
      exact hret _ _ _ (2, P.res, P.cap, P.quo, P.wei, P.req, P.grp, P.acc, st, pls, P.mov, P.pl, P.ml, lgd, lr, lp, fr, tr, pr, pp) dX6_setGroup_44 (Or.inr (Or.inl ⟨hok, hnc, rfl, rfl⟩))
    · refine jw_iload_2 (pc := 22) C dX6_setGroup_22 ?_
      refine jw_bipush (pc := 23) C dX6_setGroup_23 (by decide) ?_
      refine jw_icmp_gt (pc := 25) (tgt := 39) C dX6_setGroup_25 (by decide) hjx ⟨by omega, by omega⟩ (fun c_25 => ?_) (fun c_25 => ?_)
      · have hnc : ¬ ((0 ≤ x ∧ x ≤ 40) ∧ (1 ≤ y ∧ y ≤ 10)) := fun q => by omega
        refine jw_aload_0 (pc := 39) C dX6_setGroup_39 ?_
        refine jw_iconst (pc := 40) C dX6_setGroup_40 ?_
        refine jw_V_I (pc := 41) C (c_X6_fail G ad (0, P.res, P.cap, P.quo, P.wei, P.req, P.grp, P.acc, st, pls, P.mov, P.pl, P.ml, lgd, lr, lp, fr, tr, pr, pp) 2) wd_X6_fail kml_X6_116 0 rfl rfl rfl rfl (Nat.le_of_ble_eq_true rfl) ⟨by decide, by decide⟩ ⟨Nat.zero_le _, Nat.zero_le _⟩ dX6_setGroup_41 rfl (fun zf uf hf => ?_)
        obtain ⟨ef, eg⟩ := hf
        subst ef
        subst eg
        exact hret _ _ _ (2, P.res, P.cap, P.quo, P.wei, P.req, P.grp, P.acc, st, pls, P.mov, P.pl, P.ml, lgd, lr, lp, fr, tr, pr, pp) dX6_setGroup_44 (Or.inr (Or.inl ⟨hok, hnc, rfl, rfl⟩))
      · refine jw_iload_3 (pc := 28) C dX6_setGroup_28 ?_
        refine jw_iconst (pc := 29) C dX6_setGroup_29 ?_
        refine jw_icmp_lt (pc := 30) (tgt := 39) C dX6_setGroup_30 (by decide) hjy ⟨by omega, by omega⟩ (fun c_30 => ?_) (fun c_30 => ?_)
        · have hnc : ¬ ((0 ≤ x ∧ x ≤ 40) ∧ (1 ≤ y ∧ y ≤ 10)) := fun q => by omega
          refine jw_aload_0 (pc := 39) C dX6_setGroup_39 ?_
          refine jw_iconst (pc := 40) C dX6_setGroup_40 ?_
          refine jw_V_I (pc := 41) C (c_X6_fail G ad (0, P.res, P.cap, P.quo, P.wei, P.req, P.grp, P.acc, st, pls, P.mov, P.pl, P.ml, lgd, lr, lp, fr, tr, pr, pp) 2) wd_X6_fail kml_X6_116 0 rfl rfl rfl rfl (Nat.le_of_ble_eq_true rfl) ⟨by decide, by decide⟩ ⟨Nat.zero_le _, Nat.zero_le _⟩ dX6_setGroup_41 rfl (fun zf uf hf => ?_)
          obtain ⟨ef, eg⟩ := hf
          subst ef
          subst eg
          exact hret _ _ _ (2, P.res, P.cap, P.quo, P.wei, P.req, P.grp, P.acc, st, pls, P.mov, P.pl, P.ml, lgd, lr, lp, fr, tr, pr, pp) dX6_setGroup_44 (Or.inr (Or.inl ⟨hok, hnc, rfl, rfl⟩))
        · refine jw_iload_3 (pc := 33) C dX6_setGroup_33 ?_
          refine jw_bipush (pc := 34) C dX6_setGroup_34 (by decide) ?_
          refine jw_icmp_le (pc := 36) (tgt := 45) C dX6_setGroup_36 (by decide) hjy ⟨by omega, by omega⟩ (fun c_36 => ?_) (fun c_36 => ?_)
          · have hc : ((0 ≤ x ∧ x ≤ 40) ∧ (1 ≤ y ∧ y ≤ 10)) := ⟨⟨by omega, by omega⟩, by omega, by omega⟩
            refine jw_aload_0 (pc := 45) C dX6_setGroup_45 ?_
            refine jw_iconst (pc := 46) C dX6_setGroup_46 ?_
            refine fp_X6_102 (pc := 47) C 0 rfl (Nat.le_of_ble_eq_true rfl) dX6_setGroup_47 ?_
            refine jw_aload_0 (pc := 50) C dX6_setGroup_50 ?_
            refine fg_X6_13 (pc := 51) C 0 rfl rfl dX6_setGroup_51 ?_
            refine jw_iload_1 (pc := 54) C dX6_setGroup_54 ?_
            refine jw_iload_2 (pc := 55) C dX6_setGroup_55 ?_
            refine jw_iast (pc := 56) C 2 rfl j rfl (by omega) (by decide) dX6_setGroup_56 ?_
            refine jw_aload_0 (pc := 57) C dX6_setGroup_57 ?_
            refine fg_X6_16 (pc := 58) C 0 rfl rfl dX6_setGroup_58 ?_
            refine jw_iload_1 (pc := 61) C dX6_setGroup_61 ?_
            refine jw_iload_3 (pc := 62) C dX6_setGroup_62 ?_
            refine jw_iast (pc := 63) C 3 rfl j rfl (by omega) (by decide) dX6_setGroup_63 ?_
            refine jw_iconst (pc := 64) C dX6_setGroup_64 ?_
            refine jw_istore_4 (pc := 65) C dX6_setGroup_65 rfl ?_
            refine jw_aload_0 (pc := 67) C dX6_setGroup_67 ?_
            refine fg_X6_66 (pc := 68) C 0 rfl rfl dX6_setGroup_68 ?_
            refine jw_iconst (pc := 71) C dX6_setGroup_71 ?_
            refine jw_isub (pc := 72) C dX6_setGroup_72 ?_
            refine jw_istore_5 (pc := 73) C dX6_setGroup_73 rfl ?_
            have K75 : ∀ (n_75 : Nat) (k0 : Nat) (P2 : QP) (b : Int) (S : QR), (PI P2) → (P2.req = P.req) → ((k0 : Int) ≤ P.req) → (P2.quo j = x) → (RR P2 (l.1, l.2.1, 0) S) → (S.thr = 0) → (pBackQ j k0 P2 b = (pBackQ j P.req.toNat (pGrp P j x y) 0)) → k0 < n_75 → JW G X 0 0 (wR G ad S) 75 [some (.ref (ad 0)), some (.int (iI (j : Int))), some (.int (iI x)), some (.int (iI y)), some (.int (iI b)), some (.int (iI ((k0 : Int) - 1)))] [] := by
              intro n_75
              induction n_75 with
              | zero => intro k0 P2 b S hI2 hq2 hk0 hcp hR2 hth he hm_75; exact absurd hm_75 (Nat.not_lt_zero _)
              | succ n_75 ih_75 =>
                intro k0 P2 b S hI2 hq2 hk0 hcp hR2 hth he hm_75
                refine jw_iload_5 (pc := 75) C dX6_setGroup_75 ?_
                refine jw_if_lt (pc := 77) (tgt := 131) C dX6_setGroup_77 (by decide) ⟨by omega, by omega⟩ (fun c_77 => ?_) (fun c_77 => ?_)
                · have ek : k0 = 0 := by omega
                  subst ek
                  have he2 : (P2, b) = (pBackQ j P.req.toNat (pGrp P j x y) 0) := he
                  have hF2 : PFe P2 := by
                    have w := PFe_backQ (g := j) (q := x) (w := y) hI hF hc.1 hc.2
                    rw [← he2] at w
                    exact w
                  refine jw_aload_0 (pc := 131) C dX6_setGroup_131 ?_
                  refine jw_V_I (pc := 132) C (c_X6_run G ad P2 (l.1, l.2.1, 0) S hI2 hR2 rfl) wd_X6_run kml_X6_119 0 rfl rfl rfl rfl (Nat.le_of_ble_eq_true rfl) ⟨by decide, by decide⟩ ⟨Nat.zero_le _, Nat.zero_le _⟩ dX6_setGroup_132 rfl (fun z9 u9 h9 => ?_)
                  obtain ⟨b1, b2, b3⟩ := h9
                  replace b1 : z9 = iI (rn P2 l).2.2 := b1
                  replace b2 : RR (rn P2 l).1 (rn P2 l).2.1 u9 := b2
                  subst b1
                  have hrn := rn_ok (l := l) hI2 hF2
                  refine jw_if_ge (pc := 135) (tgt := 142) C dX6_setGroup_135 (by decide) ⟨by omega, by omega⟩ (fun c_135 => ?_) (fun c_135 => ?_)
                  · refine jw_iload_4 (pc := 142) C dX6_setGroup_142 ?_
                    exact hret _ _ _ u9 dX6_setGroup_144 (Or.inl ⟨hok, hc, b3.trans hth, by show _ = iI (pBackQ j P.req.toNat (pGrp P j x y) 0).2; rw [← he2], by show RR (rn (pBackQ j P.req.toNat (pGrp P j x y) 0).1 l).1 (rn (pBackQ j P.req.toNat (pGrp P j x y) 0).1 l).2.1 u9; rw [← he2]; exact b2⟩)
                  · exact absurd hrn.2.2.1 (by omega)
                · obtain ⟨k, rfl⟩ : ∃ k, k0 = k + 1 := ⟨k0 - 1, by omega⟩
                  rw [show ((k + 1 : Nat) : Int) - 1 = (k : Int) by omega]
                  have r1 : S.st k = stN (P2.plc k) := hR2.2.2.2.2.2.2.2.2.2.2.1 k (by omega)
                  have r2 := stN_rng (P2.plc k)
                  have r3 := @stN_1 (P2.plc k)
                  have r4 : S.grp k = P2.grp k := by rw [hR2.2.2.2.2.2.1]
                  have r5 := hI2.grp k
                  refine jw_aload_0 (pc := 80) C dX6_setGroup_80 ?_
                  refine fg_X6_25 (pc := 81) C 0 rfl rfl dX6_setGroup_81 ?_
                  refine jw_iload_5 (pc := 84) C dX6_setGroup_84 ?_
                  refine jw_iald (pc := 86) C 6 rfl k rfl (by omega) (by decide) dX6_setGroup_86 ?_
                  refine jw_iconst (pc := 87) C dX6_setGroup_87 ?_
                  refine jw_icmp_ne (pc := 88) (tgt := 125) C dX6_setGroup_88 (by decide) ⟨by omega, by omega⟩ ⟨by omega, by omega⟩ (fun c_88 => ?_) (fun c_88 => ?_)
                  · have K := ih_75 k P2 b S hI2 hq2 (by omega) hcp hR2 hth ((backQ_skip (fun q => c_88 (r1.trans (r3.mpr q.1.2)))).symm.trans he) (by omega)
                    refine jw_iinc_5 (pc := 125) C dX6_setGroup_125 rfl ?_
                    refine jw_goto (pc := 128) (tgt := 75) C dX6_setGroup_128 (by decide) ?_
                    exact K
                  · have hpp : 0 ≤ P2.plc k := r3.mp (r1.symm.trans c_88)
                    refine jw_aload_0 (pc := 91) C dX6_setGroup_91 ?_
                    refine fg_X6_19 (pc := 92) C 0 rfl rfl dX6_setGroup_92 ?_
                    refine jw_iload_5 (pc := 95) C dX6_setGroup_95 ?_
                    refine jw_iald (pc := 97) C 4 rfl k rfl (by omega) (by decide) dX6_setGroup_97 ?_
                    refine jw_iload_1 (pc := 98) C dX6_setGroup_98 ?_
                    refine jw_icmp_ne (pc := 99) (tgt := 125) C dX6_setGroup_99 (by decide) ⟨by omega, by omega⟩ ⟨by omega, by omega⟩ (fun c_99 => ?_) (fun c_99 => ?_)
                    · have K := ih_75 k P2 b S hI2 hq2 (by omega) hcp hR2 hth ((backQ_skip (fun q => c_99 (r4.trans q.1.1))).symm.trans he) (by omega)
                      refine jw_iinc_5 (pc := 125) C dX6_setGroup_125 rfl ?_
                      refine jw_goto (pc := 128) (tgt := 75) C dX6_setGroup_128 (by decide) ?_
                      exact K
                    · have hgg : P2.grp k = (j : Int) := r4.symm.trans c_99
                      refine jw_aload_0 (pc := 102) C dX6_setGroup_102 ?_
                      refine jw_iload_1 (pc := 103) C dX6_setGroup_103 ?_
                      refine jw_V_I (pc := 104) C (c_X6_assignedIn G ad P2 (l.1, l.2.1, 0) S hI2 hR2 j (by omega)) wd_X6_assignedIn kml_X6_89 0 rfl rfl rfl rfl (Nat.le_of_ble_eq_true rfl) ⟨by decide, by decide⟩ ⟨Nat.zero_le _, Nat.zero_le _⟩ dX6_setGroup_104 rfl (fun z u h => ?_)
                      subst h
                      have hld := hI2.asg j
                      refine jw_iload_2 (pc := 107) C dX6_setGroup_107 ?_
                      refine jw_icmp_gt (pc := 108) (tgt := 114) C dX6_setGroup_108 (by decide) ⟨by omega, by omega⟩ hjx (fun c_108 => ?_) (fun c_108 => ?_)
                      · have K := ih_75 k (pPut P2 k) (b + 1) (sSt S k) (PI_put hI2 (by omega)) ((pPut_req P2 k).trans hq2) (by omega) (by rw [pPut_quo]; exact hcp) (RR_put hR2 hpp) hth ((backQ_take ⟨hgg, hpp⟩ (by omega)).symm.trans he) (by omega)
                        refine jw_aload_0 (pc := 114) C dX6_setGroup_114 ?_
                        refine fg_X6_25 (pc := 115) C 0 rfl rfl dX6_setGroup_115 ?_
                        refine jw_iload_5 (pc := 118) C dX6_setGroup_118 ?_
                        refine jw_iconst (pc := 120) C dX6_setGroup_120 ?_
                        refine jw_iast (pc := 121) C 6 rfl k rfl (by omega) (by decide) dX6_setGroup_121 ?_
                        refine jw_iinc_4 (pc := 122) C dX6_setGroup_122 rfl ?_
                        refine jw_iinc_5 (pc := 125) C dX6_setGroup_125 rfl ?_
                        refine jw_goto (pc := 128) (tgt := 75) C dX6_setGroup_128 (by decide) ?_
                        exact K
                      · have K := ih_75 k P2 b S hI2 hq2 (by omega) hcp hR2 hth ((backQ_skip (fun q => by have := q.2; omega)).symm.trans he) (by omega)
                        refine jw_goto (pc := 111) (tgt := 125) C dX6_setGroup_111 (by decide) ?_
                        refine jw_iinc_5 (pc := 125) C dX6_setGroup_125 rfl ?_
                        refine jw_goto (pc := 128) (tgt := 75) C dX6_setGroup_128 (by decide) ?_
                        exact K
            have e0 : (P.req.toNat : Int) = P.req := by omega
            have K := K75 (P.req.toNat + 1) P.req.toNat (pGrp P j x y) 0 (0, P.res, P.cap, (updf P.quo j x), (updf P.wei j y), P.req, P.grp, P.acc, st, pls, P.mov, P.pl, P.ml, 0, lr, lp, fr, tr, pr, pp) (PI_grp hI hc.1 hc.2) rfl (by omega) (updf_same _ _ _) (RR_grp hRR) rfl rfl (by omega)
            rw [e0] at K
            exact K
          · have hnc : ¬ ((0 ≤ x ∧ x ≤ 40) ∧ (1 ≤ y ∧ y ≤ 10)) := fun q => by omega
            refine jw_aload_0 (pc := 39) C dX6_setGroup_39 ?_
            refine jw_iconst (pc := 40) C dX6_setGroup_40 ?_
            refine jw_V_I (pc := 41) C (c_X6_fail G ad (0, P.res, P.cap, P.quo, P.wei, P.req, P.grp, P.acc, st, pls, P.mov, P.pl, P.ml, lgd, lr, lp, fr, tr, pr, pp) 2) wd_X6_fail kml_X6_116 0 rfl rfl rfl rfl (Nat.le_of_ble_eq_true rfl) ⟨by decide, by decide⟩ ⟨Nat.zero_le _, Nat.zero_le _⟩ dX6_setGroup_41 rfl (fun zf uf hf => ?_)
            obtain ⟨ef, eg⟩ := hf
            subst ef
            subst eg
            exact hret _ _ _ (2, P.res, P.cap, P.quo, P.wei, P.req, P.grp, P.acc, st, pls, P.mov, P.pl, P.ml, lgd, lr, lp, fr, tr, pr, pp) dX6_setGroup_44 (Or.inr (Or.inl ⟨hok, hnc, rfl, rfl⟩))
  · have hno := of_decide_eq_false c_9
    refine jw_aload_0 (pc := 12) C dX6_setGroup_12 ?_
    refine jw_iconst (pc := 13) C dX6_setGroup_13 ?_
    refine jw_V_I (pc := 14) C (c_X6_fail G ad (0, P.res, P.cap, P.quo, P.wei, P.req, P.grp, P.acc, st, pls, P.mov, P.pl, P.ml, lgd, lr, lp, fr, tr, pr, pp) 1) wd_X6_fail kml_X6_116 0 rfl rfl rfl rfl (Nat.le_of_ble_eq_true rfl) ⟨by decide, by decide⟩ ⟨Nat.zero_le _, Nat.zero_le _⟩ dX6_setGroup_14 rfl (fun zf uf hf => ?_)
    obtain ⟨ef, eg⟩ := hf
    subst ef
    subst eg
    exact hret _ _ _ (1, P.res, P.cap, P.quo, P.wei, P.req, P.grp, P.acc, st, pls, P.mov, P.pl, P.ml, lgd, lr, lp, fr, tr, pr, pp) dX6_setGroup_17 (Or.inr (Or.inr ⟨hno, rfl, rfl⟩))
