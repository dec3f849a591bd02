theorem backC_stop {a : Nat} {P : QP} {c : Int} (h : P.load a ≤ P.cap a) : ∀ k, pBackC a k P c = (P, c)
  | 0 => rfl
  | k + 1 => by rw [pBackC, if_pos h]
theorem backC_skip {a k : Nat} {P : QP} {c : Int} (h : ¬ (P.plc k = (a : Int) ∧ P.cap a < P.load a)) : pBackC a (k + 1) P c = pBackC a k P c := by
  by_cases q : P.load a ≤ P.cap a
  · rw [backC_stop q, backC_stop q]
  · rw [pBackC, if_neg q, if_neg (fun w => h ⟨w, by omega⟩)]
theorem backC_take {a k : Nat} {P : QP} {c : Int} (h : P.plc k = (a : Int)) (h2 : P.cap a < P.load a) : pBackC a (k + 1) P c = pBackC a k (pPut P k) (c + 1) := by
  rw [pBackC, if_neg (by omega), if_pos h]
theorem RR_cap {P : QP} {l : QL} {R : QR} {a : Nat} {c : Int} (h : RR P l R) : RR (pCap P a c) (l.1, l.2.1, 0) (0, R.res, updf R.cap a c, R.quo, R.wei, R.req, R.grp, R.msk, R.st, R.pls, R.mov, R.pl, R.ml, 0, R.lr, R.lp, R.far, R.tri, R.pr, R.pp) := by
  obtain ⟨h1, h2, h3, h4, h5, h6, h7, h8, h9, h10, h11, h12, h13, h14⟩ := h
  refine ⟨h1, ?_, h3, h4, h5, h6, h7, h8, h9, h10, h11, h12, rfl, fun i hi => absurd hi (by show ¬ ((i : Int) < 0); omega)⟩
  show updf R.cap a c = updf P.cap a c
  rw [h2]
def sSt (S : QR) (k : Nat) : QR := (S.thr, S.res, S.cap, S.quo, S.wei, S.req, S.grp, S.msk, updf S.st k 0, S.pls, S.mov, S.pl, S.ml, S.lgd, S.lr, S.lp, S.far, S.tri, S.pr, S.pp)
set_option maxRecDepth 100000 in
set_option maxHeartbeats 4000000 in
theorem c_X6_setCapacity (G : jG) (ad : Nat → Nat) (P : QP) (l : QL) (R : QR) (hI : PI P) (hR : RR P l R) (hF : PFe P) (a : Int) (hj : jr a) (c : Int) (hjc : jr c) : CI G yX6_setCapacity cX6_setCapacity 5 (jrm 7 160 0 0) [.ref (ad 0), .int (iI a), .int (iI c)] (wR G ad R) (fun (z : Int32) (u : QR) => (0 ≤ a ∧ a < P.res ∧ (0 ≤ c ∧ c ≤ 4) ∧ u.thr = 0 ∧ z = iI (pBackC a.toNat P.req.toNat (pCap P a.toNat c) 0).2 ∧ RR (rn (pBackC a.toNat P.req.toNat (pCap P a.toNat c) 0).1 l).1 (rn (pBackC a.toNat P.req.toNat (pCap P a.toNat c) 0).1 l).2.1 u) ∨ (0 ≤ a ∧ a < P.res ∧ ¬ (0 ≤ c ∧ c ≤ 4) ∧ u.1 = 2 ∧ u.2 = R.2) ∨ (¬ (0 ≤ a ∧ a < P.res) ∧ u.1 = 1 ∧ u.2 = R.2)) (fun u : QR => wR G ad u) 0 0 := by
  refine ci_intro (own := RX6) [some (.ref (ad 0)), some (.int (iI a)), some (.int (iI c)), none, none] (by decide) rfl rfl rfl (Nat.le_of_ble_eq_true rfl) (fun X C hret => ?_)
  obtain ⟨thr, rs, cp, qu, we, rq, gr, ms, st, pls, mv, plm, mlm, lgd, lr, lp, fr, tr, pr, pp⟩ := R
  obtain ⟨(rfl : rs = P.res), (rfl : cp = P.cap), (rfl : qu = P.quo), (rfl : we = P.wei), (rfl : rq = P.req), (rfl : gr = P.grp), (rfl : ms = P.acc), (rfl : mv = P.mov), (rfl : plm = P.pl), (rfl : mlm = P.ml), (hst : ∀ r : Nat, (r : Int) < P.req → st r = stN (P.plc r)), (hpl : ∀ r : Nat, (r : Int) < P.req → 0 ≤ P.plc r → pls r = P.plc r), (elg : lgd = l.sz), (hlog : ∀ i : Nat, (i : Int) < l.sz → lr i = l.rq i ∧ lp i = l.tg i)⟩ := hR
  have hRR : RR P l (thr, P.res, P.cap, P.quo, P.wei, P.req, P.grp, P.acc, st, pls, P.mov, P.pl, P.ml, lgd, lr, lp, fr, tr, pr, pp) := ⟨rfl, rfl, rfl, rfl, rfl, rfl, rfl, rfl, rfl, rfl, hst, hpl, elg, hlog⟩
  refine jw_eqw (wR9 G ad thr P.res P.cap P.quo P.wei P.req P.grp P.acc st pls P.mov P.pl P.ml lgd lr lp fr tr pr pp) rfl ?_
  have h1 := hI.res
  have h2 := hI.req
  
  refine jw_aload_0 (pc := 0) C dX6_setCapacity_0 ?_
  refine jw_iconst (pc := 1) C dX6_setCapacity_1 ?_
  refine fp_X6_60 (pc := 2) C 0 rfl (Nat.le_of_ble_eq_true rfl) dX6_setCapacity_2 ?_
  refine jw_aload_0 (pc := 5) C dX6_setCapacity_5 ?_
  refine jw_iload_1 (pc := 6) C dX6_setCapacity_6 ?_
  refine jw_V_Z (pc := 7) C (c_X6_isResource G ad P l (0, P.res, P.cap, P.quo, P.wei, P.req, P.grp, P.acc, st, pls, P.mov, P.pl, P.ml, lgd, lr, lp, fr, tr, pr, pp) hI hRR a hj) wd_X6_isResource kml_X6_122 0 rfl rfl rfl rfl (Nat.le_of_ble_eq_true rfl) ⟨by decide, by decide⟩ ⟨Nat.zero_le _, Nat.zero_le _⟩ dX6_setCapacity_7 rfl (fun z u h => ?_)
  subst h
  refine jw_eqw (wR9 G ad 0 P.res P.cap P.quo P.wei P.req P.grp P.acc st pls P.mov P.pl P.ml lgd lr lp fr tr pr pp) rfl ?_
  refine jw_if_ne_b (pc := 10) (tgt := 19) C dX6_setCapacity_10 (by decide) (fun c_10 => ?_) (fun c_10 => ?_)
  · have hok := of_decide_eq_true c_10
    obtain ⟨j, ej⟩ : ∃ j : Nat, a = (j : Int) := ⟨a.toNat, by omega⟩
    subst ej
    refine jw_iload_2 (pc := 19) C dX6_setCapacity_19 ?_
    refine jw_if_lt (pc := 20) (tgt := 28) C dX6_setCapacity_20 (by decide) hjc (fun c_20 => ?_) (fun c_20 => ?_)
    · have hnc : ¬ (0 ≤ c ∧ c ≤ 4) := fun q => by omega
      refine jw_aload_0 (pc := 28) C dX6_setCapacity_28 ?_
      refine jw_iconst (pc := 29) C dX6_setCapacity_29 ?_
      refine jw_V_I (pc := 30) C (c_X6_fail G ad (0, P.res, P.cap, P.quo, P.wei, P.req, P.grp, P.acc, st, pls, P.mov, P.pl, P.ml, lgd, lr, lp, fr, tr, pr, pp) 2) wd_X6_fail kml_X6_116 0 rfl rfl rfl rfl (Nat.le_of_ble_eq_true rfl) ⟨by decide, by decide⟩ ⟨Nat.zero_le _, Nat.zero_le _⟩ dX6_setCapacity_30 rfl (fun zf uf hf => ?_)
      obtain ⟨ef, eg⟩ := hf
      subst ef
      subst eg
      exact hret _ _ _ (2, P.res, P.cap, P.quo, P.wei, P.req, P.grp, P.acc, st, pls, P.mov, P.pl, P.ml, lgd, lr, lp, fr, tr, pr, pp) dX6_setCapacity_33 (Or.inr (Or.inl ⟨hok.1, hok.2, hnc, rfl, rfl⟩))
    · refine jw_iload_2 (pc := 23) C dX6_setCapacity_23 ?_
      refine jw_iconst (pc := 24) C dX6_setCapacity_24 ?_
      refine jw_icmp_le (pc := 25) (tgt := 34) C dX6_setCapacity_25 (by decide) hjc ⟨by omega, by omega⟩ (fun c_25 => ?_) (fun c_25 => ?_)
      · have hc : (0 ≤ c ∧ c ≤ 4) := ⟨by omega, by omega⟩
        refine jw_aload_0 (pc := 34) C dX6_setCapacity_34 ?_
        refine jw_iconst (pc := 35) C dX6_setCapacity_35 ?_
        refine fp_X6_102 (pc := 36) C 0 rfl (Nat.le_of_ble_eq_true rfl) dX6_setCapacity_36 ?_
        refine jw_aload_0 (pc := 39) C dX6_setCapacity_39 ?_
        refine fg_X6_9 (pc := 40) C 0 rfl rfl dX6_setCapacity_40 ?_
        refine jw_iload_1 (pc := 43) C dX6_setCapacity_43 ?_
        refine jw_iload_2 (pc := 44) C dX6_setCapacity_44 ?_
        refine jw_iast (pc := 45) C 1 rfl j rfl (by omega) (by decide) dX6_setCapacity_45 ?_
        refine jw_iconst (pc := 46) C dX6_setCapacity_46 ?_
        refine jw_istore_3 (pc := 47) C dX6_setCapacity_47 rfl ?_
        refine jw_aload_0 (pc := 48) C dX6_setCapacity_48 ?_
        refine fg_X6_66 (pc := 49) C 0 rfl rfl dX6_setCapacity_49 ?_
        refine jw_iconst (pc := 52) C dX6_setCapacity_52 ?_
        refine jw_isub (pc := 53) C dX6_setCapacity_53 ?_
        refine jw_istore_4 (pc := 54) C dX6_setCapacity_54 rfl ?_
        have K56 : ∀ (n_56 : Nat) (k0 : Nat) (P2 : QP) (b : Int) (S : QR), (PI P2) → (P2.req = P.req) → ((k0 : Int) ≤ P.req) → (P2.cap j = c) → (RR P2 (l.1, l.2.1, 0) S) → (S.thr = 0) → (pBackC j k0 P2 b = (pBackC j P.req.toNat (pCap P j c) 0)) → k0 < n_56 → JW G X 0 0 (wR G ad S) 56 [some (.ref (ad 0)), some (.int (iI (j : Int))), some (.int (iI c)), some (.int (iI b)), some (.int (iI ((k0 : Int) - 1)))] [] := by
          intro n_56
          induction n_56 with
          | zero => intro k0 P2 b S hI2 hq2 hk0 hcp hR2 hth he hm_56; exact absurd hm_56 (Nat.not_lt_zero _)
          | succ n_56 ih_56 =>
            intro k0 P2 b S hI2 hq2 hk0 hcp hR2 hth he hm_56
            refine jw_iload_4 (pc := 56) C dX6_setCapacity_56 ?_
            refine jw_if_lt (pc := 58) (tgt := 100) C dX6_setCapacity_58 (by decide) ⟨by omega, by omega⟩ (fun c_58 => ?_) (fun c_58 => ?_)
            · have ek : k0 = 0 := by omega
              subst ek
              have he2 : (P2, b) = (pBackC j P.req.toNat (pCap P j c) 0) := he
              have hF2 : PFe P2 := by
                have w := PFe_backC (a := j) (c := c) hI hF hc
                rw [← he2] at w
                exact w
              refine jw_aload_0 (pc := 100) C dX6_setCapacity_100 ?_
              refine jw_V_I (pc := 101) C (c_X6_run G ad P2 (l.1, l.2.1, 0) S hI2 hR2 rfl) wd_X6_run kml_X6_119 0 rfl rfl rfl rfl (Nat.le_of_ble_eq_true rfl) ⟨by decide, by decide⟩ ⟨Nat.zero_le _, Nat.zero_le _⟩ dX6_setCapacity_101 rfl (fun z9 u9 h9 => ?_)
              obtain ⟨b1, b2, b3⟩ := h9
              replace b1 : z9 = iI (rn P2 l).2.2 := b1
              replace b2 : RR (rn P2 l).1 (rn P2 l).2.1 u9 := b2
              subst b1
              have hrn := rn_ok (l := l) hI2 hF2
              refine jw_if_ge (pc := 104) (tgt := 111) C dX6_setCapacity_104 (by decide) ⟨by omega, by omega⟩ (fun c_104 => ?_) (fun c_104 => ?_)
              · refine jw_iload_3 (pc := 111) C dX6_setCapacity_111 ?_
                exact hret _ _ _ u9 dX6_setCapacity_112 (Or.inl ⟨hok.1, hok.2, hc, b3.trans hth, by show _ = iI (pBackC j P.req.toNat (pCap P j c) 0).2; rw [← he2], by show RR (rn (pBackC j P.req.toNat (pCap P j c) 0).1 l).1 (rn (pBackC j P.req.toNat (pCap P j c) 0).1 l).2.1 u9; rw [← he2]; exact b2⟩)
              · exact absurd hrn.2.2.1 (by omega)
            · obtain ⟨k, rfl⟩ : ∃ k, k0 = k + 1 := ⟨k0 - 1, by omega⟩
              rw [show ((k + 1 : Nat) : Int) - 1 = (k : Int) by omega]
              refine jw_aload_0 (pc := 61) C dX6_setCapacity_61 ?_
              refine jw_iload_4 (pc := 62) C dX6_setCapacity_62 ?_
              refine jw_iload_1 (pc := 64) C dX6_setCapacity_64 ?_
              refine jw_V_Z (pc := 65) C (c_X6_isAt G ad P2 (l.1, l.2.1, 0) S hI2 hR2 k j (by omega) (by omega)) wd_X6_isAt kml_X6_69 0 rfl rfl rfl rfl (Nat.le_of_ble_eq_true rfl) ⟨by decide, by decide⟩ ⟨Nat.zero_le _, Nat.zero_le _⟩ dX6_setCapacity_65 rfl (fun z u h => ?_)
              subst h
              refine jw_if_eq_b (pc := 68) (tgt := 94) C dX6_setCapacity_68 (by decide) (fun c_68 => ?_) (fun c_68 => ?_)
              · have hnp := of_decide_eq_false c_68
                have K := ih_56 k P2 b S hI2 hq2 (by omega) hcp hR2 hth ((backC_skip (fun q => hnp q.1)).symm.trans he) (by omega)
                refine jw_iinc_4 (pc := 94) C dX6_setCapacity_94 rfl ?_
                refine jw_goto (pc := 97) (tgt := 56) C dX6_setCapacity_97 (by decide) ?_
                exact K
              · have hpp := of_decide_eq_true c_68
                refine jw_aload_0 (pc := 71) C dX6_setCapacity_71 ?_
                refine jw_iload_1 (pc := 72) C dX6_setCapacity_72 ?_
                refine jw_V_I (pc := 73) C (c_X6_loadOf G ad P2 (l.1, l.2.1, 0) S hI2 hR2 j (by omega)) wd_X6_loadOf kml_X6_73 0 rfl rfl rfl rfl (Nat.le_of_ble_eq_true rfl) ⟨by decide, by decide⟩ ⟨Nat.zero_le _, Nat.zero_le _⟩ dX6_setCapacity_73 rfl (fun z u h => ?_)
                subst h
                have hld := hI2.load j
                refine jw_iload_2 (pc := 76) C dX6_setCapacity_76 ?_
                refine jw_icmp_gt (pc := 77) (tgt := 83) C dX6_setCapacity_77 (by decide) ⟨by omega, by omega⟩ hjc (fun c_77 => ?_) (fun c_77 => ?_)
                · have K := ih_56 k (pPut P2 k) (b + 1) (sSt S k) (PI_put hI2 (by omega)) ((pPut_req P2 k).trans hq2) (by omega) (by rw [pPut_cap]; exact hcp) (RR_put hR2 (by omega)) hth ((backC_take hpp (by omega)).symm.trans he) (by omega)
                  refine jw_aload_0 (pc := 83) C dX6_setCapacity_83 ?_
                  refine fg_X6_25 (pc := 84) C 0 rfl rfl dX6_setCapacity_84 ?_
                  refine jw_iload_4 (pc := 87) C dX6_setCapacity_87 ?_
                  refine jw_iconst (pc := 89) C dX6_setCapacity_89 ?_
                  refine jw_iast (pc := 90) C 6 rfl k rfl (by omega) (by decide) dX6_setCapacity_90 ?_
                  refine jw_iinc_3 (pc := 91) C dX6_setCapacity_91 rfl ?_
                  refine jw_iinc_4 (pc := 94) C dX6_setCapacity_94 rfl ?_
                  refine jw_goto (pc := 97) (tgt := 56) C dX6_setCapacity_97 (by decide) ?_
                  exact K
                · have K := ih_56 k P2 b S hI2 hq2 (by omega) hcp hR2 hth ((backC_skip (fun q => by have := q.2; omega)).symm.trans he) (by omega)
                  refine jw_goto (pc := 80) (tgt := 94) C dX6_setCapacity_80 (by decide) ?_
                  refine jw_iinc_4 (pc := 94) C dX6_setCapacity_94 rfl ?_
                  refine jw_goto (pc := 97) (tgt := 56) C dX6_setCapacity_97 (by decide) ?_
                  exact K
        have e0 : (P.req.toNat : Int) = P.req := by omega
        have K := K56 (P.req.toNat + 1) P.req.toNat (pCap P j c) 0 (0, P.res, (updf P.cap j c), P.quo, P.wei, P.req, P.grp, P.acc, st, pls, P.mov, P.pl, P.ml, 0, lr, lp, fr, tr, pr, pp) (PI_cap hI hc) rfl (by omega) (updf_same _ _ _) (RR_cap hRR) rfl rfl (by omega)
        rw [e0] at K
        exact K
      · have hnc : ¬ (0 ≤ c ∧ c ≤ 4) := fun q => by omega
        refine jw_aload_0 (pc := 28) C dX6_setCapacity_28 ?_
        refine jw_iconst (pc := 29) C dX6_setCapacity_29 ?_
        refine jw_V_I (pc := 30) C (c_X6_fail G ad (0, P.res, P.cap, P.quo, P.wei, P.req, P.grp, P.acc, st, pls, P.mov, P.pl, P.ml, lgd, lr, lp, fr, tr, pr, pp) 2) wd_X6_fail kml_X6_116 0 rfl rfl rfl rfl (Nat.le_of_ble_eq_true rfl) ⟨by decide, by decide⟩ ⟨Nat.zero_le _, Nat.zero_le _⟩ dX6_setCapacity_30 rfl (fun zf uf hf => ?_)
        obtain ⟨ef, eg⟩ := hf
        subst ef
        subst eg
        exact hret _ _ _ (2, P.res, P.cap, P.quo, P.wei, P.req, P.grp, P.acc, st, pls, P.mov, P.pl, P.ml, lgd, lr, lp, fr, tr, pr, pp) dX6_setCapacity_33 (Or.inr (Or.inl ⟨hok.1, hok.2, hnc, rfl, rfl⟩))
  · have hno := of_decide_eq_false c_10
    refine jw_aload_0 (pc := 13) C dX6_setCapacity_13 ?_
    refine jw_iconst (pc := 14) C dX6_setCapacity_14 ?_
    refine jw_V_I (pc := 15) C (c_X6_fail G ad (0, P.res, P.cap, P.quo, P.wei, P.req, P.grp, P.acc, st, pls, P.mov, P.pl, P.ml, lgd, lr, lp, fr, tr, pr, pp) 1) wd_X6_fail kml_X6_116 0 rfl rfl rfl rfl (Nat.le_of_ble_eq_true rfl) ⟨by decide, by decide⟩ ⟨Nat.zero_le _, Nat.zero_le _⟩ dX6_setCapacity_15 rfl (fun zf uf hf => ?_)
    obtain ⟨ef, eg⟩ := hf
    subst ef
    subst eg
    exact hret _ _ _ (1, P.res, P.cap, P.quo, P.wei, P.req, P.grp, P.acc, st, pls, P.mov, P.pl, P.ml, lgd, lr, lp, fr, tr, pr, pp) dX6_setCapacity_18 (Or.inr (Or.inr ⟨hno, rfl, rfl⟩))
