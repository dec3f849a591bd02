theorem pPut_ne {P : QP} {r x : Nat} (h : x ≠ r) : (pPut P r).plc x = P.plc x := by
  unfold pPut
  split
  · exact updf_ne _ _ h
  · rfl
theorem RR_gone {P : QP} {l : QL} {R : QR} {j : Nat} (h : RR P l R) : RR (pDismiss P j) (l.1, l.2.1, 0) (0, R.res, R.cap, R.quo, R.wei, R.req, R.grp, R.msk, updf R.st j 2, R.pls, R.mov, R.pl, R.ml, 0, R.lr, R.lp, R.far, R.tri, R.pr, R.pp) := by
  obtain ⟨h1, h2, h3, h4, h5, h6, h7, h8, h9, h10, h11, h12, h13, h14⟩ := h
  refine ⟨h1.trans (pPut_res P j).symm, h2.trans (pPut_cap P j).symm, h3.trans (pPut_quo P j).symm, h4.trans (pPut_wei P j).symm, h5.trans (pPut_req P j).symm, h6.trans (pPut_grp P j).symm, h7.trans (pPut_acc P j).symm, h8.trans (pPut_mov P j).symm, h9.trans (pPut_pl P j).symm, h10.trans (pPut_ml P j).symm, fun x hx => ?_, fun x hx => ?_, rfl, fun i hi => absurd hi (by show ¬ ((i : Int) < 0); omega)⟩
  · have hx2 : (x : Int) < (pPut P j).req := hx
    rw [pPut_req] at hx2
    show updf R.st j 2 x = stN (updf (pPut P j).plc j (-2) x)
    by_cases e : x = j
    · rw [e, updf_same, updf_same]; rfl
    · rw [updf_ne _ _ e, updf_ne _ _ e, pPut_ne e]; exact h11 x hx2
  · have hx2 : (x : Int) < (pPut P j).req := hx
    rw [pPut_req] at hx2
    show 0 ≤ updf (pPut P j).plc j (-2) x → R.pls x = updf (pPut P j).plc j (-2) x
    by_cases e : x = j
    · rw [e, updf_same]; intro q; omega
    · rw [updf_ne _ _ e, pPut_ne e]; exact h12 x hx2
set_option maxRecDepth 100000 in
set_option maxHeartbeats 4000000 in
theorem c_X6_depart (G : jG) (ad : Nat → Nat) (P : QP) (l : QL) (R : QR) (hI : PI P) (hR : RR P l R) (hF : PFe P) (a : Int) (hj : jr a) : CI G yX6_depart cX6_depart 2 (jrm 7 160 0 0) [.ref (ad 0), .int (iI a)] (wR G ad R) (fun (z : Int32) (u : QR) => (0 ≤ a ∧ a < P.req ∧ P.plc a.toNat ≠ -2 ∧ u.thr = 0 ∧ z = iI (rn (pDismiss P a.toNat) l).2.2 ∧ RR (rn (pDismiss P a.toNat) l).1 (rn (pDismiss P a.toNat) l).2.1 u) ∨ (0 ≤ a ∧ a < P.req ∧ P.plc a.toNat = -2 ∧ u.1 = 2 ∧ u.2 = R.2) ∨ (¬ (0 ≤ a ∧ a < P.req) ∧ u.1 = 1 ∧ u.2 = R.2)) (fun u : QR => wR G ad u) 0 0 := by
  refine ci_intro (own := RX6) [some (.ref (ad 0)), some (.int (iI a))] (by decide) rfl rfl rfl (Nat.le_of_ble_eq_true rfl) (fun X C hret => ?_)
  obtain ⟨thr, rs, cp, qu, we, rq, gr, ms, st, pls, mv, plm, mlm, lgd, lr, lp, fr, tr, pr, pp⟩ := R
  obtain ⟨(rfl : rs = P.res), (rfl : cp = P.cap), (rfl : qu = P.quo), (rfl : we = P.wei), (rfl : rq = P.req), (rfl : gr = P.grp), (rfl : ms = P.acc), (rfl : mv = P.mov), (rfl : plm = P.pl), (rfl : mlm = P.ml), (hst : ∀ r : Nat, (r : Int) < P.req → st r = stN (P.plc r)), (hpl : ∀ r : Nat, (r : Int) < P.req → 0 ≤ P.plc r → pls r = P.plc r), (elg : lgd = l.sz), (hlog : ∀ i : Nat, (i : Int) < l.sz → lr i = l.rq i ∧ lp i = l.tg i)⟩ := hR
  have hRR : RR P l (thr, P.res, P.cap, P.quo, P.wei, P.req, P.grp, P.acc, st, pls, P.mov, P.pl, P.ml, lgd, lr, lp, fr, tr, pr, pp) := ⟨rfl, rfl, rfl, rfl, rfl, rfl, rfl, rfl, rfl, rfl, hst, hpl, elg, hlog⟩
  refine jw_eqw (wR9 G ad thr P.res P.cap P.quo P.wei P.req P.grp P.acc st pls P.mov P.pl P.ml lgd lr lp fr tr pr pp) rfl ?_
  have h1 := hI.res
  have h2 := hI.req
  
  refine jw_aload_0 (pc := 0) C dX6_depart_0 ?_
  refine jw_iconst (pc := 1) C dX6_depart_1 ?_
  refine fp_X6_60 (pc := 2) C 0 rfl (Nat.le_of_ble_eq_true rfl) dX6_depart_2 ?_
  refine jw_aload_0 (pc := 5) C dX6_depart_5 ?_
  refine jw_iload_1 (pc := 6) C dX6_depart_6 ?_
  refine jw_V_Z (pc := 7) C (c_X6_isRequest G ad P l (0, P.res, P.cap, P.quo, P.wei, P.req, P.grp, P.acc, st, pls, P.mov, P.pl, P.ml, lgd, lr, lp, fr, tr, pr, pp) hI hRR a hj) wd_X6_isRequest kml_X6_131 0 rfl rfl rfl rfl (Nat.le_of_ble_eq_true rfl) ⟨by decide, by decide⟩ ⟨Nat.zero_le _, Nat.zero_le _⟩ dX6_depart_7 rfl (fun z u h => ?_)
  subst h
  refine jw_eqw (wR9 G ad 0 P.res P.cap P.quo P.wei P.req P.grp P.acc st pls P.mov P.pl P.ml lgd lr lp fr tr pr pp) rfl ?_
  refine jw_if_ne_b (pc := 10) (tgt := 19) C dX6_depart_10 (by decide) (fun c_10 => ?_) (fun c_10 => ?_)
  · have hok := of_decide_eq_true c_10
    obtain ⟨j, ej⟩ : ∃ j : Nat, a = (j : Int) := ⟨a.toNat, by omega⟩
    subst ej
    have q1 := hst j (by omega)
    have q2 := stN_rng (P.plc j)
    have q4 := hI.plc j
    have q3 := stN_2 (p := P.plc j) (by omega)
    refine jw_aload_0 (pc := 19) C dX6_depart_19 ?_
    refine fg_X6_25 (pc := 20) C 0 rfl rfl dX6_depart_20 ?_
    refine jw_iload_1 (pc := 23) C dX6_depart_23 ?_
    refine jw_iald (pc := 24) C 6 rfl j rfl (by omega) (by decide) dX6_depart_24 ?_
    refine jw_iconst (pc := 25) C dX6_depart_25 ?_
    refine jw_icmp_ne (pc := 26) (tgt := 35) C dX6_depart_26 (by decide) ⟨by omega, by omega⟩ ⟨by omega, by omega⟩ (fun c_26 => ?_) (fun c_26 => ?_)
    · have hp : P.plc j ≠ -2 := fun q => c_26 (q1.trans (q3.mpr q))
      refine jw_aload_0 (pc := 35) C dX6_depart_35 ?_
      refine jw_iconst (pc := 36) C dX6_depart_36 ?_
      refine fp_X6_102 (pc := 37) C 0 rfl (Nat.le_of_ble_eq_true rfl) dX6_depart_37 ?_
      refine jw_aload_0 (pc := 40) C dX6_depart_40 ?_
      refine fg_X6_25 (pc := 41) C 0 rfl rfl dX6_depart_41 ?_
      refine jw_iload_1 (pc := 44) C dX6_depart_44 ?_
      refine jw_iconst (pc := 45) C dX6_depart_45 ?_
      refine jw_iast (pc := 46) C 6 rfl j rfl (by omega) (by decide) dX6_depart_46 ?_
      refine jw_aload_0 (pc := 47) C dX6_depart_47 ?_
      refine jw_V_I (pc := 48) C (c_X6_run G ad (pDismiss P j) (l.1, l.2.1, 0) (0, P.res, P.cap, P.quo, P.wei, P.req, P.grp, P.acc, (updf st j 2), pls, P.mov, P.pl, P.ml, 0, lr, lp, fr, tr, pr, pp) (PI_dismiss hI (by omega)) (RR_gone hRR) rfl) wd_X6_run kml_X6_119 0 rfl rfl rfl rfl (Nat.le_of_ble_eq_true rfl) ⟨by decide, by decide⟩ ⟨Nat.zero_le _, Nat.zero_le _⟩ dX6_depart_48 rfl (fun z9 u9 h9 => ?_)
      obtain ⟨b1, b2, b3⟩ := h9
      replace b1 : z9 = iI (rn (pDismiss P j) l).2.2 := b1
      replace b2 : RR (rn (pDismiss P j) l).1 (rn (pDismiss P j) l).2.1 u9 := b2
      subst b1
      exact hret _ _ _ u9 dX6_depart_51 (Or.inl ⟨hok.1, hok.2, hp, b3, rfl, b2⟩)
    · have hp : P.plc j = -2 := q3.mp (q1.symm.trans c_26)
      refine jw_aload_0 (pc := 29) C dX6_depart_29 ?_
      refine jw_iconst (pc := 30) C dX6_depart_30 ?_
      refine jw_V_I (pc := 31) C (c_X6_fail G ad (0, P.res, P.cap, P.quo, P.wei, P.req, P.grp, P.acc, st, pls, P.mov, P.pl, P.ml, lgd, lr, lp, fr, tr, pr, pp) 2) wd_X6_fail kml_X6_116 0 rfl rfl rfl rfl (Nat.le_of_ble_eq_true rfl) ⟨by decide, by decide⟩ ⟨Nat.zero_le _, Nat.zero_le _⟩ dX6_depart_31 rfl (fun zf uf hf => ?_)
      obtain ⟨ef, eg⟩ := hf
      subst ef
      subst eg
      exact hret _ _ _ (2, P.res, P.cap, P.quo, P.wei, P.req, P.grp, P.acc, st, pls, P.mov, P.pl, P.ml, lgd, lr, lp, fr, tr, pr, pp) dX6_depart_34 (Or.inr (Or.inl ⟨hok.1, hok.2, hp, rfl, rfl⟩))
  · have hno := of_decide_eq_false c_10
    refine jw_aload_0 (pc := 13) C dX6_depart_13 ?_
    refine jw_iconst (pc := 14) C dX6_depart_14 ?_
    refine jw_V_I (pc := 15) C (c_X6_fail G ad (0, P.res, P.cap, P.quo, P.wei, P.req, P.grp, P.acc, st, pls, P.mov, P.pl, P.ml, lgd, lr, lp, fr, tr, pr, pp) 1) wd_X6_fail kml_X6_116 0 rfl rfl rfl rfl (Nat.le_of_ble_eq_true rfl) ⟨by decide, by decide⟩ ⟨Nat.zero_le _, Nat.zero_le _⟩ dX6_depart_15 rfl (fun zf uf hf => ?_)
    obtain ⟨ef, eg⟩ := hf
    subst ef
    subst eg
    exact hret _ _ _ (1, P.res, P.cap, P.quo, P.wei, P.req, P.grp, P.acc, st, pls, P.mov, P.pl, P.ml, lgd, lr, lp, fr, tr, pr, pp) dX6_depart_18 (Or.inr (Or.inr ⟨hno, rfl, rfl⟩))
set_option maxRecDepth 100000 in
set_option maxHeartbeats 4000000 in
theorem c_X6_addResource (G : jG) (ad : Nat → Nat) (P : QP) (l : QL) (R : QR) (hI : PI P) (hR : RR P l R) (hF : PFe P) (a : Int) (hj : jr a) : CI G yX6_addResource cX6_addResource 2 (jrm 7 160 0 0) [.ref (ad 0), .int (iI a)] (wR G ad R) (fun (z : Int32) (u : QR) => ((0 ≤ a ∧ a ≤ 4) ∧ P.res < 12 ∧ u.thr = 0 ∧ z = iI P.res ∧ RR (rn (pOpen P a) l).1 (rn (pOpen P a) l).2.1 u) ∨ ((0 ≤ a ∧ a ≤ 4) ∧ P.res = 12 ∧ u.1 = 2 ∧ u.2 = R.2) ∨ (¬ (0 ≤ a ∧ a ≤ 4) ∧ u.1 = 1 ∧ u.2 = R.2)) (fun u : QR => wR G ad u) 0 0 := by
  refine ci_intro (own := RX6) [some (.ref (ad 0)), some (.int (iI a))] (by decide) rfl rfl rfl (Nat.le_of_ble_eq_true rfl) (fun X C hret => ?_)
  obtain ⟨thr, rs, cp, qu, we, rq, gr, ms, st, pls, mv, plm, mlm, lgd, lr, lp, fr, tr, pr, pp⟩ := R
  obtain ⟨(rfl : rs = P.res), (rfl : cp = P.cap), (rfl : qu = P.quo), (rfl : we = P.wei), (rfl : rq = P.req), (rfl : gr = P.grp), (rfl : ms = P.acc), (rfl : mv = P.mov), (rfl : plm = P.pl), (rfl : mlm = P.ml), (hst : ∀ r : Nat, (r : Int) < P.req → st r = stN (P.plc r)), (hpl : ∀ r : Nat, (r : Int) < P.req → 0 ≤ P.plc r → pls r = P.plc r), (elg : lgd = l.sz), (hlog : ∀ i : Nat, (i : Int) < l.sz → lr i = l.rq i ∧ lp i = l.tg i)⟩ := hR
  have hRR : RR P l (thr, P.res, P.cap, P.quo, P.wei, P.req, P.grp, P.acc, st, pls, P.mov, P.pl, P.ml, lgd, lr, lp, fr, tr, pr, pp) := ⟨rfl, rfl, rfl, rfl, rfl, rfl, rfl, rfl, rfl, rfl, hst, hpl, elg, hlog⟩
  refine jw_eqw (wR9 G ad thr P.res P.cap P.quo P.wei P.req P.grp P.acc st pls P.mov P.pl P.ml lgd lr lp fr tr pr pp) rfl ?_
  have h1 := hI.res
  have h2 := hI.req
  
  refine jw_aload_0 (pc := 0) C dX6_addResource_0 ?_
  refine jw_iconst (pc := 1) C dX6_addResource_1 ?_
  refine fp_X6_60 (pc := 2) C 0 rfl (Nat.le_of_ble_eq_true rfl) dX6_addResource_2 ?_
  refine jw_iload_1 (pc := 5) C dX6_addResource_5 ?_
  refine jw_if_lt (pc := 6) (tgt := 14) C dX6_addResource_6 (by decide) hj (fun c_6 => ?_) (fun c_6 => ?_)
  · have hno : ¬ (0 ≤ a ∧ a ≤ 4) := fun q => by omega
    refine jw_aload_0 (pc := 14) C dX6_addResource_14 ?_
    refine jw_iconst (pc := 15) C dX6_addResource_15 ?_
    refine jw_V_I (pc := 16) C (c_X6_fail G ad (0, P.res, P.cap, P.quo, P.wei, P.req, P.grp, P.acc, st, pls, P.mov, P.pl, P.ml, lgd, lr, lp, fr, tr, pr, pp) 1) wd_X6_fail kml_X6_116 0 rfl rfl rfl rfl (Nat.le_of_ble_eq_true rfl) ⟨by decide, by decide⟩ ⟨Nat.zero_le _, Nat.zero_le _⟩ dX6_addResource_16 rfl (fun zf uf hf => ?_)
    obtain ⟨ef, eg⟩ := hf
    subst ef
    subst eg
    exact hret _ _ _ (1, P.res, P.cap, P.quo, P.wei, P.req, P.grp, P.acc, st, pls, P.mov, P.pl, P.ml, lgd, lr, lp, fr, tr, pr, pp) dX6_addResource_19 (Or.inr (Or.inr ⟨hno, rfl, rfl⟩))
  · refine jw_iload_1 (pc := 9) C dX6_addResource_9 ?_
    refine jw_iconst (pc := 10) C dX6_addResource_10 ?_
    refine jw_icmp_le (pc := 11) (tgt := 20) C dX6_addResource_11 (by decide) hj ⟨by omega, by omega⟩ (fun c_11 => ?_) (fun c_11 => ?_)
    · have hok : 0 ≤ a ∧ a ≤ 4 := ⟨by omega, by omega⟩
      refine jw_aload_0 (pc := 20) C dX6_addResource_20 ?_
      refine fg_X6_63 (pc := 21) C 0 rfl rfl dX6_addResource_21 ?_
      refine jw_bipush (pc := 24) C dX6_addResource_24 (by decide) ?_
      refine jw_icmp_ne (pc := 26) (tgt := 35) C dX6_addResource_26 (by decide) ⟨by omega, by omega⟩ ⟨by omega, by omega⟩ (fun c_26 => ?_) (fun c_26 => ?_)
      · have hlt : P.res < 12 := by omega
        refine jw_aload_0 (pc := 35) C dX6_addResource_35 ?_
        refine jw_iconst (pc := 36) C dX6_addResource_36 ?_
        refine fp_X6_102 (pc := 37) C 0 rfl (Nat.le_of_ble_eq_true rfl) dX6_addResource_37 ?_
        refine jw_aload_0 (pc := 40) C dX6_addResource_40 ?_
        refine fg_X6_9 (pc := 41) C 0 rfl rfl dX6_addResource_41 ?_
        refine jw_aload_0 (pc := 44) C dX6_addResource_44 ?_
        refine fg_X6_63 (pc := 45) C 0 rfl rfl dX6_addResource_45 ?_
        refine jw_iload_1 (pc := 48) C dX6_addResource_48 ?_
        refine jw_iast (pc := 49) C 1 rfl P.res.toNat (by omega) (by omega) (by decide) dX6_addResource_49 ?_
        refine jw_aload_0 (pc := 50) C dX6_addResource_50 ?_
        refine jw_dup (pc := 51) C dX6_addResource_51 rfl ?_
        refine fg_X6_63 (pc := 52) C 0 rfl rfl dX6_addResource_52 ?_
        refine jw_iconst (pc := 55) C dX6_addResource_55 ?_
        refine jw_iadd (pc := 56) C dX6_addResource_56 ?_
        refine fp_X6_63 (pc := 57) C 0 rfl (Nat.le_of_ble_eq_true rfl) dX6_addResource_57 ?_
        refine jw_aload_0 (pc := 60) C dX6_addResource_60 ?_
        refine jw_V_I (pc := 61) C (c_X6_run G ad (pOpen P a) (l.1, l.2.1, 0) (0, P.res + 1, (updf P.cap P.res.toNat a), P.quo, P.wei, P.req, P.grp, P.acc, st, pls, P.mov, P.pl, P.ml, 0, lr, lp, fr, tr, pr, pp) (PI_open hI hlt hok) ⟨rfl, rfl, rfl, rfl, rfl, rfl, rfl, rfl, rfl, rfl, hst, hpl, rfl, fun i hi => absurd hi (by show ¬ ((i : Int) < 0); omega)⟩ rfl) wd_X6_run kml_X6_119 0 rfl rfl rfl rfl (Nat.le_of_ble_eq_true rfl) ⟨by decide, by decide⟩ ⟨Nat.zero_le _, Nat.zero_le _⟩ dX6_addResource_61 rfl (fun z9 u9 h9 => ?_)
        obtain ⟨b1, b2, b3⟩ := h9
        replace b1 : z9 = iI (rn (pOpen P a) l).2.2 := b1
        replace b2 : RR (rn (pOpen P a) l).1 (rn (pOpen P a) l).2.1 u9 := b2
        subst b1
        have hrn := rn_ok (l := l) (PI_open hI hlt hok) (PFe_open hI hF hok.1)
        have hre : u9.res = P.res + 1 := b2.1.trans hrn.2.1.1
        refine jw_if_ge (pc := 64) (tgt := 71) C dX6_addResource_64 (by decide) ⟨by omega, by omega⟩ (fun c_64 => ?_) (fun c_64 => ?_)
        · refine jw_aload_0 (pc := 71) C dX6_addResource_71 ?_
          refine fg_X6_63 (pc := 72) C 0 rfl rfl dX6_addResource_72 ?_
          rw [show QR.res u9 = P.res + 1 from hre]
          refine jw_iconst (pc := 75) C dX6_addResource_75 ?_
          refine jw_isub (pc := 76) C dX6_addResource_76 ?_
          exact hret _ _ _ u9 dX6_addResource_77 (Or.inl ⟨hok, hlt, b3, congrArg iI (by omega), b2⟩)
        · exact absurd hrn.2.2.1 (by omega)
      · have h12 : P.res = 12 := c_26
        refine jw_aload_0 (pc := 29) C dX6_addResource_29 ?_
        refine jw_iconst (pc := 30) C dX6_addResource_30 ?_
        refine jw_V_I (pc := 31) C (c_X6_fail G ad (0, P.res, P.cap, P.quo, P.wei, P.req, P.grp, P.acc, st, pls, P.mov, P.pl, P.ml, lgd, lr, lp, fr, tr, pr, pp) 2) wd_X6_fail kml_X6_116 0 rfl rfl rfl rfl (Nat.le_of_ble_eq_true rfl) ⟨by decide, by decide⟩ ⟨Nat.zero_le _, Nat.zero_le _⟩ dX6_addResource_31 rfl (fun zf uf hf => ?_)
        obtain ⟨ef, eg⟩ := hf
        subst ef
        subst eg
        exact hret _ _ _ (2, P.res, P.cap, P.quo, P.wei, P.req, P.grp, P.acc, st, pls, P.mov, P.pl, P.ml, lgd, lr, lp, fr, tr, pr, pp) dX6_addResource_34 (Or.inr (Or.inl ⟨hok, h12, rfl, rfl⟩))
    · have hno : ¬ (0 ≤ a ∧ a ≤ 4) := fun q => by omega
      refine jw_aload_0 (pc := 14) C dX6_addResource_14 ?_
      refine jw_iconst (pc := 15) C dX6_addResource_15 ?_
      refine jw_V_I (pc := 16) C (c_X6_fail G ad (0, P.res, P.cap, P.quo, P.wei, P.req, P.grp, P.acc, st, pls, P.mov, P.pl, P.ml, lgd, lr, lp, fr, tr, pr, pp) 1) wd_X6_fail kml_X6_116 0 rfl rfl rfl rfl (Nat.le_of_ble_eq_true rfl) ⟨by decide, by decide⟩ ⟨Nat.zero_le _, Nat.zero_le _⟩ dX6_addResource_16 rfl (fun zf uf hf => ?_)
      obtain ⟨ef, eg⟩ := hf
      subst ef
      subst eg
      exact hret _ _ _ (1, P.res, P.cap, P.quo, P.wei, P.req, P.grp, P.acc, st, pls, P.mov, P.pl, P.ml, lgd, lr, lp, fr, tr, pr, pp) dX6_addResource_19 (Or.inr (Or.inr ⟨hno, rfl, rfl⟩))
