set_option maxRecDepth 100000 in
set_option maxHeartbeats 4000000 in
theorem c_X6_setLimits (G : jG) (ad : Nat → Nat) (P : QP) (l : QL) (R : QR) (hI : PI P) (hR : RR P l R) (hF : PFe P) (x : Int) (hjx : jr x) (y : Int) (hjy : jr y) : CI G yX6_setLimits cX6_setLimits 3 (jrm 7 160 0 0) [.ref (ad 0), .int (iI x), .int (iI y)] (wR G ad R) (fun (z : Int32) (u : QR) => (((0 ≤ x ∧ x ≤ 5) ∧ (0 ≤ y ∧ y ≤ 20)) ∧ u.thr = 0 ∧ z = iI (rn (pLim P x y) l).2.2 ∧ RR (rn (pLim P x y) l).1 (rn (pLim P x y) l).2.1 u) ∨ (¬ ((0 ≤ x ∧ x ≤ 5) ∧ (0 ≤ y ∧ y ≤ 20)) ∧ u.1 = 1 ∧ u.2 = R.2)) (fun u : QR => wR G ad u) 0 0 := by
  refine ci_intro (own := RX6) [some (.ref (ad 0)), some (.int (iI x)), some (.int (iI y))] (by decide) rfl rfl rfl (Nat.le_of_ble_eq_true rfl) (fun X C hret => ?_)
  obtain ⟨thr, rs, cp, qu, we, rq, gr, ms, st, pls, mv, plm, mlm, lgd, lr, lp, fr, tr, pr, pp⟩ := R
  obtain ⟨(rfl : rs = P.res), (rfl : cp = P.cap), (rfl : qu = P.quo), (rfl : we = P.wei), (rfl : rq = P.req), (rfl : gr = P.grp), (rfl : ms = P.acc), (rfl : mv = P.mov), (rfl : plm = P.pl), (rfl : mlm = P.ml), (hst : ∀ r : Nat, (r : Int) < P.req → st r = stN (P.plc r)), (hpl : ∀ r : Nat, (r : Int) < P.req → 0 ≤ P.plc r → pls r = P.plc r), (elg : lgd = l.sz), (hlog : ∀ i : Nat, (i : Int) < l.sz → lr i = l.rq i ∧ lp i = l.tg i)⟩ := hR
  have hRR : RR P l (thr, P.res, P.cap, P.quo, P.wei, P.req, P.grp, P.acc, st, pls, P.mov, P.pl, P.ml, lgd, lr, lp, fr, tr, pr, pp) := ⟨rfl, rfl, rfl, rfl, rfl, rfl, rfl, rfl, rfl, rfl, hst, hpl, elg, hlog⟩
  refine jw_eqw (wR9 G ad thr P.res P.cap P.quo P.wei P.req P.grp P.acc st pls P.mov P.pl P.ml lgd lr lp fr tr pr pp) rfl ?_
  have h1 := hI.res
  have h2 := hI.req
  
  refine jw_aload_0 (pc := 0) C dX6_setLimits_0 ?_
  refine jw_iconst (pc := 1) C dX6_setLimits_1 ?_
  refine fp_X6_60 (pc := 2) C 0 rfl (Nat.le_of_ble_eq_true rfl) dX6_setLimits_2 ?_
  refine jw_iload_1 (pc := 5) C dX6_setLimits_5 ?_
  refine jw_if_lt (pc := 6) (tgt := 24) C dX6_setLimits_6 (by decide) hjx (fun c_6 => ?_) (fun c_6 => ?_)
  · have hno : ¬ ((0 ≤ x ∧ x ≤ 5) ∧ (0 ≤ y ∧ y ≤ 20)) := fun q => by omega
    refine jw_aload_0 (pc := 24) C dX6_setLimits_24 ?_
    refine jw_iconst (pc := 25) C dX6_setLimits_25 ?_
    refine jw_V_I (pc := 26) C (c_X6_fail G ad (0, P.res, P.cap, P.quo, P.wei, P.req, P.grp, P.acc, st, pls, P.mov, P.pl, P.ml, lgd, lr, lp, fr, tr, pr, pp) 1) wd_X6_fail kml_X6_116 0 rfl rfl rfl rfl (Nat.le_of_ble_eq_true rfl) ⟨by decide, by decide⟩ ⟨Nat.zero_le _, Nat.zero_le _⟩ dX6_setLimits_26 rfl (fun zf uf hf => ?_)
    obtain ⟨ef, eg⟩ := hf
    subst ef
    subst eg
    exact hret _ _ _ (1, P.res, P.cap, P.quo, P.wei, P.req, P.grp, P.acc, st, pls, P.mov, P.pl, P.ml, lgd, lr, lp, fr, tr, pr, pp) dX6_setLimits_29 (Or.inr ⟨hno, rfl, rfl⟩)
  · refine jw_iload_1 (pc := 9) C dX6_setLimits_9 ?_
    refine jw_iconst (pc := 10) C dX6_setLimits_10 ?_
    refine jw_icmp_gt (pc := 11) (tgt := 24) C dX6_setLimits_11 (by decide) hjx ⟨by omega, by omega⟩ (fun c_11 => ?_) (fun c_11 => ?_)
    · have hno : ¬ ((0 ≤ x ∧ x ≤ 5) ∧ (0 ≤ y ∧ y ≤ 20)) := fun q => by omega
      refine jw_aload_0 (pc := 24) C dX6_setLimits_24 ?_
      refine jw_iconst (pc := 25) C dX6_setLimits_25 ?_
      refine jw_V_I (pc := 26) C (c_X6_fail G ad (0, P.res, P.cap, P.quo, P.wei, P.req, P.grp, P.acc, st, pls, P.mov, P.pl, P.ml, lgd, lr, lp, fr, tr, pr, pp) 1) wd_X6_fail kml_X6_116 0 rfl rfl rfl rfl (Nat.le_of_ble_eq_true rfl) ⟨by decide, by decide⟩ ⟨Nat.zero_le _, Nat.zero_le _⟩ dX6_setLimits_26 rfl (fun zf uf hf => ?_)
      obtain ⟨ef, eg⟩ := hf
      subst ef
      subst eg
      exact hret _ _ _ (1, P.res, P.cap, P.quo, P.wei, P.req, P.grp, P.acc, st, pls, P.mov, P.pl, P.ml, lgd, lr, lp, fr, tr, pr, pp) dX6_setLimits_29 (Or.inr ⟨hno, rfl, rfl⟩)
    · refine jw_iload_2 (pc := 14) C dX6_setLimits_14 ?_
      refine jw_if_lt (pc := 15) (tgt := 24) C dX6_setLimits_15 (by decide) hjy (fun c_15 => ?_) (fun c_15 => ?_)
      · have hno : ¬ ((0 ≤ x ∧ x ≤ 5) ∧ (0 ≤ y ∧ y ≤ 20)) := fun q => by omega
        refine jw_aload_0 (pc := 24) C dX6_setLimits_24 ?_
        refine jw_iconst (pc := 25) C dX6_setLimits_25 ?_
        refine jw_V_I (pc := 26) C (c_X6_fail G ad (0, P.res, P.cap, P.quo, P.wei, P.req, P.grp, P.acc, st, pls, P.mov, P.pl, P.ml, lgd, lr, lp, fr, tr, pr, pp) 1) wd_X6_fail kml_X6_116 0 rfl rfl rfl rfl (Nat.le_of_ble_eq_true rfl) ⟨by decide, by decide⟩ ⟨Nat.zero_le _, Nat.zero_le _⟩ dX6_setLimits_26 rfl (fun zf uf hf => ?_)
        obtain ⟨ef, eg⟩ := hf
        subst ef
        subst eg
        exact hret _ _ _ (1, P.res, P.cap, P.quo, P.wei, P.req, P.grp, P.acc, st, pls, P.mov, P.pl, P.ml, lgd, lr, lp, fr, tr, pr, pp) dX6_setLimits_29 (Or.inr ⟨hno, rfl, rfl⟩)
      · refine jw_iload_2 (pc := 18) C dX6_setLimits_18 ?_
        refine jw_bipush (pc := 19) C dX6_setLimits_19 (by decide) ?_
        refine jw_icmp_le (pc := 21) (tgt := 30) C dX6_setLimits_21 (by decide) hjy ⟨by omega, by omega⟩ (fun c_21 => ?_) (fun c_21 => ?_)
        · have hok : (0 ≤ x ∧ x ≤ 5) ∧ (0 ≤ y ∧ y ≤ 20) := ⟨⟨by omega, by omega⟩, by omega, by omega⟩
          refine jw_aload_0 (pc := 30) C dX6_setLimits_30 ?_
          refine jw_iconst (pc := 31) C dX6_setLimits_31 ?_
          refine fp_X6_102 (pc := 32) C 0 rfl (Nat.le_of_ble_eq_true rfl) dX6_setLimits_32 ?_
          refine jw_aload_0 (pc := 35) C dX6_setLimits_35 ?_
          refine jw_iload_1 (pc := 36) C dX6_setLimits_36 ?_
          refine fp_X6_34 (pc := 37) C 0 rfl (Nat.le_of_ble_eq_true rfl) dX6_setLimits_37 ?_
          refine jw_aload_0 (pc := 40) C dX6_setLimits_40 ?_
          refine jw_iload_2 (pc := 41) C dX6_setLimits_41 ?_
          refine fp_X6_38 (pc := 42) C 0 rfl (Nat.le_of_ble_eq_true rfl) dX6_setLimits_42 ?_
          refine jw_aload_0 (pc := 45) C dX6_setLimits_45 ?_
          refine jw_V_I (pc := 46) C (c_X6_run G ad (pLim P x y) (l.1, l.2.1, 0) (0, P.res, P.cap, P.quo, P.wei, P.req, P.grp, P.acc, st, pls, P.mov, x, y, 0, lr, lp, fr, tr, pr, pp) (PI_lim hI hok.1 hok.2) ⟨rfl, rfl, rfl, rfl, rfl, rfl, rfl, rfl, rfl, rfl, hst, hpl, rfl, fun i hi => absurd hi (by show ¬ ((i : Int) < 0); omega)⟩ rfl) wd_X6_run kml_X6_119 0 rfl rfl rfl rfl (Nat.le_of_ble_eq_true rfl) ⟨by decide, by decide⟩ ⟨Nat.zero_le _, Nat.zero_le _⟩ dX6_setLimits_46 rfl (fun z9 u9 h9 => ?_)
          obtain ⟨b1, b2, b3⟩ := h9
          replace b1 : z9 = iI (rn (pLim P x y) l).2.2 := b1
          replace b2 : RR (rn (pLim P x y) l).1 (rn (pLim P x y) l).2.1 u9 := b2
          subst b1
          exact hret _ _ _ u9 dX6_setLimits_49 (Or.inl ⟨hok, b3, rfl, b2⟩)
        · have hno : ¬ ((0 ≤ x ∧ x ≤ 5) ∧ (0 ≤ y ∧ y ≤ 20)) := fun q => by omega
          refine jw_aload_0 (pc := 24) C dX6_setLimits_24 ?_
          refine jw_iconst (pc := 25) C dX6_setLimits_25 ?_
          refine jw_V_I (pc := 26) C (c_X6_fail G ad (0, P.res, P.cap, P.quo, P.wei, P.req, P.grp, P.acc, st, pls, P.mov, P.pl, P.ml, lgd, lr, lp, fr, tr, pr, pp) 1) wd_X6_fail kml_X6_116 0 rfl rfl rfl rfl (Nat.le_of_ble_eq_true rfl) ⟨by decide, by decide⟩ ⟨Nat.zero_le _, Nat.zero_le _⟩ dX6_setLimits_26 rfl (fun zf uf hf => ?_)
          obtain ⟨ef, eg⟩ := hf
          subst ef
          subst eg
          exact hret _ _ _ (1, P.res, P.cap, P.quo, P.wei, P.req, P.grp, P.acc, st, pls, P.mov, P.pl, P.ml, lgd, lr, lp, fr, tr, pr, pp) dX6_setLimits_29 (Or.inr ⟨hno, rfl, rfl⟩)
set_option maxRecDepth 100000 in
set_option maxHeartbeats 4000000 in
theorem c_X6_movesNeeded (G : jG) (ad : Nat → Nat) (P : QP) (l : QL) (R : QR) (hI : PI P) (hR : RR P l R) (a : Int) (hj : jr a) : CI G yX6_movesNeeded cX6_movesNeeded 3 (jrm 5 112 0 0) [.ref (ad 0), .int (iI a)] (wR G ad R) (fun (z : Int32) (u : QR) => (∃ f : Nat → Int, u.2 = (sFar R f).2) ∧ ((0 ≤ a ∧ a < P.req ∧ P.plc a.toNat = -1 ∧ u.1 = 0 ∧ z = iI (minL P (P.acc a.toNat) - 1)) ∨ (0 ≤ a ∧ a < P.req ∧ ¬ P.plc a.toNat = -1 ∧ u.1 = 2) ∨ (¬ (0 ≤ a ∧ a < P.req) ∧ u.1 = 1))) (fun u : QR => wR G ad u) 0 0 := by
  refine ci_intro (own := RX6) [some (.ref (ad 0)), some (.int (iI a)), none] (by decide) rfl rfl rfl (Nat.le_of_ble_eq_true rfl) (fun X C hret => ?_)
  obtain ⟨thr, rs, cp, qu, we, rq, gr, ms, st, pls, mv, plm, mlm, lgd, lr, lp, fr, tr, pr, pp⟩ := R
  obtain ⟨(rfl : rs = P.res), (rfl : cp = P.cap), (rfl : qu = P.quo), (rfl : we = P.wei), (rfl : rq = P.req), (rfl : gr = P.grp), (rfl : ms = P.acc), (rfl : mv = P.mov), (rfl : plm = P.pl), (rfl : mlm = P.ml), (hst : ∀ r : Nat, (r : Int) < P.req → st r = stN (P.plc r)), (hpl : ∀ r : Nat, (r : Int) < P.req → 0 ≤ P.plc r → pls r = P.plc r), (elg : lgd = l.sz), (hlog : ∀ i : Nat, (i : Int) < l.sz → lr i = l.rq i ∧ lp i = l.tg i)⟩ := hR
  have hRR : RR P l (thr, P.res, P.cap, P.quo, P.wei, P.req, P.grp, P.acc, st, pls, P.mov, P.pl, P.ml, lgd, lr, lp, fr, tr, pr, pp) := ⟨rfl, rfl, rfl, rfl, rfl, rfl, rfl, rfl, rfl, rfl, hst, hpl, elg, hlog⟩
  refine jw_eqw (wR9 G ad thr P.res P.cap P.quo P.wei P.req P.grp P.acc st pls P.mov P.pl P.ml lgd lr lp fr tr pr pp) rfl ?_
  have h1 := hI.res
  have h2 := hI.req
  
  refine jw_aload_0 (pc := 0) C dX6_movesNeeded_0 ?_
  refine jw_iconst (pc := 1) C dX6_movesNeeded_1 ?_
  refine fp_X6_60 (pc := 2) C 0 rfl (Nat.le_of_ble_eq_true rfl) dX6_movesNeeded_2 ?_
  refine jw_aload_0 (pc := 5) C dX6_movesNeeded_5 ?_
  refine jw_iload_1 (pc := 6) C dX6_movesNeeded_6 ?_
  refine jw_V_Z (pc := 7) C (c_X6_isRequest G ad P l (0, P.res, P.cap, P.quo, P.wei, P.req, P.grp, P.acc, st, pls, P.mov, P.pl, P.ml, lgd, lr, lp, fr, tr, pr, pp) hI hRR a hj) wd_X6_isRequest kml_X6_131 0 rfl rfl rfl rfl (Nat.le_of_ble_eq_true rfl) ⟨by decide, by decide⟩ ⟨Nat.zero_le _, Nat.zero_le _⟩ dX6_movesNeeded_7 rfl (fun z u h => ?_)
  subst h
  refine jw_eqw (wR9 G ad 0 P.res P.cap P.quo P.wei P.req P.grp P.acc st pls P.mov P.pl P.ml lgd lr lp fr tr pr pp) rfl ?_
  refine jw_if_ne_b (pc := 10) (tgt := 19) C dX6_movesNeeded_10 (by decide) (fun c_10 => ?_) (fun c_10 => ?_)
  · have hok := of_decide_eq_true c_10
    obtain ⟨j, ej⟩ : ∃ j : Nat, a = (j : Int) := ⟨a.toNat, by omega⟩
    subst ej
    have q1 := hst j (by omega)
    have q2 := stN_rng (P.plc j)
    have q3 := @stN_0 (P.plc j)
    refine jw_aload_0 (pc := 19) C dX6_movesNeeded_19 ?_
    refine fg_X6_25 (pc := 20) C 0 rfl rfl dX6_movesNeeded_20 ?_
    refine jw_iload_1 (pc := 23) C dX6_movesNeeded_23 ?_
    refine jw_iald (pc := 24) C 6 rfl j rfl (by omega) (by decide) dX6_movesNeeded_24 ?_
    refine jw_if_eq (pc := 25) (tgt := 34) C dX6_movesNeeded_25 (by decide) ⟨by omega, by omega⟩ (fun c_25 => ?_) (fun c_25 => ?_)
    · have hp : P.plc j = -1 := by omega
      refine jw_aload_0 (pc := 34) C dX6_movesNeeded_34 ?_
      refine jw_iload_1 (pc := 35) C dX6_movesNeeded_35 ?_
      refine jw_V_I (pc := 36) C (c_X6_firstOf G ad P l (0, P.res, P.cap, P.quo, P.wei, P.req, P.grp, P.acc, st, pls, P.mov, P.pl, P.ml, lgd, lr, lp, fr, tr, pr, pp) hI ⟨rfl, rfl, rfl, rfl, rfl, rfl, rfl, rfl, rfl, rfl, hst, hpl, elg, hlog⟩ j (by omega)) wd_X6_firstOf kml_X6_92 0 rfl rfl rfl rfl (Nat.le_of_ble_eq_true rfl) ⟨by decide, by decide⟩ ⟨Nat.zero_le _, Nat.zero_le _⟩ dX6_movesNeeded_36 rfl (fun zf f hf9 => ?_)
      obtain ⟨ez, hf⟩ := hf9
      subst ez
      refine jw_eqw (wR9 G ad 0 P.res P.cap P.quo P.wei P.req P.grp P.acc st pls P.mov P.pl P.ml lgd lr lp f tr pr pp) rfl ?_
      obtain ⟨v, hv⟩ : ∃ v : Int, v = fstA P (P.acc j) := ⟨_, rfl⟩
      rw [← hv]
      have hvr : -1 ≤ v ∧ v < 12 := by
        by_cases q : fstA P (P.acc j) = -1
        · omega
        · obtain ⟨a0, L, k1, k2, -⟩ := fst_pos hI q
          omega
      refine jw_istore_2 (pc := 39) C dX6_movesNeeded_39 rfl ?_
      refine jw_iload_2 (pc := 40) C dX6_movesNeeded_40 ?_
      refine jw_iconst (pc := 41) C dX6_movesNeeded_41 ?_
      refine jw_icmp_ne (pc := 42) (tgt := 49) C dX6_movesNeeded_42 (by decide) ⟨by omega, by omega⟩ ⟨by omega, by omega⟩ (fun c_42 => ?_) (fun c_42 => ?_)
      · obtain ⟨a0, L, k1, k2, k3, k4, k5, k6⟩ := fst_pos hI (fun q => c_42 (hv.trans q))
        obtain rfl : v = (a0 : Int) := hv.trans k2
        have hfa0 := hf a0 k1
        have hz : f a0 - 1 = minL P (P.acc j) - 1 := by omega
        refine jw_aload_0 (pc := 49) C dX6_movesNeeded_49 ?_
        refine fg_X6_47 (pc := 50) C 0 rfl rfl dX6_movesNeeded_50 ?_
        refine jw_iload_2 (pc := 53) C dX6_movesNeeded_53 ?_
        refine jw_iald (pc := 54) C 11 rfl a0 rfl (by omega) (by decide) dX6_movesNeeded_54 ?_
        refine jw_iconst (pc := 55) C dX6_movesNeeded_55 ?_
        refine jw_isub (pc := 56) C dX6_movesNeeded_56 ?_
        exact hret _ _ _ (0, P.res, P.cap, P.quo, P.wei, P.req, P.grp, P.acc, st, pls, P.mov, P.pl, P.ml, lgd, lr, lp, f, tr, pr, pp) dX6_movesNeeded_57 ⟨⟨f, rfl⟩, Or.inl ⟨hok.1, hok.2, hp, rfl, congrArg iI hz⟩⟩
      · have hm0 := fst_neg hI (hv.symm.trans c_42)
        have hz : (-1 : Int) = minL P (P.acc j) - 1 := by omega
        refine jw_iconst (pc := 45) C dX6_movesNeeded_45 ?_
        refine jw_goto (pc := 46) (tgt := 57) C dX6_movesNeeded_46 (by decide) ?_
        exact hret _ _ _ (0, P.res, P.cap, P.quo, P.wei, P.req, P.grp, P.acc, st, pls, P.mov, P.pl, P.ml, lgd, lr, lp, f, tr, pr, pp) dX6_movesNeeded_57 ⟨⟨f, rfl⟩, Or.inl ⟨hok.1, hok.2, hp, rfl, congrArg iI hz⟩⟩
    · have hp : ¬ P.plc j = -1 := by omega
      refine jw_aload_0 (pc := 28) C dX6_movesNeeded_28 ?_
      refine jw_iconst (pc := 29) C dX6_movesNeeded_29 ?_
      refine jw_V_I (pc := 30) C (c_X6_fail G ad (0, P.res, P.cap, P.quo, P.wei, P.req, P.grp, P.acc, st, pls, P.mov, P.pl, P.ml, lgd, lr, lp, fr, tr, pr, pp) 2) wd_X6_fail kml_X6_116 0 rfl rfl rfl rfl (Nat.le_of_ble_eq_true rfl) ⟨by decide, by decide⟩ ⟨Nat.zero_le _, Nat.zero_le _⟩ dX6_movesNeeded_30 rfl (fun zf uf hf => ?_)
      obtain ⟨ef, eg⟩ := hf
      subst ef
      subst eg
      exact hret _ _ _ (2, P.res, P.cap, P.quo, P.wei, P.req, P.grp, P.acc, st, pls, P.mov, P.pl, P.ml, lgd, lr, lp, fr, tr, pr, pp) dX6_movesNeeded_33 ⟨⟨fr, rfl⟩, Or.inr (Or.inl ⟨hok.1, hok.2, hp, rfl⟩)⟩
  · have hno := of_decide_eq_false c_10
    refine jw_aload_0 (pc := 13) C dX6_movesNeeded_13 ?_
    refine jw_iconst (pc := 14) C dX6_movesNeeded_14 ?_
    refine jw_V_I (pc := 15) C (c_X6_fail G ad (0, P.res, P.cap, P.quo, P.wei, P.req, P.grp, P.acc, st, pls, P.mov, P.pl, P.ml, lgd, lr, lp, fr, tr, pr, pp) 1) wd_X6_fail kml_X6_116 0 rfl rfl rfl rfl (Nat.le_of_ble_eq_true rfl) ⟨by decide, by decide⟩ ⟨Nat.zero_le _, Nat.zero_le _⟩ dX6_movesNeeded_15 rfl (fun zf uf hf => ?_)
    obtain ⟨ef, eg⟩ := hf
    subst ef
    subst eg
    exact hret _ _ _ (1, P.res, P.cap, P.quo, P.wei, P.req, P.grp, P.acc, st, pls, P.mov, P.pl, P.ml, lgd, lr, lp, fr, tr, pr, pp) dX6_movesNeeded_18 ⟨⟨fr, rfl⟩, Or.inr (Or.inr ⟨hno, rfl⟩)⟩
