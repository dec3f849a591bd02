set_option maxRecDepth 100000 in
set_option maxHeartbeats 4000000 in
theorem c_X6_resourceCount (G : jG) (ad : Nat → Nat) (P : QP) (l : QL) (R : QR) (hI : PI P) (hR : RR P l R)  : CI G yX6_resourceCount cX6_resourceCount 1 (jrm 0 0 0 0) [.ref (ad 0)] (wR G ad R) (fun (z : Int32) (u : QR) => u.2 = R.2 ∧ u.1 = 0 ∧ z = iI (P.res)) (fun u : QR => wR G ad u) 0 0 := by
  refine ci_intro (own := RX6) [some (.ref (ad 0))] (by decide) rfl rfl rfl (Nat.le_of_ble_eq_true rfl) (fun X C hret => ?_)
  obtain ⟨thr, rs, cp, qu, we, rq, gr, ms, st, pls, mv, plm, mlm, lgd, lr, lp, fr, tr, pr, pp⟩ := R
  obtain ⟨(rfl : rs = P.res), (rfl : cp = P.cap), (rfl : qu = P.quo), (rfl : we = P.wei), (rfl : rq = P.req), (rfl : gr = P.grp), (rfl : ms = P.acc), (rfl : mv = P.mov), (rfl : plm = P.pl), (rfl : mlm = P.ml), (hst : ∀ r : Nat, (r : Int) < P.req → st r = stN (P.plc r)), (hpl : ∀ r : Nat, (r : Int) < P.req → 0 ≤ P.plc r → pls r = P.plc r), (elg : lgd = l.sz), (hlog : ∀ i : Nat, (i : Int) < l.sz → lr i = l.rq i ∧ lp i = l.tg i)⟩ := hR
  have hRR : RR P l (thr, P.res, P.cap, P.quo, P.wei, P.req, P.grp, P.acc, st, pls, P.mov, P.pl, P.ml, lgd, lr, lp, fr, tr, pr, pp) := ⟨rfl, rfl, rfl, rfl, rfl, rfl, rfl, rfl, rfl, rfl, hst, hpl, elg, hlog⟩
  refine jw_eqw (wR9 G ad thr P.res P.cap P.quo P.wei P.req P.grp P.acc st pls P.mov P.pl P.ml lgd lr lp fr tr pr pp) rfl ?_
  have h1 := hI.res
  have h2 := hI.req
  
  refine jw_aload_0 (pc := 0) C dX6_resourceCount_0 ?_
  refine jw_iconst (pc := 1) C dX6_resourceCount_1 ?_
  refine fp_X6_60 (pc := 2) C 0 rfl (Nat.le_of_ble_eq_true rfl) dX6_resourceCount_2 ?_
  refine jw_aload_0 (pc := 5) C dX6_resourceCount_5 ?_
  refine fg_X6_63 (pc := 6) C 0 rfl rfl dX6_resourceCount_6 ?_
  exact hret _ _ _ (0, P.res, P.cap, P.quo, P.wei, P.req, P.grp, P.acc, st, pls, P.mov, P.pl, P.ml, lgd, lr, lp, fr, tr, pr, pp) dX6_resourceCount_9 ⟨rfl, rfl, rfl⟩
set_option maxRecDepth 100000 in
set_option maxHeartbeats 4000000 in
theorem c_X6_arrivedCount (G : jG) (ad : Nat → Nat) (P : QP) (l : QL) (R : QR) (hI : PI P) (hR : RR P l R)  : CI G yX6_arrivedCount cX6_arrivedCount 1 (jrm 0 0 0 0) [.ref (ad 0)] (wR G ad R) (fun (z : Int32) (u : QR) => u.2 = R.2 ∧ u.1 = 0 ∧ z = iI (P.req)) (fun u : QR => wR G ad u) 0 0 := by
  refine ci_intro (own := RX6) [some (.ref (ad 0))] (by decide) rfl rfl rfl (Nat.le_of_ble_eq_true rfl) (fun X C hret => ?_)
  obtain ⟨thr, rs, cp, qu, we, rq, gr, ms, st, pls, mv, plm, mlm, lgd, lr, lp, fr, tr, pr, pp⟩ := R
  obtain ⟨(rfl : rs = P.res), (rfl : cp = P.cap), (rfl : qu = P.quo), (rfl : we = P.wei), (rfl : rq = P.req), (rfl : gr = P.grp), (rfl : ms = P.acc), (rfl : mv = P.mov), (rfl : plm = P.pl), (rfl : mlm = P.ml), (hst : ∀ r : Nat, (r : Int) < P.req → st r = stN (P.plc r)), (hpl : ∀ r : Nat, (r : Int) < P.req → 0 ≤ P.plc r → pls r = P.plc r), (elg : lgd = l.sz), (hlog : ∀ i : Nat, (i : Int) < l.sz → lr i = l.rq i ∧ lp i = l.tg i)⟩ := hR
  have hRR : RR P l (thr, P.res, P.cap, P.quo, P.wei, P.req, P.grp, P.acc, st, pls, P.mov, P.pl, P.ml, lgd, lr, lp, fr, tr, pr, pp) := ⟨rfl, rfl, rfl, rfl, rfl, rfl, rfl, rfl, rfl, rfl, hst, hpl, elg, hlog⟩
  refine jw_eqw (wR9 G ad thr P.res P.cap P.quo P.wei P.req P.grp P.acc st pls P.mov P.pl P.ml lgd lr lp fr tr pr pp) rfl ?_
  have h1 := hI.res
  have h2 := hI.req
  
  refine jw_aload_0 (pc := 0) C dX6_arrivedCount_0 ?_
  refine jw_iconst (pc := 1) C dX6_arrivedCount_1 ?_
  refine fp_X6_60 (pc := 2) C 0 rfl (Nat.le_of_ble_eq_true rfl) dX6_arrivedCount_2 ?_
  refine jw_aload_0 (pc := 5) C dX6_arrivedCount_5 ?_
  refine fg_X6_66 (pc := 6) C 0 rfl rfl dX6_arrivedCount_6 ?_
  exact hret _ _ _ (0, P.res, P.cap, P.quo, P.wei, P.req, P.grp, P.acc, st, pls, P.mov, P.pl, P.ml, lgd, lr, lp, fr, tr, pr, pp) dX6_arrivedCount_9 ⟨rfl, rfl, rfl⟩
set_option maxRecDepth 100000 in
set_option maxHeartbeats 4000000 in
theorem c_X6_moveCount (G : jG) (ad : Nat → Nat) (P : QP) (l : QL) (R : QR) (hI : PI P) (hR : RR P l R)  : CI G yX6_moveCount cX6_moveCount 1 (jrm 0 0 0 0) [.ref (ad 0)] (wR G ad R) (fun (z : Int32) (u : QR) => u.2 = R.2 ∧ u.1 = 0 ∧ z = iI (l.sz)) (fun u : QR => wR G ad u) 0 0 := by
  refine ci_intro (own := RX6) [some (.ref (ad 0))] (by decide) rfl rfl rfl (Nat.le_of_ble_eq_true rfl) (fun X C hret => ?_)
  obtain ⟨thr, rs, cp, qu, we, rq, gr, ms, st, pls, mv, plm, mlm, lgd, lr, lp, fr, tr, pr, pp⟩ := R
  obtain ⟨(rfl : rs = P.res), (rfl : cp = P.cap), (rfl : qu = P.quo), (rfl : we = P.wei), (rfl : rq = P.req), (rfl : gr = P.grp), (rfl : ms = P.acc), (rfl : mv = P.mov), (rfl : plm = P.pl), (rfl : mlm = P.ml), (hst : ∀ r : Nat, (r : Int) < P.req → st r = stN (P.plc r)), (hpl : ∀ r : Nat, (r : Int) < P.req → 0 ≤ P.plc r → pls r = P.plc r), (elg : lgd = l.sz), (hlog : ∀ i : Nat, (i : Int) < l.sz → lr i = l.rq i ∧ lp i = l.tg i)⟩ := hR
  have hRR : RR P l (thr, P.res, P.cap, P.quo, P.wei, P.req, P.grp, P.acc, st, pls, P.mov, P.pl, P.ml, lgd, lr, lp, fr, tr, pr, pp) := ⟨rfl, rfl, rfl, rfl, rfl, rfl, rfl, rfl, rfl, rfl, hst, hpl, elg, hlog⟩
  refine jw_eqw (wR9 G ad thr P.res P.cap P.quo P.wei P.req P.grp P.acc st pls P.mov P.pl P.ml lgd lr lp fr tr pr pp) rfl ?_
  have h1 := hI.res
  have h2 := hI.req
  
  refine jw_aload_0 (pc := 0) C dX6_moveCount_0 ?_
  refine jw_iconst (pc := 1) C dX6_moveCount_1 ?_
  refine fp_X6_60 (pc := 2) C 0 rfl (Nat.le_of_ble_eq_true rfl) dX6_moveCount_2 ?_
  refine jw_aload_0 (pc := 5) C dX6_moveCount_5 ?_
  refine fg_X6_102 (pc := 6) C 0 rfl rfl dX6_moveCount_6 ?_
  exact hret _ _ _ (0, P.res, P.cap, P.quo, P.wei, P.req, P.grp, P.acc, st, pls, P.mov, P.pl, P.ml, lgd, lr, lp, fr, tr, pr, pp) dX6_moveCount_9 ⟨rfl, rfl, by rw [← elg]⟩
set_option maxRecDepth 100000 in
set_option maxHeartbeats 4000000 in
theorem c_X6_assignedCount (G : jG) (ad : Nat → Nat) (P : QP) (l : QL) (R : QR) (hI : PI P) (hR : RR P l R)  : CI G yX6_assignedCount cX6_assignedCount 1 (jrm 1 23 0 0) [.ref (ad 0)] (wR G ad R) (fun (z : Int32) (u : QR) => u.2 = R.2 ∧ u.1 = 0 ∧ z = iI (cntF (fun r => decide (stN (P.plc r) = 1)) P.req.toNat)) (fun u : QR => wR G ad u) 0 0 := by
  refine ci_intro (own := RX6) [some (.ref (ad 0))] (by decide) rfl rfl rfl (Nat.le_of_ble_eq_true rfl) (fun X C hret => ?_)
  obtain ⟨thr, rs, cp, qu, we, rq, gr, ms, st, pls, mv, plm, mlm, lgd, lr, lp, fr, tr, pr, pp⟩ := R
  obtain ⟨(rfl : rs = P.res), (rfl : cp = P.cap), (rfl : qu = P.quo), (rfl : we = P.wei), (rfl : rq = P.req), (rfl : gr = P.grp), (rfl : ms = P.acc), (rfl : mv = P.mov), (rfl : plm = P.pl), (rfl : mlm = P.ml), (hst : ∀ r : Nat, (r : Int) < P.req → st r = stN (P.plc r)), (hpl : ∀ r : Nat, (r : Int) < P.req → 0 ≤ P.plc r → pls r = P.plc r), (elg : lgd = l.sz), (hlog : ∀ i : Nat, (i : Int) < l.sz → lr i = l.rq i ∧ lp i = l.tg i)⟩ := hR
  have hRR : RR P l (thr, P.res, P.cap, P.quo, P.wei, P.req, P.grp, P.acc, st, pls, P.mov, P.pl, P.ml, lgd, lr, lp, fr, tr, pr, pp) := ⟨rfl, rfl, rfl, rfl, rfl, rfl, rfl, rfl, rfl, rfl, hst, hpl, elg, hlog⟩
  refine jw_eqw (wR9 G ad thr P.res P.cap P.quo P.wei P.req P.grp P.acc st pls P.mov P.pl P.ml lgd lr lp fr tr pr pp) rfl ?_
  have h1 := hI.res
  have h2 := hI.req
  
  refine jw_aload_0 (pc := 0) C dX6_assignedCount_0 ?_
  refine jw_iconst (pc := 1) C dX6_assignedCount_1 ?_
  refine fp_X6_60 (pc := 2) C 0 rfl (Nat.le_of_ble_eq_true rfl) dX6_assignedCount_2 ?_
  refine jw_aload_0 (pc := 5) C dX6_assignedCount_5 ?_
  refine jw_iconst (pc := 6) C dX6_assignedCount_6 ?_
  refine jw_V_I (pc := 7) C (c_X6_countOf G ad P l (0, P.res, P.cap, P.quo, P.wei, P.req, P.grp, P.acc, st, pls, P.mov, P.pl, P.ml, lgd, lr, lp, fr, tr, pr, pp) hI hRR 1 ⟨by omega, by omega⟩) wd_X6_countOf kml_X6_134 0 rfl rfl rfl rfl (Nat.le_of_ble_eq_true rfl) ⟨by decide, by decide⟩ ⟨Nat.zero_le _, Nat.zero_le _⟩ dX6_assignedCount_7 rfl (fun z u h => ?_)
  subst h
  exact hret _ _ _ (0, P.res, P.cap, P.quo, P.wei, P.req, P.grp, P.acc, st, pls, P.mov, P.pl, P.ml, lgd, lr, lp, fr, tr, pr, pp) dX6_assignedCount_10 ⟨rfl, rfl, rfl⟩
set_option maxRecDepth 100000 in
set_option maxHeartbeats 4000000 in
theorem c_X6_waitingCount (G : jG) (ad : Nat → Nat) (P : QP) (l : QL) (R : QR) (hI : PI P) (hR : RR P l R)  : CI G yX6_waitingCount cX6_waitingCount 1 (jrm 1 23 0 0) [.ref (ad 0)] (wR G ad R) (fun (z : Int32) (u : QR) => u.2 = R.2 ∧ u.1 = 0 ∧ z = iI (cntF (fun r => decide (stN (P.plc r) = 0)) P.req.toNat)) (fun u : QR => wR G ad u) 0 0 := by
  refine ci_intro (own := RX6) [some (.ref (ad 0))] (by decide) rfl rfl rfl (Nat.le_of_ble_eq_true rfl) (fun X C hret => ?_)
  obtain ⟨thr, rs, cp, qu, we, rq, gr, ms, st, pls, mv, plm, mlm, lgd, lr, lp, fr, tr, pr, pp⟩ := R
  obtain ⟨(rfl : rs = P.res), (rfl : cp = P.cap), (rfl : qu = P.quo), (rfl : we = P.wei), (rfl : rq = P.req), (rfl : gr = P.grp), (rfl : ms = P.acc), (rfl : mv = P.mov), (rfl : plm = P.pl), (rfl : mlm = P.ml), (hst : ∀ r : Nat, (r : Int) < P.req → st r = stN (P.plc r)), (hpl : ∀ r : Nat, (r : Int) < P.req → 0 ≤ P.plc r → pls r = P.plc r), (elg : lgd = l.sz), (hlog : ∀ i : Nat, (i : Int) < l.sz → lr i = l.rq i ∧ lp i = l.tg i)⟩ := hR
  have hRR : RR P l (thr, P.res, P.cap, P.quo, P.wei, P.req, P.grp, P.acc, st, pls, P.mov, P.pl, P.ml, lgd, lr, lp, fr, tr, pr, pp) := ⟨rfl, rfl, rfl, rfl, rfl, rfl, rfl, rfl, rfl, rfl, hst, hpl, elg, hlog⟩
  refine jw_eqw (wR9 G ad thr P.res P.cap P.quo P.wei P.req P.grp P.acc st pls P.mov P.pl P.ml lgd lr lp fr tr pr pp) rfl ?_
  have h1 := hI.res
  have h2 := hI.req
  
  refine jw_aload_0 (pc := 0) C dX6_waitingCount_0 ?_
  refine jw_iconst (pc := 1) C dX6_waitingCount_1 ?_
  refine fp_X6_60 (pc := 2) C 0 rfl (Nat.le_of_ble_eq_true rfl) dX6_waitingCount_2 ?_
  refine jw_aload_0 (pc := 5) C dX6_waitingCount_5 ?_
  refine jw_iconst (pc := 6) C dX6_waitingCount_6 ?_
  refine jw_V_I (pc := 7) C (c_X6_countOf G ad P l (0, P.res, P.cap, P.quo, P.wei, P.req, P.grp, P.acc, st, pls, P.mov, P.pl, P.ml, lgd, lr, lp, fr, tr, pr, pp) hI hRR 0 ⟨by omega, by omega⟩) wd_X6_countOf kml_X6_134 0 rfl rfl rfl rfl (Nat.le_of_ble_eq_true rfl) ⟨by decide, by decide⟩ ⟨Nat.zero_le _, Nat.zero_le _⟩ dX6_waitingCount_7 rfl (fun z u h => ?_)
  subst h
  exact hret _ _ _ (0, P.res, P.cap, P.quo, P.wei, P.req, P.grp, P.acc, st, pls, P.mov, P.pl, P.ml, lgd, lr, lp, fr, tr, pr, pp) dX6_waitingCount_10 ⟨rfl, rfl, rfl⟩
set_option maxRecDepth 100000 in
set_option maxHeartbeats 4000000 in
theorem c_X6_assignedOf (G : jG) (ad : Nat → Nat) (P : QP) (l : QL) (R : QR) (hI : PI P) (hR : RR P l R) (a : Int) (hj : jr a) : CI G yX6_assignedOf cX6_assignedOf 2 (jrm 1 23 0 0) [.ref (ad 0), .int (iI a)] (wR G ad R) (fun (z : Int32) (u : QR) => u.2 = R.2 ∧ ((0 ≤ a ∧ a < 4 ∧ u.1 = 0 ∧ z = iI (P.asg a.toNat)) ∨ (¬ (0 ≤ a ∧ a < 4) ∧ u.1 = 1))) (fun u : QR => wR G ad u) 0 0 := by
  refine ci_intro (own := RX6) [some (.ref (ad 0)), some (.int (iI a))] (by decide) rfl rfl rfl (Nat.le_of_ble_eq_true rfl) (fun X C hret => ?_)
  obtain ⟨thr, rs, cp, qu, we, rq, gr, ms, st, pls, mv, plm, mlm, lgd, lr, lp, fr, tr, pr, pp⟩ := R
  obtain ⟨(rfl : rs = P.res), (rfl : cp = P.cap), (rfl : qu = P.quo), (rfl : we = P.wei), (rfl : rq = P.req), (rfl : gr = P.grp), (rfl : ms = P.acc), (rfl : mv = P.mov), (rfl : plm = P.pl), (rfl : mlm = P.ml), (hst : ∀ r : Nat, (r : Int) < P.req → st r = stN (P.plc r)), (hpl : ∀ r : Nat, (r : Int) < P.req → 0 ≤ P.plc r → pls r = P.plc r), (elg : lgd = l.sz), (hlog : ∀ i : Nat, (i : Int) < l.sz → lr i = l.rq i ∧ lp i = l.tg i)⟩ := hR
  have hRR : RR P l (thr, P.res, P.cap, P.quo, P.wei, P.req, P.grp, P.acc, st, pls, P.mov, P.pl, P.ml, lgd, lr, lp, fr, tr, pr, pp) := ⟨rfl, rfl, rfl, rfl, rfl, rfl, rfl, rfl, rfl, rfl, hst, hpl, elg, hlog⟩
  refine jw_eqw (wR9 G ad thr P.res P.cap P.quo P.wei P.req P.grp P.acc st pls P.mov P.pl P.ml lgd lr lp fr tr pr pp) rfl ?_
  have h1 := hI.res
  have h2 := hI.req
  
  refine jw_aload_0 (pc := 0) C dX6_assignedOf_0 ?_
  refine jw_iconst (pc := 1) C dX6_assignedOf_1 ?_
  refine fp_X6_60 (pc := 2) C 0 rfl (Nat.le_of_ble_eq_true rfl) dX6_assignedOf_2 ?_
  refine jw_iload_1 (pc := 5) C dX6_assignedOf_5 ?_
  refine jw_S0_Z (pc := 6) C (c_X6_isGroup G a hj) ws_X6_isGroup kml_X6_125 rfl rfl (Nat.le_of_ble_eq_true rfl) ⟨by decide, by decide⟩ ⟨Nat.zero_le _, Nat.zero_le _⟩ dX6_assignedOf_6 rfl (fun z u h => ?_)
  subst h
  refine jw_if_eq_b (pc := 9) (tgt := 20) C dX6_assignedOf_9 (by decide) (fun c_9 => ?_) (fun c_9 => ?_)
  · have hno := of_decide_eq_false c_9
    refine jw_aload_0 (pc := 20) C dX6_assignedOf_20 ?_
    refine jw_iconst (pc := 21) C dX6_assignedOf_21 ?_
    refine jw_V_I (pc := 22) C (c_X6_fail G ad (0, P.res, P.cap, P.quo, P.wei, P.req, P.grp, P.acc, st, pls, P.mov, P.pl, P.ml, lgd, lr, lp, fr, tr, pr, pp) 1) wd_X6_fail kml_X6_116 0 rfl rfl rfl rfl (Nat.le_of_ble_eq_true rfl) ⟨by decide, by decide⟩ ⟨Nat.zero_le _, Nat.zero_le _⟩ dX6_assignedOf_22 rfl (fun zf uf hf => ?_)
    obtain ⟨ef, eg⟩ := hf
    subst ef
    subst eg
    first | exact hret _ _ _ (0, P.res, P.cap, P.quo, P.wei, P.req, P.grp, P.acc, st, pls, P.mov, P.pl, P.ml, lgd, lr, lp, fr, tr, pr, pp) dX6_assignedOf_25 ⟨rfl, Or.inl ⟨hok.1, hok.2, rfl, rfl⟩⟩ | exact hret _ _ _ (1, P.res, P.cap, P.quo, P.wei, P.req, P.grp, P.acc, st, pls, P.mov, P.pl, P.ml, lgd, lr, lp, fr, tr, pr, pp) dX6_assignedOf_25 ⟨rfl, Or.inr ⟨hno, rfl⟩⟩
  · have hok := of_decide_eq_true c_9
    obtain ⟨j, ej⟩ : ∃ j : Nat, a = (j : Int) := ⟨a.toNat, by omega⟩
    subst ej
    refine jw_aload_0 (pc := 12) C dX6_assignedOf_12 ?_
    refine jw_iload_1 (pc := 13) C dX6_assignedOf_13 ?_
    refine jw_V_I (pc := 14) C (c_X6_assignedIn G ad P l (0, P.res, P.cap, P.quo, P.wei, P.req, P.grp, P.acc, st, pls, P.mov, P.pl, P.ml, lgd, lr, lp, fr, tr, pr, pp) hI hRR j (by omega)) wd_X6_assignedIn kml_X6_89 0 rfl rfl rfl rfl (Nat.le_of_ble_eq_true rfl) ⟨by decide, by decide⟩ ⟨Nat.zero_le _, Nat.zero_le _⟩ dX6_assignedOf_14 rfl (fun z u h => ?_)
    subst h
    refine jw_goto (pc := 17) (tgt := 25) C dX6_assignedOf_17 (by decide) ?_
    first | exact hret _ _ _ (0, P.res, P.cap, P.quo, P.wei, P.req, P.grp, P.acc, st, pls, P.mov, P.pl, P.ml, lgd, lr, lp, fr, tr, pr, pp) dX6_assignedOf_25 ⟨rfl, Or.inl ⟨hok.1, hok.2, rfl, rfl⟩⟩ | exact hret _ _ _ (1, P.res, P.cap, P.quo, P.wei, P.req, P.grp, P.acc, st, pls, P.mov, P.pl, P.ml, lgd, lr, lp, fr, tr, pr, pp) dX6_assignedOf_25 ⟨rfl, Or.inr ⟨hno, rfl⟩⟩
set_option maxRecDepth 100000 in
set_option maxHeartbeats 4000000 in
theorem c_X6_load (G : jG) (ad : Nat → Nat) (P : QP) (l : QL) (R : QR) (hI : PI P) (hR : RR P l R) (a : Int) (hj : jr a) : CI G yX6_load cX6_load 2 (jrm 2 45 0 0) [.ref (ad 0), .int (iI a)] (wR G ad R) (fun (z : Int32) (u : QR) => u.2 = R.2 ∧ ((0 ≤ a ∧ a < P.res ∧ u.1 = 0 ∧ z = iI (P.load a.toNat)) ∨ (¬ (0 ≤ a ∧ a < P.res) ∧ u.1 = 1))) (fun u : QR => wR G ad u) 0 0 := by
  refine ci_intro (own := RX6) [some (.ref (ad 0)), some (.int (iI a))] (by decide) rfl rfl rfl (Nat.le_of_ble_eq_true rfl) (fun X C hret => ?_)
  obtain ⟨thr, rs, cp, qu, we, rq, gr, ms, st, pls, mv, plm, mlm, lgd, lr, lp, fr, tr, pr, pp⟩ := R
  obtain ⟨(rfl : rs = P.res), (rfl : cp = P.cap), (rfl : qu = P.quo), (rfl : we = P.wei), (rfl : rq = P.req), (rfl : gr = P.grp), (rfl : ms = P.acc), (rfl : mv = P.mov), (rfl : plm = P.pl), (rfl : mlm = P.ml), (hst : ∀ r : Nat, (r : Int) < P.req → st r = stN (P.plc r)), (hpl : ∀ r : Nat, (r : Int) < P.req → 0 ≤ P.plc r → pls r = P.plc r), (elg : lgd = l.sz), (hlog : ∀ i : Nat, (i : Int) < l.sz → lr i = l.rq i ∧ lp i = l.tg i)⟩ := hR
  have hRR : RR P l (thr, P.res, P.cap, P.quo, P.wei, P.req, P.grp, P.acc, st, pls, P.mov, P.pl, P.ml, lgd, lr, lp, fr, tr, pr, pp) := ⟨rfl, rfl, rfl, rfl, rfl, rfl, rfl, rfl, rfl, rfl, hst, hpl, elg, hlog⟩
  refine jw_eqw (wR9 G ad thr P.res P.cap P.quo P.wei P.req P.grp P.acc st pls P.mov P.pl P.ml lgd lr lp fr tr pr pp) rfl ?_
  have h1 := hI.res
  have h2 := hI.req
  
  refine jw_aload_0 (pc := 0) C dX6_load_0 ?_
  refine jw_iconst (pc := 1) C dX6_load_1 ?_
  refine fp_X6_60 (pc := 2) C 0 rfl (Nat.le_of_ble_eq_true rfl) dX6_load_2 ?_
  refine jw_aload_0 (pc := 5) C dX6_load_5 ?_
  refine jw_iload_1 (pc := 6) C dX6_load_6 ?_
  refine jw_V_Z (pc := 7) C (c_X6_isResource G ad P l (0, P.res, P.cap, P.quo, P.wei, P.req, P.grp, P.acc, st, pls, P.mov, P.pl, P.ml, lgd, lr, lp, fr, tr, pr, pp) hI hRR a hj) wd_X6_isResource kml_X6_122 0 rfl rfl rfl rfl (Nat.le_of_ble_eq_true rfl) ⟨by decide, by decide⟩ ⟨Nat.zero_le _, Nat.zero_le _⟩ dX6_load_7 rfl (fun z u h => ?_)
  subst h
  refine jw_eqw (wR9 G ad 0 P.res P.cap P.quo P.wei P.req P.grp P.acc st pls P.mov P.pl P.ml lgd lr lp fr tr pr pp) rfl ?_
  refine jw_if_eq_b (pc := 10) (tgt := 21) C dX6_load_10 (by decide) (fun c_10 => ?_) (fun c_10 => ?_)
  · have hno := of_decide_eq_false c_10
    refine jw_aload_0 (pc := 21) C dX6_load_21 ?_
    refine jw_iconst (pc := 22) C dX6_load_22 ?_
    refine jw_V_I (pc := 23) C (c_X6_fail G ad (0, P.res, P.cap, P.quo, P.wei, P.req, P.grp, P.acc, st, pls, P.mov, P.pl, P.ml, lgd, lr, lp, fr, tr, pr, pp) 1) wd_X6_fail kml_X6_116 0 rfl rfl rfl rfl (Nat.le_of_ble_eq_true rfl) ⟨by decide, by decide⟩ ⟨Nat.zero_le _, Nat.zero_le _⟩ dX6_load_23 rfl (fun zf uf hf => ?_)
    obtain ⟨ef, eg⟩ := hf
    subst ef
    subst eg
    first | exact hret _ _ _ (0, P.res, P.cap, P.quo, P.wei, P.req, P.grp, P.acc, st, pls, P.mov, P.pl, P.ml, lgd, lr, lp, fr, tr, pr, pp) dX6_load_26 ⟨rfl, Or.inl ⟨hok.1, hok.2, rfl, rfl⟩⟩ | exact hret _ _ _ (1, P.res, P.cap, P.quo, P.wei, P.req, P.grp, P.acc, st, pls, P.mov, P.pl, P.ml, lgd, lr, lp, fr, tr, pr, pp) dX6_load_26 ⟨rfl, Or.inr ⟨hno, rfl⟩⟩
  · have hok := of_decide_eq_true c_10
    obtain ⟨j, ej⟩ : ∃ j : Nat, a = (j : Int) := ⟨a.toNat, by omega⟩
    subst ej
    refine jw_aload_0 (pc := 13) C dX6_load_13 ?_
    refine jw_iload_1 (pc := 14) C dX6_load_14 ?_
    refine jw_V_I (pc := 15) C (c_X6_loadOf G ad P l (0, P.res, P.cap, P.quo, P.wei, P.req, P.grp, P.acc, st, pls, P.mov, P.pl, P.ml, lgd, lr, lp, fr, tr, pr, pp) hI hRR j (by omega)) wd_X6_loadOf kml_X6_73 0 rfl rfl rfl rfl (Nat.le_of_ble_eq_true rfl) ⟨by decide, by decide⟩ ⟨Nat.zero_le _, Nat.zero_le _⟩ dX6_load_15 rfl (fun z u h => ?_)
    subst h
    refine jw_goto (pc := 18) (tgt := 26) C dX6_load_18 (by decide) ?_
    first | exact hret _ _ _ (0, P.res, P.cap, P.quo, P.wei, P.req, P.grp, P.acc, st, pls, P.mov, P.pl, P.ml, lgd, lr, lp, fr, tr, pr, pp) dX6_load_26 ⟨rfl, Or.inl ⟨hok.1, hok.2, rfl, rfl⟩⟩ | exact hret _ _ _ (1, P.res, P.cap, P.quo, P.wei, P.req, P.grp, P.acc, st, pls, P.mov, P.pl, P.ml, lgd, lr, lp, fr, tr, pr, pp) dX6_load_26 ⟨rfl, Or.inr ⟨hno, rfl⟩⟩
set_option maxRecDepth 100000 in
set_option maxHeartbeats 4000000 in
theorem c_X6_state (G : jG) (ad : Nat → Nat) (P : QP) (l : QL) (R : QR) (hI : PI P) (hR : RR P l R) (a : Int) (hj : jr a) : CI G yX6_state cX6_state 2 (jrm 1 21 0 0) [.ref (ad 0), .int (iI a)] (wR G ad R) (fun (z : Int32) (u : QR) => u.2 = R.2 ∧ ((0 ≤ a ∧ a < P.req ∧ u.1 = 0 ∧ z = iI (stN (P.plc a.toNat))) ∨ (¬ (0 ≤ a ∧ a < P.req) ∧ u.1 = 1))) (fun u : QR => wR G ad u) 0 0 := by
  refine ci_intro (own := RX6) [some (.ref (ad 0)), some (.int (iI a))] (by decide) rfl rfl rfl (Nat.le_of_ble_eq_true rfl) (fun X C hret => ?_)
  obtain ⟨thr, rs, cp, qu, we, rq, gr, ms, st, pls, mv, plm, mlm, lgd, lr, lp, fr, tr, pr, pp⟩ := R
  obtain ⟨(rfl : rs = P.res), (rfl : cp = P.cap), (rfl : qu = P.quo), (rfl : we = P.wei), (rfl : rq = P.req), (rfl : gr = P.grp), (rfl : ms = P.acc), (rfl : mv = P.mov), (rfl : plm = P.pl), (rfl : mlm = P.ml), (hst : ∀ r : Nat, (r : Int) < P.req → st r = stN (P.plc r)), (hpl : ∀ r : Nat, (r : Int) < P.req → 0 ≤ P.plc r → pls r = P.plc r), (elg : lgd = l.sz), (hlog : ∀ i : Nat, (i : Int) < l.sz → lr i = l.rq i ∧ lp i = l.tg i)⟩ := hR
  have hRR : RR P l (thr, P.res, P.cap, P.quo, P.wei, P.req, P.grp, P.acc, st, pls, P.mov, P.pl, P.ml, lgd, lr, lp, fr, tr, pr, pp) := ⟨rfl, rfl, rfl, rfl, rfl, rfl, rfl, rfl, rfl, rfl, hst, hpl, elg, hlog⟩
  refine jw_eqw (wR9 G ad thr P.res P.cap P.quo P.wei P.req P.grp P.acc st pls P.mov P.pl P.ml lgd lr lp fr tr pr pp) rfl ?_
  have h1 := hI.res
  have h2 := hI.req
  
  refine jw_aload_0 (pc := 0) C dX6_state_0 ?_
  refine jw_iconst (pc := 1) C dX6_state_1 ?_
  refine fp_X6_60 (pc := 2) C 0 rfl (Nat.le_of_ble_eq_true rfl) dX6_state_2 ?_
  refine jw_aload_0 (pc := 5) C dX6_state_5 ?_
  refine jw_iload_1 (pc := 6) C dX6_state_6 ?_
  refine jw_V_Z (pc := 7) C (c_X6_isRequest G ad P l (0, P.res, P.cap, P.quo, P.wei, P.req, P.grp, P.acc, st, pls, P.mov, P.pl, P.ml, lgd, lr, lp, fr, tr, pr, pp) hI hRR a hj) wd_X6_isRequest kml_X6_131 0 rfl rfl rfl rfl (Nat.le_of_ble_eq_true rfl) ⟨by decide, by decide⟩ ⟨Nat.zero_le _, Nat.zero_le _⟩ dX6_state_7 rfl (fun z u h => ?_)
  subst h
  refine jw_eqw (wR9 G ad 0 P.res P.cap P.quo P.wei P.req P.grp P.acc st pls P.mov P.pl P.ml lgd lr lp fr tr pr pp) rfl ?_
  refine jw_if_eq_b (pc := 10) (tgt := 22) C dX6_state_10 (by decide) (fun c_10 => ?_) (fun c_10 => ?_)
  · have hno := of_decide_eq_false c_10
    refine jw_aload_0 (pc := 22) C dX6_state_22 ?_
    refine jw_iconst (pc := 23) C dX6_state_23 ?_
    refine jw_V_I (pc := 24) C (c_X6_fail G ad (0, P.res, P.cap, P.quo, P.wei, P.req, P.grp, P.acc, st, pls, P.mov, P.pl, P.ml, lgd, lr, lp, fr, tr, pr, pp) 1) wd_X6_fail kml_X6_116 0 rfl rfl rfl rfl (Nat.le_of_ble_eq_true rfl) ⟨by decide, by decide⟩ ⟨Nat.zero_le _, Nat.zero_le _⟩ dX6_state_24 rfl (fun zf uf hf => ?_)
    obtain ⟨ef, eg⟩ := hf
    subst ef
    subst eg
    first | exact hret _ _ _ (0, P.res, P.cap, P.quo, P.wei, P.req, P.grp, P.acc, st, pls, P.mov, P.pl, P.ml, lgd, lr, lp, fr, tr, pr, pp) dX6_state_27 ⟨rfl, Or.inl ⟨hok.1, hok.2, rfl, by rw [← hst a.toNat (by omega)]⟩⟩ | exact hret _ _ _ (1, P.res, P.cap, P.quo, P.wei, P.req, P.grp, P.acc, st, pls, P.mov, P.pl, P.ml, lgd, lr, lp, fr, tr, pr, pp) dX6_state_27 ⟨rfl, Or.inr ⟨hno, rfl⟩⟩
  · have hok := of_decide_eq_true c_10
    refine jw_aload_0 (pc := 13) C dX6_state_13 ?_
    refine fg_X6_25 (pc := 14) C 0 rfl rfl dX6_state_14 ?_
    refine jw_iload_1 (pc := 17) C dX6_state_17 ?_
    refine jw_iald (pc := 18) C 6 rfl a.toNat (by omega) (by omega) (by decide) dX6_state_18 ?_
    refine jw_goto (pc := 19) (tgt := 27) C dX6_state_19 (by decide) ?_
    first | exact hret _ _ _ (0, P.res, P.cap, P.quo, P.wei, P.req, P.grp, P.acc, st, pls, P.mov, P.pl, P.ml, lgd, lr, lp, fr, tr, pr, pp) dX6_state_27 ⟨rfl, Or.inl ⟨hok.1, hok.2, rfl, by rw [← hst a.toNat (by omega)]⟩⟩ | exact hret _ _ _ (1, P.res, P.cap, P.quo, P.wei, P.req, P.grp, P.acc, st, pls, P.mov, P.pl, P.ml, lgd, lr, lp, fr, tr, pr, pp) dX6_state_27 ⟨rfl, Or.inr ⟨hno, rfl⟩⟩
set_option maxRecDepth 100000 in
set_option maxHeartbeats 4000000 in
theorem c_X6_movesOf (G : jG) (ad : Nat → Nat) (P : QP) (l : QL) (R : QR) (hI : PI P) (hR : RR P l R) (a : Int) (hj : jr a) : CI G yX6_movesOf cX6_movesOf 2 (jrm 1 21 0 0) [.ref (ad 0), .int (iI a)] (wR G ad R) (fun (z : Int32) (u : QR) => u.2 = R.2 ∧ ((0 ≤ a ∧ a < P.req ∧ u.1 = 0 ∧ z = iI (P.mov a.toNat)) ∨ (¬ (0 ≤ a ∧ a < P.req) ∧ u.1 = 1))) (fun u : QR => wR G ad u) 0 0 := by
  refine ci_intro (own := RX6) [some (.ref (ad 0)), some (.int (iI a))] (by decide) rfl rfl rfl (Nat.le_of_ble_eq_true rfl) (fun X C hret => ?_)
  obtain ⟨thr, rs, cp, qu, we, rq, gr, ms, st, pls, mv, plm, mlm, lgd, lr, lp, fr, tr, pr, pp⟩ := R
  obtain ⟨(rfl : rs = P.res), (rfl : cp = P.cap), (rfl : qu = P.quo), (rfl : we = P.wei), (rfl : rq = P.req), (rfl : gr = P.grp), (rfl : ms = P.acc), (rfl : mv = P.mov), (rfl : plm = P.pl), (rfl : mlm = P.ml), (hst : ∀ r : Nat, (r : Int) < P.req → st r = stN (P.plc r)), (hpl : ∀ r : Nat, (r : Int) < P.req → 0 ≤ P.plc r → pls r = P.plc r), (elg : lgd = l.sz), (hlog : ∀ i : Nat, (i : Int) < l.sz → lr i = l.rq i ∧ lp i = l.tg i)⟩ := hR
  have hRR : RR P l (thr, P.res, P.cap, P.quo, P.wei, P.req, P.grp, P.acc, st, pls, P.mov, P.pl, P.ml, lgd, lr, lp, fr, tr, pr, pp) := ⟨rfl, rfl, rfl, rfl, rfl, rfl, rfl, rfl, rfl, rfl, hst, hpl, elg, hlog⟩
  refine jw_eqw (wR9 G ad thr P.res P.cap P.quo P.wei P.req P.grp P.acc st pls P.mov P.pl P.ml lgd lr lp fr tr pr pp) rfl ?_
  have h1 := hI.res
  have h2 := hI.req
  
  refine jw_aload_0 (pc := 0) C dX6_movesOf_0 ?_
  refine jw_iconst (pc := 1) C dX6_movesOf_1 ?_
  refine fp_X6_60 (pc := 2) C 0 rfl (Nat.le_of_ble_eq_true rfl) dX6_movesOf_2 ?_
  refine jw_aload_0 (pc := 5) C dX6_movesOf_5 ?_
  refine jw_iload_1 (pc := 6) C dX6_movesOf_6 ?_
  refine jw_V_Z (pc := 7) C (c_X6_isRequest G ad P l (0, P.res, P.cap, P.quo, P.wei, P.req, P.grp, P.acc, st, pls, P.mov, P.pl, P.ml, lgd, lr, lp, fr, tr, pr, pp) hI hRR a hj) wd_X6_isRequest kml_X6_131 0 rfl rfl rfl rfl (Nat.le_of_ble_eq_true rfl) ⟨by decide, by decide⟩ ⟨Nat.zero_le _, Nat.zero_le _⟩ dX6_movesOf_7 rfl (fun z u h => ?_)
  subst h
  refine jw_eqw (wR9 G ad 0 P.res P.cap P.quo P.wei P.req P.grp P.acc st pls P.mov P.pl P.ml lgd lr lp fr tr pr pp) rfl ?_
  refine jw_if_eq_b (pc := 10) (tgt := 22) C dX6_movesOf_10 (by decide) (fun c_10 => ?_) (fun c_10 => ?_)
  · have hno := of_decide_eq_false c_10
    refine jw_aload_0 (pc := 22) C dX6_movesOf_22 ?_
    refine jw_iconst (pc := 23) C dX6_movesOf_23 ?_
    refine jw_V_I (pc := 24) C (c_X6_fail G ad (0, P.res, P.cap, P.quo, P.wei, P.req, P.grp, P.acc, st, pls, P.mov, P.pl, P.ml, lgd, lr, lp, fr, tr, pr, pp) 1) wd_X6_fail kml_X6_116 0 rfl rfl rfl rfl (Nat.le_of_ble_eq_true rfl) ⟨by decide, by decide⟩ ⟨Nat.zero_le _, Nat.zero_le _⟩ dX6_movesOf_24 rfl (fun zf uf hf => ?_)
    obtain ⟨ef, eg⟩ := hf
    subst ef
    subst eg
    first | exact hret _ _ _ (0, P.res, P.cap, P.quo, P.wei, P.req, P.grp, P.acc, st, pls, P.mov, P.pl, P.ml, lgd, lr, lp, fr, tr, pr, pp) dX6_movesOf_27 ⟨rfl, Or.inl ⟨hok.1, hok.2, rfl, rfl⟩⟩ | exact hret _ _ _ (1, P.res, P.cap, P.quo, P.wei, P.req, P.grp, P.acc, st, pls, P.mov, P.pl, P.ml, lgd, lr, lp, fr, tr, pr, pp) dX6_movesOf_27 ⟨rfl, Or.inr ⟨hno, rfl⟩⟩
  · have hok := of_decide_eq_true c_10
    refine jw_aload_0 (pc := 13) C dX6_movesOf_13 ?_
    refine fg_X6_31 (pc := 14) C 0 rfl rfl dX6_movesOf_14 ?_
    refine jw_iload_1 (pc := 17) C dX6_movesOf_17 ?_
    refine jw_iald (pc := 18) C 8 rfl a.toNat (by omega) (by omega) (by decide) dX6_movesOf_18 ?_
    refine jw_goto (pc := 19) (tgt := 27) C dX6_movesOf_19 (by decide) ?_
    first | exact hret _ _ _ (0, P.res, P.cap, P.quo, P.wei, P.req, P.grp, P.acc, st, pls, P.mov, P.pl, P.ml, lgd, lr, lp, fr, tr, pr, pp) dX6_movesOf_27 ⟨rfl, Or.inl ⟨hok.1, hok.2, rfl, rfl⟩⟩ | exact hret _ _ _ (1, P.res, P.cap, P.quo, P.wei, P.req, P.grp, P.acc, st, pls, P.mov, P.pl, P.ml, lgd, lr, lp, fr, tr, pr, pp) dX6_movesOf_27 ⟨rfl, Or.inr ⟨hno, rfl⟩⟩
set_option maxRecDepth 100000 in
set_option maxHeartbeats 4000000 in
theorem c_X6_movedRequest (G : jG) (ad : Nat → Nat) (P : QP) (l : QL) (R : QR) (hI : PI P) (hR : RR P l R) (a : Int) (hj : jr a) (hl : 0 ≤ l.sz ∧ l.sz ≤ 200) : CI G yX6_movedRequest cX6_movedRequest 2 (jrm 1 21 0 0) [.ref (ad 0), .int (iI a)] (wR G ad R) (fun (z : Int32) (u : QR) => u.2 = R.2 ∧ ((0 ≤ a ∧ a < l.sz ∧ u.1 = 0 ∧ z = iI (l.rq a.toNat)) ∨ (¬ (0 ≤ a ∧ a < l.sz) ∧ u.1 = 1))) (fun u : QR => wR G ad u) 0 0 := by
  refine ci_intro (own := RX6) [some (.ref (ad 0)), some (.int (iI a))] (by decide) rfl rfl rfl (Nat.le_of_ble_eq_true rfl) (fun X C hret => ?_)
  obtain ⟨thr, rs, cp, qu, we, rq, gr, ms, st, pls, mv, plm, mlm, lgd, lr, lp, fr, tr, pr, pp⟩ := R
  obtain ⟨(rfl : rs = P.res), (rfl : cp = P.cap), (rfl : qu = P.quo), (rfl : we = P.wei), (rfl : rq = P.req), (rfl : gr = P.grp), (rfl : ms = P.acc), (rfl : mv = P.mov), (rfl : plm = P.pl), (rfl : mlm = P.ml), (hst : ∀ r : Nat, (r : Int) < P.req → st r = stN (P.plc r)), (hpl : ∀ r : Nat, (r : Int) < P.req → 0 ≤ P.plc r → pls r = P.plc r), (elg : lgd = l.sz), (hlog : ∀ i : Nat, (i : Int) < l.sz → lr i = l.rq i ∧ lp i = l.tg i)⟩ := hR
  have hRR : RR P l (thr, P.res, P.cap, P.quo, P.wei, P.req, P.grp, P.acc, st, pls, P.mov, P.pl, P.ml, lgd, lr, lp, fr, tr, pr, pp) := ⟨rfl, rfl, rfl, rfl, rfl, rfl, rfl, rfl, rfl, rfl, hst, hpl, elg, hlog⟩
  refine jw_eqw (wR9 G ad thr P.res P.cap P.quo P.wei P.req P.grp P.acc st pls P.mov P.pl P.ml lgd lr lp fr tr pr pp) rfl ?_
  have h1 := hI.res
  have h2 := hI.req
  
  refine jw_aload_0 (pc := 0) C dX6_movedRequest_0 ?_
  refine jw_iconst (pc := 1) C dX6_movedRequest_1 ?_
  refine fp_X6_60 (pc := 2) C 0 rfl (Nat.le_of_ble_eq_true rfl) dX6_movedRequest_2 ?_
  refine jw_iload_1 (pc := 5) C dX6_movedRequest_5 ?_
  refine jw_if_lt (pc := 6) (tgt := 26) C dX6_movedRequest_6 (by decide) hj (fun c_6 => ?_) (fun c_6 => ?_)
  · have hno : ¬ (0 ≤ a ∧ a < l.sz) := by omega
    refine jw_aload_0 (pc := 26) C dX6_movedRequest_26 ?_
    refine jw_iconst (pc := 27) C dX6_movedRequest_27 ?_
    refine jw_V_I (pc := 28) C (c_X6_fail G ad (0, P.res, P.cap, P.quo, P.wei, P.req, P.grp, P.acc, st, pls, P.mov, P.pl, P.ml, lgd, lr, lp, fr, tr, pr, pp) 1) wd_X6_fail kml_X6_116 0 rfl rfl rfl rfl (Nat.le_of_ble_eq_true rfl) ⟨by decide, by decide⟩ ⟨Nat.zero_le _, Nat.zero_le _⟩ dX6_movedRequest_28 rfl (fun zf uf hf => ?_)
    obtain ⟨ef, eg⟩ := hf
    subst ef
    subst eg
    first | exact hret _ _ _ (0, P.res, P.cap, P.quo, P.wei, P.req, P.grp, P.acc, st, pls, P.mov, P.pl, P.ml, lgd, lr, lp, fr, tr, pr, pp) dX6_movedRequest_31 ⟨rfl, Or.inl ⟨hok.1, hok.2, rfl, by rw [← (hlog a.toNat (by omega)).1]⟩⟩ | exact hret _ _ _ (1, P.res, P.cap, P.quo, P.wei, P.req, P.grp, P.acc, st, pls, P.mov, P.pl, P.ml, lgd, lr, lp, fr, tr, pr, pp) dX6_movedRequest_31 ⟨rfl, Or.inr ⟨hno, rfl⟩⟩
  · refine jw_iload_1 (pc := 9) C dX6_movedRequest_9 ?_
    refine jw_aload_0 (pc := 10) C dX6_movedRequest_10 ?_
    refine fg_X6_102 (pc := 11) C 0 rfl rfl dX6_movedRequest_11 ?_
    refine jw_icmp_ge (pc := 14) (tgt := 26) C dX6_movedRequest_14 (by decide) hj ⟨by omega, by omega⟩ (fun c_14 => ?_) (fun c_14 => ?_)
    · have hno : ¬ (0 ≤ a ∧ a < l.sz) := by omega
      refine jw_aload_0 (pc := 26) C dX6_movedRequest_26 ?_
      refine jw_iconst (pc := 27) C dX6_movedRequest_27 ?_
      refine jw_V_I (pc := 28) C (c_X6_fail G ad (0, P.res, P.cap, P.quo, P.wei, P.req, P.grp, P.acc, st, pls, P.mov, P.pl, P.ml, lgd, lr, lp, fr, tr, pr, pp) 1) wd_X6_fail kml_X6_116 0 rfl rfl rfl rfl (Nat.le_of_ble_eq_true rfl) ⟨by decide, by decide⟩ ⟨Nat.zero_le _, Nat.zero_le _⟩ dX6_movedRequest_28 rfl (fun zf uf hf => ?_)
      obtain ⟨ef, eg⟩ := hf
      subst ef
      subst eg
      first | exact hret _ _ _ (0, P.res, P.cap, P.quo, P.wei, P.req, P.grp, P.acc, st, pls, P.mov, P.pl, P.ml, lgd, lr, lp, fr, tr, pr, pp) dX6_movedRequest_31 ⟨rfl, Or.inl ⟨hok.1, hok.2, rfl, by rw [← (hlog a.toNat (by omega)).1]⟩⟩ | exact hret _ _ _ (1, P.res, P.cap, P.quo, P.wei, P.req, P.grp, P.acc, st, pls, P.mov, P.pl, P.ml, lgd, lr, lp, fr, tr, pr, pp) dX6_movedRequest_31 ⟨rfl, Or.inr ⟨hno, rfl⟩⟩
    · have hok : 0 ≤ a ∧ a < l.sz := by omega
      refine jw_aload_0 (pc := 17) C dX6_movedRequest_17 ?_
      refine fg_X6_41 (pc := 18) C 0 rfl rfl dX6_movedRequest_18 ?_
      refine jw_iload_1 (pc := 21) C dX6_movedRequest_21 ?_
      refine jw_iald (pc := 22) C 9 rfl a.toNat (by omega) (by omega) (by decide) dX6_movedRequest_22 ?_
      refine jw_goto (pc := 23) (tgt := 31) C dX6_movedRequest_23 (by decide) ?_
      first | exact hret _ _ _ (0, P.res, P.cap, P.quo, P.wei, P.req, P.grp, P.acc, st, pls, P.mov, P.pl, P.ml, lgd, lr, lp, fr, tr, pr, pp) dX6_movedRequest_31 ⟨rfl, Or.inl ⟨hok.1, hok.2, rfl, by rw [← (hlog a.toNat (by omega)).1]⟩⟩ | exact hret _ _ _ (1, P.res, P.cap, P.quo, P.wei, P.req, P.grp, P.acc, st, pls, P.mov, P.pl, P.ml, lgd, lr, lp, fr, tr, pr, pp) dX6_movedRequest_31 ⟨rfl, Or.inr ⟨hno, rfl⟩⟩
set_option maxRecDepth 100000 in
set_option maxHeartbeats 4000000 in
theorem c_X6_movedTo (G : jG) (ad : Nat → Nat) (P : QP) (l : QL) (R : QR) (hI : PI P) (hR : RR P l R) (a : Int) (hj : jr a) (hl : 0 ≤ l.sz ∧ l.sz ≤ 200) : CI G yX6_movedTo cX6_movedTo 2 (jrm 1 21 0 0) [.ref (ad 0), .int (iI a)] (wR G ad R) (fun (z : Int32) (u : QR) => u.2 = R.2 ∧ ((0 ≤ a ∧ a < l.sz ∧ u.1 = 0 ∧ z = iI (l.tg a.toNat)) ∨ (¬ (0 ≤ a ∧ a < l.sz) ∧ u.1 = 1))) (fun u : QR => wR G ad u) 0 0 := by
  refine ci_intro (own := RX6) [some (.ref (ad 0)), some (.int (iI a))] (by decide) rfl rfl rfl (Nat.le_of_ble_eq_true rfl) (fun X C hret => ?_)
  obtain ⟨thr, rs, cp, qu, we, rq, gr, ms, st, pls, mv, plm, mlm, lgd, lr, lp, fr, tr, pr, pp⟩ := R
  obtain ⟨(rfl : rs = P.res), (rfl : cp = P.cap), (rfl : qu = P.quo), (rfl : we = P.wei), (rfl : rq = P.req), (rfl : gr = P.grp), (rfl : ms = P.acc), (rfl : mv = P.mov), (rfl : plm = P.pl), (rfl : mlm = P.ml), (hst : ∀ r : Nat, (r : Int) < P.req → st r = stN (P.plc r)), (hpl : ∀ r : Nat, (r : Int) < P.req → 0 ≤ P.plc r → pls r = P.plc r), (elg : lgd = l.sz), (hlog : ∀ i : Nat, (i : Int) < l.sz → lr i = l.rq i ∧ lp i = l.tg i)⟩ := hR
  have hRR : RR P l (thr, P.res, P.cap, P.quo, P.wei, P.req, P.grp, P.acc, st, pls, P.mov, P.pl, P.ml, lgd, lr, lp, fr, tr, pr, pp) := ⟨rfl, rfl, rfl, rfl, rfl, rfl, rfl, rfl, rfl, rfl, hst, hpl, elg, hlog⟩
  refine jw_eqw (wR9 G ad thr P.res P.cap P.quo P.wei P.req P.grp P.acc st pls P.mov P.pl P.ml lgd lr lp fr tr pr pp) rfl ?_
  have h1 := hI.res
  have h2 := hI.req
  
  refine jw_aload_0 (pc := 0) C dX6_movedTo_0 ?_
  refine jw_iconst (pc := 1) C dX6_movedTo_1 ?_
  refine fp_X6_60 (pc := 2) C 0 rfl (Nat.le_of_ble_eq_true rfl) dX6_movedTo_2 ?_
  refine jw_iload_1 (pc := 5) C dX6_movedTo_5 ?_
  refine jw_if_lt (pc := 6) (tgt := 26) C dX6_movedTo_6 (by decide) hj (fun c_6 => ?_) (fun c_6 => ?_)
  · have hno : ¬ (0 ≤ a ∧ a < l.sz) := by omega
    refine jw_aload_0 (pc := 26) C dX6_movedTo_26 ?_
    refine jw_iconst (pc := 27) C dX6_movedTo_27 ?_
    refine jw_V_I (pc := 28) C (c_X6_fail G ad (0, P.res, P.cap, P.quo, P.wei, P.req, P.grp, P.acc, st, pls, P.mov, P.pl, P.ml, lgd, lr, lp, fr, tr, pr, pp) 1) wd_X6_fail kml_X6_116 0 rfl rfl rfl rfl (Nat.le_of_ble_eq_true rfl) ⟨by decide, by decide⟩ ⟨Nat.zero_le _, Nat.zero_le _⟩ dX6_movedTo_28 rfl (fun zf uf hf => ?_)
    obtain ⟨ef, eg⟩ := hf
    subst ef
    subst eg
    first | exact hret _ _ _ (0, P.res, P.cap, P.quo, P.wei, P.req, P.grp, P.acc, st, pls, P.mov, P.pl, P.ml, lgd, lr, lp, fr, tr, pr, pp) dX6_movedTo_31 ⟨rfl, Or.inl ⟨hok.1, hok.2, rfl, by rw [← (hlog a.toNat (by omega)).2]⟩⟩ | exact hret _ _ _ (1, P.res, P.cap, P.quo, P.wei, P.req, P.grp, P.acc, st, pls, P.mov, P.pl, P.ml, lgd, lr, lp, fr, tr, pr, pp) dX6_movedTo_31 ⟨rfl, Or.inr ⟨hno, rfl⟩⟩
  · refine jw_iload_1 (pc := 9) C dX6_movedTo_9 ?_
    refine jw_aload_0 (pc := 10) C dX6_movedTo_10 ?_
    refine fg_X6_102 (pc := 11) C 0 rfl rfl dX6_movedTo_11 ?_
    refine jw_icmp_ge (pc := 14) (tgt := 26) C dX6_movedTo_14 (by decide) hj ⟨by omega, by omega⟩ (fun c_14 => ?_) (fun c_14 => ?_)
    · have hno : ¬ (0 ≤ a ∧ a < l.sz) := by omega
      refine jw_aload_0 (pc := 26) C dX6_movedTo_26 ?_
      refine jw_iconst (pc := 27) C dX6_movedTo_27 ?_
      refine jw_V_I (pc := 28) C (c_X6_fail G ad (0, P.res, P.cap, P.quo, P.wei, P.req, P.grp, P.acc, st, pls, P.mov, P.pl, P.ml, lgd, lr, lp, fr, tr, pr, pp) 1) wd_X6_fail kml_X6_116 0 rfl rfl rfl rfl (Nat.le_of_ble_eq_true rfl) ⟨by decide, by decide⟩ ⟨Nat.zero_le _, Nat.zero_le _⟩ dX6_movedTo_28 rfl (fun zf uf hf => ?_)
      obtain ⟨ef, eg⟩ := hf
      subst ef
      subst eg
      first | exact hret _ _ _ (0, P.res, P.cap, P.quo, P.wei, P.req, P.grp, P.acc, st, pls, P.mov, P.pl, P.ml, lgd, lr, lp, fr, tr, pr, pp) dX6_movedTo_31 ⟨rfl, Or.inl ⟨hok.1, hok.2, rfl, by rw [← (hlog a.toNat (by omega)).2]⟩⟩ | exact hret _ _ _ (1, P.res, P.cap, P.quo, P.wei, P.req, P.grp, P.acc, st, pls, P.mov, P.pl, P.ml, lgd, lr, lp, fr, tr, pr, pp) dX6_movedTo_31 ⟨rfl, Or.inr ⟨hno, rfl⟩⟩
    · have hok : 0 ≤ a ∧ a < l.sz := by omega
      refine jw_aload_0 (pc := 17) C dX6_movedTo_17 ?_
      refine fg_X6_44 (pc := 18) C 0 rfl rfl dX6_movedTo_18 ?_
      refine jw_iload_1 (pc := 21) C dX6_movedTo_21 ?_
      refine jw_iald (pc := 22) C 10 rfl a.toNat (by omega) (by omega) (by decide) dX6_movedTo_22 ?_
      refine jw_goto (pc := 23) (tgt := 31) C dX6_movedTo_23 (by decide) ?_
      first | exact hret _ _ _ (0, P.res, P.cap, P.quo, P.wei, P.req, P.grp, P.acc, st, pls, P.mov, P.pl, P.ml, lgd, lr, lp, fr, tr, pr, pp) dX6_movedTo_31 ⟨rfl, Or.inl ⟨hok.1, hok.2, rfl, by rw [← (hlog a.toNat (by omega)).2]⟩⟩ | exact hret _ _ _ (1, P.res, P.cap, P.quo, P.wei, P.req, P.grp, P.acc, st, pls, P.mov, P.pl, P.ml, lgd, lr, lp, fr, tr, pr, pp) dX6_movedTo_31 ⟨rfl, Or.inr ⟨hno, rfl⟩⟩
set_option maxRecDepth 100000 in
set_option maxHeartbeats 4000000 in
theorem c_X6_resourceOf (G : jG) (ad : Nat → Nat) (P : QP) (l : QL) (R : QR) (hI : PI P) (hR : RR P l R) (a : Int) (hj : jr a) : CI G yX6_resourceOf cX6_resourceOf 2 (jrm 1 21 0 0) [.ref (ad 0), .int (iI a)] (wR G ad R) (fun (z : Int32) (u : QR) => u.2 = R.2 ∧ ((0 ≤ a ∧ a < P.req ∧ 0 ≤ P.plc a.toNat ∧ u.1 = 0 ∧ z = iI (P.plc a.toNat)) ∨ (0 ≤ a ∧ a < P.req ∧ ¬ 0 ≤ P.plc a.toNat ∧ u.1 = 2) ∨ (¬ (0 ≤ a ∧ a < P.req) ∧ u.1 = 1))) (fun u : QR => wR G ad u) 0 0 := by
  refine ci_intro (own := RX6) [some (.ref (ad 0)), some (.int (iI a))] (by decide) rfl rfl rfl (Nat.le_of_ble_eq_true rfl) (fun X C hret => ?_)
  obtain ⟨thr, rs, cp, qu, we, rq, gr, ms, st, pls, mv, plm, mlm, lgd, lr, lp, fr, tr, pr, pp⟩ := R
  obtain ⟨(rfl : rs = P.res), (rfl : cp = P.cap), (rfl : qu = P.quo), (rfl : we = P.wei), (rfl : rq = P.req), (rfl : gr = P.grp), (rfl : ms = P.acc), (rfl : mv = P.mov), (rfl : plm = P.pl), (rfl : mlm = P.ml), (hst : ∀ r : Nat, (r : Int) < P.req → st r = stN (P.plc r)), (hpl : ∀ r : Nat, (r : Int) < P.req → 0 ≤ P.plc r → pls r = P.plc r), (elg : lgd = l.sz), (hlog : ∀ i : Nat, (i : Int) < l.sz → lr i = l.rq i ∧ lp i = l.tg i)⟩ := hR
  have hRR : RR P l (thr, P.res, P.cap, P.quo, P.wei, P.req, P.grp, P.acc, st, pls, P.mov, P.pl, P.ml, lgd, lr, lp, fr, tr, pr, pp) := ⟨rfl, rfl, rfl, rfl, rfl, rfl, rfl, rfl, rfl, rfl, hst, hpl, elg, hlog⟩
  refine jw_eqw (wR9 G ad thr P.res P.cap P.quo P.wei P.req P.grp P.acc st pls P.mov P.pl P.ml lgd lr lp fr tr pr pp) rfl ?_
  have h1 := hI.res
  have h2 := hI.req
  
  refine jw_aload_0 (pc := 0) C dX6_resourceOf_0 ?_
  refine jw_iconst (pc := 1) C dX6_resourceOf_1 ?_
  refine fp_X6_60 (pc := 2) C 0 rfl (Nat.le_of_ble_eq_true rfl) dX6_resourceOf_2 ?_
  refine jw_aload_0 (pc := 5) C dX6_resourceOf_5 ?_
  refine jw_iload_1 (pc := 6) C dX6_resourceOf_6 ?_
  refine jw_V_Z (pc := 7) C (c_X6_isRequest G ad P l (0, P.res, P.cap, P.quo, P.wei, P.req, P.grp, P.acc, st, pls, P.mov, P.pl, P.ml, lgd, lr, lp, fr, tr, pr, pp) hI hRR a hj) wd_X6_isRequest kml_X6_131 0 rfl rfl rfl rfl (Nat.le_of_ble_eq_true rfl) ⟨by decide, by decide⟩ ⟨Nat.zero_le _, Nat.zero_le _⟩ dX6_resourceOf_7 rfl (fun z u h => ?_)
  subst h
  refine jw_eqw (wR9 G ad 0 P.res P.cap P.quo P.wei P.req P.grp P.acc st pls P.mov P.pl P.ml lgd lr lp fr tr pr pp) rfl ?_
  refine jw_if_ne_b (pc := 10) (tgt := 19) C dX6_resourceOf_10 (by decide) (fun c_10 => ?_) (fun c_10 => ?_)
  · have hok := of_decide_eq_true c_10
    have q1 := hst a.toNat (by omega)
    have q2 := stN_rng (P.plc a.toNat)
    have q3 := @stN_1 (P.plc a.toNat)
    have q4 := hpl a.toNat (by omega)
    refine jw_aload_0 (pc := 19) C dX6_resourceOf_19 ?_
    refine fg_X6_25 (pc := 20) C 0 rfl rfl dX6_resourceOf_20 ?_
    refine jw_iload_1 (pc := 23) C dX6_resourceOf_23 ?_
    refine jw_iald (pc := 24) C 6 rfl a.toNat (by omega) (by omega) (by decide) dX6_resourceOf_24 ?_
    refine jw_iconst (pc := 25) C dX6_resourceOf_25 ?_
    refine jw_icmp_ne (pc := 26) (tgt := 38) C dX6_resourceOf_26 (by decide) ⟨by omega, by omega⟩ ⟨by omega, by omega⟩ (fun c_26 => ?_) (fun c_26 => ?_)
    · have hp : ¬ 0 ≤ P.plc a.toNat := by omega
      refine jw_aload_0 (pc := 38) C dX6_resourceOf_38 ?_
      refine jw_iconst (pc := 39) C dX6_resourceOf_39 ?_
      refine jw_V_I (pc := 40) C (c_X6_fail G ad (0, P.res, P.cap, P.quo, P.wei, P.req, P.grp, P.acc, st, pls, P.mov, P.pl, P.ml, lgd, lr, lp, fr, tr, pr, pp) 2) wd_X6_fail kml_X6_116 0 rfl rfl rfl rfl (Nat.le_of_ble_eq_true rfl) ⟨by decide, by decide⟩ ⟨Nat.zero_le _, Nat.zero_le _⟩ dX6_resourceOf_40 rfl (fun zf uf hf => ?_)
      obtain ⟨ef, eg⟩ := hf
      subst ef
      subst eg
      first | exact hret _ _ _ (0, P.res, P.cap, P.quo, P.wei, P.req, P.grp, P.acc, st, pls, P.mov, P.pl, P.ml, lgd, lr, lp, fr, tr, pr, pp) dX6_resourceOf_43 ⟨rfl, Or.inl ⟨hok.1, hok.2, hp, rfl, by rw [← q4 hp]⟩⟩ | exact hret _ _ _ (2, P.res, P.cap, P.quo, P.wei, P.req, P.grp, P.acc, st, pls, P.mov, P.pl, P.ml, lgd, lr, lp, fr, tr, pr, pp) dX6_resourceOf_43 ⟨rfl, Or.inr (Or.inl ⟨hok.1, hok.2, hp, rfl⟩)⟩
    · have hp : 0 ≤ P.plc a.toNat := by omega
      refine jw_aload_0 (pc := 29) C dX6_resourceOf_29 ?_
      refine fg_X6_28 (pc := 30) C 0 rfl rfl dX6_resourceOf_30 ?_
      refine jw_iload_1 (pc := 33) C dX6_resourceOf_33 ?_
      refine jw_iald (pc := 34) C 7 rfl a.toNat (by omega) (by omega) (by decide) dX6_resourceOf_34 ?_
      refine jw_goto (pc := 35) (tgt := 43) C dX6_resourceOf_35 (by decide) ?_
      first | exact hret _ _ _ (0, P.res, P.cap, P.quo, P.wei, P.req, P.grp, P.acc, st, pls, P.mov, P.pl, P.ml, lgd, lr, lp, fr, tr, pr, pp) dX6_resourceOf_43 ⟨rfl, Or.inl ⟨hok.1, hok.2, hp, rfl, by rw [← q4 hp]⟩⟩ | exact hret _ _ _ (2, P.res, P.cap, P.quo, P.wei, P.req, P.grp, P.acc, st, pls, P.mov, P.pl, P.ml, lgd, lr, lp, fr, tr, pr, pp) dX6_resourceOf_43 ⟨rfl, Or.inr (Or.inl ⟨hok.1, hok.2, hp, rfl⟩)⟩
  · have hno := of_decide_eq_false c_10
    refine jw_aload_0 (pc := 13) C dX6_resourceOf_13 ?_
    refine jw_iconst (pc := 14) C dX6_resourceOf_14 ?_
    refine jw_V_I (pc := 15) C (c_X6_fail G ad (0, P.res, P.cap, P.quo, P.wei, P.req, P.grp, P.acc, st, pls, P.mov, P.pl, P.ml, lgd, lr, lp, fr, tr, pr, pp) 1) wd_X6_fail kml_X6_116 0 rfl rfl rfl rfl (Nat.le_of_ble_eq_true rfl) ⟨by decide, by decide⟩ ⟨Nat.zero_le _, Nat.zero_le _⟩ dX6_resourceOf_15 rfl (fun zf uf hf => ?_)
    obtain ⟨ef, eg⟩ := hf
    subst ef
    subst eg
    exact hret _ _ _ (1, P.res, P.cap, P.quo, P.wei, P.req, P.grp, P.acc, st, pls, P.mov, P.pl, P.ml, lgd, lr, lp, fr, tr, pr, pp) dX6_resourceOf_18 ⟨rfl, Or.inr (Or.inr ⟨hno, rfl⟩)⟩
theorem cnt_asg {P : QP} (hI : PI P) : ∀ n, cntF (fun r => decide (stN (P.plc r) = 1)) n = cntF (fun r => decide (0 ≤ P.plc r ∧ P.grp r = ((0 : Nat) : Int))) n + cntF (fun r => decide (0 ≤ P.plc r ∧ P.grp r = ((1 : Nat) : Int))) n + cntF (fun r => decide (0 ≤ P.plc r ∧ P.grp r = ((2 : Nat) : Int))) n + cntF (fun r => decide (0 ≤ P.plc r ∧ P.grp r = ((3 : Nat) : Int))) n
  | 0 => rfl
  | n + 1 => by
    have ih := cnt_asg hI n
    have hg := hI.grp n
    have q3 := @stN_1 (P.plc n)
    simp only [cntF, decide_eq_true_eq]
    rw [ih]
    by_cases h : 0 ≤ P.plc n
    · rw [if_pos (q3.mpr h)]
      by_cases g0 : P.grp n = ((0 : Nat) : Int)
      · rw [if_pos ⟨h, g0⟩, if_neg (fun q => by omega), if_neg (fun q => by omega), if_neg (fun q => by omega)]; omega
      · by_cases g1 : P.grp n = ((1 : Nat) : Int)
        · rw [if_neg (fun q => by omega), if_pos ⟨h, g1⟩, if_neg (fun q => by omega), if_neg (fun q => by omega)]; omega
        · by_cases g2 : P.grp n = ((2 : Nat) : Int)
          · rw [if_neg (fun q => by omega), if_neg (fun q => by omega), if_pos ⟨h, g2⟩, if_neg (fun q => by omega)]; omega
          · rw [if_neg (fun q => by omega), if_neg (fun q => by omega), if_neg (fun q => by omega), if_pos ⟨h, by omega⟩]; omega
    · rw [if_neg (fun q => h (q3.mp q)), if_neg (fun q => h q.1), if_neg (fun q => h q.1), if_neg (fun q => h q.1), if_neg (fun q => h q.1)]; omega
theorem cnt_all {P : QP} (hI : PI P) : cntF (fun r => decide (stN (P.plc r) = 1)) P.req.toNat = sumF P.asg 4 := by
  rw [cnt_asg hI, ← hI.2.2 0, ← hI.2.2 1, ← hI.2.2 2, ← hI.2.2 3]
  simp only [sumF]
  omega
theorem cnt_wait (P : QP) : cntF (fun r => decide (stN (P.plc r) = 0)) P.req.toNat = cntF (fun r => decide (P.plc r = -1)) P.req.toNat := cntF_congr (fun j _ => decide_eq_decide.mpr stN_0)
theorem asg_0 {P : QP} (hI : PI P) : sumF P.asg 4 = 0 ↔ (P.asg 0 = 0 ∧ P.asg 1 = 0 ∧ P.asg 2 = 0 ∧ P.asg 3 = 0) := by
  have h0 := hI.asg 0
  have h1 := hI.asg 1
  have h2 := hI.asg 2
  have h3 := hI.asg 3
  simp only [sumF]
  constructor
  · intro h; exact ⟨by omega, by omega, by omega, by omega⟩
  · intro h; omega
theorem mix43 (P : QP) : mixJ 43 P.res = 1333 + (iI P.res).toInt64 := by
  unfold mixJ
  rw [show (43 : Int64) * 31 = 1333 from by decide]
set_option maxRecDepth 100000 in
set_option maxHeartbeats 4000000 in
theorem c_X6_fairness (G : jG) (ad : Nat → Nat) (P : QP) (l : QL) (R : QR) (hI : PI P) (hR : RR P l R)  : CD G yX6_fairness cX6_fairness 8 (jrm 1 23 0 0) [.ref (ad 0)] (wR G ad R) (fun (z : UInt64) (u : QR) => u.2 = R.2 ∧ u.1 = 0 ∧ z = fairF P.asg P.wei) (fun u : QR => wR G ad u) 0 0 := by
  refine cd_intro (own := RX6) [some (.ref (ad 0)), none, none, none, none, none, none, none] (by decide) rfl rfl rfl (Nat.le_of_ble_eq_true rfl) (fun X C hret => ?_)
  obtain ⟨thr, rs, cp, qu, we, rq, gr, ms, st, pls, mv, plm, mlm, lgd, lr, lp, fr, tr, pr, pp⟩ := R
  obtain ⟨(rfl : rs = P.res), (rfl : cp = P.cap), (rfl : qu = P.quo), (rfl : we = P.wei), (rfl : rq = P.req), (rfl : gr = P.grp), (rfl : ms = P.acc), (rfl : mv = P.mov), (rfl : plm = P.pl), (rfl : mlm = P.ml), (hst : ∀ r : Nat, (r : Int) < P.req → st r = stN (P.plc r)), (hpl : ∀ r : Nat, (r : Int) < P.req → 0 ≤ P.plc r → pls r = P.plc r), (elg : lgd = l.sz), (hlog : ∀ i : Nat, (i : Int) < l.sz → lr i = l.rq i ∧ lp i = l.tg i)⟩ := hR
  have hRR : RR P l (thr, P.res, P.cap, P.quo, P.wei, P.req, P.grp, P.acc, st, pls, P.mov, P.pl, P.ml, lgd, lr, lp, fr, tr, pr, pp) := ⟨rfl, rfl, rfl, rfl, rfl, rfl, rfl, rfl, rfl, rfl, hst, hpl, elg, hlog⟩
  refine jw_eqw (wR9 G ad thr P.res P.cap P.quo P.wei P.req P.grp P.acc st pls P.mov P.pl P.ml lgd lr lp fr tr pr pp) rfl ?_
  have h1 := hI.res
  have h2 := hI.req
  have hf := fair_ok (a := P.asg) (w := P.wei) (fun i _ => hI.asg i) (fun i hi => ⟨hI.wei1 i hi, (hI.wei i).2⟩)
  have h0 := asg_0 hI
  have hc := cntF_le (fun r => decide (stN (P.plc r) = 1)) P.req.toNat
  have hc2 := cntF_nn (fun r => decide (stN (P.plc r) = 1)) P.req.toNat
  rw [cnt_all hI] at hc hc2
  refine jw_aload_0 (pc := 0) C dX6_fairness_0 ?_
  refine jw_iconst (pc := 1) C dX6_fairness_1 ?_
  refine fp_X6_60 (pc := 2) C 0 rfl (Nat.le_of_ble_eq_true rfl) dX6_fairness_2 ?_
  refine jw_dconst0 (pc := 5) C dX6_fairness_5 ?_
  refine jw_dstore_1 (pc := 6) C dX6_fairness_6 rfl ?_
  refine jw_dconst0 (pc := 7) C dX6_fairness_7 ?_
  refine jw_dstore_3 (pc := 8) C dX6_fairness_8 rfl ?_
  refine jw_iconst (pc := 9) C dX6_fairness_9 ?_
  refine jw_istore_5 (pc := 10) C dX6_fairness_10 rfl ?_
  have K12 : ∀ (n_12 : Nat) (i : Nat), (i ≤ 4) → 4 - i < n_12 → JW G X 0 0 (wR9 G ad 0 P.res P.cap P.quo P.wei P.req P.grp P.acc st pls P.mov P.pl P.ml lgd lr lp fr tr pr pp) 12 [some (.ref (ad 0)), some (.double (f_sum (fun g => f_sh (P.asg g) (P.wei g)) i)), none, some (.double (f_sum (fun g => FP.dmul (f_sh (P.asg g) (P.wei g)) (f_sh (P.asg g) (P.wei g))) i)), none, some (.int (iI (i : Int))), none, none] [] := by
    intro n_12
    induction n_12 with
    | zero => intro i hi hm_12; exact absurd hm_12 (Nat.not_lt_zero _)
    | succ n_12 ih_12 =>
      intro i hi hm_12
      refine jw_iload_5 (pc := 12) C dX6_fairness_12 ?_
      refine jw_iconst (pc := 14) C dX6_fairness_14 ?_
      refine jw_icmp_ge (pc := 15) (tgt := 55) C dX6_fairness_15 (by decide) ⟨by omega, by omega⟩ ⟨by omega, by omega⟩ (fun c_15 => ?_) (fun c_15 => ?_)
      · obtain rfl : i = 4 := by omega
        refine jw_aload_0 (pc := 55) C dX6_fairness_55 ?_
        refine jw_iconst (pc := 56) C dX6_fairness_56 ?_
        refine jw_V_I (pc := 57) C (c_X6_countOf G ad P l (0, P.res, P.cap, P.quo, P.wei, P.req, P.grp, P.acc, st, pls, P.mov, P.pl, P.ml, lgd, lr, lp, fr, tr, pr, pp) hI hRR 1 ⟨by omega, by omega⟩) wd_X6_countOf kml_X6_134 0 rfl rfl rfl rfl (Nat.le_of_ble_eq_true rfl) ⟨by decide, by decide⟩ ⟨Nat.zero_le _, Nat.zero_le _⟩ dX6_fairness_57 rfl (fun z u h => ?_)
        rw [cnt_all hI] at h
        subst h
        refine jw_if_ne (pc := 60) (tgt := 67) C dX6_fairness_60 (by decide) ⟨by omega, by omega⟩ (fun c_60 => ?_) (fun c_60 => ?_)
        · have hz : ¬ (P.asg 0 = 0 ∧ P.asg 1 = 0 ∧ P.asg 2 = 0 ∧ P.asg 3 = 0) := fun q => c_60 (h0.mpr q)
          have hp := hf.2.2.2.2 hz
          have e : FP.ddiv (FP.dmul (f_sum (fun g => f_sh (P.asg g) (P.wei g)) 4) (f_sum (fun g => f_sh (P.asg g) (P.wei g)) 4)) (FP.dmul 4616189618054758400 (f_sum (fun g => FP.dmul (f_sh (P.asg g) (P.wei g)) (f_sh (P.asg g) (P.wei g))) 4)) = fairF P.asg P.wei := (if_neg hz).symm
          refine jw_dload_1 (pc := 67) C dX6_fairness_67 ?_
          refine jw_dload_1 (pc := 68) C dX6_fairness_68 ?_
          refine jw_dmul (pc := 69) C dX6_fairness_69 hp.2.1 ?_
          refine jw_ldc2d (pc := 70) C kcn_X6_146 dX6_fairness_70 ?_
          refine jw_dload_3 (pc := 73) C dX6_fairness_73 ?_
          refine jw_dmul (pc := 74) C dX6_fairness_74 hp.2.2.1 ?_
          refine jw_ddiv (pc := 75) C dX6_fairness_75 hp.2.2.2 ?_
          exact hret _ _ _ (0, P.res, P.cap, P.quo, P.wei, P.req, P.grp, P.acc, st, pls, P.mov, P.pl, P.ml, lgd, lr, lp, fr, tr, pr, pp) dX6_fairness_76 ⟨rfl, rfl, e⟩
        · have hz : (P.asg 0 = 0 ∧ P.asg 1 = 0 ∧ P.asg 2 = 0 ∧ P.asg 3 = 0) := h0.mp c_60
          have e : FP.dconst1 = fairF P.asg P.wei := (if_pos hz).symm
          refine jw_dconst1 (pc := 63) C dX6_fairness_63 ?_
          refine jw_goto (pc := 64) (tgt := 76) C dX6_fairness_64 (by decide) ?_
          exact hret _ _ _ (0, P.res, P.cap, P.quo, P.wei, P.req, P.grp, P.acc, st, pls, P.mov, P.pl, P.ml, lgd, lr, lp, fr, tr, pr, pp) dX6_fairness_76 ⟨rfl, rfl, e⟩
      · refine jw_aload_0 (pc := 18) C dX6_fairness_18 ?_
        refine jw_iload_5 (pc := 19) C dX6_fairness_19 ?_
        refine jw_V_I (pc := 21) C (c_X6_assignedIn G ad P l (0, P.res, P.cap, P.quo, P.wei, P.req, P.grp, P.acc, st, pls, P.mov, P.pl, P.ml, lgd, lr, lp, fr, tr, pr, pp) hI hRR i (by omega)) wd_X6_assignedIn kml_X6_89 0 rfl rfl rfl rfl (Nat.le_of_ble_eq_true rfl) ⟨by decide, by decide⟩ ⟨Nat.zero_le _, Nat.zero_le _⟩ dX6_fairness_21 rfl (fun z u h => ?_)
        subst h
        refine jw_i2d (pc := 24) C dX6_fairness_24 ?_
        refine jw_aload_0 (pc := 25) C dX6_fairness_25 ?_
        refine fg_X6_16 (pc := 26) C 0 rfl rfl dX6_fairness_26 ?_
        refine jw_iload_5 (pc := 29) C dX6_fairness_29 ?_
        refine jw_iald (pc := 31) C 3 rfl i rfl (by omega) (by decide) dX6_fairness_31 ?_
        refine jw_i2d (pc := 32) C dX6_fairness_32 ?_
        refine jw_ddiv (pc := 33) C dX6_fairness_33 (hf.1 i (by omega)).1 ?_
        refine jw_dstore_6 (pc := 34) C dX6_fairness_34 rfl ?_
        refine jw_dload_1 (pc := 36) C dX6_fairness_36 ?_
        refine jw_dload_6 (pc := 37) C dX6_fairness_37 ?_
        refine jw_dadd (pc := 39) C dX6_fairness_39 (hf.2.1 i (by omega)) ?_
        refine jw_dstore_1 (pc := 40) C dX6_fairness_40 rfl ?_
        refine jw_dload_3 (pc := 41) C dX6_fairness_41 ?_
        refine jw_dload_6 (pc := 42) C dX6_fairness_42 ?_
        refine jw_dload_6 (pc := 44) C dX6_fairness_44 ?_
        refine jw_dmul (pc := 46) C dX6_fairness_46 (hf.1 i (by omega)).2 ?_
        refine jw_dadd (pc := 47) C dX6_fairness_47 (hf.2.2.1 i (by omega)) ?_
        refine jw_dstore_3 (pc := 48) C dX6_fairness_48 rfl ?_
        refine jw_iinc_5 (pc := 49) C dX6_fairness_49 rfl ?_
        refine jw_goto (pc := 52) (tgt := 12) C dX6_fairness_52 (by decide) ?_
        exact jw_less (ih_12 (i + 1) (by omega) (by omega)) (by repeat (first | exact trivial | refine And.intro rfl ?_))
  exact K12 5 0 (by omega) (by omega)
set_option maxRecDepth 100000 in
set_option maxHeartbeats 4000000 in
theorem c_X6_digest (G : jG) (ad : Nat → Nat) (P : QP) (l : QL) (R : QR) (hI : PI P) (hR : RR P l R)  : CL G yX6_digest cX6_digest 4 (jrm 2 45 0 0) [.ref (ad 0)] (wR G ad R) (fun (z : Int64) (u : QR) => u.2 = R.2 ∧ u.1 = 0 ∧ z = digF P l) (fun u : QR => wR G ad u) 0 0 := by
  refine cl_intro (own := RX6) [some (.ref (ad 0)), none, none, none] (by decide) rfl rfl rfl (Nat.le_of_ble_eq_true rfl) (fun X C hret => ?_)
  obtain ⟨thr, rs, cp, qu, we, rq, gr, ms, st, pls, mv, plm, mlm, lgd, lr, lp, fr, tr, pr, pp⟩ := R
  obtain ⟨(rfl : rs = P.res), (rfl : cp = P.cap), (rfl : qu = P.quo), (rfl : we = P.wei), (rfl : rq = P.req), (rfl : gr = P.grp), (rfl : ms = P.acc), (rfl : mv = P.mov), (rfl : plm = P.pl), (rfl : mlm = P.ml), (hst : ∀ r : Nat, (r : Int) < P.req → st r = stN (P.plc r)), (hpl : ∀ r : Nat, (r : Int) < P.req → 0 ≤ P.plc r → pls r = P.plc r), (elg : lgd = l.sz), (hlog : ∀ i : Nat, (i : Int) < l.sz → lr i = l.rq i ∧ lp i = l.tg i)⟩ := hR
  have hRR : RR P l (thr, P.res, P.cap, P.quo, P.wei, P.req, P.grp, P.acc, st, pls, P.mov, P.pl, P.ml, lgd, lr, lp, fr, tr, pr, pp) := ⟨rfl, rfl, rfl, rfl, rfl, rfl, rfl, rfl, rfl, rfl, hst, hpl, elg, hlog⟩
  refine jw_eqw (wR9 G ad thr P.res P.cap P.quo P.wei P.req P.grp P.acc st pls P.mov P.pl P.ml lgd lr lp fr tr pr pp) rfl ?_
  have h1 := hI.res
  have h2 := hI.req
  
  refine jw_aload_0 (pc := 0) C dX6_digest_0 ?_
  refine jw_iconst (pc := 1) C dX6_digest_1 ?_
  refine fp_X6_60 (pc := 2) C 0 rfl (Nat.le_of_ble_eq_true rfl) dX6_digest_2 ?_
  refine jw_ldc2l (pc := 5) C kcn_X6_148 dX6_digest_5 ?_
  refine jw_aload_0 (pc := 8) C dX6_digest_8 ?_
  refine fg_X6_63 (pc := 9) C 0 rfl rfl dX6_digest_9 ?_
  refine jw_i2l (pc := 12) C dX6_digest_12 ?_
  refine jw_ladd (pc := 13) C dX6_digest_13 ?_
  refine jw_ldc2l (pc := 14) C kcn_X6_150 dX6_digest_14 ?_
  refine jw_lmul (pc := 17) C dX6_digest_17 ?_
  refine jw_aload_0 (pc := 18) C dX6_digest_18 ?_
  refine fg_X6_66 (pc := 19) C 0 rfl rfl dX6_digest_19 ?_
  refine jw_i2l (pc := 22) C dX6_digest_22 ?_
  refine jw_ladd (pc := 23) C dX6_digest_23 ?_
  refine jw_lstore_1 (pc := 24) C dX6_digest_24 rfl ?_
  refine jw_iconst (pc := 25) C dX6_digest_25 ?_
  refine jw_istore_3 (pc := 26) C dX6_digest_26 rfl ?_
  have K27 : ∀ (n_27 : Nat) (a : Nat), ((a : Int) ≤ P.res) → 12 - a < n_27 → JW G X 0 0 (wR9 G ad 0 P.res P.cap P.quo P.wei P.req P.grp P.acc st pls P.mov P.pl P.ml lgd lr lp fr tr pr pp) 27 [some (.ref (ad 0)), some (.long (digA P (dig0 P) a)), none, some (.int (iI (a : Int)))] [] := by
    intro n_27
    induction n_27 with
    | zero => intro a ha hm_27; exact absurd hm_27 (Nat.not_lt_zero _)
    | succ n_27 ih_27 =>
      intro a ha hm_27
      refine jw_iload_3 (pc := 27) C dX6_digest_27 ?_
      refine jw_aload_0 (pc := 28) C dX6_digest_28 ?_
      refine fg_X6_63 (pc := 29) C 0 rfl rfl dX6_digest_29 ?_
      refine jw_icmp_ge (pc := 32) (tgt := 66) C dX6_digest_32 (by decide) ⟨by omega, by omega⟩ ⟨by omega, by omega⟩ (fun c_32 => ?_) (fun c_32 => ?_)
      · obtain rfl : a = P.res.toNat := by omega
        refine jw_iconst (pc := 66) C dX6_digest_66 ?_
        refine jw_istore_3 (pc := 67) C dX6_digest_67 rfl ?_
        have K68 : ∀ (n_68 : Nat) (r : Nat), ((r : Int) ≤ P.req) → 40 - r < n_68 → JW G X 0 0 (wR9 G ad 0 P.res P.cap P.quo P.wei P.req P.grp P.acc st pls P.mov P.pl P.ml lgd lr lp fr tr pr pp) 68 [some (.ref (ad 0)), some (.long (digR P (digA P (dig0 P) P.res.toNat) r)), none, some (.int (iI (r : Int)))] [] := by
          intro n_68
          induction n_68 with
          | zero => intro r hr hm_68; exact absurd hm_68 (Nat.not_lt_zero _)
          | succ n_68 ih_68 =>
            intro r hr hm_68
            refine jw_iload_3 (pc := 68) C dX6_digest_68 ?_
            refine jw_aload_0 (pc := 69) C dX6_digest_69 ?_
            refine fg_X6_66 (pc := 70) C 0 rfl rfl dX6_digest_70 ?_
            refine jw_icmp_ge (pc := 73) (tgt := 132) C dX6_digest_73 (by decide) ⟨by omega, by omega⟩ ⟨by omega, by omega⟩ (fun c_73 => ?_) (fun c_73 => ?_)
            · obtain rfl : r = P.req.toNat := by omega
              refine jw_lload_1 (pc := 132) C dX6_digest_132 ?_
              refine jw_ldc2l (pc := 133) C kcn_X6_150 dX6_digest_133 ?_
              refine jw_lmul (pc := 136) C dX6_digest_136 ?_
              refine jw_aload_0 (pc := 137) C dX6_digest_137 ?_
              refine fg_X6_102 (pc := 138) C 0 rfl rfl dX6_digest_138 ?_
              refine jw_i2l (pc := 141) C dX6_digest_141 ?_
              refine jw_ladd (pc := 142) C dX6_digest_142 ?_
              exact hret _ _ _ (0, P.res, P.cap, P.quo, P.wei, P.req, P.grp, P.acc, st, pls, P.mov, P.pl, P.ml, lgd, lr, lp, fr, tr, pr, pp) dX6_digest_143 ⟨rfl, rfl, by rw [elg]; rfl⟩
            · have q1 := hst r (by omega)
              have q2 := stN_rng (P.plc r)
              have q3 := @stN_1 (P.plc r)
              have q4 := hpl r (by omega)
              refine jw_lload_1 (pc := 76) C dX6_digest_76 ?_
              refine jw_ldc2l (pc := 77) C kcn_X6_150 dX6_digest_77 ?_
              refine jw_lmul (pc := 80) C dX6_digest_80 ?_
              refine jw_aload_0 (pc := 81) C dX6_digest_81 ?_
              refine fg_X6_25 (pc := 82) C 0 rfl rfl dX6_digest_82 ?_
              refine jw_iload_3 (pc := 85) C dX6_digest_85 ?_
              refine jw_iald (pc := 86) C 6 rfl _ rfl (by omega) (by decide) dX6_digest_86 ?_
              refine jw_i2l (pc := 87) C dX6_digest_87 ?_
              refine jw_ladd (pc := 88) C dX6_digest_88 ?_
              refine jw_ldc2l (pc := 89) C kcn_X6_150 dX6_digest_89 ?_
              refine jw_lmul (pc := 92) C dX6_digest_92 ?_
              refine jw_aload_0 (pc := 93) C dX6_digest_93 ?_
              refine fg_X6_31 (pc := 94) C 0 rfl rfl dX6_digest_94 ?_
              refine jw_iload_3 (pc := 97) C dX6_digest_97 ?_
              refine jw_iald (pc := 98) C 8 rfl r rfl (by omega) (by decide) dX6_digest_98 ?_
              refine jw_i2l (pc := 99) C dX6_digest_99 ?_
              refine jw_ladd (pc := 100) C dX6_digest_100 ?_
              refine jw_lstore_1 (pc := 101) C dX6_digest_101 rfl ?_
              refine jw_aload_0 (pc := 102) C dX6_digest_102 ?_
              refine fg_X6_25 (pc := 103) C 0 rfl rfl dX6_digest_103 ?_
              refine jw_iload_3 (pc := 106) C dX6_digest_106 ?_
              refine jw_iald (pc := 107) C 6 rfl r rfl (by omega) (by decide) dX6_digest_107 ?_
              refine jw_iconst (pc := 108) C dX6_digest_108 ?_
              refine jw_icmp_ne (pc := 109) (tgt := 126) C dX6_digest_109 (by decide) ⟨by omega, by omega⟩ ⟨by omega, by omega⟩ (fun c_109 => ?_) (fun c_109 => ?_)
              · have e9 : digR P (digA P (dig0 P) P.res.toNat) (r + 1) = mixJ (mixJ (digR P (digA P (dig0 P) P.res.toNat) r) (st r)) (P.mov r) := by rw [q1]; exact if_neg (fun q => by omega)
                refine jw_iinc_3 (pc := 126) C dX6_digest_126 rfl ?_
                refine jw_goto (pc := 129) (tgt := 68) C dX6_digest_129 (by decide) ?_
                have K := ih_68 (r + 1) (by omega) (by omega)
                rw [e9] at K
                exact K
              · have e9 : digR P (digA P (dig0 P) P.res.toNat) (r + 1) = mixJ (mixJ (mixJ (digR P (digA P (dig0 P) P.res.toNat) r) (st r)) (P.mov r)) (pls r) := by rw [q4 (by omega), q1]; exact if_pos (by omega)
                refine jw_lload_1 (pc := 112) C dX6_digest_112 ?_
                refine jw_ldc2l (pc := 113) C kcn_X6_150 dX6_digest_113 ?_
                refine jw_lmul (pc := 116) C dX6_digest_116 ?_
                refine jw_aload_0 (pc := 117) C dX6_digest_117 ?_
                refine fg_X6_28 (pc := 118) C 0 rfl rfl dX6_digest_118 ?_
                refine jw_iload_3 (pc := 121) C dX6_digest_121 ?_
                refine jw_iald (pc := 122) C 7 rfl r rfl (by omega) (by decide) dX6_digest_122 ?_
                refine jw_i2l (pc := 123) C dX6_digest_123 ?_
                refine jw_ladd (pc := 124) C dX6_digest_124 ?_
                refine jw_lstore_1 (pc := 125) C dX6_digest_125 rfl ?_
                refine jw_iinc_3 (pc := 126) C dX6_digest_126 rfl ?_
                refine jw_goto (pc := 129) (tgt := 68) C dX6_digest_129 (by decide) ?_
                have K := ih_68 (r + 1) (by omega) (by omega)
                rw [e9] at K
                exact K
        exact K68 41 0 (by omega) (by omega)
      · refine jw_lload_1 (pc := 35) C dX6_digest_35 ?_
        refine jw_ldc2l (pc := 36) C kcn_X6_150 dX6_digest_36 ?_
        refine jw_lmul (pc := 39) C dX6_digest_39 ?_
        refine jw_aload_0 (pc := 40) C dX6_digest_40 ?_
        refine fg_X6_9 (pc := 41) C 0 rfl rfl dX6_digest_41 ?_
        refine jw_iload_3 (pc := 44) C dX6_digest_44 ?_
        refine jw_iald (pc := 45) C 1 rfl a rfl (by omega) (by decide) dX6_digest_45 ?_
        refine jw_i2l (pc := 46) C dX6_digest_46 ?_
        refine jw_ladd (pc := 47) C dX6_digest_47 ?_
        refine jw_ldc2l (pc := 48) C kcn_X6_150 dX6_digest_48 ?_
        refine jw_lmul (pc := 51) C dX6_digest_51 ?_
        refine jw_aload_0 (pc := 52) C dX6_digest_52 ?_
        refine jw_iload_3 (pc := 53) C dX6_digest_53 ?_
        refine jw_V_I (pc := 54) C (c_X6_loadOf G ad P l (0, P.res, P.cap, P.quo, P.wei, P.req, P.grp, P.acc, st, pls, P.mov, P.pl, P.ml, lgd, lr, lp, fr, tr, pr, pp) hI hRR a (by omega)) wd_X6_loadOf kml_X6_73 0 rfl rfl rfl rfl (Nat.le_of_ble_eq_true rfl) ⟨by decide, by decide⟩ ⟨Nat.zero_le _, Nat.zero_le _⟩ dX6_digest_54 rfl (fun z u h => ?_)
        subst h
        refine jw_i2l (pc := 57) C dX6_digest_57 ?_
        refine jw_ladd (pc := 58) C dX6_digest_58 ?_
        refine jw_lstore_1 (pc := 59) C dX6_digest_59 rfl ?_
        refine jw_iinc_3 (pc := 60) C dX6_digest_60 rfl ?_
        refine jw_goto (pc := 63) (tgt := 27) C dX6_digest_63 (by decide) ?_
        exact ih_27 (a + 1) (by omega) (by omega)
  have K := K27 13 0 (by omega) (by omega)
  rw [show digA P (dig0 P) 0 = (1333 + (iI P.res).toInt64) * 31 + (iI P.req).toInt64 from by rw [← mix43]; rfl] at K
  exact K
