def sTri (R : QR) (T : Nat → Bool) : QR := (R.thr, R.res, R.cap, R.quo, R.wei, R.req, R.grp, R.msk, R.st, R.pls, R.mov, R.pl, R.ml, R.lgd, R.lr, R.lp, R.far, T, R.pr, R.pp)
theorem RR_tri {P : QP} {l : QL} {S : QR} {T : Nat → Bool} (h : RR P l S) : RR P l (sTri S T) := h
theorem runF_stop {P : QP} {l : QL} {T : Nat → Bool} {c : Int} (h : nxF P T P.req.toNat = -1) : ∀ n, runF n P l T c = (P, l, c)
  | 0 => rfl
  | n + 1 => by rw [runF, if_pos h]
theorem cnt_full {p : Nat → Bool} : ∀ {n : Nat}, cntF p n = n → ∀ j, j < n → p j = true
  | 0, _, j, h => absurd h (Nat.not_lt_zero _)
  | n + 1, h, j, hj => by
    have h1 := cntF_le p n
    simp only [cntF] at h
    by_cases e : p n = true
    · rw [if_pos e] at h
      by_cases q : j = n
      · rw [q]; exact e
      · exact cnt_full (n := n) (by omega) j (by omega)
    · rw [if_neg e] at h
      omega
theorem cnt_set {T : Nat → Bool} {k n : Nat} (hk : k < n) (h : T k = false) : cntF (updf T k true) n = cntF T n + 1 := by
  rw [cntF_upd (p := T) (q := updf T k true) hk (fun j hj => updf_ne _ _ hj), h, updf_same]
  simp
set_option maxRecDepth 100000 in
set_option maxHeartbeats 4000000 in
theorem c_X6_run (G : jG) (ad : Nat → Nat) (P : QP) (l : QL) (R : QR) (hI : PI P) (hR : RR P l R) (hl : l.sz = 0) : CI G yX6_run cX6_run 3 (jrm 6 138 0 0) [.ref (ad 0)] (wR G ad R) (fun (z : Int32) (u : QR) => z = iI (runF P.req.toNat P l (fun _ => false) 0).2.2 ∧ RR (runF P.req.toNat P l (fun _ => false) 0).1 (runF P.req.toNat P l (fun _ => false) 0).2.1 u ∧ u.thr = R.thr) (fun u : QR => wR G ad u) 0 0 := by
  refine ci_intro (own := RX6) [some (.ref (ad 0)), none, none] (by decide) rfl rfl rfl (Nat.le_of_ble_eq_true rfl) (fun X C hret => ?_)
  obtain ⟨thr, rs, cp, qu, we, rq, gr, ms, st, pls, mv, plm, mlm, lgd, lr, lp, fr, tr, pr, pp⟩ := R
  obtain ⟨(rfl : rs = P.res), (rfl : cp = P.cap), (rfl : qu = P.quo), (rfl : we = P.wei), (rfl : rq = P.req), (rfl : gr = P.grp), (rfl : ms = P.acc), (rfl : mv = P.mov), (rfl : plm = P.pl), (rfl : mlm = P.ml), (hst : ∀ r : Nat, (r : Int) < P.req → st r = stN (P.plc r)), (hpl : ∀ r : Nat, (r : Int) < P.req → 0 ≤ P.plc r → pls r = P.plc r), (elg : lgd = l.sz), (hlog : ∀ i : Nat, (i : Int) < l.sz → lr i = l.rq i ∧ lp i = l.tg i)⟩ := hR
  have hRR : RR P l (thr, P.res, P.cap, P.quo, P.wei, P.req, P.grp, P.acc, st, pls, P.mov, P.pl, P.ml, lgd, lr, lp, fr, tr, pr, pp) := ⟨rfl, rfl, rfl, rfl, rfl, rfl, rfl, rfl, rfl, rfl, hst, hpl, elg, hlog⟩
  refine jw_eqw (wR9 G ad thr P.res P.cap P.quo P.wei P.req P.grp P.acc st pls P.mov P.pl P.ml lgd lr lp fr tr pr pp) rfl ?_
  have h1 := hI.res
  have h2 := hI.req
  generalize hRun : runF P.req.toNat P l (fun _ => false) 0 = FR at hret
  refine jw_iconst (pc := 0) C dX6_run_0 ?_
  refine jw_istore_1 (pc := 1) C dX6_run_1 rfl ?_
  have K2 : ∀ (n_2 : Nat) (i : Nat) (t1 : Nat → Bool), (i ≤ 40) → (∀ j, j < i → t1 j = false) → 40 - i < n_2 → JW G X 0 0 (wR9 G ad thr P.res P.cap P.quo P.wei P.req P.grp P.acc st pls P.mov P.pl P.ml lgd lr lp fr t1 pr pp) 2 [some (.ref (ad 0)), some (.int (iI (i : Int))), none] [] := by
    intro n_2
    induction n_2 with
    | zero => intro i t1 hi hf hm_2; exact absurd hm_2 (Nat.not_lt_zero _)
    | succ n_2 ih_2 =>
      intro i t1 hi hf hm_2
      refine jw_iload_1 (pc := 2) C dX6_run_2 ?_
      refine jw_bipush (pc := 3) C dX6_run_3 (by decide) ?_
      refine jw_icmp_ge (pc := 5) (tgt := 21) C dX6_run_5 (by decide) ⟨by omega, by omega⟩ ⟨by omega, by omega⟩ (fun c_5 => ?_) (fun c_5 => ?_)
      · have hRRt : RR P l (thr, P.res, P.cap, P.quo, P.wei, P.req, P.grp, P.acc, st, pls, P.mov, P.pl, P.ml, lgd, lr, lp, fr, t1, pr, pp) := ⟨rfl, rfl, rfl, rfl, rfl, rfl, rfl, rfl, rfl, rfl, hst, hpl, elg, hlog⟩
        have hi40 : i = 40 := by omega
        refine jw_iconst (pc := 21) C dX6_run_21 ?_
        refine jw_istore_1 (pc := 22) C dX6_run_22 rfl ?_
        refine jw_aload_0 (pc := 23) C dX6_run_23 ?_
        refine jw_V_I (pc := 24) C (c_X6_next G ad P l (thr, P.res, P.cap, P.quo, P.wei, P.req, P.grp, P.acc, st, pls, P.mov, P.pl, P.ml, lgd, lr, lp, fr, t1, pr, pp) hI hRRt) wd_X6_next kml_X6_105 0 rfl rfl rfl rfl (Nat.le_of_ble_eq_true rfl) ⟨by decide, by decide⟩ ⟨Nat.zero_le _, Nat.zero_le _⟩ dX6_run_24 rfl (fun z u h => ?_)
        subst h
        refine jw_istore_2 (pc := 27) C dX6_run_27 rfl ?_
        have K28 : ∀ (n_28 : Nat) (i2 : Nat) (P2 : QP) (l2 : QL) (c : Int) (S : QR), (PI P2) → (P2.req = P.req) → ((i2 : Int) ≤ P.req) → (cntF S.tri P.req.toNat = (i2 : Int)) → (0 ≤ l2.sz ∧ l2.sz ≤ 5 * (i2 : Int)) → (runF (P.req.toNat - i2) P2 l2 S.tri c = FR) → (RR P2 l2 S) → (S.thr = thr) → 40 - i2 < n_28 → JW G X 0 0 (wR G ad S) 28 [some (.ref (ad 0)), some (.int (iI c)), some (.int (iI (nxF P2 S.tri P2.req.toNat)))] [] := by
          intro n_28
          induction n_28 with
          | zero => intro i2 P2 l2 c S hI2 hq hi2 hcn hs he hR2 hth hm_28; exact absurd hm_28 (Nat.not_lt_zero _)
          | succ n_28 ih_28 =>
            intro i2 P2 l2 c S hI2 hq hi2 hcn hs he hR2 hth hm_28
            obtain ⟨x, hx⟩ : ∃ x, x = nxF P2 S.tri P2.req.toNat := ⟨_, rfl⟩
            rw [← hx]
            have hxr : -1 ≤ x ∧ x ≤ 39 := by
              rcases nxF_spec P2 S.tri P2.req.toNat with h | ⟨k, k1, k2, k3, k4⟩ <;> omega
            refine jw_iload_2 (pc := 28) C dX6_run_28 ?_
            refine jw_iconst (pc := 29) C dX6_run_29 ?_
            refine jw_icmp_eq (pc := 30) (tgt := 64) C dX6_run_30 (by decide) ⟨by omega, by omega⟩ ⟨by omega, by omega⟩ (fun c_30 => ?_) (fun c_30 => ?_)
            · have hfin : (P2, l2, c) = FR := by
                rw [← he, runF_stop (by omega)]
              refine jw_iload_1 (pc := 64) C dX6_run_64 ?_
              exact hret _ _ _ S dX6_run_65 ⟨by rw [← hfin], by rw [← hfin]; exact hR2, hth⟩
            · obtain ⟨k, k1, k2, k3, k4⟩ : ∃ k : Nat, k < P2.req.toNat ∧ x = (k : Int) ∧ P2.plc k = -1 ∧ S.tri k = false := by
                rcases nxF_spec P2 S.tri P2.req.toNat with h | ⟨k, k1, k2, k3, k4⟩
                · omega
                · exact ⟨k, k1, by rw [hx]; exact k2, k3, k4⟩
              subst k2
              have hlt : i2 < P.req.toNat := by
                by_cases q : i2 < P.req.toNat
                · exact q
                · have := cnt_full (p := S.tri) (n := P.req.toNat) (by omega) k (by omega)
                  rw [k4] at this
                  cases this
              refine jw_aload_0 (pc := 33) C dX6_run_33 ?_
              refine fg_X6_50 (pc := 34) C 0 rfl rfl dX6_run_34 ?_
              refine jw_iload_2 (pc := 37) C dX6_run_37 ?_
              refine jw_iconst (pc := 38) C dX6_run_38 ?_
              refine jw_zast (pc := 39) (x := true) C 12 rfl k rfl (by omega) (by decide) dX6_run_39 ?_
              refine jw_eqw (wR G ad (sTri S (updf S.tri k true))) rfl ?_
              refine jw_iload_1 (pc := 40) C dX6_run_40 ?_
              refine jw_aload_0 (pc := 41) C dX6_run_41 ?_
              refine jw_iload_2 (pc := 42) C dX6_run_42 ?_
              refine jw_V_Z (pc := 43) C (c_X6_isPlaced G ad P2 l2 (sTri S (updf S.tri k true)) hI2 (RR_tri hR2) k (by omega) k3 ⟨hs.1, by omega⟩) wd_X6_isPlaced kml_X6_109 0 rfl rfl rfl rfl (Nat.le_of_ble_eq_true rfl) ⟨by decide, by decide⟩ ⟨Nat.zero_le _, Nat.zero_le _⟩ dX6_run_43 rfl (fun z9 u9 h9 => ?_)
              obtain ⟨b1, b2, b3, b4⟩ := h9
              obtain ⟨tz, P3, l3, ht⟩ : ∃ tz P3 l3, tryS P2 l2 k = (tz, P3, l3) := ⟨_, _, _, rfl⟩
              obtain ⟨t1, -, -, t4⟩ := tryS_ok (l := l2) hI2 (show (k : Int) < P2.req by omega) k3
              have t5 := t4 hs.1 (by omega)
              have t6 := (tryS_same P2 l2 k).2.2.2.2.1
              rw [ht] at b1 b2 t1 t5 t6
              clear t4
              replace b1 : z9 = tz := b1
              replace b2 : RR P3 l3 u9 := b2
              replace t1 : PI P3 := t1
              replace t5 : l2.sz ≤ l3.sz ∧ l3.sz ≤ l2.sz + 5 := t5
              replace t6 : P3.req = P2.req := t6
              replace b3 : u9.tri = updf S.tri k true := b3
              replace b4 : u9.thr = S.thr := b4
              rw [b1]
              have hstep : ∀ c3, c3 = c + (if tz = true then 1 else 0) → runF (P.req.toNat - (i2 + 1)) P3 l3 u9.tri c3 = FR := by
                intro c3 e3
                rw [e3, ← he, show P.req.toNat - i2 = (P.req.toNat - (i2 + 1)) + 1 by omega, b3]
                conv => rhs; rw [runF]
                rw [← hx, if_neg (show ¬ (k : Int) = -1 by omega), show ((k : Int)).toNat = k by omega, ht]
              have hcnt : cntF u9.tri P.req.toNat = ((i2 + 1 : Nat) : Int) := by
                rw [b3, cnt_set (by omega) k4, hcn]
                omega
              refine jw_if_eq_b (pc := 46) (tgt := 53) C dX6_run_46 (by decide) (fun c_46 => ?_) (fun c_46 => ?_)
              · have hb9 : tz = false := c_46
                obtain ⟨c3, ec3, hc3⟩ : ∃ c3, c3 = c + 0 ∧ runF (P.req.toNat - (i2 + 1)) P3 l3 u9.tri c3 = FR := ⟨c + 0, rfl, hstep (c + 0) (by rw [hb9]; simp)⟩
                refine jw_iconst (pc := 53) C dX6_run_53 ?_
                refine jw_iadd (pc := 54) C dX6_run_54 ?_
                rw [← ec3]
                refine jw_istore_1 (pc := 55) C dX6_run_55 rfl ?_
                refine jw_aload_0 (pc := 56) C dX6_run_56 ?_
                refine jw_V_I (pc := 57) C (c_X6_next G ad P3 l3 u9 t1 b2) wd_X6_next kml_X6_105 0 rfl rfl rfl rfl (Nat.le_of_ble_eq_true rfl) ⟨by decide, by decide⟩ ⟨Nat.zero_le _, Nat.zero_le _⟩ dX6_run_57 rfl (fun z u h => ?_)
                subst h
                refine jw_istore_2 (pc := 60) C dX6_run_60 rfl ?_
                refine jw_goto (pc := 61) (tgt := 28) C dX6_run_61 (by decide) ?_
                exact ih_28 (i2 + 1) P3 l3 c3 u9 t1 (by omega) (by omega) hcnt (by omega) hc3 b2 (by rw [b4]; exact hth) (by omega)
              · have hb9 : tz = true := c_46
                obtain ⟨c3, ec3, hc3⟩ : ∃ c3, c3 = c + 1 ∧ runF (P.req.toNat - (i2 + 1)) P3 l3 u9.tri c3 = FR := ⟨c + 1, rfl, hstep (c + 1) (by rw [hb9]; simp)⟩
                refine jw_iconst (pc := 49) C dX6_run_49 ?_
                refine jw_goto (pc := 50) (tgt := 54) C dX6_run_50 (by decide) ?_
                refine jw_iadd (pc := 54) C dX6_run_54 ?_
                rw [← ec3]
                refine jw_istore_1 (pc := 55) C dX6_run_55 rfl ?_
                refine jw_aload_0 (pc := 56) C dX6_run_56 ?_
                refine jw_V_I (pc := 57) C (c_X6_next G ad P3 l3 u9 t1 b2) wd_X6_next kml_X6_105 0 rfl rfl rfl rfl (Nat.le_of_ble_eq_true rfl) ⟨by decide, by decide⟩ ⟨Nat.zero_le _, Nat.zero_le _⟩ dX6_run_57 rfl (fun z u h => ?_)
                subst h
                refine jw_istore_2 (pc := 60) C dX6_run_60 rfl ?_
                refine jw_goto (pc := 61) (tgt := 28) C dX6_run_61 (by decide) ?_
                exact ih_28 (i2 + 1) P3 l3 c3 u9 t1 (by omega) (by omega) hcnt (by omega) hc3 b2 (by rw [b4]; exact hth) (by omega)
        exact K28 41 0 P l 0 (thr, P.res, P.cap, P.quo, P.wei, P.req, P.grp, P.acc, st, pls, P.mov, P.pl, P.ml, lgd, lr, lp, fr, t1, pr, pp) hI rfl (by omega) (by
          show cntF t1 P.req.toNat = ((0 : Nat) : Int)
          rw [cnt0 _ (fun j hj => hf j (by omega))]
          rfl) (by omega) (by
          rw [Nat.sub_zero, ← hRun]
          exact runF_congr _ (fun j hj => hf j (by omega)) (fun P2 l2 r => (tryS_same P2 l2 r).2.2.2.2.1)) hRRt rfl (by omega)
      · refine jw_aload_0 (pc := 8) C dX6_run_8 ?_
        refine fg_X6_50 (pc := 9) C 0 rfl rfl dX6_run_9 ?_
        refine jw_iload_1 (pc := 12) C dX6_run_12 ?_
        refine jw_iconst (pc := 13) C dX6_run_13 ?_
        refine jw_zast (pc := 14) (x := false) C 12 rfl i rfl (by omega) (by decide) dX6_run_14 ?_
        refine jw_iinc_1 (pc := 15) C dX6_run_15 rfl ?_
        refine jw_goto (pc := 18) (tgt := 2) C dX6_run_18 (by decide) ?_
        exact ih_2 (i + 1) (updf t1 i false) (by omega) (updf_fill hf) (by omega)
  exact K2 41 0 tr (by omega) (fun j hj => absurd hj (Nat.not_lt_zero _)) (by omega)
