theorem meas_up {k n : Nat} (h : 12 - k < n + 1) (hk : k < 12) : 12 - (k + 1) < n := by omega
def lgR (S : QR) (r b : Nat) : QR := (S.thr, S.res, S.cap, S.quo, S.wei, S.req, S.grp, S.msk, S.st, updf S.pls r (b : Int), updf S.mov r (S.mov r + 1), S.pl, S.ml, S.lgd + 1, updf S.lr S.lgd.toNat (r : Int), updf S.lp S.lgd.toNat (b : Int), S.far, S.tri, S.pr, S.pp)
def edR (S : QR) (r : Nat) (a : Int) : QR := (S.thr, S.res, S.cap, S.quo, S.wei, S.req, S.grp, S.msk, updf S.st r 1, updf S.pls r a, S.mov, S.pl, S.ml, S.lgd, S.lr, S.lp, S.far, S.tri, S.pr, S.pp)
/-- the model while it moves: as RR, but for the request that is placed -/
def LgQ (Q : QP) (k : QL) (r : Nat) (R S : QR) : Prop :=
  (S.res = Q.res ∧ S.cap = Q.cap ∧ S.quo = Q.quo ∧ S.wei = Q.wei ∧ S.req = Q.req ∧ S.grp = Q.grp ∧ S.msk = Q.acc ∧ S.mov = Q.mov ∧ S.pl = Q.pl ∧ S.ml = Q.ml) ∧
  (∀ x : Nat, x ≠ r → (x : Int) < Q.req → S.st x = stN (Q.plc x)) ∧ (∀ x : Nat, x ≠ r → (x : Int) < Q.req → 0 ≤ Q.plc x → S.pls x = Q.plc x) ∧ S.lgd = k.sz ∧ (∀ i : Nat, (i : Int) < k.sz → S.lr i = k.rq i ∧ S.lp i = k.tg i) ∧ S.thr = R.thr ∧ S.tri = R.tri ∧ S.pr = R.pr ∧ S.pp = R.pp
theorem LgQ_0 {P : QP} {l : QL} {R : QR} {r a : Nat} (h : RR P l R) : LgQ (pAssign P r a) l r R R := by
  obtain ⟨h1, h2, h3, h4, h5, h6, h7, h8, h9, h10, h11, h12, h13, h14⟩ := h
  refine ⟨⟨h1, h2, h3, h4, h5, h6, h7, h8, h9, h10⟩, fun x hx hq => ?_, fun x hx hq => ?_, h13, h14, rfl, rfl, rfl, rfl⟩
  · show R.st x = stN (updf P.plc r (a : Int) x)
    rw [updf_ne _ _ hx]
    exact h11 x hq
  · show 0 ≤ updf P.plc r (a : Int) x → R.pls x = updf P.plc r (a : Int) x
    rw [updf_ne _ _ hx]
    exact h12 x hq
theorem lAdd_in {l : QL} {a b : Int} (h : l.sz < 200) : lAdd l a b = (updf l.rq l.sz.toNat a, updf l.tg l.sz.toNat b, l.sz + 1) := if_pos h
theorem LgQ_step {Q : QP} {k : QL} {r : Nat} {R S : QR} {x b : Nat} (h : LgQ Q k r R S) (hx : x ≠ r) (hq : (x : Int) < Q.req) (hp : 0 ≤ Q.plc x) (hk : 0 ≤ k.sz ∧ k.sz < 200) : LgQ (pMove Q x b) (lAdd k (x : Int) (b : Int)) r R (lgR S x b) := by
  obtain ⟨⟨h1, h2, h3, h4, h5, h6, h7, h8, h9, h10⟩, h11, h12, h13, h14, h15, h16, h17, h18⟩ := h
  obtain ⟨s1, s2, s3, s4, s5, s6, s7, s8, s9⟩ := same_move Q x b
  rw [lAdd_in hk.2]
  refine ⟨⟨h1.trans s1.symm, h2.trans s2.symm, h3.trans s3.symm, h4.trans s4.symm, h5.trans s5.symm, h6.trans s6.symm, h7.trans s7.symm, ?_, h9.trans s8.symm, h10.trans s9.symm⟩, fun y hy hyq => ?_, fun y hy hyq => ?_, ?_, fun i hi => ?_, h15, h16, h17, h18⟩
  · funext y
    show updf S.mov x (S.mov x + 1) y = (pMove Q x b).mov y
    rw [pMove_mov, h8]
    by_cases e : y = x
    · rw [e, updf_same, if_pos rfl]
    · rw [updf_ne _ _ e, if_neg e]
  · rw [s5] at hyq
    show S.st y = stN ((pMove Q x b).plc y)
    rw [pMove_plc, h11 y hy hyq]
    by_cases e : y = x
    · rw [if_pos e, e, stN_1.mpr hp, stN_1.mpr (by omega)]
    · rw [if_neg e]
  · rw [s5] at hyq
    show 0 ≤ (pMove Q x b).plc y → updf S.pls x (b : Int) y = (pMove Q x b).plc y
    rw [pMove_plc]
    by_cases e : y = x
    · rw [if_pos e, e, updf_same]; exact fun _ => rfl
    · rw [if_neg e, updf_ne _ _ e]; exact h12 y hy hyq
  · show S.lgd + 1 = k.sz + 1
    rw [h13]
  · have hi2 : (i : Int) < k.sz + 1 := hi
    show updf S.lr S.lgd.toNat (x : Int) i = updf k.rq k.sz.toNat (x : Int) i ∧ updf S.lp S.lgd.toNat (b : Int) i = updf k.tg k.sz.toNat (b : Int) i
    rw [h13]
    by_cases e : i = k.sz.toNat
    · rw [e, updf_same, updf_same, updf_same, updf_same]; exact ⟨rfl, rfl⟩
    · rw [updf_ne _ _ e, updf_ne _ _ e, updf_ne _ _ e, updf_ne _ _ e]; exact h14 i (by omega)
theorem LgQ_end {Q : QP} {k : QL} {r : Nat} {R S : QR} {a : Int} (h : LgQ Q k r R S) (ha : Q.plc r = a) (h0 : 0 ≤ a) : RR Q k (edR S r a) := by
  obtain ⟨⟨h1, h2, h3, h4, h5, h6, h7, h8, h9, h10⟩, h11, h12, h13, h14, h15, h16, h17, h18⟩ := h
  refine ⟨h1, h2, h3, h4, h5, h6, h7, h8, h9, h10, fun y hyq => ?_, fun y hyq => ?_, h13, h14⟩
  · show updf S.st r 1 y = _
    by_cases e : y = r
    · rw [e, updf_same, ha, stN_1.mpr h0]
    · rw [updf_ne _ _ e]; exact h11 y e hyq
  · show 0 ≤ Q.plc y → updf S.pls r a y = _
    by_cases e : y = r
    · rw [e, updf_same, ha]; exact fun _ => rfl
    · rw [updf_ne _ _ e]; exact h12 y e hyq
theorem plS_plc_r {P : QP} {l : QL} {r : Nat} {rs rq : Nat → Int} : ∀ {i : Nat}, (∀ j, j < i → (rq j).toNat ≠ r) → (plS P l r rs rq i).1.plc r = ((rs 0).toNat : Int)
  | 0, _ => updf_same _ _ _
  | i + 1, h => by
    show (pMove (plS P l r rs rq i).1 (rq i).toNat (rs (i + 1)).toNat).plc r = _
    rw [pMove_plc, if_neg (fun q => h i (by omega) q.symm)]
    exact plS_plc_r (fun j hj => h j (by omega))
theorem fst_pos {P : QP} (hI : PI P) {m : Int32} (h : fstA P m ≠ -1) : ∃ a0 L : Nat, (a0 : Int) < P.res ∧ fstA P m = (a0 : Int) ∧ dS P a0 = (L : Int) ∧ minL P m = (L : Int) ∧ 1 ≤ L ∧ L ≤ 12 := by
  rcases minL_spec P hI m with ⟨e1, e2, -⟩ | ⟨a, e1, e2, e3, e4, e5, e6, e7⟩
  · exact absurd e2 h
  · exact ⟨a, (dS P a).toNat, e1, e6, by omega, by omega, by omega, by omega⟩
theorem fst_neg {P : QP} (hI : PI P) {m : Int32} (h : fstA P m = -1) : minL P m = 0 := by
  rcases minL_spec P hI m with ⟨e1, e2, -⟩ | ⟨a, e1, e2, e3, e4, e5, e6, e7⟩
  · exact e1
  · omega
set_option maxRecDepth 100000 in
set_option maxHeartbeats 4000000 in
theorem c_X6_log (G : jG) (ad : Nat → Nat) (R : QR) (r b : Nat) (hr : r < 40) (hl : 0 ≤ R.lgd ∧ R.lgd < 400) (hmv : -100 ≤ R.mov r ∧ R.mov r ≤ 100) : CV G yX6_log cX6_log 3 (jrm 0 0 0 0) [.ref (ad 0), .int (iI (r : Int)), .int (iI (b : Int))] (wR G ad R) (fun u : QR => u = lgR R r b) (fun u : QR => wR G ad u) 0 0 := by
  refine cv_intro (own := RX6) [some (.ref (ad 0)), some (.int (iI (r : Int))), some (.int (iI (b : Int)))] (by decide) rfl rfl rfl (Nat.le_of_ble_eq_true rfl) (fun X C hret => ?_)
  refine jw_aload_0 (pc := 0) C dX6_log_0 ?_
  refine fg_X6_28 (pc := 1) C 0 rfl rfl dX6_log_1 ?_
  refine jw_iload_1 (pc := 4) C dX6_log_4 ?_
  refine jw_iload_2 (pc := 5) C dX6_log_5 ?_
  refine jw_iast (pc := 6) C 7 rfl r rfl (by omega) (by decide) dX6_log_6 ?_
  refine jw_aload_0 (pc := 7) C dX6_log_7 ?_
  refine fg_X6_31 (pc := 8) C 0 rfl rfl dX6_log_8 ?_
  refine jw_iload_1 (pc := 11) C dX6_log_11 ?_
  refine jw_dup2 (pc := 12) C dX6_log_12 rfl rfl ?_
  refine jw_iald (pc := 13) C 8 rfl r rfl (by omega) (by decide) dX6_log_13 ?_
  refine jw_iconst (pc := 14) C dX6_log_14 ?_
  refine jw_iadd (pc := 15) C dX6_log_15 ?_
  refine jw_iast (pc := 16) C 8 rfl r rfl (by omega) (by decide) dX6_log_16 ?_
  refine jw_aload_0 (pc := 17) C dX6_log_17 ?_
  refine fg_X6_41 (pc := 18) C 0 rfl rfl dX6_log_18 ?_
  refine jw_aload_0 (pc := 21) C dX6_log_21 ?_
  refine fg_X6_102 (pc := 22) C 0 rfl rfl dX6_log_22 ?_
  refine jw_iload_1 (pc := 25) C dX6_log_25 ?_
  refine jw_iast (pc := 26) C 9 rfl R.lgd.toNat (by omega) (by omega) (by decide) dX6_log_26 ?_
  refine jw_aload_0 (pc := 27) C dX6_log_27 ?_
  refine fg_X6_44 (pc := 28) C 0 rfl rfl dX6_log_28 ?_
  refine jw_aload_0 (pc := 31) C dX6_log_31 ?_
  refine fg_X6_102 (pc := 32) C 0 rfl rfl dX6_log_32 ?_
  refine jw_iload_2 (pc := 35) C dX6_log_35 ?_
  refine jw_iast (pc := 36) C 10 rfl R.lgd.toNat (by omega) (by omega) (by decide) dX6_log_36 ?_
  refine jw_aload_0 (pc := 37) C dX6_log_37 ?_
  refine jw_dup (pc := 38) C dX6_log_38 rfl ?_
  refine fg_X6_102 (pc := 39) C 0 rfl rfl dX6_log_39 ?_
  refine jw_iconst (pc := 42) C dX6_log_42 ?_
  refine jw_iadd (pc := 43) C dX6_log_43 ?_
  refine fp_X6_102 (pc := 44) C 0 rfl (Nat.le_of_ble_eq_true rfl) dX6_log_44 ?_
  exact hret _ _ (lgR R r b) dX6_log_47 rfl
set_option maxRecDepth 100000 in
set_option maxHeartbeats 4000000 in
theorem c_X6_isPlaced (G : jG) (ad : Nat → Nat) (P : QP) (l : QL) (R : QR) (hI : PI P) (hR : RR P l R) (r : Nat) (hr : (r : Int) < P.req) (hw : P.plc r = -1) (hl : 0 ≤ l.sz ∧ l.sz ≤ 195) : CZ G yX6_isPlaced cX6_isPlaced 7 (jrm 5 112 0 0) [.ref (ad 0), .int (iI (r : Int))] (wR G ad R) (fun (z : Bool) (u : QR) => z = (tryS P l r).1 ∧ RR (tryS P l r).2.1 (tryS P l r).2.2 u ∧ u.tri = R.tri ∧ u.thr = R.thr) (fun u : QR => wR G ad u) 0 0 := by
  refine cz_intro (own := RX6) [some (.ref (ad 0)), some (.int (iI (r : Int))), none, none, none, none, none] (by decide) rfl rfl rfl (Nat.le_of_ble_eq_true rfl) (fun X C hret => ?_)
  obtain ⟨thr, rs, cp, qu, we, rq, gr, ms, st, pls, mv, plm, mlm, lgd, lr, lp, fr, tr, pr, pp⟩ := R
  obtain ⟨(rfl : rs = P.res), (rfl : cp = P.cap), (rfl : qu = P.quo), (rfl : we = P.wei), (rfl : rq = P.req), (rfl : gr = P.grp), (rfl : ms = P.acc), (rfl : mv = P.mov), (rfl : plm = P.pl), (rfl : mlm = P.ml), (hst : ∀ r : Nat, (r : Int) < P.req → st r = stN (P.plc r)), (hpl : ∀ r : Nat, (r : Int) < P.req → 0 ≤ P.plc r → pls r = P.plc r), (elg : lgd = l.sz), (hlog : ∀ i : Nat, (i : Int) < l.sz → lr i = l.rq i ∧ lp i = l.tg i)⟩ := hR
  have hRR : RR P l (thr, P.res, P.cap, P.quo, P.wei, P.req, P.grp, P.acc, st, pls, P.mov, P.pl, P.ml, lgd, lr, lp, fr, tr, pr, pp) := ⟨rfl, rfl, rfl, rfl, rfl, rfl, rfl, rfl, rfl, rfl, hst, hpl, elg, hlog⟩
  refine jw_eqw (wR9 G ad thr P.res P.cap P.quo P.wei P.req P.grp P.acc st pls P.mov P.pl P.ml lgd lr lp fr tr pr pp) rfl ?_
  have h1 := hI.res
  have h2 := hI.req
  have q6 := hI.grp r
  have z1 := hI.asg (P.grp r).toNat
  have z2 := hI.quo (P.grp r).toNat
  have z3 := hI.pl
  refine jw_aload_0 (pc := 0) C dX6_isPlaced_0 ?_
  refine jw_aload_0 (pc := 1) C dX6_isPlaced_1 ?_
  refine fg_X6_19 (pc := 2) C 0 rfl rfl dX6_isPlaced_2 ?_
  refine jw_iload_1 (pc := 5) C dX6_isPlaced_5 ?_
  refine jw_iald (pc := 6) C 4 rfl r rfl (by omega) (by decide) dX6_isPlaced_6 ?_
  rw [show iI (P.grp r) = iI (((P.grp r).toNat : Nat) : Int) from by rw [Int.toNat_of_nonneg q6.1]]
  refine jw_V_I (pc := 7) C (c_X6_assignedIn G ad P l (thr, P.res, P.cap, P.quo, P.wei, P.req, P.grp, P.acc, st, pls, P.mov, P.pl, P.ml, lgd, lr, lp, fr, tr, pr, pp) hI hRR (P.grp r).toNat (by omega)) wd_X6_assignedIn kml_X6_89 0 rfl rfl rfl rfl (Nat.le_of_ble_eq_true rfl) ⟨by decide, by decide⟩ ⟨Nat.zero_le _, Nat.zero_le _⟩ dX6_isPlaced_7 rfl (fun z u h => ?_)
  subst h
  refine jw_eqw (wR9 G ad thr P.res P.cap P.quo P.wei P.req P.grp P.acc st pls P.mov P.pl P.ml lgd lr lp fr tr pr pp) rfl ?_
  refine jw_aload_0 (pc := 10) C dX6_isPlaced_10 ?_
  refine fg_X6_13 (pc := 11) C 0 rfl rfl dX6_isPlaced_11 ?_
  refine jw_aload_0 (pc := 14) C dX6_isPlaced_14 ?_
  refine fg_X6_19 (pc := 15) C 0 rfl rfl dX6_isPlaced_15 ?_
  refine jw_iload_1 (pc := 18) C dX6_isPlaced_18 ?_
  refine jw_iald (pc := 19) C 4 rfl r rfl (by omega) (by decide) dX6_isPlaced_19 ?_
  refine jw_iald (pc := 20) C 2 rfl (P.grp r).toNat (by omega) (by omega) (by decide) dX6_isPlaced_20 ?_
  refine jw_icmp_lt (pc := 21) (tgt := 26) C dX6_isPlaced_21 (by decide) ⟨by omega, by omega⟩ ⟨by omega, by omega⟩ (fun c_21 => ?_) (fun c_21 => ?_)
  · refine jw_aload_0 (pc := 26) C dX6_isPlaced_26 ?_
    refine jw_iload_1 (pc := 27) C dX6_isPlaced_27 ?_
    refine jw_V_I (pc := 28) C (c_X6_firstOf G ad P l (thr, P.res, P.cap, P.quo, P.wei, P.req, P.grp, P.acc, st, pls, P.mov, P.pl, P.ml, lgd, lr, lp, fr, tr, pr, pp) hI hRR r hr) wd_X6_firstOf kml_X6_92 0 rfl rfl rfl rfl (Nat.le_of_ble_eq_true rfl) ⟨by decide, by decide⟩ ⟨Nat.zero_le _, Nat.zero_le _⟩ dX6_isPlaced_28 rfl (fun zf f hf9 => ?_)
    obtain ⟨ez, hf⟩ := hf9
    subst ez
    refine jw_eqw (wR9 G ad thr P.res P.cap P.quo P.wei P.req P.grp P.acc st pls P.mov P.pl P.ml lgd lr lp f tr pr pp) rfl ?_
    obtain ⟨v, hv⟩ : ∃ v : Int, v = fstA P (P.acc r) := ⟨_, rfl⟩
    rw [← hv]
    have hvr : -1 ≤ v ∧ v < 12 := by
      by_cases q : fstA P (P.acc r) = -1
      · omega
      · obtain ⟨a0, L, k1, k2, -⟩ := fst_pos hI q
        omega
    refine jw_istore_2 (pc := 31) C dX6_isPlaced_31 rfl ?_
    refine jw_iload_2 (pc := 32) C dX6_isPlaced_32 ?_
    refine jw_iconst (pc := 33) C dX6_isPlaced_33 ?_
    refine jw_icmp_eq (pc := 34) (tgt := 52) C dX6_isPlaced_34 (by decide) ⟨by omega, by omega⟩ ⟨by omega, by omega⟩ (fun c_34 => ?_) (fun c_34 => ?_)
    · have hm0 := fst_neg hI (hv.symm.trans c_34)
      have hz : tryS P l r = (false, P, l) := if_neg (fun q => by omega)
      refine jw_iconst (pc := 52) C dX6_isPlaced_52 ?_
      exact hret _ _ false (thr, P.res, P.cap, P.quo, P.wei, P.req, P.grp, P.acc, st, pls, P.mov, P.pl, P.ml, lgd, lr, lp, f, tr, pr, pp) dX6_isPlaced_53 (by rw [hz]; exact ⟨rfl, ⟨rfl, rfl, rfl, rfl, rfl, rfl, rfl, rfl, rfl, rfl, hst, hpl, elg, hlog⟩, rfl, rfl⟩)
    · obtain ⟨a0, L, k1, k2, k3, k4, k5, k6⟩ := fst_pos hI (fun q => c_34 (hv.trans q))
      obtain rfl : v = (a0 : Int) := hv.trans k2
      have hfa0 := hf a0 k1
      refine jw_aload_0 (pc := 37) C dX6_isPlaced_37 ?_
      refine fg_X6_47 (pc := 38) C 0 rfl rfl dX6_isPlaced_38 ?_
      refine jw_iload_2 (pc := 41) C dX6_isPlaced_41 ?_
      refine jw_iald (pc := 42) C 11 rfl a0 rfl (by omega) (by decide) dX6_isPlaced_42 ?_
      refine jw_iconst (pc := 43) C dX6_isPlaced_43 ?_
      refine jw_isub (pc := 44) C dX6_isPlaced_44 ?_
      refine jw_aload_0 (pc := 45) C dX6_isPlaced_45 ?_
      refine fg_X6_34 (pc := 46) C 0 rfl rfl dX6_isPlaced_46 ?_
      refine jw_icmp_le (pc := 49) (tgt := 54) C dX6_isPlaced_49 (by decide) ⟨by omega, by omega⟩ ⟨by omega, by omega⟩ (fun c_49 => ?_) (fun c_49 => ?_)
      · have hz : tryS P l r = (true, plX P l r) := if_pos ⟨by omega, by omega, by omega⟩
        have hX : plX P l r = (plS P l r (pA P (L : Int) (a0 : Int)) (pRq P (L : Int) (a0 : Int)) (L - 1)) := by
          unfold plX
          rw [k4, k2]
          rfl
        have hpk := (path_ok hI hr hw (by omega)).1
        rw [k4, k2, show ((L : Int)).toNat = L by omega] at hpk
        have hps := path_spec P hI k3 k5 k6
        refine jw_iconst (pc := 54) C dX6_isPlaced_54 ?_
        refine jw_istore_3 (pc := 55) C dX6_isPlaced_55 rfl ?_
        refine jw_iload_2 (pc := 56) C dX6_isPlaced_56 ?_
        refine jw_istore_4 (pc := 57) C dX6_isPlaced_57 rfl ?_
        have K59 : ∀ (n_59 : Nat) (i a : Nat) (pr2 pp2 : Nat → Int), (i < L) → ((a : Int) < P.res) → (pA P (L : Int) (a0 : Int) i = (a : Int)) → (dS P a = (L : Int) - i) → (∀ k, k < i → pr2 k = pRq P (L : Int) (a0 : Int) k) → (∀ k, k < i → pp2 k = pA P (L : Int) (a0 : Int) (k + 1)) → 12 - i < n_59 → JW G X 0 0 (wR9 G ad thr P.res P.cap P.quo P.wei P.req P.grp P.acc st pls P.mov P.pl P.ml lgd lr lp f tr pr2 pp2) 59 [some (.ref (ad 0)), some (.int (iI (r : Int))), some (.int (iI (a0 : Int))), some (.int (iI (i : Int))), some (.int (iI (a : Int))), none, none] [] := by
          intro n_59
          induction n_59 with
          | zero => intro i a pr2 pp2 hi ha hpa hda hpr hpp hm_59; exact absurd hm_59 (Nat.not_lt_zero _)
          | succ n_59 ih_59 =>
            intro i a pr2 pp2 hi ha hpa hda hpr hpp hm_59
            have hfa := hf a ha
            refine jw_aload_0 (pc := 59) C dX6_isPlaced_59 ?_
            refine fg_X6_47 (pc := 60) C 0 rfl rfl dX6_isPlaced_60 ?_
            refine jw_iload_4 (pc := 63) C dX6_isPlaced_63 ?_
            refine jw_iald (pc := 65) C 11 rfl a rfl (by omega) (by decide) dX6_isPlaced_65 ?_
            refine jw_iconst (pc := 66) C dX6_isPlaced_66 ?_
            refine jw_icmp_le (pc := 67) (tgt := 149) C dX6_isPlaced_67 (by decide) ⟨by omega, by omega⟩ ⟨by omega, by omega⟩ (fun c_67 => ?_) (fun c_67 => ?_)
            · have hiL : i + 1 = L := by omega
              refine jw_iconst (pc := 149) C dX6_isPlaced_149 ?_
              refine jw_istore_4 (pc := 150) C dX6_isPlaced_150 rfl ?_
              have K152 : ∀ (n_152 : Nat) (k : Nat) (S : QR), (k ≤ i) → (LgQ (plS P l r (pA P (L : Int) (a0 : Int)) (pRq P (L : Int) (a0 : Int)) k).1 (plS P l r (pA P (L : Int) (a0 : Int)) (pRq P (L : Int) (a0 : Int)) k).2 r (thr, P.res, P.cap, P.quo, P.wei, P.req, P.grp, P.acc, st, pls, P.mov, P.pl, P.ml, lgd, lr, lp, f, tr, pr2, pp2) S) → 12 - k < n_152 → JW G X 0 0 (wR G ad S) 152 [some (.ref (ad 0)), some (.int (iI (r : Int))), some (.int (iI (a0 : Int))), some (.int (iI (i : Int))), some (.int (iI (k : Int))), none, none] [] := by
                intro n_152
                induction n_152 with
                | zero => intro k S hk hS hm_152; exact absurd hm_152 (Nat.not_lt_zero _)
                | succ n_152 ih_152 =>
                  intro k S hk hS hm_152
                  obtain ⟨hS1, hS2, hS3, hS4, hS5, hS6, hS7, hS8, hS9⟩ := id hS
                  obtain ⟨g1, g2, g3, g4, g5, g6, g7, g8, g9⟩ := plS_ok (l := l) hI hpk k (by omega)
                  have gz := g9 hl.1 (by omega)
                  refine jw_iload_4 (pc := 152) C dX6_isPlaced_152 ?_
                  refine jw_iload_3 (pc := 154) C dX6_isPlaced_154 ?_
                  refine jw_icmp_ge (pc := 155) (tgt := 182) C dX6_isPlaced_155 (by decide) ⟨by omega, by omega⟩ ⟨by omega, by omega⟩ (fun c_155 => ?_) (fun c_155 => ?_)
                  · obtain rfl : k = i := by omega
                    have hpr9 := plS_plc_r (P := P) (l := l) (r := r) (rs := pA P (L : Int) (a0 : Int)) (rq := pRq P (L : Int) (a0 : Int)) (i := k) (fun j hj q => by
                      obtain ⟨x, x1, x2, x3, x4⟩ := hps j (by omega)
                      obtain ⟨y, w, y1, y2, y3, -⟩ := x4 (by omega)
                      rw [y2] at q
                      have e : y = r := by omega
                      rw [e] at y3
                      omega)
                    have hfin := LgQ_end hS (a := (a0 : Int)) (by rw [hpr9]; rfl) (by omega)
                    have ek : L - 1 = k := by omega
                    refine jw_aload_0 (pc := 182) C dX6_isPlaced_182 ?_
                    refine fg_X6_25 (pc := 183) C 0 rfl rfl dX6_isPlaced_183 ?_
                    refine jw_iload_1 (pc := 186) C dX6_isPlaced_186 ?_
                    refine jw_iconst (pc := 187) C dX6_isPlaced_187 ?_
                    refine jw_iast (pc := 188) C 6 rfl r rfl (by omega) (by decide) dX6_isPlaced_188 ?_
                    refine jw_aload_0 (pc := 189) C dX6_isPlaced_189 ?_
                    refine fg_X6_28 (pc := 190) C 0 rfl rfl dX6_isPlaced_190 ?_
                    refine jw_iload_1 (pc := 193) C dX6_isPlaced_193 ?_
                    refine jw_iload_2 (pc := 194) C dX6_isPlaced_194 ?_
                    refine jw_iast (pc := 195) C 7 rfl r rfl (by omega) (by decide) dX6_isPlaced_195 ?_
                    refine jw_iconst (pc := 196) C dX6_isPlaced_196 ?_
                    exact hret _ _ true (edR S r (a0 : Int)) dX6_isPlaced_197 (by rw [hz]; exact ⟨rfl, by rw [hX, ek]; exact hfin, hS7, hS6⟩)
                  · have hk12 : k < 12 := by omega
                    obtain ⟨a9, x1, x2, x3, x4⟩ := hps k (by omega)
                    obtain ⟨r2, b2, t1, t2, t3, t4, t5, t6, t7⟩ := x4 (by omega)
                    have hx : r2 ≠ r := fun q => by
                      rw [q] at t3
                      omega
                    have hs1 : S.pr k = (r2 : Int) := by rw [hS8]; exact (hpr k (by omega)).trans t2
                    have hs2 : S.pp k = (b2 : Int) := by rw [hS9]; exact (hpp k (by omega)).trans t6
                    have hmv := g1.mov r2
                    rw [← hS1.2.2.2.2.2.2.2.1] at hmv
                    refine jw_aload_0 (pc := 158) C dX6_isPlaced_158 ?_
                    refine jw_aload_0 (pc := 159) C dX6_isPlaced_159 ?_
                    refine fg_X6_54 (pc := 160) C 0 rfl rfl dX6_isPlaced_160 ?_
                    refine jw_iload_4 (pc := 163) C dX6_isPlaced_163 ?_
                    refine jw_iald (pc := 165) C 13 rfl k rfl (by omega) (by decide) dX6_isPlaced_165 ?_
                    refine jw_aload_0 (pc := 166) C dX6_isPlaced_166 ?_
                    refine fg_X6_57 (pc := 167) C 0 rfl rfl dX6_isPlaced_167 ?_
                    refine jw_iload_4 (pc := 170) C dX6_isPlaced_170 ?_
                    refine jw_iald (pc := 172) C 14 rfl k rfl (by omega) (by decide) dX6_isPlaced_172 ?_
                    rw [hs1, hs2]
                    refine jw_V_V (pc := 173) C (c_X6_log G ad S r2 b2 (by omega) ⟨by omega, by omega⟩ ⟨by omega, by omega⟩) wd_X6_log kml_X6_98 0 rfl rfl rfl rfl (Nat.le_of_ble_eq_true rfl) ⟨by decide, by decide⟩ ⟨Nat.zero_le _, Nat.zero_le _⟩ dX6_isPlaced_173 rfl (fun u9 h9 => ?_)
                    subst h9
                    refine jw_iinc_4 (pc := 176) C dX6_isPlaced_176 rfl ?_
                    refine jw_goto (pc := 179) (tgt := 152) C dX6_isPlaced_179 (by decide) ?_
                    exact ih_152 (k + 1) (lgR S r2 b2) (by omega) (by
                      have e1 : pRq P (L : Int) (a0 : Int) k = (r2 : Int) := t2
                      have e2 : pA P (L : Int) (a0 : Int) (k + 1) = (b2 : Int) := t6
                      have h9 := LgQ_step (b := b2) hS hx (by rw [g2.2.2.2.2.1]; exact t1) ((g4 r2 hx).1 (by omega)) ⟨by omega, by omega⟩
                      show LgQ (pMove (plS P l r (pA P (L : Int) (a0 : Int)) (pRq P (L : Int) (a0 : Int)) k).1 (pRq P (L : Int) (a0 : Int) k).toNat (pA P (L : Int) (a0 : Int) (k + 1)).toNat) (lAdd (plS P l r (pA P (L : Int) (a0 : Int)) (pRq P (L : Int) (a0 : Int)) k).2 (pRq P (L : Int) (a0 : Int) k) (pA P (L : Int) (a0 : Int) (k + 1))) r _ _
                      rw [e1, e2]
                      exact h9) (meas_up hm_152 hk12)
              exact jw_less (K152 13 0 (thr, P.res, P.cap, P.quo, P.wei, P.req, P.grp, P.acc, st, pls, P.mov, P.pl, P.ml, lgd, lr, lp, f, tr, pr2, pp2) (by omega) (LgQ_0 ⟨rfl, rfl, rfl, rfl, rfl, rfl, rfl, rfl, rfl, rfl, hst, hpl, elg, hlog⟩) (by omega)) (by repeat (first | exact trivial | refine And.intro rfl ?_))
            · obtain ⟨r2, b2, s1, s2, s3, s4, s5, s6, s7, s8⟩ := step_spec P hI (a := a) (d := L - 1 - i) (by omega) (by omega) (by omega)
              have ed : ((L - 1 - i : Nat) : Int) = (L : Int) - 1 - i := by omega
              have hrr : pRq P (L : Int) (a0 : Int) i = (r2 : Int) := by unfold pRq; rw [hpa, ← ed]; exact s2
              have hnx : pA P (L : Int) (a0 : Int) (i + 1) = (b2 : Int) := by
                show nA P (nR P (pA P (L : Int) (a0 : Int) i) ((L : Int) - 1 - i)).toNat ((L : Int) - 1 - i) = _
                rw [hpa, ← ed, s2]
                exact s6
              have hmin : ∀ j, j < b2 → bt (P.acc r2) j = true → dS P j ≠ ((L - 1 - i : Nat) : Int) := fun j hj hbj hdj => by
                have h7 : lstI (fun b => bt (P.acc r2) b && decide (dS P b = ((L - 1 - i : Nat) : Int))) 12 = (b2 : Int) := s6
                rcases lstI_spec (fun b => bt (P.acc r2) b && decide (dS P b = ((L - 1 - i : Nat) : Int))) 12 with ⟨w1, w2⟩ | ⟨k, w1, w2, w3, w4⟩
                · omega
                · have w5 := w4 j (by omega)
                  rw [hbj, decide_eq_true hdj] at w5
                  cases w5
              have hc2 : cM P r2 b2 = true := cM_iff.mpr ⟨⟨by omega, s4, fun q => by
                have e2 : a = b2 := by omega
                rw [← e2] at s8
                omega⟩, s7⟩
              refine jw_aload_0 (pc := 70) C dX6_isPlaced_70 ?_
              refine jw_iload_4 (pc := 71) C dX6_isPlaced_71 ?_
              refine jw_V_I (pc := 73) C (c_X6_movedFrom G ad P l (thr, P.res, P.cap, P.quo, P.wei, P.req, P.grp, P.acc, st, pls, P.mov, P.pl, P.ml, lgd, lr, lp, f, tr, pr2, pp2) hI ⟨rfl, rfl, rfl, rfl, rfl, rfl, rfl, rfl, rfl, rfl, hst, hpl, elg, hlog⟩ a (L - 1 - i) ha (by omega) (by omega) (by omega) hf) wd_X6_movedFrom kml_X6_95 0 rfl rfl rfl rfl (Nat.le_of_ble_eq_true rfl) ⟨by decide, by decide⟩ ⟨Nat.zero_le _, Nat.zero_le _⟩ dX6_isPlaced_73 rfl (fun z u h => ?_)
              rw [s2] at h
              subst h
              refine jw_eqw (wR9 G ad thr P.res P.cap P.quo P.wei P.req P.grp P.acc st pls P.mov P.pl P.ml lgd lr lp f tr pr2 pp2) rfl ?_
              refine jw_istore_5 (pc := 76) C dX6_isPlaced_76 rfl ?_
              refine jw_iconst (pc := 78) C dX6_isPlaced_78 ?_
              refine jw_istore_6 (pc := 79) C dX6_isPlaced_79 rfl ?_
              have K81 : ∀ (n_81 : Nat) (b : Nat), (b ≤ b2) → 12 - b < n_81 → JW G X 0 0 (wR9 G ad thr P.res P.cap P.quo P.wei P.req P.grp P.acc st pls P.mov P.pl P.ml lgd lr lp f tr pr2 pp2) 81 [some (.ref (ad 0)), some (.int (iI (r : Int))), some (.int (iI (a0 : Int))), some (.int (iI (i : Int))), some (.int (iI (a : Int))), some (.int (iI (r2 : Int))), some (.int (iI (b : Int)))] [] := by
                intro n_81
                induction n_81 with
                | zero => intro b hb hm_81; exact absurd hm_81 (Nat.not_lt_zero _)
                | succ n_81 ih_81 =>
                  intro b hb hm_81
                  have hfb := hf b (by omega)
                  have hdb := dS_rng hI b
                  have hdb : 1 ≤ dS P b ∧ dS P b ≤ 100 := by omega
                  refine jw_aload_0 (pc := 81) C dX6_isPlaced_81 ?_
                  refine jw_iload_5 (pc := 82) C dX6_isPlaced_82 ?_
                  refine jw_iload_6 (pc := 84) C dX6_isPlaced_84 ?_
                  refine jw_V_Z (pc := 86) C (c_X6_canMove G ad P l (thr, P.res, P.cap, P.quo, P.wei, P.req, P.grp, P.acc, st, pls, P.mov, P.pl, P.ml, lgd, lr, lp, f, tr, pr2, pp2) hI ⟨rfl, rfl, rfl, rfl, rfl, rfl, rfl, rfl, rfl, rfl, hst, hpl, elg, hlog⟩ r2 b s1 (by omega)) wd_X6_canMove kml_X6_80 0 rfl rfl rfl rfl (Nat.le_of_ble_eq_true rfl) ⟨by decide, by decide⟩ ⟨Nat.zero_le _, Nat.zero_le _⟩ dX6_isPlaced_86 rfl (fun z u h => ?_)
                  subst h
                  refine jw_eqw (wR9 G ad thr P.res P.cap P.quo P.wei P.req P.grp P.acc st pls P.mov P.pl P.ml lgd lr lp f tr pr2 pp2) rfl ?_
                  refine jw_if_eq_b (pc := 89) (tgt := 111) C dX6_isPlaced_89 (by decide) (fun c_89 => ?_) (fun c_89 => ?_)
                  · have hlt : b < b2 := by
                      by_cases q : b = b2
                      · rw [q, hc2] at c_89; cases c_89
                      · omega
                    refine jw_iinc_6 (pc := 111) C dX6_isPlaced_111 rfl ?_
                    refine jw_goto (pc := 114) (tgt := 81) C dX6_isPlaced_114 (by decide) ?_
                    exact ih_81 (b + 1) (by omega) (by omega)
                  · have hbt := (cM_iff.mp c_89).2
                    refine jw_aload_0 (pc := 92) C dX6_isPlaced_92 ?_
                    refine fg_X6_47 (pc := 93) C 0 rfl rfl dX6_isPlaced_93 ?_
                    refine jw_iload_6 (pc := 96) C dX6_isPlaced_96 ?_
                    refine jw_iald (pc := 98) C 11 rfl b rfl (by omega) (by decide) dX6_isPlaced_98 ?_
                    refine jw_aload_0 (pc := 99) C dX6_isPlaced_99 ?_
                    refine fg_X6_47 (pc := 100) C 0 rfl rfl dX6_isPlaced_100 ?_
                    refine jw_iload_4 (pc := 103) C dX6_isPlaced_103 ?_
                    refine jw_iald (pc := 105) C 11 rfl a rfl (by omega) (by decide) dX6_isPlaced_105 ?_
                    refine jw_iconst (pc := 106) C dX6_isPlaced_106 ?_
                    refine jw_isub (pc := 107) C dX6_isPlaced_107 ?_
                    refine jw_icmp_eq (pc := 108) (tgt := 117) C dX6_isPlaced_108 (by decide) ⟨by omega, by omega⟩ ⟨by omega, by omega⟩ (fun c_108 => ?_) (fun c_108 => ?_)
                    · have hbb : b = b2 := by
                        by_cases q : b < b2
                        · exact absurd (show dS P b = ((L - 1 - i : Nat) : Int) by omega) (hmin b q hbt)
                        · omega
                      refine jw_aload_0 (pc := 117) C dX6_isPlaced_117 ?_
                      refine fg_X6_54 (pc := 118) C 0 rfl rfl dX6_isPlaced_118 ?_
                      refine jw_iload_3 (pc := 121) C dX6_isPlaced_121 ?_
                      refine jw_iload_5 (pc := 122) C dX6_isPlaced_122 ?_
                      refine jw_iast (pc := 124) C 13 rfl i rfl (by omega) (by decide) dX6_isPlaced_124 ?_
                      refine jw_aload_0 (pc := 125) C dX6_isPlaced_125 ?_
                      refine fg_X6_57 (pc := 126) C 0 rfl rfl dX6_isPlaced_126 ?_
                      refine jw_iload_3 (pc := 129) C dX6_isPlaced_129 ?_
                      refine jw_iload_6 (pc := 130) C dX6_isPlaced_130 ?_
                      refine jw_iast (pc := 132) C 14 rfl i rfl (by omega) (by decide) dX6_isPlaced_132 ?_
                      refine jw_iinc_3 (pc := 133) C dX6_isPlaced_133 rfl ?_
                      refine jw_aload_0 (pc := 136) C dX6_isPlaced_136 ?_
                      refine fg_X6_57 (pc := 137) C 0 rfl rfl dX6_isPlaced_137 ?_
                      refine jw_iload_3 (pc := 140) C dX6_isPlaced_140 ?_
                      refine jw_iconst (pc := 141) C dX6_isPlaced_141 ?_
                      refine jw_isub (pc := 142) C dX6_isPlaced_142 ?_
                      refine jw_iald (pc := 143) C 14 rfl i (by omega) (by omega) (by decide) dX6_isPlaced_143 ?_
                      rw [show updf pp2 i (b : Int) i = (b : Int) from updf_same _ _ _]
                      refine jw_istore_4 (pc := 144) C dX6_isPlaced_144 rfl ?_
                      refine jw_goto (pc := 146) (tgt := 59) C dX6_isPlaced_146 (by decide) ?_
                      exact jw_less (ih_59 (i + 1) b (updf pr2 i (r2 : Int)) (updf pp2 i (b : Int)) (by omega) (by omega) (by rw [hnx, hbb]) (by rw [hbb, s8]; omega) (fun k hk => by
                        by_cases e : k = i
                        · rw [e, updf_same, hrr]
                        · rw [updf_ne _ _ e]; exact hpr k (by omega)) (fun k hk => by
                        by_cases e : k = i
                        · rw [e, updf_same, hnx, hbb]
                        · rw [updf_ne _ _ e]; exact hpp k (by omega)) (by omega)) (by repeat (first | exact trivial | refine And.intro rfl ?_))
                    · have hlt : b < b2 := by
                        by_cases q : b = b2
                        · rw [← q] at s8; omega
                        · omega
                      refine jw_iinc_6 (pc := 111) C dX6_isPlaced_111 rfl ?_
                      refine jw_goto (pc := 114) (tgt := 81) C dX6_isPlaced_114 (by decide) ?_
                      exact ih_81 (b + 1) (by omega) (by omega)
              exact K81 13 0 (by omega) (by omega)
        exact jw_less (K59 13 0 a0 pr pp (by omega) k1 rfl (by omega) (fun k h => absurd h (Nat.not_lt_zero _)) (fun k h => absurd h (Nat.not_lt_zero _)) (by omega)) (by repeat (first | exact trivial | refine And.intro rfl ?_))
      · have hz : tryS P l r = (false, P, l) := if_neg (fun q => by omega)
        refine jw_iconst (pc := 52) C dX6_isPlaced_52 ?_
        exact hret _ _ false (thr, P.res, P.cap, P.quo, P.wei, P.req, P.grp, P.acc, st, pls, P.mov, P.pl, P.ml, lgd, lr, lp, f, tr, pr, pp) dX6_isPlaced_53 (by rw [hz]; exact ⟨rfl, ⟨rfl, rfl, rfl, rfl, rfl, rfl, rfl, rfl, rfl, rfl, hst, hpl, elg, hlog⟩, rfl, rfl⟩)
  · have hz : tryS P l r = (false, P, l) := if_neg (fun q => by omega)
    refine jw_iconst (pc := 24) C dX6_isPlaced_24 ?_
    exact hret _ _ false (thr, P.res, P.cap, P.quo, P.wei, P.req, P.grp, P.acc, st, pls, P.mov, P.pl, P.ml, lgd, lr, lp, fr, tr, pr, pp) dX6_isPlaced_25 (by rw [hz]; exact ⟨rfl, hRR, rfl, rfl⟩)
