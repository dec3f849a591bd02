theorem updf_back {α : Type} (f : Nat → α) (k : Nat) (v : α) : updf (updf f k v) k (f k) = f := by
  funext i
  by_cases e : i = k
  · rw [e, updf_same]
  · rw [updf_ne _ _ e, updf_ne _ _ e]
theorem wide_m1 {P : QP} {v : Int} (hI : PI P) (h : IsMin P P.acc v) : IsMin P (wide P (-1)) v := h.congr (fun r _ => by unfold wide; rw [if_neg (by omega)]) hI.req.1
theorem wide_r {P : QP} {v : Int} {r : Nat} (hI : PI P) (h : IsMin (pMask P r (maskAll P.res)) (pMask P r (maskAll P.res)).acc v) : IsMin P (wide P (r : Int)) v := by
  have h2 : IsMin P (updf P.acc r (maskAll P.res)) v := h
  refine h2.congr (fun x _ => ?_) hI.req.1
  unfold wide
  by_cases e : x = r
  · rw [e, updf_same, if_pos rfl]
  · rw [updf_ne _ _ e, if_neg (by omega)]
def gainZ (P : QP) (r : Nat) (z : Int32) : Prop := (P.plc r = -2 → z = iI 0) ∧ (P.plc r ≠ -2 → ∃ v1 v0 : Int, z = iI (v1 - v0) ∧ (0 ≤ v1 ∧ v1 ≤ 40) ∧ (0 ≤ v0 ∧ v0 ≤ 40) ∧ IsMin P (wide P (r : Int)) v1 ∧ IsMin P (wide P (-1)) v0)
set_option maxRecDepth 100000 in
set_option maxHeartbeats 4000000 in
theorem c_X6_greatestPossible (G : jG) (ad : Nat → Nat) (P : QP) (l : QL) (R : QR) (hI : PI P) (hR : RR P l R) (hm : ∀ r : Nat, (r : Int) < P.req → ∀ j, j < 32 → bt (P.acc r) j = true → (j : Int) < P.res) : CI G yX6_greatestPossible cX6_greatestPossible 1 (jrm 2 45 0 0) [.ref (ad 0)] (wR G ad R) (fun (z : Int32) (u : QR) => u.2 = R.2 ∧ u.1 = 0 ∧ ∃ v : Int, z = iI v ∧ (0 ≤ v ∧ v ≤ 40) ∧ IsMin P (wide P (-1)) v) (fun u : QR => wR G ad u) 0 0 := by
  refine ci_intro (own := RX6) [some (.ref (ad 0))] (by decide) rfl rfl rfl (Nat.le_of_ble_eq_true rfl) (fun X C hret => ?_)
  obtain ⟨thr, rs, cp, qu, we, rq, gr, ms, st, pls, mv, plm, mlm, lgd, lr, lp, fr, tr, pr, pp⟩ := R
  obtain ⟨(rfl : rs = P.res), (rfl : cp = P.cap), (rfl : qu = P.quo), (rfl : we = P.wei), (rfl : rq = P.req), (rfl : gr = P.grp), (rfl : ms = P.acc), (rfl : mv = P.mov), (rfl : plm = P.pl), (rfl : mlm = P.ml), (hst : ∀ r : Nat, (r : Int) < P.req → st r = stN (P.plc r)), (hpl : ∀ r : Nat, (r : Int) < P.req → 0 ≤ P.plc r → pls r = P.plc r), (elg : lgd = l.sz), (hlog : ∀ i : Nat, (i : Int) < l.sz → lr i = l.rq i ∧ lp i = l.tg i)⟩ := hR
  have hRR : RR P l (thr, P.res, P.cap, P.quo, P.wei, P.req, P.grp, P.acc, st, pls, P.mov, P.pl, P.ml, lgd, lr, lp, fr, tr, pr, pp) := ⟨rfl, rfl, rfl, rfl, rfl, rfl, rfl, rfl, rfl, rfl, hst, hpl, elg, hlog⟩
  refine jw_eqw (wR9 G ad thr P.res P.cap P.quo P.wei P.req P.grp P.acc st pls P.mov P.pl P.ml lgd lr lp fr tr pr pp) rfl ?_
  have h1 := hI.res
  have h2 := hI.req
  
  refine jw_aload_0 (pc := 0) C dX6_greatestPossible_0 ?_
  refine jw_iconst (pc := 1) C dX6_greatestPossible_1 ?_
  refine fp_X6_60 (pc := 2) C 0 rfl (Nat.le_of_ble_eq_true rfl) dX6_greatestPossible_2 ?_
  refine jw_aload_0 (pc := 5) C dX6_greatestPossible_5 ?_
  refine jw_V_I (pc := 6) C (c_X6_possible G ad P l (0, P.res, P.cap, P.quo, P.wei, P.req, P.grp, P.acc, st, pls, P.mov, P.pl, P.ml, lgd, lr, lp, fr, tr, pr, pp) hI hRR hm) wd_X6_possible kml_X6_143 0 rfl rfl rfl rfl (Nat.le_of_ble_eq_true rfl) ⟨by decide, by decide⟩ ⟨Nat.zero_le _, Nat.zero_le _⟩ dX6_greatestPossible_6 rfl (fun z u h => ?_)
  obtain ⟨v, ev, rv, mv9⟩ := h
  subst ev
  exact hret _ _ _ (0, P.res, P.cap, P.quo, P.wei, P.req, P.grp, P.acc, st, pls, P.mov, P.pl, P.ml, lgd, lr, lp, fr, tr, pr, pp) dX6_greatestPossible_9 ⟨rfl, rfl, v, rfl, rv, wide_m1 hI mv9⟩
set_option maxRecDepth 100000 in
set_option maxHeartbeats 4000000 in
theorem c_X6_gainBy (G : jG) (ad : Nat → Nat) (P : QP) (l : QL) (R : QR) (hI : PI P) (hR : RR P l R) (a : Int) (hj : jr a) (hm : ∀ r : Nat, (r : Int) < P.req → ∀ j, j < 32 → bt (P.acc r) j = true → (j : Int) < P.res) : CI G yX6_gainBy cX6_gainBy 5 (jrm 2 45 0 0) [.ref (ad 0), .int (iI a)] (wR G ad R) (fun (z : Int32) (u : QR) => u.2 = R.2 ∧ ((0 ≤ a ∧ a < P.req ∧ u.1 = 0 ∧ gainZ P a.toNat z) ∨ (¬ (0 ≤ a ∧ a < P.req) ∧ u.1 = 1))) (fun u : QR => wR G ad u) 0 0 := by
  refine ci_intro (own := RX6) [some (.ref (ad 0)), some (.int (iI a)), none, none, none] (by decide) rfl rfl rfl (Nat.le_of_ble_eq_true rfl) (fun X C hret => ?_)
  obtain ⟨thr, rs, cp, qu, we, rq, gr, ms, st, pls, mv, plm, mlm, lgd, lr, lp, fr, tr, pr, pp⟩ := R
  obtain ⟨(rfl : rs = P.res), (rfl : cp = P.cap), (rfl : qu = P.quo), (rfl : we = P.wei), (rfl : rq = P.req), (rfl : gr = P.grp), (rfl : ms = P.acc), (rfl : mv = P.mov), (rfl : plm = P.pl), (rfl : mlm = P.ml), (hst : ∀ r : Nat, (r : Int) < P.req → st r = stN (P.plc r)), (hpl : ∀ r : Nat, (r : Int) < P.req → 0 ≤ P.plc r → pls r = P.plc r), (elg : lgd = l.sz), (hlog : ∀ i : Nat, (i : Int) < l.sz → lr i = l.rq i ∧ lp i = l.tg i)⟩ := hR
  have hRR : RR P l (thr, P.res, P.cap, P.quo, P.wei, P.req, P.grp, P.acc, st, pls, P.mov, P.pl, P.ml, lgd, lr, lp, fr, tr, pr, pp) := ⟨rfl, rfl, rfl, rfl, rfl, rfl, rfl, rfl, rfl, rfl, hst, hpl, elg, hlog⟩
  refine jw_eqw (wR9 G ad thr P.res P.cap P.quo P.wei P.req P.grp P.acc st pls P.mov P.pl P.ml lgd lr lp fr tr pr pp) rfl ?_
  have h1 := hI.res
  have h2 := hI.req
  
  refine jw_aload_0 (pc := 0) C dX6_gainBy_0 ?_
  refine jw_iconst (pc := 1) C dX6_gainBy_1 ?_
  refine fp_X6_60 (pc := 2) C 0 rfl (Nat.le_of_ble_eq_true rfl) dX6_gainBy_2 ?_
  refine jw_aload_0 (pc := 5) C dX6_gainBy_5 ?_
  refine jw_iload_1 (pc := 6) C dX6_gainBy_6 ?_
  refine jw_V_Z (pc := 7) C (c_X6_isRequest G ad P l (0, P.res, P.cap, P.quo, P.wei, P.req, P.grp, P.acc, st, pls, P.mov, P.pl, P.ml, lgd, lr, lp, fr, tr, pr, pp) hI hRR a hj) wd_X6_isRequest kml_X6_131 0 rfl rfl rfl rfl (Nat.le_of_ble_eq_true rfl) ⟨by decide, by decide⟩ ⟨Nat.zero_le _, Nat.zero_le _⟩ dX6_gainBy_7 rfl (fun z u h => ?_)
  subst h
  refine jw_eqw (wR9 G ad 0 P.res P.cap P.quo P.wei P.req P.grp P.acc st pls P.mov P.pl P.ml lgd lr lp fr tr pr pp) rfl ?_
  refine jw_if_ne_b (pc := 10) (tgt := 19) C dX6_gainBy_10 (by decide) (fun c_10 => ?_) (fun c_10 => ?_)
  · have hok := of_decide_eq_true c_10
    obtain ⟨j, ej⟩ : ∃ j : Nat, a = (j : Int) := ⟨a.toNat, by omega⟩
    subst ej
    have q1 := hst j (by omega)
    have q2 := stN_rng (P.plc j)
    have q5 := hI.plc j
    have q3 := stN_2 (p := P.plc j) (by omega)
    have hm2 : ∀ r : Nat, (r : Int) < P.req → ∀ k, k < 32 → bt (updf P.acc j (maskAll P.res) r) k = true → (k : Int) < P.res := fun r hr k hk hb => by
      by_cases e : r = j
      · rw [e, updf_same, maskAll_bt hI hk] at hb; exact of_decide_eq_true hb
      · rw [updf_ne _ _ e] at hb; exact hm r hr k hk hb
    refine jw_aload_0 (pc := 19) C dX6_gainBy_19 ?_
    refine fg_X6_25 (pc := 20) C 0 rfl rfl dX6_gainBy_20 ?_
    refine jw_iload_1 (pc := 23) C dX6_gainBy_23 ?_
    refine jw_iald (pc := 24) C 6 rfl j rfl (by omega) (by decide) dX6_gainBy_24 ?_
    refine jw_iconst (pc := 25) C dX6_gainBy_25 ?_
    refine jw_icmp_ne (pc := 26) (tgt := 31) C dX6_gainBy_26 (by decide) ⟨by omega, by omega⟩ ⟨by omega, by omega⟩ (fun c_26 => ?_) (fun c_26 => ?_)
    · refine jw_aload_0 (pc := 31) C dX6_gainBy_31 ?_
      refine jw_V_I (pc := 32) C (c_X6_possible G ad P l (0, P.res, P.cap, P.quo, P.wei, P.req, P.grp, P.acc, st, pls, P.mov, P.pl, P.ml, lgd, lr, lp, fr, tr, pr, pp) hI hRR hm) wd_X6_possible kml_X6_143 0 rfl rfl rfl rfl (Nat.le_of_ble_eq_true rfl) ⟨by decide, by decide⟩ ⟨Nat.zero_le _, Nat.zero_le _⟩ dX6_gainBy_32 rfl (fun z5 u5 h5 => ?_)
      obtain ⟨v0, e0, r0, m0⟩ := h5
      subst e0
      refine jw_eqw (wR9 G ad 0 P.res P.cap P.quo P.wei P.req P.grp P.acc st pls P.mov P.pl P.ml lgd lr lp fr tr pr pp) rfl ?_
      refine jw_istore_2 (pc := 35) C dX6_gainBy_35 rfl ?_
      refine jw_aload_0 (pc := 36) C dX6_gainBy_36 ?_
      refine fg_X6_22 (pc := 37) C 0 rfl rfl dX6_gainBy_37 ?_
      refine jw_iload_1 (pc := 40) C dX6_gainBy_40 ?_
      refine jw_iald_r (pc := 41) C 5 rfl j rfl (by omega) (by decide) dX6_gainBy_41 ?_
      refine jw_istore_3 (pc := 42) C dX6_gainBy_42 rfl ?_
      refine jw_aload_0 (pc := 43) C dX6_gainBy_43 ?_
      refine fg_X6_22 (pc := 44) C 0 rfl rfl dX6_gainBy_44 ?_
      refine jw_iload_1 (pc := 47) C dX6_gainBy_47 ?_
      refine jw_iconst (pc := 48) C dX6_gainBy_48 ?_
      refine jw_aload_0 (pc := 49) C dX6_gainBy_49 ?_
      refine fg_X6_63 (pc := 50) C 0 rfl rfl dX6_gainBy_50 ?_
      refine jw_ishl (pc := 53) C dX6_gainBy_53 ?_
      refine jw_iconst (pc := 54) C dX6_gainBy_54 ?_
      refine jw_isub_r (pc := 55) C dX6_gainBy_55 ?_
      refine jw_iast_r (pc := 56) C 5 rfl j rfl (by omega) (by decide) dX6_gainBy_56 ?_
      refine jw_aload_0 (pc := 57) C dX6_gainBy_57 ?_
      refine jw_V_I (pc := 58) C (c_X6_possible G ad (pMask P j (maskAll P.res)) l (0, P.res, P.cap, P.quo, P.wei, P.req, P.grp, updf P.acc j (maskAll P.res), st, pls, P.mov, P.pl, P.ml, lgd, lr, lp, fr, tr, pr, pp) (PI_mask hI) ⟨rfl, rfl, rfl, rfl, rfl, rfl, rfl, rfl, rfl, rfl, hst, hpl, elg, hlog⟩ hm2) wd_X6_possible kml_X6_143 0 rfl rfl rfl rfl (Nat.le_of_ble_eq_true rfl) ⟨by decide, by decide⟩ ⟨Nat.zero_le _, Nat.zero_le _⟩ dX6_gainBy_58 rfl (fun z6 u6 h6 => ?_)
      obtain ⟨v1, e1, r1, m1⟩ := h6
      subst e1
      refine jw_eqw (wR9 G ad 0 P.res P.cap P.quo P.wei P.req P.grp (updf P.acc j (maskAll P.res)) st pls P.mov P.pl P.ml lgd lr lp fr tr pr pp) rfl ?_
      refine jw_istore_4 (pc := 61) C dX6_gainBy_61 rfl ?_
      refine jw_aload_0 (pc := 63) C dX6_gainBy_63 ?_
      refine fg_X6_22 (pc := 64) C 0 rfl rfl dX6_gainBy_64 ?_
      refine jw_iload_1 (pc := 67) C dX6_gainBy_67 ?_
      refine jw_iload_3 (pc := 68) C dX6_gainBy_68 ?_
      refine jw_iast_r (pc := 69) C 5 rfl j rfl (by omega) (by decide) dX6_gainBy_69 ?_
      refine jw_eqw (wR9 G ad 0 P.res P.cap P.quo P.wei P.req P.grp P.acc st pls P.mov P.pl P.ml lgd lr lp fr tr pr pp) (by show wR9 G ad 0 P.res P.cap P.quo P.wei P.req P.grp (updf (updf P.acc j (maskAll P.res)) j (P.acc j)) st pls P.mov P.pl P.ml lgd lr lp fr tr pr pp = _; rw [updf_back]) ?_
      have hz : gainZ P j (iI (v1 - v0)) := ⟨fun q => absurd (q3.mpr q) (by omega), fun _ => ⟨v1, v0, rfl, r1, r0, wide_r hI m1, wide_m1 hI m0⟩⟩
      refine jw_iload_4 (pc := 70) C dX6_gainBy_70 ?_
      refine jw_iload_2 (pc := 72) C dX6_gainBy_72 ?_
      refine jw_isub (pc := 73) C dX6_gainBy_73 ?_
      exact hret _ _ _ (0, P.res, P.cap, P.quo, P.wei, P.req, P.grp, P.acc, st, pls, P.mov, P.pl, P.ml, lgd, lr, lp, fr, tr, pr, pp) dX6_gainBy_74 ⟨rfl, Or.inl ⟨hok.1, hok.2, rfl, hz⟩⟩
    · have hz : gainZ P j (iI 0) := ⟨fun _ => rfl, fun q => absurd (q3.mp (by omega)) q⟩
      refine jw_iconst (pc := 29) C dX6_gainBy_29 ?_
      exact hret _ _ _ (0, P.res, P.cap, P.quo, P.wei, P.req, P.grp, P.acc, st, pls, P.mov, P.pl, P.ml, lgd, lr, lp, fr, tr, pr, pp) dX6_gainBy_30 ⟨rfl, Or.inl ⟨hok.1, hok.2, rfl, hz⟩⟩
  · have hno := of_decide_eq_false c_10
    refine jw_aload_0 (pc := 13) C dX6_gainBy_13 ?_
    refine jw_iconst (pc := 14) C dX6_gainBy_14 ?_
    refine jw_V_I (pc := 15) C (c_X6_fail G ad (0, P.res, P.cap, P.quo, P.wei, P.req, P.grp, P.acc, st, pls, P.mov, P.pl, P.ml, lgd, lr, lp, fr, tr, pr, pp) 1) wd_X6_fail kml_X6_116 0 rfl rfl rfl rfl (Nat.le_of_ble_eq_true rfl) ⟨by decide, by decide⟩ ⟨Nat.zero_le _, Nat.zero_le _⟩ dX6_gainBy_15 rfl (fun zf uf hf => ?_)
    obtain ⟨ef, eg⟩ := hf
    subst ef
    subst eg
    exact hret _ _ _ (1, P.res, P.cap, P.quo, P.wei, P.req, P.grp, P.acc, st, pls, P.mov, P.pl, P.ml, lgd, lr, lp, fr, tr, pr, pp) dX6_gainBy_18 ⟨rfl, Or.inr ⟨hno, rfl⟩⟩
