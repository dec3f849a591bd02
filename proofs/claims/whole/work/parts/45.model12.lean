theorem RR_admit {P : QP} {l : QL} {R : QR} {g : Int} {m : Int32} (hI : PI P) (h : RR P l R) : RR (pAdmit P g m) (l.1, l.2.1, 0) (0, R.res, R.cap, R.quo, R.wei, P.req + 1, updf R.grp P.req.toNat g, updf R.msk P.req.toNat m, updf R.st P.req.toNat 0, R.pls, R.mov, R.pl, R.ml, 0, R.lr, R.lp, R.far, R.tri, R.pr, R.pp) := by
  have hr := hI.req
  obtain ⟨h1, h2, h3, h4, h5, h6, h7, h8, h9, h10, h11, h12, h13, h14⟩ := h
  refine ⟨h1, h2, h3, h4, rfl, ?_, ?_, h8, h9, h10, fun x hx => ?_, fun x hx => ?_, rfl, fun i hi => absurd hi (by show ¬ ((i : Int) < 0); omega)⟩
  · show updf R.grp P.req.toNat g = updf P.grp P.req.toNat g
    rw [h6]
  · show updf R.msk P.req.toNat m = updf P.acc P.req.toNat m
    rw [h7]
  · have hx2 : (x : Int) < P.req + 1 := hx
    show updf R.st P.req.toNat 0 x = stN (updf P.plc P.req.toNat (-1) x)
    by_cases e : x = P.req.toNat
    · rw [e, updf_same, updf_same]; rfl
    · rw [updf_ne _ _ e, updf_ne _ _ e]; exact h11 x (by omega)
  · have hx2 : (x : Int) < P.req + 1 := hx
    show 0 ≤ updf P.plc P.req.toNat (-1) x → R.pls x = updf P.plc P.req.toNat (-1) x
    by_cases e : x = P.req.toNat
    · rw [e, updf_same]; intro q; omega
    · rw [updf_ne _ _ e]; exact h12 x (by omega)
set_option maxRecDepth 100000 in
set_option maxHeartbeats 4000000 in
theorem c_X6_arrive (G : jG) (ad : Nat → Nat) (P : QP) (l : QL) (R : QR) (hI : PI P) (hR : RR P l R) (hF : PFe P) (a : Int) (hj : jr a) (m : Int32) : CI G yX6_arrive cX6_arrive 4 (jrm 6 138 0 0) [.ref (ad 0), .int (iI a), .int m] (wR G ad R) (fun (z : Int32) (u : QR) => ((0 ≤ a ∧ a < 4) ∧ mOK P m ∧ P.req < 40 ∧ u.thr = 0 ∧ z = iI P.req ∧ RR (tryS (pAdmit P a m) (l.1, l.2.1, 0) P.req.toNat).2.1 (tryS (pAdmit P a m) (l.1, l.2.1, 0) P.req.toNat).2.2 u) ∨ ((0 ≤ a ∧ a < 4) ∧ mOK P m ∧ P.req = 40 ∧ u.1 = 3 ∧ u.2 = R.2) ∨ ((0 ≤ a ∧ a < 4) ∧ ¬ mOK P m ∧ u.1 = 2 ∧ u.2 = R.2) ∨ (¬ (0 ≤ a ∧ a < 4) ∧ u.1 = 1 ∧ u.2 = R.2)) (fun u : QR => wR G ad u) 0 0 := by
  refine ci_intro (own := RX6) [some (.ref (ad 0)), some (.int (iI a)), some (.int m), none] (by decide) rfl rfl rfl (Nat.le_of_ble_eq_true rfl) (fun X C hret => ?_)
  obtain ⟨thr, rs, cp, qu, we, rq, gr, ms, st, pls, mv, plm, mlm, lgd, lr, lp, fr, tr, pr, pp⟩ := R
  obtain ⟨(rfl : rs = P.res), (rfl : cp = P.cap), (rfl : qu = P.quo), (rfl : we = P.wei), (rfl : rq = P.req), (rfl : gr = P.grp), (rfl : ms = P.acc), (rfl : mv = P.mov), (rfl : plm = P.pl), (rfl : mlm = P.ml), (hst : ∀ r : Nat, (r : Int) < P.req → st r = stN (P.plc r)), (hpl : ∀ r : Nat, (r : Int) < P.req → 0 ≤ P.plc r → pls r = P.plc r), (elg : lgd = l.sz), (hlog : ∀ i : Nat, (i : Int) < l.sz → lr i = l.rq i ∧ lp i = l.tg i)⟩ := hR
  have hRR : RR P l (thr, P.res, P.cap, P.quo, P.wei, P.req, P.grp, P.acc, st, pls, P.mov, P.pl, P.ml, lgd, lr, lp, fr, tr, pr, pp) := ⟨rfl, rfl, rfl, rfl, rfl, rfl, rfl, rfl, rfl, rfl, hst, hpl, elg, hlog⟩
  refine jw_eqw (wR9 G ad thr P.res P.cap P.quo P.wei P.req P.grp P.acc st pls P.mov P.pl P.ml lgd lr lp fr tr pr pp) rfl ?_
  have h1 := hI.res
  have h2 := hI.req
  
  refine jw_aload_0 (pc := 0) C dX6_arrive_0 ?_
  refine jw_iconst (pc := 1) C dX6_arrive_1 ?_
  refine fp_X6_60 (pc := 2) C 0 rfl (Nat.le_of_ble_eq_true rfl) dX6_arrive_2 ?_
  refine jw_iload_1 (pc := 5) C dX6_arrive_5 ?_
  refine jw_S0_Z (pc := 6) C (c_X6_isGroup G a hj) ws_X6_isGroup kml_X6_125 rfl rfl (Nat.le_of_ble_eq_true rfl) ⟨by decide, by decide⟩ ⟨Nat.zero_le _, Nat.zero_le _⟩ dX6_arrive_6 rfl (fun z u h => ?_)
  subst h
  refine jw_if_ne_b (pc := 9) (tgt := 18) C dX6_arrive_9 (by decide) (fun c_9 => ?_) (fun c_9 => ?_)
  · have hok := of_decide_eq_true c_9
    refine jw_aload_0 (pc := 18) C dX6_arrive_18 ?_
    refine jw_iload_2 (pc := 19) C dX6_arrive_19 ?_
    refine jw_V_Z (pc := 20) C (c_X6_isMask G ad P l (0, P.res, P.cap, P.quo, P.wei, P.req, P.grp, P.acc, st, pls, P.mov, P.pl, P.ml, lgd, lr, lp, fr, tr, pr, pp) hI hRR m) wd_X6_isMask kml_X6_128 0 rfl rfl rfl rfl (Nat.le_of_ble_eq_true rfl) ⟨by decide, by decide⟩ ⟨Nat.zero_le _, Nat.zero_le _⟩ dX6_arrive_20 rfl (fun zm um hmk => ?_)
    refine jw_eqw (wR9 G ad 0 P.res P.cap P.quo P.wei P.req P.grp P.acc st pls P.mov P.pl P.ml lgd lr lp fr tr pr pp) rfl ?_
    refine jw_if_ne_b (pc := 23) (tgt := 32) C dX6_arrive_23 (by decide) (fun c_23 => ?_) (fun c_23 => ?_)
    · have hmo : mOK P m := hmk.mp c_23
      refine jw_aload_0 (pc := 32) C dX6_arrive_32 ?_
      refine fg_X6_66 (pc := 33) C 0 rfl rfl dX6_arrive_33 ?_
      refine jw_bipush (pc := 36) C dX6_arrive_36 (by decide) ?_
      refine jw_icmp_ne (pc := 38) (tgt := 47) C dX6_arrive_38 (by decide) ⟨by omega, by omega⟩ ⟨by omega, by omega⟩ (fun c_38 => ?_) (fun c_38 => ?_)
      · have hlt : P.req < 40 := by omega
        refine jw_aload_0 (pc := 47) C dX6_arrive_47 ?_
        refine jw_iconst (pc := 48) C dX6_arrive_48 ?_
        refine fp_X6_102 (pc := 49) C 0 rfl (Nat.le_of_ble_eq_true rfl) dX6_arrive_49 ?_
        refine jw_aload_0 (pc := 52) C dX6_arrive_52 ?_
        refine fg_X6_66 (pc := 53) C 0 rfl rfl dX6_arrive_53 ?_
        refine jw_istore_3 (pc := 56) C dX6_arrive_56 rfl ?_
        refine jw_aload_0 (pc := 57) C dX6_arrive_57 ?_
        refine fg_X6_19 (pc := 58) C 0 rfl rfl dX6_arrive_58 ?_
        refine jw_iload_3 (pc := 61) C dX6_arrive_61 ?_
        refine jw_iload_1 (pc := 62) C dX6_arrive_62 ?_
        refine jw_iast (pc := 63) C 4 rfl P.req.toNat (by omega) (by omega) (by decide) dX6_arrive_63 ?_
        refine jw_aload_0 (pc := 64) C dX6_arrive_64 ?_
        refine fg_X6_22 (pc := 65) C 0 rfl rfl dX6_arrive_65 ?_
        refine jw_iload_3 (pc := 68) C dX6_arrive_68 ?_
        refine jw_iload_2 (pc := 69) C dX6_arrive_69 ?_
        refine jw_iast_r (pc := 70) C 5 rfl P.req.toNat (by omega) (by omega) (by decide) dX6_arrive_70 ?_
        refine jw_aload_0 (pc := 71) C dX6_arrive_71 ?_
        refine fg_X6_25 (pc := 72) C 0 rfl rfl dX6_arrive_72 ?_
        refine jw_iload_3 (pc := 75) C dX6_arrive_75 ?_
        refine jw_iconst (pc := 76) C dX6_arrive_76 ?_
        refine jw_iast (pc := 77) C 6 rfl P.req.toNat (by omega) (by omega) (by decide) dX6_arrive_77 ?_
        refine jw_aload_0 (pc := 78) C dX6_arrive_78 ?_
        refine jw_dup (pc := 79) C dX6_arrive_79 rfl ?_
        refine fg_X6_66 (pc := 80) C 0 rfl rfl dX6_arrive_80 ?_
        refine jw_iconst (pc := 83) C dX6_arrive_83 ?_
        refine jw_iadd (pc := 84) C dX6_arrive_84 ?_
        refine fp_X6_66 (pc := 85) C 0 rfl (Nat.le_of_ble_eq_true rfl) dX6_arrive_85 ?_
        refine jw_aload_0 (pc := 88) C dX6_arrive_88 ?_
        refine jw_iload_3 (pc := 89) C dX6_arrive_89 ?_
        rw [show iI P.req = iI ((P.req.toNat : Nat) : Int) from by rw [Int.toNat_of_nonneg h2.1]]
        refine jw_V_Z (pc := 90) C (c_X6_isPlaced G ad (pAdmit P a m) (l.1, l.2.1, 0) (0, P.res, P.cap, P.quo, P.wei, P.req + 1, (updf P.grp P.req.toNat a), (updf P.acc P.req.toNat m), (updf st P.req.toNat 0), pls, P.mov, P.pl, P.ml, 0, lr, lp, fr, tr, pr, pp) (PI_admit hI hlt ⟨by omega, by omega⟩) (RR_admit hI hRR) P.req.toNat (by show ((P.req.toNat : Nat) : Int) < P.req + 1; omega) (updf_same _ _ _) ⟨Int.le_refl 0, (by decide : (0 : Int) ≤ 195)⟩) wd_X6_isPlaced kml_X6_109 0 rfl rfl rfl rfl (Nat.le_of_ble_eq_true rfl) ⟨by decide, by decide⟩ ⟨Nat.zero_le _, Nat.zero_le _⟩ dX6_arrive_90 rfl (fun z9 u9 h9 => ?_)
        obtain ⟨b1, b2, b3, b4⟩ := h9
        have hre : u9.req = P.req + 1 := b2.2.2.2.2.1.trans (tryS_same (pAdmit P a m) (l.1, l.2.1, 0) P.req.toNat).2.2.2.2.1
        refine jw_if_eq_b (pc := 93) (tgt := 105) C dX6_arrive_93 (by decide) (fun c_93 => ?_) (fun c_93 => ?_)
        · refine jw_iload_3 (pc := 105) C dX6_arrive_105 ?_
          exact hret _ _ _ u9 dX6_arrive_106 (Or.inl ⟨hok, hmo, hlt, b4, congrArg iI (by omega), b2⟩)
        · refine jw_aload_0 (pc := 96) C dX6_arrive_96 ?_
          refine fg_X6_66 (pc := 97) C 0 rfl rfl dX6_arrive_97 ?_
          rw [show QR.req u9 = P.req + 1 from hre]
          refine jw_iconst (pc := 100) C dX6_arrive_100 ?_
          refine jw_isub (pc := 101) C dX6_arrive_101 ?_
          refine jw_goto (pc := 102) (tgt := 106) C dX6_arrive_102 (by decide) ?_
          exact hret _ _ _ u9 dX6_arrive_106 (Or.inl ⟨hok, hmo, hlt, b4, congrArg iI (by omega), b2⟩)
      · have h40 : P.req = 40 := c_38
        refine jw_aload_0 (pc := 41) C dX6_arrive_41 ?_
        refine jw_iconst (pc := 42) C dX6_arrive_42 ?_
        refine jw_V_I (pc := 43) C (c_X6_fail G ad (0, P.res, P.cap, P.quo, P.wei, P.req, P.grp, P.acc, st, pls, P.mov, P.pl, P.ml, lgd, lr, lp, fr, tr, pr, pp) 3) wd_X6_fail kml_X6_116 0 rfl rfl rfl rfl (Nat.le_of_ble_eq_true rfl) ⟨by decide, by decide⟩ ⟨Nat.zero_le _, Nat.zero_le _⟩ dX6_arrive_43 rfl (fun zf uf hf => ?_)
        obtain ⟨ef, eg⟩ := hf
        subst ef
        subst eg
        exact hret _ _ _ (3, P.res, P.cap, P.quo, P.wei, P.req, P.grp, P.acc, st, pls, P.mov, P.pl, P.ml, lgd, lr, lp, fr, tr, pr, pp) dX6_arrive_46 (Or.inr (Or.inl ⟨hok, hmo, h40, rfl, rfl⟩))
    · have hmn : ¬ mOK P m := fun q => by rw [hmk.mpr q] at c_23; cases c_23
      refine jw_aload_0 (pc := 26) C dX6_arrive_26 ?_
      refine jw_iconst (pc := 27) C dX6_arrive_27 ?_
      refine jw_V_I (pc := 28) C (c_X6_fail G ad (0, P.res, P.cap, P.quo, P.wei, P.req, P.grp, P.acc, st, pls, P.mov, P.pl, P.ml, lgd, lr, lp, fr, tr, pr, pp) 2) wd_X6_fail kml_X6_116 0 rfl rfl rfl rfl (Nat.le_of_ble_eq_true rfl) ⟨by decide, by decide⟩ ⟨Nat.zero_le _, Nat.zero_le _⟩ dX6_arrive_28 rfl (fun zf uf hf => ?_)
      obtain ⟨ef, eg⟩ := hf
      subst ef
      subst eg
      exact hret _ _ _ (2, P.res, P.cap, P.quo, P.wei, P.req, P.grp, P.acc, st, pls, P.mov, P.pl, P.ml, lgd, lr, lp, fr, tr, pr, pp) dX6_arrive_31 (Or.inr (Or.inr (Or.inl ⟨hok, hmn, rfl, rfl⟩)))
  · have hno := of_decide_eq_false c_9
    refine jw_aload_0 (pc := 12) C dX6_arrive_12 ?_
    refine jw_iconst (pc := 13) C dX6_arrive_13 ?_
    refine jw_V_I (pc := 14) C (c_X6_fail G ad (0, P.res, P.cap, P.quo, P.wei, P.req, P.grp, P.acc, st, pls, P.mov, P.pl, P.ml, lgd, lr, lp, fr, tr, pr, pp) 1) wd_X6_fail kml_X6_116 0 rfl rfl rfl rfl (Nat.le_of_ble_eq_true rfl) ⟨by decide, by decide⟩ ⟨Nat.zero_le _, Nat.zero_le _⟩ dX6_arrive_14 rfl (fun zf uf hf => ?_)
    obtain ⟨ef, eg⟩ := hf
    subst ef
    subst eg
    exact hret _ _ _ (1, P.res, P.cap, P.quo, P.wei, P.req, P.grp, P.acc, st, pls, P.mov, P.pl, P.ml, lgd, lr, lp, fr, tr, pr, pp) dX6_arrive_17 (Or.inr (Or.inr (Or.inr ⟨hno, rfl, rfl⟩)))
