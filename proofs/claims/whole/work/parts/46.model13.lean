theorem RR_acc1 {P : QP} {l : QL} {R : QR} {j : Nat} {m : Int32} (h : RR P l R) : RR (pMask P j m) (l.1, l.2.1, 0) (0, R.res, R.cap, R.quo, R.wei, R.req, R.grp, updf R.msk j m, R.st, R.pls, R.mov, R.pl, R.ml, 0, R.lr, R.lp, R.far, R.tri, R.pr, R.pp) := by
  obtain ⟨h1, h2, h3, h4, h5, h6, h7, h8, h9, h10, h11, h12, h13, h14⟩ := h
  refine ⟨h1, h2, h3, h4, h5, h6, ?_, h8, h9, h10, h11, h12, rfl, fun i hi => absurd hi (by show ¬ ((i : Int) < 0); omega)⟩
  show updf R.msk j m = updf P.acc j m
  rw [h7]
/-- a request put back, the model's state of it waiting -/
theorem RR_put {P : QP} {l : QL} {R : QR} {j : Nat} (h : RR P l R) (hp : 0 ≤ P.plc j) : RR (pPut P j) l (R.thr, R.res, R.cap, R.quo, R.wei, R.req, R.grp, R.msk, updf R.st j 0, R.pls, R.mov, R.pl, R.ml, R.lgd, R.lr, R.lp, R.far, R.tri, R.pr, R.pp) := by
  obtain ⟨h1, h2, h3, h4, h5, h6, h7, h8, h9, h10, h11, h12, h13, h14⟩ := h
  have hj : (pPut P j).plc j = -1 := by rw [pPut_pos hp]; exact updf_same _ _ _
  refine ⟨h1.trans (pPut_res P j).symm, h2.trans (pPut_cap P j).symm, h3.trans (pPut_quo P j).symm, h4.trans (pPut_wei P j).symm, h5.trans (pPut_req P j).symm, h6.trans (pPut_grp P j).symm, h7.trans (pPut_acc P j).symm, h8.trans (pPut_mov P j).symm, h9.trans (pPut_pl P j).symm, h10.trans (pPut_ml P j).symm, fun x hx => ?_, fun x hx => ?_, h13, h14⟩
  · rw [pPut_req] at hx
    show updf R.st j 0 x = stN ((pPut P j).plc x)
    by_cases e : x = j
    · rw [e, updf_same, hj]; rfl
    · rw [updf_ne _ _ e, pPut_ne e]; exact h11 x hx
  · rw [pPut_req] at hx
    show 0 ≤ (pPut P j).plc x → R.pls x = (pPut P j).plc x
    by_cases e : x = j
    · rw [e, hj]; intro q; omega
    · rw [pPut_ne e]; exact h12 x hx
theorem acc_req (P : QP) (j : Nat) (m : Int32) : (pAccept P j m).req = P.req := by
  unfold pAccept
  split
  · exact pPut_req _ _
  · rfl
set_option maxRecDepth 100000 in
set_option maxHeartbeats 4000000 in
theorem c_X6_setAccepts (G : jG) (ad : Nat → Nat) (P : QP) (l : QL) (R : QR) (hI : PI P) (hR : RR P l R) (hF : PFe P) (a : Int) (hj : jr a) (m : Int32) : CZ G yX6_setAccepts cX6_setAccepts 3 (jrm 7 160 0 0) [.ref (ad 0), .int (iI a), .int m] (wR G ad R) (fun (z : Bool) (u : QR) => (0 ≤ a ∧ a < P.req ∧ P.plc a.toNat ≠ -2 ∧ mOK P m ∧ u.thr = 0 ∧ z = decide (0 ≤ (rn (pAccept P a.toNat m) l).1.plc a.toNat) ∧ RR (rn (pAccept P a.toNat m) l).1 (rn (pAccept P a.toNat m) l).2.1 u) ∨ (0 ≤ a ∧ a < P.req ∧ P.plc a.toNat ≠ -2 ∧ ¬ mOK P m ∧ u.1 = 3 ∧ u.2 = R.2) ∨ (0 ≤ a ∧ a < P.req ∧ P.plc a.toNat = -2 ∧ u.1 = 2 ∧ u.2 = R.2) ∨ (¬ (0 ≤ a ∧ a < P.req) ∧ u.1 = 1 ∧ u.2 = R.2)) (fun u : QR => wR G ad u) 0 0 := by
  refine cz_intro (own := RX6) [some (.ref (ad 0)), some (.int (iI a)), some (.int m)] (by decide) rfl rfl rfl (Nat.le_of_ble_eq_true rfl) (fun X C hret => ?_)
  obtain ⟨thr, rs, cp, qu, we, rq, gr, ms, st, pls, mv, plm, mlm, lgd, lr, lp, fr, tr, pr, pp⟩ := R
  obtain ⟨(rfl : rs = P.res), (rfl : cp = P.cap), (rfl : qu = P.quo), (rfl : we = P.wei), (rfl : rq = P.req), (rfl : gr = P.grp), (rfl : ms = P.acc), (rfl : mv = P.mov), (rfl : plm = P.pl), (rfl : mlm = P.ml), (hst : ∀ r : Nat, (r : Int) < P.req → st r = stN (P.plc r)), (hpl : ∀ r : Nat, (r : Int) < P.req → 0 ≤ P.plc r → pls r = P.plc r), (elg : lgd = l.sz), (hlog : ∀ i : Nat, (i : Int) < l.sz → lr i = l.rq i ∧ lp i = l.tg i)⟩ := hR
  have hRR : RR P l (thr, P.res, P.cap, P.quo, P.wei, P.req, P.grp, P.acc, st, pls, P.mov, P.pl, P.ml, lgd, lr, lp, fr, tr, pr, pp) := ⟨rfl, rfl, rfl, rfl, rfl, rfl, rfl, rfl, rfl, rfl, hst, hpl, elg, hlog⟩
  refine jw_eqw (wR9 G ad thr P.res P.cap P.quo P.wei P.req P.grp P.acc st pls P.mov P.pl P.ml lgd lr lp fr tr pr pp) rfl ?_
  have h1 := hI.res
  have h2 := hI.req
  
  refine jw_aload_0 (pc := 0) C dX6_setAccepts_0 ?_
  refine jw_iconst (pc := 1) C dX6_setAccepts_1 ?_
  refine fp_X6_60 (pc := 2) C 0 rfl (Nat.le_of_ble_eq_true rfl) dX6_setAccepts_2 ?_
  refine jw_aload_0 (pc := 5) C dX6_setAccepts_5 ?_
  refine jw_iload_1 (pc := 6) C dX6_setAccepts_6 ?_
  refine jw_V_Z (pc := 7) C (c_X6_isRequest G ad P l (0, P.res, P.cap, P.quo, P.wei, P.req, P.grp, P.acc, st, pls, P.mov, P.pl, P.ml, lgd, lr, lp, fr, tr, pr, pp) hI hRR a hj) wd_X6_isRequest kml_X6_131 0 rfl rfl rfl rfl (Nat.le_of_ble_eq_true rfl) ⟨by decide, by decide⟩ ⟨Nat.zero_le _, Nat.zero_le _⟩ dX6_setAccepts_7 rfl (fun z u h => ?_)
  subst h
  refine jw_eqw (wR9 G ad 0 P.res P.cap P.quo P.wei P.req P.grp P.acc st pls P.mov P.pl P.ml lgd lr lp fr tr pr pp) rfl ?_
  refine jw_if_ne_b (pc := 10) (tgt := 27) C dX6_setAccepts_10 (by decide) (fun c_10 => ?_) (fun c_10 => ?_)
  · have hok := of_decide_eq_true c_10
    obtain ⟨j, ej⟩ : ∃ j : Nat, a = (j : Int) := ⟨a.toNat, by omega⟩
    subst ej
    have q1 := hst j (by omega)
    have q2 := stN_rng (P.plc j)
    have q4 := hI.plc j
    have q3 := stN_2 (p := P.plc j) (by omega)
    have q5 := @stN_1 (P.plc j)
    have q6 := hpl j (by omega)
    refine jw_aload_0 (pc := 27) C dX6_setAccepts_27 ?_
    refine fg_X6_25 (pc := 28) C 0 rfl rfl dX6_setAccepts_28 ?_
    refine jw_iload_1 (pc := 31) C dX6_setAccepts_31 ?_
    refine jw_iald (pc := 32) C 6 rfl _ rfl (by omega) (by decide) dX6_setAccepts_32 ?_
    refine jw_iconst (pc := 33) C dX6_setAccepts_33 ?_
    refine jw_icmp_ne (pc := 34) (tgt := 51) C dX6_setAccepts_34 (by decide) ⟨by omega, by omega⟩ ⟨by omega, by omega⟩ (fun c_34 => ?_) (fun c_34 => ?_)
    · have hp : P.plc j ≠ -2 := fun q => c_34 (q1.trans (q3.mpr q))
      refine jw_aload_0 (pc := 51) C dX6_setAccepts_51 ?_
      refine jw_iload_2 (pc := 52) C dX6_setAccepts_52 ?_
      refine jw_V_Z (pc := 53) C (c_X6_isMask G ad P l (0, P.res, P.cap, P.quo, P.wei, P.req, P.grp, P.acc, st, pls, P.mov, P.pl, P.ml, lgd, lr, lp, fr, tr, pr, pp) hI hRR m) wd_X6_isMask kml_X6_128 0 rfl rfl rfl rfl (Nat.le_of_ble_eq_true rfl) ⟨by decide, by decide⟩ ⟨Nat.zero_le _, Nat.zero_le _⟩ dX6_setAccepts_53 rfl (fun zm um hmk => ?_)
      refine jw_eqw (wR9 G ad 0 P.res P.cap P.quo P.wei P.req P.grp P.acc st pls P.mov P.pl P.ml lgd lr lp fr tr pr pp) rfl ?_
      refine jw_if_ne_b (pc := 56) (tgt := 73) C dX6_setAccepts_56 (by decide) (fun c_56 => ?_) (fun c_56 => ?_)
      · have hmo : mOK P m := hmk.mp c_56
        refine jw_aload_0 (pc := 73) C dX6_setAccepts_73 ?_
        refine jw_iconst (pc := 74) C dX6_setAccepts_74 ?_
        refine fp_X6_102 (pc := 75) C 0 rfl (Nat.le_of_ble_eq_true rfl) dX6_setAccepts_75 ?_
        refine jw_aload_0 (pc := 78) C dX6_setAccepts_78 ?_
        refine fg_X6_22 (pc := 79) C 0 rfl rfl dX6_setAccepts_79 ?_
        refine jw_iload_1 (pc := 82) C dX6_setAccepts_82 ?_
        refine jw_iload_2 (pc := 83) C dX6_setAccepts_83 ?_
        refine jw_iast_r (pc := 84) C 5 rfl j rfl (by omega) (by decide) dX6_setAccepts_84 ?_
        refine jw_aload_0 (pc := 85) C dX6_setAccepts_85 ?_
        refine fg_X6_25 (pc := 86) C 0 rfl rfl dX6_setAccepts_86 ?_
        refine jw_iload_1 (pc := 89) C dX6_setAccepts_89 ?_
        refine jw_iald (pc := 90) C 6 rfl j rfl (by omega) (by decide) dX6_setAccepts_90 ?_
        refine jw_iconst (pc := 91) C dX6_setAccepts_91 ?_
        refine jw_icmp_ne (pc := 92) (tgt := 116) C dX6_setAccepts_92 (by decide) ⟨by omega, by omega⟩ ⟨by omega, by omega⟩ (fun c_92 => ?_) (fun c_92 => ?_)
        · have hng : ¬ (0 ≤ P.plc j ∧ bitB m (P.plc j).toNat = false) := fun q => c_92 (q1.trans (q5.mpr q.1))
          obtain ⟨S9, hS9, hRA⟩ : ∃ S9 : QR, S9 = (0, P.res, P.cap, P.quo, P.wei, P.req, P.grp, (updf P.acc j m), st, pls, P.mov, P.pl, P.ml, 0, lr, lp, fr, tr, pr, pp) ∧ RR (pAccept P j m) (l.1, l.2.1, 0) S9 := ⟨_, rfl, by rw [show pAccept P j m = pMask P j m from if_neg hng]; exact RR_acc1 hRR⟩
          refine jw_eqw (wR G ad S9) (by subst hS9; rfl) ?_
          have hS0 : S9.thr = 0 := by rw [hS9]
          
          refine jw_aload_0 (pc := 116) C dX6_setAccepts_116 ?_
          refine jw_V_I (pc := 117) C (c_X6_run G ad (pAccept P j m) (l.1, l.2.1, 0) S9 (PI_accept hI (by omega)) hRA rfl) wd_X6_run kml_X6_119 0 rfl rfl rfl rfl (Nat.le_of_ble_eq_true rfl) ⟨by decide, by decide⟩ ⟨Nat.zero_le _, Nat.zero_le _⟩ dX6_setAccepts_117 rfl (fun z9 u9 h9 => ?_)
          obtain ⟨b1, b2, b3⟩ := h9
          replace b1 : z9 = iI (rn (pAccept P j m) l).2.2 := b1
          replace b2 : RR (rn (pAccept P j m) l).1 (rn (pAccept P j m) l).2.1 u9 := b2
          subst b1
          have hrn := rn_ok (l := l) (P := (pAccept P j m)) (PI_accept hI (by omega)) (PFe_accept hI hF hmo)
          have hq9 : (rn (pAccept P j m) l).1.req = P.req := hrn.2.1.2.2.2.2.1.trans (acc_req P j m)
          have hs9 : u9.st j = stN ((rn (pAccept P j m) l).1.plc j) := b2.2.2.2.2.2.2.2.2.2.2.1 j (by omega)
          have q7 := stN_rng ((rn (pAccept P j m) l).1.plc j)
          have q8 := @stN_1 ((rn (pAccept P j m) l).1.plc j)
          refine jw_if_lt (pc := 120) (tgt := 137) C dX6_setAccepts_120 (by decide) ⟨by omega, by omega⟩ (fun c_120 => ?_) (fun c_120 => ?_)
          · exact absurd hrn.2.2.1 (by omega)
          · refine jw_aload_0 (pc := 123) C dX6_setAccepts_123 ?_
            refine fg_X6_25 (pc := 124) C 0 rfl rfl dX6_setAccepts_124 ?_
            refine jw_iload_1 (pc := 127) C dX6_setAccepts_127 ?_
            refine jw_iald (pc := 128) C 6 rfl j rfl (by omega) (by decide) dX6_setAccepts_128 ?_
            refine jw_iconst (pc := 129) C dX6_setAccepts_129 ?_
            refine jw_icmp_ne (pc := 130) (tgt := 137) C dX6_setAccepts_130 (by decide) ⟨by omega, by omega⟩ ⟨by omega, by omega⟩ (fun c_130 => ?_) (fun c_130 => ?_)
            · have hz9 : decide (0 ≤ (rn (pAccept P j m) l).1.plc j) = false := decide_eq_false (fun q => c_130 (hs9.trans (q8.mpr q)))
              refine jw_iconst (pc := 137) C dX6_setAccepts_137 ?_
              first | exact hret _ _ true u9 dX6_setAccepts_138 (Or.inl ⟨hok.1, hok.2, hp, hmo, b3.trans hS0, hz9.symm, b2⟩) | exact hret _ _ false u9 dX6_setAccepts_138 (Or.inl ⟨hok.1, hok.2, hp, hmo, b3.trans hS0, hz9.symm, b2⟩)
            · have hz9 : decide (0 ≤ (rn (pAccept P j m) l).1.plc j) = true := decide_eq_true (q8.mp (hs9.symm.trans c_130))
              refine jw_iconst (pc := 133) C dX6_setAccepts_133 ?_
              refine jw_goto (pc := 134) (tgt := 138) C dX6_setAccepts_134 (by decide) ?_
              first | exact hret _ _ true u9 dX6_setAccepts_138 (Or.inl ⟨hok.1, hok.2, hp, hmo, b3.trans hS0, hz9.symm, b2⟩) | exact hret _ _ false u9 dX6_setAccepts_138 (Or.inl ⟨hok.1, hok.2, hp, hmo, b3.trans hS0, hz9.symm, b2⟩)
        · have hge : 0 ≤ P.plc j := q5.mp (q1.symm.trans c_92)
          refine jw_aload_0 (pc := 95) C dX6_setAccepts_95 ?_
          refine jw_iload_1 (pc := 96) C dX6_setAccepts_96 ?_
          refine jw_aload_0 (pc := 97) C dX6_setAccepts_97 ?_
          refine fg_X6_28 (pc := 98) C 0 rfl rfl dX6_setAccepts_98 ?_
          refine jw_iload_1 (pc := 101) C dX6_setAccepts_101 ?_
          refine jw_iald (pc := 102) C 7 rfl j rfl (by omega) (by decide) dX6_setAccepts_102 ?_
          rw [show iI (pls j) = iI (((P.plc j).toNat : Nat) : Int) from by rw [Int.toNat_of_nonneg hge, q6 hge]]
          refine jw_V_Z (pc := 103) C (c_X6_accepts G ad (pMask P j m) (l.1, l.2.1, 0) (0, P.res, P.cap, P.quo, P.wei, P.req, P.grp, (updf P.acc j m), st, pls, P.mov, P.pl, P.ml, 0, lr, lp, fr, tr, pr, pp) (PI_mask hI) (RR_acc1 hRR) j (P.plc j).toNat (by omega) (by omega)) wd_X6_accepts kml_X6_83 0 rfl rfl rfl rfl (Nat.le_of_ble_eq_true rfl) ⟨by decide, by decide⟩ ⟨Nat.zero_le _, Nat.zero_le _⟩ dX6_setAccepts_103 rfl (fun z u h => ?_)
          replace h : z = bt (updf P.acc j m j) (P.plc j).toNat := h
          rw [updf_same] at h
          refine jw_eqw (wR9 G ad 0 P.res P.cap P.quo P.wei P.req P.grp (updf P.acc j m) st pls P.mov P.pl P.ml 0 lr lp fr tr pr pp) rfl ?_
          refine jw_if_ne_b (pc := 106) (tgt := 116) C dX6_setAccepts_106 (by decide) (fun c_106 => ?_) (fun c_106 => ?_)
          · have hng : ¬ (0 ≤ P.plc j ∧ bitB m (P.plc j).toNat = false) := fun q => by
              have w := q.2
              rw [bitB_bt m (by omega), ← h, c_106] at w
              cases w
            obtain ⟨S9, hS9, hRA⟩ : ∃ S9 : QR, S9 = (0, P.res, P.cap, P.quo, P.wei, P.req, P.grp, (updf P.acc j m), st, pls, P.mov, P.pl, P.ml, 0, lr, lp, fr, tr, pr, pp) ∧ RR (pAccept P j m) (l.1, l.2.1, 0) S9 := ⟨_, rfl, by rw [show pAccept P j m = pMask P j m from if_neg hng]; exact RR_acc1 hRR⟩
            refine jw_eqw (wR G ad S9) (by subst hS9; rfl) ?_
            have hS0 : S9.thr = 0 := by rw [hS9]
            
            refine jw_aload_0 (pc := 116) C dX6_setAccepts_116 ?_
            refine jw_V_I (pc := 117) C (c_X6_run G ad (pAccept P j m) (l.1, l.2.1, 0) S9 (PI_accept hI (by omega)) hRA rfl) wd_X6_run kml_X6_119 0 rfl rfl rfl rfl (Nat.le_of_ble_eq_true rfl) ⟨by decide, by decide⟩ ⟨Nat.zero_le _, Nat.zero_le _⟩ dX6_setAccepts_117 rfl (fun z9 u9 h9 => ?_)
            obtain ⟨b1, b2, b3⟩ := h9
            replace b1 : z9 = iI (rn (pAccept P j m) l).2.2 := b1
            replace b2 : RR (rn (pAccept P j m) l).1 (rn (pAccept P j m) l).2.1 u9 := b2
            subst b1
            have hrn := rn_ok (l := l) (P := (pAccept P j m)) (PI_accept hI (by omega)) (PFe_accept hI hF hmo)
            have hq9 : (rn (pAccept P j m) l).1.req = P.req := hrn.2.1.2.2.2.2.1.trans (acc_req P j m)
            have hs9 : u9.st j = stN ((rn (pAccept P j m) l).1.plc j) := b2.2.2.2.2.2.2.2.2.2.2.1 j (by omega)
            have q7 := stN_rng ((rn (pAccept P j m) l).1.plc j)
            have q8 := @stN_1 ((rn (pAccept P j m) l).1.plc j)
            refine jw_if_lt (pc := 120) (tgt := 137) C dX6_setAccepts_120 (by decide) ⟨by omega, by omega⟩ (fun c_120 => ?_) (fun c_120 => ?_)
            · exact absurd hrn.2.2.1 (by omega)
            · refine jw_aload_0 (pc := 123) C dX6_setAccepts_123 ?_
              refine fg_X6_25 (pc := 124) C 0 rfl rfl dX6_setAccepts_124 ?_
              refine jw_iload_1 (pc := 127) C dX6_setAccepts_127 ?_
              refine jw_iald (pc := 128) C 6 rfl j rfl (by omega) (by decide) dX6_setAccepts_128 ?_
              refine jw_iconst (pc := 129) C dX6_setAccepts_129 ?_
              refine jw_icmp_ne (pc := 130) (tgt := 137) C dX6_setAccepts_130 (by decide) ⟨by omega, by omega⟩ ⟨by omega, by omega⟩ (fun c_130 => ?_) (fun c_130 => ?_)
              · have hz9 : decide (0 ≤ (rn (pAccept P j m) l).1.plc j) = false := decide_eq_false (fun q => c_130 (hs9.trans (q8.mpr q)))
                refine jw_iconst (pc := 137) C dX6_setAccepts_137 ?_
                first | exact hret _ _ true u9 dX6_setAccepts_138 (Or.inl ⟨hok.1, hok.2, hp, hmo, b3.trans hS0, hz9.symm, b2⟩) | exact hret _ _ false u9 dX6_setAccepts_138 (Or.inl ⟨hok.1, hok.2, hp, hmo, b3.trans hS0, hz9.symm, b2⟩)
              · have hz9 : decide (0 ≤ (rn (pAccept P j m) l).1.plc j) = true := decide_eq_true (q8.mp (hs9.symm.trans c_130))
                refine jw_iconst (pc := 133) C dX6_setAccepts_133 ?_
                refine jw_goto (pc := 134) (tgt := 138) C dX6_setAccepts_134 (by decide) ?_
                first | exact hret _ _ true u9 dX6_setAccepts_138 (Or.inl ⟨hok.1, hok.2, hp, hmo, b3.trans hS0, hz9.symm, b2⟩) | exact hret _ _ false u9 dX6_setAccepts_138 (Or.inl ⟨hok.1, hok.2, hp, hmo, b3.trans hS0, hz9.symm, b2⟩)
          · refine jw_aload_0 (pc := 109) C dX6_setAccepts_109 ?_
            refine fg_X6_25 (pc := 110) C 0 rfl rfl dX6_setAccepts_110 ?_
            refine jw_iload_1 (pc := 113) C dX6_setAccepts_113 ?_
            refine jw_iconst (pc := 114) C dX6_setAccepts_114 ?_
            refine jw_iast (pc := 115) C 6 rfl j rfl (by omega) (by decide) dX6_setAccepts_115 ?_
            have hyes : 0 ≤ P.plc j ∧ bitB m (P.plc j).toNat = false := ⟨hge, by rw [bitB_bt m (by omega), ← h]; exact c_106⟩
            obtain ⟨S9, hS9, hRA⟩ : ∃ S9 : QR, S9 = (0, P.res, P.cap, P.quo, P.wei, P.req, P.grp, (updf P.acc j m), (updf st j 0), pls, P.mov, P.pl, P.ml, 0, lr, lp, fr, tr, pr, pp) ∧ RR (pAccept P j m) (l.1, l.2.1, 0) S9 := ⟨_, rfl, by rw [show pAccept P j m = pPut (pMask P j m) j from if_pos hyes]; exact RR_put (RR_acc1 hRR) hge⟩
            refine jw_eqw (wR G ad S9) (by subst hS9; rfl) ?_
            have hS0 : S9.thr = 0 := by rw [hS9]
            
            refine jw_aload_0 (pc := 116) C dX6_setAccepts_116 ?_
            refine jw_V_I (pc := 117) C (c_X6_run G ad (pAccept P j m) (l.1, l.2.1, 0) S9 (PI_accept hI (by omega)) hRA rfl) wd_X6_run kml_X6_119 0 rfl rfl rfl rfl (Nat.le_of_ble_eq_true rfl) ⟨by decide, by decide⟩ ⟨Nat.zero_le _, Nat.zero_le _⟩ dX6_setAccepts_117 rfl (fun z9 u9 h9 => ?_)
            obtain ⟨b1, b2, b3⟩ := h9
            replace b1 : z9 = iI (rn (pAccept P j m) l).2.2 := b1
            replace b2 : RR (rn (pAccept P j m) l).1 (rn (pAccept P j m) l).2.1 u9 := b2
            subst b1
            have hrn := rn_ok (l := l) (P := (pAccept P j m)) (PI_accept hI (by omega)) (PFe_accept hI hF hmo)
            have hq9 : (rn (pAccept P j m) l).1.req = P.req := hrn.2.1.2.2.2.2.1.trans (acc_req P j m)
            have hs9 : u9.st j = stN ((rn (pAccept P j m) l).1.plc j) := b2.2.2.2.2.2.2.2.2.2.2.1 j (by omega)
            have q7 := stN_rng ((rn (pAccept P j m) l).1.plc j)
            have q8 := @stN_1 ((rn (pAccept P j m) l).1.plc j)
            refine jw_if_lt (pc := 120) (tgt := 137) C dX6_setAccepts_120 (by decide) ⟨by omega, by omega⟩ (fun c_120 => ?_) (fun c_120 => ?_)
            · exact absurd hrn.2.2.1 (by omega)
            · refine jw_aload_0 (pc := 123) C dX6_setAccepts_123 ?_
              refine fg_X6_25 (pc := 124) C 0 rfl rfl dX6_setAccepts_124 ?_
              refine jw_iload_1 (pc := 127) C dX6_setAccepts_127 ?_
              refine jw_iald (pc := 128) C 6 rfl j rfl (by omega) (by decide) dX6_setAccepts_128 ?_
              refine jw_iconst (pc := 129) C dX6_setAccepts_129 ?_
              refine jw_icmp_ne (pc := 130) (tgt := 137) C dX6_setAccepts_130 (by decide) ⟨by omega, by omega⟩ ⟨by omega, by omega⟩ (fun c_130 => ?_) (fun c_130 => ?_)
              · have hz9 : decide (0 ≤ (rn (pAccept P j m) l).1.plc j) = false := decide_eq_false (fun q => c_130 (hs9.trans (q8.mpr q)))
                refine jw_iconst (pc := 137) C dX6_setAccepts_137 ?_
                first | exact hret _ _ true u9 dX6_setAccepts_138 (Or.inl ⟨hok.1, hok.2, hp, hmo, b3.trans hS0, hz9.symm, b2⟩) | exact hret _ _ false u9 dX6_setAccepts_138 (Or.inl ⟨hok.1, hok.2, hp, hmo, b3.trans hS0, hz9.symm, b2⟩)
              · have hz9 : decide (0 ≤ (rn (pAccept P j m) l).1.plc j) = true := decide_eq_true (q8.mp (hs9.symm.trans c_130))
                refine jw_iconst (pc := 133) C dX6_setAccepts_133 ?_
                refine jw_goto (pc := 134) (tgt := 138) C dX6_setAccepts_134 (by decide) ?_
                first | exact hret _ _ true u9 dX6_setAccepts_138 (Or.inl ⟨hok.1, hok.2, hp, hmo, b3.trans hS0, hz9.symm, b2⟩) | exact hret _ _ false u9 dX6_setAccepts_138 (Or.inl ⟨hok.1, hok.2, hp, hmo, b3.trans hS0, hz9.symm, b2⟩)
      · have hmn : ¬ mOK P m := fun q => by rw [hmk.mpr q] at c_56; cases c_56
        refine jw_aload_0 (pc := 59) C dX6_setAccepts_59 ?_
        refine jw_iconst (pc := 60) C dX6_setAccepts_60 ?_
        refine jw_V_I (pc := 61) C (c_X6_fail G ad (0, P.res, P.cap, P.quo, P.wei, P.req, P.grp, P.acc, st, pls, P.mov, P.pl, P.ml, lgd, lr, lp, fr, tr, pr, pp) 3) wd_X6_fail kml_X6_116 0 rfl rfl rfl rfl (Nat.le_of_ble_eq_true rfl) ⟨by decide, by decide⟩ ⟨Nat.zero_le _, Nat.zero_le _⟩ dX6_setAccepts_61 rfl (fun zf uf hf => ?_)
        obtain ⟨ef, eg⟩ := hf
        subst ef
        subst eg
        refine jw_if_eq (pc := 64) (tgt := 71) C dX6_setAccepts_64 (by decide) ⟨by omega, by omega⟩ (fun c_64 => ?_) (fun c_64 => ?_)
        · refine jw_iconst (pc := 71) C dX6_setAccepts_71 ?_
          exact hret _ _ false (3, P.res, P.cap, P.quo, P.wei, P.req, P.grp, P.acc, st, pls, P.mov, P.pl, P.ml, lgd, lr, lp, fr, tr, pr, pp) dX6_setAccepts_72 (Or.inr (Or.inl ⟨hok.1, hok.2, hp, hmn, rfl, rfl⟩))
        · exact absurd rfl c_64
    · have hp : P.plc j = -2 := q3.mp (q1.symm.trans c_34)
      refine jw_aload_0 (pc := 37) C dX6_setAccepts_37 ?_
      refine jw_iconst (pc := 38) C dX6_setAccepts_38 ?_
      refine jw_V_I (pc := 39) C (c_X6_fail G ad (0, P.res, P.cap, P.quo, P.wei, P.req, P.grp, P.acc, st, pls, P.mov, P.pl, P.ml, lgd, lr, lp, fr, tr, pr, pp) 2) wd_X6_fail kml_X6_116 0 rfl rfl rfl rfl (Nat.le_of_ble_eq_true rfl) ⟨by decide, by decide⟩ ⟨Nat.zero_le _, Nat.zero_le _⟩ dX6_setAccepts_39 rfl (fun zf uf hf => ?_)
      obtain ⟨ef, eg⟩ := hf
      subst ef
      subst eg
      refine jw_if_eq (pc := 42) (tgt := 49) C dX6_setAccepts_42 (by decide) ⟨by omega, by omega⟩ (fun c_42 => ?_) (fun c_42 => ?_)
      · refine jw_iconst (pc := 49) C dX6_setAccepts_49 ?_
        exact hret _ _ false (2, P.res, P.cap, P.quo, P.wei, P.req, P.grp, P.acc, st, pls, P.mov, P.pl, P.ml, lgd, lr, lp, fr, tr, pr, pp) dX6_setAccepts_50 (Or.inr (Or.inr (Or.inl ⟨hok.1, hok.2, hp, rfl, rfl⟩)))
      · exact absurd rfl c_42
  · have hno := of_decide_eq_false c_10
    refine jw_aload_0 (pc := 13) C dX6_setAccepts_13 ?_
    refine jw_iconst (pc := 14) C dX6_setAccepts_14 ?_
    refine jw_V_I (pc := 15) C (c_X6_fail G ad (0, P.res, P.cap, P.quo, P.wei, P.req, P.grp, P.acc, st, pls, P.mov, P.pl, P.ml, lgd, lr, lp, fr, tr, pr, pp) 1) wd_X6_fail kml_X6_116 0 rfl rfl rfl rfl (Nat.le_of_ble_eq_true rfl) ⟨by decide, by decide⟩ ⟨Nat.zero_le _, Nat.zero_le _⟩ dX6_setAccepts_15 rfl (fun zf uf hf => ?_)
    obtain ⟨ef, eg⟩ := hf
    subst ef
    subst eg
    refine jw_if_eq (pc := 18) (tgt := 25) C dX6_setAccepts_18 (by decide) ⟨by omega, by omega⟩ (fun c_18 => ?_) (fun c_18 => ?_)
    · refine jw_iconst (pc := 25) C dX6_setAccepts_25 ?_
      exact hret _ _ false (1, P.res, P.cap, P.quo, P.wei, P.req, P.grp, P.acc, st, pls, P.mov, P.pl, P.ml, lgd, lr, lp, fr, tr, pr, pp) dX6_setAccepts_26 (Or.inr (Or.inr (Or.inr ⟨hno, rfl, rfl⟩)))
    · exact absurd rfl c_18
