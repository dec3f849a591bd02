/-! A REQUEST ARRIVES; THE LAW'S LOOP -/
set_option maxRecDepth 100000 in
set_option maxHeartbeats 4000000 in
theorem lw_arr {G : jG} {X : JX} {ad q : Nat → Nat} {b : Nat} {pl ml : Int} {mn j mk k1 n1 k n : Nat} {cw : Int32} (C : JC G X room_1 cL_law RL 28) (hk1 : k1 ≤ 1000 ∧ n1 ≤ 10000) (P : QP) (l : QL) (A : QA) (T : Nat → Bool) (F : QF) (f u lg : Nat → Int) (hV : HV P l f) (hpl : P.pl = pl) (hml : P.ml = ml) (hmn : P.req = (mn : Int)) (hj : mn ≤ j) (hj14 : j < 14) (hmk : mk < 16) (hk : k + 1 ≤ k1 ∧ n + 4 ≤ n1) (kk : KH G X ad q b pl ml (j + 1) k1 n1) : JW G X k n (wP G q f P u lg ++ wC G ad P l A T F) 249 [some (.ref b), some (.ref (ad 0)), some (.int (iI 4)), some (.int (iI pl)), some (.int (iI ml)), some (.ref (q 0)), some (.ref (q 6)), some (.ref (q 7)), some (.ref (q 2)), some (.ref (q 8)), some (.ref (q 4)), some (.ref (q 1)), some (.ref (q 3)), some (.ref (q 5)), some (.int (iI (mn : Int))), some (.int (iI (j : Int))), some (.int cw), none, some (.int (iI (mk : Int))), some (.int (iI ((0 : Nat) : Int))), none, none, none, none, none, none, none, none] [] := by
  obtain ⟨⟨hI, hFe, hs0, hs1⟩, hC, hA⟩ := id hV
  have hreq := hI.req
  have hplr := hI.pl
  have hpl3 := hC.2.2.2.2.1
  have hres := hC.1
  refine jw_aload_8 (pc := 249) C dL_law_249 ?_
  refine jw_iload_14 (pc := 251) C dL_law_251 ?_
  refine jw_iload_18 (pc := 253) C dL_law_253 ?_
  refine jw_iast_r (pc := 255) C 2 rfl mn rfl (by omega) (by decide) dL_law_255 ?_
  refine jw_aload_9 (pc := 256) C dL_law_256 ?_
  refine jw_iload_14 (pc := 258) C dL_law_258 ?_
  refine jw_iload_16 (pc := 260) C dL_law_260 ?_
  refine jw_bipush (pc := 262) C dL_law_262 (by decide) ?_
  refine jw_ishr (pc := 264) C dL_law_264 ?_
  refine jw_iconst (pc := 265) C dL_law_265 ?_
  refine jw_S0_I (pc := 266) C (c_L_below G (cw >>> (iI 12 &&& 31)) 4 (by decide) (by decide)) ws_L_below kml_L_45 rfl rfl (Nat.le_of_ble_eq_true rfl) ⟨by decide, by decide⟩ (rmk ⟨by omega, by omega⟩) dL_law_266 rfl (fun z u9 h => ?_)
  obtain ⟨g, hg, rfl⟩ := h
  refine jw_iast (pc := 269) C 8 rfl mn rfl (by omega) (by decide) dL_law_269 ?_
  refine jw_aload_10 (pc := 270) C dL_law_270 ?_
  refine jw_iload_14 (pc := 272) C dL_law_272 ?_
  refine jw_iconst (pc := 274) C dL_law_274 ?_
  refine jw_iast (pc := 275) C 4 rfl mn rfl (by omega) (by decide) dL_law_275 ?_
  obtain ⟨Q, hQ⟩ : ∃ Q : QP, Q = pAdmit P (g : Int) (iI (mk : Int)) := ⟨_, rfl⟩
  have eT : P.req.toNat = mn := by omega
  have hQ1 : Q.acc = updf P.acc mn (iI (mk : Int)) := by rw [hQ]; show updf P.acc P.req.toNat _ = _; rw [eT]
  have hQ2 : Q.grp = updf P.grp mn (g : Int) := by rw [hQ]; show updf P.grp P.req.toNat _ = _; rw [eT]
  have hQ3 : Q.plc = updf P.plc mn (-1) := by rw [hQ]; show updf P.plc P.req.toNat _ = _; rw [eT]
  have hQ4 : Q.mov = P.mov := by rw [hQ] <;> rfl
  have hQ5 : Q.wei = P.wei := by rw [hQ] <;> rfl
  have hQ6 : Q.asg = P.asg := by rw [hQ] <;> rfl
  have hQ7 : Q.req = P.req + 1 := by rw [hQ] <;> rfl
  have hQ8 : Q.pl = P.pl := by rw [hQ] <;> rfl
  have hQ9 : Q.ml = P.ml := by rw [hQ] <;> rfl
  have hIQ : PI Q := by rw [hQ]; exact PI_admit hI (by omega) ⟨by omega, by omega⟩
  have hFQ : PFe Q := by rw [hQ]; exact PFe_admit hI hFe (mOK16 hC hmk)
  have hAQ : AtR Q f := by rw [hQ]; exact AtR_admit hI hA
  have hCQ : LC Q := LC_of hC (by rw [hQ] <;> rfl) (by rw [hQ] <;> rfl) (by rw [hQ] <;> rfl) (by omega) hQ8 hQ9
  have hVQ : HV Q (l.1, l.2.1, 0) f := ⟨⟨hIQ, hFQ, Int.le_refl 0, by show (0 : Int) ≤ 200; omega⟩, hCQ, hAQ⟩
  have hqQ : (mn : Int) < Q.req := by omega
  have hwQ : Q.plc mn = -1 := by rw [hQ3, updf_same]
  have haQ : Q.acc mn = iI (mk : Int) := by rw [hQ1, updf_same]
  have hgQ : Q.grp mn = (g : Int) := by rw [hQ2, updf_same]
  have hgr := hIQ.grp mn
  have hplq := hIQ.pl
  have hpl3q := hCQ.2.2.2.2.1
  have J339 : ∀ (P2 : QP) (l2 : QL) (f2 u2 lg2 : Nat → Int) (n2 k2 m2 : Nat), (tryS Q (l.1, l.2.1, 0) mn).2.1 = P2 → (tryS Q (l.1, l.2.1, 0) mn).2.2 = l2 → AtR P2 f2 → LG l2 lg2 n2 → n2 ≤ 8 → k2 ≤ k1 → m2 ≤ n1 → JW G X k2 m2 (wA G q f2 P2.mov P2.acc u2 P2.plc lg2 P2.wei P2.asg P2.grp ++ wC G ad P l A T F) 339 [some (.ref b), some (.ref (ad 0)), some (.int (iI 4)), some (.int (iI pl)), some (.int (iI ml)), some (.ref (q 0)), some (.ref (q 6)), some (.ref (q 7)), some (.ref (q 2)), some (.ref (q 8)), some (.ref (q 4)), some (.ref (q 1)), some (.ref (q 3)), some (.ref (q 5)), some (.int (iI (mn : Int))), some (.int (iI (j : Int))), none, none, some (.int (iI (mk : Int))), some (.int (iI (n2 : Int))), none, none, none, none, none, none, none, none] [] := by
    intro P2 l2 f2 u2 lg2 n2 k2 m2 hP2 hl2 hA2 hG2 hn8 hk2 hn2
    have hsm := tryS_same Q (l.1, l.2.1, 0) mn
    rw [hP2] at hsm
    have hg2 : P2.grp mn = (g : Int) := by rw [hsm.2.2.2.2.2.1]; exact hgQ
    have hpl2 : P2.pl = P.pl := hsm.2.2.2.2.2.2.2.1.trans hQ8
    have hml2 : P2.ml = P.ml := hsm.2.2.2.2.2.2.2.2.trans hQ9
    have hreq2 : P2.req = P.req + 1 := hsm.2.2.2.2.1.trans hQ7
    have hV2 : HV P2 l2 f2 := by
      have h9 := HV_try (f2 := f2) (n0 := n2) (lg := lg2) hVQ hqQ hwQ (by rw [hP2]; exact hA2) (by rw [hl2]; exact hG2) (by omega)
      rw [hP2, hl2] at h9
      exact h9
    refine jw_aload_1 (pc := 339) C dL_law_339 ?_
    refine jw_aload_9 (pc := 340) C dL_law_340 ?_
    refine jw_iload_14 (pc := 342) C dL_law_342 ?_
    refine jw_iald (pc := 344) C 8 rfl mn rfl (by omega) (by decide) dL_law_344 ?_
    rw [hg2]
    refine jw_iload_18 (pc := 345) C dL_law_345 ?_
    refine jw_sV_I (pc := 347) (wr := wA G q f2 P2.mov P2.acc u2 P2.plc lg2 P2.wei P2.asg P2.grp) C (c_X5_arrive G ad P l A T F hI hFe g (by omega) (iI (mk : Int)) (mOK16 hC hmk) (by omega)) wd_X5_arrive kml_L_67 9 rfl rfl ((List.range 30).map (· + 9)) (List.range 9) rfl rfl rfl rfl (by decide) rfl rfl (Nat.le_of_ble_eq_true rfl) ⟨by decide, by decide⟩ (rmk ⟨by omega, by omega⟩) dL_law_347 rfl (fun z u9 h => ?_)
    obtain ⟨rfl, hu1, hu2⟩ := h
    rw [← hQ, eT, hP2] at hu1
    rw [← hQ, eT, hl2] at hu2
    rw [hu1, hu2]
    refine jw_iload_14 (pc := 350) C dL_law_350 ?_
    refine jw_icmp_eq (pc := 352) (tgt := 357) C dL_law_352 (by decide) ⟨by omega, by omega⟩ ⟨by omega, by omega⟩ (fun c_352 => ?_) (fun c_352 => ?_)
    · refine jw_iinc_14 (pc := 357) C dL_law_357 rfl ?_
      refine jw_goto (pc := 360) (tgt := 731) C dL_law_360 (by decide) ?_
      exact jw_less (lw_same (mn := mn + 1) C ⟨hk2, hn2⟩ hk1 P2 l2 u9.2.2 T F f2 u2 lg2 hV2 (hpl2.trans hpl) (hml2.trans hml) (by rw [hreq2, hmn] <;> rfl) (by omega) hG2 (by omega) kk) (by repeat (first | exact trivial | refine And.intro rfl ?_))
    · exact absurd hmn c_352
  refine jw_eqw (wA G q f Q.mov Q.acc u Q.plc lg Q.wei Q.asg Q.grp ++ wC G ad P l A T F) (by rw [hQ1, hQ2, hQ3, hQ4, hQ5, hQ6] <;> rfl) ?_
  refine jw_iload_2 (pc := 276) C dL_law_276 ?_
  refine jw_iload_18 (pc := 277) C dL_law_277 ?_
  refine jw_aload_5 (pc := 279) C dL_law_279 ?_
  refine jw_aload_11 (pc := 281) C dL_law_281 ?_
  refine jw_iload_4 (pc := 283) C dL_law_283 ?_
  refine jw_aload_8 (pc := 285) C dL_law_285 ?_
  refine jw_aload_12 (pc := 287) C dL_law_287 ?_
  refine jw_sS_I (pc := 289) (wr := [jAI G (q 4) 16 (jiI Q.plc), jAI G (q 5) 200 (jiI lg), jAI G (q 6) 4 (jiI Q.wei), jAI G (q 7) 4 (jiI Q.asg), jAI G (q 8) 16 (jiI Q.grp)] ++ wC G ad P l A T F) C (c_bp G (q 0) (q 1) (q 2) (q 3) Q f u (iI (mk : Int)) hIQ hAQ hCQ mn hqQ hwQ haQ ml (hQ9.trans hml)) ws_L_bestPath kml_L_59 [0, 1, 2, 3] ([4, 5, 6, 7, 8] ++ (List.range 30).map (· + 9)) rfl rfl rfl rfl (by decide) rfl rfl (Nat.le_of_ble_eq_true rfl) ⟨by decide, by decide⟩ (rmk ⟨by omega, by omega⟩) dL_law_289 rfl (fun z u9 h => ?_)
  refine jw_sub (w2 := wA G q f Q.mov Q.acc u9 Q.plc lg Q.wei Q.asg Q.grp ++ wC G ad P l A T F) ([35, 36, 37, 38] ++ List.range 35) rfl rfl ?_
  rcases h with ⟨rfl, hmin⟩ | ⟨L, p, hL1, hL2, rfl, hmin, hok, hpp, hu9⟩
  · have hno : tryS Q (l.1, l.2.1, 0) mn = (false, Q, (l.1, l.2.1, 0)) := try_no (by rw [haQ]; omega)
    refine jw_istore_21 (pc := 292) C dL_law_292 rfl ?_
    refine jw_iload_21 (pc := 294) C dL_law_294 ?_
    refine jw_if_le (pc := 296) (tgt := 339) C dL_law_296 (by decide) ⟨by omega, by omega⟩ (fun c_296 => ?_) (fun c_296 => ?_)
    · exact jw_less (J339 Q (l.1, l.2.1, 0) f u9 lg 0 k n (by rw [hno]) (by rw [hno]) hAQ (LG_0 l lg) (by omega) (by omega) (by omega)) (by repeat (first | exact trivial | refine And.intro rfl ?_))
    · exact absurd (by decide) c_296
  · refine jw_istore_21 (pc := 292) C dL_law_292 rfl ?_
    refine jw_iload_21 (pc := 294) C dL_law_294 ?_
    refine jw_if_le (pc := 296) (tgt := 339) C dL_law_296 (by decide) ⟨by omega, by omega⟩ (fun c_296 => ?_) (fun c_296 => ?_)
    · exact absurd c_296 (by omega)
    · refine jw_iload_21 (pc := 299) C dL_law_299 ?_
      refine jw_iconst (pc := 301) C dL_law_301 ?_
      refine jw_isub (pc := 302) C dL_law_302 ?_
      refine jw_iload_3 (pc := 303) C dL_law_303 ?_
      refine jw_icmp_gt (pc := 304) (tgt := 339) C dL_law_304 (by decide) ⟨by omega, by omega⟩ ⟨by omega, by omega⟩ (fun c_304 => ?_) (fun c_304 => ?_)
      · have hno : tryS Q (l.1, l.2.1, 0) mn = (false, Q, (l.1, l.2.1, 0)) := try_no (by rw [haQ]; omega)
        exact jw_less (J339 Q (l.1, l.2.1, 0) f u9 lg 0 k n (by rw [hno]) (by rw [hno]) hAQ (LG_0 l lg) (by omega) (by omega) (by omega)) (by repeat (first | exact trivial | refine And.intro rfl ?_))
      · refine jw_iload_14 (pc := 307) C dL_law_307 ?_
        refine jw_iload_21 (pc := 309) C dL_law_309 ?_
        refine jw_aload_12 (pc := 311) C dL_law_311 ?_
        refine jw_aload_5 (pc := 313) C dL_law_313 ?_
        refine jw_aload_10 (pc := 315) C dL_law_315 ?_
        refine jw_aload_11 (pc := 317) C dL_law_317 ?_
        refine jw_aload_13 (pc := 319) C dL_law_319 ?_
        refine jw_iconst (pc := 321) C dL_law_321 ?_
        refine jw_sSm_I (pc := 322) (wr := [jAI G (q 2) 16 Q.acc, jAI G (q 6) 4 (jiI Q.wei), jAI G (q 7) 4 (jiI Q.asg), jAI G (q 8) 16 (jiI Q.grp)] ++ wC G ad P l A T F) C (c_L_place G (q 0) (q 4) (q 1) (q 3) (q 5) Q f u9 lg p mn L 0 ⟨hL1, hL2⟩ (by omega) (by omega) hu9 hok.1 (okP_ft hAQ hCQ hok)) ws_L_place kml_L_63 [0, 4, 1, 3, 5] ([2, 6, 7, 8] ++ (List.range 30).map (· + 9)) rfl rfl rfl rfl (by decide) rfl rfl (Nat.le_of_ble_eq_true rfl) ⟨by decide, by decide⟩ (rmk2 ⟨by omega, by omega⟩) dL_law_322 rfl (fun z u7 h => ?_)
        subst h
        refine jw_sub (w2 := (wA G q (updf (lpA f p (L - 1)) (p 0) (mn : Int)) (lpM Q.mov f p (L - 1)) Q.acc u9 (updf (lpW Q.plc f p (L - 1)) mn (p 0 : Int)) (lpG lg f p 0 (L - 1)) Q.wei Q.asg Q.grp ++ wC G ad P l A T F)) ([34, 36, 0, 37, 35, 38, 1, 2, 3] ++ (List.range 30).map (· + 4)) rfl rfl ?_
        refine jw_istore_19 (pc := 325) C dL_law_325 rfl ?_
        refine jw_aload_7 (pc := 327) C dL_law_327 ?_
        refine jw_aload_9 (pc := 329) C dL_law_329 ?_
        refine jw_iload_14 (pc := 331) C dL_law_331 ?_
        refine jw_iald (pc := 333) C 8 rfl mn rfl (by omega) (by decide) dL_law_333 ?_
        refine jw_dup2 (pc := 334) C dL_law_334 rfl rfl ?_
        refine jw_iald (pc := 335) C 7 rfl (Q.grp mn).toNat (by omega) (by omega) (by decide) dL_law_335 ?_
        refine jw_iconst (pc := 336) C dL_law_336 ?_
        refine jw_iadd (pc := 337) C dL_law_337 ?_
        refine jw_iast (pc := 338) C 7 rfl (Q.grp mn).toNat (by omega) (by omega) (by decide) dL_law_338 ?_
        rw [← haQ] at hmin hok hpp
        obtain ⟨y1, y2, y3, y4, y5, y6, y7⟩ := try_yes hIQ hAQ hCQ hqQ hwQ hL1 hL2 hmin hok hpp (by omega) (LG_0 l lg) (by show (0 : Int) + L ≤ 200; omega)
        have K := J339 _ _ (updf (lpA f p (L - 1)) (p 0) (mn : Int)) u9 (lpG lg f p 0 (L - 1)) (0 + 2 * (L - 1)) (k + 1) (n + 4) rfl rfl y7 y6 (by omega) (by omega) (by omega)
        rw [y3, y4, y5, y2.2.2.2.1, y2.2.2.2.2.2.1, y2.2.2.2.2.2.2.1] at K
        exact jw_less K (by repeat (first | exact trivial | refine And.intro rfl ?_))
set_option maxRecDepth 100000 in
set_option maxHeartbeats 4000000 in
theorem law_loop {G : jG} {X : JX} {ad q : Nat → Nat} {b : Nat} {pl ml : Int} {N : Nat} {xs : Nat → Int32} (C : JC G X room_1 cL_law RL 28) (S : JScr X b N xs) (hN : N ≤ 260) (hend : ∀ (k n : Nat) (w : va_W) (L : List (Option Value)), k ≤ 1000 → n ≤ 10000 → JW G X k n w 769 L [.int (iI 1)]) : ∀ (cc j k n : Nat), cc + j = 14 → k + 16 * cc ≤ 1000 → n + 80 * cc ≤ 10000 → KH G X ad q b pl ml j k n := by
  intro cc
  induction cc with
  | zero =>
    intro j k n hc hk hn P l A T F f u lg mn hV hpl hml hmn hj
    have hres := hV.2.1.1
    refine jw_iload_15 (pc := 171) C dL_law_171 ?_
    refine jw_bipush (pc := 173) C dL_law_173 (by decide) ?_
    refine jw_icmp_ge (pc := 175) (tgt := 756) C dL_law_175 (by decide) ⟨by omega, by omega⟩ ⟨by omega, by omega⟩ (fun c_175 => ?_) (fun c_175 => ?_)
    · refine jw_aload_1 (pc := 756) C dL_law_756 ?_
      refine jw_sV_I (pc := 757) (wr := wP G q f P u lg) C (c_X5_resourceCount G ad P l A T F) wd_X5_resourceCount kml_L_81 9 rfl rfl ((List.range 30).map (· + 9)) (List.range 9) rfl rfl rfl rfl (by decide) rfl rfl (Nat.le_of_ble_eq_true rfl) ⟨by decide, by decide⟩ (rmk ⟨by omega, by omega⟩) dL_law_757 rfl (fun z u9 h => ?_)
      subst h
      refine jw_iconst (pc := 760) C dL_law_760 ?_
      refine jw_icmp_ne (pc := 761) (tgt := 768) C dL_law_761 (by decide) ⟨by omega, by omega⟩ ⟨by omega, by omega⟩ (fun c_761 => ?_) (fun c_761 => ?_)
      · exact absurd hres c_761
      · refine jw_iconst (pc := 764) C dL_law_764 ?_
        refine jw_goto (pc := 765) (tgt := 769) C dL_law_765 (by decide) ?_
        exact hend _ _ _ _ (by omega) (by omega)
    · exact absurd c_175 (by omega)
  | succ cc ih =>
    intro j k n hc hk hn P l A T F f u lg mn hV hpl hml hmn hj
    have kk : KH G X ad q b pl ml (j + 1) (k + 16) (n + 80) := ih (j + 1) (k + 16) (n + 80) (by omega) (by omega) (by omega)
    obtain ⟨⟨hI, hFe, hs0, hs1⟩, hC, hA⟩ := id hV
    have hreq := hI.req
    have J363 : ∀ (rr mk : Nat) (cw : Int32), rr < mn → mk < 16 → JW G X k n (wP G q f P u lg ++ wC G ad P l A T F) 363 [some (.ref b), some (.ref (ad 0)), some (.int (iI 4)), some (.int (iI pl)), some (.int (iI ml)), some (.ref (q 0)), some (.ref (q 6)), some (.ref (q 7)), some (.ref (q 2)), some (.ref (q 8)), some (.ref (q 4)), some (.ref (q 1)), some (.ref (q 3)), some (.ref (q 5)), some (.int (iI (mn : Int))), some (.int (iI (j : Int))), some (.int cw), some (.int (iI (rr : Int))), some (.int (iI (mk : Int))), some (.int (iI ((0 : Nat) : Int))), none, none, none, none, none, none, none, none] [] := by
      intro rr mk cw hrr hmk
      refine jw_aload_10 (pc := 363) C dL_law_363 ?_
      refine jw_iload_17 (pc := 365) C dL_law_365 ?_
      refine jw_iald (pc := 367) C 4 rfl rr rfl (by omega) (by decide) dL_law_367 ?_
      have hplr := hI.plc rr
      refine jw_bipush (pc := 368) C dL_law_368 (by decide) ?_
      refine jw_icmp_ne (pc := 370) (tgt := 376) C dL_law_370 (by decide) ⟨by omega, by omega⟩ ⟨by omega, by omega⟩ (fun c_370 => ?_) (fun c_370 => ?_)
      · refine jw_iload_16 (pc := 376) C dL_law_376 ?_
        refine jw_iconst (pc := 378) C dL_law_378 ?_
        refine jw_iand (pc := 379) C dL_law_379 ?_
        refine jw_iconst (pc := 380) C dL_law_380 ?_
        refine jw_icmp_ne_r (pc := 381) (tgt := 388) C dL_law_381 (by decide) (fun c_381 => ?_) (fun c_381 => ?_)
        · refine jw_iconst (pc := 388) C dL_law_388 ?_
          exact jw_less (lw_acc C ⟨by omega, by omega⟩ (by omega) P l A T F f u lg hV hpl hml hmn (by omega) hrr c_370 (mOK16 hC hmk) ⟨by omega, by omega⟩ kk) (by repeat (first | exact trivial | refine And.intro rfl ?_))
        · refine jw_iconst (pc := 384) C dL_law_384 ?_
          refine jw_goto (pc := 385) (tgt := 389) C dL_law_385 (by decide) ?_
          exact jw_less (lw_dep C ⟨by omega, by omega⟩ (by omega) P l A T F f u lg hV hpl hml hmn (by omega) hrr c_370 ⟨by omega, by omega⟩ kk) (by repeat (first | exact trivial | refine And.intro rfl ?_))
      · refine jw_goto (pc := 373) (tgt := 750) C dL_law_373 (by decide) ?_
        refine jw_iinc_15 (pc := 750) C dL_law_750 rfl ?_
        refine jw_goto (pc := 753) (tgt := 171) C dL_law_753 (by decide) ?_
        exact jw_less (jw_widen (by omega) (by omega) (kk P l A T F f u lg mn hV hpl hml hmn (by omega))) (by repeat (first | exact trivial | refine And.intro rfl ?_))
    have J207 : ∀ (rr : Nat) (cw : Int32), (mn = 0 ∨ rr < mn) → JW G X k n (wP G q f P u lg ++ wC G ad P l A T F) 207 [some (.ref b), some (.ref (ad 0)), some (.int (iI 4)), some (.int (iI pl)), some (.int (iI ml)), some (.ref (q 0)), some (.ref (q 6)), some (.ref (q 7)), some (.ref (q 2)), some (.ref (q 8)), some (.ref (q 4)), some (.ref (q 1)), some (.ref (q 3)), some (.ref (q 5)), some (.int (iI (mn : Int))), some (.int (iI (j : Int))), some (.int cw), none, none, none, none, none, none, none, none, none, none, none] [.int (iI (rr : Int))] := by
      intro rr cw hrr
      refine jw_istore_17 (pc := 207) C dL_law_207 rfl ?_
      refine jw_iload_16 (pc := 209) C dL_law_209 ?_
      refine jw_bipush (pc := 211) C dL_law_211 (by decide) ?_
      refine jw_ishr (pc := 213) C dL_law_213 ?_
      refine jw_bipush (pc := 214) C dL_law_214 (by decide) ?_
      refine jw_S0_I (pc := 216) C (c_L_below G (cw >>> (iI 8 &&& 31)) 16 (by decide) (by decide)) ws_L_below kml_L_45 rfl rfl (Nat.le_of_ble_eq_true rfl) ⟨by decide, by decide⟩ (rmk ⟨by omega, by omega⟩) dL_law_216 rfl (fun z u9 h => ?_)
      obtain ⟨mk, hmk, rfl⟩ := h
      refine jw_istore_18 (pc := 219) C dL_law_219 rfl ?_
      refine jw_iconst (pc := 221) C dL_law_221 ?_
      refine jw_istore_19 (pc := 222) C dL_law_222 rfl ?_
      refine jw_iload_16 (pc := 224) C dL_law_224 ?_
      refine jw_iconst (pc := 226) C dL_law_226 ?_
      refine jw_iand (pc := 227) C dL_law_227 ?_
      refine jw_iconst (pc := 228) C dL_law_228 ?_
      refine jw_icmp_le_r (pc := 229) (tgt := 241) C dL_law_229 (by decide) (fun c_229 => ?_) (fun c_229 => ?_)
      · refine jw_iconst (pc := 241) C dL_law_241 ?_
        refine jw_istore_20 (pc := 242) C dL_law_242 rfl ?_
        refine jw_iload_20 (pc := 244) C dL_law_244 ?_
        refine jw_if_ne (pc := 246) (tgt := 363) C dL_law_246 (by decide) ⟨by omega, by omega⟩ (fun c_246 => ?_) (fun c_246 => ?_)
        · first | exact absurd rfl c_246 | exact jw_less (J363 rr mk cw (by omega) hmk) (by repeat (first | exact trivial | refine And.intro rfl ?_))
        · first | exact absurd c_246 (by decide) | exact jw_less (lw_arr (cw := cw) C ⟨by omega, by omega⟩ P l A T F f u lg hV hpl hml hmn hj (by omega) hmk ⟨by omega, by omega⟩ kk) (by repeat (first | exact trivial | refine And.intro rfl ?_))
      · refine jw_iload_14 (pc := 232) C dL_law_232 ?_
        refine jw_if_le (pc := 234) (tgt := 241) C dL_law_234 (by decide) ⟨by omega, by omega⟩ (fun c_234 => ?_) (fun c_234 => ?_)
        · refine jw_iconst (pc := 241) C dL_law_241 ?_
          refine jw_istore_20 (pc := 242) C dL_law_242 rfl ?_
          refine jw_iload_20 (pc := 244) C dL_law_244 ?_
          refine jw_if_ne (pc := 246) (tgt := 363) C dL_law_246 (by decide) ⟨by omega, by omega⟩ (fun c_246 => ?_) (fun c_246 => ?_)
          · first | exact absurd rfl c_246 | exact jw_less (J363 rr mk cw (by omega) hmk) (by repeat (first | exact trivial | refine And.intro rfl ?_))
          · first | exact absurd c_246 (by decide) | exact jw_less (lw_arr (cw := cw) C ⟨by omega, by omega⟩ P l A T F f u lg hV hpl hml hmn hj (by omega) hmk ⟨by omega, by omega⟩ kk) (by repeat (first | exact trivial | refine And.intro rfl ?_))
        · refine jw_iconst (pc := 237) C dL_law_237 ?_
          refine jw_goto (pc := 238) (tgt := 242) C dL_law_238 (by decide) ?_
          refine jw_istore_20 (pc := 242) C dL_law_242 rfl ?_
          refine jw_iload_20 (pc := 244) C dL_law_244 ?_
          refine jw_if_ne (pc := 246) (tgt := 363) C dL_law_246 (by decide) ⟨by omega, by omega⟩ (fun c_246 => ?_) (fun c_246 => ?_)
          · first | exact absurd rfl c_246 | exact jw_less (J363 rr mk cw (by omega) hmk) (by repeat (first | exact trivial | refine And.intro rfl ?_))
          · first | exact absurd c_246 (by decide) | exact jw_less (lw_arr (cw := cw) C ⟨by omega, by omega⟩ P l A T F f u lg hV hpl hml hmn hj (by omega) hmk ⟨by omega, by omega⟩ kk) (by repeat (first | exact trivial | refine And.intro rfl ?_))
    refine jw_iload_15 (pc := 171) C dL_law_171 ?_
    refine jw_bipush (pc := 173) C dL_law_173 (by decide) ?_
    refine jw_icmp_ge (pc := 175) (tgt := 756) C dL_law_175 (by decide) ⟨by omega, by omega⟩ ⟨by omega, by omega⟩ (fun c_175 => ?_) (fun c_175 => ?_)
    · exact absurd c_175 (by omega)
    · refine jw_aload_0 (pc := 178) C dL_law_178 ?_
      refine jw_bipush (pc := 179) C dL_law_179 (by decide) ?_
      refine jw_iload_15 (pc := 181) C dL_law_181 ?_
      refine jw_iadd (pc := 183) C dL_law_183 ?_
      rw [show (6 : Int) + (j : Int) = ((6 + j : Nat) : Int) by omega]
      refine jw_cell (pc := 184) C S (c_L_cell G b N xs (6 + j) (by omega) hN) ws_L_cell kml_L_41 rfl rfl (Nat.le_of_ble_eq_true rfl) ⟨by decide, by decide⟩ (rmk ⟨by omega, by omega⟩) dL_law_184 rfl (fun cw _ => ?_)
      refine jw_istore_16 (pc := 187) C dL_law_187 rfl ?_
      refine jw_iload_14 (pc := 189) C dL_law_189 ?_
      refine jw_if_ne (pc := 191) (tgt := 198) C dL_law_191 (by decide) ⟨by omega, by omega⟩ (fun c_191 => ?_) (fun c_191 => ?_)
      · refine jw_iload_16 (pc := 198) C dL_law_198 ?_
        refine jw_iconst (pc := 200) C dL_law_200 ?_
        refine jw_ishr (pc := 201) C dL_law_201 ?_
        refine jw_iload_14 (pc := 202) C dL_law_202 ?_
        refine jw_S0_I (pc := 204) C (c_L_below G (cw >>> (iI 2 &&& 31)) mn (by omega) (by omega)) ws_L_below kml_L_45 rfl rfl (Nat.le_of_ble_eq_true rfl) ⟨by decide, by decide⟩ (rmk ⟨by omega, by omega⟩) dL_law_204 rfl (fun z u9 h => ?_)
        obtain ⟨rr, hrr, rfl⟩ := h
        exact J207 rr cw (Or.inr hrr)
      · refine jw_iconst (pc := 194) C dL_law_194 ?_
        refine jw_goto (pc := 195) (tgt := 207) C dL_law_195 (by decide) ?_
        exact J207 0 cw (Or.inl (by omega))
