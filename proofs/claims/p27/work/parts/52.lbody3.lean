/-! A REQUEST LEAVES; A REQUEST GETS ANOTHER MASK -/
theorem LG_0 (l : QL) (lg : Nat → Int) : LG (l.1, l.2.1, 0) lg 0 := ⟨rfl, Int.le_refl 0, fun k hk => absurd hk (by show ¬ ((k : Int) < 0); omega)⟩
theorem HV_dismiss {P : QP} {l : QL} {f f2 : Nat → Int} {r : Nat} (hV : HV P l f) (hr : (r : Int) < P.req) (hA : AtR (pDismiss P r) f2) : HV (pDismiss P r) (l.1, l.2.1, 0) f2 := by
  obtain ⟨⟨hI, hF, hs0, hs1⟩, hC, -⟩ := hV
  exact ⟨⟨PI_dismiss hI hr, PFe_dismiss hF, Int.le_refl 0, by show (0 : Int) ≤ 200; omega⟩, LC_same hC (pDismiss_same P r), hA⟩
theorem HV_accept {P : QP} {l : QL} {f f2 : Nat → Int} {r : Nat} {m : Int32} (hV : HV P l f) (hr : (r : Int) < P.req) (hm : mOK P m) (hA : AtR (pAccept P r m) f2) : HV (pAccept P r m) (l.1, l.2.1, 0) f2 := by
  obtain ⟨⟨hI, hF, hs0, hs1⟩, hC, -⟩ := hV
  obtain ⟨a1, a2, a3, a4, a5, a6, a7, a8⟩ := pAccept_req P r m
  exact ⟨⟨PI_accept hI hr, PFe_accept hI hF hm, Int.le_refl 0, by show (0 : Int) ≤ 200; omega⟩, LC_of hC a1 a2 a3 (by rw [a5]; exact hC.2.2.2.1) a7 a8, hA⟩
set_option maxRecDepth 100000 in
set_option maxHeartbeats 4000000 in
theorem lw_dep {G : jG} {X : JX} {ad q : Nat → Nat} {b : Nat} {pl ml : Int} {mn j rr k1 n1 k n : Nat} {mk : Int32} (C : JC G X room_1 cL_law RL 28) (hk1 : k1 ≤ 1000 ∧ n1 ≤ 10000) (hmn14 : mn ≤ 14) (P : QP) (l : QL) (A : QA) (T : Nat → Bool) (F : QF) (f u lg : Nat → Int) (hV : HV P l f) (hpl : P.pl = pl) (hml : P.ml = ml) (hmn : P.req = (mn : Int)) (hj : mn ≤ j + 1) (hrr : rr < mn) (hd : P.plc rr ≠ -2) (hk : k + 1 + mn ≤ k1 ∧ n + 16 + 4 * mn ≤ n1) (kk : KH G X ad q b pl ml (j + 1) k1 n1) : JW G X k n (wP G q f P u lg ++ wC G ad P l A T F) 389 [some (.ref b), some (.ref (ad 0)), some (.int (iI 4)), some (.int (iI pl)), some (.int (iI ml)), some (.ref (q 0)), some (.ref (q 6)), some (.ref (q 7)), some (.ref (q 2)), some (.ref (q 8)), some (.ref (q 4)), some (.ref (q 1)), some (.ref (q 3)), some (.ref (q 5)), some (.int (iI (mn : Int))), some (.int (iI (j : Int))), none, some (.int (iI (rr : Int))), some (.int mk), some (.int (iI ((0 : Nat) : Int))), none, none, none, none, none, none, none, none] [.int (iI 1)] := by
  obtain ⟨⟨hI, hFe, hs0, hs1⟩, hC, hA⟩ := id hV
  have hreq := hI.req
  have hr : (rr : Int) < P.req := by omega
  have hplc := hI.plc rr
  have hplr := hI.plr rr hr
  have hres := hC.1
  have hgr := hI.grp rr
  have KRP : ∀ q9 : Nat, KR G X ad q b pl ml mn j rr mk (iI 1) q9 k1 n1 P l A T F (rn (pDismiss P rr) l) := by
    intro q9 P2 l2 f2 u2 lg2 n2 T2 c2 hV2 hG2 hn2 hE hpl2 hml2 hmn2
    have hE1 : (rn (pDismiss P rr) l).1 = P2 := by rw [← hE]
    have hE2 : (rn (pDismiss P rr) l).2.1 = l2 := by rw [← hE]
    have hE3 : (rn (pDismiss P rr) l).2.2 = c2 := by rw [← hE]
    refine jw_iload_21 (pc := 686) C dL_law_686 ?_
    refine jw_if_eq (pc := 688) (tgt := 705) C dL_law_688 (by decide) ⟨by omega, by omega⟩ (fun c_688 => ?_) (fun c_688 => ?_)
    · exact absurd c_688 (by decide)
    · refine jw_aload_1 (pc := 691) C dL_law_691 ?_
      refine jw_iload_17 (pc := 692) C dL_law_692 ?_
      refine jw_sV_I (pc := 694) (wr := wA G q f2 P2.mov P2.acc u2 P2.plc lg2 P2.wei P2.asg P2.grp) C (c_X5_depart G ad P l A T F hI rr hr hFe hd) wd_X5_depart kml_L_70 9 rfl rfl ((List.range 30).map (· + 9)) (List.range 9) rfl rfl rfl rfl (by decide) rfl rfl (Nat.le_of_ble_eq_true rfl) ⟨by decide, by decide⟩ (rmk ⟨by omega, by omega⟩) dL_law_694 rfl (fun z u9 h => ?_)
      obtain ⟨rfl, hu1, hu2⟩ := h
      rw [show u9.1 = P2 from hu1.trans hE1, show u9.2.1 = l2 from hu2.trans hE2]
      refine jw_iload_22 (pc := 697) C dL_law_697 ?_
      refine jw_icmp_eq_r (pc := 699) (tgt := 731) C dL_law_699 (by decide) (fun c_699 => ?_) (fun c_699 => ?_)
      · exact jw_less (lw_same C ⟨Nat.le_refl _, Nat.le_refl _⟩ hk1 P2 l2 u9.2.2.1 u9.2.2.2 F f2 u2 lg2 hV2 hpl2 hml2 hmn2 hj hG2 (by omega) kk) (by repeat (first | exact trivial | refine And.intro rfl ?_))
      · exact absurd (by rw [hE3]) c_699
  have J466 : ∀ f2 : Nat → Int, AtR (pDismiss P rr) f2 → JW G X k n (wA G q f2 (pDismiss P rr).mov (pDismiss P rr).acc u (pDismiss P rr).plc lg (pDismiss P rr).wei (pDismiss P rr).asg (pDismiss P rr).grp ++ wC G ad P l A T F) 466 [some (.ref b), some (.ref (ad 0)), some (.int (iI 4)), some (.int (iI pl)), some (.int (iI ml)), some (.ref (q 0)), some (.ref (q 6)), some (.ref (q 7)), some (.ref (q 2)), some (.ref (q 8)), some (.ref (q 4)), some (.ref (q 1)), some (.ref (q 3)), some (.ref (q 5)), some (.int (iI (mn : Int))), some (.int (iI (j : Int))), none, some (.int (iI (rr : Int))), some (.int mk), some (.int (iI ((0 : Nat) : Int))), none, some (.int (iI 1)), none, none, none, none, none, none] [] := by
    intro f2 hA2
    refine jw_iconst (pc := 466) C dL_law_466 ?_
    refine jw_istore_22 (pc := 467) C dL_law_467 rfl ?_
    refine jw_bipush (pc := 469) C dL_law_469 (by decide) ?_
    refine jw_newaZ (pc := 471) C 16 (by omega) (rmk ⟨by omega, by omega⟩) dL_law_471 (fun q9 => ?_)
    refine jw_astore_23 (pc := 473) C dL_law_473 rfl ?_
    refine jw_iconst (pc := 475) C dL_law_475 ?_
    refine jw_istore_24 (pc := 476) C dL_law_476 rfl ?_
    have hDq : (pDismiss P rr).req = P.req := pPut_req P rr
    have hDr : (pDismiss P rr).req.toNat = mn := by rw [hDq]; omega
    have hVD := HV_dismiss hV hr hA2
    have hR : runF mn (pDismiss P rr) (l.1, l.2.1, 0) (fun _ => false) 0 = rn (pDismiss P rr) l := by
      unfold rn
      rw [hDr]
    exact jw_less (lw_run C hk1 hmn14 P l A T F (rn (pDismiss P rr) l) (KRP q9) mn 0 (k + 1) (n + 16) 0 (pDismiss P rr) (l.1, l.2.1, 0) f2 u lg (fun _ => false) 0 (by omega) hVD (LG_0 l lg) (by omega) (by omega) (by omega) ((pPut_pl P rr).trans hpl) ((pPut_ml P rr).trans hml) (by rw [hDq]; exact hmn) hR) (by repeat (first | exact trivial | refine And.intro rfl ?_))
  refine jw_istore_21 (pc := 389) C dL_law_389 rfl ?_
  have hi2 := hI.asg (P.grp rr).toNat
  refine jw_aload_10 (pc := 391) C dL_law_391 ?_
  refine jw_iload_17 (pc := 393) C dL_law_393 ?_
  refine jw_iald (pc := 395) C 4 rfl rr rfl (by omega) (by decide) dL_law_395 ?_
  refine jw_if_lt (pc := 396) (tgt := 444) C dL_law_396 (by decide) ⟨by omega, by omega⟩ (fun c_396 => ?_) (fun c_396 => ?_)
  · have eD : pDismiss P rr = pGone P rr := by rw [pDismiss, pPut_neg (by omega)]
    have K := J466 f (AtR_neg hA c_396 (by omega) (pPut_req P rr) (by rw [eD] <;> rfl) (v := -2))
    refine jw_iload_21 (pc := 444) C dL_law_444 ?_
    refine jw_if_eq (pc := 446) (tgt := 459) C dL_law_446 (by decide) ⟨by omega, by omega⟩ (fun c_446 => ?_) (fun c_446 => ?_)
    · exact absurd c_446 (by decide)
    · refine jw_aload_10 (pc := 449) C dL_law_449 ?_
      refine jw_iload_17 (pc := 451) C dL_law_451 ?_
      refine jw_bipush (pc := 453) C dL_law_453 (by decide) ?_
      refine jw_iast (pc := 455) C 4 rfl rr rfl (by omega) (by decide) dL_law_455 ?_
      refine jw_goto (pc := 456) (tgt := 466) C dL_law_456 (by decide) ?_
      rw [eD] at K
      exact jw_less K (by repeat (first | exact trivial | refine And.intro rfl ?_))
  · obtain ⟨bb, hbb⟩ : ∃ bb : Nat, P.plc rr = (bb : Int) := ⟨(P.plc rr).toNat, by omega⟩
    have eD : pDismiss P rr = pGone (pPutT P rr) rr := by rw [pDismiss, pPut_pos (by omega)]
    have eP : updf (updf P.plc rr (-1)) rr (-2) = updf P.plc rr (-2) := by
      funext x
      by_cases e : x = rr
      · rw [e, updf_same, updf_same]
      · rw [updf_ne _ _ e, updf_ne _ _ e, updf_ne _ _ e]
    have K := J466 (updf f bb (-1)) (AtR_put hA hr (by omega) hbb (by omega) (pPut_req P rr) (by rw [eD]; exact eP) (v := -2))
    refine jw_iload_21 (pc := 399) C dL_law_399 ?_
    refine jw_if_ne (pc := 401) (tgt := 417) C dL_law_401 (by decide) ⟨by omega, by omega⟩ (fun c_401 => ?_) (fun c_401 => ?_)
    · refine jw_aload_5 (pc := 417) C dL_law_417 ?_
      refine jw_aload_10 (pc := 419) C dL_law_419 ?_
      refine jw_iload_17 (pc := 421) C dL_law_421 ?_
      refine jw_iald (pc := 423) C 4 rfl rr rfl (by omega) (by decide) dL_law_423 ?_
      refine jw_iconst (pc := 424) C dL_law_424 ?_
      refine jw_iast (pc := 425) C 0 rfl bb hbb (by omega) (by decide) dL_law_425 ?_
      refine jw_aload_10 (pc := 426) C dL_law_426 ?_
      refine jw_iload_17 (pc := 428) C dL_law_428 ?_
      refine jw_iconst (pc := 430) C dL_law_430 ?_
      refine jw_iast (pc := 431) C 4 rfl rr rfl (by omega) (by decide) dL_law_431 ?_
      refine jw_aload_7 (pc := 432) C dL_law_432 ?_
      refine jw_aload_9 (pc := 434) C dL_law_434 ?_
      refine jw_iload_17 (pc := 436) C dL_law_436 ?_
      refine jw_iald (pc := 438) C 8 rfl rr rfl (by omega) (by decide) dL_law_438 ?_
      refine jw_dup2 (pc := 439) C dL_law_439 rfl rfl ?_
      refine jw_iald (pc := 440) C 7 rfl (P.grp rr).toNat (by omega) (by omega) (by decide) dL_law_440 ?_
      refine jw_iconst (pc := 441) C dL_law_441 ?_
      refine jw_isub (pc := 442) C dL_law_442 ?_
      refine jw_iast (pc := 443) C 7 rfl (P.grp rr).toNat (by omega) (by omega) (by decide) dL_law_443 ?_
      refine jw_iload_21 (pc := 444) C dL_law_444 ?_
      refine jw_if_eq (pc := 446) (tgt := 459) C dL_law_446 (by decide) ⟨by omega, by omega⟩ (fun c_446 => ?_) (fun c_446 => ?_)
      · exact absurd c_446 (by decide)
      · refine jw_aload_10 (pc := 449) C dL_law_449 ?_
        refine jw_iload_17 (pc := 451) C dL_law_451 ?_
        refine jw_bipush (pc := 453) C dL_law_453 (by decide) ?_
        refine jw_iast (pc := 455) C 4 rfl rr rfl (by omega) (by decide) dL_law_455 ?_
        refine jw_goto (pc := 456) (tgt := 466) C dL_law_456 (by decide) ?_
        rw [eD] at K
        exact jw_less K (by repeat (first | exact trivial | refine And.intro rfl ?_))
    · exact absurd c_401 (by decide)
set_option maxRecDepth 100000 in
set_option maxHeartbeats 4000000 in
theorem lw_acc {G : jG} {X : JX} {ad q : Nat → Nat} {b : Nat} {pl ml : Int} {mn j rr k1 n1 k n : Nat} {mk : Int32} (C : JC G X room_1 cL_law RL 28) (hk1 : k1 ≤ 1000 ∧ n1 ≤ 10000) (hmn14 : mn ≤ 14) (P : QP) (l : QL) (A : QA) (T : Nat → Bool) (F : QF) (f u lg : Nat → Int) (hV : HV P l f) (hpl : P.pl = pl) (hml : P.ml = ml) (hmn : P.req = (mn : Int)) (hj : mn ≤ j + 1) (hrr : rr < mn) (hd : P.plc rr ≠ -2) (hmk : mOK P mk) (hk : k + 1 + mn ≤ k1 ∧ n + 16 + 4 * mn ≤ n1) (kk : KH G X ad q b pl ml (j + 1) k1 n1) : JW G X k n (wP G q f P u lg ++ wC G ad P l A T F) 389 [some (.ref b), some (.ref (ad 0)), some (.int (iI 4)), some (.int (iI pl)), some (.int (iI ml)), some (.ref (q 0)), some (.ref (q 6)), some (.ref (q 7)), some (.ref (q 2)), some (.ref (q 8)), some (.ref (q 4)), some (.ref (q 1)), some (.ref (q 3)), some (.ref (q 5)), some (.int (iI (mn : Int))), some (.int (iI (j : Int))), none, some (.int (iI (rr : Int))), some (.int mk), some (.int (iI ((0 : Nat) : Int))), none, none, none, none, none, none, none, none] [.int (iI 0)] := by
  obtain ⟨⟨hI, hFe, hs0, hs1⟩, hC, hA⟩ := id hV
  have hreq := hI.req
  have hr : (rr : Int) < P.req := by omega
  have hplc := hI.plc rr
  have hplr := hI.plr rr hr
  have hres := hC.1
  have hgr := hI.grp rr
  have KRP : ∀ q9 : Nat, KR G X ad q b pl ml mn j rr mk (iI 0) q9 k1 n1 P l A T F (rn (pAccept P rr mk) l) := by
    intro q9 P2 l2 f2 u2 lg2 n2 T2 c2 hV2 hG2 hn2 hE hpl2 hml2 hmn2
    have hE1 : (rn (pAccept P rr mk) l).1 = P2 := by rw [← hE]
    have hE2 : (rn (pAccept P rr mk) l).2.1 = l2 := by rw [← hE]
    have hE3 : (rn (pAccept P rr mk) l).2.2 = c2 := by rw [← hE]
    refine jw_iload_21 (pc := 686) C dL_law_686 ?_
    refine jw_if_eq (pc := 688) (tgt := 705) C dL_law_688 (by decide) ⟨by omega, by omega⟩ (fun c_688 => ?_) (fun c_688 => ?_)
    · refine jw_aload_1 (pc := 705) C dL_law_705 ?_
      refine jw_iload_17 (pc := 706) C dL_law_706 ?_
      refine jw_iload_18 (pc := 708) C dL_law_708 ?_
      refine jw_sV_Z (pc := 710) (wr := wA G q f2 P2.mov P2.acc u2 P2.plc lg2 P2.wei P2.asg P2.grp) C (c_X5_setAccepts G ad P l A T F hI rr hr hFe hd mk hmk) wd_X5_setAccepts kml_L_73 9 rfl rfl ((List.range 30).map (· + 9)) (List.range 9) rfl rfl rfl rfl (by decide) rfl rfl (Nat.le_of_ble_eq_true rfl) ⟨by decide, by decide⟩ (rmk ⟨by omega, by omega⟩) dL_law_710 rfl (fun z u9 h => ?_)
      obtain ⟨hz, hu1, hu2⟩ := h
      rw [show u9.1 = P2 from hu1.trans hE1, show u9.2.1 = l2 from hu2.trans hE2]
      have hp9 := hV2.1.1.plc rr
      refine jw_aload_10 (pc := 713) C dL_law_713 ?_
      refine jw_iload_17 (pc := 715) C dL_law_715 ?_
      refine jw_iald (pc := 717) C 4 rfl rr rfl (by omega) (by decide) dL_law_717 ?_
      refine jw_if_lt (pc := 718) (tgt := 725) C dL_law_718 (by decide) ⟨by omega, by omega⟩ (fun c_718 => ?_) (fun c_718 => ?_)
      · have hz9 : z = false := by rw [hz, hE1]; exact decide_eq_false (by omega)
        refine jw_iconst (pc := 725) C dL_law_725 ?_
        refine jw_icmp_eq_r (pc := 726) (tgt := 731) C dL_law_726 (by decide) (fun c_726 => ?_) (fun c_726 => ?_)
        · exact jw_less (lw_same C ⟨Nat.le_refl _, Nat.le_refl _⟩ hk1 P2 l2 u9.2.2.1 u9.2.2.2 F f2 u2 lg2 hV2 hpl2 hml2 hmn2 hj hG2 (by omega) kk) (by repeat (first | exact trivial | refine And.intro rfl ?_))
        · exact absurd (by rw [hz9]; rfl) c_726
      · have hz9 : z = true := by rw [hz, hE1]; exact decide_eq_true (by omega)
        refine jw_iconst (pc := 721) C dL_law_721 ?_
        refine jw_goto (pc := 722) (tgt := 726) C dL_law_722 (by decide) ?_
        refine jw_icmp_eq_r (pc := 726) (tgt := 731) C dL_law_726 (by decide) (fun c_726 => ?_) (fun c_726 => ?_)
        · exact jw_less (lw_same C ⟨Nat.le_refl _, Nat.le_refl _⟩ hk1 P2 l2 u9.2.2.1 u9.2.2.2 F f2 u2 lg2 hV2 hpl2 hml2 hmn2 hj hG2 (by omega) kk) (by repeat (first | exact trivial | refine And.intro rfl ?_))
        · exact absurd (by rw [hz9]; rfl) c_726
    · exact absurd rfl c_688
  have J466 : ∀ f2 : Nat → Int, AtR (pAccept P rr mk) f2 → JW G X k n (wA G q f2 (pAccept P rr mk).mov (pAccept P rr mk).acc u (pAccept P rr mk).plc lg (pAccept P rr mk).wei (pAccept P rr mk).asg (pAccept P rr mk).grp ++ wC G ad P l A T F) 466 [some (.ref b), some (.ref (ad 0)), some (.int (iI 4)), some (.int (iI pl)), some (.int (iI ml)), some (.ref (q 0)), some (.ref (q 6)), some (.ref (q 7)), some (.ref (q 2)), some (.ref (q 8)), some (.ref (q 4)), some (.ref (q 1)), some (.ref (q 3)), some (.ref (q 5)), some (.int (iI (mn : Int))), some (.int (iI (j : Int))), none, some (.int (iI (rr : Int))), some (.int mk), some (.int (iI ((0 : Nat) : Int))), none, some (.int (iI 0)), none, none, none, none, none, none] [] := by
    intro f2 hA2
    refine jw_iconst (pc := 466) C dL_law_466 ?_
    refine jw_istore_22 (pc := 467) C dL_law_467 rfl ?_
    refine jw_bipush (pc := 469) C dL_law_469 (by decide) ?_
    refine jw_newaZ (pc := 471) C 16 (by omega) (rmk ⟨by omega, by omega⟩) dL_law_471 (fun q9 => ?_)
    refine jw_astore_23 (pc := 473) C dL_law_473 rfl ?_
    refine jw_iconst (pc := 475) C dL_law_475 ?_
    refine jw_istore_24 (pc := 476) C dL_law_476 rfl ?_
    have hDq : (pAccept P rr mk).req = P.req := (pAccept_req P rr mk).2.2.2.2.1
    have hDr : (pAccept P rr mk).req.toNat = mn := by rw [hDq]; omega
    have hVD := HV_accept hV hr hmk hA2
    have hR : runF mn (pAccept P rr mk) (l.1, l.2.1, 0) (fun _ => false) 0 = rn (pAccept P rr mk) l := by
      unfold rn
      rw [hDr]
    exact jw_less (lw_run C hk1 hmn14 P l A T F (rn (pAccept P rr mk) l) (KRP q9) mn 0 (k + 1) (n + 16) 0 (pAccept P rr mk) (l.1, l.2.1, 0) f2 u lg (fun _ => false) 0 (by omega) hVD (LG_0 l lg) (by omega) (by omega) (by omega) ((pAccept_req P rr mk).2.2.2.2.2.2.1.trans hpl) ((pAccept_req P rr mk).2.2.2.2.2.2.2.trans hml) (by rw [hDq]; exact hmn) hR) (by repeat (first | exact trivial | refine And.intro rfl ?_))
  refine jw_istore_21 (pc := 389) C dL_law_389 rfl ?_
  have hi2 := hI.asg (P.grp rr).toNat
  refine jw_aload_10 (pc := 391) C dL_law_391 ?_
  refine jw_iload_17 (pc := 393) C dL_law_393 ?_
  refine jw_iald (pc := 395) C 4 rfl rr rfl (by omega) (by decide) dL_law_395 ?_
  refine jw_if_lt (pc := 396) (tgt := 444) C dL_law_396 (by decide) ⟨by omega, by omega⟩ (fun c_396 => ?_) (fun c_396 => ?_)
  · have eD : pAccept P rr mk = pMask P rr mk := by rw [pAccept, if_neg (fun h => absurd h.1 (by omega))]
    have K := J466 f (AtR_eq hA (by rw [eD] <;> rfl) (by rw [eD] <;> rfl))
    refine jw_iload_21 (pc := 444) C dL_law_444 ?_
    refine jw_if_eq (pc := 446) (tgt := 459) C dL_law_446 (by decide) ⟨by omega, by omega⟩ (fun c_446 => ?_) (fun c_446 => ?_)
    · refine jw_aload_8 (pc := 459) C dL_law_459 ?_
      refine jw_iload_17 (pc := 461) C dL_law_461 ?_
      refine jw_iload_18 (pc := 463) C dL_law_463 ?_
      refine jw_iast_r (pc := 465) C 2 rfl rr rfl (by omega) (by decide) dL_law_465 ?_
      rw [eD] at K
      exact jw_less K (by repeat (first | exact trivial | refine And.intro rfl ?_))
    · exact absurd rfl c_446
  · obtain ⟨bb, hbb⟩ : ∃ bb : Nat, P.plc rr = (bb : Int) := ⟨(P.plc rr).toNat, by omega⟩
    have hbn : (P.plc rr).toNat = bb := by omega
    refine jw_iload_21 (pc := 399) C dL_law_399 ?_
    refine jw_if_ne (pc := 401) (tgt := 417) C dL_law_401 (by decide) ⟨by omega, by omega⟩ (fun c_401 => ?_) (fun c_401 => ?_)
    · exact absurd rfl c_401
    · refine jw_iload_18 (pc := 404) C dL_law_404 ?_
      refine jw_aload_10 (pc := 406) C dL_law_406 ?_
      refine jw_iload_17 (pc := 408) C dL_law_408 ?_
      refine jw_iald (pc := 410) C 4 rfl rr rfl (by omega) (by decide) dL_law_410 ?_
      refine jw_ishr (pc := 411) C dL_law_411 ?_
      refine jw_iconst (pc := 412) C dL_law_412 ?_
      refine jw_iand (pc := 413) C dL_law_413 ?_
      refine jw_if_ne_r (pc := 414) (tgt := 444) C dL_law_414 (by decide) (fun c_414 => ?_) (fun c_414 => ?_)
      · have hbit : bitB mk (P.plc rr).toNat = true := by
          rw [hbn]
          unfold bitB
          rw [hbb] at c_414
          exact decide_eq_true c_414
        have eD : pAccept P rr mk = pMask P rr mk := by rw [pAccept, if_neg (fun h => by rw [hbit] at h; cases h.2)]
        have K := J466 f (AtR_eq hA (by rw [eD] <;> rfl) (by rw [eD] <;> rfl))
        refine jw_iload_21 (pc := 444) C dL_law_444 ?_
        refine jw_if_eq (pc := 446) (tgt := 459) C dL_law_446 (by decide) ⟨by omega, by omega⟩ (fun c_446 => ?_) (fun c_446 => ?_)
        · refine jw_aload_8 (pc := 459) C dL_law_459 ?_
          refine jw_iload_17 (pc := 461) C dL_law_461 ?_
          refine jw_iload_18 (pc := 463) C dL_law_463 ?_
          refine jw_iast_r (pc := 465) C 2 rfl rr rfl (by omega) (by decide) dL_law_465 ?_
          rw [eD] at K
          exact jw_less K (by repeat (first | exact trivial | refine And.intro rfl ?_))
        · exact absurd rfl c_446
      · have hbit : bitB mk (P.plc rr).toNat = false := by
          rw [hbn]
          unfold bitB
          rw [hbb] at c_414
          exact decide_eq_false (fun h => h c_414)
        have eD : pAccept P rr mk = pPutT (pMask P rr mk) rr := by rw [pAccept, if_pos ⟨by omega, hbit⟩, pPut_pos (by show 0 ≤ P.plc rr; omega)]
        have K := J466 (updf f bb (-1)) (AtR_put hA hr (by omega) hbb (by omega) (by rw [eD] <;> rfl) (by rw [eD] <;> rfl) (v := -1))
        refine jw_aload_5 (pc := 417) C dL_law_417 ?_
        refine jw_aload_10 (pc := 419) C dL_law_419 ?_
        refine jw_iload_17 (pc := 421) C dL_law_421 ?_
        refine jw_iald (pc := 423) C 4 rfl rr rfl (by omega) (by decide) dL_law_423 ?_
        refine jw_iconst (pc := 424) C dL_law_424 ?_
        refine jw_iast (pc := 425) C 0 rfl bb hbb (by omega) (by decide) dL_law_425 ?_
        refine jw_aload_10 (pc := 426) C dL_law_426 ?_
        refine jw_iload_17 (pc := 428) C dL_law_428 ?_
        refine jw_iconst (pc := 430) C dL_law_430 ?_
        refine jw_iast (pc := 431) C 4 rfl rr rfl (by omega) (by decide) dL_law_431 ?_
        refine jw_aload_7 (pc := 432) C dL_law_432 ?_
        refine jw_aload_9 (pc := 434) C dL_law_434 ?_
        refine jw_iload_17 (pc := 436) C dL_law_436 ?_
        refine jw_iald (pc := 438) C 8 rfl rr rfl (by omega) (by decide) dL_law_438 ?_
        refine jw_dup2 (pc := 439) C dL_law_439 rfl rfl ?_
        refine jw_iald (pc := 440) C 7 rfl (P.grp rr).toNat (by omega) (by omega) (by decide) dL_law_440 ?_
        refine jw_iconst (pc := 441) C dL_law_441 ?_
        refine jw_isub (pc := 442) C dL_law_442 ?_
        refine jw_iast (pc := 443) C 7 rfl (P.grp rr).toNat (by omega) (by omega) (by decide) dL_law_443 ?_
        refine jw_iload_21 (pc := 444) C dL_law_444 ?_
        refine jw_if_eq (pc := 446) (tgt := 459) C dL_law_446 (by decide) ⟨by omega, by omega⟩ (fun c_446 => ?_) (fun c_446 => ?_)
        · refine jw_aload_8 (pc := 459) C dL_law_459 ?_
          refine jw_iload_17 (pc := 461) C dL_law_461 ?_
          refine jw_iload_18 (pc := 463) C dL_law_463 ?_
          refine jw_iast_r (pc := 465) C 2 rfl rr rfl (by omega) (by decide) dL_law_465 ?_
          rw [eD] at K
          exact jw_less K (by repeat (first | exact trivial | refine And.intro rfl ?_))
        · exact absurd rfl c_446
