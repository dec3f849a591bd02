/-! THE LAW'S RUN: all waiting requests once each -/
theorem lnS_rng {P : QP} {T : Nat → Bool} {c : Nat} {v : Int} (h : lnS P T c v) : -1 ≤ v ∧ (v = -1 ∨ v < P.req) := by
  rcases h with ⟨h1, h2⟩ | ⟨k, h1, h2, h3⟩ <;> omega
theorem lnS_pos {P : QP} {T : Nat → Bool} {c : Nat} {v : Int} (h : lnS P T c v) (hv : 0 ≤ v) : ∃ k : Nat, v = (k : Int) ∧ (k : Int) < P.req ∧ wtB P T k := by
  rcases h with ⟨h1, h2⟩ | ⟨k, h1, h2, h3, h4, h5⟩
  · omega
  · exact ⟨k, h2, h1, h3⟩
theorem lnS_keep2 {P : QP} {T : Nat → Bool} {c : Nat} {v : Int} (h : lnS P T c v) (hv : 0 ≤ v) (hle : ¬ P.asg c * P.wei (P.grp v.toNat).toNat < P.asg (P.grp v.toNat).toNat * P.wei c) : lnS P T (c + 1) v := by
  obtain ⟨k, rfl⟩ : ∃ k : Nat, v = (k : Int) := ⟨v.toNat, by omega⟩
  rw [show ((k : Int)).toNat = k by omega] at hle
  exact lnS_keep h hle
theorem runF_stop {n : Nat} {P : QP} {l : QL} {T : Nat → Bool} {c : Int} (h : nxF P T P.req.toNat = -1) : runF (n + 1) P l T c = (P, l, c) := by
  simp only [runF]
  rw [if_pos h]
theorem runF_step {n : Nat} {P : QP} {l : QL} {T : Nat → Bool} {c : Int} {k : Nat} (h : nxF P T P.req.toNat = (k : Int)) : runF (n + 1) P l T c = runF n (tryS P l k).2.1 (tryS P l k).2.2 (updf T k true) (c + if (tryS P l k).1 then 1 else 0) := by
  simp only [runF]
  rw [if_neg (by omega), h, show ((k : Int)).toNat = k by omega]
theorem runF_no {n : Nat} {P : QP} {l : QL} {T : Nat → Bool} {c : Int} {k : Nat} (h : nxF P T P.req.toNat = (k : Int)) (h2 : ¬ (1 ≤ minL P (P.acc k) ∧ minL P (P.acc k) - 1 ≤ P.pl)) : runF (n + 1) P l T c = runF n P l (updf T k true) c := by
  rw [runF_step h, try_no h2]
  simp
theorem runF_yes {n : Nat} {P : QP} {l : QL} {T : Nat → Bool} {c : Int} {k : Nat} (h : nxF P T P.req.toNat = (k : Int)) (h2 : (tryS P l k).1 = true) : runF (n + 1) P l T c = runF n (tryS P l k).2.1 (tryS P l k).2.2 (updf T k true) (c + 1) := by
  rw [runF_step h, h2]
  simp
theorem okP_ft {P : QP} {f : Nat → Int} {m : Int32} {L : Nat} {p : Nat → Nat} (hA : AtR P f) (hC : LC P) (g : okP P f m L p) : ∀ k, k + 1 < L → 0 ≤ f (p k) ∧ f (p k) < 16 := fun k hk => by
  obtain ⟨t, t1, t2, t3, t4, t5⟩ := okP_t hA g hk
  have := hC.2.2.2.1
  omega
theorem HV_try {P : QP} {l : QL} {f f2 : Nat → Int} {r n0 : Nat} {lg : Nat → Int} (hV : HV P l f) (hr : (r : Int) < P.req) (hw : P.plc r = -1) (hA : AtR (tryS P l r).2.1 f2) (hG : LG (tryS P l r).2.2 lg n0) (hn : n0 ≤ 400) : HV (tryS P l r).2.1 (tryS P l r).2.2 f2 := by
  obtain ⟨⟨hI, hF, hs0, hs1⟩, hC, -⟩ := hV
  have h1 := hG.1
  have h2 := hG.2.1
  exact ⟨⟨(tryS_ok hI hr hw).1, tryS_fe hI hr hw hF, h2, by omega⟩, LC_same hC (tryS_same P l r), hA⟩
/-- what goes on behind the run -/
def KR (G : jG) (X : JX) (ad q : Nat → Nat) (b : Nat) (pl ml : Int) (mn j rr : Nat) (mk lv : Int32) (q9 k n : Nat) (P0 : QP) (l0 : QL) (A : QA) (T : Nat → Bool) (F : QF) (RES : QP × QL × Int) : Prop := ∀ (P : QP) (l : QL) (f u lg : Nat → Int) (n0 : Nat) (T1 : Nat → Bool) (c : Int), HV P l f → LG l lg n0 → n0 ≤ 84 → (P, l, c) = RES → P.pl = pl → P.ml = ml → P.req = (mn : Int) → JW G X k n (wA G q f P.mov P.acc u P.plc lg P.wei P.asg P.grp ++ wC G ad P0 l0 A T F ++ [jAZ G q9 16 (jbF T1)]) 686 [some (.ref b), some (.ref (ad 0)), some (.int (iI 4)), some (.int (iI pl)), some (.int (iI ml)), some (.ref (q 0)), some (.ref (q 6)), some (.ref (q 7)), some (.ref (q 2)), some (.ref (q 8)), some (.ref (q 4)), some (.ref (q 1)), some (.ref (q 3)), some (.ref (q 5)), some (.int (iI (mn : Int))), some (.int (iI (j : Int))), none, some (.int (iI (rr : Int))), some (.int mk), some (.int (iI (n0 : Int))), none, some (.int lv), some (.int (iI c)), none, none, none, none, none] []
set_option maxRecDepth 100000 in
set_option maxHeartbeats 4000000 in
theorem lw_run {G : jG} {X : JX} {ad q : Nat → Nat} {b : Nat} {pl ml : Int} {mn j rr q9 k1 n1 : Nat} {mk lv : Int32} (C : JC G X room_1 cL_law RL 28) (hk1 : k1 ≤ 1000 ∧ n1 ≤ 10000) (hmn14 : mn ≤ 14) (P0 : QP) (l0 : QL) (A : QA) (T : Nat → Bool) (F : QF) (RES : QP × QL × Int) (kk : KR G X ad q b pl ml mn j rr mk lv q9 k1 n1 P0 l0 A T F RES) :
    ∀ (nl t k n n0 : Nat) (P : QP) (l : QL) (f u lg : Nat → Int) (T1 : Nat → Bool) (c : Int), t + nl = mn → HV P l f → LG l lg n0 → n0 ≤ 6 * t → k + nl ≤ k1 → n + 4 * nl ≤ n1 → P.pl = pl → P.ml = ml → P.req = (mn : Int) → runF nl P l T1 c = RES → JW G X k n (wA G q f P.mov P.acc u P.plc lg P.wei P.asg P.grp ++ wC G ad P0 l0 A T F ++ [jAZ G q9 16 (jbF T1)]) 478 [some (.ref b), some (.ref (ad 0)), some (.int (iI 4)), some (.int (iI pl)), some (.int (iI ml)), some (.ref (q 0)), some (.ref (q 6)), some (.ref (q 7)), some (.ref (q 2)), some (.ref (q 8)), some (.ref (q 4)), some (.ref (q 1)), some (.ref (q 3)), some (.ref (q 5)), some (.int (iI (mn : Int))), some (.int (iI (j : Int))), none, some (.int (iI (rr : Int))), some (.int mk), some (.int (iI (n0 : Int))), none, some (.int lv), some (.int (iI c)), some (.ref q9), some (.int (iI (t : Int))), none, none, none] [] := by
  intro nl
  induction nl with
  | zero =>
    intro t k n n0 P l f u lg T1 c ht hV hG hn hk hnn hpl hml hmn hR
    refine jw_iload_24 (pc := 478) C dL_law_478 ?_
    refine jw_iload_14 (pc := 480) C dL_law_480 ?_
    refine jw_icmp_ge (pc := 482) (tgt := 686) C dL_law_482 (by decide) ⟨by omega, by omega⟩ ⟨by omega, by omega⟩ (fun c_482 => ?_) (fun c_482 => ?_)
    · have hE : (P, l, c) = RES := hR
      exact jw_less (jw_widen (by omega) (by omega) (kk P l f u lg n0 T1 c hV hG (by omega) hE hpl hml hmn)) (by repeat (first | exact trivial | refine And.intro rfl ?_))
    · exact absurd c_482 (by omega)
  | succ nl ih =>
    intro t k n n0 P l f u lg T1 c ht hV hG hn hk hnn hpl hml hmn hR
    obtain ⟨⟨hI, hFe, hs0, hs1⟩, hC, hA⟩ := id hV
    have hG1 := hG.1
    have hreq := hI.req
    have hpl3 := hC.2.2.2.2.1
    have hplr := hI.pl
    refine jw_iload_24 (pc := 478) C dL_law_478 ?_
    refine jw_iload_14 (pc := 480) C dL_law_480 ?_
    refine jw_icmp_ge (pc := 482) (tgt := 686) C dL_law_482 (by decide) ⟨by omega, by omega⟩ ⟨by omega, by omega⟩ (fun c_482 => ?_) (fun c_482 => ?_)
    · exact absurd c_482 (by omega)
    · refine jw_iconst (pc := 485) C dL_law_485 ?_
      refine jw_istore_25 (pc := 486) C dL_law_486 rfl ?_
      refine jw_iconst (pc := 488) C dL_law_488 ?_
      refine jw_istore_26 (pc := 489) C dL_law_489 rfl ?_
      have K491 : ∀ (n_491 : Nat) (g : Nat) (v : Int), (g ≤ 4) → (lnS P T1 g v) → 5 - g < n_491 → JW G X k n (wA G q f P.mov P.acc u P.plc lg P.wei P.asg P.grp ++ wC G ad P0 l0 A T F ++ [jAZ G q9 16 (jbF T1)]) 491 [some (.ref b), some (.ref (ad 0)), some (.int (iI 4)), some (.int (iI pl)), some (.int (iI ml)), some (.ref (q 0)), some (.ref (q 6)), some (.ref (q 7)), some (.ref (q 2)), some (.ref (q 8)), some (.ref (q 4)), some (.ref (q 1)), some (.ref (q 3)), some (.ref (q 5)), some (.int (iI (mn : Int))), some (.int (iI (j : Int))), none, some (.int (iI (rr : Int))), some (.int mk), some (.int (iI (n0 : Int))), none, some (.int lv), some (.int (iI c)), some (.ref q9), some (.int (iI (t : Int))), some (.int (iI v)), some (.int (iI (g : Int))), none] [] := by
        intro n_491
        induction n_491 with
        | zero => intro g v hg hS hm_491; exact absurd hm_491 (Nat.not_lt_zero _)
        | succ n_491 ih_491 =>
          intro g v hg hS hm_491
          have hvr := lnS_rng hS
          have hgv := hI.grp v.toNat
          refine jw_iload_26 (pc := 491) C dL_law_491 ?_
          refine jw_iconst (pc := 493) C dL_law_493 ?_
          refine jw_icmp_ge (pc := 494) (tgt := 593) C dL_law_494 (by decide) ⟨by omega, by omega⟩ ⟨by omega, by omega⟩ (fun c_494 => ?_) (fun c_494 => ?_)
          · have hg4 : g = 4 := by omega
            subst hg4
            have hnx := lnS_end hI hS
            refine jw_iload_25 (pc := 593) C dL_law_593 ?_
            refine jw_if_ge (pc := 595) (tgt := 601) C dL_law_595 (by decide) ⟨by omega, by omega⟩ (fun c_595 => ?_) (fun c_595 => ?_)
            · obtain ⟨vk, hvk, hvq, hw⟩ := lnS_pos hS c_595
              subst hvk
              have hgvk := hI.grp vk
              refine jw_aload_23 (pc := 601) C dL_law_601 ?_
              refine jw_iload_25 (pc := 603) C dL_law_603 ?_
              refine jw_iconst (pc := 605) C dL_law_605 ?_
              refine jw_zast (pc := 606) (x := true) C 39 rfl vk rfl (by omega) (by decide) dL_law_606 ?_
              refine jw_iload_2 (pc := 607) C dL_law_607 ?_
              refine jw_aload_8 (pc := 608) C dL_law_608 ?_
              refine jw_iload_25 (pc := 610) C dL_law_610 ?_
              refine jw_iald_r (pc := 612) C 2 rfl vk rfl (by omega) (by decide) dL_law_612 ?_
              refine jw_aload_5 (pc := 613) C dL_law_613 ?_
              refine jw_aload_11 (pc := 615) C dL_law_615 ?_
              refine jw_iload_4 (pc := 617) C dL_law_617 ?_
              refine jw_aload_8 (pc := 619) C dL_law_619 ?_
              refine jw_aload_12 (pc := 621) C dL_law_621 ?_
              refine jw_sS_I (pc := 623) (wr := [jAI G (q 4) 16 (jiI P.plc), jAI G (q 5) 200 (jiI lg), jAI G (q 6) 4 (jiI P.wei), jAI G (q 7) 4 (jiI P.asg), jAI G (q 8) 16 (jiI P.grp)] ++ wC G ad P0 l0 A T F ++ [jAZ G q9 16 (jbF (updf T1 vk true))]) C (c_bp G (q 0) (q 1) (q 2) (q 3) P f u (P.acc vk) hI hA hC vk hvq hw.1 rfl ml hml) ws_L_bestPath kml_L_59 [0, 1, 2, 3] ([4, 5, 6, 7, 8] ++ (List.range 31).map (· + 9)) rfl rfl rfl rfl (by decide) rfl rfl (Nat.le_of_ble_eq_true rfl) ⟨by decide, by decide⟩ (rmk ⟨by omega, by omega⟩) dL_law_623 rfl (fun z u9 h => ?_)
              refine jw_sub (w2 := (wA G q f P.mov P.acc u9 P.plc lg P.wei P.asg P.grp ++ wC G ad P0 l0 A T F ++ [jAZ G q9 16 (jbF (updf T1 vk true))])) ([36, 37, 38, 39] ++ List.range 36) rfl rfl ?_
              rcases h with ⟨rfl, hmin⟩ | ⟨L, p, hL1, hL2, rfl, hmin, hok, hpp, hu9⟩
              · have hR2 : runF nl P l (updf T1 vk true) c = RES := by rw [← runF_no hnx (fun h => by omega)]; exact hR
                refine jw_istore_26 (pc := 626) C dL_law_626 rfl ?_
                refine jw_iload_26 (pc := 628) C dL_law_628 ?_
                refine jw_if_eq (pc := 630) (tgt := 680) C dL_law_630 (by decide) ⟨by omega, by omega⟩ (fun c_630 => ?_) (fun c_630 => ?_)
                · refine jw_iinc_24 (pc := 680) C dL_law_680 rfl ?_
                  refine jw_goto (pc := 683) (tgt := 478) C dL_law_683 (by decide) ?_
                  exact jw_less (ih (t + 1) k n n0 P l f u9 lg (updf T1 vk true) c (by omega) hV hG (by omega) (by omega) (by omega) hpl hml hmn hR2) (by repeat (first | exact trivial | refine And.intro rfl ?_))
                · exact absurd rfl c_630
              · refine jw_istore_26 (pc := 626) C dL_law_626 rfl ?_
                refine jw_iload_26 (pc := 628) C dL_law_628 ?_
                refine jw_if_eq (pc := 630) (tgt := 680) C dL_law_630 (by decide) ⟨by omega, by omega⟩ (fun c_630 => ?_) (fun c_630 => ?_)
                · exact absurd c_630 (by omega)
                · refine jw_iload_26 (pc := 633) C dL_law_633 ?_
                  refine jw_iconst (pc := 635) C dL_law_635 ?_
                  refine jw_isub (pc := 636) C dL_law_636 ?_
                  refine jw_iload_3 (pc := 637) C dL_law_637 ?_
                  refine jw_icmp_le (pc := 638) (tgt := 644) C dL_law_638 (by decide) ⟨by omega, by omega⟩ ⟨by omega, by omega⟩ (fun c_638 => ?_) (fun c_638 => ?_)
                  · refine jw_iload_25 (pc := 644) C dL_law_644 ?_
                    refine jw_iload_26 (pc := 646) C dL_law_646 ?_
                    refine jw_aload_12 (pc := 648) C dL_law_648 ?_
                    refine jw_aload_5 (pc := 650) C dL_law_650 ?_
                    refine jw_aload_10 (pc := 652) C dL_law_652 ?_
                    refine jw_aload_11 (pc := 654) C dL_law_654 ?_
                    refine jw_aload_13 (pc := 656) C dL_law_656 ?_
                    refine jw_iload_19 (pc := 658) C dL_law_658 ?_
                    refine jw_sSm_I (pc := 660) (wr := [jAI G (q 2) 16 P.acc, jAI G (q 6) 4 (jiI P.wei), jAI G (q 7) 4 (jiI P.asg), jAI G (q 8) 16 (jiI P.grp)] ++ wC G ad P0 l0 A T F ++ [jAZ G q9 16 (jbF (updf T1 vk true))]) C (c_L_place G (q 0) (q 4) (q 1) (q 3) (q 5) P f u9 lg p vk L n0 ⟨hL1, hL2⟩ (by omega) (by omega) hu9 hok.1 (okP_ft hA hC hok)) ws_L_place kml_L_63 [0, 4, 1, 3, 5] ([2, 6, 7, 8] ++ (List.range 31).map (· + 9)) rfl rfl rfl rfl (by decide) rfl rfl (Nat.le_of_ble_eq_true rfl) ⟨by decide, by decide⟩ (rmk2 ⟨by omega, by omega⟩) dL_law_660 rfl (fun z u7 h => ?_)
                    subst h
                    refine jw_sub (w2 := (wA G q (updf (lpA f p (L - 1)) (p 0) (vk : Int)) (lpM P.mov f p (L - 1)) P.acc u9 (updf (lpW P.plc f p (L - 1)) vk (p 0 : Int)) (lpG lg f p n0 (L - 1)) P.wei P.asg P.grp ++ wC G ad P0 l0 A T F ++ [jAZ G q9 16 (jbF (updf T1 vk true))])) ([35, 37, 0, 38, 36, 39, 1, 2, 3] ++ (List.range 31).map (· + 4)) rfl rfl ?_
                    refine jw_istore_19 (pc := 663) C dL_law_663 rfl ?_
                    refine jw_aload_7 (pc := 665) C dL_law_665 ?_
                    refine jw_aload_9 (pc := 667) C dL_law_667 ?_
                    refine jw_iload_25 (pc := 669) C dL_law_669 ?_
                    refine jw_iald (pc := 671) C 8 rfl vk rfl (by omega) (by decide) dL_law_671 ?_
                    refine jw_dup2 (pc := 672) C dL_law_672 rfl rfl ?_
                    refine jw_iald (pc := 673) C 7 rfl (P.grp vk).toNat (by omega) (by omega) (by decide) dL_law_673 ?_
                    refine jw_iconst (pc := 674) C dL_law_674 ?_
                    refine jw_iadd (pc := 675) C dL_law_675 ?_
                    refine jw_iast (pc := 676) C 7 rfl (P.grp vk).toNat (by omega) (by omega) (by decide) dL_law_676 ?_
                    refine jw_iinc_22 (pc := 677) C dL_law_677 rfl ?_
                    refine jw_iinc_24 (pc := 680) C dL_law_680 rfl ?_
                    refine jw_goto (pc := 683) (tgt := 478) C dL_law_683 (by decide) ?_
                    obtain ⟨y1, y2, y3, y4, y5, y6, y7⟩ := try_yes hI hA hC hvq hw.1 hL1 hL2 hmin hok hpp (by omega) hG (by omega)
                    have hV2 := HV_try hV hvq hw.1 y7 y6 (by omega)
                    have hR3 : runF nl (tryS P l vk).2.1 (tryS P l vk).2.2 (updf T1 vk true) (c + 1) = RES := by rw [← runF_yes hnx y1]; exact hR
                    have K := ih (t + 1) (k + 1) (n + 4) (n0 + 2 * (L - 1)) (tryS P l vk).2.1 (tryS P l vk).2.2 (updf (lpA f p (L - 1)) (p 0) (vk : Int)) u9 (lpG lg f p n0 (L - 1)) (updf T1 vk true) (c + 1) (by omega) hV2 y6 (by omega) (by omega) (by omega) (y2.2.2.2.2.2.2.2.1.trans hpl) (y2.2.2.2.2.2.2.2.2.trans hml) (y2.2.2.2.2.1.trans hmn) hR3
                    rw [y3, y4, y5, y2.2.2.2.1, y2.2.2.2.2.2.1, y2.2.2.2.2.2.2.1] at K
                    exact jw_less K (by repeat (first | exact trivial | refine And.intro rfl ?_))
                  · have hR2 : runF nl P l (updf T1 vk true) c = RES := by rw [← runF_no hnx (fun h => by omega)]; exact hR
                    refine jw_goto (pc := 641) (tgt := 680) C dL_law_641 (by decide) ?_
                    refine jw_iinc_24 (pc := 680) C dL_law_680 rfl ?_
                    refine jw_goto (pc := 683) (tgt := 478) C dL_law_683 (by decide) ?_
                    exact jw_less (ih (t + 1) k n n0 P l f u9 lg (updf T1 vk true) c (by omega) hV hG (by omega) (by omega) (by omega) hpl hml hmn hR2) (by repeat (first | exact trivial | refine And.intro rfl ?_))
            · have hE : (P, l, c) = RES := by rw [← runF_stop (n := nl) (T := T1) (show nxF P T1 P.req.toNat = -1 by omega)]; exact hR
              refine jw_goto (pc := 598) (tgt := 686) C dL_law_598 (by decide) ?_
              exact jw_less (jw_widen (by omega) (by omega) (kk P l f u lg n0 T1 c hV hG (by omega) hE hpl hml hmn)) (by repeat (first | exact trivial | refine And.intro rfl ?_))
          · refine jw_iconst (pc := 497) C dL_law_497 ?_
            refine jw_istore_27 (pc := 498) C dL_law_498 rfl ?_
            have K500 : ∀ (n_500 : Nat) (x : Nat), (x ≤ mn) → (∀ y, y < x → ¬ fiB P T1 g y = true) → 15 - x < n_500 → JW G X k n (wA G q f P.mov P.acc u P.plc lg P.wei P.asg P.grp ++ wC G ad P0 l0 A T F ++ [jAZ G q9 16 (jbF T1)]) 500 [some (.ref b), some (.ref (ad 0)), some (.int (iI 4)), some (.int (iI pl)), some (.int (iI ml)), some (.ref (q 0)), some (.ref (q 6)), some (.ref (q 7)), some (.ref (q 2)), some (.ref (q 8)), some (.ref (q 4)), some (.ref (q 1)), some (.ref (q 3)), some (.ref (q 5)), some (.int (iI (mn : Int))), some (.int (iI (j : Int))), none, some (.int (iI (rr : Int))), some (.int mk), some (.int (iI (n0 : Int))), none, some (.int lv), some (.int (iI c)), some (.ref q9), some (.int (iI (t : Int))), some (.int (iI v)), some (.int (iI (g : Int))), some (.int (iI (x : Int)))] [] := by
              intro n_500
              induction n_500 with
              | zero => intro x hx hno hm_500; exact absurd hm_500 (Nat.not_lt_zero _)
              | succ n_500 ih_500 =>
                intro x hx hno hm_500
                have hgx := hI.grp x
                have hpx := hI.plc x
                refine jw_iload_27 (pc := 500) C dL_law_500 ?_
                refine jw_iload_14 (pc := 502) C dL_law_502 ?_
                refine jw_icmp_ge (pc := 504) (tgt := 540) C dL_law_504 (by decide) ⟨by omega, by omega⟩ ⟨by omega, by omega⟩ (fun c_504 => ?_) (fun c_504 => ?_)
                · refine jw_iload_27 (pc := 540) C dL_law_540 ?_
                  refine jw_iload_14 (pc := 542) C dL_law_542 ?_
                  refine jw_icmp_ge (pc := 544) (tgt := 587) C dL_law_544 (by decide) ⟨by omega, by omega⟩ ⟨by omega, by omega⟩ (fun _ => ?_) (fun h => absurd c_504 (by omega))
                  refine jw_iinc_26 (pc := 587) C dL_law_587 rfl ?_
                  refine jw_goto (pc := 590) (tgt := 491) C dL_law_590 (by decide) ?_
                  exact jw_less (ih_491 (g + 1) v (by omega) (lnS_none hS (fun y hy => hno y (by omega))) (by omega)) (by repeat (first | exact trivial | refine And.intro rfl ?_))
                · refine jw_aload_9 (pc := 507) C dL_law_507 ?_
                  refine jw_iload_27 (pc := 509) C dL_law_509 ?_
                  refine jw_iald (pc := 511) C 8 rfl x rfl (by omega) (by decide) dL_law_511 ?_
                  refine jw_iload_26 (pc := 512) C dL_law_512 ?_
                  refine jw_icmp_ne (pc := 514) (tgt := 534) C dL_law_514 (by decide) ⟨by omega, by omega⟩ ⟨by omega, by omega⟩ (fun c_514 => ?_) (fun c_514 => ?_)
                  · have hnx1 : ¬ fiB P T1 g x = true := fun h => c_514 (fiB_iff.mp h).1
                    refine jw_iinc_27 (pc := 534) C dL_law_534 rfl ?_
                    refine jw_goto (pc := 537) (tgt := 500) C dL_law_537 (by decide) ?_
                    exact ih_500 (x + 1) (by omega) (fun y hy => by
                      by_cases e : y = x
                      · rw [e]; exact hnx1
                      · exact hno y (by omega)) (by omega)
                  · refine jw_aload_10 (pc := 517) C dL_law_517 ?_
                    refine jw_iload_27 (pc := 519) C dL_law_519 ?_
                    refine jw_iald (pc := 521) C 4 rfl x rfl (by omega) (by decide) dL_law_521 ?_
                    refine jw_iconst (pc := 522) C dL_law_522 ?_
                    refine jw_icmp_ne (pc := 523) (tgt := 534) C dL_law_523 (by decide) ⟨by omega, by omega⟩ ⟨by omega, by omega⟩ (fun c_523 => ?_) (fun c_523 => ?_)
                    · have hnx1 : ¬ fiB P T1 g x = true := fun h => c_523 (fiB_iff.mp h).2.1
                      refine jw_iinc_27 (pc := 534) C dL_law_534 rfl ?_
                      refine jw_goto (pc := 537) (tgt := 500) C dL_law_537 (by decide) ?_
                      exact ih_500 (x + 1) (by omega) (fun y hy => by
                        by_cases e : y = x
                        · rw [e]; exact hnx1
                        · exact hno y (by omega)) (by omega)
                    · refine jw_aload_23 (pc := 526) C dL_law_526 ?_
                      refine jw_iload_27 (pc := 528) C dL_law_528 ?_
                      refine jw_zald (pc := 530) C 39 rfl x rfl (by omega) (by decide) dL_law_530 ?_
                      refine jw_if_eq_b (pc := 531) (tgt := 540) C dL_law_531 (by decide) (fun c_531 => ?_) (fun c_531 => ?_)
                      · have hfi : fiB P T1 g x = true := fiB_iff.mpr ⟨c_514, c_523, c_531⟩
                        refine jw_iload_27 (pc := 540) C dL_law_540 ?_
                        refine jw_iload_14 (pc := 542) C dL_law_542 ?_
                        refine jw_icmp_ge (pc := 544) (tgt := 587) C dL_law_544 (by decide) ⟨by omega, by omega⟩ ⟨by omega, by omega⟩ (fun c_544 => ?_) (fun c_544 => ?_)
                        · exact absurd c_544 (by omega)
                        · refine jw_iload_25 (pc := 547) C dL_law_547 ?_
                          refine jw_if_lt (pc := 549) (tgt := 583) C dL_law_549 (by decide) ⟨by omega, by omega⟩ (fun c_549 => ?_) (fun c_549 => ?_)
                          · have hS2 := lnS_take hI (by omega) hS (by omega) hfi hno (Or.inl c_549)
                            refine jw_iload_27 (pc := 583) C dL_law_583 ?_
                            refine jw_istore_25 (pc := 585) C dL_law_585 rfl ?_
                            refine jw_iinc_26 (pc := 587) C dL_law_587 rfl ?_
                            refine jw_goto (pc := 590) (tgt := 491) C dL_law_590 (by decide) ?_
                            exact jw_less (ih_491 (g + 1) _ (by omega) hS2 (by omega)) (by repeat (first | exact trivial | refine And.intro rfl ?_))
                          · have hm1 := grp_wei hI g (P.grp v.toNat).toNat
                            have hm2 := grp_wei hI (P.grp v.toNat).toNat g
                            refine jw_aload_7 (pc := 552) C dL_law_552 ?_
                            refine jw_iload_26 (pc := 554) C dL_law_554 ?_
                            refine jw_iald (pc := 556) C 7 rfl g rfl (by omega) (by decide) dL_law_556 ?_
                            refine jw_aload_6 (pc := 557) C dL_law_557 ?_
                            refine jw_aload_9 (pc := 559) C dL_law_559 ?_
                            refine jw_iload_25 (pc := 561) C dL_law_561 ?_
                            refine jw_iald (pc := 563) C 8 rfl v.toNat (by omega) (by omega) (by decide) dL_law_563 ?_
                            refine jw_iald (pc := 564) C 6 rfl (P.grp v.toNat).toNat (by omega) (by omega) (by decide) dL_law_564 ?_
                            refine jw_imul (pc := 565) C dL_law_565 ?_
                            refine jw_aload_7 (pc := 566) C dL_law_566 ?_
                            refine jw_aload_9 (pc := 568) C dL_law_568 ?_
                            refine jw_iload_25 (pc := 570) C dL_law_570 ?_
                            refine jw_iald (pc := 572) C 8 rfl v.toNat (by omega) (by omega) (by decide) dL_law_572 ?_
                            refine jw_iald (pc := 573) C 7 rfl (P.grp v.toNat).toNat (by omega) (by omega) (by decide) dL_law_573 ?_
                            refine jw_aload_6 (pc := 574) C dL_law_574 ?_
                            refine jw_iload_26 (pc := 576) C dL_law_576 ?_
                            refine jw_iald (pc := 578) C 6 rfl g rfl (by omega) (by decide) dL_law_578 ?_
                            refine jw_imul (pc := 579) C dL_law_579 ?_
                            refine jw_icmp_ge (pc := 580) (tgt := 587) C dL_law_580 (by decide) ⟨by omega, by omega⟩ ⟨by omega, by omega⟩ (fun c_580 => ?_) (fun c_580 => ?_)
                            · have hS2 := lnS_keep2 hS (by omega) (by omega)
                              refine jw_iinc_26 (pc := 587) C dL_law_587 rfl ?_
                              refine jw_goto (pc := 590) (tgt := 491) C dL_law_590 (by decide) ?_
                              exact jw_less (ih_491 (g + 1) _ (by omega) hS2 (by omega)) (by repeat (first | exact trivial | refine And.intro rfl ?_))
                            · have hS2 := lnS_take hI (by omega) hS (by omega) hfi hno (Or.inr (by omega))
                              refine jw_iload_27 (pc := 583) C dL_law_583 ?_
                              refine jw_istore_25 (pc := 585) C dL_law_585 rfl ?_
                              refine jw_iinc_26 (pc := 587) C dL_law_587 rfl ?_
                              refine jw_goto (pc := 590) (tgt := 491) C dL_law_590 (by decide) ?_
                              exact jw_less (ih_491 (g + 1) _ (by omega) hS2 (by omega)) (by repeat (first | exact trivial | refine And.intro rfl ?_))
                      · have hnx1 : ¬ fiB P T1 g x = true := fun h => by
                          have h9 := (fiB_iff.mp h).2.2
                          rw [c_531] at h9
                          cases h9
                        refine jw_iinc_27 (pc := 534) C dL_law_534 rfl ?_
                        refine jw_goto (pc := 537) (tgt := 500) C dL_law_537 (by decide) ?_
                        exact ih_500 (x + 1) (by omega) (fun y hy => by
                          by_cases e : y = x
                          · rw [e]; exact hnx1
                          · exact hno y (by omega)) (by omega)
            exact K500 16 0 (by omega) (fun y hy => absurd hy (Nat.not_lt_zero _)) (by omega)
      exact K491 6 0 (-1) (by omega) (lnS_0 hI) (by omega)
