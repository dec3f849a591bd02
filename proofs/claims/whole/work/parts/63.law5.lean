/-! the law's loop: the readers that may throw -/
theorem gainZ_uniq {P : QP} {r : Nat} {z w : Int32} (h : gainZ P r z) (g : gainZ P r w) : z = w := by
  by_cases e : P.plc r = -2
  · rw [h.1 e, g.1 e]
  · obtain ⟨v1, v0, h1, -, -, h2, h3⟩ := h.2 e
    obtain ⟨w1, w0, g1, -, -, g2, g3⟩ := g.2 e
    rw [h1, g1, h2.uniq g2, h3.uniq g3]
theorem RR_far {P : QP} {l : QL} {R : QR} {g : Nat → Int} (h : RR P l R) : RR P l (sFar R g) := h
theorem SV_arr {P : QP} {l : QL} {a : Nat} {m : Int32} (hI : PI P) (hF : PFe P) (ha : (a : Int) < 4) (hm : mOK P m) (hq : P.req < 40) : SV (tryS (pAdmit P (a : Int) m) (l.1, l.2.1, 0) P.req.toNat).2.1 (tryS (pAdmit P (a : Int) m) (l.1, l.2.1, 0) P.req.toNat).2.2 := by
  have h0 := hI.req
  have hI2 : PI (pAdmit P (a : Int) m) := PI_admit hI hq ⟨by omega, by omega⟩
  have hr : ((P.req.toNat : Nat) : Int) < (pAdmit P (a : Int) m).req := by show ((P.req.toNat : Nat) : Int) < P.req + 1; omega
  have hw : (pAdmit P (a : Int) m).plc P.req.toNat = -1 := updf_same _ _ _
  obtain ⟨t1, -, -, t4⟩ := tryS_ok (l := (l.1, l.2.1, 0)) hI2 hr hw
  have t5 := t4 (Int.le_refl 0) (by decide : (0 : Int) ≤ 195)
  exact ⟨t1, tryS_fe hI2 hr hw (PFe_admit hI hF hm), t5.1, Int.le_trans t5.2 (by decide : (0 : Int) + 5 ≤ 200)⟩
set_option maxRecDepth 100000 in
set_option maxHeartbeats 4000000 in
theorem lc_load {G : jG} {X : JX} {k n : Nat} {ad ad2 : Nat → Nat} {q b i N : Nat} {xs : Nat → Int32} {sa : Nat → Nat} {P : QP} {l : QL} {A : QA} {T : Nat → Bool} {F : QF} {f : Nat → Int64} {R : QR} (C : JC G X room_1 cL_law RL 9) (Ev : JE sa X) (S : JScr X b N xs) (hi : i + 4 ≤ N) (hN : N < 1000000) (hk : k + 1 ≤ 1086 ∧ n + 6 ≤ 10291) (hV : SV P l) (hR : RR P l R) (kk : LK G X ad ad2 q b i (k + 1) (n + 6)) : JW G X k n (wL G ad ad2 P l A T F q f R) 727 (lL b ad ad2 q i) [] := by
  have hk0 : k ≤ 1086 ∧ n ≤ 10291 := ⟨by omega, by omega⟩
  obtain ⟨hI, hF, hl⟩ := id hV
  have hres := hI.res
  have hreq := hI.req
  obtain ⟨a, hja, ea⟩ := xI (xs (i + 1))
  refine jw_aload_1 (pc := 727) C dL_law_727 ?_
  refine jw_aload_0 (pc := 728) C dL_law_728 ?_
  refine jw_iload_4 (pc := 729) C dL_law_729 ?_
  refine jw_iconst (pc := 731) C dL_law_731 ?_
  refine jw_iadd (pc := 732) C dL_law_732 ?_
  refine jw_sldi (pc := 733) C S (i + 1) (by omega) (by omega) hN ea dL_law_733 ?_
  refine jw_aload_3 (pc := 734) C dL_law_734 ?_
  by_cases ha : 0 ≤ a ∧ a < P.res
  · obtain ⟨a, rfl⟩ := Int.eq_ofNat_of_zero_le ha.1
    refine jw_sH (pc := 735) (wr := wR G ad2 R) C Ev (h_load_ok sa G ad P l A T F q f hI a ha.2) wh_L_load kml_L_122 (List.range 31) ((List.range 15).map (· + 31)) rfl rfl rfl rfl (by decide) rfl rfl (Nat.le_of_ble_eq_true rfl) ⟨by decide, by decide⟩ ⟨hk0.1, hk0.2⟩ dL_law_735 rfl (fun z u h => ?_)
    have h8 := h
    subst h8
    clear h
    refine lt_load C S hi hN ea (c_X6_load G ad2 P l R hI hR _ hja) hk0 ⟨by decide, by decide⟩ hV (fun zm v h => ?_) kk.widen
    obtain ⟨e, h⟩ := h
    rcases h with ⟨-, -, h1, h2⟩ | ⟨h1, -⟩
    · exact ⟨RR_thr hR e, h1, fun _ => by rw [h2]; exact upd00 f _⟩
    · exact absurd ha h1
  · refine jw_sH (pc := 735) (wr := wR G ad2 R) C Ev (h_load_IOE sa G ad P l A T F q f hI a hja ha) wh_L_load kml_L_122 (List.range 31) ((List.range 15).map (· + 31)) rfl rfl rfl rfl (by decide) rfl rfl (Nat.le_of_ble_eq_true rfl) ⟨by decide, by decide⟩ ⟨hk.1, hk.2⟩ dL_law_735 rfl (fun z u h => ?_)
    have h8 := h
    subst h8
    clear h
    refine lt_load C S hi hN ea (c_X6_load G ad2 P l R hI hR _ hja) hk ⟨by decide, by decide⟩ hV (fun zm v h => ?_) kk
    obtain ⟨e, h⟩ := h
    rcases h with ⟨h1, h2, -⟩ | ⟨-, h1⟩
    · exact absurd ⟨h1, h2⟩ ha
    · exact ⟨RR_thr hR e, h1, fun h => absurd h (by decide)⟩
set_option maxRecDepth 100000 in
set_option maxHeartbeats 4000000 in
theorem lc_state {G : jG} {X : JX} {k n : Nat} {ad ad2 : Nat → Nat} {q b i N : Nat} {xs : Nat → Int32} {sa : Nat → Nat} {P : QP} {l : QL} {A : QA} {T : Nat → Bool} {F : QF} {f : Nat → Int64} {R : QR} (C : JC G X room_1 cL_law RL 9) (Ev : JE sa X) (S : JScr X b N xs) (hi : i + 4 ≤ N) (hN : N < 1000000) (hk : k + 1 ≤ 1086 ∧ n + 6 ≤ 10291) (hV : SV P l) (hR : RR P l R) (kk : LK G X ad ad2 q b i (k + 1) (n + 6)) : JW G X k n (wL G ad ad2 P l A T F q f R) 783 (lL b ad ad2 q i) [] := by
  have hk0 : k ≤ 1086 ∧ n ≤ 10291 := ⟨by omega, by omega⟩
  obtain ⟨hI, hF, hl⟩ := id hV
  have hres := hI.res
  have hreq := hI.req
  obtain ⟨a, hja, ea⟩ := xI (xs (i + 1))
  refine jw_aload_1 (pc := 783) C dL_law_783 ?_
  refine jw_aload_0 (pc := 784) C dL_law_784 ?_
  refine jw_iload_4 (pc := 785) C dL_law_785 ?_
  refine jw_iconst (pc := 787) C dL_law_787 ?_
  refine jw_iadd (pc := 788) C dL_law_788 ?_
  refine jw_sldi (pc := 789) C S (i + 1) (by omega) (by omega) hN ea dL_law_789 ?_
  refine jw_aload_3 (pc := 790) C dL_law_790 ?_
  by_cases ha : 0 ≤ a ∧ a < P.req
  · obtain ⟨a, rfl⟩ := Int.eq_ofNat_of_zero_le ha.1
    refine jw_sH (pc := 791) (wr := wR G ad2 R) C Ev (h_state sa G ad P l A T F q f hI a ha.2) wh_L_state kml_L_125 (List.range 31) ((List.range 15).map (· + 31)) rfl rfl rfl rfl (by decide) rfl rfl (Nat.le_of_ble_eq_true rfl) ⟨by decide, by decide⟩ ⟨hk0.1, hk0.2⟩ dL_law_791 rfl (fun z u h => ?_)
    have h8 := h
    subst h8
    clear h
    refine lt_state C S hi hN ea (c_X6_state G ad2 P l R hI hR _ hja) hk0 ⟨by decide, by decide⟩ hV (fun zm v h => ?_) kk.widen
    obtain ⟨e, h⟩ := h
    rcases h with ⟨-, -, h1, h2⟩ | ⟨h1, -⟩
    · exact ⟨RR_thr hR e, h1, fun _ => by rw [h2]; exact upd00 f _⟩
    · exact absurd ha h1
  · refine jw_sH (pc := 791) (wr := wR G ad2 R) C Ev (h_state_IOE sa G ad P l A T F q f hI a hja ha) wh_L_state kml_L_125 (List.range 31) ((List.range 15).map (· + 31)) rfl rfl rfl rfl (by decide) rfl rfl (Nat.le_of_ble_eq_true rfl) ⟨by decide, by decide⟩ ⟨hk.1, hk.2⟩ dL_law_791 rfl (fun z u h => ?_)
    have h8 := h
    subst h8
    clear h
    refine lt_state C S hi hN ea (c_X6_state G ad2 P l R hI hR _ hja) hk ⟨by decide, by decide⟩ hV (fun zm v h => ?_) kk
    obtain ⟨e, h⟩ := h
    rcases h with ⟨h1, h2, -⟩ | ⟨-, h1⟩
    · exact absurd ⟨h1, h2⟩ ha
    · exact ⟨RR_thr hR e, h1, fun h => absurd h (by decide)⟩
set_option maxRecDepth 100000 in
set_option maxHeartbeats 4000000 in
theorem lc_movesOf {G : jG} {X : JX} {k n : Nat} {ad ad2 : Nat → Nat} {q b i N : Nat} {xs : Nat → Int32} {sa : Nat → Nat} {P : QP} {l : QL} {A : QA} {T : Nat → Bool} {F : QF} {f : Nat → Int64} {R : QR} (C : JC G X room_1 cL_law RL 9) (Ev : JE sa X) (S : JScr X b N xs) (hi : i + 4 ≤ N) (hN : N < 1000000) (hk : k + 1 ≤ 1086 ∧ n + 6 ≤ 10291) (hV : SV P l) (hR : RR P l R) (kk : LK G X ad ad2 q b i (k + 1) (n + 6)) : JW G X k n (wL G ad ad2 P l A T F q f R) 895 (lL b ad ad2 q i) [] := by
  have hk0 : k ≤ 1086 ∧ n ≤ 10291 := ⟨by omega, by omega⟩
  obtain ⟨hI, hF, hl⟩ := id hV
  have hres := hI.res
  have hreq := hI.req
  obtain ⟨a, hja, ea⟩ := xI (xs (i + 1))
  refine jw_aload_1 (pc := 895) C dL_law_895 ?_
  refine jw_aload_0 (pc := 896) C dL_law_896 ?_
  refine jw_iload_4 (pc := 897) C dL_law_897 ?_
  refine jw_iconst (pc := 899) C dL_law_899 ?_
  refine jw_iadd (pc := 900) C dL_law_900 ?_
  refine jw_sldi (pc := 901) C S (i + 1) (by omega) (by omega) hN ea dL_law_901 ?_
  refine jw_aload_3 (pc := 902) C dL_law_902 ?_
  by_cases ha : 0 ≤ a ∧ a < P.req
  · obtain ⟨a, rfl⟩ := Int.eq_ofNat_of_zero_le ha.1
    refine jw_sH (pc := 903) (wr := wR G ad2 R) C Ev (h_movesOf sa G ad P l A T F q f hI a ha.2) wh_L_movesOf kml_L_131 (List.range 31) ((List.range 15).map (· + 31)) rfl rfl rfl rfl (by decide) rfl rfl (Nat.le_of_ble_eq_true rfl) ⟨by decide, by decide⟩ ⟨hk0.1, hk0.2⟩ dL_law_903 rfl (fun z u h => ?_)
    have h8 := h
    subst h8
    clear h
    refine lt_movesOf C S hi hN ea (c_X6_movesOf G ad2 P l R hI hR _ hja) hk0 ⟨by decide, by decide⟩ hV (fun zm v h => ?_) kk.widen
    obtain ⟨e, h⟩ := h
    rcases h with ⟨-, -, h1, h2⟩ | ⟨h1, -⟩
    · exact ⟨RR_thr hR e, h1, fun _ => by rw [h2]; exact upd00 f _⟩
    · exact absurd ha h1
  · refine jw_sH (pc := 903) (wr := wR G ad2 R) C Ev (h_movesOf_IOE sa G ad P l A T F q f hI a hja ha) wh_L_movesOf kml_L_131 (List.range 31) ((List.range 15).map (· + 31)) rfl rfl rfl rfl (by decide) rfl rfl (Nat.le_of_ble_eq_true rfl) ⟨by decide, by decide⟩ ⟨hk.1, hk.2⟩ dL_law_903 rfl (fun z u h => ?_)
    have h8 := h
    subst h8
    clear h
    refine lt_movesOf C S hi hN ea (c_X6_movesOf G ad2 P l R hI hR _ hja) hk ⟨by decide, by decide⟩ hV (fun zm v h => ?_) kk
    obtain ⟨e, h⟩ := h
    rcases h with ⟨h1, h2, -⟩ | ⟨-, h1⟩
    · exact absurd ⟨h1, h2⟩ ha
    · exact ⟨RR_thr hR e, h1, fun h => absurd h (by decide)⟩
set_option maxRecDepth 100000 in
set_option maxHeartbeats 4000000 in
theorem lc_assignedOf {G : jG} {X : JX} {k n : Nat} {ad ad2 : Nat → Nat} {q b i N : Nat} {xs : Nat → Int32} {sa : Nat → Nat} {P : QP} {l : QL} {A : QA} {T : Nat → Bool} {F : QF} {f : Nat → Int64} {R : QR} (C : JC G X room_1 cL_law RL 9) (Ev : JE sa X) (S : JScr X b N xs) (hi : i + 4 ≤ N) (hN : N < 1000000) (hk : k + 1 ≤ 1086 ∧ n + 6 ≤ 10291) (hV : SV P l) (hR : RR P l R) (kk : LK G X ad ad2 q b i (k + 1) (n + 6)) : JW G X k n (wL G ad ad2 P l A T F q f R) 671 (lL b ad ad2 q i) [] := by
  have hk0 : k ≤ 1086 ∧ n ≤ 10291 := ⟨by omega, by omega⟩
  obtain ⟨hI, hF, hl⟩ := id hV
  have hres := hI.res
  have hreq := hI.req
  obtain ⟨a, hja, ea⟩ := xI (xs (i + 1))
  refine jw_aload_1 (pc := 671) C dL_law_671 ?_
  refine jw_aload_0 (pc := 672) C dL_law_672 ?_
  refine jw_iload_4 (pc := 673) C dL_law_673 ?_
  refine jw_iconst (pc := 675) C dL_law_675 ?_
  refine jw_iadd (pc := 676) C dL_law_676 ?_
  refine jw_sldi (pc := 677) C S (i + 1) (by omega) (by omega) hN ea dL_law_677 ?_
  refine jw_aload_3 (pc := 678) C dL_law_678 ?_
  by_cases ha : 0 ≤ a ∧ a < 4
  · obtain ⟨a, rfl⟩ := Int.eq_ofNat_of_zero_le ha.1
    refine jw_sH (pc := 679) (wr := wR G ad2 R) C Ev (h_assignedOf sa G ad P l A T F q f  a ha.2) wh_L_assignedOf kml_L_119 (List.range 31) ((List.range 15).map (· + 31)) rfl rfl rfl rfl (by decide) rfl rfl (Nat.le_of_ble_eq_true rfl) ⟨by decide, by decide⟩ ⟨hk0.1, hk0.2⟩ dL_law_679 rfl (fun z u h => ?_)
    have h8 := h
    subst h8
    clear h
    refine lt_assignedOf C S hi hN ea (c_X6_assignedOf G ad2 P l R hI hR _ hja) hk0 ⟨by decide, by decide⟩ hV (fun zm v h => ?_) kk.widen
    obtain ⟨e, h⟩ := h
    rcases h with ⟨-, -, h1, h2⟩ | ⟨h1, -⟩
    · exact ⟨RR_thr hR e, h1, fun _ => by rw [h2]; exact upd00 f _⟩
    · exact absurd ha h1
  · refine jw_sH (pc := 679) (wr := wR G ad2 R) C Ev (h_assignedOf_IOE sa G ad P l A T F q f  a hja ha) wh_L_assignedOf kml_L_119 (List.range 31) ((List.range 15).map (· + 31)) rfl rfl rfl rfl (by decide) rfl rfl (Nat.le_of_ble_eq_true rfl) ⟨by decide, by decide⟩ ⟨hk.1, hk.2⟩ dL_law_679 rfl (fun z u h => ?_)
    have h8 := h
    subst h8
    clear h
    refine lt_assignedOf C S hi hN ea (c_X6_assignedOf G ad2 P l R hI hR _ hja) hk ⟨by decide, by decide⟩ hV (fun zm v h => ?_) kk
    obtain ⟨e, h⟩ := h
    rcases h with ⟨h1, h2, -⟩ | ⟨-, h1⟩
    · exact absurd ⟨h1, h2⟩ ha
    · exact ⟨RR_thr hR e, h1, fun h => absurd h (by decide)⟩
set_option maxRecDepth 100000 in
set_option maxHeartbeats 4000000 in
theorem lc_movedRequest {G : jG} {X : JX} {k n : Nat} {ad ad2 : Nat → Nat} {q b i N : Nat} {xs : Nat → Int32} {sa : Nat → Nat} {P : QP} {l : QL} {A : QA} {T : Nat → Bool} {F : QF} {f : Nat → Int64} {R : QR} (C : JC G X room_1 cL_law RL 9) (Ev : JE sa X) (S : JScr X b N xs) (hi : i + 4 ≤ N) (hN : N < 1000000) (hk : k + 1 ≤ 1086 ∧ n + 6 ≤ 10291) (hV : SV P l) (hR : RR P l R) (kk : LK G X ad ad2 q b i (k + 1) (n + 6)) : JW G X k n (wL G ad ad2 P l A T F q f R) 964 (lL b ad ad2 q i) [] := by
  have hk0 : k ≤ 1086 ∧ n ≤ 10291 := ⟨by omega, by omega⟩
  obtain ⟨hI, hF, hl⟩ := id hV
  have hres := hI.res
  have hreq := hI.req
  obtain ⟨a, hja, ea⟩ := xI (xs (i + 1))
  refine jw_aload_1 (pc := 964) C dL_law_964 ?_
  refine jw_aload_0 (pc := 965) C dL_law_965 ?_
  refine jw_iload_4 (pc := 966) C dL_law_966 ?_
  refine jw_iconst (pc := 968) C dL_law_968 ?_
  refine jw_iadd (pc := 969) C dL_law_969 ?_
  refine jw_sldi (pc := 970) C S (i + 1) (by omega) (by omega) hN ea dL_law_970 ?_
  refine jw_aload_3 (pc := 971) C dL_law_971 ?_
  by_cases ha : 0 ≤ a ∧ a < l.sz
  · obtain ⟨a, rfl⟩ := Int.eq_ofNat_of_zero_le ha.1
    refine jw_sH (pc := 972) (wr := wR G ad2 R) C Ev (h_movedRequest sa G ad P l A T F q f hl a ha.2) wh_L_movedRequest kml_L_138 (List.range 31) ((List.range 15).map (· + 31)) rfl rfl rfl rfl (by decide) rfl rfl (Nat.le_of_ble_eq_true rfl) ⟨by decide, by decide⟩ ⟨hk0.1, hk0.2⟩ dL_law_972 rfl (fun z u h => ?_)
    have h8 := h
    subst h8
    clear h
    refine lt_movedRequest C S hi hN ea (c_X6_movedRequest G ad2 P l R hI hR _ hja hl) hk0 ⟨by decide, by decide⟩ hV (fun zm v h => ?_) kk.widen
    obtain ⟨e, h⟩ := h
    rcases h with ⟨-, -, h1, h2⟩ | ⟨h1, -⟩
    · exact ⟨RR_thr hR e, h1, fun _ => by rw [h2]; exact upd00 f _⟩
    · exact absurd ha h1
  · refine jw_sH (pc := 972) (wr := wR G ad2 R) C Ev (h_movedRequest_IOE sa G ad P l A T F q f hl a hja ha) wh_L_movedRequest kml_L_138 (List.range 31) ((List.range 15).map (· + 31)) rfl rfl rfl rfl (by decide) rfl rfl (Nat.le_of_ble_eq_true rfl) ⟨by decide, by decide⟩ ⟨hk.1, hk.2⟩ dL_law_972 rfl (fun z u h => ?_)
    have h8 := h
    subst h8
    clear h
    refine lt_movedRequest C S hi hN ea (c_X6_movedRequest G ad2 P l R hI hR _ hja hl) hk ⟨by decide, by decide⟩ hV (fun zm v h => ?_) kk
    obtain ⟨e, h⟩ := h
    rcases h with ⟨h1, h2, -⟩ | ⟨-, h1⟩
    · exact absurd ⟨h1, h2⟩ ha
    · exact ⟨RR_thr hR e, h1, fun h => absurd h (by decide)⟩
set_option maxRecDepth 100000 in
set_option maxHeartbeats 4000000 in
theorem lc_movedTo {G : jG} {X : JX} {k n : Nat} {ad ad2 : Nat → Nat} {q b i N : Nat} {xs : Nat → Int32} {sa : Nat → Nat} {P : QP} {l : QL} {A : QA} {T : Nat → Bool} {F : QF} {f : Nat → Int64} {R : QR} (C : JC G X room_1 cL_law RL 9) (Ev : JE sa X) (S : JScr X b N xs) (hi : i + 4 ≤ N) (hN : N < 1000000) (hk : k + 1 ≤ 1086 ∧ n + 6 ≤ 10291) (hV : SV P l) (hR : RR P l R) (kk : LK G X ad ad2 q b i (k + 1) (n + 6)) : JW G X k n (wL G ad ad2 P l A T F q f R) 1020 (lL b ad ad2 q i) [] := by
  have hk0 : k ≤ 1086 ∧ n ≤ 10291 := ⟨by omega, by omega⟩
  obtain ⟨hI, hF, hl⟩ := id hV
  have hres := hI.res
  have hreq := hI.req
  obtain ⟨a, hja, ea⟩ := xI (xs (i + 1))
  refine jw_aload_1 (pc := 1020) C dL_law_1020 ?_
  refine jw_aload_0 (pc := 1021) C dL_law_1021 ?_
  refine jw_iload_4 (pc := 1022) C dL_law_1022 ?_
  refine jw_iconst (pc := 1024) C dL_law_1024 ?_
  refine jw_iadd (pc := 1025) C dL_law_1025 ?_
  refine jw_sldi (pc := 1026) C S (i + 1) (by omega) (by omega) hN ea dL_law_1026 ?_
  refine jw_aload_3 (pc := 1027) C dL_law_1027 ?_
  by_cases ha : 0 ≤ a ∧ a < l.sz
  · obtain ⟨a, rfl⟩ := Int.eq_ofNat_of_zero_le ha.1
    refine jw_sH (pc := 1028) (wr := wR G ad2 R) C Ev (h_movedTo sa G ad P l A T F q f hl a ha.2) wh_L_movedTo kml_L_141 (List.range 31) ((List.range 15).map (· + 31)) rfl rfl rfl rfl (by decide) rfl rfl (Nat.le_of_ble_eq_true rfl) ⟨by decide, by decide⟩ ⟨hk0.1, hk0.2⟩ dL_law_1028 rfl (fun z u h => ?_)
    have h8 := h
    subst h8
    clear h
    refine lt_movedTo C S hi hN ea (c_X6_movedTo G ad2 P l R hI hR _ hja hl) hk0 ⟨by decide, by decide⟩ hV (fun zm v h => ?_) kk.widen
    obtain ⟨e, h⟩ := h
    rcases h with ⟨-, -, h1, h2⟩ | ⟨h1, -⟩
    · exact ⟨RR_thr hR e, h1, fun _ => by rw [h2]; exact upd00 f _⟩
    · exact absurd ha h1
  · refine jw_sH (pc := 1028) (wr := wR G ad2 R) C Ev (h_movedTo_IOE sa G ad P l A T F q f hl a hja ha) wh_L_movedTo kml_L_141 (List.range 31) ((List.range 15).map (· + 31)) rfl rfl rfl rfl (by decide) rfl rfl (Nat.le_of_ble_eq_true rfl) ⟨by decide, by decide⟩ ⟨hk.1, hk.2⟩ dL_law_1028 rfl (fun z u h => ?_)
    have h8 := h
    subst h8
    clear h
    refine lt_movedTo C S hi hN ea (c_X6_movedTo G ad2 P l R hI hR _ hja hl) hk ⟨by decide, by decide⟩ hV (fun zm v h => ?_) kk
    obtain ⟨e, h⟩ := h
    rcases h with ⟨h1, h2, -⟩ | ⟨-, h1⟩
    · exact absurd ⟨h1, h2⟩ ha
    · exact ⟨RR_thr hR e, h1, fun h => absurd h (by decide)⟩
set_option maxRecDepth 100000 in
set_option maxHeartbeats 4000000 in
theorem lc_resourceOf {G : jG} {X : JX} {k n : Nat} {ad ad2 : Nat → Nat} {q b i N : Nat} {xs : Nat → Int32} {sa : Nat → Nat} {P : QP} {l : QL} {A : QA} {T : Nat → Bool} {F : QF} {f : Nat → Int64} {R : QR} (C : JC G X room_1 cL_law RL 9) (Ev : JE sa X) (S : JScr X b N xs) (hi : i + 4 ≤ N) (hN : N < 1000000) (hk : k + 1 ≤ 1086 ∧ n + 6 ≤ 10291) (hV : SV P l) (hR : RR P l R) (kk : LK G X ad ad2 q b i (k + 1) (n + 6)) : JW G X k n (wL G ad ad2 P l A T F q f R) 839 (lL b ad ad2 q i) [] := by
  have hk0 : k ≤ 1086 ∧ n ≤ 10291 := ⟨by omega, by omega⟩
  obtain ⟨hI, hF, hl⟩ := id hV
  have hres := hI.res
  have hreq := hI.req
  obtain ⟨a, hja, ea⟩ := xI (xs (i + 1))
  refine jw_aload_1 (pc := 839) C dL_law_839 ?_
  refine jw_aload_0 (pc := 840) C dL_law_840 ?_
  refine jw_iload_4 (pc := 841) C dL_law_841 ?_
  refine jw_iconst (pc := 843) C dL_law_843 ?_
  refine jw_iadd (pc := 844) C dL_law_844 ?_
  refine jw_sldi (pc := 845) C S (i + 1) (by omega) (by omega) hN ea dL_law_845 ?_
  refine jw_aload_3 (pc := 846) C dL_law_846 ?_
  by_cases ha : 0 ≤ a ∧ a < P.req
  · obtain ⟨a, rfl⟩ := Int.eq_ofNat_of_zero_le ha.1
    by_cases hd : 0 ≤ P.plc a
    · refine jw_sH (pc := 847) (wr := wR G ad2 R) C Ev (h_resourceOf sa G ad P l A T F q f hI a ha.2 hd) wh_L_resourceOf kml_L_128 (List.range 31) ((List.range 15).map (· + 31)) rfl rfl rfl rfl (by decide) rfl rfl (Nat.le_of_ble_eq_true rfl) ⟨by decide, by decide⟩ ⟨hk0.1, hk0.2⟩ dL_law_847 rfl (fun z u h => ?_)
      have h8 := h
      subst h8
      clear h
      refine lt_resourceOf C S hi hN ea (c_X6_resourceOf G ad2 P l R hI hR _ hja) hk0 ⟨by decide, by decide⟩ hV (fun zm v h => ?_) kk.widen
      obtain ⟨e, h⟩ := h
      rcases h with ⟨-, -, -, h1, h2⟩ | ⟨-, -, h1, -⟩ | ⟨h1, -⟩
      · exact ⟨RR_thr hR e, h1, fun _ => by rw [h2]; exact upd00 f _⟩
      · exact absurd hd h1
      · exact absurd ha h1
    · refine jw_sH (pc := 847) (wr := wR G ad2 R) C Ev (h_resourceOf_NSE sa G ad P l A T F q f hI a ha.2 hd) wh_L_resourceOf kml_L_128 (List.range 31) ((List.range 15).map (· + 31)) rfl rfl rfl rfl (by decide) rfl rfl (Nat.le_of_ble_eq_true rfl) ⟨by decide, by decide⟩ ⟨hk.1, hk.2⟩ dL_law_847 rfl (fun z u h => ?_)
      have h8 := h
      subst h8
      clear h
      refine lt_resourceOf C S hi hN ea (c_X6_resourceOf G ad2 P l R hI hR _ hja) hk ⟨by decide, by decide⟩ hV (fun zm v h => ?_) kk
      obtain ⟨e, h⟩ := h
      rcases h with ⟨-, -, h1, -⟩ | ⟨-, -, -, h1⟩ | ⟨h1, -⟩
      · exact absurd h1 hd
      · exact ⟨RR_thr hR e, h1, fun h => absurd h (by decide)⟩
      · exact absurd ha h1
  · refine jw_sH (pc := 847) (wr := wR G ad2 R) C Ev (h_resourceOf_IOE sa G ad P l A T F q f hI a hja ha) wh_L_resourceOf kml_L_128 (List.range 31) ((List.range 15).map (· + 31)) rfl rfl rfl rfl (by decide) rfl rfl (Nat.le_of_ble_eq_true rfl) ⟨by decide, by decide⟩ ⟨hk.1, hk.2⟩ dL_law_847 rfl (fun z u h => ?_)
    have h8 := h
    subst h8
    clear h
    refine lt_resourceOf C S hi hN ea (c_X6_resourceOf G ad2 P l R hI hR _ hja) hk ⟨by decide, by decide⟩ hV (fun zm v h => ?_) kk
    obtain ⟨e, h⟩ := h
    rcases h with ⟨h1, h2, -⟩ | ⟨h1, h2, -⟩ | ⟨-, h1⟩
    · exact absurd ⟨h1, h2⟩ ha
    · exact absurd ⟨h1, h2⟩ ha
    · exact ⟨RR_thr hR e, h1, fun h => absurd h (by decide)⟩
set_option maxRecDepth 100000 in
set_option maxHeartbeats 4000000 in
theorem lc_movesNeeded {G : jG} {X : JX} {k n : Nat} {ad ad2 : Nat → Nat} {q b i N : Nat} {xs : Nat → Int32} {sa : Nat → Nat} {P : QP} {l : QL} {A : QA} {T : Nat → Bool} {F : QF} {f : Nat → Int64} {R : QR} (C : JC G X room_1 cL_law RL 9) (Ev : JE sa X) (S : JScr X b N xs) (hi : i + 4 ≤ N) (hN : N < 1000000) (hk : k + 1 ≤ 1086 ∧ n + 6 ≤ 10291) (hV : SV P l) (hR : RR P l R) (kk : LK G X ad ad2 q b i (k + 1) (n + 6)) : JW G X k n (wL G ad ad2 P l A T F q f R) 1076 (lL b ad ad2 q i) [] := by
  have hk0 : k ≤ 1086 ∧ n ≤ 10291 := ⟨by omega, by omega⟩
  obtain ⟨hI, hF, hl⟩ := id hV
  have hres := hI.res
  have hreq := hI.req
  obtain ⟨a, hja, ea⟩ := xI (xs (i + 1))
  refine jw_aload_1 (pc := 1076) C dL_law_1076 ?_
  refine jw_aload_0 (pc := 1077) C dL_law_1077 ?_
  refine jw_iload_4 (pc := 1078) C dL_law_1078 ?_
  refine jw_iconst (pc := 1080) C dL_law_1080 ?_
  refine jw_iadd (pc := 1081) C dL_law_1081 ?_
  refine jw_sldi (pc := 1082) C S (i + 1) (by omega) (by omega) hN ea dL_law_1082 ?_
  refine jw_aload_3 (pc := 1083) C dL_law_1083 ?_
  by_cases ha : 0 ≤ a ∧ a < P.req
  · obtain ⟨a, rfl⟩ := Int.eq_ofNat_of_zero_le ha.1
    by_cases hd : P.plc a = -1
    · refine jw_sH (pc := 1084) (wr := wR G ad2 R) C Ev (h_movesNeeded sa G ad P l A T F q f hI a ha.2 hd) wh_L_movesNeeded kml_L_144 (List.range 31) ((List.range 15).map (· + 31)) rfl rfl rfl rfl (by decide) rfl rfl (Nat.le_of_ble_eq_true rfl) ⟨by decide, by decide⟩ ⟨hk0.1, hk0.2⟩ dL_law_1084 rfl (fun z u h => ?_)
      have h8 := h
      subst h8
      clear h
      refine lt_movesNeeded C S hi hN ea (c_X6_movesNeeded G ad2 P l R hI hR _ hja) hk0 ⟨by decide, by decide⟩ hV (fun zm v h => ?_) kk.widen
      obtain ⟨⟨g, e⟩, h⟩ := h
      rcases h with ⟨-, -, -, h1, h2⟩ | ⟨-, -, h1, -⟩ | ⟨h1, -⟩
      · exact ⟨RR_thr (RR_far hR) e, h1, fun _ => by rw [h2]; exact upd00 f _⟩
      · exact absurd hd h1
      · exact absurd ha h1
    · refine jw_sH (pc := 1084) (wr := wR G ad2 R) C Ev (h_movesNeeded_NSE sa G ad P l A T F q f hI a ha.2 hd) wh_L_movesNeeded kml_L_144 (List.range 31) ((List.range 15).map (· + 31)) rfl rfl rfl rfl (by decide) rfl rfl (Nat.le_of_ble_eq_true rfl) ⟨by decide, by decide⟩ ⟨hk.1, hk.2⟩ dL_law_1084 rfl (fun z u h => ?_)
      have h8 := h
      subst h8
      clear h
      refine lt_movesNeeded C S hi hN ea (c_X6_movesNeeded G ad2 P l R hI hR _ hja) hk ⟨by decide, by decide⟩ hV (fun zm v h => ?_) kk
      obtain ⟨⟨g, e⟩, h⟩ := h
      rcases h with ⟨-, -, h1, -⟩ | ⟨-, -, -, h1⟩ | ⟨h1, -⟩
      · exact absurd h1 hd
      · exact ⟨RR_thr (RR_far hR) e, h1, fun h => absurd h (by decide)⟩
      · exact absurd ha h1
  · refine jw_sH (pc := 1084) (wr := wR G ad2 R) C Ev (h_movesNeeded_IOE sa G ad P l A T F q f hI a hja ha) wh_L_movesNeeded kml_L_144 (List.range 31) ((List.range 15).map (· + 31)) rfl rfl rfl rfl (by decide) rfl rfl (Nat.le_of_ble_eq_true rfl) ⟨by decide, by decide⟩ ⟨hk.1, hk.2⟩ dL_law_1084 rfl (fun z u h => ?_)
    have h8 := h
    subst h8
    clear h
    refine lt_movesNeeded C S hi hN ea (c_X6_movesNeeded G ad2 P l R hI hR _ hja) hk ⟨by decide, by decide⟩ hV (fun zm v h => ?_) kk
    obtain ⟨⟨g, e⟩, h⟩ := h
    rcases h with ⟨h1, h2, -⟩ | ⟨h1, h2, -⟩ | ⟨-, h1⟩
    · exact absurd ⟨h1, h2⟩ ha
    · exact absurd ⟨h1, h2⟩ ha
    · exact ⟨RR_thr (RR_far hR) e, h1, fun h => absurd h (by decide)⟩
set_option maxRecDepth 100000 in
set_option maxHeartbeats 4000000 in
theorem lc_gainBy {G : jG} {X : JX} {k n : Nat} {ad ad2 : Nat → Nat} {q b i N : Nat} {xs : Nat → Int32} {sa : Nat → Nat} {P : QP} {l : QL} {A : QA} {T : Nat → Bool} {F : QF} {f : Nat → Int64} {R : QR} (C : JC G X room_1 cL_law RL 9) (Ev : JE sa X) (S : JScr X b N xs) (hi : i + 4 ≤ N) (hN : N < 1000000) (hk : k + 1 ≤ 1086 ∧ n + 6 ≤ 10291) (hV : SV P l) (hR : RR P l R) (kk : LK G X ad ad2 q b i (k + 1) (n + 6)) : JW G X k n (wL G ad ad2 P l A T F q f R) 1145 (lL b ad ad2 q i) [] := by
  have hk0 : k ≤ 1086 ∧ n ≤ 10291 := ⟨by omega, by omega⟩
  obtain ⟨hI, hF, hl⟩ := id hV
  have hres := hI.res
  have hreq := hI.req
  obtain ⟨a, hja, ea⟩ := xI (xs (i + 1))
  refine jw_aload_1 (pc := 1145) C dL_law_1145 ?_
  refine jw_aload_0 (pc := 1146) C dL_law_1146 ?_
  refine jw_iload_4 (pc := 1147) C dL_law_1147 ?_
  refine jw_iconst (pc := 1149) C dL_law_1149 ?_
  refine jw_iadd (pc := 1150) C dL_law_1150 ?_
  refine jw_sldi (pc := 1151) C S (i + 1) (by omega) (by omega) hN ea dL_law_1151 ?_
  refine jw_aload_3 (pc := 1152) C dL_law_1152 ?_
  by_cases ha : 0 ≤ a ∧ a < P.req
  · obtain ⟨a, rfl⟩ := Int.eq_ofNat_of_zero_le ha.1
    refine jw_sH (pc := 1153) (wr := wR G ad2 R) C Ev (h_gainBy sa G ad P l A T F q f hI a ha.2 hF) wh_L_gainBy kml_L_151 (List.range 31) ((List.range 15).map (· + 31)) rfl rfl rfl rfl (by decide) rfl rfl (Nat.le_of_ble_eq_true rfl) ⟨by decide, by decide⟩ ⟨hk0.1, hk0.2⟩ dL_law_1153 rfl (fun z u h => ?_)
    obtain ⟨z2, u2⟩ := u
    obtain ⟨h8, h9⟩ := h
    replace h9 : gainZ P a u2 := h9
    subst h8
    refine lt_gainBy C S hi hN ea (c_X6_gainBy G ad2 P l R hI hR _ hja hF.2.2.2) hk0 ⟨by decide, by decide⟩ hV (fun zm v h => ?_) kk.widen
    obtain ⟨e, h⟩ := h
    rcases h with ⟨-, -, h1, h2⟩ | ⟨h1, -⟩
    · exact ⟨RR_thr hR e, h1, fun _ => by rw [gainZ_uniq (r := a) h2 h9]; exact upd00 f _⟩
    · exact absurd ha h1
  · refine jw_sH (pc := 1153) (wr := wR G ad2 R) C Ev (h_gainBy_IOE sa G ad P l A T F q f hI a hja ha) wh_L_gainBy kml_L_151 (List.range 31) ((List.range 15).map (· + 31)) rfl rfl rfl rfl (by decide) rfl rfl (Nat.le_of_ble_eq_true rfl) ⟨by decide, by decide⟩ ⟨hk.1, hk.2⟩ dL_law_1153 rfl (fun z u h => ?_)
    have h8 := h
    subst h8
    clear h
    refine lt_gainBy C S hi hN ea (c_X6_gainBy G ad2 P l R hI hR _ hja hF.2.2.2) hk ⟨by decide, by decide⟩ hV (fun zm v h => ?_) kk
    obtain ⟨e, h⟩ := h
    rcases h with ⟨h1, h2, -⟩ | ⟨-, h1⟩
    · exact absurd ⟨h1, h2⟩ ha
    · exact ⟨RR_thr hR e, h1, fun h => absurd h (by decide)⟩
