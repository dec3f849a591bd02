/-! the law's loop: calls without arguments -/
set_option maxRecDepth 100000 in
set_option maxHeartbeats 4000000 in
theorem lc_resourceCount {G : jG} {X : JX} {k n : Nat} {ad ad2 : Nat → Nat} {q b i N : Nat} {xs : Nat → Int32} {sa : Nat → Nat} {P : QP} {l : QL} {A : QA} {T : Nat → Bool} {F : QF} {f : Nat → Int64} {R : QR} (C : JC G X room_1 cL_law RL 9) (Ev : JE sa X) (S : JScr X b N xs) (hi : i + 4 ≤ N) (hN : N < 1000000) (hk : k + 1 ≤ 1086 ∧ n + 6 ≤ 10291) (hV : SV P l) (hR : RR P l R) (kk : LK G X ad ad2 q b i (k + 1) (n + 6)) : JW G X k n (wL G ad ad2 P l A T F q f R) 619 (lL b ad ad2 q i) [] := by
  have hk0 : k ≤ 1086 ∧ n ≤ 10291 := ⟨by omega, by omega⟩
  obtain ⟨hI, hF, hl⟩ := id hV
  have hres := hI.res
  have hreq := hI.req
  refine jw_aload_1 (pc := 619) C dL_law_619 ?_
  refine jw_sV_I (pc := 620) (wr := jAL G q f :: wR G ad2 R) C (c_X5_resourceCount G ad P l A T F ) wd_X5_resourceCount kml_L_103 0 rfl rfl (List.range 30) ((List.range 16).map (· + 30)) rfl rfl rfl rfl (by decide) rfl rfl (Nat.le_of_ble_eq_true rfl) ⟨by decide, by decide⟩ ⟨hk0.1, hk0.2⟩ dL_law_620 rfl (fun z5 u5 h5 => ?_)
  refine jw_aload_2 (pc := 623) C dL_law_623 ?_
  refine jw_sV_I (pc := 624) (wr := jAL G q f :: wC G ad P l A T F) C (c_X6_resourceCount G ad2 P l R hI hR) wd_X6_resourceCount kml_L_106 1 rfl rfl ((List.range 15).map (· + 1)) (0 :: (List.range 30).map (· + 16)) rfl rfl rfl rfl (by decide) rfl rfl (Nat.le_of_ble_eq_true rfl) ⟨by decide, by decide⟩ ⟨hk0.1, hk0.2⟩ dL_law_624 rfl (fun z6 u6 h6 => ?_)
  obtain ⟨e6, e7, e8⟩ := h6
  have ez : z5 = z6 := by rw [h5, e8]
  exact jw_icmp_eq_r (pc := 627) (tgt := 1256) C dL_law_627 (by decide) (fun _ => jw_sub ((List.range 30).map (· + 1) ++ [0] ++ (List.range 15).map (· + 31)) rfl rfl (kk.widen P l A T F f u6 hV (RR_thr hR e6))) (fun h => absurd ez h)
set_option maxRecDepth 100000 in
set_option maxHeartbeats 4000000 in
theorem lc_arrivedCount {G : jG} {X : JX} {k n : Nat} {ad ad2 : Nat → Nat} {q b i N : Nat} {xs : Nat → Int32} {sa : Nat → Nat} {P : QP} {l : QL} {A : QA} {T : Nat → Bool} {F : QF} {f : Nat → Int64} {R : QR} (C : JC G X room_1 cL_law RL 9) (Ev : JE sa X) (S : JScr X b N xs) (hi : i + 4 ≤ N) (hN : N < 1000000) (hk : k + 1 ≤ 1086 ∧ n + 6 ≤ 10291) (hV : SV P l) (hR : RR P l R) (kk : LK G X ad ad2 q b i (k + 1) (n + 6)) : JW G X k n (wL G ad ad2 P l A T F q f R) 632 (lL b ad ad2 q i) [] := by
  have hk0 : k ≤ 1086 ∧ n ≤ 10291 := ⟨by omega, by omega⟩
  obtain ⟨hI, hF, hl⟩ := id hV
  have hres := hI.res
  have hreq := hI.req
  refine jw_aload_1 (pc := 632) C dL_law_632 ?_
  refine jw_sV_I (pc := 633) (wr := jAL G q f :: wR G ad2 R) C (c_X5_arrivedCount G ad P l A T F ) wd_X5_arrivedCount kml_L_107 0 rfl rfl (List.range 30) ((List.range 16).map (· + 30)) rfl rfl rfl rfl (by decide) rfl rfl (Nat.le_of_ble_eq_true rfl) ⟨by decide, by decide⟩ ⟨hk0.1, hk0.2⟩ dL_law_633 rfl (fun z5 u5 h5 => ?_)
  refine jw_aload_2 (pc := 636) C dL_law_636 ?_
  refine jw_sV_I (pc := 637) (wr := jAL G q f :: wC G ad P l A T F) C (c_X6_arrivedCount G ad2 P l R hI hR) wd_X6_arrivedCount kml_L_110 1 rfl rfl ((List.range 15).map (· + 1)) (0 :: (List.range 30).map (· + 16)) rfl rfl rfl rfl (by decide) rfl rfl (Nat.le_of_ble_eq_true rfl) ⟨by decide, by decide⟩ ⟨hk0.1, hk0.2⟩ dL_law_637 rfl (fun z6 u6 h6 => ?_)
  obtain ⟨e6, e7, e8⟩ := h6
  have ez : z5 = z6 := by rw [h5, e8]
  exact jw_icmp_eq_r (pc := 640) (tgt := 1256) C dL_law_640 (by decide) (fun _ => jw_sub ((List.range 30).map (· + 1) ++ [0] ++ (List.range 15).map (· + 31)) rfl rfl (kk.widen P l A T F f u6 hV (RR_thr hR e6))) (fun h => absurd ez h)
set_option maxRecDepth 100000 in
set_option maxHeartbeats 4000000 in
theorem lc_assignedCount {G : jG} {X : JX} {k n : Nat} {ad ad2 : Nat → Nat} {q b i N : Nat} {xs : Nat → Int32} {sa : Nat → Nat} {P : QP} {l : QL} {A : QA} {T : Nat → Bool} {F : QF} {f : Nat → Int64} {R : QR} (C : JC G X room_1 cL_law RL 9) (Ev : JE sa X) (S : JScr X b N xs) (hi : i + 4 ≤ N) (hN : N < 1000000) (hk : k + 1 ≤ 1086 ∧ n + 6 ≤ 10291) (hV : SV P l) (hR : RR P l R) (kk : LK G X ad ad2 q b i (k + 1) (n + 6)) : JW G X k n (wL G ad ad2 P l A T F q f R) 645 (lL b ad ad2 q i) [] := by
  have hk0 : k ≤ 1086 ∧ n ≤ 10291 := ⟨by omega, by omega⟩
  obtain ⟨hI, hF, hl⟩ := id hV
  have hres := hI.res
  have hreq := hI.req
  refine jw_aload_1 (pc := 645) C dL_law_645 ?_
  refine jw_sV_I (pc := 646) (wr := jAL G q f :: wR G ad2 R) C (c_X5_assignedCount G ad P l A T F ) wd_X5_assignedCount kml_L_111 0 rfl rfl (List.range 30) ((List.range 16).map (· + 30)) rfl rfl rfl rfl (by decide) rfl rfl (Nat.le_of_ble_eq_true rfl) ⟨by decide, by decide⟩ ⟨hk0.1, hk0.2⟩ dL_law_646 rfl (fun z5 u5 h5 => ?_)
  refine jw_aload_2 (pc := 649) C dL_law_649 ?_
  refine jw_sV_I (pc := 650) (wr := jAL G q f :: wC G ad P l A T F) C (c_X6_assignedCount G ad2 P l R hI hR) wd_X6_assignedCount kml_L_114 1 rfl rfl ((List.range 15).map (· + 1)) (0 :: (List.range 30).map (· + 16)) rfl rfl rfl rfl (by decide) rfl rfl (Nat.le_of_ble_eq_true rfl) ⟨by decide, by decide⟩ ⟨hk0.1, hk0.2⟩ dL_law_650 rfl (fun z6 u6 h6 => ?_)
  obtain ⟨e6, e7, e8⟩ := h6
  have ez : z5 = z6 := by rw [h5, e8, (cnt_all hI)]
  exact jw_icmp_eq_r (pc := 653) (tgt := 1256) C dL_law_653 (by decide) (fun _ => jw_sub ((List.range 30).map (· + 1) ++ [0] ++ (List.range 15).map (· + 31)) rfl rfl (kk.widen P l A T F f u6 hV (RR_thr hR e6))) (fun h => absurd ez h)
set_option maxRecDepth 100000 in
set_option maxHeartbeats 4000000 in
theorem lc_waitingCount {G : jG} {X : JX} {k n : Nat} {ad ad2 : Nat → Nat} {q b i N : Nat} {xs : Nat → Int32} {sa : Nat → Nat} {P : QP} {l : QL} {A : QA} {T : Nat → Bool} {F : QF} {f : Nat → Int64} {R : QR} (C : JC G X room_1 cL_law RL 9) (Ev : JE sa X) (S : JScr X b N xs) (hi : i + 4 ≤ N) (hN : N < 1000000) (hk : k + 1 ≤ 1086 ∧ n + 6 ≤ 10291) (hV : SV P l) (hR : RR P l R) (kk : LK G X ad ad2 q b i (k + 1) (n + 6)) : JW G X k n (wL G ad ad2 P l A T F q f R) 658 (lL b ad ad2 q i) [] := by
  have hk0 : k ≤ 1086 ∧ n ≤ 10291 := ⟨by omega, by omega⟩
  obtain ⟨hI, hF, hl⟩ := id hV
  have hres := hI.res
  have hreq := hI.req
  refine jw_aload_1 (pc := 658) C dL_law_658 ?_
  refine jw_sV_I (pc := 659) (wr := jAL G q f :: wR G ad2 R) C (c_X5_waitingCount G ad P l A T F hI) wd_X5_waitingCount kml_L_115 0 rfl rfl (List.range 30) ((List.range 16).map (· + 30)) rfl rfl rfl rfl (by decide) rfl rfl (Nat.le_of_ble_eq_true rfl) ⟨by decide, by decide⟩ ⟨hk0.1, hk0.2⟩ dL_law_659 rfl (fun z5 u5 h5 => ?_)
  refine jw_aload_2 (pc := 662) C dL_law_662 ?_
  refine jw_sV_I (pc := 663) (wr := jAL G q f :: wC G ad P l A T F) C (c_X6_waitingCount G ad2 P l R hI hR) wd_X6_waitingCount kml_L_118 1 rfl rfl ((List.range 15).map (· + 1)) (0 :: (List.range 30).map (· + 16)) rfl rfl rfl rfl (by decide) rfl rfl (Nat.le_of_ble_eq_true rfl) ⟨by decide, by decide⟩ ⟨hk0.1, hk0.2⟩ dL_law_663 rfl (fun z6 u6 h6 => ?_)
  obtain ⟨e6, e7, e8⟩ := h6
  have ez : z5 = z6 := by rw [h5, e8, (cnt_wait P)]
  exact jw_icmp_eq_r (pc := 666) (tgt := 1256) C dL_law_666 (by decide) (fun _ => jw_sub ((List.range 30).map (· + 1) ++ [0] ++ (List.range 15).map (· + 31)) rfl rfl (kk.widen P l A T F f u6 hV (RR_thr hR e6))) (fun h => absurd ez h)
set_option maxRecDepth 100000 in
set_option maxHeartbeats 4000000 in
theorem lc_moveCount {G : jG} {X : JX} {k n : Nat} {ad ad2 : Nat → Nat} {q b i N : Nat} {xs : Nat → Int32} {sa : Nat → Nat} {P : QP} {l : QL} {A : QA} {T : Nat → Bool} {F : QF} {f : Nat → Int64} {R : QR} (C : JC G X room_1 cL_law RL 9) (Ev : JE sa X) (S : JScr X b N xs) (hi : i + 4 ≤ N) (hN : N < 1000000) (hk : k + 1 ≤ 1086 ∧ n + 6 ≤ 10291) (hV : SV P l) (hR : RR P l R) (kk : LK G X ad ad2 q b i (k + 1) (n + 6)) : JW G X k n (wL G ad ad2 P l A T F q f R) 951 (lL b ad ad2 q i) [] := by
  have hk0 : k ≤ 1086 ∧ n ≤ 10291 := ⟨by omega, by omega⟩
  obtain ⟨hI, hF, hl⟩ := id hV
  have hres := hI.res
  have hreq := hI.req
  refine jw_aload_1 (pc := 951) C dL_law_951 ?_
  refine jw_sV_I (pc := 952) (wr := jAL G q f :: wR G ad2 R) C (c_X5_moveCount G ad P l A T F ) wd_X5_moveCount kml_L_134 0 rfl rfl (List.range 30) ((List.range 16).map (· + 30)) rfl rfl rfl rfl (by decide) rfl rfl (Nat.le_of_ble_eq_true rfl) ⟨by decide, by decide⟩ ⟨hk0.1, hk0.2⟩ dL_law_952 rfl (fun z5 u5 h5 => ?_)
  refine jw_aload_2 (pc := 955) C dL_law_955 ?_
  refine jw_sV_I (pc := 956) (wr := jAL G q f :: wC G ad P l A T F) C (c_X6_moveCount G ad2 P l R hI hR) wd_X6_moveCount kml_L_137 1 rfl rfl ((List.range 15).map (· + 1)) (0 :: (List.range 30).map (· + 16)) rfl rfl rfl rfl (by decide) rfl rfl (Nat.le_of_ble_eq_true rfl) ⟨by decide, by decide⟩ ⟨hk0.1, hk0.2⟩ dL_law_956 rfl (fun z6 u6 h6 => ?_)
  obtain ⟨e6, e7, e8⟩ := h6
  have ez : z5 = z6 := by rw [h5, e8]
  exact jw_icmp_eq_r (pc := 959) (tgt := 1256) C dL_law_959 (by decide) (fun _ => jw_sub ((List.range 30).map (· + 1) ++ [0] ++ (List.range 15).map (· + 31)) rfl rfl (kk.widen P l A T F f u6 hV (RR_thr hR e6))) (fun h => absurd ez h)
set_option maxRecDepth 100000 in
set_option maxHeartbeats 4000000 in
theorem lc_greatestPossible {G : jG} {X : JX} {k n : Nat} {ad ad2 : Nat → Nat} {q b i N : Nat} {xs : Nat → Int32} {sa : Nat → Nat} {P : QP} {l : QL} {A : QA} {T : Nat → Bool} {F : QF} {f : Nat → Int64} {R : QR} (C : JC G X room_1 cL_law RL 9) (Ev : JE sa X) (S : JScr X b N xs) (hi : i + 4 ≤ N) (hN : N < 1000000) (hk : k + 1 ≤ 1086 ∧ n + 6 ≤ 10291) (hV : SV P l) (hR : RR P l R) (kk : LK G X ad ad2 q b i (k + 1) (n + 6)) : JW G X k n (wL G ad ad2 P l A T F q f R) 1132 (lL b ad ad2 q i) [] := by
  have hk0 : k ≤ 1086 ∧ n ≤ 10291 := ⟨by omega, by omega⟩
  obtain ⟨hI, hF, hl⟩ := id hV
  have hres := hI.res
  have hreq := hI.req
  refine jw_aload_1 (pc := 1132) C dL_law_1132 ?_
  refine jw_sV_I (pc := 1133) (wr := jAL G q f :: wR G ad2 R) C (c_X5_greatestPossible G ad P l A T F hI hF) wd_X5_greatestPossible kml_L_147 0 rfl rfl (List.range 30) ((List.range 16).map (· + 30)) rfl rfl rfl rfl (by decide) rfl rfl (Nat.le_of_ble_eq_true rfl) ⟨by decide, by decide⟩ ⟨hk0.1, hk0.2⟩ dL_law_1133 rfl (fun z5 u5 h5 => ?_)
  refine jw_aload_2 (pc := 1136) C dL_law_1136 ?_
  refine jw_sV_I (pc := 1137) (wr := jAL G q f :: wC G ad P l A T u5) C (c_X6_greatestPossible G ad2 P l R hI hR hF.2.2.2) wd_X6_greatestPossible kml_L_150 1 rfl rfl ((List.range 15).map (· + 1)) (0 :: (List.range 30).map (· + 16)) rfl rfl rfl rfl (by decide) rfl rfl (Nat.le_of_ble_eq_true rfl) ⟨by decide, by decide⟩ ⟨hk0.1, hk0.2⟩ dL_law_1137 rfl (fun z6 u6 h6 => ?_)
  obtain ⟨e6, e7, e8⟩ := h6
  obtain ⟨v5, e5, -, m5⟩ := h5
  obtain ⟨v6, e9, -, m6⟩ := e8
  have ez : z5 = z6 := by rw [e5, e9, m5.uniq m6]
  exact jw_icmp_eq_r (pc := 1140) (tgt := 1256) C dL_law_1140 (by decide) (fun _ => jw_sub ((List.range 30).map (· + 1) ++ [0] ++ (List.range 15).map (· + 31)) rfl rfl (kk.widen P l A T u5 f u6 hV (RR_thr hR e6))) (fun h => absurd ez h)
set_option maxRecDepth 100000 in
set_option maxHeartbeats 4000000 in
theorem lc_digest {G : jG} {X : JX} {k n : Nat} {ad ad2 : Nat → Nat} {q b i N : Nat} {xs : Nat → Int32} {sa : Nat → Nat} {P : QP} {l : QL} {A : QA} {T : Nat → Bool} {F : QF} {f : Nat → Int64} {R : QR} (C : JC G X room_1 cL_law RL 9) (Ev : JE sa X) (S : JScr X b N xs) (hi : i + 4 ≤ N) (hN : N < 1000000) (hk : k + 1 ≤ 1086 ∧ n + 6 ≤ 10291) (hV : SV P l) (hR : RR P l R) (kk : LK G X ad ad2 q b i (k + 1) (n + 6)) : JW G X k n (wL G ad ad2 P l A T F q f R) 1242 (lL b ad ad2 q i) [] := by
  have hk0 : k ≤ 1086 ∧ n ≤ 10291 := ⟨by omega, by omega⟩
  obtain ⟨hI, hF, hl⟩ := id hV
  have hres := hI.res
  have hreq := hI.req
  refine jw_aload_1 (pc := 1242) C dL_law_1242 ?_
  refine jw_sV_L (pc := 1243) (wr := jAL G q f :: wR G ad2 R) C (c_X5_digest G ad P l A T F hI) wd_X5_digest kml_L_159 0 rfl rfl (List.range 30) ((List.range 16).map (· + 30)) rfl rfl rfl rfl (by decide) rfl rfl (Nat.le_of_ble_eq_true rfl) ⟨by decide, by decide⟩ ⟨hk0.1, hk0.2⟩ dL_law_1243 rfl (fun z5 u5 h5 => ?_)
  refine jw_aload_2 (pc := 1246) C dL_law_1246 ?_
  refine jw_sV_L (pc := 1247) (wr := jAL G q f :: wC G ad P l A T F) C (c_X6_digest G ad2 P l R hI hR) wd_X6_digest kml_L_163 1 rfl rfl ((List.range 15).map (· + 1)) (0 :: (List.range 30).map (· + 16)) rfl rfl rfl rfl (by decide) rfl rfl (Nat.le_of_ble_eq_true rfl) ⟨by decide, by decide⟩ ⟨hk0.1, hk0.2⟩ dL_law_1247 rfl (fun z6 u6 h6 => ?_)
  obtain ⟨e6, e7, e8⟩ := h6
  have ez : z5 = z6 := by rw [h5, e8]
  refine jw_lcmp (pc := 1250) C dL_law_1250 ?_
  exact jw_if_eq_r (pc := 1251) (tgt := 1256) C dL_law_1251 (by decide) (fun _ => jw_sub ((List.range 30).map (· + 1) ++ [0] ++ (List.range 15).map (· + 31)) rfl rfl (kk.widen P l A T F f u6 hV (RR_thr hR e6))) (fun h => absurd ((lg_cmp_eq _ _).mpr ez) h)
set_option maxRecDepth 100000 in
set_option maxHeartbeats 4000000 in
theorem lc_fairness {G : jG} {X : JX} {k n : Nat} {ad ad2 : Nat → Nat} {q b i N : Nat} {xs : Nat → Int32} {sa : Nat → Nat} {P : QP} {l : QL} {A : QA} {T : Nat → Bool} {F : QF} {f : Nat → Int64} {R : QR} (C : JC G X room_1 cL_law RL 9) (Ev : JE sa X) (S : JScr X b N xs) (hi : i + 4 ≤ N) (hN : N < 1000000) (hk : k + 1 ≤ 1086 ∧ n + 6 ≤ 10291) (hV : SV P l) (hR : RR P l R) (kk : LK G X ad ad2 q b i (k + 1) (n + 6)) : JW G X k n (wL G ad ad2 P l A T F q f R) 1201 (lL b ad ad2 q i) [] := by
  have hk0 : k ≤ 1086 ∧ n ≤ 10291 := ⟨by omega, by omega⟩
  obtain ⟨hI, hF, hl⟩ := id hV
  have hres := hI.res
  have hreq := hI.req
  refine jw_aload_1 (pc := 1201) C dL_law_1201 ?_
  refine jw_sV_D (pc := 1202) (wr := jAL G q f :: wR G ad2 R) C (c_X5_fairness G ad P l A T F hI) wd_X5_fairness kml_L_154 0 rfl rfl (List.range 30) ((List.range 16).map (· + 30)) rfl rfl rfl rfl (by decide) rfl rfl (Nat.le_of_ble_eq_true rfl) ⟨by decide, by decide⟩ ⟨hk0.1, hk0.2⟩ dL_law_1202 rfl (fun z5 u5 h5 => ?_)
  refine jw_dstore_5 (pc := 1205) C dL_law_1205 rfl ?_
  refine jw_aload_2 (pc := 1207) C dL_law_1207 ?_
  refine jw_sV_D (pc := 1208) (wr := jAL G q f :: wC G ad P l A T F) C (c_X6_fairness G ad2 P l R hI hR) wd_X6_fairness kml_L_158 1 rfl rfl ((List.range 15).map (· + 1)) (0 :: (List.range 30).map (· + 16)) rfl rfl rfl rfl (by decide) rfl rfl (Nat.le_of_ble_eq_true rfl) ⟨by decide, by decide⟩ ⟨hk0.1, hk0.2⟩ dL_law_1208 rfl (fun z6 u6 h6 => ?_)
  refine jw_dstore_7 (pc := 1211) C dL_law_1211 rfl ?_
  obtain ⟨e6, e7, e8⟩ := h6
  have ez : z5 = z6 := by rw [h5, e8]
  subst ez
  have hE : JW G X k n ((jAL G q f :: wC G ad P l A T F) ++ wR G ad2 u6) 1239 [some (.ref b), some (.ref (ad 0)), some (.ref (ad2 0)), some (.ref q), some (.int (iI (i : Int))), some (.double z5), none, some (.double z5), none] [] := jw_goto (tgt := 1256) C dL_law_1239 (by decide) (jw_sub ((List.range 30).map (· + 1) ++ [0] ++ (List.range 15).map (· + 31)) rfl rfl (jw_lf4 (kk.widen P l A T F f u6 hV (RR_thr hR e6))))
  refine jw_dload_5 (pc := 1213) C dL_law_1213 ?_
  refine jw_dload_7 (pc := 1215) C dL_law_1215 ?_
  refine jw_dcmp (pc := 1217) C dL_law_1217 ?_
  refine jw_if_eq_r (pc := 1218) (tgt := 1239) C dL_law_1218 (by decide) (fun _ => hE) (fun hne => ?_)
  refine jw_dload_5 (pc := 1221) C dL_law_1221 ?_
  refine jw_dload_5 (pc := 1223) C dL_law_1223 ?_
  refine jw_dcmp (pc := 1225) C dL_law_1225 ?_
  refine jw_if_eq_r (pc := 1226) (tgt := 1237) C dL_law_1226 (by decide) (fun h => absurd h hne) (fun _ => ?_)
  refine jw_dload_7 (pc := 1229) C dL_law_1229 ?_
  refine jw_dload_7 (pc := 1231) C dL_law_1231 ?_
  refine jw_dcmp (pc := 1233) C dL_law_1233 ?_
  exact jw_if_ne_r (pc := 1234) (tgt := 1239) C dL_law_1234 (by decide) (fun _ => hE) (fun h => absurd h hne)
