/-! the law's loop: the changers -/
set_option maxRecDepth 100000 in
set_option maxHeartbeats 4000000 in
theorem lc_addResource {G : jG} {X : JX} {k n : Nat} {ad ad2 : Nat → Nat} {q b i N : Nat} {xs : Nat → Int32} {sa : Nat → Nat} {P : QP} {l : QL} {A : QA} {T : Nat → Bool} {F : QF} {f : Nat → Int64} {R : QR} (C : JC G X room_1 cL_law RL 9) (Ev : JE sa X) (S : JScr X b N xs) (hi : i + 4 ≤ N) (hN : N < 1000000) (hk : k + 1 ≤ 1086 ∧ n + 6 ≤ 10291) (hV : SV P l) (hR : RR P l R) (kk : LK G X ad ad2 q b i (k + 1) (n + 6)) : JW G X k n (wL G ad ad2 P l A T F q f R) 148 (lL b ad ad2 q i) [] := by
  have hk0 : k ≤ 1086 ∧ n ≤ 10291 := ⟨by omega, by omega⟩
  obtain ⟨hI, hF, hl⟩ := id hV
  have hres := hI.res
  have hreq := hI.req
  obtain ⟨a, hja, ea⟩ := xI (xs (i + 1))
  refine jw_aload_1 (pc := 148) C dL_law_148 ?_
  refine jw_aload_0 (pc := 149) C dL_law_149 ?_
  refine jw_iload_4 (pc := 150) C dL_law_150 ?_
  refine jw_iconst (pc := 152) C dL_law_152 ?_
  refine jw_iadd (pc := 153) C dL_law_153 ?_
  refine jw_sldi (pc := 154) C S (i + 1) (by omega) (by omega) hN ea dL_law_154 ?_
  refine jw_aload_3 (pc := 155) C dL_law_155 ?_
  by_cases hc : 0 ≤ a ∧ a ≤ 4
  · by_cases hr : P.res < 12
    · refine jw_sH (pc := 156) (wr := wR G ad2 R) C Ev (h_addResource sa G ad P l A T F q f hI hF a hc hr) wh_L_addResource kml_L_73 (List.range 31) ((List.range 15).map (· + 31)) rfl rfl rfl rfl (by decide) rfl rfl (Nat.le_of_ble_eq_true rfl) ⟨by decide, by decide⟩ ⟨hk0.1, hk0.2⟩ dL_law_156 rfl (fun z u h => ?_)
      obtain ⟨P2, l2, A2, T2⟩ := u
      obtain ⟨h8, e1, e2⟩ := h
      subst h8
      replace e1 : P2 = (rn (pOpen P a) l).1 := e1
      replace e2 : l2 = (rn (pOpen P a) l).2.1 := e2
      have hV2 : SV P2 l2 := by rw [e1, e2]; exact (rn_ok (PI_open hI hr hc) (PFe_open hI hF hc.1)).1
      refine lt_addResource C S hi hN ea (c_X6_addResource G ad2 P l R hI hR hF _ hja) hk0 ⟨by decide, by decide⟩ hV2 (fun zm v h => ?_) kk.widen
      rcases h with ⟨-, -, h1, h2, h3⟩ | ⟨-, h1, -⟩ | ⟨h1, -⟩
      · exact ⟨by rw [e1, e2]; exact h3, h1, fun _ => by rw [h2]; exact upd00 f _⟩
      · exact absurd hr (by omega)
      · exact absurd hc h1
    · refine jw_sH (pc := 156) (wr := wR G ad2 R) C Ev (h_addResource_ISE sa G ad P l A T F q f hI a hc (by omega)) wh_L_addResource kml_L_73 (List.range 31) ((List.range 15).map (· + 31)) rfl rfl rfl rfl (by decide) rfl rfl (Nat.le_of_ble_eq_true rfl) ⟨by decide, by decide⟩ ⟨hk.1, hk.2⟩ dL_law_156 rfl (fun z u h => ?_)
      have h8 := h
      subst h8
      clear h
      refine lt_addResource C S hi hN ea (c_X6_addResource G ad2 P l R hI hR hF _ hja) hk ⟨by decide, by decide⟩ hV (fun zm v h => ?_) kk
      rcases h with ⟨-, h1, -⟩ | ⟨-, -, h1, e⟩ | ⟨h1, -⟩
      · exact absurd h1 hr
      · exact ⟨RR_thr hR e, h1, fun h => absurd h (by decide)⟩
      · exact absurd hc h1
  · refine jw_sH (pc := 156) (wr := wR G ad2 R) C Ev (h_addResource_IAE sa G ad P l A T F q f hI a hja hc) wh_L_addResource kml_L_73 (List.range 31) ((List.range 15).map (· + 31)) rfl rfl rfl rfl (by decide) rfl rfl (Nat.le_of_ble_eq_true rfl) ⟨by decide, by decide⟩ ⟨hk.1, hk.2⟩ dL_law_156 rfl (fun z u h => ?_)
    have h8 := h
    subst h8
    clear h
    refine lt_addResource C S hi hN ea (c_X6_addResource G ad2 P l R hI hR hF _ hja) hk ⟨by decide, by decide⟩ hV (fun zm v h => ?_) kk
    rcases h with ⟨h1, -⟩ | ⟨h1, -⟩ | ⟨-, h1, e⟩
    · exact absurd h1 hc
    · exact absurd h1 hc
    · exact ⟨RR_thr hR e, h1, fun h => absurd h (by decide)⟩
set_option maxRecDepth 100000 in
set_option maxHeartbeats 4000000 in
theorem lc_setCapacity {G : jG} {X : JX} {k n : Nat} {ad ad2 : Nat → Nat} {q b i N : Nat} {xs : Nat → Int32} {sa : Nat → Nat} {P : QP} {l : QL} {A : QA} {T : Nat → Bool} {F : QF} {f : Nat → Int64} {R : QR} (C : JC G X room_1 cL_law RL 9) (Ev : JE sa X) (S : JScr X b N xs) (hi : i + 4 ≤ N) (hN : N < 1000000) (hk : k + 1 ≤ 1086 ∧ n + 6 ≤ 10291) (hV : SV P l) (hR : RR P l R) (kk : LK G X ad ad2 q b i (k + 1) (n + 6)) : JW G X k n (wL G ad ad2 P l A T F q f R) 204 (lL b ad ad2 q i) [] := by
  have hk0 : k ≤ 1086 ∧ n ≤ 10291 := ⟨by omega, by omega⟩
  obtain ⟨hI, hF, hl⟩ := id hV
  have hres := hI.res
  have hreq := hI.req
  obtain ⟨a, hja, ea⟩ := xI (xs (i + 1))
  obtain ⟨c, hjc, ec⟩ := xI (xs (i + 2))
  refine jw_aload_1 (pc := 204) C dL_law_204 ?_
  refine jw_aload_0 (pc := 205) C dL_law_205 ?_
  refine jw_iload_4 (pc := 206) C dL_law_206 ?_
  refine jw_iconst (pc := 208) C dL_law_208 ?_
  refine jw_iadd (pc := 209) C dL_law_209 ?_
  refine jw_sldi (pc := 210) C S (i + 1) (by omega) (by omega) hN ea dL_law_210 ?_
  refine jw_aload_0 (pc := 211) C dL_law_211 ?_
  refine jw_iload_4 (pc := 212) C dL_law_212 ?_
  refine jw_iconst (pc := 214) C dL_law_214 ?_
  refine jw_iadd (pc := 215) C dL_law_215 ?_
  refine jw_sldi (pc := 216) C S (i + 2) (by omega) (by omega) hN ec dL_law_216 ?_
  refine jw_aload_3 (pc := 217) C dL_law_217 ?_
  by_cases ha : 0 ≤ a ∧ a < P.res
  · obtain ⟨a, rfl⟩ := Int.eq_ofNat_of_zero_le ha.1
    by_cases hc : 0 ≤ c ∧ c ≤ 4
    · refine jw_sH (pc := 218) (wr := wR G ad2 R) C Ev (h_setCapacity sa G ad P l A T F q f hI hF a ha.2 c hc) wh_L_setCapacity kml_L_83 (List.range 31) ((List.range 15).map (· + 31)) rfl rfl rfl rfl (by decide) rfl rfl (Nat.le_of_ble_eq_true rfl) ⟨by decide, by decide⟩ ⟨hk0.1, hk0.2⟩ dL_law_218 rfl (fun z u h => ?_)
      obtain ⟨P2, l2, A2, T2⟩ := u
      obtain ⟨h8, e1, e2⟩ := h
      subst h8
      replace e1 : P2 = (rn (pBackC a P.req.toNat (pCap P a c) 0).1 l).1 := e1
      replace e2 : l2 = (rn (pBackC a P.req.toNat (pCap P a c) 0).1 l).2.1 := e2
      have hV2 : SV P2 l2 := by rw [e1, e2]; exact (rn_ok (PI_backC hI hc).1 (PFe_backC hI hF hc)).1
      refine lt_setCapacity C S hi hN ea ec (c_X6_setCapacity G ad2 P l R hI hR hF _ hja _ hjc) hk0 ⟨by decide, by decide⟩ hV2 (fun zm v h => ?_) kk.widen
      rcases h with ⟨-, -, -, h1, h2, h3⟩ | ⟨-, -, h1, -⟩ | ⟨h1, -⟩
      · exact ⟨by rw [e1, e2]; exact h3, h1, fun _ => by rw [h2]; exact upd00 f _⟩
      · exact absurd hc h1
      · exact absurd ha h1
    · refine jw_sH (pc := 218) (wr := wR G ad2 R) C Ev (h_setCapacity_IAE sa G ad P l A T F q f hI a ha.2 c hjc hc) wh_L_setCapacity kml_L_83 (List.range 31) ((List.range 15).map (· + 31)) rfl rfl rfl rfl (by decide) rfl rfl (Nat.le_of_ble_eq_true rfl) ⟨by decide, by decide⟩ ⟨hk.1, hk.2⟩ dL_law_218 rfl (fun z u h => ?_)
      have h8 := h
      subst h8
      clear h
      refine lt_setCapacity C S hi hN ea ec (c_X6_setCapacity G ad2 P l R hI hR hF _ hja _ hjc) hk ⟨by decide, by decide⟩ hV (fun zm v h => ?_) kk
      rcases h with ⟨-, -, h1, -⟩ | ⟨-, -, -, h1, e⟩ | ⟨h1, -⟩
      · exact absurd h1 hc
      · exact ⟨RR_thr hR e, h1, fun h => absurd h (by decide)⟩
      · exact absurd ha h1
  · refine jw_sH (pc := 218) (wr := wR G ad2 R) C Ev (h_setCapacity_IOE sa G ad P l A T F q f hI a hja ha _) wh_L_setCapacity kml_L_83 (List.range 31) ((List.range 15).map (· + 31)) rfl rfl rfl rfl (by decide) rfl rfl (Nat.le_of_ble_eq_true rfl) ⟨by decide, by decide⟩ ⟨hk.1, hk.2⟩ dL_law_218 rfl (fun z u h => ?_)
    have h8 := h
    subst h8
    clear h
    refine lt_setCapacity C S hi hN ea ec (c_X6_setCapacity G ad2 P l R hI hR hF _ hja _ hjc) hk ⟨by decide, by decide⟩ hV (fun zm v h => ?_) kk
    rcases h with ⟨h1, h2, -⟩ | ⟨h1, h2, -⟩ | ⟨-, h1, e⟩
    · exact absurd ⟨h1, h2⟩ ha
    · exact absurd ⟨h1, h2⟩ ha
    · exact ⟨RR_thr hR e, h1, fun h => absurd h (by decide)⟩
set_option maxRecDepth 100000 in
set_option maxHeartbeats 4000000 in
theorem lc_setGroup {G : jG} {X : JX} {k n : Nat} {ad ad2 : Nat → Nat} {q b i N : Nat} {xs : Nat → Int32} {sa : Nat → Nat} {P : QP} {l : QL} {A : QA} {T : Nat → Bool} {F : QF} {f : Nat → Int64} {R : QR} (C : JC G X room_1 cL_law RL 9) (Ev : JE sa X) (S : JScr X b N xs) (hi : i + 4 ≤ N) (hN : N < 1000000) (hk : k + 1 ≤ 1086 ∧ n + 6 ≤ 10291) (hV : SV P l) (hR : RR P l R) (kk : LK G X ad ad2 q b i (k + 1) (n + 6)) : JW G X k n (wL G ad ad2 P l A T F q f R) 272 (lL b ad ad2 q i) [] := by
  have hk0 : k ≤ 1086 ∧ n ≤ 10291 := ⟨by omega, by omega⟩
  obtain ⟨hI, hF, hl⟩ := id hV
  have hres := hI.res
  have hreq := hI.req
  obtain ⟨a, hja, ea⟩ := xI (xs (i + 1))
  obtain ⟨x, hjx, ex⟩ := xI (xs (i + 2))
  obtain ⟨y, hjy, ey⟩ := xI (xs (i + 3))
  refine jw_aload_1 (pc := 272) C dL_law_272 ?_
  refine jw_aload_0 (pc := 273) C dL_law_273 ?_
  refine jw_iload_4 (pc := 274) C dL_law_274 ?_
  refine jw_iconst (pc := 276) C dL_law_276 ?_
  refine jw_iadd (pc := 277) C dL_law_277 ?_
  refine jw_sldi (pc := 278) C S (i + 1) (by omega) (by omega) hN ea dL_law_278 ?_
  refine jw_aload_0 (pc := 279) C dL_law_279 ?_
  refine jw_iload_4 (pc := 280) C dL_law_280 ?_
  refine jw_iconst (pc := 282) C dL_law_282 ?_
  refine jw_iadd (pc := 283) C dL_law_283 ?_
  refine jw_sldi (pc := 284) C S (i + 2) (by omega) (by omega) hN ex dL_law_284 ?_
  refine jw_aload_0 (pc := 285) C dL_law_285 ?_
  refine jw_iload_4 (pc := 286) C dL_law_286 ?_
  refine jw_iconst (pc := 288) C dL_law_288 ?_
  refine jw_iadd (pc := 289) C dL_law_289 ?_
  refine jw_sldi (pc := 290) C S (i + 3) (by omega) (by omega) hN ey dL_law_290 ?_
  refine jw_aload_3 (pc := 291) C dL_law_291 ?_
  by_cases ha : 0 ≤ a ∧ a < 4
  · obtain ⟨a, rfl⟩ := Int.eq_ofNat_of_zero_le ha.1
    by_cases hb : (0 ≤ x ∧ x ≤ 40) ∧ (1 ≤ y ∧ y ≤ 10)
    · refine jw_sH (pc := 292) (wr := wR G ad2 R) C Ev (h_setGroup sa G ad P l A T F q f hI hF a ha.2 x hb.1 y hb.2) wh_L_setGroup kml_L_87 (List.range 31) ((List.range 15).map (· + 31)) rfl rfl rfl rfl (by decide) rfl rfl (Nat.le_of_ble_eq_true rfl) ⟨by decide, by decide⟩ ⟨hk0.1, hk0.2⟩ dL_law_292 rfl (fun z u h => ?_)
      obtain ⟨P2, l2, A2, T2⟩ := u
      obtain ⟨h8, e1, e2⟩ := h
      subst h8
      replace e1 : P2 = (rn (pBackQ a P.req.toNat (pGrp P a x y) 0).1 l).1 := e1
      replace e2 : l2 = (rn (pBackQ a P.req.toNat (pGrp P a x y) 0).1 l).2.1 := e2
      have hV2 : SV P2 l2 := by rw [e1, e2]; exact (rn_ok (PI_backQ hI hb.1 hb.2).1 (PFe_backQ hI hF hb.1 hb.2)).1
      refine lt_setGroup C S hi hN ea ex ey (c_X6_setGroup G ad2 P l R hI hR hF _ hja _ hjx _ hjy) hk0 ⟨by decide, by decide⟩ hV2 (fun zm v h => ?_) kk.widen
      rcases h with ⟨-, -, h1, h2, h3⟩ | ⟨-, h1, -⟩ | ⟨h1, -⟩
      · exact ⟨by rw [e1, e2]; exact h3, h1, fun _ => by rw [h2]; exact upd00 f _⟩
      · exact absurd hb h1
      · exact absurd ha h1
    · refine jw_sH (pc := 292) (wr := wR G ad2 R) C Ev (h_setGroup_IAE sa G ad P l A T F q f a ha.2 x hjx y hjy hb) wh_L_setGroup kml_L_87 (List.range 31) ((List.range 15).map (· + 31)) rfl rfl rfl rfl (by decide) rfl rfl (Nat.le_of_ble_eq_true rfl) ⟨by decide, by decide⟩ ⟨hk.1, hk.2⟩ dL_law_292 rfl (fun z u h => ?_)
      have h8 := h
      subst h8
      clear h
      refine lt_setGroup C S hi hN ea ex ey (c_X6_setGroup G ad2 P l R hI hR hF _ hja _ hjx _ hjy) hk ⟨by decide, by decide⟩ hV (fun zm v h => ?_) kk
      rcases h with ⟨-, h1, -⟩ | ⟨-, -, h1, e⟩ | ⟨h1, -⟩
      · exact absurd h1 hb
      · exact ⟨RR_thr hR e, h1, fun h => absurd h (by decide)⟩
      · exact absurd ha h1
  · refine jw_sH (pc := 292) (wr := wR G ad2 R) C Ev (h_setGroup_IOE sa G ad P l A T F q f a hja ha _ _) wh_L_setGroup kml_L_87 (List.range 31) ((List.range 15).map (· + 31)) rfl rfl rfl rfl (by decide) rfl rfl (Nat.le_of_ble_eq_true rfl) ⟨by decide, by decide⟩ ⟨hk.1, hk.2⟩ dL_law_292 rfl (fun z u h => ?_)
    have h8 := h
    subst h8
    clear h
    refine lt_setGroup C S hi hN ea ex ey (c_X6_setGroup G ad2 P l R hI hR hF _ hja _ hjx _ hjy) hk ⟨by decide, by decide⟩ hV (fun zm v h => ?_) kk
    rcases h with ⟨h1, -⟩ | ⟨h1, -⟩ | ⟨-, h1, e⟩
    · exact absurd h1 ha
    · exact absurd h1 ha
    · exact ⟨RR_thr hR e, h1, fun h => absurd h (by decide)⟩
set_option maxRecDepth 100000 in
set_option maxHeartbeats 4000000 in
theorem lc_setLimits {G : jG} {X : JX} {k n : Nat} {ad ad2 : Nat → Nat} {q b i N : Nat} {xs : Nat → Int32} {sa : Nat → Nat} {P : QP} {l : QL} {A : QA} {T : Nat → Bool} {F : QF} {f : Nat → Int64} {R : QR} (C : JC G X room_1 cL_law RL 9) (Ev : JE sa X) (S : JScr X b N xs) (hi : i + 4 ≤ N) (hN : N < 1000000) (hk : k + 1 ≤ 1086 ∧ n + 6 ≤ 10291) (hV : SV P l) (hR : RR P l R) (kk : LK G X ad ad2 q b i (k + 1) (n + 6)) : JW G X k n (wL G ad ad2 P l A T F q f R) 352 (lL b ad ad2 q i) [] := by
  have hk0 : k ≤ 1086 ∧ n ≤ 10291 := ⟨by omega, by omega⟩
  obtain ⟨hI, hF, hl⟩ := id hV
  have hres := hI.res
  have hreq := hI.req
  obtain ⟨x, hjx, ex⟩ := xI (xs (i + 1))
  obtain ⟨y, hjy, ey⟩ := xI (xs (i + 2))
  refine jw_aload_1 (pc := 352) C dL_law_352 ?_
  refine jw_aload_0 (pc := 353) C dL_law_353 ?_
  refine jw_iload_4 (pc := 354) C dL_law_354 ?_
  refine jw_iconst (pc := 356) C dL_law_356 ?_
  refine jw_iadd (pc := 357) C dL_law_357 ?_
  refine jw_sldi (pc := 358) C S (i + 1) (by omega) (by omega) hN ex dL_law_358 ?_
  refine jw_aload_0 (pc := 359) C dL_law_359 ?_
  refine jw_iload_4 (pc := 360) C dL_law_360 ?_
  refine jw_iconst (pc := 362) C dL_law_362 ?_
  refine jw_iadd (pc := 363) C dL_law_363 ?_
  refine jw_sldi (pc := 364) C S (i + 2) (by omega) (by omega) hN ey dL_law_364 ?_
  refine jw_aload_3 (pc := 365) C dL_law_365 ?_
  by_cases hb : (0 ≤ x ∧ x ≤ 5) ∧ (0 ≤ y ∧ y ≤ 20)
  · refine jw_sH (pc := 366) (wr := wR G ad2 R) C Ev (h_setLimits sa G ad P l A T F q f hI hF x hb.1 y hb.2) wh_L_setLimits kml_L_91 (List.range 31) ((List.range 15).map (· + 31)) rfl rfl rfl rfl (by decide) rfl rfl (Nat.le_of_ble_eq_true rfl) ⟨by decide, by decide⟩ ⟨hk0.1, hk0.2⟩ dL_law_366 rfl (fun z u h => ?_)
    obtain ⟨P2, l2, A2, T2⟩ := u
    obtain ⟨h8, e1, e2⟩ := h
    subst h8
    replace e1 : P2 = (rn (pLim P x y) l).1 := e1
    replace e2 : l2 = (rn (pLim P x y) l).2.1 := e2
    have hV2 : SV P2 l2 := by rw [e1, e2]; exact (rn_ok (PI_lim hI hb.1 hb.2) hF).1
    refine lt_setLimits C S hi hN ex ey (c_X6_setLimits G ad2 P l R hI hR hF _ hjx _ hjy) hk0 ⟨by decide, by decide⟩ hV2 (fun zm v h => ?_) kk.widen
    rcases h with ⟨-, h1, h2, h3⟩ | ⟨h1, -⟩
    · exact ⟨by rw [e1, e2]; exact h3, h1, fun _ => by rw [h2]; exact upd00 f _⟩
    · exact absurd hb h1
  · refine jw_sH (pc := 366) (wr := wR G ad2 R) C Ev (h_setLimits_IAE sa G ad P l A T F q f x hjx y hjy hb) wh_L_setLimits kml_L_91 (List.range 31) ((List.range 15).map (· + 31)) rfl rfl rfl rfl (by decide) rfl rfl (Nat.le_of_ble_eq_true rfl) ⟨by decide, by decide⟩ ⟨hk.1, hk.2⟩ dL_law_366 rfl (fun z u h => ?_)
    have h8 := h
    subst h8
    clear h
    refine lt_setLimits C S hi hN ex ey (c_X6_setLimits G ad2 P l R hI hR hF _ hjx _ hjy) hk ⟨by decide, by decide⟩ hV (fun zm v h => ?_) kk
    rcases h with ⟨h1, -⟩ | ⟨-, h1, e⟩
    · exact absurd h1 hb
    · exact ⟨RR_thr hR e, h1, fun h => absurd h (by decide)⟩
set_option maxRecDepth 100000 in
set_option maxHeartbeats 4000000 in
theorem lc_arrive {G : jG} {X : JX} {k n : Nat} {ad ad2 : Nat → Nat} {q b i N : Nat} {xs : Nat → Int32} {sa : Nat → Nat} {P : QP} {l : QL} {A : QA} {T : Nat → Bool} {F : QF} {f : Nat → Int64} {R : QR} (C : JC G X room_1 cL_law RL 9) (Ev : JE sa X) (S : JScr X b N xs) (hi : i + 4 ≤ N) (hN : N < 1000000) (hk : k + 1 ≤ 1086 ∧ n + 6 ≤ 10291) (hV : SV P l) (hR : RR P l R) (kk : LK G X ad ad2 q b i (k + 1) (n + 6)) : JW G X k n (wL G ad ad2 P l A T F q f R) 420 (lL b ad ad2 q i) [] := by
  have hk0 : k ≤ 1086 ∧ n ≤ 10291 := ⟨by omega, by omega⟩
  obtain ⟨hI, hF, hl⟩ := id hV
  have hres := hI.res
  have hreq := hI.req
  obtain ⟨a, hja, ea⟩ := xI (xs (i + 1))
  refine jw_aload_1 (pc := 420) C dL_law_420 ?_
  refine jw_aload_0 (pc := 421) C dL_law_421 ?_
  refine jw_iload_4 (pc := 422) C dL_law_422 ?_
  refine jw_iconst (pc := 424) C dL_law_424 ?_
  refine jw_iadd (pc := 425) C dL_law_425 ?_
  refine jw_sldi (pc := 426) C S (i + 1) (by omega) (by omega) hN ea dL_law_426 ?_
  refine jw_aload_0 (pc := 427) C dL_law_427 ?_
  refine jw_iload_4 (pc := 428) C dL_law_428 ?_
  refine jw_iconst (pc := 430) C dL_law_430 ?_
  refine jw_iadd (pc := 431) C dL_law_431 ?_
  refine jw_sld (pc := 432) C S (i + 2) (by omega) (by omega) hN dL_law_432 ?_
  refine jw_aload_3 (pc := 433) C dL_law_433 ?_
  by_cases ha : 0 ≤ a ∧ a < 4
  · obtain ⟨a, rfl⟩ := Int.eq_ofNat_of_zero_le ha.1
    by_cases hm : mOK P (xs (i + 2))
    · by_cases hq : P.req < 40
      · refine jw_sH (pc := 434) (wr := wR G ad2 R) C Ev (h_arrive sa G ad P l A T F q f hI hF a ha.2 _ hm hq) wh_L_arrive kml_L_94 (List.range 31) ((List.range 15).map (· + 31)) rfl rfl rfl rfl (by decide) rfl rfl (Nat.le_of_ble_eq_true rfl) ⟨by decide, by decide⟩ ⟨hk0.1, hk0.2⟩ dL_law_434 rfl (fun z u h => ?_)
        obtain ⟨P2, l2, A2⟩ := u
        obtain ⟨h8, e1, e2⟩ := h
        subst h8
        replace e1 : P2 = (tryS (pAdmit P (a : Int) (xs (i + 2))) (l.1, l.2.1, 0) P.req.toNat).2.1 := e1
        replace e2 : l2 = (tryS (pAdmit P (a : Int) (xs (i + 2))) (l.1, l.2.1, 0) P.req.toNat).2.2 := e2
        have hV2 : SV P2 l2 := by rw [e1, e2]; exact SV_arr hI hF ha.2 hm hq
        refine lt_arrive C S hi hN ea (c_X6_arrive G ad2 P l R hI hR hF _ hja (xs (i + 2))) hk0 ⟨by decide, by decide⟩ hV2 (fun zm v h => ?_) kk.widen
        rcases h with ⟨-, -, -, h1, h2, h3⟩ | ⟨-, -, h1, -⟩ | ⟨-, h1, -⟩ | ⟨h1, -⟩
        · exact ⟨by rw [e1, e2]; exact h3, h1, fun _ => by rw [h2]; exact upd00 f _⟩
        · exact absurd hq (by omega)
        · exact absurd hm h1
        · exact absurd ha h1
      · refine jw_sH (pc := 434) (wr := wR G ad2 R) C Ev (h_arrive_ISE sa G ad P l A T F q f hI a ha.2 _ hm (by omega)) wh_L_arrive kml_L_94 (List.range 31) ((List.range 15).map (· + 31)) rfl rfl rfl rfl (by decide) rfl rfl (Nat.le_of_ble_eq_true rfl) ⟨by decide, by decide⟩ ⟨hk.1, hk.2⟩ dL_law_434 rfl (fun z u h => ?_)
        have h8 := h
        subst h8
        clear h
        refine lt_arrive C S hi hN ea (c_X6_arrive G ad2 P l R hI hR hF _ hja (xs (i + 2))) hk ⟨by decide, by decide⟩ hV (fun zm v h => ?_) kk
        rcases h with ⟨-, -, h1, -⟩ | ⟨-, -, -, h1, e⟩ | ⟨-, h1, -⟩ | ⟨h1, -⟩
        · exact absurd h1 hq
        · exact ⟨RR_thr hR e, h1, fun h => absurd h (by decide)⟩
        · exact absurd hm h1
        · exact absurd ha h1
    · refine jw_sH (pc := 434) (wr := wR G ad2 R) C Ev (h_arrive_IAE sa G ad P l A T F q f a ha.2 _ hm) wh_L_arrive kml_L_94 (List.range 31) ((List.range 15).map (· + 31)) rfl rfl rfl rfl (by decide) rfl rfl (Nat.le_of_ble_eq_true rfl) ⟨by decide, by decide⟩ ⟨hk.1, hk.2⟩ dL_law_434 rfl (fun z u h => ?_)
      have h8 := h
      subst h8
      clear h
      refine lt_arrive C S hi hN ea (c_X6_arrive G ad2 P l R hI hR hF _ hja (xs (i + 2))) hk ⟨by decide, by decide⟩ hV (fun zm v h => ?_) kk
      rcases h with ⟨-, h1, -⟩ | ⟨-, h1, -⟩ | ⟨-, -, h1, e⟩ | ⟨h1, -⟩
      · exact absurd h1 hm
      · exact absurd h1 hm
      · exact ⟨RR_thr hR e, h1, fun h => absurd h (by decide)⟩
      · exact absurd ha h1
  · refine jw_sH (pc := 434) (wr := wR G ad2 R) C Ev (h_arrive_IOE sa G ad P l A T F q f a hja ha _) wh_L_arrive kml_L_94 (List.range 31) ((List.range 15).map (· + 31)) rfl rfl rfl rfl (by decide) rfl rfl (Nat.le_of_ble_eq_true rfl) ⟨by decide, by decide⟩ ⟨hk.1, hk.2⟩ dL_law_434 rfl (fun z u h => ?_)
    have h8 := h
    subst h8
    clear h
    refine lt_arrive C S hi hN ea (c_X6_arrive G ad2 P l R hI hR hF _ hja (xs (i + 2))) hk ⟨by decide, by decide⟩ hV (fun zm v h => ?_) kk
    rcases h with ⟨h1, -⟩ | ⟨h1, -⟩ | ⟨h1, -⟩ | ⟨-, h1, e⟩
    · exact absurd h1 ha
    · exact absurd h1 ha
    · exact absurd h1 ha
    · exact ⟨RR_thr hR e, h1, fun h => absurd h (by decide)⟩
set_option maxRecDepth 100000 in
set_option maxHeartbeats 4000000 in
theorem lc_depart {G : jG} {X : JX} {k n : Nat} {ad ad2 : Nat → Nat} {q b i N : Nat} {xs : Nat → Int32} {sa : Nat → Nat} {P : QP} {l : QL} {A : QA} {T : Nat → Bool} {F : QF} {f : Nat → Int64} {R : QR} (C : JC G X room_1 cL_law RL 9) (Ev : JE sa X) (S : JScr X b N xs) (hi : i + 4 ≤ N) (hN : N < 1000000) (hk : k + 1 ≤ 1086 ∧ n + 6 ≤ 10291) (hV : SV P l) (hR : RR P l R) (kk : LK G X ad ad2 q b i (k + 1) (n + 6)) : JW G X k n (wL G ad ad2 P l A T F q f R) 488 (lL b ad ad2 q i) [] := by
  have hk0 : k ≤ 1086 ∧ n ≤ 10291 := ⟨by omega, by omega⟩
  obtain ⟨hI, hF, hl⟩ := id hV
  have hres := hI.res
  have hreq := hI.req
  obtain ⟨a, hja, ea⟩ := xI (xs (i + 1))
  refine jw_aload_1 (pc := 488) C dL_law_488 ?_
  refine jw_aload_0 (pc := 489) C dL_law_489 ?_
  refine jw_iload_4 (pc := 490) C dL_law_490 ?_
  refine jw_iconst (pc := 492) C dL_law_492 ?_
  refine jw_iadd (pc := 493) C dL_law_493 ?_
  refine jw_sldi (pc := 494) C S (i + 1) (by omega) (by omega) hN ea dL_law_494 ?_
  refine jw_aload_3 (pc := 495) C dL_law_495 ?_
  by_cases ha : 0 ≤ a ∧ a < P.req
  · obtain ⟨a, rfl⟩ := Int.eq_ofNat_of_zero_le ha.1
    by_cases hd : P.plc a = -2
    · refine jw_sH (pc := 496) (wr := wR G ad2 R) C Ev (h_depart_NSE sa G ad P l A T F q f hI a ha.2 hd) wh_L_depart kml_L_97 (List.range 31) ((List.range 15).map (· + 31)) rfl rfl rfl rfl (by decide) rfl rfl (Nat.le_of_ble_eq_true rfl) ⟨by decide, by decide⟩ ⟨hk.1, hk.2⟩ dL_law_496 rfl (fun z u h => ?_)
      have h8 := h
      subst h8
      clear h
      refine lt_depart C S hi hN ea (c_X6_depart G ad2 P l R hI hR hF _ hja) hk ⟨by decide, by decide⟩ hV (fun zm v h => ?_) kk
      rcases h with ⟨-, -, h1, -⟩ | ⟨-, -, -, h1, e⟩ | ⟨h1, -⟩
      · exact absurd hd h1
      · exact ⟨RR_thr hR e, h1, fun h => absurd h (by decide)⟩
      · exact absurd ha h1
    · refine jw_sH (pc := 496) (wr := wR G ad2 R) C Ev (h_depart sa G ad P l A T F q f hI a ha.2 hF hd) wh_L_depart kml_L_97 (List.range 31) ((List.range 15).map (· + 31)) rfl rfl rfl rfl (by decide) rfl rfl (Nat.le_of_ble_eq_true rfl) ⟨by decide, by decide⟩ ⟨hk0.1, hk0.2⟩ dL_law_496 rfl (fun z u h => ?_)
      obtain ⟨P2, l2, A2, T2⟩ := u
      obtain ⟨h8, e1, e2⟩ := h
      subst h8
      replace e1 : P2 = (rn (pDismiss P a) l).1 := e1
      replace e2 : l2 = (rn (pDismiss P a) l).2.1 := e2
      have hV2 : SV P2 l2 := by rw [e1, e2]; exact (rn_ok (PI_dismiss hI ha.2) (PFe_dismiss hF)).1
      refine lt_depart C S hi hN ea (c_X6_depart G ad2 P l R hI hR hF _ hja) hk0 ⟨by decide, by decide⟩ hV2 (fun zm v h => ?_) kk.widen
      rcases h with ⟨-, -, -, h1, h2, h3⟩ | ⟨-, -, h1, -⟩ | ⟨h1, -⟩
      · exact ⟨by rw [e1, e2]; exact h3, h1, fun _ => by rw [h2]; exact upd00 f _⟩
      · exact absurd h1 hd
      · exact absurd ha h1
  · refine jw_sH (pc := 496) (wr := wR G ad2 R) C Ev (h_depart_IOE sa G ad P l A T F q f hI a hja ha) wh_L_depart kml_L_97 (List.range 31) ((List.range 15).map (· + 31)) rfl rfl rfl rfl (by decide) rfl rfl (Nat.le_of_ble_eq_true rfl) ⟨by decide, by decide⟩ ⟨hk.1, hk.2⟩ dL_law_496 rfl (fun z u h => ?_)
    have h8 := h
    subst h8
    clear h
    refine lt_depart C S hi hN ea (c_X6_depart G ad2 P l R hI hR hF _ hja) hk ⟨by decide, by decide⟩ hV (fun zm v h => ?_) kk
    rcases h with ⟨h1, h2, -⟩ | ⟨h1, h2, -⟩ | ⟨-, h1, e⟩
    · exact absurd ⟨h1, h2⟩ ha
    · exact absurd ⟨h1, h2⟩ ha
    · exact ⟨RR_thr hR e, h1, fun h => absurd h (by decide)⟩
set_option maxRecDepth 100000 in
set_option maxHeartbeats 4000000 in
theorem lc_setAccepts {G : jG} {X : JX} {k n : Nat} {ad ad2 : Nat → Nat} {q b i N : Nat} {xs : Nat → Int32} {sa : Nat → Nat} {P : QP} {l : QL} {A : QA} {T : Nat → Bool} {F : QF} {f : Nat → Int64} {R : QR} (C : JC G X room_1 cL_law RL 9) (Ev : JE sa X) (S : JScr X b N xs) (hi : i + 4 ≤ N) (hN : N < 1000000) (hk : k + 1 ≤ 1086 ∧ n + 6 ≤ 10291) (hV : SV P l) (hR : RR P l R) (kk : LK G X ad ad2 q b i (k + 1) (n + 6)) : JW G X k n (wL G ad ad2 P l A T F q f R) 544 (lL b ad ad2 q i) [] := by
  have hk0 : k ≤ 1086 ∧ n ≤ 10291 := ⟨by omega, by omega⟩
  obtain ⟨hI, hF, hl⟩ := id hV
  have hres := hI.res
  have hreq := hI.req
  obtain ⟨a, hja, ea⟩ := xI (xs (i + 1))
  refine jw_aload_1 (pc := 544) C dL_law_544 ?_
  refine jw_aload_0 (pc := 545) C dL_law_545 ?_
  refine jw_iload_4 (pc := 546) C dL_law_546 ?_
  refine jw_iconst (pc := 548) C dL_law_548 ?_
  refine jw_iadd (pc := 549) C dL_law_549 ?_
  refine jw_sldi (pc := 550) C S (i + 1) (by omega) (by omega) hN ea dL_law_550 ?_
  refine jw_aload_0 (pc := 551) C dL_law_551 ?_
  refine jw_iload_4 (pc := 552) C dL_law_552 ?_
  refine jw_iconst (pc := 554) C dL_law_554 ?_
  refine jw_iadd (pc := 555) C dL_law_555 ?_
  refine jw_sld (pc := 556) C S (i + 2) (by omega) (by omega) hN dL_law_556 ?_
  refine jw_aload_3 (pc := 557) C dL_law_557 ?_
  by_cases ha : 0 ≤ a ∧ a < P.req
  · obtain ⟨a, rfl⟩ := Int.eq_ofNat_of_zero_le ha.1
    by_cases hd : P.plc a = -2
    · refine jw_sH (pc := 558) (wr := wR G ad2 R) C Ev (h_setAccepts_NSE sa G ad P l A T F q f hI a ha.2 hd _) wh_L_setAccepts kml_L_100 (List.range 31) ((List.range 15).map (· + 31)) rfl rfl rfl rfl (by decide) rfl rfl (Nat.le_of_ble_eq_true rfl) ⟨by decide, by decide⟩ ⟨hk.1, hk.2⟩ dL_law_558 rfl (fun z u h => ?_)
      have h8 := h
      subst h8
      clear h
      refine lt_setAccepts C S hi hN ea (c_X6_setAccepts G ad2 P l R hI hR hF _ hja (xs (i + 2))) hk ⟨by decide, by decide⟩ hV (fun zm v h => ?_) kk
      rcases h with ⟨-, -, h1, -⟩ | ⟨-, -, h1, -⟩ | ⟨-, -, -, h1, e⟩ | ⟨h1, -⟩
      · exact absurd hd h1
      · exact absurd hd h1
      · exact ⟨RR_thr hR e, h1, fun h => absurd h (by decide)⟩
      · exact absurd ha h1
    · by_cases hm : mOK P (xs (i + 2))
      · refine jw_sH (pc := 558) (wr := wR G ad2 R) C Ev (h_setAccepts sa G ad P l A T F q f hI a ha.2 hF hd _ hm) wh_L_setAccepts kml_L_100 (List.range 31) ((List.range 15).map (· + 31)) rfl rfl rfl rfl (by decide) rfl rfl (Nat.le_of_ble_eq_true rfl) ⟨by decide, by decide⟩ ⟨hk0.1, hk0.2⟩ dL_law_558 rfl (fun z u h => ?_)
        obtain ⟨P2, l2, A2, T2⟩ := u
        obtain ⟨h8, e1, e2⟩ := h
        subst h8
        replace e1 : P2 = (rn (pAccept P a (xs (i + 2))) l).1 := e1
        replace e2 : l2 = (rn (pAccept P a (xs (i + 2))) l).2.1 := e2
        have hV2 : SV P2 l2 := by rw [e1, e2]; exact (rn_ok (PI_accept hI ha.2) (PFe_accept hI hF hm)).1
        refine lt_setAccepts C S hi hN ea (c_X6_setAccepts G ad2 P l R hI hR hF _ hja (xs (i + 2))) hk0 ⟨by decide, by decide⟩ hV2 (fun zm v h => ?_) kk.widen
        rcases h with ⟨-, -, -, -, h1, h2, h3⟩ | ⟨-, -, -, h1, -⟩ | ⟨-, -, h1, -⟩ | ⟨h1, -⟩
        · exact ⟨by rw [e1, e2]; exact h3, h1, fun _ => by rw [h2]; exact upd00 f _⟩
        · exact absurd hm h1
        · exact absurd h1 hd
        · exact absurd ha h1
      · refine jw_sH (pc := 558) (wr := wR G ad2 R) C Ev (h_setAccepts_IAE sa G ad P l A T F q f hI a ha.2 hd _ hm) wh_L_setAccepts kml_L_100 (List.range 31) ((List.range 15).map (· + 31)) rfl rfl rfl rfl (by decide) rfl rfl (Nat.le_of_ble_eq_true rfl) ⟨by decide, by decide⟩ ⟨hk.1, hk.2⟩ dL_law_558 rfl (fun z u h => ?_)
        have h8 := h
        subst h8
        clear h
        refine lt_setAccepts C S hi hN ea (c_X6_setAccepts G ad2 P l R hI hR hF _ hja (xs (i + 2))) hk ⟨by decide, by decide⟩ hV (fun zm v h => ?_) kk
        rcases h with ⟨-, -, -, h1, -⟩ | ⟨-, -, -, -, h1, e⟩ | ⟨-, -, h1, -⟩ | ⟨h1, -⟩
        · exact absurd h1 hm
        · exact ⟨RR_thr hR e, h1, fun h => absurd h (by decide)⟩
        · exact absurd h1 hd
        · exact absurd ha h1
  · refine jw_sH (pc := 558) (wr := wR G ad2 R) C Ev (h_setAccepts_IOE sa G ad P l A T F q f hI a hja ha _) wh_L_setAccepts kml_L_100 (List.range 31) ((List.range 15).map (· + 31)) rfl rfl rfl rfl (by decide) rfl rfl (Nat.le_of_ble_eq_true rfl) ⟨by decide, by decide⟩ ⟨hk.1, hk.2⟩ dL_law_558 rfl (fun z u h => ?_)
    have h8 := h
    subst h8
    clear h
    refine lt_setAccepts C S hi hN ea (c_X6_setAccepts G ad2 P l R hI hR hF _ hja (xs (i + 2))) hk ⟨by decide, by decide⟩ hV (fun zm v h => ?_) kk
    rcases h with ⟨h1, h2, -⟩ | ⟨h1, h2, -⟩ | ⟨h1, h2, -⟩ | ⟨-, h1, e⟩
    · exact absurd ⟨h1, h2⟩ ha
    · exact absurd ⟨h1, h2⟩ ha
    · exact absurd ⟨h1, h2⟩ ha
    · exact ⟨RR_thr hR e, h1, fun h => absurd h (by decide)⟩
