/-! the words of the helpers -/
theorem wh_L_addResource : jWh yL_addResource cL_addResource 4 [(0, 9, 12, 13), (0, 9, 15, 15)] 3 := ⟨kst_L_addResource, kini_L, kco_L_addResource, by decide +kernel⟩
theorem wh_L_setCapacity : jWh yL_setCapacity cL_setCapacity 5 [(0, 10, 13, 21), (0, 10, 17, 13)] 4 := ⟨kst_L_setCapacity, kini_L, kco_L_setCapacity, by decide +kernel⟩
theorem wh_L_setGroup : jWh yL_setGroup cL_setGroup 6 [(0, 12, 15, 21), (0, 12, 19, 13)] 5 := ⟨kst_L_setGroup, kini_L, kco_L_setGroup, by decide +kernel⟩
theorem wh_L_setLimits : jWh yL_setLimits cL_setLimits 5 [(0, 10, 13, 13)] 4 := ⟨kst_L_setLimits, kini_L, kco_L_setLimits, by decide +kernel⟩
theorem wh_L_arrive : jWh yL_arrive cL_arrive 5 [(0, 10, 13, 21), (0, 10, 17, 13), (0, 10, 21, 15)] 4 := ⟨kst_L_arrive, kini_L, kco_L_arrive, by decide +kernel⟩
theorem wh_L_depart : jWh yL_depart cL_depart 4 [(0, 9, 12, 21), (0, 9, 15, 36)] 3 := ⟨kst_L_depart, kini_L, kco_L_depart, by decide +kernel⟩
theorem wh_L_setAccepts : jWh yL_setAccepts cL_setAccepts 5 [(0, 17, 20, 21), (0, 17, 24, 36), (0, 17, 28, 13)] 4 := ⟨kst_L_setAccepts, kini_L, kco_L_setAccepts, by decide +kernel⟩
theorem wh_L_assignedOf : jWh yL_assignedOf cL_assignedOf 4 [(0, 9, 12, 21)] 3 := ⟨kst_L_assignedOf, kini_L, kco_L_assignedOf, by decide +kernel⟩
theorem wh_L_load : jWh yL_load cL_load 4 [(0, 9, 12, 21)] 3 := ⟨kst_L_load, kini_L, kco_L_load, by decide +kernel⟩
theorem wh_L_state : jWh yL_state cL_state 4 [(0, 9, 12, 21)] 3 := ⟨kst_L_state, kini_L, kco_L_state, by decide +kernel⟩
theorem wh_L_resourceOf : jWh yL_resourceOf cL_resourceOf 4 [(0, 9, 12, 21), (0, 9, 15, 36)] 3 := ⟨kst_L_resourceOf, kini_L, kco_L_resourceOf, by decide +kernel⟩
theorem wh_L_movesOf : jWh yL_movesOf cL_movesOf 4 [(0, 9, 12, 21)] 3 := ⟨kst_L_movesOf, kini_L, kco_L_movesOf, by decide +kernel⟩
theorem wh_L_movedRequest : jWh yL_movedRequest cL_movedRequest 4 [(0, 9, 12, 21)] 3 := ⟨kst_L_movedRequest, kini_L, kco_L_movedRequest, by decide +kernel⟩
theorem wh_L_movedTo : jWh yL_movedTo cL_movedTo 4 [(0, 9, 12, 21)] 3 := ⟨kst_L_movedTo, kini_L, kco_L_movedTo, by decide +kernel⟩
theorem wh_L_movesNeeded : jWh yL_movesNeeded cL_movesNeeded 4 [(0, 9, 12, 21), (0, 9, 15, 36)] 3 := ⟨kst_L_movesNeeded, kini_L, kco_L_movesNeeded, by decide +kernel⟩
theorem wh_L_gainBy : jWh yL_gainBy cL_gainBy 4 [(0, 9, 12, 21)] 3 := ⟨kst_L_gainBy, kini_L, kco_L_gainBy, by decide +kernel⟩
theorem upd00 (f : Nat → Int64) (v : Int64) : updf f 0 v 0 = v := rfl
theorem xI (x : Int32) : ∃ a : Int, jr a ∧ x = iI a := ⟨_, jr_self x, (iI_self x).symm⟩
set_option maxRecDepth 100000 in
set_option maxHeartbeats 4000000 in
theorem lt_addResource {G : jG} {X : JX} {k n : Nat} {ad ad2 : Nat → Nat} {q b i N : Nat} {xs : Nat → Int32} {P : QP} {l : QL} {A : QA} {T : Nat → Bool} {F : QF} {f : Nat → Int64} {R : QR} {post : Int32 → QR → Prop} {code : Int} {a : Int} (C : JC G X room_1 cL_law RL 9) (S : JScr X b N xs) (hi : i + 4 ≤ N) (hN : N < 1000000) (ea : xs (i + 1) = iI a) (ct : CI G yX6_addResource cX6_addResource 2 (jrm 7 160 0 0) [.ref (ad2 0), .int (iI a)] (wR G ad2 R) post (fun u : QR => wR G ad2 u) 0 0) (hk : k ≤ 1086 ∧ n ≤ 10291) (hc : 0 ≤ code ∧ code ≤ 3) (hV : SV P l) (hyp : ∀ (zm : Int32) (u : QR), post zm u → RR P l u ∧ u.1 = code ∧ (code = 0 → f 0 = zm.toInt64)) (kk : LK G X ad ad2 q b i k n) : JW G X k n (wR G ad2 R ++ (wC G ad P l A T F ++ [jAL G q f])) 159 (lL b ad ad2 q i) [.int (iI code)] := by
  refine jw_istore_5 (pc := 159) C dL_law_159 rfl ?_
  refine jw_aload_2 (pc := 161) C dL_law_161 ?_
  refine jw_aload_0 (pc := 162) C dL_law_162 ?_
  refine jw_iload_4 (pc := 163) C dL_law_163 ?_
  refine jw_iconst (pc := 165) C dL_law_165 ?_
  refine jw_iadd (pc := 166) C dL_law_166 ?_
  refine jw_sldi (pc := 167) C S (i + 1) (by omega) (by omega) hN ea dL_law_167 ?_
  refine jw_sV_I (pc := 168) (wr := wC G ad P l A T F ++ [jAL G q f]) C ct wd_X6_addResource kml_L_78 0 rfl rfl (List.range 15) ((List.range 31).map (· + 15)) rfl rfl rfl rfl (by decide) rfl rfl (Nat.le_of_ble_eq_true rfl) ⟨by decide, by decide⟩ ⟨hk.1, hk.2⟩ dL_law_168 rfl (fun zm u h => ?_)
  obtain ⟨h1, h2, h3⟩ := hyp zm u h
  exact lw_tl C 171 dL_law_171 dL_law_173 dL_law_174 dL_law_177 dL_law_179 dL_law_184 dL_law_186 dL_law_189 dL_law_190 dL_law_191 dL_law_192 dL_law_194 dL_law_195 dL_law_196 dL_law_201 (by decide) hk hc hV h1 h2 h3 kk
set_option maxRecDepth 100000 in
set_option maxHeartbeats 4000000 in
theorem lt_setCapacity {G : jG} {X : JX} {k n : Nat} {ad ad2 : Nat → Nat} {q b i N : Nat} {xs : Nat → Int32} {P : QP} {l : QL} {A : QA} {T : Nat → Bool} {F : QF} {f : Nat → Int64} {R : QR} {post : Int32 → QR → Prop} {code : Int} {a : Int} {c : Int} (C : JC G X room_1 cL_law RL 9) (S : JScr X b N xs) (hi : i + 4 ≤ N) (hN : N < 1000000) (ea : xs (i + 1) = iI a) (ec : xs (i + 2) = iI c) (ct : CI G yX6_setCapacity cX6_setCapacity 5 (jrm 7 160 0 0) [.ref (ad2 0), .int (iI a), .int (iI c)] (wR G ad2 R) post (fun u : QR => wR G ad2 u) 0 0) (hk : k ≤ 1086 ∧ n ≤ 10291) (hc : 0 ≤ code ∧ code ≤ 3) (hV : SV P l) (hyp : ∀ (zm : Int32) (u : QR), post zm u → RR P l u ∧ u.1 = code ∧ (code = 0 → f 0 = zm.toInt64)) (kk : LK G X ad ad2 q b i k n) : JW G X k n (wR G ad2 R ++ (wC G ad P l A T F ++ [jAL G q f])) 221 (lL b ad ad2 q i) [.int (iI code)] := by
  refine jw_istore_5 (pc := 221) C dL_law_221 rfl ?_
  refine jw_aload_2 (pc := 223) C dL_law_223 ?_
  refine jw_aload_0 (pc := 224) C dL_law_224 ?_
  refine jw_iload_4 (pc := 225) C dL_law_225 ?_
  refine jw_iconst (pc := 227) C dL_law_227 ?_
  refine jw_iadd (pc := 228) C dL_law_228 ?_
  refine jw_sldi (pc := 229) C S (i + 1) (by omega) (by omega) hN ea dL_law_229 ?_
  refine jw_aload_0 (pc := 230) C dL_law_230 ?_
  refine jw_iload_4 (pc := 231) C dL_law_231 ?_
  refine jw_iconst (pc := 233) C dL_law_233 ?_
  refine jw_iadd (pc := 234) C dL_law_234 ?_
  refine jw_sldi (pc := 235) C S (i + 2) (by omega) (by omega) hN ec dL_law_235 ?_
  refine jw_sV_I (pc := 236) (wr := wC G ad P l A T F ++ [jAL G q f]) C ct wd_X6_setCapacity kml_L_86 0 rfl rfl (List.range 15) ((List.range 31).map (· + 15)) rfl rfl rfl rfl (by decide) rfl rfl (Nat.le_of_ble_eq_true rfl) ⟨by decide, by decide⟩ ⟨hk.1, hk.2⟩ dL_law_236 rfl (fun zm u h => ?_)
  obtain ⟨h1, h2, h3⟩ := hyp zm u h
  exact lw_tl C 239 dL_law_239 dL_law_241 dL_law_242 dL_law_245 dL_law_247 dL_law_252 dL_law_254 dL_law_257 dL_law_258 dL_law_259 dL_law_260 dL_law_262 dL_law_263 dL_law_264 dL_law_269 (by decide) hk hc hV h1 h2 h3 kk
set_option maxRecDepth 100000 in
set_option maxHeartbeats 4000000 in
theorem lt_setGroup {G : jG} {X : JX} {k n : Nat} {ad ad2 : Nat → Nat} {q b i N : Nat} {xs : Nat → Int32} {P : QP} {l : QL} {A : QA} {T : Nat → Bool} {F : QF} {f : Nat → Int64} {R : QR} {post : Int32 → QR → Prop} {code : Int} {a : Int} {x : Int} {y : Int} (C : JC G X room_1 cL_law RL 9) (S : JScr X b N xs) (hi : i + 4 ≤ N) (hN : N < 1000000) (ea : xs (i + 1) = iI a) (ex : xs (i + 2) = iI x) (ey : xs (i + 3) = iI y) (ct : CI G yX6_setGroup cX6_setGroup 6 (jrm 7 160 0 0) [.ref (ad2 0), .int (iI a), .int (iI x), .int (iI y)] (wR G ad2 R) post (fun u : QR => wR G ad2 u) 0 0) (hk : k ≤ 1086 ∧ n ≤ 10291) (hc : 0 ≤ code ∧ code ≤ 3) (hV : SV P l) (hyp : ∀ (zm : Int32) (u : QR), post zm u → RR P l u ∧ u.1 = code ∧ (code = 0 → f 0 = zm.toInt64)) (kk : LK G X ad ad2 q b i k n) : JW G X k n (wR G ad2 R ++ (wC G ad P l A T F ++ [jAL G q f])) 295 (lL b ad ad2 q i) [.int (iI code)] := by
  refine jw_istore_5 (pc := 295) C dL_law_295 rfl ?_
  refine jw_aload_2 (pc := 297) C dL_law_297 ?_
  refine jw_aload_0 (pc := 298) C dL_law_298 ?_
  refine jw_iload_4 (pc := 299) C dL_law_299 ?_
  refine jw_iconst (pc := 301) C dL_law_301 ?_
  refine jw_iadd (pc := 302) C dL_law_302 ?_
  refine jw_sldi (pc := 303) C S (i + 1) (by omega) (by omega) hN ea dL_law_303 ?_
  refine jw_aload_0 (pc := 304) C dL_law_304 ?_
  refine jw_iload_4 (pc := 305) C dL_law_305 ?_
  refine jw_iconst (pc := 307) C dL_law_307 ?_
  refine jw_iadd (pc := 308) C dL_law_308 ?_
  refine jw_sldi (pc := 309) C S (i + 2) (by omega) (by omega) hN ex dL_law_309 ?_
  refine jw_aload_0 (pc := 310) C dL_law_310 ?_
  refine jw_iload_4 (pc := 311) C dL_law_311 ?_
  refine jw_iconst (pc := 313) C dL_law_313 ?_
  refine jw_iadd (pc := 314) C dL_law_314 ?_
  refine jw_sldi (pc := 315) C S (i + 3) (by omega) (by omega) hN ey dL_law_315 ?_
  refine jw_sV_I (pc := 316) (wr := wC G ad P l A T F ++ [jAL G q f]) C ct wd_X6_setGroup kml_L_90 0 rfl rfl (List.range 15) ((List.range 31).map (· + 15)) rfl rfl rfl rfl (by decide) rfl rfl (Nat.le_of_ble_eq_true rfl) ⟨by decide, by decide⟩ ⟨hk.1, hk.2⟩ dL_law_316 rfl (fun zm u h => ?_)
  obtain ⟨h1, h2, h3⟩ := hyp zm u h
  exact lw_tl C 319 dL_law_319 dL_law_321 dL_law_322 dL_law_325 dL_law_327 dL_law_332 dL_law_334 dL_law_337 dL_law_338 dL_law_339 dL_law_340 dL_law_342 dL_law_343 dL_law_344 dL_law_349 (by decide) hk hc hV h1 h2 h3 kk
set_option maxRecDepth 100000 in
set_option maxHeartbeats 4000000 in
theorem lt_setLimits {G : jG} {X : JX} {k n : Nat} {ad ad2 : Nat → Nat} {q b i N : Nat} {xs : Nat → Int32} {P : QP} {l : QL} {A : QA} {T : Nat → Bool} {F : QF} {f : Nat → Int64} {R : QR} {post : Int32 → QR → Prop} {code : Int} {x : Int} {y : Int} (C : JC G X room_1 cL_law RL 9) (S : JScr X b N xs) (hi : i + 4 ≤ N) (hN : N < 1000000) (ex : xs (i + 1) = iI x) (ey : xs (i + 2) = iI y) (ct : CI G yX6_setLimits cX6_setLimits 3 (jrm 7 160 0 0) [.ref (ad2 0), .int (iI x), .int (iI y)] (wR G ad2 R) post (fun u : QR => wR G ad2 u) 0 0) (hk : k ≤ 1086 ∧ n ≤ 10291) (hc : 0 ≤ code ∧ code ≤ 3) (hV : SV P l) (hyp : ∀ (zm : Int32) (u : QR), post zm u → RR P l u ∧ u.1 = code ∧ (code = 0 → f 0 = zm.toInt64)) (kk : LK G X ad ad2 q b i k n) : JW G X k n (wR G ad2 R ++ (wC G ad P l A T F ++ [jAL G q f])) 369 (lL b ad ad2 q i) [.int (iI code)] := by
  refine jw_istore_5 (pc := 369) C dL_law_369 rfl ?_
  refine jw_aload_2 (pc := 371) C dL_law_371 ?_
  refine jw_aload_0 (pc := 372) C dL_law_372 ?_
  refine jw_iload_4 (pc := 373) C dL_law_373 ?_
  refine jw_iconst (pc := 375) C dL_law_375 ?_
  refine jw_iadd (pc := 376) C dL_law_376 ?_
  refine jw_sldi (pc := 377) C S (i + 1) (by omega) (by omega) hN ex dL_law_377 ?_
  refine jw_aload_0 (pc := 378) C dL_law_378 ?_
  refine jw_iload_4 (pc := 379) C dL_law_379 ?_
  refine jw_iconst (pc := 381) C dL_law_381 ?_
  refine jw_iadd (pc := 382) C dL_law_382 ?_
  refine jw_sldi (pc := 383) C S (i + 2) (by omega) (by omega) hN ey dL_law_383 ?_
  refine jw_sV_I (pc := 384) (wr := wC G ad P l A T F ++ [jAL G q f]) C ct wd_X6_setLimits kml_L_93 0 rfl rfl (List.range 15) ((List.range 31).map (· + 15)) rfl rfl rfl rfl (by decide) rfl rfl (Nat.le_of_ble_eq_true rfl) ⟨by decide, by decide⟩ ⟨hk.1, hk.2⟩ dL_law_384 rfl (fun zm u h => ?_)
  obtain ⟨h1, h2, h3⟩ := hyp zm u h
  exact lw_tl C 387 dL_law_387 dL_law_389 dL_law_390 dL_law_393 dL_law_395 dL_law_400 dL_law_402 dL_law_405 dL_law_406 dL_law_407 dL_law_408 dL_law_410 dL_law_411 dL_law_412 dL_law_417 (by decide) hk hc hV h1 h2 h3 kk
set_option maxRecDepth 100000 in
set_option maxHeartbeats 4000000 in
theorem lt_arrive {G : jG} {X : JX} {k n : Nat} {ad ad2 : Nat → Nat} {q b i N : Nat} {xs : Nat → Int32} {P : QP} {l : QL} {A : QA} {T : Nat → Bool} {F : QF} {f : Nat → Int64} {R : QR} {post : Int32 → QR → Prop} {code : Int} {a : Int} (C : JC G X room_1 cL_law RL 9) (S : JScr X b N xs) (hi : i + 4 ≤ N) (hN : N < 1000000) (ea : xs (i + 1) = iI a) (ct : CI G yX6_arrive cX6_arrive 4 (jrm 6 138 0 0) [.ref (ad2 0), .int (iI a), .int (xs (i + 2))] (wR G ad2 R) post (fun u : QR => wR G ad2 u) 0 0) (hk : k ≤ 1086 ∧ n ≤ 10291) (hc : 0 ≤ code ∧ code ≤ 3) (hV : SV P l) (hyp : ∀ (zm : Int32) (u : QR), post zm u → RR P l u ∧ u.1 = code ∧ (code = 0 → f 0 = zm.toInt64)) (kk : LK G X ad ad2 q b i k n) : JW G X k n (wR G ad2 R ++ (wC G ad P l A T F ++ [jAL G q f])) 437 (lL b ad ad2 q i) [.int (iI code)] := by
  refine jw_istore_5 (pc := 437) C dL_law_437 rfl ?_
  refine jw_aload_2 (pc := 439) C dL_law_439 ?_
  refine jw_aload_0 (pc := 440) C dL_law_440 ?_
  refine jw_iload_4 (pc := 441) C dL_law_441 ?_
  refine jw_iconst (pc := 443) C dL_law_443 ?_
  refine jw_iadd (pc := 444) C dL_law_444 ?_
  refine jw_sldi (pc := 445) C S (i + 1) (by omega) (by omega) hN ea dL_law_445 ?_
  refine jw_aload_0 (pc := 446) C dL_law_446 ?_
  refine jw_iload_4 (pc := 447) C dL_law_447 ?_
  refine jw_iconst (pc := 449) C dL_law_449 ?_
  refine jw_iadd (pc := 450) C dL_law_450 ?_
  refine jw_sld (pc := 451) C S (i + 2) (by omega) (by omega) hN dL_law_451 ?_
  refine jw_sV_I (pc := 452) (wr := wC G ad P l A T F ++ [jAL G q f]) C ct wd_X6_arrive kml_L_96 0 rfl rfl (List.range 15) ((List.range 31).map (· + 15)) rfl rfl rfl rfl (by decide) rfl rfl (Nat.le_of_ble_eq_true rfl) ⟨by decide, by decide⟩ ⟨hk.1, hk.2⟩ dL_law_452 rfl (fun zm u h => ?_)
  obtain ⟨h1, h2, h3⟩ := hyp zm u h
  exact lw_tl C 455 dL_law_455 dL_law_457 dL_law_458 dL_law_461 dL_law_463 dL_law_468 dL_law_470 dL_law_473 dL_law_474 dL_law_475 dL_law_476 dL_law_478 dL_law_479 dL_law_480 dL_law_485 (by decide) hk hc hV h1 h2 h3 kk
set_option maxRecDepth 100000 in
set_option maxHeartbeats 4000000 in
theorem lt_depart {G : jG} {X : JX} {k n : Nat} {ad ad2 : Nat → Nat} {q b i N : Nat} {xs : Nat → Int32} {P : QP} {l : QL} {A : QA} {T : Nat → Bool} {F : QF} {f : Nat → Int64} {R : QR} {post : Int32 → QR → Prop} {code : Int} {a : Int} (C : JC G X room_1 cL_law RL 9) (S : JScr X b N xs) (hi : i + 4 ≤ N) (hN : N < 1000000) (ea : xs (i + 1) = iI a) (ct : CI G yX6_depart cX6_depart 2 (jrm 7 160 0 0) [.ref (ad2 0), .int (iI a)] (wR G ad2 R) post (fun u : QR => wR G ad2 u) 0 0) (hk : k ≤ 1086 ∧ n ≤ 10291) (hc : 0 ≤ code ∧ code ≤ 3) (hV : SV P l) (hyp : ∀ (zm : Int32) (u : QR), post zm u → RR P l u ∧ u.1 = code ∧ (code = 0 → f 0 = zm.toInt64)) (kk : LK G X ad ad2 q b i k n) : JW G X k n (wR G ad2 R ++ (wC G ad P l A T F ++ [jAL G q f])) 499 (lL b ad ad2 q i) [.int (iI code)] := by
  refine jw_istore_5 (pc := 499) C dL_law_499 rfl ?_
  refine jw_aload_2 (pc := 501) C dL_law_501 ?_
  refine jw_aload_0 (pc := 502) C dL_law_502 ?_
  refine jw_iload_4 (pc := 503) C dL_law_503 ?_
  refine jw_iconst (pc := 505) C dL_law_505 ?_
  refine jw_iadd (pc := 506) C dL_law_506 ?_
  refine jw_sldi (pc := 507) C S (i + 1) (by omega) (by omega) hN ea dL_law_507 ?_
  refine jw_sV_I (pc := 508) (wr := wC G ad P l A T F ++ [jAL G q f]) C ct wd_X6_depart kml_L_99 0 rfl rfl (List.range 15) ((List.range 31).map (· + 15)) rfl rfl rfl rfl (by decide) rfl rfl (Nat.le_of_ble_eq_true rfl) ⟨by decide, by decide⟩ ⟨hk.1, hk.2⟩ dL_law_508 rfl (fun zm u h => ?_)
  obtain ⟨h1, h2, h3⟩ := hyp zm u h
  exact lw_tl C 511 dL_law_511 dL_law_513 dL_law_514 dL_law_517 dL_law_519 dL_law_524 dL_law_526 dL_law_529 dL_law_530 dL_law_531 dL_law_532 dL_law_534 dL_law_535 dL_law_536 dL_law_541 (by decide) hk hc hV h1 h2 h3 kk
set_option maxRecDepth 100000 in
set_option maxHeartbeats 4000000 in
theorem lt_setAccepts {G : jG} {X : JX} {k n : Nat} {ad ad2 : Nat → Nat} {q b i N : Nat} {xs : Nat → Int32} {P : QP} {l : QL} {A : QA} {T : Nat → Bool} {F : QF} {f : Nat → Int64} {R : QR} {post : Bool → QR → Prop} {code : Int} {a : Int} (C : JC G X room_1 cL_law RL 9) (S : JScr X b N xs) (hi : i + 4 ≤ N) (hN : N < 1000000) (ea : xs (i + 1) = iI a) (ct : CZ G yX6_setAccepts cX6_setAccepts 3 (jrm 7 160 0 0) [.ref (ad2 0), .int (iI a), .int (xs (i + 2))] (wR G ad2 R) post (fun u : QR => wR G ad2 u) 0 0) (hk : k ≤ 1086 ∧ n ≤ 10291) (hc : 0 ≤ code ∧ code ≤ 3) (hV : SV P l) (hyp : ∀ (zm : Bool) (u : QR), post zm u → RR P l u ∧ u.1 = code ∧ (code = 0 → f 0 = (if zm = true then 1 else 0))) (kk : LK G X ad ad2 q b i k n) : JW G X k n (wR G ad2 R ++ (wC G ad P l A T F ++ [jAL G q f])) 561 (lL b ad ad2 q i) [.int (iI code)] := by
  refine jw_istore_5 (pc := 561) C dL_law_561 rfl ?_
  refine jw_aload_2 (pc := 563) C dL_law_563 ?_
  refine jw_aload_0 (pc := 564) C dL_law_564 ?_
  refine jw_iload_4 (pc := 565) C dL_law_565 ?_
  refine jw_iconst (pc := 567) C dL_law_567 ?_
  refine jw_iadd (pc := 568) C dL_law_568 ?_
  refine jw_sldi (pc := 569) C S (i + 1) (by omega) (by omega) hN ea dL_law_569 ?_
  refine jw_aload_0 (pc := 570) C dL_law_570 ?_
  refine jw_iload_4 (pc := 571) C dL_law_571 ?_
  refine jw_iconst (pc := 573) C dL_law_573 ?_
  refine jw_iadd (pc := 574) C dL_law_574 ?_
  refine jw_sld (pc := 575) C S (i + 2) (by omega) (by omega) hN dL_law_575 ?_
  refine jw_sV_Z (pc := 576) (wr := wC G ad P l A T F ++ [jAL G q f]) C ct wd_X6_setAccepts kml_L_102 0 rfl rfl (List.range 15) ((List.range 31).map (· + 15)) rfl rfl rfl rfl (by decide) rfl rfl (Nat.le_of_ble_eq_true rfl) ⟨by decide, by decide⟩ ⟨hk.1, hk.2⟩ dL_law_576 rfl (fun zm u h => ?_)
  obtain ⟨h1, h2, h3⟩ := hyp zm u h
  have hE : JW G X k n (wL G ad ad2 P l A T F q f u) 616 [some (.ref b), some (.ref (ad 0)), some (.ref (ad2 0)), some (.ref q), some (.int (iI (i : Int))), some (.int (iI code)), some (.int (jb zm)), none, none] [] := jw_goto (tgt := 1256) C dL_law_616 (by decide) (jw_lf4 (kk P l A T F f u hV h1))
  refine jw_istore_6 (pc := 579) C dL_law_579 rfl ?_
  refine jw_aload_2 (pc := 581) C dL_law_581 ?_
  refine jw_sV_I (pc := 582) (wr := wC G ad P l A T F ++ [jAL G q f]) C (c_X6_thrown G ad2 u) wd_X6_thrown kml_L_79 31 rfl rfl ((List.range 15).map (· + 31)) (List.range 31) rfl rfl rfl rfl (by decide) rfl rfl (Nat.le_of_ble_eq_true rfl) ⟨by decide, by decide⟩ ⟨hk.1, hk.2⟩ dL_law_582 rfl (fun z _ h => ?_)
  subst h
  refine jw_iload_5 (pc := 585) C dL_law_585 ?_
  refine jw_icmp_eq_r (pc := 587) (tgt := 592) C dL_law_587 (by decide) (fun _ => ?_) (fun h => absurd (congrArg iI h2) h)
  refine jw_iload_5 (pc := 592) C dL_law_592 ?_
  refine jw_if_ne_r (pc := 594) (tgt := 616) C dL_law_594 (by decide) (fun _ => hE) (fun h => ?_)
  have h0 := iI_code hc h
  refine jw_aload_3 (pc := 597) C dL_law_597 ?_
  refine jw_iconst (pc := 598) C dL_law_598 ?_
  refine jw_lald (pc := 599) C 30 rfl 0 rfl (by decide) (by decide) dL_law_599 ?_
  refine jw_iload_6 (pc := 600) C dL_law_600 ?_
  have hF2 := h3 h0
  cases zm with
  | false =>
    refine jw_if_eq_r (pc := 602) (tgt := 609) C dL_law_602 (by decide) (fun _ => ?_) (fun h => absurd rfl h)
    refine jw_lconst (pc := 609) C dL_law_609 ?_
    refine jw_lcmp (pc := 610) C dL_law_610 ?_
    exact jw_if_eq_r (pc := 611) (tgt := 616) C dL_law_611 (by decide) (fun _ => hE) (fun h => absurd ((lg_cmp_eq _ _).mpr hF2) h)
  | true =>
    refine jw_if_eq_r (pc := 602) (tgt := 609) C dL_law_602 (by decide) (fun h => absurd h (by decide)) (fun _ => ?_)
    refine jw_lconst (pc := 605) C dL_law_605 ?_
    refine jw_goto (pc := 606) (tgt := 610) C dL_law_606 (by decide) ?_
    refine jw_lcmp (pc := 610) C dL_law_610 ?_
    exact jw_if_eq_r (pc := 611) (tgt := 616) C dL_law_611 (by decide) (fun _ => hE) (fun h => absurd ((lg_cmp_eq _ _).mpr hF2) h)
set_option maxRecDepth 100000 in
set_option maxHeartbeats 4000000 in
theorem lt_assignedOf {G : jG} {X : JX} {k n : Nat} {ad ad2 : Nat → Nat} {q b i N : Nat} {xs : Nat → Int32} {P : QP} {l : QL} {A : QA} {T : Nat → Bool} {F : QF} {f : Nat → Int64} {R : QR} {post : Int32 → QR → Prop} {code : Int} {a : Int} (C : JC G X room_1 cL_law RL 9) (S : JScr X b N xs) (hi : i + 4 ≤ N) (hN : N < 1000000) (ea : xs (i + 1) = iI a) (ct : CI G yX6_assignedOf cX6_assignedOf 2 (jrm 1 23 0 0) [.ref (ad2 0), .int (iI a)] (wR G ad2 R) post (fun u : QR => wR G ad2 u) 0 0) (hk : k ≤ 1086 ∧ n ≤ 10291) (hc : 0 ≤ code ∧ code ≤ 3) (hV : SV P l) (hyp : ∀ (zm : Int32) (u : QR), post zm u → RR P l u ∧ u.1 = code ∧ (code = 0 → f 0 = zm.toInt64)) (kk : LK G X ad ad2 q b i k n) : JW G X k n (wR G ad2 R ++ (wC G ad P l A T F ++ [jAL G q f])) 682 (lL b ad ad2 q i) [.int (iI code)] := by
  refine jw_istore_5 (pc := 682) C dL_law_682 rfl ?_
  refine jw_aload_2 (pc := 684) C dL_law_684 ?_
  refine jw_aload_0 (pc := 685) C dL_law_685 ?_
  refine jw_iload_4 (pc := 686) C dL_law_686 ?_
  refine jw_iconst (pc := 688) C dL_law_688 ?_
  refine jw_iadd (pc := 689) C dL_law_689 ?_
  refine jw_sldi (pc := 690) C S (i + 1) (by omega) (by omega) hN ea dL_law_690 ?_
  refine jw_sV_I (pc := 691) (wr := wC G ad P l A T F ++ [jAL G q f]) C ct wd_X6_assignedOf kml_L_121 0 rfl rfl (List.range 15) ((List.range 31).map (· + 15)) rfl rfl rfl rfl (by decide) rfl rfl (Nat.le_of_ble_eq_true rfl) ⟨by decide, by decide⟩ ⟨hk.1, hk.2⟩ dL_law_691 rfl (fun zm u h => ?_)
  obtain ⟨h1, h2, h3⟩ := hyp zm u h
  exact lw_tl C 694 dL_law_694 dL_law_696 dL_law_697 dL_law_700 dL_law_702 dL_law_707 dL_law_709 dL_law_712 dL_law_713 dL_law_714 dL_law_715 dL_law_717 dL_law_718 dL_law_719 dL_law_724 (by decide) hk hc hV h1 h2 h3 kk
set_option maxRecDepth 100000 in
set_option maxHeartbeats 4000000 in
theorem lt_load {G : jG} {X : JX} {k n : Nat} {ad ad2 : Nat → Nat} {q b i N : Nat} {xs : Nat → Int32} {P : QP} {l : QL} {A : QA} {T : Nat → Bool} {F : QF} {f : Nat → Int64} {R : QR} {post : Int32 → QR → Prop} {code : Int} {a : Int} (C : JC G X room_1 cL_law RL 9) (S : JScr X b N xs) (hi : i + 4 ≤ N) (hN : N < 1000000) (ea : xs (i + 1) = iI a) (ct : CI G yX6_load cX6_load 2 (jrm 2 45 0 0) [.ref (ad2 0), .int (iI a)] (wR G ad2 R) post (fun u : QR => wR G ad2 u) 0 0) (hk : k ≤ 1086 ∧ n ≤ 10291) (hc : 0 ≤ code ∧ code ≤ 3) (hV : SV P l) (hyp : ∀ (zm : Int32) (u : QR), post zm u → RR P l u ∧ u.1 = code ∧ (code = 0 → f 0 = zm.toInt64)) (kk : LK G X ad ad2 q b i k n) : JW G X k n (wR G ad2 R ++ (wC G ad P l A T F ++ [jAL G q f])) 738 (lL b ad ad2 q i) [.int (iI code)] := by
  refine jw_istore_5 (pc := 738) C dL_law_738 rfl ?_
  refine jw_aload_2 (pc := 740) C dL_law_740 ?_
  refine jw_aload_0 (pc := 741) C dL_law_741 ?_
  refine jw_iload_4 (pc := 742) C dL_law_742 ?_
  refine jw_iconst (pc := 744) C dL_law_744 ?_
  refine jw_iadd (pc := 745) C dL_law_745 ?_
  refine jw_sldi (pc := 746) C S (i + 1) (by omega) (by omega) hN ea dL_law_746 ?_
  refine jw_sV_I (pc := 747) (wr := wC G ad P l A T F ++ [jAL G q f]) C ct wd_X6_load kml_L_124 0 rfl rfl (List.range 15) ((List.range 31).map (· + 15)) rfl rfl rfl rfl (by decide) rfl rfl (Nat.le_of_ble_eq_true rfl) ⟨by decide, by decide⟩ ⟨hk.1, hk.2⟩ dL_law_747 rfl (fun zm u h => ?_)
  obtain ⟨h1, h2, h3⟩ := hyp zm u h
  exact lw_tl C 750 dL_law_750 dL_law_752 dL_law_753 dL_law_756 dL_law_758 dL_law_763 dL_law_765 dL_law_768 dL_law_769 dL_law_770 dL_law_771 dL_law_773 dL_law_774 dL_law_775 dL_law_780 (by decide) hk hc hV h1 h2 h3 kk
set_option maxRecDepth 100000 in
set_option maxHeartbeats 4000000 in
theorem lt_state {G : jG} {X : JX} {k n : Nat} {ad ad2 : Nat → Nat} {q b i N : Nat} {xs : Nat → Int32} {P : QP} {l : QL} {A : QA} {T : Nat → Bool} {F : QF} {f : Nat → Int64} {R : QR} {post : Int32 → QR → Prop} {code : Int} {a : Int} (C : JC G X room_1 cL_law RL 9) (S : JScr X b N xs) (hi : i + 4 ≤ N) (hN : N < 1000000) (ea : xs (i + 1) = iI a) (ct : CI G yX6_state cX6_state 2 (jrm 1 21 0 0) [.ref (ad2 0), .int (iI a)] (wR G ad2 R) post (fun u : QR => wR G ad2 u) 0 0) (hk : k ≤ 1086 ∧ n ≤ 10291) (hc : 0 ≤ code ∧ code ≤ 3) (hV : SV P l) (hyp : ∀ (zm : Int32) (u : QR), post zm u → RR P l u ∧ u.1 = code ∧ (code = 0 → f 0 = zm.toInt64)) (kk : LK G X ad ad2 q b i k n) : JW G X k n (wR G ad2 R ++ (wC G ad P l A T F ++ [jAL G q f])) 794 (lL b ad ad2 q i) [.int (iI code)] := by
  refine jw_istore_5 (pc := 794) C dL_law_794 rfl ?_
  refine jw_aload_2 (pc := 796) C dL_law_796 ?_
  refine jw_aload_0 (pc := 797) C dL_law_797 ?_
  refine jw_iload_4 (pc := 798) C dL_law_798 ?_
  refine jw_iconst (pc := 800) C dL_law_800 ?_
  refine jw_iadd (pc := 801) C dL_law_801 ?_
  refine jw_sldi (pc := 802) C S (i + 1) (by omega) (by omega) hN ea dL_law_802 ?_
  refine jw_sV_I (pc := 803) (wr := wC G ad P l A T F ++ [jAL G q f]) C ct wd_X6_state kml_L_127 0 rfl rfl (List.range 15) ((List.range 31).map (· + 15)) rfl rfl rfl rfl (by decide) rfl rfl (Nat.le_of_ble_eq_true rfl) ⟨by decide, by decide⟩ ⟨hk.1, hk.2⟩ dL_law_803 rfl (fun zm u h => ?_)
  obtain ⟨h1, h2, h3⟩ := hyp zm u h
  exact lw_tl C 806 dL_law_806 dL_law_808 dL_law_809 dL_law_812 dL_law_814 dL_law_819 dL_law_821 dL_law_824 dL_law_825 dL_law_826 dL_law_827 dL_law_829 dL_law_830 dL_law_831 dL_law_836 (by decide) hk hc hV h1 h2 h3 kk
set_option maxRecDepth 100000 in
set_option maxHeartbeats 4000000 in
theorem lt_resourceOf {G : jG} {X : JX} {k n : Nat} {ad ad2 : Nat → Nat} {q b i N : Nat} {xs : Nat → Int32} {P : QP} {l : QL} {A : QA} {T : Nat → Bool} {F : QF} {f : Nat → Int64} {R : QR} {post : Int32 → QR → Prop} {code : Int} {a : Int} (C : JC G X room_1 cL_law RL 9) (S : JScr X b N xs) (hi : i + 4 ≤ N) (hN : N < 1000000) (ea : xs (i + 1) = iI a) (ct : CI G yX6_resourceOf cX6_resourceOf 2 (jrm 1 21 0 0) [.ref (ad2 0), .int (iI a)] (wR G ad2 R) post (fun u : QR => wR G ad2 u) 0 0) (hk : k ≤ 1086 ∧ n ≤ 10291) (hc : 0 ≤ code ∧ code ≤ 3) (hV : SV P l) (hyp : ∀ (zm : Int32) (u : QR), post zm u → RR P l u ∧ u.1 = code ∧ (code = 0 → f 0 = zm.toInt64)) (kk : LK G X ad ad2 q b i k n) : JW G X k n (wR G ad2 R ++ (wC G ad P l A T F ++ [jAL G q f])) 850 (lL b ad ad2 q i) [.int (iI code)] := by
  refine jw_istore_5 (pc := 850) C dL_law_850 rfl ?_
  refine jw_aload_2 (pc := 852) C dL_law_852 ?_
  refine jw_aload_0 (pc := 853) C dL_law_853 ?_
  refine jw_iload_4 (pc := 854) C dL_law_854 ?_
  refine jw_iconst (pc := 856) C dL_law_856 ?_
  refine jw_iadd (pc := 857) C dL_law_857 ?_
  refine jw_sldi (pc := 858) C S (i + 1) (by omega) (by omega) hN ea dL_law_858 ?_
  refine jw_sV_I (pc := 859) (wr := wC G ad P l A T F ++ [jAL G q f]) C ct wd_X6_resourceOf kml_L_130 0 rfl rfl (List.range 15) ((List.range 31).map (· + 15)) rfl rfl rfl rfl (by decide) rfl rfl (Nat.le_of_ble_eq_true rfl) ⟨by decide, by decide⟩ ⟨hk.1, hk.2⟩ dL_law_859 rfl (fun zm u h => ?_)
  obtain ⟨h1, h2, h3⟩ := hyp zm u h
  exact lw_tl C 862 dL_law_862 dL_law_864 dL_law_865 dL_law_868 dL_law_870 dL_law_875 dL_law_877 dL_law_880 dL_law_881 dL_law_882 dL_law_883 dL_law_885 dL_law_886 dL_law_887 dL_law_892 (by decide) hk hc hV h1 h2 h3 kk
set_option maxRecDepth 100000 in
set_option maxHeartbeats 4000000 in
theorem lt_movesOf {G : jG} {X : JX} {k n : Nat} {ad ad2 : Nat → Nat} {q b i N : Nat} {xs : Nat → Int32} {P : QP} {l : QL} {A : QA} {T : Nat → Bool} {F : QF} {f : Nat → Int64} {R : QR} {post : Int32 → QR → Prop} {code : Int} {a : Int} (C : JC G X room_1 cL_law RL 9) (S : JScr X b N xs) (hi : i + 4 ≤ N) (hN : N < 1000000) (ea : xs (i + 1) = iI a) (ct : CI G yX6_movesOf cX6_movesOf 2 (jrm 1 21 0 0) [.ref (ad2 0), .int (iI a)] (wR G ad2 R) post (fun u : QR => wR G ad2 u) 0 0) (hk : k ≤ 1086 ∧ n ≤ 10291) (hc : 0 ≤ code ∧ code ≤ 3) (hV : SV P l) (hyp : ∀ (zm : Int32) (u : QR), post zm u → RR P l u ∧ u.1 = code ∧ (code = 0 → f 0 = zm.toInt64)) (kk : LK G X ad ad2 q b i k n) : JW G X k n (wR G ad2 R ++ (wC G ad P l A T F ++ [jAL G q f])) 906 (lL b ad ad2 q i) [.int (iI code)] := by
  refine jw_istore_5 (pc := 906) C dL_law_906 rfl ?_
  refine jw_aload_2 (pc := 908) C dL_law_908 ?_
  refine jw_aload_0 (pc := 909) C dL_law_909 ?_
  refine jw_iload_4 (pc := 910) C dL_law_910 ?_
  refine jw_iconst (pc := 912) C dL_law_912 ?_
  refine jw_iadd (pc := 913) C dL_law_913 ?_
  refine jw_sldi (pc := 914) C S (i + 1) (by omega) (by omega) hN ea dL_law_914 ?_
  refine jw_sV_I (pc := 915) (wr := wC G ad P l A T F ++ [jAL G q f]) C ct wd_X6_movesOf kml_L_133 0 rfl rfl (List.range 15) ((List.range 31).map (· + 15)) rfl rfl rfl rfl (by decide) rfl rfl (Nat.le_of_ble_eq_true rfl) ⟨by decide, by decide⟩ ⟨hk.1, hk.2⟩ dL_law_915 rfl (fun zm u h => ?_)
  obtain ⟨h1, h2, h3⟩ := hyp zm u h
  exact lw_tl C 918 dL_law_918 dL_law_920 dL_law_921 dL_law_924 dL_law_926 dL_law_931 dL_law_933 dL_law_936 dL_law_937 dL_law_938 dL_law_939 dL_law_941 dL_law_942 dL_law_943 dL_law_948 (by decide) hk hc hV h1 h2 h3 kk
set_option maxRecDepth 100000 in
set_option maxHeartbeats 4000000 in
theorem lt_movedRequest {G : jG} {X : JX} {k n : Nat} {ad ad2 : Nat → Nat} {q b i N : Nat} {xs : Nat → Int32} {P : QP} {l : QL} {A : QA} {T : Nat → Bool} {F : QF} {f : Nat → Int64} {R : QR} {post : Int32 → QR → Prop} {code : Int} {a : Int} (C : JC G X room_1 cL_law RL 9) (S : JScr X b N xs) (hi : i + 4 ≤ N) (hN : N < 1000000) (ea : xs (i + 1) = iI a) (ct : CI G yX6_movedRequest cX6_movedRequest 2 (jrm 1 21 0 0) [.ref (ad2 0), .int (iI a)] (wR G ad2 R) post (fun u : QR => wR G ad2 u) 0 0) (hk : k ≤ 1086 ∧ n ≤ 10291) (hc : 0 ≤ code ∧ code ≤ 3) (hV : SV P l) (hyp : ∀ (zm : Int32) (u : QR), post zm u → RR P l u ∧ u.1 = code ∧ (code = 0 → f 0 = zm.toInt64)) (kk : LK G X ad ad2 q b i k n) : JW G X k n (wR G ad2 R ++ (wC G ad P l A T F ++ [jAL G q f])) 975 (lL b ad ad2 q i) [.int (iI code)] := by
  refine jw_istore_5 (pc := 975) C dL_law_975 rfl ?_
  refine jw_aload_2 (pc := 977) C dL_law_977 ?_
  refine jw_aload_0 (pc := 978) C dL_law_978 ?_
  refine jw_iload_4 (pc := 979) C dL_law_979 ?_
  refine jw_iconst (pc := 981) C dL_law_981 ?_
  refine jw_iadd (pc := 982) C dL_law_982 ?_
  refine jw_sldi (pc := 983) C S (i + 1) (by omega) (by omega) hN ea dL_law_983 ?_
  refine jw_sV_I (pc := 984) (wr := wC G ad P l A T F ++ [jAL G q f]) C ct wd_X6_movedRequest kml_L_140 0 rfl rfl (List.range 15) ((List.range 31).map (· + 15)) rfl rfl rfl rfl (by decide) rfl rfl (Nat.le_of_ble_eq_true rfl) ⟨by decide, by decide⟩ ⟨hk.1, hk.2⟩ dL_law_984 rfl (fun zm u h => ?_)
  obtain ⟨h1, h2, h3⟩ := hyp zm u h
  exact lw_tl C 987 dL_law_987 dL_law_989 dL_law_990 dL_law_993 dL_law_995 dL_law_1000 dL_law_1002 dL_law_1005 dL_law_1006 dL_law_1007 dL_law_1008 dL_law_1010 dL_law_1011 dL_law_1012 dL_law_1017 (by decide) hk hc hV h1 h2 h3 kk
set_option maxRecDepth 100000 in
set_option maxHeartbeats 4000000 in
theorem lt_movedTo {G : jG} {X : JX} {k n : Nat} {ad ad2 : Nat → Nat} {q b i N : Nat} {xs : Nat → Int32} {P : QP} {l : QL} {A : QA} {T : Nat → Bool} {F : QF} {f : Nat → Int64} {R : QR} {post : Int32 → QR → Prop} {code : Int} {a : Int} (C : JC G X room_1 cL_law RL 9) (S : JScr X b N xs) (hi : i + 4 ≤ N) (hN : N < 1000000) (ea : xs (i + 1) = iI a) (ct : CI G yX6_movedTo cX6_movedTo 2 (jrm 1 21 0 0) [.ref (ad2 0), .int (iI a)] (wR G ad2 R) post (fun u : QR => wR G ad2 u) 0 0) (hk : k ≤ 1086 ∧ n ≤ 10291) (hc : 0 ≤ code ∧ code ≤ 3) (hV : SV P l) (hyp : ∀ (zm : Int32) (u : QR), post zm u → RR P l u ∧ u.1 = code ∧ (code = 0 → f 0 = zm.toInt64)) (kk : LK G X ad ad2 q b i k n) : JW G X k n (wR G ad2 R ++ (wC G ad P l A T F ++ [jAL G q f])) 1031 (lL b ad ad2 q i) [.int (iI code)] := by
  refine jw_istore_5 (pc := 1031) C dL_law_1031 rfl ?_
  refine jw_aload_2 (pc := 1033) C dL_law_1033 ?_
  refine jw_aload_0 (pc := 1034) C dL_law_1034 ?_
  refine jw_iload_4 (pc := 1035) C dL_law_1035 ?_
  refine jw_iconst (pc := 1037) C dL_law_1037 ?_
  refine jw_iadd (pc := 1038) C dL_law_1038 ?_
  refine jw_sldi (pc := 1039) C S (i + 1) (by omega) (by omega) hN ea dL_law_1039 ?_
  refine jw_sV_I (pc := 1040) (wr := wC G ad P l A T F ++ [jAL G q f]) C ct wd_X6_movedTo kml_L_143 0 rfl rfl (List.range 15) ((List.range 31).map (· + 15)) rfl rfl rfl rfl (by decide) rfl rfl (Nat.le_of_ble_eq_true rfl) ⟨by decide, by decide⟩ ⟨hk.1, hk.2⟩ dL_law_1040 rfl (fun zm u h => ?_)
  obtain ⟨h1, h2, h3⟩ := hyp zm u h
  exact lw_tl C 1043 dL_law_1043 dL_law_1045 dL_law_1046 dL_law_1049 dL_law_1051 dL_law_1056 dL_law_1058 dL_law_1061 dL_law_1062 dL_law_1063 dL_law_1064 dL_law_1066 dL_law_1067 dL_law_1068 dL_law_1073 (by decide) hk hc hV h1 h2 h3 kk
set_option maxRecDepth 100000 in
set_option maxHeartbeats 4000000 in
theorem lt_movesNeeded {G : jG} {X : JX} {k n : Nat} {ad ad2 : Nat → Nat} {q b i N : Nat} {xs : Nat → Int32} {P : QP} {l : QL} {A : QA} {T : Nat → Bool} {F : QF} {f : Nat → Int64} {R : QR} {post : Int32 → QR → Prop} {code : Int} {a : Int} (C : JC G X room_1 cL_law RL 9) (S : JScr X b N xs) (hi : i + 4 ≤ N) (hN : N < 1000000) (ea : xs (i + 1) = iI a) (ct : CI G yX6_movesNeeded cX6_movesNeeded 3 (jrm 5 112 0 0) [.ref (ad2 0), .int (iI a)] (wR G ad2 R) post (fun u : QR => wR G ad2 u) 0 0) (hk : k ≤ 1086 ∧ n ≤ 10291) (hc : 0 ≤ code ∧ code ≤ 3) (hV : SV P l) (hyp : ∀ (zm : Int32) (u : QR), post zm u → RR P l u ∧ u.1 = code ∧ (code = 0 → f 0 = zm.toInt64)) (kk : LK G X ad ad2 q b i k n) : JW G X k n (wR G ad2 R ++ (wC G ad P l A T F ++ [jAL G q f])) 1087 (lL b ad ad2 q i) [.int (iI code)] := by
  refine jw_istore_5 (pc := 1087) C dL_law_1087 rfl ?_
  refine jw_aload_2 (pc := 1089) C dL_law_1089 ?_
  refine jw_aload_0 (pc := 1090) C dL_law_1090 ?_
  refine jw_iload_4 (pc := 1091) C dL_law_1091 ?_
  refine jw_iconst (pc := 1093) C dL_law_1093 ?_
  refine jw_iadd (pc := 1094) C dL_law_1094 ?_
  refine jw_sldi (pc := 1095) C S (i + 1) (by omega) (by omega) hN ea dL_law_1095 ?_
  refine jw_sV_I (pc := 1096) (wr := wC G ad P l A T F ++ [jAL G q f]) C ct wd_X6_movesNeeded kml_L_146 0 rfl rfl (List.range 15) ((List.range 31).map (· + 15)) rfl rfl rfl rfl (by decide) rfl rfl (Nat.le_of_ble_eq_true rfl) ⟨by decide, by decide⟩ ⟨hk.1, hk.2⟩ dL_law_1096 rfl (fun zm u h => ?_)
  obtain ⟨h1, h2, h3⟩ := hyp zm u h
  exact lw_tl C 1099 dL_law_1099 dL_law_1101 dL_law_1102 dL_law_1105 dL_law_1107 dL_law_1112 dL_law_1114 dL_law_1117 dL_law_1118 dL_law_1119 dL_law_1120 dL_law_1122 dL_law_1123 dL_law_1124 dL_law_1129 (by decide) hk hc hV h1 h2 h3 kk
set_option maxRecDepth 100000 in
set_option maxHeartbeats 4000000 in
theorem lt_gainBy {G : jG} {X : JX} {k n : Nat} {ad ad2 : Nat → Nat} {q b i N : Nat} {xs : Nat → Int32} {P : QP} {l : QL} {A : QA} {T : Nat → Bool} {F : QF} {f : Nat → Int64} {R : QR} {post : Int32 → QR → Prop} {code : Int} {a : Int} (C : JC G X room_1 cL_law RL 9) (S : JScr X b N xs) (hi : i + 4 ≤ N) (hN : N < 1000000) (ea : xs (i + 1) = iI a) (ct : CI G yX6_gainBy cX6_gainBy 5 (jrm 2 45 0 0) [.ref (ad2 0), .int (iI a)] (wR G ad2 R) post (fun u : QR => wR G ad2 u) 0 0) (hk : k ≤ 1086 ∧ n ≤ 10291) (hc : 0 ≤ code ∧ code ≤ 3) (hV : SV P l) (hyp : ∀ (zm : Int32) (u : QR), post zm u → RR P l u ∧ u.1 = code ∧ (code = 0 → f 0 = zm.toInt64)) (kk : LK G X ad ad2 q b i k n) : JW G X k n (wR G ad2 R ++ (wC G ad P l A T F ++ [jAL G q f])) 1156 (lL b ad ad2 q i) [.int (iI code)] := by
  refine jw_istore_5 (pc := 1156) C dL_law_1156 rfl ?_
  refine jw_aload_2 (pc := 1158) C dL_law_1158 ?_
  refine jw_aload_0 (pc := 1159) C dL_law_1159 ?_
  refine jw_iload_4 (pc := 1160) C dL_law_1160 ?_
  refine jw_iconst (pc := 1162) C dL_law_1162 ?_
  refine jw_iadd (pc := 1163) C dL_law_1163 ?_
  refine jw_sldi (pc := 1164) C S (i + 1) (by omega) (by omega) hN ea dL_law_1164 ?_
  refine jw_sV_I (pc := 1165) (wr := wC G ad P l A T F ++ [jAL G q f]) C ct wd_X6_gainBy kml_L_153 0 rfl rfl (List.range 15) ((List.range 31).map (· + 15)) rfl rfl rfl rfl (by decide) rfl rfl (Nat.le_of_ble_eq_true rfl) ⟨by decide, by decide⟩ ⟨hk.1, hk.2⟩ dL_law_1165 rfl (fun zm u h => ?_)
  obtain ⟨h1, h2, h3⟩ := hyp zm u h
  exact lw_tl C 1168 dL_law_1168 dL_law_1170 dL_law_1171 dL_law_1174 dL_law_1176 dL_law_1181 dL_law_1183 dL_law_1186 dL_law_1187 dL_law_1188 dL_law_1189 dL_law_1191 dL_law_1192 dL_law_1193 dL_law_1198 (by decide) hk hc hV h1 h2 h3 kk
