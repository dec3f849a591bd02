/-! the law's loop -/
theorem and31 (x : Int32) : ∃ o : Nat, o < 32 ∧ x &&& iI 31 = iI (o : Int) := by
  refine ⟨(x.toBitVec &&& 31#32).toNat, ?_, ?_⟩
  · rw [BitVec.toNat_and]
    exact Nat.lt_of_le_of_lt Nat.and_le_right (by decide)
  · apply Int32.toBitVec_inj.mp
    rw [Int32.toBitVec_and]
    show x.toBitVec &&& 31#32 = BitVec.ofInt 32 _
    rw [BitVec.ofInt_natCast, BitVec.ofNat_toNat, BitVec.setWidth_eq]
set_option maxRecDepth 100000 in
set_option maxHeartbeats 4000000 in
theorem law_loop {G : jG} {X : JX} {ad ad2 : Nat → Nat} {q b N : Nat} {xs : Nat → Int32} {sa : Nat → Nat} (C : JC G X room_1 cL_law RL 9) (Ev : JE sa X) (S : JScr X b N xs) (hN : N ≤ 2048) (hend : ∀ (k n : Nat) (w : va_W) (L : List (Option Value)), k ≤ 1086 → n ≤ 10291 → JW G X k n w 1263 L [.int (iI 1)]) :
    ∀ (c i k n : Nat) (P : QP) (l : QL) (A : QA) (T : Nat → Bool) (F : QF) (f : Nat → Int64) (R : QR), N < i + 4 + 4 * c → i ≤ 4096 → k + c ≤ 1086 → n + 6 * c ≤ 10291 → SV P l → RR P l R → JW G X k n (wL G ad ad2 P l A T F q f R) 23 (lL b ad ad2 q i) [] := by
  intro c
  induction c with
  | zero =>
    intro i k n P l A T F f R h1 h2 h3 h4 hV hR
    refine jw_iload_4 (pc := 23) C dL_law_23 ?_
    refine jw_aload_0 (pc := 25) C dL_law_25 ?_
    refine jw_slen (pc := 26) C S dL_law_26 ?_
    refine jw_iconst (pc := 27) C dL_law_27 ?_
    refine jw_isub (pc := 28) C dL_law_28 ?_
    refine jw_icmp_gt (pc := 29) (tgt := 1262) C dL_law_29 (by decide) ⟨by omega, by omega⟩ ⟨by omega, by omega⟩ (fun _ => ?_) (fun h => absurd h (by omega))
    exact jw_iconst (pc := 1262) C dL_law_1262 (hend _ _ _ _ (by omega) (by omega))
  | succ c ih =>
    intro i k n P l A T F f R h1 h2 h3 h4 hV hR
    refine jw_iload_4 (pc := 23) C dL_law_23 ?_
    refine jw_aload_0 (pc := 25) C dL_law_25 ?_
    refine jw_slen (pc := 26) C S dL_law_26 ?_
    refine jw_iconst (pc := 27) C dL_law_27 ?_
    refine jw_isub (pc := 28) C dL_law_28 ?_
    refine jw_icmp_gt (pc := 29) (tgt := 1262) C dL_law_29 (by decide) ⟨by omega, by omega⟩ ⟨by omega, by omega⟩ (fun _ => ?_) (fun h => ?_)
    · exact jw_iconst (pc := 1262) C dL_law_1262 (hend _ _ _ _ (by omega) (by omega))
    have hi : i + 4 ≤ N := by omega
    have kk : LK G X ad ad2 q b i (k + 1) (n + 6) := by
      intro P l A T F f R hV hR
      refine jw_iinc_4 (pc := 1256) C dL_law_1256 rfl ?_
      refine jw_goto (pc := 1259) (tgt := 23) C dL_law_1259 (by decide) ?_
      have e : (i : Int) + 4 = ((i + 4 : Nat) : Int) := by omega
      rw [e]
      exact ih (i + 4) (k + 1) (n + 6) P l A T F f R (by omega) (by omega) (by omega) (by omega) hV hR
    refine jw_aload_0 (pc := 32) C dL_law_32 ?_
    refine jw_iload_4 (pc := 33) C dL_law_33 ?_
    refine jw_sld (pc := 35) C S i rfl (by omega) (by omega) dL_law_35 ?_
    refine jw_bipush (pc := 36) C dL_law_36 (by decide) ?_
    refine jw_iand (pc := 38) C dL_law_38 ?_
    obtain ⟨o, ho, eo⟩ := and31 (xs i)
    match o, ho, eo with
    | 0, _, eo => exact jw_tabIn (pc := 39) (tgt := 148) (off := 109) C dL_law_39 (by rw [eo]; decide) (by rw [eo]; decide) (by rw [eo]; rfl) (by decide) (lc_addResource C Ev S (by omega) (by omega) ⟨by omega, by omega⟩ hV hR kk)
    | 1, _, eo => exact jw_tabIn (pc := 39) (tgt := 204) (off := 165) C dL_law_39 (by rw [eo]; decide) (by rw [eo]; decide) (by rw [eo]; rfl) (by decide) (lc_setCapacity C Ev S (by omega) (by omega) ⟨by omega, by omega⟩ hV hR kk)
    | 2, _, eo => exact jw_tabIn (pc := 39) (tgt := 272) (off := 233) C dL_law_39 (by rw [eo]; decide) (by rw [eo]; decide) (by rw [eo]; rfl) (by decide) (lc_setGroup C Ev S (by omega) (by omega) ⟨by omega, by omega⟩ hV hR kk)
    | 3, _, eo => exact jw_tabIn (pc := 39) (tgt := 352) (off := 313) C dL_law_39 (by rw [eo]; decide) (by rw [eo]; decide) (by rw [eo]; rfl) (by decide) (lc_setLimits C Ev S (by omega) (by omega) ⟨by omega, by omega⟩ hV hR kk)
    | 4, _, eo => exact jw_tabIn (pc := 39) (tgt := 420) (off := 381) C dL_law_39 (by rw [eo]; decide) (by rw [eo]; decide) (by rw [eo]; rfl) (by decide) (lc_arrive C Ev S (by omega) (by omega) ⟨by omega, by omega⟩ hV hR kk)
    | 5, _, eo => exact jw_tabIn (pc := 39) (tgt := 488) (off := 449) C dL_law_39 (by rw [eo]; decide) (by rw [eo]; decide) (by rw [eo]; rfl) (by decide) (lc_depart C Ev S (by omega) (by omega) ⟨by omega, by omega⟩ hV hR kk)
    | 6, _, eo => exact jw_tabIn (pc := 39) (tgt := 544) (off := 505) C dL_law_39 (by rw [eo]; decide) (by rw [eo]; decide) (by rw [eo]; rfl) (by decide) (lc_setAccepts C Ev S (by omega) (by omega) ⟨by omega, by omega⟩ hV hR kk)
    | 7, _, eo => exact jw_tabIn (pc := 39) (tgt := 619) (off := 580) C dL_law_39 (by rw [eo]; decide) (by rw [eo]; decide) (by rw [eo]; rfl) (by decide) (lc_resourceCount C Ev S (by omega) (by omega) ⟨by omega, by omega⟩ hV hR kk)
    | 8, _, eo => exact jw_tabIn (pc := 39) (tgt := 632) (off := 593) C dL_law_39 (by rw [eo]; decide) (by rw [eo]; decide) (by rw [eo]; rfl) (by decide) (lc_arrivedCount C Ev S (by omega) (by omega) ⟨by omega, by omega⟩ hV hR kk)
    | 9, _, eo => exact jw_tabIn (pc := 39) (tgt := 645) (off := 606) C dL_law_39 (by rw [eo]; decide) (by rw [eo]; decide) (by rw [eo]; rfl) (by decide) (lc_assignedCount C Ev S (by omega) (by omega) ⟨by omega, by omega⟩ hV hR kk)
    | 10, _, eo => exact jw_tabIn (pc := 39) (tgt := 658) (off := 619) C dL_law_39 (by rw [eo]; decide) (by rw [eo]; decide) (by rw [eo]; rfl) (by decide) (lc_waitingCount C Ev S (by omega) (by omega) ⟨by omega, by omega⟩ hV hR kk)
    | 11, _, eo => exact jw_tabIn (pc := 39) (tgt := 671) (off := 632) C dL_law_39 (by rw [eo]; decide) (by rw [eo]; decide) (by rw [eo]; rfl) (by decide) (lc_assignedOf C Ev S (by omega) (by omega) ⟨by omega, by omega⟩ hV hR kk)
    | 12, _, eo => exact jw_tabIn (pc := 39) (tgt := 727) (off := 688) C dL_law_39 (by rw [eo]; decide) (by rw [eo]; decide) (by rw [eo]; rfl) (by decide) (lc_load C Ev S (by omega) (by omega) ⟨by omega, by omega⟩ hV hR kk)
    | 13, _, eo => exact jw_tabIn (pc := 39) (tgt := 783) (off := 744) C dL_law_39 (by rw [eo]; decide) (by rw [eo]; decide) (by rw [eo]; rfl) (by decide) (lc_state C Ev S (by omega) (by omega) ⟨by omega, by omega⟩ hV hR kk)
    | 14, _, eo => exact jw_tabIn (pc := 39) (tgt := 839) (off := 800) C dL_law_39 (by rw [eo]; decide) (by rw [eo]; decide) (by rw [eo]; rfl) (by decide) (lc_resourceOf C Ev S (by omega) (by omega) ⟨by omega, by omega⟩ hV hR kk)
    | 15, _, eo => exact jw_tabIn (pc := 39) (tgt := 895) (off := 856) C dL_law_39 (by rw [eo]; decide) (by rw [eo]; decide) (by rw [eo]; rfl) (by decide) (lc_movesOf C Ev S (by omega) (by omega) ⟨by omega, by omega⟩ hV hR kk)
    | 16, _, eo => exact jw_tabIn (pc := 39) (tgt := 951) (off := 912) C dL_law_39 (by rw [eo]; decide) (by rw [eo]; decide) (by rw [eo]; rfl) (by decide) (lc_moveCount C Ev S (by omega) (by omega) ⟨by omega, by omega⟩ hV hR kk)
    | 17, _, eo => exact jw_tabIn (pc := 39) (tgt := 964) (off := 925) C dL_law_39 (by rw [eo]; decide) (by rw [eo]; decide) (by rw [eo]; rfl) (by decide) (lc_movedRequest C Ev S (by omega) (by omega) ⟨by omega, by omega⟩ hV hR kk)
    | 18, _, eo => exact jw_tabIn (pc := 39) (tgt := 1020) (off := 981) C dL_law_39 (by rw [eo]; decide) (by rw [eo]; decide) (by rw [eo]; rfl) (by decide) (lc_movedTo C Ev S (by omega) (by omega) ⟨by omega, by omega⟩ hV hR kk)
    | 19, _, eo => exact jw_tabIn (pc := 39) (tgt := 1076) (off := 1037) C dL_law_39 (by rw [eo]; decide) (by rw [eo]; decide) (by rw [eo]; rfl) (by decide) (lc_movesNeeded C Ev S (by omega) (by omega) ⟨by omega, by omega⟩ hV hR kk)
    | 20, _, eo => exact jw_tabIn (pc := 39) (tgt := 1132) (off := 1093) C dL_law_39 (by rw [eo]; decide) (by rw [eo]; decide) (by rw [eo]; rfl) (by decide) (lc_greatestPossible C Ev S (by omega) (by omega) ⟨by omega, by omega⟩ hV hR kk)
    | 21, _, eo => exact jw_tabIn (pc := 39) (tgt := 1145) (off := 1106) C dL_law_39 (by rw [eo]; decide) (by rw [eo]; decide) (by rw [eo]; rfl) (by decide) (lc_gainBy C Ev S (by omega) (by omega) ⟨by omega, by omega⟩ hV hR kk)
    | 22, _, eo => exact jw_tabIn (pc := 39) (tgt := 1201) (off := 1162) C dL_law_39 (by rw [eo]; decide) (by rw [eo]; decide) (by rw [eo]; rfl) (by decide) (lc_fairness C Ev S (by omega) (by omega) ⟨by omega, by omega⟩ hV hR kk)
    | 23, _, eo => exact jw_tabIn (pc := 39) (tgt := 1242) (off := 1203) C dL_law_39 (by rw [eo]; decide) (by rw [eo]; decide) (by rw [eo]; rfl) (by decide) (lc_digest C Ev S (by omega) (by omega) ⟨by omega, by omega⟩ hV hR kk)
    | 24, _, eo => exact jw_tabOut (pc := 39) (tgt := 1256) C dL_law_39 (Or.inr (by rw [eo]; decide)) (by decide) (kk.widen P l A T F f R hV hR)
    | 25, _, eo => exact jw_tabOut (pc := 39) (tgt := 1256) C dL_law_39 (Or.inr (by rw [eo]; decide)) (by decide) (kk.widen P l A T F f R hV hR)
    | 26, _, eo => exact jw_tabOut (pc := 39) (tgt := 1256) C dL_law_39 (Or.inr (by rw [eo]; decide)) (by decide) (kk.widen P l A T F f R hV hR)
    | 27, _, eo => exact jw_tabOut (pc := 39) (tgt := 1256) C dL_law_39 (Or.inr (by rw [eo]; decide)) (by decide) (kk.widen P l A T F f R hV hR)
    | 28, _, eo => exact jw_tabOut (pc := 39) (tgt := 1256) C dL_law_39 (Or.inr (by rw [eo]; decide)) (by decide) (kk.widen P l A T F f R hV hR)
    | 29, _, eo => exact jw_tabOut (pc := 39) (tgt := 1256) C dL_law_39 (Or.inr (by rw [eo]; decide)) (by decide) (kk.widen P l A T F f R hV hR)
    | 30, _, eo => exact jw_tabOut (pc := 39) (tgt := 1256) C dL_law_39 (Or.inr (by rw [eo]; decide)) (by decide) (kk.widen P l A T F f R hV hR)
    | 31, _, eo => exact jw_tabOut (pc := 39) (tgt := 1256) C dL_law_39 (Or.inr (by rw [eo]; decide)) (by decide) (kk.widen P l A T F f R hV hR)
    | (j + 32), ho, _ => exact absurd ho (by omega)
