set_option maxRecDepth 100000 in
set_option maxHeartbeats 4000000 in
theorem c_X2_trace (G : jG) (ad : Nat → Nat) (P : QP) (l : QL) (A : QA) (T : Nat → Bool) (F : QF) (m : Int32) (hI : PI P) (hl : ∀ k : Nat, 1 ≤ k → (k : Int) ≤ P.res → ∀ j, j < 32 → bt (A.lay k) j = decide (dS P j = (k : Int))) (hn : A.len = minL P m) : CZ G yX2_trace cX2_trace 6 (jrm 2 44 0 0) [.ref (ad 3), .int m] (wC G ad P l A T F) (fun (z : Bool) (u : (Nat → Int) × (Nat → Int)) => z = decide (1 ≤ A.len) ∧ (∀ i : Nat, (i : Int) < A.len → u.1 i = pA P A.len (fstA P m) i) ∧ (∀ i : Nat, (i : Int) + 1 < A.len → u.2 i = pRq P A.len (fstA P m) i)) (fun u : (Nat → Int) × (Nat → Int) => wC G ad P l (A.suc, A.lay, u.1, u.2, A.len) T F) 0 0 := by
  refine cz_intro (own := RX2) [some (.ref (ad 3)), some (.int m), none, none, none, none] (by decide) rfl rfl rfl (Nat.le_of_ble_eq_true rfl) (fun X C hret => ?_)
  have h1 := hI.res
  have h2 := hI.req
  have hL : A.len = 0 ∨ ∃ (a n : Nat), A.len = (n : Int) ∧ 1 ≤ n ∧ (n : Int) ≤ P.res ∧ dS P a = (n : Int) ∧ fstA P m = (a : Int) := by
    rcases minL_spec P hI m with ⟨e1, -, -⟩ | ⟨a, e1, e2, e3, e4, e5, e6, e7⟩
    · left; rw [hn, e1]
    · right
      have := dS_rng hI a
      exact ⟨a, (dS P a).toNat, by rw [hn, e3]; omega, by omega, by omega, by omega, e6⟩
  have hA : 0 ≤ A.len ∧ A.len ≤ P.res := by
    rcases hL with h | ⟨a, n, e1, e2, e3, e4, e5⟩ <;> omega
  have hpath : ∀ i : Nat, (i : Int) < A.len → ∃ a : Nat, (a : Int) < P.res ∧ pA P A.len (fstA P m) i = (a : Int) ∧ dS P a = A.len - i ∧ ((i : Int) + 1 < A.len → ∃ (r b : Nat), (r : Int) < P.req ∧ pRq P A.len (fstA P m) i = (r : Int) ∧ P.plc r = (a : Int) ∧ P.mov r < P.ml ∧ (b : Int) < P.res ∧ pA P A.len (fstA P m) (i + 1) = (b : Int) ∧ bt (P.acc r) b = true) := by
    intro i hi
    rcases hL with h | ⟨a, n, e1, e2, e3, e4, e5⟩
    · omega
    · obtain ⟨b, g1, g2, g3, g4⟩ := path_spec P hI e4 e2 (by omega) i (by omega)
      rw [e1, e5]
      exact ⟨b, g1, g2, g3, fun q => g4 (by omega)⟩
  clear hL
  refine jw_iload_1 (pc := 0) C dX2_trace_0 ?_
  refine jw_aload_0 (pc := 1) C dX2_trace_1 ?_
  refine fg_X2_15 (pc := 2) C 3 rfl rfl dX2_trace_2 ?_
  refine jw_aload_0 (pc := 5) C dX2_trace_5 ?_
  refine fg_X2_43 (pc := 6) C 3 rfl rfl dX2_trace_6 ?_
  refine jw_iald_r (pc := 9) C 18 rfl A.len.toNat (by omega) (by omega) (by decide) dX2_trace_9 ?_
  refine jw_iand (pc := 10) C dX2_trace_10 ?_
  refine jw_SN0_I (pc := 11) C (c_X5_lowestResource G (m &&& A.lay A.len.toNat)) ws_X5_lowestResource kmn_X2_69 rfl rfl (Nat.le_of_ble_eq_true rfl) ⟨by decide, by decide⟩ ⟨Nat.zero_le _, Nat.zero_le _⟩ dX2_trace_11 rfl (fun z u h => ?_)
  obtain ⟨hr, ehr⟩ : ∃ hr, hr = lstI (fun k => bt (m &&& A.lay A.len.toNat) k) 12 := ⟨_, rfl⟩
  rw [← ehr] at h
  subst h
  have hhr : 1 ≤ A.len → hr = fstA P m := fun q => by
    rw [ehr]
    unfold fstA
    apply lstI_congr
    intro k hk
    rw [b_and, hl A.len.toNat (by omega) (by omega) k (by omega), ← hn]
    rw [show ((A.len.toNat : Nat) : Int) = A.len by omega]
  have hrr := lstI_rng (fun k => bt (m &&& A.lay A.len.toNat) k) 12
  rw [← ehr] at hrr
  refine jw_istore_2 (pc := 14) C dX2_trace_14 rfl ?_
  refine jw_iconst (pc := 15) C dX2_trace_15 ?_
  refine jw_istore_3 (pc := 16) C dX2_trace_16 rfl ?_
  have K17 : ∀ (n_17 : Nat) (i : Nat) (hr : Int) (rs : Nat → Int) (rq : Nat → Int), (-1 ≤ hr ∧ hr ≤ 11) → (A.len = 0 → i = 0) → (1 ≤ A.len → (i : Int) + 1 ≤ A.len ∧ hr = pA P A.len (fstA P m) i ∧ ∀ j, j < i → rs j = pA P A.len (fstA P m) j ∧ rq j = pRq P A.len (fstA P m) j) → 12 - i < n_17 → JW G X 0 0 (wC G ad P l (A.suc, A.lay, rs, rq, A.len) T F) 17 [some (.ref (ad 3)), some (.int m), some (.int (iI hr)), some (.int (iI (i : Int))), none, none] [] := by
    intro n_17
    induction n_17 with
    | zero => intro i hr rs rq hb h0 hc0 hm_17; exact absurd hm_17 (Nat.not_lt_zero _)
    | succ n_17 ih_17 =>
      intro i hr rs rq hb h0 hc0 hm_17
      have eL : QA.len (A.suc, A.lay, rs, rq, A.len) = A.len := rfl
      refine jw_iload_3 (pc := 17) C dX2_trace_17 ?_
      refine jw_aload_0 (pc := 18) C dX2_trace_18 ?_
      refine fg_X2_43 (pc := 19) C 3 rfl rfl dX2_trace_19 ?_
      refine jw_iconst (pc := 22) C dX2_trace_22 ?_
      refine jw_isub (pc := 23) C dX2_trace_23 ?_
      refine jw_icmp_ge (pc := 24) (tgt := 102) C dX2_trace_24 (by decide) ⟨by omega, by omega⟩ ⟨by omega, by omega⟩ (fun c_24 => ?_) (fun c_24 => ?_)
      · refine jw_aload_0 (pc := 102) C dX2_trace_102 ?_
        refine fg_X2_43 (pc := 103) C 3 rfl rfl dX2_trace_103 ?_
        refine jw_if_eq (pc := 106) (tgt := 114) C dX2_trace_106 (by decide) ⟨by omega, by omega⟩ (fun c_106 => ?_) (fun c_106 => ?_)
        · refine jw_iconst (pc := 114) C dX2_trace_114 ?_
          exact hret _ _ _ (rs, rq) dX2_trace_115 ⟨by rw [decide_eq_false (by omega)], fun i q => by omega, fun i q => by omega⟩
        · have hc := hc0 (by omega)
          obtain ⟨a, ha1, ha2, ha3, ha4⟩ := hpath i (by omega)
          have hra : hr = (a : Int) := by rw [hc.2.1, ha2]
          refine jw_iload_2 (pc := 109) C dX2_trace_109 ?_
          refine jw_iconst (pc := 110) C dX2_trace_110 ?_
          refine jw_icmp_ne (pc := 111) (tgt := 116) C dX2_trace_111 (by decide) ⟨by omega, by omega⟩ ⟨by omega, by omega⟩ (fun c_111 => ?_) (fun c_111 => ?_)
          · refine jw_aload_0 (pc := 116) C dX2_trace_116 ?_
            refine fg_X2_18 (pc := 117) C 3 rfl rfl dX2_trace_117 ?_
            refine jw_aload_0 (pc := 120) C dX2_trace_120 ?_
            refine fg_X2_43 (pc := 121) C 3 rfl rfl dX2_trace_121 ?_
            refine jw_iconst (pc := 124) C dX2_trace_124 ?_
            refine jw_isub (pc := 125) C dX2_trace_125 ?_
            refine jw_iload_2 (pc := 126) C dX2_trace_126 ?_
            refine jw_iast (pc := 127) C 19 rfl (A.len - 1).toNat (by omega) (by omega) (by decide) dX2_trace_127 ?_
            refine jw_iconst (pc := 128) C dX2_trace_128 ?_
            refine hret _ _ true (updf rs (A.len - 1).toNat hr, rq) dX2_trace_129 ⟨by rw [decide_eq_true (by omega)], fun j q => ?_, fun j q => ?_⟩
            · by_cases e : j = (A.len - 1).toNat
              · subst e
                show updf rs (A.len - 1).toNat hr (A.len - 1).toNat = _
                rw [updf_same, hc.2.1]
                congr 1
                omega
              · show updf rs (A.len - 1).toNat hr j = _
                rw [updf_ne _ _ e]
                exact (hc.2.2 j (by omega)).1
            · exact (hc.2.2 j (by omega)).2
          · exact absurd c_111 (by omega)
      · have hc := hc0 (by omega)
        obtain ⟨a, ha1, ha2, ha3, ha4⟩ := hpath i (by omega)
        obtain ⟨r, b, r1, er, r3, r4, b1, eb, b3⟩ := ha4 (by omega)
        have hra : hr = (a : Int) := by rw [hc.2.1, ha2]
        refine jw_iload_2 (pc := 27) C dX2_trace_27 ?_
        refine jw_iconst (pc := 28) C dX2_trace_28 ?_
        refine jw_icmp_eq (pc := 29) (tgt := 102) C dX2_trace_29 (by decide) ⟨by omega, by omega⟩ ⟨by omega, by omega⟩ (fun c_29 => ?_) (fun c_29 => ?_)
        · exact absurd c_29 (by omega)
        · refine jw_aload_0 (pc := 32) C dX2_trace_32 ?_
          refine fg_X2_15 (pc := 33) C 3 rfl rfl dX2_trace_33 ?_
          refine jw_aload_0 (pc := 36) C dX2_trace_36 ?_
          refine fg_X2_43 (pc := 37) C 3 rfl rfl dX2_trace_37 ?_
          refine jw_iload_3 (pc := 40) C dX2_trace_40 ?_
          refine jw_isub (pc := 41) C dX2_trace_41 ?_
          refine jw_iconst (pc := 42) C dX2_trace_42 ?_
          refine jw_isub (pc := 43) C dX2_trace_43 ?_
          refine jw_iald_r (pc := 44) C 18 rfl (A.len - 1 - (i : Int)).toNat (by omega) (by omega) (by decide) dX2_trace_44 ?_
          refine jw_istore_4 (pc := 45) C dX2_trace_45 rfl ?_
          refine jw_aload_0 (pc := 47) C dX2_trace_47 ?_
          refine jw_iload_2 (pc := 48) C dX2_trace_48 ?_
          refine jw_iload_4 (pc := 49) C dX2_trace_49 ?_
          refine jw_V_I (pc := 51) C (c_X2_firstMovable G ad P l (A.suc, A.lay, rs, rq, A.len) T F hr (A.lay (A.len - 1 - (i : Int)).toNat) hI hb) wd_X2_firstMovable kml_X2_72 3 rfl rfl rfl rfl (Nat.le_of_ble_eq_true rfl) ⟨by decide, by decide⟩ ⟨Nat.zero_le _, Nat.zero_le _⟩ dX2_trace_51 rfl (fun z u h => ?_)
          have hlk : ∀ j, j < 32 → bt (A.lay (A.len - 1 - (i : Int)).toNat) j = decide (dS P j = (((A.len - 1 - (i : Int)).toNat : Nat) : Int)) := hl _ (by omega) (by omega)
          have ed : (((A.len - 1 - (i : Int)).toNat : Nat) : Int) = A.len - 1 - (i : Int) := by omega
          have hz : z = iI ((r : Nat) : Int) := by
            rw [h, ← er]
            unfold pRq nR
            congr 1
            rw [← hc.2.1]
            apply lstI_congr
            intro x hx
            rw [msk_ex hI (x := P.acc x) (d := (A.len - 1 - (i : Int)).toNat) (by omega) hlk, ed]
          subst hz
          refine jw_istore_5 (pc := 54) C dX2_trace_54 rfl ?_
          refine jw_iload_5 (pc := 56) C dX2_trace_56 ?_
          refine jw_iconst (pc := 58) C dX2_trace_58 ?_
          refine jw_icmp_ne (pc := 59) (tgt := 64) C dX2_trace_59 (by decide) ⟨by omega, by omega⟩ ⟨by omega, by omega⟩ (fun c_59 => ?_) (fun c_59 => ?_)
          · refine jw_aload_0 (pc := 64) C dX2_trace_64 ?_
            refine fg_X2_18 (pc := 65) C 3 rfl rfl dX2_trace_65 ?_
            refine jw_iload_3 (pc := 68) C dX2_trace_68 ?_
            refine jw_iload_2 (pc := 69) C dX2_trace_69 ?_
            refine jw_iast (pc := 70) C 19 rfl _ rfl (by omega) (by decide) dX2_trace_70 ?_
            refine jw_aload_0 (pc := 71) C dX2_trace_71 ?_
            refine fg_X2_21 (pc := 72) C 3 rfl rfl dX2_trace_72 ?_
            refine jw_iload_3 (pc := 75) C dX2_trace_75 ?_
            refine jw_iload_5 (pc := 76) C dX2_trace_76 ?_
            refine jw_iast (pc := 78) C 20 rfl _ rfl (by omega) (by decide) dX2_trace_78 ?_
            refine jw_aload_0 (pc := 79) C dX2_trace_79 ?_
            refine fg_X2_24 (pc := 80) C 3 rfl rfl dX2_trace_80 ?_
            refine fg_X2_34 (pc := 83) C 1 rfl rfl dX2_trace_83 ?_
            refine jw_iload_5 (pc := 86) C dX2_trace_86 ?_
            refine jw_iald_r (pc := 88) C 12 rfl _ rfl (by omega) (by decide) dX2_trace_88 ?_
            refine jw_iload_4 (pc := 89) C dX2_trace_89 ?_
            refine jw_iand (pc := 91) C dX2_trace_91 ?_
            refine jw_SN0_I (pc := 92) C (c_X5_lowestResource G (P.acc r &&& A.lay (A.len - 1 - (i : Int)).toNat)) ws_X5_lowestResource kmn_X2_69 rfl rfl (Nat.le_of_ble_eq_true rfl) ⟨by decide, by decide⟩ ⟨Nat.zero_le _, Nat.zero_le _⟩ dX2_trace_92 rfl (fun z u h => ?_)
            have hz2 : z = iI ((b : Nat) : Int) := by
              rw [h, ← eb]
              show _ = iI (nA P (pRq P A.len (fstA P m) i).toNat (A.len - 1 - i))
              rw [er]
              unfold nA
              congr 1
              apply lstI_congr
              intro x hx
              rw [b_and, hlk x (by omega), ed]
              rfl
            subst hz2
            refine jw_istore_2 (pc := 95) C dX2_trace_95 rfl ?_
            refine jw_iinc_3 (pc := 96) C dX2_trace_96 rfl ?_
            refine jw_goto (pc := 99) (tgt := 17) C dX2_trace_99 (by decide) ?_
            exact jw_less (ih_17 (i + 1) (b : Int) (updf rs i hr) (updf rq i (r : Int)) (by omega) (fun q => by omega) (fun _ => ⟨by omega, eb.symm, fun j hj => by
              by_cases e : j = i
              · subst e; rw [updf_same, updf_same]; exact ⟨hc.2.1, er.symm⟩
              · rw [updf_ne _ _ e, updf_ne _ _ e]; exact hc.2.2 j (by omega)⟩) (by omega)) (by repeat (first | exact trivial | refine And.intro rfl ?_))
          · exact absurd c_59 (by omega)
  exact K17 13 0 hr A.rs A.rq (by omega) (fun _ => rfl) (fun q => ⟨by omega, hhr q, fun j hj => absurd hj (Nat.not_lt_zero _)⟩) (by omega)
set_option maxRecDepth 100000 in
set_option maxHeartbeats 4000000 in
theorem c_X2_search (G : jG) (ad : Nat → Nat) (P : QP) (l : QL) (A : QA) (T : Nat → Bool) (F : QF) (w : Nat) (hw : w < 40) (hI : PI P) : CI G yX2_search cX2_search 2 (jrm 3 69 0 0) [.ref (ad 3), .int (iI (w : Int))] (wC G ad P l A T F) (fun (z : Int32) (u : QA) => z = iI (minL P (P.acc w)) ∧ u.len = minL P (P.acc w) ∧ (∀ i : Nat, (i : Int) < u.len → u.rs i = pA P u.len (fstA P (P.acc w)) i) ∧ (∀ i : Nat, (i : Int) + 1 < u.len → u.rq i = pRq P u.len (fstA P (P.acc w)) i)) (fun u : QA => wC G ad P l u T F) 0 0 := by
  refine ci_intro (own := RX2) [some (.ref (ad 3)), some (.int (iI (w : Int)))] (by decide) rfl rfl rfl (Nat.le_of_ble_eq_true rfl) (fun X C hret => ?_)
  have hm := minL_rng P hI (P.acc w)
  refine jw_aload_0 (pc := 0) C dX2_search_0 ?_
  refine jw_V_V (pc := 1) C (c_X2_collectSuccessors G ad P l A T F hI) wd_X2_collectSuccessors kml_X2_28 3 rfl rfl rfl rfl (Nat.le_of_ble_eq_true rfl) ⟨by decide, by decide⟩ ⟨Nat.zero_le _, Nat.zero_le _⟩ dX2_search_1 rfl (fun q1 h => ?_)
  refine jw_aload_0 (pc := 4) C dX2_search_4 ?_
  refine jw_V_V (pc := 5) C (c_X2_buildLayers G ad P l (q1, A.lay, A.rs, A.rq, A.len) T F hI h) wd_X2_buildLayers kml_X2_31 3 rfl rfl rfl rfl (Nat.le_of_ble_eq_true rfl) ⟨by decide, by decide⟩ ⟨Nat.zero_le _, Nat.zero_le _⟩ dX2_search_5 rfl (fun q2 h2 => ?_)
  refine jw_aload_0 (pc := 8) C dX2_search_8 ?_
  refine jw_aload_0 (pc := 9) C dX2_search_9 ?_
  refine jw_aload_0 (pc := 10) C dX2_search_10 ?_
  refine fg_X2_24 (pc := 11) C 3 rfl rfl dX2_search_11 ?_
  refine fg_X2_34 (pc := 14) C 1 rfl rfl dX2_search_14 ?_
  refine jw_iload_1 (pc := 17) C dX2_search_17 ?_
  refine jw_iald_r (pc := 18) C 12 rfl _ rfl (by omega) (by decide) dX2_search_18 ?_
  refine jw_V_I (pc := 19) C (c_X2_shortestFrom G ad P l (q1, q2, A.rs, A.rq, A.len) T F (P.acc w) hI) wd_X2_shortestFrom kml_X2_39 3 rfl rfl rfl rfl (Nat.le_of_ble_eq_true rfl) ⟨by decide, by decide⟩ ⟨Nat.zero_le _, Nat.zero_le _⟩ dX2_search_19 rfl (fun z u h => ?_)
  have hz : z = iI (minL P (P.acc w)) := by rw [h, ← short_spec hI h2]
  subst hz
  refine fp_X2_43 (pc := 22) C 3 rfl (Nat.le_of_ble_eq_true rfl) dX2_search_22 ?_
  refine jw_aload_0 (pc := 25) C dX2_search_25 ?_
  refine jw_aload_0 (pc := 26) C dX2_search_26 ?_
  refine fg_X2_24 (pc := 27) C 3 rfl rfl dX2_search_27 ?_
  refine fg_X2_34 (pc := 30) C 1 rfl rfl dX2_search_30 ?_
  refine jw_iload_1 (pc := 33) C dX2_search_33 ?_
  refine jw_iald_r (pc := 34) C 12 rfl _ rfl (by omega) (by decide) dX2_search_34 ?_
  refine jw_V_Z (pc := 35) C (c_X2_trace G ad P l (q1, q2, A.rs, A.rq, minL P (P.acc w)) T F (P.acc w) hI h2 rfl) wd_X2_trace kml_X2_47 3 rfl rfl rfl rfl (Nat.le_of_ble_eq_true rfl) ⟨by decide, by decide⟩ ⟨Nat.zero_le _, Nat.zero_le _⟩ dX2_search_35 rfl (fun z u h3 => ?_)
  obtain ⟨h3, h4, h5⟩ := h3
  refine jw_if_ne_b (pc := 38) (tgt := 46) C dX2_search_38 (by decide) (fun c_38 => ?_) (fun c_38 => ?_)
  · refine jw_aload_0 (pc := 46) C dX2_search_46 ?_
    refine fg_X2_43 (pc := 47) C 3 rfl rfl dX2_search_47 ?_
    first | exact hret _ _ _ (q1, q2, u.1, u.2, minL P (P.acc w)) dX2_search_50 ⟨rfl, rfl, h4, h5⟩ | exact hret _ _ _ (q1, q2, u.1, u.2, (0 : Int)) dX2_search_50 ⟨by rw [e0], by rw [e0], fun i q => absurd q (by show ¬ (i : Int) < 0; omega), fun i q => absurd q (by show ¬ (i : Int) + 1 < 0; omega)⟩
  · have e0 : minL P (P.acc w) = 0 := by
      rw [c_38] at h3
      have h6 := of_decide_eq_false h3.symm
      have h7 : ¬ 1 ≤ minL P (P.acc w) := h6
      omega
    refine jw_aload_0 (pc := 41) C dX2_search_41 ?_
    refine jw_iconst (pc := 42) C dX2_search_42 ?_
    refine fp_X2_43 (pc := 43) C 3 rfl (Nat.le_of_ble_eq_true rfl) dX2_search_43 ?_
    refine jw_aload_0 (pc := 46) C dX2_search_46 ?_
    refine fg_X2_43 (pc := 47) C 3 rfl rfl dX2_search_47 ?_
    first | exact hret _ _ _ (q1, q2, u.1, u.2, minL P (P.acc w)) dX2_search_50 ⟨rfl, rfl, h4, h5⟩ | exact hret _ _ _ (q1, q2, u.1, u.2, (0 : Int)) dX2_search_50 ⟨by rw [e0], by rw [e0], fun i q => absurd q (by show ¬ (i : Int) < 0; omega), fun i q => absurd q (by show ¬ (i : Int) + 1 < 0; omega)⟩

