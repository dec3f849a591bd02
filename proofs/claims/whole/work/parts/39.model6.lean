def BestI (P : QP) (m : Int32) (a : Nat) (v : Int) : Prop := (v = -1 ∧ ∀ b, b < a → bt m b = true → dS P b = 100) ∨ ∃ k : Nat, v = (k : Int) ∧ k < a ∧ bt m k = true ∧ dS P k < 100 ∧ ∀ b, b < a → bt m b = true → dS P k < dS P b ∨ (dS P k = dS P b ∧ k ≤ b)
theorem BestI.end {P : QP} {m : Int32} {v : Int} (hI : PI P) (h : BestI P m P.res.toNat v) : v = fstA P m := by
  have hr := hI.res
  rcases minL_spec P hI m with ⟨e1, e2, e3⟩ | ⟨a, e1, e2, e3, e4, e5, e6, e7⟩
  · rcases h with ⟨h1, -⟩ | ⟨k, h1, h2, h3, h4, -⟩
    · rw [h1, e2]
    · have := e3 k (by omega) h3
      omega
  · rw [e6]
    rcases h with ⟨h1, h2⟩ | ⟨k, h1, h2, h3, h4, h5⟩
    · have := h2 a (by omega) e2
      omega
    · have g1 := h5 a (by omega) e2
      have g2 := e7 k (by omega) h3
      omega
theorem BestI.rng {P : QP} {m : Int32} {a : Nat} {v : Int} (h : BestI P m a v) : -1 ≤ v ∧ v < a := by
  rcases h with ⟨h1, -⟩ | ⟨k, h1, h2, -⟩ <;> omega
theorem BestI.keep {P : QP} {m : Int32} {a : Nat} {v : Int} (h : BestI P m a v) (hn : bt m a = true → dS P a = 100 ∨ (0 ≤ v ∧ dS P v.toNat ≤ dS P a)) (hI : PI P) : BestI P m (a + 1) v := by
  rcases h with ⟨h1, h2⟩ | ⟨k, h1, h2, h3, h4, h5⟩
  · refine Or.inl ⟨h1, fun b hb hm => ?_⟩
    by_cases e : b = a
    · rw [e] at hm ⊢
      have := hn hm
      omega
    · exact h2 b (by omega) hm
  · refine Or.inr ⟨k, h1, by omega, h3, h4, fun b hb hm => ?_⟩
    by_cases e : b = a
    · rw [e] at hm ⊢
      have h9 := hn hm
      have e2 : v.toNat = k := by omega
      rw [e2] at h9
      omega
    · exact h5 b (by omega) hm
theorem BestI.take {P : QP} {m : Int32} {a : Nat} {v : Int} (h : BestI P m a v) (hm : bt m a = true) (hd : dS P a < 100) (hn : v = -1 ∨ dS P a < dS P v.toNat) : BestI P m (a + 1) (a : Int) := by
  refine Or.inr ⟨a, rfl, by omega, hm, hd, fun b hb hb2 => ?_⟩
  by_cases e : b = a
  · rw [e]; omega
  · rcases h with ⟨h1, h2⟩ | ⟨k, h1, h2, h3, h4, h5⟩
    · have := h2 b (by omega) hb2
      omega
    · have h9 := h5 b (by omega) hb2
      have e2 : v.toNat = k := by omega
      rw [e2] at hn
      omega
set_option maxRecDepth 100000 in
set_option maxHeartbeats 4000000 in
theorem c_X6_firstOf (G : jG) (ad : Nat → Nat) (P : QP) (l : QL) (R : QR) (hI : PI P) (hR : RR P l R) (r : Nat) (hr : (r : Int) < P.req) : CI G yX6_firstOf cX6_firstOf 4 (jrm 4 89 0 0) [.ref (ad 0), .int (iI (r : Int))] (wR G ad R) (fun (z : Int32) (u : Nat → Int) => z = iI (fstA P (P.acc r)) ∧ ∀ a : Nat, (a : Int) < P.res → u a = dS P a) (fun u : Nat → Int => wR G ad (sFar R u)) 0 0 := by
  refine ci_intro (own := RX6) [some (.ref (ad 0)), some (.int (iI (r : Int))), none, none] (by decide) rfl rfl rfl (Nat.le_of_ble_eq_true rfl) (fun X C hret => ?_)
  obtain ⟨thr, rs, cp, qu, we, rq, gr, ms, st, pls, mv, plm, mlm, lgd, lr, lp, fr, tr, pr, pp⟩ := R
  obtain ⟨(rfl : rs = P.res), (rfl : cp = P.cap), (rfl : qu = P.quo), (rfl : we = P.wei), (rfl : rq = P.req), (rfl : gr = P.grp), (rfl : ms = P.acc), (rfl : mv = P.mov), (rfl : plm = P.pl), (rfl : mlm = P.ml), (hst : ∀ r : Nat, (r : Int) < P.req → st r = stN (P.plc r)), (hpl : ∀ r : Nat, (r : Int) < P.req → 0 ≤ P.plc r → pls r = P.plc r), (elg : lgd = l.sz), (hlog : ∀ i : Nat, (i : Int) < l.sz → lr i = l.rq i ∧ lp i = l.tg i)⟩ := hR
  have hRR : RR P l (thr, P.res, P.cap, P.quo, P.wei, P.req, P.grp, P.acc, st, pls, P.mov, P.pl, P.ml, lgd, lr, lp, fr, tr, pr, pp) := ⟨rfl, rfl, rfl, rfl, rfl, rfl, rfl, rfl, rfl, rfl, hst, hpl, elg, hlog⟩
  refine jw_eqw (wR9 G ad thr P.res P.cap P.quo P.wei P.req P.grp P.acc st pls P.mov P.pl P.ml lgd lr lp fr tr pr pp) rfl ?_
  have h1 := hI.res
  have h2 := hI.req
  
  refine jw_aload_0 (pc := 0) C dX6_firstOf_0 ?_
  refine jw_V_V (pc := 1) C (c_X6_findFar G ad P l (thr, P.res, P.cap, P.quo, P.wei, P.req, P.grp, P.acc, st, pls, P.mov, P.pl, P.ml, lgd, lr, lp, fr, tr, pr, pp) hI hRR) wd_X6_findFar kml_X6_86 0 rfl rfl rfl rfl (Nat.le_of_ble_eq_true rfl) ⟨by decide, by decide⟩ ⟨Nat.zero_le _, Nat.zero_le _⟩ dX6_firstOf_1 rfl (fun f hf => ?_)
  refine jw_eqw (wR9 G ad thr P.res P.cap P.quo P.wei P.req P.grp P.acc st pls P.mov P.pl P.ml lgd lr lp f tr pr pp) rfl ?_
  refine jw_iconst (pc := 4) C dX6_firstOf_4 ?_
  refine jw_istore_2 (pc := 5) C dX6_firstOf_5 rfl ?_
  refine jw_iconst (pc := 6) C dX6_firstOf_6 ?_
  refine jw_istore_3 (pc := 7) C dX6_firstOf_7 rfl ?_
  have K8 : ∀ (n_8 : Nat) (a : Nat) (v : Int), ((a : Int) ≤ P.res) → (BestI P (P.acc r) a v) → 12 - a < n_8 → JW G X 0 0 (wR9 G ad thr P.res P.cap P.quo P.wei P.req P.grp P.acc st pls P.mov P.pl P.ml lgd lr lp f tr pr pp) 8 [some (.ref (ad 0)), some (.int (iI (r : Int))), some (.int (iI v)), some (.int (iI (a : Int)))] [] := by
    intro n_8
    induction n_8 with
    | zero => intro a v ha hB hm_8; exact absurd hm_8 (Nat.not_lt_zero _)
    | succ n_8 ih_8 =>
      intro a v ha hB hm_8
      have hv := hB.rng
      refine jw_iload_3 (pc := 8) C dX6_firstOf_8 ?_
      refine jw_aload_0 (pc := 9) C dX6_firstOf_9 ?_
      refine fg_X6_63 (pc := 10) C 0 rfl rfl dX6_firstOf_10 ?_
      refine jw_icmp_ge (pc := 13) (tgt := 64) C dX6_firstOf_13 (by decide) ⟨by omega, by omega⟩ ⟨by omega, by omega⟩ (fun c_13 => ?_) (fun c_13 => ?_)
      · obtain rfl : a = P.res.toNat := by omega
        have hz := hB.end hI
        refine jw_iload_2 (pc := 64) C dX6_firstOf_64 ?_
        exact hret _ _ _ f dX6_firstOf_65 ⟨by rw [hz], hf⟩
      · have q1 := hf a (by omega)
        have q2 := dS_rng hI a
        have q2 : 1 ≤ dS P a ∧ dS P a ≤ 100 := by omega
        refine jw_aload_0 (pc := 16) C dX6_firstOf_16 ?_
        refine jw_iload_1 (pc := 17) C dX6_firstOf_17 ?_
        refine jw_iload_3 (pc := 18) C dX6_firstOf_18 ?_
        refine jw_V_Z (pc := 19) C (c_X6_accepts G ad P l (thr, P.res, P.cap, P.quo, P.wei, P.req, P.grp, P.acc, st, pls, P.mov, P.pl, P.ml, lgd, lr, lp, f, tr, pr, pp) hI ⟨rfl, rfl, rfl, rfl, rfl, rfl, rfl, rfl, rfl, rfl, hst, hpl, elg, hlog⟩ r a (by omega) (by omega)) wd_X6_accepts kml_X6_83 0 rfl rfl rfl rfl (Nat.le_of_ble_eq_true rfl) ⟨by decide, by decide⟩ ⟨Nat.zero_le _, Nat.zero_le _⟩ dX6_firstOf_19 rfl (fun z u h => ?_)
        subst h
        refine jw_eqw (wR9 G ad thr P.res P.cap P.quo P.wei P.req P.grp P.acc st pls P.mov P.pl P.ml lgd lr lp f tr pr pp) rfl ?_
        refine jw_if_eq_b (pc := 22) (tgt := 58) C dX6_firstOf_22 (by decide) (fun c_22 => ?_) (fun c_22 => ?_)
        · have hB2 := hB.keep (fun q => by rw [q] at c_22; cases c_22) hI
          refine jw_iinc_3 (pc := 58) C dX6_firstOf_58 rfl ?_
          refine jw_goto (pc := 61) (tgt := 8) C dX6_firstOf_61 (by decide) ?_
          exact ih_8 (a + 1) _ (by omega) hB2 (by omega)
        · refine jw_aload_0 (pc := 25) C dX6_firstOf_25 ?_
          refine fg_X6_47 (pc := 26) C 0 rfl rfl dX6_firstOf_26 ?_
          refine jw_iload_3 (pc := 29) C dX6_firstOf_29 ?_
          refine jw_iald (pc := 30) C 11 rfl a rfl (by omega) (by decide) dX6_firstOf_30 ?_
          refine jw_bipush (pc := 31) C dX6_firstOf_31 (by decide) ?_
          refine jw_icmp_ge (pc := 33) (tgt := 58) C dX6_firstOf_33 (by decide) ⟨by omega, by omega⟩ ⟨by omega, by omega⟩ (fun c_33 => ?_) (fun c_33 => ?_)
          · have hB2 := hB.keep (fun _ => Or.inl (by omega)) hI
            refine jw_iinc_3 (pc := 58) C dX6_firstOf_58 rfl ?_
            refine jw_goto (pc := 61) (tgt := 8) C dX6_firstOf_61 (by decide) ?_
            exact ih_8 (a + 1) _ (by omega) hB2 (by omega)
          · refine jw_iload_2 (pc := 36) C dX6_firstOf_36 ?_
            refine jw_iconst (pc := 37) C dX6_firstOf_37 ?_
            refine jw_icmp_eq (pc := 38) (tgt := 56) C dX6_firstOf_38 (by decide) ⟨by omega, by omega⟩ ⟨by omega, by omega⟩ (fun c_38 => ?_) (fun c_38 => ?_)
            · have hB2 := hB.take c_22 (by omega) (Or.inl c_38)
              refine jw_iload_3 (pc := 56) C dX6_firstOf_56 ?_
              refine jw_istore_2 (pc := 57) C dX6_firstOf_57 rfl ?_
              refine jw_iinc_3 (pc := 58) C dX6_firstOf_58 rfl ?_
              refine jw_goto (pc := 61) (tgt := 8) C dX6_firstOf_61 (by decide) ?_
              exact ih_8 (a + 1) _ (by omega) hB2 (by omega)
            · have q3 := hf v.toNat (by omega)
              have q4 := dS_rng hI v.toNat
              have q4 : 1 ≤ dS P v.toNat ∧ dS P v.toNat ≤ 100 := by omega
              refine jw_aload_0 (pc := 41) C dX6_firstOf_41 ?_
              refine fg_X6_47 (pc := 42) C 0 rfl rfl dX6_firstOf_42 ?_
              refine jw_iload_3 (pc := 45) C dX6_firstOf_45 ?_
              refine jw_iald (pc := 46) C 11 rfl a rfl (by omega) (by decide) dX6_firstOf_46 ?_
              refine jw_aload_0 (pc := 47) C dX6_firstOf_47 ?_
              refine fg_X6_47 (pc := 48) C 0 rfl rfl dX6_firstOf_48 ?_
              refine jw_iload_2 (pc := 51) C dX6_firstOf_51 ?_
              refine jw_iald (pc := 52) C 11 rfl v.toNat (by omega) (by omega) (by decide) dX6_firstOf_52 ?_
              refine jw_icmp_ge (pc := 53) (tgt := 58) C dX6_firstOf_53 (by decide) ⟨by omega, by omega⟩ ⟨by omega, by omega⟩ (fun c_53 => ?_) (fun c_53 => ?_)
              · have hB2 := hB.keep (fun _ => Or.inr ⟨by omega, by omega⟩) hI
                refine jw_iinc_3 (pc := 58) C dX6_firstOf_58 rfl ?_
                refine jw_goto (pc := 61) (tgt := 8) C dX6_firstOf_61 (by decide) ?_
                exact ih_8 (a + 1) _ (by omega) hB2 (by omega)
              · have hB2 := hB.take c_22 (by omega) (Or.inr (by omega))
                refine jw_iload_3 (pc := 56) C dX6_firstOf_56 ?_
                refine jw_istore_2 (pc := 57) C dX6_firstOf_57 rfl ?_
                refine jw_iinc_3 (pc := 58) C dX6_firstOf_58 rfl ?_
                refine jw_goto (pc := 61) (tgt := 8) C dX6_firstOf_61 (by decide) ?_
                exact ih_8 (a + 1) _ (by omega) hB2 (by omega)
  exact K8 13 0 (-1) (by omega) (Or.inl ⟨rfl, fun b hb => absurd hb (Nat.not_lt_zero _)⟩) (by omega)
/-- what the model looks for in movedFrom -/
def gdB (P : QP) (a d : Int) (r : Nat) : Bool := (decide (P.plc r = a) && movB P r) && exB (fun b => bt (P.acc r) b && decide (dS P b = d)) 12
theorem nR_eq (P : QP) (a d : Int) : nR P a d = lstI (gdB P a d) P.req.toNat := rfl
def inB (P : QP) (a d : Int) (r b : Nat) : Bool := decide (P.plc r = a) && exB (fun b2 => cM P r b2 && decide (dS P b2 = d)) b
theorem inB_end {P : QP} (hI : PI P) {a : Nat} {d : Int} {r : Nat} (hd : dS P a = d + 1) (hd2 : d < 100) : inB P (a : Int) d r P.res.toNat = gdB P (a : Int) d r := by
  have hr := hI.res
  unfold inB gdB
  by_cases hp : P.plc r = (a : Int)
  · rw [decide_eq_true hp, Bool.true_and, Bool.true_and]
    apply Bool.eq_iff_iff.mpr
    rw [Bool.and_eq_true, exB_iff, exB_iff]
    constructor
    · rintro ⟨b, hb, h⟩
      rw [Bool.and_eq_true] at h
      obtain ⟨⟨c1, c2, c3⟩, c4⟩ := cM_iff.mp h.1
      exact ⟨decide_eq_true ⟨c1, c2⟩, b, by omega, by rw [Bool.and_eq_true]; exact ⟨c4, h.2⟩⟩
    · rintro ⟨hm, b, hb, h⟩
      rw [Bool.and_eq_true] at h
      have h1 := of_decide_eq_true hm
      have h2 := of_decide_eq_true h.2
      have h3 : (b : Int) < P.res := by
        by_cases q : (b : Int) < P.res
        · exact q
        · exfalso
          have h4 : dS P b = 100 := (dS_no hI).mpr (fun k _ => by
            cases hs : sn P k b
            · rfl
            · exact absurd (sn_lt hs) q)
          omega
      refine ⟨b, by omega, ?_⟩
      rw [Bool.and_eq_true]
      refine ⟨cM_iff.mpr ⟨⟨h1.1, h1.2, fun e => ?_⟩, h.1⟩, h.2⟩
      have e2 : a = b := by omega
      rw [← e2] at h2
      omega
  · rw [decide_eq_false hp]; rfl
/-- the state of the search for the request -/
def MfI (P : QP) (a d : Int) (r : Nat) (s : Bool) : Prop := (s = false → ∀ r2, r2 < r → gdB P a d r2 = false) ∧ (s = true → 1 ≤ r ∧ gdB P a d (r - 1) = true ∧ ∀ r2, r2 < r - 1 → gdB P a d r2 = false)
theorem MfI.end {P : QP} {a d : Int} {r : Nat} (h : MfI P a d r true) (hr : (r : Int) ≤ P.req) : nR P a d = (r : Int) - 1 := by
  obtain ⟨h1, h2, h3⟩ := h.2 rfl
  rw [nR_eq]
  rcases lstI_spec (gdB P a d) P.req.toNat with ⟨g1, g2⟩ | ⟨i, g1, g2, g3, g4⟩
  · exfalso
    have := g2 (r - 1) (by omega)
    rw [h2] at this
    cases this
  · by_cases e1 : i < r - 1
    · have := h3 i e1
      rw [g3] at this
      cases this
    · by_cases e2 : r - 1 < i
      · have := g4 (r - 1) e2
        rw [h2] at this
        cases this
      · omega
theorem mf_ex {P : QP} (hI : PI P) {a : Nat} {d : Nat} (hd : dS P a = (d : Int) + 1) (hd1 : 1 ≤ d) (hd2 : d ≤ 12) : ∃ r0 : Nat, (r0 : Int) < P.req ∧ gdB P (a : Int) (d : Int) r0 = true := by
  obtain ⟨r, b, s1, s2, s3, s4, s5, s6, s7, s8⟩ := step_spec P hI hd hd1 hd2
  have hr := hI.res
  refine ⟨r, s1, ?_⟩
  unfold gdB movB
  rw [Bool.and_eq_true, Bool.and_eq_true]
  exact ⟨⟨decide_eq_true s3, decide_eq_true ⟨by omega, s4⟩⟩, exB_iff.mpr ⟨b, by omega, by rw [Bool.and_eq_true]; exact ⟨s7, decide_eq_true s8⟩⟩⟩
set_option maxRecDepth 100000 in
set_option maxHeartbeats 4000000 in
theorem c_X6_movedFrom (G : jG) (ad : Nat → Nat) (P : QP) (l : QL) (R : QR) (hI : PI P) (hR : RR P l R) (a d : Nat) (ha : (a : Int) < P.res) (hd : dS P a = (d : Int) + 1) (hd1 : 1 ≤ d) (hd2 : d ≤ 12) (hf : ∀ i : Nat, (i : Int) < P.res → R.far i = dS P i) : CI G yX6_movedFrom cX6_movedFrom 5 (jrm 2 44 0 0) [.ref (ad 0), .int (iI (a : Int))] (wR G ad R) (fun (z : Int32) (_ : Unit) => z = iI (nR P (a : Int) (d : Int))) (fun _ : Unit => wR G ad R) 0 0 := by
  refine ci_intro (own := RX6) [some (.ref (ad 0)), some (.int (iI (a : Int))), none, none, none] (by decide) rfl rfl rfl (Nat.le_of_ble_eq_true rfl) (fun X C hret => ?_)
  obtain ⟨thr, rs, cp, qu, we, rq, gr, ms, st, pls, mv, plm, mlm, lgd, lr, lp, fr, tr, pr, pp⟩ := R
  obtain ⟨(rfl : rs = P.res), (rfl : cp = P.cap), (rfl : qu = P.quo), (rfl : we = P.wei), (rfl : rq = P.req), (rfl : gr = P.grp), (rfl : ms = P.acc), (rfl : mv = P.mov), (rfl : plm = P.pl), (rfl : mlm = P.ml), (hst : ∀ r : Nat, (r : Int) < P.req → st r = stN (P.plc r)), (hpl : ∀ r : Nat, (r : Int) < P.req → 0 ≤ P.plc r → pls r = P.plc r), (elg : lgd = l.sz), (hlog : ∀ i : Nat, (i : Int) < l.sz → lr i = l.rq i ∧ lp i = l.tg i)⟩ := hR
  have hRR : RR P l (thr, P.res, P.cap, P.quo, P.wei, P.req, P.grp, P.acc, st, pls, P.mov, P.pl, P.ml, lgd, lr, lp, fr, tr, pr, pp) := ⟨rfl, rfl, rfl, rfl, rfl, rfl, rfl, rfl, rfl, rfl, hst, hpl, elg, hlog⟩
  refine jw_eqw (wR9 G ad thr P.res P.cap P.quo P.wei P.req P.grp P.acc st pls P.mov P.pl P.ml lgd lr lp fr tr pr pp) rfl ?_
  have h1 := hI.res
  have h2 := hI.req
  have hf2 : ∀ i : Nat, (i : Int) < P.res → fr i = dS P i := hf
  obtain ⟨r0, h5, h6⟩ := mf_ex hI hd hd1 hd2
  refine jw_iconst (pc := 0) C dX6_movedFrom_0 ?_
  refine jw_istore_2 (pc := 1) C dX6_movedFrom_1 rfl ?_
  refine jw_iconst (pc := 2) C dX6_movedFrom_2 ?_
  refine jw_istore_3 (pc := 3) C dX6_movedFrom_3 rfl ?_
  have K4 : ∀ (n_4 : Nat) (r : Nat) (s : Bool), ((r : Int) ≤ P.req) → (MfI P (a : Int) (d : Int) r s) → 41 - r < n_4 → JW G X 0 0 (wR9 G ad thr P.res P.cap P.quo P.wei P.req P.grp P.acc st pls P.mov P.pl P.ml lgd lr lp fr tr pr pp) 4 [some (.ref (ad 0)), some (.int (iI (a : Int))), some (.int (iI (r : Int))), some (.int (jb s)), none] [] := by
    intro n_4
    induction n_4 with
    | zero => intro r s hr hM hm_4; exact absurd hm_4 (Nat.not_lt_zero _)
    | succ n_4 ih_4 =>
      intro r s hr hM hm_4
      refine jw_iload_3 (pc := 4) C dX6_movedFrom_4 ?_
      refine jw_if_ne_b (pc := 5) (tgt := 79) C dX6_movedFrom_5 (by decide) (fun c_5 => ?_) (fun c_5 => ?_)
      · have hz : nR P (a : Int) (d : Int) = (r : Int) - 1 := by
          rw [show s = true from c_5] at hM
          exact hM.end hr
        refine jw_iload_2 (pc := 79) C dX6_movedFrom_79 ?_
        refine jw_iconst (pc := 80) C dX6_movedFrom_80 ?_
        refine jw_isub (pc := 81) C dX6_movedFrom_81 ?_
        exact hret _ _ _ () dX6_movedFrom_82 (by rw [hz])
      · have hrq : (r : Int) < P.req := by
          by_cases q : r ≤ r0
          · omega
          · have := hM.1 c_5 r0 (by omega)
            rw [h6] at this
            cases this
        refine jw_iconst (pc := 8) C dX6_movedFrom_8 ?_
        refine jw_istore_4 (pc := 9) C dX6_movedFrom_9 rfl ?_
        have K11 : ∀ (n_11 : Nat) (b : Nat) (s2 : Bool), ((b : Int) ≤ P.res) → (s2 = inB P (a : Int) (d : Int) r b) → 12 - b < n_11 → JW G X 0 0 (wR9 G ad thr P.res P.cap P.quo P.wei P.req P.grp P.acc st pls P.mov P.pl P.ml lgd lr lp fr tr pr pp) 11 [some (.ref (ad 0)), some (.int (iI (a : Int))), some (.int (iI (r : Int))), some (.int (jb s2)), some (.int (iI (b : Int)))] [] := by
          intro n_11
          induction n_11 with
          | zero => intro b s2 hb hs hm_11; exact absurd hm_11 (Nat.not_lt_zero _)
          | succ n_11 ih_11 =>
            intro b s2 hb hs hm_11
            refine jw_iload_4 (pc := 11) C dX6_movedFrom_11 ?_
            refine jw_aload_0 (pc := 13) C dX6_movedFrom_13 ?_
            refine fg_X6_63 (pc := 14) C 0 rfl rfl dX6_movedFrom_14 ?_
            refine jw_icmp_ge (pc := 17) (tgt := 73) C dX6_movedFrom_17 (by decide) ⟨by omega, by omega⟩ ⟨by omega, by omega⟩ (fun c_17 => ?_) (fun c_17 => ?_)
            · have hg : s2 = gdB P (a : Int) (d : Int) r := by rw [hs, show b = P.res.toNat by omega]; exact inB_end hI hd (by omega)
              refine jw_iinc_2 (pc := 73) C dX6_movedFrom_73 rfl ?_
              refine jw_goto (pc := 76) (tgt := 4) C dX6_movedFrom_76 (by decide) ?_
              exact jw_less (ih_4 (r + 1) s2 (by omega) ⟨fun q r2 hr2 => (Nat.lt_succ_iff_lt_or_eq.mp hr2).elim (fun w => hM.1 c_5 r2 w) (fun w => by rw [w, ← hg, ← q]), fun q => ⟨by omega, by show gdB P (a : Int) (d : Int) (r + 1 - 1) = true; rw [Nat.add_sub_cancel, ← hg]; exact q, fun r2 hr2 => hM.1 c_5 r2 (by omega)⟩⟩ (by omega)) (by repeat (first | exact trivial | refine And.intro rfl ?_))
            · refine jw_aload_0 (pc := 20) C dX6_movedFrom_20 ?_
              refine jw_iload_2 (pc := 21) C dX6_movedFrom_21 ?_
              refine jw_iload_1 (pc := 22) C dX6_movedFrom_22 ?_
              refine jw_V_Z (pc := 23) C (c_X6_isAt G ad P l (thr, P.res, P.cap, P.quo, P.wei, P.req, P.grp, P.acc, st, pls, P.mov, P.pl, P.ml, lgd, lr, lp, fr, tr, pr, pp) hI hRR r a hrq (by omega)) wd_X6_isAt kml_X6_69 0 rfl rfl rfl rfl (Nat.le_of_ble_eq_true rfl) ⟨by decide, by decide⟩ ⟨Nat.zero_le _, Nat.zero_le _⟩ dX6_movedFrom_23 rfl (fun z u h => ?_)
              subst h
              refine jw_eqw (wR9 G ad thr P.res P.cap P.quo P.wei P.req P.grp P.acc st pls P.mov P.pl P.ml lgd lr lp fr tr pr pp) rfl ?_
              refine jw_if_eq_b (pc := 26) (tgt := 73) C dX6_movedFrom_26 (by decide) (fun c_26 => ?_) (fun c_26 => ?_)
              · have hp := of_decide_eq_false c_26
                have hg : s2 = gdB P (a : Int) (d : Int) r := by rw [hs]; unfold inB gdB; rw [decide_eq_false hp]; rfl
                refine jw_iinc_2 (pc := 73) C dX6_movedFrom_73 rfl ?_
                refine jw_goto (pc := 76) (tgt := 4) C dX6_movedFrom_76 (by decide) ?_
                exact jw_less (ih_4 (r + 1) s2 (by omega) ⟨fun q r2 hr2 => (Nat.lt_succ_iff_lt_or_eq.mp hr2).elim (fun w => hM.1 c_5 r2 w) (fun w => by rw [w, ← hg, ← q]), fun q => ⟨by omega, by show gdB P (a : Int) (d : Int) (r + 1 - 1) = true; rw [Nat.add_sub_cancel, ← hg]; exact q, fun r2 hr2 => hM.1 c_5 r2 (by omega)⟩⟩ (by omega)) (by repeat (first | exact trivial | refine And.intro rfl ?_))
              · have hp := of_decide_eq_true c_26
                have hin : inB P (a : Int) (d : Int) r (b + 1) = (s2 || (cM P r b && decide (dS P b = (d : Int)))) := by
                  rw [hs]; unfold inB; rw [decide_eq_true hp]; rfl
                refine jw_iload_3 (pc := 29) C dX6_movedFrom_29 ?_
                refine jw_if_ne_b (pc := 30) (tgt := 61) C dX6_movedFrom_30 (by decide) (fun c_30 => ?_) (fun c_30 => ?_)
                · have K := ih_11 (b + 1) true (by omega) (by rw [hin, c_30]; rfl) (by omega)
                  refine jw_iconst (pc := 61) C dX6_movedFrom_61 ?_
                  refine jw_goto (pc := 62) (tgt := 66) C dX6_movedFrom_62 (by decide) ?_
                  refine jw_istore_3 (pc := 66) C dX6_movedFrom_66 rfl ?_
                  refine jw_iinc_4 (pc := 67) C dX6_movedFrom_67 rfl ?_
                  refine jw_goto (pc := 70) (tgt := 11) C dX6_movedFrom_70 (by decide) ?_
                  exact K
                · refine jw_aload_0 (pc := 33) C dX6_movedFrom_33 ?_
                  refine jw_iload_2 (pc := 34) C dX6_movedFrom_34 ?_
                  refine jw_iload_4 (pc := 35) C dX6_movedFrom_35 ?_
                  refine jw_V_Z (pc := 37) C (c_X6_canMove G ad P l (thr, P.res, P.cap, P.quo, P.wei, P.req, P.grp, P.acc, st, pls, P.mov, P.pl, P.ml, lgd, lr, lp, fr, tr, pr, pp) hI hRR r b hrq (by omega)) wd_X6_canMove kml_X6_80 0 rfl rfl rfl rfl (Nat.le_of_ble_eq_true rfl) ⟨by decide, by decide⟩ ⟨Nat.zero_le _, Nat.zero_le _⟩ dX6_movedFrom_37 rfl (fun z u h => ?_)
                  subst h
                  refine jw_eqw (wR9 G ad thr P.res P.cap P.quo P.wei P.req P.grp P.acc st pls P.mov P.pl P.ml lgd lr lp fr tr pr pp) rfl ?_
                  refine jw_if_eq_b (pc := 40) (tgt := 65) C dX6_movedFrom_40 (by decide) (fun c_40 => ?_) (fun c_40 => ?_)
                  · have K := ih_11 (b + 1) false (by omega) (by rw [hin, c_30, c_40]; rfl) (by omega)
                    refine jw_iconst (pc := 65) C dX6_movedFrom_65 ?_
                    refine jw_istore_3 (pc := 66) C dX6_movedFrom_66 rfl ?_
                    refine jw_iinc_4 (pc := 67) C dX6_movedFrom_67 rfl ?_
                    refine jw_goto (pc := 70) (tgt := 11) C dX6_movedFrom_70 (by decide) ?_
                    exact K
                  · have g1 := hf2 b (by omega)
                    have g2 := hf2 a ha
                    have g3 := dS_rng hI b
                    refine jw_aload_0 (pc := 43) C dX6_movedFrom_43 ?_
                    refine fg_X6_47 (pc := 44) C 0 rfl rfl dX6_movedFrom_44 ?_
                    refine jw_iload_4 (pc := 47) C dX6_movedFrom_47 ?_
                    refine jw_iald (pc := 49) C 11 rfl b rfl (by omega) (by decide) dX6_movedFrom_49 ?_
                    refine jw_aload_0 (pc := 50) C dX6_movedFrom_50 ?_
                    refine fg_X6_47 (pc := 51) C 0 rfl rfl dX6_movedFrom_51 ?_
                    refine jw_iload_1 (pc := 54) C dX6_movedFrom_54 ?_
                    refine jw_iald (pc := 55) C 11 rfl a rfl (by omega) (by decide) dX6_movedFrom_55 ?_
                    refine jw_iconst (pc := 56) C dX6_movedFrom_56 ?_
                    refine jw_isub (pc := 57) C dX6_movedFrom_57 ?_
                    refine jw_icmp_ne (pc := 58) (tgt := 65) C dX6_movedFrom_58 (by decide) ⟨by rcases g3 with q | q <;> omega, by rcases g3 with q | q <;> omega⟩ ⟨by omega, by omega⟩ (fun c_58 => ?_) (fun c_58 => ?_)
                    · have K := ih_11 (b + 1) false (by omega) (by rw [hin, c_30, decide_eq_false (by omega), Bool.and_false]; rfl) (by omega)
                      refine jw_iconst (pc := 65) C dX6_movedFrom_65 ?_
                      refine jw_istore_3 (pc := 66) C dX6_movedFrom_66 rfl ?_
                      refine jw_iinc_4 (pc := 67) C dX6_movedFrom_67 rfl ?_
                      refine jw_goto (pc := 70) (tgt := 11) C dX6_movedFrom_70 (by decide) ?_
                      exact K
                    · have K := ih_11 (b + 1) true (by omega) (by rw [hin, c_40, decide_eq_true (by omega)]; simp) (by omega)
                      refine jw_iconst (pc := 61) C dX6_movedFrom_61 ?_
                      refine jw_goto (pc := 62) (tgt := 66) C dX6_movedFrom_62 (by decide) ?_
                      refine jw_istore_3 (pc := 66) C dX6_movedFrom_66 rfl ?_
                      refine jw_iinc_4 (pc := 67) C dX6_movedFrom_67 rfl ?_
                      refine jw_goto (pc := 70) (tgt := 11) C dX6_movedFrom_70 (by decide) ?_
                      exact K
        have K := K11 13 0 false (by omega) (by unfold inB; rw [show exB (fun b2 => cM P r b2 && decide (dS P b2 = (d : Int))) 0 = false from rfl, Bool.and_false]) (by omega)
        rw [← c_5] at K
        rw [c_5] at K ⊢
        exact K
  exact K4 42 0 false (by omega) ⟨fun _ r2 h => absurd h (Nat.not_lt_zero _), fun q => Bool.noConfusion q⟩ (by omega)
