def bringB (P : QP) (f : Nat → Int) (r b : Nat) : Bool := cM P r b && decide (f b + 1 < f (P.plc r).toNat)
def bringF (P : QP) (f : Nat → Int) (r b : Nat) : Nat → Int := if bringB P f r b = true then updf f (P.plc r).toNat (f b + 1) else f
def sFar (R : QR) (f : Nat → Int) : QR := (R.thr, R.res, R.cap, R.quo, R.wei, R.req, R.grp, R.msk, R.st, R.pls, R.mov, R.pl, R.ml, R.lgd, R.lr, R.lp, f, R.tri, R.pr, R.pp)
def FI (P : QP) (f : Nat → Int) : Prop := ∀ i : Nat, (i : Int) < P.res → dS P i ≤ f i ∧ f i ≤ 100 ∧ (P.load i < P.cap i → f i = 1)
theorem FI.one {P : QP} {f : Nat → Int} (hI : PI P) (h : FI P f) {i : Nat} (hi : (i : Int) < P.res) : 1 ≤ f i ∧ f i ≤ 100 := by
  obtain ⟨h1, h2, -⟩ := h i hi
  have hr := hI.res
  rcases dS_rng hI i with q | q <;> omega
theorem dS_le {P : QP} (hI : PI P) {a k : Nat} (hk : k ≤ 13) (h : sn P k a = true) : dS P a ≤ k := by
  have hr := hI.res
  rcases dS_rng hI a with q | q
  · obtain ⟨d, hd⟩ : ∃ d : Nat, dS P a = (d : Int) := ⟨(dS P a).toNat, by omega⟩
    have h1 := (dS_iff hI (a := a) (k := d) (by omega) (by omega)).mp hd
    by_cases e : k < d
    · have h2 := sn_mono (P := P) (a := a) (show k ≤ d - 1 by omega) h
      rw [h1.2] at h2
      cases h2
    · omega
  · exfalso
    have h1 := (dS_no hI (a := a)).mp q
    by_cases e : k ≤ 12
    · rw [h1 k e] at h; cases h
    · have h2 := sn_full hI (k - P.res.toNat) a
      rw [show P.res.toNat + (k - P.res.toNat) = k by omega, h, h1 P.res.toNat (by omega)] at h2
      cases h2
theorem cM_iff {P : QP} {r b : Nat} : cM P r b = true ↔ (0 ≤ P.plc r ∧ P.mov r < P.ml ∧ P.plc r ≠ (b : Int)) ∧ bt (P.acc r) b = true := by
  unfold cM
  rw [Bool.and_eq_true, decide_eq_true_eq]
theorem dS_next {P : QP} (hI : PI P) {r b : Nat} (hr : (r : Int) < P.req) (hb : (b : Int) < P.res) (hc : cM P r b = true) (hd : dS P b < 100) : dS P (P.plc r).toNat ≤ dS P b + 1 := by
  have h1 := hI.res
  obtain ⟨⟨c1, c2, c3⟩, c4⟩ := cM_iff.mp hc
  have hpl := hI.plr r hr
  rcases dS_rng hI b with q | q
  · obtain ⟨d, hd2⟩ : ∃ d : Nat, dS P b = (d : Int) := ⟨(dS P b).toNat, by omega⟩
    have h2 := ((dS_iff hI (a := b) (k := d) (by omega) (by omega)).mp hd2).1
    have h3 : sn P (d + 1) (P.plc r).toNat = true := by
      simp only [sn, Bool.and_eq_true, Bool.or_eq_true]
      refine ⟨decide_eq_true (by omega), Or.inr (exB_iff.mpr ⟨r, by omega, ?_⟩)⟩
      rw [Bool.and_eq_true]
      refine ⟨?_, exB_iff.mpr ⟨b, by omega, by rw [Bool.and_eq_true]; exact ⟨c4, h2⟩⟩⟩
      unfold atB movB
      rw [Bool.and_eq_true]
      exact ⟨decide_eq_true (by omega), decide_eq_true ⟨c1, c2⟩⟩
    have h4 := dS_le hI (by omega) h3
    omega
  · omega
theorem FI_bring {P : QP} {f : Nat → Int} {r b : Nat} (hI : PI P) (h : FI P f) (hr : (r : Int) < P.req) (hb : (b : Int) < P.res) : FI P (bringF P f r b) := by
  unfold bringF
  split
  · rename_i hB
    unfold bringB at hB
    rw [Bool.and_eq_true, decide_eq_true_eq] at hB
    obtain ⟨c, hlt⟩ := hB
    have hpl := hI.plr r hr
    obtain ⟨⟨c1, c2, c3⟩, c4⟩ := cM_iff.mp c
    have ho := h.one hI hb
    intro i hi
    by_cases e : i = (P.plc r).toNat
    · rw [e, updf_same]
      have h2 := h.one hI (i := (P.plc r).toNat) (by omega)
      have h3 := h b hb
      have h4 := h (P.plc r).toNat (by omega)
      have h5 := dS_next hI hr hb c (by omega)
      refine ⟨by omega, by omega, fun q => ?_⟩
      have := h4.2.2 q
      omega
    · rw [updf_ne _ _ e]; exact h i hi
  · exact h
theorem sumF_updf {f : Nat → Int} {k : Nat} {v : Int} : ∀ {n : Nat}, k < n → sumF (updf f k v) n = sumF f n - f k + v
  | 0, h => absurd h (Nat.not_lt_zero _)
  | n + 1, h => by
    simp only [sumF]
    by_cases e : k = n
    · rw [← e, updf_same, sumF_congr (f := updf f k v) (g := f) (fun i hi => updf_ne _ _ (by omega))]; omega
    · rw [sumF_updf (f := f) (v := v) (show k < n by omega), updf_ne _ _ (by omega)]; omega
theorem bring_less {P : QP} {f : Nat → Int} {r b : Nat} (hI : PI P) (hr : (r : Int) < P.req) (h : bringB P f r b = true) : sumF (bringF P f r b) P.res.toNat < sumF f P.res.toNat := by
  unfold bringF
  rw [if_pos h]
  unfold bringB at h
  rw [Bool.and_eq_true, decide_eq_true_eq] at h
  obtain ⟨⟨c1, c2, c3⟩, c4⟩ := cM_iff.mp h.1
  have hpl := hI.plr r hr
  rw [sumF_updf (by omega)]
  omega
theorem FI_end {P : QP} {f : Nat → Int} (hI : PI P) (h : FI P f) (hN : ∀ r : Nat, (r : Int) < P.req → ∀ b : Nat, (b : Int) < P.res → bringB P f r b = false) : ∀ a : Nat, (a : Int) < P.res → f a = dS P a := by
  have h1 := hI.res
  have key : ∀ k : Nat, ∀ a : Nat, (a : Int) < P.res → dS P a = (k : Int) + 1 → f a ≤ (k : Int) + 1 := by
    intro k
    induction k with
    | zero =>
      intro a ha hd
      have h2 := ((dS_iff hI (a := a) (k := 1) (by omega) (by omega)).mp (by omega)).1
      simp only [sn, Bool.and_eq_true, Bool.or_eq_true, decide_eq_true_eq] at h2
      rcases h2.2 with q | q
      · have := (h a ha).2.2 q
        omega
      · obtain ⟨r, -, h3⟩ := exB_iff.mp q
        rw [Bool.and_eq_true] at h3
        obtain ⟨b, -, h4⟩ := exB_iff.mp h3.2
        rw [Bool.and_false] at h4
        cases h4
    | succ k ih =>
      intro a ha hd
      have hrg := dS_rng hI a
      by_cases hk : k + 1 ≤ 12
      · obtain ⟨r, b, s1, s2, s3, s4, s5, s6, s7, s8⟩ := step_spec P hI (a := a) (d := k + 1) (by omega) (by omega) hk
        have h2 := ih b s5 (by omega)
        have hab : a ≠ b := fun e => by
          rw [e] at hd
          omega
        have h3 := hN r s1 b s5
        unfold bringB at h3
        rw [show cM P r b = true from cM_iff.mpr ⟨⟨by omega, s4, by omega⟩, s7⟩, Bool.true_and] at h3
        have h4 := of_decide_eq_false h3
        rw [s3] at h4
        have e2 : ((a : Int)).toNat = a := by omega
        rw [e2] at h4
        omega
      · have := (h a ha).2.1
        omega
  intro a ha
  have h2 := h a ha
  rcases dS_rng hI a with q | q
  · have := key (dS P a - 1).toNat a ha (by omega)
    omega
  · omega
theorem FI_0 {P : QP} {f : Nat → Int} (hI : PI P) (h : ∀ i : Nat, (i : Int) < P.res → f i = if P.load i < P.cap i then 1 else 100) : FI P f := by
  intro i hi
  have hr := hI.res
  rw [h i hi]
  by_cases q : P.load i < P.cap i
  · rw [if_pos q]
    have h3 : sn P 1 i = true := by
      simp only [sn, Bool.and_eq_true, Bool.or_eq_true, decide_eq_true_eq]
      exact ⟨hi, Or.inl q⟩
    have := dS_le hI (by omega) h3
    exact ⟨by omega, by omega, fun _ => rfl⟩
  · rw [if_neg q]
    refine ⟨?_, by omega, fun w => absurd w q⟩
    rcases dS_rng hI i with g | g <;> omega
theorem FI_sum {P : QP} {f : Nat → Int} (hI : PI P) (h : FI P f) : ∀ n : Nat, (n : Int) ≤ P.res → 0 ≤ sumF f n ∧ sumF f n ≤ 100 * n
  | 0, _ => ⟨Int.le_refl 0, Int.le_refl 0⟩
  | n + 1, hn => by
    have ih := FI_sum hI h n (by omega)
    have h1 := h.one hI (i := n) (by omega)
    simp only [sumF]
    omega
/-- what a pass has found so far -/
def Pas (P : QP) (f f2 : Nat → Int) (mo : Bool) (Q : Prop) : Prop := FI P f2 ∧ sumF f2 P.res.toNat ≤ sumF f P.res.toNat ∧ (mo = true → sumF f2 P.res.toNat < sumF f P.res.toNat) ∧ (mo = false → f2 = f ∧ Q)
set_option maxRecDepth 100000 in
set_option maxHeartbeats 4000000 in
theorem c_X6_brings (G : jG) (ad : Nat → Nat) (P : QP) (l : QL) (R : QR) (hI : PI P) (hR : RR P l R) (r a : Nat) (hr : (r : Int) < P.req) (ha : (a : Int) < P.res) (hf : ∀ i : Nat, (i : Int) < P.res → 1 ≤ R.far i ∧ R.far i ≤ 100) : CZ G yX6_brings cX6_brings 3 (jrm 2 44 0 0) [.ref (ad 0), .int (iI (r : Int)), .int (iI (a : Int))] (wR G ad R) (fun (z : Bool) (u : QR) => z = bringB P R.far r a ∧ u = sFar R (bringF P R.far r a)) (fun u : QR => wR G ad u) 0 0 := by
  refine cz_intro (own := RX6) [some (.ref (ad 0)), some (.int (iI (r : Int))), some (.int (iI (a : Int)))] (by decide) rfl rfl rfl (Nat.le_of_ble_eq_true rfl) (fun X C hret => ?_)
  obtain ⟨thr, rs, cp, qu, we, rq, gr, ms, st, pls, mv, plm, mlm, lgd, lr, lp, fr, tr, pr, pp⟩ := R
  obtain ⟨(rfl : rs = P.res), (rfl : cp = P.cap), (rfl : qu = P.quo), (rfl : we = P.wei), (rfl : rq = P.req), (rfl : gr = P.grp), (rfl : ms = P.acc), (rfl : mv = P.mov), (rfl : plm = P.pl), (rfl : mlm = P.ml), (hst : ∀ r : Nat, (r : Int) < P.req → st r = stN (P.plc r)), (hpl : ∀ r : Nat, (r : Int) < P.req → 0 ≤ P.plc r → pls r = P.plc r), (elg : lgd = l.sz), (hlog : ∀ i : Nat, (i : Int) < l.sz → lr i = l.rq i ∧ lp i = l.tg i)⟩ := hR
  have hRR : RR P l (thr, P.res, P.cap, P.quo, P.wei, P.req, P.grp, P.acc, st, pls, P.mov, P.pl, P.ml, lgd, lr, lp, fr, tr, pr, pp) := ⟨rfl, rfl, rfl, rfl, rfl, rfl, rfl, rfl, rfl, rfl, hst, hpl, elg, hlog⟩
  refine jw_eqw (wR9 G ad thr P.res P.cap P.quo P.wei P.req P.grp P.acc st pls P.mov P.pl P.ml lgd lr lp fr tr pr pp) rfl ?_
  have h1 := hI.res
  have h2 := hI.req
  have hf2 : ∀ i : Nat, (i : Int) < P.res → 1 ≤ fr i ∧ fr i ≤ 100 := hf
  have q1 := hst r hr
  have q2 := stN_rng (P.plc r)
  have q3 := @stN_1 (P.plc r)
  have q4 := hpl r hr
  have q5 := hI.plr r hr
  have q6 := hf2 a ha
  refine jw_aload_0 (pc := 0) C dX6_brings_0 ?_
  refine jw_iload_1 (pc := 1) C dX6_brings_1 ?_
  refine jw_iload_2 (pc := 2) C dX6_brings_2 ?_
  refine jw_V_Z (pc := 3) C (c_X6_canMove G ad P l (thr, P.res, P.cap, P.quo, P.wei, P.req, P.grp, P.acc, st, pls, P.mov, P.pl, P.ml, lgd, lr, lp, fr, tr, pr, pp) hI hRR r a hr (by omega)) wd_X6_canMove kml_X6_80 0 rfl rfl rfl rfl (Nat.le_of_ble_eq_true rfl) ⟨by decide, by decide⟩ ⟨Nat.zero_le _, Nat.zero_le _⟩ dX6_brings_3 rfl (fun z u h => ?_)
  subst h
  refine jw_eqw (wR9 G ad thr P.res P.cap P.quo P.wei P.req P.grp P.acc st pls P.mov P.pl P.ml lgd lr lp fr tr pr pp) rfl ?_
  refine jw_if_eq_b (pc := 6) (tgt := 31) C dX6_brings_6 (by decide) (fun c_6 => ?_) (fun c_6 => ?_)
  · have hb : bringB P fr r a = false := by unfold bringB; rw [c_6, Bool.false_and]
    have hF : bringF P fr r a = fr := by unfold bringF; rw [if_neg (by rw [hb]; exact Bool.noConfusion)]
    refine jw_iconst (pc := 31) C dX6_brings_31 ?_
    exact hret _ _ false (thr, P.res, P.cap, P.quo, P.wei, P.req, P.grp, P.acc, st, pls, P.mov, P.pl, P.ml, lgd, lr, lp, fr, tr, pr, pp) dX6_brings_32 ⟨hb.symm, by show _ = (thr, P.res, P.cap, P.quo, P.wei, P.req, P.grp, P.acc, st, pls, P.mov, P.pl, P.ml, lgd, lr, lp, (bringF P fr r a), tr, pr, pp); rw [hF]⟩
  · have q7 := (cM_iff.mp c_6).1.1
    have q8 : pls r = P.plc r := q4 q7
    have q9 := hf2 (P.plc r).toNat (by omega)
    have hix : pls r = (((P.plc r).toNat : Nat) : Int) := by omega
    refine jw_aload_0 (pc := 9) C dX6_brings_9 ?_
    refine fg_X6_47 (pc := 10) C 0 rfl rfl dX6_brings_10 ?_
    refine jw_iload_2 (pc := 13) C dX6_brings_13 ?_
    refine jw_iald (pc := 14) C 11 rfl a rfl (by omega) (by decide) dX6_brings_14 ?_
    refine jw_iconst (pc := 15) C dX6_brings_15 ?_
    refine jw_iadd (pc := 16) C dX6_brings_16 ?_
    refine jw_aload_0 (pc := 17) C dX6_brings_17 ?_
    refine fg_X6_47 (pc := 18) C 0 rfl rfl dX6_brings_18 ?_
    refine jw_aload_0 (pc := 21) C dX6_brings_21 ?_
    refine fg_X6_28 (pc := 22) C 0 rfl rfl dX6_brings_22 ?_
    refine jw_iload_1 (pc := 25) C dX6_brings_25 ?_
    refine jw_iald (pc := 26) C 7 rfl r rfl (by omega) (by decide) dX6_brings_26 ?_
    refine jw_iald (pc := 27) C 11 rfl (P.plc r).toNat hix (by omega) (by decide) dX6_brings_27 ?_
    refine jw_icmp_lt (pc := 28) (tgt := 33) C dX6_brings_28 (by decide) ⟨by omega, by omega⟩ ⟨by omega, by omega⟩ (fun c_28 => ?_) (fun c_28 => ?_)
    · have hb : bringB P fr r a = true := by unfold bringB; rw [c_6, Bool.true_and]; exact decide_eq_true c_28
      have hF : bringF P fr r a = updf fr (P.plc r).toNat (fr a + 1) := by unfold bringF; rw [if_pos hb]
      refine jw_aload_0 (pc := 33) C dX6_brings_33 ?_
      refine fg_X6_47 (pc := 34) C 0 rfl rfl dX6_brings_34 ?_
      refine jw_aload_0 (pc := 37) C dX6_brings_37 ?_
      refine fg_X6_28 (pc := 38) C 0 rfl rfl dX6_brings_38 ?_
      refine jw_iload_1 (pc := 41) C dX6_brings_41 ?_
      refine jw_iald (pc := 42) C 7 rfl r rfl (by omega) (by decide) dX6_brings_42 ?_
      refine jw_aload_0 (pc := 43) C dX6_brings_43 ?_
      refine fg_X6_47 (pc := 44) C 0 rfl rfl dX6_brings_44 ?_
      refine jw_iload_2 (pc := 47) C dX6_brings_47 ?_
      refine jw_iald (pc := 48) C 11 rfl a rfl (by omega) (by decide) dX6_brings_48 ?_
      refine jw_iconst (pc := 49) C dX6_brings_49 ?_
      refine jw_iadd (pc := 50) C dX6_brings_50 ?_
      refine jw_iast (pc := 51) C 11 rfl (P.plc r).toNat hix (by omega) (by decide) dX6_brings_51 ?_
      refine jw_iconst (pc := 52) C dX6_brings_52 ?_
      exact hret _ _ true (thr, P.res, P.cap, P.quo, P.wei, P.req, P.grp, P.acc, st, pls, P.mov, P.pl, P.ml, lgd, lr, lp, (updf fr (P.plc r).toNat (fr a + 1)), tr, pr, pp) dX6_brings_53 ⟨hb.symm, by show _ = (thr, P.res, P.cap, P.quo, P.wei, P.req, P.grp, P.acc, st, pls, P.mov, P.pl, P.ml, lgd, lr, lp, (bringF P fr r a), tr, pr, pp); rw [hF]⟩
    · have hb : bringB P fr r a = false := by unfold bringB; rw [c_6, Bool.true_and]; exact decide_eq_false c_28
      have hF : bringF P fr r a = fr := by unfold bringF; rw [if_neg (by rw [hb]; exact Bool.noConfusion)]
      refine jw_iconst (pc := 31) C dX6_brings_31 ?_
      exact hret _ _ false (thr, P.res, P.cap, P.quo, P.wei, P.req, P.grp, P.acc, st, pls, P.mov, P.pl, P.ml, lgd, lr, lp, fr, tr, pr, pp) dX6_brings_32 ⟨hb.symm, by show _ = (thr, P.res, P.cap, P.quo, P.wei, P.req, P.grp, P.acc, st, pls, P.mov, P.pl, P.ml, lgd, lr, lp, (bringF P fr r a), tr, pr, pp); rw [hF]⟩
set_option maxRecDepth 100000 in
set_option maxHeartbeats 4000000 in
theorem c_X6_findFar (G : jG) (ad : Nat → Nat) (P : QP) (l : QL) (R : QR) (hI : PI P) (hR : RR P l R)  : CV G yX6_findFar cX6_findFar 4 (jrm 3 66 0 0) [.ref (ad 0)] (wR G ad R) (fun u : Nat → Int => ∀ a : Nat, (a : Int) < P.res → u a = dS P a) (fun u : Nat → Int => wR G ad (sFar R u)) 0 0 := by
  refine cv_intro (own := RX6) [some (.ref (ad 0)), none, none, none] (by decide) rfl rfl rfl (Nat.le_of_ble_eq_true rfl) (fun X C hret => ?_)
  obtain ⟨thr, rs, cp, qu, we, rq, gr, ms, st, pls, mv, plm, mlm, lgd, lr, lp, fr, tr, pr, pp⟩ := R
  obtain ⟨(rfl : rs = P.res), (rfl : cp = P.cap), (rfl : qu = P.quo), (rfl : we = P.wei), (rfl : rq = P.req), (rfl : gr = P.grp), (rfl : ms = P.acc), (rfl : mv = P.mov), (rfl : plm = P.pl), (rfl : mlm = P.ml), (hst : ∀ r : Nat, (r : Int) < P.req → st r = stN (P.plc r)), (hpl : ∀ r : Nat, (r : Int) < P.req → 0 ≤ P.plc r → pls r = P.plc r), (elg : lgd = l.sz), (hlog : ∀ i : Nat, (i : Int) < l.sz → lr i = l.rq i ∧ lp i = l.tg i)⟩ := hR
  have hRR : RR P l (thr, P.res, P.cap, P.quo, P.wei, P.req, P.grp, P.acc, st, pls, P.mov, P.pl, P.ml, lgd, lr, lp, fr, tr, pr, pp) := ⟨rfl, rfl, rfl, rfl, rfl, rfl, rfl, rfl, rfl, rfl, hst, hpl, elg, hlog⟩
  refine jw_eqw (wR9 G ad thr P.res P.cap P.quo P.wei P.req P.grp P.acc st pls P.mov P.pl P.ml lgd lr lp fr tr pr pp) rfl ?_
  have h1 := hI.res
  have h2 := hI.req
  
  refine jw_iconst (pc := 0) C dX6_findFar_0 ?_
  refine jw_istore_1 (pc := 1) C dX6_findFar_1 rfl ?_
  have K2 : ∀ (n_2 : Nat) (a : Nat) (f : Nat → Int), ((a : Int) ≤ P.res) → (∀ i : Nat, i < a → f i = if P.load i < P.cap i then 1 else 100) → 12 - a < n_2 → JW G X 0 0 (wR9 G ad thr P.res P.cap P.quo P.wei P.req P.grp P.acc st pls P.mov P.pl P.ml lgd lr lp f tr pr pp) 2 [some (.ref (ad 0)), some (.int (iI (a : Int))), none, none] [] := by
    intro n_2
    induction n_2 with
    | zero => intro a f ha hf hm_2; exact absurd hm_2 (Nat.not_lt_zero _)
    | succ n_2 ih_2 =>
      intro a f ha hf hm_2
      have q1 := hI.load a
      have q2 := hI.cap a
      refine jw_iload_1 (pc := 2) C dX6_findFar_2 ?_
      refine jw_aload_0 (pc := 3) C dX6_findFar_3 ?_
      refine fg_X6_63 (pc := 4) C 0 rfl rfl dX6_findFar_4 ?_
      refine jw_icmp_ge (pc := 7) (tgt := 42) C dX6_findFar_7 (by decide) ⟨by omega, by omega⟩ ⟨by omega, by omega⟩ (fun c_7 => ?_) (fun c_7 => ?_)
      · have ea : (a : Int) = P.res := by omega
        refine jw_iconst (pc := 42) C dX6_findFar_42 ?_
        refine jw_istore_1 (pc := 43) C dX6_findFar_43 rfl ?_
        have K44 : ∀ (n_44 : Nat) (f : Nat → Int) (mo : Bool), (FI P f) → (mo = false → ∀ r : Nat, (r : Int) < P.req → ∀ b : Nat, (b : Int) < P.res → bringB P f r b = false) → 2 * (sumF f P.res.toNat).toNat + (if mo = true then 1 else 0) < n_44 → JW G X 0 0 (wR9 G ad thr P.res P.cap P.quo P.wei P.req P.grp P.acc st pls P.mov P.pl P.ml lgd lr lp f tr pr pp) 44 [some (.ref (ad 0)), some (.int (jb mo)), none, none] [] := by
          intro n_44
          induction n_44 with
          | zero => intro f mo hF hfin hm_44; exact absurd hm_44 (Nat.not_lt_zero _)
          | succ n_44 ih_44 =>
            intro f mo hF hfin hm_44
            refine jw_iload_1 (pc := 44) C dX6_findFar_44 ?_
            refine jw_if_eq_b (pc := 45) (tgt := 104) C dX6_findFar_45 (by decide) (fun c_45 => ?_) (fun c_45 => ?_)
            · have hz := FI_end hI hF (hfin c_45)
              exact hret _ _ f dX6_findFar_104 hz
            · refine jw_iconst (pc := 48) C dX6_findFar_48 ?_
              refine jw_istore_1 (pc := 49) C dX6_findFar_49 rfl ?_
              refine jw_iconst (pc := 50) C dX6_findFar_50 ?_
              refine jw_istore_2 (pc := 51) C dX6_findFar_51 rfl ?_
              have K52 : ∀ (n_52 : Nat) (r : Nat) (f2 : Nat → Int) (mo2 : Bool), ((r : Int) ≤ P.req) → (Pas P f f2 mo2 (∀ r2 : Nat, r2 < r → ∀ b2 : Nat, (b2 : Int) < P.res → bringB P f r2 b2 = false)) → 40 - r < n_52 → JW G X 0 0 (wR9 G ad thr P.res P.cap P.quo P.wei P.req P.grp P.acc st pls P.mov P.pl P.ml lgd lr lp f2 tr pr pp) 52 [some (.ref (ad 0)), some (.int (jb mo2)), some (.int (iI (r : Int))), none] [] := by
                intro n_52
                induction n_52 with
                | zero => intro r f2 mo2 hr hP2 hm_52; exact absurd hm_52 (Nat.not_lt_zero _)
                | succ n_52 ih_52 =>
                  intro r f2 mo2 hr hP2 hm_52
                  refine jw_iload_2 (pc := 52) C dX6_findFar_52 ?_
                  refine jw_aload_0 (pc := 53) C dX6_findFar_53 ?_
                  refine fg_X6_66 (pc := 54) C 0 rfl rfl dX6_findFar_54 ?_
                  refine jw_icmp_ge (pc := 57) (tgt := 101) C dX6_findFar_57 (by decide) ⟨by omega, by omega⟩ ⟨by omega, by omega⟩ (fun c_57 => ?_) (fun c_57 => ?_)
                  · have hms : 2 * (sumF f2 P.res.toNat).toNat + (if mo2 = true then 1 else 0) < n_44 := by
                      have g1 := (FI_sum hI hP2.1 P.res.toNat (by omega)).1
                      have g2 := hP2.2.1
                      rw [c_45, if_pos rfl] at hm_44
                      cases hmo : mo2
                      · rw [if_neg Bool.noConfusion]; omega
                      · have g3 := hP2.2.2.1 hmo
                        rw [if_pos rfl]; omega
                    refine jw_goto (pc := 101) (tgt := 44) C dX6_findFar_101 (by decide) ?_
                    exact jw_less (ih_44 f2 mo2 hP2.1 (fun q => by rw [(hP2.2.2.2 q).1]; exact fun r2 hr2 => (hP2.2.2.2 q).2 r2 (by omega)) hms) (by repeat (first | exact trivial | refine And.intro rfl ?_))
                  · refine jw_iconst (pc := 60) C dX6_findFar_60 ?_
                    refine jw_istore_3 (pc := 61) C dX6_findFar_61 rfl ?_
                    have K62 : ∀ (n_62 : Nat) (b : Nat) (f3 : Nat → Int) (mo3 : Bool), ((b : Int) ≤ P.res) → (Pas P f f3 mo3 ((∀ r2 : Nat, r2 < r → ∀ b2 : Nat, (b2 : Int) < P.res → bringB P f r2 b2 = false) ∧ ∀ b2 : Nat, b2 < b → bringB P f r b2 = false)) → 12 - b < n_62 → JW G X 0 0 (wR9 G ad thr P.res P.cap P.quo P.wei P.req P.grp P.acc st pls P.mov P.pl P.ml lgd lr lp f3 tr pr pp) 62 [some (.ref (ad 0)), some (.int (jb mo3)), some (.int (iI (r : Int))), some (.int (iI (b : Int)))] [] := by
                      intro n_62
                      induction n_62 with
                      | zero => intro b f3 mo3 hb hP3 hm_62; exact absurd hm_62 (Nat.not_lt_zero _)
                      | succ n_62 ih_62 =>
                        intro b f3 mo3 hb hP3 hm_62
                        refine jw_iload_3 (pc := 62) C dX6_findFar_62 ?_
                        refine jw_aload_0 (pc := 63) C dX6_findFar_63 ?_
                        refine fg_X6_63 (pc := 64) C 0 rfl rfl dX6_findFar_64 ?_
                        refine jw_icmp_ge (pc := 67) (tgt := 95) C dX6_findFar_67 (by decide) ⟨by omega, by omega⟩ ⟨by omega, by omega⟩ (fun c_67 => ?_) (fun c_67 => ?_)
                        · refine jw_iinc_2 (pc := 95) C dX6_findFar_95 rfl ?_
                          refine jw_goto (pc := 98) (tgt := 52) C dX6_findFar_98 (by decide) ?_
                          exact jw_less (ih_52 (r + 1) f3 mo3 (by omega) ⟨hP3.1, hP3.2.1, hP3.2.2.1, fun q => ⟨(hP3.2.2.2 q).1, fun r2 hr2 b2 hb2 => (Nat.lt_succ_iff_lt_or_eq.mp hr2).elim (fun w => (hP3.2.2.2 q).2.1 r2 w b2 hb2) (fun w => by rw [w]; exact (hP3.2.2.2 q).2.2 b2 (by omega))⟩⟩ (by omega)) (by repeat (first | exact trivial | refine And.intro rfl ?_))
                        · refine jw_aload_0 (pc := 70) C dX6_findFar_70 ?_
                          refine jw_iload_2 (pc := 71) C dX6_findFar_71 ?_
                          refine jw_iload_3 (pc := 72) C dX6_findFar_72 ?_
                          refine jw_V_Z (pc := 73) C (c_X6_brings G ad P l (thr, P.res, P.cap, P.quo, P.wei, P.req, P.grp, P.acc, st, pls, P.mov, P.pl, P.ml, lgd, lr, lp, f3, tr, pr, pp) hI ⟨rfl, rfl, rfl, rfl, rfl, rfl, rfl, rfl, rfl, rfl, hst, hpl, elg, hlog⟩ r b (by omega) (by omega) (fun i hi => hP3.1.one hI hi)) wd_X6_brings kml_X6_77 0 rfl rfl rfl rfl (Nat.le_of_ble_eq_true rfl) ⟨by decide, by decide⟩ ⟨Nat.zero_le _, Nat.zero_le _⟩ dX6_findFar_73 rfl (fun z9 u9 h9 => ?_)
                          obtain ⟨ez, eu⟩ := h9
                          subst ez
                          subst eu
                          refine jw_eqw (wR9 G ad thr P.res P.cap P.quo P.wei P.req P.grp P.acc st pls P.mov P.pl P.ml lgd lr lp (bringF P f3 r b) tr pr pp) rfl ?_
                          refine jw_if_ne_b (pc := 76) (tgt := 83) C dX6_findFar_76 (by decide) (fun c_76 => ?_) (fun c_76 => ?_)
                          · have K := ih_62 (b + 1) (bringF P f3 r b) true (by omega) ⟨FI_bring hI hP3.1 (by omega) (by omega), by have := bring_less (f := f3) hI (by omega) c_76; have := hP3.2.1; omega, fun _ => by have := bring_less (f := f3) hI (by omega) c_76; have := hP3.2.1; omega, fun q => Bool.noConfusion q⟩ (by omega)
                            refine jw_iconst (pc := 83) C dX6_findFar_83 ?_
                            refine jw_goto (pc := 84) (tgt := 88) C dX6_findFar_84 (by decide) ?_
                            refine jw_istore_1 (pc := 88) C dX6_findFar_88 rfl ?_
                            refine jw_iinc_3 (pc := 89) C dX6_findFar_89 rfl ?_
                            refine jw_goto (pc := 92) (tgt := 62) C dX6_findFar_92 (by decide) ?_
                            exact K
                          · have e8 : bringF P f3 r b = f3 := by unfold bringF; rw [if_neg (by rw [c_76]; exact Bool.noConfusion)]
                            rw [e8]
                            refine jw_iload_1 (pc := 79) C dX6_findFar_79 ?_
                            refine jw_if_eq_b (pc := 80) (tgt := 87) C dX6_findFar_80 (by decide) (fun c_80 => ?_) (fun c_80 => ?_)
                            · have K := ih_62 (b + 1) f3 false (by omega) ⟨hP3.1, hP3.2.1, fun q => Bool.noConfusion q, fun _ => ⟨(hP3.2.2.2 c_80).1, (hP3.2.2.2 c_80).2.1, fun b2 hb2 => (Nat.lt_succ_iff_lt_or_eq.mp hb2).elim (fun w => (hP3.2.2.2 c_80).2.2 b2 w) (fun w => by rw [w]; rw [(hP3.2.2.2 c_80).1] at c_76; exact c_76)⟩⟩ (by omega)
                              refine jw_iconst (pc := 87) C dX6_findFar_87 ?_
                              refine jw_istore_1 (pc := 88) C dX6_findFar_88 rfl ?_
                              refine jw_iinc_3 (pc := 89) C dX6_findFar_89 rfl ?_
                              refine jw_goto (pc := 92) (tgt := 62) C dX6_findFar_92 (by decide) ?_
                              exact K
                            · have K := ih_62 (b + 1) f3 true (by omega) ⟨hP3.1, hP3.2.1, fun _ => hP3.2.2.1 c_80, fun q => Bool.noConfusion q⟩ (by omega)
                              refine jw_iconst (pc := 83) C dX6_findFar_83 ?_
                              refine jw_goto (pc := 84) (tgt := 88) C dX6_findFar_84 (by decide) ?_
                              refine jw_istore_1 (pc := 88) C dX6_findFar_88 rfl ?_
                              refine jw_iinc_3 (pc := 89) C dX6_findFar_89 rfl ?_
                              refine jw_goto (pc := 92) (tgt := 62) C dX6_findFar_92 (by decide) ?_
                              exact K
                    exact K62 13 0 f2 mo2 (by omega) ⟨hP2.1, hP2.2.1, hP2.2.2.1, fun q => ⟨(hP2.2.2.2 q).1, (hP2.2.2.2 q).2, fun b2 h => absurd h (Nat.not_lt_zero _)⟩⟩ (by omega)
              exact jw_less (K52 41 0 f false (by omega) ⟨hF, Int.le_refl _, fun q => Bool.noConfusion q, fun _ => ⟨rfl, fun r2 h => absurd h (Nat.not_lt_zero _)⟩⟩ (by omega)) (by repeat (first | exact trivial | refine And.intro rfl ?_))
        exact jw_less (K44 (2 * (sumF f P.res.toNat).toNat + 2) f true (FI_0 hI (fun i hi => hf i (by omega))) (fun q => Bool.noConfusion q) (by rw [if_pos rfl]; omega)) (by repeat (first | exact trivial | refine And.intro rfl ?_))
      · have hupd : ∀ v : Int, (if P.load a < P.cap a then (1 : Int) else 100) = v → ∀ i : Nat, i < a + 1 → updf f a v i = if P.load i < P.cap i then 1 else 100 := fun v ev i hi => by
          by_cases e : i = a
          · rw [e, updf_same, ev]
          · rw [updf_ne _ _ e]; exact hf i (by omega)
        refine jw_aload_0 (pc := 10) C dX6_findFar_10 ?_
        refine fg_X6_47 (pc := 11) C 0 rfl rfl dX6_findFar_11 ?_
        refine jw_iload_1 (pc := 14) C dX6_findFar_14 ?_
        refine jw_aload_0 (pc := 15) C dX6_findFar_15 ?_
        refine jw_iload_1 (pc := 16) C dX6_findFar_16 ?_
        refine jw_V_I (pc := 17) C (c_X6_loadOf G ad P l (thr, P.res, P.cap, P.quo, P.wei, P.req, P.grp, P.acc, st, pls, P.mov, P.pl, P.ml, lgd, lr, lp, f, tr, pr, pp) hI ⟨rfl, rfl, rfl, rfl, rfl, rfl, rfl, rfl, rfl, rfl, hst, hpl, elg, hlog⟩ a (by omega)) wd_X6_loadOf kml_X6_73 0 rfl rfl rfl rfl (Nat.le_of_ble_eq_true rfl) ⟨by decide, by decide⟩ ⟨Nat.zero_le _, Nat.zero_le _⟩ dX6_findFar_17 rfl (fun z u h => ?_)
        subst h
        refine jw_eqw (wR9 G ad thr P.res P.cap P.quo P.wei P.req P.grp P.acc st pls P.mov P.pl P.ml lgd lr lp f tr pr pp) rfl ?_
        refine jw_aload_0 (pc := 20) C dX6_findFar_20 ?_
        refine fg_X6_9 (pc := 21) C 0 rfl rfl dX6_findFar_21 ?_
        refine jw_iload_1 (pc := 24) C dX6_findFar_24 ?_
        refine jw_iald (pc := 25) C 1 rfl a rfl (by omega) (by decide) dX6_findFar_25 ?_
        refine jw_icmp_ge (pc := 26) (tgt := 33) C dX6_findFar_26 (by decide) ⟨by omega, by omega⟩ ⟨by omega, by omega⟩ (fun c_26 => ?_) (fun c_26 => ?_)
        · have e9 : (if P.load a < P.cap a then (1 : Int) else 100) = 100 := if_neg (by omega)
          refine jw_bipush (pc := 33) C dX6_findFar_33 (by decide) ?_
          refine jw_iast (pc := 35) C 11 rfl a rfl (by omega) (by decide) dX6_findFar_35 ?_
          refine jw_iinc_1 (pc := 36) C dX6_findFar_36 rfl ?_
          refine jw_goto (pc := 39) (tgt := 2) C dX6_findFar_39 (by decide) ?_
          first | exact ih_2 (a + 1) (updf f a 1) (by omega) (hupd 1 e9) (by omega) | exact ih_2 (a + 1) (updf f a 100) (by omega) (hupd 100 e9) (by omega)
        · have e9 : (if P.load a < P.cap a then (1 : Int) else 100) = 1 := if_pos (by omega)
          refine jw_iconst (pc := 29) C dX6_findFar_29 ?_
          refine jw_goto (pc := 30) (tgt := 35) C dX6_findFar_30 (by decide) ?_
          refine jw_iast (pc := 35) C 11 rfl a rfl (by omega) (by decide) dX6_findFar_35 ?_
          refine jw_iinc_1 (pc := 36) C dX6_findFar_36 rfl ?_
          refine jw_goto (pc := 39) (tgt := 2) C dX6_findFar_39 (by decide) ?_
          first | exact ih_2 (a + 1) (updf f a 1) (by omega) (hupd 1 e9) (by omega) | exact ih_2 (a + 1) (updf f a 100) (by omega) (hupd 100 e9) (by omega)
  exact K2 13 0 fr (by omega) (fun i hi => absurd hi (Nat.not_lt_zero _)) (by omega)
