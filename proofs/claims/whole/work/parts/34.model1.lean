abbrev wR9 (G : jG) (ad : Nat → Nat) (thr res : Int) (cap quo wei : Nat → Int) (req : Int) (grp : Nat → Int) (msk : Nat → Int32) (st pls mov : Nat → Int) (pl ml lgd : Int) (lr lp far : Nat → Int) (tri : Nat → Bool) (pr pp : Nat → Int) : va_W :=
  [(ad 0, .inr (6, [.int (iI thr), .int (iI res), .ref (ad 1), .ref (ad 2), .ref (ad 3), .int (iI req), .ref (ad 4), .ref (ad 5), .ref (ad 6), .ref (ad 7), .ref (ad 8), .int (iI pl), .int (iI ml), .int (iI lgd), .ref (ad 9), .ref (ad 10), .ref (ad 11), .ref (ad 12), .ref (ad 13), .ref (ad 14)])),
   jAI G (ad 1) 12 (jiI cap), jAI G (ad 2) 4 (jiI quo), jAI G (ad 3) 4 (jiI wei), jAI G (ad 4) 40 (jiI grp), jAI G (ad 5) 40 msk, jAI G (ad 6) 40 (jiI st), jAI G (ad 7) 40 (jiI pls), jAI G (ad 8) 40 (jiI mov),
   jAI G (ad 9) 400 (jiI lr), jAI G (ad 10) 400 (jiI lp), jAI G (ad 11) 12 (jiI far), jAZ G (ad 12) 40 (jbF tri), jAI G (ad 13) 12 (jiI pr), jAI G (ad 14) 12 (jiI pp)]
set_option maxRecDepth 100000 in
set_option maxHeartbeats 4000000 in
theorem c_X6_thrown (G : jG) (ad : Nat → Nat) (R : QR)  : CI G yX6_thrown cX6_thrown 1 (jrm 0 0 0 0) [.ref (ad 0)] (wR G ad R) (fun (z : Int32) (_ : Unit) => z = iI R.thr) (fun _ : Unit => wR G ad R) 0 0 := by
  refine ci_intro (own := RX6) [some (.ref (ad 0))] (by decide) rfl rfl rfl (Nat.le_of_ble_eq_true rfl) (fun X C hret => ?_)
  refine jw_aload_0 (pc := 0) C dX6_thrown_0 ?_
  refine fg_X6_60 (pc := 1) C 0 rfl rfl dX6_thrown_1 ?_
  exact hret _ _ _ () dX6_thrown_4 rfl
set_option maxRecDepth 100000 in
set_option maxHeartbeats 4000000 in
theorem c_X6_fail (G : jG) (ad : Nat → Nat) (R : QR) (c : Int) : CI G yX6_fail cX6_fail 2 (jrm 0 0 0 0) [.ref (ad 0), .int (iI c)] (wR G ad R) (fun (z : Int32) (u : QR) => z = iI 0 ∧ u = (c, R.2)) (fun u : QR => wR G ad u) 0 0 := by
  refine ci_intro (own := RX6) [some (.ref (ad 0)), some (.int (iI c))] (by decide) rfl rfl rfl (Nat.le_of_ble_eq_true rfl) (fun X C hret => ?_)
  refine jw_aload_0 (pc := 0) C dX6_fail_0 ?_
  refine jw_iload_1 (pc := 1) C dX6_fail_1 ?_
  refine fp_X6_60 (pc := 2) C 0 rfl (Nat.le_of_ble_eq_true rfl) dX6_fail_2 ?_
  refine jw_iconst (pc := 5) C dX6_fail_5 ?_
  exact hret _ _ _ (c, R.2) dX6_fail_6 ⟨rfl, rfl⟩
set_option maxRecDepth 100000 in
set_option maxHeartbeats 4000000 in
theorem c_X6_isResource (G : jG) (ad : Nat → Nat) (P : QP) (l : QL) (R : QR) (hI : PI P) (hR : RR P l R) (a : Int) (hj : jr a) : CZ G yX6_isResource cX6_isResource 2 (jrm 0 0 0 0) [.ref (ad 0), .int (iI a)] (wR G ad R) (fun (z : Bool) (_ : Unit) => z = decide (0 ≤ a ∧ a < P.res)) (fun _ : Unit => wR G ad R) 0 0 := by
  refine cz_intro (own := RX6) [some (.ref (ad 0)), some (.int (iI a))] (by decide) rfl rfl rfl (Nat.le_of_ble_eq_true rfl) (fun X C hret => ?_)
  obtain ⟨thr, rs, cp, qu, we, rq, gr, ms, st, pls, mv, plm, mlm, lgd, lr, lp, fr, tr, pr, pp⟩ := R
  obtain ⟨(rfl : rs = P.res), (rfl : cp = P.cap), (rfl : qu = P.quo), (rfl : we = P.wei), (rfl : rq = P.req), (rfl : gr = P.grp), (rfl : ms = P.acc), (rfl : mv = P.mov), (rfl : plm = P.pl), (rfl : mlm = P.ml), (hst : ∀ r : Nat, (r : Int) < P.req → st r = stN (P.plc r)), (hpl : ∀ r : Nat, (r : Int) < P.req → 0 ≤ P.plc r → pls r = P.plc r), (elg : lgd = l.sz), (hlog : ∀ i : Nat, (i : Int) < l.sz → lr i = l.rq i ∧ lp i = l.tg i)⟩ := hR
  have hRR : RR P l (thr, P.res, P.cap, P.quo, P.wei, P.req, P.grp, P.acc, st, pls, P.mov, P.pl, P.ml, lgd, lr, lp, fr, tr, pr, pp) := ⟨rfl, rfl, rfl, rfl, rfl, rfl, rfl, rfl, rfl, rfl, hst, hpl, elg, hlog⟩
  refine jw_eqw (wR9 G ad thr P.res P.cap P.quo P.wei P.req P.grp P.acc st pls P.mov P.pl P.ml lgd lr lp fr tr pr pp) rfl ?_
  have h1 := hI.res
  have h2 := hI.req
  
  refine jw_iload_1 (pc := 0) C dX6_isResource_0 ?_
  refine jw_if_lt (pc := 1) (tgt := 16) C dX6_isResource_1 (by decide) hj (fun c_1 => ?_) (fun c_1 => ?_)
  · have hz : decide (0 ≤ a ∧ a < P.res) = false := decide_eq_false (by omega)
    refine jw_iconst (pc := 16) C dX6_isResource_16 ?_
    first | exact hret _ _ true () dX6_isResource_17 hz.symm | exact hret _ _ false () dX6_isResource_17 hz.symm
  · refine jw_iload_1 (pc := 4) C dX6_isResource_4 ?_
    refine jw_aload_0 (pc := 5) C dX6_isResource_5 ?_
    refine fg_X6_63 (pc := 6) C 0 rfl rfl dX6_isResource_6 ?_
    refine jw_icmp_ge (pc := 9) (tgt := 16) C dX6_isResource_9 (by decide) hj ⟨by omega, by omega⟩ (fun c_9 => ?_) (fun c_9 => ?_)
    · have hz : decide (0 ≤ a ∧ a < P.res) = false := decide_eq_false (by omega)
      refine jw_iconst (pc := 16) C dX6_isResource_16 ?_
      first | exact hret _ _ true () dX6_isResource_17 hz.symm | exact hret _ _ false () dX6_isResource_17 hz.symm
    · have hz : decide (0 ≤ a ∧ a < P.res) = true := decide_eq_true (by omega)
      refine jw_iconst (pc := 12) C dX6_isResource_12 ?_
      refine jw_goto (pc := 13) (tgt := 17) C dX6_isResource_13 (by decide) ?_
      first | exact hret _ _ true () dX6_isResource_17 hz.symm | exact hret _ _ false () dX6_isResource_17 hz.symm
set_option maxRecDepth 100000 in
set_option maxHeartbeats 4000000 in
theorem c_X6_isRequest (G : jG) (ad : Nat → Nat) (P : QP) (l : QL) (R : QR) (hI : PI P) (hR : RR P l R) (a : Int) (hj : jr a) : CZ G yX6_isRequest cX6_isRequest 2 (jrm 0 0 0 0) [.ref (ad 0), .int (iI a)] (wR G ad R) (fun (z : Bool) (_ : Unit) => z = decide (0 ≤ a ∧ a < P.req)) (fun _ : Unit => wR G ad R) 0 0 := by
  refine cz_intro (own := RX6) [some (.ref (ad 0)), some (.int (iI a))] (by decide) rfl rfl rfl (Nat.le_of_ble_eq_true rfl) (fun X C hret => ?_)
  obtain ⟨thr, rs, cp, qu, we, rq, gr, ms, st, pls, mv, plm, mlm, lgd, lr, lp, fr, tr, pr, pp⟩ := R
  obtain ⟨(rfl : rs = P.res), (rfl : cp = P.cap), (rfl : qu = P.quo), (rfl : we = P.wei), (rfl : rq = P.req), (rfl : gr = P.grp), (rfl : ms = P.acc), (rfl : mv = P.mov), (rfl : plm = P.pl), (rfl : mlm = P.ml), (hst : ∀ r : Nat, (r : Int) < P.req → st r = stN (P.plc r)), (hpl : ∀ r : Nat, (r : Int) < P.req → 0 ≤ P.plc r → pls r = P.plc r), (elg : lgd = l.sz), (hlog : ∀ i : Nat, (i : Int) < l.sz → lr i = l.rq i ∧ lp i = l.tg i)⟩ := hR
  have hRR : RR P l (thr, P.res, P.cap, P.quo, P.wei, P.req, P.grp, P.acc, st, pls, P.mov, P.pl, P.ml, lgd, lr, lp, fr, tr, pr, pp) := ⟨rfl, rfl, rfl, rfl, rfl, rfl, rfl, rfl, rfl, rfl, hst, hpl, elg, hlog⟩
  refine jw_eqw (wR9 G ad thr P.res P.cap P.quo P.wei P.req P.grp P.acc st pls P.mov P.pl P.ml lgd lr lp fr tr pr pp) rfl ?_
  have h1 := hI.res
  have h2 := hI.req
  
  refine jw_iload_1 (pc := 0) C dX6_isRequest_0 ?_
  refine jw_if_lt (pc := 1) (tgt := 16) C dX6_isRequest_1 (by decide) hj (fun c_1 => ?_) (fun c_1 => ?_)
  · have hz : decide (0 ≤ a ∧ a < P.req) = false := decide_eq_false (by omega)
    refine jw_iconst (pc := 16) C dX6_isRequest_16 ?_
    first | exact hret _ _ true () dX6_isRequest_17 hz.symm | exact hret _ _ false () dX6_isRequest_17 hz.symm
  · refine jw_iload_1 (pc := 4) C dX6_isRequest_4 ?_
    refine jw_aload_0 (pc := 5) C dX6_isRequest_5 ?_
    refine fg_X6_66 (pc := 6) C 0 rfl rfl dX6_isRequest_6 ?_
    refine jw_icmp_ge (pc := 9) (tgt := 16) C dX6_isRequest_9 (by decide) hj ⟨by omega, by omega⟩ (fun c_9 => ?_) (fun c_9 => ?_)
    · have hz : decide (0 ≤ a ∧ a < P.req) = false := decide_eq_false (by omega)
      refine jw_iconst (pc := 16) C dX6_isRequest_16 ?_
      first | exact hret _ _ true () dX6_isRequest_17 hz.symm | exact hret _ _ false () dX6_isRequest_17 hz.symm
    · have hz : decide (0 ≤ a ∧ a < P.req) = true := decide_eq_true (by omega)
      refine jw_iconst (pc := 12) C dX6_isRequest_12 ?_
      refine jw_goto (pc := 13) (tgt := 17) C dX6_isRequest_13 (by decide) ?_
      first | exact hret _ _ true () dX6_isRequest_17 hz.symm | exact hret _ _ false () dX6_isRequest_17 hz.symm
set_option maxRecDepth 100000 in
set_option maxHeartbeats 4000000 in
theorem c_X6_isGroup (G : jG) (a : Int) (hj : jr a) : CZ G yX6_isGroup cX6_isGroup 1 (jrm 0 0 0 0) [.int (iI a)] [] (fun (z : Bool) (_ : Unit) => z = decide (0 ≤ a ∧ a < 4)) (fun _ : Unit => []) 0 0 := by
  refine cz_intro (own := RX6) [some (.int (iI a))] (by decide) rfl rfl rfl (Nat.le_of_ble_eq_true rfl) (fun X C hret => ?_)
  refine jw_iload_0 (pc := 0) C dX6_isGroup_0 ?_
  refine jw_if_lt (pc := 1) (tgt := 13) C dX6_isGroup_1 (by decide) hj (fun c_1 => ?_) (fun c_1 => ?_)
  · have hz : decide (0 ≤ a ∧ a < 4) = false := decide_eq_false (by omega)
    refine jw_iconst (pc := 13) C dX6_isGroup_13 ?_
    first | exact hret _ _ true () dX6_isGroup_14 hz.symm | exact hret _ _ false () dX6_isGroup_14 hz.symm
  · refine jw_iload_0 (pc := 4) C dX6_isGroup_4 ?_
    refine jw_iconst (pc := 5) C dX6_isGroup_5 ?_
    refine jw_icmp_ge (pc := 6) (tgt := 13) C dX6_isGroup_6 (by decide) hj ⟨by omega, by omega⟩ (fun c_6 => ?_) (fun c_6 => ?_)
    · have hz : decide (0 ≤ a ∧ a < 4) = false := decide_eq_false (by omega)
      refine jw_iconst (pc := 13) C dX6_isGroup_13 ?_
      first | exact hret _ _ true () dX6_isGroup_14 hz.symm | exact hret _ _ false () dX6_isGroup_14 hz.symm
    · have hz : decide (0 ≤ a ∧ a < 4) = true := decide_eq_true (by omega)
      refine jw_iconst (pc := 9) C dX6_isGroup_9 ?_
      refine jw_goto (pc := 10) (tgt := 14) C dX6_isGroup_10 (by decide) ?_
      first | exact hret _ _ true () dX6_isGroup_14 hz.symm | exact hret _ _ false () dX6_isGroup_14 hz.symm
noncomputable def mOKb (P : QP) (m : Int32) : Bool := @decide (mOK P m) (Classical.propDecidable _)
set_option maxRecDepth 100000 in
set_option maxHeartbeats 4000000 in
theorem c_X6_isMask (G : jG) (ad : Nat → Nat) (P : QP) (l : QL) (R : QR) (hI : PI P) (hR : RR P l R) (m : Int32) : CZ G yX6_isMask cX6_isMask 2 (jrm 0 0 0 0) [.ref (ad 0), .int m] (wR G ad R) (fun (z : Bool) (_ : Unit) => z = true ↔ mOK P m) (fun _ : Unit => wR G ad R) 0 0 := by
  refine cz_intro (own := RX6) [some (.ref (ad 0)), some (.int m)] (by decide) rfl rfl rfl (Nat.le_of_ble_eq_true rfl) (fun X C hret => ?_)
  obtain ⟨thr, rs, cp, qu, we, rq, gr, ms, st, pls, mv, plm, mlm, lgd, lr, lp, fr, tr, pr, pp⟩ := R
  obtain ⟨(rfl : rs = P.res), (rfl : cp = P.cap), (rfl : qu = P.quo), (rfl : we = P.wei), (rfl : rq = P.req), (rfl : gr = P.grp), (rfl : ms = P.acc), (rfl : mv = P.mov), (rfl : plm = P.pl), (rfl : mlm = P.ml), (hst : ∀ r : Nat, (r : Int) < P.req → st r = stN (P.plc r)), (hpl : ∀ r : Nat, (r : Int) < P.req → 0 ≤ P.plc r → pls r = P.plc r), (elg : lgd = l.sz), (hlog : ∀ i : Nat, (i : Int) < l.sz → lr i = l.rq i ∧ lp i = l.tg i)⟩ := hR
  have hRR : RR P l (thr, P.res, P.cap, P.quo, P.wei, P.req, P.grp, P.acc, st, pls, P.mov, P.pl, P.ml, lgd, lr, lp, fr, tr, pr, pp) := ⟨rfl, rfl, rfl, rfl, rfl, rfl, rfl, rfl, rfl, rfl, hst, hpl, elg, hlog⟩
  refine jw_eqw (wR9 G ad thr P.res P.cap P.quo P.wei P.req P.grp P.acc st pls P.mov P.pl P.ml lgd lr lp fr tr pr pp) rfl ?_
  have h1 := hI.res
  have h2 := hI.req
  
  refine jw_iload_1 (pc := 0) C dX6_isMask_0 ?_
  refine jw_if_lt_r (pc := 1) (tgt := 18) C dX6_isMask_1 (by decide) (fun c_1 => ?_) (fun c_1 => ?_)
  · have hz : (false = true) ↔ mOK P m := ⟨fun q => Bool.noConfusion q, fun q => absurd c_1 q.1⟩
    refine jw_iconst (pc := 18) C dX6_isMask_18 ?_
    first | exact hret _ _ true () dX6_isMask_19 hz | exact hret _ _ false () dX6_isMask_19 hz
  · refine jw_iload_1 (pc := 4) C dX6_isMask_4 ?_
    refine jw_iconst (pc := 5) C dX6_isMask_5 ?_
    refine jw_aload_0 (pc := 6) C dX6_isMask_6 ?_
    refine fg_X6_63 (pc := 7) C 0 rfl rfl dX6_isMask_7 ?_
    refine jw_ishl (pc := 10) C dX6_isMask_10 ?_
    refine jw_icmp_ge_r (pc := 11) (tgt := 18) C dX6_isMask_11 (by decide) (fun c_11 => ?_) (fun c_11 => ?_)
    · have hz : (false = true) ↔ mOK P m := ⟨fun q => Bool.noConfusion q, fun q => absurd ((mask_lt hI).mp q).2 (by simpa using c_11)⟩
      refine jw_iconst (pc := 18) C dX6_isMask_18 ?_
      first | exact hret _ _ true () dX6_isMask_19 hz | exact hret _ _ false () dX6_isMask_19 hz
    · have hz : (true = true) ↔ mOK P m := ⟨fun _ => (mask_lt hI).mpr ⟨c_1, by simpa using c_11⟩, fun _ => rfl⟩
      refine jw_iconst (pc := 14) C dX6_isMask_14 ?_
      refine jw_goto (pc := 15) (tgt := 19) C dX6_isMask_15 (by decide) ?_
      first | exact hret _ _ true () dX6_isMask_19 hz | exact hret _ _ false () dX6_isMask_19 hz
set_option maxRecDepth 100000 in
set_option maxHeartbeats 4000000 in
theorem c_X6_accepts (G : jG) (ad : Nat → Nat) (P : QP) (l : QL) (R : QR) (hI : PI P) (hR : RR P l R) (r a : Nat) (hr : r < 40) (ha : a < 12) : CZ G yX6_accepts cX6_accepts 3 (jrm 0 0 0 0) [.ref (ad 0), .int (iI (r : Int)), .int (iI (a : Int))] (wR G ad R) (fun (z : Bool) (_ : Unit) => z = bt (P.acc r) a) (fun _ : Unit => wR G ad R) 0 0 := by
  refine cz_intro (own := RX6) [some (.ref (ad 0)), some (.int (iI (r : Int))), some (.int (iI (a : Int)))] (by decide) rfl rfl rfl (Nat.le_of_ble_eq_true rfl) (fun X C hret => ?_)
  obtain ⟨thr, rs, cp, qu, we, rq, gr, ms, st, pls, mv, plm, mlm, lgd, lr, lp, fr, tr, pr, pp⟩ := R
  obtain ⟨(rfl : rs = P.res), (rfl : cp = P.cap), (rfl : qu = P.quo), (rfl : we = P.wei), (rfl : rq = P.req), (rfl : gr = P.grp), (rfl : ms = P.acc), (rfl : mv = P.mov), (rfl : plm = P.pl), (rfl : mlm = P.ml), (hst : ∀ r : Nat, (r : Int) < P.req → st r = stN (P.plc r)), (hpl : ∀ r : Nat, (r : Int) < P.req → 0 ≤ P.plc r → pls r = P.plc r), (elg : lgd = l.sz), (hlog : ∀ i : Nat, (i : Int) < l.sz → lr i = l.rq i ∧ lp i = l.tg i)⟩ := hR
  have hRR : RR P l (thr, P.res, P.cap, P.quo, P.wei, P.req, P.grp, P.acc, st, pls, P.mov, P.pl, P.ml, lgd, lr, lp, fr, tr, pr, pp) := ⟨rfl, rfl, rfl, rfl, rfl, rfl, rfl, rfl, rfl, rfl, hst, hpl, elg, hlog⟩
  refine jw_eqw (wR9 G ad thr P.res P.cap P.quo P.wei P.req P.grp P.acc st pls P.mov P.pl P.ml lgd lr lp fr tr pr pp) rfl ?_
  have h1 := hI.res
  have h2 := hI.req
  
  refine jw_aload_0 (pc := 0) C dX6_accepts_0 ?_
  refine fg_X6_22 (pc := 1) C 0 rfl rfl dX6_accepts_1 ?_
  refine jw_iload_1 (pc := 4) C dX6_accepts_4 ?_
  refine jw_iald_r (pc := 5) C 5 rfl r rfl (by omega) (by decide) dX6_accepts_5 ?_
  refine jw_iload_2 (pc := 6) C dX6_accepts_6 ?_
  refine jw_ishr (pc := 7) C dX6_accepts_7 ?_
  refine jw_iconst (pc := 8) C dX6_accepts_8 ?_
  refine jw_iand (pc := 9) C dX6_accepts_9 ?_
  refine jw_iconst (pc := 10) C dX6_accepts_10 ?_
  refine jw_icmp_ne_r (pc := 11) (tgt := 18) C dX6_accepts_11 (by decide) (fun c_11 => ?_) (fun c_11 => ?_)
  · have hz : bt (P.acc r) a = false := by rw [← bit1 (P.acc r) a (by omega)]; exact decide_eq_false c_11
    refine jw_iconst (pc := 18) C dX6_accepts_18 ?_
    first | exact hret _ _ true () dX6_accepts_19 hz.symm | exact hret _ _ false () dX6_accepts_19 hz.symm
  · have hz : bt (P.acc r) a = true := by rw [← bit1 (P.acc r) a (by omega)]; exact decide_eq_true c_11
    refine jw_iconst (pc := 14) C dX6_accepts_14 ?_
    refine jw_goto (pc := 15) (tgt := 19) C dX6_accepts_15 (by decide) ?_
    first | exact hret _ _ true () dX6_accepts_19 hz.symm | exact hret _ _ false () dX6_accepts_19 hz.symm
set_option maxRecDepth 100000 in
set_option maxHeartbeats 4000000 in
theorem c_X6_isAt (G : jG) (ad : Nat → Nat) (P : QP) (l : QL) (R : QR) (hI : PI P) (hR : RR P l R) (r a : Nat) (hr : (r : Int) < P.req) (ha : a < 12) : CZ G yX6_isAt cX6_isAt 3 (jrm 0 0 0 0) [.ref (ad 0), .int (iI (r : Int)), .int (iI (a : Int))] (wR G ad R) (fun (z : Bool) (_ : Unit) => z = decide (P.plc r = (a : Int))) (fun _ : Unit => wR G ad R) 0 0 := by
  refine cz_intro (own := RX6) [some (.ref (ad 0)), some (.int (iI (r : Int))), some (.int (iI (a : Int)))] (by decide) rfl rfl rfl (Nat.le_of_ble_eq_true rfl) (fun X C hret => ?_)
  obtain ⟨thr, rs, cp, qu, we, rq, gr, ms, st, pls, mv, plm, mlm, lgd, lr, lp, fr, tr, pr, pp⟩ := R
  obtain ⟨(rfl : rs = P.res), (rfl : cp = P.cap), (rfl : qu = P.quo), (rfl : we = P.wei), (rfl : rq = P.req), (rfl : gr = P.grp), (rfl : ms = P.acc), (rfl : mv = P.mov), (rfl : plm = P.pl), (rfl : mlm = P.ml), (hst : ∀ r : Nat, (r : Int) < P.req → st r = stN (P.plc r)), (hpl : ∀ r : Nat, (r : Int) < P.req → 0 ≤ P.plc r → pls r = P.plc r), (elg : lgd = l.sz), (hlog : ∀ i : Nat, (i : Int) < l.sz → lr i = l.rq i ∧ lp i = l.tg i)⟩ := hR
  have hRR : RR P l (thr, P.res, P.cap, P.quo, P.wei, P.req, P.grp, P.acc, st, pls, P.mov, P.pl, P.ml, lgd, lr, lp, fr, tr, pr, pp) := ⟨rfl, rfl, rfl, rfl, rfl, rfl, rfl, rfl, rfl, rfl, hst, hpl, elg, hlog⟩
  refine jw_eqw (wR9 G ad thr P.res P.cap P.quo P.wei P.req P.grp P.acc st pls P.mov P.pl P.ml lgd lr lp fr tr pr pp) rfl ?_
  have h1 := hI.res
  have h2 := hI.req
  have q1 := hst r hr
  have q2 := stN_rng (P.plc r)
  have q3 := @stN_1 (P.plc r)
  have q4 := hpl r hr
  have q5 := hI.plc r
  refine jw_aload_0 (pc := 0) C dX6_isAt_0 ?_
  refine fg_X6_25 (pc := 1) C 0 rfl rfl dX6_isAt_1 ?_
  refine jw_iload_1 (pc := 4) C dX6_isAt_4 ?_
  refine jw_iald (pc := 5) C 6 rfl r rfl (by omega) (by decide) dX6_isAt_5 ?_
  refine jw_iconst (pc := 6) C dX6_isAt_6 ?_
  refine jw_icmp_ne (pc := 7) (tgt := 24) C dX6_isAt_7 (by decide) ⟨by omega, by omega⟩ ⟨by omega, by omega⟩ (fun c_7 => ?_) (fun c_7 => ?_)
  · have hz : decide (P.plc r = (a : Int)) = false := decide_eq_false (by omega)
    refine jw_iconst (pc := 24) C dX6_isAt_24 ?_
    first | exact hret _ _ true () dX6_isAt_25 hz.symm | exact hret _ _ false () dX6_isAt_25 hz.symm
  · refine jw_aload_0 (pc := 10) C dX6_isAt_10 ?_
    refine fg_X6_28 (pc := 11) C 0 rfl rfl dX6_isAt_11 ?_
    refine jw_iload_1 (pc := 14) C dX6_isAt_14 ?_
    refine jw_iald (pc := 15) C 7 rfl r rfl (by omega) (by decide) dX6_isAt_15 ?_
    refine jw_iload_2 (pc := 16) C dX6_isAt_16 ?_
    refine jw_icmp_ne (pc := 17) (tgt := 24) C dX6_isAt_17 (by decide) ⟨by omega, by omega⟩ ⟨by omega, by omega⟩ (fun c_17 => ?_) (fun c_17 => ?_)
    · have hz : decide (P.plc r = (a : Int)) = false := decide_eq_false (by omega)
      refine jw_iconst (pc := 24) C dX6_isAt_24 ?_
      first | exact hret _ _ true () dX6_isAt_25 hz.symm | exact hret _ _ false () dX6_isAt_25 hz.symm
    · have hz : decide (P.plc r = (a : Int)) = true := decide_eq_true (by omega)
      refine jw_iconst (pc := 20) C dX6_isAt_20 ?_
      refine jw_goto (pc := 21) (tgt := 25) C dX6_isAt_21 (by decide) ?_
      first | exact hret _ _ true () dX6_isAt_25 hz.symm | exact hret _ _ false () dX6_isAt_25 hz.symm
set_option maxRecDepth 100000 in
set_option maxHeartbeats 4000000 in
theorem c_X6_loadOf (G : jG) (ad : Nat → Nat) (P : QP) (l : QL) (R : QR) (hI : PI P) (hR : RR P l R) (a : Nat) (ha : a < 12) : CI G yX6_loadOf cX6_loadOf 4 (jrm 1 22 0 0) [.ref (ad 0), .int (iI (a : Int))] (wR G ad R) (fun (z : Int32) (_ : Unit) => z = iI (P.load a)) (fun _ : Unit => wR G ad R) 0 0 := by
  refine ci_intro (own := RX6) [some (.ref (ad 0)), some (.int (iI (a : Int))), none, none] (by decide) rfl rfl rfl (Nat.le_of_ble_eq_true rfl) (fun X C hret => ?_)
  obtain ⟨thr, rs, cp, qu, we, rq, gr, ms, st, pls, mv, plm, mlm, lgd, lr, lp, fr, tr, pr, pp⟩ := R
  obtain ⟨(rfl : rs = P.res), (rfl : cp = P.cap), (rfl : qu = P.quo), (rfl : we = P.wei), (rfl : rq = P.req), (rfl : gr = P.grp), (rfl : ms = P.acc), (rfl : mv = P.mov), (rfl : plm = P.pl), (rfl : mlm = P.ml), (hst : ∀ r : Nat, (r : Int) < P.req → st r = stN (P.plc r)), (hpl : ∀ r : Nat, (r : Int) < P.req → 0 ≤ P.plc r → pls r = P.plc r), (elg : lgd = l.sz), (hlog : ∀ i : Nat, (i : Int) < l.sz → lr i = l.rq i ∧ lp i = l.tg i)⟩ := hR
  have hRR : RR P l (thr, P.res, P.cap, P.quo, P.wei, P.req, P.grp, P.acc, st, pls, P.mov, P.pl, P.ml, lgd, lr, lp, fr, tr, pr, pp) := ⟨rfl, rfl, rfl, rfl, rfl, rfl, rfl, rfl, rfl, rfl, hst, hpl, elg, hlog⟩
  refine jw_eqw (wR9 G ad thr P.res P.cap P.quo P.wei P.req P.grp P.acc st pls P.mov P.pl P.ml lgd lr lp fr tr pr pp) rfl ?_
  have h1 := hI.res
  have h2 := hI.req
  
  refine jw_iconst (pc := 0) C dX6_loadOf_0 ?_
  refine jw_istore_2 (pc := 1) C dX6_loadOf_1 rfl ?_
  refine jw_iconst (pc := 2) C dX6_loadOf_2 ?_
  refine jw_istore_3 (pc := 3) C dX6_loadOf_3 rfl ?_
  have K4 : ∀ (n_4 : Nat) (i : Nat), ((i : Int) ≤ P.req) → 40 - i < n_4 → JW G X 0 0 (wR9 G ad thr P.res P.cap P.quo P.wei P.req P.grp P.acc st pls P.mov P.pl P.ml lgd lr lp fr tr pr pp) 4 [some (.ref (ad 0)), some (.int (iI (a : Int))), some (.int (iI (cntF (fun r => decide (P.plc r = (a : Int))) i))), some (.int (iI (i : Int)))] [] := by
    intro n_4
    induction n_4 with
    | zero => intro i hi hm_4; exact absurd hm_4 (Nat.not_lt_zero _)
    | succ n_4 ih_4 =>
      intro i hi hm_4
      refine jw_iload_3 (pc := 4) C dX6_loadOf_4 ?_
      refine jw_aload_0 (pc := 5) C dX6_loadOf_5 ?_
      refine fg_X6_66 (pc := 6) C 0 rfl rfl dX6_loadOf_6 ?_
      refine jw_icmp_ge (pc := 9) (tgt := 35) C dX6_loadOf_9 (by decide) ⟨by omega, by omega⟩ ⟨by omega, by omega⟩ (fun c_9 => ?_) (fun c_9 => ?_)
      · obtain rfl : i = P.req.toNat := by omega
        have e9 := hI.2.1 a
        refine jw_iload_2 (pc := 35) C dX6_loadOf_35 ?_
        exact hret _ _ _ () dX6_loadOf_36 (by rw [e9])
      · refine jw_iload_2 (pc := 12) C dX6_loadOf_12 ?_
        refine jw_aload_0 (pc := 13) C dX6_loadOf_13 ?_
        refine jw_iload_3 (pc := 14) C dX6_loadOf_14 ?_
        refine jw_iload_1 (pc := 15) C dX6_loadOf_15 ?_
        refine jw_V_Z (pc := 16) C (c_X6_isAt G ad P l (thr, P.res, P.cap, P.quo, P.wei, P.req, P.grp, P.acc, st, pls, P.mov, P.pl, P.ml, lgd, lr, lp, fr, tr, pr, pp) hI hRR i a (by omega) ha) wd_X6_isAt kml_X6_69 0 rfl rfl rfl rfl (Nat.le_of_ble_eq_true rfl) ⟨by decide, by decide⟩ ⟨Nat.zero_le _, Nat.zero_le _⟩ dX6_loadOf_16 rfl (fun z u h => ?_)
        subst h
        refine jw_if_eq_b (pc := 19) (tgt := 26) C dX6_loadOf_19 (by decide) (fun c_19 => ?_) (fun c_19 => ?_)
        · have e9 : cntF (fun r => decide (P.plc r = (a : Int))) (i + 1) = cntF (fun r => decide (P.plc r = (a : Int))) i + 0 := by simp only [cntF]; rw [if_neg (by rw [c_19]; exact Bool.noConfusion)]
          refine jw_iconst (pc := 26) C dX6_loadOf_26 ?_
          refine jw_iadd (pc := 27) C dX6_loadOf_27 ?_
          refine jw_istore_2 (pc := 28) C dX6_loadOf_28 rfl ?_
          refine jw_iinc_3 (pc := 29) C dX6_loadOf_29 rfl ?_
          refine jw_goto (pc := 32) (tgt := 4) C dX6_loadOf_32 (by decide) ?_
          have K := ih_4 (i + 1) (by omega) (by omega)
          rw [e9] at K
          exact K
        · have e9 : cntF (fun r => decide (P.plc r = (a : Int))) (i + 1) = cntF (fun r => decide (P.plc r = (a : Int))) i + 1 := by simp only [cntF]; rw [if_pos c_19]
          refine jw_iconst (pc := 22) C dX6_loadOf_22 ?_
          refine jw_goto (pc := 23) (tgt := 27) C dX6_loadOf_23 (by decide) ?_
          refine jw_iadd (pc := 27) C dX6_loadOf_27 ?_
          refine jw_istore_2 (pc := 28) C dX6_loadOf_28 rfl ?_
          refine jw_iinc_3 (pc := 29) C dX6_loadOf_29 rfl ?_
          refine jw_goto (pc := 32) (tgt := 4) C dX6_loadOf_32 (by decide) ?_
          have K := ih_4 (i + 1) (by omega) (by omega)
          rw [e9] at K
          exact K
  exact K4 41 0 (by omega) (by omega)
set_option maxRecDepth 100000 in
set_option maxHeartbeats 4000000 in
theorem c_X6_assignedIn (G : jG) (ad : Nat → Nat) (P : QP) (l : QL) (R : QR) (hI : PI P) (hR : RR P l R) (a : Nat) (ha : a < 4) : CI G yX6_assignedIn cX6_assignedIn 4 (jrm 0 0 0 0) [.ref (ad 0), .int (iI (a : Int))] (wR G ad R) (fun (z : Int32) (_ : Unit) => z = iI (P.asg a)) (fun _ : Unit => wR G ad R) 0 0 := by
  refine ci_intro (own := RX6) [some (.ref (ad 0)), some (.int (iI (a : Int))), none, none] (by decide) rfl rfl rfl (Nat.le_of_ble_eq_true rfl) (fun X C hret => ?_)
  obtain ⟨thr, rs, cp, qu, we, rq, gr, ms, st, pls, mv, plm, mlm, lgd, lr, lp, fr, tr, pr, pp⟩ := R
  obtain ⟨(rfl : rs = P.res), (rfl : cp = P.cap), (rfl : qu = P.quo), (rfl : we = P.wei), (rfl : rq = P.req), (rfl : gr = P.grp), (rfl : ms = P.acc), (rfl : mv = P.mov), (rfl : plm = P.pl), (rfl : mlm = P.ml), (hst : ∀ r : Nat, (r : Int) < P.req → st r = stN (P.plc r)), (hpl : ∀ r : Nat, (r : Int) < P.req → 0 ≤ P.plc r → pls r = P.plc r), (elg : lgd = l.sz), (hlog : ∀ i : Nat, (i : Int) < l.sz → lr i = l.rq i ∧ lp i = l.tg i)⟩ := hR
  have hRR : RR P l (thr, P.res, P.cap, P.quo, P.wei, P.req, P.grp, P.acc, st, pls, P.mov, P.pl, P.ml, lgd, lr, lp, fr, tr, pr, pp) := ⟨rfl, rfl, rfl, rfl, rfl, rfl, rfl, rfl, rfl, rfl, hst, hpl, elg, hlog⟩
  refine jw_eqw (wR9 G ad thr P.res P.cap P.quo P.wei P.req P.grp P.acc st pls P.mov P.pl P.ml lgd lr lp fr tr pr pp) rfl ?_
  have h1 := hI.res
  have h2 := hI.req
  
  refine jw_iconst (pc := 0) C dX6_assignedIn_0 ?_
  refine jw_istore_2 (pc := 1) C dX6_assignedIn_1 rfl ?_
  refine jw_iconst (pc := 2) C dX6_assignedIn_2 ?_
  refine jw_istore_3 (pc := 3) C dX6_assignedIn_3 rfl ?_
  have K4 : ∀ (n_4 : Nat) (i : Nat), ((i : Int) ≤ P.req) → 40 - i < n_4 → JW G X 0 0 (wR9 G ad thr P.res P.cap P.quo P.wei P.req P.grp P.acc st pls P.mov P.pl P.ml lgd lr lp fr tr pr pp) 4 [some (.ref (ad 0)), some (.int (iI (a : Int))), some (.int (iI (cntF (fun r => decide (0 ≤ P.plc r ∧ P.grp r = (a : Int))) i))), some (.int (iI (i : Int)))] [] := by
    intro n_4
    induction n_4 with
    | zero => intro i hi hm_4; exact absurd hm_4 (Nat.not_lt_zero _)
    | succ n_4 ih_4 =>
      intro i hi hm_4
      refine jw_iload_3 (pc := 4) C dX6_assignedIn_4 ?_
      refine jw_aload_0 (pc := 5) C dX6_assignedIn_5 ?_
      refine fg_X6_66 (pc := 6) C 0 rfl rfl dX6_assignedIn_6 ?_
      refine jw_icmp_ge (pc := 9) (tgt := 46) C dX6_assignedIn_9 (by decide) ⟨by omega, by omega⟩ ⟨by omega, by omega⟩ (fun c_9 => ?_) (fun c_9 => ?_)
      · obtain rfl : i = P.req.toNat := by omega
        have e9 := hI.2.2 a
        refine jw_iload_2 (pc := 46) C dX6_assignedIn_46 ?_
        exact hret _ _ _ () dX6_assignedIn_47 (by rw [e9])
      · have q1 := hst i (by omega)
        have q2 := stN_rng (P.plc i)
        have q3 := @stN_1 (P.plc i)
        have q5 := hI.plc i
        have q6 := hI.grp i
        refine jw_iload_2 (pc := 12) C dX6_assignedIn_12 ?_
        refine jw_aload_0 (pc := 13) C dX6_assignedIn_13 ?_
        refine fg_X6_25 (pc := 14) C 0 rfl rfl dX6_assignedIn_14 ?_
        refine jw_iload_3 (pc := 17) C dX6_assignedIn_17 ?_
        refine jw_iald (pc := 18) C 6 rfl i rfl (by omega) (by decide) dX6_assignedIn_18 ?_
        refine jw_iconst (pc := 19) C dX6_assignedIn_19 ?_
        refine jw_icmp_ne (pc := 20) (tgt := 37) C dX6_assignedIn_20 (by decide) ⟨by omega, by omega⟩ ⟨by omega, by omega⟩ (fun c_20 => ?_) (fun c_20 => ?_)
        · have e9 : cntF (fun r => decide (0 ≤ P.plc r ∧ P.grp r = (a : Int))) (i + 1) = cntF (fun r => decide (0 ≤ P.plc r ∧ P.grp r = (a : Int))) i + 0 := by simp only [cntF]; rw [if_neg (by rw [decide_eq_false (fun q => by omega)]; exact Bool.noConfusion)]
          refine jw_iconst (pc := 37) C dX6_assignedIn_37 ?_
          refine jw_iadd (pc := 38) C dX6_assignedIn_38 ?_
          refine jw_istore_2 (pc := 39) C dX6_assignedIn_39 rfl ?_
          refine jw_iinc_3 (pc := 40) C dX6_assignedIn_40 rfl ?_
          refine jw_goto (pc := 43) (tgt := 4) C dX6_assignedIn_43 (by decide) ?_
          have K := ih_4 (i + 1) (by omega) (by omega)
          rw [e9] at K
          exact K
        · refine jw_aload_0 (pc := 23) C dX6_assignedIn_23 ?_
          refine fg_X6_19 (pc := 24) C 0 rfl rfl dX6_assignedIn_24 ?_
          refine jw_iload_3 (pc := 27) C dX6_assignedIn_27 ?_
          refine jw_iald (pc := 28) C 4 rfl _ rfl (by omega) (by decide) dX6_assignedIn_28 ?_
          refine jw_iload_1 (pc := 29) C dX6_assignedIn_29 ?_
          refine jw_icmp_ne (pc := 30) (tgt := 37) C dX6_assignedIn_30 (by decide) ⟨by omega, by omega⟩ ⟨by omega, by omega⟩ (fun c_30 => ?_) (fun c_30 => ?_)
          · have e9 : cntF (fun r => decide (0 ≤ P.plc r ∧ P.grp r = (a : Int))) (i + 1) = cntF (fun r => decide (0 ≤ P.plc r ∧ P.grp r = (a : Int))) i + 0 := by simp only [cntF]; rw [if_neg (by rw [decide_eq_false (fun q => by omega)]; exact Bool.noConfusion)]
            refine jw_iconst (pc := 37) C dX6_assignedIn_37 ?_
            refine jw_iadd (pc := 38) C dX6_assignedIn_38 ?_
            refine jw_istore_2 (pc := 39) C dX6_assignedIn_39 rfl ?_
            refine jw_iinc_3 (pc := 40) C dX6_assignedIn_40 rfl ?_
            refine jw_goto (pc := 43) (tgt := 4) C dX6_assignedIn_43 (by decide) ?_
            have K := ih_4 (i + 1) (by omega) (by omega)
            rw [e9] at K
            exact K
          · have e9 : cntF (fun r => decide (0 ≤ P.plc r ∧ P.grp r = (a : Int))) (i + 1) = cntF (fun r => decide (0 ≤ P.plc r ∧ P.grp r = (a : Int))) i + 1 := by simp only [cntF]; rw [if_pos (decide_eq_true ⟨by omega, by omega⟩)]
            refine jw_iconst (pc := 33) C dX6_assignedIn_33 ?_
            refine jw_goto (pc := 34) (tgt := 38) C dX6_assignedIn_34 (by decide) ?_
            refine jw_iadd (pc := 38) C dX6_assignedIn_38 ?_
            refine jw_istore_2 (pc := 39) C dX6_assignedIn_39 rfl ?_
            refine jw_iinc_3 (pc := 40) C dX6_assignedIn_40 rfl ?_
            refine jw_goto (pc := 43) (tgt := 4) C dX6_assignedIn_43 (by decide) ?_
            have K := ih_4 (i + 1) (by omega) (by omega)
            rw [e9] at K
            exact K
  exact K4 41 0 (by omega) (by omega)
set_option maxRecDepth 100000 in
set_option maxHeartbeats 4000000 in
theorem c_X6_countOf (G : jG) (ad : Nat → Nat) (P : QP) (l : QL) (R : QR) (hI : PI P) (hR : RR P l R) (a : Int) (ha : 0 ≤ a ∧ a ≤ 2) : CI G yX6_countOf cX6_countOf 4 (jrm 0 0 0 0) [.ref (ad 0), .int (iI a)] (wR G ad R) (fun (z : Int32) (_ : Unit) => z = iI (cntF (fun r => decide (stN (P.plc r) = a)) P.req.toNat)) (fun _ : Unit => wR G ad R) 0 0 := by
  refine ci_intro (own := RX6) [some (.ref (ad 0)), some (.int (iI a)), none, none] (by decide) rfl rfl rfl (Nat.le_of_ble_eq_true rfl) (fun X C hret => ?_)
  obtain ⟨thr, rs, cp, qu, we, rq, gr, ms, st, pls, mv, plm, mlm, lgd, lr, lp, fr, tr, pr, pp⟩ := R
  obtain ⟨(rfl : rs = P.res), (rfl : cp = P.cap), (rfl : qu = P.quo), (rfl : we = P.wei), (rfl : rq = P.req), (rfl : gr = P.grp), (rfl : ms = P.acc), (rfl : mv = P.mov), (rfl : plm = P.pl), (rfl : mlm = P.ml), (hst : ∀ r : Nat, (r : Int) < P.req → st r = stN (P.plc r)), (hpl : ∀ r : Nat, (r : Int) < P.req → 0 ≤ P.plc r → pls r = P.plc r), (elg : lgd = l.sz), (hlog : ∀ i : Nat, (i : Int) < l.sz → lr i = l.rq i ∧ lp i = l.tg i)⟩ := hR
  have hRR : RR P l (thr, P.res, P.cap, P.quo, P.wei, P.req, P.grp, P.acc, st, pls, P.mov, P.pl, P.ml, lgd, lr, lp, fr, tr, pr, pp) := ⟨rfl, rfl, rfl, rfl, rfl, rfl, rfl, rfl, rfl, rfl, hst, hpl, elg, hlog⟩
  refine jw_eqw (wR9 G ad thr P.res P.cap P.quo P.wei P.req P.grp P.acc st pls P.mov P.pl P.ml lgd lr lp fr tr pr pp) rfl ?_
  have h1 := hI.res
  have h2 := hI.req
  
  refine jw_iconst (pc := 0) C dX6_countOf_0 ?_
  refine jw_istore_2 (pc := 1) C dX6_countOf_1 rfl ?_
  refine jw_iconst (pc := 2) C dX6_countOf_2 ?_
  refine jw_istore_3 (pc := 3) C dX6_countOf_3 rfl ?_
  have K4 : ∀ (n_4 : Nat) (i : Nat), ((i : Int) ≤ P.req) → 40 - i < n_4 → JW G X 0 0 (wR9 G ad thr P.res P.cap P.quo P.wei P.req P.grp P.acc st pls P.mov P.pl P.ml lgd lr lp fr tr pr pp) 4 [some (.ref (ad 0)), some (.int (iI a)), some (.int (iI (cntF (fun r => decide (stN (P.plc r) = a)) i))), some (.int (iI (i : Int)))] [] := by
    intro n_4
    induction n_4 with
    | zero => intro i hi hm_4; exact absurd hm_4 (Nat.not_lt_zero _)
    | succ n_4 ih_4 =>
      intro i hi hm_4
      refine jw_iload_3 (pc := 4) C dX6_countOf_4 ?_
      refine jw_aload_0 (pc := 5) C dX6_countOf_5 ?_
      refine fg_X6_66 (pc := 6) C 0 rfl rfl dX6_countOf_6 ?_
      refine jw_icmp_ge (pc := 9) (tgt := 36) C dX6_countOf_9 (by decide) ⟨by omega, by omega⟩ ⟨by omega, by omega⟩ (fun c_9 => ?_) (fun c_9 => ?_)
      · obtain rfl : i = P.req.toNat := by omega
        refine jw_iload_2 (pc := 36) C dX6_countOf_36 ?_
        exact hret _ _ _ () dX6_countOf_37 rfl
      · have q1 := hst i (by omega)
        have q2 := stN_rng (P.plc i)
        have q3 := @stN_1 (P.plc i)
        have q5 := hI.plc i
        have q6 := hI.grp i
        refine jw_iload_2 (pc := 12) C dX6_countOf_12 ?_
        refine jw_aload_0 (pc := 13) C dX6_countOf_13 ?_
        refine fg_X6_25 (pc := 14) C 0 rfl rfl dX6_countOf_14 ?_
        refine jw_iload_3 (pc := 17) C dX6_countOf_17 ?_
        refine jw_iald (pc := 18) C 6 rfl i rfl (by omega) (by decide) dX6_countOf_18 ?_
        refine jw_iload_1 (pc := 19) C dX6_countOf_19 ?_
        refine jw_icmp_ne (pc := 20) (tgt := 27) C dX6_countOf_20 (by decide) ⟨by omega, by omega⟩ ⟨by omega, by omega⟩ (fun c_20 => ?_) (fun c_20 => ?_)
        · have e9 : cntF (fun r => decide (stN (P.plc r) = a)) (i + 1) = cntF (fun r => decide (stN (P.plc r) = a)) i + 0 := by simp only [cntF]; rw [if_neg (by rw [decide_eq_false (by omega)]; exact Bool.noConfusion)]
          refine jw_iconst (pc := 27) C dX6_countOf_27 ?_
          refine jw_iadd (pc := 28) C dX6_countOf_28 ?_
          refine jw_istore_2 (pc := 29) C dX6_countOf_29 rfl ?_
          refine jw_iinc_3 (pc := 30) C dX6_countOf_30 rfl ?_
          refine jw_goto (pc := 33) (tgt := 4) C dX6_countOf_33 (by decide) ?_
          have K := ih_4 (i + 1) (by omega) (by omega)
          rw [e9] at K
          exact K
        · have e9 : cntF (fun r => decide (stN (P.plc r) = a)) (i + 1) = cntF (fun r => decide (stN (P.plc r) = a)) i + 1 := by simp only [cntF]; rw [if_pos (decide_eq_true (by omega))]
          refine jw_iconst (pc := 23) C dX6_countOf_23 ?_
          refine jw_goto (pc := 24) (tgt := 28) C dX6_countOf_24 (by decide) ?_
          refine jw_iadd (pc := 28) C dX6_countOf_28 ?_
          refine jw_istore_2 (pc := 29) C dX6_countOf_29 rfl ?_
          refine jw_iinc_3 (pc := 30) C dX6_countOf_30 rfl ?_
          refine jw_goto (pc := 33) (tgt := 4) C dX6_countOf_33 (by decide) ?_
          have K := ih_4 (i + 1) (by omega) (by omega)
          rw [e9] at K
          exact K
  exact K4 41 0 (by omega) (by omega)
def cM (P : QP) (r b : Nat) : Bool := decide (0 ≤ P.plc r ∧ P.mov r < P.ml ∧ P.plc r ≠ (b : Int)) && bt (P.acc r) b
set_option maxRecDepth 100000 in
set_option maxHeartbeats 4000000 in
theorem c_X6_canMove (G : jG) (ad : Nat → Nat) (P : QP) (l : QL) (R : QR) (hI : PI P) (hR : RR P l R) (r a : Nat) (hr : (r : Int) < P.req) (ha : a < 12) : CZ G yX6_canMove cX6_canMove 3 (jrm 1 22 0 0) [.ref (ad 0), .int (iI (r : Int)), .int (iI (a : Int))] (wR G ad R) (fun (z : Bool) (_ : Unit) => z = cM P r a) (fun _ : Unit => wR G ad R) 0 0 := by
  refine cz_intro (own := RX6) [some (.ref (ad 0)), some (.int (iI (r : Int))), some (.int (iI (a : Int)))] (by decide) rfl rfl rfl (Nat.le_of_ble_eq_true rfl) (fun X C hret => ?_)
  obtain ⟨thr, rs, cp, qu, we, rq, gr, ms, st, pls, mv, plm, mlm, lgd, lr, lp, fr, tr, pr, pp⟩ := R
  obtain ⟨(rfl : rs = P.res), (rfl : cp = P.cap), (rfl : qu = P.quo), (rfl : we = P.wei), (rfl : rq = P.req), (rfl : gr = P.grp), (rfl : ms = P.acc), (rfl : mv = P.mov), (rfl : plm = P.pl), (rfl : mlm = P.ml), (hst : ∀ r : Nat, (r : Int) < P.req → st r = stN (P.plc r)), (hpl : ∀ r : Nat, (r : Int) < P.req → 0 ≤ P.plc r → pls r = P.plc r), (elg : lgd = l.sz), (hlog : ∀ i : Nat, (i : Int) < l.sz → lr i = l.rq i ∧ lp i = l.tg i)⟩ := hR
  have hRR : RR P l (thr, P.res, P.cap, P.quo, P.wei, P.req, P.grp, P.acc, st, pls, P.mov, P.pl, P.ml, lgd, lr, lp, fr, tr, pr, pp) := ⟨rfl, rfl, rfl, rfl, rfl, rfl, rfl, rfl, rfl, rfl, hst, hpl, elg, hlog⟩
  refine jw_eqw (wR9 G ad thr P.res P.cap P.quo P.wei P.req P.grp P.acc st pls P.mov P.pl P.ml lgd lr lp fr tr pr pp) rfl ?_
  have h1 := hI.res
  have h2 := hI.req
  have q1 := hst r hr
  have q2 := stN_rng (P.plc r)
  have q3 := @stN_1 (P.plc r)
  have q4 := hpl r hr
  have q5 := hI.plc r
  have q6 := hI.mov r
  have q7 := hI.ml
  refine jw_aload_0 (pc := 0) C dX6_canMove_0 ?_
  refine fg_X6_25 (pc := 1) C 0 rfl rfl dX6_canMove_1 ?_
  refine jw_iload_1 (pc := 4) C dX6_canMove_4 ?_
  refine jw_iald (pc := 5) C 6 rfl r rfl (by omega) (by decide) dX6_canMove_5 ?_
  refine jw_iconst (pc := 6) C dX6_canMove_6 ?_
  refine jw_icmp_ne (pc := 7) (tgt := 46) C dX6_canMove_7 (by decide) ⟨by omega, by omega⟩ ⟨by omega, by omega⟩ (fun c_7 => ?_) (fun c_7 => ?_)
  · have hz : cM P r a = false := by unfold cM; rw [decide_eq_false (fun q => by omega)]; rfl
    refine jw_iconst (pc := 46) C dX6_canMove_46 ?_
    first | exact hret _ _ true () dX6_canMove_47 hz.symm | exact hret _ _ false () dX6_canMove_47 hz.symm
  · refine jw_aload_0 (pc := 10) C dX6_canMove_10 ?_
    refine fg_X6_31 (pc := 11) C 0 rfl rfl dX6_canMove_11 ?_
    refine jw_iload_1 (pc := 14) C dX6_canMove_14 ?_
    refine jw_iald (pc := 15) C 8 rfl r rfl (by omega) (by decide) dX6_canMove_15 ?_
    refine jw_aload_0 (pc := 16) C dX6_canMove_16 ?_
    refine fg_X6_38 (pc := 17) C 0 rfl rfl dX6_canMove_17 ?_
    refine jw_icmp_ge (pc := 20) (tgt := 46) C dX6_canMove_20 (by decide) ⟨by omega, by omega⟩ ⟨by omega, by omega⟩ (fun c_20 => ?_) (fun c_20 => ?_)
    · have hz : cM P r a = false := by unfold cM; rw [decide_eq_false (fun q => by omega)]; rfl
      refine jw_iconst (pc := 46) C dX6_canMove_46 ?_
      first | exact hret _ _ true () dX6_canMove_47 hz.symm | exact hret _ _ false () dX6_canMove_47 hz.symm
    · refine jw_iload_2 (pc := 23) C dX6_canMove_23 ?_
      refine jw_aload_0 (pc := 24) C dX6_canMove_24 ?_
      refine fg_X6_28 (pc := 25) C 0 rfl rfl dX6_canMove_25 ?_
      refine jw_iload_1 (pc := 28) C dX6_canMove_28 ?_
      refine jw_iald (pc := 29) C 7 rfl r rfl (by omega) (by decide) dX6_canMove_29 ?_
      refine jw_icmp_eq (pc := 30) (tgt := 46) C dX6_canMove_30 (by decide) ⟨by omega, by omega⟩ ⟨by omega, by omega⟩ (fun c_30 => ?_) (fun c_30 => ?_)
      · have hz : cM P r a = false := by unfold cM; rw [decide_eq_false (fun q => by omega)]; rfl
        refine jw_iconst (pc := 46) C dX6_canMove_46 ?_
        first | exact hret _ _ true () dX6_canMove_47 hz.symm | exact hret _ _ false () dX6_canMove_47 hz.symm
      · refine jw_aload_0 (pc := 33) C dX6_canMove_33 ?_
        refine jw_iload_1 (pc := 34) C dX6_canMove_34 ?_
        refine jw_iload_2 (pc := 35) C dX6_canMove_35 ?_
        refine jw_V_Z (pc := 36) C (c_X6_accepts G ad P l (thr, P.res, P.cap, P.quo, P.wei, P.req, P.grp, P.acc, st, pls, P.mov, P.pl, P.ml, lgd, lr, lp, fr, tr, pr, pp) hI hRR r a (by omega) ha) wd_X6_accepts kml_X6_83 0 rfl rfl rfl rfl (Nat.le_of_ble_eq_true rfl) ⟨by decide, by decide⟩ ⟨Nat.zero_le _, Nat.zero_le _⟩ dX6_canMove_36 rfl (fun z u h => ?_)
        subst h
        refine jw_if_eq_b (pc := 39) (tgt := 46) C dX6_canMove_39 (by decide) (fun c_39 => ?_) (fun c_39 => ?_)
        · have hz : cM P r a = false := by unfold cM; rw [c_39, Bool.and_false]
          refine jw_iconst (pc := 46) C dX6_canMove_46 ?_
          first | exact hret _ _ true () dX6_canMove_47 hz.symm | exact hret _ _ false () dX6_canMove_47 hz.symm
        · have hz : cM P r a = true := by unfold cM; rw [c_39, decide_eq_true ⟨by omega, by omega, by omega⟩]; rfl
          refine jw_iconst (pc := 42) C dX6_canMove_42 ?_
          refine jw_goto (pc := 43) (tgt := 47) C dX6_canMove_43 (by decide) ?_
          first | exact hret _ _ true () dX6_canMove_47 hz.symm | exact hret _ _ false () dX6_canMove_47 hz.symm
