theorem lstI_at {p : Nat → Bool} {n i : Nat} (hi : i < n) (hp : p i = true) (h : ∀ j, j < i → p j = false) : lstI p n = (i : Int) := by
  rcases lstI_spec p n with ⟨g1, g2⟩ | ⟨k, g1, g2, g3, g4⟩
  · have := g2 i hi
    rw [hp] at this
    cases this
  · by_cases e1 : k < i
    · have := h k e1
      rw [g3] at this
      cases this
    · by_cases e2 : i < k
      · have := g4 i e2
        rw [hp] at this
        cases this
      · omega
theorem lstI_none9 {p : Nat → Bool} {n : Nat} (h : ∀ j, j < n → p j = false) : lstI p n = -1 := by
  rcases lstI_spec p n with ⟨g1, g2⟩ | ⟨k, g1, g2, g3, g4⟩
  · exact g1
  · have := h k g1
    rw [g3] at this
    cases this
def wtB (P : QP) (T : Nat → Bool) (r : Nat) : Prop := P.plc r = -1 ∧ T r = false
def inG (P : QP) (T : Nat → Bool) (g : Nat) (r : Nat) : Bool := decide (P.grp r = (g : Int)) && (decide (P.plc r = -1) && !T r)
theorem inG_iff {P : QP} {T : Nat → Bool} {g r : Nat} : inG P T g r = true ↔ P.grp r = (g : Int) ∧ wtB P T r := by
  unfold inG wtB
  rw [Bool.and_eq_true, Bool.and_eq_true, decide_eq_true_eq, decide_eq_true_eq, Bool.not_eq_true']
def quL (P : QP) (g h : Int) : Prop := P.asg g.toNat * P.wei h.toNat < P.asg h.toNat * P.wei g.toNat
def quE (P : QP) (g h : Int) : Prop := P.asg g.toNat * P.wei h.toNat = P.asg h.toNat * P.wei g.toNat
theorem serv_iff {P : QP} {g h : Int} : servB P g h = true ↔ quL P g h ∨ (quE P g h ∧ g < h) := by
  unfold servB quL quE
  rw [decide_eq_true_eq]
theorem qu_le {a b c d e f : Int} (hb : 0 < b) (hd : 0 < d) (hf : 0 < f) (h1 : a * d ≤ c * b) (h2 : c * f ≤ e * d) : a * f ≤ e * b := by
  have g1 := Int.mul_le_mul_of_nonneg_right h1 (Int.le_of_lt hf)
  have g2 := Int.mul_le_mul_of_nonneg_right h2 (Int.le_of_lt hb)
  have e1 : a * d * f = a * f * d := Int.mul_right_comm a d f
  have e2 : c * b * f = c * f * b := Int.mul_right_comm c b f
  have e3 : e * d * b = e * b * d := Int.mul_right_comm e d b
  exact Int.le_of_mul_le_mul_right (by rw [← e1, ← e3]; exact Int.le_trans (e2 ▸ g1) g2) hd
theorem qu_lt1 {a b c d e f : Int} (hb : 0 < b) (hd : 0 < d) (hf : 0 < f) (h1 : a * d < c * b) (h2 : c * f ≤ e * d) : a * f < e * b := by
  have g1 := Int.mul_lt_mul_of_pos_right h1 hf
  have g2 := Int.mul_le_mul_of_nonneg_right h2 (Int.le_of_lt hb)
  have e1 : a * d * f = a * f * d := Int.mul_right_comm a d f
  have e2 : c * b * f = c * f * b := Int.mul_right_comm c b f
  have e3 : e * d * b = e * b * d := Int.mul_right_comm e d b
  exact Int.lt_of_mul_lt_mul_right (by rw [← e1, ← e3]; exact Int.lt_of_lt_of_le (e2 ▸ g1) g2) (Int.le_of_lt hd)
theorem qu_lt2 {a b c d e f : Int} (hb : 0 < b) (hd : 0 < d) (hf : 0 < f) (h1 : a * d ≤ c * b) (h2 : c * f < e * d) : a * f < e * b := by
  have g1 := Int.mul_le_mul_of_nonneg_right h1 (Int.le_of_lt hf)
  have g2 := Int.mul_lt_mul_of_pos_right h2 hb
  have e1 : a * d * f = a * f * d := Int.mul_right_comm a d f
  have e2 : c * b * f = c * f * b := Int.mul_right_comm c b f
  have e3 : e * d * b = e * b * d := Int.mul_right_comm e d b
  exact Int.lt_of_mul_lt_mul_right (by rw [← e1, ← e3]; exact Int.lt_of_le_of_lt (e2 ▸ g1) g2) (Int.le_of_lt hd)
theorem serv_tr {P : QP} (hI : PI P) {g h k : Int} (hg : 0 ≤ g ∧ g ≤ 3) (hh : 0 ≤ h ∧ h ≤ 3) (hk : 0 ≤ k ∧ k ≤ 3) (h1 : servB P g h = true) (h2 : servB P h k = true) : servB P g k = true := by
  have p1 : 0 < P.wei g.toNat := by have := hI.wei1 g.toNat (by omega); omega
  have p2 : 0 < P.wei h.toNat := by have := hI.wei1 h.toNat (by omega); omega
  have p3 : 0 < P.wei k.toNat := by have := hI.wei1 k.toNat (by omega); omega
  rw [serv_iff] at h1 h2 ⊢
  rcases h1 with a1 | ⟨a1, a2⟩
  · rcases h2 with b1 | ⟨b1, b2⟩
    · exact Or.inl (qu_lt1 p1 p2 p3 a1 (Int.le_of_lt b1))
    · exact Or.inl (qu_lt1 p1 p2 p3 a1 (Int.le_of_eq b1))
  · rcases h2 with b1 | ⟨b1, b2⟩
    · exact Or.inl (qu_lt2 p1 p2 p3 (Int.le_of_eq a1) b1)
    · exact Or.inr ⟨Int.le_antisymm (qu_le p1 p2 p3 (Int.le_of_eq a1) (Int.le_of_eq b1)) (qu_le p3 p2 p1 (Int.le_of_eq b1.symm) (Int.le_of_eq a1.symm)), by omega⟩
theorem serv_tot {P : QP} {g h : Int} (hn : ¬ servB P g h = true) : servB P h g = true ∨ g = h := by
  rw [serv_iff] at hn ⊢
  unfold quL quE at hn ⊢
  rcases Int.lt_trichotomy (P.asg g.toNat * P.wei h.toNat) (P.asg h.toNat * P.wei g.toNat) with a | a | a
  · exact absurd (Or.inl a) hn
  · rcases Int.lt_trichotomy g h with b | b | b
    · exact absurd (Or.inr ⟨a, b⟩) hn
    · exact Or.inr b
    · exact Or.inl (Or.inr ⟨a.symm, b⟩)
  · exact Or.inl (Or.inl a)
theorem serv_asym {P : QP} {g h : Int} (h1 : servB P g h = true) (h2 : servB P h g = true) : False := by
  rw [serv_iff] at h1 h2
  unfold quL quE at h1 h2
  rcases h1 with a | ⟨a, a2⟩
  · rcases h2 with b | ⟨b, b2⟩
    · exact absurd (Int.lt_trans a b) (Int.lt_irrefl _)
    · rw [b] at a; exact absurd a (Int.lt_irrefl _)
  · rcases h2 with b | ⟨b, b2⟩
    · rw [a] at b; exact absurd b (Int.lt_irrefl _)
    · omega
def beats (P : QP) (k r : Nat) : Prop := servB P (P.grp k) (P.grp r) = true ∨ (P.grp k = P.grp r ∧ k ≤ r)
theorem beats_anti {P : QP} {k r : Nat} (h1 : beats P k r) (h2 : beats P r k) : k = r := by
  rcases h1 with a | ⟨a, a2⟩
  · rcases h2 with b | ⟨b, b2⟩
    · exact absurd (serv_asym a b) id
    · rw [b] at a; exact absurd (serv_asym a a) id
  · rcases h2 with b | ⟨b, b2⟩
    · rw [a] at b; exact absurd (serv_asym b b) id
    · omega
theorem beats_tr {P : QP} (hI : PI P) {j k r : Nat} (h1 : servB P (P.grp j) (P.grp k) = true) (h2 : beats P k r) : servB P (P.grp j) (P.grp r) = true := by
  rcases h2 with a | ⟨a, a2⟩
  · exact serv_tr hI (hI.grp j) (hI.grp k) (hI.grp r) h1 a
  · rw [← a]; exact h1
/-- the best of those below n -/
def NxI (P : QP) (T : Nat → Bool) (Q : Nat → Prop) (v : Int) : Prop := (v = -1 ∧ ∀ r, Q r → ¬ wtB P T r) ∨ ∃ k : Nat, v = (k : Int) ∧ Q k ∧ wtB P T k ∧ ∀ r, Q r → wtB P T r → beats P k r
theorem nxF_NxI {P : QP} (hI : PI P) (T : Nat → Bool) : ∀ n, NxI P T (fun r => r < n) (nxF P T n)
  | 0 => Or.inl ⟨rfl, fun r h => absurd h (Nat.not_lt_zero _)⟩
  | n + 1 => by
    have ih := nxF_NxI hI T n
    simp only [nxF]
    split
    · rename_i h
      obtain ⟨h1, h2, h3⟩ := h
      refine Or.inr ⟨n, rfl, Nat.lt_succ_self n, ⟨h1, h2⟩, fun r hr hw => ?_⟩
      by_cases e : r = n
      · rw [e]; exact Or.inr ⟨rfl, Nat.le_refl _⟩
      · rcases ih with ⟨g1, g2⟩ | ⟨k, g1, g2, g3, g4⟩
        · exact absurd hw (g2 r (by omega))
        · rcases h3 with h3 | h3
          · omega
          · have e2 : (nxF P T n).toNat = k := by omega
            rw [e2] at h3
            exact Or.inl (beats_tr hI h3 (g4 r (by omega) hw))
    · rename_i h
      rcases ih with ⟨g1, g2⟩ | ⟨k, g1, g2, g3, g4⟩
      · refine Or.inl ⟨g1, fun r hr hw => ?_⟩
        by_cases e : r = n
        · rw [e] at hw; exact h ⟨hw.1, hw.2, Or.inl g1⟩
        · exact g2 r (by omega) hw
      · refine Or.inr ⟨k, g1, by omega, g3, fun r hr hw => ?_⟩
        by_cases e : r = n
        · rw [e] at hw ⊢
          have e2 : (nxF P T n).toNat = k := by omega
          rw [e2] at h
          rcases serv_tot (fun q => h ⟨hw.1, hw.2, Or.inr q⟩) with w | w
          · exact Or.inl w
          · exact Or.inr ⟨w.symm, by omega⟩
        · exact g4 r (by omega) hw
theorem NxI.uniq {P : QP} {T : Nat → Bool} {Q Q2 : Nat → Prop} {v u : Int} (h : NxI P T Q v) (g : NxI P T Q2 u) (e : ∀ r, Q r ↔ Q2 r) : v = u := by
  rcases h with ⟨h1, h2⟩ | ⟨k, h1, h2, h3, h4⟩
  · rcases g with ⟨g1, g2⟩ | ⟨j, g1, g2, g3, g4⟩
    · rw [h1, g1]
    · exact absurd g3 (h2 j ((e j).mpr g2))
  · rcases g with ⟨g1, g2⟩ | ⟨j, g1, g2, g3, g4⟩
    · exact absurd h3 (g2 k ((e k).mp h2))
    · rw [h1, g1, beats_anti (h4 j ((e j).mpr g2) g3) (g4 k ((e k).mp h2) h3)]
/-- the requests of groups below g -/
def bG (P : QP) (g : Nat) (r : Nat) : Prop := r < P.req.toNat ∧ P.grp r < (g : Int)
theorem NxI.rng {P : QP} {T : Nat → Bool} {g : Nat} {v : Int} (h : NxI P T (bG P g) v) : v = -1 ∨ ∃ k : Nat, v = (k : Int) ∧ k < P.req.toNat ∧ P.grp k < (g : Int) := by
  rcases h with ⟨h1, -⟩ | ⟨k, h1, h2, -⟩
  · exact Or.inl h1
  · exact Or.inr ⟨k, h1, h2.1, h2.2⟩
theorem NxI.none {P : QP} {T : Nat → Bool} {g : Nat} {v : Int} (h : NxI P T (bG P g) v) (hn : lstI (inG P T g) P.req.toNat = -1) : NxI P T (bG P (g + 1)) v := by
  have hno : ∀ r, r < P.req.toNat → inG P T g r = false := by
    rcases lstI_spec (inG P T g) P.req.toNat with ⟨-, g2⟩ | ⟨k, -, g2, -⟩
    · exact g2
    · omega
  have key : ∀ r, bG P (g + 1) r → wtB P T r → bG P g r := fun r hr hw => by
    refine ⟨hr.1, ?_⟩
    have h2 := hr.2
    by_cases e : P.grp r = (g : Int)
    · have := inG_iff.mpr ⟨e, hw⟩
      rw [hno r hr.1] at this
      cases this
    · omega
  rcases h with ⟨h1, h2⟩ | ⟨k, h1, h2, h3, h4⟩
  · exact Or.inl ⟨h1, fun r hr hw => h2 r (key r hr hw) hw⟩
  · exact Or.inr ⟨k, h1, ⟨h2.1, by have := h2.2; omega⟩, h3, fun r hr hw => h4 r (key r hr hw) hw⟩
theorem NxI.keep {P : QP} {T : Nat → Bool} {g k : Nat} (hI : PI P) (h : NxI P T (bG P g) (k : Int)) (hg : g < 4) (hq : ¬ P.asg g * P.wei (P.grp k).toNat < P.asg (P.grp k).toNat * P.wei g) : NxI P T (bG P (g + 1)) (k : Int) := by
  rcases h with ⟨h1, h2⟩ | ⟨j, h1, h2, h3, h4⟩
  · omega
  · have e : j = k := by omega
    subst e
    refine Or.inr ⟨j, rfl, ⟨h2.1, by have := h2.2; omega⟩, h3, fun r hr hw => ?_⟩
    by_cases e : P.grp r = (g : Int)
    · refine Or.inl ?_
      rw [e, serv_iff]
      have h9 := h2.2
      unfold quL quE
      have e3 : ((g : Int)).toNat = g := by omega
      rw [e3]
      rcases Int.lt_trichotomy (P.asg (P.grp j).toNat * P.wei g) (P.asg g * P.wei (P.grp j).toNat) with a | a | a
      · exact Or.inl a
      · exact Or.inr ⟨a, h9⟩
      · exact absurd a hq
    · exact h4 r ⟨hr.1, by have := hr.2; omega⟩ hw
theorem NxI.take {P : QP} {T : Nat → Bool} {g : Nat} {v : Int} {k : Nat} (hI : PI P) (h : NxI P T (bG P g) v) (hl : lstI (inG P T g) P.req.toNat = (k : Int)) (hq : v = -1 ∨ P.asg g * P.wei (P.grp v.toNat).toNat < P.asg (P.grp v.toNat).toNat * P.wei g) : NxI P T (bG P (g + 1)) (k : Int) := by
  rcases lstI_spec (inG P T g) P.req.toNat with ⟨g1, g2⟩ | ⟨i, g1, g2, g3, g4⟩
  · omega
  · have e : i = k := by omega
    subst e
    obtain ⟨w1, w2⟩ := inG_iff.mp g3
    refine Or.inr ⟨i, rfl, ⟨g1, by omega⟩, w2, fun r hr hw => ?_⟩
    by_cases e : P.grp r = (g : Int)
    · refine Or.inr ⟨by omega, ?_⟩
      by_cases e2 : r < i
      · have := g4 r e2
        rw [inG_iff.mpr ⟨e, hw⟩] at this
        cases this
      · omega
    · have hb : bG P g r := ⟨hr.1, by have := hr.2; omega⟩
      rcases h with ⟨h1, h2⟩ | ⟨j, h1, h2, h3, h4⟩
      · exact absurd hw (h2 r hb)
      · rcases hq with hq | hq
        · omega
        · have e2 : v.toNat = j := by omega
          rw [e2] at hq
          have e3 : ((g : Int)).toNat = g := by omega
          refine Or.inl (beats_tr hI (k := j) ?_ (h4 r hb hw))
          rw [w1, serv_iff]
          unfold quL
          rw [e3]
          exact Or.inl hq
set_option maxRecDepth 100000 in
set_option maxHeartbeats 4000000 in
theorem c_X6_firstIn (G : jG) (ad : Nat → Nat) (P : QP) (l : QL) (R : QR) (hI : PI P) (hR : RR P l R) (g : Nat) (hg : g < 4) : CI G yX6_firstIn cX6_firstIn 3 (jrm 0 0 0 0) [.ref (ad 0), .int (iI (g : Int))] (wR G ad R) (fun (z : Int32) (_ : Unit) => z = iI (lstI (inG P R.tri g) P.req.toNat)) (fun _ : Unit => wR G ad R) 0 0 := by
  refine ci_intro (own := RX6) [some (.ref (ad 0)), some (.int (iI (g : Int))), none] (by decide) rfl rfl rfl (Nat.le_of_ble_eq_true rfl) (fun X C hret => ?_)
  obtain ⟨thr, rs, cp, qu, we, rq, gr, ms, st, pls, mv, plm, mlm, lgd, lr, lp, fr, tr, pr, pp⟩ := R
  obtain ⟨(rfl : rs = P.res), (rfl : cp = P.cap), (rfl : qu = P.quo), (rfl : we = P.wei), (rfl : rq = P.req), (rfl : gr = P.grp), (rfl : ms = P.acc), (rfl : mv = P.mov), (rfl : plm = P.pl), (rfl : mlm = P.ml), (hst : ∀ r : Nat, (r : Int) < P.req → st r = stN (P.plc r)), (hpl : ∀ r : Nat, (r : Int) < P.req → 0 ≤ P.plc r → pls r = P.plc r), (elg : lgd = l.sz), (hlog : ∀ i : Nat, (i : Int) < l.sz → lr i = l.rq i ∧ lp i = l.tg i)⟩ := hR
  have hRR : RR P l (thr, P.res, P.cap, P.quo, P.wei, P.req, P.grp, P.acc, st, pls, P.mov, P.pl, P.ml, lgd, lr, lp, fr, tr, pr, pp) := ⟨rfl, rfl, rfl, rfl, rfl, rfl, rfl, rfl, rfl, rfl, hst, hpl, elg, hlog⟩
  refine jw_eqw (wR9 G ad thr P.res P.cap P.quo P.wei P.req P.grp P.acc st pls P.mov P.pl P.ml lgd lr lp fr tr pr pp) rfl ?_
  have h1 := hI.res
  have h2 := hI.req
  
  refine jw_iconst (pc := 0) C dX6_firstIn_0 ?_
  refine jw_istore_2 (pc := 1) C dX6_firstIn_1 rfl ?_
  have K2 : ∀ (n_2 : Nat) (r : Nat), ((r : Int) ≤ P.req) → (∀ j, j < r → inG P tr g j = false) → 40 - r < n_2 → JW G X 0 0 (wR9 G ad thr P.res P.cap P.quo P.wei P.req P.grp P.acc st pls P.mov P.pl P.ml lgd lr lp fr tr pr pp) 2 [some (.ref (ad 0)), some (.int (iI (g : Int))), some (.int (iI (r : Int)))] [] := by
    intro n_2
    induction n_2 with
    | zero => intro r hr hn hm_2; exact absurd hm_2 (Nat.not_lt_zero _)
    | succ n_2 ih_2 =>
      intro r hr hn hm_2
      refine jw_iload_2 (pc := 2) C dX6_firstIn_2 ?_
      refine jw_aload_0 (pc := 3) C dX6_firstIn_3 ?_
      refine fg_X6_66 (pc := 4) C 0 rfl rfl dX6_firstIn_4 ?_
      refine jw_icmp_ge (pc := 7) (tgt := 46) C dX6_firstIn_7 (by decide) ⟨by omega, by omega⟩ ⟨by omega, by omega⟩ (fun c_7 => ?_) (fun c_7 => ?_)
      · obtain rfl : r = P.req.toNat := by omega
        have hz := lstI_none9 (p := inG P tr g) hn
        refine jw_iconst (pc := 46) C dX6_firstIn_46 ?_
        exact hret _ _ _ () dX6_firstIn_47 (by show _ = iI (lstI (inG P tr g) P.req.toNat); rw [hz])
      · have q1 := hst r (by omega)
        have q2 := stN_rng (P.plc r)
        have q3 := @stN_0 (P.plc r)
        have q6 := hI.grp r
        refine jw_aload_0 (pc := 10) C dX6_firstIn_10 ?_
        refine fg_X6_19 (pc := 11) C 0 rfl rfl dX6_firstIn_11 ?_
        refine jw_iload_2 (pc := 14) C dX6_firstIn_14 ?_
        refine jw_iald (pc := 15) C 4 rfl r rfl (by omega) (by decide) dX6_firstIn_15 ?_
        refine jw_iload_1 (pc := 16) C dX6_firstIn_16 ?_
        refine jw_icmp_ne (pc := 17) (tgt := 40) C dX6_firstIn_17 (by decide) ⟨by omega, by omega⟩ ⟨by omega, by omega⟩ (fun c_17 => ?_) (fun c_17 => ?_)
        · have h9 : inG P tr g r = false := by unfold inG; rw [decide_eq_false (by omega)]; rfl
          refine jw_iinc_2 (pc := 40) C dX6_firstIn_40 rfl ?_
          refine jw_goto (pc := 43) (tgt := 2) C dX6_firstIn_43 (by decide) ?_
          exact ih_2 (r + 1) (by omega) (fun j hj => (Nat.lt_succ_iff_lt_or_eq.mp hj).elim (fun w => hn j w) (fun w => by rw [w]; exact h9)) (by omega)
        · refine jw_aload_0 (pc := 20) C dX6_firstIn_20 ?_
          refine fg_X6_25 (pc := 21) C 0 rfl rfl dX6_firstIn_21 ?_
          refine jw_iload_2 (pc := 24) C dX6_firstIn_24 ?_
          refine jw_iald (pc := 25) C 6 rfl r rfl (by omega) (by decide) dX6_firstIn_25 ?_
          refine jw_if_ne (pc := 26) (tgt := 40) C dX6_firstIn_26 (by decide) ⟨by omega, by omega⟩ (fun c_26 => ?_) (fun c_26 => ?_)
          · have h9 : inG P tr g r = false := by unfold inG; rw [decide_eq_false (p := P.plc r = -1) (by omega), Bool.false_and, Bool.and_false]
            refine jw_iinc_2 (pc := 40) C dX6_firstIn_40 rfl ?_
            refine jw_goto (pc := 43) (tgt := 2) C dX6_firstIn_43 (by decide) ?_
            exact ih_2 (r + 1) (by omega) (fun j hj => (Nat.lt_succ_iff_lt_or_eq.mp hj).elim (fun w => hn j w) (fun w => by rw [w]; exact h9)) (by omega)
          · refine jw_aload_0 (pc := 29) C dX6_firstIn_29 ?_
            refine fg_X6_50 (pc := 30) C 0 rfl rfl dX6_firstIn_30 ?_
            refine jw_iload_2 (pc := 33) C dX6_firstIn_33 ?_
            refine jw_zald (pc := 34) C 12 rfl r rfl (by omega) (by decide) dX6_firstIn_34 ?_
            refine jw_if_ne_b (pc := 35) (tgt := 40) C dX6_firstIn_35 (by decide) (fun c_35 => ?_) (fun c_35 => ?_)
            · have h9 : inG P tr g r = false := by unfold inG; rw [show tr r = true from c_35, Bool.not_true, Bool.and_false, Bool.and_false]
              refine jw_iinc_2 (pc := 40) C dX6_firstIn_40 rfl ?_
              refine jw_goto (pc := 43) (tgt := 2) C dX6_firstIn_43 (by decide) ?_
              exact ih_2 (r + 1) (by omega) (fun j hj => (Nat.lt_succ_iff_lt_or_eq.mp hj).elim (fun w => hn j w) (fun w => by rw [w]; exact h9)) (by omega)
            · have hz := lstI_at (p := inG P tr g) (n := P.req.toNat) (i := r) (by omega) (inG_iff.mpr ⟨by omega, by omega, c_35⟩) hn
              refine jw_iload_2 (pc := 38) C dX6_firstIn_38 ?_
              exact hret _ _ _ () dX6_firstIn_39 (by show _ = iI (lstI (inG P tr g) P.req.toNat); rw [hz])
  exact K2 41 0 (by omega) (fun j h => absurd h (Nat.not_lt_zero _)) (by omega)
set_option maxRecDepth 100000 in
set_option maxHeartbeats 4000000 in
theorem c_X6_next (G : jG) (ad : Nat → Nat) (P : QP) (l : QL) (R : QR) (hI : PI P) (hR : RR P l R)  : CI G yX6_next cX6_next 4 (jrm 1 23 0 0) [.ref (ad 0)] (wR G ad R) (fun (z : Int32) (_ : Unit) => z = iI (nxF P R.tri P.req.toNat)) (fun _ : Unit => wR G ad R) 0 0 := by
  refine ci_intro (own := RX6) [some (.ref (ad 0)), none, none, none] (by decide) rfl rfl rfl (Nat.le_of_ble_eq_true rfl) (fun X C hret => ?_)
  obtain ⟨thr, rs, cp, qu, we, rq, gr, ms, st, pls, mv, plm, mlm, lgd, lr, lp, fr, tr, pr, pp⟩ := R
  obtain ⟨(rfl : rs = P.res), (rfl : cp = P.cap), (rfl : qu = P.quo), (rfl : we = P.wei), (rfl : rq = P.req), (rfl : gr = P.grp), (rfl : ms = P.acc), (rfl : mv = P.mov), (rfl : plm = P.pl), (rfl : mlm = P.ml), (hst : ∀ r : Nat, (r : Int) < P.req → st r = stN (P.plc r)), (hpl : ∀ r : Nat, (r : Int) < P.req → 0 ≤ P.plc r → pls r = P.plc r), (elg : lgd = l.sz), (hlog : ∀ i : Nat, (i : Int) < l.sz → lr i = l.rq i ∧ lp i = l.tg i)⟩ := hR
  have hRR : RR P l (thr, P.res, P.cap, P.quo, P.wei, P.req, P.grp, P.acc, st, pls, P.mov, P.pl, P.ml, lgd, lr, lp, fr, tr, pr, pp) := ⟨rfl, rfl, rfl, rfl, rfl, rfl, rfl, rfl, rfl, rfl, hst, hpl, elg, hlog⟩
  refine jw_eqw (wR9 G ad thr P.res P.cap P.quo P.wei P.req P.grp P.acc st pls P.mov P.pl P.ml lgd lr lp fr tr pr pp) rfl ?_
  have h1 := hI.res
  have h2 := hI.req
  
  refine jw_iconst (pc := 0) C dX6_next_0 ?_
  refine jw_istore_1 (pc := 1) C dX6_next_1 rfl ?_
  refine jw_iconst (pc := 2) C dX6_next_2 ?_
  refine jw_istore_2 (pc := 3) C dX6_next_3 rfl ?_
  have K4 : ∀ (n_4 : Nat) (g : Nat) (v : Int), (g ≤ 4) → (NxI P tr (bG P g) v) → (-1 ≤ v ∧ v < 40) → 4 - g < n_4 → JW G X 0 0 (wR9 G ad thr P.res P.cap P.quo P.wei P.req P.grp P.acc st pls P.mov P.pl P.ml lgd lr lp fr tr pr pp) 4 [some (.ref (ad 0)), some (.int (iI v)), some (.int (iI (g : Int))), none] [] := by
    intro n_4
    induction n_4 with
    | zero => intro g v hg hN hv hm_4; exact absurd hm_4 (Nat.not_lt_zero _)
    | succ n_4 ih_4 =>
      intro g v hg hN hv hm_4
      refine jw_iload_2 (pc := 4) C dX6_next_4 ?_
      refine jw_iconst (pc := 5) C dX6_next_5 ?_
      refine jw_icmp_ge (pc := 6) (tgt := 73) C dX6_next_6 (by decide) ⟨by omega, by omega⟩ ⟨by omega, by omega⟩ (fun c_6 => ?_) (fun c_6 => ?_)
      · obtain rfl : g = 4 := by omega
        have hz : v = nxF P tr P.req.toNat := hN.uniq (nxF_NxI hI tr P.req.toNat) (fun r => ⟨fun q => q.1, fun q => ⟨q, by have := hI.grp r; omega⟩⟩)
        refine jw_iload_1 (pc := 73) C dX6_next_73 ?_
        exact hret _ _ _ () dX6_next_74 (by show _ = iI (nxF P tr P.req.toNat); rw [hz])
      · refine jw_aload_0 (pc := 9) C dX6_next_9 ?_
        refine jw_iload_2 (pc := 10) C dX6_next_10 ?_
        refine jw_V_I (pc := 11) C (c_X6_firstIn G ad P l (thr, P.res, P.cap, P.quo, P.wei, P.req, P.grp, P.acc, st, pls, P.mov, P.pl, P.ml, lgd, lr, lp, fr, tr, pr, pp) hI hRR g (by omega)) wd_X6_firstIn kml_X6_113 0 rfl rfl rfl rfl (Nat.le_of_ble_eq_true rfl) ⟨by decide, by decide⟩ ⟨Nat.zero_le _, Nat.zero_le _⟩ dX6_next_11 rfl (fun z u h => ?_)
        subst h
        refine jw_eqw (wR9 G ad thr P.res P.cap P.quo P.wei P.req P.grp P.acc st pls P.mov P.pl P.ml lgd lr lp fr tr pr pp) rfl ?_
        obtain ⟨i, hi⟩ : ∃ i : Int, i = lstI (inG P tr g) P.req.toNat := ⟨_, rfl⟩
        have hir : -1 ≤ i ∧ i < 40 := by
          rcases lstI_spec (inG P tr g) P.req.toNat with ⟨g1, g2⟩ | ⟨k, g1, g2, g3, g4⟩ <;> omega
        rw [show lstI (inG P (QR.tri (thr, P.res, P.cap, P.quo, P.wei, P.req, P.grp, P.acc, st, pls, P.mov, P.pl, P.ml, lgd, lr, lp, fr, tr, pr, pp)) g) P.req.toNat = i from hi.symm]
        refine jw_istore_3 (pc := 14) C dX6_next_14 rfl ?_
        refine jw_iload_3 (pc := 15) C dX6_next_15 ?_
        refine jw_iconst (pc := 16) C dX6_next_16 ?_
        refine jw_icmp_eq (pc := 17) (tgt := 67) C dX6_next_17 (by decide) ⟨by omega, by omega⟩ ⟨by omega, by omega⟩ (fun c_17 => ?_) (fun c_17 => ?_)
        · have hN2 := hN.none (by omega)
          refine jw_iinc_2 (pc := 67) C dX6_next_67 rfl ?_
          refine jw_goto (pc := 70) (tgt := 4) C dX6_next_70 (by decide) ?_
          exact jw_less (ih_4 (g + 1) _ (by omega) hN2 (by omega) (by omega)) (by repeat (first | exact trivial | refine And.intro rfl ?_))
        · refine jw_iload_1 (pc := 20) C dX6_next_20 ?_
          refine jw_iconst (pc := 21) C dX6_next_21 ?_
          refine jw_icmp_eq (pc := 22) (tgt := 65) C dX6_next_22 (by decide) ⟨by omega, by omega⟩ ⟨by omega, by omega⟩ (fun c_22 => ?_) (fun c_22 => ?_)
          · obtain ⟨j, hj⟩ : ∃ j : Nat, i = (j : Int) := ⟨i.toNat, by omega⟩
            have hN2 := hN.take hI (k := j) (by omega) (Or.inl c_22)
            rw [← hj] at hN2
            refine jw_iload_3 (pc := 65) C dX6_next_65 ?_
            refine jw_istore_1 (pc := 66) C dX6_next_66 rfl ?_
            refine jw_iinc_2 (pc := 67) C dX6_next_67 rfl ?_
            refine jw_goto (pc := 70) (tgt := 4) C dX6_next_70 (by decide) ?_
            exact jw_less (ih_4 (g + 1) _ (by omega) hN2 (by omega) (by omega)) (by repeat (first | exact trivial | refine And.intro rfl ?_))
          · obtain ⟨k, hk, hk2, hk3⟩ : ∃ k : Nat, v = (k : Int) ∧ k < P.req.toNat ∧ P.grp k < (g : Int) := by
              rcases hN.rng with q | q
              · exact absurd q c_22
              · exact q
            subst hk
            have q6 := hI.grp k
            have m1 := mul_rng (hI.asg g) (hI.wei (P.grp k).toNat)
            have m2 := mul_rng (hI.asg (P.grp k).toNat) (hI.wei g)
            refine jw_aload_0 (pc := 25) C dX6_next_25 ?_
            refine jw_iload_2 (pc := 26) C dX6_next_26 ?_
            refine jw_V_I (pc := 27) C (c_X6_assignedIn G ad P l (thr, P.res, P.cap, P.quo, P.wei, P.req, P.grp, P.acc, st, pls, P.mov, P.pl, P.ml, lgd, lr, lp, fr, tr, pr, pp) hI hRR g (by omega)) wd_X6_assignedIn kml_X6_89 0 rfl rfl rfl rfl (Nat.le_of_ble_eq_true rfl) ⟨by decide, by decide⟩ ⟨Nat.zero_le _, Nat.zero_le _⟩ dX6_next_27 rfl (fun z u h => ?_)
            subst h
            refine jw_eqw (wR9 G ad thr P.res P.cap P.quo P.wei P.req P.grp P.acc st pls P.mov P.pl P.ml lgd lr lp fr tr pr pp) rfl ?_
            refine jw_aload_0 (pc := 30) C dX6_next_30 ?_
            refine fg_X6_16 (pc := 31) C 0 rfl rfl dX6_next_31 ?_
            refine jw_aload_0 (pc := 34) C dX6_next_34 ?_
            refine fg_X6_19 (pc := 35) C 0 rfl rfl dX6_next_35 ?_
            refine jw_iload_1 (pc := 38) C dX6_next_38 ?_
            refine jw_iald (pc := 39) C 4 rfl k rfl (by omega) (by decide) dX6_next_39 ?_
            refine jw_iald (pc := 40) C 3 rfl (P.grp k).toNat (by omega) (by omega) (by decide) dX6_next_40 ?_
            refine jw_imul (pc := 41) C dX6_next_41 ?_
            refine jw_aload_0 (pc := 42) C dX6_next_42 ?_
            refine jw_aload_0 (pc := 43) C dX6_next_43 ?_
            refine fg_X6_19 (pc := 44) C 0 rfl rfl dX6_next_44 ?_
            refine jw_iload_1 (pc := 47) C dX6_next_47 ?_
            refine jw_iald (pc := 48) C 4 rfl _ rfl (by omega) (by decide) dX6_next_48 ?_
            rw [show iI (P.grp k) = iI (((P.grp k).toNat : Nat) : Int) from by rw [Int.toNat_of_nonneg q6.1]]
            refine jw_V_I (pc := 49) C (c_X6_assignedIn G ad P l (thr, P.res, P.cap, P.quo, P.wei, P.req, P.grp, P.acc, st, pls, P.mov, P.pl, P.ml, lgd, lr, lp, fr, tr, pr, pp) hI hRR (P.grp k).toNat (by omega)) wd_X6_assignedIn kml_X6_89 0 rfl rfl rfl rfl (Nat.le_of_ble_eq_true rfl) ⟨by decide, by decide⟩ ⟨Nat.zero_le _, Nat.zero_le _⟩ dX6_next_49 rfl (fun z u h => ?_)
            subst h
            refine jw_eqw (wR9 G ad thr P.res P.cap P.quo P.wei P.req P.grp P.acc st pls P.mov P.pl P.ml lgd lr lp fr tr pr pp) rfl ?_
            refine jw_aload_0 (pc := 52) C dX6_next_52 ?_
            refine fg_X6_16 (pc := 53) C 0 rfl rfl dX6_next_53 ?_
            refine jw_iload_2 (pc := 56) C dX6_next_56 ?_
            refine jw_iald (pc := 57) C 3 rfl g rfl (by omega) (by decide) dX6_next_57 ?_
            refine jw_imul (pc := 58) C dX6_next_58 ?_
            refine jw_icmp_lt (pc := 59) (tgt := 65) C dX6_next_59 (by decide) ⟨by omega, by omega⟩ ⟨by omega, by omega⟩ (fun c_59 => ?_) (fun c_59 => ?_)
            · obtain ⟨j, hj⟩ : ∃ j : Nat, i = (j : Int) := ⟨i.toNat, by omega⟩
              have hN2 := hN.take hI (k := j) (by omega) (Or.inr c_59)
              rw [← hj] at hN2
              refine jw_iload_3 (pc := 65) C dX6_next_65 ?_
              refine jw_istore_1 (pc := 66) C dX6_next_66 rfl ?_
              refine jw_iinc_2 (pc := 67) C dX6_next_67 rfl ?_
              refine jw_goto (pc := 70) (tgt := 4) C dX6_next_70 (by decide) ?_
              exact jw_less (ih_4 (g + 1) _ (by omega) hN2 (by omega) (by omega)) (by repeat (first | exact trivial | refine And.intro rfl ?_))
            · have hN2 := hN.keep hI (by omega) c_59
              refine jw_goto (pc := 62) (tgt := 67) C dX6_next_62 (by decide) ?_
              refine jw_iinc_2 (pc := 67) C dX6_next_67 rfl ?_
              refine jw_goto (pc := 70) (tgt := 4) C dX6_next_70 (by decide) ?_
              exact jw_less (ih_4 (g + 1) _ (by omega) hN2 (by omega) (by omega)) (by repeat (first | exact trivial | refine And.intro rfl ?_))
  exact jw_less (K4 5 0 (-1) (by omega) (Or.inl ⟨rfl, fun r hr => by have := hr.2; have := hI.grp r; omega⟩) (by omega) (by omega)) (by repeat (first | exact trivial | refine And.intro rfl ?_))
