def cutN (P : QP) (x y : Nat) : Int := cutV P P.acc (Nat.testBit x) (Nat.testBit y)
theorem bt_nat (y k : Nat) (hy : y < 4096) (hk : k < 32) : bt (iI (y : Int)) k = y.testBit k := by
  rw [iI_nI]
  show (BitVec.ofNat 32 y).getLsbD k = _
  rw [BitVec.getLsbD_ofNat, decide_eq_true hk, Bool.true_and]
theorem and_one (m : Int32) (k : Nat) (hk : k < 31) : (m >>> (iI (k : Int) &&& 31)) &&& iI 1 = iI (if bt m k = true then 1 else 0) := by
  have h := bit1 m k hk
  cases hb : bt m k
  · rw [hb] at h
    have h2 := of_decide_eq_false h
    rw [if_neg (by exact Bool.noConfusion)]
    exact Classical.byContradiction (fun q => h2 ((b_one1 _).mpr q))
  · rw [hb] at h
    rw [if_pos rfl]
    exact of_decide_eq_true h
theorem bits_ex (f : Nat → Bool) : ∀ n, ∃ x, x < 2 ^ n ∧ ∀ i, i < n → Nat.testBit x i = f i
  | 0 => ⟨0, by decide, fun i hi => absurd hi (Nat.not_lt_zero _)⟩
  | n + 1 => by
    obtain ⟨x, h1, h2⟩ := bits_ex f n
    have h3 : Nat.testBit x n = false := Nat.testBit_lt_two_pow h1
    have h4 : 2 ^ (n + 1) = 2 ^ n + 2 ^ n := by rw [Nat.pow_succ]; omega
    by_cases hf : f n = true
    · refine ⟨2 ^ n + x, by omega, fun i hi => ?_⟩
      by_cases e : i = n
      · subst e; rw [Nat.testBit_two_pow_add_eq, h3, hf]; rfl
      · rw [Nat.testBit_two_pow_add_gt (by omega)]; exact h2 i (by omega)
    · refine ⟨x, by omega, fun i hi => ?_⟩
      by_cases e : i = n
      · subst e; rw [h3]; cases h : f i
        · rfl
        · exact absurd h hf
      · exact h2 i (by omega)
theorem cutV_bits {P : QP} (hI : PI P) {cg ca dg da : Nat → Bool} (h1 : ∀ g, g < 4 → dg g = cg g) (h2 : ∀ a : Nat, a < P.res.toNat → da a = ca a) : cutV P P.acc dg da = cutV P P.acc cg ca := by
  unfold cutV
  rw [sumF_congr (f := fun g => if cg g = true then P.quo g else 0) (g := fun g => if dg g = true then P.quo g else 0) (fun g hg => by simp only [h1 g hg]), sumF_congr (f := fun a => if ca a = true then P.cap a else 0) (g := fun a => if da a = true then P.cap a else 0) (fun a ha => by simp only [h2 a ha])]
  congr 1
  apply cntF_congr
  intro j hj
  have hg := hI.grp j
  rw [h1 _ (by omega), exB_congr (p := fun a => bt (P.acc j) a && !da a) (q := fun a => bt (P.acc j) a && !ca a) (fun a ha => by simp only [h2 a ha])]
theorem cutN_min {P : QP} (hI : PI P) {L : Int} (hL : L ≤ 40) (hA : L = 40 ∨ ∃ x y, cutN P x y = L) (hB : ∀ x, x < 16 → ∀ y, y < 2 ^ P.res.toNat → L ≤ cutN P x y) : IsMin P P.acc L := by
  have hall : ∀ cg ca, L ≤ cutV P P.acc cg ca := fun cg ca => by
    obtain ⟨x, h1, h2⟩ := bits_ex cg 4
    obtain ⟨y, h3, h4⟩ := bits_ex ca P.res.toNat
    rw [← cutV_bits hI h2 h4]
    exact hB x h1 y h3
  refine ⟨?_, hall⟩
  rcases hA with h | ⟨x, y, h⟩
  · refine ⟨fun _ => false, fun _ => false, ?_⟩
    have h1 := hall (fun _ => false) (fun _ => false)
    have h2 : cutV P P.acc (fun _ => false) (fun _ => false) ≤ 40 := by
      unfold cutV
      have e1 : sumF (fun g => if (fun _ : Nat => false) g = true then P.quo g else 0) 4 = 0 := rfl
      have e2 : ∀ n, sumF (fun a => if (fun _ : Nat => false) a = true then P.cap a else 0) n = 0 := fun n => by
        induction n with
        | zero => rfl
        | succ n ih => simp only [sumF]; rw [ih]; rfl
      rw [e1, e2]
      have h3 := cntF_le (fun r => decide (¬ P.plc r = -2) && (!(fun _ : Nat => false) (P.grp r).toNat && exB (fun a => bt (P.acc r) a && !(fun _ : Nat => false) a) P.res.toNat)) P.req.toNat
      have h4 := hI.req
      omega
    omega
  · exact ⟨_, _, h⟩
/-- the sums of a cut -/
def qS (P : QP) (x : Nat) : Nat → Int := sumF (fun g => if Nat.testBit x g = true then P.quo g else 0)
def aS (P : QP) (y : Nat) : Nat → Int := sumF (fun a => if Nat.testBit y a = true then P.cap a else 0)
def rP (P : QP) (x y : Nat) (r : Nat) : Bool := decide (¬ P.plc r = -2) && (!Nat.testBit x (P.grp r).toNat && exB (fun a => bt (P.acc r) a && !Nat.testBit y a) P.res.toNat)
theorem cutN_eq (P : QP) (x y : Nat) : cutN P x y = qS P x 4 + aS P y P.res.toNat + cntF (rP P x y) P.req.toNat := rfl
theorem qS_rng {P : QP} (hI : PI P) (x : Nat) : ∀ n, 0 ≤ qS P x n ∧ qS P x n ≤ 40 * n
  | 0 => ⟨Int.le_refl 0, Int.le_refl 0⟩
  | n + 1 => by
    have ih := qS_rng hI x n
    have h := hI.quo n
    have e : qS P x (n + 1) = qS P x n + if Nat.testBit x n = true then P.quo n else 0 := rfl
    rw [e]
    split <;> omega
theorem aS_rng {P : QP} (hI : PI P) (y : Nat) : ∀ n, 0 ≤ aS P y n ∧ aS P y n ≤ 4 * n
  | 0 => ⟨Int.le_refl 0, Int.le_refl 0⟩
  | n + 1 => by
    have ih := aS_rng hI y n
    have h := hI.cap n
    have e : aS P y (n + 1) = aS P y n + if Nat.testBit y n = true then P.cap n else 0 := rfl
    rw [e]
    split <;> omega
theorem cnt_pre {p : Nat → Bool} {k : Nat} : ∀ {n : Nat}, k ≤ n → cntF p k ≤ cntF p n
  | 0, h => by rw [Nat.le_zero.mp h]; exact Int.le_refl _
  | n + 1, h => by
    by_cases e : k = n + 1
    · rw [e]; exact Int.le_refl _
    · have := cnt_pre (p := p) (k := k) (n := n) (by omega)
      simp only [cntF]
      split <;> omega
theorem mask_in {P : QP} (hI : PI P) {m : Int32} (hm : ∀ j, j < 32 → bt m j = true → (j : Int) < P.res) {y : Nat} (hy : y < 4096) : (m &&& (iI (y : Int) ^^^ iI (-1)) = 0) ↔ exB (fun a => bt m a && !Nat.testBit y a) P.res.toNat = false := by
  have hr := hI.res
  rw [b_and0]
  constructor
  · intro h
    cases hb : exB (fun a => bt m a && !Nat.testBit y a) P.res.toNat
    · rfl
    · obtain ⟨k, h1, h2⟩ := exB_iff.mp hb
      have h3 := h k (by omega)
      rw [b_not (by omega), bt_nat y k hy (by omega)] at h3
      rw [h3] at h2
      cases h2
  · intro h k hk
    rw [b_not hk, bt_nat y k hy hk]
    by_cases e : (k : Int) < P.res
    · cases hb : (bt m k && !Nat.testBit y k)
      · rfl
      · have h2 := (exB_iff (p := fun a => bt m a && !Nat.testBit y a)).mpr ⟨k, (by omega : k < P.res.toNat), hb⟩
        rw [h] at h2
        cases h2
    · cases hb : bt m k
      · rfl
      · exact absurd (hm k hk hb) e
def atN (P : QP) (L : Int) : Prop := L = 40 ∨ ∃ x y, cutN P x y = L
theorem jw_mmin {G : jG} {X : JX} {k n pc : Nat} {w : va_W} {L : List (Option Value)} {rest : List Value} {rm : Room} {cc : ByteArray} {own : String} {nL idx : Nat} {a b : Int} (C : JC G X rm cc own nL) (link : Cond.methodLink own idx yJ9_min_7cf53 ∈ jAll) (ha : jr a) (hb0 : jr b) (hf : 1 ≤ rm.frames) (hlo : (rest.map fun v => v.category).sum + 13 ≤ rm.locals) (hk : k ≤ rm.cells ∧ n ≤ rm.slots) (d : decode cc pc = .ok (.invokestatic idx, 3)) (hL : L.length = nL)
    (kk : JW G X k n w (pc + 3) L (.int (iI (if b < a then b else a)) :: rest)) : JW G X k n w pc L (.int (iI b) :: .int (iI a) :: rest) := by
  obtain ⟨p, l, e, R, s, m, args, below, meth, c, Q, A⟩ := X
  obtain ⟨hx, hb, hml, hown, hts, hnw, hK, hlk, hA, hR⟩ := C
  subst hR
  intro H locs ls hP hD hS hl
  refine va_mmin hx hb (hml.trans (hL.symm.trans hl.1.symm)) hown (hts _ link) (hts _ kst_J9_min_7cf53) (hts _ kini_J9) (hts _ kco_J9_min_7cf53) hf hlo hk.1 hk.2 d ?_
  have h9 : (if iI b < iI a then iI b else iI a) = iI (if b < a then b else a) := by
    by_cases q : b < a
    · rw [if_pos ((iI_lt hb0 ha).mpr q), if_pos q]
    · rw [if_neg (fun z => q ((iI_lt hb0 ha).mp z)), if_neg q]
  rw [h9]
  exact kk H locs ls hP hD hS hl
set_option maxRecDepth 100000 in
set_option maxHeartbeats 4000000 in
theorem c_X6_possible (G : jG) (ad : Nat → Nat) (P : QP) (l : QL) (R : QR) (hI : PI P) (hR : RR P l R) (hm : ∀ r : Nat, (r : Int) < P.req → ∀ j, j < 32 → bt (P.acc r) j = true → (j : Int) < P.res) : CI G yX6_possible cX6_possible 6 (jrm 1 20 0 0) [.ref (ad 0)] (wR G ad R) (fun (z : Int32) (_ : Unit) => ∃ v : Int, z = iI v ∧ (0 ≤ v ∧ v ≤ 40) ∧ IsMin P P.acc v) (fun _ : Unit => wR G ad R) 0 0 := by
  refine ci_intro (own := RX6) [some (.ref (ad 0)), none, none, none, none, none] (by decide) rfl rfl rfl (Nat.le_of_ble_eq_true rfl) (fun X C hret => ?_)
  obtain ⟨thr, rs, cp, qu, we, rq, gr, ms, st, pls, mv, plm, mlm, lgd, lr, lp, fr, tr, pr, pp⟩ := R
  obtain ⟨(rfl : rs = P.res), (rfl : cp = P.cap), (rfl : qu = P.quo), (rfl : we = P.wei), (rfl : rq = P.req), (rfl : gr = P.grp), (rfl : ms = P.acc), (rfl : mv = P.mov), (rfl : plm = P.pl), (rfl : mlm = P.ml), (hst : ∀ r : Nat, (r : Int) < P.req → st r = stN (P.plc r)), (hpl : ∀ r : Nat, (r : Int) < P.req → 0 ≤ P.plc r → pls r = P.plc r), (elg : lgd = l.sz), (hlog : ∀ i : Nat, (i : Int) < l.sz → lr i = l.rq i ∧ lp i = l.tg i)⟩ := hR
  have hRR : RR P l (thr, P.res, P.cap, P.quo, P.wei, P.req, P.grp, P.acc, st, pls, P.mov, P.pl, P.ml, lgd, lr, lp, fr, tr, pr, pp) := ⟨rfl, rfl, rfl, rfl, rfl, rfl, rfl, rfl, rfl, rfl, hst, hpl, elg, hlog⟩
  refine jw_eqw (wR9 G ad thr P.res P.cap P.quo P.wei P.req P.grp P.acc st pls P.mov P.pl P.ml lgd lr lp fr tr pr pp) rfl ?_
  have h1 := hI.res
  have h2 := hI.req
  obtain ⟨n, hn⟩ : ∃ n : Nat, n = P.res.toNat := ⟨_, rfl⟩
  have hp : (2 ^ P.res.toNat : Nat) ≤ 4096 := by
    have := Nat.pow_le_pow_right (n := 2) (by omega) (show P.res.toNat ≤ 12 by omega)
    simpa using this
  have hq : iI 1 <<< (iI P.res &&& 31) = iI ((2 ^ P.res.toNat : Nat) : Int) := by
    have := pow_iI P.res.toNat (by omega)
    rw [Int.toNat_of_nonneg h1.1] at this
    exact this
  obtain ⟨N, hN⟩ : ∃ N : Nat, N = 2 ^ P.res.toNat := ⟨_, rfl⟩
  rw [← hN] at hp hq
  refine jw_bipush (pc := 0) C dX6_possible_0 (by decide) ?_
  refine jw_istore_1 (pc := 2) C dX6_possible_2 rfl ?_
  refine jw_iconst (pc := 3) C dX6_possible_3 ?_
  refine jw_istore_2 (pc := 4) C dX6_possible_4 rfl ?_
  have K5 : ∀ (n_5 : Nat) (x : Nat) (L : Int), (x ≤ 16) → (0 ≤ L ∧ L ≤ 40) → (atN P L) → (∀ x2, x2 < x → ∀ y2, y2 < N → L ≤ cutN P x2 y2) → 16 - x < n_5 → JW G X 0 0 (wR9 G ad thr P.res P.cap P.quo P.wei P.req P.grp P.acc st pls P.mov P.pl P.ml lgd lr lp fr tr pr pp) 5 [some (.ref (ad 0)), some (.int (iI L)), some (.int (iI (x : Int))), none, none, none] [] := by
    intro n_5
    induction n_5 with
    | zero => intro x L hx hL hA hB hm_5; exact absurd hm_5 (Nat.not_lt_zero _)
    | succ n_5 ih_5 =>
      intro x L hx hL hA hB hm_5
      refine jw_iload_2 (pc := 5) C dX6_possible_5 ?_
      refine jw_bipush (pc := 6) C dX6_possible_6 (by decide) ?_
      refine jw_icmp_ge (pc := 8) (tgt := 189) C dX6_possible_8 (by decide) ⟨by omega, by omega⟩ ⟨by omega, by omega⟩ (fun c_8 => ?_) (fun c_8 => ?_)
      · have ex : x = 16 := by omega
        have hz : IsMin P P.acc L := cutN_min hI hL.2 hA (fun x2 hx2 y2 hy2 => hB x2 (by omega) y2 (by rw [hN]; exact hy2))
        refine jw_iload_1 (pc := 189) C dX6_possible_189 ?_
        exact hret _ _ _ () dX6_possible_190 ⟨L, rfl, hL, hz⟩
      · refine jw_iconst (pc := 11) C dX6_possible_11 ?_
        refine jw_istore_3 (pc := 12) C dX6_possible_12 rfl ?_
        have K13 : ∀ (n_13 : Nat) (y : Nat) (L2 : Int), (y ≤ N) → (0 ≤ L2 ∧ L2 ≤ 40) → (atN P L2) → (∀ x2, x2 < x → ∀ y2, y2 < N → L2 ≤ cutN P x2 y2) → (∀ y2, y2 < y → L2 ≤ cutN P x y2) → N - y < n_13 → JW G X 0 0 (wR9 G ad thr P.res P.cap P.quo P.wei P.req P.grp P.acc st pls P.mov P.pl P.ml lgd lr lp fr tr pr pp) 13 [some (.ref (ad 0)), some (.int (iI L2)), some (.int (iI (x : Int))), some (.int (iI (y : Int))), none, none] [] := by
          intro n_13
          induction n_13 with
          | zero => intro y L2 hy hL2 hA2 hB2 hC hm_13; exact absurd hm_13 (Nat.not_lt_zero _)
          | succ n_13 ih_13 =>
            intro y L2 hy hL2 hA2 hB2 hC hm_13
            refine jw_iload_3 (pc := 13) C dX6_possible_13 ?_
            refine jw_iconst (pc := 14) C dX6_possible_14 ?_
            refine jw_aload_0 (pc := 15) C dX6_possible_15 ?_
            refine fg_X6_63 (pc := 16) C 0 rfl rfl dX6_possible_16 ?_
            refine jw_ishl (pc := 19) C dX6_possible_19 ?_
            rw [hq]
            refine jw_icmp_ge (pc := 20) (tgt := 183) C dX6_possible_20 (by decide) ⟨by omega, by omega⟩ ⟨by omega, by omega⟩ (fun c_20 => ?_) (fun c_20 => ?_)
            · have hye : N ≤ y := by omega
              refine jw_iinc_2 (pc := 183) C dX6_possible_183 rfl ?_
              refine jw_goto (pc := 186) (tgt := 5) C dX6_possible_186 (by decide) ?_
              exact jw_less (ih_5 (x + 1) L2 (by omega) hL2 hA2 (fun x2 h y2 hy2 => (Nat.lt_succ_iff_lt_or_eq.mp h).elim (fun q => hB2 x2 q y2 hy2) (fun q => by rw [q]; exact hC y2 (Nat.lt_of_lt_of_le hy2 hye))) (by omega)) (by repeat (first | exact trivial | refine And.intro rfl ?_))
            · refine jw_iconst (pc := 23) C dX6_possible_23 ?_
              refine jw_istore_4 (pc := 24) C dX6_possible_24 rfl ?_
              refine jw_iconst (pc := 26) C dX6_possible_26 ?_
              refine jw_istore_5 (pc := 27) C dX6_possible_27 rfl ?_
              have K29 : ∀ (n_29 : Nat) (g : Nat), (g ≤ 4) → 4 - g < n_29 → JW G X 0 0 (wR9 G ad thr P.res P.cap P.quo P.wei P.req P.grp P.acc st pls P.mov P.pl P.ml lgd lr lp fr tr pr pp) 29 [some (.ref (ad 0)), some (.int (iI L2)), some (.int (iI (x : Int))), some (.int (iI (y : Int))), some (.int (iI (qS P x g))), some (.int (iI (g : Int)))] [] := by
                intro n_29
                induction n_29 with
                | zero => intro g hg hm_29; exact absurd hm_29 (Nat.not_lt_zero _)
                | succ n_29 ih_29 =>
                  intro g hg hm_29
                  have z1 := qS_rng hI x g
                  have z2 := hI.quo g
                  refine jw_iload_5 (pc := 29) C dX6_possible_29 ?_
                  refine jw_iconst (pc := 31) C dX6_possible_31 ?_
                  refine jw_icmp_ge (pc := 32) (tgt := 60) C dX6_possible_32 (by decide) ⟨by omega, by omega⟩ ⟨by omega, by omega⟩ (fun c_32 => ?_) (fun c_32 => ?_)
                  · obtain rfl : g = 4 := by omega
                    refine jw_iconst (pc := 60) C dX6_possible_60 ?_
                    refine jw_istore_5 (pc := 61) C dX6_possible_61 rfl ?_
                    have K63 : ∀ (n_63 : Nat) (a : Nat), ((a : Int) ≤ P.res) → 12 - a < n_63 → JW G X 0 0 (wR9 G ad thr P.res P.cap P.quo P.wei P.req P.grp P.acc st pls P.mov P.pl P.ml lgd lr lp fr tr pr pp) 63 [some (.ref (ad 0)), some (.int (iI L2)), some (.int (iI (x : Int))), some (.int (iI (y : Int))), some (.int (iI (qS P x 4 + aS P y a))), some (.int (iI (a : Int)))] [] := by
                      intro n_63
                      induction n_63 with
                      | zero => intro a ha hm_63; exact absurd hm_63 (Nat.not_lt_zero _)
                      | succ n_63 ih_63 =>
                        intro a ha hm_63
                        have z3 := aS_rng hI y a
                        have z4 := hI.cap a
                        refine jw_iload_5 (pc := 63) C dX6_possible_63 ?_
                        refine jw_aload_0 (pc := 65) C dX6_possible_65 ?_
                        refine fg_X6_63 (pc := 66) C 0 rfl rfl dX6_possible_66 ?_
                        refine jw_icmp_ge (pc := 69) (tgt := 97) C dX6_possible_69 (by decide) ⟨by omega, by omega⟩ ⟨by omega, by omega⟩ (fun c_69 => ?_) (fun c_69 => ?_)
                        · obtain rfl : a = P.res.toNat := by omega
                          refine jw_iconst (pc := 97) C dX6_possible_97 ?_
                          refine jw_istore_5 (pc := 98) C dX6_possible_98 rfl ?_
                          have K100 : ∀ (n_100 : Nat) (r : Nat), ((r : Int) ≤ P.req) → 40 - r < n_100 → JW G X 0 0 (wR9 G ad thr P.res P.cap P.quo P.wei P.req P.grp P.acc st pls P.mov P.pl P.ml lgd lr lp fr tr pr pp) 100 [some (.ref (ad 0)), some (.int (iI L2)), some (.int (iI (x : Int))), some (.int (iI (y : Int))), some (.int (iI (qS P x 4 + aS P y P.res.toNat + cntF (rP P x y) r))), some (.int (iI (r : Int)))] [] := by
                            intro n_100
                            induction n_100 with
                            | zero => intro r hr hm_100; exact absurd hm_100 (Nat.not_lt_zero _)
                            | succ n_100 ih_100 =>
                              intro r hr hm_100
                              have z5 := cntF_nn (rP P x y) r
                              have z6 := cntF_le (rP P x y) r
                              have z7 := hI.grp r
                              have z8 := hI.plc r
                              have z9 := aS_rng hI y P.res.toNat
                              have zq := qS_rng hI x 4
                              obtain ⟨S, hS⟩ : ∃ S : Int, S = qS P x 4 + aS P y P.res.toNat + cntF (rP P x y) r := ⟨_, rfl⟩
                              rw [← hS]
                              have zs : 0 ≤ S ∧ S ≤ 300 := by omega
                              refine jw_iload_5 (pc := 100) C dX6_possible_100 ?_
                              refine jw_aload_0 (pc := 102) C dX6_possible_102 ?_
                              refine fg_X6_66 (pc := 103) C 0 rfl rfl dX6_possible_103 ?_
                              refine jw_icmp_ge (pc := 106) (tgt := 170) C dX6_possible_106 (by decide) ⟨by omega, by omega⟩ ⟨by omega, by omega⟩ (fun c_106 => ?_) (fun c_106 => ?_)
                              · have er : r = P.req.toNat := by omega
                                have hmc : (if S < L2 then S else L2) ≤ cutN P x y := by
                                  rw [cutN_eq, ← er, ← hS]
                                  split <;> omega
                                have hmn : (if S < L2 then S else L2) ≤ L2 := by split <;> omega
                                have hA3 : atN P (if S < L2 then S else L2) := by
                                  split
                                  · exact Or.inr ⟨x, y, by rw [cutN_eq, ← er, ← hS]⟩
                                  · exact hA2
                                refine jw_iload_1 (pc := 170) C dX6_possible_170 ?_
                                refine jw_iload_4 (pc := 171) C dX6_possible_171 ?_
                                refine jw_mmin (pc := 173) C kml_X6_137 ⟨by omega, by omega⟩ ⟨by omega, by omega⟩ (Nat.le_of_ble_eq_true rfl) (Nat.le_of_ble_eq_true rfl) ⟨Nat.zero_le _, Nat.zero_le _⟩ dX6_possible_173 rfl ?_
                                refine jw_istore_1 (pc := 176) C dX6_possible_176 rfl ?_
                                refine jw_iinc_3 (pc := 177) C dX6_possible_177 rfl ?_
                                refine jw_goto (pc := 180) (tgt := 13) C dX6_possible_180 (by decide) ?_
                                exact jw_less (ih_13 (y + 1) (if S < L2 then S else L2) (by omega) (by split <;> omega) hA3 (fun x2 h y2 hy2 => Int.le_trans hmn (hB2 x2 h y2 hy2)) (fun y2 h => (Nat.lt_succ_iff_lt_or_eq.mp h).elim (fun q => Int.le_trans hmn (hC y2 q)) (fun q => by rw [q]; exact hmc)) (by omega)) (by repeat (first | exact trivial | refine And.intro rfl ?_))
                              · have q1 := hst r (by omega)
                                have q2 := stN_rng (P.plc r)
                                have q3 := stN_2 (p := P.plc r) (by omega)
                                refine jw_iload_4 (pc := 109) C dX6_possible_109 ?_
                                refine jw_iload_1 (pc := 111) C dX6_possible_111 ?_
                                refine jw_icmp_ge (pc := 112) (tgt := 170) C dX6_possible_112 (by decide) ⟨by omega, by omega⟩ ⟨by omega, by omega⟩ (fun c_112 => ?_) (fun c_112 => ?_)
                                · have hmc : (if S < L2 then S else L2) ≤ cutN P x y := by
                                    rw [cutN_eq, if_neg (by omega)]
                                    have := cnt_pre (p := rP P x y) (k := r) (n := P.req.toNat) (by omega)
                                    omega
                                  have hmn : (if S < L2 then S else L2) ≤ L2 := by split <;> omega
                                  have hA3 : atN P (if S < L2 then S else L2) := by
                                    rw [if_neg (by omega)]
                                    exact hA2
                                  refine jw_iload_1 (pc := 170) C dX6_possible_170 ?_
                                  refine jw_iload_4 (pc := 171) C dX6_possible_171 ?_
                                  refine jw_mmin (pc := 173) C kml_X6_137 ⟨by omega, by omega⟩ ⟨by omega, by omega⟩ (Nat.le_of_ble_eq_true rfl) (Nat.le_of_ble_eq_true rfl) ⟨Nat.zero_le _, Nat.zero_le _⟩ dX6_possible_173 rfl ?_
                                  refine jw_istore_1 (pc := 176) C dX6_possible_176 rfl ?_
                                  refine jw_iinc_3 (pc := 177) C dX6_possible_177 rfl ?_
                                  refine jw_goto (pc := 180) (tgt := 13) C dX6_possible_180 (by decide) ?_
                                  exact jw_less (ih_13 (y + 1) (if S < L2 then S else L2) (by omega) (by split <;> omega) hA3 (fun x2 h y2 hy2 => Int.le_trans hmn (hB2 x2 h y2 hy2)) (fun y2 h => (Nat.lt_succ_iff_lt_or_eq.mp h).elim (fun q => Int.le_trans hmn (hC y2 q)) (fun q => by rw [q]; exact hmc)) (by omega)) (by repeat (first | exact trivial | refine And.intro rfl ?_))
                                · refine jw_iload_4 (pc := 115) C dX6_possible_115 ?_
                                  refine jw_aload_0 (pc := 117) C dX6_possible_117 ?_
                                  refine fg_X6_25 (pc := 118) C 0 rfl rfl dX6_possible_118 ?_
                                  refine jw_iload_5 (pc := 121) C dX6_possible_121 ?_
                                  refine jw_iald (pc := 123) C 6 rfl r rfl (by omega) (by decide) dX6_possible_123 ?_
                                  refine jw_iconst (pc := 124) C dX6_possible_124 ?_
                                  refine jw_icmp_eq (pc := 125) (tgt := 160) C dX6_possible_125 (by decide) ⟨by omega, by omega⟩ ⟨by omega, by omega⟩ (fun c_125 => ?_) (fun c_125 => ?_)
                                  · have hrp : rP P x y r = false := by unfold rP; rw [decide_eq_false (fun q => q (by omega))]; rfl
                                    have e9 : qS P x 4 + aS P y P.res.toNat + cntF (rP P x y) (r + 1) = S + 0 := by
                                      rw [hS]; simp only [cntF]; rw [if_neg (by rw [hrp]; exact Bool.noConfusion)]; omega
                                    refine jw_iconst (pc := 160) C dX6_possible_160 ?_
                                    refine jw_iadd (pc := 161) C dX6_possible_161 ?_
                                    refine jw_istore_4 (pc := 162) C dX6_possible_162 rfl ?_
                                    refine jw_iinc_5 (pc := 164) C dX6_possible_164 rfl ?_
                                    refine jw_goto (pc := 167) (tgt := 100) C dX6_possible_167 (by decide) ?_
                                    have K := ih_100 (r + 1) (by omega) (by omega)
                                    rw [e9] at K
                                    exact K
                                  · have hrd : decide (¬ P.plc r = -2) = true := decide_eq_true (fun q => by omega)
                                    refine jw_iload_2 (pc := 128) C dX6_possible_128 ?_
                                    refine jw_aload_0 (pc := 129) C dX6_possible_129 ?_
                                    refine fg_X6_19 (pc := 130) C 0 rfl rfl dX6_possible_130 ?_
                                    refine jw_iload_5 (pc := 133) C dX6_possible_133 ?_
                                    refine jw_iald (pc := 135) C 4 rfl r rfl (by omega) (by decide) dX6_possible_135 ?_
                                    refine jw_ishr (pc := 136) C dX6_possible_136 ?_
                                    refine jw_iconst (pc := 137) C dX6_possible_137 ?_
                                    refine jw_iand (pc := 138) C dX6_possible_138 ?_
                                    rw [show iI (P.grp r) = iI (((P.grp r).toNat : Nat) : Int) from by rw [Int.toNat_of_nonneg z7.1], and_one (iI (x : Int)) (P.grp r).toNat (by omega), bt_nat x (P.grp r).toNat (by omega) (by omega)]
                                    refine jw_if_ne (pc := 139) (tgt := 160) C dX6_possible_139 (by decide) ⟨by omega, by omega⟩ (fun c_139 => ?_) (fun c_139 => ?_)
                                    · have hrp : rP P x y r = false := by
                                        unfold rP
                                        have : Nat.testBit x (P.grp r).toNat = true := by
                                          cases hb : Nat.testBit x (P.grp r).toNat
                                          · rw [hb] at c_139; exact absurd rfl c_139
                                          · rfl
                                        rw [this, hrd]; rfl
                                      have e9 : qS P x 4 + aS P y P.res.toNat + cntF (rP P x y) (r + 1) = S + 0 := by
                                        rw [hS]; simp only [cntF]; rw [if_neg (by rw [hrp]; exact Bool.noConfusion)]; omega
                                      refine jw_iconst (pc := 160) C dX6_possible_160 ?_
                                      refine jw_iadd (pc := 161) C dX6_possible_161 ?_
                                      refine jw_istore_4 (pc := 162) C dX6_possible_162 rfl ?_
                                      refine jw_iinc_5 (pc := 164) C dX6_possible_164 rfl ?_
                                      refine jw_goto (pc := 167) (tgt := 100) C dX6_possible_167 (by decide) ?_
                                      have K := ih_100 (r + 1) (by omega) (by omega)
                                      rw [e9] at K
                                      exact K
                                    · have hxg : Nat.testBit x (P.grp r).toNat = false := by
                                        cases hb : Nat.testBit x (P.grp r).toNat
                                        · rfl
                                        · rw [hb] at c_139; exact absurd c_139 (by decide)
                                      refine jw_aload_0 (pc := 142) C dX6_possible_142 ?_
                                      refine fg_X6_22 (pc := 143) C 0 rfl rfl dX6_possible_143 ?_
                                      refine jw_iload_5 (pc := 146) C dX6_possible_146 ?_
                                      refine jw_iald_r (pc := 148) C 5 rfl r rfl (by omega) (by decide) dX6_possible_148 ?_
                                      refine jw_iload_3 (pc := 149) C dX6_possible_149 ?_
                                      refine jw_iconst (pc := 150) C dX6_possible_150 ?_
                                      refine jw_ixor (pc := 151) C dX6_possible_151 ?_
                                      refine jw_iand (pc := 152) C dX6_possible_152 ?_
                                      refine jw_if_eq_r (pc := 153) (tgt := 160) C dX6_possible_153 (by decide) (fun c_153 => ?_) (fun c_153 => ?_)
                                      · have hrp : rP P x y r = false := by
                                          unfold rP
                                          rw [(mask_in hI (hm r (by omega)) (y := y) (by omega)).mp c_153, hxg, hrd]; rfl
                                        have e9 : qS P x 4 + aS P y P.res.toNat + cntF (rP P x y) (r + 1) = S + 0 := by
                                          rw [hS]; simp only [cntF]; rw [if_neg (by rw [hrp]; exact Bool.noConfusion)]; omega
                                        refine jw_iconst (pc := 160) C dX6_possible_160 ?_
                                        refine jw_iadd (pc := 161) C dX6_possible_161 ?_
                                        refine jw_istore_4 (pc := 162) C dX6_possible_162 rfl ?_
                                        refine jw_iinc_5 (pc := 164) C dX6_possible_164 rfl ?_
                                        refine jw_goto (pc := 167) (tgt := 100) C dX6_possible_167 (by decide) ?_
                                        have K := ih_100 (r + 1) (by omega) (by omega)
                                        rw [e9] at K
                                        exact K
                                      · have hrp : rP P x y r = true := by
                                          unfold rP
                                          rw [hxg, hrd]
                                          cases hb : exB (fun a => bt (P.acc r) a && !Nat.testBit y a) P.res.toNat
                                          · exact absurd ((mask_in hI (hm r (by omega)) (y := y) (by omega)).mpr hb) c_153
                                          · rfl
                                        have e9 : qS P x 4 + aS P y P.res.toNat + cntF (rP P x y) (r + 1) = S + 1 := by
                                          rw [hS]; simp only [cntF]; rw [if_pos hrp]; omega
                                        refine jw_iconst (pc := 156) C dX6_possible_156 ?_
                                        refine jw_goto (pc := 157) (tgt := 161) C dX6_possible_157 (by decide) ?_
                                        refine jw_iadd (pc := 161) C dX6_possible_161 ?_
                                        refine jw_istore_4 (pc := 162) C dX6_possible_162 rfl ?_
                                        refine jw_iinc_5 (pc := 164) C dX6_possible_164 rfl ?_
                                        refine jw_goto (pc := 167) (tgt := 100) C dX6_possible_167 (by decide) ?_
                                        have K := ih_100 (r + 1) (by omega) (by omega)
                                        rw [e9] at K
                                        exact K
                          have K := K100 41 0 (by omega) (by omega)
                          rw [show qS P x 4 + aS P y P.res.toNat + cntF (rP P x y) 0 = qS P x 4 + aS P y P.res.toNat from Int.add_zero _] at K
                          exact K
                        · have e9 : qS P x 4 + aS P y (a + 1) = qS P x 4 + aS P y a + (if Nat.testBit y a = true then 1 else 0) * P.cap a := by
                            show qS P x 4 + (aS P y a + (if Nat.testBit y a = true then P.cap a else 0)) = _
                            split <;> omega
                          refine jw_iload_4 (pc := 72) C dX6_possible_72 ?_
                          refine jw_iload_3 (pc := 74) C dX6_possible_74 ?_
                          refine jw_iload_5 (pc := 75) C dX6_possible_75 ?_
                          refine jw_ishr (pc := 77) C dX6_possible_77 ?_
                          refine jw_iconst (pc := 78) C dX6_possible_78 ?_
                          refine jw_iand (pc := 79) C dX6_possible_79 ?_
                          refine jw_aload_0 (pc := 80) C dX6_possible_80 ?_
                          refine fg_X6_9 (pc := 81) C 0 rfl rfl dX6_possible_81 ?_
                          refine jw_iload_5 (pc := 84) C dX6_possible_84 ?_
                          refine jw_iald (pc := 86) C 1 rfl a rfl (by omega) (by decide) dX6_possible_86 ?_
                          rw [and_one (iI (y : Int)) a (by omega), bt_nat y a (by omega) (by omega)]
                          refine jw_imul (pc := 87) C dX6_possible_87 ?_
                          refine jw_iadd (pc := 88) C dX6_possible_88 ?_
                          refine jw_istore_4 (pc := 89) C dX6_possible_89 rfl ?_
                          refine jw_iinc_5 (pc := 91) C dX6_possible_91 rfl ?_
                          refine jw_goto (pc := 94) (tgt := 63) C dX6_possible_94 (by decide) ?_
                          have K := ih_63 (a + 1) (by omega) (by omega)
                          rw [e9] at K
                          exact K
                    have K := K63 13 0 (by omega) (by omega)
                    rw [show qS P x 4 + aS P y 0 = qS P x 4 from Int.add_zero _] at K
                    exact K
                  · have e9 : qS P x (g + 1) = qS P x g + (if Nat.testBit x g = true then 1 else 0) * P.quo g := by
                      show qS P x g + (if Nat.testBit x g = true then P.quo g else 0) = _
                      split <;> omega
                    refine jw_iload_4 (pc := 35) C dX6_possible_35 ?_
                    refine jw_iload_2 (pc := 37) C dX6_possible_37 ?_
                    refine jw_iload_5 (pc := 38) C dX6_possible_38 ?_
                    refine jw_ishr (pc := 40) C dX6_possible_40 ?_
                    refine jw_iconst (pc := 41) C dX6_possible_41 ?_
                    refine jw_iand (pc := 42) C dX6_possible_42 ?_
                    refine jw_aload_0 (pc := 43) C dX6_possible_43 ?_
                    refine fg_X6_13 (pc := 44) C 0 rfl rfl dX6_possible_44 ?_
                    refine jw_iload_5 (pc := 47) C dX6_possible_47 ?_
                    refine jw_iald (pc := 49) C 2 rfl g rfl (by omega) (by decide) dX6_possible_49 ?_
                    rw [and_one (iI (x : Int)) g (by omega), bt_nat x g (by omega) (by omega)]
                    refine jw_imul (pc := 50) C dX6_possible_50 ?_
                    refine jw_iadd (pc := 51) C dX6_possible_51 ?_
                    refine jw_istore_4 (pc := 52) C dX6_possible_52 rfl ?_
                    refine jw_iinc_5 (pc := 54) C dX6_possible_54 rfl ?_
                    refine jw_goto (pc := 57) (tgt := 29) C dX6_possible_57 (by decide) ?_
                    have K := ih_29 (g + 1) (by omega) (by omega)
                    rw [e9] at K
                    exact K
              exact K29 5 0 (by omega) (by omega)
        exact jw_less (K13 (N + 1) 0 L (by omega) hL hA hB (fun y2 h => absurd h (Nat.not_lt_zero _)) (by omega)) (by repeat (first | exact trivial | refine And.intro rfl ?_))
  exact K5 17 0 40 (by omega) ⟨by omega, by omega⟩ (Or.inl rfl) (fun x2 h => absurd h (Nat.not_lt_zero _)) (by omega)
