section XSH
variable {tb : aT} {mid d : Nat} {mi : xm_M} {pc : Nat} {lv : List (Nat × Value)} {st : List Value} {h : xh_H} {Q : Option Value → xh_H → Prop}
/-- a call that answers a long, by its contract -/
theorem xp_long {C : aC} {r : xr_R} {mj : xm_M} {As q : List Value} {σ : aN → Int} {lo hi : Int} (hC : a_spec tb C) (hq : a_rq tb h) (hi0 : a_inv tb h) (hr : xC mid pc = some r) (hid : C.1 = r.2.2.1) (he : xa_c r st = some (mj, As, q)) (hd : C.2.1 ≤ d) (ha : a_st σ h.1.length C.2.2.1 As) (hp : a_fp C.2.2.2.2.2 h) (hret : C.2.2.2.1 = [(some (1, lo, hi, none, [], []), [])])
    (k : ∀ (x : Int64) (h' : xh_H), a_inv tb h' → h'.1 = h.1 → a_fr C.2.2.2.2.1 h h' → a_rq tb h' → xt_P (d + 1) mid mi (pc + 3) lv (.long x :: q) h' Q) : xt_P (d + 1) mid mi pc lv st h Q := by
  refine xp_by hC hq hi0 hr hid he hd ha hp (fun v h' p hq' => ?_)
  obtain ⟨p1, p2, ⟨t, ht, p3⟩, p4⟩ := p
  rw [hret] at ht
  cases List.mem_singleton.mp ht
  obtain ⟨⟨w, rfl, x, rfl, -⟩, -⟩ := p3
  exact k x h' p1 p2 p4 hq'
theorem lr (x : Int64) : -9223372036854775808 ≤ x.toInt ∧ x.toInt ≤ 9223372036854775807 := by
  have h1 := x.le_toInt
  have h2 := x.toInt_lt
  omega
theorem a_al {σ : aN → Int} {n : Nat} {x : Int64} : a_v σ n (1, -9223372036854775808, 9223372036854775807, none, [], []) (.long x) := ⟨x, rfl, (lr x).1, (lr x).2⟩
/-- how many are in a set -/
def pcr (s : Nat) : Nat → Nat
  | 0 => 0
  | j + 1 => pcr s j + (s.testBit j).toNat
theorem bc_pc : ((List.range 4096).all fun k => decide (bc (nI k) = nI (pcr k 12))) = true := by decide +kernel
theorem pcr_le (s : Nat) : ∀ j, pcr s j ≤ j := by
  intro j
  induction j with
  | zero => exact Nat.le_refl _
  | succ j ih =>
    show pcr s j + (s.testBit j).toNat ≤ j + 1
    have : (s.testBit j).toNat ≤ 1 := by cases s.testBit j <;> decide
    omega
theorem pcr_lt {s k : Nat} (hk : s.testBit k = false) : ∀ j, k < j → pcr s j + 1 ≤ j := by
  intro j
  induction j with
  | zero => intro h; omega
  | succ j ih =>
    intro h
    show pcr s j + (s.testBit j).toNat + 1 ≤ j + 1
    have h1 : (s.testBit j).toNat ≤ 1 := by cases s.testBit j <;> decide
    by_cases e : k = j
    · subst e
      rw [hk]
      have := pcr_le s k
      show pcr s k + 0 + 1 ≤ k + 1
      omega
    · have := ih (by omega)
      omega
theorem pcr_hi {s m : Nat} (hs : s < 2 ^ m) : ∀ j, pcr s (m + j) = pcr s m := by
  intro j
  induction j with
  | zero => rfl
  | succ j ih =>
    show pcr s (m + j) + (s.testBit (m + j)).toNat = _
    rw [ih, Nat.testBit_lt_two_pow (Nat.lt_of_lt_of_le hs (Nat.pow_le_pow_right (by decide) (by omega)))]
    rfl
set_option maxRecDepth 100000 in
set_option maxHeartbeats 4000000 in
theorem or_loop {d k m : Nat} {h0 : xh_H} (hn : 72 ≤ h0.1.length) (hm : m ≤ 12) (hkm : k < m) (hmm : xg 0 h0.2.1 14 7 = nI m) (hf : xg 0 h0.2.1 14 8 = nI (2 ^ m - 1)) : ∀ (n s : Nat) (f : Int64) (h : xh_H), s + n = 2 ^ m → hk [] h0 h → xt_P (d + 2) xi_X2_ordersOf xmi_X2_ordersOf 5 [(0, .ref 14), (1, .int (nI k)), (2, .long f), (4, .int (nI s))] [] h (fun v h' => hk [] h0 h' ∧ ∃ x : Int64, v = some (.long x)) := by
  have p12m : 2 ^ m ≤ 4096 := Nat.pow_le_pow_right (n := 2) (by decide) hm
  have pm0 : 0 < 2 ^ m := Nat.pow_pos (by decide)
  have fi := nI_toInt (n := 2 ^ m - 1) (by omega)
  have ki := nI_toInt (n := k) (by omega)
  intro n
  induction n with
  | zero =>
    intro s f h hs hk0
    have si := nI_toInt (n := s) (by omega)
    refine xa_tn 61 [] [] [.long f] h [true] 7 (hk_q hk0 hn) rfl ⟨xgt_t (show (xg 0 h.2.1 14 8).toInt < (nI s).toInt by rw [hk_g (c := 14) (k := 8) hk0 rfl rfl, hf, fi, si]; omega), trivial⟩ (fun _ => ?_)
    exact xp_ret rfl rfl rfl ⟨hk0, f, rfl⟩
  | succ n ih =>
    intro s f h hs hk0
    have si := nI_toInt (n := s) (by omega)
    have e1 : nI s + Int32.ofInt 1 = nI (s + 1) := nI_1 s
    refine xa_tn 18 [0, 1, 2, 4] [(0, .ref 14), (1, .int (nI k)), (2, .long f), (4, .int (nI s))] [.int (nI k), .int (nI s), .ref 14] h [false] 9 (hk_q hk0 hn) rfl ⟨xgt_f (show (nI s).toInt ≤ (xg 0 h.2.1 14 8).toInt by rw [hk_g (c := 14) (k := 8) hk0 rfl rfl, hf, fi, si]; omega), trivial⟩ (fun hq => ?_)
    cases ts : s.testBit k with
    | true =>
      have t0 : xt_P (d + 1) xi_X2_turnsBy xmi_X2_turnsBy 0 [(0, .ref 14), (1, .int (nI s)), (2, .int (nI k))] [] h (fun v h' => h = h' ∧ v = some (.int 0)) := by
        have bb := nI_b0 (a := s) (k := k) (by omega) (by omega)
        rw [ts] at bb
        refine xa_tn 39 [] [] [.int (Int32.ofInt 0)] h [true] 9 hq rfl ⟨(show xe_c .ne (((nI s) >>> ((nI k) &&& 31)) &&& (Int32.ofInt 1)) 0 = true by rw [bb]; rfl), trivial⟩ (fun _ => ?_)
        exact xp_ret rfl rfl rfl ⟨rfl, rfl⟩
      refine xp_run hq rfl rfl t0 ?_
      rintro v h1 ⟨rfl, rfl⟩
      refine xa_tn 5 [0, 1, 2, 4] [(0, .ref 14), (1, .int (nI k)), (2, .long f), (4, .int ((nI s) + Int32.ofInt 1))] [] h [true] 5 hq rfl ⟨rfl, trivial⟩ (fun _ => ?_)
      rw [e1]
      exact ih (s + 1) f h (by omega) hk0
    | false =>
      refine xp_int (C := aC_m_X2_turnsBy) (lo := 0) (hi := 1) (σ := fun _ => 0) as_m_X2_turnsBy hq hk0.1 rfl rfl rfl (by show 1 ≤ d + 1; omega) ⟨a_av (by decide) hq.1, a_ai (by omega) (by omega), a_ai (by omega) (by omega), trivial⟩ a_fp0 rfl (fun x h1 x1 x2 i1 l1 f1 q1 => ?_)
      have hk1 : hk [] h0 h1 := hk_c hk0 i1 l1 f1 (fun _ z => z)
      cases c1 : xe_c .eq x 0 with
      | true =>
        refine xa_tn 5 [0, 1, 2, 4] [(0, .ref 14), (1, .int (nI k)), (2, .long f), (4, .int ((nI s) + Int32.ofInt 1))] [] h1 [true] 5 q1 rfl ⟨c1, trivial⟩ (fun _ => ?_)
        rw [e1]
        exact ih (s + 1) f h1 (by omega) hk1
      | false =>
        refine xa_tn 26 [0, 1, 2, 4] [(0, .ref 14), (1, .int (nI k)), (2, .long f), (4, .int (nI s))] [.int (nI s)] h1 [false] 4 q1 rfl ⟨c1, trivial⟩ (fun _ => ?_)
        refine xp_run (Q1 := fun v h' => h1 = h' ∧ v = some (.int (bc (nI s)))) q1 rfl rfl ⟨_, _, bc_run (d + 1) (nI s) h1, rfl, rfl⟩ ?_
        rintro v h2 ⟨rfl, rfl⟩
        have eb : bc (nI s) = nI (pcr s 12) := of_decide_eq_true (List.all_eq_true.mp bc_pc s (List.mem_range.mpr (by omega)))
        have es : pcr s 12 = pcr s m := by
          have := pcr_hi (s := s) (m := m) (by omega) (12 - m)
          rw [show m + (12 - m) = 12 by omega] at this
          exact this
        have lt := pcr_lt ts m hkm
        rw [eb, es]
        generalize pcr s m = b at lt
        have m7 : xg 0 h1.2.1 14 7 = nI m := (hk_g (c := 14) (k := 7) hk1 rfl rfl).trans hmm
        have e5 : (xg 0 h1.2.1 14 7 - Int32.ofInt 1) - nI b = nI (m - 1 - b) := by
          obtain ⟨j, ej⟩ : ∃ j, m = (j + b) + 1 := ⟨m - 1 - b, by omega⟩
          have e6 : m - 1 - b = j := by omega
          rw [m7, e6, ej, nI_sub1, ← nI_add, Int32.add_sub_cancel]
        refine xa_tn 5 [0, 1, 2, 4] [(0, .ref 14), (1, .int (nI k)), (2, .long (f + ((xo_f (nI b).toNatClampNeg) * (xo_f (((xg 0 h1.2.1 14 7) - (Int32.ofInt 1)) - (nI b)).toNatClampNeg)))), (4, .int ((nI s) + Int32.ofInt 1))] [] h1 [] 20 q1 rfl ⟨xin_n (by omega) (by omega), (show xe_in (((xg 0 h1.2.1 14 7) - (Int32.ofInt 1)) - (nI b)) 13 = true by rw [e5]; exact xin_n (by omega) (by omega)), trivial⟩ (fun _ => ?_)
        rw [e1]
        exact ih (s + 1) _ h1 (by omega) hk1
set_option maxRecDepth 100000 in
set_option maxHeartbeats 4000000 in
/-- Powers.upperShare of a member -/
theorem us_run {d k m : Nat} {w : Int32} {h : xh_H} (hi : a_inv a_tb h) (hn : 72 ≤ h.1.length) (hm : m ≤ 12) (hkm : k < m) (hmm : xg 0 h.2.1 14 7 = nI m) : xt_P (d + 3) xi_X2_upperShare xmi_X2_upperShare 0 [(0, .ref 14), (1, .int (nI k)), (2, .int w)] [] h (fun v h' => hk [] h h' ∧ ∃ x : Int64, v = some (.long x)) := by
  have hq := a_rq_of hi.1 hn
  have ki := nI_toInt (n := k) (by omega)
  have p12m : 2 ^ m ≤ 4096 := Nat.pow_le_pow_right (n := 2) (by decide) hm
  have pm0 : 0 < 2 ^ m := Nat.pow_pos (by decide)
  have hf : xg 0 h.2.1 14 8 = nI (2 ^ m - 1) := by
    apply Int32.toInt_inj.mp
    rw [hi.2.1, hmm, nI_toInt (by omega), nI_toInt (by omega)]
    show ((2 ^ m : Nat) : Int) - 1 = ((2 ^ m - 1 : Nat) : Int)
    omega
  cases c1 : xe_c .ne w 0 with
  | false =>
    refine xa_tn 11 [] [] [.long ((xg 0 h.2.1 17 (nI k).toNatClampNeg).toInt64)] h [false] 9 hq rfl ⟨c1, xin_n (by omega) (by omega), trivial⟩ (fun _ => ?_)
    exact xp_ret rfl rfl rfl ⟨hk_0 hi, _, rfl⟩
  | true =>
    cases c2 : xe_c .ne w (Int32.ofInt 1) with
    | false =>
      refine xa_tn 19 [] [] [.int (nI k), .ref 14] h [true, false] 9 hq rfl ⟨c1, c2, trivial⟩ (fun _ => ?_)
      have oo : xt_P (d + 2) xi_X2_ordersOf xmi_X2_ordersOf 0 [(0, .ref 14), (1, .int (nI k))] [] h (fun v h' => hk [] h h' ∧ ∃ x : Int64, v = some (.long x)) := by
        refine xa_tn 5 [0, 1, 2, 4] [(0, .ref 14), (1, .int (nI k)), (2, .long 0), (4, .int (Int32.ofInt 0))] [] h [] 6 hq rfl trivial (fun _ => ?_)
        exact or_loop hn hm hkm hmm hf (2 ^ m) 0 0 h (by omega) (hk_0 hi)
      refine xp_run hq rfl rfl oo ?_
      rintro v h1 ⟨k1, x, rfl⟩
      refine xa_tn 30 [] [] [.long x] h1 [] 3 (hk_q k1 hn) rfl trivial (fun _ => ?_)
      exact xp_ret rfl rfl rfl ⟨k1, x, rfl⟩
    | true =>
      refine xa_tn 27 [] [] [.int (nI k), .ref 14] h [true, true] 9 hq rfl ⟨c1, c2, trivial⟩ (fun _ => ?_)
      refine xp_long (C := aC_m_X2_partsOf) (σ := fun _ => 0) as_m_X2_partsOf hq hi rfl rfl rfl (by show 1 ≤ d + 2; omega) ⟨a_av (by decide) hq.1, a_ai (by omega) (by omega), trivial⟩ a_fp0 rfl (fun x h1 i1 l1 f1 q1 => ?_)
      exact xp_ret rfl rfl rfl ⟨hk_c (hk_0 hi) i1 l1 f1 (fun _ z => z), x, rfl⟩
set_option maxRecDepth 100000 in
set_option maxHeartbeats 4000000 in
/-- X9.powersToday -/
theorem pt_run {d : Nat} {h : xh_H} (hi : a_inv a_tb h) (hn : 72 ≤ h.1.length) : xt_P (d + 5) xi_X9_powersToday xmi_X9_powersToday 0 [(0, .ref 0)] [] h (fun v h' => hk st_md h h' ∧ v = some (.ref 14) ∧ xg 0 h'.2.1 14 7 = xg 0 h.2.1 0 9) := by
  have hq := a_rq_of hi.1 hn
  refine xa_tn 9 [0] [(0, .ref 0)] [.int (xg 0 h.2.1 0 10), .ref 0, .ref 14] h [] 7 hq rfl trivial (fun _ => ?_)
  have dr := ar_rng (xg 0 h.2.1 0 10)
  refine xp_ref (C := aC_m_X9_inForce) (t := 11) (σ := fun _ => 0) as_m_X9_inForce hq hi rfl rfl rfl (Nat.zero_le _) ⟨a_av (by decide) hq.1, a_ai dr.1 dr.2, trivial⟩ a_fp0 rfl (fun lw h1 lw1 i1 l1 f1 q1 => ?_)
  have hk1 : hk st_md h h1 := hk_c (hk_0 hi) i1 l1 f1 (fun _ z => nomatch z)
  have sb := a_flx (c := 0) (k := 9) (lo := 1) (hi := 12) i1.1 q1.1 rfl rfl (by decide)
  have e9 : xg 0 h1.2.1 0 9 = xg 0 h.2.1 0 9 := fr_nil f1 rfl
  refine xa_tn 16 [0] [(0, .ref 0)] [.int (xg 0 h1.2.1 0 9), .ref lw, .ref 14] h1 [] 4 q1 rfl trivial (fun _ => ?_)
  obtain ⟨m, em, m12, m31⟩ := a_nk (x := xg 0 h1.2.1 0 9) (m := 12) (by omega) sb.2
  have mi := nI_toInt (n := m) m31
  rw [em] at sb
  rw [em]
  refine xp_run q1 rfl rfl (sy_run (d := d) (m := m) i1 q1.1 (by rw [l1]; exact lw1) (by omega) m12) ?_
  rintro v h2 ⟨rfl, k2, e7⟩
  have hk2 : hk st_md h h2 := hk_t hk1 k2 (fun _ z => z)
  refine xa_tn 23 [] [] [.ref 14] h2 [] 4 (hk_q hk2 hn) rfl trivial (fun _ => ?_)
  exact xp_ret rfl rfl rfl ⟨hk2, rfl, by rw [e7, ← em, e9]⟩
theorem lg_ne {g : Int64} (c : xe_c .gt (lg_cmp g 0) 0 = true) : g ≠ 0 := by
  intro e
  rw [e] at c
  revert c
  decide
set_option maxRecDepth 100000 in
set_option maxHeartbeats 4000000 in
/-- X9.share, where it answers -/
theorem s9_run {d k w z : Nat} {h : xh_H} (hi : a_inv a_tb h) (hn : 72 ≤ h.1.length) (hk' : (k : Int) < (xg 0 h.2.1 0 9).toInt) (hw : w ≤ 2) (hz : z ≤ 1) : xt_P (d + 6) xi_X9_share xmi_X9_share 0 [(0, .ref 0), (1, .int (nI k)), (2, .int (nI w)), (3, .int (nI z))] [] h (fun v h' => hk st_md h h' ∧ ∃ x : Int64, v = some (.long x)) := by
  have hq := a_rq_of hi.1 hn
  have sb := a_flx (c := 0) (k := 9) (lo := 1) (hi := 12) hi.1 hn rfl rfl (by decide)
  obtain ⟨m, em, m12, m31⟩ := a_nk (x := xg 0 h.2.1 0 9) (m := 12) (by omega) sb.2
  have mi := nI_toInt (n := m) m31
  rw [em, mi] at hk'
  have ki := nI_toInt (n := k) (by omega)
  have wi := nI_toInt (n := w) (by omega)
  have zi := nI_toInt (n := z) (by omega)
  have z0 : (0 : Int32).toInt = 0 := rfl
  have im : xt_P (d + 5) xi_X9_isMember xmi_X9_isMember 0 [(0, .ref 0), (1, .int (nI k))] [] h (fun v h' => h = h' ∧ v = some (.int 1)) := by
    refine xa_tn 17 [] [] [.int (Int32.ofInt 1)] h [false, false] 10 hq rfl ⟨xlt_f (by omega), xge_f (show (nI k).toInt < (xg 0 h.2.1 0 9).toInt by rw [em, mi]; omega), trivial⟩ (fun _ => ?_)
    exact xp_ret rfl rfl rfl ⟨rfl, rfl⟩
  refine xa_tn 2 [0, 1, 2, 3] [(0, .ref 0), (1, .int (nI k)), (2, .int (nI w)), (3, .int (nI z))] [.int (nI k), .ref 0] h [] 4 hq rfl trivial (fun _ => ?_)
  refine xp_run hq rfl rfl im ?_
  rintro v h1 ⟨rfl, rfl⟩
  refine xa_tn 35 [0, 1, 2, 3] [(0, .ref 0), (1, .int (nI k)), (2, .int (nI w)), (3, .int (nI z))] [.ref 0] h [false, false, false, false, true] 14 hq rfl ⟨by decide, xlt_f (by omega), xgt_f (show (nI w).toInt ≤ (2 : Int) by omega), xlt_f (by omega), xle_t (show (nI z).toInt ≤ (1 : Int) by omega), trivial⟩ (fun _ => ?_)
  refine xp_run hq rfl rfl (pt_run (d := d) hi hn) ?_
  rintro v h1 ⟨hk1, rfl, e7⟩
  have q1 := hk_q hk1 hn
  refine xa_tn 44 [2, 3, 4] [(2, .int (nI w)), (3, .int (nI z)), (4, .ref 14)] [.int (nI w), .int (nI k), .ref 14] h1 [] 6 q1 rfl trivial (fun _ => ?_)
  refine xp_run q1 rfl rfl (us_run (d := d + 2) (k := k) (m := m) (w := nI w) hk1.1 q1.1 m12 (by omega) (e7.trans em)) ?_
  rintro v h2 ⟨k2, u, rfl⟩
  have hk2 : hk st_md h h2 := hk_t hk1 k2 (fun _ z => nomatch z)
  have q2 := hk_q hk2 hn
  refine xa_tn 52 [3, 5] [(3, .int (nI z)), (5, .long u)] [.int (nI w), .ref 14] h2 [] 5 q2 rfl trivial (fun _ => ?_)
  refine xp_long (C := aC_m_X2_lowerShare) (σ := fun _ => 0) as_m_X2_lowerShare q2 hk2.1 rfl rfl rfl (Nat.zero_le _) ⟨a_av (by decide) q2.1, a_ai (by omega) (by omega), trivial⟩ a_fp0 rfl (fun l h3 i3 l3 f3 q3 => ?_)
  have hk3 : hk st_md h h3 := hk_c hk2 i3 l3 f3 (fun _ z => nomatch z)
  refine xa_tn 61 [3, 5, 7] [(3, .int (nI z)), (5, .long u), (7, .long l)] [.long l, .long u] h3 [] 5 q3 rfl trivial (fun _ => ?_)
  refine xp_long (C := aC_gcd) (σ := fun _ => 0) as_gcd q3 i3 rfl rfl rfl (Nat.zero_le _) ⟨a_al, a_al, trivial⟩ a_fp0 rfl (fun g h4 i4 l4 f4 q4 => ?_)
  have hk4 : hk st_md h h4 := hk_c hk3 i4 l4 f4 (fun _ z => nomatch z)
  refine xa_tn 70 [3, 5, 7, 9] [(3, .int (nI z)), (5, .long u), (7, .long l), (9, .long g)] [.int (lg_cmp u 0)] h4 [] 6 q4 rfl trivial (fun _ => ?_)
  have small : xt_P (d + 6) xi_X9_share xmi_X9_share 80 [(3, .int (nI z))] [] h4 (fun v h' => hk st_md h h' ∧ ∃ x : Int64, v = some (.long x)) := by
    cases c3 : xe_c .ne (nI z) 0 with
    | false =>
      refine xa_tn 89 [] [] [.long 0] h4 [false] 6 q4 rfl ⟨c3, trivial⟩ (fun _ => ?_)
      exact xp_ret rfl rfl rfl ⟨hk4, _, rfl⟩
    | true =>
      refine xa_tn 89 [] [] [.long 1] h4 [true] 5 q4 rfl ⟨c3, trivial⟩ (fun _ => ?_)
      exact xp_ret rfl rfl rfl ⟨hk4, _, rfl⟩
  cases c1 : xe_c .eq (lg_cmp u 0) 0 with
  | true =>
    refine xa_tn 80 [3] [(3, .int (nI z))] [] h4 [true] 3 q4 rfl ⟨c1, trivial⟩ (fun _ => ?_)
    exact small
  | false =>
    cases c2 : xe_c .gt (lg_cmp g 0) 0 with
    | false =>
      refine xa_tn 80 [3] [(3, .int (nI z))] [] h4 [false, false] 7 q4 rfl ⟨c1, c2, trivial⟩ (fun _ => ?_)
      exact small
    | true =>
      refine xa_tn 90 [3, 5, 7, 9] [(3, .int (nI z)), (5, .long u), (7, .long l), (9, .long g)] [] h4 [false, true] 7 q4 rfl ⟨c1, c2, trivial⟩ (fun _ => ?_)
      have gn := lg_ne c2
      cases c3 : xe_c .ne (nI z) 0 with
      | false =>
        refine xa_tn 107 [] [] [.long (u / g)] h4 [false] 8 q4 rfl ⟨c3, gn, trivial⟩ (fun _ => ?_)
        exact xp_ret rfl rfl rfl ⟨hk4, _, rfl⟩
      | true =>
        refine xa_tn 107 [] [] [.long (l / g)] h4 [true] 7 q4 rfl ⟨c3, gn, trivial⟩ (fun _ => ?_)
        exact xp_ret rfl rfl rfl ⟨hk4, _, rfl⟩
end XSH
