section
section XBC
/-- an element of a boolean array is 0 or 1 -/
theorem a_bl {tb : aT} {h : xh_H} {c n k : Nat} (hi0 : a_inw tb h) (hn : 72 ≤ h.1.length) (hs : a_sh[c]? = some (3, n)) (hc : c < 72) (he : a_ent tb (3, n) c 0 = (0, 0, 1)) (hk : k < n) : 0 ≤ (xg 0 h.2.1 c k).toInt ∧ (xg 0 h.2.1 c k).toInt ≤ 1 := by
  have h1 := (a_rq_of hi0 hn).2.1 c _ hs
  have g := (hi0 c _ h1).2 k hk
  rw [a_tg_lt hc, a_ent0 (fun z => by cases z), he] at g
  exact g
/-- by which sets a statute is carried: the reference's carriesBy -/
def cb_v (h : xh_H) (k : Int) (s : Nat) : Int32 := if k = -1 then (if (s : Int) = (2 ^ (xg 0 h.2.1 39 4).toInt.toNat : Nat) - 1 then 1 else 0) else xg 0 h.2.1 44 (4096 * k.toNat + s)
set_option maxRecDepth 100000 in
set_option maxHeartbeats 4000000 in
theorem cb_run {d : Nat} {h : xh_H} {k : Int32} {s : Nat} (hq : a_rq a_tb h) (hi : a_inw a_tb h) (hk1 : -1 ≤ k.toInt) (hk2 : k.toInt ≤ 7) (hs : s < 4096) : xR none d xi_X10_carriesBy xmi_X10_carriesBy (0, [(0, .ref 39), (1, .int k), (2, .int (nI s))], [], h, 0, 0) (some (.int (cb_v h k.toInt s)), h, 0, 0) := by
  have em := a_fl (k := 4) (lo := 1) (hi := 12) hi hq.1 (show a_sh[39]? = some (0, 10) by decide) (by decide) (by decide +kernel) (by decide)
  have es := nI_toInt (n := s) (by omega)
  cases hk : xe_c .ne k (Int32.ofInt (-1)) with
  | false =>
    have e : k = Int32.ofInt (-1) := by
      have hk : (!decide (k = Int32.ofInt (-1))) = false := hk
      rw [Bool.not_eq_false'] at hk
      exact of_decide_eq_true hk
    have ek : k.toInt = -1 := by rw [e]; rfl
    obtain ⟨emn, -⟩ := a_nIx (y := xg 0 h.2.1 39 4) (by omega)
    have hp : ((2 ^ (xg 0 h.2.1 39 4).toInt.toNat : Nat) : Int) ≤ 4096 := a_pw (i := (xg 0 h.2.1 39 4).toInt.toNat) (j := 12) (by omega)
    have hsh := ar_shl (x := Int32.ofInt 1) (k := (xg 0 h.2.1 39 4).toInt.toNat) (by omega) (by decide) (by show (1 : Int) * _ ≤ _; omega)
    rw [← emn] at hsh
    have hsh : (Int32.ofInt 1 <<< (xg 0 h.2.1 39 4 &&& 31)).toInt = 1 * ((2 ^ (xg 0 h.2.1 39 4).toInt.toNat : Nat) : Int) := hsh
    have p0 := a_pp (xg 0 h.2.1 39 4).toInt.toNat
    have hsb : (Int32.ofInt 1 <<< (xg 0 h.2.1 39 4 &&& 31) - Int32.ofInt 1).toInt = ((2 ^ (xg 0 h.2.1 39 4).toInt.toNat : Nat) : Int) - 1 := by
      have : (Int32.ofInt 1 <<< (xg 0 h.2.1 39 4 &&& 31) - Int32.ofInt 1).toInt = (Int32.ofInt 1 <<< (xg 0 h.2.1 39 4 &&& 31)).toInt - (Int32.ofInt 1).toInt := ar_sub (by rw [hsh]; show -2147483648 ≤ _ - (1 : Int); omega) (by rw [hsh]; show _ - (1 : Int) ≤ _; omega)
      rw [this, hsh]
      show 1 * _ - (1 : Int) = _
      omega
    cases hc : xe_c .ne (nI s) (Int32.ofInt 1 <<< (xg 0 h.2.1 39 4 &&& 31) - Int32.ofInt 1) with
    | false =>
      have hc : (!decide (nI s = Int32.ofInt 1 <<< (xg 0 h.2.1 39 4 &&& 31) - Int32.ofInt 1)) = false := hc
      rw [Bool.not_eq_false'] at hc
      have e2 := of_decide_eq_true hc
      have ev : cb_v h k.toInt s = 1 := by
        unfold cb_v
        rw [if_pos ek, if_pos (by rw [← hsb, ← e2]; exact es.symm)]
      rw [ev]
      refine xa_to 37 [(0, .ref 39), (1, .int k), (2, .int (nI s))] [.int 1] h [false, false] 30 hq rfl ⟨hk, by show (!decide (nI s = _)) = false; rw [hc]; rfl, trivial⟩ (fun _ => ?_)
      exact xR_ret rfl rfl rfl
    | true =>
      have hc2 : (!decide (nI s = Int32.ofInt 1 <<< (xg 0 h.2.1 39 4 &&& 31) - Int32.ofInt 1)) = true := hc
      have ev : cb_v h k.toInt s = 0 := by
        unfold cb_v
        rw [if_pos ek, if_neg]
        intro z
        rw [← hsb, ← es] at z
        have := Int32.toInt_inj.mp z
        rw [this] at hc2
        simp at hc2
      rw [ev]
      refine xa_to 37 [(0, .ref 39), (1, .int k), (2, .int (nI s))] [.int 0] h [false, true] 30 hq rfl ⟨hk, hc, trivial⟩ (fun _ => ?_)
      exact xR_ret rfl rfl rfl
  | true =>
    have hne : k.toInt ≠ -1 := fun z => by
      have : k = Int32.ofInt (-1) := Int32.toInt_inj.mp z
      rw [this] at hk
      revert hk
      decide
    obtain ⟨ek, -⟩ := a_nIx (y := k) (by omega)
    have m1 : ((4096 : Int32) * k).toInt = 4096 * k.toInt := ar_mul (x := (4096 : Int32)) (by show -2147483648 ≤ (4096 : Int) * _; omega) (by show (4096 : Int) * _ ≤ _; omega)
    have m2 : ((4096 : Int32) * k + nI s).toInt = 4096 * k.toInt + s := by
      rw [ar_add (by rw [m1]; omega) (by rw [m1]; omega), m1, es]
    have ein : xe_in ((4096 : Int32) * k + nI s) 32768 = true := a_xin (by omega) (by omega)
    obtain ⟨e5, e6⟩ := a_nIx (y := (4096 : Int32) * k + nI s) (by omega)
    have ecl : ((4096 : Int32) * k + nI s).toNatClampNeg = 4096 * k.toInt.toNat + s := by
      rw [e5, nI_clamp e6]
      omega
    have ev : cb_v h k.toInt s = xg 0 h.2.1 44 (4096 * k.toInt.toNat + s) := by
      unfold cb_v
      rw [if_neg hne]
    have hb := a_bl (k := 4096 * k.toInt.toNat + s) hi hq.1 (show a_sh[44]? = some (3, 32768) by decide) (by decide) (by decide +kernel) (by omega)
    rw [ev]
    refine xa_to 37 [(0, .ref 39), (1, .int k), (2, .int (nI s))] [.int (xg 0 h.2.1 44 ((4096 : Int32) * k + nI s).toNatClampNeg)] h [true] 30 hq rfl ⟨hk, ein, trivial⟩ (fun _ => ?_)
    rw [ecl]
    refine xR_ret rfl rfl ?_
    show (cond (decide (xg 0 h.2.1 44 (4096 * k.toInt.toNat + s) = 0) || decide (xg 0 h.2.1 44 (4096 * k.toInt.toNat + s) = 1)) (some (some (Value.int (xg 0 h.2.1 44 (4096 * k.toInt.toNat + s))))) none) = _
    rw [a_i01 hb.1 hb.2]
    rfl
set_option maxRecDepth 100000 in
set_option maxHeartbeats 8000000 in
/-- which statute is in force: one that was told, or none -/
theorem if_loop {d : Nat} {h : xh_H} {x t : Int32} (hq : a_rq a_tb h) (hi : a_inw a_tb h) : ∀ (n k : Nat) (b : Int32), (k : Int) + n = (xg 0 h.2.1 39 33).toInt → -1 ≤ b.toInt → b.toInt < k → ∃ w : Int32, -1 ≤ w.toInt ∧ w.toInt < (xg 0 h.2.1 39 33).toInt ∧ ∀ R, (R = [(4, .int (nI k)), (3, .int b), (0, .ref 39), (1, .int x), (2, .int t)] ∨ R = [(3, .int b), (4, .int (nI k)), (0, .ref 39), (1, .int x), (2, .int t)]) → xR none d xi_X10_inForce xmi_X10_inForce (5, R, [], h, 0, 0) (some (.int w), h, 0, 0) := by
  have ec := a_fl (k := 33) (lo := 0) (hi := 8) hi hq.1 (show a_sh[39]? = some (0, 10) by decide) (by decide) (by decide +kernel) (by decide)
  intro n
  induction n with
  | zero =>
    intro k b hk hb1 hb2
    refine ⟨b, hb1, by omega, ?_⟩
    have hge : xe_c .ge (nI k) (xg 0 h.2.1 39 33) = true := decide_eq_true (by
      show xg 0 h.2.1 39 33 ≤ nI k
      rw [Int32.le_iff_toInt_le, nI_toInt (by omega)]
      omega)
    intro R hR
    rcases hR with rfl | rfl
    · refine xa_to 67 [(4, .int (nI k)), (3, .int b), (0, .ref 39), (1, .int x), (2, .int t)] [.int b] h [true] 20 hq rfl ⟨hge, trivial⟩ (fun _ => ?_)
      exact xR_ret rfl rfl rfl
    · refine xa_to 67 [(3, .int b), (4, .int (nI k)), (0, .ref 39), (1, .int x), (2, .int t)] [.int b] h [true] 20 hq rfl ⟨hge, trivial⟩ (fun _ => ?_)
      exact xR_ret rfl rfl rfl
  | succ n ih =>
    intro k b hk hb1 hb2
    have hge : xe_c .ge (nI k) (xg 0 h.2.1 39 33) = false := decide_eq_false (by
      show ¬ xg 0 h.2.1 39 33 ≤ nI k
      rw [Int32.le_iff_toInt_le, nI_toInt (by omega)]
      omega)
    have ein : xe_in (nI k) 8 = true := a_xin (by rw [nI_toInt (by omega)]; omega) (by rw [nI_toInt (by omega)]; omega)
    have ek := nI_toInt (n := k) (by omega)
    obtain ⟨w, w1, w2, g⟩ := ih (k + 1) b (by omega) hb1 (by omega)
    obtain ⟨w', w1', w2', g'⟩ := ih (k + 1) (nI k) (by omega) (by omega) (by omega)
    rw [← nI_1] at g g'
    cases c1 : xe_c .gt (xg 0 h.2.1 52 (nI k).toNatClampNeg) t with
    | true =>
      refine ⟨w, w1, w2, ?_⟩
      intro R hR
      rcases hR with rfl | rfl
      all_goals
        refine xa_to 5 [(4, .int (nI k + Int32.ofInt 1)), (3, .int b), (0, .ref 39), (1, .int x), (2, .int t)] [] h [false, true] 40 hq rfl ⟨hge, ein, c1, trivial⟩ (fun _ => ?_)
        exact g _ (Or.inl rfl)
    | false =>
      cases c2 : xe_c .gt (xg 0 h.2.1 51 (nI k).toNatClampNeg) x with
      | true =>
        refine ⟨w, w1, w2, ?_⟩
        intro R hR
        rcases hR with rfl | rfl
        all_goals
          refine xa_to 5 [(4, .int (nI k + Int32.ofInt 1)), (3, .int b), (0, .ref 39), (1, .int x), (2, .int t)] [] h [false, false, true] 40 hq rfl ⟨hge, ein, c1, ein, c2, trivial⟩ (fun _ => ?_)
          exact g _ (Or.inl rfl)
      | false =>
        cases c3 : xe_c .eq b (Int32.ofInt (-1)) with
        | true =>
          refine ⟨w', w1', w2', ?_⟩
          intro R hR
          rcases hR with rfl | rfl
          all_goals
            refine xa_to 5 [(4, .int (nI k + Int32.ofInt 1)), (3, .int (nI k)), (0, .ref 39), (1, .int x), (2, .int t)] [] h [false, false, false, true] 40 hq rfl ⟨hge, ein, c1, ein, c2, c3, trivial⟩ (fun _ => ?_)
            exact g' _ (Or.inl rfl)
        | false =>
          have hbn : b.toInt ≠ -1 := fun z => by
            have : b = Int32.ofInt (-1) := Int32.toInt_inj.mp z
            rw [this] at c3
            revert c3
            decide
          have einb : xe_in b 8 = true := a_xin (by omega) (by omega)
          cases c4 : xe_c .lt (xg 0 h.2.1 51 (nI k).toNatClampNeg) (xg 0 h.2.1 51 b.toNatClampNeg) with
          | true =>
            refine ⟨w, w1, w2, ?_⟩
            intro R hR
            rcases hR with rfl | rfl
            all_goals
              refine xa_to 5 [(4, .int (nI k + Int32.ofInt 1)), (3, .int b), (0, .ref 39), (1, .int x), (2, .int t)] [] h [false, false, false, false, true] 60 hq rfl ⟨hge, ein, c1, ein, c2, c3, ein, einb, c4, trivial⟩ (fun _ => ?_)
              exact g _ (Or.inl rfl)
          | false =>
            refine ⟨w', w1', w2', ?_⟩
            intro R hR
            rcases hR with rfl | rfl
            all_goals
              refine xa_to 5 [(4, .int (nI k + Int32.ofInt 1)), (3, .int (nI k)), (0, .ref 39), (1, .int x), (2, .int t)] [] h [false, false, false, false, false] 60 hq rfl ⟨hge, ein, c1, ein, c2, c3, ein, einb, c4, trivial⟩ (fun _ => ?_)
              exact g' _ (Or.inl rfl)
set_option maxRecDepth 100000 in
theorem if_run {d : Nat} {h : xh_H} {x t : Int32} (hq : a_rq a_tb h) (hi : a_inw a_tb h) : ∃ w : Int32, -1 ≤ w.toInt ∧ w.toInt < (xg 0 h.2.1 39 33).toInt ∧ xR none d xi_X10_inForce xmi_X10_inForce (0, [(0, .ref 39), (1, .int x), (2, .int t)], [], h, 0, 0) (some (.int w), h, 0, 0) := by
  have ec := a_fl (k := 33) (lo := 0) (hi := 8) hi hq.1 (show a_sh[39]? = some (0, 10) by decide) (by decide) (by decide +kernel) (by decide)
  obtain ⟨w, w1, w2, g⟩ := if_loop (d := d) (x := x) (t := t) hq hi (xg 0 h.2.1 39 33).toInt.toNat 0 (Int32.ofInt (-1)) (by omega) (by decide) (by decide)
  refine ⟨w, w1, w2, ?_⟩
  refine xa_to 5 [(4, .int (nI 0)), (3, .int (Int32.ofInt (-1))), (0, .ref 39), (1, .int x), (2, .int t)] [] h [] 10 hq rfl trivial (fun _ => ?_)
  exact g _ (Or.inl rfl)
end XBC
end
section
section XBY
theorem vn_01 {x : Int32} (h1 : 0 ≤ x.toInt) (h2 : x.toInt ≤ 1) : vp_nar .boolean x = x := by
  have h := a_i01 h1 h2
  rw [Bool.or_eq_true, decide_eq_true_eq, decide_eq_true_eq] at h
  rcases h with rfl | rfl <;> rfl
theorem cb_01 {h : xh_H} {k : Int} {s : Nat} (hi : a_inw a_tb h) (hn : 72 ≤ h.1.length) (hk1 : -1 ≤ k) (hk2 : k ≤ 7) (hs : s < 4096) : 0 ≤ (cb_v h k s).toInt ∧ (cb_v h k s).toInt ≤ 1 := by
  unfold cb_v
  split
  · split <;> decide
  · exact a_bl hi hn (show a_sh[44]? = some (3, 32768) by decide) (by decide) (by decide +kernel) (by omega)
theorem cb_ui {h : xh_H} {k : Int} {s j : Nat} {x : Int32} : cb_v (xh_ui h 53 j x) k s = cb_v h k s := by
  unfold cb_v
  rw [show xg 0 (xh_ui h 53 j x).2.1 39 4 = xg 0 h.2.1 39 4 from congrFun (xh_up_o (by decide)) 4, show xg 0 (xh_ui h 53 j x).2.1 44 (4096 * k.toNat + s) = xg 0 h.2.1 44 (4096 * k.toNat + s) from congrFun (xh_up_o (by decide)) _]
set_option maxRecDepth 100000 in
set_option maxHeartbeats 8000000 in
theorem ly_loop {d a : Nat} {k : Int32} (hk1 : -1 ≤ k.toInt) (hk2 : k.toInt ≤ 7) (ha : a ≤ 4096) : ∀ (n s : Nat) (h : xh_H), s + n = a → a_rq a_tb h → a_inw a_tb h → xg 0 h.2.1 39 35 = nI a → ∃ h', xR none (d + 1) xi_X10_lay xmi_X10_lay (24, [(2, .int (nI s)), (1, .int k), (0, .ref 39)], [], h, 0, 0) (none, h', 0, 0) ∧ a_inw a_tb h' ∧ h'.1 = h.1 ∧ (∀ c j, c ≠ 53 → xg 0 h'.2.1 c j = xg 0 h.2.1 c j) ∧ (∀ j, j < s → xg 0 h'.2.1 53 j = xg 0 h.2.1 53 j) ∧ ∀ j, s ≤ j → j < a → xg 0 h'.2.1 53 j = cb_v h k.toInt j := by
  intro n
  induction n with
  | zero =>
    intro s h hs hq hi hall
    refine ⟨h, ?_, hi, rfl, fun _ _ _ => rfl, fun _ _ => rfl, fun j h1 h2 => by omega⟩
    refine xa_to 50 [(2, .int (nI s)), (1, .int k), (0, .ref 39)] [] h [true] 20 hq rfl ⟨?_, trivial⟩ (fun _ => ?_)
    · rw [hall]
      refine decide_eq_true ?_
      show nI a ≤ nI s
      rw [Int32.le_iff_toInt_le, nI_toInt (by omega), nI_toInt (by omega)]
      omega
    · exact xR_ret rfl rfl rfl
  | succ n ih =>
    intro s h hs hq hi hall
    have es := nI_toInt (n := s) (by omega)
    have ecl : (nI s).toNatClampNeg = s := nI_clamp (by omega)
    have c01 := cb_01 (k := k.toInt) (s := s) hi hq.1 hk1 hk2 (by omega)
    have hs53 : h.1[53]? = some (3, 4096) := hq.2.1 53 _ (by decide)
    have hi2 : a_inw a_tb (xh_ui h 53 s (cb_v h k.toInt s)) := a_inw_ui (s := (3, 4096)) (lo := 0) (hi := 1) hi hs53 (by rw [a_tg_lt (by decide), a_ent0 (fun z => by cases z)]; decide +kernel) c01.1 c01.2
    obtain ⟨h', g1, g2, g3, g4, g5, g6⟩ := ih (s + 1) (xh_ui h 53 s (cb_v h k.toInt s)) (by omega) (a_rq_ui hq) hi2 (by rw [show xg 0 (xh_ui h 53 s (cb_v h k.toInt s)).2.1 39 35 = xg 0 h.2.1 39 35 from congrFun (xh_up_o (by decide)) 35]; exact hall)
    rw [← nI_1] at g1
    refine ⟨h', ?_, g2, g3, ?_, ?_, ?_⟩
    · refine xa_to 40 [(2, .int (nI s)), (1, .int k), (0, .ref 39)] [.int (nI s), .int k, .ref 39, .int (nI s), .ref 53] h [false] 20 hq rfl ⟨?_, trivial⟩ (fun _ => ?_)
      · rw [hall]
        refine decide_eq_false ?_
        show ¬ nI a ≤ nI s
        rw [Int32.le_iff_toInt_le, nI_toInt (by omega), nI_toInt (by omega)]
        omega
      refine xa_run hq rfl rfl (cb_run (d := d) (k := k) (s := s) hq hi hk1 hk2 (by omega)) ?_
      refine xa_to 24 [(2, .int (nI s + Int32.ofInt 1)), (1, .int k), (0, .ref 39)] [] (xh_ui h 53 (nI s).toNatClampNeg (vp_nar .boolean (cb_v h k.toInt s))) [] 20 hq rfl ⟨a_xin (by omega) (by omega), trivial⟩ (fun _ => ?_)
      rw [ecl, vn_01 c01.1 c01.2]
      exact g1
    · intro c j hc
      rw [g4 c j hc]
      exact congrFun (xh_up_o hc) j
    · intro j hj
      rw [g5 j (by omega)]
      exact xh_up_k (by omega)
    · intro j h1 h2
      by_cases e : j = s
      · subst e
        rw [g5 j (by omega)]
        exact xh_up_s
      · rw [g6 j (by omega) h2, cb_ui]
theorem and_full {s t m : Nat} (hs : s = 2 ^ m - 1) (ht : t < 2 ^ m) (h : s &&& t = s) : t = s := by
  have h1 : s &&& t ≤ t := Nat.and_le_right
  omega
set_option maxRecDepth 100000 in
set_option maxHeartbeats 8000000 in
theorem as_h_X10_lay : a_spec a_tb aC_h_X10_lay := by
  intro d mi vs h σ hd hM hi hn ha _
  cases hM
  match vs, ha with
  | [v0], ha =>
    obtain ⟨⟨q, rfl, hq⟩, -⟩ := ha
    have eq : q = 39 := a_r_ob (t := 39) (by decide) hq
    subst eq
    have hd : 1 ≤ d := hd
    obtain ⟨d, rfl⟩ : ∃ d', d = d' + 1 := ⟨d - 1, by omega⟩
    have hrq := a_rq_of hi.1 hn
    have em := a_fl (k := 4) (lo := 1) (hi := 12) hi.1 hn (show a_sh[39]? = some (0, 10) by decide) (by decide) (by decide +kernel) (by decide)
    have ec := a_fl (k := 33) (lo := 0) (hi := 8) hi.1 hn (show a_sh[39]? = some (0, 10) by decide) (by decide) (by decide +kernel) (by decide)
    obtain ⟨emn, -⟩ := a_nIx (y := xg 0 h.2.1 39 4) (by omega)
    have hp : ((2 ^ (xg 0 h.2.1 39 4).toInt.toNat : Nat) : Int) ≤ 4096 := a_pw (i := (xg 0 h.2.1 39 4).toInt.toNat) (j := 12) (by omega)
    have hp2 : ((2 ^ 1 : Nat) : Int) ≤ ((2 ^ (xg 0 h.2.1 39 4).toInt.toNat : Nat) : Int) := a_pw (by omega)
    have hsh := ar_shl (x := Int32.ofInt 1) (k := (xg 0 h.2.1 39 4).toInt.toNat) (by omega) (by decide) (by show (1 : Int) * _ ≤ _; omega)
    rw [← emn] at hsh
    have hsh : (Int32.ofInt 1 <<< (xg 0 h.2.1 39 4 &&& 31)).toInt = 1 * ((2 ^ (xg 0 h.2.1 39 4).toInt.toNat : Nat) : Int) := hsh
    generalize hM2 : 2 ^ (xg 0 h.2.1 39 4).toInt.toNat = a at *
    have hp2 : (2 : Int) ≤ (a : Int) := hp2
    obtain ⟨ea, -⟩ := a_nIx (y := Int32.ofInt 1 <<< (xg 0 h.2.1 39 4 &&& 31)) (by omega)
    have eaa : (Int32.ofInt 1 <<< (xg 0 h.2.1 39 4 &&& 31)).toInt.toNat = a := by omega
    rw [eaa] at ea
    obtain ⟨k, k1, k2, kr⟩ := if_run (d := d) (x := xg 0 h.2.1 39 3) (t := 999) hrq hi.1
    have hs39 : h.1[39]? = some (0, 10) := hrq.2.1 39 _ (by decide)
    have eaI := nI_toInt (n := a) (by omega)
    have hi1 : a_inw a_tb (xh_ui h 39 35 (nI a)) := a_inw_ui (s := (0, 10)) (lo := 0) (hi := 4096) hi.1 hs39 (by rw [a_tg_lt (by decide)]; decide +kernel) (by omega) (by omega)
    have s35 : xg 0 (xh_ui h 39 35 (nI a)).2.1 39 35 = nI a := xh_up_s
    have o39 : ∀ j, j ≠ 35 → xg 0 (xh_ui h 39 35 (nI a)).2.1 39 j = xg 0 h.2.1 39 j := fun j hj => xh_up_k hj
    have oc : ∀ c j, c ≠ 39 → xg 0 (xh_ui h 39 35 (nI a)).2.1 c j = xg 0 h.2.1 c j := fun c j hc => congrFun (xh_up_o hc) j
    obtain ⟨h', g1, g2, g3, g4, g5, g6⟩ := ly_loop (d := d) (a := a) (k := k) k1 (by omega) (by omega) a 0 (xh_ui h 39 35 (nI a)) (by omega) (a_rq_ui hrq) hi1 s35
    have f1 : ∀ c j, c ≠ 53 → ¬ (c = 39 ∧ j = 35) → xg 0 h'.2.1 c j = xg 0 h.2.1 c j := by
      intro c j hc hcj
      rw [g4 c j hc]
      by_cases e : c = 39
      · subst e
        exact o39 j (fun z => hcj ⟨rfl, z⟩)
      · exact oc c j e
    have f35 : xg 0 h'.2.1 39 35 = nI a := by rw [g4 39 35 (by decide)]; exact s35
    have fcb : ∀ j, cb_v (xh_ui h 39 35 (nI a)) k.toInt j = cb_v h k.toInt j := by
      intro j
      unfold cb_v
      rw [o39 4 (by decide), oc 44 _ (by decide)]
    have hJ : a_J a_tb h' := by
      obtain ⟨j1, j2, j3, j4⟩ := hi.2
      refine ⟨?_, ?_, ?_, ?_⟩
      · rw [f1 14 8 (by decide) (by omega), f1 14 7 (by decide) (by omega)]
        exact j1
      · intro n hn2 s t hs ht hst
        rw [f1 39 33 (by decide) (by omega)] at hn2
        have g := j2 n hn2 s t hs ht hst
        dsimp only at g ⊢
        rw [f1 44 _ (by decide) (by omega), f1 44 _ (by decide) (by omega)]
        exact g
      · intro s t hs ht hst
        rw [f35, eaI] at hs ht
        have hs : s < a := by omega
        have ht : t < a := by omega
        dsimp only
        rw [g6 s (Nat.zero_le s) hs, g6 t (Nat.zero_le t) ht, fcb, fcb]
        unfold cb_v
        by_cases ek : k.toInt = -1
        · rw [if_pos ek, if_pos ek, hM2]
          by_cases e1 : (s : Int) = (a : Int) - 1
          · have e2 : t = s := and_full (m := (xg 0 h.2.1 39 4).toInt.toNat) (by rw [hM2]; omega) (by rw [hM2]; exact ht) hst
            rw [e2]
            exact Int.le_refl _
          · rw [if_neg e1]
            split <;> decide
        · rw [if_neg ek, if_neg ek]
          exact j2 k.toInt.toNat (by omega) s t (by omega) (by omega) hst
      · intro tl x y z hx hy hz hxy hyz
        rw [f1 14 7 (by decide) (by omega)] at hx hy hz
        unfold a_ge at hxy hyz ⊢
        rw [f1 19 _ (by decide) (by omega)] at hxy hyz ⊢
        exact j4 tl x y z hx hy hz hxy hyz
    refine ⟨none, h', ?_, ⟨g2, hJ⟩, g3, ⟨_, List.mem_singleton.mpr rfl, rfl, ?_⟩, ?_⟩
    · refine xa_to 8 [(0, .ref 39)] [.int 999, .int (xg 0 h.2.1 39 3), .ref 39] h [] 20 hrq rfl trivial (fun _ => ?_)
      refine xa_run hrq rfl rfl kr ?_
      refine xa_to 24 [(2, .int 0), (1, .int k), (0, .ref 39)] [] (xh_ui h 39 35 (Int32.ofInt 1 <<< (xg 0 h.2.1 39 4 &&& 31))) [] 20 hrq rfl trivial (fun _ => ?_)
      rw [ea]
      exact g1
    · intro q hq
      rw [List.mem_singleton.mp hq]
      refine ⟨by decide, ?_⟩
      show (2 : Int) ≤ (xg 0 h'.2.1 39 35).toInt ∧ (xg 0 h'.2.1 39 35).toInt ≤ 4096
      rw [f35, eaI]
      omega
    · intro c j hc hm
      refine f1 c j (fun z => hm ?_) (fun z => hm ?_)
      · rw [z]
        exact List.mem_cons_of_mem _ List.mem_cons_self
      · rw [z.1, z.2]
        exact List.mem_cons_self
end XBY
end
section
section XTS
/-- the rank of trySum: of what is given to the first n sorts -/
def ts_m (h : xh_H) : Nat → Nat
  | 0 => 0
  | n + 1 => ts_m h n + ((xg 0 h.2.1 57 n).toInt.toNat + 1) * 102 ^ (11 - n)
theorem ts_m_eq {h h' : xh_H} : ∀ n : Nat, (∀ j, j < n → xg 0 h'.2.1 57 j = xg 0 h.2.1 57 j) → ts_m h' n = ts_m h n := by
  intro n
  induction n with
  | zero => intro _; rfl
  | succ n ih =>
    intro e
    show ts_m h' n + _ = ts_m h n + _
    rw [ih (fun j hj => e j (by omega)), e n (by omega)]
theorem ts_m_lt {h h' : xh_H} {n : Nat} (e : ∀ j, j < n → xg 0 h'.2.1 57 j = xg 0 h.2.1 57 j) (hl : (xg 0 h'.2.1 57 n).toInt.toNat + 1 ≤ (xg 0 h.2.1 57 n).toInt.toNat) : ts_m h' (n + 1) + 102 ^ (11 - n) ≤ ts_m h (n + 1) := by
  show ts_m h' n + _ + _ ≤ ts_m h n + _
  rw [ts_m_eq n e]
  have := Nat.mul_le_mul_right (102 ^ (11 - n)) hl
  rw [Nat.add_mul, Nat.one_mul] at this
  rw [Nat.add_mul, Nat.add_mul, Nat.one_mul]
  omega
abbrev ts_md : List (Nat × Nat) := [(39, 49), (39, 50), (57, 0)]
set_option maxRecDepth 100000 in
set_option maxHeartbeats 4000000 in
/-- the inner loop: a smaller weight that may be -/
theorem ts_in {d k : Nat} {h0 : xh_H} {left : Int32} {Q : Option Value → xh_H → Prop} (hn : 72 ≤ h0.1.length) (hk11 : k ≤ 11) {g : Nat → Int32} {t : Int} (K : ∀ (v : Int32) h', hk ts_md h0 h' → (∀ j, xg 0 h'.2.1 57 j = g j) → -1 ≤ v.toInt → v.toInt ≤ t → xt_P (d + 1) xi_X10_trySum xmi_X10_trySum 87 [(0, .ref 39), (2, .int (nI k)), (3, .int left), (4, .int v)] [] h' Q) : ∀ (n : Nat) (v : Int32) (h : xh_H), v.toInt + 1 = (n : Int) → v.toInt ≤ 99 → v.toInt ≤ t → hk ts_md h0 h → (∀ j, xg 0 h.2.1 57 j = g j) → xt_P (d + 1) xi_X10_trySum xmi_X10_trySum 53 [(0, .ref 39), (2, .int (nI k)), (3, .int left), (4, .int v)] [] h Q := by
  intro n
  induction n with
  | zero =>
    intro v h hv h99 ht hk0 hg
    have z0 : (0 : Int32).toInt = 0 := rfl
    refine xa_tn 87 [0, 2, 3, 4] [(0, .ref 39), (2, .int (nI k)), (3, .int left), (4, .int v)] [] h [true] 4 (hk_q hk0 hn) rfl ⟨xlt_t (by omega), trivial⟩ (fun _ => ?_)
    exact K v h hk0 hg (by omega) ht
  | succ n ih =>
    intro v h hv h99 ht hk0 hg
    have z0 : (0 : Int32).toInt = 0 := rfl
    have hin := xin_n (k := k) (n := 12) (by omega) (by omega)
    have e1 : (v + Int32.ofInt (-1)).toInt = v.toInt - 1 := by
      have e : (Int32.ofInt (-1)).toInt = -1 := rfl
      rw [i_add (by rw [e]; omega) (by rw [e]; omega), e]
      omega
    cases hc : xe_c .gt ((xg 0 h.2.1 55 (nI k).toNatClampNeg) * v) left with
    | true =>
      refine xa_tn 53 [0, 2, 3, 4] [(0, .ref 39), (2, .int (nI k)), (3, .int left), (4, .int (v + Int32.ofInt (-1)))] [] h [false, true] 14 (hk_q hk0 hn) rfl ⟨xlt_f (by omega), hin, hc, trivial⟩ (fun _ => ?_)
      exact ih _ h (by omega) (by omega) (by omega) hk0 hg
    | false =>
      refine xa_tn 75 [0, 2, 3, 4] [(0, .ref 39), (2, .int (nI k)), (3, .int left), (4, .int v)] [.int v, .int (nI k), .ref 39] h [false, false] 15 (hk_q hk0 hn) rfl ⟨xlt_f (by omega), hin, hc, trivial⟩ (fun hq => ?_)
      have ek := nI_toInt (n := k) (by omega)
      refine xp_int (C := aC_m_X10_mayBe) (lo := 0) (hi := 1) (σ := fun _ => 0) as_m_X10_mayBe hq hk0.1 rfl rfl rfl (Nat.zero_le _) ⟨a_av (by decide) hq.1, a_ai (by omega) (by omega), a_ai (by omega) (by omega), trivial⟩ a_fp0 rfl (fun x h1 x1 x2 i1 l1 f1 q1 => ?_)
      have hk1 : hk ts_md h0 h1 := hk_c hk0 i1 l1 f1 (fun _ z => nomatch z)
      have g1 : ∀ j, xg 0 h1.2.1 57 j = g j := fun j => by rw [← hg]; exact fr_nil f1 rfl
      cases hx : xe_c .ne x 0 with
      | true =>
        refine xa_tn 87 [0, 2, 3, 4] [(0, .ref 39), (2, .int (nI k)), (3, .int left), (4, .int v)] [] h1 [true] 3 q1 rfl ⟨hx, trivial⟩ (fun _ => ?_)
        exact K v h1 hk1 g1 (by omega) ht
      | false =>
        refine xa_tn 53 [0, 2, 3, 4] [(0, .ref 39), (2, .int (nI k)), (3, .int left), (4, .int (v + Int32.ofInt (-1)))] [] h1 [false] 5 q1 rfl ⟨hx, trivial⟩ (fun _ => ?_)
        exact ih _ h1 (by omega) (by omega) (by omega) hk1 g1
/-- what trySum leaves -/
def ts_Q (h0 : xh_H) (v : Option Value) (h' : xh_H) : Prop := hk ts_md h0 h' ∧ ∃ x : Int32, v = some (.int x) ∧ -2 ≤ x.toInt ∧ x.toInt ≤ 1
set_option maxRecDepth 100000 in
set_option maxHeartbeats 8000000 in
theorem ts_out {d : Nat} {h0 : xh_H} (hn : 72 ≤ h0.1.length) : ∀ (N n : Nat) (left : Int32) (h : xh_H), n ≤ 12 → hk ts_md h0 h → ts_m h n < N → xt_P (d + 2) xi_X10_trySum xmi_X10_trySum 12 [(0, .ref 39), (2, .int (nI n + Int32.ofInt (-1))), (3, .int left)] [] h (ts_Q h0) := by
  intro N
  induction N with
  | zero => intro n left h _ _ hN; omega
  | succ N ih =>
    intro n left h hn12 hk0 hN
    cases n with
    | zero =>
      refine xa_tn 185 [] [] [.int (Int32.ofInt 0)] h [true] 5 (hk_q hk0 hn) rfl ⟨by decide, trivial⟩ (fun _ => ?_)
      exact xp_ret rfl rfl rfl ⟨hk0, _, rfl, by decide, by decide⟩
    | succ k =>
      have ed : nI (k + 1) + Int32.ofInt (-1) = nI k := nI_dec2 k
      rw [ed]
      have ek := nI_toInt (n := k) (by omega)
      have ecl : (nI k).toNatClampNeg = k := nI_clamp (by omega)
      have hin := xin_n (k := k) (n := 12) (by omega) (by omega)
      have z0 : (0 : Int32).toInt = 0 := rfl
      have hlt : xe_c .lt (nI k) 0 = false := xlt_f (by omega)
      have gb := a_elx (c := 57) (k := k) (lo := 0) (hi := 100) hk0.1.1 (hk_n hk0 hn) rfl rfl (by omega)
      have ev : (xg 0 h.2.1 57 k - Int32.ofInt 1).toInt = (xg 0 h.2.1 57 k).toInt - 1 := by
        have e : (Int32.ofInt 1).toInt = 1 := rfl
        rw [ar_sub (by rw [e]; omega) (by rw [e]; omega), e]
      have inner : ∀ left1 : Int32, xt_P (d + 2) xi_X10_trySum xmi_X10_trySum 53 [(0, .ref 39), (2, .int (nI k)), (3, .int left1), (4, .int (xg 0 h.2.1 57 k - Int32.ofInt 1))] [] h (ts_Q h0) := by
        intro left1
        refine ts_in (g := fun j => xg 0 h.2.1 57 j) (t := (xg 0 h.2.1 57 k).toInt - 1) hn (by omega) ?_ (xg 0 h.2.1 57 k).toInt.toNat _ h (by omega) (by omega) (by omega) hk0 (fun _ => rfl)
        intro v h1 hk1 g1 v1 v2
        have q1 := hk_q hk1 hn
        by_cases hv : v.toInt < 0
        · refine xa_tn 12 [0, 2, 3] [(0, .ref 39), (2, .int ((nI k) + Int32.ofInt (-1))), (3, .int left1)] [] h1 [false] 6 q1 rfl ⟨xge_f (by omega), trivial⟩ (fun _ => ?_)
          refine ih k left1 h1 (by omega) hk1 ?_
          have e := ts_m_eq (h := h) (h' := h1) k (fun j _ => g1 j)
          have e2 : ts_m h (k + 1) = ts_m h k + ((xg 0 h.2.1 57 k).toInt.toNat + 1) * 102 ^ (11 - k) := rfl
          have p0 : 0 < 102 ^ (11 - k) := Nat.pow_pos (by decide)
          have p1 : 1 * 102 ^ (11 - k) ≤ ((xg 0 h.2.1 57 k).toInt.toNat + 1) * 102 ^ (11 - k) := Nat.mul_le_mul_right _ (by omega)
          omega
        · obtain ⟨w, rfl, w99, w31⟩ := a_nk (x := v) (m := 99) (by omega) (by omega)
          have ew := nI_toInt (n := w) w31
          refine xa_tn 118 [0, 2, 3] [(0, .ref 39), (2, .int (nI k)), (3, .int (left1 - ((xg 0 (xh_ui h1 57 (nI k).toNatClampNeg (nI w)).2.1 55 (nI k).toNatClampNeg) * (nI w))))] [] (xh_ui h1 57 (nI k).toNatClampNeg (nI w)) [true] 18 q1 rfl ⟨xge_t (by omega), hin, hin, trivial⟩ (fun _ => ?_)
          rw [ecl]
          generalize left1 - (xg 0 (xh_ui h1 57 k (nI w)).2.1 55 k) * (nI w) = left2
          have hk2 : hk ts_md h0 (xh_ui h1 57 k (nI w)) := hk_ui (s := (1, 12)) (lo := 0) (hi := 100) hk1 hn rfl rfl (by omega) (by omega) rfl rfl
          have m2 : ts_m (xh_ui h1 57 k (nI w)) (k + 1) + 102 ^ (11 - k) ≤ ts_m h (k + 1) := by
            refine ts_m_lt (fun j hj => ?_) ?_
            · rw [gx_k (by omega)]
              exact g1 j
            · rw [gx_s, ew]
              omega
          have p0 : 0 < 102 ^ (11 - k) := Nat.pow_pos (by decide)
          generalize hh2 : xh_ui h1 57 k (nI w) = h2 at hk2 m2 ⊢
          have q2 := hk_q hk2 hn
          have sb := a_flx (c := 39) (k := 46) (lo := 0) (hi := 12) hk2.1.1 (hk_n hk2 hn) rfl rfl (by decide)
          have es : (xg 0 h2.2.1 39 46 - Int32.ofInt 1).toInt = (xg 0 h2.2.1 39 46).toInt - 1 := by
            have e : (Int32.ofInt 1).toInt = 1 := rfl
            rw [ar_sub (by rw [e]; omega) (by rw [e]; omega), e]
          cases hc : xe_c .ge (nI k) ((xg 0 h2.2.1 39 46) - (Int32.ofInt 1)) with
          | false =>
            have hc2 := a_ce (a_neg_ok hc)
            have hc2 : (nI k).toInt < (xg 0 h2.2.1 39 46 - Int32.ofInt 1).toInt := hc2
            have ek1 : nI k + Int32.ofInt 1 = nI (k + 1) := nI_1 k
            have hin1 : xe_in (nI k + Int32.ofInt 1) 12 = true := by rw [ek1]; exact xin_n (by omega) (by omega)
            refine xa_tn 12 [0, 2, 3] [(0, .ref 39), (2, .int ((nI k) + Int32.ofInt 1)), (3, .int left2)] [] (xh_ui h2 57 ((nI k) + Int32.ofInt 1).toNatClampNeg 100) [false] 16 q2 rfl ⟨hc, hin1, trivial⟩ (fun _ => ?_)
            rw [ek1, nI_clamp (by omega)]
            have e5 : nI (k + 1) = nI (k + 1 + 1) + Int32.ofInt (-1) := (nI_dec2 (k + 1)).symm
            rw [e5]
            refine ih (k + 1 + 1) left2 _ (by omega) (hk_ui (s := (1, 12)) (lo := 0) (hi := 100) hk2 hn rfl rfl (by decide) (by decide) rfl rfl) ?_
            have e6 : ts_m (xh_ui h2 57 (k + 1) 100) (k + 1) = ts_m h2 (k + 1) := ts_m_eq (k + 1) (fun j hj => gx_k (by omega))
            have e7 : ts_m (xh_ui h2 57 (k + 1) 100) (k + 1 + 1) = ts_m (xh_ui h2 57 (k + 1) 100) (k + 1) + ((xg 0 (xh_ui h2 57 (k + 1) 100).2.1 57 (k + 1)).toInt.toNat + 1) * 102 ^ (11 - (k + 1)) := rfl
            rw [gx_s] at e7
            have e8 : ((100 : Int32).toInt.toNat + 1) = 101 := rfl
            rw [e8] at e7
            have e9 : 102 ^ (11 - k) = 102 * 102 ^ (11 - (k + 1)) := by
              rw [show 11 - k = (11 - (k + 1)) + 1 by omega, Nat.pow_succ, Nat.mul_comm]
            have p1 : 0 < 102 ^ (11 - (k + 1)) := Nat.pow_pos (by decide)
            omega
          | true =>
            cases hl : xe_c .le left2 0 with
            | false =>
              refine xa_tn 12 [0, 2, 3] [(0, .ref 39), (2, .int (nI k)), (3, .int left2)] [] h2 [true, false] 12 q2 rfl ⟨hc, hl, trivial⟩ (fun _ => ?_)
              rw [← ed]
              exact ih (k + 1) left2 h2 hn12 hk2 (by omega)
            | true =>
              refine xa_tn 159 [0, 2, 3] [(0, .ref 39), (2, .int (nI k)), (3, .int left2)] [] (xh_ui h2 39 49 ((xg 0 h2.2.1 39 49) + (Int32.ofInt 1))) [true, true] 16 q2 rfl ⟨hc, hl, trivial⟩ (fun _ => ?_)
              have xr := ar_rng (xg 0 h2.2.1 39 49 + Int32.ofInt 1)
              have hk3 : hk ts_md h0 (xh_ui h2 39 49 (xg 0 h2.2.1 39 49 + Int32.ofInt 1)) := hk_ui (s := (0, 10)) (lo := -2147483648) (hi := 2147483647) hk2 hn rfl rfl xr.1 xr.2 rfl rfl
              have m3 : ts_m (xh_ui h2 39 49 (xg 0 h2.2.1 39 49 + Int32.ofInt 1)) (k + 1) = ts_m h2 (k + 1) := ts_m_eq (k + 1) (fun j hj => gx_o (by decide))
              generalize xh_ui h2 39 49 (xg 0 h2.2.1 39 49 + Int32.ofInt 1) = h3 at hk3 m3 ⊢
              have q3 := hk_q hk3 hn
              cases ht : xe_c .le (xg 0 h3.2.1 39 49) 5000 with
              | false =>
                refine xa_tn 171 [] [] [.int (-2)] h3 [false] 7 q3 rfl ⟨ht, trivial⟩ (fun _ => ?_)
                exact xp_ret rfl rfl rfl ⟨hk3, _, rfl, by decide, by decide⟩
              | true =>
                refine xa_tn 173 [0, 2, 3] [(0, .ref 39), (2, .int (nI k)), (3, .int left2)] [.ref 39] h3 [true] 7 q3 rfl ⟨ht, trivial⟩ (fun _ => ?_)
                refine xp_int (C := aC_m_X10_isRight) (lo := 0) (hi := 1) (σ := fun _ => 0) as_m_X10_isRight q3 hk3.1 rfl rfl rfl (by show 1 ≤ d + 1; omega) ⟨a_av (by decide) q3.1, trivial⟩ a_fp0 rfl (fun x h4 x1 x2 i4 l4 f4 q4 => ?_)
                have hk4 : hk ts_md h0 h4 := hk_c hk3 i4 l4 f4 (by intro q hq; rw [List.mem_singleton.mp hq]; decide)
                have m4 : ts_m h4 (k + 1) = ts_m h3 (k + 1) := ts_m_eq (k + 1) (fun j hj => fr_g f4 rfl rfl)
                cases hx : xe_c .eq x 0 with
                | true =>
                  refine xa_tn 12 [0, 2, 3] [(0, .ref 39), (2, .int (nI k)), (3, .int left2)] [] h4 [true] 4 q4 rfl ⟨hx, trivial⟩ (fun _ => ?_)
                  rw [← ed]
                  exact ih (k + 1) left2 h4 hn12 hk4 (by omega)
                | false =>
                  refine xa_tn 180 [] [] [.int (Int32.ofInt 1)] h4 [false] 4 q4 rfl ⟨hx, trivial⟩ (fun _ => ?_)
                  exact xp_ret rfl rfl rfl ⟨hk4, _, rfl, by decide, by decide⟩
      cases hg : xe_c .ge (xg 0 h.2.1 57 (nI k).toNatClampNeg) 100 with
      | true =>
        refine xa_tn 53 [0, 2, 3, 4] [(0, .ref 39), (2, .int (nI k)), (3, .int left), (4, .int ((xg 0 h.2.1 57 (nI k).toNatClampNeg) - (Int32.ofInt 1)))] [] h [false, true] 17 (hk_q hk0 hn) rfl ⟨hlt, hin, hg, hin, trivial⟩ (fun _ => ?_)
        rw [ecl]
        exact inner left
      | false =>
        refine xa_tn 53 [0, 2, 3, 4] [(0, .ref 39), (2, .int (nI k)), (3, .int (left + ((xg 0 h.2.1 55 (nI k).toNatClampNeg) * (xg 0 h.2.1 57 (nI k).toNatClampNeg)))), (4, .int ((xg 0 h.2.1 57 (nI k).toNatClampNeg) - (Int32.ofInt 1)))] [] h [false, false] 29 (hk_q hk0 hn) rfl ⟨hlt, hin, hg, hin, hin, hin, trivial⟩ (fun _ => ?_)
        rw [ecl]
        exact inner _
set_option maxRecDepth 100000 in
theorem as_h_X10_trySum : a_spec a_tb aC_h_X10_trySum := by
  intro d mi vs h σ hd hM hi hn ha _
  cases hM
  match vs, ha with
  | [v0, v1], ha =>
    obtain ⟨⟨q, rfl, hq⟩, ⟨b, rfl, b1, b2, -⟩, -⟩ := ha
    have eq : q = 39 := a_r_ob (t := 39) (by decide) hq
    subst eq
    have hd : 2 ≤ d := hd
    obtain ⟨d, rfl⟩ : ∃ d', d = d' + 2 := ⟨d - 2, by omega⟩
    have e0 : nI (0 + 1) + Int32.ofInt (-1) = Int32.ofInt 0 := by decide
    have main : xt_P (d + 2) xi_X10_trySum xmi_X10_trySum 0 [(0, .ref 39), (1, .int b)] [] h (ts_Q h) := by
      refine xa_tn 12 [0, 2, 3] [(0, .ref 39), (2, .int (Int32.ofInt 0)), (3, .int b)] [] (xh_ui h 57 (Int32.ofInt 0).toNatClampNeg 100) [] 11 (a_rq_of hi.1 hn) rfl ⟨by decide, trivial⟩ (fun _ => ?_)
      rw [← e0]
      exact ts_out hn _ (0 + 1) b _ (by decide) (hk_ui (s := (1, 12)) (lo := 0) (hi := 100) (hk_0 hi) hn rfl rfl (by decide) (by decide) rfl rfl) (Nat.lt_succ_self _)
    obtain ⟨v, h', r, hk0, x, rfl, x1, x2⟩ := main
    exact ⟨some (.int x), h', r, hk0.1, hk0.2.1, ⟨_, List.mem_singleton.mpr rfl, ⟨_, rfl, a_ai x1 x2⟩, a_fp0⟩, hk0.2.2⟩
end XTS
end
section
section XBI
theorem nI_bv {a : Nat} : (nI a).toBitVec = BitVec.ofNat 32 a := rfl
theorem nI_or {a b : Nat} : nI a ||| nI b = nI (a ||| b) := by
  apply Int32.toBitVec_inj.mp
  show BitVec.ofNat 32 a ||| BitVec.ofNat 32 b = BitVec.ofNat 32 (a ||| b)
  apply BitVec.eq_of_toNat_eq
  rw [BitVec.toNat_or, BitVec.toNat_ofNat, BitVec.toNat_ofNat, BitVec.toNat_ofNat, Nat.or_mod_two_pow]
theorem nI_and {a b : Nat} : nI a &&& nI b = nI (a &&& b) := by
  apply Int32.toBitVec_inj.mp
  show BitVec.ofNat 32 a &&& BitVec.ofNat 32 b = BitVec.ofNat 32 (a &&& b)
  apply BitVec.eq_of_toNat_eq
  rw [BitVec.toNat_and, BitVec.toNat_ofNat, BitVec.toNat_ofNat, BitVec.toNat_ofNat, Nat.and_mod_two_pow]
theorem nI_mul2 (a b : Nat) : nI (a * b) = nI a * nI b := Int32.ofNat_mul a b
theorem nI_shr {a k : Nat} (ha : a < 2 ^ 31) (hk : k < 32) : nI a >>> (nI k &&& 31) = nI (a / 2 ^ k) := by
  have hl : a / 2 ^ k ≤ a := Nat.div_le_self _ _
  apply Int32.toInt_inj.mp
  rw [ar_shr hk, nI_toInt ha, nI_toInt (by omega)]
  rfl
theorem nI_b0 {a k : Nat} (ha : a < 2 ^ 31) (hk : k < 32) : (nI a >>> (nI k &&& 31)) &&& Int32.ofInt 1 = nI ((a.testBit k).toNat) := by
  rw [nI_shr ha hk, show Int32.ofInt 1 = nI 1 from rfl, nI_and, Nat.and_one_is_mod, Nat.toNat_testBit]
theorem sh1 : ∀ a, a < 31 → Int32.ofInt 1 <<< (nI a &&& 31) = nI (2 ^ a) := by decide +kernel
theorem p12 {a : Nat} (h : a ≤ 11) : 2 ^ a < 4096 := Nat.lt_of_le_of_lt (Nat.pow_le_pow_right (by decide) h) (by decide)
theorem or12 {s a : Nat} (hs : s < 4096) (h : a ≤ 11) : s ||| 2 ^ a < 4096 := Nat.or_lt_two_pow (n := 12) hs (p12 h)
theorem nI_o1 {s a : Nat} (h : a ≤ 11) : nI s ||| (Int32.ofInt 1 <<< (nI a &&& 31)) = nI (s ||| 2 ^ a) := by rw [sh1 a (by omega), nI_or]
/-- the same heap, read place by place -/
theorem hk_ext {md : List (Nat × Nat)} {h0 h h' : xh_H} (hk0 : hk md h0 h) (h1 : h'.1 = h.1) (h2 : h'.2.2 = h.2.2) (hx : ∀ c k, xg 0 h'.2.1 c k = xg 0 h.2.1 c k) : hk md h0 h' := by
  refine ⟨⟨?_, a_J_of hk0.1.2 (fun c k _ => hx c k)⟩, h1.trans hk0.2.1, fun c k hz hm => (hx c k).trans (hk0.2.2 c k hz hm)⟩
  intro c s hs
  rw [h1] at hs
  obtain ⟨g1, g2⟩ := hk0.1.1 c s hs
  refine ⟨g1, fun k hk => ?_⟩
  have g := g2 k hk
  unfold a_e at g ⊢
  rw [hx, h2, h1]
  exact g
theorem gx_2 {h : xh_H} {c k c' k' : Nat} {x y : Int32} : xg 0 (xh_ui (xh_ui h c k x) c k y).2.1 c' k' = xg 0 (xh_ui h c k y).2.1 c' k' := by
  by_cases e : c' = c ∧ k' = k
  · obtain ⟨rfl, rfl⟩ := e
    rw [gx_s, gx_s]
  · rw [gx_i e, gx_i e, gx_i e]
end XBI
end
section
section XHD
/-- of the sets below n without both: what carries with b carries with a -/
def hd_ge (h : xh_H) (n a b : Nat) : Prop := ∀ s, s < n → s.testBit a = false → s.testBit b = false → xg 0 h.2.1 53 (s ||| 2 ^ b) ≠ 0 → xg 0 h.2.1 53 (s ||| 2 ^ a) ≠ 0
def hd_v (p q : Bool) : Int32 := cond p (cond q 3 1) (cond q 2 0)
theorem hd_s0 {h : xh_H} {n a b : Nat} (hg : hd_ge h n a b) (hs : n.testBit a = true ∨ n.testBit b = true) : hd_ge h (n + 1) a b := by
  intro s h1 h2 h3 h4
  by_cases e : s = n
  · subst e
    rcases hs with z | z
    · rw [h2] at z; cases z
    · rw [h3] at z; cases z
  · exact hg s (by omega) h2 h3 h4
theorem hd_s1 {h : xh_H} {n a b : Nat} (hg : hd_ge h n a b) (hs : xg 0 h.2.1 53 (n ||| 2 ^ b) ≠ 0 → xg 0 h.2.1 53 (n ||| 2 ^ a) ≠ 0) : hd_ge h (n + 1) a b := by
  intro s h1 h2 h3 h4
  by_cases e : s = n
  · subst e
    exact hs h4
  · exact hg s (by omega) h2 h3 h4
theorem hd_m {h : xh_H} {n a b : Nat} (hg : hd_ge h (n + 1) a b) : hd_ge h n a b := fun s h1 => hg s (by omega)
set_option maxRecDepth 100000 in
set_option maxHeartbeats 8000000 in
theorem hd_loop {d a b : Nat} {h : xh_H} {n : Nat} (hq : a_rq a_tb h) (ha : a ≤ 11) (hb : b ≤ 11) (hn : n ≤ 4096) (hall : xg 0 h.2.1 39 35 = nI n) : ∀ (m s : Nat) (p q : Bool), s + m = n → (p = true ↔ hd_ge h s a b) → (q = true ↔ hd_ge h s b a) → xt_P d xi_X10_held xmi_X10_held 5 [(0, .ref 39), (1, .int (nI a)), (2, .int (nI b)), (3, .int (hd_v p q)), (4, .int (nI s))] [] h (fun v h' => h' = h ∧ ∃ p q : Bool, v = some (.int (hd_v p q)) ∧ (p = true ↔ hd_ge h n a b) ∧ (q = true ↔ hd_ge h n b a)) := by
  intro m
  induction m with
  | zero =>
    intro s p q hs hp hq2
    have e : s = n := by omega
    subst e
    refine xa_tn 98 [] [] [.int (hd_v p q)] h [true] 7 hq rfl ⟨by rw [hall]; exact nge_t (by omega) (by omega) (Nat.le_refl _), trivial⟩ (fun _ => ?_)
    exact xp_ret rfl rfl rfl ⟨rfl, p, q, rfl, hp, hq2⟩
  | succ m ih =>
    intro s p q hs hp hq2
    have hge : xe_c .ge (nI s) (xg 0 h.2.1 39 35) = false := by rw [hall]; exact nge_f (by omega) (by omega) (by omega)
    have e : nI s + Int32.ofInt 1 = nI (s + 1) := nI_1 s
    have ba := nI_b0 (a := s) (k := a) (by omega) (by omega)
    have bb := nI_b0 (a := s) (k := b) (by omega) (by omega)
    cases ta : s.testBit a with
    | true =>
      rw [ta] at ba
      refine xa_tn 5 [0, 1, 2, 3, 4] [(0, .ref 39), (1, .int (nI a)), (2, .int (nI b)), (3, .int (hd_v p q)), (4, .int ((nI s) + Int32.ofInt 1))] [] h [false, true] 15 hq rfl ⟨hge, by rw [ba]; rfl, trivial⟩ (fun _ => ?_)
      rw [e]
      exact ih (s + 1) p q (by omega) ⟨fun z => hd_s0 (hp.mp z) (Or.inl ta), fun z => hp.mpr (hd_m z)⟩ ⟨fun z => hd_s0 (hq2.mp z) (Or.inr ta), fun z => hq2.mpr (hd_m z)⟩
    | false =>
      rw [ta] at ba
      cases tb : s.testBit b with
      | true =>
        rw [tb] at bb
        refine xa_tn 5 [0, 1, 2, 3, 4] [(0, .ref 39), (1, .int (nI a)), (2, .int (nI b)), (3, .int (hd_v p q)), (4, .int ((nI s) + Int32.ofInt 1))] [] h [false, false, false] 23 hq rfl ⟨hge, by rw [ba]; rfl, by rw [bb]; rfl, trivial⟩ (fun _ => ?_)
        rw [e]
        exact ih (s + 1) p q (by omega) ⟨fun z => hd_s0 (hp.mp z) (Or.inr tb), fun z => hp.mpr (hd_m z)⟩ ⟨fun z => hd_s0 (hq2.mp z) (Or.inl tb), fun z => hq2.mpr (hd_m z)⟩
      | false =>
        rw [tb] at bb
        have oa := nI_o1 (s := s) (a := a) ha
        have ob := nI_o1 (s := s) (a := b) hb
        have la := or12 (s := s) (a := a) (by omega) ha
        have lb := or12 (s := s) (a := b) (by omega) hb
        refine xa_tn 63 [0, 1, 2, 3, 4, 5, 6] [(0, .ref 39), (1, .int (nI a)), (2, .int (nI b)), (3, .int (hd_v p q)), (4, .int (nI s)), (5, .int (xg 0 h.2.1 53 ((nI s) ||| ((Int32.ofInt 1) <<< ((nI a) &&& 31))).toNatClampNeg)), (6, .int (xg 0 h.2.1 53 ((nI s) ||| ((Int32.ofInt 1) <<< ((nI b) &&& 31))).toNatClampNeg))] [] h [false, false, true] 38 hq rfl ⟨hge, by rw [ba]; rfl, by rw [bb]; rfl, by rw [oa]; exact xin_n la (by omega), by rw [ob]; exact xin_n lb (by omega), trivial⟩ (fun _ => ?_)
        rw [oa, ob, nI_clamp (by omega), nI_clamp (by omega)]
        have key : ∀ x y : Int32, xg 0 h.2.1 53 (s ||| 2 ^ a) = x → xg 0 h.2.1 53 (s ||| 2 ^ b) = y → xt_P d xi_X10_held xmi_X10_held 63 [(0, .ref 39), (1, .int (nI a)), (2, .int (nI b)), (3, .int (hd_v p q)), (4, .int (nI s)), (5, .int x), (6, .int y)] [] h (fun v h' => h' = h ∧ ∃ p q : Bool, v = some (.int (hd_v p q)) ∧ (p = true ↔ hd_ge h n a b) ∧ (q = true ↔ hd_ge h n b a)) := by
          intro x y ex ey
          cases cy : xe_c .eq y 0 with
          | true =>
            have y0 : y = 0 := of_decide_eq_true cy
            refine xa_tn 77 [0, 1, 2, 3, 4, 5, 6] [(0, .ref 39), (1, .int (nI a)), (2, .int (nI b)), (3, .int (hd_v p q)), (4, .int (nI s)), (5, .int x), (6, .int y)] [] h [true] 4 hq rfl ⟨cy, trivial⟩ (fun _ => ?_)
            have hp1 : (p = true ↔ hd_ge h (s + 1) a b) := ⟨fun z => hd_s1 (hp.mp z) (fun w => absurd (ey.trans y0) w), fun z => hp.mpr (hd_m z)⟩
            cases cx : xe_c .eq x 0 with
            | true =>
              have x0 : x = 0 := of_decide_eq_true cx
              refine xa_tn 5 [0, 1, 2, 3, 4] [(0, .ref 39), (1, .int (nI a)), (2, .int (nI b)), (3, .int (hd_v p q)), (4, .int ((nI s) + Int32.ofInt 1))] [] h [true] 6 hq rfl ⟨cx, trivial⟩ (fun _ => ?_)
              rw [e]
              exact ih (s + 1) p q (by omega) hp1 ⟨fun z => hd_s1 (hq2.mp z) (fun w => absurd (ex.trans x0) w), fun z => hq2.mpr (hd_m z)⟩
            | false =>
              have x0 : x ≠ 0 := of_decide_eq_false cx
              have cy2 : xe_c .ne y 0 = false := by show (!decide (y = 0)) = false; rw [decide_eq_true y0]; rfl
              refine xa_tn 5 [0, 1, 2, 3, 4] [(0, .ref 39), (1, .int (nI a)), (2, .int (nI b)), (3, .int (hd_v p q &&& (Int32.ofInt 1))), (4, .int ((nI s) + Int32.ofInt 1))] [] h [false, false] 12 hq rfl ⟨cx, cy2, trivial⟩ (fun _ => ?_)
              have ev : hd_v p q &&& Int32.ofInt 1 = hd_v p false := by cases p <;> cases q <;> rfl
              rw [e, ev]
              refine ih (s + 1) p false (by omega) hp1 ⟨fun z => (by cases z), fun z => ?_⟩
              exact absurd (ey.trans y0) (z s (by omega) tb ta (by rw [ex]; exact x0))
          | false =>
            have y0 : y ≠ 0 := of_decide_eq_false cy
            have cy2 : xe_c .ne y 0 = true := by show (!decide (y = 0)) = true; rw [decide_eq_false y0]; rfl
            have hq1 : (q = true ↔ hd_ge h (s + 1) b a) := ⟨fun z => hd_s1 (hq2.mp z) (fun _ => by rw [ey]; exact y0), fun z => hq2.mpr (hd_m z)⟩
            cases cx : xe_c .eq x 0 with
            | true =>
              have x0 : x = 0 := of_decide_eq_true cx
              have cx2 : xe_c .ne x 0 = false := by show (!decide (x = 0)) = false; rw [decide_eq_true x0]; rfl
              refine xa_tn 77 [0, 1, 2, 3, 4, 5, 6] [(0, .ref 39), (1, .int (nI a)), (2, .int (nI b)), (3, .int (hd_v p q &&& (Int32.ofInt 2))), (4, .int (nI s)), (5, .int x), (6, .int y)] [] h [false, false] 10 hq rfl ⟨cy, cx2, trivial⟩ (fun _ => ?_)
              have ev : hd_v p q &&& Int32.ofInt 2 = hd_v false q := by cases p <;> cases q <;> rfl
              rw [ev]
              refine xa_tn 5 [0, 1, 2, 3, 4] [(0, .ref 39), (1, .int (nI a)), (2, .int (nI b)), (3, .int (hd_v false q)), (4, .int ((nI s) + Int32.ofInt 1))] [] h [true] 6 hq rfl ⟨cx, trivial⟩ (fun _ => ?_)
              rw [e]
              refine ih (s + 1) false q (by omega) ⟨fun z => (by cases z), fun z => ?_⟩ hq1
              exact absurd (ex.trans x0) (z s (by omega) ta tb (by rw [ey]; exact y0))
            | false =>
              have x0 : x ≠ 0 := of_decide_eq_false cx
              have cx2 : xe_c .ne x 0 = true := by show (!decide (x = 0)) = true; rw [decide_eq_false x0]; rfl
              refine xa_tn 77 [0, 1, 2, 3, 4, 5, 6] [(0, .ref 39), (1, .int (nI a)), (2, .int (nI b)), (3, .int (hd_v p q)), (4, .int (nI s)), (5, .int x), (6, .int y)] [] h [false, true] 6 hq rfl ⟨cy, cx2, trivial⟩ (fun _ => ?_)
              refine xa_tn 5 [0, 1, 2, 3, 4] [(0, .ref 39), (1, .int (nI a)), (2, .int (nI b)), (3, .int (hd_v p q)), (4, .int ((nI s) + Int32.ofInt 1))] [] h [false, true] 8 hq rfl ⟨cx, cy2, trivial⟩ (fun _ => ?_)
              rw [e]
              exact ih (s + 1) p q (by omega) ⟨fun z => hd_s1 (hp.mp z) (fun _ => by rw [ex]; exact x0), fun z => hp.mpr (hd_m z)⟩ hq1
        exact key _ _ rfl rfl
set_option maxRecDepth 100000 in
/-- the reference's held: bit 0 a is at least b, bit 1 b is at least a -/
theorem hd_run {d a b : Nat} {h : xh_H} {n : Nat} (hq : a_rq a_tb h) (ha : a ≤ 11) (hb : b ≤ 11) (hn : n ≤ 4096) (hall : xg 0 h.2.1 39 35 = nI n) : xt_P d xi_X10_held xmi_X10_held 0 [(0, .ref 39), (1, .int (nI a)), (2, .int (nI b))] [] h (fun v h' => h' = h ∧ ∃ p q : Bool, v = some (.int (hd_v p q)) ∧ (p = true ↔ hd_ge h n a b) ∧ (q = true ↔ hd_ge h n b a)) := by
  refine xa_tn 5 [0, 1, 2, 3, 4] [(0, .ref 39), (1, .int (nI a)), (2, .int (nI b)), (3, .int (Int32.ofInt 3)), (4, .int (Int32.ofInt 0))] [] h [] 6 hq rfl trivial (fun _ => ?_)
  exact hd_loop hq ha hb hn hall n 0 true true (by omega) ⟨fun _ s hs => by omega, fun _ => rfl⟩ ⟨fun _ s hs => by omega, fun _ => rfl⟩
end XHD
end
section
section XFS
abbrev fs_md : List (Nat × Nat) := [(39, 46), (54, 0), (55, 0), (56, 0), (61, 0)]
set_option maxRecDepth 100000 in
set_option maxHeartbeats 8000000 in
/-- the inner loop: a sort that is alike; sortOf[m] is -1 meanwhile -/
theorem fs_in {d m sr : Nat} {h0 hg : xh_H} {Q : Option Value → xh_H → Prop} (hn : 72 ≤ h0.1.length) (hm : m ≤ 11) (hk0 : hk fs_md h0 hg) (hsr : xg 0 hg.2.1 39 46 = nI sr) (hs12 : sr ≤ m)
    (K1 : xt_P (d + 1) xi_X10_findSorts xmi_X10_findSorts 70 [(0, .ref 39), (1, .int (nI m))] [] (xh_ui hg 54 m (Int32.ofInt (-1))) Q)
    (K2 : ∀ k h', k < sr → hk fs_md h0 h' → xg 0 h'.2.1 39 46 = nI sr → xg 0 h'.2.1 54 m = nI k → xt_P (d + 1) xi_X10_findSorts xmi_X10_findSorts 70 [(0, .ref 39), (1, .int (nI m))] [] h' Q) :
    ∀ (j k : Nat), k + j = sr → xt_P (d + 1) xi_X10_findSorts xmi_X10_findSorts 24 [(0, .ref 39), (1, .int (nI m)), (2, .int (nI k))] [] (xh_ui hg 54 m (Int32.ofInt (-1))) Q := by
  have hq0 := hk_q hk0 hn
  have hqb : a_rq a_tb (xh_ui hg 54 m (Int32.ofInt (-1))) := a_rq_ui hq0
  have b46 : xg 0 (xh_ui hg 54 m (Int32.ofInt (-1))).2.1 39 46 = nI sr := by rw [gx_o (by decide)]; exact hsr
  have b54 : xg 0 (xh_ui hg 54 m (Int32.ofInt (-1))).2.1 54 m = Int32.ofInt (-1) := gx_s
  have b56 : ∀ k, xg 0 (xh_ui hg 54 m (Int32.ofInt (-1))).2.1 56 k = xg 0 hg.2.1 56 k := fun k => gx_o (by decide)
  have b35 : xg 0 (xh_ui hg 54 m (Int32.ofInt (-1))).2.1 39 35 = xg 0 hg.2.1 39 35 := gx_o (by decide)
  have eall := a_flx (c := 39) (k := 35) (lo := 0) (hi := 4096) hk0.1.1 (hk_n hk0 hn) rfl rfl (by decide)
  obtain ⟨n, en, n4096, n31⟩ := a_nk (x := xg 0 hg.2.1 39 35) (m := 4096) eall.1 eall.2
  have ecl : (nI m).toNatClampNeg = m := nI_clamp (by omega)
  have hin := xin_n (k := m) (n := 12) (by omega) (by omega)
  intro j
  induction j with
  | zero =>
    intro k hkj
    have e : k = sr := by omega
    subst e
    refine xa_tn 70 [0, 1] [(0, .ref 39), (1, .int (nI m))] [] (xh_ui hg 54 m (Int32.ofInt (-1))) [true] 6 hqb rfl ⟨by rw [b46]; exact nge_t (by omega) (by omega) (Nat.le_refl _), trivial⟩ (fun _ => ?_)
    exact K1
  | succ j ih =>
    intro k hkj
    have ek : nI k + Int32.ofInt 1 = nI (k + 1) := nI_1 k
    have ekc : (nI k).toNatClampNeg = k := nI_clamp (by omega)
    have g56 := a_elx (c := 56) (k := k) (lo := 0) (hi := 11) hk0.1.1 (hk_n hk0 hn) rfl rfl (by omega)
    obtain ⟨f, ef, f11, f31⟩ := a_nk (x := xg 0 hg.2.1 56 k) (m := 11) g56.1 g56.2
    refine xa_tn 50 [0, 1, 2] [(0, .ref 39), (1, .int (nI m)), (2, .int (nI k))] [.int (xg 0 (xh_ui hg 54 m (Int32.ofInt (-1))).2.1 56 (nI k).toNatClampNeg), .int (nI m), .ref 39] (xh_ui hg 54 m (Int32.ofInt (-1))) [false, false] 18 hqb rfl ⟨by rw [b46]; exact nge_f (by omega) (by omega) (by omega), hin, (show xe_c .ne (xg 0 (xh_ui hg 54 m (Int32.ofInt (-1))).2.1 54 (nI m).toNatClampNeg) (Int32.ofInt (-1)) = false by rw [ecl, b54]; rfl), xin_n (by omega) (by omega), trivial⟩ (fun _ => ?_)
    rw [ekc, b56, ef]
    refine xp_run hqb rfl rfl (hd_run (d := d) (a := m) (b := f) (n := n) hqb hm f11 n4096 (by rw [b35]; exact en)) ?_
    rintro v h1 ⟨rfl, p, q, rfl, -, -⟩
    cases hx : xe_c .ne (hd_v p q) (Int32.ofInt 3) with
    | true =>
      refine xa_tn 24 [0, 1, 2] [(0, .ref 39), (1, .int (nI m)), (2, .int ((nI k) + Int32.ofInt 1))] [] (xh_ui hg 54 m (Int32.ofInt (-1))) [true] 6 hqb rfl ⟨hx, trivial⟩ (fun _ => ?_)
      rw [ek]
      exact ih (k + 1) (by omega)
    | false =>
      refine xa_tn 24 [0, 1, 2] [(0, .ref 39), (1, .int (nI m)), (2, .int ((nI k) + Int32.ofInt 1))] [] (xh_ui (xh_ui hg 54 m (Int32.ofInt (-1))) 54 (nI m).toNatClampNeg (nI k)) [false] 11 hqb rfl ⟨hx, hin, trivial⟩ (fun _ => ?_)
      rw [ek, ecl]
      have hkc : hk fs_md h0 (xh_ui (xh_ui hg 54 m (Int32.ofInt (-1))) 54 m (nI k)) := hk_ext (h := xh_ui hg 54 m (nI k)) (hk_ui (s := (1, 12)) (lo := 0) (hi := 11) hk0 hn rfl rfl (by rw [nI_toInt (by omega)]; omega) (by rw [nI_toInt (by omega)]; omega) rfl rfl) rfl rfl (fun c k => gx_2)
      have c54 : xg 0 (xh_ui (xh_ui hg 54 m (Int32.ofInt (-1))) 54 m (nI k)).2.1 54 m = nI k := gx_s
      have c46 : xg 0 (xh_ui (xh_ui hg 54 m (Int32.ofInt (-1))) 54 m (nI k)).2.1 39 46 = nI sr := by rw [gx_o (by decide)]; exact b46
      generalize xh_ui (xh_ui hg 54 m (Int32.ofInt (-1))) 54 m (nI k) = h2 at hkc c54 c46 ⊢
      have q2 := hk_q hkc hn
      cases hc : xe_c .ge (nI (k + 1)) (xg 0 h2.2.1 39 46) with
      | true =>
        refine xa_tn 70 [0, 1] [(0, .ref 39), (1, .int (nI m))] [] h2 [true] 6 q2 rfl ⟨hc, trivial⟩ (fun _ => ?_)
        exact K2 k h2 (by omega) hkc c46 c54
      | false =>
        refine xa_tn 70 [0, 1] [(0, .ref 39), (1, .int (nI m))] [] h2 [false, true] 12 q2 rfl ⟨hc, hin, xne_t (show (xg 0 h2.2.1 54 (nI m).toNatClampNeg).toInt ≠ (Int32.ofInt (-1)).toInt by
          rw [ecl, c54, nI_toInt (by omega)]
          show (k : Int) ≠ -1
          omega), trivial⟩ (fun _ => ?_)
        exact K2 k h2 (by omega) hkc c46 c54
set_option maxRecDepth 100000 in
set_option maxHeartbeats 8000000 in
/-- the first loop: every member has a sort -/
theorem fs_1 {d : Nat} {h0 : xh_H} {Q : Option Value → xh_H → Prop} (hn : 72 ≤ h0.1.length) (K : ∀ h', hk fs_md h0 h' → xt_P (d + 1) xi_X10_findSorts xmi_X10_findSorts 146 [(0, .ref 39), (1, .int (Int32.ofInt 0))] [] h' Q) : ∀ (n m : Nat) (h : xh_H) (sr : Nat), (m : Int) + n = (xg 0 h0.2.1 39 4).toInt → hk fs_md h0 h → xg 0 h.2.1 39 46 = nI sr → sr ≤ m → xt_P (d + 1) xi_X10_findSorts xmi_X10_findSorts 7 [(0, .ref 39), (1, .int (nI m))] [] h Q := by
  intro n
  induction n with
  | zero =>
    intro m h sr hm hk0 hsr hs
    have em := hk_g (c := 39) (k := 4) hk0 rfl rfl
    have eb := a_flx (c := 39) (k := 4) (lo := 1) (hi := 12) hk0.1.1 (hk_n hk0 hn) rfl rfl (by decide)
    rw [em] at eb
    refine xa_tn 146 [0, 1] [(0, .ref 39), (1, .int (Int32.ofInt 0))] [] h [true] 8 (hk_q hk0 hn) rfl ⟨xge_t (by rw [em, nI_toInt (by omega)]; omega), trivial⟩ (fun _ => ?_)
    exact K h hk0
  | succ n ih =>
    intro m h sr hm hk0 hsr hs
    have em := hk_g (c := 39) (k := 4) hk0 rfl rfl
    have eb := a_flx (c := 39) (k := 4) (lo := 1) (hi := 12) hk0.1.1 (hk_n hk0 hn) rfl rfl (by decide)
    rw [em] at eb
    have m11 : m ≤ 11 := by omega
    have ecl : (nI m).toNatClampNeg = m := nI_clamp (by omega)
    have emi := nI_toInt (n := m) (by omega)
    have hin := xin_n (k := m) (n := 12) (by omega) (by omega)
    have ek : nI m + Int32.ofInt 1 = nI (m + 1) := nI_1 m
    refine xa_tn 24 [0, 1, 2] [(0, .ref 39), (1, .int (nI m)), (2, .int (Int32.ofInt 0))] [] (xh_ui h 54 (nI m).toNatClampNeg (Int32.ofInt (-1))) [false] 13 (hk_q hk0 hn) rfl ⟨xge_f (by rw [em, emi]; omega), hin, trivial⟩ (fun hqb => ?_)
    rw [ecl] at hqb ⊢
    refine fs_in hn m11 hk0 hsr hs ?_ ?_ sr 0 (by omega)
    · -- none is alike
      have b46 : xg 0 (xh_ui h 54 m (Int32.ofInt (-1))).2.1 39 46 = nI sr := by rw [gx_o (by decide)]; exact hsr
      have b54 : xg 0 (xh_ui h 54 m (Int32.ofInt (-1))).2.1 54 m = Int32.ofInt (-1) := gx_s
      refine xa_tn 108 [0, 1] [(0, .ref 39), (1, .int (nI m))] [] (xh_ui (xh_ui h 54 m (Int32.ofInt (-1))) 54 (nI m).toNatClampNeg (xg 0 (xh_ui h 54 m (Int32.ofInt (-1))).2.1 39 46)) [true] 14 hqb rfl ⟨hin, (show xe_c .eq (xg 0 (xh_ui h 54 m (Int32.ofInt (-1))).2.1 54 (nI m).toNatClampNeg) (Int32.ofInt (-1)) = true by rw [ecl, b54]; rfl), hin, trivial⟩ (fun _ => ?_)
      rw [ecl, b46]
      have esr := nI_toInt (n := sr) (by omega)
      have esc : (nI sr).toNatClampNeg = sr := nI_clamp (by omega)
      have hins := xin_n (k := sr) (n := 12) (by omega) (by omega)
      have hk2 : hk fs_md h0 (xh_ui (xh_ui h 54 m (Int32.ofInt (-1))) 54 m (nI sr)) := hk_ext (h := xh_ui h 54 m (nI sr)) (hk_ui (s := (1, 12)) (lo := 0) (hi := 11) hk0 hn rfl rfl (by omega) (by omega) rfl rfl) rfl rfl (fun c k => gx_2)
      have c46 : xg 0 (xh_ui (xh_ui h 54 m (Int32.ofInt (-1))) 54 m (nI sr)).2.1 39 46 = nI sr := by rw [gx_o (by decide)]; exact b46
      generalize xh_ui (xh_ui h 54 m (Int32.ofInt (-1))) 54 m (nI sr) = h2 at hk2 c46 ⊢
      refine xa_tn 118 [0, 1] [(0, .ref 39), (1, .int (nI m))] [] (xh_ui h2 56 (xg 0 h2.2.1 39 46).toNatClampNeg (nI m)) [] 8 (hk_q hk2 hn) rfl ⟨by rw [c46]; exact hins, trivial⟩ (fun _ => ?_)
      rw [c46, esc]
      have hk3 : hk fs_md h0 (xh_ui h2 56 sr (nI m)) := hk_ui (s := (1, 12)) (lo := 0) (hi := 11) hk2 hn rfl rfl (by omega) (by omega) rfl rfl
      have d46 : xg 0 (xh_ui h2 56 sr (nI m)).2.1 39 46 = nI sr := by rw [gx_o (by decide)]; exact c46
      generalize xh_ui h2 56 sr (nI m) = h3 at hk3 d46 ⊢
      refine xa_tn 128 [0, 1] [(0, .ref 39), (1, .int (nI m))] [] (xh_ui h3 55 (xg 0 h3.2.1 39 46).toNatClampNeg (Int32.ofInt 1)) [] 8 (hk_q hk3 hn) rfl ⟨by rw [d46]; exact hins, trivial⟩ (fun _ => ?_)
      rw [d46, esc]
      have hk4 : hk fs_md h0 (xh_ui h3 55 sr (Int32.ofInt 1)) := hk_ui (s := (1, 12)) (lo := -2147483648) (hi := 2147483647) hk3 hn rfl rfl (by decide) (by decide) rfl rfl
      have e46 : xg 0 (xh_ui h3 55 sr (Int32.ofInt 1)).2.1 39 46 = nI sr := by rw [gx_o (by decide)]; exact d46
      generalize xh_ui h3 55 sr (Int32.ofInt 1) = h4 at hk4 e46 ⊢
      refine xa_tn 7 [0, 1] [(0, .ref 39), (1, .int ((nI m) + Int32.ofInt 1))] [] (xh_ui h4 39 46 ((xg 0 h4.2.1 39 46) + (Int32.ofInt 1))) [] 10 (hk_q hk4 hn) rfl trivial (fun _ => ?_)
      have es1 : nI sr + Int32.ofInt 1 = nI (sr + 1) := nI_1 sr
      rw [ek, e46, es1]
      have es2 := nI_toInt (n := sr + 1) (by omega)
      exact ih (m + 1) _ (sr + 1) (by omega) (hk_ui (s := (0, 10)) (lo := 0) (hi := 12) hk4 hn rfl rfl (by omega) (by omega) rfl rfl) gx_s (by omega)
    · -- one is alike
      intro k h2 hks hk2 c46 c54
      have esc : (nI k).toNatClampNeg = k := nI_clamp (by omega)
      have hink := xin_n (k := k) (n := 12) (by omega) (by omega)
      refine xa_tn 7 [0, 1] [(0, .ref 39), (1, .int ((nI m) + Int32.ofInt 1))] [] (xh_ui h2 55 (xg 0 h2.2.1 54 (nI m).toNatClampNeg).toNatClampNeg ((xg 0 h2.2.1 55 (xg 0 h2.2.1 54 (nI m).toNatClampNeg).toNatClampNeg) + (Int32.ofInt 1))) [false] 22 (hk_q hk2 hn) rfl ⟨hin, xeq_f (show (xg 0 h2.2.1 54 (nI m).toNatClampNeg).toInt ≠ (Int32.ofInt (-1)).toInt by
        rw [ecl, c54, nI_toInt (by omega)]
        show (k : Int) ≠ -1
        omega), hin, (show xe_in (xg 0 h2.2.1 54 (nI m).toNatClampNeg) 12 = true by rw [ecl, c54]; exact hink), (show xe_in (xg 0 h2.2.1 54 (nI m).toNatClampNeg) 12 = true by rw [ecl, c54]; exact hink), trivial⟩ (fun _ => ?_)
      rw [ecl, c54, esc, ek]
      have xr := ar_rng (xg 0 h2.2.1 55 k + Int32.ofInt 1)
      exact ih (m + 1) _ sr (by omega) (hk_ui (s := (1, 12)) (lo := -2147483648) (hi := 2147483647) hk2 hn rfl rfl xr.1 xr.2 rfl rfl) (by rw [gx_o (by decide)]; exact c46) (by omega)
set_option maxRecDepth 100000 in
set_option maxHeartbeats 8000000 in
/-- the last loops: who is above whom -/
theorem fs_3 {d : Nat} {h0 : xh_H} {Q : Option Value → xh_H → Prop} (hn : 72 ≤ h0.1.length) {a : Nat} (ha : a ≤ 11) (K : ∀ h', hk fs_md h0 h' → xt_P (d + 1) xi_X10_findSorts xmi_X10_findSorts 146 [(0, .ref 39), (1, .int (nI (a + 1)))] [] h' Q) : ∀ (n b : Nat) (h : xh_H), b + n = 12 → hk fs_md h0 h → xt_P (d + 1) xi_X10_findSorts xmi_X10_findSorts 156 [(0, .ref 39), (1, .int (nI a)), (2, .int (nI b))] [] h Q := by
  have e1 : nI a + Int32.ofInt 1 = nI (a + 1) := nI_1 a
  intro n
  induction n with
  | zero =>
    intro b h hb hk0
    have e : b = 12 := by omega
    subst e
    have sb := a_flx (c := 39) (k := 46) (lo := 0) (hi := 12) hk0.1.1 (hk_n hk0 hn) rfl rfl (by decide)
    refine xa_tn 146 [0, 1] [(0, .ref 39), (1, .int ((nI a) + Int32.ofInt 1))] [] h [true] 8 (hk_q hk0 hn) rfl ⟨xge_t (show (xg 0 h.2.1 39 46).toInt ≤ (12 : Int) by omega), trivial⟩ (fun _ => ?_)
    rw [e1]
    exact K h hk0
  | succ n ih =>
    intro b h hb hk0
    have sb := a_flx (c := 39) (k := 46) (lo := 0) (hi := 12) hk0.1.1 (hk_n hk0 hn) rfl rfl (by decide)
    have eb : nI b + Int32.ofInt 1 = nI (b + 1) := nI_1 b
    have ei : (12 : Int32) * nI a + nI b = nI (12 * a + b) := by
      rw [show (12 : Int32) = nI 12 from rfl, ← nI_add, nI_mul2]
    have hin : xe_in ((12 : Int32) * nI a + nI b) 144 = true := by rw [ei]; exact xin_n (by omega) (by omega)
    have ecl : ((12 : Int32) * nI a + nI b).toNatClampNeg = 12 * a + b := by rw [ei]; exact nI_clamp (by omega)
    have n0 : vp_nar .boolean (Int32.ofInt 0) = 0 := rfl
    have n1 : vp_nar .boolean (Int32.ofInt 1) = 1 := rfl
    cases hc : xe_c .ge (nI b) (xg 0 h.2.1 39 46) with
    | true =>
      refine xa_tn 146 [0, 1] [(0, .ref 39), (1, .int ((nI a) + Int32.ofInt 1))] [] h [true] 8 (hk_q hk0 hn) rfl ⟨hc, trivial⟩ (fun _ => ?_)
      rw [e1]
      exact K h hk0
    | false =>
      cases he : xe_c .eq (nI a) (nI b) with
      | true =>
        refine xa_tn 156 [0, 1, 2] [(0, .ref 39), (1, .int (nI a)), (2, .int ((nI b) + Int32.ofInt 1))] [] (xh_ui h 61 ((12 * (nI a)) + (nI b)).toNatClampNeg (vp_nar .boolean (Int32.ofInt 0))) [false, true] 20 (hk_q hk0 hn) rfl ⟨hc, he, hin, trivial⟩ (fun _ => ?_)
        rw [eb, ecl, n0]
        exact ih (b + 1) _ (by omega) (hk_ui (s := (3, 144)) (lo := 0) (hi := 1) hk0 hn rfl rfl (by decide) (by decide) rfl rfl)
      | false =>
        have eac : (nI a).toNatClampNeg = a := nI_clamp (by omega)
        have ebc : (nI b).toNatClampNeg = b := nI_clamp (by omega)
        have ga := a_elx (c := 56) (k := a) (lo := 0) (hi := 11) hk0.1.1 (hk_n hk0 hn) rfl rfl (by omega)
        have gb := a_elx (c := 56) (k := b) (lo := 0) (hi := 11) hk0.1.1 (hk_n hk0 hn) rfl rfl (by omega)
        refine xa_tn 192 [0, 1, 2] [(0, .ref 39), (1, .int (nI a)), (2, .int (nI b))] [.int (xg 0 h.2.1 56 (nI b).toNatClampNeg), .int (xg 0 h.2.1 56 (nI a).toNatClampNeg), .ref 39, .int ((12 * (nI a)) + (nI b)), .ref 61] h [false, false] 25 (hk_q hk0 hn) rfl ⟨hc, he, xin_n (by omega) (by omega), xin_n (by omega) (by omega), trivial⟩ (fun hq => ?_)
        rw [eac, ebc]
        refine xp_int (C := aC_m_X10_held) (lo := 0) (hi := 3) (σ := fun _ => 0) as_m_X10_held hq hk0.1 rfl rfl rfl (Nat.zero_le _) ⟨a_av (by decide) hq.1, a_ai ga.1 ga.2, a_ai gb.1 gb.2, trivial⟩ a_fp0 rfl (fun x h1 x1 x2 i1 l1 f1 q1 => ?_)
        have hk1 : hk fs_md h0 h1 := hk_c hk0 i1 l1 f1 (fun _ z => nomatch z)
        cases hx : xe_c .ne x (Int32.ofInt 1) with
        | true =>
          refine xa_tn 156 [0, 1, 2] [(0, .ref 39), (1, .int (nI a)), (2, .int ((nI b) + Int32.ofInt 1))] [] (xh_ui h1 61 ((12 * (nI a)) + (nI b)).toNatClampNeg (vp_nar .boolean (Int32.ofInt 0))) [true] 8 q1 rfl ⟨hx, hin, trivial⟩ (fun _ => ?_)
          rw [eb, ecl, n0]
          exact ih (b + 1) _ (by omega) (hk_ui (s := (3, 144)) (lo := 0) (hi := 1) hk1 hn rfl rfl (by decide) (by decide) rfl rfl)
        | false =>
          refine xa_tn 156 [0, 1, 2] [(0, .ref 39), (1, .int (nI a)), (2, .int ((nI b) + Int32.ofInt 1))] [] (xh_ui h1 61 ((12 * (nI a)) + (nI b)).toNatClampNeg (vp_nar .boolean (Int32.ofInt 1))) [false] 9 q1 rfl ⟨hx, hin, trivial⟩ (fun _ => ?_)
          rw [eb, ecl, n1]
          exact ih (b + 1) _ (by omega) (hk_ui (s := (3, 144)) (lo := 0) (hi := 1) hk1 hn rfl rfl (by decide) (by decide) rfl rfl)
set_option maxRecDepth 100000 in
set_option maxHeartbeats 8000000 in
theorem fs_2 {d : Nat} {h0 : xh_H} (hn : 72 ≤ h0.1.length) : ∀ (n a : Nat) (h : xh_H), a + n = 12 → hk fs_md h0 h → xt_P (d + 1) xi_X10_findSorts xmi_X10_findSorts 146 [(0, .ref 39), (1, .int (nI a))] [] h (fun v h' => v = none ∧ hk fs_md h0 h') := by
  intro n
  induction n with
  | zero =>
    intro a h ha hk0
    have e : a = 12 := by omega
    subst e
    have sb := a_flx (c := 39) (k := 46) (lo := 0) (hi := 12) hk0.1.1 (hk_n hk0 hn) rfl rfl (by decide)
    refine xa_tn 217 [] [] [] h [true] 6 (hk_q hk0 hn) rfl ⟨xge_t (show (xg 0 h.2.1 39 46).toInt ≤ (12 : Int) by omega), trivial⟩ (fun _ => ?_)
    exact xp_ret rfl rfl rfl ⟨rfl, hk0⟩
  | succ n ih =>
    intro a h ha hk0
    cases hc : xe_c .ge (nI a) (xg 0 h.2.1 39 46) with
    | true =>
      refine xa_tn 217 [] [] [] h [true] 6 (hk_q hk0 hn) rfl ⟨hc, trivial⟩ (fun _ => ?_)
      exact xp_ret rfl rfl rfl ⟨rfl, hk0⟩
    | false =>
      refine xa_tn 156 [0, 1, 2] [(0, .ref 39), (1, .int (nI a)), (2, .int (Int32.ofInt 0))] [] h [false] 8 (hk_q hk0 hn) rfl ⟨hc, trivial⟩ (fun _ => ?_)
      exact fs_3 hn (by omega) (fun h' hk' => ih (a + 1) h' (by omega) hk') 12 0 h (by omega) hk0
set_option maxRecDepth 100000 in
theorem as_h_X10_findSorts : a_spec a_tb aC_h_X10_findSorts := by
  intro d mi vs h σ hd hM hi hn ha _
  cases hM
  match vs, ha with
  | [v0], ha =>
    obtain ⟨⟨q, rfl, hq⟩, -⟩ := ha
    have eq : q = 39 := a_r_ob (t := 39) (by decide) hq
    subst eq
    have hd : 1 ≤ d := hd
    obtain ⟨d, rfl⟩ : ∃ d', d = d' + 1 := ⟨d - 1, by omega⟩
    have eb := a_flx (c := 39) (k := 4) (lo := 1) (hi := 12) hi.1 hn rfl rfl (by decide)
    have main : xt_P (d + 1) xi_X10_findSorts xmi_X10_findSorts 0 [(0, .ref 39)] [] h (fun v h' => v = none ∧ hk fs_md h h') := by
      refine xa_tn 7 [0, 1] [(0, .ref 39), (1, .int (Int32.ofInt 0))] [] (xh_ui h 39 46 (Int32.ofInt 0)) [] 7 (a_rq_of hi.1 hn) rfl trivial (fun _ => ?_)
      refine fs_1 hn (fun h' hk' => fs_2 hn 12 0 h' rfl hk') (xg 0 h.2.1 39 4).toInt.toNat 0 _ 0 (by omega) (hk_ui (s := (0, 10)) (lo := 0) (hi := 12) (hk_0 hi) hn rfl rfl (by decide) (by decide) rfl rfl) gx_s (Nat.le_refl _)
    obtain ⟨v, h', r, rfl, hk0⟩ := main
    exact ⟨none, h', r, hk0.1, hk0.2.1, ⟨_, List.mem_singleton.mpr rfl, rfl, a_fp0⟩, hk0.2.2⟩
end XFS
end
section
section XFC
def gb (h : xh_H) (a b : Nat) : Bool := (xg 0 h.2.1 19 a).toInt.toNat.testBit b
def cp_v (o u : Bool) : Int32 := cond o (cond u 0 1) (cond u (-1) 2)
theorem bt_0 {b : Bool} : xe_c .eq (nI b.toNat) 0 = !b := by cases b <;> decide
set_option maxRecDepth 100000 in
set_option maxHeartbeats 4000000 in
/-- Powers.compare -/
theorem cp_run {d a b : Nat} {h : xh_H} (hi : a_inw a_tb h) (hn : 72 ≤ h.1.length) (ha : a ≤ 11) (hb : b ≤ 11) : xt_P d xi_X2_compare xmi_X2_compare 0 [(0, .ref 14), (1, .int (nI a)), (2, .int (nI b))] [] h (fun v h' => h = h' ∧ v = some (.int (cp_v (gb h a b) (gb h b a)))) := by
  have hq := a_rq_of hi hn
  have xa := a_elx (c := 19) (k := a) (lo := 0) (hi := 4095) hi hn rfl rfl (by omega)
  have xb := a_elx (c := 19) (k := b) (lo := 0) (hi := 4095) hi hn rfl rfl (by omega)
  obtain ⟨p, ep, p1, p2⟩ := a_nk (x := xg 0 h.2.1 19 a) (m := 4095) xa.1 xa.2
  obtain ⟨r, er, r1, r2⟩ := a_nk (x := xg 0 h.2.1 19 b) (m := 4095) xb.1 xb.2
  have ga : gb h a b = p.testBit b := by unfold gb; rw [ep, nI_toInt p2]; rfl
  have gbb : gb h b a = r.testBit a := by unfold gb; rw [er, nI_toInt r2]; rfl
  have eac : (nI a).toNatClampNeg = a := nI_clamp (by omega)
  have ebc : (nI b).toNatClampNeg = b := nI_clamp (by omega)
  have ba := nI_b0 (a := p) (k := b) p2 (by omega)
  have bb := nI_b0 (a := r) (k := a) r2 (by omega)
  rw [ga, gbb]
  refine xa_tn 10 [0, 1, 2] [(0, .ref 14), (1, .int (nI a)), (2, .int (nI b))] [.int (((xg 0 h.2.1 19 (nI a).toNatClampNeg) >>> ((nI b) &&& 31)) &&& (Int32.ofInt 1))] h [] 10 hq rfl ⟨xin_n (by omega) (by omega), trivial⟩ (fun _ => ?_)
  rw [eac, ep, ba]
  have hinb := xin_n (k := b) (n := 12) (by omega) (by omega)
  have key : ∀ x : Int32, x = cond (p.testBit b) 1 0 → xt_P d xi_X2_compare xmi_X2_compare 29 [(3, .int x)] [.int (nI (r.testBit a).toNat)] h (fun v h' => h = h' ∧ v = some (.int (cp_v (p.testBit b) (r.testBit a)))) := by
    intro x ex
    cases hr : r.testBit a with
    | false =>
      refine xa_tn 39 [3, 4] [(3, .int x), (4, .int (Int32.ofInt 0))] [] h [true] 5 hq rfl ⟨rfl, trivial⟩ (fun _ => ?_)
      cases hp : p.testBit b with
      | false =>
        rw [hp] at ex
        subst ex
        refine xa_tn 64 [] [] [.int (Int32.ofInt 2)] h [true, true] 12 hq rfl ⟨rfl, rfl, trivial⟩ (fun _ => ?_)
        exact xp_ret rfl rfl rfl ⟨rfl, rfl⟩
      | true =>
        rw [hp] at ex
        subst ex
        refine xa_tn 53 [] [] [.int (Int32.ofInt 1)] h [false, true] 12 hq rfl ⟨rfl, rfl, trivial⟩ (fun _ => ?_)
        exact xp_ret rfl rfl rfl ⟨rfl, rfl⟩
    | true =>
      refine xa_tn 39 [3, 4] [(3, .int x), (4, .int (Int32.ofInt 1))] [] h [false] 6 hq rfl ⟨rfl, trivial⟩ (fun _ => ?_)
      cases hp : p.testBit b with
      | false =>
        rw [hp] at ex
        subst ex
        refine xa_tn 64 [] [] [.int (Int32.ofInt (-1))] h [true, false] 12 hq rfl ⟨rfl, rfl, trivial⟩ (fun _ => ?_)
        exact xp_ret rfl rfl rfl ⟨rfl, rfl⟩
      | true =>
        rw [hp] at ex
        subst ex
        refine xa_tn 53 [] [] [.int (Int32.ofInt 0)] h [false, false] 12 hq rfl ⟨rfl, rfl, trivial⟩ (fun _ => ?_)
        exact xp_ret rfl rfl rfl ⟨rfl, rfl⟩
  cases hp : p.testBit b with
  | false =>
    refine xa_tn 29 [3] [(3, .int (Int32.ofInt 0))] [.int (((xg 0 h.2.1 19 (nI b).toNatClampNeg) >>> ((nI a) &&& 31)) &&& (Int32.ofInt 1))] h [true] 13 hq rfl ⟨rfl, hinb, trivial⟩ (fun _ => ?_)
    rw [ebc, er, bb]
    have := key 0 (by rw [hp]; rfl)
    rw [hp] at this
    exact this
  | true =>
    refine xa_tn 29 [3] [(3, .int (Int32.ofInt 1))] [.int (((xg 0 h.2.1 19 (nI b).toNatClampNeg) >>> ((nI a) &&& 31)) &&& (Int32.ofInt 1))] h [false] 14 hq rfl ⟨rfl, hinb, trivial⟩ (fun _ => ?_)
    rw [ebc, er, bb]
    have := key 1 (by rw [hp]; rfl)
    rw [hp] at this
    exact this
/-- one of whom none ahead is the like -/
def fc_f (h : xh_H) (m : Nat) : Prop := ∀ o, o < m → ¬ (a_ge h m o ∧ a_ge h o m)
set_option maxRecDepth 100000 in
set_option maxHeartbeats 4000000 in
theorem if5_loop {d m : Nat} {h : xh_H} (hi : a_inw a_tb h) (hn : 72 ≤ h.1.length) (hm : m ≤ 11) : ∀ (n o : Nat), o + n = m → (∀ o', o' < o → ¬ (a_ge h m o' ∧ a_ge h o' m)) → xt_P (d + 1) xi_X5_isFirst xmi_X5_isFirst 2 [(0, .ref 21), (1, .int (nI m)), (2, .int (nI o))] [] h (fun v h' => h = h' ∧ ∃ p : Bool, v = some (.int (cond p 1 0)) ∧ (p = true ↔ fc_f h m)) := by
  have hq := a_rq_of hi hn
  intro n
  induction n with
  | zero =>
    intro o ho hall
    have e : o = m := by omega
    subst e
    refine xa_tn 28 [] [] [.int (Int32.ofInt 1)] h [true] 6 hq rfl ⟨nge_t (by omega) (by omega) (Nat.le_refl _), trivial⟩ (fun _ => ?_)
    exact xp_ret rfl rfl rfl ⟨rfl, true, rfl, fun _ => hall, fun _ => rfl⟩
  | succ n ih =>
    intro o ho hall
    have e1 : nI o + Int32.ofInt 1 = nI (o + 1) := nI_1 o
    refine xa_tn 13 [0, 1, 2] [(0, .ref 21), (1, .int (nI m)), (2, .int (nI o))] [.int (nI o), .int (nI m), .ref 14] h [false] 9 hq rfl ⟨nge_f (by omega) (by omega) (by omega), trivial⟩ (fun _ => ?_)
    refine xp_run hq rfl rfl (cp_run (d := d) hi hn hm (by omega)) ?_
    rintro v h1 ⟨rfl, rfl⟩
    cases c1 : gb h m o with
    | true =>
      cases c2 : gb h o m with
      | true =>
        refine xa_tn 20 [] [] [.int (Int32.ofInt 0)] h [false] 4 hq rfl ⟨rfl, trivial⟩ (fun _ => ?_)
        exact xp_ret rfl rfl rfl ⟨rfl, false, rfl, Iff.intro (fun z => Bool.noConfusion z) (fun z => absurd (And.intro c1 c2) (z o (by omega)))⟩
      | false =>
        refine xa_tn 2 [0, 1, 2] [(0, .ref 21), (1, .int (nI m)), (2, .int ((nI o) + Int32.ofInt 1))] [] h [true] 5 hq rfl ⟨rfl, trivial⟩ (fun _ => ?_)
        rw [e1]
        refine ih (o + 1) (by omega) (fun o' ho' z => ?_)
        by_cases e : o' = o
        · subst e
          have : gb h o' m = true := z.2
          rw [c2] at this
          cases this
        · exact hall o' (by omega) z
    | false =>
      cases c2 : gb h o m with
      | true =>
        refine xa_tn 2 [0, 1, 2] [(0, .ref 21), (1, .int (nI m)), (2, .int ((nI o) + Int32.ofInt 1))] [] h [true] 5 hq rfl ⟨rfl, trivial⟩ (fun _ => ?_)
        rw [e1]
        refine ih (o + 1) (by omega) (fun o' ho' z => ?_)
        by_cases e : o' = o
        · subst e
          have : gb h m o' = true := z.1
          rw [c1] at this
          cases this
        · exact hall o' (by omega) z
      | false =>
        refine xa_tn 2 [0, 1, 2] [(0, .ref 21), (1, .int (nI m)), (2, .int ((nI o) + Int32.ofInt 1))] [] h [true] 5 hq rfl ⟨rfl, trivial⟩ (fun _ => ?_)
        rw [e1]
        refine ih (o + 1) (by omega) (fun o' ho' z => ?_)
        by_cases e : o' = o
        · subst e
          have : gb h m o' = true := z.1
          rw [c1] at this
          cases this
        · exact hall o' (by omega) z
set_option maxRecDepth 100000 in
theorem if5_run {d m : Nat} {h : xh_H} (hi : a_inw a_tb h) (hn : 72 ≤ h.1.length) (hm : m ≤ 11) : xt_P (d + 1) xi_X5_isFirst xmi_X5_isFirst 0 [(0, .ref 21), (1, .int (nI m))] [] h (fun v h' => h = h' ∧ ∃ p : Bool, v = some (.int (cond p 1 0)) ∧ (p = true ↔ fc_f h m)) := by
  refine xa_tn 2 [0, 1, 2] [(0, .ref 21), (1, .int (nI m)), (2, .int (Int32.ofInt 0))] [] h [] 4 (a_rq_of hi hn) rfl trivial (fun _ => ?_)
  exact if5_loop hi hn hm m 0 (by omega) (fun o' ho' => absurd ho' (Nat.not_lt_zero o'))
/-- m is not stronger than the first one of class c -/
def so_n (h : xh_H) (m c : Nat) : Prop := ∃ f : Nat, xg 0 h.2.1 24 c = nI f ∧ f ≤ 11 ∧ ¬ (a_ge h m f ∧ ¬ a_ge h f m)
set_option maxRecDepth 100000 in
set_option maxHeartbeats 4000000 in
theorem so_loop {d m k : Nat} {h : xh_H} (hi : a_inw a_tb h) (hn : 72 ≤ h.1.length) (hm : m ≤ 11) (hk12 : k ≤ 12) (hcl : xg 0 h.2.1 21 8 = nI k) : ∀ (n c w : Nat), c + n = k → w ≤ c → ((∃ c', c' < c ∧ so_n h m c') → w < c) → xt_P (d + 1) xi_X5_strengthOf xmi_X5_strengthOf 4 [(0, .ref 21), (1, .int (nI m)), (2, .int (nI w)), (3, .int (nI c))] [] h (fun v h' => h = h' ∧ ∃ w : Nat, v = some (.int (nI w)) ∧ w ≤ k ∧ ((∃ c, c < k ∧ so_n h m c) → w < k)) := by
  have hq := a_rq_of hi hn
  intro n
  induction n with
  | zero =>
    intro c w hc hw hx
    have e : c = k := by omega
    subst e
    refine xa_tn 40 [] [] [.int (nI w)] h [true] 7 hq rfl ⟨(show xe_c .ge (nI c) (xg 0 h.2.1 21 8) = true by rw [hcl]; exact nge_t (by omega) (by omega) (Nat.le_refl _)), trivial⟩ (fun _ => ?_)
    exact xp_ret rfl rfl rfl ⟨rfl, w, rfl, hw, hx⟩
  | succ n ih =>
    intro c w hc hw hx
    have e1 : nI c + Int32.ofInt 1 = nI (c + 1) := nI_1 c
    have e2 : nI w + Int32.ofInt 1 = nI (w + 1) := nI_1 w
    have ecc : (nI c).toNatClampNeg = c := nI_clamp (by omega)
    have g := a_elx (c := 24) (k := c) (lo := 0) (hi := 11) hi hn rfl rfl (by omega)
    obtain ⟨f, ef, f11, f31⟩ := a_nk (x := xg 0 h.2.1 24 c) (m := 11) g.1 g.2
    refine xa_tn 23 [0, 1, 2, 3] [(0, .ref 21), (1, .int (nI m)), (2, .int (nI w)), (3, .int (nI c))] [.int (xg 0 h.2.1 24 (nI c).toNatClampNeg), .int (nI m), .ref 14] h [false] 13 hq rfl ⟨(show xe_c .ge (nI c) (xg 0 h.2.1 21 8) = false by rw [hcl]; exact nge_f (by omega) (by omega) (by omega)), xin_n (by omega) (by omega), trivial⟩ (fun _ => ?_)
    rw [ecc, ef]
    refine xp_run hq rfl rfl (cp_run (d := d) hi hn hm f11) ?_
    rintro v h1 ⟨rfl, rfl⟩
    have stay : xe_c .ne (cp_v (gb h m f) (gb h f m)) (Int32.ofInt 1) = true → xt_P (d + 1) xi_X5_strengthOf xmi_X5_strengthOf 26 [(0, .ref 21), (1, .int (nI m)), (2, .int (nI w)), (3, .int (nI c))] [.int (cp_v (gb h m f) (gb h f m))] h (fun v h' => h = h' ∧ ∃ w : Nat, v = some (.int (nI w)) ∧ w ≤ k ∧ ((∃ c, c < k ∧ so_n h m c) → w < k)) := by
      intro hne
      refine xa_tn 4 [0, 1, 2, 3] [(0, .ref 21), (1, .int (nI m)), (2, .int (nI w)), (3, .int ((nI c) + Int32.ofInt 1))] [] h [true] 6 hq rfl ⟨hne, trivial⟩ (fun _ => ?_)
      rw [e1]
      exact ih (c + 1) w (by omega) (by omega) (fun _ => by omega)
    cases c1 : gb h m f with
    | false =>
      have s := stay (by rw [c1]; cases gb h f m <;> rfl)
      rw [c1] at s
      exact s
    | true =>
      cases c2 : gb h f m with
      | true =>
        have s := stay (by rw [c1, c2]; rfl)
        rw [c1, c2] at s
        exact s
      | false =>
        refine xa_tn 4 [0, 1, 2, 3] [(0, .ref 21), (1, .int (nI m)), (2, .int ((nI w) + Int32.ofInt 1)), (3, .int ((nI c) + Int32.ofInt 1))] [] h [false] 7 hq rfl ⟨rfl, trivial⟩ (fun _ => ?_)
        rw [e1, e2]
        refine ih (c + 1) (w + 1) (by omega) (by omega) ?_
        rintro ⟨c', hc', f', ef', f11', hno⟩
        by_cases e : c' = c
        · subst e
          rw [ef] at ef'
          have e5 : f = f' := (nI_eq (by omega) (by omega)).mp ef'
          subst e5
          refine absurd ⟨c1, fun z => ?_⟩ hno
          have z : gb h f m = true := z
          rw [c2] at z
          cases z
        · have := hx ⟨c', by omega, f', ef', f11', hno⟩
          omega
set_option maxRecDepth 100000 in
theorem so_run {d m k : Nat} {h : xh_H} (hi : a_inw a_tb h) (hn : 72 ≤ h.1.length) (hm : m ≤ 11) (hk12 : k ≤ 12) (hcl : xg 0 h.2.1 21 8 = nI k) : xt_P (d + 1) xi_X5_strengthOf xmi_X5_strengthOf 0 [(0, .ref 21), (1, .int (nI m))] [] h (fun v h' => h = h' ∧ ∃ w : Nat, v = some (.int (nI w)) ∧ w ≤ k ∧ ((∃ c, c < k ∧ so_n h m c) → w < k)) := by
  refine xa_tn 4 [0, 1, 2, 3] [(0, .ref 21), (1, .int (nI m)), (2, .int (Int32.ofInt 0)), (3, .int (Int32.ofInt 0))] [] h [] 6 (a_rq_of hi hn) rfl trivial (fun _ => ?_)
  exact so_loop hi hn hm hk12 hcl k 0 0 (by omega) (Nat.le_refl _) (fun ⟨c', hc', _⟩ => absurd hc' (Nat.not_lt_zero c'))
abbrev fc_md : List (Nat × Nat) := [(21, 8), (23, 0), (24, 0), (25, 0), (26, 0)]
/-- everybody is the like of a first one, or is one -/
theorem fc_ch {h : xh_H} (hJ : a_J a_tb h) : ∀ m : Nat, (m : Int) < (xg 0 h.2.1 14 7).toInt → ∃ f : Nat, f ≤ m ∧ fc_f h f ∧ (f = m ∨ (a_ge h m f ∧ a_ge h f m)) := by
  intro m
  induction m using Nat.strongRecOn with
  | ind m ih =>
    intro hm
    by_cases hf : fc_f h m
    · exact ⟨m, Nat.le_refl _, hf, Or.inl rfl⟩
    · unfold fc_f at hf
      rw [Classical.not_forall] at hf
      obtain ⟨o, hf⟩ := hf
      rw [Classical.not_imp, Classical.not_not] at hf
      obtain ⟨ho, h1, h2⟩ := hf
      obtain ⟨f, f1, f2, f3⟩ := ih o ho (by omega)
      refine ⟨f, by omega, f2, Or.inr ?_⟩
      rcases f3 with rfl | ⟨f3, f4⟩
      · exact ⟨h1, h2⟩
      · exact ⟨hJ.2.2.2 rfl m o f hm (by omega) (by omega) h1 f3, hJ.2.2.2 rfl f o m (by omega) (by omega) hm f4 h2⟩
set_option maxRecDepth 100000 in
set_option maxHeartbeats 8000000 in
/-- the first loop of findClasses -/
theorem fc_1 {d : Nat} {h0 : xh_H} {Q : Option Value → xh_H → Prop} (hn : 72 ≤ h0.1.length) (K : ∀ h' k, hk fc_md h0 h' → xg 0 h'.2.1 21 8 = nI k → k ≤ 12 → (∀ f : Nat, (f : Int) < (xg 0 h0.2.1 14 7).toInt → fc_f h0 f → ∃ c, c < k ∧ xg 0 h'.2.1 24 c = nI f) → xt_P (d + 2) xi_X5_findClasses xmi_X5_findClasses 54 [(0, .ref 21), (1, .int (Int32.ofInt 0))] [] h' Q) : ∀ (n m k : Nat) (h : xh_H), (m : Int) + n = (xg 0 h0.2.1 14 7).toInt → hk fc_md h0 h → xg 0 h.2.1 21 8 = nI k → k ≤ m → (∀ f, f < m → fc_f h0 f → ∃ c, c < k ∧ xg 0 h.2.1 24 c = nI f) → xt_P (d + 2) xi_X5_findClasses xmi_X5_findClasses 7 [(0, .ref 21), (1, .int (nI m))] [] h Q := by
  intro n
  induction n with
  | zero =>
    intro m k h hm hk0 hcl hkm hf
    have em := hk_g (c := 14) (k := 7) hk0 rfl rfl
    have eb := a_flx (c := 14) (k := 7) (lo := 0) (hi := 12) hk0.1.1 (hk_n hk0 hn) rfl rfl (by decide)
    rw [em] at eb
    refine xa_tn 54 [0, 1] [(0, .ref 21), (1, .int (Int32.ofInt 0))] [] h [true] 9 (hk_q hk0 hn) rfl ⟨xge_t (show (xg 0 h.2.1 14 7).toInt ≤ (nI m).toInt by rw [em, nI_toInt (by omega)]; omega), trivial⟩ (fun _ => ?_)
    exact K h k hk0 hcl (by omega) (fun f h1 h2 => hf f (by omega) h2)
  | succ n ih =>
    intro m k h hm hk0 hcl hkm hf
    have em := hk_g (c := 14) (k := 7) hk0 rfl rfl
    have eb := a_flx (c := 14) (k := 7) (lo := 0) (hi := 12) hk0.1.1 (hk_n hk0 hn) rfl rfl (by decide)
    rw [em] at eb
    have emi := nI_toInt (n := m) (by omega)
    have e1 : nI m + Int32.ofInt 1 = nI (m + 1) := nI_1 m
    have ege : ∀ a b, a_ge h a b ↔ a_ge h0 a b := fun a b => by
      unfold a_ge
      rw [hk_g (c := 19) (k := a) hk0 rfl rfl]
    have ef : fc_f h m ↔ fc_f h0 m := by
      unfold fc_f
      constructor
      · intro z o ho w
        exact z o ho ⟨(ege _ _).mpr w.1, (ege _ _).mpr w.2⟩
      · intro z o ho w
        exact z o ho ⟨(ege _ _).mp w.1, (ege _ _).mp w.2⟩
    refine xa_tn 20 [0, 1] [(0, .ref 21), (1, .int (nI m))] [.int (nI m), .ref 21] h [false] 9 (hk_q hk0 hn) rfl ⟨xge_f (show (nI m).toInt < (xg 0 h.2.1 14 7).toInt by rw [em, emi]; omega), trivial⟩ (fun hq => ?_)
    refine xp_run hq rfl rfl (if5_run (d := d) hk0.1.1 (hk_n hk0 hn) (m := m) (by omega)) ?_
    rintro v h1 ⟨rfl, p, rfl, hp⟩
    cases p with
    | false =>
      refine xa_tn 7 [0, 1] [(0, .ref 21), (1, .int ((nI m) + Int32.ofInt 1))] [] h [true] 5 hq rfl ⟨rfl, trivial⟩ (fun _ => ?_)
      rw [e1]
      refine ih (m + 1) k h (by omega) hk0 hcl (by omega) (fun f h1 h2 => ?_)
      by_cases e : f = m
      · subst e
        have := hp.mpr (ef.mpr h2)
        cases this
      · exact hf f (by omega) h2
    | true =>
      have hink := xin_n (k := k) (n := 12) (by omega) (by omega)
      have ekc : (nI k).toNatClampNeg = k := nI_clamp (by omega)
      refine xa_tn 36 [0, 1] [(0, .ref 21), (1, .int (nI m))] [] (xh_ui h 24 (xg 0 h.2.1 21 8).toNatClampNeg (nI m)) [false] 9 hq rfl ⟨rfl, (show xe_in (xg 0 h.2.1 21 8) 12 = true by rw [hcl]; exact hink), trivial⟩ (fun _ => ?_)
      rw [hcl, ekc]
      have hk2 : hk fc_md h0 (xh_ui h 24 k (nI m)) := hk_ui (s := (1, 12)) (lo := 0) (hi := 11) hk0 hn rfl rfl (by omega) (by omega) rfl rfl
      have c8 : xg 0 (xh_ui h 24 k (nI m)).2.1 21 8 = nI k := by rw [gx_o (by decide)]; exact hcl
      have f2 : ∀ f, f < m + 1 → fc_f h0 f → ∃ c, c < k + 1 ∧ xg 0 (xh_ui h 24 k (nI m)).2.1 24 c = nI f := by
        intro f h1 h2
        by_cases e : f = m
        · subst e
          exact ⟨k, by omega, gx_s⟩
        · obtain ⟨c, c1, c2⟩ := hf f (by omega) h2
          exact ⟨c, by omega, by rw [gx_k (by omega)]; exact c2⟩
      generalize xh_ui h 24 k (nI m) = h2 at hk2 c8 f2 ⊢
      refine xa_tn 7 [0, 1] [(0, .ref 21), (1, .int ((nI m) + Int32.ofInt 1))] [] (xh_ui h2 21 8 ((xg 0 h2.2.1 21 8) + (Int32.ofInt 1))) [] 10 (hk_q hk2 hn) rfl trivial (fun _ => ?_)
      have e2 : nI k + Int32.ofInt 1 = nI (k + 1) := nI_1 k
      rw [e1, c8, e2]
      have ek1 := nI_toInt (n := k + 1) (by omega)
      exact ih (m + 1) (k + 1) _ (by omega) (hk_ui (s := (0, 5)) (lo := 0) (hi := 12) hk2 hn rfl rfl (by omega) (by omega) rfl rfl) gx_s (by omega) (fun f h1 h2 => by
        obtain ⟨c, c1, c2⟩ := f2 f h1 h2
        exact ⟨c, c1, by rw [gx_o (by decide)]; exact c2⟩)
set_option maxRecDepth 100000 in
set_option maxHeartbeats 8000000 in
/-- the second -/
theorem fc_2 {d k : Nat} {h0 : xh_H} {Q : Option Value → xh_H → Prop} {g : Nat → Int32} (hn : 72 ≤ h0.1.length) (hk12 : k ≤ 12) (K : ∀ h', hk fc_md h0 h' → xg 0 h'.2.1 21 8 = nI k → (∀ c, xg 0 h'.2.1 24 c = g c) → (∀ j, j < k → (xg 0 h'.2.1 25 j).toInt = 0) → xt_P d xi_X5_findClasses xmi_X5_findClasses 84 [(0, .ref 21), (1, .int (Int32.ofInt 0))] [] h' Q) : ∀ (n c : Nat) (h : xh_H), c + n = k → hk fc_md h0 h → xg 0 h.2.1 21 8 = nI k → (∀ c, xg 0 h.2.1 24 c = g c) → (∀ j, j < c → (xg 0 h.2.1 25 j).toInt = 0) → xt_P d xi_X5_findClasses xmi_X5_findClasses 54 [(0, .ref 21), (1, .int (nI c))] [] h Q := by
  intro n
  induction n with
  | zero =>
    intro c h hc hk0 hcl hg hz
    have e : c = k := by omega
    subst e
    refine xa_tn 84 [0, 1] [(0, .ref 21), (1, .int (Int32.ofInt 0))] [] h [true] 8 (hk_q hk0 hn) rfl ⟨(show xe_c .ge (nI c) (xg 0 h.2.1 21 8) = true by rw [hcl]; exact nge_t (by omega) (by omega) (Nat.le_refl _)), trivial⟩ (fun _ => ?_)
    exact K h hk0 hcl hg hz
  | succ n ih =>
    intro c h hc hk0 hcl hg hz
    have e1 : nI c + Int32.ofInt 1 = nI (c + 1) := nI_1 c
    have hin := xin_n (k := c) (n := 12) (by omega) (by omega)
    refine xa_tn 54 [0, 1] [(0, .ref 21), (1, .int ((nI c) + Int32.ofInt 1))] [] (xh_ui (xh_ui h 25 (nI c).toNatClampNeg (Int32.ofInt 0)) 26 (nI c).toNatClampNeg (Int32.ofInt (-1))) [false] 18 (hk_q hk0 hn) rfl ⟨(show xe_c .ge (nI c) (xg 0 h.2.1 21 8) = false by rw [hcl]; exact nge_f (by omega) (by omega) (by omega)), hin, hin, trivial⟩ (fun _ => ?_)
    rw [e1, nI_clamp (by omega)]
    refine ih (c + 1) _ (by omega) (hk_ui (s := (1, 12)) (lo := -1) (hi := 60) (hk_ui (s := (1, 12)) (lo := 0) (hi := 12) hk0 hn rfl rfl (by decide) (by decide) rfl rfl) hn rfl rfl (by decide) (by decide) rfl rfl) ?_ ?_ ?_
    · rw [gx_o (by decide), gx_o (by decide)]
      exact hcl
    · intro c'
      rw [gx_o (by decide), gx_o (by decide)]
      exact hg c'
    · intro j hj
      rw [gx_o (by decide)]
      by_cases e : j = c
      · subst e
        rw [gx_s]
        rfl
      · rw [gx_k e]
        exact hz j (by omega)
set_option maxRecDepth 100000 in
set_option maxHeartbeats 8000000 in
/-- the third -/
theorem fc_3 {d k : Nat} {h0 : xh_H} {g : Nat → Int32} (hn : 72 ≤ h0.1.length) (hJ : a_J a_tb h0) (hk12 : k ≤ 12) (hg0 : ∀ f : Nat, (f : Int) < (xg 0 h0.2.1 14 7).toInt → fc_f h0 f → ∃ c, c < k ∧ g c = nI f) : ∀ (n m : Nat) (h : xh_H), (m : Int) + n = (xg 0 h0.2.1 14 7).toInt → hk fc_md h0 h → xg 0 h.2.1 21 8 = nI k → (∀ c, xg 0 h.2.1 24 c = g c) → (∀ j, j < k → 0 ≤ (xg 0 h.2.1 25 j).toInt ∧ (xg 0 h.2.1 25 j).toInt ≤ m) → xt_P (d + 2) xi_X5_findClasses xmi_X5_findClasses 84 [(0, .ref 21), (1, .int (nI m))] [] h (fun v h' => v = none ∧ hk fc_md h0 h') := by
  intro n
  induction n with
  | zero =>
    intro m h hm hk0 hcl hg hz
    have em := hk_g (c := 14) (k := 7) hk0 rfl rfl
    have eb := a_flx (c := 14) (k := 7) (lo := 0) (hi := 12) hk0.1.1 (hk_n hk0 hn) rfl rfl (by decide)
    rw [em] at eb
    refine xa_tn 127 [] [] [] h [true] 7 (hk_q hk0 hn) rfl ⟨xge_t (show (xg 0 h.2.1 14 7).toInt ≤ (nI m).toInt by rw [em, nI_toInt (by omega)]; omega), trivial⟩ (fun _ => ?_)
    exact xp_ret rfl rfl rfl ⟨rfl, hk0⟩
  | succ n ih =>
    intro m h hm hk0 hcl hg hz
    have em := hk_g (c := 14) (k := 7) hk0 rfl rfl
    have eb := a_flx (c := 14) (k := 7) (lo := 0) (hi := 12) hk0.1.1 (hk_n hk0 hn) rfl rfl (by decide)
    rw [em] at eb
    have emi := nI_toInt (n := m) (by omega)
    have e1 : nI m + Int32.ofInt 1 = nI (m + 1) := nI_1 m
    have emc : (nI m).toNatClampNeg = m := nI_clamp (by omega)
    have hinm := xin_n (k := m) (n := 12) (by omega) (by omega)
    have ege : ∀ a b, a_ge h a b ↔ a_ge h0 a b := fun a b => by
      unfold a_ge
      rw [hk_g (c := 19) (k := a) hk0 rfl rfl]
    refine xa_tn 102 [0, 1] [(0, .ref 21), (1, .int (nI m))] [.int (nI m), .ref 21, .int (nI m), .ref 23] h [false] 12 (hk_q hk0 hn) rfl ⟨xge_f (show (nI m).toInt < (xg 0 h.2.1 14 7).toInt by rw [em, emi]; omega), trivial⟩ (fun hq => ?_)
    refine xp_run hq rfl rfl (so_run (d := d) hk0.1.1 (hk_n hk0 hn) (m := m) (by omega) hk12 hcl) ?_
    rintro v h1 ⟨rfl, w, rfl, w1, w2⟩
    have wk : w < k := by
      apply w2
      obtain ⟨f, f1, f2, f3⟩ := fc_ch hJ m (by omega)
      obtain ⟨c, c1, c2⟩ := hg0 f (by omega) f2
      refine ⟨c, c1, f, by rw [hg]; exact c2, by omega, ?_⟩
      rintro ⟨z1, z2⟩
      rcases f3 with rfl | ⟨f3, f4⟩
      · exact z2 z1
      · exact z2 ((ege _ _).mpr f4)
    have ewi := nI_toInt (n := w) (by omega)
    have ewc : (nI w).toNatClampNeg = w := nI_clamp (by omega)
    have hinw := xin_n (k := w) (n := 12) (by omega) (by omega)
    refine xa_tn 106 [0, 1] [(0, .ref 21), (1, .int (nI m))] [] (xh_ui h 23 (nI m).toNatClampNeg (nI w)) [] 3 hq rfl ⟨hinm, trivial⟩ (fun _ => ?_)
    rw [emc]
    have hk2 : hk fc_md h0 (xh_ui h 23 m (nI w)) := hk_ui (s := (1, 12)) (lo := 0) (hi := 11) hk0 hn rfl rfl (by omega) (by omega) rfl rfl
    have c8 : xg 0 (xh_ui h 23 m (nI w)).2.1 21 8 = nI k := by rw [gx_o (by decide)]; exact hcl
    have c24 : ∀ c, xg 0 (xh_ui h 23 m (nI w)).2.1 24 c = g c := fun c => by rw [gx_o (by decide)]; exact hg c
    have c25 : ∀ j, xg 0 (xh_ui h 23 m (nI w)).2.1 25 j = xg 0 h.2.1 25 j := fun j => gx_o (by decide)
    have c23 : xg 0 (xh_ui h 23 m (nI w)).2.1 23 m = nI w := gx_s
    generalize xh_ui h 23 m (nI w) = h2 at hk2 c8 c24 c25 c23 ⊢
    have inw : xe_in (xg 0 h2.2.1 23 (nI m).toNatClampNeg) 12 = true := by rw [emc, c23]; exact hinw
    refine xa_tn 84 [0, 1] [(0, .ref 21), (1, .int ((nI m) + Int32.ofInt 1))] [] (xh_ui h2 25 (xg 0 h2.2.1 23 (nI m).toNatClampNeg).toNatClampNeg ((xg 0 h2.2.1 25 (xg 0 h2.2.1 23 (nI m).toNatClampNeg).toNatClampNeg) + (Int32.ofInt 1))) [] 15 (hk_q hk2 hn) rfl ⟨hinm, inw, inw, trivial⟩ (fun _ => ?_)
    rw [emc, c23, ewc, e1]
    have zw := hz w wk
    have zw2 := c25 w
    have ei := i_inc (x := xg 0 h2.2.1 25 w) (by rw [zw2]; omega)
    rw [zw2] at ei
    refine ih (m + 1) _ (by omega) (hk_ui (s := (1, 12)) (lo := 0) (hi := 12) hk2 hn rfl rfl (by rw [zw2]; omega) (by rw [zw2]; omega) rfl rfl) ?_ ?_ ?_
    · rw [gx_o (by decide)]
      exact c8
    · intro c
      rw [gx_o (by decide)]
      exact c24 c
    · intro j hj
      by_cases e : j = w
      · subst e
        rw [gx_s, zw2]
        omega
      · rw [gx_k e, c25]
        have := hz j hj
        omega
set_option maxRecDepth 100000 in
theorem as_h_X5_findClasses : a_spec a_tb aC_h_X5_findClasses := by
  intro d mi vs h σ hd hM hi hn ha _
  cases hM
  match vs, ha with
  | [v0], ha =>
    obtain ⟨⟨q, rfl, hq⟩, -⟩ := ha
    have eq : q = 21 := a_r_ob (t := 21) (by decide) hq
    subst eq
    have hd : 2 ≤ d := hd
    obtain ⟨d, rfl⟩ : ∃ d', d = d' + 2 := ⟨d - 2, by omega⟩
    have eb := a_flx (c := 14) (k := 7) (lo := 0) (hi := 12) hi.1 hn rfl rfl (by decide)
    have main : xt_P (d + 2) xi_X5_findClasses xmi_X5_findClasses 0 [(0, .ref 21)] [] h (fun v h' => v = none ∧ hk fc_md h h') := by
      refine xa_tn 7 [0, 1] [(0, .ref 21), (1, .int (Int32.ofInt 0))] [] (xh_ui h 21 8 (Int32.ofInt 0)) [] 7 (a_rq_of hi.1 hn) rfl trivial (fun _ => ?_)
      refine fc_1 hn ?_ (xg 0 h.2.1 14 7).toInt.toNat 0 0 _ (by omega) (hk_ui (s := (0, 5)) (lo := 0) (hi := 12) (hk_0 hi) hn rfl rfl (by decide) (by decide) rfl rfl) gx_s (Nat.le_refl _) (fun f hf => absurd hf (Nat.not_lt_zero f))
      intro h1 k hk1 c1 k12 f1
      refine fc_2 (g := fun c => xg 0 h1.2.1 24 c) hn k12 ?_ k 0 h1 (by omega) hk1 c1 (fun _ => rfl) (fun j hj => absurd hj (Nat.not_lt_zero j))
      intro h2 hk2 c2 g2 z2
      exact fc_3 (g := fun c => xg 0 h1.2.1 24 c) hn hi.2 k12 f1 (xg 0 h.2.1 14 7).toInt.toNat 0 h2 (by omega) hk2 c2 g2 (fun j hj => by have := z2 j hj; omega)
    obtain ⟨v, h', r, rfl, hk0⟩ := main
    exact ⟨none, h', r, hk0.1, hk0.2.1, ⟨_, List.mem_singleton.mpr rfl, rfl, a_fp0⟩, hk0.2.2⟩
end XFC
end
section
section XWK
/-- the table for heaps whose table of who is at least as strong is not ready -/
def a_tb2 : aT := a_tb ++ [[]]
theorem a_tb2_g (t : Nat) : a_tb2.getD t [] = a_tb.getD t [] := by
  have hl : a_tb.length = 72 := rfl
  unfold a_tb2
  rw [List.getD_eq_getElem?_getD, List.getD_eq_getElem?_getD]
  by_cases h : t < 72
  · rw [List.getElem?_append_left (by omega)]
  · rw [List.getElem?_append_right (by omega), List.getElem?_eq_none (l := a_tb) (by omega), hl]
    by_cases h2 : t = 72
    · subst h2
      rfl
    · rw [List.getElem?_eq_none (by show 1 ≤ t - 72; omega)]
theorem a_ent2 {s : Nat × Nat} {t k : Nat} : a_ent a_tb2 s t k = a_ent a_tb s t k := by
  unfold a_ent
  rw [a_tb2_g]
theorem a_inw2 {h : xh_H} : a_inw a_tb2 h ↔ a_inw a_tb h := by
  unfold a_inw
  constructor
  · intro z c s hs
    obtain ⟨g1, g2⟩ := z c s hs
    exact ⟨g1, fun k hk => by rw [← a_ent2]; exact g2 k hk⟩
  · intro z c s hs
    obtain ⟨g1, g2⟩ := z c s hs
    exact ⟨g1, fun k hk => by rw [a_ent2]; exact g2 k hk⟩
theorem a_J2 {h : xh_H} (hj : a_J a_tb h) : a_J a_tb2 h := ⟨hj.1, hj.2.1, hj.2.2.1, fun z => absurd z (by decide)⟩
theorem as_w_X7_holds : a_spec a_tb2 aC_m_X7_holds := a_meth (Sp := []) (hd := aH_m_X7_holds) (mi := xmi_X7_holds) 30 rfl a_sp_n (by decide +kernel) (by decide +kernel)
theorem as_w_X2_does : a_spec a_tb2 aC_m_X2_does := a_meth (Sp := [aC_m_X7_holds]) (hd := aH_m_X2_does) (mi := xmi_X2_does) 20 rfl (a_sp_c as_w_X7_holds a_sp_n) (by decide +kernel) (by decide +kernel)
theorem as_w_X2_isMinimal : a_spec a_tb2 aC_m_X2_isMinimal := a_meth (Sp := [aC_m_X2_does]) (hd := aH_m_X2_isMinimal) (mi := xmi_X2_isMinimal) 29 rfl (a_sp_c as_w_X2_does a_sp_n) (by decide +kernel) (by decide +kernel)
theorem as_w_X2_markNeeded : a_spec a_tb2 aC_m_X2_markNeeded := a_meth (Sp := []) (hd := aH_m_X2_markNeeded) (mi := xmi_X2_markNeeded) 32 rfl a_sp_n (by decide +kernel) (by decide +kernel)
theorem as_w_X2_turnsBy : a_spec a_tb2 aC_m_X2_turnsBy := a_meth (Sp := [aC_m_X7_holds]) (hd := aH_m_X2_turnsBy) (mi := xmi_X2_turnsBy) 28 rfl (a_sp_c as_w_X7_holds a_sp_n) (by decide +kernel) (by decide +kernel)
theorem as_w_X2_countSwings : a_spec a_tb2 aC_m_X2_countSwings := a_meth (Sp := [aC_m_X2_turnsBy]) (hd := aH_m_X2_countSwings) (mi := xmi_X2_countSwings) 18 rfl (a_sp_c as_w_X2_turnsBy a_sp_n) (by decide +kernel) (by decide +kernel)
def hw (md : List (Nat × Nat)) (h0 h : xh_H) : Prop := a_inv a_tb2 h ∧ h.1 = h0.1 ∧ a_fr md h0 h
variable {md md' : List (Nat × Nat)} {h0 h h' : xh_H} {c k : Nat} {x y : Int32}
theorem hw_0 (hi : a_inv a_tb2 h) : hw md h h := ⟨hi, rfl, fun _ _ _ _ => rfl⟩
theorem hw_n (hk0 : hw md h0 h) (hn : 72 ≤ h0.1.length) : 72 ≤ h.1.length := by rw [hk0.2.1]; exact hn
theorem hw_q (hk0 : hw md h0 h) (hn : 72 ≤ h0.1.length) : a_rq a_tb2 h := a_rq_of hk0.1.1 (hw_n hk0 hn)
theorem hw_g (hk0 : hw md h0 h) (hz : a_fz c = true) (hm : a_mb md c k = false) : xg 0 h.2.1 c k = xg 0 h0.2.1 c k := hk0.2.2 c k hz (a_mb_f hm)
theorem hw_ui {s : Nat × Nat} {lo hi : Int} (hk0 : hw md h0 h) (hn : 72 ≤ h0.1.length) (hs : a_sh[c]? = some s) (he : a_ent a_tb2 s c k = (0, lo, hi)) (h1 : lo ≤ x.toInt) (h2 : x.toInt ≤ hi) (hj : a_jc c k = false) (hm : a_mb md c k = true) : hw md h0 (xh_ui h c k x) := by
  have hc := a_sh_lt hs
  refine ⟨⟨a_inw_ui hk0.1.1 ((hw_q hk0 hn).2.1 c s hs) (by rw [a_tg_lt hc]; exact he) h1 h2, a_J_ui hk0.1.2 hj⟩, hk0.2.1, ?_⟩
  intro c' k' hz hm'
  rw [← hk0.2.2 c' k' hz hm']
  by_cases e : c' = c
  · subst e
    by_cases e2 : k' = k
    · subst e2
      exact absurd (a_mb_t hm) hm'
    · exact xh_up_k e2
  · exact congrFun (xh_up_o e) k'
theorem hw_c (hk0 : hw md h0 h) (hi : a_inv a_tb2 h') (hl : h'.1 = h.1) (hf : a_fr md' h h') (hs : ∀ q, q ∈ md' → q ∈ md) : hw md h0 h' := by
  refine ⟨hi, hl.trans hk0.2.1, fun c k hz hm => ?_⟩
  rw [hf c k hz (fun z => hm (hs _ z))]
  exact hk0.2.2 c k hz hm
theorem a_elw {n : Nat} {lo hi : Int} (hi0 : a_inw a_tb2 h) (hn : 72 ≤ h.1.length) (hs : a_sh[c]? = some (1, n)) (he : a_ent a_tb2 (1, n) c 0 = (0, lo, hi)) (hk : k < n) : lo ≤ (xg 0 h.2.1 c k).toInt ∧ (xg 0 h.2.1 c k).toInt ≤ hi := by
  have h1 := (a_rq_of hi0 hn).2.1 c _ hs
  have g := (hi0 c _ h1).2 k hk
  rw [a_tg_lt (a_sh_lt hs), a_ent0 (fun z => by cases z), he] at g
  exact g
theorem a_flw {ci : Nat} {lo hi : Int} (hi0 : a_inw a_tb2 h) (hn : 72 ≤ h.1.length) (hs : a_sh[c]? = some (0, ci)) (he : a_ent a_tb2 (0, ci) c k = (0, lo, hi)) (hk : k < xh_N ci) : lo ≤ (xg 0 h.2.1 c k).toInt ∧ (xg 0 h.2.1 c k).toInt ≤ hi := by
  have h1 := (a_rq_of hi0 hn).2.1 c _ hs
  have g := (hi0 c _ h1).2 k hk
  rw [a_tg_lt (a_sh_lt hs), he] at g
  exact g
end XWK
end
section
section XBZ
theorem a_r_sh {n t q : Nat} (h1 : t < 72) (h2 : t ≠ 11) (h3 : t ≠ 12) (h : a_r n t q) : q = t := by
  by_cases hq : q < 72
  · rw [← h.2, a_tg_lt hq]
  · rcases a_tg_ge hq with e | e
    · exact absurd (h.2.symm.trans e) h2
    · exact absurd (h.2.symm.trans e) h3
set_option maxRecDepth 100000 in
set_option maxHeartbeats 4000000 in
/-- X2.list over cell 15: the first loop -/
theorem li15_1 {d : Nat} {h0 : xh_H} {b : Int32} {Q : Option Value → xh_H → Prop} (hn : 72 ≤ h0.1.length) (K : ∀ h', hw [(15, 0), (18, 0)] h0 h' → (∀ j, j < 14 → (xg 0 h'.2.1 18 j).toInt = 0) → xt_P d xi_X2_list xmi_X2_list 24 [(0, .ref 14), (1, .ref 15), (2, .int b)] [] h' Q) : ∀ (n i : Nat) (h : xh_H), i + n = 14 → hw [(15, 0), (18, 0)] h0 h → (∀ j, j < i → (xg 0 h.2.1 18 j).toInt = 0) → xt_P d xi_X2_list xmi_X2_list 2 [(0, .ref 14), (1, .ref 15), (2, .int b), (3, .int (nI i))] [] h Q := by
  intro n
  induction n with
  | zero =>
    intro i h hi hk0 hz
    have e : i = 14 := by omega
    subst e
    refine xa_tn 24 [0, 1, 2] [(0, .ref 14), (1, .ref 15), (2, .int b)] [] h [true] 7 (hw_q hk0 hn) rfl ⟨by decide, trivial⟩ (fun _ => ?_)
    exact K h hk0 hz
  | succ n ih =>
    intro i h hi hk0 hz
    have e14 : i < 14 := by omega
    refine xa_tn 2 [0, 1, 2, 3] [(0, .ref 14), (1, .ref 15), (2, .int b), (3, .int ((nI i) + Int32.ofInt 1))] [] (xh_ui h 18 (nI i).toNatClampNeg (Int32.ofInt 0)) [false] 14 (hw_q hk0 hn) rfl ⟨nge_f (b := 14) (by omega) (by omega) e14, xin_n e14 (by omega), trivial⟩ (fun _ => ?_)
    rw [nI_clamp (by omega)]
    have e : nI i + Int32.ofInt 1 = nI (i + 1) := nI_1 i
    rw [e]
    refine ih (i + 1) _ (by omega) (hw_ui (s := (1, 14)) (lo := 0) (hi := 1000000) hk0 hn rfl rfl (by decide) (by decide) rfl rfl) ?_
    intro j hj
    by_cases ej : j = i
    · subst ej
      rw [gx_s]
      rfl
    · rw [gx_k ej]
      exact hz j (by omega)
set_option maxRecDepth 100000 in
set_option maxHeartbeats 4000000 in
/-- .. the second -/
theorem li15_2 {d : Nat} {h0 : xh_H} {b : Int32} {Q : Option Value → xh_H → Prop} (hn : 72 ≤ h0.1.length) (hb1 : 0 ≤ b.toInt) (hb2 : b.toInt ≤ 1) (hd : 3 ≤ d) (K : ∀ h', hw [(15, 0), (18, 0)] h0 h' → (∀ j, j < 14 → 0 ≤ (xg 0 h'.2.1 18 j).toInt ∧ (xg 0 h'.2.1 18 j).toInt ≤ 4096) → xt_P d xi_X2_list xmi_X2_list 64 [(0, .ref 14), (1, .ref 15), (2, .int b)] [] h' Q) : ∀ (n s : Nat) (h : xh_H), (s : Int) + n = (xg 0 h0.2.1 14 8).toInt + 1 → hw [(15, 0), (18, 0)] h0 h → (∀ j, j < 14 → 0 ≤ (xg 0 h.2.1 18 j).toInt ∧ (xg 0 h.2.1 18 j).toInt ≤ s) → xt_P d xi_X2_list xmi_X2_list 26 [(0, .ref 14), (1, .ref 15), (2, .int b), (3, .int (nI s))] [] h Q := by
  obtain ⟨d, rfl⟩ : ∃ d', d = d' + 1 := ⟨d - 1, by omega⟩
  intro n
  induction n with
  | zero =>
    intro s h hs hk0 hz
    have ef := hw_g (c := 14) (k := 8) hk0 rfl rfl
    have fb := a_flw (c := 14) (k := 8) (lo := 0) (hi := 4095) hk0.1.1 (hw_n hk0 hn) rfl rfl (by decide)
    rw [ef] at fb
    have es := nI_toInt (n := s) (by omega)
    refine xa_tn 64 [0, 1, 2] [(0, .ref 14), (1, .ref 15), (2, .int b)] [] h [true] 6 (hw_q hk0 hn) rfl ⟨xgt_t (by rw [ef, es]; omega), trivial⟩ (fun _ => ?_)
    refine K h hk0 (fun j hj => ?_)
    have := hz j hj
    omega
  | succ n ih =>
    intro s h hs hk0 hz
    have ef := hw_g (c := 14) (k := 8) hk0 rfl rfl
    have fb := a_flw (c := 14) (k := 8) (lo := 0) (hi := 4095) hk0.1.1 (hw_n hk0 hn) rfl rfl (by decide)
    rw [ef] at fb
    have es := nI_toInt (n := s) (by omega)
    have e : nI s + Int32.ofInt 1 = nI (s + 1) := nI_1 s
    refine xa_tn 37 [0, 1, 2, 3] [(0, .ref 14), (1, .ref 15), (2, .int b), (3, .int (nI s))] [.int b, .int (nI s), .ref 14] h [false] 9 (hw_q hk0 hn) rfl ⟨xgt_f (by rw [ef, es]; omega), trivial⟩ (fun hq => ?_)
    refine xp_int (C := aC_m_X2_isMinimal) (lo := 0) (hi := 1) (σ := fun _ => 0) as_w_X2_isMinimal hq hk0.1 rfl rfl rfl (by show 2 ≤ d; omega) ⟨a_av (by decide) hq.1, a_ai (by omega) (by omega), a_ai hb1 hb2, trivial⟩ a_fp0 rfl (fun x h1 x1 x2 i1 l1 f1 q1 => ?_)
    have hk1 : hw [(15, 0), (18, 0)] h0 h1 := hw_c hk0 i1 l1 f1 (fun _ z => nomatch z)
    have g1 : ∀ j, xg 0 h1.2.1 18 j = xg 0 h.2.1 18 j := fun j => fr_nil f1 rfl
    cases hc : xe_c .eq x 0 with
    | true =>
      refine xa_tn 26 [0, 1, 2, 3] [(0, .ref 14), (1, .ref 15), (2, .int b), (3, .int ((nI s) + Int32.ofInt 1))] [] h1 [true] 5 q1 rfl ⟨hc, trivial⟩ (fun _ => ?_)
      rw [e]
      refine ih (s + 1) h1 (by omega) hk1 (fun j hj => ?_)
      rw [g1]
      have := hz j hj
      omega
    | false =>
      refine xa_tn 48 [0, 1, 2, 3] [(0, .ref 14), (1, .ref 15), (2, .int b), (3, .int (nI s))] [.int (nI s), .ref 18] h1 [false] 6 q1 rfl ⟨hc, trivial⟩ (fun _ => ?_)
      refine xp_int (C := aC_bit) (lo := 0) (hi := 12) (σ := fun _ => 0) as_bit q1 i1 rfl rfl rfl (Nat.zero_le _) ⟨a_ai (by omega) (by omega), trivial⟩ a_fp0 rfl (fun y h2 y1 y2 i2 l2 f2 q2 => ?_)
      have hk2 : hw [(15, 0), (18, 0)] h0 h2 := hw_c hk1 i2 l2 f2 (fun _ z => nomatch z)
      have g2 : ∀ j, xg 0 h2.2.1 18 j = xg 0 h.2.1 18 j := fun j => by rw [← g1]; exact fr_nil f2 rfl
      obtain ⟨k, rfl, hk12, hk31⟩ := a_nk (m := 12) y1 y2
      have ek : nI k + Int32.ofInt 1 = nI (k + 1) := nI_1 k
      have hin : xe_in (nI k + Int32.ofInt 1) 14 = true := by rw [ek]; exact xin_n (by omega) (by omega)
      refine xa_tn 26 [0, 1, 2, 3] [(0, .ref 14), (1, .ref 15), (2, .int b), (3, .int ((nI s) + Int32.ofInt 1))] [] (xh_ui h2 18 (nI k + (Int32.ofInt 1)).toNatClampNeg ((xg 0 h2.2.1 18 (nI k + (Int32.ofInt 1)).toNatClampNeg) + (Int32.ofInt 1))) [] 11 q2 rfl ⟨hin, hin, trivial⟩ (fun _ => ?_)
      rw [e, ek, nI_clamp (by omega), g2]
      have hz1 := hz (k + 1) (by omega)
      have ei := i_inc (x := xg 0 h.2.1 18 (k + 1)) (by omega)
      refine ih (s + 1) _ (by omega) (hw_ui (s := (1, 14)) (lo := 0) (hi := 1000000) hk2 hn rfl rfl (by omega) (by omega) rfl rfl) ?_
      intro j hj
      by_cases ej : j = k + 1
      · subst ej
        rw [gx_s]
        omega
      · rw [gx_k ej, g2]
        have := hz j hj
        omega
set_option maxRecDepth 100000 in
set_option maxHeartbeats 4000000 in
/-- .. the third -/
theorem li15_3 {d : Nat} {h0 : xh_H} {b : Int32} {Q : Option Value → xh_H → Prop} (hn : 72 ≤ h0.1.length) (K : ∀ h', hw [(15, 0), (18, 0)] h0 h' → (∀ j, j < 14 → 0 ≤ (xg 0 h'.2.1 18 j).toInt ∧ (xg 0 h'.2.1 18 j).toInt ≤ 57344) → xt_P d xi_X2_list xmi_X2_list 98 [(0, .ref 14), (1, .ref 15), (2, .int b)] [] h' Q) : ∀ (n i : Nat) (h : xh_H), i + n = 14 → 1 ≤ i → hw [(15, 0), (18, 0)] h0 h → (∀ j, j < i → 0 ≤ (xg 0 h.2.1 18 j).toInt ∧ (xg 0 h.2.1 18 j).toInt ≤ 4096 * ((j : Int) + 1)) → (∀ j, i ≤ j → j < 14 → 0 ≤ (xg 0 h.2.1 18 j).toInt ∧ (xg 0 h.2.1 18 j).toInt ≤ 4096) → xt_P d xi_X2_list xmi_X2_list 66 [(0, .ref 14), (1, .ref 15), (2, .int b), (3, .int (nI i))] [] h Q := by
  intro n
  induction n with
  | zero =>
    intro i h hi h1 hk0 hz hy
    have e : i = 14 := by omega
    subst e
    refine xa_tn 98 [0, 1, 2] [(0, .ref 14), (1, .ref 15), (2, .int b)] [] h [true] 7 (hw_q hk0 hn) rfl ⟨by decide, trivial⟩ (fun _ => ?_)
    refine K h hk0 (fun j hj => ?_)
    have := hz j hj
    omega
  | succ n ih =>
    intro i h hi h1 hk0 hz hy
    have e14 : i < 14 := by omega
    have e : nI i + Int32.ofInt 1 = nI (i + 1) := nI_1 i
    obtain ⟨j0, rfl⟩ : ∃ j0, i = j0 + 1 := ⟨i - 1, by omega⟩
    have e0 : nI (j0 + 1) - Int32.ofInt 1 = nI j0 := by
      rw [show nI (j0 + 1) = nI j0 + Int32.ofInt 1 from (nI_1 j0).symm, Int32.add_sub_cancel]
    have hin := xin_n (k := j0 + 1) (n := 14) e14 (by omega)
    refine xa_tn 66 [0, 1, 2, 3] [(0, .ref 14), (1, .ref 15), (2, .int b), (3, .int ((nI (j0 + 1)) + Int32.ofInt 1))] [] (xh_ui h 18 (nI (j0 + 1)).toNatClampNeg ((xg 0 h.2.1 18 (nI (j0 + 1)).toNatClampNeg) + (xg 0 h.2.1 18 ((nI (j0 + 1)) - (Int32.ofInt 1)).toNatClampNeg))) [false] 22 (hw_q hk0 hn) rfl ⟨nge_f (b := 14) (by omega) (by omega) e14, hin, by rw [e0]; exact xin_n (by omega) (by omega), hin, trivial⟩ (fun _ => ?_)
    rw [e0, nI_clamp (by omega), nI_clamp (by omega), e]
    have z1 := hz j0 (by omega)
    have z2 := hy (j0 + 1) (Nat.le_refl _) e14
    have ea := i_add (x := xg 0 h.2.1 18 (j0 + 1)) (y := xg 0 h.2.1 18 j0) (by omega) (by omega)
    refine ih (j0 + 1 + 1) _ (by omega) (by omega) (hw_ui (s := (1, 14)) (lo := 0) (hi := 1000000) hk0 hn rfl rfl (by omega) (by omega) rfl rfl) ?_ ?_
    · intro j hj
      by_cases ej : j = j0 + 1
      · subst ej
        rw [gx_s]
        omega
      · rw [gx_k ej]
        exact hz j (by omega)
    · intro j hj1 hj2
      rw [gx_k (by omega)]
      exact hy j (by omega) hj2
set_option maxRecDepth 100000 in
set_option maxHeartbeats 4000000 in
/-- .. the last -/
theorem li15_4 {d : Nat} {h0 : xh_H} {b : Int32} {Q : Option Value → xh_H → Prop} (hn : 72 ≤ h0.1.length) (hb1 : 0 ≤ b.toInt) (hb2 : b.toInt ≤ 1) (hd : 3 ≤ d) (K : ∀ h' (f : Int32), hw [(15, 0), (18, 0)] h0 h' → xt_P d xi_X2_list xmi_X2_list 164 [] [.int 924, .int f] h' Q) : ∀ (n s : Nat) (f : Int32) (h : xh_H), (s : Int) + n = (xg 0 h0.2.1 14 8).toInt + 1 → hw [(15, 0), (18, 0)] h0 h → (∀ j, j < 14 → 0 ≤ (xg 0 h.2.1 18 j).toInt ∧ (xg 0 h.2.1 18 j).toInt ≤ 57344 + s) → xt_P d xi_X2_list xmi_X2_list 103 [(0, .ref 14), (1, .ref 15), (2, .int b), (3, .int f), (4, .int (nI s))] [] h Q := by
  obtain ⟨d, rfl⟩ : ∃ d', d = d' + 1 := ⟨d - 1, by omega⟩
  intro n
  induction n with
  | zero =>
    intro s f h hs hk0 hz
    have ef := hw_g (c := 14) (k := 8) hk0 rfl rfl
    have fb := a_flw (c := 14) (k := 8) (lo := 0) (hi := 4095) hk0.1.1 (hw_n hk0 hn) rfl rfl (by decide)
    rw [ef] at fb
    have es := nI_toInt (n := s) (by omega)
    refine xa_tn 164 [] [] [.int 924, .int f] h [true] 9 (hw_q hk0 hn) rfl ⟨xgt_t (by rw [ef, es]; omega), trivial⟩ (fun _ => ?_)
    exact K h f hk0
  | succ n ih =>
    intro s f h hs hk0 hz
    have ef := hw_g (c := 14) (k := 8) hk0 rfl rfl
    have fb := a_flw (c := 14) (k := 8) (lo := 0) (hi := 4095) hk0.1.1 (hw_n hk0 hn) rfl rfl (by decide)
    rw [ef] at fb
    have es := nI_toInt (n := s) (by omega)
    have e : nI s + Int32.ofInt 1 = nI (s + 1) := nI_1 s
    refine xa_tn 116 [0, 1, 2, 3, 4] [(0, .ref 14), (1, .ref 15), (2, .int b), (3, .int f), (4, .int (nI s))] [.int b, .int (nI s), .ref 14] h [false] 9 (hw_q hk0 hn) rfl ⟨xgt_f (by rw [ef, es]; omega), trivial⟩ (fun hq => ?_)
    refine xp_int (C := aC_m_X2_isMinimal) (lo := 0) (hi := 1) (σ := fun _ => 0) as_w_X2_isMinimal hq hk0.1 rfl rfl rfl (by show 2 ≤ d; omega) ⟨a_av (by decide) hq.1, a_ai (by omega) (by omega), a_ai hb1 hb2, trivial⟩ a_fp0 rfl (fun x h1 x1 x2 i1 l1 f1 q1 => ?_)
    have hk1 : hw [(15, 0), (18, 0)] h0 h1 := hw_c hk0 i1 l1 f1 (fun _ z => nomatch z)
    have g1 : ∀ j, xg 0 h1.2.1 18 j = xg 0 h.2.1 18 j := fun j => fr_nil f1 rfl
    cases hc : xe_c .eq x 0 with
    | true =>
      refine xa_tn 103 [0, 1, 2, 3, 4] [(0, .ref 14), (1, .ref 15), (2, .int b), (3, .int f), (4, .int ((nI s) + Int32.ofInt 1))] [] h1 [true] 5 q1 rfl ⟨hc, trivial⟩ (fun _ => ?_)
      rw [e]
      refine ih (s + 1) f h1 (by omega) hk1 (fun j hj => ?_)
      rw [g1]
      have := hz j hj
      omega
    | false =>
      refine xa_tn 128 [0, 1, 2, 3, 4] [(0, .ref 14), (1, .ref 15), (2, .int b), (3, .int f), (4, .int (nI s))] [.int (nI s), .ref 18] h1 [false] 6 q1 rfl ⟨hc, trivial⟩ (fun _ => ?_)
      refine xp_int (C := aC_bit) (lo := 0) (hi := 12) (σ := fun _ => 0) as_bit q1 i1 rfl rfl rfl (Nat.zero_le _) ⟨a_ai (by omega) (by omega), trivial⟩ a_fp0 rfl (fun y h2 y1 y2 i2 l2 f2 q2 => ?_)
      have hk2 : hw [(15, 0), (18, 0)] h0 h2 := hw_c hk1 i2 l2 f2 (fun _ z => nomatch z)
      have g2 : ∀ j, xg 0 h2.2.1 18 j = xg 0 h.2.1 18 j := fun j => by rw [← g1]; exact fr_nil f2 rfl
      obtain ⟨k, rfl, hk12, hk31⟩ := a_nk (m := 12) y1 y2
      have hin : xe_in (nI k) 14 = true := xin_n (by omega) (by omega)
      have ecl : (nI k).toNatClampNeg = k := nI_clamp hk31
      have hz1 := hz k (by omega)
      have ei := i_inc (x := xg 0 h.2.1 18 k) (by omega)
      have hk3 : hw [(15, 0), (18, 0)] h0 (xh_ui h2 18 k (xg 0 h.2.1 18 k + Int32.ofInt 1)) := hw_ui (s := (1, 14)) (lo := 0) (hi := 1000000) hk2 hn rfl rfl (by omega) (by omega) rfl rfl
      have hz3 : ∀ j, j < 14 → 0 ≤ (xg 0 (xh_ui h2 18 k (xg 0 h.2.1 18 k + Int32.ofInt 1)).2.1 18 j).toInt ∧ (xg 0 (xh_ui h2 18 k (xg 0 h.2.1 18 k + Int32.ofInt 1)).2.1 18 j).toInt ≤ 57344 + ((s + 1 : Nat) : Int) := by
        intro j hj
        by_cases ej : j = k
        · subst ej
          rw [gx_s]
          omega
        · rw [gx_k ej, g2]
          have := hz j hj
          omega
      cases hp : xe_c .ge (xg 0 h.2.1 18 k) 924 with
      | true =>
        refine xa_tn 103 [0, 1, 2, 3, 4] [(0, .ref 14), (1, .ref 15), (2, .int b), (3, .int (f + Int32.ofInt 1)), (4, .int ((nI s) + Int32.ofInt 1))] [] (xh_ui h2 18 (nI k).toNatClampNeg ((xg 0 h2.2.1 18 (nI k).toNatClampNeg) + (Int32.ofInt 1))) [true] 16 q2 rfl ⟨hin, hin, by rw [ecl, g2]; exact hp, trivial⟩ (fun _ => ?_)
        rw [e, ecl, g2]
        exact ih (s + 1) _ _ (by omega) hk3 hz3
      | false =>
        have hp2 : (xg 0 h.2.1 18 k).toInt < 924 := by
          have := a_ce (a_neg_ok hp)
          exact this
        obtain ⟨pl, epl, pl1, pl2⟩ := a_nk (x := xg 0 h.2.1 18 k) (m := 923) hz1.1 (by omega)
        refine xa_tn 103 [0, 1, 2, 3, 4] [(0, .ref 14), (1, .ref 15), (2, .int b), (3, .int (f + Int32.ofInt 1)), (4, .int ((nI s) + Int32.ofInt 1))] [] (xh_ui (xh_ui h2 18 (nI k).toNatClampNeg ((xg 0 h2.2.1 18 (nI k).toNatClampNeg) + (Int32.ofInt 1))) 15 (xg 0 h2.2.1 18 (nI k).toNatClampNeg).toNatClampNeg (nI s)) [false] 20 q2 rfl ⟨hin, hin, by rw [ecl, g2]; exact hp, by rw [ecl, g2, epl]; exact xin_n (by omega) pl2, trivial⟩ (fun _ => ?_)
        rw [e, ecl, g2]
        refine ih (s + 1) _ _ (by omega) (hw_ui (s := (1, 924)) (lo := 0) (hi := 4095) hk3 hn rfl rfl (by omega) (by omega) rfl rfl) ?_
        intro j hj
        rw [gx_o (by decide)]
        exact hz3 j hj
set_option maxRecDepth 100000 in
set_option maxHeartbeats 4000000 in
theorem li15_all {d : Nat} {h : xh_H} {b : Int32} (hi : a_inv a_tb2 h) (hn : 72 ≤ h.1.length) (hb1 : 0 ≤ b.toInt) (hb2 : b.toInt ≤ 1) (hd : 3 ≤ d) : xt_P d xi_X2_list xmi_X2_list 0 [(0, .ref 14), (1, .ref 15), (2, .int b)] [] h (fun v h' => hw [(15, 0), (18, 0)] h h' ∧ ∃ x : Int32, v = some (.int x) ∧ x.toInt ≤ 924) := by
  have fb := a_flw (c := 14) (k := 8) (lo := 0) (hi := 4095) hi.1 hn rfl rfl (by decide)
  refine xa_tn 2 [0, 1, 2, 3] [(0, .ref 14), (1, .ref 15), (2, .int b), (3, .int (Int32.ofInt 0))] [] h [] 4 (a_rq_of hi.1 hn) rfl trivial (fun _ => ?_)
  refine li15_1 hn ?_ 14 0 h rfl (hw_0 hi) (fun j hj => absurd hj (Nat.not_lt_zero j))
  intro h1 k1 z1
  refine xa_tn 26 [0, 1, 2, 3] [(0, .ref 14), (1, .ref 15), (2, .int b), (3, .int (Int32.ofInt 0))] [] h1 [] 4 (hw_q k1 hn) rfl trivial (fun _ => ?_)
  refine li15_2 hn hb1 hb2 hd ?_ ((xg 0 h.2.1 14 8).toInt.toNat + 1) 0 h1 (by omega) k1 (fun j hj => by have := z1 j hj; omega)
  intro h2 k2 z2
  refine xa_tn 66 [0, 1, 2, 3] [(0, .ref 14), (1, .ref 15), (2, .int b), (3, .int (Int32.ofInt 1))] [] h2 [] 4 (hw_q k2 hn) rfl trivial (fun _ => ?_)
  refine li15_3 hn ?_ 13 1 h2 rfl (Nat.le_refl _) k2 (fun j hj => by have := z2 j (by omega); omega) (fun j h1 hj => z2 j hj)
  intro h3 k3 z3
  refine xa_tn 103 [0, 1, 2, 3, 4] [(0, .ref 14), (1, .ref 15), (2, .int b), (3, .int (Int32.ofInt 0)), (4, .int (Int32.ofInt 0))] [] h3 [] 6 (hw_q k3 hn) rfl trivial (fun _ => ?_)
  refine li15_4 hn hb1 hb2 hd ?_ ((xg 0 h.2.1 14 8).toInt.toNat + 1) 0 (Int32.ofInt 0) h3 (by omega) k3 (fun j hj => by have := z3 j hj; omega)
  intro h4 f k4
  obtain ⟨d, rfl⟩ : ∃ d', d = d' + 1 := ⟨d - 1, by omega⟩
  refine xp_step (pc1 := 167) (lv1 := []) (st1 := [.int (if (924 : Int32) < f then 924 else f)]) (h1 := h4) rfl rfl rfl ?_
  refine xp_ret rfl rfl rfl ⟨k4, _, rfl, ?_⟩
  split
  · exact Int.le_refl _
  · rename_i hlt
    rw [Int32.lt_iff_toInt_lt] at hlt
    have : (924 : Int32).toInt = 924 := rfl
    omega
set_option maxRecDepth 100000 in
set_option maxHeartbeats 4000000 in
/-- X2.list over cell 16: the first loop -/
theorem li16_1 {d : Nat} {h0 : xh_H} {b : Int32} {Q : Option Value → xh_H → Prop} (hn : 72 ≤ h0.1.length) (K : ∀ h', hw [(16, 0), (18, 0)] h0 h' → (∀ j, j < 14 → (xg 0 h'.2.1 18 j).toInt = 0) → xt_P d xi_X2_list xmi_X2_list 24 [(0, .ref 14), (1, .ref 16), (2, .int b)] [] h' Q) : ∀ (n i : Nat) (h : xh_H), i + n = 14 → hw [(16, 0), (18, 0)] h0 h → (∀ j, j < i → (xg 0 h.2.1 18 j).toInt = 0) → xt_P d xi_X2_list xmi_X2_list 2 [(0, .ref 14), (1, .ref 16), (2, .int b), (3, .int (nI i))] [] h Q := by
  intro n
  induction n with
  | zero =>
    intro i h hi hk0 hz
    have e : i = 14 := by omega
    subst e
    refine xa_tn 24 [0, 1, 2] [(0, .ref 14), (1, .ref 16), (2, .int b)] [] h [true] 7 (hw_q hk0 hn) rfl ⟨by decide, trivial⟩ (fun _ => ?_)
    exact K h hk0 hz
  | succ n ih =>
    intro i h hi hk0 hz
    have e14 : i < 14 := by omega
    refine xa_tn 2 [0, 1, 2, 3] [(0, .ref 14), (1, .ref 16), (2, .int b), (3, .int ((nI i) + Int32.ofInt 1))] [] (xh_ui h 18 (nI i).toNatClampNeg (Int32.ofInt 0)) [false] 14 (hw_q hk0 hn) rfl ⟨nge_f (b := 14) (by omega) (by omega) e14, xin_n e14 (by omega), trivial⟩ (fun _ => ?_)
    rw [nI_clamp (by omega)]
    have e : nI i + Int32.ofInt 1 = nI (i + 1) := nI_1 i
    rw [e]
    refine ih (i + 1) _ (by omega) (hw_ui (s := (1, 14)) (lo := 0) (hi := 1000000) hk0 hn rfl rfl (by decide) (by decide) rfl rfl) ?_
    intro j hj
    by_cases ej : j = i
    · subst ej
      rw [gx_s]
      rfl
    · rw [gx_k ej]
      exact hz j (by omega)
set_option maxRecDepth 100000 in
set_option maxHeartbeats 4000000 in
/-- .. the second -/
theorem li16_2 {d : Nat} {h0 : xh_H} {b : Int32} {Q : Option Value → xh_H → Prop} (hn : 72 ≤ h0.1.length) (hb1 : 0 ≤ b.toInt) (hb2 : b.toInt ≤ 1) (hd : 3 ≤ d) (K : ∀ h', hw [(16, 0), (18, 0)] h0 h' → (∀ j, j < 14 → 0 ≤ (xg 0 h'.2.1 18 j).toInt ∧ (xg 0 h'.2.1 18 j).toInt ≤ 4096) → xt_P d xi_X2_list xmi_X2_list 64 [(0, .ref 14), (1, .ref 16), (2, .int b)] [] h' Q) : ∀ (n s : Nat) (h : xh_H), (s : Int) + n = (xg 0 h0.2.1 14 8).toInt + 1 → hw [(16, 0), (18, 0)] h0 h → (∀ j, j < 14 → 0 ≤ (xg 0 h.2.1 18 j).toInt ∧ (xg 0 h.2.1 18 j).toInt ≤ s) → xt_P d xi_X2_list xmi_X2_list 26 [(0, .ref 14), (1, .ref 16), (2, .int b), (3, .int (nI s))] [] h Q := by
  obtain ⟨d, rfl⟩ : ∃ d', d = d' + 1 := ⟨d - 1, by omega⟩
  intro n
  induction n with
  | zero =>
    intro s h hs hk0 hz
    have ef := hw_g (c := 14) (k := 8) hk0 rfl rfl
    have fb := a_flw (c := 14) (k := 8) (lo := 0) (hi := 4095) hk0.1.1 (hw_n hk0 hn) rfl rfl (by decide)
    rw [ef] at fb
    have es := nI_toInt (n := s) (by omega)
    refine xa_tn 64 [0, 1, 2] [(0, .ref 14), (1, .ref 16), (2, .int b)] [] h [true] 6 (hw_q hk0 hn) rfl ⟨xgt_t (by rw [ef, es]; omega), trivial⟩ (fun _ => ?_)
    refine K h hk0 (fun j hj => ?_)
    have := hz j hj
    omega
  | succ n ih =>
    intro s h hs hk0 hz
    have ef := hw_g (c := 14) (k := 8) hk0 rfl rfl
    have fb := a_flw (c := 14) (k := 8) (lo := 0) (hi := 4095) hk0.1.1 (hw_n hk0 hn) rfl rfl (by decide)
    rw [ef] at fb
    have es := nI_toInt (n := s) (by omega)
    have e : nI s + Int32.ofInt 1 = nI (s + 1) := nI_1 s
    refine xa_tn 37 [0, 1, 2, 3] [(0, .ref 14), (1, .ref 16), (2, .int b), (3, .int (nI s))] [.int b, .int (nI s), .ref 14] h [false] 9 (hw_q hk0 hn) rfl ⟨xgt_f (by rw [ef, es]; omega), trivial⟩ (fun hq => ?_)
    refine xp_int (C := aC_m_X2_isMinimal) (lo := 0) (hi := 1) (σ := fun _ => 0) as_w_X2_isMinimal hq hk0.1 rfl rfl rfl (by show 2 ≤ d; omega) ⟨a_av (by decide) hq.1, a_ai (by omega) (by omega), a_ai hb1 hb2, trivial⟩ a_fp0 rfl (fun x h1 x1 x2 i1 l1 f1 q1 => ?_)
    have hk1 : hw [(16, 0), (18, 0)] h0 h1 := hw_c hk0 i1 l1 f1 (fun _ z => nomatch z)
    have g1 : ∀ j, xg 0 h1.2.1 18 j = xg 0 h.2.1 18 j := fun j => fr_nil f1 rfl
    cases hc : xe_c .eq x 0 with
    | true =>
      refine xa_tn 26 [0, 1, 2, 3] [(0, .ref 14), (1, .ref 16), (2, .int b), (3, .int ((nI s) + Int32.ofInt 1))] [] h1 [true] 5 q1 rfl ⟨hc, trivial⟩ (fun _ => ?_)
      rw [e]
      refine ih (s + 1) h1 (by omega) hk1 (fun j hj => ?_)
      rw [g1]
      have := hz j hj
      omega
    | false =>
      refine xa_tn 48 [0, 1, 2, 3] [(0, .ref 14), (1, .ref 16), (2, .int b), (3, .int (nI s))] [.int (nI s), .ref 18] h1 [false] 6 q1 rfl ⟨hc, trivial⟩ (fun _ => ?_)
      refine xp_int (C := aC_bit) (lo := 0) (hi := 12) (σ := fun _ => 0) as_bit q1 i1 rfl rfl rfl (Nat.zero_le _) ⟨a_ai (by omega) (by omega), trivial⟩ a_fp0 rfl (fun y h2 y1 y2 i2 l2 f2 q2 => ?_)
      have hk2 : hw [(16, 0), (18, 0)] h0 h2 := hw_c hk1 i2 l2 f2 (fun _ z => nomatch z)
      have g2 : ∀ j, xg 0 h2.2.1 18 j = xg 0 h.2.1 18 j := fun j => by rw [← g1]; exact fr_nil f2 rfl
      obtain ⟨k, rfl, hk12, hk31⟩ := a_nk (m := 12) y1 y2
      have ek : nI k + Int32.ofInt 1 = nI (k + 1) := nI_1 k
      have hin : xe_in (nI k + Int32.ofInt 1) 14 = true := by rw [ek]; exact xin_n (by omega) (by omega)
      refine xa_tn 26 [0, 1, 2, 3] [(0, .ref 14), (1, .ref 16), (2, .int b), (3, .int ((nI s) + Int32.ofInt 1))] [] (xh_ui h2 18 (nI k + (Int32.ofInt 1)).toNatClampNeg ((xg 0 h2.2.1 18 (nI k + (Int32.ofInt 1)).toNatClampNeg) + (Int32.ofInt 1))) [] 11 q2 rfl ⟨hin, hin, trivial⟩ (fun _ => ?_)
      rw [e, ek, nI_clamp (by omega), g2]
      have hz1 := hz (k + 1) (by omega)
      have ei := i_inc (x := xg 0 h.2.1 18 (k + 1)) (by omega)
      refine ih (s + 1) _ (by omega) (hw_ui (s := (1, 14)) (lo := 0) (hi := 1000000) hk2 hn rfl rfl (by omega) (by omega) rfl rfl) ?_
      intro j hj
      by_cases ej : j = k + 1
      · subst ej
        rw [gx_s]
        omega
      · rw [gx_k ej, g2]
        have := hz j hj
        omega
set_option maxRecDepth 100000 in
set_option maxHeartbeats 4000000 in
/-- .. the third -/
theorem li16_3 {d : Nat} {h0 : xh_H} {b : Int32} {Q : Option Value → xh_H → Prop} (hn : 72 ≤ h0.1.length) (K : ∀ h', hw [(16, 0), (18, 0)] h0 h' → (∀ j, j < 14 → 0 ≤ (xg 0 h'.2.1 18 j).toInt ∧ (xg 0 h'.2.1 18 j).toInt ≤ 57344) → xt_P d xi_X2_list xmi_X2_list 98 [(0, .ref 14), (1, .ref 16), (2, .int b)] [] h' Q) : ∀ (n i : Nat) (h : xh_H), i + n = 14 → 1 ≤ i → hw [(16, 0), (18, 0)] h0 h → (∀ j, j < i → 0 ≤ (xg 0 h.2.1 18 j).toInt ∧ (xg 0 h.2.1 18 j).toInt ≤ 4096 * ((j : Int) + 1)) → (∀ j, i ≤ j → j < 14 → 0 ≤ (xg 0 h.2.1 18 j).toInt ∧ (xg 0 h.2.1 18 j).toInt ≤ 4096) → xt_P d xi_X2_list xmi_X2_list 66 [(0, .ref 14), (1, .ref 16), (2, .int b), (3, .int (nI i))] [] h Q := by
  intro n
  induction n with
  | zero =>
    intro i h hi h1 hk0 hz hy
    have e : i = 14 := by omega
    subst e
    refine xa_tn 98 [0, 1, 2] [(0, .ref 14), (1, .ref 16), (2, .int b)] [] h [true] 7 (hw_q hk0 hn) rfl ⟨by decide, trivial⟩ (fun _ => ?_)
    refine K h hk0 (fun j hj => ?_)
    have := hz j hj
    omega
  | succ n ih =>
    intro i h hi h1 hk0 hz hy
    have e14 : i < 14 := by omega
    have e : nI i + Int32.ofInt 1 = nI (i + 1) := nI_1 i
    obtain ⟨j0, rfl⟩ : ∃ j0, i = j0 + 1 := ⟨i - 1, by omega⟩
    have e0 : nI (j0 + 1) - Int32.ofInt 1 = nI j0 := by
      rw [show nI (j0 + 1) = nI j0 + Int32.ofInt 1 from (nI_1 j0).symm, Int32.add_sub_cancel]
    have hin := xin_n (k := j0 + 1) (n := 14) e14 (by omega)
    refine xa_tn 66 [0, 1, 2, 3] [(0, .ref 14), (1, .ref 16), (2, .int b), (3, .int ((nI (j0 + 1)) + Int32.ofInt 1))] [] (xh_ui h 18 (nI (j0 + 1)).toNatClampNeg ((xg 0 h.2.1 18 (nI (j0 + 1)).toNatClampNeg) + (xg 0 h.2.1 18 ((nI (j0 + 1)) - (Int32.ofInt 1)).toNatClampNeg))) [false] 22 (hw_q hk0 hn) rfl ⟨nge_f (b := 14) (by omega) (by omega) e14, hin, by rw [e0]; exact xin_n (by omega) (by omega), hin, trivial⟩ (fun _ => ?_)
    rw [e0, nI_clamp (by omega), nI_clamp (by omega), e]
    have z1 := hz j0 (by omega)
    have z2 := hy (j0 + 1) (Nat.le_refl _) e14
    have ea := i_add (x := xg 0 h.2.1 18 (j0 + 1)) (y := xg 0 h.2.1 18 j0) (by omega) (by omega)
    refine ih (j0 + 1 + 1) _ (by omega) (by omega) (hw_ui (s := (1, 14)) (lo := 0) (hi := 1000000) hk0 hn rfl rfl (by omega) (by omega) rfl rfl) ?_ ?_
    · intro j hj
      by_cases ej : j = j0 + 1
      · subst ej
        rw [gx_s]
        omega
      · rw [gx_k ej]
        exact hz j (by omega)
    · intro j hj1 hj2
      rw [gx_k (by omega)]
      exact hy j (by omega) hj2
set_option maxRecDepth 100000 in
set_option maxHeartbeats 4000000 in
/-- .. the last -/
theorem li16_4 {d : Nat} {h0 : xh_H} {b : Int32} {Q : Option Value → xh_H → Prop} (hn : 72 ≤ h0.1.length) (hb1 : 0 ≤ b.toInt) (hb2 : b.toInt ≤ 1) (hd : 3 ≤ d) (K : ∀ h' (f : Int32), hw [(16, 0), (18, 0)] h0 h' → xt_P d xi_X2_list xmi_X2_list 164 [] [.int 924, .int f] h' Q) : ∀ (n s : Nat) (f : Int32) (h : xh_H), (s : Int) + n = (xg 0 h0.2.1 14 8).toInt + 1 → hw [(16, 0), (18, 0)] h0 h → (∀ j, j < 14 → 0 ≤ (xg 0 h.2.1 18 j).toInt ∧ (xg 0 h.2.1 18 j).toInt ≤ 57344 + s) → xt_P d xi_X2_list xmi_X2_list 103 [(0, .ref 14), (1, .ref 16), (2, .int b), (3, .int f), (4, .int (nI s))] [] h Q := by
  obtain ⟨d, rfl⟩ : ∃ d', d = d' + 1 := ⟨d - 1, by omega⟩
  intro n
  induction n with
  | zero =>
    intro s f h hs hk0 hz
    have ef := hw_g (c := 14) (k := 8) hk0 rfl rfl
    have fb := a_flw (c := 14) (k := 8) (lo := 0) (hi := 4095) hk0.1.1 (hw_n hk0 hn) rfl rfl (by decide)
    rw [ef] at fb
    have es := nI_toInt (n := s) (by omega)
    refine xa_tn 164 [] [] [.int 924, .int f] h [true] 9 (hw_q hk0 hn) rfl ⟨xgt_t (by rw [ef, es]; omega), trivial⟩ (fun _ => ?_)
    exact K h f hk0
  | succ n ih =>
    intro s f h hs hk0 hz
    have ef := hw_g (c := 14) (k := 8) hk0 rfl rfl
    have fb := a_flw (c := 14) (k := 8) (lo := 0) (hi := 4095) hk0.1.1 (hw_n hk0 hn) rfl rfl (by decide)
    rw [ef] at fb
    have es := nI_toInt (n := s) (by omega)
    have e : nI s + Int32.ofInt 1 = nI (s + 1) := nI_1 s
    refine xa_tn 116 [0, 1, 2, 3, 4] [(0, .ref 14), (1, .ref 16), (2, .int b), (3, .int f), (4, .int (nI s))] [.int b, .int (nI s), .ref 14] h [false] 9 (hw_q hk0 hn) rfl ⟨xgt_f (by rw [ef, es]; omega), trivial⟩ (fun hq => ?_)
    refine xp_int (C := aC_m_X2_isMinimal) (lo := 0) (hi := 1) (σ := fun _ => 0) as_w_X2_isMinimal hq hk0.1 rfl rfl rfl (by show 2 ≤ d; omega) ⟨a_av (by decide) hq.1, a_ai (by omega) (by omega), a_ai hb1 hb2, trivial⟩ a_fp0 rfl (fun x h1 x1 x2 i1 l1 f1 q1 => ?_)
    have hk1 : hw [(16, 0), (18, 0)] h0 h1 := hw_c hk0 i1 l1 f1 (fun _ z => nomatch z)
    have g1 : ∀ j, xg 0 h1.2.1 18 j = xg 0 h.2.1 18 j := fun j => fr_nil f1 rfl
    cases hc : xe_c .eq x 0 with
    | true =>
      refine xa_tn 103 [0, 1, 2, 3, 4] [(0, .ref 14), (1, .ref 16), (2, .int b), (3, .int f), (4, .int ((nI s) + Int32.ofInt 1))] [] h1 [true] 5 q1 rfl ⟨hc, trivial⟩ (fun _ => ?_)
      rw [e]
      refine ih (s + 1) f h1 (by omega) hk1 (fun j hj => ?_)
      rw [g1]
      have := hz j hj
      omega
    | false =>
      refine xa_tn 128 [0, 1, 2, 3, 4] [(0, .ref 14), (1, .ref 16), (2, .int b), (3, .int f), (4, .int (nI s))] [.int (nI s), .ref 18] h1 [false] 6 q1 rfl ⟨hc, trivial⟩ (fun _ => ?_)
      refine xp_int (C := aC_bit) (lo := 0) (hi := 12) (σ := fun _ => 0) as_bit q1 i1 rfl rfl rfl (Nat.zero_le _) ⟨a_ai (by omega) (by omega), trivial⟩ a_fp0 rfl (fun y h2 y1 y2 i2 l2 f2 q2 => ?_)
      have hk2 : hw [(16, 0), (18, 0)] h0 h2 := hw_c hk1 i2 l2 f2 (fun _ z => nomatch z)
      have g2 : ∀ j, xg 0 h2.2.1 18 j = xg 0 h.2.1 18 j := fun j => by rw [← g1]; exact fr_nil f2 rfl
      obtain ⟨k, rfl, hk12, hk31⟩ := a_nk (m := 12) y1 y2
      have hin : xe_in (nI k) 14 = true := xin_n (by omega) (by omega)
      have ecl : (nI k).toNatClampNeg = k := nI_clamp hk31
      have hz1 := hz k (by omega)
      have ei := i_inc (x := xg 0 h.2.1 18 k) (by omega)
      have hk3 : hw [(16, 0), (18, 0)] h0 (xh_ui h2 18 k (xg 0 h.2.1 18 k + Int32.ofInt 1)) := hw_ui (s := (1, 14)) (lo := 0) (hi := 1000000) hk2 hn rfl rfl (by omega) (by omega) rfl rfl
      have hz3 : ∀ j, j < 14 → 0 ≤ (xg 0 (xh_ui h2 18 k (xg 0 h.2.1 18 k + Int32.ofInt 1)).2.1 18 j).toInt ∧ (xg 0 (xh_ui h2 18 k (xg 0 h.2.1 18 k + Int32.ofInt 1)).2.1 18 j).toInt ≤ 57344 + ((s + 1 : Nat) : Int) := by
        intro j hj
        by_cases ej : j = k
        · subst ej
          rw [gx_s]
          omega
        · rw [gx_k ej, g2]
          have := hz j hj
          omega
      cases hp : xe_c .ge (xg 0 h.2.1 18 k) 924 with
      | true =>
        refine xa_tn 103 [0, 1, 2, 3, 4] [(0, .ref 14), (1, .ref 16), (2, .int b), (3, .int (f + Int32.ofInt 1)), (4, .int ((nI s) + Int32.ofInt 1))] [] (xh_ui h2 18 (nI k).toNatClampNeg ((xg 0 h2.2.1 18 (nI k).toNatClampNeg) + (Int32.ofInt 1))) [true] 16 q2 rfl ⟨hin, hin, by rw [ecl, g2]; exact hp, trivial⟩ (fun _ => ?_)
        rw [e, ecl, g2]
        exact ih (s + 1) _ _ (by omega) hk3 hz3
      | false =>
        have hp2 : (xg 0 h.2.1 18 k).toInt < 924 := by
          have := a_ce (a_neg_ok hp)
          exact this
        obtain ⟨pl, epl, pl1, pl2⟩ := a_nk (x := xg 0 h.2.1 18 k) (m := 923) hz1.1 (by omega)
        refine xa_tn 103 [0, 1, 2, 3, 4] [(0, .ref 14), (1, .ref 16), (2, .int b), (3, .int (f + Int32.ofInt 1)), (4, .int ((nI s) + Int32.ofInt 1))] [] (xh_ui (xh_ui h2 18 (nI k).toNatClampNeg ((xg 0 h2.2.1 18 (nI k).toNatClampNeg) + (Int32.ofInt 1))) 16 (xg 0 h2.2.1 18 (nI k).toNatClampNeg).toNatClampNeg (nI s)) [false] 20 q2 rfl ⟨hin, hin, by rw [ecl, g2]; exact hp, by rw [ecl, g2, epl]; exact xin_n (by omega) pl2, trivial⟩ (fun _ => ?_)
        rw [e, ecl, g2]
        refine ih (s + 1) _ _ (by omega) (hw_ui (s := (1, 924)) (lo := 0) (hi := 4095) hk3 hn rfl rfl (by omega) (by omega) rfl rfl) ?_
        intro j hj
        rw [gx_o (by decide)]
        exact hz3 j hj
set_option maxRecDepth 100000 in
set_option maxHeartbeats 4000000 in
theorem li16_all {d : Nat} {h : xh_H} {b : Int32} (hi : a_inv a_tb2 h) (hn : 72 ≤ h.1.length) (hb1 : 0 ≤ b.toInt) (hb2 : b.toInt ≤ 1) (hd : 3 ≤ d) : xt_P d xi_X2_list xmi_X2_list 0 [(0, .ref 14), (1, .ref 16), (2, .int b)] [] h (fun v h' => hw [(16, 0), (18, 0)] h h' ∧ ∃ x : Int32, v = some (.int x) ∧ x.toInt ≤ 924) := by
  have fb := a_flw (c := 14) (k := 8) (lo := 0) (hi := 4095) hi.1 hn rfl rfl (by decide)
  refine xa_tn 2 [0, 1, 2, 3] [(0, .ref 14), (1, .ref 16), (2, .int b), (3, .int (Int32.ofInt 0))] [] h [] 4 (a_rq_of hi.1 hn) rfl trivial (fun _ => ?_)
  refine li16_1 hn ?_ 14 0 h rfl (hw_0 hi) (fun j hj => absurd hj (Nat.not_lt_zero j))
  intro h1 k1 z1
  refine xa_tn 26 [0, 1, 2, 3] [(0, .ref 14), (1, .ref 16), (2, .int b), (3, .int (Int32.ofInt 0))] [] h1 [] 4 (hw_q k1 hn) rfl trivial (fun _ => ?_)
  refine li16_2 hn hb1 hb2 hd ?_ ((xg 0 h.2.1 14 8).toInt.toNat + 1) 0 h1 (by omega) k1 (fun j hj => by have := z1 j hj; omega)
  intro h2 k2 z2
  refine xa_tn 66 [0, 1, 2, 3] [(0, .ref 14), (1, .ref 16), (2, .int b), (3, .int (Int32.ofInt 1))] [] h2 [] 4 (hw_q k2 hn) rfl trivial (fun _ => ?_)
  refine li16_3 hn ?_ 13 1 h2 rfl (Nat.le_refl _) k2 (fun j hj => by have := z2 j (by omega); omega) (fun j h1 hj => z2 j hj)
  intro h3 k3 z3
  refine xa_tn 103 [0, 1, 2, 3, 4] [(0, .ref 14), (1, .ref 16), (2, .int b), (3, .int (Int32.ofInt 0)), (4, .int (Int32.ofInt 0))] [] h3 [] 6 (hw_q k3 hn) rfl trivial (fun _ => ?_)
  refine li16_4 hn hb1 hb2 hd ?_ ((xg 0 h.2.1 14 8).toInt.toNat + 1) 0 (Int32.ofInt 0) h3 (by omega) k3 (fun j hj => by have := z3 j hj; omega)
  intro h4 f k4
  obtain ⟨d, rfl⟩ : ∃ d', d = d' + 1 := ⟨d - 1, by omega⟩
  refine xp_step (pc1 := 167) (lv1 := []) (st1 := [.int (if (924 : Int32) < f then 924 else f)]) (h1 := h4) rfl rfl rfl ?_
  refine xp_ret rfl rfl rfl ⟨k4, _, rfl, ?_⟩
  split
  · exact Int.le_refl _
  · rename_i hlt
    rw [Int32.lt_iff_toInt_lt] at hlt
    have : (924 : Int32).toInt = 924 := rfl
    omega
end XBZ
end
section
section XHO
variable {mid nL d pc c ci k t len rK ri idx b : Nat} {mi : xm_M} {lv : List (Nat × Value)} {st q : List Value} {h : xh_H} {Q : Option Value → xh_H → Prop}
def ty_rf (t : FieldType) : Bool := match t with
  | .object _ => true
  | .array _ => true
  | _ => false
/-- a reference is read -/
theorem xe_gr (hs : h.1[c]? = some (0, ci)) (hty : ty_rf (xh_ty ci k) = true) (hg : xg none h.2.2.2 c k = some t) : xe_2 none nL (.getfield idx, len, ci, k, rK, ri) d pc lv (.ref c :: q) h 0 0 = some (pc + 3, lv, .ref t :: q, h, 0, 0) := by
  have e : xh_get h c (xh_ty ci k) k = .ref t := by
    revert hty
    cases xh_ty ci k <;> intro hty <;> first
      | (cases hty; done)
      | (show va_rf (xg none h.2.2.2 c k) = _; rw [hg]; rfl)
  have e1 : xe_1 nL (.getfield idx, len, ci, k, rK, ri) pc lv (.ref c :: q) h 0 0 = some (pc + 3, lv, .ref t :: q, h, 0, 0) := by
    unfold xe_1 xp_r
    try dsimp only
    rw [hs]
    show (cond (Nat.beq ci ci) _ _) = _
    rw [Nat.beq_refl, e]
    rfl
  unfold xe_2
  rw [e1]
/-- a reference is written -/
theorem xe_pr (hs : h.1[c]? = some (0, ci)) (hty : ty_rf (xh_ty ci k) = true) : xe_2 none nL (.putfield idx, len, ci, k, rK, ri) d pc lv (.ref t :: .ref c :: q) h 0 0 = some (pc + 3, lv, q, xh_ur h c k (some t), 0, 0) := by
  have e : xe_put h c (xh_ty ci k) k (.ref t) = some (xh_ur h c k (some t)) := by
    revert hty
    cases xh_ty ci k <;> intro hty <;> first
      | (cases hty; done)
      | rfl
  have e1 : xe_1 nL (.putfield idx, len, ci, k, rK, ri) pc lv (.ref t :: .ref c :: q) h 0 0 = some (pc + 3, lv, q, xh_ur h c k (some t), 0, 0) := by
    unfold xe_1 xp_vr
    try dsimp only
    rw [hs]
    show (cond (Nat.beq ci ci) _ _) = _
    rw [Nat.beq_refl, e]
    rfl
  unfold xe_2
  rw [e1]
/-- a long is read -/
theorem xe_la {i : Int32} {n ra rb : Nat} (hs : h.1[c]? = some (4, n)) (hi : xe_in i n = true) : xe_2 none nL (.laload, len, ra, rb, rK, ri) d pc lv (.int i :: .ref c :: q) h 0 0 = some (pc + 1, lv, .long (xg 0 h.2.2.1 c i.toNatClampNeg) :: q, h, 0, 0) := by
  have e1 : xe_1 nL (.laload, len, ra, rb, rK, ri) pc lv (.int i :: .ref c :: q) h 0 0 = some (pc + 1, lv, .long (xg 0 h.2.2.1 c i.toNatClampNeg) :: q, h, 0, 0) := by
    unfold xe_1 xp_ir
    try dsimp only
    rw [hs]
    show (cond (xe_in i n) _ _) = _
    rw [hi]
    rfl
  unfold xe_2
  rw [e1]
/-- a call's arguments, by the receiver's class -/
def xa_cs (r : xr_R) (st : List Value) (ci : Nat) : Option (xm_M × List Value × List Value) := match xM r.2.2.1 with
  | none => none
  | some mi => (match r.1 with
    | .invokevirtual _ => (match st.drop mi.2.2.2.2.2.2.1 with
      | .ref b :: q => cond (Nat.beq r.2.2.2.1 0 && (Nat.beq ci mi.2.2.2.2.2.2.2 && (Nat.beq mi.2.2.2.2.2.1 0 && (Nat.beq (st.take mi.2.2.2.2.2.2.1).length mi.2.2.2.2.2.2.1 && (Nat.ble (xm_cat q) 8 && Nat.ble (xm_cat (.ref b :: (st.take mi.2.2.2.2.2.2.1).reverse)) mi.2.2.2.1))))) (some (mi, .ref b :: (st.take mi.2.2.2.2.2.2.1).reverse, q)) none
      | _ => none)
    | _ => none)
theorem xa_cs_ok {r : xr_R} {mj : xm_M} {As : List Value} (hs : h.1[b]? = some (0, ci)) (he : xa_cs r st ci = some (mj, .ref b :: As, q)) : xe_cl xM r st h = some (mj, .ref b :: As, q) ∧ xe_2 none nL r (d + 1) pc lv st h 0 0 = none ∧ xe_isr r.1 = false := by
  unfold xa_cs at he
  cases hM : xM r.2.2.1 with
  | none => rw [hM] at he; cases he
  | some mi =>
    rw [hM] at he
    dsimp only at he
    obtain ⟨i, len, ra, rb, rK, ri⟩ := r
    dsimp only at he hM
    split at he
    · rename_i idx
      split at he
      · rename_i b2 q2 hdr
        obtain ⟨c0, ce⟩ := xw_c he
        cases ce
        obtain ⟨c1, c2⟩ := xw_bb c0
        have hb := xw_beq c1
        subst hb
        refine ⟨?_, rfl, rfl⟩
        unfold xe_cl
        try dsimp only
        rw [hM]
        try dsimp only
        rw [hdr]
        try dsimp only
        rw [hs]
        show (cond (Nat.beq ci mj.2.2.2.2.2.2.2 && (Nat.beq mj.2.2.2.2.2.1 0 && (Nat.beq (st.take mj.2.2.2.2.2.2.1).length mj.2.2.2.2.2.2.1 && (Nat.ble (xm_cat q) 8 && Nat.ble (xm_cat (.ref b :: (st.take mj.2.2.2.2.2.2.1).reverse)) mj.2.2.2.1)))) (some (mj, .ref b :: (st.take mj.2.2.2.2.2.2.1).reverse, q)) none) = _
        rw [c2]
        rfl
      · cases he
    · cases he
theorem xp_runs {r : xr_R} {mj : xm_M} {As : List Value} {Q1 : Option Value → xh_H → Prop} (hs : h.1[b]? = some (0, ci)) (hr : xC mid pc = some r) (he : xa_cs r st ci = some (mj, .ref b :: As, q)) (hm : xt_P d r.2.2.1 mj 0 (lv_args 0 (.ref b :: As)) [] h Q1)
    (k : ∀ v h', Q1 v h' → xt_P (d + 1) mid mi (pc + 3) lv (v.toList ++ q) h' Q) : xt_P (d + 1) mid mi pc lv st h Q := by
  obtain ⟨e1, e2, e3⟩ := xa_cs_ok (d := d) (pc := pc) (lv := lv) (nL := mi.2.2.2.1) hs he
  obtain ⟨v, h', r1, p1⟩ := hm
  obtain ⟨v2, h2, r2, q2⟩ := k v h' p1
  exact ⟨v2, h2, xR_call (v := v) (h' := h') (mc := 0) (ms := 0) hr e3 e2 e1 r1 r2, q2⟩
/-- a statute and its bits, by their cells -/
theorem law_sh {q : Nat} (hi : a_inw a_tb h) (hq : a_r h.1.length 11 q) : h.1[q]? = some (0, 7) ∧ ∃ r, xg none h.2.2.2 q 1 = some r ∧ h.1[r]? = some (4, 64) := by
  obtain ⟨s, es⟩ : ∃ s, h.1[q]? = some s := ⟨_, List.getElem?_eq_getElem hq.1⟩
  obtain ⟨g1, g2⟩ := hi q s es
  rw [hq.2] at g1 g2
  have e : s = (0, 7) := (Option.some.inj g1).symm
  subst e
  obtain ⟨r, r1, r2⟩ := g2 1 (by decide)
  refine ⟨es, r, r1, ?_⟩
  obtain ⟨s, es⟩ : ∃ s, h.1[r]? = some s := ⟨_, List.getElem?_eq_getElem r2.1⟩
  obtain ⟨g1, -⟩ := hi r s es
  have r3 : a_tg r = 12 := r2.2
  rw [r3] at g1
  have e : s = (4, 64) := (Option.some.inj g1).symm
  rw [es, e]
/-- whether a set carries by the bits in cell r -/
def hv (h : xh_H) (r s : Nat) : Bool := !(decide (lg_cmp (((xg 0 h.2.2.1 r (s / 64)).toUInt64 >>> ((nI (s % 64)).toInt64.toUInt64 &&& Int64.toUInt64 63)).toInt64 &&& 1) 0 = 0))
set_option maxRecDepth 100000 in
set_option maxHeartbeats 4000000 in
theorem ho_run {d q r s : Nat} {h : xh_H} (hrq : a_rq a_tb h) (hs : h.1[q]? = some (0, 7)) (hg : xg none h.2.2.2 q 1 = some r) (hr : h.1[r]? = some (4, 64)) (s12 : s < 4096) : xt_P d xi_X7_holds xmi_X7_holds 0 [(0, .ref q), (1, .int (nI s))] [] h (fun v h' => h = h' ∧ v = some (.int (cond (hv h r s) 1 0))) := by
  have e6 : nI s >>> ((6 : Int32) &&& 31) = nI (s / 64) := nI_shr (a := s) (k := 6) (by omega) (by decide)
  have l6 : s / 64 < 64 := by omega
  have i6 := nI_toInt (n := s / 64) (by omega)
  have z0 : (0 : Int32).toInt = 0 := rfl
  have a63 : nI s &&& (63 : Int32) = nI (s % 64) := by
    rw [show (63 : Int32) = nI 63 from rfl, nI_and, show 63 = 2 ^ 6 - 1 from rfl, Nat.and_two_pow_sub_one_eq_mod]
  refine xa_tn 16 [1, 2] [(1, .int (nI s)), (2, .int ((nI s) >>> (6 &&& 31)))] [.ref q] h [false, false] 12 hrq rfl ⟨(show xe_c .lt ((nI s) >>> (6 &&& 31)) 0 = false by rw [e6]; exact xlt_f (by omega)), (show xe_c .ge ((nI s) >>> (6 &&& 31)) 64 = false by rw [e6]; exact nge_f (b := 64) (by omega) (by omega) l6), trivial⟩ (fun _ => ?_)
  rw [e6]
  refine xp_step rfl rfl (xe_gr hs rfl hg) ?_
  refine xa_tn 20 [1, 2] [(1, .int (nI s)), (2, .int (nI (s / 64)))] [.int (nI (s / 64)), .ref r] h [] 3 hrq rfl trivial (fun _ => ?_)
  refine xp_step rfl rfl (xe_la hr (xin_n l6 (by omega))) ?_
  rw [nI_clamp (by omega)]
  refine xa_tn 30 [] [] [.int (lg_cmp ((((xg 0 h.2.2.1 r (s / 64)).toUInt64 >>> (((nI s) &&& 63).toInt64.toUInt64 &&& Int64.toUInt64 63)).toInt64) &&& 1) 0)] h [] 10 hrq rfl trivial (fun _ => ?_)
  rw [a63]
  cases hc : decide (lg_cmp (((xg 0 h.2.2.1 r (s / 64)).toUInt64 >>> ((nI (s % 64)).toInt64.toUInt64 &&& Int64.toUInt64 63)).toInt64 &&& 1) 0 = 0) with
  | true =>
    refine xa_tn 38 [] [] [.int (Int32.ofInt 0)] h [true] 4 hrq rfl ⟨hc, trivial⟩ (fun _ => ?_)
    refine xp_ret rfl rfl rfl ⟨rfl, ?_⟩
    unfold hv
    rw [hc]
    rfl
  | false =>
    refine xa_tn 38 [] [] [.int (Int32.ofInt 1)] h [false] 5 hrq rfl ⟨hc, trivial⟩ (fun _ => ?_)
    refine xp_ret rfl rfl rfl ⟨rfl, ?_⟩
    unfold hv
    rw [hc]
    rfl
/-- of the sets below n without both: what carries with b carries with a -/
def al (h : xh_H) (r n a b : Nat) : Prop := ∀ s, s < n → s.testBit a = false → s.testBit b = false → hv h r (s ||| 2 ^ b) = true → hv h r (s ||| 2 ^ a) = true
theorem al_s0 {r n a b : Nat} (hg : al h r n a b) (hs : n.testBit a = true ∨ n.testBit b = true) : al h r (n + 1) a b := by
  intro s h1 h2 h3 h4
  by_cases e : s = n
  · subst e
    rcases hs with z | z
    · rw [h2] at z; cases z
    · rw [h3] at z; cases z
  · exact hg s (by omega) h2 h3 h4
theorem al_s1 {r n a b : Nat} (hg : al h r n a b) (hs : hv h r (n ||| 2 ^ b) = true → hv h r (n ||| 2 ^ a) = true) : al h r (n + 1) a b := by
  intro s h1 h2 h3 h4
  by_cases e : s = n
  · subst e
    exact hs h4
  · exact hg s (by omega) h2 h3 h4
theorem tb_p {a i : Nat} : (2 ^ a).testBit i = decide (a = i) := Nat.testBit_two_pow
theorem and_bits {s a b : Nat} : s &&& (2 ^ a ||| 2 ^ b) = 0 ↔ s.testBit a = false ∧ s.testBit b = false := by
  constructor
  · intro h
    constructor
    · have := congrArg (fun x => Nat.testBit x a) h
      simpa [Nat.testBit_and, Nat.testBit_or, tb_p] using this
    · have := congrArg (fun x => Nat.testBit x b) h
      simpa [Nat.testBit_and, Nat.testBit_or, tb_p] using this
  · rintro ⟨h1, h2⟩
    apply Nat.eq_of_testBit_eq
    intro i
    rw [Nat.testBit_and, Nat.testBit_or, tb_p, tb_p, Nat.zero_testBit]
    by_cases e1 : a = i
    · subst e1
      rw [h1]
      rfl
    · by_cases e2 : b = i
      · subst e2
        rw [h2]
        rfl
      · rw [decide_eq_false e1, decide_eq_false e2, Bool.or_false, Bool.and_false]
/-- who is at least as strong as whom: a preorder -/
theorem al_tr {r m a b c : Nat} (ha : a < m) (hb : b < m) (hc : c < m) (h1 : al h r (2 ^ m) a b) (h2 : al h r (2 ^ m) b c) : al h r (2 ^ m) a c := by
  intro s hs sa sc hsc
  by_cases ab : a = b
  · subst ab
    exact h2 s hs sa sc hsc
  · by_cases bc : b = c
    · subst bc
      exact h1 s hs sa sc hsc
    · by_cases ac : a = c
      · subst ac
        exact hsc
      · have pa : 2 ^ a < 2 ^ m := Nat.pow_lt_pow_right (by decide) ha
        have pb : 2 ^ b < 2 ^ m := Nat.pow_lt_pow_right (by decide) hb
        have pc : 2 ^ c < 2 ^ m := Nat.pow_lt_pow_right (by decide) hc
        cases sb : s.testBit b with
        | false => exact h1 s hs sa sb (h2 s hs sb sc hsc)
        | true =>
          have et : s = (s ^^^ 2 ^ b) ||| 2 ^ b := by
            apply Nat.eq_of_testBit_eq
            intro i
            rw [Nat.testBit_or, Nat.testBit_xor, tb_p]
            by_cases e : b = i
            · subst e
              rw [sb]
              simp
            · simp [e]
          have tl : s ^^^ 2 ^ b < 2 ^ m := Nat.xor_lt_two_pow hs pb
          have ta : (s ^^^ 2 ^ b).testBit a = false := by
            rw [Nat.testBit_xor, tb_p, sa, decide_eq_false (fun z => ab z.symm)]
            rfl
          have tbb : (s ^^^ 2 ^ b).testBit b = false := by
            rw [Nat.testBit_xor, tb_p, sb, decide_eq_true rfl]
            rfl
          have tc : (s ^^^ 2 ^ b).testBit c = false := by
            rw [Nat.testBit_xor, tb_p, sc, decide_eq_false bc]
            rfl
          generalize s ^^^ 2 ^ b = t at et tl ta tbb tc
          subst et
          have u1 : (t ||| 2 ^ c).testBit a = false := by
            rw [Nat.testBit_or, tb_p, ta, decide_eq_false (fun z => ac z.symm)]
            rfl
          have u2 : (t ||| 2 ^ c).testBit b = false := by
            rw [Nat.testBit_or, tb_p, tbb, decide_eq_false (fun z => bc z.symm)]
            rfl
          have w1 : (t ||| 2 ^ a).testBit b = false := by
            rw [Nat.testBit_or, tb_p, tbb, decide_eq_false ab]
            rfl
          have w2 : (t ||| 2 ^ a).testBit c = false := by
            rw [Nat.testBit_or, tb_p, tc, decide_eq_false ac]
            rfl
          have g1 := h1 (t ||| 2 ^ c) (Nat.or_lt_two_pow tl pc) u1 u2 (by
            rw [Nat.or_assoc, Nat.or_comm (2 ^ c), ← Nat.or_assoc]
            exact hsc)
          have g2 := h2 (t ||| 2 ^ a) (Nat.or_lt_two_pow tl pa) w1 w2 (by
            rw [Nat.or_assoc, Nat.or_comm (2 ^ a), ← Nat.or_assoc]
            exact g1)
          rw [Nat.or_assoc, Nat.or_comm (2 ^ b), ← Nat.or_assoc]
          exact g2
end XHO
end
section
section XAL
set_option maxRecDepth 100000 in
set_option maxHeartbeats 8000000 in
theorem ia_loop {d a b m q r : Nat} {h : xh_H} (hi : a_inw a_tb h) (hn : 72 ≤ h.1.length) (ha : a ≤ 11) (hb : b ≤ 11) (hm : m ≤ 12) (hf : xg 0 h.2.1 14 8 = nI (2 ^ m - 1)) (hl : xg none h.2.2.2 14 6 = some q) (hsq : h.1[q]? = some (0, 7)) (hbit : xg none h.2.2.2 q 1 = some r) (hsr : h.1[r]? = some (4, 64)) : ∀ (n s : Nat), s + n = 2 ^ m → al h r s a b → xt_P (d + 1) xi_X2_isAtLeast xmi_X2_isAtLeast 11 [(0, .ref 14), (1, .int (nI a)), (2, .int (nI b)), (3, .int (nI (2 ^ a ||| 2 ^ b))), (4, .int (nI s))] [] h (fun v h' => h = h' ∧ ∃ p : Bool, v = some (.int (cond p 1 0)) ∧ (p = true ↔ al h r (2 ^ m) a b)) := by
  have hq := a_rq_of hi hn
  have hs14 : h.1[14]? = some (0, 2) := hq.2.1 14 _ rfl
  have p12m : 2 ^ m ≤ 4096 := Nat.pow_le_pow_right (n := 2) (by decide) hm
  have pm0 : 0 < 2 ^ m := Nat.pow_pos (by decide)
  have fi := nI_toInt (n := 2 ^ m - 1) (by omega)
  intro n
  induction n with
  | zero =>
    intro s hs hal
    have e : s = 2 ^ m := by omega
    have si := nI_toInt (n := s) (by omega)
    refine xa_tn 68 [] [] [.int (Int32.ofInt 1)] h [true] 7 hq rfl ⟨xgt_t (show (xg 0 h.2.1 14 8).toInt < (nI s).toInt by rw [hf, fi, si]; omega), trivial⟩ (fun _ => ?_)
    rw [e] at hal
    exact xp_ret rfl rfl rfl ⟨rfl, true, rfl, Iff.intro (fun _ => hal) (fun _ => rfl)⟩
  | succ n ih =>
    intro s hs hal
    have si := nI_toInt (n := s) (by omega)
    have e1 : nI s + Int32.ofInt 1 = nI (s + 1) := nI_1 s
    have hgt : xe_c .gt (nI s) (xg 0 h.2.1 14 8) = false := xgt_f (by rw [hf, fi, si]; omega)
    have oa := nI_o1 (s := s) (a := a) ha
    have ob := nI_o1 (s := s) (a := b) hb
    have la := or12 (s := s) (a := a) (by omega) ha
    have lb := or12 (s := s) (a := b) (by omega) hb
    have ean : nI s &&& nI (2 ^ a ||| 2 ^ b) = nI (s &&& (2 ^ a ||| 2 ^ b)) := nI_and
    have lan : s &&& (2 ^ a ||| 2 ^ b) ≤ s := Nat.and_le_left
    have z0 : (0 : Int32).toInt = 0 := rfl
    by_cases hz : s &&& (2 ^ a ||| 2 ^ b) = 0
    · obtain ⟨sa, sb⟩ := and_bits.mp hz
      refine xa_tn 28 [0, 1, 2, 3, 4] [(0, .ref 14), (1, .int (nI a)), (2, .int (nI b)), (3, .int (nI (2 ^ a ||| 2 ^ b))), (4, .int (nI s))] [.ref 14] h [false, false] 11 hq rfl ⟨hgt, xne_f (show (nI s &&& nI (2 ^ a ||| 2 ^ b)).toInt = (0 : Int32).toInt by rw [ean, hz]; rfl), trivial⟩ (fun _ => ?_)
      refine xp_step rfl rfl (xe_gr hs14 rfl hl) ?_
      refine xa_tn 37 [0, 1, 2, 3, 4] [(0, .ref 14), (1, .int (nI a)), (2, .int (nI b)), (3, .int (nI (2 ^ a ||| 2 ^ b))), (4, .int (nI s))] [.int ((nI s) ||| ((Int32.ofInt 1) <<< ((nI b) &&& 31))), .ref q] h [] 7 hq rfl trivial (fun _ => ?_)
      rw [ob]
      refine xp_runs hsq rfl rfl (ho_run (d := d) hq hsq hbit hsr lb) ?_
      rintro v h1 ⟨rfl, rfl⟩
      cases hvb : hv h r (s ||| 2 ^ b) with
      | false =>
        refine xa_tn 11 [0, 1, 2, 3, 4] [(0, .ref 14), (1, .int (nI a)), (2, .int (nI b)), (3, .int (nI (2 ^ a ||| 2 ^ b))), (4, .int ((nI s) + Int32.ofInt 1))] [] h [true] 5 hq rfl ⟨rfl, trivial⟩ (fun _ => ?_)
        rw [e1]
        exact ih (s + 1) (by omega) (al_s1 hal (fun z => by rw [hvb] at z; cases z))
      | true =>
        refine xa_tn 44 [0, 1, 2, 3, 4] [(0, .ref 14), (1, .int (nI a)), (2, .int (nI b)), (3, .int (nI (2 ^ a ||| 2 ^ b))), (4, .int (nI s))] [.ref 14] h [false] 4 hq rfl ⟨rfl, trivial⟩ (fun _ => ?_)
        refine xp_step rfl rfl (xe_gr hs14 rfl hl) ?_
        refine xa_tn 53 [0, 1, 2, 3, 4] [(0, .ref 14), (1, .int (nI a)), (2, .int (nI b)), (3, .int (nI (2 ^ a ||| 2 ^ b))), (4, .int (nI s))] [.int ((nI s) ||| ((Int32.ofInt 1) <<< ((nI a) &&& 31))), .ref q] h [] 7 hq rfl trivial (fun _ => ?_)
        rw [oa]
        refine xp_runs hsq rfl rfl (ho_run (d := d) hq hsq hbit hsr la) ?_
        rintro v h1 ⟨rfl, rfl⟩
        cases hva : hv h r (s ||| 2 ^ a) with
        | true =>
          refine xa_tn 11 [0, 1, 2, 3, 4] [(0, .ref 14), (1, .int (nI a)), (2, .int (nI b)), (3, .int (nI (2 ^ a ||| 2 ^ b))), (4, .int ((nI s) + Int32.ofInt 1))] [] h [true] 5 hq rfl ⟨rfl, trivial⟩ (fun _ => ?_)
          rw [e1]
          exact ih (s + 1) (by omega) (al_s1 hal (fun _ => hva))
        | false =>
          refine xa_tn 60 [] [] [.int (Int32.ofInt 0)] h [false] 4 hq rfl ⟨rfl, trivial⟩ (fun _ => ?_)
          refine xp_ret rfl rfl rfl ⟨rfl, false, rfl, Iff.intro (fun z => Bool.noConfusion z) (fun z => ?_)⟩
          have := z s (by omega) sa sb hvb
          rw [hva] at this
          exact this
    · have hne : xe_c .ne (nI s &&& nI (2 ^ a ||| 2 ^ b)) 0 = true := xne_t (by rw [ean, nI_toInt (by omega), z0]; omega)
      refine xa_tn 11 [0, 1, 2, 3, 4] [(0, .ref 14), (1, .int (nI a)), (2, .int (nI b)), (3, .int (nI (2 ^ a ||| 2 ^ b))), (4, .int ((nI s) + Int32.ofInt 1))] [] h [false, true] 12 hq rfl ⟨hgt, hne, trivial⟩ (fun _ => ?_)
      rw [e1]
      refine ih (s + 1) (by omega) (al_s0 hal ?_)
      cases ta : s.testBit a with
      | true => exact Or.inl rfl
      | false =>
        cases tb2 : s.testBit b with
        | true => exact Or.inr rfl
        | false => exact absurd (and_bits.mpr ⟨ta, tb2⟩) hz
set_option maxRecDepth 100000 in
theorem ia_run {d a b m q r : Nat} {h : xh_H} (hi : a_inw a_tb h) (hn : 72 ≤ h.1.length) (ha : a ≤ 11) (hb : b ≤ 11) (hm : m ≤ 12) (hf : xg 0 h.2.1 14 8 = nI (2 ^ m - 1)) (hl : xg none h.2.2.2 14 6 = some q) (hsq : h.1[q]? = some (0, 7)) (hbit : xg none h.2.2.2 q 1 = some r) (hsr : h.1[r]? = some (4, 64)) : xt_P (d + 1) xi_X2_isAtLeast xmi_X2_isAtLeast 0 [(0, .ref 14), (1, .int (nI a)), (2, .int (nI b))] [] h (fun v h' => h = h' ∧ ∃ p : Bool, v = some (.int (cond p 1 0)) ∧ (p = true ↔ al h r (2 ^ m) a b)) := by
  refine xa_tn 11 [0, 1, 2, 3, 4] [(0, .ref 14), (1, .int (nI a)), (2, .int (nI b)), (3, .int (((Int32.ofInt 1) <<< ((nI a) &&& 31)) ||| ((Int32.ofInt 1) <<< ((nI b) &&& 31)))), (4, .int (Int32.ofInt 0))] [] h [] 12 (a_rq_of hi hn) rfl trivial (fun _ => ?_)
  rw [sh1 a (by omega), sh1 b (by omega), nI_or]
  exact ia_loop hi hn ha hb hm hf hl hsq hbit hsr (2 ^ m) 0 (by omega) (fun s hs => absurd hs (Nat.not_lt_zero s))
/-- only the table of who is at least as strong has changed -/
def hc (h0 h : xh_H) : Prop := a_inw a_tb h ∧ h.1 = h0.1 ∧ h.2.2 = h0.2.2 ∧ ∀ c k, c ≠ 19 → xg 0 h.2.1 c k = xg 0 h0.2.1 c k
theorem hc_ui {h0 h : xh_H} {k : Nat} {x : Int32} (g : hc h0 h) (hn : 72 ≤ h0.1.length) (h1 : 0 ≤ x.toInt) (h2 : x.toInt ≤ 4095) : hc h0 (xh_ui h 19 k x) := by
  obtain ⟨g1, g2, g3, g4⟩ := g
  have hn2 : 72 ≤ h.1.length := by rw [g2]; exact hn
  refine ⟨a_inw_ui (s := (1, 12)) (lo := 0) (hi := 4095) g1 ((a_rq_of g1 hn2).2.1 19 _ rfl) (by rw [a_tg_lt (by decide)]; rfl) h1 h2, g2, g3, fun c k hc2 => ?_⟩
  rw [gx_o hc2]
  exact g4 c k hc2
theorem al_c {h0 h : xh_H} {r n a b : Nat} (g : h.2.2 = h0.2.2) : al h r n a b ↔ al h0 r n a b := by
  have e : ∀ s, hv h r s = hv h0 r s := fun s => by unfold hv; rw [g]
  unfold al
  constructor
  · intro z s h1 h2 h3 h4
    rw [← e] at h4 ⊢
    exact z s h1 h2 h3 h4
  · intro z s h1 h2 h3 h4
    rw [e] at h4 ⊢
    exact z s h1 h2 h3 h4
set_option maxRecDepth 100000 in
set_option maxHeartbeats 8000000 in
theorem ca_in {d a m q r : Nat} {h0 : xh_H} {Q : Option Value → xh_H → Prop} (hn : 72 ≤ h0.1.length) (ha : a < m) (hm : m ≤ 12) (hmm : xg 0 h0.2.1 14 7 = nI m) (hf : xg 0 h0.2.1 14 8 = nI (2 ^ m - 1)) (hl : xg none h0.2.2.2 14 6 = some q) (hsq : h0.1[q]? = some (0, 7)) (hbit : xg none h0.2.2.2 q 1 = some r) (hsr : h0.1[r]? = some (4, 64)) {g : Nat → Int32}
    (K : ∀ h' w, hc h0 h' → (∀ c, c ≠ a → xg 0 h'.2.1 19 c = g c) → xg 0 h'.2.1 19 a = nI w → w < 4096 → (∀ b, b < m → (w.testBit b = true ↔ al h0 r (2 ^ m) a b)) → xt_P (d + 2) xi_X2_compareAll xmi_X2_compareAll 2 [(0, .ref 14), (1, .int (nI (a + 1)))] [] h' Q) :
    ∀ (n b : Nat) (h : xh_H) (w : Nat), b + n = m → hc h0 h → (∀ c, c ≠ a → xg 0 h.2.1 19 c = g c) → xg 0 h.2.1 19 a = nI w → w < 4096 → (∀ b', b' < b → (w.testBit b' = true ↔ al h0 r (2 ^ m) a b')) → (∀ b', b ≤ b' → w.testBit b' = false) → xt_P (d + 2) xi_X2_compareAll xmi_X2_compareAll 19 [(0, .ref 14), (1, .int (nI a)), (2, .int (nI b))] [] h Q := by
  have e1 : nI a + Int32.ofInt 1 = nI (a + 1) := nI_1 a
  have eac : (nI a).toNatClampNeg = a := nI_clamp (by omega)
  have hina := xin_n (k := a) (n := 12) (by omega) (by omega)
  intro n
  induction n with
  | zero =>
    intro b h w hb hh hg hw w1 w2 w3
    have e : b = m := by omega
    subst e
    have hq := a_rq_of hh.1 (by rw [hh.2.1]; exact hn)
    refine xa_tn 2 [0, 1] [(0, .ref 14), (1, .int ((nI a) + Int32.ofInt 1))] [] h [true] 8 hq rfl ⟨(show xe_c .ge (nI b) (xg 0 h.2.1 14 7) = true by rw [hh.2.2.2 14 7 (by decide), hmm]; exact nge_t (by omega) (by omega) (Nat.le_refl _)), trivial⟩ (fun _ => ?_)
    rw [e1]
    exact K h w hh hg hw w1 w2
  | succ n ih =>
    intro b h w hb hh hg hw w1 w2 w3
    have hn1 : 72 ≤ h.1.length := by rw [hh.2.1]; exact hn
    have hq := a_rq_of hh.1 hn1
    have e2 : nI b + Int32.ofInt 1 = nI (b + 1) := nI_1 b
    refine xa_tn 30 [0, 1, 2] [(0, .ref 14), (1, .int (nI a)), (2, .int (nI b))] [.int (nI b), .int (nI a), .ref 14] h [false] 9 hq rfl ⟨(show xe_c .ge (nI b) (xg 0 h.2.1 14 7) = false by rw [hh.2.2.2 14 7 (by decide), hmm]; exact nge_f (by omega) (by omega) (by omega)), trivial⟩ (fun _ => ?_)
    refine xp_run hq rfl rfl (ia_run (d := d) (m := m) (q := q) (r := r) hh.1 hn1 (by omega) (by omega) hm (by rw [hh.2.2.2 14 8 (by decide)]; exact hf) (by rw [hh.2.2.1]; exact hl) (by rw [hh.2.1]; exact hsq) (by rw [hh.2.2.1]; exact hbit) (by rw [hh.2.1]; exact hsr)) ?_
    rintro v h1 ⟨rfl, p, rfl, hp⟩
    rw [al_c hh.2.2.1] at hp
    cases p with
    | false =>
      refine xa_tn 19 [0, 1, 2] [(0, .ref 14), (1, .int (nI a)), (2, .int ((nI b) + Int32.ofInt 1))] [] h [true] 5 hq rfl ⟨rfl, trivial⟩ (fun _ => ?_)
      rw [e2]
      refine ih (b + 1) h w (by omega) hh hg hw w1 (fun b' hb' => ?_) (fun b' hb' => w3 b' (by omega))
      by_cases e : b' = b
      · subst e
        rw [w3 b' (Nat.le_refl _)]
        exact hp
      · exact w2 b' (by omega)
    | true =>
      refine xa_tn 19 [0, 1, 2] [(0, .ref 14), (1, .int (nI a)), (2, .int ((nI b) + Int32.ofInt 1))] [] (xh_ui h 19 (nI a).toNatClampNeg ((xg 0 h.2.1 19 (nI a).toNatClampNeg) ||| ((Int32.ofInt 1) <<< ((nI b) &&& 31)))) [false] 15 hq rfl ⟨rfl, hina, hina, trivial⟩ (fun _ => ?_)
      have lw := or12 (s := w) (a := b) w1 (by omega)
      rw [e2, eac, hw, nI_o1 (by omega)]
      have wi := nI_toInt (n := w ||| 2 ^ b) (by omega)
      refine ih (b + 1) _ (w ||| 2 ^ b) (by omega) (hc_ui hh hn (by omega) (by omega)) (fun c hc2 => by rw [gx_k hc2]; exact hg c hc2) gx_s lw (fun b' hb' => ?_) (fun b' hb' => ?_)
      · rw [Nat.testBit_or, tb_p]
        by_cases e : b' = b
        · subst e
          rw [decide_eq_true rfl, Bool.or_true]
          exact hp
        · rw [decide_eq_false (fun z => e z.symm), Bool.or_false]
          exact w2 b' (by omega)
      · rw [Nat.testBit_or, tb_p, w3 b' (by omega), decide_eq_false (by omega)]
        rfl
set_option maxRecDepth 100000 in
set_option maxHeartbeats 8000000 in
/-- compareAll: the table is who is at least as strong -/
theorem ca_loop {d m q r : Nat} {h0 : xh_H} (hn : 72 ≤ h0.1.length) (hm : m ≤ 12) (hmm : xg 0 h0.2.1 14 7 = nI m) (hf : xg 0 h0.2.1 14 8 = nI (2 ^ m - 1)) (hl : xg none h0.2.2.2 14 6 = some q) (hsq : h0.1[q]? = some (0, 7)) (hbit : xg none h0.2.2.2 q 1 = some r) (hsr : h0.1[r]? = some (4, 64)) : ∀ (n a : Nat) (h : xh_H), a + n = m → hc h0 h → (∀ a' b, a' < a → b < m → (a_ge h a' b ↔ al h0 r (2 ^ m) a' b)) → xt_P (d + 2) xi_X2_compareAll xmi_X2_compareAll 2 [(0, .ref 14), (1, .int (nI a))] [] h (fun v h' => v = none ∧ hc h0 h' ∧ ∀ a' b, a' < m → b < m → (a_ge h' a' b ↔ al h0 r (2 ^ m) a' b)) := by
  intro n
  induction n with
  | zero =>
    intro a h ha hh hg
    have e : a = m := by omega
    subst e
    have hq := a_rq_of hh.1 (by rw [hh.2.1]; exact hn)
    refine xa_tn 60 [] [] [] h [true] 6 hq rfl ⟨(show xe_c .ge (nI a) (xg 0 h.2.1 14 7) = true by rw [hh.2.2.2 14 7 (by decide), hmm]; exact nge_t (by omega) (by omega) (Nat.le_refl _)), trivial⟩ (fun _ => ?_)
    exact xp_ret rfl rfl rfl ⟨rfl, hh, hg⟩
  | succ n ih =>
    intro a h ha hh hg
    have hq := a_rq_of hh.1 (by rw [hh.2.1]; exact hn)
    refine xa_tn 19 [0, 1, 2] [(0, .ref 14), (1, .int (nI a)), (2, .int (Int32.ofInt 0))] [] (xh_ui h 19 (nI a).toNatClampNeg (Int32.ofInt 0)) [false] 13 hq rfl ⟨(show xe_c .ge (nI a) (xg 0 h.2.1 14 7) = false by rw [hh.2.2.2 14 7 (by decide), hmm]; exact nge_f (by omega) (by omega) (by omega)), xin_n (by omega) (by omega), trivial⟩ (fun _ => ?_)
    rw [nI_clamp (by omega)]
    refine ca_in (g := fun c => xg 0 h.2.1 19 c) hn (by omega) hm hmm hf hl hsq hbit hsr ?_ m 0 _ 0 (by omega) (hc_ui hh hn (by decide) (by decide)) (fun c hc2 => gx_k hc2) gx_s (by decide) (fun b' hb' => absurd hb' (Nat.not_lt_zero b')) (fun b' _ => Nat.zero_testBit b')
    intro h1 w hh1 g1 ew w1 w2
    refine ih (a + 1) h1 (by omega) hh1 (fun a' b ha' hb => ?_)
    by_cases e : a' = a
    · subst e
      unfold a_ge
      rw [ew, nI_toInt (by omega)]
      exact w2 b hb
    · unfold a_ge
      rw [g1 a' e]
      exact hg a' b (by omega) hb
set_option maxRecDepth 100000 in
theorem ca_run {d m q r : Nat} {h : xh_H} (hi : a_inw a_tb h) (hn : 72 ≤ h.1.length) (hm : m ≤ 12) (hmm : xg 0 h.2.1 14 7 = nI m) (hf : xg 0 h.2.1 14 8 = nI (2 ^ m - 1)) (hl : xg none h.2.2.2 14 6 = some q) (hsq : h.1[q]? = some (0, 7)) (hbit : xg none h.2.2.2 q 1 = some r) (hsr : h.1[r]? = some (4, 64)) : xt_P (d + 2) xi_X2_compareAll xmi_X2_compareAll 0 [(0, .ref 14)] [] h (fun v h' => v = none ∧ hc h h' ∧ ∀ a' b, a' < m → b < m → (a_ge h' a' b ↔ al h r (2 ^ m) a' b)) := by
  refine xa_tn 2 [0, 1] [(0, .ref 14), (1, .int (Int32.ofInt 0))] [] h [] 4 (a_rq_of hi hn) rfl trivial (fun _ => ?_)
  exact ca_loop hn hm hmm hf hl hsq hbit hsr m 0 h (by omega) ⟨hi, rfl, rfl, fun _ _ _ => rfl⟩ (fun a' b ha' => absurd ha' (Nat.not_lt_zero a'))
end XAL
end
section
section XB1
/-- X10_layOptions -/
def aC_m_X10_layOptions : aC := (xi_X10_layOptions, 2, [(2, 39, 0, none, [], [])], [(none, [((39, 35), 2, 4096)])], [(39, 35), (53, 0), (63, 0), (64, 0)], [])
def aH_m_X10_layOptions : List aH := [(0, [(0, (2, 39, 0, none, [], []))], [], [], 656, []),
  (14, [(0, (2, 39, 0, none, [], [])), (1, (0, 0, 6, some ((0, 1), 0), [], [])), (2, (0, 0, 7, some ((0, 2), 0), [], []))], [], [((39, 35), (0, 2, 4096, some ((40, 35), 0), [], []))], 654, [((-1), (0, 2)), ((-9), (0, 1))]),
  (6, [(0, (2, 39, 0, none, [], [])), (1, (0, 0, 7, some ((0, 1), 0), [], []))], [], [((39, 35), (0, 2, 4096, some ((40, 35), 0), [], []))], 655, [((-9), (0, 1))]),
  (102, [(0, (2, 39, 0, none, [], [])), (1, (0, 0, 6, some ((0, 1), 0), [], [])), (2, (0, 0, 6, some ((0, 2), 0), [], [])), (3, (0, 0, 7, some ((0, 3), 0), [], []))], [], [((39, 35), (0, 2, 4096, some ((40, 35), 0), [], []))], 581, [((-1), (0, 3)), ((-9), (0, 2)), ((-73), (0, 1))]),
  (86, [(0, (2, 39, 0, none, [], [])), (1, (0, 0, 7, some ((0, 1), 0), [], []))], [], [((39, 35), (0, 2, 4096, some ((40, 35), 0), [], []))], 583, [((-73), (0, 1))]),
  (94, [(0, (2, 39, 0, none, [], [])), (1, (0, 0, 6, some ((0, 1), 0), [], [])), (2, (0, 0, 7, some ((0, 2), 0), [], []))], [], [((39, 35), (0, 2, 4096, some ((40, 35), 0), [], []))], 582, [((-9), (0, 2)), ((-73), (0, 1))])]
theorem as_m_X10_layOptions : a_spec a_tb aC_m_X10_layOptions := a_meth (Sp := [aC_h_X10_lay, aC_m_X10_beatsOf]) (hd := aH_m_X10_layOptions) (mi := xmi_X10_layOptions) 45 rfl (a_sp_c as_h_X10_lay (a_sp_c as_m_X10_beatsOf a_sp_n)) (by decide +kernel) (by decide +kernel)
/-- X10_stronger -/
def aC_m_X10_stronger : aC := (xi_X10_stronger, 2, [(2, 39, 0, none, [], []), (0, (-2147483648), 2147483647, none, [], []), (0, (-2147483648), 2147483647, none, [], [])], [(some (0, (-2), 2, none, [], []), [])], [(39, 0), (39, 35), (53, 0)], [])
def aH_m_X10_stronger : List aH := [(0, [(0, (2, 39, 0, none, [], [])), (1, (0, (-2147483648), 2147483647, some ((0, 101), 0), [], [])), (2, (0, (-2147483648), 2147483647, some ((0, 102), 0), [], []))], [], [], 0, [])]
theorem as_m_X10_stronger : a_spec a_tb aC_m_X10_stronger := a_meth (Sp := [aC_m_X10_isMember, aC_h_X10_lay, aC_m_X10_held]) (hd := aH_m_X10_stronger) (mi := xmi_X10_stronger) 38 rfl (a_sp_c as_m_X10_isMember (a_sp_c as_h_X10_lay (a_sp_c as_m_X10_held a_sp_n))) (by decide +kernel) (by decide +kernel)
/-- X10_turns -/
def aC_m_X10_turns : aC := (xi_X10_turns, 2, [(2, 39, 0, none, [], []), (0, (-2147483648), 2147483647, none, [], [])], [(some (0, (-2147483648), 2147483647, none, [], []), [])], [(39, 0), (39, 35), (53, 0)], [])
def aH_m_X10_turns : List aH := [(0, [(0, (2, 39, 0, none, [], [])), (1, (0, (-2147483648), 2147483647, some ((0, 101), 0), [], []))], [], [], 0, [])]
theorem as_m_X10_turns : a_spec a_tb aC_m_X10_turns := a_meth (Sp := [aC_m_X10_isMember, aC_h_X10_lay, aC_m_X10_turnsOf]) (hd := aH_m_X10_turns) (mi := xmi_X10_turns) 18 rfl (a_sp_c as_m_X10_isMember (a_sp_c as_h_X10_lay (a_sp_c as_m_X10_turnsOf a_sp_n))) (by decide +kernel) (by decide +kernel)
/-- X10_share -/
def aC_m_X10_share : aC := (xi_X10_share, 2, [(2, 39, 0, none, [], []), (0, (-2147483648), 2147483647, none, [], []), (0, (-2147483648), 2147483647, none, [], []), (0, (-2147483648), 2147483647, none, [], [])], [(some (1, (-9223372036854775808), 9223372036854775807, none, [], []), [])], [(39, 0), (39, 35), (53, 0)], [])
def aH_m_X10_share : List aH := [(0, [(0, (2, 39, 0, none, [], [])), (1, (0, (-2147483648), 2147483647, some ((0, 101), 0), [], [])), (2, (0, (-2147483648), 2147483647, some ((0, 102), 0), [], [])), (3, (0, (-2147483648), 2147483647, some ((0, 103), 0), [], []))], [], [], 0, [])]
theorem as_m_X10_share : a_spec a_tb aC_m_X10_share := a_meth (Sp := [aC_m_X10_isMember, aC_m_X10_isIn_0_0_2_2, aC_m_X10_isIn_0_0_1_1, aC_m_X10_refuse, aC_h_X10_lay, aC_m_X10_shareOfSets, aC_m_X10_shareOfOrders, aC_m_X10_shareOfLeast]) (hd := aH_m_X10_share) (mi := xmi_X10_share) 39 rfl (a_sp_c as_m_X10_isMember (a_sp_c as_m_X10_isIn_0_0_2_2 (a_sp_c as_m_X10_isIn_0_0_1_1 (a_sp_c as_m_X10_refuse (a_sp_c as_h_X10_lay (a_sp_c as_m_X10_shareOfSets (a_sp_c as_m_X10_shareOfOrders (a_sp_c as_m_X10_shareOfLeast a_sp_n)))))))) (by decide +kernel) (by decide +kernel)
/-- X10_chance -/
def aC_m_X10_chance : aC := (xi_X10_chance, 2, [(2, 39, 0, none, [], []), (0, (-2147483648), 2147483647, none, [], [])], [(some (1, (-9223372036854775808), 9223372036854775807, none, [], []), [])], [(39, 0), (39, 35), (53, 0)], [])
def aH_m_X10_chance : List aH := [(0, [(0, (2, 39, 0, none, [], [])), (1, (0, (-2147483648), 2147483647, some ((0, 101), 0), [], []))], [], [((39, 4), (0, 1, 12, some ((40, 4), 0), [], [])), ((39, 35), (0, 0, 4096, some ((40, 35), 0), [], []))], 4097, []),
  (28, [(0, (2, 39, 0, none, [], [])), (1, (0, 0, 10, some ((0, 101), 0), [], [])), (2, (1, (-9223372036854775808), 9223372036854775807, none, [], [])), (4, (0, 0, 4096, some ((0, 4), 0), [], []))], [], [((39, 0), (0, 0, 0, some ((40, 0), 0), [], [])), ((39, 4), (0, 1, 12, some ((40, 4), 0), [], [])), ((39, 35), (0, 2, 4096, some ((40, 35), 0), [], []))], 4096, [((-1), (0, 4))])]
theorem as_m_X10_chance : a_spec a_tb aC_m_X10_chance := a_meth (Sp := [aC_m_X10_isIn_0_0_10_10, aC_h_X10_lay, aC_siz2, aC_siz, aC_m_X10_power]) (hd := aH_m_X10_chance) (mi := xmi_X10_chance) 36 rfl (a_sp_c as_m_X10_isIn_0_0_10_10 (a_sp_c as_h_X10_lay (a_sp_c as_siz2 (a_sp_c as_siz (a_sp_c as_m_X10_power a_sp_n))))) (by decide +kernel) (by decide +kernel)
/-- X10_ally -/
def aC_m_X10_ally : aC := (xi_X10_ally, 2, [(2, 39, 0, none, [], []), (0, (-2147483648), 2147483647, none, [], [])], [(some (0, (-1), 11, none, [], []), [])], [(39, 0), (39, 35), (53, 0)], [])
def aH_m_X10_ally : List aH := [(0, [(0, (2, 39, 0, none, [], [])), (1, (0, (-2147483648), 2147483647, some ((0, 101), 0), [], []))], [], [((39, 4), (0, 1, 12, some ((40, 4), 0), [], [])), ((39, 35), (0, 0, 4096, some ((40, 35), 0), [], []))], 53274, []),
  (50, [(0, (2, 39, 0, none, [], [])), (1, (0, 0, 11, some ((0, 101), 0), [], [])), (2, (0, (-1), 11, some ((0, 2), 0), [], [])), (3, (0, (-1), 2147483647, some ((0, 3), 0), [], [])), (4, (0, 0, 11, some ((0, 4), 0), [], [])), (5, (0, (-2147483648), 2147483647, some ((0, 5), 0), [], [])), (6, (0, 0, 4096, some ((0, 6), 0), [], []))], [], [((39, 0), (0, 0, 0, some ((40, 0), 0), [], [])), ((39, 4), (0, 1, 12, some ((40, 4), 0), [], [])), ((39, 35), (0, 2, 4096, some ((40, 35), 0), [], []))], 53272, [((-1), (0, 6)), ((-4098), (0, 4))]),
  (26, [(0, (2, 39, 0, none, [], [])), (1, (0, 0, 11, some ((0, 101), 0), [], [])), (2, (0, (-1), 11, some ((0, 2), 0), [], [])), (3, (0, (-1), 2147483647, some ((0, 3), 0), [], [])), (4, (0, 0, 12, some ((0, 4), 0), [], []))], [], [((39, 0), (0, 0, 0, some ((40, 0), 0), [], [])), ((39, 4), (0, 1, 12, some ((40, 4), 0), [], [])), ((39, 35), (0, 2, 4096, some ((40, 35), 0), [], []))], 53273, [((-4098), (0, 4))])]
theorem as_m_X10_ally : a_spec a_tb aC_m_X10_ally := a_meth (Sp := [aC_m_X10_isMember, aC_h_X10_lay]) (hd := aH_m_X10_ally) (mi := xmi_X10_ally) 56 rfl (a_sp_c as_m_X10_isMember (a_sp_c as_h_X10_lay a_sp_n)) (by decide +kernel) (by decide +kernel)
/-- X10_beats -/
def aC_m_X10_beats : aC := (xi_X10_beats, 3, [(2, 39, 0, none, [], []), (0, (-2147483648), 2147483647, none, [], []), (0, (-2147483648), 2147483647, none, [], [])], [(some (0, (-1), 1, none, [], []), [])], [(39, 0), (39, 35), (53, 0), (63, 0), (64, 0)], [])
def aH_m_X10_beats : List aH := [(0, [(0, (2, 39, 0, none, [], [])), (1, (0, (-2147483648), 2147483647, some ((0, 101), 0), [], [])), (2, (0, (-2147483648), 2147483647, some ((0, 102), 0), [], []))], [], [], 0, [])]
theorem as_m_X10_beats : a_spec a_tb aC_m_X10_beats := a_meth (Sp := [aC_m_X10_isOption, aC_m_X10_layOptions]) (hd := aH_m_X10_beats) (mi := xmi_X10_beats) 31 rfl (a_sp_c as_m_X10_isOption (a_sp_c as_m_X10_layOptions a_sp_n)) (by decide +kernel) (by decide +kernel)
/-- X10_free -/
def aC_m_X10_free : aC := (xi_X10_free, 3, [(2, 39, 0, none, [], [])], [(some (0, 0, 127, none, [], []), [])], [(39, 0), (39, 35), (53, 0), (63, 0), (64, 0)], [])
def aH_m_X10_free : List aH := [(0, [(0, (2, 39, 0, none, [], []))], [], [], 72, []),
  (24, [(0, (2, 39, 0, none, [], [])), (1, (0, 0, 127, some ((0, 1), 0), [], [])), (2, (0, 0, 6, some ((0, 2), 0), [], [])), (3, (0, 0, 1, some ((0, 3), 0), [], [])), (4, (0, 0, 7, some ((0, 4), 0), [], []))], [], [((39, 0), (0, 0, 0, some ((40, 0), 0), [], [])), ((39, 35), (0, 2, 4096, some ((40, 35), 0), [], []))], 70, [((-1), (0, 4)), ((-9), (0, 2))]),
  (13, [(0, (2, 39, 0, none, [], [])), (1, (0, 0, 127, some ((0, 1), 0), [], [])), (2, (0, 0, 7, some ((0, 2), 0), [], []))], [], [((39, 0), (0, 0, 0, some ((40, 0), 0), [], [])), ((39, 35), (0, 2, 4096, some ((40, 35), 0), [], []))], 71, [((-9), (0, 2))])]
theorem as_m_X10_free : a_spec a_tb aC_m_X10_free := a_meth (Sp := [aC_m_X10_layOptions]) (hd := aH_m_X10_free) (mi := xmi_X10_free) 22 rfl (a_sp_c as_m_X10_layOptions a_sp_n) (by decide +kernel) (by decide +kernel)
/-- X10_top -/
def aC_m_X10_top : aC := (xi_X10_top, 3, [(2, 39, 0, none, [], [])], [(some (0, 0, 127, none, [], []), [])], [(39, 0), (39, 35), (53, 0), (63, 0), (64, 0)], [])
def aH_m_X10_top : List aH := [(0, [(0, (2, 39, 0, none, [], []))], [], [], 72, []),
  (24, [(0, (2, 39, 0, none, [], [])), (1, (0, 0, 127, some ((0, 1), 0), [], [])), (2, (0, 0, 6, some ((0, 2), 0), [], [])), (3, (0, 0, 1, some ((0, 3), 0), [], [])), (4, (0, 0, 7, some ((0, 4), 0), [], []))], [], [((39, 0), (0, 0, 0, some ((40, 0), 0), [], [])), ((39, 35), (0, 2, 4096, some ((40, 35), 0), [], []))], 70, [((-1), (0, 4)), ((-9), (0, 2))]),
  (13, [(0, (2, 39, 0, none, [], [])), (1, (0, 0, 127, some ((0, 1), 0), [], [])), (2, (0, 0, 7, some ((0, 2), 0), [], []))], [], [((39, 0), (0, 0, 0, some ((40, 0), 0), [], [])), ((39, 35), (0, 2, 4096, some ((40, 35), 0), [], []))], 71, [((-9), (0, 2))])]
theorem as_m_X10_top : a_spec a_tb aC_m_X10_top := a_meth (Sp := [aC_m_X10_layOptions]) (hd := aH_m_X10_top) (mi := xmi_X10_top) 31 rfl (a_sp_c as_m_X10_layOptions a_sp_n) (by decide +kernel) (by decide +kernel)
/-- X10_setAt -/
def aC_m_X10_setAt : aC := (xi_X10_setAt, 3, [(2, 39, 0, none, [], []), (0, (-2147483648), 2147483647, none, [], []), (0, (-2147483648), 2147483647, none, [], [])], [(some (0, (-2147483648), 2147483647, none, [], []), [])], [(39, 0), (39, 35), (53, 0)], [])
def aH_m_X10_setAt : List aH := [(0, [(0, (2, 39, 0, none, [], [])), (1, (0, (-2147483648), 2147483647, some ((0, 101), 0), [], [])), (2, (0, (-2147483648), 2147483647, some ((0, 102), 0), [], []))], [], [((39, 4), (0, 1, 12, some ((40, 4), 0), [], [])), ((39, 35), (0, 0, 4096, some ((40, 35), 0), [], []))], 57372, []),
  (57, [(0, (2, 39, 0, none, [], [])), (1, (0, 1, 2, some ((0, 101), 0), [], [])), (2, (0, 0, 2147483647, some ((0, 102), 0), [], [])), (3, (0, 0, 2147483647, some ((0, 3), 0), [], [])), (4, (0, 0, 13, some ((0, 4), 0), [], []))], [], [((39, 0), (0, 0, 0, some ((40, 0), 0), [], [])), ((39, 4), (0, 1, 12, some ((40, 4), 0), [], [])), ((39, 35), (0, 2, 4096, some ((40, 35), 0), [], []))], 57371, [((-4098), (0, 4))]),
  (69, [(0, (2, 39, 0, none, [], [])), (1, (0, 1, 2, some ((0, 101), 0), [], [])), (2, (0, 0, 2147483647, some ((0, 102), 0), [], [])), (3, (0, 0, 2147483647, some ((0, 3), 0), [], [])), (4, (0, 0, 12, some ((0, 4), 0), [], [])), (5, (0, 0, 4096, some ((0, 5), 0), [], []))], [], [((39, 0), (0, 0, 0, some ((40, 0), 0), [], [])), ((39, 4), (0, 1, 12, some ((40, 4), 0), [], [])), ((39, 35), (0, 2, 4096, some ((40, 35), 0), [], []))], 57370, [((-1), (0, 5)), ((-4098), (0, 4))])]
theorem as_m_X10_setAt : a_spec a_tb aC_m_X10_setAt := a_meth (Sp := [aC_m_X10_isIn_1_1_4_4, aC_h_X10_lay, aC_m_X10_whoIs, aC_siz2, aC_siz, aC_m_X10_isOfKind_f39_35_1_4096]) (hd := aH_m_X10_setAt) (mi := xmi_X10_setAt) 31 rfl (a_sp_c as_m_X10_isIn_1_1_4_4 (a_sp_c as_h_X10_lay (a_sp_c as_m_X10_whoIs (a_sp_c as_siz2 (a_sp_c as_siz (a_sp_c as_m_X10_isOfKind_f39_35_1_4096 a_sp_n)))))) (by decide +kernel) (by decide +kernel)
/-- X5_place@c11 -/
def aC_m_X5_place_c11 : aC := (xi_X5_place, 5, [(2, 21, 0, none, [], []), (0, 11, 11, none, [], []), (0, 0, 60, none, [], [])], [(none, [])], [(21, 1), (21, 10), (21, 11), (21, 12), (21, 13), (22, 0), (26, 0), (27, 0)], [])
def aH_m_X5_place_c11 : List aH := [(0, [(0, (2, 21, 0, none, [], [])), (1, (0, 11, 11, some ((0, 101), 0), [], [])), (2, (0, 0, 60, some ((0, 102), 0), [], []))], [], [((21, 8), (0, 0, 12, some ((22, 8), 0), [], [])), ((21, 11), (0, (-3), 63, some ((22, 11), 0), [], []))], 146, []),
  (81, [(0, (2, 21, 0, none, [], [])), (1, (0, 11, 11, some ((0, 101), 0), [], [])), (2, (0, 0, 60, some ((0, 102), 0), [], [])), (3, (0, 0, 11, some ((0, 3), 0), [], [])), (4, (0, 0, 60, some ((0, 4), 0), [], [])), (5, (0, 0, 60, some ((0, 5), 0), [], [])), (6, (0, (-720), 60, some ((0, 6), 0), [], []))], [], [((21, 8), (0, 12, 12, some ((22, 8), 0), [], [])), ((21, 11), (0, (-3), (-3), some ((22, 11), 0), [], []))], 22, [(2, (0, 5))]),
  (36, [(0, (2, 21, 0, none, [], [])), (1, (0, 11, 11, some ((0, 101), 0), [], [])), (2, (0, 0, 60, some ((0, 102), 0), [], [])), (3, (0, 0, 11, some ((0, 3), 0), [], [])), (4, (0, 0, 71, some ((0, 4), 0), [], []))], [], [((21, 8), (0, 12, 12, some ((22, 8), 0), [], [])), ((21, 11), (0, (-3), 63, some ((22, 11), 0), [], []))], 144, []),
  (44, [(0, (2, 21, 0, none, [], [])), (1, (0, 11, 11, some ((0, 101), 0), [], [])), (2, (0, 0, 60, some ((0, 102), 0), [], [])), (3, (0, 0, 11, some ((0, 3), 0), [], [])), (4, (0, 0, 71, some ((0, 4), 0), [], [])), (5, (0, (-11), 60, some ((0, 5), 0), [], []))], [], [((21, 8), (0, 12, 12, some ((22, 8), 0), [], [])), ((21, 11), (0, (-3), 63, some ((22, 11), 0), [], []))], 23, [(2, (0, 5))]),
  (29, [(0, (2, 21, 0, none, [], [])), (1, (0, 11, 11, some ((0, 101), 0), [], [])), (2, (0, 0, 60, some ((0, 102), 0), [], [])), (3, (0, 0, 11, some ((0, 3), 0), [], []))], [], [((21, 8), (0, 12, 12, some ((22, 8), 0), [], [])), ((21, 11), (0, (-3), 63, some ((22, 11), 0), [], []))], 145, [])]
theorem as_m_X5_place_c11 : a_spec a_tb aC_m_X5_place_c11 := a_meth (Sp := [aC_m_X5_tryRow, aC_h_X5_lowest, aC_h_X5_highest, aC_m_X5_leastRest, aC_m_X5_mostRest, aC_m_X5_place_c12]) (hd := aH_m_X5_place_c11) (mi := xmi_X5_place) 27 rfl (a_sp_c as_m_X5_tryRow (a_sp_c as_h_X5_lowest (a_sp_c as_h_X5_highest (a_sp_c as_m_X5_leastRest (a_sp_c as_m_X5_mostRest (a_sp_c as_m_X5_place_c12 a_sp_n)))))) (by decide +kernel) (by decide +kernel)
/-- X10_many -/
def aC_m_X10_many : aC := (xi_X10_many, 4, [(2, 39, 0, none, [], []), (0, (-2147483648), 2147483647, none, [], [])], [(some (0, (-2147483648), 2147483647, none, [], []), [])], [(39, 0), (39, 35), (53, 0)], [])
def aH_m_X10_many : List aH := [(0, [(0, (2, 39, 0, none, [], [])), (1, (0, (-2147483648), 2147483647, some ((0, 101), 0), [], []))], [], [((39, 35), (0, 0, 4096, some ((40, 35), 0), [], []))], 4097, []),
  (62, [(0, (2, 39, 0, none, [], [])), (1, (0, 0, 0, some ((0, 101), 0), [], [])), (2, (0, (-2147483648), 2147483647, some ((0, 2), 0), [], [])), (3, (0, 0, 4096, some ((0, 3), 0), [], []))], [], [((39, 0), (0, 0, 0, some ((40, 0), 0), [], [])), ((39, 35), (0, 2, 4096, some ((40, 35), 0), [], []))], 4096, [((-1), (0, 3))])]
theorem as_m_X10_many : a_spec a_tb aC_m_X10_many := a_meth (Sp := [aC_h_X10_lay, aC_m_X10_countOf_f39_35_1_4096, aC_m_X10_whoIs, aC_siz2, aC_siz, aC_m_X10_isProper, aC_m_X10_isStrong, aC_m_X10_isLined]) (hd := aH_m_X10_many) (mi := xmi_X10_many) 20 rfl (a_sp_c as_h_X10_lay (a_sp_c as_m_X10_countOf_f39_35_1_4096 (a_sp_c as_m_X10_whoIs (a_sp_c as_siz2 (a_sp_c as_siz (a_sp_c as_m_X10_isProper (a_sp_c as_m_X10_isStrong (a_sp_c as_m_X10_isLined a_sp_n)))))))) (by decide +kernel) (by decide +kernel)
/-- X5_place@c10 -/
def aC_m_X5_place_c10 : aC := (xi_X5_place, 6, [(2, 21, 0, none, [], []), (0, 10, 10, none, [], []), (0, 0, 60, none, [], [])], [(none, [])], [(21, 1), (21, 10), (21, 11), (21, 12), (21, 13), (22, 0), (26, 0), (27, 0)], [])
def aH_m_X5_place_c10 : List aH := [(0, [(0, (2, 21, 0, none, [], [])), (1, (0, 10, 10, some ((0, 101), 0), [], [])), (2, (0, 0, 60, some ((0, 102), 0), [], []))], [], [((21, 8), (0, 0, 12, some ((22, 8), 0), [], [])), ((21, 11), (0, (-3), 63, some ((22, 11), 0), [], []))], 146, []),
  (81, [(0, (2, 21, 0, none, [], [])), (1, (0, 10, 10, some ((0, 101), 0), [], [])), (2, (0, 0, 60, some ((0, 102), 0), [], [])), (3, (0, 0, 11, some ((0, 3), 0), [], [])), (4, (0, 0, 60, some ((0, 4), 0), [], [])), (5, (0, 0, 60, some ((0, 5), 0), [], [])), (6, (0, (-720), 60, some ((0, 6), 0), [], []))], [], [((21, 8), (0, 11, 12, some ((22, 8), 0), [], [])), ((21, 11), (0, (-3), (-3), some ((22, 11), 0), [], []))], 22, [(2, (0, 5))]),
  (36, [(0, (2, 21, 0, none, [], [])), (1, (0, 10, 10, some ((0, 101), 0), [], [])), (2, (0, 0, 60, some ((0, 102), 0), [], [])), (3, (0, 0, 11, some ((0, 3), 0), [], [])), (4, (0, 0, 71, some ((0, 4), 0), [], []))], [], [((21, 8), (0, 11, 12, some ((22, 8), 0), [], [])), ((21, 11), (0, (-3), 63, some ((22, 11), 0), [], []))], 144, []),
  (44, [(0, (2, 21, 0, none, [], [])), (1, (0, 10, 10, some ((0, 101), 0), [], [])), (2, (0, 0, 60, some ((0, 102), 0), [], [])), (3, (0, 0, 11, some ((0, 3), 0), [], [])), (4, (0, 0, 71, some ((0, 4), 0), [], [])), (5, (0, (-11), 60, some ((0, 5), 0), [], []))], [], [((21, 8), (0, 11, 12, some ((22, 8), 0), [], [])), ((21, 11), (0, (-3), 63, some ((22, 11), 0), [], []))], 23, [(2, (0, 5))]),
  (29, [(0, (2, 21, 0, none, [], [])), (1, (0, 10, 10, some ((0, 101), 0), [], [])), (2, (0, 0, 60, some ((0, 102), 0), [], [])), (3, (0, 0, 11, some ((0, 3), 0), [], []))], [], [((21, 8), (0, 11, 12, some ((22, 8), 0), [], [])), ((21, 11), (0, (-3), 63, some ((22, 11), 0), [], []))], 145, [])]
theorem as_m_X5_place_c10 : a_spec a_tb aC_m_X5_place_c10 := a_meth (Sp := [aC_m_X5_tryRow, aC_h_X5_lowest, aC_h_X5_highest, aC_m_X5_leastRest, aC_m_X5_mostRest, aC_m_X5_place_c11]) (hd := aH_m_X5_place_c10) (mi := xmi_X5_place) 27 rfl (a_sp_c as_m_X5_tryRow (a_sp_c as_h_X5_lowest (a_sp_c as_h_X5_highest (a_sp_c as_m_X5_leastRest (a_sp_c as_m_X5_mostRest (a_sp_c as_m_X5_place_c11 a_sp_n)))))) (by decide +kernel) (by decide +kernel)
/-- X5_place@c9 -/
def aC_m_X5_place_c9 : aC := (xi_X5_place, 7, [(2, 21, 0, none, [], []), (0, 9, 9, none, [], []), (0, 0, 60, none, [], [])], [(none, [])], [(21, 1), (21, 10), (21, 11), (21, 12), (21, 13), (22, 0), (26, 0), (27, 0)], [])
def aH_m_X5_place_c9 : List aH := [(0, [(0, (2, 21, 0, none, [], [])), (1, (0, 9, 9, some ((0, 101), 0), [], [])), (2, (0, 0, 60, some ((0, 102), 0), [], []))], [], [((21, 8), (0, 0, 12, some ((22, 8), 0), [], [])), ((21, 11), (0, (-3), 63, some ((22, 11), 0), [], []))], 146, []),
  (81, [(0, (2, 21, 0, none, [], [])), (1, (0, 9, 9, some ((0, 101), 0), [], [])), (2, (0, 0, 60, some ((0, 102), 0), [], [])), (3, (0, 0, 11, some ((0, 3), 0), [], [])), (4, (0, 0, 60, some ((0, 4), 0), [], [])), (5, (0, 0, 60, some ((0, 5), 0), [], [])), (6, (0, (-720), 60, some ((0, 6), 0), [], []))], [], [((21, 8), (0, 10, 12, some ((22, 8), 0), [], [])), ((21, 11), (0, (-3), (-3), some ((22, 11), 0), [], []))], 22, [(2, (0, 5))]),
  (36, [(0, (2, 21, 0, none, [], [])), (1, (0, 9, 9, some ((0, 101), 0), [], [])), (2, (0, 0, 60, some ((0, 102), 0), [], [])), (3, (0, 0, 11, some ((0, 3), 0), [], [])), (4, (0, 0, 71, some ((0, 4), 0), [], []))], [], [((21, 8), (0, 10, 12, some ((22, 8), 0), [], [])), ((21, 11), (0, (-3), 63, some ((22, 11), 0), [], []))], 144, []),
  (44, [(0, (2, 21, 0, none, [], [])), (1, (0, 9, 9, some ((0, 101), 0), [], [])), (2, (0, 0, 60, some ((0, 102), 0), [], [])), (3, (0, 0, 11, some ((0, 3), 0), [], [])), (4, (0, 0, 71, some ((0, 4), 0), [], [])), (5, (0, (-11), 60, some ((0, 5), 0), [], []))], [], [((21, 8), (0, 10, 12, some ((22, 8), 0), [], [])), ((21, 11), (0, (-3), 63, some ((22, 11), 0), [], []))], 23, [(2, (0, 5))]),
  (29, [(0, (2, 21, 0, none, [], [])), (1, (0, 9, 9, some ((0, 101), 0), [], [])), (2, (0, 0, 60, some ((0, 102), 0), [], [])), (3, (0, 0, 11, some ((0, 3), 0), [], []))], [], [((21, 8), (0, 10, 12, some ((22, 8), 0), [], [])), ((21, 11), (0, (-3), 63, some ((22, 11), 0), [], []))], 145, [])]
theorem as_m_X5_place_c9 : a_spec a_tb aC_m_X5_place_c9 := a_meth (Sp := [aC_m_X5_tryRow, aC_h_X5_lowest, aC_h_X5_highest, aC_m_X5_leastRest, aC_m_X5_mostRest, aC_m_X5_place_c10]) (hd := aH_m_X5_place_c9) (mi := xmi_X5_place) 27 rfl (a_sp_c as_m_X5_tryRow (a_sp_c as_h_X5_lowest (a_sp_c as_h_X5_highest (a_sp_c as_m_X5_leastRest (a_sp_c as_m_X5_mostRest (a_sp_c as_m_X5_place_c10 a_sp_n)))))) (by decide +kernel) (by decide +kernel)
/-- X5_place@c8 -/
def aC_m_X5_place_c8 : aC := (xi_X5_place, 8, [(2, 21, 0, none, [], []), (0, 8, 8, none, [], []), (0, 0, 60, none, [], [])], [(none, [])], [(21, 1), (21, 10), (21, 11), (21, 12), (21, 13), (22, 0), (26, 0), (27, 0)], [])
def aH_m_X5_place_c8 : List aH := [(0, [(0, (2, 21, 0, none, [], [])), (1, (0, 8, 8, some ((0, 101), 0), [], [])), (2, (0, 0, 60, some ((0, 102), 0), [], []))], [], [((21, 8), (0, 0, 12, some ((22, 8), 0), [], [])), ((21, 11), (0, (-3), 63, some ((22, 11), 0), [], []))], 146, []),
  (81, [(0, (2, 21, 0, none, [], [])), (1, (0, 8, 8, some ((0, 101), 0), [], [])), (2, (0, 0, 60, some ((0, 102), 0), [], [])), (3, (0, 0, 11, some ((0, 3), 0), [], [])), (4, (0, 0, 60, some ((0, 4), 0), [], [])), (5, (0, 0, 60, some ((0, 5), 0), [], [])), (6, (0, (-720), 60, some ((0, 6), 0), [], []))], [], [((21, 8), (0, 9, 12, some ((22, 8), 0), [], [])), ((21, 11), (0, (-3), (-3), some ((22, 11), 0), [], []))], 22, [(2, (0, 5))]),
  (36, [(0, (2, 21, 0, none, [], [])), (1, (0, 8, 8, some ((0, 101), 0), [], [])), (2, (0, 0, 60, some ((0, 102), 0), [], [])), (3, (0, 0, 11, some ((0, 3), 0), [], [])), (4, (0, 0, 71, some ((0, 4), 0), [], []))], [], [((21, 8), (0, 9, 12, some ((22, 8), 0), [], [])), ((21, 11), (0, (-3), 63, some ((22, 11), 0), [], []))], 144, []),
  (44, [(0, (2, 21, 0, none, [], [])), (1, (0, 8, 8, some ((0, 101), 0), [], [])), (2, (0, 0, 60, some ((0, 102), 0), [], [])), (3, (0, 0, 11, some ((0, 3), 0), [], [])), (4, (0, 0, 71, some ((0, 4), 0), [], [])), (5, (0, (-11), 60, some ((0, 5), 0), [], []))], [], [((21, 8), (0, 9, 12, some ((22, 8), 0), [], [])), ((21, 11), (0, (-3), 63, some ((22, 11), 0), [], []))], 23, [(2, (0, 5))]),
  (29, [(0, (2, 21, 0, none, [], [])), (1, (0, 8, 8, some ((0, 101), 0), [], [])), (2, (0, 0, 60, some ((0, 102), 0), [], [])), (3, (0, 0, 11, some ((0, 3), 0), [], []))], [], [((21, 8), (0, 9, 12, some ((22, 8), 0), [], [])), ((21, 11), (0, (-3), 63, some ((22, 11), 0), [], []))], 145, [])]
theorem as_m_X5_place_c8 : a_spec a_tb aC_m_X5_place_c8 := a_meth (Sp := [aC_m_X5_tryRow, aC_h_X5_lowest, aC_h_X5_highest, aC_m_X5_leastRest, aC_m_X5_mostRest, aC_m_X5_place_c9]) (hd := aH_m_X5_place_c8) (mi := xmi_X5_place) 27 rfl (a_sp_c as_m_X5_tryRow (a_sp_c as_h_X5_lowest (a_sp_c as_h_X5_highest (a_sp_c as_m_X5_leastRest (a_sp_c as_m_X5_mostRest (a_sp_c as_m_X5_place_c9 a_sp_n)))))) (by decide +kernel) (by decide +kernel)
/-- X5_place@c7 -/
def aC_m_X5_place_c7 : aC := (xi_X5_place, 9, [(2, 21, 0, none, [], []), (0, 7, 7, none, [], []), (0, 0, 60, none, [], [])], [(none, [])], [(21, 1), (21, 10), (21, 11), (21, 12), (21, 13), (22, 0), (26, 0), (27, 0)], [])
def aH_m_X5_place_c7 : List aH := [(0, [(0, (2, 21, 0, none, [], [])), (1, (0, 7, 7, some ((0, 101), 0), [], [])), (2, (0, 0, 60, some ((0, 102), 0), [], []))], [], [((21, 8), (0, 0, 12, some ((22, 8), 0), [], [])), ((21, 11), (0, (-3), 63, some ((22, 11), 0), [], []))], 146, []),
  (81, [(0, (2, 21, 0, none, [], [])), (1, (0, 7, 7, some ((0, 101), 0), [], [])), (2, (0, 0, 60, some ((0, 102), 0), [], [])), (3, (0, 0, 11, some ((0, 3), 0), [], [])), (4, (0, 0, 60, some ((0, 4), 0), [], [])), (5, (0, 0, 60, some ((0, 5), 0), [], [])), (6, (0, (-720), 60, some ((0, 6), 0), [], []))], [], [((21, 8), (0, 8, 12, some ((22, 8), 0), [], [])), ((21, 11), (0, (-3), (-3), some ((22, 11), 0), [], []))], 22, [(2, (0, 5))]),
  (36, [(0, (2, 21, 0, none, [], [])), (1, (0, 7, 7, some ((0, 101), 0), [], [])), (2, (0, 0, 60, some ((0, 102), 0), [], [])), (3, (0, 0, 11, some ((0, 3), 0), [], [])), (4, (0, 0, 71, some ((0, 4), 0), [], []))], [], [((21, 8), (0, 8, 12, some ((22, 8), 0), [], [])), ((21, 11), (0, (-3), 63, some ((22, 11), 0), [], []))], 144, []),
  (44, [(0, (2, 21, 0, none, [], [])), (1, (0, 7, 7, some ((0, 101), 0), [], [])), (2, (0, 0, 60, some ((0, 102), 0), [], [])), (3, (0, 0, 11, some ((0, 3), 0), [], [])), (4, (0, 0, 71, some ((0, 4), 0), [], [])), (5, (0, (-11), 60, some ((0, 5), 0), [], []))], [], [((21, 8), (0, 8, 12, some ((22, 8), 0), [], [])), ((21, 11), (0, (-3), 63, some ((22, 11), 0), [], []))], 23, [(2, (0, 5))]),
  (29, [(0, (2, 21, 0, none, [], [])), (1, (0, 7, 7, some ((0, 101), 0), [], [])), (2, (0, 0, 60, some ((0, 102), 0), [], [])), (3, (0, 0, 11, some ((0, 3), 0), [], []))], [], [((21, 8), (0, 8, 12, some ((22, 8), 0), [], [])), ((21, 11), (0, (-3), 63, some ((22, 11), 0), [], []))], 145, [])]
theorem as_m_X5_place_c7 : a_spec a_tb aC_m_X5_place_c7 := a_meth (Sp := [aC_m_X5_tryRow, aC_h_X5_lowest, aC_h_X5_highest, aC_m_X5_leastRest, aC_m_X5_mostRest, aC_m_X5_place_c8]) (hd := aH_m_X5_place_c7) (mi := xmi_X5_place) 27 rfl (a_sp_c as_m_X5_tryRow (a_sp_c as_h_X5_lowest (a_sp_c as_h_X5_highest (a_sp_c as_m_X5_leastRest (a_sp_c as_m_X5_mostRest (a_sp_c as_m_X5_place_c8 a_sp_n)))))) (by decide +kernel) (by decide +kernel)
/-- X5_place@c6 -/
def aC_m_X5_place_c6 : aC := (xi_X5_place, 10, [(2, 21, 0, none, [], []), (0, 6, 6, none, [], []), (0, 0, 60, none, [], [])], [(none, [])], [(21, 1), (21, 10), (21, 11), (21, 12), (21, 13), (22, 0), (26, 0), (27, 0)], [])
def aH_m_X5_place_c6 : List aH := [(0, [(0, (2, 21, 0, none, [], [])), (1, (0, 6, 6, some ((0, 101), 0), [], [])), (2, (0, 0, 60, some ((0, 102), 0), [], []))], [], [((21, 8), (0, 0, 12, some ((22, 8), 0), [], [])), ((21, 11), (0, (-3), 63, some ((22, 11), 0), [], []))], 146, []),
  (81, [(0, (2, 21, 0, none, [], [])), (1, (0, 6, 6, some ((0, 101), 0), [], [])), (2, (0, 0, 60, some ((0, 102), 0), [], [])), (3, (0, 0, 11, some ((0, 3), 0), [], [])), (4, (0, 0, 60, some ((0, 4), 0), [], [])), (5, (0, 0, 60, some ((0, 5), 0), [], [])), (6, (0, (-720), 60, some ((0, 6), 0), [], []))], [], [((21, 8), (0, 7, 12, some ((22, 8), 0), [], [])), ((21, 11), (0, (-3), (-3), some ((22, 11), 0), [], []))], 22, [(2, (0, 5))]),
  (36, [(0, (2, 21, 0, none, [], [])), (1, (0, 6, 6, some ((0, 101), 0), [], [])), (2, (0, 0, 60, some ((0, 102), 0), [], [])), (3, (0, 0, 11, some ((0, 3), 0), [], [])), (4, (0, 0, 71, some ((0, 4), 0), [], []))], [], [((21, 8), (0, 7, 12, some ((22, 8), 0), [], [])), ((21, 11), (0, (-3), 63, some ((22, 11), 0), [], []))], 144, []),
  (44, [(0, (2, 21, 0, none, [], [])), (1, (0, 6, 6, some ((0, 101), 0), [], [])), (2, (0, 0, 60, some ((0, 102), 0), [], [])), (3, (0, 0, 11, some ((0, 3), 0), [], [])), (4, (0, 0, 71, some ((0, 4), 0), [], [])), (5, (0, (-11), 60, some ((0, 5), 0), [], []))], [], [((21, 8), (0, 7, 12, some ((22, 8), 0), [], [])), ((21, 11), (0, (-3), 63, some ((22, 11), 0), [], []))], 23, [(2, (0, 5))]),
  (29, [(0, (2, 21, 0, none, [], [])), (1, (0, 6, 6, some ((0, 101), 0), [], [])), (2, (0, 0, 60, some ((0, 102), 0), [], [])), (3, (0, 0, 11, some ((0, 3), 0), [], []))], [], [((21, 8), (0, 7, 12, some ((22, 8), 0), [], [])), ((21, 11), (0, (-3), 63, some ((22, 11), 0), [], []))], 145, [])]
theorem as_m_X5_place_c6 : a_spec a_tb aC_m_X5_place_c6 := a_meth (Sp := [aC_m_X5_tryRow, aC_h_X5_lowest, aC_h_X5_highest, aC_m_X5_leastRest, aC_m_X5_mostRest, aC_m_X5_place_c7]) (hd := aH_m_X5_place_c6) (mi := xmi_X5_place) 27 rfl (a_sp_c as_m_X5_tryRow (a_sp_c as_h_X5_lowest (a_sp_c as_h_X5_highest (a_sp_c as_m_X5_leastRest (a_sp_c as_m_X5_mostRest (a_sp_c as_m_X5_place_c7 a_sp_n)))))) (by decide +kernel) (by decide +kernel)
/-- X5_place@c5 -/
def aC_m_X5_place_c5 : aC := (xi_X5_place, 11, [(2, 21, 0, none, [], []), (0, 5, 5, none, [], []), (0, 0, 60, none, [], [])], [(none, [])], [(21, 1), (21, 10), (21, 11), (21, 12), (21, 13), (22, 0), (26, 0), (27, 0)], [])
def aH_m_X5_place_c5 : List aH := [(0, [(0, (2, 21, 0, none, [], [])), (1, (0, 5, 5, some ((0, 101), 0), [], [])), (2, (0, 0, 60, some ((0, 102), 0), [], []))], [], [((21, 8), (0, 0, 12, some ((22, 8), 0), [], [])), ((21, 11), (0, (-3), 63, some ((22, 11), 0), [], []))], 146, []),
  (81, [(0, (2, 21, 0, none, [], [])), (1, (0, 5, 5, some ((0, 101), 0), [], [])), (2, (0, 0, 60, some ((0, 102), 0), [], [])), (3, (0, 0, 11, some ((0, 3), 0), [], [])), (4, (0, 0, 60, some ((0, 4), 0), [], [])), (5, (0, 0, 60, some ((0, 5), 0), [], [])), (6, (0, (-720), 60, some ((0, 6), 0), [], []))], [], [((21, 8), (0, 6, 12, some ((22, 8), 0), [], [])), ((21, 11), (0, (-3), (-3), some ((22, 11), 0), [], []))], 22, [(2, (0, 5))]),
  (36, [(0, (2, 21, 0, none, [], [])), (1, (0, 5, 5, some ((0, 101), 0), [], [])), (2, (0, 0, 60, some ((0, 102), 0), [], [])), (3, (0, 0, 11, some ((0, 3), 0), [], [])), (4, (0, 0, 71, some ((0, 4), 0), [], []))], [], [((21, 8), (0, 6, 12, some ((22, 8), 0), [], [])), ((21, 11), (0, (-3), 63, some ((22, 11), 0), [], []))], 144, []),
  (44, [(0, (2, 21, 0, none, [], [])), (1, (0, 5, 5, some ((0, 101), 0), [], [])), (2, (0, 0, 60, some ((0, 102), 0), [], [])), (3, (0, 0, 11, some ((0, 3), 0), [], [])), (4, (0, 0, 71, some ((0, 4), 0), [], [])), (5, (0, (-11), 60, some ((0, 5), 0), [], []))], [], [((21, 8), (0, 6, 12, some ((22, 8), 0), [], [])), ((21, 11), (0, (-3), 63, some ((22, 11), 0), [], []))], 23, [(2, (0, 5))]),
  (29, [(0, (2, 21, 0, none, [], [])), (1, (0, 5, 5, some ((0, 101), 0), [], [])), (2, (0, 0, 60, some ((0, 102), 0), [], [])), (3, (0, 0, 11, some ((0, 3), 0), [], []))], [], [((21, 8), (0, 6, 12, some ((22, 8), 0), [], [])), ((21, 11), (0, (-3), 63, some ((22, 11), 0), [], []))], 145, [])]
theorem as_m_X5_place_c5 : a_spec a_tb aC_m_X5_place_c5 := a_meth (Sp := [aC_m_X5_tryRow, aC_h_X5_lowest, aC_h_X5_highest, aC_m_X5_leastRest, aC_m_X5_mostRest, aC_m_X5_place_c6]) (hd := aH_m_X5_place_c5) (mi := xmi_X5_place) 27 rfl (a_sp_c as_m_X5_tryRow (a_sp_c as_h_X5_lowest (a_sp_c as_h_X5_highest (a_sp_c as_m_X5_leastRest (a_sp_c as_m_X5_mostRest (a_sp_c as_m_X5_place_c6 a_sp_n)))))) (by decide +kernel) (by decide +kernel)
/-- X5_place@c4 -/
def aC_m_X5_place_c4 : aC := (xi_X5_place, 12, [(2, 21, 0, none, [], []), (0, 4, 4, none, [], []), (0, 0, 60, none, [], [])], [(none, [])], [(21, 1), (21, 10), (21, 11), (21, 12), (21, 13), (22, 0), (26, 0), (27, 0)], [])
def aH_m_X5_place_c4 : List aH := [(0, [(0, (2, 21, 0, none, [], [])), (1, (0, 4, 4, some ((0, 101), 0), [], [])), (2, (0, 0, 60, some ((0, 102), 0), [], []))], [], [((21, 8), (0, 0, 12, some ((22, 8), 0), [], [])), ((21, 11), (0, (-3), 63, some ((22, 11), 0), [], []))], 146, []),
  (81, [(0, (2, 21, 0, none, [], [])), (1, (0, 4, 4, some ((0, 101), 0), [], [])), (2, (0, 0, 60, some ((0, 102), 0), [], [])), (3, (0, 0, 11, some ((0, 3), 0), [], [])), (4, (0, 0, 60, some ((0, 4), 0), [], [])), (5, (0, 0, 60, some ((0, 5), 0), [], [])), (6, (0, (-720), 60, some ((0, 6), 0), [], []))], [], [((21, 8), (0, 5, 12, some ((22, 8), 0), [], [])), ((21, 11), (0, (-3), (-3), some ((22, 11), 0), [], []))], 22, [(2, (0, 5))]),
  (36, [(0, (2, 21, 0, none, [], [])), (1, (0, 4, 4, some ((0, 101), 0), [], [])), (2, (0, 0, 60, some ((0, 102), 0), [], [])), (3, (0, 0, 11, some ((0, 3), 0), [], [])), (4, (0, 0, 71, some ((0, 4), 0), [], []))], [], [((21, 8), (0, 5, 12, some ((22, 8), 0), [], [])), ((21, 11), (0, (-3), 63, some ((22, 11), 0), [], []))], 144, []),
  (44, [(0, (2, 21, 0, none, [], [])), (1, (0, 4, 4, some ((0, 101), 0), [], [])), (2, (0, 0, 60, some ((0, 102), 0), [], [])), (3, (0, 0, 11, some ((0, 3), 0), [], [])), (4, (0, 0, 71, some ((0, 4), 0), [], [])), (5, (0, (-11), 60, some ((0, 5), 0), [], []))], [], [((21, 8), (0, 5, 12, some ((22, 8), 0), [], [])), ((21, 11), (0, (-3), 63, some ((22, 11), 0), [], []))], 23, [(2, (0, 5))]),
  (29, [(0, (2, 21, 0, none, [], [])), (1, (0, 4, 4, some ((0, 101), 0), [], [])), (2, (0, 0, 60, some ((0, 102), 0), [], [])), (3, (0, 0, 11, some ((0, 3), 0), [], []))], [], [((21, 8), (0, 5, 12, some ((22, 8), 0), [], [])), ((21, 11), (0, (-3), 63, some ((22, 11), 0), [], []))], 145, [])]
theorem as_m_X5_place_c4 : a_spec a_tb aC_m_X5_place_c4 := a_meth (Sp := [aC_m_X5_tryRow, aC_h_X5_lowest, aC_h_X5_highest, aC_m_X5_leastRest, aC_m_X5_mostRest, aC_m_X5_place_c5]) (hd := aH_m_X5_place_c4) (mi := xmi_X5_place) 27 rfl (a_sp_c as_m_X5_tryRow (a_sp_c as_h_X5_lowest (a_sp_c as_h_X5_highest (a_sp_c as_m_X5_leastRest (a_sp_c as_m_X5_mostRest (a_sp_c as_m_X5_place_c5 a_sp_n)))))) (by decide +kernel) (by decide +kernel)
/-- X5_place@c3 -/
def aC_m_X5_place_c3 : aC := (xi_X5_place, 13, [(2, 21, 0, none, [], []), (0, 3, 3, none, [], []), (0, 0, 60, none, [], [])], [(none, [])], [(21, 1), (21, 10), (21, 11), (21, 12), (21, 13), (22, 0), (26, 0), (27, 0)], [])
def aH_m_X5_place_c3 : List aH := [(0, [(0, (2, 21, 0, none, [], [])), (1, (0, 3, 3, some ((0, 101), 0), [], [])), (2, (0, 0, 60, some ((0, 102), 0), [], []))], [], [((21, 8), (0, 0, 12, some ((22, 8), 0), [], [])), ((21, 11), (0, (-3), 63, some ((22, 11), 0), [], []))], 146, []),
  (81, [(0, (2, 21, 0, none, [], [])), (1, (0, 3, 3, some ((0, 101), 0), [], [])), (2, (0, 0, 60, some ((0, 102), 0), [], [])), (3, (0, 0, 11, some ((0, 3), 0), [], [])), (4, (0, 0, 60, some ((0, 4), 0), [], [])), (5, (0, 0, 60, some ((0, 5), 0), [], [])), (6, (0, (-720), 60, some ((0, 6), 0), [], []))], [], [((21, 8), (0, 4, 12, some ((22, 8), 0), [], [])), ((21, 11), (0, (-3), (-3), some ((22, 11), 0), [], []))], 22, [(2, (0, 5))]),
  (36, [(0, (2, 21, 0, none, [], [])), (1, (0, 3, 3, some ((0, 101), 0), [], [])), (2, (0, 0, 60, some ((0, 102), 0), [], [])), (3, (0, 0, 11, some ((0, 3), 0), [], [])), (4, (0, 0, 71, some ((0, 4), 0), [], []))], [], [((21, 8), (0, 4, 12, some ((22, 8), 0), [], [])), ((21, 11), (0, (-3), 63, some ((22, 11), 0), [], []))], 144, []),
  (44, [(0, (2, 21, 0, none, [], [])), (1, (0, 3, 3, some ((0, 101), 0), [], [])), (2, (0, 0, 60, some ((0, 102), 0), [], [])), (3, (0, 0, 11, some ((0, 3), 0), [], [])), (4, (0, 0, 71, some ((0, 4), 0), [], [])), (5, (0, (-11), 60, some ((0, 5), 0), [], []))], [], [((21, 8), (0, 4, 12, some ((22, 8), 0), [], [])), ((21, 11), (0, (-3), 63, some ((22, 11), 0), [], []))], 23, [(2, (0, 5))]),
  (29, [(0, (2, 21, 0, none, [], [])), (1, (0, 3, 3, some ((0, 101), 0), [], [])), (2, (0, 0, 60, some ((0, 102), 0), [], [])), (3, (0, 0, 11, some ((0, 3), 0), [], []))], [], [((21, 8), (0, 4, 12, some ((22, 8), 0), [], [])), ((21, 11), (0, (-3), 63, some ((22, 11), 0), [], []))], 145, [])]
theorem as_m_X5_place_c3 : a_spec a_tb aC_m_X5_place_c3 := a_meth (Sp := [aC_m_X5_tryRow, aC_h_X5_lowest, aC_h_X5_highest, aC_m_X5_leastRest, aC_m_X5_mostRest, aC_m_X5_place_c4]) (hd := aH_m_X5_place_c3) (mi := xmi_X5_place) 27 rfl (a_sp_c as_m_X5_tryRow (a_sp_c as_h_X5_lowest (a_sp_c as_h_X5_highest (a_sp_c as_m_X5_leastRest (a_sp_c as_m_X5_mostRest (a_sp_c as_m_X5_place_c4 a_sp_n)))))) (by decide +kernel) (by decide +kernel)
/-- X5_place@c2 -/
def aC_m_X5_place_c2 : aC := (xi_X5_place, 14, [(2, 21, 0, none, [], []), (0, 2, 2, none, [], []), (0, 0, 60, none, [], [])], [(none, [])], [(21, 1), (21, 10), (21, 11), (21, 12), (21, 13), (22, 0), (26, 0), (27, 0)], [])
def aH_m_X5_place_c2 : List aH := [(0, [(0, (2, 21, 0, none, [], [])), (1, (0, 2, 2, some ((0, 101), 0), [], [])), (2, (0, 0, 60, some ((0, 102), 0), [], []))], [], [((21, 8), (0, 0, 12, some ((22, 8), 0), [], [])), ((21, 11), (0, (-3), 63, some ((22, 11), 0), [], []))], 146, []),
  (81, [(0, (2, 21, 0, none, [], [])), (1, (0, 2, 2, some ((0, 101), 0), [], [])), (2, (0, 0, 60, some ((0, 102), 0), [], [])), (3, (0, 0, 11, some ((0, 3), 0), [], [])), (4, (0, 0, 60, some ((0, 4), 0), [], [])), (5, (0, 0, 60, some ((0, 5), 0), [], [])), (6, (0, (-720), 60, some ((0, 6), 0), [], []))], [], [((21, 8), (0, 3, 12, some ((22, 8), 0), [], [])), ((21, 11), (0, (-3), (-3), some ((22, 11), 0), [], []))], 22, [(2, (0, 5))]),
  (36, [(0, (2, 21, 0, none, [], [])), (1, (0, 2, 2, some ((0, 101), 0), [], [])), (2, (0, 0, 60, some ((0, 102), 0), [], [])), (3, (0, 0, 11, some ((0, 3), 0), [], [])), (4, (0, 0, 71, some ((0, 4), 0), [], []))], [], [((21, 8), (0, 3, 12, some ((22, 8), 0), [], [])), ((21, 11), (0, (-3), 63, some ((22, 11), 0), [], []))], 144, []),
  (44, [(0, (2, 21, 0, none, [], [])), (1, (0, 2, 2, some ((0, 101), 0), [], [])), (2, (0, 0, 60, some ((0, 102), 0), [], [])), (3, (0, 0, 11, some ((0, 3), 0), [], [])), (4, (0, 0, 71, some ((0, 4), 0), [], [])), (5, (0, (-11), 60, some ((0, 5), 0), [], []))], [], [((21, 8), (0, 3, 12, some ((22, 8), 0), [], [])), ((21, 11), (0, (-3), 63, some ((22, 11), 0), [], []))], 23, [(2, (0, 5))]),
  (29, [(0, (2, 21, 0, none, [], [])), (1, (0, 2, 2, some ((0, 101), 0), [], [])), (2, (0, 0, 60, some ((0, 102), 0), [], [])), (3, (0, 0, 11, some ((0, 3), 0), [], []))], [], [((21, 8), (0, 3, 12, some ((22, 8), 0), [], [])), ((21, 11), (0, (-3), 63, some ((22, 11), 0), [], []))], 145, [])]
theorem as_m_X5_place_c2 : a_spec a_tb aC_m_X5_place_c2 := a_meth (Sp := [aC_m_X5_tryRow, aC_h_X5_lowest, aC_h_X5_highest, aC_m_X5_leastRest, aC_m_X5_mostRest, aC_m_X5_place_c3]) (hd := aH_m_X5_place_c2) (mi := xmi_X5_place) 27 rfl (a_sp_c as_m_X5_tryRow (a_sp_c as_h_X5_lowest (a_sp_c as_h_X5_highest (a_sp_c as_m_X5_leastRest (a_sp_c as_m_X5_mostRest (a_sp_c as_m_X5_place_c3 a_sp_n)))))) (by decide +kernel) (by decide +kernel)
/-- X5_place@c1 -/
def aC_m_X5_place_c1 : aC := (xi_X5_place, 15, [(2, 21, 0, none, [], []), (0, 1, 1, none, [], []), (0, 0, 60, none, [], [])], [(none, [])], [(21, 1), (21, 10), (21, 11), (21, 12), (21, 13), (22, 0), (26, 0), (27, 0)], [])
def aH_m_X5_place_c1 : List aH := [(0, [(0, (2, 21, 0, none, [], [])), (1, (0, 1, 1, some ((0, 101), 0), [], [])), (2, (0, 0, 60, some ((0, 102), 0), [], []))], [], [((21, 8), (0, 0, 12, some ((22, 8), 0), [], [])), ((21, 11), (0, (-3), 63, some ((22, 11), 0), [], []))], 146, []),
  (81, [(0, (2, 21, 0, none, [], [])), (1, (0, 1, 1, some ((0, 101), 0), [], [])), (2, (0, 0, 60, some ((0, 102), 0), [], [])), (3, (0, 0, 11, some ((0, 3), 0), [], [])), (4, (0, 0, 60, some ((0, 4), 0), [], [])), (5, (0, 0, 60, some ((0, 5), 0), [], [])), (6, (0, (-720), 60, some ((0, 6), 0), [], []))], [], [((21, 8), (0, 2, 12, some ((22, 8), 0), [], [])), ((21, 11), (0, (-3), (-3), some ((22, 11), 0), [], []))], 22, [(2, (0, 5))]),
  (36, [(0, (2, 21, 0, none, [], [])), (1, (0, 1, 1, some ((0, 101), 0), [], [])), (2, (0, 0, 60, some ((0, 102), 0), [], [])), (3, (0, 0, 11, some ((0, 3), 0), [], [])), (4, (0, 0, 71, some ((0, 4), 0), [], []))], [], [((21, 8), (0, 2, 12, some ((22, 8), 0), [], [])), ((21, 11), (0, (-3), 63, some ((22, 11), 0), [], []))], 144, []),
  (44, [(0, (2, 21, 0, none, [], [])), (1, (0, 1, 1, some ((0, 101), 0), [], [])), (2, (0, 0, 60, some ((0, 102), 0), [], [])), (3, (0, 0, 11, some ((0, 3), 0), [], [])), (4, (0, 0, 71, some ((0, 4), 0), [], [])), (5, (0, (-11), 60, some ((0, 5), 0), [], []))], [], [((21, 8), (0, 2, 12, some ((22, 8), 0), [], [])), ((21, 11), (0, (-3), 63, some ((22, 11), 0), [], []))], 23, [(2, (0, 5))]),
  (29, [(0, (2, 21, 0, none, [], [])), (1, (0, 1, 1, some ((0, 101), 0), [], [])), (2, (0, 0, 60, some ((0, 102), 0), [], [])), (3, (0, 0, 11, some ((0, 3), 0), [], []))], [], [((21, 8), (0, 2, 12, some ((22, 8), 0), [], [])), ((21, 11), (0, (-3), 63, some ((22, 11), 0), [], []))], 145, [])]
theorem as_m_X5_place_c1 : a_spec a_tb aC_m_X5_place_c1 := a_meth (Sp := [aC_m_X5_tryRow, aC_h_X5_lowest, aC_h_X5_highest, aC_m_X5_leastRest, aC_m_X5_mostRest, aC_m_X5_place_c2]) (hd := aH_m_X5_place_c1) (mi := xmi_X5_place) 27 rfl (a_sp_c as_m_X5_tryRow (a_sp_c as_h_X5_lowest (a_sp_c as_h_X5_highest (a_sp_c as_m_X5_leastRest (a_sp_c as_m_X5_mostRest (a_sp_c as_m_X5_place_c2 a_sp_n)))))) (by decide +kernel) (by decide +kernel)
/-- X5_place@c0 -/
def aC_m_X5_place_c0 : aC := (xi_X5_place, 16, [(2, 21, 0, none, [], []), (0, 0, 0, none, [], []), (0, 0, 60, none, [], [])], [(none, [])], [(21, 1), (21, 10), (21, 11), (21, 12), (21, 13), (22, 0), (26, 0), (27, 0)], [])
def aH_m_X5_place_c0 : List aH := [(0, [(0, (2, 21, 0, none, [], [])), (1, (0, 0, 0, some ((0, 101), 0), [], [])), (2, (0, 0, 60, some ((0, 102), 0), [], []))], [], [((21, 8), (0, 0, 12, some ((22, 8), 0), [], [])), ((21, 11), (0, (-3), 63, some ((22, 11), 0), [], []))], 146, []),
  (81, [(0, (2, 21, 0, none, [], [])), (1, (0, 0, 0, some ((0, 101), 0), [], [])), (2, (0, 0, 60, some ((0, 102), 0), [], [])), (3, (0, 0, 11, some ((0, 3), 0), [], [])), (4, (0, 0, 60, some ((0, 4), 0), [], [])), (5, (0, 0, 60, some ((0, 5), 0), [], [])), (6, (0, (-720), 60, some ((0, 6), 0), [], []))], [], [((21, 8), (0, 1, 12, some ((22, 8), 0), [], [])), ((21, 11), (0, (-3), (-3), some ((22, 11), 0), [], []))], 22, [(2, (0, 5))]),
  (36, [(0, (2, 21, 0, none, [], [])), (1, (0, 0, 0, some ((0, 101), 0), [], [])), (2, (0, 0, 60, some ((0, 102), 0), [], [])), (3, (0, 0, 11, some ((0, 3), 0), [], [])), (4, (0, 0, 71, some ((0, 4), 0), [], []))], [], [((21, 8), (0, 1, 12, some ((22, 8), 0), [], [])), ((21, 11), (0, (-3), 63, some ((22, 11), 0), [], []))], 144, []),
  (44, [(0, (2, 21, 0, none, [], [])), (1, (0, 0, 0, some ((0, 101), 0), [], [])), (2, (0, 0, 60, some ((0, 102), 0), [], [])), (3, (0, 0, 11, some ((0, 3), 0), [], [])), (4, (0, 0, 71, some ((0, 4), 0), [], [])), (5, (0, (-11), 60, some ((0, 5), 0), [], []))], [], [((21, 8), (0, 1, 12, some ((22, 8), 0), [], [])), ((21, 11), (0, (-3), 63, some ((22, 11), 0), [], []))], 23, [(2, (0, 5))]),
  (29, [(0, (2, 21, 0, none, [], [])), (1, (0, 0, 0, some ((0, 101), 0), [], [])), (2, (0, 0, 60, some ((0, 102), 0), [], [])), (3, (0, 0, 11, some ((0, 3), 0), [], []))], [], [((21, 8), (0, 1, 12, some ((22, 8), 0), [], [])), ((21, 11), (0, (-3), 63, some ((22, 11), 0), [], []))], 145, [])]
theorem as_m_X5_place_c0 : a_spec a_tb aC_m_X5_place_c0 := a_meth (Sp := [aC_m_X5_tryRow, aC_h_X5_lowest, aC_h_X5_highest, aC_m_X5_leastRest, aC_m_X5_mostRest, aC_m_X5_place_c1]) (hd := aH_m_X5_place_c0) (mi := xmi_X5_place) 27 rfl (a_sp_c as_m_X5_tryRow (a_sp_c as_h_X5_lowest (a_sp_c as_h_X5_highest (a_sp_c as_m_X5_leastRest (a_sp_c as_m_X5_mostRest (a_sp_c as_m_X5_place_c1 a_sp_n)))))) (by decide +kernel) (by decide +kernel)
/-- X5_search -/
def aC_m_X5_search : aC := (xi_X5_search, 17, [(2, 21, 0, none, [], [])], [(some (0, (-2), 63, none, [], []), [])], [(21, 1), (21, 8), (21, 9), (21, 10), (21, 11), (21, 12), (21, 13), (22, 0), (23, 0), (24, 0), (25, 0), (26, 0), (27, 0)], [])
def aH_m_X5_search : List aH := [(0, [(0, (2, 21, 0, none, [], []))], [], [((14, 9), (0, (-2147483648), 924, some ((15, 9), 0), [], [])), ((14, 10), (0, (-2147483648), 924, some ((15, 10), 0), [], [])), ((21, 9), (0, 0, 63, some ((22, 9), 0), [], [])), ((21, 11), (0, (-3), 63, some ((22, 11), 0), [], []))], 62, []),
  (78, [(0, (2, 21, 0, none, [], []))], [], [((14, 7), (0, 0, 12, some ((15, 7), 0), [], [])), ((14, 9), (0, (-2147483648), 924, some ((15, 9), 0), [], [])), ((14, 10), (0, (-2147483648), 924, some ((15, 10), 0), [], [])), ((21, 9), (0, 0, 61, some ((22, 9), 0), [], [])), ((21, 11), (0, (-3), 63, some ((22, 11), 0), [], []))], 61, [((-1), (22, 9))])]
theorem as_m_X5_search : a_spec a_tb aC_m_X5_search := a_meth (Sp := [aC_m_X2_isLined, aC_h_X5_findClasses, aC_m_X5_place_c0]) (hd := aH_m_X5_search) (mi := xmi_X5_search) 43 rfl (a_sp_c as_m_X2_isLined (a_sp_c as_h_X5_findClasses (a_sp_c as_m_X5_place_c0 a_sp_n))) (by decide +kernel) (by decide +kernel)
/-- X5_look -/
def aC_m_X5_look : aC := (xi_X5_look, 18, [(2, 21, 0, none, [], [])], [(some (0, (-3), 63, none, [], []), [])], [(21, 1), (21, 8), (21, 9), (21, 10), (21, 11), (21, 12), (21, 13), (21, 15), (22, 0), (23, 0), (24, 0), (25, 0), (26, 0), (27, 0)], [])
def aH_m_X5_look : List aH := [(0, [(0, (2, 21, 0, none, [], []))], [], [((14, 7), (0, 0, 12, some ((15, 7), 0), [], [])), ((21, 11), (0, (-3), 63, some ((22, 11), 0), [], [])), ((21, 15), (0, 0, 12, some ((22, 15), 0), [], []))], 0, [])]
theorem as_m_X5_look : a_spec a_tb aC_m_X5_look := a_meth (Sp := [aC_m_X2_isOf, aC_m_X5_search]) (hd := aH_m_X5_look) (mi := xmi_X5_look) 30 rfl (a_sp_c as_m_X2_isOf (a_sp_c as_m_X5_search a_sp_n)) (by decide +kernel) (by decide +kernel)
end XB1
end
section
section XB2
/-- X2_study -/
def aC_h_X2_study : aC := (xi_X2_study, 4, [(2, 14, 0, none, [], []), (2, 11, 0, none, [], []), (0, 1, 12, none, [], [])], [(none, [])], [(14, 7), (14, 8), (14, 9), (14, 10), (14, 11), (14, 12), (15, 0), (16, 0), (17, 0), (18, 0), (19, 0)], [])
end XB2
end
section
section XSY
theorem xe_ac {nL d pc x y len ra rb rK ri : Nat} {off : Int} {lv : List (Nat × Value)} {q : List Value} {h : xh_H} (hx : x < h.1.length) (hy : y < h.1.length) : xe_2 none nL (.if_acmp .ne off, len, ra, rb, rK, ri) d pc lv (.ref y :: .ref x :: q) h 0 0 = some (cond (Nat.beq x y) (pc + 3) ra, lv, q, h, 0, 0) := by
  have e1 : xe_1 nL (.if_acmp .ne off, len, ra, rb, rK, ri) pc lv (.ref y :: .ref x :: q) h 0 0 = some (cond (Nat.beq x y) (pc + 3) ra, lv, q, h, 0, 0) := by
    show (cond (Nat.ble (x + 1) h.1.length && Nat.ble (y + 1) h.1.length) (cond (Nat.beq x y) (some (pc + 3, lv, q, h, 0, 0)) (some (ra, lv, q, h, 0, 0))) none) = _
    rw [Nat.ble_eq_true_of_le (show x + 1 ≤ h.1.length by omega), Nat.ble_eq_true_of_le (show y + 1 ≤ h.1.length by omega)]
    cases Nat.beq x y <;> rfl
  unfold xe_2
  rw [e1]
set_option maxRecDepth 100000 in
set_option maxHeartbeats 4000000 in
/-- Powers.isOf -/
theorem io_run {d q l m : Nat} {h : xh_H} (hi : a_inw a_tb h) (hn : 72 ≤ h.1.length) (hl : xg none h.2.2.2 14 6 = some l) (hl2 : l < h.1.length) (hq2 : q < h.1.length) (hm : m ≤ 12) : xt_P d xi_X2_isOf xmi_X2_isOf 0 [(0, .ref 14), (1, .ref q), (2, .int (nI m))] [] h (fun v h' => h = h' ∧ ∃ p : Bool, v = some (.int (cond p 1 0)) ∧ (p = true ↔ l = q ∧ xg 0 h.2.1 14 7 = nI m)) := by
  have hq := a_rq_of hi hn
  have hs14 : h.1[14]? = some (0, 2) := hq.2.1 14 _ rfl
  refine xa_tn 1 [0, 1, 2] [(0, .ref 14), (1, .ref q), (2, .int (nI m))] [.ref 14] h [] 3 hq rfl trivial (fun _ => ?_)
  refine xp_step rfl rfl (xe_gr hs14 rfl hl) ?_
  refine xa_tn 5 [0, 1, 2] [(0, .ref 14), (1, .ref q), (2, .int (nI m))] [.ref q, .ref l] h [] 3 hq rfl trivial (fun _ => ?_)
  refine xp_step rfl rfl (xe_ac hl2 hq2) ?_
  cases hb : Nat.beq l q with
  | true =>
    have e := Nat.eq_of_beq_eq_true hb
    cases hc : xe_c .ne (xg 0 h.2.1 14 7) (nI m) with
    | true =>
      refine xa_tn 21 [] [] [.int (Int32.ofInt 0)] h [true] 8 hq rfl ⟨hc, trivial⟩ (fun _ => ?_)
      refine xp_ret rfl rfl rfl ⟨rfl, false, rfl, Iff.intro (fun z => Bool.noConfusion z) (fun z => ?_)⟩
      rw [z.2] at hc
      have hc : (!decide (nI m = nI m)) = true := hc
      rw [decide_eq_true rfl] at hc
      cases hc
    | false =>
      refine xa_tn 21 [] [] [.int (Int32.ofInt 1)] h [false] 8 hq rfl ⟨hc, trivial⟩ (fun _ => ?_)
      refine xp_ret rfl rfl rfl ⟨rfl, true, rfl, Iff.intro (fun _ => ⟨e, ?_⟩) (fun _ => rfl)⟩
      have hc : (!decide (xg 0 h.2.1 14 7 = nI m)) = false := hc
      rw [Bool.not_eq_false'] at hc
      exact of_decide_eq_true hc
  | false =>
    refine xa_tn 21 [] [] [.int (Int32.ofInt 0)] h [] 4 hq rfl trivial (fun _ => ?_)
    refine xp_ret rfl rfl rfl ⟨rfl, false, rfl, Iff.intro (fun z => Bool.noConfusion z) (fun z => ?_)⟩
    rw [z.1, Nat.beq_refl] at hb
    cases hb
abbrev st_md : List (Nat × Nat) := [(14, 7), (14, 8), (14, 9), (14, 10), (14, 11), (14, 12), (15, 0), (16, 0), (17, 0), (18, 0), (19, 0)]
/-- within study: the numbers are told, the table isn't ready -/
def sw (h0 h : xh_H) (m : Nat) : Prop := hw st_md h0 h ∧ xg 0 h.2.1 14 7 = nI m ∧ xg 0 h.2.1 14 8 = nI (2 ^ m - 1)
theorem sw_c {h0 h h' : xh_H} {m : Nat} {md : List (Nat × Nat)} (g : sw h0 h m) (hi : a_inv a_tb2 h') (hl : h'.1 = h.1) (hf : a_fr md h h') (hs : ∀ q, q ∈ md → q ∈ st_md) (h7 : a_mb md 14 7 = false) (h8 : a_mb md 14 8 = false) : sw h0 h' m := ⟨hw_c g.1 hi hl hf hs, (fr_g hf rfl h7).trans g.2.1, (fr_g hf rfl h8).trans g.2.2⟩
theorem sw_ui {h0 h : xh_H} {m c k : Nat} {x : Int32} {s : Nat × Nat} {lo hi : Int} (g : sw h0 h m) (hn : 72 ≤ h0.1.length) (hs : a_sh[c]? = some s) (he : a_ent a_tb2 s c k = (0, lo, hi)) (h1 : lo ≤ x.toInt) (h2 : x.toInt ≤ hi) (hj : a_jc c k = false) (hm : a_mb st_md c k = true) : sw h0 (xh_ui h c k x) m := by
  refine ⟨hw_ui g.1 hn hs he h1 h2 hj hm, ?_, ?_⟩
  · rw [gx_i (fun z => by rw [← z.1, ← z.2] at hj; cases hj)]
    exact g.2.1
  · rw [gx_i (fun z => by rw [← z.1, ← z.2] at hj; cases hj)]
    exact g.2.2
set_option maxRecDepth 100000 in
set_option maxHeartbeats 8000000 in
theorem sy_loop {d m : Nat} {h0 : xh_H} {Q : Option Value → xh_H → Prop} (hn : 72 ≤ h0.1.length) (hm : m ≤ 12) (K : ∀ h', sw h0 h' m → xt_P (d + 3) xi_X2_study xmi_X2_study 87 [] [.ref 14] h' Q) : ∀ (n i : Nat) (h : xh_H), i + n = m → sw h0 h m → xt_P (d + 3) xi_X2_study xmi_X2_study 61 [(0, .ref 14), (3, .int (nI i))] [] h Q := by
  intro n
  induction n with
  | zero =>
    intro i h hi g
    have e : i = m := by omega
    subst e
    refine xa_tn 87 [] [] [.ref 14] h [true] 7 (hw_q g.1 hn) rfl ⟨(show xe_c .ge (nI i) (xg 0 h.2.1 14 7) = true by rw [g.2.1]; exact nge_t (by omega) (by omega) (Nat.le_refl _)), trivial⟩ (fun _ => ?_)
    exact K h g
  | succ n ih =>
    intro i h hi g
    have ei := nI_toInt (n := i) (by omega)
    have e1 : nI i + Int32.ofInt 1 = nI (i + 1) := nI_1 i
    refine xa_tn 76 [0, 3] [(0, .ref 14), (3, .int (nI i))] [.int (nI i), .ref 14, .int (nI i), .ref 17] h [false] 11 (hw_q g.1 hn) rfl ⟨(show xe_c .ge (nI i) (xg 0 h.2.1 14 7) = false by rw [g.2.1]; exact nge_f (by omega) (by omega) (by omega)), trivial⟩ (fun hq => ?_)
    refine xp_int (C := aC_m_X2_countSwings) (lo := -2147483648) (hi := 2147483647) (σ := fun _ => 0) as_w_X2_countSwings hq g.1.1 rfl rfl rfl (by show 2 ≤ d + 2; omega) ⟨a_av (by decide) hq.1, a_ai (by omega) (by omega), trivial⟩ a_fp0 rfl (fun x h1 x1 x2 i1 l1 f1 q1 => ?_)
    refine xa_tn 61 [0, 3] [(0, .ref 14), (3, .int ((nI i) + Int32.ofInt 1))] [] (xh_ui h1 17 (nI i).toNatClampNeg x) [] 5 q1 rfl ⟨xin_n (by omega) (by omega), trivial⟩ (fun _ => ?_)
    rw [e1, nI_clamp (by omega)]
    exact ih (i + 1) _ (by omega) (sw_ui (s := (1, 12)) (lo := -2147483648) (hi := 2147483647) (sw_c g i1 l1 f1 (fun _ z => nomatch z) rfl rfl) hn rfl rfl x1 x2 rfl rfl)
theorem nI_sub1 {k : Nat} : nI (k + 1) - Int32.ofInt 1 = nI k := by
  rw [show nI (k + 1) = nI k + Int32.ofInt 1 from (nI_1 k).symm, Int32.add_sub_cancel]
set_option maxRecDepth 100000 in
set_option maxHeartbeats 8000000 in
/-- Powers.study -/
theorem sy_run {d q m : Nat} {h : xh_H} (hi : a_inv a_tb h) (hn : 72 ≤ h.1.length) (hq2 : a_r h.1.length 11 q) (hm1 : 1 ≤ m) (hm : m ≤ 12) : xt_P (d + 4) xi_X2_study xmi_X2_study 0 [(0, .ref 14), (1, .ref q), (2, .int (nI m))] [] h (fun v h' => v = none ∧ hk st_md h h' ∧ xg 0 h'.2.1 14 7 = nI m) := by
  have hq := a_rq_of hi.1 hn
  have hs14 : h.1[14]? = some (0, 2) := hq.2.1 14 _ rfl
  have mi := nI_toInt (n := m) (by omega)
  have p12m : 2 ^ m ≤ 4096 := Nat.pow_le_pow_right (n := 2) (by decide) hm
  have pm0 : 0 < 2 ^ m := Nat.pow_pos (by decide)
  have fi := nI_toInt (n := 2 ^ m - 1) (by omega)
  obtain ⟨l, l1, l2⟩ : ∃ l, xg none h.2.2.2 14 6 = some l ∧ a_r h.1.length 11 l := (hi.1 14 _ hs14).2 6 (by decide)
  refine xa_tn 3 [0, 1, 2] [(0, .ref 14), (1, .ref q), (2, .int (nI m))] [.int (nI m), .ref q, .ref 14] h [] 5 hq rfl trivial (fun _ => ?_)
  refine xp_run hq rfl rfl (io_run (d := d + 3) hi.1 hn l1 l2.1 hq2.1 hm) ?_
  rintro v h1 ⟨rfl, p, rfl, hp⟩
  cases p with
  | true =>
    refine xa_tn 9 [] [] [] h [false] 3 hq rfl ⟨rfl, trivial⟩ (fun _ => ?_)
    exact xp_ret rfl rfl rfl ⟨rfl, hk_0 hi, (hp.mp rfl).2⟩
  | false =>
    refine xa_tn 12 [0, 1, 2] [(0, .ref 14), (1, .ref q), (2, .int (nI m))] [.ref q, .ref 14] h [true] 5 hq rfl ⟨rfl, trivial⟩ (fun _ => ?_)
    refine xp_step rfl rfl (xe_pr hs14 rfl) ?_
    have hi1 : a_inv a_tb (xh_ur h 14 6 (some q)) := a_inv_ur (e := (2, 11, 0)) hi hs14 (by rw [a_tg_lt (by decide)]; rfl) (Or.inl rfl) hq2
    have hx1 : ∀ c k, xg 0 (xh_ur h 14 6 (some q)).2.1 c k = xg 0 h.2.1 c k := fun _ _ => rfl
    have hl1 : (xh_ur h 14 6 (some q)).1 = h.1 := rfl
    generalize xh_ur h 14 6 (some q) = h1 at hi1 hx1 hl1 ⊢
    have hn1 : 72 ≤ h1.1.length := by rw [hl1]; exact hn
    have q1 := a_rq_of hi1.1 hn1
    have hs141 : h1.1[14]? = some (0, 2) := q1.2.1 14 _ rfl
    refine xa_tn 20 [0, 1, 2] [(0, .ref 14), (1, .ref q), (2, .int (nI m))] [] (xh_ui h1 14 7 (nI m)) [] 5 q1 rfl trivial (fun q2 => ?_)
    refine xa_tn 29 [0, 1, 2] [(0, .ref 14), (1, .ref q), (2, .int (nI m))] [] (xh_ui (xh_ui h1 14 7 (nI m)) 14 8 (((Int32.ofInt 1) <<< ((nI m) &&& 31)) - (Int32.ofInt 1))) [] 9 q2 rfl trivial (fun _ => ?_)
    have ef : ((Int32.ofInt 1) <<< ((nI m) &&& 31)) - (Int32.ofInt 1) = nI (2 ^ m - 1) := by
      rw [sh1 m (by omega)]
      obtain ⟨j, ej⟩ : ∃ j, 2 ^ m = j + 1 := ⟨2 ^ m - 1, by omega⟩
      rw [ej]
      exact nI_sub1
    rw [ef]
    have iw : a_inw a_tb (xh_ui (xh_ui h1 14 7 (nI m)) 14 8 (nI (2 ^ m - 1))) := a_inw_ui (s := (0, 2)) (lo := 0) (hi := 4095) (a_inw_ui (s := (0, 2)) (lo := 0) (hi := 12) hi1.1 hs141 (by rw [a_tg_lt (by decide)]; rfl) (by omega) (by omega)) hs141 (by rw [a_tg_lt (by decide)]; rfl) (by omega) (by omega)
    have x7 : xg 0 (xh_ui (xh_ui h1 14 7 (nI m)) 14 8 (nI (2 ^ m - 1))).2.1 14 7 = nI m := by rw [gx_k (by decide), gx_s]
    have x8 : xg 0 (xh_ui (xh_ui h1 14 7 (nI m)) 14 8 (nI (2 ^ m - 1))).2.1 14 8 = nI (2 ^ m - 1) := gx_s
    have xo : ∀ c k, ¬ (c = 14 ∧ (k = 7 ∨ k = 8)) → xg 0 (xh_ui (xh_ui h1 14 7 (nI m)) 14 8 (nI (2 ^ m - 1))).2.1 c k = xg 0 h.2.1 c k := by
      intro c k hck
      rw [gx_i (fun z => hck ⟨z.1, Or.inr z.2⟩), gx_i (fun z => hck ⟨z.1, Or.inl z.2⟩), hx1]
    have xl : (xh_ui (xh_ui h1 14 7 (nI m)) 14 8 (nI (2 ^ m - 1))).1 = h.1 := hl1
    generalize xh_ui (xh_ui h1 14 7 (nI m)) 14 8 (nI (2 ^ m - 1)) = h3 at iw x7 x8 xo xl ⊢
    have g3 : sw h h3 m := by
      refine ⟨⟨⟨a_inw2.mpr iw, ?_, ?_, ?_, fun z => absurd z (by decide)⟩, xl, ?_⟩, x7, x8⟩
      · rw [x7, x8, fi, mi]
        show ((2 ^ m - 1 : Nat) : Int) = ((2 ^ m : Nat) : Int) - 1
        omega
      · intro k hk s t hs ht hst
        rw [xo 39 33 (by omega)] at hk
        have g := hi.2.2.1 k hk s t hs ht hst
        dsimp only at g ⊢
        rw [xo 44 _ (by omega), xo 44 _ (by omega)]
        exact g
      · intro s t hs ht hst
        rw [xo 39 35 (by omega)] at hs ht
        have g := hi.2.2.2.1 s t hs ht hst
        dsimp only at g ⊢
        rw [xo 53 _ (by omega), xo 53 _ (by omega)]
        exact g
      · intro c k hz hmd
        refine xo c k (fun z => hmd ?_)
        obtain ⟨z1, z2⟩ := z
        subst z1
        rcases z2 with z2 | z2
        · subst z2
          decide
        · subst z2
          decide
    refine xa_tn 36 [0] [(0, .ref 14)] [.int (Int32.ofInt 0), .ref 15, .ref 14, .ref 14] h3 [] 7 (hw_q g3.1 hn) rfl trivial (fun hq3 => ?_)
    refine xp_run hq3 rfl rfl (li15_all (d := d + 3) (b := Int32.ofInt 0) g3.1.1 hq3.1 (by decide) (by decide) (by omega)) ?_
    rintro v h4 ⟨k4, x, rfl, x924⟩
    have g4 : sw h h4 m := sw_c g3 k4.1 k4.2.1 k4.2.2 (by decide) rfl rfl
    have xr := ar_rng x
    refine xa_tn 42 [0] [(0, .ref 14)] [] (xh_ui h4 14 9 x) [] 3 (hw_q g4.1 hn) rfl trivial (fun _ => ?_)
    have g5 : sw h (xh_ui h4 14 9 x) m := sw_ui (s := (0, 2)) (lo := -2147483648) (hi := 924) g4 hn rfl rfl xr.1 x924 rfl rfl
    generalize xh_ui h4 14 9 x = h5 at g5 ⊢
    refine xa_tn 49 [0] [(0, .ref 14)] [.int (Int32.ofInt 1), .ref 16, .ref 14, .ref 14] h5 [] 7 (hw_q g5.1 hn) rfl trivial (fun hq5 => ?_)
    refine xp_run hq5 rfl rfl (li16_all (d := d + 3) (b := Int32.ofInt 1) g5.1.1 hq5.1 (by decide) (by decide) (by omega)) ?_
    rintro v h6 ⟨k6, y, rfl, y924⟩
    have g6 : sw h h6 m := sw_c g5 k6.1 k6.2.1 k6.2.2 (by decide) rfl rfl
    have yr := ar_rng y
    refine xa_tn 56 [0] [(0, .ref 14)] [.ref 14] (xh_ui h6 14 10 y) [] 4 (hw_q g6.1 hn) rfl trivial (fun _ => ?_)
    have g7 : sw h (xh_ui h6 14 10 y) m := sw_ui (s := (0, 2)) (lo := -2147483648) (hi := 924) g6 hn rfl rfl yr.1 y924 rfl rfl
    generalize xh_ui h6 14 10 y = h7 at g7 ⊢
    have hq7 := hw_q g7.1 hn
    refine xp_void (C := aC_m_X2_markNeeded) (σ := fun _ => 0) (P := []) as_w_X2_markNeeded hq7 g7.1.1 rfl rfl rfl (Nat.zero_le _) ⟨a_av (by decide) hq7.1, trivial⟩ a_fp0 rfl (fun h8 _ i8 l8 f8 q8 => ?_)
    have g8 : sw h h8 m := sw_c g7 i8 l8 f8 (by decide) rfl rfl
    refine xa_tn 61 [0, 3] [(0, .ref 14), (3, .int (Int32.ofInt 0))] [] h8 [] 4 q8 rfl trivial (fun _ => ?_)
    refine sy_loop hn hm ?_ m 0 h8 (by omega) g8
    intro h9 g9
    have hq9 := hw_q g9.1 hn
    have hn9 := hw_n g9.1 hn
    have iw9 : a_inw a_tb h9 := a_inw2.mp g9.1.1.1
    have hs149 : h9.1[14]? = some (0, 2) := hq9.2.1 14 _ rfl
    obtain ⟨l9, la, lb⟩ : ∃ l, xg none h9.2.2.2 14 6 = some l ∧ a_r h9.1.length 11 l := (iw9 14 _ hs149).2 6 (by decide)
    obtain ⟨sq, r, rb, sr⟩ := law_sh iw9 lb
    refine xp_run hq9 rfl rfl (ca_run (d := d + 1) (m := m) iw9 hn9 hm g9.2.1 g9.2.2 la sq rb sr) ?_
    rintro v h10 ⟨rfl, hc10, al10⟩
    refine xp_ret rfl rfl rfl ⟨rfl, ⟨⟨hc10.1, ?_, ?_, ?_, ?_⟩, hc10.2.1.trans g9.1.2.1, ?_⟩, by rw [hc10.2.2.2 14 7 (by decide)]; exact g9.2.1⟩
    · rw [hc10.2.2.2 14 7 (by decide), hc10.2.2.2 14 8 (by decide)]
      exact g9.1.1.2.1
    · intro k hk s t hs ht hst
      rw [hc10.2.2.2 39 33 (by decide)] at hk
      have g := g9.1.1.2.2.1 k hk s t hs ht hst
      dsimp only at g ⊢
      rw [hc10.2.2.2 44 _ (by decide), hc10.2.2.2 44 _ (by decide)]
      exact g
    · intro s t hs ht hst
      rw [hc10.2.2.2 39 35 (by decide)] at hs ht
      have g := g9.1.1.2.2.2.1 s t hs ht hst
      dsimp only at g ⊢
      rw [hc10.2.2.2 53 _ (by decide), hc10.2.2.2 53 _ (by decide)]
      exact g
    · intro _ a b c ha hb hc2 hab hbc
      rw [hc10.2.2.2 14 7 (by decide), g9.2.1, mi] at ha hb hc2
      have ha : a < m := by omega
      have hb : b < m := by omega
      have hc2 : c < m := by omega
      exact (al10 a c ha hc2).mpr (al_tr ha hb hc2 ((al10 a b ha hb).mp hab) ((al10 b c hb hc2).mp hbc))
    · intro c k hz hmd
      rw [hc10.2.2.2 c k (fun z => hmd (by subst z; show (19, 0) ∈ st_md; decide))]
      exact g9.1.2.2 c k hz hmd
set_option maxRecDepth 100000 in
theorem as_h_X2_study : a_spec a_tb aC_h_X2_study := by
  intro d mi vs h σ hd hM hi hn ha _
  cases hM
  match vs, ha with
  | [v0, v1, v2], ha =>
    obtain ⟨⟨q, rfl, hq⟩, ⟨q2, rfl, hq2⟩, ⟨b, rfl, b1, b2, -⟩, -⟩ := ha
    have eq : q = 14 := a_r_ob (t := 14) (by decide) hq
    subst eq
    have b1 : 1 ≤ b.toInt := b1
    have b2 : b.toInt ≤ 12 := b2
    obtain ⟨m, rfl, m12, m31⟩ := a_nk (x := b) (m := 12) (by omega) b2
    rw [nI_toInt m31] at b1
    have hd : 4 ≤ d := hd
    obtain ⟨d, rfl⟩ : ∃ d', d = d' + 4 := ⟨d - 4, by omega⟩
    obtain ⟨v, h', r, rfl, hk0, -⟩ := sy_run (d := d) (m := m) hi hn hq2 (by omega) m12
    exact ⟨none, h', r, hk0.1, hk0.2.1, ⟨_, List.mem_singleton.mpr rfl, rfl, a_fp0⟩, hk0.2.2⟩
end XSY
end
section
section XB1
/-- X9_powersToday -/
def aC_m_X9_powersToday : aC := (xi_X9_powersToday, 5, [(2, 0, 0, none, [], [])], [(some (2, 14, 0, none, [], []), [])], [(14, 7), (14, 8), (14, 9), (14, 10), (14, 11), (14, 12), (15, 0), (16, 0), (17, 0), (18, 0), (19, 0)], [])
def aH_m_X9_powersToday : List aH := [(0, [(0, (2, 0, 0, none, [], []))], [], [((0, 9), (0, 1, 12, some ((1, 9), 0), [], [])), ((0, 10), (0, (-2147483648), 2147483647, some ((1, 10), 0), [], []))], 0, [])]
theorem as_m_X9_powersToday : a_spec a_tb aC_m_X9_powersToday := a_meth (Sp := [aC_m_X9_inForce, aC_h_X2_study]) (hd := aH_m_X9_powersToday) (mi := xmi_X9_powersToday) 17 rfl (a_sp_c as_m_X9_inForce (a_sp_c as_h_X2_study a_sp_n)) (by decide +kernel) (by decide +kernel)
/-- X9_many -/
def aC_m_X9_many : aC := (xi_X9_many, 6, [(2, 0, 0, none, [], []), (0, (-2147483648), 2147483647, none, [], [])], [(some (0, (-2147483648), 2147483647, none, [], []), [])], [(14, 7), (14, 8), (14, 9), (14, 10), (14, 11), (14, 12), (15, 0), (16, 0), (17, 0), (18, 0), (19, 0)], [])
def aH_m_X9_many : List aH := [(0, [(0, (2, 0, 0, none, [], [])), (1, (0, (-2147483648), 2147483647, some ((0, 101), 0), [], []))], [], [((14, 9), (0, (-2147483648), 924, some ((15, 9), 0), [], [])), ((14, 10), (0, (-2147483648), 924, some ((15, 10), 0), [], [])), ((14, 11), (0, 0, 4095, some ((15, 11), 0), [], [])), ((14, 12), (0, 0, 4095, some ((15, 12), 0), [], []))], 0, [])]
theorem as_m_X9_many : a_spec a_tb aC_m_X9_many := a_meth (Sp := [aC_m_X9_powersToday, aC_m_X2_countCarrying, aC_bit, aC_m_X2_isProper, aC_m_X2_isStrong, aC_m_X2_isLined]) (hd := aH_m_X9_many) (mi := xmi_X9_many) 16 rfl (a_sp_c as_m_X9_powersToday (a_sp_c as_m_X2_countCarrying (a_sp_c as_bit (a_sp_c as_m_X2_isProper (a_sp_c as_m_X2_isStrong (a_sp_c as_m_X2_isLined a_sp_n)))))) (by decide +kernel) (by decide +kernel)
/-- X9_setAt -/
def aC_m_X9_setAt : aC := (xi_X9_setAt, 6, [(2, 0, 0, none, [], []), (0, (-2147483648), 2147483647, none, [], []), (0, (-2147483648), 2147483647, none, [], [])], [(some (0, (-1), 4095, none, [], []), [])], [(14, 7), (14, 8), (14, 9), (14, 10), (14, 11), (14, 12), (15, 0), (16, 0), (17, 0), (18, 0), (19, 0)], [])
def aH_m_X9_setAt : List aH := [(0, [(0, (2, 0, 0, none, [], [])), (1, (0, (-2147483648), 2147483647, some ((0, 101), 0), [], [])), (2, (0, (-2147483648), 2147483647, some ((0, 102), 0), [], []))], [], [((14, 9), (0, (-2147483648), 924, some ((15, 9), 0), [], [])), ((14, 10), (0, (-2147483648), 924, some ((15, 10), 0), [], [])), ((14, 11), (0, 0, 4095, some ((15, 11), 0), [], [])), ((14, 12), (0, 0, 4095, some ((15, 12), 0), [], []))], 0, [])]
theorem as_m_X9_setAt : a_spec a_tb aC_m_X9_setAt := a_meth (Sp := [aC_m_X9_powersToday]) (hd := aH_m_X9_setAt) (mi := xmi_X9_setAt) 22 rfl (a_sp_c as_m_X9_powersToday a_sp_n) (by decide +kernel) (by decide +kernel)
/-- X9_stronger -/
def aC_m_X9_stronger : aC := (xi_X9_stronger, 6, [(2, 0, 0, none, [], []), (0, (-2147483648), 2147483647, none, [], []), (0, (-2147483648), 2147483647, none, [], [])], [(some (0, (-2), 2, none, [], []), [])], [(14, 7), (14, 8), (14, 9), (14, 10), (14, 11), (14, 12), (15, 0), (16, 0), (17, 0), (18, 0), (19, 0)], [])
def aH_m_X9_stronger : List aH := [(0, [(0, (2, 0, 0, none, [], [])), (1, (0, (-2147483648), 2147483647, some ((0, 101), 0), [], [])), (2, (0, (-2147483648), 2147483647, some ((0, 102), 0), [], []))], [], [], 0, [])]
theorem as_m_X9_stronger : a_spec a_tb aC_m_X9_stronger := a_meth (Sp := [aC_m_X9_isMember, aC_m_X9_powersToday, aC_m_X2_compare]) (hd := aH_m_X9_stronger) (mi := xmi_X9_stronger) 19 rfl (a_sp_c as_m_X9_isMember (a_sp_c as_m_X9_powersToday (a_sp_c as_m_X2_compare a_sp_n))) (by decide +kernel) (by decide +kernel)
/-- X9_turns -/
def aC_m_X9_turns : aC := (xi_X9_turns, 6, [(2, 0, 0, none, [], []), (0, (-2147483648), 2147483647, none, [], [])], [(some (0, (-2147483648), 2147483647, none, [], []), [])], [(14, 7), (14, 8), (14, 9), (14, 10), (14, 11), (14, 12), (15, 0), (16, 0), (17, 0), (18, 0), (19, 0)], [])
def aH_m_X9_turns : List aH := [(0, [(0, (2, 0, 0, none, [], [])), (1, (0, (-2147483648), 2147483647, some ((0, 101), 0), [], []))], [], [], 0, [])]
theorem as_m_X9_turns : a_spec a_tb aC_m_X9_turns := a_meth (Sp := [aC_m_X9_isMember, aC_m_X9_powersToday]) (hd := aH_m_X9_turns) (mi := xmi_X9_turns) 16 rfl (a_sp_c as_m_X9_isMember (a_sp_c as_m_X9_powersToday a_sp_n)) (by decide +kernel) (by decide +kernel)
/-- X9_chance -/
def aC_m_X9_chance : aC := (xi_X9_chance, 6, [(2, 0, 0, none, [], []), (0, (-2147483648), 2147483647, none, [], [])], [(some (1, (-9223372036854775808), 9223372036854775807, none, [], []), [])], [(14, 7), (14, 8), (14, 9), (14, 10), (14, 11), (14, 12), (15, 0), (16, 0), (17, 0), (18, 0), (19, 0)], [])
def aH_m_X9_chance : List aH := [(0, [(0, (2, 0, 0, none, [], [])), (1, (0, (-2147483648), 2147483647, some ((0, 101), 0), [], []))], [], [], 0, [])]
theorem as_m_X9_chance : a_spec a_tb aC_m_X9_chance := a_meth (Sp := [aC_m_X9_powersToday, aC_m_X2_chanceOf]) (hd := aH_m_X9_chance) (mi := xmi_X9_chance) 15 rfl (a_sp_c as_m_X9_powersToday (a_sp_c as_m_X2_chanceOf a_sp_n)) (by decide +kernel) (by decide +kernel)
/-- X9_ally -/
def aC_m_X9_ally : aC := (xi_X9_ally, 6, [(2, 0, 0, none, [], []), (0, (-2147483648), 2147483647, none, [], [])], [(some (0, (-1), 11, none, [], []), [])], [(14, 7), (14, 8), (14, 9), (14, 10), (14, 11), (14, 12), (15, 0), (16, 0), (17, 0), (18, 0), (19, 0)], [])
def aH_m_X9_ally : List aH := [(0, [(0, (2, 0, 0, none, [], [])), (1, (0, (-2147483648), 2147483647, some ((0, 101), 0), [], []))], [], [], 0, [])]
theorem as_m_X9_ally : a_spec a_tb aC_m_X9_ally := a_meth (Sp := [aC_m_X9_isMember, aC_m_X9_powersToday, aC_m_X2_allyOf]) (hd := aH_m_X9_ally) (mi := xmi_X9_ally) 15 rfl (a_sp_c as_m_X9_isMember (a_sp_c as_m_X9_powersToday (a_sp_c as_m_X2_allyOf a_sp_n))) (by decide +kernel) (by decide +kernel)
/-- X9_weigh -/
def aC_m_X9_weigh : aC := (xi_X9_weigh, 19, [(2, 0, 0, none, [], [])], [(some (0, (-3), 63, none, [], []), [])], [(14, 7), (14, 8), (14, 9), (14, 10), (14, 11), (14, 12), (15, 0), (16, 0), (17, 0), (18, 0), (19, 0), (21, 1), (21, 8), (21, 9), (21, 10), (21, 11), (21, 12), (21, 13), (21, 15), (22, 0), (23, 0), (24, 0), (25, 0), (26, 0), (27, 0)], [])
def aH_m_X9_weigh : List aH := [(0, [(0, (2, 0, 0, none, [], []))], [], [], 0, [])]
theorem as_m_X9_weigh : a_spec a_tb aC_m_X9_weigh := a_meth (Sp := [aC_m_X9_powersToday, aC_m_X5_look]) (hd := aH_m_X9_weigh) (mi := xmi_X9_weigh) 12 rfl (a_sp_c as_m_X9_powersToday (a_sp_c as_m_X5_look a_sp_n)) (by decide +kernel) (by decide +kernel)
end XB1
end
section
section XSP
set_option maxRecDepth 100000 in
/-- the sets of twelve members in 924 chains -/
def sp_c : List (List (List Nat)) := [[[0, 1, 3, 7, 15, 31, 63, 127, 255, 511, 1023, 2047, 4095], [2, 6, 14, 30, 62, 126, 254, 510, 1022, 2046, 4094], [4, 5, 13, 29, 61, 125, 253, 509, 1021, 2045, 4093], [8, 9, 11, 27, 59, 123, 251, 507, 1019, 2043, 4091], [10, 26, 58, 122, 250, 506, 1018, 2042, 4090], [12, 28, 60, 124, 252, 508, 1020, 2044, 4092], [16, 17, 19, 23, 55, 119, 247, 503, 1015, 2039, 4087], [18, 22, 54, 118, 246, 502, 1014, 2038, 4086], [20, 21, 53, 117, 245, 501, 1013, 2037, 4085], [24, 25, 57, 121, 249, 505, 1017, 2041, 4089], [32, 33, 35, 39, 47, 111, 239, 495, 1007, 2031, 4079], [34, 38, 46, 110, 238, 494, 1006, 2030, 4078], [36, 37, 45, 109, 237, 493, 1005, 2029, 4077], [40, 41, 43, 107, 235, 491, 1003, 2027, 4075], [42, 106, 234, 490, 1002, 2026, 4074], [44, 108, 236, 492, 1004, 2028, 4076], [48, 49, 51, 115, 243, 499, 1011, 2035, 4083], [50, 114, 242, 498, 1010, 2034, 4082], [52, 116, 244, 500, 1012, 2036, 4084], [56, 120, 248, 504, 1016, 2040, 4088], [64, 65, 67, 71, 79, 95, 223, 479, 991, 2015, 4063], [66, 70, 78, 94, 222, 478, 990, 2014, 4062], [68, 69, 77, 93, 221, 477, 989, 2013, 4061], [72, 73, 75, 91, 219, 475, 987, 2011, 4059], [74, 90, 218, 474, 986, 2010, 4058], [76, 92, 220, 476, 988, 2012, 4060], [80, 81, 83, 87, 215, 471, 983, 2007, 4055], [82, 86, 214, 470, 982, 2006, 4054], [84, 85, 213, 469, 981, 2005, 4053], [88, 89, 217, 473, 985, 2009, 4057], [96, 97, 99, 103, 231, 487, 999, 2023, 4071]],
  [[98, 102, 230, 486, 998, 2022, 4070], [100, 101, 229, 485, 997, 2021, 4069], [104, 105, 233, 489, 1001, 2025, 4073], [112, 113, 241, 497, 1009, 2033, 4081], [128, 129, 131, 135, 143, 159, 191, 447, 959, 1983, 4031], [130, 134, 142, 158, 190, 446, 958, 1982, 4030], [132, 133, 141, 157, 189, 445, 957, 1981, 4029], [136, 137, 139, 155, 187, 443, 955, 1979, 4027], [138, 154, 186, 442, 954, 1978, 4026], [140, 156, 188, 444, 956, 1980, 4028], [144, 145, 147, 151, 183, 439, 951, 1975, 4023], [146, 150, 182, 438, 950, 1974, 4022], [148, 149, 181, 437, 949, 1973, 4021], [152, 153, 185, 441, 953, 1977, 4025], [160, 161, 163, 167, 175, 431, 943, 1967, 4015], [162, 166, 174, 430, 942, 1966, 4014], [164, 165, 173, 429, 941, 1965, 4013], [168, 169, 171, 427, 939, 1963, 4011], [170, 426, 938, 1962, 4010], [172, 428, 940, 1964, 4012], [176, 177, 179, 435, 947, 1971, 4019], [178, 434, 946, 1970, 4018], [180, 436, 948, 1972, 4020], [184, 440, 952, 1976, 4024], [192, 193, 195, 199, 207, 463, 975, 1999, 4047], [194, 198, 206, 462, 974, 1998, 4046], [196, 197, 205, 461, 973, 1997, 4045], [200, 201, 203, 459, 971, 1995, 4043], [202, 458, 970, 1994, 4042], [204, 460, 972, 1996, 4044], [208, 209, 211, 467, 979, 2003, 4051]],
  [[210, 466, 978, 2002, 4050], [212, 468, 980, 2004, 4052], [216, 472, 984, 2008, 4056], [224, 225, 227, 483, 995, 2019, 4067], [226, 482, 994, 2018, 4066], [228, 484, 996, 2020, 4068], [232, 488, 1000, 2024, 4072], [240, 496, 1008, 2032, 4080], [256, 257, 259, 263, 271, 287, 319, 383, 895, 1919, 3967], [258, 262, 270, 286, 318, 382, 894, 1918, 3966], [260, 261, 269, 285, 317, 381, 893, 1917, 3965], [264, 265, 267, 283, 315, 379, 891, 1915, 3963], [266, 282, 314, 378, 890, 1914, 3962], [268, 284, 316, 380, 892, 1916, 3964], [272, 273, 275, 279, 311, 375, 887, 1911, 3959], [274, 278, 310, 374, 886, 1910, 3958], [276, 277, 309, 373, 885, 1909, 3957], [280, 281, 313, 377, 889, 1913, 3961], [288, 289, 291, 295, 303, 367, 879, 1903, 3951], [290, 294, 302, 366, 878, 1902, 3950], [292, 293, 301, 365, 877, 1901, 3949], [296, 297, 299, 363, 875, 1899, 3947], [298, 362, 874, 1898, 3946], [300, 364, 876, 1900, 3948], [304, 305, 307, 371, 883, 1907, 3955], [306, 370, 882, 1906, 3954], [308, 372, 884, 1908, 3956], [312, 376, 888, 1912, 3960], [320, 321, 323, 327, 335, 351, 863, 1887, 3935], [322, 326, 334, 350, 862, 1886, 3934], [324, 325, 333, 349, 861, 1885, 3933]],
  [[328, 329, 331, 347, 859, 1883, 3931], [330, 346, 858, 1882, 3930], [332, 348, 860, 1884, 3932], [336, 337, 339, 343, 855, 1879, 3927], [338, 342, 854, 1878, 3926], [340, 341, 853, 1877, 3925], [344, 345, 857, 1881, 3929], [352, 353, 355, 359, 871, 1895, 3943], [354, 358, 870, 1894, 3942], [356, 357, 869, 1893, 3941], [360, 361, 873, 1897, 3945], [368, 369, 881, 1905, 3953], [384, 385, 387, 391, 399, 415, 927, 1951, 3999], [386, 390, 398, 414, 926, 1950, 3998], [388, 389, 397, 413, 925, 1949, 3997], [392, 393, 395, 411, 923, 1947, 3995], [394, 410, 922, 1946, 3994], [396, 412, 924, 1948, 3996], [400, 401, 403, 407, 919, 1943, 3991], [402, 406, 918, 1942, 3990], [404, 405, 917, 1941, 3989], [408, 409, 921, 1945, 3993], [416, 417, 419, 423, 935, 1959, 4007], [418, 422, 934, 1958, 4006], [420, 421, 933, 1957, 4005], [424, 425, 937, 1961, 4009], [432, 433, 945, 1969, 4017], [448, 449, 451, 455, 967, 1991, 4039], [450, 454, 966, 1990, 4038], [452, 453, 965, 1989, 4037], [456, 457, 969, 1993, 4041]],
  [[464, 465, 977, 2001, 4049], [480, 481, 993, 2017, 4065], [512, 513, 515, 519, 527, 543, 575, 639, 767, 1791, 3839], [514, 518, 526, 542, 574, 638, 766, 1790, 3838], [516, 517, 525, 541, 573, 637, 765, 1789, 3837], [520, 521, 523, 539, 571, 635, 763, 1787, 3835], [522, 538, 570, 634, 762, 1786, 3834], [524, 540, 572, 636, 764, 1788, 3836], [528, 529, 531, 535, 567, 631, 759, 1783, 3831], [530, 534, 566, 630, 758, 1782, 3830], [532, 533, 565, 629, 757, 1781, 3829], [536, 537, 569, 633, 761, 1785, 3833], [544, 545, 547, 551, 559, 623, 751, 1775, 3823], [546, 550, 558, 622, 750, 1774, 3822], [548, 549, 557, 621, 749, 1773, 3821], [552, 553, 555, 619, 747, 1771, 3819], [554, 618, 746, 1770, 3818], [556, 620, 748, 1772, 3820], [560, 561, 563, 627, 755, 1779, 3827], [562, 626, 754, 1778, 3826], [564, 628, 756, 1780, 3828], [568, 632, 760, 1784, 3832], [576, 577, 579, 583, 591, 607, 735, 1759, 3807], [578, 582, 590, 606, 734, 1758, 3806], [580, 581, 589, 605, 733, 1757, 3805], [584, 585, 587, 603, 731, 1755, 3803], [586, 602, 730, 1754, 3802], [588, 604, 732, 1756, 3804], [592, 593, 595, 599, 727, 1751, 3799], [594, 598, 726, 1750, 3798], [596, 597, 725, 1749, 3797]],
  [[600, 601, 729, 1753, 3801], [608, 609, 611, 615, 743, 1767, 3815], [610, 614, 742, 1766, 3814], [612, 613, 741, 1765, 3813], [616, 617, 745, 1769, 3817], [624, 625, 753, 1777, 3825], [640, 641, 643, 647, 655, 671, 703, 1727, 3775], [642, 646, 654, 670, 702, 1726, 3774], [644, 645, 653, 669, 701, 1725, 3773], [648, 649, 651, 667, 699, 1723, 3771], [650, 666, 698, 1722, 3770], [652, 668, 700, 1724, 3772], [656, 657, 659, 663, 695, 1719, 3767], [658, 662, 694, 1718, 3766], [660, 661, 693, 1717, 3765], [664, 665, 697, 1721, 3769], [672, 673, 675, 679, 687, 1711, 3759], [674, 678, 686, 1710, 3758], [676, 677, 685, 1709, 3757], [680, 681, 683, 1707, 3755], [682, 1706, 3754], [684, 1708, 3756], [688, 689, 691, 1715, 3763], [690, 1714, 3762], [692, 1716, 3764], [696, 1720, 3768], [704, 705, 707, 711, 719, 1743, 3791], [706, 710, 718, 1742, 3790], [708, 709, 717, 1741, 3789], [712, 713, 715, 1739, 3787], [714, 1738, 3786]],
  [[716, 1740, 3788], [720, 721, 723, 1747, 3795], [722, 1746, 3794], [724, 1748, 3796], [728, 1752, 3800], [736, 737, 739, 1763, 3811], [738, 1762, 3810], [740, 1764, 3812], [744, 1768, 3816], [752, 1776, 3824], [768, 769, 771, 775, 783, 799, 831, 1855, 3903], [770, 774, 782, 798, 830, 1854, 3902], [772, 773, 781, 797, 829, 1853, 3901], [776, 777, 779, 795, 827, 1851, 3899], [778, 794, 826, 1850, 3898], [780, 796, 828, 1852, 3900], [784, 785, 787, 791, 823, 1847, 3895], [786, 790, 822, 1846, 3894], [788, 789, 821, 1845, 3893], [792, 793, 825, 1849, 3897], [800, 801, 803, 807, 815, 1839, 3887], [802, 806, 814, 1838, 3886], [804, 805, 813, 1837, 3885], [808, 809, 811, 1835, 3883], [810, 1834, 3882], [812, 1836, 3884], [816, 817, 819, 1843, 3891], [818, 1842, 3890], [820, 1844, 3892], [824, 1848, 3896], [832, 833, 835, 839, 847, 1871, 3919]],
  [[834, 838, 846, 1870, 3918], [836, 837, 845, 1869, 3917], [840, 841, 843, 1867, 3915], [842, 1866, 3914], [844, 1868, 3916], [848, 849, 851, 1875, 3923], [850, 1874, 3922], [852, 1876, 3924], [856, 1880, 3928], [864, 865, 867, 1891, 3939], [866, 1890, 3938], [868, 1892, 3940], [872, 1896, 3944], [880, 1904, 3952], [896, 897, 899, 903, 911, 1935, 3983], [898, 902, 910, 1934, 3982], [900, 901, 909, 1933, 3981], [904, 905, 907, 1931, 3979], [906, 1930, 3978], [908, 1932, 3980], [912, 913, 915, 1939, 3987], [914, 1938, 3986], [916, 1940, 3988], [920, 1944, 3992], [928, 929, 931, 1955, 4003], [930, 1954, 4002], [932, 1956, 4004], [936, 1960, 4008], [944, 1968, 4016], [960, 961, 963, 1987, 4035], [962, 1986, 4034]],
  [[964, 1988, 4036], [968, 1992, 4040], [976, 2000, 4048], [992, 2016, 4064], [1024, 1025, 1027, 1031, 1039, 1055, 1087, 1151, 1279, 1535, 3583], [1026, 1030, 1038, 1054, 1086, 1150, 1278, 1534, 3582], [1028, 1029, 1037, 1053, 1085, 1149, 1277, 1533, 3581], [1032, 1033, 1035, 1051, 1083, 1147, 1275, 1531, 3579], [1034, 1050, 1082, 1146, 1274, 1530, 3578], [1036, 1052, 1084, 1148, 1276, 1532, 3580], [1040, 1041, 1043, 1047, 1079, 1143, 1271, 1527, 3575], [1042, 1046, 1078, 1142, 1270, 1526, 3574], [1044, 1045, 1077, 1141, 1269, 1525, 3573], [1048, 1049, 1081, 1145, 1273, 1529, 3577], [1056, 1057, 1059, 1063, 1071, 1135, 1263, 1519, 3567], [1058, 1062, 1070, 1134, 1262, 1518, 3566], [1060, 1061, 1069, 1133, 1261, 1517, 3565], [1064, 1065, 1067, 1131, 1259, 1515, 3563], [1066, 1130, 1258, 1514, 3562], [1068, 1132, 1260, 1516, 3564], [1072, 1073, 1075, 1139, 1267, 1523, 3571], [1074, 1138, 1266, 1522, 3570], [1076, 1140, 1268, 1524, 3572], [1080, 1144, 1272, 1528, 3576], [1088, 1089, 1091, 1095, 1103, 1119, 1247, 1503, 3551], [1090, 1094, 1102, 1118, 1246, 1502, 3550], [1092, 1093, 1101, 1117, 1245, 1501, 3549], [1096, 1097, 1099, 1115, 1243, 1499, 3547], [1098, 1114, 1242, 1498, 3546], [1100, 1116, 1244, 1500, 3548], [1104, 1105, 1107, 1111, 1239, 1495, 3543]],
  [[1106, 1110, 1238, 1494, 3542], [1108, 1109, 1237, 1493, 3541], [1112, 1113, 1241, 1497, 3545], [1120, 1121, 1123, 1127, 1255, 1511, 3559], [1122, 1126, 1254, 1510, 3558], [1124, 1125, 1253, 1509, 3557], [1128, 1129, 1257, 1513, 3561], [1136, 1137, 1265, 1521, 3569], [1152, 1153, 1155, 1159, 1167, 1183, 1215, 1471, 3519], [1154, 1158, 1166, 1182, 1214, 1470, 3518], [1156, 1157, 1165, 1181, 1213, 1469, 3517], [1160, 1161, 1163, 1179, 1211, 1467, 3515], [1162, 1178, 1210, 1466, 3514], [1164, 1180, 1212, 1468, 3516], [1168, 1169, 1171, 1175, 1207, 1463, 3511], [1170, 1174, 1206, 1462, 3510], [1172, 1173, 1205, 1461, 3509], [1176, 1177, 1209, 1465, 3513], [1184, 1185, 1187, 1191, 1199, 1455, 3503], [1186, 1190, 1198, 1454, 3502], [1188, 1189, 1197, 1453, 3501], [1192, 1193, 1195, 1451, 3499], [1194, 1450, 3498], [1196, 1452, 3500], [1200, 1201, 1203, 1459, 3507], [1202, 1458, 3506], [1204, 1460, 3508], [1208, 1464, 3512], [1216, 1217, 1219, 1223, 1231, 1487, 3535], [1218, 1222, 1230, 1486, 3534], [1220, 1221, 1229, 1485, 3533]],
  [[1224, 1225, 1227, 1483, 3531], [1226, 1482, 3530], [1228, 1484, 3532], [1232, 1233, 1235, 1491, 3539], [1234, 1490, 3538], [1236, 1492, 3540], [1240, 1496, 3544], [1248, 1249, 1251, 1507, 3555], [1250, 1506, 3554], [1252, 1508, 3556], [1256, 1512, 3560], [1264, 1520, 3568], [1280, 1281, 1283, 1287, 1295, 1311, 1343, 1407, 3455], [1282, 1286, 1294, 1310, 1342, 1406, 3454], [1284, 1285, 1293, 1309, 1341, 1405, 3453], [1288, 1289, 1291, 1307, 1339, 1403, 3451], [1290, 1306, 1338, 1402, 3450], [1292, 1308, 1340, 1404, 3452], [1296, 1297, 1299, 1303, 1335, 1399, 3447], [1298, 1302, 1334, 1398, 3446], [1300, 1301, 1333, 1397, 3445], [1304, 1305, 1337, 1401, 3449], [1312, 1313, 1315, 1319, 1327, 1391, 3439], [1314, 1318, 1326, 1390, 3438], [1316, 1317, 1325, 1389, 3437], [1320, 1321, 1323, 1387, 3435], [1322, 1386, 3434], [1324, 1388, 3436], [1328, 1329, 1331, 1395, 3443], [1330, 1394, 3442], [1332, 1396, 3444]],
  [[1336, 1400, 3448], [1344, 1345, 1347, 1351, 1359, 1375, 3423], [1346, 1350, 1358, 1374, 3422], [1348, 1349, 1357, 1373, 3421], [1352, 1353, 1355, 1371, 3419], [1354, 1370, 3418], [1356, 1372, 3420], [1360, 1361, 1363, 1367, 3415], [1362, 1366, 3414], [1364, 1365, 3413], [1368, 1369, 3417], [1376, 1377, 1379, 1383, 3431], [1378, 1382, 3430], [1380, 1381, 3429], [1384, 1385, 3433], [1392, 1393, 3441], [1408, 1409, 1411, 1415, 1423, 1439, 3487], [1410, 1414, 1422, 1438, 3486], [1412, 1413, 1421, 1437, 3485], [1416, 1417, 1419, 1435, 3483], [1418, 1434, 3482], [1420, 1436, 3484], [1424, 1425, 1427, 1431, 3479], [1426, 1430, 3478], [1428, 1429, 3477], [1432, 1433, 3481], [1440, 1441, 1443, 1447, 3495], [1442, 1446, 3494], [1444, 1445, 3493], [1448, 1449, 3497], [1456, 1457, 3505]],
  [[1472, 1473, 1475, 1479, 3527], [1474, 1478, 3526], [1476, 1477, 3525], [1480, 1481, 3529], [1488, 1489, 3537], [1504, 1505, 3553], [1536, 1537, 1539, 1543, 1551, 1567, 1599, 1663, 3711], [1538, 1542, 1550, 1566, 1598, 1662, 3710], [1540, 1541, 1549, 1565, 1597, 1661, 3709], [1544, 1545, 1547, 1563, 1595, 1659, 3707], [1546, 1562, 1594, 1658, 3706], [1548, 1564, 1596, 1660, 3708], [1552, 1553, 1555, 1559, 1591, 1655, 3703], [1554, 1558, 1590, 1654, 3702], [1556, 1557, 1589, 1653, 3701], [1560, 1561, 1593, 1657, 3705], [1568, 1569, 1571, 1575, 1583, 1647, 3695], [1570, 1574, 1582, 1646, 3694], [1572, 1573, 1581, 1645, 3693], [1576, 1577, 1579, 1643, 3691], [1578, 1642, 3690], [1580, 1644, 3692], [1584, 1585, 1587, 1651, 3699], [1586, 1650, 3698], [1588, 1652, 3700], [1592, 1656, 3704], [1600, 1601, 1603, 1607, 1615, 1631, 3679], [1602, 1606, 1614, 1630, 3678], [1604, 1605, 1613, 1629, 3677], [1608, 1609, 1611, 1627, 3675], [1610, 1626, 3674]],
  [[1612, 1628, 3676], [1616, 1617, 1619, 1623, 3671], [1618, 1622, 3670], [1620, 1621, 3669], [1624, 1625, 3673], [1632, 1633, 1635, 1639, 3687], [1634, 1638, 3686], [1636, 1637, 3685], [1640, 1641, 3689], [1648, 1649, 3697], [1664, 1665, 1667, 1671, 1679, 1695, 3743], [1666, 1670, 1678, 1694, 3742], [1668, 1669, 1677, 1693, 3741], [1672, 1673, 1675, 1691, 3739], [1674, 1690, 3738], [1676, 1692, 3740], [1680, 1681, 1683, 1687, 3735], [1682, 1686, 3734], [1684, 1685, 3733], [1688, 1689, 3737], [1696, 1697, 1699, 1703, 3751], [1698, 1702, 3750], [1700, 1701, 3749], [1704, 1705, 3753], [1712, 1713, 3761], [1728, 1729, 1731, 1735, 3783], [1730, 1734, 3782], [1732, 1733, 3781], [1736, 1737, 3785], [1744, 1745, 3793], [1760, 1761, 3809]],
  [[1792, 1793, 1795, 1799, 1807, 1823, 3871], [1794, 1798, 1806, 1822, 3870], [1796, 1797, 1805, 1821, 3869], [1800, 1801, 1803, 1819, 3867], [1802, 1818, 3866], [1804, 1820, 3868], [1808, 1809, 1811, 1815, 3863], [1810, 1814, 3862], [1812, 1813, 3861], [1816, 1817, 3865], [1824, 1825, 1827, 1831, 3879], [1826, 1830, 3878], [1828, 1829, 3877], [1832, 1833, 3881], [1840, 1841, 3889], [1856, 1857, 1859, 1863, 3911], [1858, 1862, 3910], [1860, 1861, 3909], [1864, 1865, 3913], [1872, 1873, 3921], [1888, 1889, 3937], [1920, 1921, 1923, 1927, 3975], [1922, 1926, 3974], [1924, 1925, 3973], [1928, 1929, 3977], [1936, 1937, 3985], [1952, 1953, 4001], [1984, 1985, 4033], [2048, 2049, 2051, 2055, 2063, 2079, 2111, 2175, 2303, 2559, 3071], [2050, 2054, 2062, 2078, 2110, 2174, 2302, 2558, 3070], [2052, 2053, 2061, 2077, 2109, 2173, 2301, 2557, 3069]],
  [[2056, 2057, 2059, 2075, 2107, 2171, 2299, 2555, 3067], [2058, 2074, 2106, 2170, 2298, 2554, 3066], [2060, 2076, 2108, 2172, 2300, 2556, 3068], [2064, 2065, 2067, 2071, 2103, 2167, 2295, 2551, 3063], [2066, 2070, 2102, 2166, 2294, 2550, 3062], [2068, 2069, 2101, 2165, 2293, 2549, 3061], [2072, 2073, 2105, 2169, 2297, 2553, 3065], [2080, 2081, 2083, 2087, 2095, 2159, 2287, 2543, 3055], [2082, 2086, 2094, 2158, 2286, 2542, 3054], [2084, 2085, 2093, 2157, 2285, 2541, 3053], [2088, 2089, 2091, 2155, 2283, 2539, 3051], [2090, 2154, 2282, 2538, 3050], [2092, 2156, 2284, 2540, 3052], [2096, 2097, 2099, 2163, 2291, 2547, 3059], [2098, 2162, 2290, 2546, 3058], [2100, 2164, 2292, 2548, 3060], [2104, 2168, 2296, 2552, 3064], [2112, 2113, 2115, 2119, 2127, 2143, 2271, 2527, 3039], [2114, 2118, 2126, 2142, 2270, 2526, 3038], [2116, 2117, 2125, 2141, 2269, 2525, 3037], [2120, 2121, 2123, 2139, 2267, 2523, 3035], [2122, 2138, 2266, 2522, 3034], [2124, 2140, 2268, 2524, 3036], [2128, 2129, 2131, 2135, 2263, 2519, 3031], [2130, 2134, 2262, 2518, 3030], [2132, 2133, 2261, 2517, 3029], [2136, 2137, 2265, 2521, 3033], [2144, 2145, 2147, 2151, 2279, 2535, 3047], [2146, 2150, 2278, 2534, 3046], [2148, 2149, 2277, 2533, 3045], [2152, 2153, 2281, 2537, 3049]],
  [[2160, 2161, 2289, 2545, 3057], [2176, 2177, 2179, 2183, 2191, 2207, 2239, 2495, 3007], [2178, 2182, 2190, 2206, 2238, 2494, 3006], [2180, 2181, 2189, 2205, 2237, 2493, 3005], [2184, 2185, 2187, 2203, 2235, 2491, 3003], [2186, 2202, 2234, 2490, 3002], [2188, 2204, 2236, 2492, 3004], [2192, 2193, 2195, 2199, 2231, 2487, 2999], [2194, 2198, 2230, 2486, 2998], [2196, 2197, 2229, 2485, 2997], [2200, 2201, 2233, 2489, 3001], [2208, 2209, 2211, 2215, 2223, 2479, 2991], [2210, 2214, 2222, 2478, 2990], [2212, 2213, 2221, 2477, 2989], [2216, 2217, 2219, 2475, 2987], [2218, 2474, 2986], [2220, 2476, 2988], [2224, 2225, 2227, 2483, 2995], [2226, 2482, 2994], [2228, 2484, 2996], [2232, 2488, 3000], [2240, 2241, 2243, 2247, 2255, 2511, 3023], [2242, 2246, 2254, 2510, 3022], [2244, 2245, 2253, 2509, 3021], [2248, 2249, 2251, 2507, 3019], [2250, 2506, 3018], [2252, 2508, 3020], [2256, 2257, 2259, 2515, 3027], [2258, 2514, 3026], [2260, 2516, 3028], [2264, 2520, 3032]],
  [[2272, 2273, 2275, 2531, 3043], [2274, 2530, 3042], [2276, 2532, 3044], [2280, 2536, 3048], [2288, 2544, 3056], [2304, 2305, 2307, 2311, 2319, 2335, 2367, 2431, 2943], [2306, 2310, 2318, 2334, 2366, 2430, 2942], [2308, 2309, 2317, 2333, 2365, 2429, 2941], [2312, 2313, 2315, 2331, 2363, 2427, 2939], [2314, 2330, 2362, 2426, 2938], [2316, 2332, 2364, 2428, 2940], [2320, 2321, 2323, 2327, 2359, 2423, 2935], [2322, 2326, 2358, 2422, 2934], [2324, 2325, 2357, 2421, 2933], [2328, 2329, 2361, 2425, 2937], [2336, 2337, 2339, 2343, 2351, 2415, 2927], [2338, 2342, 2350, 2414, 2926], [2340, 2341, 2349, 2413, 2925], [2344, 2345, 2347, 2411, 2923], [2346, 2410, 2922], [2348, 2412, 2924], [2352, 2353, 2355, 2419, 2931], [2354, 2418, 2930], [2356, 2420, 2932], [2360, 2424, 2936], [2368, 2369, 2371, 2375, 2383, 2399, 2911], [2370, 2374, 2382, 2398, 2910], [2372, 2373, 2381, 2397, 2909], [2376, 2377, 2379, 2395, 2907], [2378, 2394, 2906], [2380, 2396, 2908]],
  [[2384, 2385, 2387, 2391, 2903], [2386, 2390, 2902], [2388, 2389, 2901], [2392, 2393, 2905], [2400, 2401, 2403, 2407, 2919], [2402, 2406, 2918], [2404, 2405, 2917], [2408, 2409, 2921], [2416, 2417, 2929], [2432, 2433, 2435, 2439, 2447, 2463, 2975], [2434, 2438, 2446, 2462, 2974], [2436, 2437, 2445, 2461, 2973], [2440, 2441, 2443, 2459, 2971], [2442, 2458, 2970], [2444, 2460, 2972], [2448, 2449, 2451, 2455, 2967], [2450, 2454, 2966], [2452, 2453, 2965], [2456, 2457, 2969], [2464, 2465, 2467, 2471, 2983], [2466, 2470, 2982], [2468, 2469, 2981], [2472, 2473, 2985], [2480, 2481, 2993], [2496, 2497, 2499, 2503, 3015], [2498, 2502, 3014], [2500, 2501, 3013], [2504, 2505, 3017], [2512, 2513, 3025], [2528, 2529, 3041], [2560, 2561, 2563, 2567, 2575, 2591, 2623, 2687, 2815]],
  [[2562, 2566, 2574, 2590, 2622, 2686, 2814], [2564, 2565, 2573, 2589, 2621, 2685, 2813], [2568, 2569, 2571, 2587, 2619, 2683, 2811], [2570, 2586, 2618, 2682, 2810], [2572, 2588, 2620, 2684, 2812], [2576, 2577, 2579, 2583, 2615, 2679, 2807], [2578, 2582, 2614, 2678, 2806], [2580, 2581, 2613, 2677, 2805], [2584, 2585, 2617, 2681, 2809], [2592, 2593, 2595, 2599, 2607, 2671, 2799], [2594, 2598, 2606, 2670, 2798], [2596, 2597, 2605, 2669, 2797], [2600, 2601, 2603, 2667, 2795], [2602, 2666, 2794], [2604, 2668, 2796], [2608, 2609, 2611, 2675, 2803], [2610, 2674, 2802], [2612, 2676, 2804], [2616, 2680, 2808], [2624, 2625, 2627, 2631, 2639, 2655, 2783], [2626, 2630, 2638, 2654, 2782], [2628, 2629, 2637, 2653, 2781], [2632, 2633, 2635, 2651, 2779], [2634, 2650, 2778], [2636, 2652, 2780], [2640, 2641, 2643, 2647, 2775], [2642, 2646, 2774], [2644, 2645, 2773], [2648, 2649, 2777], [2656, 2657, 2659, 2663, 2791], [2658, 2662, 2790]],
  [[2660, 2661, 2789], [2664, 2665, 2793], [2672, 2673, 2801], [2688, 2689, 2691, 2695, 2703, 2719, 2751], [2690, 2694, 2702, 2718, 2750], [2692, 2693, 2701, 2717, 2749], [2696, 2697, 2699, 2715, 2747], [2698, 2714, 2746], [2700, 2716, 2748], [2704, 2705, 2707, 2711, 2743], [2706, 2710, 2742], [2708, 2709, 2741], [2712, 2713, 2745], [2720, 2721, 2723, 2727, 2735], [2722, 2726, 2734], [2724, 2725, 2733], [2728, 2729, 2731], [2730], [2732], [2736, 2737, 2739], [2738], [2740], [2744], [2752, 2753, 2755, 2759, 2767], [2754, 2758, 2766], [2756, 2757, 2765], [2760, 2761, 2763], [2762], [2764], [2768, 2769, 2771], [2770]],
  [[2772], [2776], [2784, 2785, 2787], [2786], [2788], [2792], [2800], [2816, 2817, 2819, 2823, 2831, 2847, 2879], [2818, 2822, 2830, 2846, 2878], [2820, 2821, 2829, 2845, 2877], [2824, 2825, 2827, 2843, 2875], [2826, 2842, 2874], [2828, 2844, 2876], [2832, 2833, 2835, 2839, 2871], [2834, 2838, 2870], [2836, 2837, 2869], [2840, 2841, 2873], [2848, 2849, 2851, 2855, 2863], [2850, 2854, 2862], [2852, 2853, 2861], [2856, 2857, 2859], [2858], [2860], [2864, 2865, 2867], [2866], [2868], [2872], [2880, 2881, 2883, 2887, 2895], [2882, 2886, 2894], [2884, 2885, 2893], [2888, 2889, 2891]],
  [[2890], [2892], [2896, 2897, 2899], [2898], [2900], [2904], [2912, 2913, 2915], [2914], [2916], [2920], [2928], [2944, 2945, 2947, 2951, 2959], [2946, 2950, 2958], [2948, 2949, 2957], [2952, 2953, 2955], [2954], [2956], [2960, 2961, 2963], [2962], [2964], [2968], [2976, 2977, 2979], [2978], [2980], [2984], [2992], [3008, 3009, 3011], [3010], [3012], [3016], [3024]],
  [[3040], [3072, 3073, 3075, 3079, 3087, 3103, 3135, 3199, 3327], [3074, 3078, 3086, 3102, 3134, 3198, 3326], [3076, 3077, 3085, 3101, 3133, 3197, 3325], [3080, 3081, 3083, 3099, 3131, 3195, 3323], [3082, 3098, 3130, 3194, 3322], [3084, 3100, 3132, 3196, 3324], [3088, 3089, 3091, 3095, 3127, 3191, 3319], [3090, 3094, 3126, 3190, 3318], [3092, 3093, 3125, 3189, 3317], [3096, 3097, 3129, 3193, 3321], [3104, 3105, 3107, 3111, 3119, 3183, 3311], [3106, 3110, 3118, 3182, 3310], [3108, 3109, 3117, 3181, 3309], [3112, 3113, 3115, 3179, 3307], [3114, 3178, 3306], [3116, 3180, 3308], [3120, 3121, 3123, 3187, 3315], [3122, 3186, 3314], [3124, 3188, 3316], [3128, 3192, 3320], [3136, 3137, 3139, 3143, 3151, 3167, 3295], [3138, 3142, 3150, 3166, 3294], [3140, 3141, 3149, 3165, 3293], [3144, 3145, 3147, 3163, 3291], [3146, 3162, 3290], [3148, 3164, 3292], [3152, 3153, 3155, 3159, 3287], [3154, 3158, 3286], [3156, 3157, 3285], [3160, 3161, 3289]],
  [[3168, 3169, 3171, 3175, 3303], [3170, 3174, 3302], [3172, 3173, 3301], [3176, 3177, 3305], [3184, 3185, 3313], [3200, 3201, 3203, 3207, 3215, 3231, 3263], [3202, 3206, 3214, 3230, 3262], [3204, 3205, 3213, 3229, 3261], [3208, 3209, 3211, 3227, 3259], [3210, 3226, 3258], [3212, 3228, 3260], [3216, 3217, 3219, 3223, 3255], [3218, 3222, 3254], [3220, 3221, 3253], [3224, 3225, 3257], [3232, 3233, 3235, 3239, 3247], [3234, 3238, 3246], [3236, 3237, 3245], [3240, 3241, 3243], [3242], [3244], [3248, 3249, 3251], [3250], [3252], [3256], [3264, 3265, 3267, 3271, 3279], [3266, 3270, 3278], [3268, 3269, 3277], [3272, 3273, 3275], [3274], [3276]],
  [[3280, 3281, 3283], [3282], [3284], [3288], [3296, 3297, 3299], [3298], [3300], [3304], [3312], [3328, 3329, 3331, 3335, 3343, 3359, 3391], [3330, 3334, 3342, 3358, 3390], [3332, 3333, 3341, 3357, 3389], [3336, 3337, 3339, 3355, 3387], [3338, 3354, 3386], [3340, 3356, 3388], [3344, 3345, 3347, 3351, 3383], [3346, 3350, 3382], [3348, 3349, 3381], [3352, 3353, 3385], [3360, 3361, 3363, 3367, 3375], [3362, 3366, 3374], [3364, 3365, 3373], [3368, 3369, 3371], [3370], [3372], [3376, 3377, 3379], [3378], [3380], [3384], [3392, 3393, 3395, 3399, 3407], [3394, 3398, 3406]],
  [[3396, 3397, 3405], [3400, 3401, 3403], [3402], [3404], [3408, 3409, 3411], [3410], [3412], [3416], [3424, 3425, 3427], [3426], [3428], [3432], [3440], [3456, 3457, 3459, 3463, 3471], [3458, 3462, 3470], [3460, 3461, 3469], [3464, 3465, 3467], [3466], [3468], [3472, 3473, 3475], [3474], [3476], [3480], [3488, 3489, 3491], [3490], [3492], [3496], [3504], [3520, 3521, 3523], [3522], [3524]],
  [[3528], [3536], [3552], [3584, 3585, 3587, 3591, 3599, 3615, 3647], [3586, 3590, 3598, 3614, 3646], [3588, 3589, 3597, 3613, 3645], [3592, 3593, 3595, 3611, 3643], [3594, 3610, 3642], [3596, 3612, 3644], [3600, 3601, 3603, 3607, 3639], [3602, 3606, 3638], [3604, 3605, 3637], [3608, 3609, 3641], [3616, 3617, 3619, 3623, 3631], [3618, 3622, 3630], [3620, 3621, 3629], [3624, 3625, 3627], [3626], [3628], [3632, 3633, 3635], [3634], [3636], [3640], [3648, 3649, 3651, 3655, 3663], [3650, 3654, 3662], [3652, 3653, 3661], [3656, 3657, 3659], [3658], [3660], [3664, 3665, 3667], [3666]],
  [[3668], [3672], [3680, 3681, 3683], [3682], [3684], [3688], [3696], [3712, 3713, 3715, 3719, 3727], [3714, 3718, 3726], [3716, 3717, 3725], [3720, 3721, 3723], [3722], [3724], [3728, 3729, 3731], [3730], [3732], [3736], [3744, 3745, 3747], [3746], [3748], [3752], [3760], [3776, 3777, 3779], [3778], [3780], [3784], [3792], [3808], [3840, 3841, 3843, 3847, 3855], [3842, 3846, 3854], [3844, 3845, 3853]],
  [[3848, 3849, 3851], [3850], [3852], [3856, 3857, 3859], [3858], [3860], [3864], [3872, 3873, 3875], [3874], [3876], [3880], [3888], [3904, 3905, 3907], [3906], [3908], [3912], [3920], [3936], [3968, 3969, 3971], [3970], [3972], [3976], [3984], [4000], [4032]]]
def sp_n : List Nat → Bool
  | [] => true
  | a :: t => (t.all fun b => Nat.beq (Nat.land a b) a && !(Nat.beq a b)) && sp_n t
/-- sets as one number's bits -/
def sp_m1 : List Nat → Nat
  | [] => 0
  | a :: t => Nat.lor (Nat.pow 2 a) (sp_m1 t)
def sp_m2 : List (List Nat) → Nat
  | [] => 0
  | l :: t => Nat.lor (sp_m1 l) (sp_m2 t)
def sp_m3 : List (List (List Nat)) → Nat
  | [] => 0
  | l :: t => Nat.lor (sp_m2 l) (sp_m3 t)
theorem sp_m1_ok {a : Nat} : ∀ l : List Nat, (sp_m1 l).testBit a = true → a ∈ l := by
  intro l
  induction l with
  | nil => intro h; rw [show sp_m1 [] = 0 from rfl, Nat.zero_testBit] at h; cases h
  | cons b t ih =>
    intro h
    rw [show sp_m1 (b :: t) = 2 ^ b ||| sp_m1 t from rfl, Nat.testBit_or, Bool.or_eq_true, Nat.testBit_two_pow] at h
    rcases h with h | h
    · rw [of_decide_eq_true h]; exact List.mem_cons_self
    · exact List.mem_cons_of_mem _ (ih h)
theorem sp_m2_ok {a : Nat} : ∀ l : List (List Nat), (sp_m2 l).testBit a = true → ∃ s ∈ l, a ∈ s := by
  intro l
  induction l with
  | nil => intro h; rw [show sp_m2 [] = 0 from rfl, Nat.zero_testBit] at h; cases h
  | cons b t ih =>
    intro h
    rw [show sp_m2 (b :: t) = sp_m1 b ||| sp_m2 t from rfl, Nat.testBit_or, Bool.or_eq_true] at h
    rcases h with h | h
    · exact ⟨b, List.mem_cons_self, sp_m1_ok b h⟩
    · obtain ⟨s, h1, h2⟩ := ih h
      exact ⟨s, List.mem_cons_of_mem _ h1, h2⟩
theorem sp_m3_ok {a : Nat} : ∀ l : List (List (List Nat)), (sp_m3 l).testBit a = true → ∃ s ∈ l.flatten, a ∈ s := by
  intro l
  induction l with
  | nil => intro h; rw [show sp_m3 [] = 0 from rfl, Nat.zero_testBit] at h; cases h
  | cons b t ih =>
    intro h
    rw [show sp_m3 (b :: t) = sp_m2 b ||| sp_m3 t from rfl, Nat.testBit_or, Bool.or_eq_true] at h
    rw [List.flatten_cons]
    rcases h with h | h
    · obtain ⟨s, h1, h2⟩ := sp_m2_ok b h
      exact ⟨s, List.mem_append_left _ h1, h2⟩
    · obtain ⟨s, h1, h2⟩ := ih h
      exact ⟨s, List.mem_append_right _ h1, h2⟩
theorem sp_1 : (sp_c.flatten.all sp_n) = true := by decide +kernel
def sp_e : Nat := 4096
theorem sp_2 : Nat.beq (sp_m3 sp_c) (2 ^ sp_e - 1) = true := by decide +kernel
theorem sp_3 : sp_c.flatten.length = 924 := by decide +kernel
/-- in a chain an antichain has one set at most -/
theorem sp_one {p : Nat → Bool} (hp : ∀ a b, p a = true → p b = true → Nat.land a b = a → a = b) : ∀ l : List Nat, sp_n l = true → (l.filter p).length ≤ 1 := by
  intro l
  induction l with
  | nil => intro _; exact Nat.zero_le _
  | cons a t ih =>
    intro h
    obtain ⟨h1, h2⟩ := xw_bb h
    cases ha : p a with
    | false =>
      rw [List.filter_cons_of_neg (by rw [ha]; decide)]
      exact ih h2
    | true =>
      rw [List.filter_cons_of_pos ha]
      have e : t.filter p = [] := by
        rw [List.filter_eq_nil_iff]
        intro b hb hpb
        have g := List.all_eq_true.mp h1 b hb
        obtain ⟨g1, g2⟩ := xw_bb g
        have g1 := Nat.eq_of_beq_eq_true g1
        have e := hp a b ha hpb g1
        rw [e, Nat.beq_refl] at g2
        cases g2
      rw [e]
      exact Nat.le_refl 1
theorem sp_sum {p : Nat → Bool} (hp : ∀ a b, p a = true → p b = true → Nat.land a b = a → a = b) : ∀ L : List (List Nat), (L.all sp_n) = true → ((L.map fun l => l.filter p).flatten).length ≤ L.length := by
  intro L
  induction L with
  | nil => intro _; exact Nat.zero_le _
  | cons l L ih =>
    intro h
    rw [List.all_cons] at h
    obtain ⟨h1, h2⟩ := xw_bb h
    have a1 := sp_one hp l h1
    have a2 := ih h2
    rw [List.map_cons, List.flatten_cons, List.length_append, List.length_cons]
    omega
theorem sp_len : ∀ (l m : List Nat), l.Nodup → (∀ a ∈ l, a ∈ m) → l.length ≤ m.length := by
  intro l
  induction l with
  | nil => intro m _ _; exact Nat.zero_le _
  | cons a t ih =>
    intro m hn hm
    rw [List.nodup_cons] at hn
    have ha : a ∈ m := hm a List.mem_cons_self
    have h1 := ih (m.erase a) hn.2 (fun b hb => by
      have hb2 := hm b (List.mem_cons_of_mem _ hb)
      have hne : b ≠ a := fun e => hn.1 (e ▸ hb)
      exact (List.mem_erase_of_ne hne).mpr hb2)
    have h2 := List.length_erase_of_mem ha
    have h3 : 0 < m.length := List.length_pos_of_mem ha
    rw [List.length_cons]
    omega
/-- SPERNER'S BOUND: of twelve members' sets no more than 924 of which none lies in another -/
theorem sperner {p : Nat → Bool} (hp : ∀ a b, p a = true → p b = true → Nat.land a b = a → a = b) : ((List.range 4096).filter p).length ≤ 924 := by
  have h1 := sp_sum hp sp_c.flatten sp_1
  rw [sp_3] at h1
  refine Nat.le_trans (sp_len _ _ ?_ ?_) h1
  · exact List.Pairwise.sublist List.filter_sublist List.nodup_range
  · intro a ha
    obtain ⟨h2, h3⟩ := List.mem_filter.mp ha
    obtain ⟨s, hs, g⟩ := sp_m3_ok (a := a) sp_c (by rw [Nat.eq_of_beq_eq_true sp_2, Nat.testBit_two_pow_sub_one]; exact decide_eq_true (List.mem_range.mp h2))
    refine List.mem_flatten.mpr ⟨s.filter p, List.mem_map.mpr ⟨s, hs, rfl⟩, List.mem_filter.mpr ⟨g, h3⟩⟩
end XSP
end
section
section XFR
/-- the heap behind the three makings -/
def xf_h : xh_H := ([(0, 9), (0, 8), (2, 640), (0, 4), (0, 3), (1, 400), (1, 400), (1, 64), (0, 6), (1, 16), (1, 16), (0, 7), (4, 64), (5, 8), (0, 2), (1, 924), (1, 924), (1, 12), (1, 14), (1, 12), (4, 13), (0, 5), (1, 12), (1, 12), (1, 12), (1, 12), (1, 12), (1, 12), (0, 0), (1, 7), (1, 84), (1, 7), (1, 7), (1, 7), (1, 896), (0, 1), (1, 60), (1, 60), (3, 60), (0, 10), (1, 640), (3, 53248), (3, 53248), (3, 65536), (3, 32768), (3, 4096), (1, 53248), (1, 13), (1, 13), (1, 13), (4, 16), (1, 8), (1, 8), (3, 4096), (1, 12), (1, 12), (1, 12), (1, 12), (1, 13), (1, 924), (1, 924), (3, 144), (1, 84), (3, 49), (3, 49), (1, 56), (1, 7), (1, 7), (1, 60), (1, 60), (3, 60), (4, 1)],
  [[0, 0, 0, 0, 0, 0, 0, 0, 0, 3, 0, 0], [0, 0], [], [], [0, 0, 0, 0], [], [], [], [], [], [], [-1], [], [], [0, 0, 0, 0, 0, 0, 0, 0], [], [], [], [], [], [], [0, -1, 0, 0, 0, 0, 0, 0, 0, 0, 0, 0, 0, 0, 0, 0], [-1, -1, -1, -1, -1, -1, -1, -1, -1, -1, -1, -1], [], [], [], [], [], [], [-1, -1, -1, -1, -1, -1, -1], [0, 1, 2, 3, 4, 5, 6, 0, 1, 2, 3, 4, 5, 6, 0, 1, 2, 3, 4, 5, 6, 0, 1, 2, 3, 4, 5, 6, 0, 1, 2, 3, 4, 5, 6, 0, 1, 2, 3, 4, 5, 6, 0, 1, 2, 3, 4, 5, 6, 0, 1, 2, 3, 4, 5, 6, 0, 1, 2, 3, 4, 5, 6, 0, 1, 2, 3, 4, 5, 6, 0, 1, 2, 3, 4, 5, 6, 0, 1, 2, 3, 4, 5, 6], [], [], [], [], [0, 0, 0, 0], [], [], [], [0, 0, 0, 0, 3], [], [], [], [], [], [], [], [], [], [], [], [], [], [], [], [], [], [], [], [], [], [], [0, 1, 2, 3, 4, 5, 6, 0, 1, 2, 3, 4, 5, 6, 0, 1, 2, 3, 4, 5, 6, 0, 1, 2, 3, 4, 5, 6, 0, 1, 2, 3, 4, 5, 6, 0, 1, 2, 3, 4, 5, 6, 0, 1, 2, 3, 4, 5, 6, 0, 1, 2, 3, 4, 5, 6, 0, 1, 2, 3, 4, 5, 6, 0, 1, 2, 3, 4, 5, 6, 0, 1, 2, 3, 4, 5, 6, 0, 1, 2, 3, 4, 5, 6], [], [], [], [], [], [], [], [], []],
  [[], [], [], [], [], [], [], [], [], [], [], [], [128, 0, 0, 0, 0, 0, 0, 0, 0, 0, 0, 0, 0, 0, 0, 0, 0, 0, 0, 0, 0, 0, 0, 0, 0, 0, 0, 0, 0, 0, 0, 0, 0, 0, 0, 0, 0, 0, 0, 0, 0, 0, 0, 0, 0, 0, 0, 0, 0, 0, 0, 0, 0, 0, 0, 0, 0, 0, 0, 0, 0, 0, 0, 0], [], [], [], [], [], [], [], [], [], [], [], [], [], [], [], [], [], [], [], [], [], [], [], [], [], [], [], [], [], [], [], [], [], [], [], [], [], [], [], [], [], [], [], [], [], [], [], [], [], [], [], [], [], [], [], [], [], [], []],
  [[some 1, some 3, some 11, some 13, some 14, some 21, some 28, some 35], [some 2], [], [some 4, some 8, some 9, some 10], [some 5, some 6, some 7], [], [], [], [some 1], [], [], [none, some 12], [], [], [some 15, some 16, some 17, some 18, some 19, some 20, some 11], [], [], [], [], [], [], [some 22, none, some 14, some 23, some 24, some 25, some 26, some 27, none, none, none, none, none, none, some 11], [], [], [], [], [], [], [some 29, none, some 30, some 31, some 32, some 33, some 34], [], [], [], [], [], [], [some 36, some 37, some 38], [], [], [], [none, some 40, none, none, none, none, none, none, none, none, none, none, none, none, none, none, some 41, some 42, some 43, some 44, some 45, some 46, some 47, some 48, some 49, some 50, none, none, none, none, none, some 51, some 52, none, some 53, none, none, none, some 54, some 55, some 56, some 57, some 58, some 59, some 60, some 61, none, none, none, none, none, none, none, some 62, some 63, some 64, some 65, some 66, some 67, none, some 68, some 69, some 70], [], [], [], [], [], [], [], [], [], [], [], [], [], [], [], [], [], [], [], [], [], [], [], [], [], [], [], [], [], [], [], []])
def xf_lv : List (Nat × Value) := [(4, .int 0), (3, .ref 71), (2, .ref 39), (1, .ref 0), (0, .float 0)]
set_option maxRecDepth 100000 in
theorem xf_pre : xu_b (xe_u xM xC none 23 3000 12 xi_L_law xmi_L_law (0, [(0, .float 0)], [], ([], [], [], []), 0, 0)) (23, xf_lv, [], xf_h, 72, 274345) = true := by decide +kernel
def a_eb (h : xh_H) (c k : Nat) (e : Nat × Int × Int) : Bool := match e.1 with
  | 0 => decide (e.2.1 ≤ (xg 0 h.2.1 c k).toInt) && decide ((xg 0 h.2.1 c k).toInt ≤ e.2.2)
  | 1 => decide (e.2.1 ≤ (xg 0 h.2.2.1 c k).toInt) && decide ((xg 0 h.2.2.1 c k).toInt ≤ e.2.2)
  | 2 => (match xg none h.2.2.2 c k with
    | some q => Nat.blt q h.1.length && Nat.beq (a_tg q) e.2.1.toNat
    | none => false)
  | 3 => (match xg none h.2.2.2 c k with
    | some q => Nat.blt q h.1.length && Nat.beq (a_tg q) e.2.1.toNat
    | none => true)
  | _ => true
theorem a_eb_ok {h : xh_H} {c k : Nat} {e : Nat × Int × Int} (he : a_eb h c k e = true) : a_e h c k e := by
  unfold a_eb at he
  unfold a_e
  split at he
  · rename_i e0
    obtain ⟨g1, g2⟩ := xw_bb he
    rw [e0]
    exact ⟨of_decide_eq_true g1, of_decide_eq_true g2⟩
  · rename_i e0
    obtain ⟨g1, g2⟩ := xw_bb he
    rw [e0]
    exact ⟨of_decide_eq_true g1, of_decide_eq_true g2⟩
  · rename_i e0
    rw [e0]
    split at he
    · rename_i q hq
      obtain ⟨g1, g2⟩ := xw_bb he
      exact ⟨q, hq, Nat.blt_eq.mp g1, xw_beq g2⟩
    · cases he
  · rename_i e0
    rw [e0]
    intro q hq
    rw [hq] at he
    obtain ⟨g1, g2⟩ := xw_bb he
    exact ⟨Nat.blt_eq.mp g1, xw_beq g2⟩
  · split <;> first | trivial | (exfalso; rename_i n0 n1 n2 n3 x e0; first | exact n0 e0 | exact n1 e0 | exact n2 e0 | exact n3 e0)
/-- every element of an array: those that are listed, and what lies behind them -/
def a_rb (h : xh_H) (c : Nat) (e : Nat × Int × Int) : Bool := (List.range ((h.2.1.getD c []).length + ((h.2.2.1.getD c []).length + ((h.2.2.2.getD c []).length + 1)))).all fun k => a_eb h c k e
theorem xg_far {α : Type} {z : α} {L : List (List α)} {c k : Nat} (h : (L.getD c []).length ≤ k) : xg z L c k = z := by
  unfold xg
  rw [List.getD_eq_getElem?_getD, List.getElem?_eq_none h]
  rfl
theorem a_rb_ok {h : xh_H} {c : Nat} {e : Nat × Int × Int} (he : a_rb h c e = true) : ∀ k, a_e h c k e := by
  intro k
  unfold a_rb at he
  by_cases hk : k < (h.2.1.getD c []).length + ((h.2.2.1.getD c []).length + ((h.2.2.2.getD c []).length + 1))
  · exact a_eb_ok (List.all_eq_true.mp he k (List.mem_range.mpr hk))
  · have g := a_eb_ok (List.all_eq_true.mp he ((h.2.1.getD c []).length + ((h.2.2.1.getD c []).length + (h.2.2.2.getD c []).length)) (List.mem_range.mpr (by omega)))
    unfold a_e at g ⊢
    rw [xg_far (L := h.2.1) (by omega), xg_far (L := h.2.2.1) (by omega), xg_far (L := h.2.2.2) (by omega)] at g ⊢
    exact g
def a_cb0 (tb : aT) (h : xh_H) (c : Nat) : Bool := match h.1[c]? with
  | some s => decide (a_sh[a_tg c]? = some s) && (match s.1 with
    | 0 => (List.range (xh_N s.2)).all fun k => a_eb h c k (a_ent tb s (a_tg c) k)
    | _ => a_rb h c (a_ent tb s (a_tg c) 0))
  | none => true
theorem a_inv_of {tb : aT} {h : xh_H} (hb : ((List.range h.1.length).all (a_cb0 tb h)) = true) : a_inw tb h := by
  intro c s hc
  have hl := (List.getElem?_eq_some_iff.mp hc).1
  have g := List.all_eq_true.mp hb c (List.mem_range.mpr hl)
  unfold a_cb0 at g
  rw [hc] at g
  dsimp only at g
  obtain ⟨g1, g2⟩ := xw_bb g
  refine ⟨of_decide_eq_true g1, fun k hk => ?_⟩
  obtain ⟨s1, s2⟩ := s
  dsimp only at g2
  split at g2
  · exact a_eb_ok (List.all_eq_true.mp g2 k (List.mem_range.mpr hk))
  · rename_i hn
    have e : a_ent tb (s1, s2) (a_tg c) k = a_ent tb (s1, s2) (a_tg c) 0 := a_ent0 (fun z => hn z)
    rw [e]
    exact a_rb_ok g2 k
set_option maxRecDepth 100000 in
/-- the fresh heap keeps the bounds -/
theorem a_fresh_J : a_J a_tb xf_h := by
  have e1 : (xg 0 xf_h.2.1 39 33).toInt = 0 := by decide +kernel
  have e2 : (xg 0 xf_h.2.1 39 35).toInt = 0 := by decide +kernel
  have e3 : (xg 0 xf_h.2.1 14 7).toInt = 0 := by decide +kernel
  refine ⟨by decide +kernel, fun k hk => ?_, fun s t hs => ?_, fun _ a b c ha => ?_⟩
  · rw [e1] at hk
    omega
  · rw [e2] at hs
    exact absurd hs (Nat.not_lt_zero s)
  · rw [e3] at ha
    omega
theorem a_fresh : a_inv a_tb xf_h := ⟨a_inv_of (by decide +kernel), a_fresh_J⟩
end XFR
end
section
section XTL
variable {tb : aT} {mid d : Nat} {mi : xm_M} {pc : Nat} {lv : List (Nat × Value)} {st : List Value} {h : xh_H} {Q : Option Value → xh_H → Prop}
/-- a call that answers an int, by its contract, with what its answer tells -/
theorem xp_intf {C : aC} {r : xr_R} {mj : xm_M} {As q : List Value} {σ : aN → Int} {lo hi : Int} {o : Option (aN × Int)} {ft ff : aF} (hC : a_spec tb C) (hq : a_rq tb h) (hi0 : a_inv tb h) (hr : xC mid pc = some r) (hid : C.1 = r.2.2.1) (he : xa_c r st = some (mj, As, q)) (hd : C.2.1 ≤ d) (ha : a_st σ h.1.length C.2.2.1 As) (hp : a_fp C.2.2.2.2.2 h) (hret : C.2.2.2.1 = [(some (0, lo, hi, o, ft, ff), [])])
    (k : ∀ (x : Int32) (h' : xh_H), lo ≤ x.toInt → x.toInt ≤ hi → (x ≠ 0 → a_f (a_sg As) ft) → (x = 0 → a_f (a_sg As) ff) → a_inv tb h' → h'.1 = h.1 → a_fr C.2.2.2.2.1 h h' → a_rq tb h' → xt_P (d + 1) mid mi (pc + 3) lv (.int x :: q) h' Q) : xt_P (d + 1) mid mi pc lv st h Q := by
  refine xp_by hC hq hi0 hr hid he hd ha hp (fun v h' p hq' => ?_)
  obtain ⟨p1, p2, ⟨t, ht, p3⟩, p4⟩ := p
  rw [hret] at ht
  cases List.mem_singleton.mp ht
  obtain ⟨⟨w, rfl, x, rfl, g1, g2, -, g4, g5⟩, -⟩ := p3
  exact k x h' g1 g2 g4 g5 p1 p2 p4 hq'
theorem n7 (k s : Nat) : (7 : Int32) * nI k + nI s = nI (7 * k + s) := by rw [show (7 : Int32) = nI 7 from rfl, ← nI_mul2, nI_add]
theorem ne_e {x : Int32} {k : Nat} (hk : k < 2 ^ 31) (hx : x = nI k) : x.toInt = k := by rw [hx, nI_toInt hk]
/-- a hand-made contract from what is known of the runs -/
theorem sp_of {C : aC} {mi : xm_M} (hM : xM C.1 = some mi) (H : ∀ (d : Nat) (vs : List Value) (h : xh_H) (σ : aN → Int), C.2.1 ≤ d → a_inv a_tb h → 72 ≤ h.1.length → a_st σ h.1.length C.2.2.1 vs → a_fp C.2.2.2.2.2 h → xt_P d C.1 mi 0 (lv_args 0 vs) [] h (fun v h' => hk C.2.2.2.2.1 h h' ∧ ∃ t ∈ C.2.2.2.1, a_rok (a_sg vs) h.1.length t v h')) : a_spec a_tb C := by
  intro d mi' vs h σ hd hM' hi hn ha hp
  rw [hM] at hM'
  cases hM'
  obtain ⟨v, h', r, hk0, ht⟩ := H d vs h σ hd hi hn ha hp
  exact ⟨v, h', r, hk0.1, hk0.2.1, ht, hk0.2.2⟩
theorem rok_i {σ : aN → Int} {n : Nat} {lo hi : Int} {x : Int32} {h' : xh_H} (h1 : lo ≤ x.toInt) (h2 : x.toInt ≤ hi) : ∃ t ∈ [(some ((0, lo, hi, none, [], []) : aV), ([] : aP))], a_rok σ n t (some (.int x)) h' := ⟨_, List.mem_singleton.mpr rfl, ⟨_, rfl, a_ai h1 h2⟩, a_fp0⟩
theorem rok_v {σ : aN → Int} {n : Nat} {h' : xh_H} : ∃ t ∈ [((none : Option aV), ([] : aP))], a_rok σ n t none h' := ⟨_, List.mem_singleton.mpr rfl, rfl, a_fp0⟩
theorem hk_t {md md' : List (Nat × Nat)} {h0 h1 h2 : xh_H} (a : hk md h0 h1) (b : hk md' h1 h2) (hs : ∀ q, q ∈ md' → q ∈ md) : hk md h0 h2 := hk_c a b.1 b.2.1 b.2.2 hs
end XTL
end
