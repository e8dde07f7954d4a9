section XBC
/-- an element of a boolean array is 0 or 1 -/
theorem a_bl {tb : aT} {h : xh_H} {c n k : Nat} (hi0 : a_inw tb h) (hn : 72 ≤ h.1.length) (hs : a_sh[c]? = some (3, n)) (hc : c < 72) (he : a_ent tb (3, n) c 0 = (0, 0, 1)) (hk : k < n) : 0 ≤ (xg 0 h.2.1 c k).toInt ∧ (xg 0 h.2.1 c k).toInt ≤ 1 := by
  have h1 := (a_rq_of hi0 hn).2.1 c _ hs
  have g := (hi0 c _ h1).2 k hk
  rw [a_tg_lt hc, a_ent0 (fun z => by cases z), he] at g
  exact g
/-- by which sets a statute is carried: the reference's carriesBy -/
def cb_v (h : xh_H) (k : Int) (s : Nat) : Int32 := if k = -1 then (if (s : Int) = (2 ^ (xg 0 h.2.1 39 4).toInt.toNat : Nat) - 1 then 1 else 0) else xg 0 h.2.1 44 (4096 * k.toNat + s)
set_option maxRecDepth 100000 in
set_option maxHeartbeats 4000000 in
theorem cb_run {d : Nat} {h : xh_H} {k : Int32} {s : Nat} (hq : a_rq a_tb h) (hi : a_inw a_tb h) (hk1 : -1 ≤ k.toInt) (hk2 : k.toInt ≤ 7) (hs : s < 4096) : xR none d xi_X10_carriesBy xmi_X10_carriesBy (0, [(0, .ref 39), (1, .int k), (2, .int (nI s))], [], h, 0, 0) (some (.int (cb_v h k.toInt s)), h, 0, 0) := by
  have em := a_fl (k := 4) (lo := 1) (hi := 12) hi hq.1 (show a_sh[39]? = some (0, 10) by decide) (by decide) (by decide +kernel) (by decide)
  have es := nI_toInt (n := s) (by omega)
  cases hk : xe_c .ne k (Int32.ofInt (-1)) with
  | false =>
    have e : k = Int32.ofInt (-1) := by
      have hk : (!decide (k = Int32.ofInt (-1))) = false := hk
      rw [Bool.not_eq_false'] at hk
      exact of_decide_eq_true hk
    have ek : k.toInt = -1 := by rw [e]; rfl
    obtain ⟨emn, -⟩ := a_nIx (y := xg 0 h.2.1 39 4) (by omega)
    have hp : ((2 ^ (xg 0 h.2.1 39 4).toInt.toNat : Nat) : Int) ≤ 4096 := a_pw (i := (xg 0 h.2.1 39 4).toInt.toNat) (j := 12) (by omega)
    have hsh := ar_shl (x := Int32.ofInt 1) (k := (xg 0 h.2.1 39 4).toInt.toNat) (by omega) (by decide) (by show (1 : Int) * _ ≤ _; omega)
    rw [← emn] at hsh
    have hsh : (Int32.ofInt 1 <<< (xg 0 h.2.1 39 4 &&& 31)).toInt = 1 * ((2 ^ (xg 0 h.2.1 39 4).toInt.toNat : Nat) : Int) := hsh
    have p0 := a_pp (xg 0 h.2.1 39 4).toInt.toNat
    have hsb : (Int32.ofInt 1 <<< (xg 0 h.2.1 39 4 &&& 31) - Int32.ofInt 1).toInt = ((2 ^ (xg 0 h.2.1 39 4).toInt.toNat : Nat) : Int) - 1 := by
      have : (Int32.ofInt 1 <<< (xg 0 h.2.1 39 4 &&& 31) - Int32.ofInt 1).toInt = (Int32.ofInt 1 <<< (xg 0 h.2.1 39 4 &&& 31)).toInt - (Int32.ofInt 1).toInt := ar_sub (by rw [hsh]; show -2147483648 ≤ _ - (1 : Int); omega) (by rw [hsh]; show _ - (1 : Int) ≤ _; omega)
      rw [this, hsh]
      show 1 * _ - (1 : Int) = _
      omega
    cases hc : xe_c .ne (nI s) (Int32.ofInt 1 <<< (xg 0 h.2.1 39 4 &&& 31) - Int32.ofInt 1) with
    | false =>
      have hc : (!decide (nI s = Int32.ofInt 1 <<< (xg 0 h.2.1 39 4 &&& 31) - Int32.ofInt 1)) = false := hc
      rw [Bool.not_eq_false'] at hc
      have e2 := of_decide_eq_true hc
      have ev : cb_v h k.toInt s = 1 := by
        unfold cb_v
        rw [if_pos ek, if_pos (by rw [← hsb, ← e2]; exact es.symm)]
      rw [ev]
      refine xa_to 37 [(0, .ref 39), (1, .int k), (2, .int (nI s))] [.int 1] h [false, false] 30 hq rfl ⟨hk, by show (!decide (nI s = _)) = false; rw [hc]; rfl, trivial⟩ (fun _ => ?_)
      exact xR_ret rfl rfl rfl
    | true =>
      have hc2 : (!decide (nI s = Int32.ofInt 1 <<< (xg 0 h.2.1 39 4 &&& 31) - Int32.ofInt 1)) = true := hc
      have ev : cb_v h k.toInt s = 0 := by
        unfold cb_v
        rw [if_pos ek, if_neg]
        intro z
        rw [← hsb, ← es] at z
        have := Int32.toInt_inj.mp z
        rw [this] at hc2
        simp at hc2
      rw [ev]
      refine xa_to 37 [(0, .ref 39), (1, .int k), (2, .int (nI s))] [.int 0] h [false, true] 30 hq rfl ⟨hk, hc, trivial⟩ (fun _ => ?_)
      exact xR_ret rfl rfl rfl
  | true =>
    have hne : k.toInt ≠ -1 := fun z => by
      have : k = Int32.ofInt (-1) := Int32.toInt_inj.mp z
      rw [this] at hk
      revert hk
      decide
    obtain ⟨ek, -⟩ := a_nIx (y := k) (by omega)
    have m1 : ((4096 : Int32) * k).toInt = 4096 * k.toInt := ar_mul (x := (4096 : Int32)) (by show -2147483648 ≤ (4096 : Int) * _; omega) (by show (4096 : Int) * _ ≤ _; omega)
    have m2 : ((4096 : Int32) * k + nI s).toInt = 4096 * k.toInt + s := by
      rw [ar_add (by rw [m1]; omega) (by rw [m1]; omega), m1, es]
    have ein : xe_in ((4096 : Int32) * k + nI s) 32768 = true := a_xin (by omega) (by omega)
    obtain ⟨e5, e6⟩ := a_nIx (y := (4096 : Int32) * k + nI s) (by omega)
    have ecl : ((4096 : Int32) * k + nI s).toNatClampNeg = 4096 * k.toInt.toNat + s := by
      rw [e5, nI_clamp e6]
      omega
    have ev : cb_v h k.toInt s = xg 0 h.2.1 44 (4096 * k.toInt.toNat + s) := by
      unfold cb_v
      rw [if_neg hne]
    have hb := a_bl (k := 4096 * k.toInt.toNat + s) hi hq.1 (show a_sh[44]? = some (3, 32768) by decide) (by decide) (by decide +kernel) (by omega)
    rw [ev]
    refine xa_to 37 [(0, .ref 39), (1, .int k), (2, .int (nI s))] [.int (xg 0 h.2.1 44 ((4096 : Int32) * k + nI s).toNatClampNeg)] h [true] 30 hq rfl ⟨hk, ein, trivial⟩ (fun _ => ?_)
    rw [ecl]
    refine xR_ret rfl rfl ?_
    show (cond (decide (xg 0 h.2.1 44 (4096 * k.toInt.toNat + s) = 0) || decide (xg 0 h.2.1 44 (4096 * k.toInt.toNat + s) = 1)) (some (some (Value.int (xg 0 h.2.1 44 (4096 * k.toInt.toNat + s))))) none) = _
    rw [a_i01 hb.1 hb.2]
    rfl
set_option maxRecDepth 100000 in
set_option maxHeartbeats 8000000 in
/-- which statute is in force: one that was told, or none -/
theorem if_loop {d : Nat} {h : xh_H} {x t : Int32} (hq : a_rq a_tb h) (hi : a_inw a_tb h) : ∀ (n k : Nat) (b : Int32), (k : Int) + n = (xg 0 h.2.1 39 33).toInt → -1 ≤ b.toInt → b.toInt < k → ∃ w : Int32, -1 ≤ w.toInt ∧ w.toInt < (xg 0 h.2.1 39 33).toInt ∧ ∀ R, (R = [(4, .int (nI k)), (3, .int b), (0, .ref 39), (1, .int x), (2, .int t)] ∨ R = [(3, .int b), (4, .int (nI k)), (0, .ref 39), (1, .int x), (2, .int t)]) → xR none d xi_X10_inForce xmi_X10_inForce (5, R, [], h, 0, 0) (some (.int w), h, 0, 0) := by
  have ec := a_fl (k := 33) (lo := 0) (hi := 8) hi hq.1 (show a_sh[39]? = some (0, 10) by decide) (by decide) (by decide +kernel) (by decide)
  intro n
  induction n with
  | zero =>
    intro k b hk hb1 hb2
    refine ⟨b, hb1, by omega, ?_⟩
    have hge : xe_c .ge (nI k) (xg 0 h.2.1 39 33) = true := decide_eq_true (by
      show xg 0 h.2.1 39 33 ≤ nI k
      rw [Int32.le_iff_toInt_le, nI_toInt (by omega)]
      omega)
    intro R hR
    rcases hR with rfl | rfl
    · refine xa_to 67 [(4, .int (nI k)), (3, .int b), (0, .ref 39), (1, .int x), (2, .int t)] [.int b] h [true] 20 hq rfl ⟨hge, trivial⟩ (fun _ => ?_)
      exact xR_ret rfl rfl rfl
    · refine xa_to 67 [(3, .int b), (4, .int (nI k)), (0, .ref 39), (1, .int x), (2, .int t)] [.int b] h [true] 20 hq rfl ⟨hge, trivial⟩ (fun _ => ?_)
      exact xR_ret rfl rfl rfl
  | succ n ih =>
    intro k b hk hb1 hb2
    have hge : xe_c .ge (nI k) (xg 0 h.2.1 39 33) = false := decide_eq_false (by
      show ¬ xg 0 h.2.1 39 33 ≤ nI k
      rw [Int32.le_iff_toInt_le, nI_toInt (by omega)]
      omega)
    have ein : xe_in (nI k) 8 = true := a_xin (by rw [nI_toInt (by omega)]; omega) (by rw [nI_toInt (by omega)]; omega)
    have ek := nI_toInt (n := k) (by omega)
    obtain ⟨w, w1, w2, g⟩ := ih (k + 1) b (by omega) hb1 (by omega)
    obtain ⟨w', w1', w2', g'⟩ := ih (k + 1) (nI k) (by omega) (by omega) (by omega)
    rw [← nI_1] at g g'
    cases c1 : xe_c .gt (xg 0 h.2.1 52 (nI k).toNatClampNeg) t with
    | true =>
      refine ⟨w, w1, w2, ?_⟩
      intro R hR
      rcases hR with rfl | rfl
      all_goals
        refine xa_to 5 [(4, .int (nI k + Int32.ofInt 1)), (3, .int b), (0, .ref 39), (1, .int x), (2, .int t)] [] h [false, true] 40 hq rfl ⟨hge, ein, c1, trivial⟩ (fun _ => ?_)
        exact g _ (Or.inl rfl)
    | false =>
      cases c2 : xe_c .gt (xg 0 h.2.1 51 (nI k).toNatClampNeg) x with
      | true =>
        refine ⟨w, w1, w2, ?_⟩
        intro R hR
        rcases hR with rfl | rfl
        all_goals
          refine xa_to 5 [(4, .int (nI k + Int32.ofInt 1)), (3, .int b), (0, .ref 39), (1, .int x), (2, .int t)] [] h [false, false, true] 40 hq rfl ⟨hge, ein, c1, ein, c2, trivial⟩ (fun _ => ?_)
          exact g _ (Or.inl rfl)
      | false =>
        cases c3 : xe_c .eq b (Int32.ofInt (-1)) with
        | true =>
          refine ⟨w', w1', w2', ?_⟩
          intro R hR
          rcases hR with rfl | rfl
          all_goals
            refine xa_to 5 [(4, .int (nI k + Int32.ofInt 1)), (3, .int (nI k)), (0, .ref 39), (1, .int x), (2, .int t)] [] h [false, false, false, true] 40 hq rfl ⟨hge, ein, c1, ein, c2, c3, trivial⟩ (fun _ => ?_)
            exact g' _ (Or.inl rfl)
        | false =>
          have hbn : b.toInt ≠ -1 := fun z => by
            have : b = Int32.ofInt (-1) := Int32.toInt_inj.mp z
            rw [this] at c3
            revert c3
            decide
          have einb : xe_in b 8 = true := a_xin (by omega) (by omega)
          cases c4 : xe_c .lt (xg 0 h.2.1 51 (nI k).toNatClampNeg) (xg 0 h.2.1 51 b.toNatClampNeg) with
          | true =>
            refine ⟨w, w1, w2, ?_⟩
            intro R hR
            rcases hR with rfl | rfl
            all_goals
              refine xa_to 5 [(4, .int (nI k + Int32.ofInt 1)), (3, .int b), (0, .ref 39), (1, .int x), (2, .int t)] [] h [false, false, false, false, true] 60 hq rfl ⟨hge, ein, c1, ein, c2, c3, ein, einb, c4, trivial⟩ (fun _ => ?_)
              exact g _ (Or.inl rfl)
          | false =>
            refine ⟨w', w1', w2', ?_⟩
            intro R hR
            rcases hR with rfl | rfl
            all_goals
              refine xa_to 5 [(4, .int (nI k + Int32.ofInt 1)), (3, .int (nI k)), (0, .ref 39), (1, .int x), (2, .int t)] [] h [false, false, false, false, false] 60 hq rfl ⟨hge, ein, c1, ein, c2, c3, ein, einb, c4, trivial⟩ (fun _ => ?_)
              exact g' _ (Or.inl rfl)
set_option maxRecDepth 100000 in
theorem if_run {d : Nat} {h : xh_H} {x t : Int32} (hq : a_rq a_tb h) (hi : a_inw a_tb h) : ∃ w : Int32, -1 ≤ w.toInt ∧ w.toInt < (xg 0 h.2.1 39 33).toInt ∧ xR none d xi_X10_inForce xmi_X10_inForce (0, [(0, .ref 39), (1, .int x), (2, .int t)], [], h, 0, 0) (some (.int w), h, 0, 0) := by
  have ec := a_fl (k := 33) (lo := 0) (hi := 8) hi hq.1 (show a_sh[39]? = some (0, 10) by decide) (by decide) (by decide +kernel) (by decide)
  obtain ⟨w, w1, w2, g⟩ := if_loop (d := d) (x := x) (t := t) hq hi (xg 0 h.2.1 39 33).toInt.toNat 0 (Int32.ofInt (-1)) (by omega) (by decide) (by decide)
  refine ⟨w, w1, w2, ?_⟩
  refine xa_to 5 [(4, .int (nI 0)), (3, .int (Int32.ofInt (-1))), (0, .ref 39), (1, .int x), (2, .int t)] [] h [] 10 hq rfl trivial (fun _ => ?_)
  exact g _ (Or.inl rfl)
end XBC
