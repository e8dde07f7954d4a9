section XRI
/-- a row of options: each below seven, none twice -/
def ro (T : Nat → Nat) : Nat → Nat → Int32 → Bool
  | 0, _, _ => true
  | j + 1, i, s => decide (T i < 7) && (xe_c .eq ((s >>> (nI (T i) &&& 31)) &&& Int32.ofInt 1) 0 && ro T j (i + 1) (s ||| (Int32.ofInt 1 <<< (nI (T i) &&& 31))))
theorem and1_c (y : Int32) : xe_c .ne (y &&& Int32.ofInt 1) (Int32.ofInt 1) = xe_c .eq (y &&& Int32.ofInt 1) 0 := by
  have e : (y &&& Int32.ofInt 1).toBitVec = y.toBitVec &&& 1#32 := Int32.toBitVec_and y (Int32.ofInt 1)
  have l : (y &&& Int32.ofInt 1).toBitVec.toNat ≤ 1 := by
    rw [e, BitVec.toNat_and]
    exact Nat.and_le_right
  have d : y &&& Int32.ofInt 1 = 0 ∨ y &&& Int32.ofInt 1 = 1 := by
    rcases Nat.le_one_iff_eq_zero_or_eq_one.mp l with z | z
    · exact Or.inl (Int32.toBitVec_inj.mp (BitVec.eq_of_toNat_eq z))
    · exact Or.inr (Int32.toBitVec_inj.mp (BitVec.eq_of_toNat_eq z))
  rcases d with z | z <;> rw [z] <;> rfl
set_option maxRecDepth 100000 in
set_option maxHeartbeats 4000000 in
theorem isop_q {f c : Nat} {h : xh_H} (hc : c < 256) (hq : a_rq a_tb h) : xq f xi_X0_isOption xmi_X0_isOption 0 [(0, .int (nI c))] [] h (fun v h' => h = h' ∧ v = some (.int (bl (decide (c < 7))))) := by
  cases c1 : xe_c .lt (nI c) 0 with
  | true =>
    have z1 : c < 0 := nq_ltt (a := c) (b := 0) (by omega) (by omega) c1
    omega
  | false =>
    have z1 : c ≥ 0 := nq_ltf (a := c) (b := 0) (by omega) (by omega) c1
    cases c2 : xe_c .ge (nI c) 7 with
    | true =>
      have z2 : c ≥ 7 := nq_get (a := c) (b := 7) (by omega) (by omega) c2
      refine xq_n 15 [] [] [.int (Int32.ofInt 0)] h [false, true] 8 hq rfl ⟨c1, c2, trivial⟩ (fun hq => ?_)
      exact xq_ret rfl rfl rfl ⟨rfl, by rw [show decide (c < 7) = false from decide_eq_false (by omega)]; rfl⟩
    | false =>
      have z2 : c < 7 := nq_gef (a := c) (b := 7) (by omega) (by omega) c2
      refine xq_n 15 [] [] [.int (Int32.ofInt 1)] h [false, false] 9 hq rfl ⟨c1, c2, trivial⟩ (fun hq => ?_)
      exact xq_ret rfl rfl rfl ⟨rfl, by rw [show decide (c < 7) = true from decide_eq_true (by omega)]; rfl⟩
set_option maxRecDepth 100000 in
set_option maxHeartbeats 4000000 in
theorem row_l {f n : Nat} {T : Nat → Nat} {h : xh_H} (hc : ct h T n) (hq : a_rq a_tb h) : ∀ (j i : Nat) (s : Int32), i + j = n → xq f xi_X0_isRow xmi_X0_isRow 23 [(0, .ref 28), (1, .ref 1), (2, .int s), (3, .int (nI i))] [] h (fun v h' => h = h' ∧ v = some (.int (bl (ro T j i s)))) := by
  have n6 := hc.2.1
  intro j
  induction j with
  | zero =>
    intro i s ij
    cases c1 : xe_c .ge (nI i) (nI n) with
    | true =>
      have z1 : i ≥ n := nq_get (a := i) (b := n) (by omega) (by omega) c1
      refine xq_n 71 [] [] [.int (Int32.ofInt 1)] h [true] 7 hq rfl ⟨(show xe_c .ge (nI i) (xg 0 h.2.1 1 1) = true by rw [show (xg 0 h.2.1 1 1) = (nI n) from hc.1]; exact c1), trivial⟩ (fun hq => ?_)
      exact xq_ret rfl rfl rfl ⟨rfl, rfl⟩
    | false =>
      have z1 : i < n := nq_gef (a := i) (b := n) (by omega) (by omega) c1
      omega
  | succ j ih =>
    intro i s ij
    have hR : ro T (j + 1) i s = (decide (T i < 7) && (xe_c .eq ((s >>> (nI (T i) &&& 31)) &&& Int32.ofInt 1) 0 && ro T j (i + 1) (s ||| (Int32.ofInt 1 <<< (nI (T i) &&& 31))))) := rfl
    rw [hR]
    cases c1 : xe_c .ge (nI i) (nI n) with
    | true =>
      have z1 : i ≥ n := nq_get (a := i) (b := n) (by omega) (by omega) c1
      omega
    | false =>
      have z1 : i < n := nq_gef (a := i) (b := n) (by omega) (by omega) c1
      refine xq_n 33 [0, 1, 2, 3] [(0, .ref 28), (1, .ref 1), (2, .int s), (3, .int (nI i))] [.int (nI i), .ref 1] h [false] 8 hq rfl ⟨(show xe_c .ge (nI i) (xg 0 h.2.1 1 1) = false by rw [show (xg 0 h.2.1 1 1) = (nI n) from hc.1]; exact c1), trivial⟩ (fun hq => ?_)
      have tI := (hc.2.2 i (by omega)).1
      refine xq_run hq rfl rfl (at_q hc (p := i) (by omega) hq) ?_
      rintro _ h_ ⟨rfl, rfl⟩
      refine xq_n 40 [0, 1, 2, 3, 4] [(0, .ref 28), (1, .ref 1), (2, .int s), (3, .int (nI i)), (4, .int (nI (T i)))] [.int (nI (T i))] h [] 4 hq rfl trivial (fun hq => ?_)
      refine xq_run hq rfl rfl (isop_q (c := (T i)) (by omega) hq) ?_
      rintro _ h_ ⟨rfl, rfl⟩
      cases b2 : (decide (T i < 7)) with
      | true =>
        have db2 := of_decide_eq_true b2
        cases c3 : xe_c .eq ((s >>> ((nI (T i)) &&& 31)) &&& (Int32.ofInt 1)) 0 with
        | true =>
          refine xq_n 23 [0, 1, 2, 3] [(0, .ref 28), (1, .ref 1), (2, .int (s ||| ((Int32.ofInt 1) <<< ((nI (T i)) &&& 31)))), (3, .int ((nI i) + Int32.ofInt 1))] [] h [false, true] 17 hq rfl ⟨rfl, c3, trivial⟩ (fun hq => ?_)
          rw [show ((nI i) + Int32.ofInt 1) = nI (i + 1) from nI_1 _]
          exact ih (i + 1) (s ||| ((Int32.ofInt 1) <<< ((nI (T i)) &&& 31))) (by omega)
        | false =>
          refine xq_n 56 [] [] [.int (Int32.ofInt 0)] h [false, false] 10 hq rfl ⟨rfl, c3, trivial⟩ (fun hq => ?_)
          exact xq_ret rfl rfl rfl ⟨rfl, rfl⟩
      | false =>
        have db2 := of_decide_eq_false b2
        refine xq_n 56 [] [] [.int (Int32.ofInt 0)] h [true] 4 hq rfl ⟨rfl, trivial⟩ (fun hq => ?_)
        exact xq_ret rfl rfl rfl ⟨rfl, rfl⟩
set_option maxRecDepth 100000 in
set_option maxHeartbeats 4000000 in
theorem row_q {f n : Nat} {T : Nat → Nat} {h : xh_H} (hc : ct h T n) (hq : a_rq a_tb h) : xq f xi_X0_isRow xmi_X0_isRow 0 [(0, .ref 28), (1, .ref 1)] [] h (fun v h' => h = h' ∧ v = some (.int (bl (decide (1 ≤ n ∧ n ≤ 7) && ro T n 0 (Int32.ofInt 0))))) := by
  have n6 := hc.2.1
  cases c1 : xe_c .lt (nI n) (Int32.ofInt 1) with
  | true =>
    have z1 : n < 1 := nq_ltt (a := n) (b := 1) (by omega) (by omega) c1
    refine xq_n 18 [] [] [.int (Int32.ofInt 0)] h [true] 7 hq rfl ⟨(show xe_c .lt (xg 0 h.2.1 1 1) (Int32.ofInt 1) = true by rw [show (xg 0 h.2.1 1 1) = (nI n) from hc.1]; exact c1), trivial⟩ (fun hq => ?_)
    exact xq_ret rfl rfl rfl ⟨rfl, by rw [decide_eq_false (by omega)]; rfl⟩
  | false =>
    have z1 : n ≥ 1 := nq_ltf (a := n) (b := 1) (by omega) (by omega) c1
    cases c2 : xe_c .le (nI n) 7 with
    | true =>
      have z2 : n ≤ 7 := nq_let (a := n) (b := 7) (by omega) (by omega) c2
      refine xq_n 23 [0, 1, 2, 3] [(0, .ref 28), (1, .ref 1), (2, .int (Int32.ofInt 0)), (3, .int (Int32.ofInt 0))] [] h [false, true] 14 hq rfl ⟨(show xe_c .lt (xg 0 h.2.1 1 1) (Int32.ofInt 1) = false by rw [show (xg 0 h.2.1 1 1) = (nI n) from hc.1]; exact c1), (show xe_c .le (xg 0 h.2.1 1 1) 7 = true by rw [show (xg 0 h.2.1 1 1) = (nI n) from hc.1]; exact c2), trivial⟩ (fun hq => ?_)
      rw [show decide (1 ≤ n ∧ n ≤ 7) = true from decide_eq_true (by omega)]
      exact row_l hc hq n 0 _ (by omega)
    | false =>
      have z2 : n > 7 := nq_lef (a := n) (b := 7) (by omega) (by omega) c2
      refine xq_n 18 [] [] [.int (Int32.ofInt 0)] h [false, false] 11 hq rfl ⟨(show xe_c .lt (xg 0 h.2.1 1 1) (Int32.ofInt 1) = false by rw [show (xg 0 h.2.1 1 1) = (nI n) from hc.1]; exact c1), (show xe_c .le (xg 0 h.2.1 1 1) 7 = false by rw [show (xg 0 h.2.1 1 1) = (nI n) from hc.1]; exact c2), trivial⟩ (fun hq => ?_)
      exact xq_ret rfl rfl rfl ⟨rfl, by rw [decide_eq_false (by omega)]; rfl⟩
set_option maxRecDepth 100000 in
set_option maxHeartbeats 4000000 in
theorem are_l {f n : Nat} {T : Nat → Nat} {h : xh_H} (n6 : n ≤ 640) (hT : ∀ k, k < n → T k < 256 ∧ xg 0 h.2.1 40 k = nI (T k)) (hq : a_rq a_tb h) : ∀ (j i : Nat) (s : Int32), i + j = n → xq f xi_X10_areOptions xmi_X10_areOptions 4 [(0, .ref 39), (1, .int (nI n)), (2, .int s), (3, .int (nI i))] [] h (fun v h' => h = h' ∧ v = some (.int (bl (ro T j i s)))) := by
  intro j
  induction j with
  | zero =>
    intro i s ij
    cases c1 : xe_c .ge (nI i) (nI n) with
    | true =>
      have z1 : i ≥ n := nq_get (a := i) (b := n) (by omega) (by omega) c1
      refine xq_n 54 [] [] [.int (Int32.ofInt 1)] h [true] 6 hq rfl ⟨c1, trivial⟩ (fun hq => ?_)
      exact xq_ret rfl rfl rfl ⟨rfl, rfl⟩
    | false =>
      have z1 : i < n := nq_gef (a := i) (b := n) (by omega) (by omega) c1
      omega
  | succ j ih =>
    intro i s ij
    have tI := (hT i (by omega)).1
    have hR : ro T (j + 1) i s = (decide (T i < 7) && (xe_c .ne ((s >>> (nI (T i) &&& 31)) &&& Int32.ofInt 1) (Int32.ofInt 1) && ro T j (i + 1) (s ||| (Int32.ofInt 1 <<< (nI (T i) &&& 31))))) := by rw [and1_c]; rfl
    rw [hR]
    cases c1 : xe_c .ge (nI i) (nI n) with
    | true =>
      have z1 : i ≥ n := nq_get (a := i) (b := n) (by omega) (by omega) c1
      omega
    | false =>
      have z1 : i < n := nq_gef (a := i) (b := n) (by omega) (by omega) c1
      cases c2 : xe_c .ge (nI (T i)) 7 with
      | true =>
        have z2 : (T i) ≥ 7 := nq_get (a := (T i)) (b := 7) (by omega) (by omega) c2
        rw [show decide (T i < 7) = false from decide_eq_false (by omega)]
        refine xq_n 35 [] [] [.int (Int32.ofInt 0)] h [false, true] 12 hq rfl ⟨c1, (show xe_c .ge (xg 0 h.2.1 40 ((nI i).toNatClampNeg)) 7 = true by rw [show (xg 0 h.2.1 40 ((nI i).toNatClampNeg)) = (nI (T i)) from (by rw [show ((nI i).toNatClampNeg) = i from nI_clamp (by omega)]; exact (hT i (by omega)).2)]; exact c2), trivial⟩ (fun hq => ?_)
        exact xq_ret rfl rfl rfl ⟨rfl, rfl⟩
      | false =>
        have z2 : (T i) < 7 := nq_gef (a := (T i)) (b := 7) (by omega) (by omega) c2
        rw [show decide (T i < 7) = true from decide_eq_true (by omega)]
        cases c3 : xe_c .ne ((s >>> ((nI (T i)) &&& 31)) &&& (Int32.ofInt 1)) (Int32.ofInt 1) with
        | true =>
          refine xq_n 4 [0, 1, 2, 3] [(0, .ref 39), (1, .int (nI n)), (2, .int (s ||| ((Int32.ofInt 1) <<< ((xg 0 h.2.1 40 ((nI i).toNatClampNeg)) &&& 31)))), (3, .int ((nI i) + Int32.ofInt 1))] [] h [false, false, true] 32 hq rfl ⟨c1, (show xe_c .ge (xg 0 h.2.1 40 ((nI i).toNatClampNeg)) 7 = false by rw [show (xg 0 h.2.1 40 ((nI i).toNatClampNeg)) = (nI (T i)) from (by rw [show ((nI i).toNatClampNeg) = i from nI_clamp (by omega)]; exact (hT i (by omega)).2)]; exact c2), (show xe_c .ne ((s >>> ((xg 0 h.2.1 40 ((nI i).toNatClampNeg)) &&& 31)) &&& (Int32.ofInt 1)) (Int32.ofInt 1) = true by rw [show (xg 0 h.2.1 40 ((nI i).toNatClampNeg)) = (nI (T i)) from (by rw [show ((nI i).toNatClampNeg) = i from nI_clamp (by omega)]; exact (hT i (by omega)).2)]; exact c3), trivial⟩ (fun hq => ?_)
          rw [show (xg 0 h.2.1 40 ((nI i).toNatClampNeg)) = (nI (T i)) from (by rw [show ((nI i).toNatClampNeg) = i from nI_clamp (by omega)]; exact (hT i (by omega)).2)]
          rw [show ((nI i) + Int32.ofInt 1) = nI (i + 1) from nI_1 _]
          exact ih (i + 1) (s ||| ((Int32.ofInt 1) <<< ((nI (T i)) &&& 31))) (by omega)
        | false =>
          refine xq_n 35 [] [] [.int (Int32.ofInt 0)] h [false, false, false] 22 hq rfl ⟨c1, (show xe_c .ge (xg 0 h.2.1 40 ((nI i).toNatClampNeg)) 7 = false by rw [show (xg 0 h.2.1 40 ((nI i).toNatClampNeg)) = (nI (T i)) from (by rw [show ((nI i).toNatClampNeg) = i from nI_clamp (by omega)]; exact (hT i (by omega)).2)]; exact c2), (show xe_c .ne ((s >>> ((xg 0 h.2.1 40 ((nI i).toNatClampNeg)) &&& 31)) &&& (Int32.ofInt 1)) (Int32.ofInt 1) = false by rw [show (xg 0 h.2.1 40 ((nI i).toNatClampNeg)) = (nI (T i)) from (by rw [show ((nI i).toNatClampNeg) = i from nI_clamp (by omega)]; exact (hT i (by omega)).2)]; exact c3), trivial⟩ (fun hq => ?_)
          exact xq_ret rfl rfl rfl ⟨rfl, rfl⟩
set_option maxRecDepth 100000 in
set_option maxHeartbeats 4000000 in
theorem are_q {f n : Nat} {T : Nat → Nat} {h : xh_H} (n6 : n ≤ 640) (hT : ∀ k, k < n → T k < 256 ∧ xg 0 h.2.1 40 k = nI (T k)) (hq : a_rq a_tb h) : xq f xi_X10_areOptions xmi_X10_areOptions 0 [(0, .ref 39), (1, .int (nI n))] [] h (fun v h' => h = h' ∧ v = some (.int (bl (ro T n 0 (Int32.ofInt 0))))) := by
  refine xq_n 4 [0, 1, 2, 3] [(0, .ref 39), (1, .int (nI n)), (2, .int (Int32.ofInt 0)), (3, .int (Int32.ofInt 0))] [] h [] 6 hq rfl trivial (fun hq => ?_)
  exact are_l n6 hT hq n 0 _ (by omega)
set_option maxRecDepth 100000 in
set_option maxHeartbeats 4000000 in
theorem mem9_q {f : Nat} {x z : Int32} {h : xh_H} (e9 : xg 0 h.2.1 0 9 = z) (hq : a_rq a_tb h) : xq f xi_X9_isMember xmi_X9_isMember 0 [(0, .ref 0), (1, .int x)] [] h (fun v h' => h = h' ∧ v = some (.int (bl (!xe_c .lt x 0 && !xe_c .ge x z)))) := by
  cases c1 : xe_c .lt x 0 with
  | true =>
    refine xq_n 17 [] [] [.int (Int32.ofInt 0)] h [true] 5 hq rfl ⟨c1, trivial⟩ (fun hq => ?_)
    exact xq_ret rfl rfl rfl ⟨rfl, rfl⟩
  | false =>
    cases c2 : xe_c .ge x z with
    | true =>
      refine xq_n 17 [] [] [.int (Int32.ofInt 0)] h [false, true] 9 hq rfl ⟨c1, (show xe_c .ge x (xg 0 h.2.1 0 9) = true by rw [show (xg 0 h.2.1 0 9) = z from e9]; exact c2), trivial⟩ (fun hq => ?_)
      exact xq_ret rfl rfl rfl ⟨rfl, rfl⟩
    | false =>
      refine xq_n 17 [] [] [.int (Int32.ofInt 1)] h [false, false] 10 hq rfl ⟨c1, (show xe_c .ge x (xg 0 h.2.1 0 9) = false by rw [show (xg 0 h.2.1 0 9) = z from e9]; exact c2), trivial⟩ (fun hq => ?_)
      exact xq_ret rfl rfl rfl ⟨rfl, rfl⟩
set_option maxRecDepth 100000 in
set_option maxHeartbeats 4000000 in
theorem mem10_q {f : Nat} {x z : Int32} {h : xh_H} (e9 : xg 0 h.2.1 39 4 = z) (hq : a_rq a_tb h) : xq f xi_X10_isMember xmi_X10_isMember 0 [(0, .ref 39), (1, .int x)] [] h (fun v h' => h = h' ∧ v = some (.int (bl (!xe_c .lt x 0 && !xe_c .ge x z)))) := by
  cases c1 : xe_c .lt x 0 with
  | true =>
    refine xq_n 17 [] [] [.int (Int32.ofInt 0)] h [true] 5 hq rfl ⟨c1, trivial⟩ (fun hq => ?_)
    exact xq_ret rfl rfl rfl ⟨rfl, rfl⟩
  | false =>
    cases c2 : xe_c .ge x z with
    | true =>
      refine xq_n 17 [] [] [.int (Int32.ofInt 0)] h [false, true] 9 hq rfl ⟨c1, (show xe_c .ge x (xg 0 h.2.1 39 4) = true by rw [show (xg 0 h.2.1 39 4) = z from e9]; exact c2), trivial⟩ (fun hq => ?_)
      exact xq_ret rfl rfl rfl ⟨rfl, rfl⟩
    | false =>
      refine xq_n 17 [] [] [.int (Int32.ofInt 1)] h [false, false] 10 hq rfl ⟨c1, (show xe_c .ge x (xg 0 h.2.1 39 4) = false by rw [show (xg 0 h.2.1 39 4) = z from e9]; exact c2), trivial⟩ (fun hq => ?_)
      exact xq_ret rfl rfl rfl ⟨rfl, rfl⟩
set_option maxRecDepth 100000 in
set_option maxHeartbeats 4000000 in
theorem set9_q {f : Nat} {x z : Int32} {h : xh_H} (e9 : xg 0 h.2.1 0 9 = z) (hq : a_rq a_tb h) : xq f xi_X9_isSet xmi_X9_isSet 0 [(0, .ref 0), (1, .int x)] [] h (fun v h' => h = h' ∧ v = some (.int (bl (!xe_c .lt x 0 && !xe_c .ge x (Int32.ofInt 1 <<< (z &&& 31)))))) := by
  cases c1 : xe_c .lt x 0 with
  | true =>
    refine xq_n 19 [] [] [.int (Int32.ofInt 0)] h [true] 5 hq rfl ⟨c1, trivial⟩ (fun hq => ?_)
    exact xq_ret rfl rfl rfl ⟨rfl, rfl⟩
  | false =>
    cases c2 : xe_c .ge x ((Int32.ofInt 1) <<< ((z) &&& 31)) with
    | true =>
      refine xq_n 19 [] [] [.int (Int32.ofInt 0)] h [false, true] 11 hq rfl ⟨c1, (show xe_c .ge x ((Int32.ofInt 1) <<< ((xg 0 h.2.1 0 9) &&& 31)) = true by rw [show (xg 0 h.2.1 0 9) = z from e9]; exact c2), trivial⟩ (fun hq => ?_)
      exact xq_ret rfl rfl rfl ⟨rfl, rfl⟩
    | false =>
      refine xq_n 19 [] [] [.int (Int32.ofInt 1)] h [false, false] 12 hq rfl ⟨c1, (show xe_c .ge x ((Int32.ofInt 1) <<< ((xg 0 h.2.1 0 9) &&& 31)) = false by rw [show (xg 0 h.2.1 0 9) = z from e9]; exact c2), trivial⟩ (fun hq => ?_)
      exact xq_ret rfl rfl rfl ⟨rfl, rfl⟩
set_option maxRecDepth 100000 in
set_option maxHeartbeats 4000000 in
theorem set10_q {f : Nat} {x z : Int32} {h : xh_H} (e9 : xg 0 h.2.1 39 4 = z) (hq : a_rq a_tb h) : xq f xi_X10_isSet xmi_X10_isSet 0 [(0, .ref 39), (1, .int x)] [] h (fun v h' => h = h' ∧ v = some (.int (bl (!xe_c .lt x 0 && !xe_c .ge x (Int32.ofInt 1 <<< (z &&& 31)))))) := by
  cases c1 : xe_c .lt x 0 with
  | true =>
    refine xq_n 19 [] [] [.int (Int32.ofInt 0)] h [true] 5 hq rfl ⟨c1, trivial⟩ (fun hq => ?_)
    exact xq_ret rfl rfl rfl ⟨rfl, rfl⟩
  | false =>
    cases c2 : xe_c .ge x ((Int32.ofInt 1) <<< ((z) &&& 31)) with
    | true =>
      refine xq_n 19 [] [] [.int (Int32.ofInt 0)] h [false, true] 11 hq rfl ⟨c1, (show xe_c .ge x ((Int32.ofInt 1) <<< ((xg 0 h.2.1 39 4) &&& 31)) = true by rw [show (xg 0 h.2.1 39 4) = z from e9]; exact c2), trivial⟩ (fun hq => ?_)
      exact xq_ret rfl rfl rfl ⟨rfl, rfl⟩
    | false =>
      refine xq_n 19 [] [] [.int (Int32.ofInt 1)] h [false, false] 12 hq rfl ⟨c1, (show xe_c .ge x ((Int32.ofInt 1) <<< ((xg 0 h.2.1 39 4) &&& 31)) = false by rw [show (xg 0 h.2.1 39 4) = z from e9]; exact c2), trivial⟩ (fun hq => ?_)
      exact xq_ret rfl rfl rfl ⟨rfl, rfl⟩
def oSr (c k : Nat) : Bool := Nat.beq c 30 || (Nat.beq c 28 && Nat.beq k 1)
set_option maxRecDepth 100000 in
set_option maxHeartbeats 4000000 in
theorem ord_l {f : Nat} {T : Nat → Nat} {x : Int32} {h0 : xh_H} (hc : ct h0 T 7) : ∀ (j i : Nat) (h : xh_H), i + j = 7 → fx oSr fN h0 h → a_rq a_tb h → xq f xi_X0_order xmi_X0_order 2 [(0, .ref 28), (1, .int x), (2, .ref 1), (3, .int (nI i))] [] h (fun v h' => v = none ∧ fx oSr fN h0 h' ∧ xg 0 h'.2.1 28 1 = Int32.ofInt 1) := by
  intro j
  induction j with
  | zero =>
    intro i h ij g hq
    cases c1 : xe_c .ge (nI i) 7 with
    | true =>
      have z1 : i ≥ 7 := nq_get (a := i) (b := 7) (by omega) (by omega) c1
      refine xq_n 47 [] [] [] (xh_ui h 28 1 (Int32.ofInt 1)) [true] 8 hq rfl ⟨c1, trivial⟩ (fun _ => ?_)
      have hq : a_rq a_tb (xh_ui h 28 1 (Int32.ofInt 1)) := a_rq_ui hq
      exact xq_ret rfl rfl rfl ⟨rfl, fx_t g (fx_ui (fx_0) rfl), gx_s⟩
    | false =>
      have z1 : i < 7 := nq_gef (a := i) (b := 7) (by omega) (by omega) c1
      omega
  | succ j ih =>
    intro i h ij g hq
    cases c1 : xe_c .ge (nI i) 7 with
    | true =>
      have z1 : i ≥ 7 := nq_get (a := i) (b := 7) (by omega) (by omega) c1
      omega
    | false =>
      have z1 : i < 7 := nq_gef (a := i) (b := 7) (by omega) (by omega) c1
      refine xq_n 10 [0, 1, 2, 3] [(0, .ref 28), (1, .int x), (2, .ref 1), (3, .int (nI i))] [.int (nI i), .ref 1] h [false] 7 hq rfl ⟨c1, trivial⟩ (fun hq => ?_)
      have tI := (hc.2.2 i (by omega)).1
      refine xq_run hq rfl rfl (at_q (ct_f hc g rfl (fun _ => rfl)) (p := i) (by omega) hq) ?_
      rintro _ h_ ⟨rfl, rfl⟩
      refine xq_n 17 [0, 1, 2, 3, 4] [(0, .ref 28), (1, .int x), (2, .ref 1), (3, .int (nI i)), (4, .int (nI (T i)))] [.int (nI (T i))] h [] 4 hq rfl trivial (fun hq => ?_)
      refine xq_run hq rfl rfl (isop_q (c := (T i)) (by omega) hq) ?_
      rintro _ h_ ⟨rfl, rfl⟩
      cases b2 : (decide (T i < 7)) with
      | true =>
        have db2 := of_decide_eq_true b2
        refine xq_n 2 [0, 1, 2, 3] [(0, .ref 28), (1, .int x), (2, .ref 1), (3, .int ((nI i) + Int32.ofInt 1))] [] (xh_ui h 30 (((x * 7) + (nI (T i))).toNatClampNeg) (nI i)) [false] 14 hq rfl ⟨rfl, trivial⟩ (fun _ => ?_)
        rw [show ((nI i) + Int32.ofInt 1) = nI (i + 1) from nI_1 _]
        have hq : a_rq a_tb (xh_ui h 30 (((x * 7) + (nI (T i))).toNatClampNeg) (nI i)) := a_rq_ui hq
        exact ih (i + 1) _ (by omega) (fx_t g (fx_ui (fx_0) rfl)) hq
      | false =>
        have db2 := of_decide_eq_false b2
        refine xq_n 2 [0, 1, 2, 3] [(0, .ref 28), (1, .int x), (2, .ref 1), (3, .int ((nI i) + Int32.ofInt 1))] [] h [true] 5 hq rfl ⟨rfl, trivial⟩ (fun hq => ?_)
        rw [show ((nI i) + Int32.ofInt 1) = nI (i + 1) from nI_1 _]
        exact ih (i + 1) _ (by omega) (fx_t g (fx_0)) hq
set_option maxRecDepth 100000 in
set_option maxHeartbeats 4000000 in
theorem ord_q {f : Nat} {T : Nat → Nat} {x : Int32} {h : xh_H} (hc : ct h T 7) (hq : a_rq a_tb h) : xq f xi_X0_order xmi_X0_order 0 [(0, .ref 28), (1, .int x), (2, .ref 1)] [] h (fun v h' => v = none ∧ fx oSr fN h h' ∧ xg 0 h'.2.1 28 1 = Int32.ofInt 1) := by
  refine xq_n 2 [0, 1, 2, 3] [(0, .ref 28), (1, .int x), (2, .ref 1), (3, .int (Int32.ofInt 0))] [] h [] 4 hq rfl trivial (fun hq => ?_)
  exact ord_l hc 7 0 h rfl fx_0 hq
def rkB (T : Nat → Nat) (n : Nat) (x z : Int32) : Bool := (!xe_c .lt x 0 && !xe_c .ge x z) && (Nat.beq n 7 && ro T 7 0 (Int32.ofInt 0))
theorem bq_t {a b : Nat} (h : a = b) : Nat.beq a b = true := by
  subst h
  exact Nat.beq_refl a
theorem bq_f {a b : Nat} (h : a ≠ b) : Nat.beq a b = false := by
  cases e : Nat.beq a b with
  | false => rfl
  | true => exact absurd (Nat.eq_of_beq_eq_true e) h
set_option maxRecDepth 100000 in
set_option maxHeartbeats 4000000 in
theorem rk9_q {f n : Nat} {T : Nat → Nat} {x z : Int32} {h : xh_H} (hc : ct h T n) (e9 : xg 0 h.2.1 0 9 = z) (hq : a_rq a_tb h) : xq f xi_X9_rank xmi_X9_rank 0 [(0, .ref 0), (1, .int x)] [] h (fun v h' => v = some (.int (bl ((!xe_c .lt x 0 && !xe_c .ge x z) && (Nat.beq n 7 && ro T 7 0 (Int32.ofInt 0))))) ∧ xg 0 h'.2.1 28 1 = cond ((!xe_c .lt x 0 && !xe_c .ge x z) && (Nat.beq n 7 && ro T 7 0 (Int32.ofInt 0))) (Int32.ofInt 1) (xg 0 h.2.1 28 1)) := by
  have n6 := hc.2.1
  refine xq_n 2 [0, 1] [(0, .ref 0), (1, .int x)] [.int x, .ref 0] h [] 4 hq rfl trivial (fun hq => ?_)
  refine xq_run hq rfl rfl (mem9_q (x := x) (z := z) (e9) hq) ?_
  rintro _ h_ ⟨rfl, rfl⟩
  cases b1 : (!xe_c .lt x 0 && !xe_c .ge x z) with
  | true =>
    cases c2 : xe_c .ne (nI n) 7 with
    | true =>
      have z2 : n ≠ 7 := nq_net (a := n) (b := 7) (by omega) (by omega) c2
      rw [show Nat.beq n 7 = false from bq_f z2]
      refine xq_n 65 [] [] [.int (Int32.ofInt 0)] (xh_ui h 1 1 (Int32.ofInt 0)) [false, true, true] 17 hq rfl ⟨rfl, (show xe_c .ne (xg 0 h.2.1 1 1) 7 = true by rw [show (xg 0 h.2.1 1 1) = (nI n) from hc.1]; exact c2), (by decide), trivial⟩ (fun _ => ?_)
      have hq : a_rq a_tb (xh_ui h 1 1 (Int32.ofInt 0)) := a_rq_ui hq
      exact xq_ret rfl rfl rfl ⟨rfl, gx_o (by decide)⟩
    | false =>
      have z2 : n = 7 := nq_nef (a := n) (b := 7) (by omega) (by omega) c2
      rw [show Nat.beq n 7 = true from bq_t z2]
      have hc7 : ct h T 7 := z2 ▸ hc
      refine xq_n 28 [0, 1] [(0, .ref 0), (1, .int x)] [.ref 1, .ref 28] h [false, false] 12 hq rfl ⟨rfl, (show xe_c .ne (xg 0 h.2.1 1 1) 7 = false by rw [show (xg 0 h.2.1 1 1) = (nI n) from hc.1]; exact c2), trivial⟩ (fun hq => ?_)
      refine xq_run hq rfl rfl (row_q hc7 hq) ?_
      rintro _ h_ ⟨rfl, rfl⟩
      rw [show (decide (1 ≤ 7 ∧ 7 ≤ 7) && ro T 7 0 (Int32.ofInt 0)) = ro T 7 0 (Int32.ofInt 0) from rfl]
      cases b3 : (ro T 7 0 (Int32.ofInt 0)) with
      | true =>
        refine xq_n 53 [0, 1, 2] [(0, .ref 0), (1, .int x), (2, .int (Int32.ofInt 1))] [.ref 1, .int x, .ref 28] h [false, false] 13 hq rfl ⟨rfl, (by decide), trivial⟩ (fun hq => ?_)
        refine xq_run hq rfl rfl (ord_q hc7 hq) ?_
        rintro _ h1 ⟨rfl, g1, d1⟩
        have hq := fx_q g1 hq
        refine xq_n 65 [] [] [.int (Int32.ofInt 1)] (xh_ui h1 1 1 (Int32.ofInt 0)) [] 7 hq rfl trivial (fun _ => ?_)
        have hq : a_rq a_tb (xh_ui h1 1 1 (Int32.ofInt 0)) := a_rq_ui hq
        exact xq_ret rfl rfl rfl ⟨rfl, (gx_o (by decide)).trans d1⟩
      | false =>
        refine xq_n 65 [] [] [.int (Int32.ofInt 0)] (xh_ui h 1 1 (Int32.ofInt 0)) [true, true] 12 hq rfl ⟨rfl, (by decide), trivial⟩ (fun _ => ?_)
        have hq : a_rq a_tb (xh_ui h 1 1 (Int32.ofInt 0)) := a_rq_ui hq
        exact xq_ret rfl rfl rfl ⟨rfl, gx_o (by decide)⟩
  | false =>
    refine xq_n 65 [] [] [.int (Int32.ofInt 0)] (xh_ui h 1 1 (Int32.ofInt 0)) [true, true] 12 hq rfl ⟨rfl, (by decide), trivial⟩ (fun _ => ?_)
    have hq : a_rq a_tb (xh_ui h 1 1 (Int32.ofInt 0)) := a_rq_ui hq
    exact xq_ret rfl rfl rfl ⟨rfl, gx_o (by decide)⟩
set_option maxRecDepth 100000 in
set_option maxHeartbeats 4000000 in
theorem rkl_q {f : Nat} {x : Int32} : ∀ (j i : Nat) (h : xh_H), i + j = 7 → a_rq a_tb h → xq f xi_X10_rank xmi_X10_rank 36 [(0, .ref 39), (1, .int x), (3, .int (nI i))] [] h (fun v h' => v = some (.int (Int32.ofInt 1)) ∧ xg 0 h'.2.1 39 5 = Int32.ofInt 1) := by
  intro j
  induction j with
  | zero =>
    intro i h ij hq
    cases c1 : xe_c .ge (nI i) 7 with
    | true =>
      have z1 : i ≥ 7 := nq_get (a := i) (b := 7) (by omega) (by omega) c1
      refine xq_n 71 [] [] [.int (Int32.ofInt 1)] (xh_ui h 39 5 (Int32.ofInt 1)) [true] 9 hq rfl ⟨c1, trivial⟩ (fun _ => ?_)
      have hq : a_rq a_tb (xh_ui h 39 5 (Int32.ofInt 1)) := a_rq_ui hq
      exact xq_ret rfl rfl rfl ⟨rfl, gx_s⟩
    | false =>
      have z1 : i < 7 := nq_gef (a := i) (b := 7) (by omega) (by omega) c1
      omega
  | succ j ih =>
    intro i h ij hq
    cases c1 : xe_c .ge (nI i) 7 with
    | true =>
      have z1 : i ≥ 7 := nq_get (a := i) (b := 7) (by omega) (by omega) c1
      omega
    | false =>
      have z1 : i < 7 := nq_gef (a := i) (b := 7) (by omega) (by omega) c1
      refine xq_n 36 [0, 1, 3] [(0, .ref 39), (1, .int x), (3, .int ((nI i) + Int32.ofInt 1))] [] (xh_ui h 62 (((7 * x) + (xg 0 h.2.1 40 ((nI i).toNatClampNeg))).toNatClampNeg) (nI i)) [false] 19 hq rfl ⟨c1, trivial⟩ (fun _ => ?_)
      rw [show (xg 0 h.2.1 40 ((nI i).toNatClampNeg)) = xg 0 h.2.1 40 i from (by rw [show ((nI i).toNatClampNeg) = i from nI_clamp (by omega)])]
      rw [show ((nI i) + Int32.ofInt 1) = nI (i + 1) from nI_1 _]
      have hq : a_rq a_tb (xh_ui h 62 (((7 * x) + (xg 0 h.2.1 40 i)).toNatClampNeg) (nI i)) := a_rq_ui hq
      exact ih (i + 1) _ (by omega) hq
set_option maxRecDepth 100000 in
set_option maxHeartbeats 4000000 in
theorem rk10_q {f n : Nat} {T : Nat → Nat} {x z : Int32} {h : xh_H} (n6 : n ≤ 640) (e2 : xg 0 h.2.1 39 2 = nI n) (hT : ∀ k, k < n → T k < 256 ∧ xg 0 h.2.1 40 k = nI (T k)) (e9 : xg 0 h.2.1 39 4 = z) (hq : a_rq a_tb h) : xq f xi_X10_rank xmi_X10_rank 0 [(0, .ref 39), (1, .int x)] [] h (fun v h' => v = some (.int (bl ((!xe_c .lt x 0 && !xe_c .ge x z) && (Nat.beq n 7 && ro T 7 0 (Int32.ofInt 0))))) ∧ xg 0 h'.2.1 39 5 = cond ((!xe_c .lt x 0 && !xe_c .ge x z) && (Nat.beq n 7 && ro T 7 0 (Int32.ofInt 0))) (Int32.ofInt 1) (xg 0 h.2.1 39 5)) := by
  refine xq_n 6 [0, 1] [(0, .ref 39), (1, .int x)] [.ref 39] (xh_ui h 39 0 (Int32.ofInt 0)) [] 6 hq rfl trivial (fun _ => ?_)
  have hq : a_rq a_tb (xh_ui h 39 0 (Int32.ofInt 0)) := a_rq_ui hq
  refine xq_run hq rfl rfl (take_q hq) ?_
  rintro _ _ ⟨rfl, rfl⟩
  rw [show xg 0 (xh_ui h 39 0 (Int32.ofInt 0)).2.1 39 2 = nI n from (gx_k (by decide)).trans e2]
  have hq : a_rq a_tb (xh_ui (xh_ui h 39 0 (Int32.ofInt 0)) 39 2 (Int32.ofInt 0)) := a_rq_ui hq
  refine xq_n 12 [0, 1, 2] [(0, .ref 39), (1, .int x), (2, .int (nI n))] [.int x, .ref 39] (xh_ui (xh_ui h 39 0 (Int32.ofInt 0)) 39 2 (Int32.ofInt 0)) [] 5 hq rfl trivial (fun hq => ?_)
  refine xq_run hq rfl rfl (mem10_q (x := x) (z := z) ((gx_k (by decide)).trans ((gx_k (by decide)).trans (e9))) hq) ?_
  rintro _ h_ ⟨rfl, rfl⟩
  cases b1 : (!xe_c .lt x 0 && !xe_c .ge x z) with
  | true =>
    cases c2 : xe_c .ne (nI n) 7 with
    | true =>
      have z2 : n ≠ 7 := nq_net (a := n) (b := 7) (by omega) (by omega) c2
      rw [show Nat.beq n 7 = false from bq_f z2]
      refine xq_n 33 [] [] [.int (Int32.ofInt 0)] (xh_ui (xh_ui h 39 0 (Int32.ofInt 0)) 39 2 (Int32.ofInt 0)) [false, true] 7 hq rfl ⟨rfl, c2, trivial⟩ (fun hq => ?_)
      exact xq_ret rfl rfl rfl ⟨rfl, (gx_k (by decide)).trans (gx_k (by decide))⟩
    | false =>
      have z2 : n = 7 := nq_nef (a := n) (b := 7) (by omega) (by omega) c2
      rw [show Nat.beq n 7 = true from bq_t z2]
      have er : ro T n 0 (Int32.ofInt 0) = ro T 7 0 (Int32.ofInt 0) := by rw [z2]
      refine xq_n 26 [0, 1, 2] [(0, .ref 39), (1, .int x), (2, .int (nI n))] [.int (nI n), .ref 39] (xh_ui (xh_ui h 39 0 (Int32.ofInt 0)) 39 2 (Int32.ofInt 0)) [false, false] 8 hq rfl ⟨rfl, c2, trivial⟩ (fun hq => ?_)
      refine xq_run hq rfl rfl (are_q (by omega) (fun k hk' => ⟨(hT k hk').1, (gx_o (by decide)).trans ((gx_o (by decide)).trans (hT k hk').2)⟩) hq) ?_
      rintro _ h_ ⟨rfl, rfl⟩
      rw [er]
      cases b3 : (ro T 7 0 (Int32.ofInt 0)) with
      | true =>
        refine xq_n 36 [0, 1, 3] [(0, .ref 39), (1, .int x), (3, .int (Int32.ofInt 0))] [] (xh_ui (xh_ui h 39 0 (Int32.ofInt 0)) 39 2 (Int32.ofInt 0)) [true] 5 hq rfl ⟨rfl, trivial⟩ (fun hq => ?_)
        exact rkl_q 7 0 _ rfl hq
      | false =>
        refine xq_n 33 [] [] [.int (Int32.ofInt 0)] (xh_ui (xh_ui h 39 0 (Int32.ofInt 0)) 39 2 (Int32.ofInt 0)) [false] 4 hq rfl ⟨rfl, trivial⟩ (fun hq => ?_)
        exact xq_ret rfl rfl rfl ⟨rfl, (gx_k (by decide)).trans (gx_k (by decide))⟩
  | false =>
    refine xq_n 33 [] [] [.int (Int32.ofInt 0)] (xh_ui (xh_ui h 39 0 (Int32.ofInt 0)) 39 2 (Int32.ofInt 0)) [true] 4 hq rfl ⟨rfl, trivial⟩ (fun hq => ?_)
    exact xq_ret rfl rfl rfl ⟨rfl, (gx_k (by decide)).trans (gx_k (by decide))⟩
end XRI
