section XRJ
theorem nI_s1 (v : Nat) : nI (v + 1) - Int32.ofInt 1 = nI v := (nI_sub (a := v + 1) (b := 1) (by omega)).trans (by rw [Nat.add_sub_cancel])
def vaS (c k : Nat) : Bool := Nat.beq c 36 || (Nat.beq c 37 || (Nat.beq c 38 || (Nat.beq c 35 && Nat.beq k 3)))
set_option maxRecDepth 100000 in
set_option maxHeartbeats 4000000 in
theorem vadd_q {f vc : Nat} {x b dy : Int32} {h : xh_H} (v6 : vc ≤ 60) (e3 : xg 0 h.2.1 35 3 = nI vc) (hq : a_rq a_tb h) : xq f xi_X1_add xmi_X1_add 0 [(0, .ref 35), (1, .int x), (2, .int b), (3, .int dy)] [] h (fun v h' => v = some (.int (cond (decide (vc < 60)) (nI vc) (Int32.ofInt (-1)))) ∧ fx vaS fN h h' ∧ xg 0 h'.2.1 35 3 = nI (cond (decide (vc < 60)) (vc + 1) vc)) := by
  cases c1 : xe_c .lt (nI vc) 60 with
  | true =>
    have z1 : vc < 60 := nq_ltt (a := vc) (b := 60) (by omega) (by omega) c1
    rw [show decide (vc < 60) = true from decide_eq_true (by omega)]
    refine xq_n 57 [] [] [.int ((xg 0 (xh_ui (xh_ui (xh_ui (xh_ui h 36 ((xg 0 h.2.1 35 3).toNatClampNeg) x) 38 ((xg 0 (xh_ui h 36 ((xg 0 h.2.1 35 3).toNatClampNeg) x).2.1 35 3).toNatClampNeg) (vp_nar FieldType.boolean b)) 37 ((xg 0 (xh_ui (xh_ui h 36 ((xg 0 h.2.1 35 3).toNatClampNeg) x) 38 ((xg 0 (xh_ui h 36 ((xg 0 h.2.1 35 3).toNatClampNeg) x).2.1 35 3).toNatClampNeg) (vp_nar FieldType.boolean b)).2.1 35 3).toNatClampNeg) dy) 35 3 ((xg 0 (xh_ui (xh_ui (xh_ui h 36 ((xg 0 h.2.1 35 3).toNatClampNeg) x) 38 ((xg 0 (xh_ui h 36 ((xg 0 h.2.1 35 3).toNatClampNeg) x).2.1 35 3).toNatClampNeg) (vp_nar FieldType.boolean b)) 37 ((xg 0 (xh_ui (xh_ui h 36 ((xg 0 h.2.1 35 3).toNatClampNeg) x) 38 ((xg 0 (xh_ui h 36 ((xg 0 h.2.1 35 3).toNatClampNeg) x).2.1 35 3).toNatClampNeg) (vp_nar FieldType.boolean b)).2.1 35 3).toNatClampNeg) dy).2.1 35 3) + (Int32.ofInt 1))).2.1 35 3) - (Int32.ofInt 1))] (xh_ui (xh_ui (xh_ui (xh_ui h 36 ((xg 0 h.2.1 35 3).toNatClampNeg) x) 38 ((xg 0 (xh_ui h 36 ((xg 0 h.2.1 35 3).toNatClampNeg) x).2.1 35 3).toNatClampNeg) (vp_nar FieldType.boolean b)) 37 ((xg 0 (xh_ui (xh_ui h 36 ((xg 0 h.2.1 35 3).toNatClampNeg) x) 38 ((xg 0 (xh_ui h 36 ((xg 0 h.2.1 35 3).toNatClampNeg) x).2.1 35 3).toNatClampNeg) (vp_nar FieldType.boolean b)).2.1 35 3).toNatClampNeg) dy) 35 3 ((xg 0 (xh_ui (xh_ui (xh_ui h 36 ((xg 0 h.2.1 35 3).toNatClampNeg) x) 38 ((xg 0 (xh_ui h 36 ((xg 0 h.2.1 35 3).toNatClampNeg) x).2.1 35 3).toNatClampNeg) (vp_nar FieldType.boolean b)) 37 ((xg 0 (xh_ui (xh_ui h 36 ((xg 0 h.2.1 35 3).toNatClampNeg) x) 38 ((xg 0 (xh_ui h 36 ((xg 0 h.2.1 35 3).toNatClampNeg) x).2.1 35 3).toNatClampNeg) (vp_nar FieldType.boolean b)).2.1 35 3).toNatClampNeg) dy).2.1 35 3) + (Int32.ofInt 1))) [true] 34 hq rfl ⟨(show xe_c .lt (xg 0 h.2.1 35 3) 60 = true by rw [show (xg 0 h.2.1 35 3) = (nI vc) from e3]; exact c1), trivial⟩ (fun _ => ?_)
    rw [show (xg 0 (xh_ui (xh_ui (xh_ui (xh_ui h 36 ((xg 0 h.2.1 35 3).toNatClampNeg) x) 38 ((xg 0 (xh_ui h 36 ((xg 0 h.2.1 35 3).toNatClampNeg) x).2.1 35 3).toNatClampNeg) (vp_nar FieldType.boolean b)) 37 ((xg 0 (xh_ui (xh_ui h 36 ((xg 0 h.2.1 35 3).toNatClampNeg) x) 38 ((xg 0 (xh_ui h 36 ((xg 0 h.2.1 35 3).toNatClampNeg) x).2.1 35 3).toNatClampNeg) (vp_nar FieldType.boolean b)).2.1 35 3).toNatClampNeg) dy) 35 3 ((xg 0 (xh_ui (xh_ui (xh_ui h 36 ((xg 0 h.2.1 35 3).toNatClampNeg) x) 38 ((xg 0 (xh_ui h 36 ((xg 0 h.2.1 35 3).toNatClampNeg) x).2.1 35 3).toNatClampNeg) (vp_nar FieldType.boolean b)) 37 ((xg 0 (xh_ui (xh_ui h 36 ((xg 0 h.2.1 35 3).toNatClampNeg) x) 38 ((xg 0 (xh_ui h 36 ((xg 0 h.2.1 35 3).toNatClampNeg) x).2.1 35 3).toNatClampNeg) (vp_nar FieldType.boolean b)).2.1 35 3).toNatClampNeg) dy).2.1 35 3) + (Int32.ofInt 1))).2.1 35 3) = ((xg 0 (xh_ui (xh_ui (xh_ui h 36 ((xg 0 h.2.1 35 3).toNatClampNeg) x) 38 ((xg 0 (xh_ui h 36 ((xg 0 h.2.1 35 3).toNatClampNeg) x).2.1 35 3).toNatClampNeg) (vp_nar FieldType.boolean b)) 37 ((xg 0 (xh_ui (xh_ui h 36 ((xg 0 h.2.1 35 3).toNatClampNeg) x) 38 ((xg 0 (xh_ui h 36 ((xg 0 h.2.1 35 3).toNatClampNeg) x).2.1 35 3).toNatClampNeg) (vp_nar FieldType.boolean b)).2.1 35 3).toNatClampNeg) dy).2.1 35 3) + (Int32.ofInt 1)) from gx_s]
    rw [show (xg 0 (xh_ui (xh_ui (xh_ui h 36 ((xg 0 h.2.1 35 3).toNatClampNeg) x) 38 ((xg 0 (xh_ui h 36 ((xg 0 h.2.1 35 3).toNatClampNeg) x).2.1 35 3).toNatClampNeg) (vp_nar FieldType.boolean b)) 37 ((xg 0 (xh_ui (xh_ui h 36 ((xg 0 h.2.1 35 3).toNatClampNeg) x) 38 ((xg 0 (xh_ui h 36 ((xg 0 h.2.1 35 3).toNatClampNeg) x).2.1 35 3).toNatClampNeg) (vp_nar FieldType.boolean b)).2.1 35 3).toNatClampNeg) dy).2.1 35 3) = (nI vc) from (gx_o (by decide)).trans ((gx_o (by decide)).trans ((gx_o (by decide)).trans (e3)))]
    rw [show (xg 0 (xh_ui (xh_ui h 36 ((xg 0 h.2.1 35 3).toNatClampNeg) x) 38 ((xg 0 (xh_ui h 36 ((xg 0 h.2.1 35 3).toNatClampNeg) x).2.1 35 3).toNatClampNeg) (vp_nar FieldType.boolean b)).2.1 35 3) = (nI vc) from (gx_o (by decide)).trans ((gx_o (by decide)).trans (e3))]
    rw [show (xg 0 (xh_ui h 36 ((xg 0 h.2.1 35 3).toNatClampNeg) x).2.1 35 3) = (nI vc) from (gx_o (by decide)).trans (e3)]
    rw [show (xg 0 h.2.1 35 3) = (nI vc) from e3]
    rw [show ((nI vc).toNatClampNeg) = vc from nI_clamp (by omega)]
    rw [show ((nI vc) + (Int32.ofInt 1)) = nI (vc + 1) from nI_1 _]
    rw [show ((nI (vc + 1)) - (Int32.ofInt 1)) = nI vc from nI_s1 _]
    have hq : a_rq a_tb (xh_ui (xh_ui (xh_ui (xh_ui h 36 vc x) 38 vc (vp_nar FieldType.boolean b)) 37 vc dy) 35 3 (nI (vc + 1))) := a_rq_ui (a_rq_ui (a_rq_ui (a_rq_ui hq)))
    exact xq_ret rfl rfl rfl ⟨rfl, fx_ui (fx_ui (fx_ui (fx_ui (fx_0) rfl) rfl) rfl) rfl, gx_s⟩
  | false =>
    have z1 : vc ≥ 60 := nq_ltf (a := vc) (b := 60) (by omega) (by omega) c1
    rw [show decide (vc < 60) = false from decide_eq_false (by omega)]
    refine xq_n 10 [] [] [.int (Int32.ofInt (-1))] h [false] 7 hq rfl ⟨(show xe_c .lt (xg 0 h.2.1 35 3) 60 = false by rw [show (xg 0 h.2.1 35 3) = (nI vc) from e3]; exact c1), trivial⟩ (fun hq => ?_)
    exact xq_ret rfl rfl rfl ⟨rfl, fx_0, e3⟩
set_option maxRecDepth 100000 in
set_option maxHeartbeats 4000000 in
theorem vt9_q {f vc : Nat} {x b z : Int32} {h : xh_H} (v6 : vc ≤ 60) (e3 : xg 0 h.2.1 35 3 = nI vc) (e9 : xg 0 h.2.1 0 9 = z) (hq : a_rq a_tb h) : xq f xi_X9_vote xmi_X9_vote 0 [(0, .ref 0), (1, .int x), (2, .int b)] [] h (fun v h' => v = some (.int (cond ((!xe_c .lt x 0 && !xe_c .ge x (Int32.ofInt 1 <<< (z &&& 31))) && decide (vc < 60)) (nI vc) (Int32.ofInt (-1)))) ∧ xg 0 h'.2.1 35 3 = nI (cond ((!xe_c .lt x 0 && !xe_c .ge x (Int32.ofInt 1 <<< (z &&& 31))) && decide (vc < 60)) (vc + 1) vc)) := by
  refine xq_n 2 [0, 1, 2] [(0, .ref 0), (1, .int x), (2, .int b)] [.int x, .ref 0] h [] 4 hq rfl trivial (fun hq => ?_)
  refine xq_run hq rfl rfl (set9_q (x := x) (z := z) (e9) hq) ?_
  rintro _ h_ ⟨rfl, rfl⟩
  cases b1 : (!xe_c .lt x 0 && !xe_c .ge x (Int32.ofInt 1 <<< (z &&& 31))) with
  | true =>
    refine xq_n 18 [0, 1, 2] [(0, .ref 0), (1, .int x), (2, .int b)] [.int (xg 0 h.2.1 0 10), .int b, .int x, .ref 35] h [false] 9 hq rfl ⟨rfl, trivial⟩ (fun hq => ?_)
    refine xq_run hq rfl rfl (vadd_q v6 e3 hq) ?_
    rintro _ h1 ⟨rfl, g1, d1⟩
    have hq := fx_q g1 hq
    refine xq_n 25 [] [] [.int (cond (decide (vc < 60)) (nI vc) (Int32.ofInt (-1)))] h1 [] 3 hq rfl trivial (fun hq => ?_)
    exact xq_ret rfl rfl rfl ⟨rfl, d1⟩
  | false =>
    refine xq_n 25 [] [] [.int (Int32.ofInt (-1))] h [true] 4 hq rfl ⟨rfl, trivial⟩ (fun hq => ?_)
    exact xq_ret rfl rfl rfl ⟨rfl, e3⟩
set_option maxRecDepth 100000 in
set_option maxHeartbeats 4000000 in
theorem vt10_q {f vc : Nat} {x b z : Int32} {h : xh_H} (v6 : vc ≤ 60) (e3 : xg 0 h.2.1 39 63 = nI vc) (e9 : xg 0 h.2.1 39 4 = z) (hq : a_rq a_tb h) : xq f xi_X10_vote xmi_X10_vote 0 [(0, .ref 39), (1, .int x), (2, .int b)] [] h (fun v h' => v = some (.int (cond ((!xe_c .lt x 0 && !xe_c .ge x (Int32.ofInt 1 <<< (z &&& 31))) && decide (vc < 60)) (nI vc) (Int32.ofInt (-1)))) ∧ xg 0 h'.2.1 39 63 = nI (cond ((!xe_c .lt x 0 && !xe_c .ge x (Int32.ofInt 1 <<< (z &&& 31))) && decide (vc < 60)) (vc + 1) vc)) := by
  cases c1 : xe_c .eq (nI vc) 60 with
  | true =>
    have z1 : vc = 60 := nq_eqt (a := vc) (b := 60) (by omega) (by omega) c1
    rw [show decide (vc < 60) = false from decide_eq_false (by omega)]
    refine xq_n 23 [] [] [.int (Int32.ofInt (-1))] (xh_ui h 39 0 (Int32.ofInt 0)) [true] 10 hq rfl ⟨(show xe_c .eq (xg 0 (xh_ui h 39 0 (Int32.ofInt 0)).2.1 39 63) 60 = true by rw [show (xg 0 (xh_ui h 39 0 (Int32.ofInt 0)).2.1 39 63) = (nI vc) from (gx_k (by decide)).trans (e3)]; exact c1), trivial⟩ (fun _ => ?_)
    have hq : a_rq a_tb (xh_ui h 39 0 (Int32.ofInt 0)) := a_rq_ui hq
    exact xq_ret rfl rfl rfl ⟨by rw [Bool.and_false]; rfl, by rw [Bool.and_false]; exact (gx_k (by decide)).trans (e3)⟩
  | false =>
    have z1 : vc ≠ 60 := nq_eqf (a := vc) (b := 60) (by omega) (by omega) c1
    rw [show decide (vc < 60) = true from decide_eq_true (by omega)]
    refine xq_n 16 [0, 1, 2] [(0, .ref 39), (1, .int x), (2, .int b)] [.int x, .ref 39] (xh_ui h 39 0 (Int32.ofInt 0)) [false] 11 hq rfl ⟨(show xe_c .eq (xg 0 (xh_ui h 39 0 (Int32.ofInt 0)).2.1 39 63) 60 = false by rw [show (xg 0 (xh_ui h 39 0 (Int32.ofInt 0)).2.1 39 63) = (nI vc) from (gx_k (by decide)).trans (e3)]; exact c1), trivial⟩ (fun _ => ?_)
    have hq : a_rq a_tb (xh_ui h 39 0 (Int32.ofInt 0)) := a_rq_ui hq
    refine xq_run hq rfl rfl (set10_q (x := x) (z := z) ((gx_k (by decide)).trans e9) hq) ?_
    rintro _ h_ ⟨rfl, rfl⟩
    cases b2 : (!xe_c .lt x 0 && !xe_c .ge x (Int32.ofInt 1 <<< (z &&& 31))) with
    | true =>
      refine xq_n 73 [] [] [.int ((xg 0 (xh_ui (xh_ui (xh_ui (xh_ui (xh_ui h 39 0 (Int32.ofInt 0)) 68 ((xg 0 (xh_ui h 39 0 (Int32.ofInt 0)).2.1 39 63).toNatClampNeg) x) 69 ((xg 0 (xh_ui (xh_ui h 39 0 (Int32.ofInt 0)) 68 ((xg 0 (xh_ui h 39 0 (Int32.ofInt 0)).2.1 39 63).toNatClampNeg) x).2.1 39 63).toNatClampNeg) (xg 0 (xh_ui (xh_ui h 39 0 (Int32.ofInt 0)) 68 ((xg 0 (xh_ui h 39 0 (Int32.ofInt 0)).2.1 39 63).toNatClampNeg) x).2.1 39 3)) 70 ((xg 0 (xh_ui (xh_ui (xh_ui h 39 0 (Int32.ofInt 0)) 68 ((xg 0 (xh_ui h 39 0 (Int32.ofInt 0)).2.1 39 63).toNatClampNeg) x) 69 ((xg 0 (xh_ui (xh_ui h 39 0 (Int32.ofInt 0)) 68 ((xg 0 (xh_ui h 39 0 (Int32.ofInt 0)).2.1 39 63).toNatClampNeg) x).2.1 39 63).toNatClampNeg) (xg 0 (xh_ui (xh_ui h 39 0 (Int32.ofInt 0)) 68 ((xg 0 (xh_ui h 39 0 (Int32.ofInt 0)).2.1 39 63).toNatClampNeg) x).2.1 39 3)).2.1 39 63).toNatClampNeg) (vp_nar FieldType.boolean b)) 39 63 ((xg 0 (xh_ui (xh_ui (xh_ui (xh_ui h 39 0 (Int32.ofInt 0)) 68 ((xg 0 (xh_ui h 39 0 (Int32.ofInt 0)).2.1 39 63).toNatClampNeg) x) 69 ((xg 0 (xh_ui (xh_ui h 39 0 (Int32.ofInt 0)) 68 ((xg 0 (xh_ui h 39 0 (Int32.ofInt 0)).2.1 39 63).toNatClampNeg) x).2.1 39 63).toNatClampNeg) (xg 0 (xh_ui (xh_ui h 39 0 (Int32.ofInt 0)) 68 ((xg 0 (xh_ui h 39 0 (Int32.ofInt 0)).2.1 39 63).toNatClampNeg) x).2.1 39 3)) 70 ((xg 0 (xh_ui (xh_ui (xh_ui h 39 0 (Int32.ofInt 0)) 68 ((xg 0 (xh_ui h 39 0 (Int32.ofInt 0)).2.1 39 63).toNatClampNeg) x) 69 ((xg 0 (xh_ui (xh_ui h 39 0 (Int32.ofInt 0)) 68 ((xg 0 (xh_ui h 39 0 (Int32.ofInt 0)).2.1 39 63).toNatClampNeg) x).2.1 39 63).toNatClampNeg) (xg 0 (xh_ui (xh_ui h 39 0 (Int32.ofInt 0)) 68 ((xg 0 (xh_ui h 39 0 (Int32.ofInt 0)).2.1 39 63).toNatClampNeg) x).2.1 39 3)).2.1 39 63).toNatClampNeg) (vp_nar FieldType.boolean b)).2.1 39 63) + (Int32.ofInt 1))).2.1 39 63) - (Int32.ofInt 1))] (xh_ui (xh_ui (xh_ui (xh_ui (xh_ui h 39 0 (Int32.ofInt 0)) 68 ((xg 0 (xh_ui h 39 0 (Int32.ofInt 0)).2.1 39 63).toNatClampNeg) x) 69 ((xg 0 (xh_ui (xh_ui h 39 0 (Int32.ofInt 0)) 68 ((xg 0 (xh_ui h 39 0 (Int32.ofInt 0)).2.1 39 63).toNatClampNeg) x).2.1 39 63).toNatClampNeg) (xg 0 (xh_ui (xh_ui h 39 0 (Int32.ofInt 0)) 68 ((xg 0 (xh_ui h 39 0 (Int32.ofInt 0)).2.1 39 63).toNatClampNeg) x).2.1 39 3)) 70 ((xg 0 (xh_ui (xh_ui (xh_ui h 39 0 (Int32.ofInt 0)) 68 ((xg 0 (xh_ui h 39 0 (Int32.ofInt 0)).2.1 39 63).toNatClampNeg) x) 69 ((xg 0 (xh_ui (xh_ui h 39 0 (Int32.ofInt 0)) 68 ((xg 0 (xh_ui h 39 0 (Int32.ofInt 0)).2.1 39 63).toNatClampNeg) x).2.1 39 63).toNatClampNeg) (xg 0 (xh_ui (xh_ui h 39 0 (Int32.ofInt 0)) 68 ((xg 0 (xh_ui h 39 0 (Int32.ofInt 0)).2.1 39 63).toNatClampNeg) x).2.1 39 3)).2.1 39 63).toNatClampNeg) (vp_nar FieldType.boolean b)) 39 63 ((xg 0 (xh_ui (xh_ui (xh_ui (xh_ui h 39 0 (Int32.ofInt 0)) 68 ((xg 0 (xh_ui h 39 0 (Int32.ofInt 0)).2.1 39 63).toNatClampNeg) x) 69 ((xg 0 (xh_ui (xh_ui h 39 0 (Int32.ofInt 0)) 68 ((xg 0 (xh_ui h 39 0 (Int32.ofInt 0)).2.1 39 63).toNatClampNeg) x).2.1 39 63).toNatClampNeg) (xg 0 (xh_ui (xh_ui h 39 0 (Int32.ofInt 0)) 68 ((xg 0 (xh_ui h 39 0 (Int32.ofInt 0)).2.1 39 63).toNatClampNeg) x).2.1 39 3)) 70 ((xg 0 (xh_ui (xh_ui (xh_ui h 39 0 (Int32.ofInt 0)) 68 ((xg 0 (xh_ui h 39 0 (Int32.ofInt 0)).2.1 39 63).toNatClampNeg) x) 69 ((xg 0 (xh_ui (xh_ui h 39 0 (Int32.ofInt 0)) 68 ((xg 0 (xh_ui h 39 0 (Int32.ofInt 0)).2.1 39 63).toNatClampNeg) x).2.1 39 63).toNatClampNeg) (xg 0 (xh_ui (xh_ui h 39 0 (Int32.ofInt 0)) 68 ((xg 0 (xh_ui h 39 0 (Int32.ofInt 0)).2.1 39 63).toNatClampNeg) x).2.1 39 3)).2.1 39 63).toNatClampNeg) (vp_nar FieldType.boolean b)).2.1 39 63) + (Int32.ofInt 1))) [true] 32 hq rfl ⟨rfl, trivial⟩ (fun _ => ?_)
      rw [show (xg 0 (xh_ui (xh_ui (xh_ui (xh_ui (xh_ui h 39 0 (Int32.ofInt 0)) 68 ((xg 0 (xh_ui h 39 0 (Int32.ofInt 0)).2.1 39 63).toNatClampNeg) x) 69 ((xg 0 (xh_ui (xh_ui h 39 0 (Int32.ofInt 0)) 68 ((xg 0 (xh_ui h 39 0 (Int32.ofInt 0)).2.1 39 63).toNatClampNeg) x).2.1 39 63).toNatClampNeg) (xg 0 (xh_ui (xh_ui h 39 0 (Int32.ofInt 0)) 68 ((xg 0 (xh_ui h 39 0 (Int32.ofInt 0)).2.1 39 63).toNatClampNeg) x).2.1 39 3)) 70 ((xg 0 (xh_ui (xh_ui (xh_ui h 39 0 (Int32.ofInt 0)) 68 ((xg 0 (xh_ui h 39 0 (Int32.ofInt 0)).2.1 39 63).toNatClampNeg) x) 69 ((xg 0 (xh_ui (xh_ui h 39 0 (Int32.ofInt 0)) 68 ((xg 0 (xh_ui h 39 0 (Int32.ofInt 0)).2.1 39 63).toNatClampNeg) x).2.1 39 63).toNatClampNeg) (xg 0 (xh_ui (xh_ui h 39 0 (Int32.ofInt 0)) 68 ((xg 0 (xh_ui h 39 0 (Int32.ofInt 0)).2.1 39 63).toNatClampNeg) x).2.1 39 3)).2.1 39 63).toNatClampNeg) (vp_nar FieldType.boolean b)) 39 63 ((xg 0 (xh_ui (xh_ui (xh_ui (xh_ui h 39 0 (Int32.ofInt 0)) 68 ((xg 0 (xh_ui h 39 0 (Int32.ofInt 0)).2.1 39 63).toNatClampNeg) x) 69 ((xg 0 (xh_ui (xh_ui h 39 0 (Int32.ofInt 0)) 68 ((xg 0 (xh_ui h 39 0 (Int32.ofInt 0)).2.1 39 63).toNatClampNeg) x).2.1 39 63).toNatClampNeg) (xg 0 (xh_ui (xh_ui h 39 0 (Int32.ofInt 0)) 68 ((xg 0 (xh_ui h 39 0 (Int32.ofInt 0)).2.1 39 63).toNatClampNeg) x).2.1 39 3)) 70 ((xg 0 (xh_ui (xh_ui (xh_ui h 39 0 (Int32.ofInt 0)) 68 ((xg 0 (xh_ui h 39 0 (Int32.ofInt 0)).2.1 39 63).toNatClampNeg) x) 69 ((xg 0 (xh_ui (xh_ui h 39 0 (Int32.ofInt 0)) 68 ((xg 0 (xh_ui h 39 0 (Int32.ofInt 0)).2.1 39 63).toNatClampNeg) x).2.1 39 63).toNatClampNeg) (xg 0 (xh_ui (xh_ui h 39 0 (Int32.ofInt 0)) 68 ((xg 0 (xh_ui h 39 0 (Int32.ofInt 0)).2.1 39 63).toNatClampNeg) x).2.1 39 3)).2.1 39 63).toNatClampNeg) (vp_nar FieldType.boolean b)).2.1 39 63) + (Int32.ofInt 1))).2.1 39 63) = ((xg 0 (xh_ui (xh_ui (xh_ui (xh_ui h 39 0 (Int32.ofInt 0)) 68 ((xg 0 (xh_ui h 39 0 (Int32.ofInt 0)).2.1 39 63).toNatClampNeg) x) 69 ((xg 0 (xh_ui (xh_ui h 39 0 (Int32.ofInt 0)) 68 ((xg 0 (xh_ui h 39 0 (Int32.ofInt 0)).2.1 39 63).toNatClampNeg) x).2.1 39 63).toNatClampNeg) (xg 0 (xh_ui (xh_ui h 39 0 (Int32.ofInt 0)) 68 ((xg 0 (xh_ui h 39 0 (Int32.ofInt 0)).2.1 39 63).toNatClampNeg) x).2.1 39 3)) 70 ((xg 0 (xh_ui (xh_ui (xh_ui h 39 0 (Int32.ofInt 0)) 68 ((xg 0 (xh_ui h 39 0 (Int32.ofInt 0)).2.1 39 63).toNatClampNeg) x) 69 ((xg 0 (xh_ui (xh_ui h 39 0 (Int32.ofInt 0)) 68 ((xg 0 (xh_ui h 39 0 (Int32.ofInt 0)).2.1 39 63).toNatClampNeg) x).2.1 39 63).toNatClampNeg) (xg 0 (xh_ui (xh_ui h 39 0 (Int32.ofInt 0)) 68 ((xg 0 (xh_ui h 39 0 (Int32.ofInt 0)).2.1 39 63).toNatClampNeg) x).2.1 39 3)).2.1 39 63).toNatClampNeg) (vp_nar FieldType.boolean b)).2.1 39 63) + (Int32.ofInt 1)) from gx_s]
      rw [show (xg 0 (xh_ui (xh_ui (xh_ui (xh_ui h 39 0 (Int32.ofInt 0)) 68 ((xg 0 (xh_ui h 39 0 (Int32.ofInt 0)).2.1 39 63).toNatClampNeg) x) 69 ((xg 0 (xh_ui (xh_ui h 39 0 (Int32.ofInt 0)) 68 ((xg 0 (xh_ui h 39 0 (Int32.ofInt 0)).2.1 39 63).toNatClampNeg) x).2.1 39 63).toNatClampNeg) (xg 0 (xh_ui (xh_ui h 39 0 (Int32.ofInt 0)) 68 ((xg 0 (xh_ui h 39 0 (Int32.ofInt 0)).2.1 39 63).toNatClampNeg) x).2.1 39 3)) 70 ((xg 0 (xh_ui (xh_ui (xh_ui h 39 0 (Int32.ofInt 0)) 68 ((xg 0 (xh_ui h 39 0 (Int32.ofInt 0)).2.1 39 63).toNatClampNeg) x) 69 ((xg 0 (xh_ui (xh_ui h 39 0 (Int32.ofInt 0)) 68 ((xg 0 (xh_ui h 39 0 (Int32.ofInt 0)).2.1 39 63).toNatClampNeg) x).2.1 39 63).toNatClampNeg) (xg 0 (xh_ui (xh_ui h 39 0 (Int32.ofInt 0)) 68 ((xg 0 (xh_ui h 39 0 (Int32.ofInt 0)).2.1 39 63).toNatClampNeg) x).2.1 39 3)).2.1 39 63).toNatClampNeg) (vp_nar FieldType.boolean b)).2.1 39 63) = (nI vc) from (gx_o (by decide)).trans ((gx_o (by decide)).trans ((gx_o (by decide)).trans ((gx_k (by decide)).trans (e3))))]
      rw [show (xg 0 (xh_ui (xh_ui (xh_ui h 39 0 (Int32.ofInt 0)) 68 ((xg 0 (xh_ui h 39 0 (Int32.ofInt 0)).2.1 39 63).toNatClampNeg) x) 69 ((xg 0 (xh_ui (xh_ui h 39 0 (Int32.ofInt 0)) 68 ((xg 0 (xh_ui h 39 0 (Int32.ofInt 0)).2.1 39 63).toNatClampNeg) x).2.1 39 63).toNatClampNeg) (xg 0 (xh_ui (xh_ui h 39 0 (Int32.ofInt 0)) 68 ((xg 0 (xh_ui h 39 0 (Int32.ofInt 0)).2.1 39 63).toNatClampNeg) x).2.1 39 3)).2.1 39 63) = (nI vc) from (gx_o (by decide)).trans ((gx_o (by decide)).trans ((gx_k (by decide)).trans (e3)))]
      rw [show (xg 0 (xh_ui (xh_ui h 39 0 (Int32.ofInt 0)) 68 ((xg 0 (xh_ui h 39 0 (Int32.ofInt 0)).2.1 39 63).toNatClampNeg) x).2.1 39 63) = (nI vc) from (gx_o (by decide)).trans ((gx_k (by decide)).trans (e3))]
      rw [show (xg 0 (xh_ui (xh_ui h 39 0 (Int32.ofInt 0)) 68 ((xg 0 (xh_ui h 39 0 (Int32.ofInt 0)).2.1 39 63).toNatClampNeg) x).2.1 39 3) = (xg 0 h.2.1 39 3) from (gx_o (by decide)).trans (gx_k (by decide))]
      rw [show (xg 0 (xh_ui h 39 0 (Int32.ofInt 0)).2.1 39 63) = (nI vc) from (gx_k (by decide)).trans (e3)]
      rw [show ((nI vc).toNatClampNeg) = vc from nI_clamp (by omega)]
      rw [show ((nI vc) + (Int32.ofInt 1)) = nI (vc + 1) from nI_1 _]
      rw [show ((nI (vc + 1)) - (Int32.ofInt 1)) = nI vc from nI_s1 _]
      have hq : a_rq a_tb (xh_ui (xh_ui (xh_ui (xh_ui (xh_ui h 39 0 (Int32.ofInt 0)) 68 vc x) 69 vc (xg 0 h.2.1 39 3)) 70 vc (vp_nar FieldType.boolean b)) 39 63 (nI (vc + 1))) := a_rq_ui (a_rq_ui (a_rq_ui (a_rq_ui hq)))
      exact xq_ret rfl rfl rfl ⟨rfl, gx_s⟩
    | false =>
      refine xq_n 23 [] [] [.int (Int32.ofInt (-1))] (xh_ui h 39 0 (Int32.ofInt 0)) [false] 4 hq rfl ⟨rfl, trivial⟩ (fun hq => ?_)
      exact xq_ret rfl rfl rfl ⟨rfl, ((gx_k (by decide)).trans (e3))⟩
def mbB (s v r x : Int32) : Bool := (!xe_c .lt x (Int32.ofInt 1) && xe_c .le x 12) && (!xe_c .gt s 0 && (!xe_c .gt v 0 && xe_c .eq r 0))
theorem in_c {a x b : Int32} : decide (a.toInt ≤ x.toInt ∧ x.toInt ≤ b.toInt) = (!xe_c .lt x a && xe_c .le x b) := by
  cases c1 : xe_c .lt x a with
  | true =>
    have b1 : x.toInt < a.toInt := a_ce c1
    rw [decide_eq_false (by omega)]; rfl
  | false =>
    have b1 : a.toInt ≤ x.toInt := a_ce (a_neg_ok c1)
    cases c2 : xe_c .le x b with
    | true =>
      have b2 : x.toInt ≤ b.toInt := a_ce c2
      rw [decide_eq_true ⟨b1, b2⟩]; rfl
    | false =>
      have b2 : b.toInt < x.toInt := a_ce (a_neg_ok c2)
      rw [decide_eq_false (by omega)]; rfl
theorem xq_cr {f mid : Nat} {mi : xm_M} {pc : Nat} {lv : List (Nat × Value)} {st : List Value} {h : xh_H} {Q : Option Value → xh_H → Prop} {r : xr_R} {mj : xm_M} {As q : List Value} {Q1 : Option Value → xh_H → Prop} (hr : xC mid pc = some r) (hi : xe_isr r.1 = false) (h2 : ∀ d lw, xe_2 none mi.2.2.2.1 r d pc lw st h 0 0 = none) (hcl : xe_cl xM r st h = some (mj, As, q)) (hm : ∀ f, xq f r.2.2.1 mj 0 (lv_args 0 As) [] h Q1) (k : ∀ v h', Q1 v h' → xq f mid mi (pc + 3) lv (v.toList ++ q) h' Q) : xq f mid mi pc lv st h Q := by
  intro d lw w h' c s hs hx
  obtain ⟨g, eg, ⟨o', e2, -⟩ | ⟨-, d', mj', As', q', v1, h1, mc, ms, rfl, e5, e6, e7⟩⟩ := xq_s hr hi hx
  · rw [h2] at e2
    cases e2
  · rw [hcl] at e5
    cases e5
    have q1 := hm g d' _ v1 h1 mc ms ⟨lv_args_nd, fun i v e => e⟩ e6
    rw [Nat.zero_add, Nat.zero_add] at e7
    have e8 : xe_x xM xC none g (d' + 1) mid mi (pc + 3, lw, v1.toList ++ q, h1, mc, ms) = _ := xe_x_am (scr := none) (mid := mid) (mi := mi) g (d' + 1) (pc + 3) lw (v1.toList ++ q) h1 mc ms 0 0
    rw [e7] at e8
    cases h9 : xe_x xM xC none g (d' + 1) mid mi (pc + 3, lw, v1.toList ++ q, h1, 0, 0) with
    | none => rw [h9] at e8; cases e8
    | some t =>
      obtain ⟨v2, h2, c2, s2⟩ := t
      rw [h9] at e8
      cases e8
      exact k v1 h1 q1 (d' + 1) lw v2 h2 c2 s2 hs (xe_x_le (by omega) h9)
theorem na_q {f q : Nat} {x : Int32} {h : xh_H} (hi : a_inv a_tb h) (hn : 72 ≤ h.1.length) (r : a_r h.1.length 11 q) (x1 : 1 ≤ x.toInt) (x2 : x.toInt ≤ 12) : xq f xi_X7_needAll xmi_X7_needAll 0 [(0, .ref q), (1, .int x)] [] h (fun v h' => v = none ∧ h'.1 = h.1 ∧ a_inv a_tb h' ∧ a_fr [] h h') := by
  refine xq_of (d := 1) ⟨_, rfl⟩ ?_
  obtain ⟨v, h', r1, p1, p2, ⟨t, ht, p3⟩, p4⟩ := as_m_X7_needAll 1 xmi_X7_needAll [.ref q, .int x] h (fun _ => 0) (by decide) rfl hi hn ⟨⟨q, rfl, r⟩, a_ai x1 x2, trivial⟩ a_fp0
  refine ⟨v, h', r1, ?_, p2, p1, p4⟩
  cases List.mem_singleton.mp ht
  exact p3.1
set_option maxRecDepth 100000 in
set_option maxHeartbeats 4000000 in
theorem mb9_q {f : Nat} {x s w r : Int32} {h : xh_H} (hi : a_inv a_tb h) (hn : 72 ≤ h.1.length) (e8 : xg 0 h.2.1 0 8 = s) (e3 : xg 0 h.2.1 35 3 = w) (e1 : xg 0 h.2.1 28 1 = r) : xq f xi_X9_members xmi_X9_members 0 [(0, .ref 0), (1, .int x)] [] h (fun v h' => v = some (.int (bl (mbB s w r x))) ∧ xg 0 h'.2.1 0 9 = cond (mbB s w r x) x (xg 0 h.2.1 0 9)) := by
  have hq := a_rq_of hi.1 hn
  cases c1 : xe_c .gt s 0 with
  | true =>
    refine xq_n 49 [] [] [.int (Int32.ofInt 0)] h [true, true] 11 hq rfl ⟨(show xe_c .gt (xg 0 h.2.1 0 8) 0 = true by rw [show (xg 0 h.2.1 0 8) = s from e8]; exact c1), (by decide), trivial⟩ (fun hq => ?_)
    have hB : mbB s w r x = false := by unfold mbB; (rw [c1]) <;> simp only [Bool.not_true, Bool.not_false, Bool.true_and, Bool.false_and, Bool.and_false, Bool.and_true]
    exact xq_ret rfl rfl rfl ⟨by first | (rw [hB]; done) | (rw [hB]; rfl), by first | (rw [hB]; done) | (rw [hB]; exact rfl)⟩
  | false =>
    cases c2 : xe_c .gt w 0 with
    | true =>
      refine xq_n 49 [] [] [.int (Int32.ofInt 0)] h [false, true, true] 15 hq rfl ⟨(show xe_c .gt (xg 0 h.2.1 0 8) 0 = false by rw [show (xg 0 h.2.1 0 8) = s from e8]; exact c1), (show xe_c .gt (xg 0 h.2.1 35 3) 0 = true by rw [show (xg 0 h.2.1 35 3) = w from e3]; exact c2), (by decide), trivial⟩ (fun hq => ?_)
      have hB : mbB s w r x = false := by unfold mbB; (rw [c1, c2]) <;> simp only [Bool.not_true, Bool.not_false, Bool.true_and, Bool.false_and, Bool.and_false, Bool.and_true]
      exact xq_ret rfl rfl rfl ⟨by first | (rw [hB]; done) | (rw [hB]; rfl), by first | (rw [hB]; done) | (rw [hB]; exact rfl)⟩
    | false =>
      cases c3 : xe_c .eq r 0 with
      | true =>
        cases c4 : xe_c .lt x (Int32.ofInt 1) with
        | true =>
          refine xq_n 49 [] [] [.int (Int32.ofInt 0)] h [false, false, true, false, true] 21 hq rfl ⟨(show xe_c .gt (xg 0 h.2.1 0 8) 0 = false by rw [show (xg 0 h.2.1 0 8) = s from e8]; exact c1), (show xe_c .gt (xg 0 h.2.1 35 3) 0 = false by rw [show (xg 0 h.2.1 35 3) = w from e3]; exact c2), (show xe_c .eq (xg 0 h.2.1 28 1) 0 = true by rw [show (xg 0 h.2.1 28 1) = r from e1]; exact c3), (by decide), c4, trivial⟩ (fun hq => ?_)
          have hB : mbB s w r x = false := by unfold mbB; (rw [c1, c2, c3, c4]) <;> simp only [Bool.not_true, Bool.not_false, Bool.true_and, Bool.false_and, Bool.and_false, Bool.and_true]
          exact xq_ret rfl rfl rfl ⟨by first | (rw [hB]; done) | (rw [hB]; rfl), by first | (rw [hB]; done) | (rw [hB]; exact rfl)⟩
        | false =>
          cases c5 : xe_c .le x 12 with
          | true =>
            refine xq_n 60 [0, 1, 2] [(0, .ref 0), (1, .int x), (2, .int (Int32.ofInt 0))] [.int x, va_rf (xg none (xh_ui h 0 9 x).2.2.2 0 2)] (xh_ui h 0 9 x) [false, false, true, false, false, true] 29 hq rfl ⟨(show xe_c .gt (xg 0 h.2.1 0 8) 0 = false by rw [show (xg 0 h.2.1 0 8) = s from e8]; exact c1), (show xe_c .gt (xg 0 h.2.1 35 3) 0 = false by rw [show (xg 0 h.2.1 35 3) = w from e3]; exact c2), (show xe_c .eq (xg 0 h.2.1 28 1) 0 = true by rw [show (xg 0 h.2.1 28 1) = r from e1]; exact c3), (by decide), c4, c5, trivial⟩ (fun _ => ?_)
            have hq : a_rq a_tb (xh_ui h 0 9 x) := a_rq_ui hq
            have x1 : (Int32.ofInt 1).toInt ≤ x.toInt := a_ce (a_neg_ok c4)
            have x2 : x.toInt ≤ (12 : Int32).toInt := a_ce c5
            have k0 : hk [(0, 9)] h (xh_ui h 0 9 x) := hk_ui (s := (0, 9)) (lo := 1) (hi := 12) (hk_0 hi) hn rfl rfl x1 x2 rfl rfl
            obtain ⟨q, e, rq⟩ : a_e (xh_ui h 0 9 x) 0 2 (2, 11, 0) := ((k0.1.1 0 (0, 9) (hq.2.1 0 (0, 9) rfl)).2 2 (by decide))
            rw [e]
            have sh := a_sh_at k0.1 rq (show a_sh[11]? = some (0, 7) from rfl)
            refine xq_cr (As := [.ref q, .int x]) (mj := xmi_X7_needAll) (q := []) rfl rfl (fun _ _ => rfl) ?_ (fun f => na_q (f := f) (x := x) k0.1 (hk_n k0 hn) rq x1 x2) ?_
            · show (match (xh_ui h 0 9 x).1[q]? with | some (0, ci) => _ | _ => none) = _
              rw [sh]
              rfl
            rintro _ h1 ⟨rfl, l1, i1, f1⟩
            have hq := a_rq_of i1.1 (show 72 ≤ h1.1.length by rw [l1]; exact hk_n k0 hn)
            have d1 : xg 0 h1.2.1 0 9 = x := (fr_g f1 rfl rfl).trans gx_s
            refine xq_n 64 [] [] [.int (Int32.ofInt 1)] h1 [] 3 hq rfl trivial (fun hq => ?_)
            have hB : mbB s w r x = true := by unfold mbB; (rw [c1, c2, c3, c4, c5]) <;> simp only [Bool.not_true, Bool.not_false, Bool.true_and, Bool.false_and, Bool.and_false, Bool.and_true]
            exact xq_ret rfl rfl rfl ⟨by first | (rw [hB]; done) | (rw [hB]; rfl), by first | (rw [hB]; done) | (rw [hB]; exact d1)⟩
          | false =>
            refine xq_n 49 [] [] [.int (Int32.ofInt 0)] h [false, false, true, false, false, false] 24 hq rfl ⟨(show xe_c .gt (xg 0 h.2.1 0 8) 0 = false by rw [show (xg 0 h.2.1 0 8) = s from e8]; exact c1), (show xe_c .gt (xg 0 h.2.1 35 3) 0 = false by rw [show (xg 0 h.2.1 35 3) = w from e3]; exact c2), (show xe_c .eq (xg 0 h.2.1 28 1) 0 = true by rw [show (xg 0 h.2.1 28 1) = r from e1]; exact c3), (by decide), c4, c5, trivial⟩ (fun hq => ?_)
            have hB : mbB s w r x = false := by unfold mbB; (rw [c1, c2, c3, c4, c5]) <;> simp only [Bool.not_true, Bool.not_false, Bool.true_and, Bool.false_and, Bool.and_false, Bool.and_true]
            exact xq_ret rfl rfl rfl ⟨by first | (rw [hB]; done) | (rw [hB]; rfl), by first | (rw [hB]; done) | (rw [hB]; exact rfl)⟩
      | false =>
        refine xq_n 49 [] [] [.int (Int32.ofInt 0)] h [false, false, false, true] 19 hq rfl ⟨(show xe_c .gt (xg 0 h.2.1 0 8) 0 = false by rw [show (xg 0 h.2.1 0 8) = s from e8]; exact c1), (show xe_c .gt (xg 0 h.2.1 35 3) 0 = false by rw [show (xg 0 h.2.1 35 3) = w from e3]; exact c2), (show xe_c .eq (xg 0 h.2.1 28 1) 0 = false by rw [show (xg 0 h.2.1 28 1) = r from e1]; exact c3), (by decide), trivial⟩ (fun hq => ?_)
        have hB : mbB s w r x = false := by unfold mbB; (rw [c1, c2, c3]) <;> simp only [Bool.not_true, Bool.not_false, Bool.true_and, Bool.false_and, Bool.and_false, Bool.and_true]
        exact xq_ret rfl rfl rfl ⟨by first | (rw [hB]; done) | (rw [hB]; rfl), by first | (rw [hB]; done) | (rw [hB]; exact rfl)⟩
set_option maxRecDepth 100000 in
set_option maxHeartbeats 4000000 in
theorem mb10_q {f : Nat} {x s w r : Int32} {h : xh_H} (hq : a_rq a_tb h) (e8 : xg 0 h.2.1 39 33 = s) (e3 : xg 0 h.2.1 39 63 = w) (e1 : xg 0 h.2.1 39 5 = r) : xq f xi_X10_members xmi_X10_members 0 [(0, .ref 39), (1, .int x)] [] h (fun v h' => v = some (.int (bl (mbB s w r x))) ∧ xg 0 h'.2.1 39 4 = cond (mbB s w r x) x (xg 0 h.2.1 39 4)) := by
  refine xq_n 9 [0, 1] [(0, .ref 39), (1, .int x)] [.int 12, .int (Int32.ofInt 1), .int x] (xh_ui h 39 0 (Int32.ofInt 0)) [] 8 hq rfl trivial (fun _ => ?_)
  have hq : a_rq a_tb (xh_ui h 39 0 (Int32.ofInt 0)) := a_rq_ui hq
  refine xq_run hq rfl rfl (isIn_q hq) ?_
  rintro _ h_ ⟨rfl, rfl⟩
  rw [in_c]
  cases b1 : (!xe_c .lt x (Int32.ofInt 1) && xe_c .le x 12) with
  | true =>
    cases c2 : xe_c .gt s 0 with
    | true =>
      refine xq_n 37 [] [] [.int (Int32.ofInt 0)] (xh_ui h 39 0 (Int32.ofInt 0)) [false, true] 7 hq rfl ⟨rfl, (show xe_c .gt (xg 0 (xh_ui h 39 0 (Int32.ofInt 0)).2.1 39 33) 0 = true by rw [show (xg 0 (xh_ui h 39 0 (Int32.ofInt 0)).2.1 39 33) = s from (gx_k (by decide)).trans (e8)]; exact c2), trivial⟩ (fun hq => ?_)
      have hB : mbB s w r x = false := by unfold mbB; rw [b1, c2]; rfl
      exact xq_ret rfl rfl rfl ⟨by first | (rw [hB]; done) | (rw [hB]; rfl), by first | (rw [hB]; done) | (rw [hB]; exact gx_k (by decide))⟩
    | false =>
      cases c3 : xe_c .gt w 0 with
      | true =>
        refine xq_n 37 [] [] [.int (Int32.ofInt 0)] (xh_ui h 39 0 (Int32.ofInt 0)) [false, false, true] 10 hq rfl ⟨rfl, (show xe_c .gt (xg 0 (xh_ui h 39 0 (Int32.ofInt 0)).2.1 39 33) 0 = false by rw [show (xg 0 (xh_ui h 39 0 (Int32.ofInt 0)).2.1 39 33) = s from (gx_k (by decide)).trans (e8)]; exact c2), (show xe_c .gt (xg 0 (xh_ui h 39 0 (Int32.ofInt 0)).2.1 39 63) 0 = true by rw [show (xg 0 (xh_ui h 39 0 (Int32.ofInt 0)).2.1 39 63) = w from (gx_k (by decide)).trans (e3)]; exact c3), trivial⟩ (fun hq => ?_)
        have hB : mbB s w r x = false := by unfold mbB; rw [b1, c2, c3]; rfl
        exact xq_ret rfl rfl rfl ⟨by first | (rw [hB]; done) | (rw [hB]; rfl), by first | (rw [hB]; done) | (rw [hB]; exact gx_k (by decide))⟩
      | false =>
        cases c4 : xe_c .eq r 0 with
        | true =>
          refine xq_n 44 [] [] [.int (Int32.ofInt 1)] (xh_ui (xh_ui h 39 0 (Int32.ofInt 0)) 39 4 x) [false, false, false, true] 16 hq rfl ⟨rfl, (show xe_c .gt (xg 0 (xh_ui h 39 0 (Int32.ofInt 0)).2.1 39 33) 0 = false by rw [show (xg 0 (xh_ui h 39 0 (Int32.ofInt 0)).2.1 39 33) = s from (gx_k (by decide)).trans (e8)]; exact c2), (show xe_c .gt (xg 0 (xh_ui h 39 0 (Int32.ofInt 0)).2.1 39 63) 0 = false by rw [show (xg 0 (xh_ui h 39 0 (Int32.ofInt 0)).2.1 39 63) = w from (gx_k (by decide)).trans (e3)]; exact c3), (show xe_c .eq (xg 0 (xh_ui h 39 0 (Int32.ofInt 0)).2.1 39 5) 0 = true by rw [show (xg 0 (xh_ui h 39 0 (Int32.ofInt 0)).2.1 39 5) = r from (gx_k (by decide)).trans (e1)]; exact c4), trivial⟩ (fun _ => ?_)
          have hq : a_rq a_tb (xh_ui (xh_ui h 39 0 (Int32.ofInt 0)) 39 4 x) := a_rq_ui hq
          have hB : mbB s w r x = true := by simp only [mbB, b1, c2, c3, c4]; rfl
          exact xq_ret rfl rfl rfl ⟨by first | (rw [hB]; done) | (rw [hB]; rfl), by first | (rw [hB]; done) | (rw [hB]; exact gx_s)⟩
        | false =>
          refine xq_n 37 [] [] [.int (Int32.ofInt 0)] (xh_ui h 39 0 (Int32.ofInt 0)) [false, false, false, false] 13 hq rfl ⟨rfl, (show xe_c .gt (xg 0 (xh_ui h 39 0 (Int32.ofInt 0)).2.1 39 33) 0 = false by rw [show (xg 0 (xh_ui h 39 0 (Int32.ofInt 0)).2.1 39 33) = s from (gx_k (by decide)).trans (e8)]; exact c2), (show xe_c .gt (xg 0 (xh_ui h 39 0 (Int32.ofInt 0)).2.1 39 63) 0 = false by rw [show (xg 0 (xh_ui h 39 0 (Int32.ofInt 0)).2.1 39 63) = w from (gx_k (by decide)).trans (e3)]; exact c3), (show xe_c .eq (xg 0 (xh_ui h 39 0 (Int32.ofInt 0)).2.1 39 5) 0 = false by rw [show (xg 0 (xh_ui h 39 0 (Int32.ofInt 0)).2.1 39 5) = r from (gx_k (by decide)).trans (e1)]; exact c4), trivial⟩ (fun hq => ?_)
          have hB : mbB s w r x = false := by unfold mbB; rw [b1, c2, c3, c4]; rfl
          exact xq_ret rfl rfl rfl ⟨by first | (rw [hB]; done) | (rw [hB]; rfl), by first | (rw [hB]; done) | (rw [hB]; exact gx_k (by decide))⟩
  | false =>
    refine xq_n 37 [] [] [.int (Int32.ofInt 0)] (xh_ui h 39 0 (Int32.ofInt 0)) [true] 4 hq rfl ⟨rfl, trivial⟩ (fun hq => ?_)
    have hB : mbB s w r x = false := by unfold mbB; rw [b1]; rfl
    exact xq_ret rfl rfl rfl ⟨by first | (rw [hB]; done) | (rw [hB]; rfl), by first | (rw [hB]; done) | (rw [hB]; exact gx_k (by decide))⟩
end XRJ
