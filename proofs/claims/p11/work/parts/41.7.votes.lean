section
section XVV
set_option maxRecDepth 100000 in
set_option maxHeartbeats 4000000 in
theorem vadd2_q {f vc : Nat} {x b y : Int32} {h : xh_H} (v6 : vc ≤ 60) (e3 : xg 0 h.2.1 35 3 = nI vc) (hq : a_rq a_tb h) : xq f xi_X1_add xmi_X1_add 0 [(0, .ref 35), (1, .int x), (2, .int b), (3, .int y)] [] h (fun v h' => fx vaS fN h h' ∧ ∀ k, xg 0 h'.2.1 36 k = cond ((decide (vc < 60)) && Nat.beq k vc) x (xg 0 h.2.1 36 k) ∧ xg 0 h'.2.1 37 k = cond ((decide (vc < 60)) && Nat.beq k vc) y (xg 0 h.2.1 37 k) ∧ xg 0 h'.2.1 38 k = cond ((decide (vc < 60)) && Nat.beq k vc) (vp_nar FieldType.boolean b) (xg 0 h.2.1 38 k)) := by
  cases c1 : xe_c .lt (nI vc) 60 with
  | true =>
    have z1 : vc < 60 := nq_ltt (a := vc) (b := 60) (by omega) (by omega) c1
    rw [show decide (vc < 60) = true from decide_eq_true (by omega)]
    refine xq_n 57 [] [] [.int ((xg 0 (xh_ui (xh_ui (xh_ui (xh_ui h 36 ((xg 0 h.2.1 35 3).toNatClampNeg) x) 38 ((xg 0 (xh_ui h 36 ((xg 0 h.2.1 35 3).toNatClampNeg) x).2.1 35 3).toNatClampNeg) (vp_nar FieldType.boolean b)) 37 ((xg 0 (xh_ui (xh_ui h 36 ((xg 0 h.2.1 35 3).toNatClampNeg) x) 38 ((xg 0 (xh_ui h 36 ((xg 0 h.2.1 35 3).toNatClampNeg) x).2.1 35 3).toNatClampNeg) (vp_nar FieldType.boolean b)).2.1 35 3).toNatClampNeg) y) 35 3 ((xg 0 (xh_ui (xh_ui (xh_ui h 36 ((xg 0 h.2.1 35 3).toNatClampNeg) x) 38 ((xg 0 (xh_ui h 36 ((xg 0 h.2.1 35 3).toNatClampNeg) x).2.1 35 3).toNatClampNeg) (vp_nar FieldType.boolean b)) 37 ((xg 0 (xh_ui (xh_ui h 36 ((xg 0 h.2.1 35 3).toNatClampNeg) x) 38 ((xg 0 (xh_ui h 36 ((xg 0 h.2.1 35 3).toNatClampNeg) x).2.1 35 3).toNatClampNeg) (vp_nar FieldType.boolean b)).2.1 35 3).toNatClampNeg) y).2.1 35 3) + (Int32.ofInt 1))).2.1 35 3) - (Int32.ofInt 1))] (xh_ui (xh_ui (xh_ui (xh_ui h 36 ((xg 0 h.2.1 35 3).toNatClampNeg) x) 38 ((xg 0 (xh_ui h 36 ((xg 0 h.2.1 35 3).toNatClampNeg) x).2.1 35 3).toNatClampNeg) (vp_nar FieldType.boolean b)) 37 ((xg 0 (xh_ui (xh_ui h 36 ((xg 0 h.2.1 35 3).toNatClampNeg) x) 38 ((xg 0 (xh_ui h 36 ((xg 0 h.2.1 35 3).toNatClampNeg) x).2.1 35 3).toNatClampNeg) (vp_nar FieldType.boolean b)).2.1 35 3).toNatClampNeg) y) 35 3 ((xg 0 (xh_ui (xh_ui (xh_ui h 36 ((xg 0 h.2.1 35 3).toNatClampNeg) x) 38 ((xg 0 (xh_ui h 36 ((xg 0 h.2.1 35 3).toNatClampNeg) x).2.1 35 3).toNatClampNeg) (vp_nar FieldType.boolean b)) 37 ((xg 0 (xh_ui (xh_ui h 36 ((xg 0 h.2.1 35 3).toNatClampNeg) x) 38 ((xg 0 (xh_ui h 36 ((xg 0 h.2.1 35 3).toNatClampNeg) x).2.1 35 3).toNatClampNeg) (vp_nar FieldType.boolean b)).2.1 35 3).toNatClampNeg) y).2.1 35 3) + (Int32.ofInt 1))) [true] 34 hq rfl ⟨(show xe_c .lt (xg 0 h.2.1 35 3) 60 = true by rw [show (xg 0 h.2.1 35 3) = (nI vc) from e3]; exact c1), trivial⟩ (fun _ => ?_)
    rw [show (xg 0 (xh_ui (xh_ui (xh_ui (xh_ui h 36 ((xg 0 h.2.1 35 3).toNatClampNeg) x) 38 ((xg 0 (xh_ui h 36 ((xg 0 h.2.1 35 3).toNatClampNeg) x).2.1 35 3).toNatClampNeg) (vp_nar FieldType.boolean b)) 37 ((xg 0 (xh_ui (xh_ui h 36 ((xg 0 h.2.1 35 3).toNatClampNeg) x) 38 ((xg 0 (xh_ui h 36 ((xg 0 h.2.1 35 3).toNatClampNeg) x).2.1 35 3).toNatClampNeg) (vp_nar FieldType.boolean b)).2.1 35 3).toNatClampNeg) y) 35 3 ((xg 0 (xh_ui (xh_ui (xh_ui h 36 ((xg 0 h.2.1 35 3).toNatClampNeg) x) 38 ((xg 0 (xh_ui h 36 ((xg 0 h.2.1 35 3).toNatClampNeg) x).2.1 35 3).toNatClampNeg) (vp_nar FieldType.boolean b)) 37 ((xg 0 (xh_ui (xh_ui h 36 ((xg 0 h.2.1 35 3).toNatClampNeg) x) 38 ((xg 0 (xh_ui h 36 ((xg 0 h.2.1 35 3).toNatClampNeg) x).2.1 35 3).toNatClampNeg) (vp_nar FieldType.boolean b)).2.1 35 3).toNatClampNeg) y).2.1 35 3) + (Int32.ofInt 1))).2.1 35 3) = ((xg 0 (xh_ui (xh_ui (xh_ui h 36 ((xg 0 h.2.1 35 3).toNatClampNeg) x) 38 ((xg 0 (xh_ui h 36 ((xg 0 h.2.1 35 3).toNatClampNeg) x).2.1 35 3).toNatClampNeg) (vp_nar FieldType.boolean b)) 37 ((xg 0 (xh_ui (xh_ui h 36 ((xg 0 h.2.1 35 3).toNatClampNeg) x) 38 ((xg 0 (xh_ui h 36 ((xg 0 h.2.1 35 3).toNatClampNeg) x).2.1 35 3).toNatClampNeg) (vp_nar FieldType.boolean b)).2.1 35 3).toNatClampNeg) y).2.1 35 3) + (Int32.ofInt 1)) from gx_s]
    rw [show (xg 0 (xh_ui (xh_ui (xh_ui h 36 ((xg 0 h.2.1 35 3).toNatClampNeg) x) 38 ((xg 0 (xh_ui h 36 ((xg 0 h.2.1 35 3).toNatClampNeg) x).2.1 35 3).toNatClampNeg) (vp_nar FieldType.boolean b)) 37 ((xg 0 (xh_ui (xh_ui h 36 ((xg 0 h.2.1 35 3).toNatClampNeg) x) 38 ((xg 0 (xh_ui h 36 ((xg 0 h.2.1 35 3).toNatClampNeg) x).2.1 35 3).toNatClampNeg) (vp_nar FieldType.boolean b)).2.1 35 3).toNatClampNeg) y).2.1 35 3) = (nI vc) from (gx_o (by decide)).trans ((gx_o (by decide)).trans ((gx_o (by decide)).trans (e3)))]
    rw [show (xg 0 (xh_ui (xh_ui h 36 ((xg 0 h.2.1 35 3).toNatClampNeg) x) 38 ((xg 0 (xh_ui h 36 ((xg 0 h.2.1 35 3).toNatClampNeg) x).2.1 35 3).toNatClampNeg) (vp_nar FieldType.boolean b)).2.1 35 3) = (nI vc) from (gx_o (by decide)).trans ((gx_o (by decide)).trans (e3))]
    rw [show (xg 0 (xh_ui h 36 ((xg 0 h.2.1 35 3).toNatClampNeg) x).2.1 35 3) = (nI vc) from (gx_o (by decide)).trans (e3)]
    rw [show (xg 0 h.2.1 35 3) = (nI vc) from e3]
    rw [show ((nI vc).toNatClampNeg) = vc from nI_clamp (by omega)]
    rw [show ((nI vc) + (Int32.ofInt 1)) = nI (vc + 1) from nI_1 _]
    rw [show ((nI (vc + 1)) - (Int32.ofInt 1)) = nI vc from nI_s1 _]
    have hq : a_rq a_tb (xh_ui (xh_ui (xh_ui (xh_ui h 36 vc x) 38 vc (vp_nar FieldType.boolean b)) 37 vc y) 35 3 (nI (vc + 1))) := a_rq_ui (a_rq_ui (a_rq_ui (a_rq_ui hq)))
    refine xq_ret rfl rfl rfl ⟨fx_ui (fx_ui (fx_ui (fx_ui (fx_0) rfl) rfl) rfl) rfl, fun k => ?_⟩
    by_cases hk' : k = vc
    · rw [show Nat.beq k vc = true from bq_t hk', hk']
      exact ⟨(gx_o (by decide)).trans ((gx_o (by decide)).trans ((gx_o (by decide)).trans (gx_s))), (gx_o (by decide)).trans (gx_s), (gx_o (by decide)).trans ((gx_o (by decide)).trans (gx_s))⟩
    · rw [show Nat.beq k vc = false from bq_f hk']
      exact ⟨(gx_o (by decide)).trans ((gx_o (by decide)).trans ((gx_o (by decide)).trans (gx_k (by omega)))), (gx_o (by decide)).trans ((gx_k (by omega)).trans ((gx_o (by decide)).trans (gx_o (by decide)))), (gx_o (by decide)).trans ((gx_o (by decide)).trans ((gx_k (by omega)).trans (gx_o (by decide))))⟩
  | false =>
    have z1 : vc ≥ 60 := nq_ltf (a := vc) (b := 60) (by omega) (by omega) c1
    rw [show decide (vc < 60) = false from decide_eq_false (by omega)]
    refine xq_n 10 [] [] [.int (Int32.ofInt (-1))] h [false] 7 hq rfl ⟨(show xe_c .lt (xg 0 h.2.1 35 3) 60 = false by rw [show (xg 0 h.2.1 35 3) = (nI vc) from e3]; exact c1), trivial⟩ (fun hq => ?_)
    exact xq_ret rfl rfl rfl ⟨fx_0, fun k => ⟨rfl, rfl, rfl⟩⟩
set_option maxRecDepth 100000 in
set_option maxHeartbeats 4000000 in
theorem vt9b_q {f vc : Nat} {x b z y : Int32} {h : xh_H} (v6 : vc ≤ 60) (e3 : xg 0 h.2.1 35 3 = nI vc) (e9 : xg 0 h.2.1 0 9 = z) (e10 : xg 0 h.2.1 0 10 = y) (hq : a_rq a_tb h) : xq f xi_X9_vote xmi_X9_vote 0 [(0, .ref 0), (1, .int x), (2, .int b)] [] h (fun v h' => ∀ k, xg 0 h'.2.1 36 k = cond (((!xe_c .lt x 0 && !xe_c .ge x (Int32.ofInt 1 <<< (z &&& 31))) && decide (vc < 60)) && Nat.beq k vc) x (xg 0 h.2.1 36 k) ∧ xg 0 h'.2.1 37 k = cond (((!xe_c .lt x 0 && !xe_c .ge x (Int32.ofInt 1 <<< (z &&& 31))) && decide (vc < 60)) && Nat.beq k vc) y (xg 0 h.2.1 37 k) ∧ xg 0 h'.2.1 38 k = cond (((!xe_c .lt x 0 && !xe_c .ge x (Int32.ofInt 1 <<< (z &&& 31))) && decide (vc < 60)) && Nat.beq k vc) (vp_nar FieldType.boolean b) (xg 0 h.2.1 38 k)) := by
  refine xq_n 2 [0, 1, 2] [(0, .ref 0), (1, .int x), (2, .int b)] [.int x, .ref 0] h [] 4 hq rfl trivial (fun hq => ?_)
  refine xq_run hq rfl rfl (set9_q (x := x) (z := z) (e9) hq) ?_
  rintro _ h_ ⟨rfl, rfl⟩
  cases b1 : (!xe_c .lt x 0 && !xe_c .ge x (Int32.ofInt 1 <<< (z &&& 31))) with
  | true =>
    refine xq_n 18 [0, 1, 2] [(0, .ref 0), (1, .int x), (2, .int b)] [.int (xg 0 h.2.1 0 10), .int b, .int x, .ref 35] h [false] 9 hq rfl ⟨rfl, trivial⟩ (fun hq => ?_)
    rw [e10]
    refine xq_run hq rfl rfl (xq_and (vadd_q v6 e3 hq) (vadd2_q v6 e3 hq)) ?_
    rintro _ h1 ⟨⟨rfl, g1, -⟩, -, d1⟩
    have hq := fx_q g1 hq
    refine xq_n 25 [] [] [.int (cond (decide (vc < 60)) (nI vc) (Int32.ofInt (-1)))] h1 [] 3 hq rfl trivial (fun hq => ?_)
    exact xq_ret rfl rfl rfl d1
  | false =>
    refine xq_n 25 [] [] [.int (Int32.ofInt (-1))] h [true] 4 hq rfl ⟨rfl, trivial⟩ (fun hq => ?_)
    exact xq_ret rfl rfl rfl (fun k => ⟨rfl, rfl, rfl⟩)
set_option maxRecDepth 100000 in
set_option maxHeartbeats 4000000 in
theorem vt10b_q {f vc : Nat} {x b z y : Int32} {h : xh_H} (v6 : vc ≤ 60) (e3 : xg 0 h.2.1 39 63 = nI vc) (e9 : xg 0 h.2.1 39 4 = z) (e10 : xg 0 h.2.1 39 3 = y) (hq : a_rq a_tb h) : xq f xi_X10_vote xmi_X10_vote 0 [(0, .ref 39), (1, .int x), (2, .int b)] [] h (fun v h' => ∀ k, xg 0 h'.2.1 68 k = cond (((!xe_c .lt x 0 && !xe_c .ge x (Int32.ofInt 1 <<< (z &&& 31))) && decide (vc < 60)) && Nat.beq k vc) x (xg 0 h.2.1 68 k) ∧ xg 0 h'.2.1 69 k = cond (((!xe_c .lt x 0 && !xe_c .ge x (Int32.ofInt 1 <<< (z &&& 31))) && decide (vc < 60)) && Nat.beq k vc) y (xg 0 h.2.1 69 k) ∧ xg 0 h'.2.1 70 k = cond (((!xe_c .lt x 0 && !xe_c .ge x (Int32.ofInt 1 <<< (z &&& 31))) && decide (vc < 60)) && Nat.beq k vc) (vp_nar FieldType.boolean b) (xg 0 h.2.1 70 k)) := by
  cases c1 : xe_c .eq (nI vc) 60 with
  | true =>
    have z1 : vc = 60 := nq_eqt (a := vc) (b := 60) (by omega) (by omega) c1
    rw [show decide (vc < 60) = false from decide_eq_false (by omega)]
    refine xq_n 23 [] [] [.int (Int32.ofInt (-1))] (xh_ui h 39 0 (Int32.ofInt 0)) [true] 10 hq rfl ⟨(show xe_c .eq (xg 0 (xh_ui h 39 0 (Int32.ofInt 0)).2.1 39 63) 60 = true by rw [show (xg 0 (xh_ui h 39 0 (Int32.ofInt 0)).2.1 39 63) = (nI vc) from (gx_k (by decide)).trans (e3)]; exact c1), trivial⟩ (fun _ => ?_)
    have hq : a_rq a_tb (xh_ui h 39 0 (Int32.ofInt 0)) := a_rq_ui hq
    exact xq_ret rfl rfl rfl (fun k => by rw [Bool.and_false]; exact ⟨gx_o (by decide), gx_o (by decide), gx_o (by decide)⟩)
  | false =>
    have z1 : vc ≠ 60 := nq_eqf (a := vc) (b := 60) (by omega) (by omega) c1
    rw [show decide (vc < 60) = true from decide_eq_true (by omega)]
    refine xq_n 16 [0, 1, 2] [(0, .ref 39), (1, .int x), (2, .int b)] [.int x, .ref 39] (xh_ui h 39 0 (Int32.ofInt 0)) [false] 11 hq rfl ⟨(show xe_c .eq (xg 0 (xh_ui h 39 0 (Int32.ofInt 0)).2.1 39 63) 60 = false by rw [show (xg 0 (xh_ui h 39 0 (Int32.ofInt 0)).2.1 39 63) = (nI vc) from (gx_k (by decide)).trans (e3)]; exact c1), trivial⟩ (fun _ => ?_)
    have hq : a_rq a_tb (xh_ui h 39 0 (Int32.ofInt 0)) := a_rq_ui hq
    refine xq_run hq rfl rfl (set10_q (x := x) (z := z) ((gx_k (by decide)).trans e9) hq) ?_
    rintro _ h_ ⟨rfl, rfl⟩
    cases b2 : (!xe_c .lt x 0 && !xe_c .ge x (Int32.ofInt 1 <<< (z &&& 31))) with
    | true =>
      refine xq_n 73 [] [] [.int ((xg 0 (xh_ui (xh_ui (xh_ui (xh_ui (xh_ui h 39 0 (Int32.ofInt 0)) 68 ((xg 0 (xh_ui h 39 0 (Int32.ofInt 0)).2.1 39 63).toNatClampNeg) x) 69 ((xg 0 (xh_ui (xh_ui h 39 0 (Int32.ofInt 0)) 68 ((xg 0 (xh_ui h 39 0 (Int32.ofInt 0)).2.1 39 63).toNatClampNeg) x).2.1 39 63).toNatClampNeg) (xg 0 (xh_ui (xh_ui h 39 0 (Int32.ofInt 0)) 68 ((xg 0 (xh_ui h 39 0 (Int32.ofInt 0)).2.1 39 63).toNatClampNeg) x).2.1 39 3)) 70 ((xg 0 (xh_ui (xh_ui (xh_ui h 39 0 (Int32.ofInt 0)) 68 ((xg 0 (xh_ui h 39 0 (Int32.ofInt 0)).2.1 39 63).toNatClampNeg) x) 69 ((xg 0 (xh_ui (xh_ui h 39 0 (Int32.ofInt 0)) 68 ((xg 0 (xh_ui h 39 0 (Int32.ofInt 0)).2.1 39 63).toNatClampNeg) x).2.1 39 63).toNatClampNeg) (xg 0 (xh_ui (xh_ui h 39 0 (Int32.ofInt 0)) 68 ((xg 0 (xh_ui h 39 0 (Int32.ofInt 0)).2.1 39 63).toNatClampNeg) x).2.1 39 3)).2.1 39 63).toNatClampNeg) (vp_nar FieldType.boolean b)) 39 63 ((xg 0 (xh_ui (xh_ui (xh_ui (xh_ui h 39 0 (Int32.ofInt 0)) 68 ((xg 0 (xh_ui h 39 0 (Int32.ofInt 0)).2.1 39 63).toNatClampNeg) x) 69 ((xg 0 (xh_ui (xh_ui h 39 0 (Int32.ofInt 0)) 68 ((xg 0 (xh_ui h 39 0 (Int32.ofInt 0)).2.1 39 63).toNatClampNeg) x).2.1 39 63).toNatClampNeg) (xg 0 (xh_ui (xh_ui h 39 0 (Int32.ofInt 0)) 68 ((xg 0 (xh_ui h 39 0 (Int32.ofInt 0)).2.1 39 63).toNatClampNeg) x).2.1 39 3)) 70 ((xg 0 (xh_ui (xh_ui (xh_ui h 39 0 (Int32.ofInt 0)) 68 ((xg 0 (xh_ui h 39 0 (Int32.ofInt 0)).2.1 39 63).toNatClampNeg) x) 69 ((xg 0 (xh_ui (xh_ui h 39 0 (Int32.ofInt 0)) 68 ((xg 0 (xh_ui h 39 0 (Int32.ofInt 0)).2.1 39 63).toNatClampNeg) x).2.1 39 63).toNatClampNeg) (xg 0 (xh_ui (xh_ui h 39 0 (Int32.ofInt 0)) 68 ((xg 0 (xh_ui h 39 0 (Int32.ofInt 0)).2.1 39 63).toNatClampNeg) x).2.1 39 3)).2.1 39 63).toNatClampNeg) (vp_nar FieldType.boolean b)).2.1 39 63) + (Int32.ofInt 1))).2.1 39 63) - (Int32.ofInt 1))] (xh_ui (xh_ui (xh_ui (xh_ui (xh_ui h 39 0 (Int32.ofInt 0)) 68 ((xg 0 (xh_ui h 39 0 (Int32.ofInt 0)).2.1 39 63).toNatClampNeg) x) 69 ((xg 0 (xh_ui (xh_ui h 39 0 (Int32.ofInt 0)) 68 ((xg 0 (xh_ui h 39 0 (Int32.ofInt 0)).2.1 39 63).toNatClampNeg) x).2.1 39 63).toNatClampNeg) (xg 0 (xh_ui (xh_ui h 39 0 (Int32.ofInt 0)) 68 ((xg 0 (xh_ui h 39 0 (Int32.ofInt 0)).2.1 39 63).toNatClampNeg) x).2.1 39 3)) 70 ((xg 0 (xh_ui (xh_ui (xh_ui h 39 0 (Int32.ofInt 0)) 68 ((xg 0 (xh_ui h 39 0 (Int32.ofInt 0)).2.1 39 63).toNatClampNeg) x) 69 ((xg 0 (xh_ui (xh_ui h 39 0 (Int32.ofInt 0)) 68 ((xg 0 (xh_ui h 39 0 (Int32.ofInt 0)).2.1 39 63).toNatClampNeg) x).2.1 39 63).toNatClampNeg) (xg 0 (xh_ui (xh_ui h 39 0 (Int32.ofInt 0)) 68 ((xg 0 (xh_ui h 39 0 (Int32.ofInt 0)).2.1 39 63).toNatClampNeg) x).2.1 39 3)).2.1 39 63).toNatClampNeg) (vp_nar FieldType.boolean b)) 39 63 ((xg 0 (xh_ui (xh_ui (xh_ui (xh_ui h 39 0 (Int32.ofInt 0)) 68 ((xg 0 (xh_ui h 39 0 (Int32.ofInt 0)).2.1 39 63).toNatClampNeg) x) 69 ((xg 0 (xh_ui (xh_ui h 39 0 (Int32.ofInt 0)) 68 ((xg 0 (xh_ui h 39 0 (Int32.ofInt 0)).2.1 39 63).toNatClampNeg) x).2.1 39 63).toNatClampNeg) (xg 0 (xh_ui (xh_ui h 39 0 (Int32.ofInt 0)) 68 ((xg 0 (xh_ui h 39 0 (Int32.ofInt 0)).2.1 39 63).toNatClampNeg) x).2.1 39 3)) 70 ((xg 0 (xh_ui (xh_ui (xh_ui h 39 0 (Int32.ofInt 0)) 68 ((xg 0 (xh_ui h 39 0 (Int32.ofInt 0)).2.1 39 63).toNatClampNeg) x) 69 ((xg 0 (xh_ui (xh_ui h 39 0 (Int32.ofInt 0)) 68 ((xg 0 (xh_ui h 39 0 (Int32.ofInt 0)).2.1 39 63).toNatClampNeg) x).2.1 39 63).toNatClampNeg) (xg 0 (xh_ui (xh_ui h 39 0 (Int32.ofInt 0)) 68 ((xg 0 (xh_ui h 39 0 (Int32.ofInt 0)).2.1 39 63).toNatClampNeg) x).2.1 39 3)).2.1 39 63).toNatClampNeg) (vp_nar FieldType.boolean b)).2.1 39 63) + (Int32.ofInt 1))) [true] 32 hq rfl ⟨rfl, trivial⟩ (fun _ => ?_)
      rw [show (xg 0 (xh_ui (xh_ui (xh_ui (xh_ui (xh_ui h 39 0 (Int32.ofInt 0)) 68 ((xg 0 (xh_ui h 39 0 (Int32.ofInt 0)).2.1 39 63).toNatClampNeg) x) 69 ((xg 0 (xh_ui (xh_ui h 39 0 (Int32.ofInt 0)) 68 ((xg 0 (xh_ui h 39 0 (Int32.ofInt 0)).2.1 39 63).toNatClampNeg) x).2.1 39 63).toNatClampNeg) (xg 0 (xh_ui (xh_ui h 39 0 (Int32.ofInt 0)) 68 ((xg 0 (xh_ui h 39 0 (Int32.ofInt 0)).2.1 39 63).toNatClampNeg) x).2.1 39 3)) 70 ((xg 0 (xh_ui (xh_ui (xh_ui h 39 0 (Int32.ofInt 0)) 68 ((xg 0 (xh_ui h 39 0 (Int32.ofInt 0)).2.1 39 63).toNatClampNeg) x) 69 ((xg 0 (xh_ui (xh_ui h 39 0 (Int32.ofInt 0)) 68 ((xg 0 (xh_ui h 39 0 (Int32.ofInt 0)).2.1 39 63).toNatClampNeg) x).2.1 39 63).toNatClampNeg) (xg 0 (xh_ui (xh_ui h 39 0 (Int32.ofInt 0)) 68 ((xg 0 (xh_ui h 39 0 (Int32.ofInt 0)).2.1 39 63).toNatClampNeg) x).2.1 39 3)).2.1 39 63).toNatClampNeg) (vp_nar FieldType.boolean b)) 39 63 ((xg 0 (xh_ui (xh_ui (xh_ui (xh_ui h 39 0 (Int32.ofInt 0)) 68 ((xg 0 (xh_ui h 39 0 (Int32.ofInt 0)).2.1 39 63).toNatClampNeg) x) 69 ((xg 0 (xh_ui (xh_ui h 39 0 (Int32.ofInt 0)) 68 ((xg 0 (xh_ui h 39 0 (Int32.ofInt 0)).2.1 39 63).toNatClampNeg) x).2.1 39 63).toNatClampNeg) (xg 0 (xh_ui (xh_ui h 39 0 (Int32.ofInt 0)) 68 ((xg 0 (xh_ui h 39 0 (Int32.ofInt 0)).2.1 39 63).toNatClampNeg) x).2.1 39 3)) 70 ((xg 0 (xh_ui (xh_ui (xh_ui h 39 0 (Int32.ofInt 0)) 68 ((xg 0 (xh_ui h 39 0 (Int32.ofInt 0)).2.1 39 63).toNatClampNeg) x) 69 ((xg 0 (xh_ui (xh_ui h 39 0 (Int32.ofInt 0)) 68 ((xg 0 (xh_ui h 39 0 (Int32.ofInt 0)).2.1 39 63).toNatClampNeg) x).2.1 39 63).toNatClampNeg) (xg 0 (xh_ui (xh_ui h 39 0 (Int32.ofInt 0)) 68 ((xg 0 (xh_ui h 39 0 (Int32.ofInt 0)).2.1 39 63).toNatClampNeg) x).2.1 39 3)).2.1 39 63).toNatClampNeg) (vp_nar FieldType.boolean b)).2.1 39 63) + (Int32.ofInt 1))).2.1 39 63) = ((xg 0 (xh_ui (xh_ui (xh_ui (xh_ui h 39 0 (Int32.ofInt 0)) 68 ((xg 0 (xh_ui h 39 0 (Int32.ofInt 0)).2.1 39 63).toNatClampNeg) x) 69 ((xg 0 (xh_ui (xh_ui h 39 0 (Int32.ofInt 0)) 68 ((xg 0 (xh_ui h 39 0 (Int32.ofInt 0)).2.1 39 63).toNatClampNeg) x).2.1 39 63).toNatClampNeg) (xg 0 (xh_ui (xh_ui h 39 0 (Int32.ofInt 0)) 68 ((xg 0 (xh_ui h 39 0 (Int32.ofInt 0)).2.1 39 63).toNatClampNeg) x).2.1 39 3)) 70 ((xg 0 (xh_ui (xh_ui (xh_ui h 39 0 (Int32.ofInt 0)) 68 ((xg 0 (xh_ui h 39 0 (Int32.ofInt 0)).2.1 39 63).toNatClampNeg) x) 69 ((xg 0 (xh_ui (xh_ui h 39 0 (Int32.ofInt 0)) 68 ((xg 0 (xh_ui h 39 0 (Int32.ofInt 0)).2.1 39 63).toNatClampNeg) x).2.1 39 63).toNatClampNeg) (xg 0 (xh_ui (xh_ui h 39 0 (Int32.ofInt 0)) 68 ((xg 0 (xh_ui h 39 0 (Int32.ofInt 0)).2.1 39 63).toNatClampNeg) x).2.1 39 3)).2.1 39 63).toNatClampNeg) (vp_nar FieldType.boolean b)).2.1 39 63) + (Int32.ofInt 1)) from gx_s]
      rw [show (xg 0 (xh_ui (xh_ui (xh_ui (xh_ui h 39 0 (Int32.ofInt 0)) 68 ((xg 0 (xh_ui h 39 0 (Int32.ofInt 0)).2.1 39 63).toNatClampNeg) x) 69 ((xg 0 (xh_ui (xh_ui h 39 0 (Int32.ofInt 0)) 68 ((xg 0 (xh_ui h 39 0 (Int32.ofInt 0)).2.1 39 63).toNatClampNeg) x).2.1 39 63).toNatClampNeg) (xg 0 (xh_ui (xh_ui h 39 0 (Int32.ofInt 0)) 68 ((xg 0 (xh_ui h 39 0 (Int32.ofInt 0)).2.1 39 63).toNatClampNeg) x).2.1 39 3)) 70 ((xg 0 (xh_ui (xh_ui (xh_ui h 39 0 (Int32.ofInt 0)) 68 ((xg 0 (xh_ui h 39 0 (Int32.ofInt 0)).2.1 39 63).toNatClampNeg) x) 69 ((xg 0 (xh_ui (xh_ui h 39 0 (Int32.ofInt 0)) 68 ((xg 0 (xh_ui h 39 0 (Int32.ofInt 0)).2.1 39 63).toNatClampNeg) x).2.1 39 63).toNatClampNeg) (xg 0 (xh_ui (xh_ui h 39 0 (Int32.ofInt 0)) 68 ((xg 0 (xh_ui h 39 0 (Int32.ofInt 0)).2.1 39 63).toNatClampNeg) x).2.1 39 3)).2.1 39 63).toNatClampNeg) (vp_nar FieldType.boolean b)).2.1 39 63) = (nI vc) from (gx_o (by decide)).trans ((gx_o (by decide)).trans ((gx_o (by decide)).trans ((gx_k (by decide)).trans (e3))))]
      rw [show (xg 0 (xh_ui (xh_ui (xh_ui h 39 0 (Int32.ofInt 0)) 68 ((xg 0 (xh_ui h 39 0 (Int32.ofInt 0)).2.1 39 63).toNatClampNeg) x) 69 ((xg 0 (xh_ui (xh_ui h 39 0 (Int32.ofInt 0)) 68 ((xg 0 (xh_ui h 39 0 (Int32.ofInt 0)).2.1 39 63).toNatClampNeg) x).2.1 39 63).toNatClampNeg) (xg 0 (xh_ui (xh_ui h 39 0 (Int32.ofInt 0)) 68 ((xg 0 (xh_ui h 39 0 (Int32.ofInt 0)).2.1 39 63).toNatClampNeg) x).2.1 39 3)).2.1 39 63) = (nI vc) from (gx_o (by decide)).trans ((gx_o (by decide)).trans ((gx_k (by decide)).trans (e3)))]
      rw [show (xg 0 (xh_ui (xh_ui h 39 0 (Int32.ofInt 0)) 68 ((xg 0 (xh_ui h 39 0 (Int32.ofInt 0)).2.1 39 63).toNatClampNeg) x).2.1 39 63) = (nI vc) from (gx_o (by decide)).trans ((gx_k (by decide)).trans (e3))]
      rw [show (xg 0 (xh_ui (xh_ui h 39 0 (Int32.ofInt 0)) 68 ((xg 0 (xh_ui h 39 0 (Int32.ofInt 0)).2.1 39 63).toNatClampNeg) x).2.1 39 3) = y from (gx_o (by decide)).trans ((gx_k (by decide)).trans (e10))]
      rw [show (xg 0 (xh_ui h 39 0 (Int32.ofInt 0)).2.1 39 63) = (nI vc) from (gx_k (by decide)).trans (e3)]
      rw [show ((nI vc).toNatClampNeg) = vc from nI_clamp (by omega)]
      rw [show ((nI vc) + (Int32.ofInt 1)) = nI (vc + 1) from nI_1 _]
      rw [show ((nI (vc + 1)) - (Int32.ofInt 1)) = nI vc from nI_s1 _]
      have hq : a_rq a_tb (xh_ui (xh_ui (xh_ui (xh_ui (xh_ui h 39 0 (Int32.ofInt 0)) 68 vc x) 69 vc y) 70 vc (vp_nar FieldType.boolean b)) 39 63 (nI (vc + 1))) := a_rq_ui (a_rq_ui (a_rq_ui (a_rq_ui hq)))
      refine xq_ret rfl rfl rfl (fun k => ?_)
      by_cases hk' : k = vc
      · rw [show Nat.beq k vc = true from bq_t hk', hk']
        exact ⟨(gx_o (by decide)).trans ((gx_o (by decide)).trans ((gx_o (by decide)).trans (gx_s))), (gx_o (by decide)).trans ((gx_o (by decide)).trans (gx_s)), (gx_o (by decide)).trans (gx_s)⟩
      · rw [show Nat.beq k vc = false from bq_f hk']
        exact ⟨(gx_o (by decide)).trans ((gx_o (by decide)).trans ((gx_o (by decide)).trans ((gx_k (by omega)).trans (gx_o (by decide))))), (gx_o (by decide)).trans ((gx_o (by decide)).trans ((gx_k (by omega)).trans ((gx_o (by decide)).trans (gx_o (by decide))))), (gx_o (by decide)).trans ((gx_k (by omega)).trans ((gx_o (by decide)).trans ((gx_o (by decide)).trans (gx_o (by decide)))))⟩
    | false =>
      refine xq_n 23 [] [] [.int (Int32.ofInt (-1))] (xh_ui h 39 0 (Int32.ofInt 0)) [false] 4 hq rfl ⟨rfl, trivial⟩ (fun hq => ?_)
      exact xq_ret rfl rfl rfl (fun k => ⟨gx_o (by decide), gx_o (by decide), gx_o (by decide)⟩)
end XVV
end
section
section XPL
theorem gx_if {h : xh_H} {c a k : Nat} {x : Int32} : xg 0 (xh_ui h c a x).2.1 c k = if k = a then x else xg 0 h.2.1 c k := by
  by_cases e : k = a
  · rw [if_pos e, e]; exact gx_s
  · rw [if_neg e]; exact gx_k (by omega)
/-- the places of an order -/
def pw (T : Nat → Nat) (x : Int32) : Nat → Nat → (Nat → Int32) → Nat → Int32
  | 0, _, F => F
  | j + 1, i, F => pw T x j (i + 1) (fun k => if k = (x * 7 + nI (T i)).toNatClampNeg then nI i else F k)
theorem pw_c {T : Nat → Nat} {x : Int32} {N : Nat} : ∀ (j i : Nat) (F G : Nat → Int32), (∀ k, k < N → F k = G k) → ∀ k, k < N → pw T x j i F k = pw T x j i G k := by
  intro j
  induction j with
  | zero => intro i F G h k hk'; exact h k hk'
  | succ j ih =>
    intro i F G h k hk'
    refine ih (i + 1) _ _ (fun k hk' => ?_) k hk'
    by_cases e : k = (x * 7 + nI (T i)).toNatClampNeg
    · rw [if_pos e, if_pos e]
    · rw [if_neg e, if_neg e]; exact h k hk'
theorem ro_lt {T : Nat → Nat} : ∀ (j i : Nat) (s : Int32), ro T j i s = true → ∀ k, i ≤ k → k < i + j → T k < 7 := by
  intro j
  induction j with
  | zero => intro i s _ k h1 h2; omega
  | succ j ih =>
    intro i s h k h1 h2
    have hR : ro T (j + 1) i s = (decide (T i < 7) && (xe_c .eq ((s >>> (nI (T i) &&& 31)) &&& Int32.ofInt 1) 0 && ro T j (i + 1) (s ||| (Int32.ofInt 1 <<< (nI (T i) &&& 31))))) := rfl
    rw [hR, Bool.and_eq_true, Bool.and_eq_true] at h
    by_cases e : k = i
    · rw [e]; exact of_decide_eq_true h.1
    · exact ih (i + 1) _ h.2.2 k (by omega) (by omega)
set_option maxRecDepth 100000 in
set_option maxHeartbeats 4000000 in
theorem ord2_l {f : Nat} {T : Nat → Nat} {x : Int32} {h0 : xh_H} (hc : ct h0 T 7) (h7 : ∀ k, k < 7 → T k < 7) : ∀ (j i : Nat) (h : xh_H), i + j = 7 → fx oSr fN h0 h → a_rq a_tb h → ∀ F : Nat → Int32, (∀ k, xg 0 h.2.1 30 k = F k) → xq f xi_X0_order xmi_X0_order 2 [(0, .ref 28), (1, .int x), (2, .ref 1), (3, .int (nI i))] [] h (fun v h' => v = none ∧ fx oSr fN h0 h' ∧ ∀ k, xg 0 h'.2.1 30 k = pw T x j i F k) := by
  intro j
  induction j with
  | zero =>
    intro i h ij g hq F hF
    cases c1 : xe_c .ge (nI i) 7 with
    | true =>
      have z1 : i ≥ 7 := nq_get (a := i) (b := 7) (by omega) (by omega) c1
      refine xq_n 47 [] [] [] (xh_ui h 28 1 (Int32.ofInt 1)) [true] 8 hq rfl ⟨c1, trivial⟩ (fun _ => ?_)
      have hq : a_rq a_tb (xh_ui h 28 1 (Int32.ofInt 1)) := a_rq_ui hq
      exact xq_ret rfl rfl rfl ⟨rfl, fx_t g (fx_ui (fx_0) rfl), fun k => (gx_o (by decide)).trans (hF k)⟩
    | false =>
      have z1 : i < 7 := nq_gef (a := i) (b := 7) (by omega) (by omega) c1
      omega
  | succ j ih =>
    intro i h ij g hq F hF
    cases c1 : xe_c .ge (nI i) 7 with
    | true =>
      have z1 : i ≥ 7 := nq_get (a := i) (b := 7) (by omega) (by omega) c1
      omega
    | false =>
      have z1 : i < 7 := nq_gef (a := i) (b := 7) (by omega) (by omega) c1
      refine xq_n 10 [0, 1, 2, 3] [(0, .ref 28), (1, .int x), (2, .ref 1), (3, .int (nI i))] [.int (nI i), .ref 1] h [false] 7 hq rfl ⟨c1, trivial⟩ (fun hq => ?_)
      have tI := (hc.2.2 i (by omega)).1
      refine xq_run hq rfl rfl (at_q (ct_f hc g rfl (fun _ => rfl)) (p := i) (by omega) hq) ?_
      rintro _ h_ ⟨rfl, rfl⟩
      refine xq_n 17 [0, 1, 2, 3, 4] [(0, .ref 28), (1, .int x), (2, .ref 1), (3, .int (nI i)), (4, .int (nI (T i)))] [.int (nI (T i))] h [] 4 hq rfl trivial (fun hq => ?_)
      refine xq_run hq rfl rfl (isop_q (c := (T i)) (by omega) hq) ?_
      rintro _ h_ ⟨rfl, rfl⟩
      cases b2 : (decide (T i < 7)) with
      | true =>
        have db2 := of_decide_eq_true b2
        refine xq_n 2 [0, 1, 2, 3] [(0, .ref 28), (1, .int x), (2, .ref 1), (3, .int ((nI i) + Int32.ofInt 1))] [] (xh_ui h 30 (((x * 7) + (nI (T i))).toNatClampNeg) (nI i)) [false] 14 hq rfl ⟨rfl, trivial⟩ (fun _ => ?_)
        rw [show ((nI i) + Int32.ofInt 1) = nI (i + 1) from nI_1 _]
        have hq : a_rq a_tb (xh_ui h 30 (((x * 7) + (nI (T i))).toNatClampNeg) (nI i)) := a_rq_ui hq
        refine ih (i + 1) _ (by omega) (fx_t g (fx_ui (fx_0) rfl)) hq _ (fun k => ?_)
        rw [gx_if, hF k]
      | false =>
        have db2 := of_decide_eq_false b2
        have := h7 i (by omega); omega
set_option maxRecDepth 100000 in
set_option maxHeartbeats 4000000 in
theorem ord2_q {f : Nat} {T : Nat → Nat} {x : Int32} {h : xh_H} (hc : ct h T 7) (h7 : ∀ k, k < 7 → T k < 7) (hq : a_rq a_tb h) : xq f xi_X0_order xmi_X0_order 0 [(0, .ref 28), (1, .int x), (2, .ref 1)] [] h (fun v h' => v = none ∧ fx oSr fN h h' ∧ ∀ k, xg 0 h'.2.1 30 k = pw T x 7 0 (fun k => xg 0 h.2.1 30 k) k) := by
  refine xq_n 2 [0, 1, 2, 3] [(0, .ref 28), (1, .int x), (2, .ref 1), (3, .int (Int32.ofInt 0))] [] h [] 4 hq rfl trivial (fun hq => ?_)
  exact ord2_l hc h7 7 0 h rfl fx_0 hq _ (fun _ => rfl)
set_option maxRecDepth 100000 in
set_option maxHeartbeats 4000000 in
theorem rk9b_q {f n : Nat} {T : Nat → Nat} {x z : Int32} {h : xh_H} (hc : ct h T n) (e9 : xg 0 h.2.1 0 9 = z) (hq : a_rq a_tb h) : xq f xi_X9_rank xmi_X9_rank 0 [(0, .ref 0), (1, .int x)] [] h (fun v h' => ∀ k, xg 0 h'.2.1 30 k = cond ((!xe_c .lt x 0 && !xe_c .ge x z) && (Nat.beq n 7 && ro T 7 0 (Int32.ofInt 0))) (pw T x 7 0 (fun k => xg 0 h.2.1 30 k)) (fun k => xg 0 h.2.1 30 k) k) := by
  have n6 := hc.2.1
  refine xq_n 2 [0, 1] [(0, .ref 0), (1, .int x)] [.int x, .ref 0] h [] 4 hq rfl trivial (fun hq => ?_)
  refine xq_run hq rfl rfl (mem9_q (x := x) (z := z) (e9) hq) ?_
  rintro _ h_ ⟨rfl, rfl⟩
  cases b1 : (!xe_c .lt x 0 && !xe_c .ge x z) with
  | true =>
    cases c2 : xe_c .ne (nI n) 7 with
    | true =>
      have z2 : n ≠ 7 := nq_net (a := n) (b := 7) (by omega) (by omega) c2
      rw [show Nat.beq n 7 = false from bq_f z2]
      refine xq_n 65 [] [] [.int (Int32.ofInt 0)] (xh_ui h 1 1 (Int32.ofInt 0)) [false, true, true] 17 hq rfl ⟨rfl, (show xe_c .ne (xg 0 h.2.1 1 1) 7 = true by rw [show (xg 0 h.2.1 1 1) = (nI n) from hc.1]; exact c2), (by decide), trivial⟩ (fun _ => ?_)
      have hq : a_rq a_tb (xh_ui h 1 1 (Int32.ofInt 0)) := a_rq_ui hq
      exact xq_ret rfl rfl rfl (fun k => gx_o (by decide))
    | false =>
      have z2 : n = 7 := nq_nef (a := n) (b := 7) (by omega) (by omega) c2
      rw [show Nat.beq n 7 = true from bq_t z2]
      have hc7 : ct h T 7 := z2 ▸ hc
      refine xq_n 28 [0, 1] [(0, .ref 0), (1, .int x)] [.ref 1, .ref 28] h [false, false] 12 hq rfl ⟨rfl, (show xe_c .ne (xg 0 h.2.1 1 1) 7 = false by rw [show (xg 0 h.2.1 1 1) = (nI n) from hc.1]; exact c2), trivial⟩ (fun hq => ?_)
      refine xq_run hq rfl rfl (row_q hc7 hq) ?_
      rintro _ h_ ⟨rfl, rfl⟩
      rw [show (decide (1 ≤ 7 ∧ 7 ≤ 7) && ro T 7 0 (Int32.ofInt 0)) = ro T 7 0 (Int32.ofInt 0) from rfl]
      cases b3 : (ro T 7 0 (Int32.ofInt 0)) with
      | true =>
        refine xq_n 53 [0, 1, 2] [(0, .ref 0), (1, .int x), (2, .int (Int32.ofInt 1))] [.ref 1, .int x, .ref 28] h [false, false] 13 hq rfl ⟨rfl, (by decide), trivial⟩ (fun hq => ?_)
        have h7 : ∀ k, k < 7 → T k < 7 := fun k hk' => ro_lt 7 0 _ b3 k (Nat.zero_le k) (by omega)
        refine xq_run hq rfl rfl (ord2_q hc7 h7 hq) ?_
        rintro _ h1 ⟨rfl, g1, d1⟩
        have hq := fx_q g1 hq
        refine xq_n 65 [] [] [.int (Int32.ofInt 1)] (xh_ui h1 1 1 (Int32.ofInt 0)) [] 7 hq rfl trivial (fun _ => ?_)
        have hq : a_rq a_tb (xh_ui h1 1 1 (Int32.ofInt 0)) := a_rq_ui hq
        exact xq_ret rfl rfl rfl (fun k => (gx_o (by decide)).trans (d1 k))
      | false =>
        refine xq_n 65 [] [] [.int (Int32.ofInt 0)] (xh_ui h 1 1 (Int32.ofInt 0)) [true, true] 12 hq rfl ⟨rfl, (by decide), trivial⟩ (fun _ => ?_)
        have hq : a_rq a_tb (xh_ui h 1 1 (Int32.ofInt 0)) := a_rq_ui hq
        exact xq_ret rfl rfl rfl (fun k => gx_o (by decide))
  | false =>
    refine xq_n 65 [] [] [.int (Int32.ofInt 0)] (xh_ui h 1 1 (Int32.ofInt 0)) [true, true] 12 hq rfl ⟨rfl, (by decide), trivial⟩ (fun _ => ?_)
    have hq : a_rq a_tb (xh_ui h 1 1 (Int32.ofInt 0)) := a_rq_ui hq
    exact xq_ret rfl rfl rfl (fun k => gx_o (by decide))
set_option maxRecDepth 100000 in
set_option maxHeartbeats 4000000 in
theorem rkl2_q {f : Nat} {T : Nat → Nat} {x : Int32} : ∀ (j i : Nat) (h : xh_H), i + j = 7 → (∀ k, k < 7 → T k < 256 ∧ xg 0 h.2.1 40 k = nI (T k)) → a_rq a_tb h → ∀ F : Nat → Int32, (∀ k, xg 0 h.2.1 62 k = F k) → xq f xi_X10_rank xmi_X10_rank 36 [(0, .ref 39), (1, .int x), (3, .int (nI i))] [] h (fun v h' => ∀ k, xg 0 h'.2.1 62 k = pw T x j i F k) := by
  intro j
  induction j with
  | zero =>
    intro i h ij hT hq F hF
    cases c1 : xe_c .ge (nI i) 7 with
    | true =>
      have z1 : i ≥ 7 := nq_get (a := i) (b := 7) (by omega) (by omega) c1
      refine xq_n 71 [] [] [.int (Int32.ofInt 1)] (xh_ui h 39 5 (Int32.ofInt 1)) [true] 9 hq rfl ⟨c1, trivial⟩ (fun _ => ?_)
      have hq : a_rq a_tb (xh_ui h 39 5 (Int32.ofInt 1)) := a_rq_ui hq
      exact xq_ret rfl rfl rfl (fun k => (gx_o (by decide)).trans (hF k))
    | false =>
      have z1 : i < 7 := nq_gef (a := i) (b := 7) (by omega) (by omega) c1
      omega
  | succ j ih =>
    intro i h ij hT hq F hF
    cases c1 : xe_c .ge (nI i) 7 with
    | true =>
      have z1 : i ≥ 7 := nq_get (a := i) (b := 7) (by omega) (by omega) c1
      omega
    | false =>
      have z1 : i < 7 := nq_gef (a := i) (b := 7) (by omega) (by omega) c1
      refine xq_n 36 [0, 1, 3] [(0, .ref 39), (1, .int x), (3, .int ((nI i) + Int32.ofInt 1))] [] (xh_ui h 62 (((7 * x) + (xg 0 h.2.1 40 ((nI i).toNatClampNeg))).toNatClampNeg) (nI i)) [false] 19 hq rfl ⟨c1, trivial⟩ (fun _ => ?_)
      rw [show (xg 0 h.2.1 40 ((nI i).toNatClampNeg)) = (nI (T i)) from (by rw [show ((nI i).toNatClampNeg) = i from nI_clamp (by omega)]; exact (hT i (by omega)).2)]
      rw [show ((nI i) + Int32.ofInt 1) = nI (i + 1) from nI_1 _]
      have hq : a_rq a_tb (xh_ui h 62 (((7 * x) + (nI (T i))).toNatClampNeg) (nI i)) := a_rq_ui hq
      refine ih (i + 1) _ (by omega) (fun k hk' => ⟨(hT k hk').1, (gx_o (by decide)).trans (hT k hk').2⟩) hq _ (fun k => ?_)
      rw [gx_if, hF k, show (7 : Int32) * x = x * 7 from Int32.mul_comm _ _]
set_option maxRecDepth 100000 in
set_option maxHeartbeats 4000000 in
theorem rk10b_q {f n : Nat} {T : Nat → Nat} {x z : Int32} {h : xh_H} (n6 : n ≤ 640) (e2 : xg 0 h.2.1 39 2 = nI n) (hT : ∀ k, k < n → T k < 256 ∧ xg 0 h.2.1 40 k = nI (T k)) (e9 : xg 0 h.2.1 39 4 = z) (hq : a_rq a_tb h) : xq f xi_X10_rank xmi_X10_rank 0 [(0, .ref 39), (1, .int x)] [] h (fun v h' => ∀ k, xg 0 h'.2.1 62 k = cond ((!xe_c .lt x 0 && !xe_c .ge x z) && (Nat.beq n 7 && ro T 7 0 (Int32.ofInt 0))) (pw T x 7 0 (fun k => xg 0 h.2.1 62 k)) (fun k => xg 0 h.2.1 62 k) k) := by
  refine xq_n 6 [0, 1] [(0, .ref 39), (1, .int x)] [.ref 39] (xh_ui h 39 0 (Int32.ofInt 0)) [] 6 hq rfl trivial (fun _ => ?_)
  have hq : a_rq a_tb (xh_ui h 39 0 (Int32.ofInt 0)) := a_rq_ui hq
  refine xq_run hq rfl rfl (take_q hq) ?_
  rintro _ _ ⟨rfl, rfl⟩
  rw [show xg 0 (xh_ui h 39 0 (Int32.ofInt 0)).2.1 39 2 = nI n from (gx_k (by decide)).trans e2]
  have hq : a_rq a_tb (xh_ui (xh_ui h 39 0 (Int32.ofInt 0)) 39 2 (Int32.ofInt 0)) := a_rq_ui hq
  refine xq_n 12 [0, 1, 2] [(0, .ref 39), (1, .int x), (2, .int (nI n))] [.int x, .ref 39] (xh_ui (xh_ui h 39 0 (Int32.ofInt 0)) 39 2 (Int32.ofInt 0)) [] 5 hq rfl trivial (fun hq => ?_)
  refine xq_run hq rfl rfl (mem10_q (x := x) (z := z) ((gx_k (by decide)).trans ((gx_k (by decide)).trans (e9))) hq) ?_
  rintro _ h_ ⟨rfl, rfl⟩
  cases b1 : (!xe_c .lt x 0 && !xe_c .ge x z) with
  | true =>
    cases c2 : xe_c .ne (nI n) 7 with
    | true =>
      have z2 : n ≠ 7 := nq_net (a := n) (b := 7) (by omega) (by omega) c2
      rw [show Nat.beq n 7 = false from bq_f z2]
      refine xq_n 33 [] [] [.int (Int32.ofInt 0)] (xh_ui (xh_ui h 39 0 (Int32.ofInt 0)) 39 2 (Int32.ofInt 0)) [false, true] 7 hq rfl ⟨rfl, c2, trivial⟩ (fun hq => ?_)
      exact xq_ret rfl rfl rfl (fun k => (gx_o (by decide)).trans (gx_o (by decide)))
    | false =>
      have z2 : n = 7 := nq_nef (a := n) (b := 7) (by omega) (by omega) c2
      rw [show Nat.beq n 7 = true from bq_t z2]
      have er : ro T n 0 (Int32.ofInt 0) = ro T 7 0 (Int32.ofInt 0) := by rw [z2]
      refine xq_n 26 [0, 1, 2] [(0, .ref 39), (1, .int x), (2, .int (nI n))] [.int (nI n), .ref 39] (xh_ui (xh_ui h 39 0 (Int32.ofInt 0)) 39 2 (Int32.ofInt 0)) [false, false] 8 hq rfl ⟨rfl, c2, trivial⟩ (fun hq => ?_)
      refine xq_run hq rfl rfl (are_q (by omega) (fun k hk' => ⟨(hT k hk').1, (gx_o (by decide)).trans ((gx_o (by decide)).trans (hT k hk').2)⟩) hq) ?_
      rintro _ h_ ⟨rfl, rfl⟩
      rw [er]
      cases b3 : (ro T 7 0 (Int32.ofInt 0)) with
      | true =>
        refine xq_n 36 [0, 1, 3] [(0, .ref 39), (1, .int x), (3, .int (Int32.ofInt 0))] [] (xh_ui (xh_ui h 39 0 (Int32.ofInt 0)) 39 2 (Int32.ofInt 0)) [true] 5 hq rfl ⟨rfl, trivial⟩ (fun hq => ?_)
        refine rkl2_q 7 0 _ rfl (fun k hk' => ⟨(hT k (by omega)).1, (gx_o (by decide)).trans ((gx_o (by decide)).trans (hT k (by omega)).2)⟩) hq _ (fun k => (gx_o (by decide)).trans (gx_o (by decide)))
      | false =>
        refine xq_n 33 [] [] [.int (Int32.ofInt 0)] (xh_ui (xh_ui h 39 0 (Int32.ofInt 0)) 39 2 (Int32.ofInt 0)) [false] 4 hq rfl ⟨rfl, trivial⟩ (fun hq => ?_)
        exact xq_ret rfl rfl rfl (fun k => (gx_o (by decide)).trans (gx_o (by decide)))
  | false =>
    refine xq_n 33 [] [] [.int (Int32.ofInt 0)] (xh_ui (xh_ui h 39 0 (Int32.ofInt 0)) 39 2 (Int32.ofInt 0)) [true] 4 hq rfl ⟨rfl, trivial⟩ (fun hq => ?_)
    exact xq_ret rfl rfl rfl (fun k => (gx_o (by decide)).trans (gx_o (by decide)))
end XPL
end
section
section XFZ
/-- what most methods leave: the shapes, a Statute's ints, all arrays of longs, the references but Powers' and Scales' -/
def Fz (h h' : xh_H) : Prop := h'.1 = h.1 ∧ (∀ c k, h.1[c]? = some (0, 7) → xg 0 h'.2.1 c k = xg 0 h.2.1 c k) ∧ (∀ c k, (∀ ci, h.1[c]? ≠ some (0, ci)) → xg 0 h'.2.2.1 c k = xg 0 h.2.2.1 c k) ∧ ∀ c k, h.1[c]? ≠ some (0, 2) → h.1[c]? ≠ some (0, 5) → xg none h'.2.2.2 c k = xg none h.2.2.2 c k
theorem Fz_0 {h : xh_H} : Fz h h := ⟨rfl, fun _ _ _ => rfl, fun _ _ _ => rfl, fun _ _ _ _ => rfl⟩
theorem Fz_t {h h1 h2 : xh_H} (a : Fz h h1) (b : Fz h1 h2) : Fz h h2 := by
  obtain ⟨a1, a2, a3, a4⟩ := a
  obtain ⟨b1, b2, b3, b4⟩ := b
  rw [a1] at b1 b2 b3 b4
  exact ⟨b1, fun c k z => (b2 c k z).trans (a2 c k z), fun c k z => (b3 c k z).trans (a3 c k z), fun c k z y => (b4 c k z y).trans (a4 c k z y)⟩
theorem Fz_ui {h : xh_H} {a k : Nat} {x : Int32} (hs : h.1[a]? ≠ some (0, 7)) : Fz h (xh_ui h a k x) := ⟨rfl, fun c k' z => gx_o (fun e => hs (by rw [← e]; exact z)), fun _ _ _ => rfl, fun _ _ _ _ => rfl⟩
def okf (ra rb : Nat) : Bool := match xh_ty ra rb with
  | .int => !Nat.beq ra 7
  | .boolean => !Nat.beq ra 7
  | .long => true
  | _ => Nat.beq ra 2 || Nat.beq ra 5
/-- an instruction that leaves it -/
def okr (r : xr_R) : Bool := match r.1 with
  | .lastore => false
  | .aastore => false
  | .newarray _ => false
  | .anewarray _ => false
  | .new _ => false
  | .putfield _ => okf r.2.2.1 r.2.2.2.1
  | _ => true
theorem Fz_ul {h : xh_H} {a k ci : Nat} {x : Int64} (hs : h.1[a]? = some (0, ci)) : Fz h (xh_ul h a k x) := ⟨rfl, fun _ _ _ => rfl, fun c k' z => gl_o (fun e => z ci (by rw [e]; exact hs)), fun _ _ _ _ => rfl⟩
theorem Fz_ur {h : xh_H} {a k : Nat} {x : Option Nat} (hs : h.1[a]? = some (0, 2) ∨ h.1[a]? = some (0, 5)) : Fz h (xh_ur h a k x) := ⟨rfl, fun _ _ _ => rfl, fun _ _ _ => rfl, fun c k' z y => congrFun (xh_up_o (fun e => hs.elim (fun w => z (by rw [e]; exact w)) (fun w => y (by rw [e]; exact w)))) k'⟩
theorem okr_7 {h : xh_H} {a ra : Nat} (hs : h.1[a]? = some (0, ra)) (ok : (!Nat.beq ra 7) = true) : h.1[a]? ≠ some (0, 7) := fun z => by
  rw [hs] at z
  cases z
  cases ok
theorem okr_25 {h : xh_H} {a ra : Nat} (hs : h.1[a]? = some (0, ra)) (ok : (Nat.beq ra 2 || Nat.beq ra 5) = true) : h.1[a]? = some (0, 2) ∨ h.1[a]? = some (0, 5) := by
  rcases Bool.or_eq_true _ _ ▸ ok with z | z
  · rw [xw_beq z] at hs; exact Or.inl hs
  · rw [xw_beq z] at hs; exact Or.inr hs
theorem Fz_put {ra rb : Nat} {h h' : xh_H} {a : Nat} {v : Value} (hs : h.1[a]? = some (0, ra)) (hp : xe_put h a (xh_ty ra rb) rb v = some h') (ok : okf ra rb = true) : Fz h h' := by
  unfold okf at ok
  unfold xe_put at hp
  cases hty : xh_ty ra rb <;> rw [hty] at hp ok <;> dsimp only at hp ok
  case int =>
    split at hp
    · cases hp; exact Fz_ui (okr_7 hs ok)
    · cases hp
  case boolean =>
    split at hp
    · obtain ⟨-, hp⟩ := xw_c hp
      cases hp; exact Fz_ui (okr_7 hs ok)
    · cases hp
  case long =>
    split at hp
    · cases hp; exact Fz_ul hs
    · cases hp
  case object =>
    split at hp
    · cases hp; exact Fz_ur (okr_25 hs ok)
    · cases hp
  case array =>
    split at hp
    · cases hp; exact Fz_ur (okr_25 hs ok)
    · cases hp
  all_goals cases hp
set_option maxHeartbeats 4000000 in
set_option maxRecDepth 100000 in
theorem xe_1_fz {nL : Nat} {r : xr_R} {pc : Nat} {lv : List (Nat × Value)} {st : List Value} {h : xh_H} {c s : Nat} {pc' : Nat} {lv' : List (Nat × Value)} {st' : List Value} {h' : xh_H} {c' s' : Nat} (he : xe_1 nL r pc lv st h c s = some (pc', lv', st', h', c', s')) (ok : okr r = true) : Fz h h' := by
  obtain ⟨i, len, ra, rb, rK, ri⟩ := r
  cases i with
  | iconst _ => cases he; exact Fz_0
  | bipush _ => cases he; exact Fz_0
  | sipush _ => cases he; exact Fz_0
  | lconst _ => cases he; exact Fz_0
  | ldc_w _ => cases he; exact Fz_0
  | ldc2_w _ => cases he; exact Fz_0
  | goto _ => cases he; exact Fz_0
  | ldc _ => cases rb <;> (cases he; exact Fz_0)
  | iload_n _ => obtain ⟨v, _, _, h3⟩ := xs_ld he; cases h3; exact Fz_0
  | iload _ => obtain ⟨v, _, _, h3⟩ := xs_ld he; cases h3; exact Fz_0
  | lload_n _ => obtain ⟨v, _, _, h3⟩ := xs_ld he; cases h3; exact Fz_0
  | lload _ => obtain ⟨v, _, _, h3⟩ := xs_ld he; cases h3; exact Fz_0
  | aload_n _ => obtain ⟨v, _, _, h3⟩ := xs_ld he; cases h3; exact Fz_0
  | aload _ => obtain ⟨v, _, _, h3⟩ := xs_ld he; cases h3; exact Fz_0
  | istore_n _ => obtain ⟨v, q, _, _, _, h3⟩ := xs_st1 he; cases h3; exact Fz_0
  | istore _ => obtain ⟨v, q, _, _, _, h3⟩ := xs_st1 he; cases h3; exact Fz_0
  | astore_n _ => obtain ⟨v, q, _, _, _, h3⟩ := xs_st1 he; cases h3; exact Fz_0
  | astore _ => obtain ⟨v, q, _, _, _, h3⟩ := xs_st1 he; cases h3; exact Fz_0
  | lstore_n _ => obtain ⟨v, q, _, _, _, h3⟩ := xs_st2 he; cases h3; exact Fz_0
  | lstore _ => obtain ⟨v, q, _, _, _, h3⟩ := xs_st2 he; cases h3; exact Fz_0
  | iadd => obtain ⟨y, x, q, _, h2⟩ := xp_ii_v he; cases h2; exact Fz_0
  | isub => obtain ⟨y, x, q, _, h2⟩ := xp_ii_v he; cases h2; exact Fz_0
  | imul => obtain ⟨y, x, q, _, h2⟩ := xp_ii_v he; cases h2; exact Fz_0
  | iand => obtain ⟨y, x, q, _, h2⟩ := xp_ii_v he; cases h2; exact Fz_0
  | ior => obtain ⟨y, x, q, _, h2⟩ := xp_ii_v he; cases h2; exact Fz_0
  | ixor => obtain ⟨y, x, q, _, h2⟩ := xp_ii_v he; cases h2; exact Fz_0
  | ishl => obtain ⟨y, x, q, _, h2⟩ := xp_ii_v he; cases h2; exact Fz_0
  | ishr => obtain ⟨y, x, q, _, h2⟩ := xp_ii_v he; cases h2; exact Fz_0
  | iushr => obtain ⟨y, x, q, _, h2⟩ := xp_ii_v he; cases h2; exact Fz_0
  | if_icmp k _ =>
    obtain ⟨y, x, q, _, h2⟩ := xp_ii_v he
    cases hb : xe_c k x y with
    | true => rw [hb] at h2; cases h2; exact Fz_0
    | false => rw [hb] at h2; cases h2; exact Fz_0
  | irem => obtain ⟨y, x, q, _, h2⟩ := xp_ii_v he; obtain ⟨_, h3⟩ := xw_c0 h2; cases h3; exact Fz_0
  | ladd => obtain ⟨y, x, q, _, h2⟩ := xp_ll_v he; cases h2; exact Fz_0
  | lsub => obtain ⟨y, x, q, _, h2⟩ := xp_ll_v he; cases h2; exact Fz_0
  | lmul => obtain ⟨y, x, q, _, h2⟩ := xp_ll_v he; cases h2; exact Fz_0
  | land => obtain ⟨y, x, q, _, h2⟩ := xp_ll_v he; cases h2; exact Fz_0
  | lor => obtain ⟨y, x, q, _, h2⟩ := xp_ll_v he; cases h2; exact Fz_0
  | lcmp => obtain ⟨y, x, q, _, h2⟩ := xp_ll_v he; cases h2; exact Fz_0
  | ldiv => obtain ⟨y, x, q, _, h2⟩ := xp_ll_v he; obtain ⟨_, h3⟩ := xw_c0 h2; cases h3; exact Fz_0
  | lrem => obtain ⟨y, x, q, _, h2⟩ := xp_ll_v he; obtain ⟨_, h3⟩ := xw_c0 h2; cases h3; exact Fz_0
  | lushr => obtain ⟨y, x, q, _, h2⟩ := xp_il_v he; cases h2; exact Fz_0
  | lshl => obtain ⟨y, x, q, _, h2⟩ := xp_il_v he; cases h2; exact Fz_0
  | i2l => obtain ⟨x, q, _, h2⟩ := xp_i_v he; cases h2; exact Fz_0
  | i2b => obtain ⟨x, q, _, h2⟩ := xp_i_v he; cases h2; exact Fz_0
  | i2c => obtain ⟨x, q, _, h2⟩ := xp_i_v he; cases h2; exact Fz_0
  | ifCond k _ =>
    obtain ⟨x, q, _, h2⟩ := xp_i_v he
    cases hb : xe_c k x 0 with
    | true => rw [hb] at h2; cases h2; exact Fz_0
    | false => rw [hb] at h2; cases h2; exact Fz_0
  | l2i => obtain ⟨x, q, _, h2⟩ := xp_l_v he; cases h2; exact Fz_0
  | pop2 => obtain ⟨x, q, _, h2⟩ := xp_l_v he; cases h2; exact Fz_0
  | newarray _ => cases ok
  | anewarray _ => cases ok
  | new _ => cases ok
  | dup =>
    match st, he with
    | a :: q, he => obtain ⟨_, h3⟩ := xw_c he; cases h3; exact Fz_0
  | pop =>
    match st, he with
    | a :: q, he => obtain ⟨_, h3⟩ := xw_c he; cases h3; exact Fz_0
  | dup2 =>
    match st, he with
    | a :: b :: q, he => obtain ⟨_, h3⟩ := xw_c he; cases h3; exact Fz_0
  | dup_x2 =>
    match st, he with
    | a :: b :: d :: q, he => obtain ⟨_, h3⟩ := xw_c he; cases h3; exact Fz_0
  | iinc k n =>
    have he : (match xl_get lv k with
      | some (.int x) => cond (Nat.ble (k + 1) nL) (some (pc + 3, xl_1 lv k (.int (x + Int32.ofInt n)), st, h, c, s)) none
      | _ => none) = some (pc', lv', st', h', c', s') := he
    split at he
    · obtain ⟨_, h3⟩ := xw_c he; cases h3; exact Fz_0
    · cases he
  | ifnull _ =>
    match st, he with
    | .ref _ :: q, he => cases he; exact Fz_0
    | .null :: q, he => cases he; exact Fz_0
  | if_acmp k _ =>
    cases k with
    | eq => cases he
    | ne =>
      match st, he with
      | .ref y :: .ref x :: q, he =>
        obtain ⟨_, h3⟩ := xw_c he
        cases hb : Nat.beq x y with
        | true => rw [hb] at h3; cases h3; exact Fz_0
        | false => rw [hb] at h3; cases h3; exact Fz_0
  | getfield _ =>
    obtain ⟨a, q, _, h2⟩ := xp_r_v he
    try dsimp only at h2
    split at h2
    · obtain ⟨_, h3⟩ := xw_c h2; cases h3; exact Fz_0
    · cases h2
  | putfield _ =>
    obtain ⟨v, a, q, _, h2⟩ := xp_vr_v he
    try dsimp only at h2
    split at h2
    · rename_i ci hs
      obtain ⟨hci, h3⟩ := xw_c h2
      have hci := xw_beq hci
      obtain ⟨hx, hp, h4⟩ := Option.map_eq_some_iff.mp h3
      cases h4
      subst hci
      exact Fz_put hs hp ok
    · cases h2
  | iaload =>
    obtain ⟨i, a, q, _, h2⟩ := xp_ir_v he
    try dsimp only at h2
    split at h2
    · obtain ⟨_, h3⟩ := xw_c h2; cases h3; exact Fz_0
    · cases h2
  | baload =>
    obtain ⟨i, a, q, _, h2⟩ := xp_ir_v he
    try dsimp only at h2
    split at h2
    · obtain ⟨_, h3⟩ := xw_c h2; cases h3; exact Fz_0
    · obtain ⟨_, h3⟩ := xw_c h2; cases h3; exact Fz_0
    · cases h2
  | laload =>
    obtain ⟨i, a, q, _, h2⟩ := xp_ir_v he
    try dsimp only at h2
    split at h2
    · obtain ⟨_, h3⟩ := xw_c h2; cases h3; exact Fz_0
    · cases h2
  | aaload =>
    obtain ⟨i, a, q, _, h2⟩ := xp_ir_v he
    try dsimp only at h2
    split at h2
    · obtain ⟨_, h3⟩ := xw_c h2; cases h3; exact Fz_0
    · cases h2
  | iastore =>
    obtain ⟨x, i, a, q, _, h2⟩ := xp_iir_v he
    try dsimp only at h2
    split at h2
    · rename_i n hs
      obtain ⟨_, h3⟩ := xw_c h2; cases h3; exact Fz_ui (fun z => by rw [hs] at z; cases z)
    · cases h2
  | bastore =>
    obtain ⟨x, i, a, q, _, h2⟩ := xp_iir_v he
    try dsimp only at h2
    split at h2
    · rename_i n hs
      obtain ⟨_, h3⟩ := xw_c h2; cases h3; exact Fz_ui (fun z => by rw [hs] at z; cases z)
    · rename_i n hs
      obtain ⟨_, h3⟩ := xw_c h2; cases h3; exact Fz_ui (fun z => by rw [hs] at z; cases z)
    · cases h2
  | lastore => cases ok
  | aastore => cases ok
  | arraylength =>
    obtain ⟨a, q, _, h2⟩ := xp_r_v he
    try dsimp only at h2
    split at h2
    · obtain ⟨_, h3⟩ := xw_c h2; cases h3; exact Fz_0
    · cases h2
  | tableswitch dflt lo hi offs =>
    obtain ⟨x, q, _, h2⟩ := xp_i_v he
    cases hb : (decide (x.toInt < lo) || decide (hi < x.toInt)) with
    | true =>
      rw [hb] at h2
      obtain ⟨_, h3⟩ := xw_c h2
      cases h3; exact Fz_0
    | false =>
      rw [hb] at h2
      cases ho : offs[(x.toInt - lo).toNat]? with
      | none => rw [ho] at h2; cases h2
      | some off =>
        rw [ho] at h2
        obtain ⟨_, h3⟩ := xw_c h2
        cases h3; exact Fz_0
  | _ => cases he
theorem xe_2_fz {nL d pc : Nat} {r : xr_R} {lv : List (Nat × Value)} {st : List Value} {h : xh_H} {c s : Nat} {pc' : Nat} {lv' : List (Nat × Value)} {st' : List Value} {h' : xh_H} {c' s' : Nat} (ok : okr r = true) (e : xe_2 none nL r d pc lv st h c s = some (pc', lv', st', h', c', s')) : Fz h h' := by
  unfold xe_2 at e
  cases h1 : xe_1 nL r pc lv st h c s with
  | some o1 => rw [h1] at e; cases e; exact xe_1_fz h1 ok
  | none =>
    rw [h1] at e
    dsimp only at e
    cases h2 : xe_o none r pc lv st h c s with
    | some o1 =>
      rw [h2] at e
      cases e
      unfold xe_o at h2
      split at h2
      · cases h2; exact Fz_0
      · split at h2
        · obtain ⟨-, h2⟩ := xw_c h2
          cases h2; exact Fz_0
        · cases h2
      · split at h2
        · cases h2
        · cases h2
      · split at h2
        · cases h2
        · cases h2
      · cases h2
    | none =>
      rw [h2] at e
      dsimp only at e
      unfold xe_oi at e
      split at e
      · split at e
        · split at e
          · split at e
            · obtain ⟨-, e⟩ := xw_c e
              cases e; exact Fz_0
            · cases e
          · cases e
        · split at e
          · split at e
            · obtain ⟨-, e⟩ := xw_c e
              cases e; exact Fz_0
            · cases e
          · cases e
        · cases e
      · split at e
        · split at e
          · cases e
          · split at e
            · obtain ⟨-, e⟩ := xw_c e
              cases e; exact Fz_0
            · cases e
        · cases e
      · split at e
        · split at e
          · cases e
          · split at e
            · obtain ⟨-, e⟩ := xw_c e
              cases e; exact Fz_0
            · cases e
        · cases e
      · cases e
/-- a closed list of methods whose code leaves it: every run does -/
theorem xe_x_fz {M : Nat → Bool} (hM : ∀ mid pc r, M mid = true → xC mid pc = some r → okr r = true ∧ (xe_isr r.1 = false → ∀ st h t, xe_cl xM r st h = some t → M r.2.2.1 = true)) : ∀ (f d mid : Nat) (mi : xm_M) (S : xs_S) (v : Option Value) (h' : xh_H) (c s : Nat), M mid = true → xe_x xM xC none f d mid mi S = some (v, h', c, s) → Fz S.2.2.2.1 h' := by
  intro f
  induction f with
  | zero => intro d mid mi S v h' c s _ e; cases e
  | succ f ih =>
    intro d mid mi S v h' c s hm e
    obtain ⟨pc, lv, st, h, c0, s0⟩ := S
    unfold xe_x at e
    cases hr : xC mid pc with
    | none => rw [hr] at e; cases e
    | some r =>
      rw [hr] at e
      dsimp only at e
      obtain ⟨ok, cl⟩ := hM mid pc r hm hr
      cases hi : xe_isr r.1 with
      | true =>
        rw [hi] at e
        simp only [cond_true] at e
        obtain ⟨w, _, e⟩ := Option.map_eq_some_iff.mp e
        cases e
        exact Fz_0
      | false =>
        rw [hi] at e
        simp only [cond_false] at e
        cases h2 : xe_2 none mi.2.2.2.1 r d pc lv st h c0 s0 with
        | some o =>
          rw [h2] at e
          obtain ⟨pc1, lv1, st1, h1, c1, s1⟩ := o
          exact Fz_t (xe_2_fz ok h2) (ih d mid mi _ v h' c s hm e)
        | none =>
          rw [h2] at e
          dsimp only at e
          cases d with
          | zero => cases e
          | succ d' =>
            dsimp only at e
            cases hcl : xe_cl xM r st h with
            | none => rw [hcl] at e; cases e
            | some t =>
              obtain ⟨mj, As, q⟩ := t
              rw [hcl] at e
              dsimp only at e
              cases hx : xe_x xM xC none f d' r.2.2.1 mj (0, lv_args 0 As, [], h, 0, 0) with
              | none => rw [hx] at e; cases e
              | some t =>
                obtain ⟨v1, h1, mc, ms⟩ := t
                rw [hx] at e
                exact Fz_t (ih d' r.2.2.1 mj (0, lv_args 0 As, [], h, 0, 0) v1 h1 mc ms (cl hi st h _ hcl) hx) (ih (d' + 1) mid mi (pc + 3, lv, v1.toList ++ q, h1, c0 + mc, s0 + ms) v h' c s hm e)
end XFZ
end
section
section XFM
/-- the methods that leave it -/
def fzK : Nat := 883423532389192160194162127762642304890647230128366654819916615791804414
def fzM (mid : Nat) : Bool := Nat.testBit fzK mid
def okc (r : xr_R) : Bool := match r.1 with
  | .invokevirtual _ => fzM r.2.2.1 || (xM r.2.2.1).isNone
  | .invokestatic _ => fzM r.2.2.1 || !Nat.beq r.2.2.2.1 0
  | .invokespecial _ => fzM r.2.2.1 || !Nat.beq r.2.2.2.1 0
  | _ => true
def okrow (o : Option xr_R) : Bool := match o with
  | none => true
  | some r => okr r && okc r
def okcode (cd : List (List (Option xr_R))) : Bool := cd.all (fun l => l.all okrow)
def okall : Bool := (List.range xc_t.length).all (fun B => (List.range 16).all (fun i => !fzM (16 * B + i) || okcode ((xc_t.getD B []).getD i [])))
set_option maxRecDepth 100000 in
theorem okall_t : okall = true := by decide +kernel
theorem getD_mem {α : Type} {l : List α} {n : Nat} {d : α} : l.getD n d = d ∨ l.getD n d ∈ l := by
  rw [List.getD_eq_getElem?_getD]
  cases h : l[n]? with
  | none => exact Or.inl rfl
  | some a => exact Or.inr (List.mem_of_getElem? h)
theorem okcode_r {cd : List (List (Option xr_R))} (h : okcode cd = true) {pc : Nat} {r : xr_R} (e : xcl cd pc = some r) : okr r = true ∧ okc r = true := by
  unfold xcl at e
  have hl : ∀ l ∈ cd, l.all okrow = true := List.all_eq_true.mp h
  rcases getD_mem (l := cd.getD (pc / 16) []) (n := pc % 16) (d := none) with z | z
  · rw [e] at z; cases z
  · rw [e] at z
    rcases getD_mem (l := cd) (n := pc / 16) (d := []) with y | y
    · rw [y] at z; cases z
    · have := List.all_eq_true.mp (hl _ y) _ z
      exact xw_bb this
theorem fz_hM : ∀ mid pc r, fzM mid = true → xC mid pc = some r → okr r = true ∧ (xe_isr r.1 = false → ∀ st h t, xe_cl xM r st h = some t → fzM r.2.2.1 = true) := by
  intro mid pc r hm hr
  have ho : okcode ((xc_t.getD (mid / 16) []).getD (mid % 16) []) = true := by
    by_cases hB : mid / 16 < xc_t.length
    · have a := List.all_eq_true.mp okall_t (mid / 16) (List.mem_range.mpr hB)
      have b := List.all_eq_true.mp a (mid % 16) (List.mem_range.mpr (Nat.mod_lt _ (by decide)))
      rw [Nat.div_add_mod, hm] at b
      exact b
    · have e : xc_t.getD (mid / 16) [] = [] := by
        rw [List.getD_eq_getElem?_getD, List.getElem?_eq_none (by omega)]
        rfl
      rw [e]
      rfl
  obtain ⟨o1, o2⟩ := okcode_r ho hr
  refine ⟨o1, fun _ st h t hc => ?_⟩
  obtain ⟨i, len, ra, rb, rK, ri⟩ := r
  unfold xe_cl at hc
  cases hM : xM (i, len, ra, rb, rK, ri).2.2.1 with
  | none => rw [hM] at hc; cases hc
  | some m =>
    rw [hM] at hc
    have hM' : xM ra = some m := hM
    cases i
    case invokevirtual idx =>
      have o3 : (fzM ra || (xM ra).isNone) = true := o2
      rw [hM'] at o3
      simpa using o3
    case invokestatic idx =>
      have o3 : (fzM ra || !Nat.beq rb 0) = true := o2
      dsimp only at hc
      obtain ⟨c1, -⟩ := xw_c hc
      have c2 := (xw_bb c1).1
      rw [c2] at o3
      simpa using o3
    case invokespecial idx =>
      have o3 : (fzM ra || !Nat.beq rb 0) = true := o2
      dsimp only at hc
      split at hc
      · obtain ⟨c1, -⟩ := xw_c hc
        have c2 := (xw_bb c1).1
        rw [c2] at o3
        simpa using o3
      · cases hc
    all_goals cases hc
/-- every run of such a method leaves it -/
theorem fz_run {d mid : Nat} {mi : xm_M} {S : xs_S} {v : Option Value} {h' : xh_H} {c s : Nat} (hm : fzM mid = true) (k : xR none d mid mi S (v, h', c, s)) : Fz S.2.2.2.1 h' := by
  obtain ⟨f, e⟩ := k
  exact xe_x_fz fz_hM f d mid mi S v h' c s hm e
example : fzM xi_X9_share = true := by decide +kernel
end XFM
end
section
section XQZ
/-- what most methods leave: the shapes, all references but those of Scales -/
def Qz (h h' : xh_H) : Prop := h'.1 = h.1 ∧ ∀ c k, h.1[c]? ≠ some (0, 5) → xg none h'.2.2.2 c k = xg none h.2.2.2 c k
theorem Qz_0 {h : xh_H} : Qz h h := ⟨rfl, fun _ _ _ => rfl⟩
theorem Qz_t {h h1 h2 : xh_H} (a : Qz h h1) (b : Qz h1 h2) : Qz h h2 := ⟨b.1.trans a.1, fun c k z => (b.2 c k (by rw [a.1]; exact z)).trans (a.2 c k z)⟩
theorem Qz_ui {h : xh_H} {a k : Nat} {x : Int32} : Qz h (xh_ui h a k x) := ⟨rfl, fun _ _ _ => rfl⟩
theorem Qz_ul {h : xh_H} {a k : Nat} {x : Int64} : Qz h (xh_ul h a k x) := ⟨rfl, fun _ _ _ => rfl⟩
theorem Qz_ur {h : xh_H} {a k : Nat} {x : Option Nat} (hs : h.1[a]? = some (0, 5)) : Qz h (xh_ur h a k x) := ⟨rfl, fun c k' z => congrFun (xh_up_o (fun e => z (by rw [e]; exact hs))) k'⟩
theorem okg_5 {h : xh_H} {a ra : Nat} (hs : h.1[a]? = some (0, ra)) (ok : Nat.beq ra 5 = true) : h.1[a]? = some (0, 5) := by rw [xw_beq ok] at hs; exact hs
def okg (ra rb : Nat) : Bool := match xh_ty ra rb with
  | .int => true
  | .boolean => true
  | .long => true
  | _ => Nat.beq ra 5
/-- an instruction that leaves it -/
def okq (r : xr_R) : Bool := match r.1 with
  | .aastore => false
  | .newarray _ => false
  | .anewarray _ => false
  | .new _ => false
  | .putfield _ => okg r.2.2.1 r.2.2.2.1
  | _ => true
theorem Qz_put {ra rb : Nat} {h h' : xh_H} {a : Nat} {v : Value} (hs : h.1[a]? = some (0, ra)) (hp : xe_put h a (xh_ty ra rb) rb v = some h') (ok : okg ra rb = true) : Qz h h' := by
  unfold okg at ok
  unfold xe_put at hp
  cases hty : xh_ty ra rb <;> rw [hty] at hp ok <;> dsimp only at hp ok
  case int =>
    split at hp
    · cases hp; exact Qz_ui
    · cases hp
  case boolean =>
    split at hp
    · obtain ⟨-, hp⟩ := xw_c hp
      cases hp; exact Qz_ui
    · cases hp
  case long =>
    split at hp
    · cases hp; exact Qz_ul
    · cases hp
  case object =>
    split at hp
    · cases hp; exact Qz_ur (okg_5 hs ok)
    · cases hp
  case array =>
    split at hp
    · cases hp; exact Qz_ur (okg_5 hs ok)
    · cases hp
  all_goals cases hp
set_option maxHeartbeats 4000000 in
set_option maxRecDepth 100000 in
theorem xe_1_qz {nL : Nat} {r : xr_R} {pc : Nat} {lv : List (Nat × Value)} {st : List Value} {h : xh_H} {c s : Nat} {pc' : Nat} {lv' : List (Nat × Value)} {st' : List Value} {h' : xh_H} {c' s' : Nat} (he : xe_1 nL r pc lv st h c s = some (pc', lv', st', h', c', s')) (ok : okq r = true) : Qz h h' := by
  obtain ⟨i, len, ra, rb, rK, ri⟩ := r
  cases i with
  | iconst _ => cases he; exact Qz_0
  | bipush _ => cases he; exact Qz_0
  | sipush _ => cases he; exact Qz_0
  | lconst _ => cases he; exact Qz_0
  | ldc_w _ => cases he; exact Qz_0
  | ldc2_w _ => cases he; exact Qz_0
  | goto _ => cases he; exact Qz_0
  | ldc _ => cases rb <;> (cases he; exact Qz_0)
  | iload_n _ => obtain ⟨v, _, _, h3⟩ := xs_ld he; cases h3; exact Qz_0
  | iload _ => obtain ⟨v, _, _, h3⟩ := xs_ld he; cases h3; exact Qz_0
  | lload_n _ => obtain ⟨v, _, _, h3⟩ := xs_ld he; cases h3; exact Qz_0
  | lload _ => obtain ⟨v, _, _, h3⟩ := xs_ld he; cases h3; exact Qz_0
  | aload_n _ => obtain ⟨v, _, _, h3⟩ := xs_ld he; cases h3; exact Qz_0
  | aload _ => obtain ⟨v, _, _, h3⟩ := xs_ld he; cases h3; exact Qz_0
  | istore_n _ => obtain ⟨v, q, _, _, _, h3⟩ := xs_st1 he; cases h3; exact Qz_0
  | istore _ => obtain ⟨v, q, _, _, _, h3⟩ := xs_st1 he; cases h3; exact Qz_0
  | astore_n _ => obtain ⟨v, q, _, _, _, h3⟩ := xs_st1 he; cases h3; exact Qz_0
  | astore _ => obtain ⟨v, q, _, _, _, h3⟩ := xs_st1 he; cases h3; exact Qz_0
  | lstore_n _ => obtain ⟨v, q, _, _, _, h3⟩ := xs_st2 he; cases h3; exact Qz_0
  | lstore _ => obtain ⟨v, q, _, _, _, h3⟩ := xs_st2 he; cases h3; exact Qz_0
  | iadd => obtain ⟨y, x, q, _, h2⟩ := xp_ii_v he; cases h2; exact Qz_0
  | isub => obtain ⟨y, x, q, _, h2⟩ := xp_ii_v he; cases h2; exact Qz_0
  | imul => obtain ⟨y, x, q, _, h2⟩ := xp_ii_v he; cases h2; exact Qz_0
  | iand => obtain ⟨y, x, q, _, h2⟩ := xp_ii_v he; cases h2; exact Qz_0
  | ior => obtain ⟨y, x, q, _, h2⟩ := xp_ii_v he; cases h2; exact Qz_0
  | ixor => obtain ⟨y, x, q, _, h2⟩ := xp_ii_v he; cases h2; exact Qz_0
  | ishl => obtain ⟨y, x, q, _, h2⟩ := xp_ii_v he; cases h2; exact Qz_0
  | ishr => obtain ⟨y, x, q, _, h2⟩ := xp_ii_v he; cases h2; exact Qz_0
  | iushr => obtain ⟨y, x, q, _, h2⟩ := xp_ii_v he; cases h2; exact Qz_0
  | if_icmp k _ =>
    obtain ⟨y, x, q, _, h2⟩ := xp_ii_v he
    cases hb : xe_c k x y with
    | true => rw [hb] at h2; cases h2; exact Qz_0
    | false => rw [hb] at h2; cases h2; exact Qz_0
  | irem => obtain ⟨y, x, q, _, h2⟩ := xp_ii_v he; obtain ⟨_, h3⟩ := xw_c0 h2; cases h3; exact Qz_0
  | ladd => obtain ⟨y, x, q, _, h2⟩ := xp_ll_v he; cases h2; exact Qz_0
  | lsub => obtain ⟨y, x, q, _, h2⟩ := xp_ll_v he; cases h2; exact Qz_0
  | lmul => obtain ⟨y, x, q, _, h2⟩ := xp_ll_v he; cases h2; exact Qz_0
  | land => obtain ⟨y, x, q, _, h2⟩ := xp_ll_v he; cases h2; exact Qz_0
  | lor => obtain ⟨y, x, q, _, h2⟩ := xp_ll_v he; cases h2; exact Qz_0
  | lcmp => obtain ⟨y, x, q, _, h2⟩ := xp_ll_v he; cases h2; exact Qz_0
  | ldiv => obtain ⟨y, x, q, _, h2⟩ := xp_ll_v he; obtain ⟨_, h3⟩ := xw_c0 h2; cases h3; exact Qz_0
  | lrem => obtain ⟨y, x, q, _, h2⟩ := xp_ll_v he; obtain ⟨_, h3⟩ := xw_c0 h2; cases h3; exact Qz_0
  | lushr => obtain ⟨y, x, q, _, h2⟩ := xp_il_v he; cases h2; exact Qz_0
  | lshl => obtain ⟨y, x, q, _, h2⟩ := xp_il_v he; cases h2; exact Qz_0
  | i2l => obtain ⟨x, q, _, h2⟩ := xp_i_v he; cases h2; exact Qz_0
  | i2b => obtain ⟨x, q, _, h2⟩ := xp_i_v he; cases h2; exact Qz_0
  | i2c => obtain ⟨x, q, _, h2⟩ := xp_i_v he; cases h2; exact Qz_0
  | ifCond k _ =>
    obtain ⟨x, q, _, h2⟩ := xp_i_v he
    cases hb : xe_c k x 0 with
    | true => rw [hb] at h2; cases h2; exact Qz_0
    | false => rw [hb] at h2; cases h2; exact Qz_0
  | l2i => obtain ⟨x, q, _, h2⟩ := xp_l_v he; cases h2; exact Qz_0
  | pop2 => obtain ⟨x, q, _, h2⟩ := xp_l_v he; cases h2; exact Qz_0
  | newarray _ => cases ok
  | anewarray _ => cases ok
  | new _ => cases ok
  | dup =>
    match st, he with
    | a :: q, he => obtain ⟨_, h3⟩ := xw_c he; cases h3; exact Qz_0
  | pop =>
    match st, he with
    | a :: q, he => obtain ⟨_, h3⟩ := xw_c he; cases h3; exact Qz_0
  | dup2 =>
    match st, he with
    | a :: b :: q, he => obtain ⟨_, h3⟩ := xw_c he; cases h3; exact Qz_0
  | dup_x2 =>
    match st, he with
    | a :: b :: d :: q, he => obtain ⟨_, h3⟩ := xw_c he; cases h3; exact Qz_0
  | iinc k n =>
    have he : (match xl_get lv k with
      | some (.int x) => cond (Nat.ble (k + 1) nL) (some (pc + 3, xl_1 lv k (.int (x + Int32.ofInt n)), st, h, c, s)) none
      | _ => none) = some (pc', lv', st', h', c', s') := he
    split at he
    · obtain ⟨_, h3⟩ := xw_c he; cases h3; exact Qz_0
    · cases he
  | ifnull _ =>
    match st, he with
    | .ref _ :: q, he => cases he; exact Qz_0
    | .null :: q, he => cases he; exact Qz_0
  | if_acmp k _ =>
    cases k with
    | eq => cases he
    | ne =>
      match st, he with
      | .ref y :: .ref x :: q, he =>
        obtain ⟨_, h3⟩ := xw_c he
        cases hb : Nat.beq x y with
        | true => rw [hb] at h3; cases h3; exact Qz_0
        | false => rw [hb] at h3; cases h3; exact Qz_0
  | getfield _ =>
    obtain ⟨a, q, _, h2⟩ := xp_r_v he
    try dsimp only at h2
    split at h2
    · obtain ⟨_, h3⟩ := xw_c h2; cases h3; exact Qz_0
    · cases h2
  | putfield _ =>
    obtain ⟨v, a, q, _, h2⟩ := xp_vr_v he
    try dsimp only at h2
    split at h2
    · rename_i ci hs
      obtain ⟨hci, h3⟩ := xw_c h2
      have hci := xw_beq hci
      obtain ⟨hx, hp, h4⟩ := Option.map_eq_some_iff.mp h3
      cases h4
      subst hci
      exact Qz_put hs hp ok
    · cases h2
  | iaload =>
    obtain ⟨i, a, q, _, h2⟩ := xp_ir_v he
    try dsimp only at h2
    split at h2
    · obtain ⟨_, h3⟩ := xw_c h2; cases h3; exact Qz_0
    · cases h2
  | baload =>
    obtain ⟨i, a, q, _, h2⟩ := xp_ir_v he
    try dsimp only at h2
    split at h2
    · obtain ⟨_, h3⟩ := xw_c h2; cases h3; exact Qz_0
    · obtain ⟨_, h3⟩ := xw_c h2; cases h3; exact Qz_0
    · cases h2
  | laload =>
    obtain ⟨i, a, q, _, h2⟩ := xp_ir_v he
    try dsimp only at h2
    split at h2
    · obtain ⟨_, h3⟩ := xw_c h2; cases h3; exact Qz_0
    · cases h2
  | aaload =>
    obtain ⟨i, a, q, _, h2⟩ := xp_ir_v he
    try dsimp only at h2
    split at h2
    · obtain ⟨_, h3⟩ := xw_c h2; cases h3; exact Qz_0
    · cases h2
  | iastore =>
    obtain ⟨x, i, a, q, _, h2⟩ := xp_iir_v he
    try dsimp only at h2
    split at h2
    · rename_i n hs
      obtain ⟨_, h3⟩ := xw_c h2; cases h3; exact Qz_ui
    · cases h2
  | bastore =>
    obtain ⟨x, i, a, q, _, h2⟩ := xp_iir_v he
    try dsimp only at h2
    split at h2
    · rename_i n hs
      obtain ⟨_, h3⟩ := xw_c h2; cases h3; exact Qz_ui
    · rename_i n hs
      obtain ⟨_, h3⟩ := xw_c h2; cases h3; exact Qz_ui
    · cases h2
  | lastore =>
    obtain ⟨x, i, a, q, _, h2⟩ := xp_lir_v he
    try dsimp only at h2
    split at h2
    · rename_i n hs
      obtain ⟨_, h3⟩ := xw_c h2; cases h3; exact Qz_ul
    · cases h2
  | aastore => cases ok
  | arraylength =>
    obtain ⟨a, q, _, h2⟩ := xp_r_v he
    try dsimp only at h2
    split at h2
    · obtain ⟨_, h3⟩ := xw_c h2; cases h3; exact Qz_0
    · cases h2
  | tableswitch dflt lo hi offs =>
    obtain ⟨x, q, _, h2⟩ := xp_i_v he
    cases hb : (decide (x.toInt < lo) || decide (hi < x.toInt)) with
    | true =>
      rw [hb] at h2
      obtain ⟨_, h3⟩ := xw_c h2
      cases h3; exact Qz_0
    | false =>
      rw [hb] at h2
      cases ho : offs[(x.toInt - lo).toNat]? with
      | none => rw [ho] at h2; cases h2
      | some off =>
        rw [ho] at h2
        obtain ⟨_, h3⟩ := xw_c h2
        cases h3; exact Qz_0
  | _ => cases he
theorem xe_2_qz {nL d pc : Nat} {r : xr_R} {lv : List (Nat × Value)} {st : List Value} {h : xh_H} {c s : Nat} {pc' : Nat} {lv' : List (Nat × Value)} {st' : List Value} {h' : xh_H} {c' s' : Nat} (ok : okq r = true) (e : xe_2 none nL r d pc lv st h c s = some (pc', lv', st', h', c', s')) : Qz h h' := by
  unfold xe_2 at e
  cases h1 : xe_1 nL r pc lv st h c s with
  | some o1 => rw [h1] at e; cases e; exact xe_1_qz h1 ok
  | none =>
    rw [h1] at e
    dsimp only at e
    cases h2 : xe_o none r pc lv st h c s with
    | some o1 =>
      rw [h2] at e
      cases e
      unfold xe_o at h2
      split at h2
      · cases h2; exact Qz_0
      · split at h2
        · obtain ⟨-, h2⟩ := xw_c h2
          cases h2; exact Qz_0
        · cases h2
      · split at h2
        · cases h2
        · cases h2
      · split at h2
        · cases h2
        · cases h2
      · cases h2
    | none =>
      rw [h2] at e
      dsimp only at e
      unfold xe_oi at e
      split at e
      · split at e
        · split at e
          · split at e
            · obtain ⟨-, e⟩ := xw_c e
              cases e; exact Qz_0
            · cases e
          · cases e
        · split at e
          · split at e
            · obtain ⟨-, e⟩ := xw_c e
              cases e; exact Qz_0
            · cases e
          · cases e
        · cases e
      · split at e
        · split at e
          · cases e
          · split at e
            · obtain ⟨-, e⟩ := xw_c e
              cases e; exact Qz_0
            · cases e
        · cases e
      · split at e
        · split at e
          · cases e
          · split at e
            · obtain ⟨-, e⟩ := xw_c e
              cases e; exact Qz_0
            · cases e
        · cases e
      · cases e
/-- a closed list of methods whose code leaves it: every run does -/
theorem xe_x_qz {M : Nat → Bool} (hM : ∀ mid pc r, M mid = true → xC mid pc = some r → okq r = true ∧ (xe_isr r.1 = false → ∀ st h t, xe_cl xM r st h = some t → M r.2.2.1 = true)) : ∀ (f d mid : Nat) (mi : xm_M) (S : xs_S) (v : Option Value) (h' : xh_H) (c s : Nat), M mid = true → xe_x xM xC none f d mid mi S = some (v, h', c, s) → Qz S.2.2.2.1 h' := by
  intro f
  induction f with
  | zero => intro d mid mi S v h' c s _ e; cases e
  | succ f ih =>
    intro d mid mi S v h' c s hm e
    obtain ⟨pc, lv, st, h, c0, s0⟩ := S
    unfold xe_x at e
    cases hr : xC mid pc with
    | none => rw [hr] at e; cases e
    | some r =>
      rw [hr] at e
      dsimp only at e
      obtain ⟨ok, cl⟩ := hM mid pc r hm hr
      cases hi : xe_isr r.1 with
      | true =>
        rw [hi] at e
        simp only [cond_true] at e
        obtain ⟨w, _, e⟩ := Option.map_eq_some_iff.mp e
        cases e
        exact Qz_0
      | false =>
        rw [hi] at e
        simp only [cond_false] at e
        cases h2 : xe_2 none mi.2.2.2.1 r d pc lv st h c0 s0 with
        | some o =>
          rw [h2] at e
          obtain ⟨pc1, lv1, st1, h1, c1, s1⟩ := o
          exact Qz_t (xe_2_qz ok h2) (ih d mid mi _ v h' c s hm e)
        | none =>
          rw [h2] at e
          dsimp only at e
          cases d with
          | zero => cases e
          | succ d' =>
            dsimp only at e
            cases hcl : xe_cl xM r st h with
            | none => rw [hcl] at e; cases e
            | some t =>
              obtain ⟨mj, As, q⟩ := t
              rw [hcl] at e
              dsimp only at e
              cases hx : xe_x xM xC none f d' r.2.2.1 mj (0, lv_args 0 As, [], h, 0, 0) with
              | none => rw [hx] at e; cases e
              | some t =>
                obtain ⟨v1, h1, mc, ms⟩ := t
                rw [hx] at e
                exact Qz_t (ih d' r.2.2.1 mj (0, lv_args 0 As, [], h, 0, 0) v1 h1 mc ms (cl hi st h _ hcl) hx) (ih (d' + 1) mid mi (pc + 3, lv, v1.toList ++ q, h1, c0 + mc, s0 + ms) v h' c s hm e)
end XQZ
section XQM
/-- the methods that leave it -/
def qzK : Nat := 883423532389192164791648750357521249774056618513547416461269882370916350
def qzM (mid : Nat) : Bool := Nat.testBit qzK mid
def oqc (r : xr_R) : Bool := match r.1 with
  | .invokevirtual _ => qzM r.2.2.1 || (xM r.2.2.1).isNone
  | .invokestatic _ => qzM r.2.2.1 || !Nat.beq r.2.2.2.1 0
  | .invokespecial _ => qzM r.2.2.1 || !Nat.beq r.2.2.2.1 0
  | _ => true
def oqrow (o : Option xr_R) : Bool := match o with
  | none => true
  | some r => okq r && oqc r
def oqcode (cd : List (List (Option xr_R))) : Bool := cd.all (fun l => l.all oqrow)
def oqall : Bool := (List.range xc_t.length).all (fun B => (List.range 16).all (fun i => !qzM (16 * B + i) || oqcode ((xc_t.getD B []).getD i [])))
set_option maxRecDepth 100000 in
theorem oqall_t : oqall = true := by decide +kernel
theorem oqcode_r {cd : List (List (Option xr_R))} (h : oqcode cd = true) {pc : Nat} {r : xr_R} (e : xcl cd pc = some r) : okq r = true ∧ oqc r = true := by
  unfold xcl at e
  have hl : ∀ l ∈ cd, l.all oqrow = true := List.all_eq_true.mp h
  rcases getD_mem (l := cd.getD (pc / 16) []) (n := pc % 16) (d := none) with z | z
  · rw [e] at z; cases z
  · rw [e] at z
    rcases getD_mem (l := cd) (n := pc / 16) (d := []) with y | y
    · rw [y] at z; cases z
    · have := List.all_eq_true.mp (hl _ y) _ z
      exact xw_bb this
theorem qz_hM : ∀ mid pc r, qzM mid = true → xC mid pc = some r → okq r = true ∧ (xe_isr r.1 = false → ∀ st h t, xe_cl xM r st h = some t → qzM r.2.2.1 = true) := by
  intro mid pc r hm hr
  have ho : oqcode ((xc_t.getD (mid / 16) []).getD (mid % 16) []) = true := by
    by_cases hB : mid / 16 < xc_t.length
    · have a := List.all_eq_true.mp oqall_t (mid / 16) (List.mem_range.mpr hB)
      have b := List.all_eq_true.mp a (mid % 16) (List.mem_range.mpr (Nat.mod_lt _ (by decide)))
      rw [Nat.div_add_mod, hm] at b
      exact b
    · have e : xc_t.getD (mid / 16) [] = [] := by
        rw [List.getD_eq_getElem?_getD, List.getElem?_eq_none (by omega)]
        rfl
      rw [e]
      rfl
  obtain ⟨o1, o2⟩ := oqcode_r ho hr
  refine ⟨o1, fun _ st h t hc => ?_⟩
  obtain ⟨i, len, ra, rb, rK, ri⟩ := r
  unfold xe_cl at hc
  cases hM : xM (i, len, ra, rb, rK, ri).2.2.1 with
  | none => rw [hM] at hc; cases hc
  | some m =>
    rw [hM] at hc
    have hM' : xM ra = some m := hM
    cases i
    case invokevirtual idx =>
      have o3 : (qzM ra || (xM ra).isNone) = true := o2
      rw [hM'] at o3
      simpa using o3
    case invokestatic idx =>
      have o3 : (qzM ra || !Nat.beq rb 0) = true := o2
      dsimp only at hc
      obtain ⟨c1, -⟩ := xw_c hc
      have c2 := (xw_bb c1).1
      rw [c2] at o3
      simpa using o3
    case invokespecial idx =>
      have o3 : (qzM ra || !Nat.beq rb 0) = true := o2
      dsimp only at hc
      split at hc
      · obtain ⟨c1, -⟩ := xw_c hc
        have c2 := (xw_bb c1).1
        rw [c2] at o3
        simpa using o3
      · cases hc
    all_goals cases hc
/-- every run of such a method leaves it -/
theorem qz_run {d mid : Nat} {mi : xm_M} {S : xs_S} {v : Option Value} {h' : xh_H} {c s : Nat} (hm : qzM mid = true) (k : xR none d mid mi S (v, h', c, s)) : Qz S.2.2.2.1 h' := by
  obtain ⟨f, e⟩ := k
  exact xe_x_qz qz_hM f d mid mi S v h' c s hm e
theorem xq_qz {f mid : Nat} {mi : xm_M} {pc : Nat} {lv : List (Nat × Value)} {st : List Value} {h : xh_H} (hm : qzM mid = true) : xq f mid mi pc lv st h (fun _ h' => Qz h h') := fun d lw v h' c s _ he => xe_x_qz qz_hM f d mid mi (pc, lw, st, h, 0, 0) v h' c s hm he
end XQM
end
section
section XVL
variable (T : Nat → Nat) (n nn : Nat) (NW : Nat → Nat) (sv : Nat) (NV : Nat → Bool)
/-- what a frame holds of one set: or, and; sum, weight, needed -/
abbrev vF : Type := Bool × Bool × Int32 × Int32 × Int32
def vR : vF := (false, true, 0, 1, 0)
def vL (x : Int32) : vF := (false, true, 0, 1, x)
/-- the first name like it -/
def nmi (w : Nat) : Nat := ((List.range nn).find? (fun k => Nat.beq (NW k) w)).getD 0
def vw (x : Int32) (ds : List vF) : List vF := match ds with
  | (o, a, su, _, nd) :: r => (o, a, su, x, nd) :: r
  | [] => []
/-- a ONE begins -/
def vbo (p : Nat) (ds : List vF) (one : Bool) : List vF × Bool := if tkk T n p = 3 then (vL (nI (tkn T n p)) :: ds, one) else if tkk T n p = 40 then (vR :: ds, one) else if lone T n p = true then (ds, sv.testBit (T (tks T n p) - 97)) else (ds, NV (nmi nn NW (tkw T n p)))
/-- an item that begins with a number -/
def vbi (p : Nat) (ds : List vF) (one : Bool) : List vF × Bool := if tkk T n (tke T n p) = 42 then vbo T n nn NW sv NV (tke T n (tke T n p)) (vw (nI (tkn T n p)) ds) one else (vL (nI (tkn T n p)) :: vw 1 ds, one)
def vbg (p : Nat) (fs : List Nat) (ds : List vF) (one : Bool) : List vF × Bool := if fs.head? = some 2 ∧ tkk T n p = 3 then vbi T n nn NW sv NV p ds one else vbo T n nn NW sv NV p ds one
/-- a ONE is through -/
def ven (p : Nat) (fs : List Nat) (ds : List vF) (one : Bool) : List vF × Bool := match ds with
  | [] => ([], one)
  | (o, a, su, w, nd) :: r => if fs.head? = some 2 then (if tkk T n p = 93 then (r, xe_c .ge (if one = true then su + w else su) nd) else ((o, a, if one = true then su + w else su, 1, nd) :: r, one)) else if ky T n p 2 = true then ((o, a && one, su, w, nd) :: r, one) else if ky T n p 3 = true then ((o || (a && one), true, su, w, nd) :: r, one) else (r, o || (a && one))
/-- the data's step beside the automaton's -/
def vdt (s : aSt) (x : List vF × Bool) : List vF × Bool := if s.2.2.2 = [] then x else if s.1 = 1 then vbg T n nn NW sv NV s.2.1 s.2.2.2 x.1 x.2 else ven T n s.2.1 s.2.2.2 x.1 x.2
variable (mem : Nat)
def vis : Nat → aSt → List vF × Bool → List vF × Bool
  | 0, _, x => x
  | k + 1, s, x => (match stp T n mem nn NW s with
    | .inl s' => vis k s' (vdt T n nn NW sv NV s x)
    | .inr _ => x)
/-- the automaton and its data come from one state to another -/
def Rv (s : aSt) (x : List vF × Bool) (s' : aSt) (x' : List vF × Bool) : Prop := ∃ k, its T n mem nn NW k s = .inl s' ∧ vis T n nn NW sv NV mem k s x = x'
variable {T n nn NW sv NV mem}
theorem Rv_0 {s : aSt} {x : List vF × Bool} : Rv T n nn NW sv NV mem s x s x := ⟨0, rfl, rfl⟩
theorem Rv_c {s s' : aSt} {x x' : List vF × Bool} (a : Rv T n nn NW sv NV mem s x s' x') : Rc T n mem nn NW s s' := a.elim fun k e => ⟨k, e.1⟩
theorem vis_add : ∀ {k j : Nat} {s s1 : aSt} {x : List vF × Bool}, its T n mem nn NW k s = .inl s1 → vis T n nn NW sv NV mem (k + j) s x = vis T n nn NW sv NV mem j s1 (vis T n nn NW sv NV mem k s x) := by
  intro k
  induction k with
  | zero =>
    intro j s s1 x e
    cases e
    rw [Nat.zero_add]
    rfl
  | succ k ih =>
    intro j s s1 x e
    rw [Nat.succ_add]
    unfold its at e
    have u : ∀ m, vis T n nn NW sv NV mem (m + 1) s x = (match stp T n mem nn NW s with
      | .inl s' => vis T n nn NW sv NV mem m s' (vdt T n nn NW sv NV s x)
      | .inr _ => x) := fun _ => rfl
    rw [show (k + j).succ = (k + j) + 1 from rfl, u (k + j), u k]
    cases hs : stp T n mem nn NW s with
    | inl s' =>
      rw [hs] at e
      exact ih e
    | inr e' => rw [hs] at e; cases e
theorem Rv_t {s s1 s2 : aSt} {x x1 x2 : List vF × Bool} (a : Rv T n nn NW sv NV mem s x s1 x1) (b : Rv T n nn NW sv NV mem s1 x1 s2 x2) : Rv T n nn NW sv NV mem s x s2 x2 := by
  obtain ⟨k, a1, a2⟩ := a
  obtain ⟨j, b1, b2⟩ := b
  exact ⟨k + j, (its_add a1).trans b1, by rw [vis_add a1, a2]; exact b2⟩
theorem Rv_1 {s s1 : aSt} {x : List vF × Bool} (h : stp T n mem nn NW s = .inl s1) : Rv T n nn NW sv NV mem s x s1 (vdt T n nn NW sv NV s x) := ⟨1, by
  unfold its
  rw [h]
  rfl, by
  unfold vis
  rw [h]
  rfl⟩
end XVL
end
section
section XPX
abbrev cdL : Type := List (Nat × Int32)
/-- one step of a statute's program for one set: the stack (its top first) and the names; none where the stack is too short or too high -/
def px1 (sv : Int32) (q : Nat × Int32) (x : List Int32 × Int32) : Option (List Int32 × Int32) := match q.1, x with
  | 0, (σ, nm) => if σ.length < 64 then some (((sv >>> (q.2 &&& 31)) &&& Int32.ofInt 1) :: σ, nm) else none
  | 1, (σ, nm) => if σ.length < 64 then some (((nm >>> (q.2 &&& 31)) &&& Int32.ofInt 1) :: σ, nm) else none
  | 2, (a :: b :: σ, nm) => some ((b &&& a) :: σ, nm)
  | 3, (a :: b :: σ, nm) => some ((b ||| a) :: σ, nm)
  | 4, (σ, nm) => if σ.length < 64 then some (Int32.ofInt 0 :: σ, nm) else none
  | 5, (a :: b :: σ, nm) => some ((b + a * q.2) :: σ, nm)
  | 6, (a :: σ, nm) => some (bl (xe_c .ge a q.2) :: σ, nm)
  | 7, (a :: σ, nm) => some (σ, nm ||| (a <<< (q.2 &&& 31)))
  | _, _ => none
def px (sv : Int32) : cdL → List Int32 × Int32 → Option (List Int32 × Int32)
  | [], x => some x
  | q :: c, x => (px1 sv q x).bind (px sv c)
theorem px_app {sv : Int32} {c d : cdL} {x : List Int32 × Int32} : px sv (c ++ d) x = (px sv c x).bind (px sv d) := by
  induction c generalizing x with
  | nil => rfl
  | cons q c ih =>
    show (px1 sv q x).bind (px sv (c ++ d)) = ((px1 sv q x).bind (px sv c)).bind (px sv d)
    cases h : px1 sv q x with
    | none => rfl
    | some y => exact ih
/-- a piece of code that puts one value on any stack with so much room, and leaves the names -/
def pv (sv nm : Int32) (k : Nat) (c : cdL) (y : Int32) : Prop := ∀ σ : List Int32, σ.length + k ≤ 64 → px sv c (σ, nm) = some (y :: σ, nm)
theorem pv_le {sv nm y : Int32} {k j : Nat} {c : cdL} (h : pv sv nm k c y) (e : k ≤ j) : pv sv nm j c y := fun σ hs => h σ (by omega)
theorem pv_m {sv nm v : Int32} : pv sv nm 1 [(0, v)] ((sv >>> (v &&& 31)) &&& Int32.ofInt 1) := fun σ hs => by
  show (if σ.length < 64 then some (((sv >>> (v &&& 31)) &&& Int32.ofInt 1) :: σ, nm) else none).bind (px sv []) = _
  rw [if_pos (by omega)]
  rfl
theorem pv_n {sv nm v : Int32} : pv sv nm 1 [(1, v)] ((nm >>> (v &&& 31)) &&& Int32.ofInt 1) := fun σ hs => by
  show (if σ.length < 64 then some (((nm >>> (v &&& 31)) &&& Int32.ofInt 1) :: σ, nm) else none).bind (px sv []) = _
  rw [if_pos (by omega)]
  rfl
theorem pv_and {sv nm v y z : Int32} {k j : Nat} {c d : cdL} (a : pv sv nm k c y) (b : pv sv nm j d z) (e : j + 1 ≤ k) : pv sv nm k (c ++ (d ++ [(2, v)])) (y &&& z) := fun σ hs => by
  rw [px_app, a σ hs]
  show px sv (d ++ [(2, v)]) (y :: σ, nm) = _
  rw [px_app, b (y :: σ) (by show σ.length + 1 + j ≤ 64; omega)]
  rfl
theorem pv_or {sv nm v y z : Int32} {k j : Nat} {c d : cdL} (a : pv sv nm k c y) (b : pv sv nm j d z) (e : j + 1 ≤ k) : pv sv nm k (c ++ (d ++ [(3, v)])) (y ||| z) := fun σ hs => by
  rw [px_app, a σ hs]
  show px sv (d ++ [(3, v)]) (y :: σ, nm) = _
  rw [px_app, b (y :: σ) (by show σ.length + 1 + j ≤ 64; omega)]
  rfl
theorem pv_item {sv nm v y z : Int32} {k j : Nat} {c d : cdL} (a : pv sv nm k c y) (b : pv sv nm j d z) (e : j + 1 ≤ k) : pv sv nm k (c ++ (d ++ [(5, v)])) (y + z * v) := fun σ hs => by
  rw [px_app, a σ hs]
  show px sv (d ++ [(5, v)]) (y :: σ, nm) = _
  rw [px_app, b (y :: σ) (by show σ.length + 1 + j ≤ 64; omega)]
  rfl
theorem pv_begin {sv nm v : Int32} : pv sv nm 1 [(4, v)] (Int32.ofInt 0) := fun σ hs => by
  show (if σ.length < 64 then some (Int32.ofInt 0 :: σ, nm) else none).bind (px sv []) = _
  rw [if_pos (by omega)]
  rfl
theorem pv_quota {sv nm v y : Int32} {k : Nat} {c : cdL} (a : pv sv nm k c y) : pv sv nm k (c ++ [(6, v)]) (bl (xe_c .ge y v)) := fun σ hs => by
  rw [px_app, a σ hs]
  rfl
theorem bl_and {a b : Bool} : bl a &&& bl b = bl (a && b) := by cases a <;> cases b <;> rfl
theorem bl_or {a b : Bool} : bl a ||| bl b = bl (a || b) := by cases a <;> cases b <;> rfl
theorem bl_nI {a : Bool} : bl a = nI a.toNat := by cases a <;> rfl
theorem bl_mul {a : Bool} {b w : Int32} : b + bl a * w = if a = true then b + w else b := by
  cases a with
  | true => show b + 1 * w = b + w; rw [Int32.one_mul]
  | false => show b + 0 * w = b; rw [Int32.zero_mul, Int32.add_zero]
/-- the names' values as bits -/
def nmo (nn : Nat) (NV : Nat → Bool) (nm : Int32) : Prop := ∃ a : Nat, a < 2 ^ nn ∧ nm = nI a ∧ ∀ k, k < nn → a.testBit k = NV k
theorem nmo_b {nn k : Nat} {NV : Nat → Bool} {nm : Int32} (h : nmo nn NV nm) (n16 : nn ≤ 16) (hk : k < nn) : ((nm >>> (nI k &&& 31)) &&& Int32.ofInt 1) = bl (NV k) := by
  obtain ⟨a, h1, rfl, h3⟩ := h
  have : 2 ^ nn ≤ 2 ^ 16 := Nat.pow_le_pow_right (by decide) n16
  rw [nI_b0 (by omega) (by omega), h3 k hk, bl_nI]
def upB (NV : Nat → Bool) (nn : Nat) (y : Bool) : Nat → Bool := fun k => if k = nn then y else NV k
theorem nmo_up {nn : Nat} {NV : Nat → Bool} {nm : Int32} {y : Bool} (h : nmo nn NV nm) (n16 : nn < 16) : nmo (nn + 1) (upB NV nn y) (nm ||| (bl y <<< (nI nn &&& 31))) := by
  obtain ⟨a, h1, rfl, h3⟩ := h
  have hp : 2 ^ (nn + 1) = 2 * 2 ^ nn := by rw [Nat.pow_succ]; omega
  cases y with
  | false =>
    refine ⟨a, by omega, ?_, fun k hk => ?_⟩
    · have e : (bl false <<< (nI nn &&& 31) : Int32) = nI 0 := by
        have hh : nn = 0 ∨ nn = 1 ∨ nn = 2 ∨ nn = 3 ∨ nn = 4 ∨ nn = 5 ∨ nn = 6 ∨ nn = 7 ∨ nn = 8 ∨ nn = 9 ∨ nn = 10 ∨ nn = 11 ∨ nn = 12 ∨ nn = 13 ∨ nn = 14 ∨ nn = 15 := by omega
        rcases hh with rfl | rfl | rfl | rfl | rfl | rfl | rfl | rfl | rfl | rfl | rfl | rfl | rfl | rfl | rfl | rfl <;> decide
      rw [e, nI_or, Nat.or_zero]
    · unfold upB
      by_cases e : k = nn
      · rw [if_pos e, e]
        exact Nat.testBit_lt_two_pow h1
      · rw [if_neg e]
        exact h3 k (by omega)
  | true =>
    refine ⟨a ||| 2 ^ nn, Nat.or_lt_two_pow (by omega) (by have := Nat.two_pow_pos nn; omega), ?_, fun k hk => ?_⟩
    · have e : (bl true <<< (nI nn &&& 31) : Int32) = nI (2 ^ nn) := by
        have hh : nn = 0 ∨ nn = 1 ∨ nn = 2 ∨ nn = 3 ∨ nn = 4 ∨ nn = 5 ∨ nn = 6 ∨ nn = 7 ∨ nn = 8 ∨ nn = 9 ∨ nn = 10 ∨ nn = 11 ∨ nn = 12 ∨ nn = 13 ∨ nn = 14 ∨ nn = 15 := by omega
        rcases hh with rfl | rfl | rfl | rfl | rfl | rfl | rfl | rfl | rfl | rfl | rfl | rfl | rfl | rfl | rfl | rfl <;> decide
      rw [e, nI_or]
    · rw [Nat.testBit_or, Nat.testBit_two_pow]
      unfold upB
      by_cases e : k = nn
      · rw [if_pos e, e]
        simp
      · rw [if_neg e, h3 k (by omega)]
        rw [show decide (nn = k) = false from decide_eq_false (fun z => e z.symm), Bool.or_false]
end XPX
end
section
section XPT
/-- the program's text -/
def ptx (h : xh_H) (P : List (Nat × Int32)) : Prop := xg 0 h.2.1 4 3 = nI P.length ∧ ∀ k (hk : k < P.length), xg 0 h.2.1 5 k = nI (P[k]).1 ∧ xg 0 h.2.1 6 k = (P[k]).2
theorem ptx_f {S L : Nat → Nat → Bool} {h h' : xh_H} {P : List (Nat × Int32)} (p : ptx h P) (g : fx S L h h') (e1 : S 4 3 = false) (e2 : ∀ k, S 5 k = false) (e3 : ∀ k, S 6 k = false) : ptx h' P := ⟨(fx_i g e1).trans p.1, fun k hk' => ⟨(fx_i g (e2 k)).trans (p.2 k hk').1, (fx_i g (e3 k)).trans (p.2 k hk').2⟩⟩
theorem ptx_a {h h' : xh_H} {P : List (Nat × Int32)} {c : Nat} {y : Int32} (p : ptx h P) (e1 : xg 0 h'.2.1 4 3 = nI (P.length + 1)) (e2 : xg 0 h'.2.1 5 P.length = nI c) (e3 : xg 0 h'.2.1 6 P.length = y) (e4 : ∀ k, k ≠ P.length → xg 0 h'.2.1 5 k = xg 0 h.2.1 5 k ∧ xg 0 h'.2.1 6 k = xg 0 h.2.1 6 k) : ptx h' (P ++ [(c, y)]) := by
  refine ⟨by rw [e1, List.length_append]; rfl, fun k hk' => ?_⟩
  by_cases z : k = P.length
  · subst z
    rw [List.getElem_append_right (Nat.le_refl _)]
    simp only [Nat.sub_self, List.getElem_cons_zero]
    exact ⟨e2, e3⟩
  · have hl : k < P.length := by rw [List.length_append] at hk'; simp at hk'; omega
    rw [List.getElem_append_left hl, (e4 k z).1, (e4 k z).2]
    exact p.2 k hl
set_option maxRecDepth 100000 in
set_option maxHeartbeats 4000000 in
theorem pad_q {f c : Nat} {y : Int32} {P : List (Nat × Int32)} {h : xh_H} (pt : ptx h P) (l4 : P.length < 400) (hq : a_rq a_tb h) : xq f xi_X3_add xmi_X3_add 0 [(0, .ref 4), (1, .int (nI c)), (2, .int y)] [] h (fun v h' => v = none ∧ fx aS_ fN h h' ∧ ptx h' (P ++ [(c, y)])) := by
  cases c1 : xe_c .ge (nI (P.length)) 400 with
  | true =>
    have z1 : (P.length) ≥ 400 := nq_get (a := (P.length)) (b := 400) (by omega) (by omega) c1
    omega
  | false =>
    have z1 : (P.length) < 400 := nq_gef (a := (P.length)) (b := 400) (by omega) (by omega) c1
    refine xq_n 40 [] [] [] (xh_ui (xh_ui (xh_ui h 5 ((xg 0 h.2.1 4 3).toNatClampNeg) (nI c)) 6 ((xg 0 (xh_ui h 5 ((xg 0 h.2.1 4 3).toNatClampNeg) (nI c)).2.1 4 3).toNatClampNeg) y) 4 3 ((xg 0 (xh_ui (xh_ui h 5 ((xg 0 h.2.1 4 3).toNatClampNeg) (nI c)) 6 ((xg 0 (xh_ui h 5 ((xg 0 h.2.1 4 3).toNatClampNeg) (nI c)).2.1 4 3).toNatClampNeg) y).2.1 4 3) + (Int32.ofInt 1))) [false] 24 hq rfl ⟨(show xe_c .ge (xg 0 h.2.1 4 3) 400 = false by rw [show (xg 0 h.2.1 4 3) = (nI (P.length)) from pt.1]; exact c1), trivial⟩ (fun _ => ?_)
    rw [show (xg 0 (xh_ui (xh_ui h 5 ((xg 0 h.2.1 4 3).toNatClampNeg) (nI c)) 6 ((xg 0 (xh_ui h 5 ((xg 0 h.2.1 4 3).toNatClampNeg) (nI c)).2.1 4 3).toNatClampNeg) y).2.1 4 3) = (nI (P.length)) from (gx_o (by decide)).trans ((gx_o (by decide)).trans (pt.1))]
    rw [show (xg 0 (xh_ui h 5 ((xg 0 h.2.1 4 3).toNatClampNeg) (nI c)).2.1 4 3) = (nI (P.length)) from (gx_o (by decide)).trans (pt.1)]
    rw [show (xg 0 h.2.1 4 3) = (nI (P.length)) from pt.1]
    rw [show ((nI (P.length)).toNatClampNeg) = P.length from nI_clamp (by omega)]
    rw [show ((nI (P.length)) + (Int32.ofInt 1)) = nI (P.length + 1) from nI_1 _]
    have hq : a_rq a_tb (xh_ui (xh_ui (xh_ui h 5 P.length (nI c)) 6 P.length y) 4 3 (nI (P.length + 1))) := a_rq_ui (a_rq_ui (a_rq_ui hq))
    exact xq_ret rfl rfl rfl ⟨rfl, fx_ui (fx_ui (fx_ui (fx_0) rfl) rfl) rfl, ptx_a pt (gx_s) ((gx_o (by decide)).trans ((gx_o (by decide)).trans (gx_s))) ((gx_o (by decide)).trans (gx_s)) (fun k hk' => ⟨(gx_o (by decide)).trans ((gx_o (by decide)).trans (gx_k (by omega))), (gx_o (by decide)).trans ((gx_k (by omega)).trans (gx_o (by decide)))⟩)⟩
end XPT
end
section
section XPS
set_option maxRecDepth 100000 in
set_option maxHeartbeats 4000000 in
theorem psh_q {f d : Nat} {x : Int32} {h : xh_H} (d1 : 0 ≤ d) (d2 : d < 64) (hq : a_rq a_tb h) : xq f xi_X3_push xmi_X3_push 0 [(0, .ref 4), (1, .int (nI d)), (2, .int x)] [] h (fun v h' => h' = xh_ui h 7 d x ∧ v = some (.int (nI (d + 1)))) := by
  cases c1 : xe_c .lt (nI d) 0 with
  | true =>
    have z1 : d < 0 := nq_ltt (a := d) (b := 0) (by omega) (by omega) c1
    omega
  | false =>
    have z1 : d ≥ 0 := nq_ltf (a := d) (b := 0) (by omega) (by omega) c1
    cases c2 : xe_c .lt (nI d) 64 with
    | true =>
      have z2 : d < 64 := nq_ltt (a := d) (b := 64) (by omega) (by omega) c2
      refine xq_n 22 [] [] [.int ((nI d) + (Int32.ofInt 1))] (xh_ui h 7 ((nI d).toNatClampNeg) x) [false, true] 15 hq rfl ⟨c1, c2, trivial⟩ (fun _ => ?_)
      rw [show ((nI d).toNatClampNeg) = d from nI_clamp (by omega)]
      rw [show ((nI d) + (Int32.ofInt 1)) = nI (d + 1) from nI_1 _]
      have hq : a_rq a_tb (xh_ui h 7 d x) := a_rq_ui hq
      exact xq_ret rfl rfl rfl ⟨rfl, rfl⟩
    | false =>
      have z2 : d ≥ 64 := nq_ltf (a := d) (b := 64) (by omega) (by omega) c2
      omega
set_option maxRecDepth 100000 in
set_option maxHeartbeats 4000000 in
theorem rpl_q {f d : Nat} {x : Int32} {h : xh_H} (d1 : 0 < d) (d2 : d ≤ 64) (hq : a_rq a_tb h) : xq f xi_X3_replace xmi_X3_replace 0 [(0, .ref 4), (1, .int (nI d)), (2, .int x)] [] h (fun v h' => h' = xh_ui h 7 (d - 1) x ∧ v = none) := by
  cases c1 : xe_c .le (nI d) 0 with
  | true =>
    have z1 : d ≤ 0 := nq_let (a := d) (b := 0) (by omega) (by omega) c1
    omega
  | false =>
    have z1 : d > 0 := nq_lef (a := d) (b := 0) (by omega) (by omega) c1
    cases c2 : xe_c .gt (nI d) 64 with
    | true =>
      have z2 : d > 64 := nq_gtt (a := d) (b := 64) (by omega) (by omega) c2
      omega
    | false =>
      have z2 : d ≤ 64 := nq_gtf (a := d) (b := 64) (by omega) (by omega) c2
      refine xq_n 19 [] [] [] (xh_ui h 7 (((nI d) - (Int32.ofInt 1)).toNatClampNeg) x) [false, false] 14 hq rfl ⟨c1, c2, trivial⟩ (fun _ => ?_)
      rw [show ((nI d) - (Int32.ofInt 1)) = nI (d - 1) from nI_sub (b := 1) (by omega)]
      rw [show ((nI (d - 1)).toNatClampNeg) = (d - 1) from nI_clamp (by omega)]
      have hq : a_rq a_tb (xh_ui h 7 (d - 1) x) := a_rq_ui hq
      exact xq_ret rfl rfl rfl ⟨rfl, rfl⟩
set_option maxRecDepth 100000 in
set_option maxHeartbeats 4000000 in
theorem pek_q {f d : Nat} {h : xh_H} (d1 : 0 < d) (d2 : d ≤ 64) (hq : a_rq a_tb h) : xq f xi_X3_peek xmi_X3_peek 0 [(0, .ref 4), (1, .int (nI d))] [] h (fun v h' => h = h' ∧ v = some (.int (xg 0 h.2.1 7 (d - 1)))) := by
  cases c1 : xe_c .le (nI d) 0 with
  | true =>
    have z1 : d ≤ 0 := nq_let (a := d) (b := 0) (by omega) (by omega) c1
    omega
  | false =>
    have z1 : d > 0 := nq_lef (a := d) (b := 0) (by omega) (by omega) c1
    cases c2 : xe_c .gt (nI d) 64 with
    | true =>
      have z2 : d > 64 := nq_gtt (a := d) (b := 64) (by omega) (by omega) c2
      omega
    | false =>
      have z2 : d ≤ 64 := nq_gtf (a := d) (b := 64) (by omega) (by omega) c2
      refine xq_n 22 [] [] [.int (xg 0 h.2.1 7 (((nI d) - (Int32.ofInt 1)).toNatClampNeg))] h [false, false] 14 hq rfl ⟨c1, c2, trivial⟩ (fun hq => ?_)
      rw [show (xg 0 h.2.1 7 (((nI d) - (Int32.ofInt 1)).toNatClampNeg)) = xg 0 h.2.1 7 (d - 1) from (by rw [show ((nI d) - (Int32.ofInt 1)) = nI (d - 1) from nI_sub (b := 1) (by omega), show ((nI (d - 1)).toNatClampNeg) = (d - 1) from nI_clamp (by omega)])]
      exact xq_ret rfl rfl rfl ⟨rfl, rfl⟩
end XPS
end
section
section XSE
variable {T : Nat → Nat} {n mem nn : Nat} {NW : Nat → Nat}
/-- the data's run from a result on -/
def Rrv (T : Nat → Nat) (n nn : Nat) (NW : Nat → Nat) (sv : Nat) (NV : Nat → Bool) (mem : Nat) (r : aRs) (x : List vF × Bool) (s' : aSt) (x' : List vF × Bool) : Prop := ∃ s, r = .inl s ∧ Rv T n nn NW sv NV mem s x s' x'
section
variable (T : Nat → Nat) (n mem nn : Nat) (NW : Nat → Nat)
def VO (d p o p' o' : Nat) (c : cdL) : Prop := ∀ (sv : Nat) (NV : Nat → Bool) (nm : Int32), sv < 4096 → nmo nn NV nm → ∃ y, pv (nI sv) nm (25 - 2 * d) c (bl y) ∧ ∀ (fs : List Nat) (ds : List vF) (one : Bool), fs.length = d + 1 → Rrv T n nn NW sv NV mem (bo T n mem nn NW p o fs) (vbo T n nn NW sv NV p ds one) (0, p', o', fs) (ds, y)
def VQ (d p o st num p' o' : Nat) (c : cdL) : Prop := ∀ (sv : Nat) (NV : Nat → Bool) (nm : Int32), sv < 4096 → nmo nn NV nm → ∃ y, pv (nI sv) nm (25 - 2 * d) c (bl y) ∧ ∀ (fs : List Nat) (ds : List vF) (one : Bool), fs.length = d + 1 → Rrv T n nn NW sv NV mem (qt T n p o st num fs) (vL (nI num) :: ds, one) (0, p', o', fs) (ds, y)
def VA (d p o p' o' : Nat) (c : cdL) : Prop := ∀ (sv : Nat) (NV : Nat → Bool) (nm : Int32), sv < 4096 → nmo nn NV nm → ∃ y, pv (nI sv) nm (26 - 2 * d) c (bl y) ∧ ∀ (t : Nat) (fs : List Nat) (ov : Bool) (su w nd : Int32) (ds : List vF) (one : Bool), t ≠ 2 → fs.length = d → ∃ a' one', (a' && one') = y ∧ Rv T n nn NW sv NV mem (1, p, o, t :: fs) ((ov, true, su, w, nd) :: ds, one) (0, p', o', t :: fs) ((ov, a', su, w, nd) :: ds, one')
def VR (d p o p' o' : Nat) (c : cdL) : Prop := ∀ (sv : Nat) (NV : Nat → Bool) (nm : Int32), sv < 4096 → nmo nn NV nm → ∃ y, pv (nI sv) nm (27 - 2 * d) c (bl y) ∧ ∀ (t : Nat) (fs : List Nat) (su w nd : Int32) (ds : List vF) (one : Bool), t ≠ 2 → fs.length = d → ∃ ov' a' one', (ov' || (a' && one')) = y ∧ Rv T n nn NW sv NV mem (1, p, o, t :: fs) ((false, true, su, w, nd) :: ds, one) (0, p', o', t :: fs) ((ov', a', su, w, nd) :: ds, one')
def VI (d p o p' o' : Nat) (c : cdL) : Prop := ∃ c1 wt, c = c1 ++ [(5, wt)] ∧ ∀ (sv : Nat) (NV : Nat → Bool) (nm : Int32), sv < 4096 → nmo nn NV nm → ∃ y, pv (nI sv) nm (25 - 2 * d) c1 (bl y) ∧ ∀ (fs : List Nat) (ov av : Bool) (su nd : Int32) (ds : List vF) (one : Bool), fs.length = d → Rv T n nn NW sv NV mem (1, p, o, 2 :: fs) ((ov, av, su, 1, nd) :: ds, one) (0, p', o', 2 :: fs) ((ov, av, su, wt, nd) :: ds, y)
def VS (d P o num p' o' : Nat) (c : cdL) : Prop := ∀ (sv : Nat) (NV : Nat → Bool) (nm : Int32), sv < 4096 → nmo nn NV nm → ∃ S, pv (nI sv) nm (25 - 2 * d) c S ∧ ∀ (fs : List Nat) (ds : List vF) (one : Bool), fs.length = d + 1 → ∃ su w one', S = (if one' = true then su + w else su) ∧ Rv T n nn NW sv NV mem (1, P, o + 1, 2 :: fs) (vL (nI num) :: ds, one) (0, p', o', 2 :: fs) ((false, true, su, w, nI num) :: ds, one')
end
theorem vdt1 {p o t : Nat} {fs : List Nat} {sv : Nat} {NV : Nat → Bool} {x1 : List vF} {x2 : Bool} : vdt T n nn NW sv NV (1, p, o, t :: fs) (x1, x2) = vbg T n nn NW sv NV p (t :: fs) x1 x2 := by
  unfold vdt
  rw [if_neg (by intro z; cases z), if_pos rfl]
theorem vdt0 {p o t : Nat} {fs : List Nat} {sv : Nat} {NV : Nat → Bool} {x1 : List vF} {x2 : Bool} : vdt T n nn NW sv NV (0, p, o, t :: fs) (x1, x2) = ven T n p (t :: fs) x1 x2 := by
  unfold vdt
  rw [if_neg (by intro z; cases z), if_neg (show ¬ (0 = 1) by decide)]
theorem ven_c {p : Nat} {fs : List Nat} {o a one : Bool} {su w nd : Int32} {r : List vF} : ven T n p fs ((o, a, su, w, nd) :: r) one = if fs.head? = some 2 then (if tkk T n p = 93 then (r, xe_c .ge (if one = true then su + w else su) nd) else ((o, a, if one = true then su + w else su, 1, nd) :: r, one)) else if ky T n p 2 = true then ((o, a && one, su, w, nd) :: r, one) else if ky T n p 3 = true then ((o || (a && one), true, su, w, nd) :: r, one) else (r, o || (a && one)) := rfl
theorem vbgO {p t : Nat} {fs : List Nat} {sv : Nat} {NV : Nat → Bool} {ds : List vF} {one : Bool} (ht : t ≠ 2) : vbg T n nn NW sv NV p (t :: fs) ds one = vbo T n nn NW sv NV p ds one := by
  unfold vbg
  rw [if_neg]
  rintro ⟨e, -⟩
  exact ht (Option.some.inj e)
theorem Rv_r {s s1 : aSt} {r : aRs} {x x1 : List vF × Bool} {sv : Nat} {NV : Nat → Bool} (h : stp T n mem nn NW s = r) (a : Rrv T n nn NW sv NV mem r (vdt T n nn NW sv NV s x) s1 x1) : Rv T n nn NW sv NV mem s x s1 x1 := by
  obtain ⟨s2, e, b⟩ := a
  exact Rv_t (Rv_1 (h.trans e)) b
theorem VO_mem {d p o : Nat} (hl : lone T n p = true) (hm : T (tks T n p) - 97 < mem) (m12 : mem ≤ 12) (o6 : o < 120) (d12 : d ≤ 12) : VO T n mem nn NW d p o (tke T n p) (o + 1) [(0, nI (T (tks T n p) - 97))] := by
  intro sv NV nm hs hn
  have k2 := (of_decide_eq_true hl).1
  refine ⟨sv.testBit (T (tks T n p) - 97), ?_, fun fs ds one hf => ⟨(0, tke T n p, o + 1, fs), ?_, ?_⟩⟩
  · have := pv_m (sv := nI sv) (nm := nm) (v := nI (T (tks T n p) - 97))
    rw [nI_b0 (by omega) (by omega), ← bl_nI] at this
    exact pv_le this (by omega)
  · unfold bo
    rw [if_neg (by omega), if_neg (by omega), if_pos hl, if_neg (by omega), if_neg (by omega)]
  · unfold vbo
    rw [if_neg (by omega), if_neg (by omega), if_pos hl]
    exact Rv_0
theorem lone_n {p : Nat} (h : nmt T n p = true) : lone T n p = false := by
  have h1 := of_decide_eq_true h
  refine decide_eq_false (fun z => ?_)
  have := z.2
  have := h1.2.1
  omega
theorem VO_nam {d p o : Nat} (hl : nmt T n p = true) (hh : hasn nn NW (tkw T n p) = true) (hk : nmi nn NW (tkw T n p) < nn) (n16 : nn ≤ 16) (o6 : o < 120) (d12 : d ≤ 12) : VO T n mem nn NW d p o (tke T n p) (o + 1) [(1, nI (nmi nn NW (tkw T n p)))] := by
  intro sv NV nm hs hn
  have k2 := (of_decide_eq_true hl).1
  refine ⟨NV (nmi nn NW (tkw T n p)), ?_, fun fs ds one hf => ⟨(0, tke T n p, o + 1, fs), ?_, ?_⟩⟩
  · have := pv_n (sv := nI sv) (nm := nm) (v := nI (nmi nn NW (tkw T n p)))
    rw [nmo_b hn n16 hk] at this
    exact pv_le this (by omega)
  · unfold bo
    rw [if_neg (by omega), if_neg (by omega), if_neg (by rw [lone_n hl]; decide), if_pos hl, if_neg (by rw [hh]; decide), if_neg (by omega)]
  · unfold vbo
    rw [if_neg (by omega), if_neg (by omega), if_neg (by rw [lone_n hl]; decide)]
    exact Rv_0
theorem VO_par {d p o p' o' : Nat} {c : cdL} (k40 : tkk T n p = 40) (o6 : o < 120) (d12 : d < 12) (h : VR T n mem nn NW (d + 1) (tke T n p) (o + 1) p' o' c) (k2 : ky T n p' 2 = false) (k3 : ky T n p' 3 = false) (k41 : tkk T n p' = 41) : VO T n mem nn NW d p o (tke T n p') o' c := by
  intro sv NV nm hs hn
  obtain ⟨y, h1, h2⟩ := h sv NV nm hs hn
  refine ⟨y, pv_le h1 (by omega), fun fs ds one hf => ⟨(1, tke T n p, o + 1, 1 :: fs), ?_, ?_⟩⟩
  · unfold bo
    rw [if_neg (by omega), if_pos k40, if_neg (by omega), if_neg (by omega)]
  · unfold vbo
    rw [if_neg (by omega), if_pos k40]
    obtain ⟨ov, a, one', e, r⟩ := h2 1 fs 0 1 0 ds one (by decide) hf
    refine Rv_t r ?_
    have es : stp T n mem nn NW (0, p', o', 1 :: fs) = .inl (0, tke T n p', o', fs) := by
      rw [enE]
      unfold en
      rw [if_neg (by intro z; cases z), if_neg (by rw [k2]; decide), if_neg (by rw [k3]; decide), if_neg (by intro z; cases z), if_pos k41]
      rfl
    have := Rv_1 (sv := sv) (NV := NV) (x := ((ov, a, (0 : Int32), (1 : Int32), (0 : Int32)) :: ds, one')) es
    rw [vdt0, ven_c] at this
    rw [if_neg (by intro z; cases z), if_neg (by rw [k2]; decide), if_neg (by rw [k3]; decide)] at this
    rw [e] at this
    exact this
theorem VO_quo {d p o p' o' : Nat} {c : cdL} (k3 : tkk T n p = 3) (h : VQ T n mem nn NW d (tke T n p) o (tks T n p) (tkn T n p) p' o' c) : VO T n mem nn NW d p o p' o' c := by
  intro sv NV nm hs hn
  obtain ⟨y, h1, h2⟩ := h sv NV nm hs hn
  refine ⟨y, h1, fun fs ds one hf => ?_⟩
  rw [show bo T n mem nn NW p o fs = qt T n (tke T n p) o (tks T n p) (tkn T n p) fs from by unfold bo qt; rw [if_pos k3]]
  rw [show vbo T n nn NW sv NV p ds one = (vL (nI (tkn T n p)) :: ds, one) from by unfold vbo; rw [if_pos k3]]
  exact h2 fs ds one hf
theorem VA_1 {d p o p' o' : Nat} {c : cdL} (d12 : d ≤ 12) (h : VO T n mem nn NW d p o p' o' c) : VA T n mem nn NW d p o p' o' c := by
  intro sv NV nm hs hn
  obtain ⟨y, h1, h2⟩ := h sv NV nm hs hn
  refine ⟨y, pv_le h1 (by omega), fun t fs ov su w nd ds one ht hf => ⟨true, y, Bool.true_and y, ?_⟩⟩
  refine Rv_r (bgO ht) ?_
  rw [vdt1, vbgO ht]
  exact h2 (t :: fs) _ one (by rw [List.length_cons, hf])
theorem VA_s {d p o p1 o1 p2 o2 : Nat} {v : Int32} {c c2 : cdL} (d12 : d ≤ 12) (h : VA T n mem nn NW d p o p1 o1 c) (k2 : ky T n p1 2 = true) (h' : VO T n mem nn NW d (tke T n p1) o1 p2 o2 c2) : VA T n mem nn NW d p o p2 o2 (c ++ (c2 ++ [(2, v)])) := by
  intro sv NV nm hs hn
  obtain ⟨y, h1, h2⟩ := h sv NV nm hs hn
  obtain ⟨z, h3, h4⟩ := h' sv NV nm hs hn
  refine ⟨y && z, by rw [← bl_and]; exact pv_and h1 h3 (by omega), fun t fs ov su w nd ds one ht hf => ?_⟩
  obtain ⟨a, one', e, r⟩ := h2 t fs ov su w nd ds one ht hf
  refine ⟨y, z, rfl, Rv_t r ?_⟩
  have es : stp T n mem nn NW (0, p1, o1, t :: fs) = .inl (1, tke T n p1, o1, t :: fs) := by
    rw [enE]
    unfold en
    rw [if_neg (show ¬ (t :: fs).head? = some 2 from fun z => ht (Option.some.inj z)), if_pos k2]
  have r1 := Rv_1 (sv := sv) (NV := NV) (x := ((ov, a, su, w, nd) :: ds, one')) es
  rw [vdt0, ven_c] at r1
  rw [if_neg (show ¬ (t :: fs).head? = some 2 from fun z => ht (Option.some.inj z)), if_pos k2, e] at r1
  refine Rv_t r1 (Rv_r (bgO ht) ?_)
  rw [vdt1, vbgO ht]
  exact h4 (t :: fs) _ one' (by rw [List.length_cons, hf])
theorem VR_1 {d p o p' o' : Nat} {c : cdL} (d12 : d ≤ 12) (h : VA T n mem nn NW d p o p' o' c) : VR T n mem nn NW d p o p' o' c := by
  intro sv NV nm hs hn
  obtain ⟨y, h1, h2⟩ := h sv NV nm hs hn
  refine ⟨y, pv_le h1 (by omega), fun t fs su w nd ds one ht hf => ?_⟩
  obtain ⟨a, one', e, r⟩ := h2 t fs false su w nd ds one ht hf
  exact ⟨false, a, one', by rw [e]; exact Bool.false_or y, r⟩
theorem VR_s {d p o p1 o1 p2 o2 : Nat} {v : Int32} {c c2 : cdL} (d12 : d ≤ 12) (h : VR T n mem nn NW d p o p1 o1 c) (k2 : ky T n p1 2 = false) (k3 : ky T n p1 3 = true) (h' : VA T n mem nn NW d (tke T n p1) o1 p2 o2 c2) : VR T n mem nn NW d p o p2 o2 (c ++ (c2 ++ [(3, v)])) := by
  intro sv NV nm hs hn
  obtain ⟨y, h1, h2⟩ := h sv NV nm hs hn
  obtain ⟨z, h3, h4⟩ := h' sv NV nm hs hn
  refine ⟨y || z, by rw [← bl_or]; exact pv_or h1 h3 (by omega), fun t fs su w nd ds one ht hf => ?_⟩
  obtain ⟨ov, a, one', e, r⟩ := h2 t fs su w nd ds one ht hf
  obtain ⟨a2, one2, e2, r2⟩ := h4 t fs y su w nd ds one' ht hf
  refine ⟨y, a2, one2, by rw [e2], Rv_t r (Rv_t ?_ r2)⟩
  have es : stp T n mem nn NW (0, p1, o1, t :: fs) = .inl (1, tke T n p1, o1, t :: fs) := by
    rw [enE]
    unfold en
    rw [if_neg (show ¬ (t :: fs).head? = some 2 from fun z => ht (Option.some.inj z)), if_neg (by rw [k2]; decide), if_pos k3]
  have r1 := Rv_1 (sv := sv) (NV := NV) (x := ((ov, a, su, w, nd) :: ds, one')) es
  rw [vdt0, ven_c] at r1
  rw [if_neg (show ¬ (t :: fs).head? = some 2 from fun z => ht (Option.some.inj z)), if_neg (by rw [k2]; decide), if_pos k3, e] at r1
  exact r1
theorem VI_1 {d p o p' o' : Nat} {c : cdL} (k3 : tkk T n p ≠ 3) (h : VO T n mem nn NW d p o p' o' c) : VI T n mem nn NW d p o p' o' (c ++ [(5, 1)]) := by
  refine ⟨c, 1, rfl, fun sv NV nm hs hn => ?_⟩
  obtain ⟨y, h1, h2⟩ := h sv NV nm hs hn
  refine ⟨y, h1, fun fs ov av su nd ds one hf => ?_⟩
  refine Rv_r (r := bo T n mem nn NW p o (2 :: fs)) (by rw [bgI, if_neg k3]) ?_
  rw [vdt1]
  unfold vbg
  rw [if_neg (fun z => k3 z.2)]
  exact h2 (2 :: fs) _ one (by rw [List.length_cons, hf])
theorem VI_w {d p o p' o' : Nat} {c : cdL} (k3 : tkk T n p = 3) (k42 : tkk T n (tke T n p) = 42) (h : VO T n mem nn NW d (tke T n (tke T n p)) o p' o' c) : VI T n mem nn NW d p o p' o' (c ++ [(5, nI (tkn T n p))]) := by
  refine ⟨c, nI (tkn T n p), rfl, fun sv NV nm hs hn => ?_⟩
  obtain ⟨y, h1, h2⟩ := h sv NV nm hs hn
  refine ⟨y, h1, fun fs ov av su nd ds one hf => ?_⟩
  refine Rv_r (r := bo T n mem nn NW (tke T n (tke T n p)) o (2 :: fs)) (by rw [bgI, if_pos k3]; unfold bi; rw [if_pos k42]) ?_
  rw [vdt1]
  unfold vbg
  rw [if_pos ⟨rfl, k3⟩]
  unfold vbi
  rw [if_pos k42]
  exact h2 (2 :: fs) _ one (by rw [List.length_cons, hf])
theorem VI_q {d p o p' o' : Nat} {c : cdL} (k3 : tkk T n p = 3) (k42 : tkk T n (tke T n p) ≠ 42) (k4 : ky T n (tke T n p) 4 = true) (h : VQ T n mem nn NW d (tke T n p) o (tks T n p) (tkn T n p) p' o' c) : VI T n mem nn NW d p o p' o' (c ++ [(5, 1)]) := by
  refine ⟨c, 1, rfl, fun sv NV nm hs hn => ?_⟩
  obtain ⟨y, h1, h2⟩ := h sv NV nm hs hn
  refine ⟨y, h1, fun fs ov av su nd ds one hf => ?_⟩
  refine Rv_r (r := qt T n (tke T n p) o (tks T n p) (tkn T n p) (2 :: fs)) (by rw [bgI, if_pos k3]; unfold bi qt; rw [if_neg k42, if_neg (by rw [k4]; decide)]) ?_
  rw [vdt1]
  unfold vbg
  rw [if_pos ⟨rfl, k3⟩]
  unfold vbi
  rw [if_neg k42]
  exact h2 (2 :: fs) _ one (by rw [List.length_cons, hf])
theorem VS_1 {d P o num p1 o1 : Nat} {v : Int32} {c : cdL} (d11 : d ≤ 11) (h : VI T n mem nn NW (d + 1) P (o + 1) p1 o1 c) : VS T n mem nn NW d P o num p1 o1 ([(4, v)] ++ c) := by
  intro sv NV nm hs hn
  obtain ⟨c1, wt, rfl, h⟩ := h
  obtain ⟨y, h1, h2⟩ := h sv NV nm hs hn
  refine ⟨_, pv_item (pv_le (pv_begin (v := v)) (by omega)) h1 (by omega), fun fs ds one hf => ⟨0, wt, y, bl_mul, ?_⟩⟩
  exact h2 fs false true 0 (nI num) ds one hf
theorem VS_s {d P o num p1 o1 p2 o2 : Nat} {c c2 : cdL} (d11 : d ≤ 11) (h : VS T n mem nn NW d P o num p1 o1 c) (k93 : tkk T n p1 ≠ 93) (h' : VI T n mem nn NW (d + 1) p1 o1 p2 o2 c2) : VS T n mem nn NW d P o num p2 o2 (c ++ c2) := by
  intro sv NV nm hs hn
  obtain ⟨S, h1, h2⟩ := h sv NV nm hs hn
  obtain ⟨c1, wt, rfl, h'⟩ := h'
  obtain ⟨y, h3, h4⟩ := h' sv NV nm hs hn
  refine ⟨_, pv_item h1 h3 (by omega), fun fs ds one hf => ?_⟩
  obtain ⟨su, w, one', e, r⟩ := h2 fs ds one hf
  refine ⟨S, wt, y, bl_mul, Rv_t r (Rv_t ?_ (h4 fs false true S (nI num) ds one' hf))⟩
  have es : stp T n mem nn NW (0, p1, o1, 2 :: fs) = .inl (1, p1, o1, 2 :: fs) := by
    rw [enE]
    unfold en
    rw [if_pos (show (2 :: fs).head? = some 2 from rfl), if_neg k93]
  have r1 := Rv_1 (sv := sv) (NV := NV) (x := ((false, true, su, w, nI num) :: ds, one')) es
  rw [vdt0, ven_c] at r1
  rw [if_pos (show (2 :: fs).head? = some 2 from rfl), if_neg k93, ← e] at r1
  exact r1
theorem VQ_e {d p o st num p1 o1 : Nat} {c : cdL} (d11 : d ≤ 11) (h : VS T n mem nn NW d (tke T n (tke T n p)) o num p1 o1 c) (k93 : tkk T n p1 = 93) (n0 : num ≠ 0) (o6 : o < 120) (k4 : ky T n p 4 = true) (k91 : tkk T n (tke T n p) = 91) : VQ T n mem nn NW d p o st num (tke T n p1) o1 (c ++ [(6, nI num)]) := by
  intro sv NV nm hs hn
  obtain ⟨S, h1, h2⟩ := h sv NV nm hs hn
  refine ⟨_, pv_quota h1, fun fs ds one hf => ⟨(1, tke T n (tke T n p), o + 1, 2 :: fs), ?_, ?_⟩⟩
  · unfold qt bls
    rw [if_neg n0, if_neg (by omega), if_neg (by rw [k4]; decide), if_neg (by omega), if_neg (by omega)]
  · obtain ⟨su, w, one', e, r⟩ := h2 fs ds one hf
    refine Rv_t r ?_
    have es : stp T n mem nn NW (0, p1, o1, 2 :: fs) = .inl (0, tke T n p1, o1, fs) := by
      rw [enE]
      unfold en
      rw [if_pos (show (2 :: fs).head? = some 2 from rfl), if_pos k93]
      rfl
    have r1 := Rv_1 (sv := sv) (NV := NV) (x := ((false, true, su, w, nI num) :: ds, one')) es
    rw [vdt0, ven_c] at r1
    rw [if_pos (show (2 :: fs).head? = some 2 from rfl), if_pos k93, ← e] at r1
    exact r1
end XSE
end
section
section XPR
variable {T : Nat → Nat} {n mem nn : Nat} {NM : Nat → Nat × Nat}
def c38 (c _k : Nat) : Bool := Nat.beq c 8 || Nat.beq c 3
theorem sS_38 {c k : Nat} (h : c38 c k = false) : sS c k = false := by
  unfold sS
  rw [(or_f h).1]
  rfl
theorem fS_38 {c k : Nat} (h : c38 c k = false) : fS c k = false := by
  unfold fS
  rw [(or_f h).2]
  rfl
theorem pas {h : xh_H} {P X Y : cdL} (e : ptx h (P ++ X ++ Y)) : ptx h (P ++ (X ++ Y)) := by rw [← List.append_assoc]; exact e
theorem ptx_n {h h' : xh_H} {P : cdL} (p : ptx h P) (g : fx c38 fN h h') : ptx h' P := ptx_f p g rfl (fun _ => rfl) (fun _ => rfl)
set_option maxRecDepth 100000 in
set_option maxHeartbeats 4000000 in
theorem tw1_n {f p o d : Nat} {h : xh_H} (c0 : cr h T n mem nn NM p o d) (hq : a_rq a_tb h) : xq f xi_X4_takeWord xmi_X4_takeWord 0 [(0, .ref 3), (1, .float 3)] [] h (fun v h' => fx c38 fN h h') := by
  have hT : ∀ k, k < n → T k < 256 := fun k hk' => (c0.1.2.2 k hk').1
  have kb := tkk_lt (T := T) (n := n) (p := p) hT
  have n6 := c0.1.2.1
  have s6 := tks_le (T := T) (n := n) (p := p)
  have mm := c0.2.2.2.2.1
  have n16 := c0.2.2.2.2.2.2.2.2.2.1.2.1
  have o121 := c0.2.2.2.2.2.2.1
  have d13 := c0.2.2.2.2.2.2.2.2.1
  refine xq_n 5 [0, 1] [(0, .ref 3), (1, .float 3)] [.float 3, .ref 8] h [] 5 hq rfl trivial (fun hq => ?_)
  refine xq_run hq rfl rfl (iw1_q (c0.1) (c0.2.1) hq) ?_
  rintro v1 h_v1 ⟨rfl, rfl⟩
  cases b2 : (ky T n p 1) with
  | true =>
    have db2 := of_decide_eq_true b2
    refine xq_n 28 [0, 1] [(0, .ref 3), (1, .float 3)] [.ref 8] h [true] 5 hq rfl ⟨rfl, trivial⟩ (fun hq => ?_)
    have nz3 : tkk T n p ≠ 0 := by omega
    have le3 := tke_le nz3
    refine xq_run hq rfl rfl (adv_q hq hT (c0.1) (c0.2.2.1) ((c0.2.1.2.2.1 (by omega)).1) (by omega)) ?_
    rintro v3 h3 ⟨rfl, g3, t3⟩
    have hq := fx_q g3 hq
    have kb3 := tkk_lt (T := T) (n := n) (p := tke T n p) hT
    have s63 := tks_le (T := T) (n := n) (p := tke T n p)
    refine xq_n 32 [] [] [.int (Int32.ofInt 1)] h3 [] 3 hq rfl trivial (fun hq => ?_)
    exact xq_ret rfl rfl rfl (fx_t (fx_0) (fx_w g3 (fun _ _ => sS_38) (fun _ _ z => z)))
  | false =>
    have db2 := of_decide_eq_false b2
    refine xq_n 20 [0, 1] [(0, .ref 3), (1, .float 3)] [.int (xg 0 h.2.1 8 4), .int (Int32.ofInt 1), .ref 3] h [false] 8 hq rfl ⟨rfl, trivial⟩ (fun hq => ?_)
    rw [show (xg 0 h.2.1 8 4) = (nI (tks T n p)) from c0.2.1.2.1]
    refine xq_run hq rfl rfl (fail_q (k := 1) (pl := (tks T n p)) hq) ?_
    rintro v4 h4 ⟨rfl, g4, f4, l4⟩
    have hq := fx_q g4 hq
    exact xq_ret rfl rfl rfl (fx_t (fx_0) (fx_w g4 (fun _ _ => fS_38) (fun _ _ z => z)))
set_option maxRecDepth 100000 in
set_option maxHeartbeats 4000000 in
theorem tw4_n {f p o d : Nat} {h : xh_H} (c0 : cr h T n mem nn NM p o d) (hq : a_rq a_tb h) : xq f xi_X4_takeWord xmi_X4_takeWord 0 [(0, .ref 3), (1, .float 6)] [] h (fun v h' => fx c38 fN h h') := by
  have hT : ∀ k, k < n → T k < 256 := fun k hk' => (c0.1.2.2 k hk').1
  have kb := tkk_lt (T := T) (n := n) (p := p) hT
  have n6 := c0.1.2.1
  have s6 := tks_le (T := T) (n := n) (p := p)
  have mm := c0.2.2.2.2.1
  have n16 := c0.2.2.2.2.2.2.2.2.2.1.2.1
  have o121 := c0.2.2.2.2.2.2.1
  have d13 := c0.2.2.2.2.2.2.2.2.1
  refine xq_n 5 [0, 1] [(0, .ref 3), (1, .float 6)] [.float 6, .ref 8] h [] 5 hq rfl trivial (fun hq => ?_)
  refine xq_run hq rfl rfl (iw4_q (c0.1) (c0.2.1) hq) ?_
  rintro v1 h_v1 ⟨rfl, rfl⟩
  cases b2 : (ky T n p 4) with
  | true =>
    have db2 := of_decide_eq_true b2
    refine xq_n 28 [0, 1] [(0, .ref 3), (1, .float 6)] [.ref 8] h [true] 5 hq rfl ⟨rfl, trivial⟩ (fun hq => ?_)
    have nz3 : tkk T n p ≠ 0 := by omega
    have le3 := tke_le nz3
    refine xq_run hq rfl rfl (adv_q hq hT (c0.1) (c0.2.2.1) ((c0.2.1.2.2.1 (by omega)).1) (by omega)) ?_
    rintro v3 h3 ⟨rfl, g3, t3⟩
    have hq := fx_q g3 hq
    have kb3 := tkk_lt (T := T) (n := n) (p := tke T n p) hT
    have s63 := tks_le (T := T) (n := n) (p := tke T n p)
    refine xq_n 32 [] [] [.int (Int32.ofInt 1)] h3 [] 3 hq rfl trivial (fun hq => ?_)
    exact xq_ret rfl rfl rfl (fx_t (fx_0) (fx_w g3 (fun _ _ => sS_38) (fun _ _ z => z)))
  | false =>
    have db2 := of_decide_eq_false b2
    refine xq_n 20 [0, 1] [(0, .ref 3), (1, .float 6)] [.int (xg 0 h.2.1 8 4), .int (Int32.ofInt 1), .ref 3] h [false] 8 hq rfl ⟨rfl, trivial⟩ (fun hq => ?_)
    rw [show (xg 0 h.2.1 8 4) = (nI (tks T n p)) from c0.2.1.2.1]
    refine xq_run hq rfl rfl (fail_q (k := 1) (pl := (tks T n p)) hq) ?_
    rintro v4 h4 ⟨rfl, g4, f4, l4⟩
    have hq := fx_q g4 hq
    exact xq_ret rfl rfl rfl (fx_t (fx_0) (fx_w g4 (fun _ _ => fS_38) (fun _ _ z => z)))
set_option maxRecDepth 100000 in
set_option maxHeartbeats 4000000 in
theorem ts_n {f p o d c : Nat} {h : xh_H} (c4 : 40 ≤ c) (c5 : c < 256) (c0 : cr h T n mem nn NM p o d) (hq : a_rq a_tb h) : xq f xi_X4_takeSign xmi_X4_takeSign 0 [(0, .ref 3), (1, .int (nI c))] [] h (fun v h' => fx c38 fN h h') := by
  have hT : ∀ k, k < n → T k < 256 := fun k hk' => (c0.1.2.2 k hk').1
  have kb := tkk_lt (T := T) (n := n) (p := p) hT
  have n6 := c0.1.2.1
  have s6 := tks_le (T := T) (n := n) (p := p)
  have mm := c0.2.2.2.2.1
  have n16 := c0.2.2.2.2.2.2.2.2.2.1.2.1
  have o121 := c0.2.2.2.2.2.2.1
  have d13 := c0.2.2.2.2.2.2.2.2.1
  cases c1 : xe_c .eq (nI (tkk T n p)) (nI c) with
  | true =>
    have z1 : (tkk T n p) = c := nq_eqt (a := (tkk T n p)) (b := c) (by omega) (by omega) c1
    refine xq_n 28 [0, 1] [(0, .ref 3), (1, .int (nI c))] [.ref 8] h [true] 9 hq rfl ⟨(show xe_c .eq (xg 0 h.2.1 8 3) (nI c) = true by rw [show (xg 0 h.2.1 8 3) = (nI (tkk T n p)) from c0.2.1.1]; exact c1), trivial⟩ (fun hq => ?_)
    have nz2 : tkk T n p ≠ 0 := by omega
    have le2 := tke_le nz2
    refine xq_run hq rfl rfl (adv_q hq hT (c0.1) (c0.2.2.1) ((c0.2.1.2.2.1 (by omega)).1) (by omega)) ?_
    rintro v2 h2 ⟨rfl, g2, t2⟩
    have hq := fx_q g2 hq
    have kb2 := tkk_lt (T := T) (n := n) (p := tke T n p) hT
    have s62 := tks_le (T := T) (n := n) (p := tke T n p)
    refine xq_n 32 [] [] [.int (Int32.ofInt 1)] h2 [] 3 hq rfl trivial (fun hq => ?_)
    exact xq_ret rfl rfl rfl (fx_t (fx_0) (fx_w g2 (fun _ _ => sS_38) (fun _ _ z => z)))
  | false =>
    have z1 : (tkk T n p) ≠ c := nq_eqf (a := (tkk T n p)) (b := c) (by omega) (by omega) c1
    refine xq_n 20 [0, 1] [(0, .ref 3), (1, .int (nI c))] [.int (xg 0 h.2.1 8 4), .int (Int32.ofInt 1), .ref 3] h [false] 12 hq rfl ⟨(show xe_c .eq (xg 0 h.2.1 8 3) (nI c) = false by rw [show (xg 0 h.2.1 8 3) = (nI (tkk T n p)) from c0.2.1.1]; exact c1), trivial⟩ (fun hq => ?_)
    rw [show (xg 0 h.2.1 8 4) = (nI (tks T n p)) from c0.2.1.2.1]
    refine xq_run hq rfl rfl (fail_q (k := 1) (pl := (tks T n p)) hq) ?_
    rintro v3 h3 ⟨rfl, g3, f3, l3⟩
    have hq := fx_q g3 hq
    exact xq_ret rfl rfl rfl (fx_t (fx_0) (fx_w g3 (fun _ _ => fS_38) (fun _ _ z => z)))
set_option maxRecDepth 100000 in
set_option maxHeartbeats 4000000 in
theorem to_n {f p o d c : Nat} {h : xh_H} (c4 : 40 ≤ c) (c5 : c < 256) (c0 : cr h T n mem nn NM p o d) (hq : a_rq a_tb h) : xq f xi_X4_takeOpening xmi_X4_takeOpening 0 [(0, .ref 3), (1, .int (nI c))] [] h (fun v h' => fx c38 fN h h') := by
  have hT : ∀ k, k < n → T k < 256 := fun k hk' => (c0.1.2.2 k hk').1
  have kb := tkk_lt (T := T) (n := n) (p := p) hT
  have n6 := c0.1.2.1
  have s6 := tks_le (T := T) (n := n) (p := p)
  have mm := c0.2.2.2.2.1
  have n16 := c0.2.2.2.2.2.2.2.2.2.1.2.1
  have o121 := c0.2.2.2.2.2.2.1
  have d13 := c0.2.2.2.2.2.2.2.2.1
  cases c1 : xe_c .eq (nI (tkk T n p)) (nI c) with
  | true =>
    have z1 : (tkk T n p) = c := nq_eqt (a := (tkk T n p)) (b := c) (by omega) (by omega) c1
    cases c2 : xe_c .lt (nI d) 12 with
    | true =>
      have z2 : d < 12 := nq_ltt (a := d) (b := 12) (by omega) (by omega) c2
      refine xq_n 60 [0, 1] [(0, .ref 3), (1, .int (nI c))] [.ref 8] (xh_ui h 3 6 ((xg 0 h.2.1 3 6) + (Int32.ofInt 1))) [true, true] 19 hq rfl ⟨(show xe_c .eq (xg 0 h.2.1 8 3) (nI c) = true by rw [show (xg 0 h.2.1 8 3) = (nI (tkk T n p)) from c0.2.1.1]; exact c1), (show xe_c .lt (xg 0 h.2.1 3 6) 12 = true by rw [show (xg 0 h.2.1 3 6) = (nI d) from c0.2.2.2.2.2.2.2.1]; exact c2), trivial⟩ (fun _ => ?_)
      rw [show (xg 0 h.2.1 3 6) = (nI d) from c0.2.2.2.2.2.2.2.1]
      rw [show ((nI d) + (Int32.ofInt 1)) = nI (d + 1) from nI_1 _]
      have hq : a_rq a_tb (xh_ui h 3 6 (nI (d + 1))) := a_rq_ui hq
      have nz3 : tkk T n p ≠ 0 := by omega
      have le3 := tke_le nz3
      refine xq_run hq rfl rfl (adv_q hq hT (ct_f (S := cS) (L := fN) (c0.1) (fx_ui fx_0 rfl) rfl (fun _ => rfl)) ((gx_o (by decide)).trans (c0.2.2.1)) ((gx_o (by decide)).trans ((c0.2.1.2.2.1 (by omega)).1)) (by omega)) ?_
      rintro v3 h3 ⟨rfl, g3, t3⟩
      have hq := fx_q g3 hq
      have kb3 := tkk_lt (T := T) (n := n) (p := tke T n p) hT
      have s63 := tks_le (T := T) (n := n) (p := tke T n p)
      refine xq_n 64 [] [] [.int (Int32.ofInt 1)] h3 [] 3 hq rfl trivial (fun hq => ?_)
      exact xq_ret rfl rfl rfl (fx_t (fx_ui (fx_0) rfl) (fx_w g3 (fun _ _ => sS_38) (fun _ _ z => z)))
    | false =>
      have z2 : d ≥ 12 := nq_ltf (a := d) (b := 12) (by omega) (by omega) c2
      refine xq_n 42 [0, 1] [(0, .ref 3), (1, .int (nI c))] [.int (xg 0 h.2.1 8 4), .int (Int32.ofInt 4), .ref 3] h [true, false] 16 hq rfl ⟨(show xe_c .eq (xg 0 h.2.1 8 3) (nI c) = true by rw [show (xg 0 h.2.1 8 3) = (nI (tkk T n p)) from c0.2.1.1]; exact c1), (show xe_c .lt (xg 0 h.2.1 3 6) 12 = false by rw [show (xg 0 h.2.1 3 6) = (nI d) from c0.2.2.2.2.2.2.2.1]; exact c2), trivial⟩ (fun hq => ?_)
      rw [show (xg 0 h.2.1 8 4) = (nI (tks T n p)) from c0.2.1.2.1]
      refine xq_run hq rfl rfl (fail_q (k := 4) (pl := (tks T n p)) hq) ?_
      rintro v4 h4 ⟨rfl, g4, f4, l4⟩
      have hq := fx_q g4 hq
      exact xq_ret rfl rfl rfl (fx_t (fx_0) (fx_w g4 (fun _ _ => fS_38) (fun _ _ z => z)))
  | false =>
    have z1 : (tkk T n p) ≠ c := nq_eqf (a := (tkk T n p)) (b := c) (by omega) (by omega) c1
    refine xq_n 20 [0, 1] [(0, .ref 3), (1, .int (nI c))] [.int (xg 0 h.2.1 8 4), .int (Int32.ofInt 1), .ref 3] h [false] 12 hq rfl ⟨(show xe_c .eq (xg 0 h.2.1 8 3) (nI c) = false by rw [show (xg 0 h.2.1 8 3) = (nI (tkk T n p)) from c0.2.1.1]; exact c1), trivial⟩ (fun hq => ?_)
    rw [show (xg 0 h.2.1 8 4) = (nI (tks T n p)) from c0.2.1.2.1]
    refine xq_run hq rfl rfl (fail_q (k := 1) (pl := (tks T n p)) hq) ?_
    rintro v5 h5 ⟨rfl, g5, f5, l5⟩
    have hq := fx_q g5 hq
    exact xq_ret rfl rfl rfl (fx_t (fx_0) (fx_w g5 (fun _ _ => fS_38) (fun _ _ z => z)))
set_option maxRecDepth 100000 in
set_option maxHeartbeats 4000000 in
theorem co_n {f p o d st : Nat} {h : xh_H} (o6 : o ≤ 120) (c0 : cr h T n mem nn NM p o d) (hq : a_rq a_tb h) : xq f xi_X4_countOne xmi_X4_countOne 0 [(0, .ref 3), (1, .int (nI st))] [] h (fun v h' => fx c38 fN h h') := by
  have hT : ∀ k, k < n → T k < 256 := fun k hk' => (c0.1.2.2 k hk').1
  have kb := tkk_lt (T := T) (n := n) (p := p) hT
  have n6 := c0.1.2.1
  have s6 := tks_le (T := T) (n := n) (p := p)
  have mm := c0.2.2.2.2.1
  have n16 := c0.2.2.2.2.2.2.2.2.2.1.2.1
  have o121 := c0.2.2.2.2.2.2.1
  have d13 := c0.2.2.2.2.2.2.2.2.1
  cases c1 : xe_c .le (nI (o + 1)) 120 with
  | true =>
    have z1 : (o + 1) ≤ 120 := nq_let (a := (o + 1)) (b := 120) (by omega) (by omega) c1
    refine xq_n 33 [] [] [.int (Int32.ofInt 1)] (xh_ui h 3 5 ((xg 0 h.2.1 3 5) + (Int32.ofInt 1))) [true] 14 hq rfl ⟨(show xe_c .le (xg 0 (xh_ui h 3 5 ((xg 0 h.2.1 3 5) + (Int32.ofInt 1))).2.1 3 5) 120 = true by rw [show (xg 0 (xh_ui h 3 5 ((xg 0 h.2.1 3 5) + (Int32.ofInt 1))).2.1 3 5) = ((xg 0 h.2.1 3 5) + (Int32.ofInt 1)) from gx_s, show (xg 0 h.2.1 3 5) = (nI o) from c0.2.2.2.2.2.1, show ((nI o) + (Int32.ofInt 1)) = nI (o + 1) from nI_1 _]; exact c1), trivial⟩ (fun _ => ?_)
    rw [show (xg 0 h.2.1 3 5) = (nI o) from c0.2.2.2.2.2.1]
    rw [show ((nI o) + (Int32.ofInt 1)) = nI (o + 1) from nI_1 _]
    have hq : a_rq a_tb (xh_ui h 3 5 (nI (o + 1))) := a_rq_ui hq
    exact xq_ret rfl rfl rfl (fx_ui (fx_0) rfl)
  | false =>
    have z1 : (o + 1) > 120 := nq_lef (a := (o + 1)) (b := 120) (by omega) (by omega) c1
    refine xq_n 22 [0, 1] [(0, .ref 3), (1, .int (nI st))] [.int (nI st), .int (Int32.ofInt 4), .ref 3] (xh_ui h 3 5 ((xg 0 h.2.1 3 5) + (Int32.ofInt 1))) [false] 15 hq rfl ⟨(show xe_c .le (xg 0 (xh_ui h 3 5 ((xg 0 h.2.1 3 5) + (Int32.ofInt 1))).2.1 3 5) 120 = false by rw [show (xg 0 (xh_ui h 3 5 ((xg 0 h.2.1 3 5) + (Int32.ofInt 1))).2.1 3 5) = ((xg 0 h.2.1 3 5) + (Int32.ofInt 1)) from gx_s, show (xg 0 h.2.1 3 5) = (nI o) from c0.2.2.2.2.2.1, show ((nI o) + (Int32.ofInt 1)) = nI (o + 1) from nI_1 _]; exact c1), trivial⟩ (fun _ => ?_)
    rw [show (xg 0 h.2.1 3 5) = (nI o) from c0.2.2.2.2.2.1]
    rw [show ((nI o) + (Int32.ofInt 1)) = nI (o + 1) from nI_1 _]
    have hq : a_rq a_tb (xh_ui h 3 5 (nI (o + 1))) := a_rq_ui hq
    refine xq_run hq rfl rfl (fail_q (k := 4) (pl := st) hq) ?_
    rintro v2 h2 ⟨rfl, g2, f2, l2⟩
    have hq := fx_q g2 hq
    refine xq_n 33 [] [] [.int (Int32.ofInt 0)] h2 [true] 4 hq rfl ⟨(by decide), trivial⟩ (fun hq => ?_)
    exact xq_ret rfl rfl rfl (fx_t (fx_ui (fx_0) rfl) (fx_w g2 (fun _ _ => fS_38) (fun _ _ z => z)))
def nh_P (h : xh_H) (nn : Nat) (NW : Nat → Nat) (w : Nat) (v : Option Value) (h' : xh_H) : Prop := h = h' ∧ ((v = some (.int (Int32.ofInt (-1))) ∧ hasn nn NW w = false) ∨ (nmi nn NW w < nn ∧ v = some (.int (nI (nmi nn NW w))) ∧ hasn nn NW w = true))
theorem fr_1 {NW : Nat → Nat} {w i : Nat} : ∀ (k j : Nat), j ≤ i → i < j + k → (∀ x, j ≤ x → x < i → NW x ≠ w) → NW i = w → ((List.range' j k).find? (fun k => Nat.beq (NW k) w)) = some i := by
  intro k
  induction k with
  | zero => intro j h1 h2; omega
  | succ k ih =>
    intro j h1 h2 ha he
    rw [List.range'_succ, List.find?_cons]
    by_cases e : j = i
    · rw [e, he, Nat.beq_refl]
    · have : Nat.beq (NW j) w = false := by
        rw [Bool.eq_false_iff]
        intro z
        exact ha j (Nat.le_refl _) (by omega) (Nat.eq_of_beq_eq_true z)
      rw [this]
      exact ih (j + 1) (by omega) (by omega) (fun x y1 y2 => ha x (by omega) y2) he
theorem nmi_1 {NW : Nat → Nat} {w nn i : Nat} (hi : i < nn) (ha : ∀ j, j < i → NW j ≠ w) (he : NW i = w) : nmi nn NW w = i := by
  unfold nmi
  rw [List.range_eq_range', fr_1 nn 0 (Nat.zero_le _) (by omega) (fun x _ y => ha x y) he]
  rfl
set_option maxRecDepth 100000 in
set_option maxHeartbeats 4000000 in
theorem tp_lp {p o d : Nat} {h : xh_H} (c0 : cr h T n mem nn NM p o d) (h2 : tkk T n p = 2) : ∀ (f i : Nat), a_rq a_tb h → i ≤ nn → (∀ j, j < i → nmW T NM j ≠ tkw T n p) → xq f xi_X4_toldName xmi_X4_toldName 2 [(0, .ref 3), (1, .int (nI i))] [] h (nh_P h nn (nmW T NM) (tkw T n p)) := by
  have hT : ∀ k, k < n → T k < 256 := fun k hk' => (c0.1.2.2 k hk').1
  have tk := c0.2.1
  have kb := tkk_lt (T := T) (n := n) (p := p) hT
  have n6 := c0.1.2.1
  have n16 := c0.2.2.2.2.2.2.2.2.2.1.2.1
  intro f
  induction f with
  | zero => intros; exact xq_0
  | succ f ih =>
    intro i hq hi ha
    cases c1 : xe_c .ge (nI i) (nI nn) with
    | true =>
      have z1 : i ≥ nn := nq_get (a := i) (b := nn) (by omega) (by omega) c1
      refine xq_m 41 [] [] [.int (Int32.ofInt (-1))] h [true] 7 hq rfl ⟨(show xe_c .ge (nI i) (xg 0 h.2.1 3 7) = true by rw [show (xg 0 h.2.1 3 7) = (nI nn) from c0.2.2.2.2.2.2.2.2.2.1.1]; exact c1), trivial⟩ (fun hq => ?_)
      exact xq_ret rfl rfl rfl ⟨rfl, Or.inl ⟨rfl, decide_eq_false (fun ⟨j, y1, y2⟩ => ha j (by omega) y2)⟩⟩
    | false =>
      have z1 : i < nn := nq_gef (a := i) (b := nn) (by omega) (by omega) c1
      refine xq_m 26 [0, 1] [(0, .ref 3), (1, .int (nI i))] [.int (xg 0 h.2.1 10 ((nI i).toNatClampNeg)), .int (xg 0 h.2.1 9 ((nI i).toNatClampNeg)), .ref 8] h [false] 16 hq rfl ⟨(show xe_c .ge (nI i) (xg 0 h.2.1 3 7) = false by rw [show (xg 0 h.2.1 3 7) = (nI nn) from c0.2.2.2.2.2.2.2.2.2.1.1]; exact c1), trivial⟩ (fun hq => ?_)
      rw [show (xg 0 h.2.1 10 ((nI i).toNatClampNeg)) = (nI (NM i).2) from (by rw [show ((nI i).toNatClampNeg) = i from nI_clamp (by omega)]; exact (c0.2.2.2.2.2.2.2.2.2.1.2.2 _ (by omega)).2.1)]
      rw [show (xg 0 h.2.1 9 ((nI i).toNatClampNeg)) = (nI (NM i).1) from (by rw [show ((nI i).toNatClampNeg) = i from nI_clamp (by omega)]; exact (c0.2.2.2.2.2.2.2.2.2.1.2.2 _ (by omega)).1)]
      have n2 := c0.2.2.2.2.2.2.2.2.2.1.2.2 i (by omega)
      refine xq_run hq rfl rfl (lk_q c0.1 tk h2 n2.2.2.2.1 n2.2.2.1 n2.2.2.2.2 hq) ?_
      rintro v3 h_v3 ⟨rfl, rfl⟩
      cases b4 : (decide (wv T (NM i).1 ((NM i).2 - (NM i).1) = tkw T n p)) with
      | true =>
        have db4 := of_decide_eq_true b4
        refine xq_n 33 [] [] [.int (nI i)] h [false] 4 hq rfl ⟨rfl, trivial⟩ (fun hq => ?_)
        have en := nmi_1 (NW := nmW T NM) (nn := nn) (i := i) (w := tkw T n p) (by omega) ha db4
        exact xq_ret rfl rfl rfl ⟨rfl, Or.inr ⟨by omega, by rw [en], decide_eq_true ⟨i, by omega, db4⟩⟩⟩
      | false =>
        have db4 := of_decide_eq_false b4
        refine xq_n 2 [0, 1] [(0, .ref 3), (1, .int ((nI i) + Int32.ofInt 1))] [] h [true] 5 hq rfl ⟨rfl, trivial⟩ (fun hq => ?_)
        rw [show ((nI i) + Int32.ofInt 1) = nI (i + 1) from nI_1 _]
        exact ih (i + 1) hq (by omega) (fun j hj => by
          by_cases ek : j = i
          · rw [ek]; exact db4
          · exact ha j (by omega))
set_option maxRecDepth 100000 in
set_option maxHeartbeats 4000000 in
theorem tp_q {f p o d : Nat} {h : xh_H} (c0 : cr h T n mem nn NM p o d) (h2 : tkk T n p = 2) (hq : a_rq a_tb h) : xq f xi_X4_toldName xmi_X4_toldName 0 [(0, .ref 3)] [] h (nh_P h nn (nmW T NM) (tkw T n p)) := by
  refine xq_n 2 [0, 1] [(0, .ref 3), (1, .int (Int32.ofInt 0))] [] h [] 4 hq rfl trivial (fun hq => ?_)
  exact tp_lp c0 h2 f 0 hq (Nat.zero_le _) (fun j hj => absurd hj (Nat.not_lt_zero j))
set_option maxRecDepth 100000 in
set_option maxHeartbeats 4000000 in
theorem tnn_n {f p o d : Nat} {h : xh_H} (c0 : cr h T n mem nn NM p o d) (hq : a_rq a_tb h) : xq f xi_X4_takeNewName xmi_X4_takeNewName 0 [(0, .ref 3)] [] h (fun v h' => fx c38 fN h h') := by
  have hT : ∀ k, k < n → T k < 256 := fun k hk' => (c0.1.2.2 k hk').1
  have kb := tkk_lt (T := T) (n := n) (p := p) hT
  have n6 := c0.1.2.1
  have s6 := tks_le (T := T) (n := n) (p := p)
  have mm := c0.2.2.2.2.1
  have n16 := c0.2.2.2.2.2.2.2.2.2.1.2.1
  have o121 := c0.2.2.2.2.2.2.1
  have d13 := c0.2.2.2.2.2.2.2.2.1
  refine xq_n 4 [0] [(0, .ref 3)] [.ref 8] h [] 4 hq rfl trivial (fun hq => ?_)
  refine xq_run hq rfl rfl (nm_q (c0.1) (c0.2.1) hq) ?_
  rintro v1 h_v1 ⟨rfl, rfl⟩
  cases b2 : (nmt T n p) with
  | true =>
    have db2 := of_decide_eq_true b2
    refine xq_n 24 [0] [(0, .ref 3)] [.ref 3] h [true] 4 hq rfl ⟨rfl, trivial⟩ (fun hq => ?_)
    refine xq_run hq rfl rfl (tp_q c0 (by omega) hq) ?_
    rintro v3 h_3 ⟨rfl, ⟨rfl, hn3⟩ | ⟨kl3, rfl, hn3⟩⟩
    · skip
      cases c4 : xe_c .lt (nI nn) 16 with
      | true =>
        have z4 : nn < 16 := nq_ltt (a := nn) (b := 16) (by omega) (by omega) c4
        refine xq_n 70 [0] [(0, .ref 3)] [.ref 8] h [true, true] 10 hq rfl ⟨(by decide), (show xe_c .lt (xg 0 h.2.1 3 7) 16 = true by rw [show (xg 0 h.2.1 3 7) = (nI nn) from c0.2.2.2.2.2.2.2.2.2.1.1]; exact c4), trivial⟩ (fun hq => ?_)
        have nz5 : tkk T n p ≠ 0 := by omega
        have le5 := tke_le nz5
        refine xq_run hq rfl rfl (adv_q hq hT (c0.1) (c0.2.2.1) ((c0.2.1.2.2.1 (by omega)).1) (by omega)) ?_
        rintro v5 h5 ⟨rfl, g5, t5⟩
        have hq := fx_q g5 hq
        have kb5 := tkk_lt (T := T) (n := n) (p := tke T n p) hT
        have s65 := tks_le (T := T) (n := n) (p := tke T n p)
        refine xq_n 74 [] [] [.int (Int32.ofInt 1)] h5 [] 3 hq rfl trivial (fun hq => ?_)
        exact xq_ret rfl rfl rfl (fx_t (fx_0) (fx_w g5 (fun _ _ => sS_38) (fun _ _ z => z)))
      | false =>
        have z4 : nn ≥ 16 := nq_ltf (a := nn) (b := 16) (by omega) (by omega) c4
        refine xq_n 62 [0] [(0, .ref 3)] [.int (xg 0 h.2.1 8 4), .int (Int32.ofInt 4), .ref 3] h [true, false] 13 hq rfl ⟨(by decide), (show xe_c .lt (xg 0 h.2.1 3 7) 16 = false by rw [show (xg 0 h.2.1 3 7) = (nI nn) from c0.2.2.2.2.2.2.2.2.2.1.1]; exact c4), trivial⟩ (fun hq => ?_)
        rw [show (xg 0 h.2.1 8 4) = (nI (tks T n p)) from c0.2.1.2.1]
        refine xq_run hq rfl rfl (fail_q (k := 4) (pl := (tks T n p)) hq) ?_
        rintro v6 h6 ⟨rfl, g6, f6, l6⟩
        have hq := fx_q g6 hq
        exact xq_ret rfl rfl rfl (fx_t (fx_0) (fx_w g6 (fun _ _ => fS_38) (fun _ _ z => z)))
    · skip
      cases c7 : xe_c .eq (nI (nmi nn (nmW T NM) (tkw T n p))) (Int32.ofInt (-1)) with
      | true =>
        exact absurd (of_decide_eq_true c7) (nIm1 (by omega))
      | false =>
        refine xq_n 40 [0] [(0, .ref 3)] [.int (xg 0 h.2.1 8 4), .int (Int32.ofInt 3), .ref 3] h [false] 9 hq rfl ⟨c7, trivial⟩ (fun hq => ?_)
        rw [show (xg 0 h.2.1 8 4) = (nI (tks T n p)) from c0.2.1.2.1]
        refine xq_run hq rfl rfl (fail_q (k := 3) (pl := (tks T n p)) hq) ?_
        rintro v8 h8 ⟨rfl, g8, f8, l8⟩
        have hq := fx_q g8 hq
        exact xq_ret rfl rfl rfl (fx_t (fx_0) (fx_w g8 (fun _ _ => fS_38) (fun _ _ z => z)))
  | false =>
    have db2 := of_decide_eq_false b2
    refine xq_n 19 [0] [(0, .ref 3)] [.int (xg 0 h.2.1 8 4), .int (Int32.ofInt 1), .ref 3] h [false] 8 hq rfl ⟨rfl, trivial⟩ (fun hq => ?_)
    rw [show (xg 0 h.2.1 8 4) = (nI (tks T n p)) from c0.2.1.2.1]
    refine xq_run hq rfl rfl (fail_q (k := 1) (pl := (tks T n p)) hq) ?_
    rintro v9 h9 ⟨rfl, g9, f9, l9⟩
    have hq := fx_q g9 hq
    exact xq_ret rfl rfl rfl (fx_t (fx_0) (fx_w g9 (fun _ _ => fS_38) (fun _ _ z => z)))
set_option maxRecDepth 100000 in
set_option maxHeartbeats 4000000 in
theorem te_n {f p o d : Nat} {h : xh_H} (c0 : cr h T n mem nn NM p o d) (hq : a_rq a_tb h) : xq f xi_X4_takeEnd xmi_X4_takeEnd 0 [(0, .ref 3)] [] h (fun v h' => fx c38 fN h h') := by
  have hT : ∀ k, k < n → T k < 256 := fun k hk' => (c0.1.2.2 k hk').1
  have kb := tkk_lt (T := T) (n := n) (p := p) hT
  have n6 := c0.1.2.1
  have s6 := tks_le (T := T) (n := n) (p := p)
  have mm := c0.2.2.2.2.1
  have n16 := c0.2.2.2.2.2.2.2.2.2.1.2.1
  have o121 := c0.2.2.2.2.2.2.1
  have d13 := c0.2.2.2.2.2.2.2.2.1
  cases c1 : xe_c .ne (nI (tkk T n p)) 0 with
  | true =>
    have z1 : (tkk T n p) ≠ 0 := nq_net (a := (tkk T n p)) (b := 0) (by omega) (by omega) c1
    refine xq_n 39 [0, 1] [(0, .ref 3), (1, .int (Int32.ofInt 0))] [.int (xg 0 h.2.1 8 4), .int (Int32.ofInt 1), .ref 3] h [true, false] 15 hq rfl ⟨(show xe_c .ne (xg 0 h.2.1 8 3) 0 = true by rw [show (xg 0 h.2.1 8 3) = (nI (tkk T n p)) from c0.2.1.1]; exact c1), (by decide), trivial⟩ (fun hq => ?_)
    rw [show (xg 0 h.2.1 8 4) = (nI (tks T n p)) from c0.2.1.2.1]
    refine xq_run hq rfl rfl (fail_q (k := 1) (pl := (tks T n p)) hq) ?_
    rintro v2 h2 ⟨rfl, g2, f2, l2⟩
    have hq := fx_q g2 hq
    refine xq_n 50 [] [] [.int (Int32.ofInt 0)] h2 [true] 4 hq rfl ⟨(by decide), trivial⟩ (fun hq => ?_)
    exact xq_ret rfl rfl rfl (fx_t (fx_0) (fx_w g2 (fun _ _ => fS_38) (fun _ _ z => z)))
  | false =>
    have z1 : (tkk T n p) = 0 := nq_nef (a := (tkk T n p)) (b := 0) (by omega) (by omega) c1
    refine xq_n 14 [0] [(0, .ref 3)] [.ref 8] h [false] 8 hq rfl ⟨(show xe_c .ne (xg 0 h.2.1 8 3) 0 = false by rw [show (xg 0 h.2.1 8 3) = (nI (tkk T n p)) from c0.2.1.1]; exact c1), trivial⟩ (fun hq => ?_)
    refine xq_run hq rfl rfl (cut_q (c0.1) hq) ?_
    rintro v3 h_v3 ⟨rfl, rfl⟩
    cases b4 : (decide (600 < n)) with
    | true =>
      have db4 := of_decide_eq_true b4
      refine xq_n 39 [0, 1] [(0, .ref 3), (1, .int (Int32.ofInt 0))] [.int (xg 0 h.2.1 8 4), .int (Int32.ofInt 1), .ref 3] h [true, false] 12 hq rfl ⟨rfl, (by decide), trivial⟩ (fun hq => ?_)
      rw [show (xg 0 h.2.1 8 4) = (nI (tks T n p)) from c0.2.1.2.1]
      refine xq_run hq rfl rfl (fail_q (k := 1) (pl := (tks T n p)) hq) ?_
      rintro v5 h5 ⟨rfl, g5, f5, l5⟩
      have hq := fx_q g5 hq
      refine xq_n 50 [] [] [.int (Int32.ofInt 0)] h5 [true] 4 hq rfl ⟨(by decide), trivial⟩ (fun hq => ?_)
      exact xq_ret rfl rfl rfl (fx_t (fx_0) (fx_w g5 (fun _ _ => fS_38) (fun _ _ z => z)))
    | false =>
      have db4 := of_decide_eq_false b4
      refine xq_n 50 [] [] [.int (Int32.ofInt 1)] h [false, true] 10 hq rfl ⟨rfl, (by decide), trivial⟩ (fun hq => ?_)
      exact xq_ret rfl rfl rfl (fx_0)
set_option maxRecDepth 100000 in
set_option maxHeartbeats 4000000 in
theorem nmb_n {f p o d : Nat} {h : xh_H} {P : cdL} (hl : lone T n p = true) (pt : ptx h P) (l4 : P.length < 400) (c0 : cr h T n mem nn NM p o d) (hq : a_rq a_tb h) : xq f xi_X4_noteMember xmi_X4_noteMember 0 [(0, .ref 3)] [] h (fun v h' => v = some (.int 1) → ptx h' (P ++ [(0, nI (T (tks T n p) - 97))])) := by
  have hT : ∀ k, k < n → T k < 256 := fun k hk' => (c0.1.2.2 k hk').1
  have kb := tkk_lt (T := T) (n := n) (p := p) hT
  have n6 := c0.1.2.1
  have s6 := tks_le (T := T) (n := n) (p := p)
  have mm := c0.2.2.2.2.1
  have n16 := c0.2.2.2.2.2.2.2.2.2.1.2.1
  have o121 := c0.2.2.2.2.2.2.1
  have d13 := c0.2.2.2.2.2.2.2.2.1
  have dl := of_decide_eq_true hl
  have gt := tke_gt (T := T) (n := n) (p := p) (by omega)
  have l1 := (tk2 dl.1).2.2 (tks T n p) (by omega) (by omega)
  refine xq_n 4 [0] [(0, .ref 3)] [.ref 8] h [] 4 hq rfl trivial (fun hq => ?_)
  refine xq_run hq rfl rfl (let_q (c0.1) (c0.2.1) (by omega) hq) ?_
  rintro v1 h_v1 ⟨rfl, rfl⟩
  cases c2 : xe_c .lt (nI (T (tks T n p) - 97)) 0 with
  | true =>
    have z2 : (T (tks T n p) - 97) < 0 := nq_ltt (a := (T (tks T n p) - 97)) (b := 0) (by omega) (by omega) c2
    omega
  | false =>
    have z2 : (T (tks T n p) - 97) ≥ 0 := nq_ltf (a := (T (tks T n p) - 97)) (b := 0) (by omega) (by omega) c2
    cases c3 : xe_c .lt (nI (T (tks T n p) - 97)) (nI mem) with
    | true =>
      have z3 : (T (tks T n p) - 97) < mem := nq_ltt (a := (T (tks T n p) - 97)) (b := mem) (by omega) (by omega) c3
      refine xq_n 39 [0, 1] [(0, .ref 3), (1, .int (nI (T (tks T n p) - 97)))] [.int (nI (T (tks T n p) - 97)), .int (Int32.ofInt 0), .ref 4] h [false, true] 13 hq rfl ⟨c2, (show xe_c .lt (nI (T (tks T n p) - 97)) (xg 0 h.2.1 3 4) = true by rw [show (xg 0 h.2.1 3 4) = (nI mem) from c0.2.2.2.1]; exact c3), trivial⟩ (fun hq => ?_)
      refine xq_run hq rfl rfl (pad_q (c := 0) (y := nI (T (tks T n p) - 97)) (pt) (by first | omega | (simp only [List.length_append, List.length_cons, List.length_nil]; omega)) hq) ?_
      rintro v4 h4 ⟨rfl, g4, x4⟩
      have hq := fx_q g4 hq
      refine xq_n 43 [] [] [.int (Int32.ofInt 1)] h4 [] 3 hq rfl trivial (fun hq => ?_)
      exact xq_ret rfl rfl rfl (fun _ => x4)
    | false =>
      have z3 : (T (tks T n p) - 97) ≥ mem := nq_ltf (a := (T (tks T n p) - 97)) (b := mem) (by omega) (by omega) c3
      refine xq_n 29 [0, 1] [(0, .ref 3), (1, .int (nI (T (tks T n p) - 97)))] [.int (xg 0 h.2.1 8 4), .int (Int32.ofInt 2), .ref 3] h [false, false] 14 hq rfl ⟨c2, (show xe_c .lt (nI (T (tks T n p) - 97)) (xg 0 h.2.1 3 4) = false by rw [show (xg 0 h.2.1 3 4) = (nI mem) from c0.2.2.2.1]; exact c3), trivial⟩ (fun hq => ?_)
      rw [show (xg 0 h.2.1 8 4) = (nI (tks T n p)) from c0.2.1.2.1]
      refine xq_run hq rfl rfl (fail_q (k := 2) (pl := (tks T n p)) hq) ?_
      rintro v5 h5 ⟨rfl, g5, f5, l5⟩
      have hq := fx_q g5 hq
      exact xq_ret rfl rfl rfl (fun e => absurd e (by decide))
set_option maxRecDepth 100000 in
set_option maxHeartbeats 4000000 in
theorem nnm_n {f p o d : Nat} {h : xh_H} {P : cdL} (pt : ptx h P) (l4 : P.length < 400) (c0 : cr h T n mem nn NM p o d) (hq : a_rq a_tb h) : xq f xi_X4_noteName xmi_X4_noteName 0 [(0, .ref 3)] [] h (fun v h' => v = some (.int 1) → nmi nn (nmW T NM) (tkw T n p) < nn ∧ ptx h' (P ++ [(1, nI (nmi nn (nmW T NM) (tkw T n p)))])) := by
  have hT : ∀ k, k < n → T k < 256 := fun k hk' => (c0.1.2.2 k hk').1
  have kb := tkk_lt (T := T) (n := n) (p := p) hT
  have n6 := c0.1.2.1
  have s6 := tks_le (T := T) (n := n) (p := p)
  have mm := c0.2.2.2.2.1
  have n16 := c0.2.2.2.2.2.2.2.2.2.1.2.1
  have o121 := c0.2.2.2.2.2.2.1
  have d13 := c0.2.2.2.2.2.2.2.2.1
  refine xq_n 4 [0] [(0, .ref 3)] [.ref 8] h [] 4 hq rfl trivial (fun hq => ?_)
  refine xq_run hq rfl rfl (nm_q (c0.1) (c0.2.1) hq) ?_
  rintro v1 h_v1 ⟨rfl, rfl⟩
  cases b2 : (nmt T n p) with
  | true =>
    have db2 := of_decide_eq_true b2
    refine xq_n 24 [0] [(0, .ref 3)] [.ref 3] h [true] 4 hq rfl ⟨rfl, trivial⟩ (fun hq => ?_)
    refine xq_run hq rfl rfl (tp_q c0 (by omega) hq) ?_
    rintro v3 h_3 ⟨rfl, ⟨rfl, hn3⟩ | ⟨kl3, rfl, hn3⟩⟩
    · skip
      refine xq_n 42 [0, 1] [(0, .ref 3), (1, .int (Int32.ofInt (-1)))] [.int (xg 0 h.2.1 8 4), .int (Int32.ofInt 3), .ref 3] h [false] 11 hq rfl ⟨(by decide), trivial⟩ (fun hq => ?_)
      rw [show (xg 0 h.2.1 8 4) = (nI (tks T n p)) from c0.2.1.2.1]
      refine xq_run hq rfl rfl (fail_q (k := 3) (pl := (tks T n p)) hq) ?_
      rintro v4 h4 ⟨rfl, g4, f4, l4⟩
      have hq := fx_q g4 hq
      exact xq_ret rfl rfl rfl (fun e => absurd e (by decide))
    · skip
      cases c5 : xe_c .ne (nI (nmi nn (nmW T NM) (tkw T n p))) (Int32.ofInt (-1)) with
      | true =>
        refine xq_n 52 [0, 1] [(0, .ref 3), (1, .int (nI (nmi nn (nmW T NM) (tkw T n p))))] [.int (nI (nmi nn (nmW T NM) (tkw T n p))), .int (Int32.ofInt 1), .ref 4] h [true] 10 hq rfl ⟨c5, trivial⟩ (fun hq => ?_)
        refine xq_run hq rfl rfl (pad_q (c := 1) (y := nI (nmi nn (nmW T NM) (tkw T n p))) (pt) (by first | omega | (simp only [List.length_append, List.length_cons, List.length_nil]; omega)) hq) ?_
        rintro v6 h6 ⟨rfl, g6, x6⟩
        have hq := fx_q g6 hq
        refine xq_n 56 [] [] [.int (Int32.ofInt 1)] h6 [] 3 hq rfl trivial (fun hq => ?_)
        exact xq_ret rfl rfl rfl (fun _ => ⟨kl3, x6⟩)
      | false =>
        exact absurd (xne_j c5) (nIm1 (by omega))
  | false =>
    have db2 := of_decide_eq_false b2
    refine xq_n 19 [0] [(0, .ref 3)] [.int (xg 0 h.2.1 8 4), .int (Int32.ofInt 1), .ref 3] h [false] 8 hq rfl ⟨rfl, trivial⟩ (fun hq => ?_)
    rw [show (xg 0 h.2.1 8 4) = (nI (tks T n p)) from c0.2.1.2.1]
    refine xq_run hq rfl rfl (fail_q (k := 1) (pl := (tks T n p)) hq) ?_
    rintro v7 h7 ⟨rfl, g7, f7, l7⟩
    have hq := fx_q g7 hq
    exact xq_ret rfl rfl rfl (fun e => absurd e (by decide))
end XPR
end
section
section XPS2
variable {T : Nat → Nat} {n mem nn : Nat} {NM : Nat → Nat × Nat}
def rP (h : xh_H) (T : Nat → Nat) (n mem nn : Nat) (NM : Nat → Nat × Nat) (o d : Nat) (P : cdL) (m : Nat) (G : Nat → Nat → cdL → Prop) (v : Option Value) (h' : xh_H) : Prop := fx cS fN h h' ∧ ((v = some (.int 1) ∧ ∃ p' o' c, cr h' T n mem nn NM p' o' d ∧ o < o' ∧ o' ≤ 120 ∧ ptx h' (P ++ c) ∧ c.length + m ≤ 3 * (o' - o) ∧ G p' o' c) ∨ (v = some (.int 0) ∧ ∃ k, xg 0 h'.2.1 3 8 = nI k ∧ 1 ≤ k ∧ k ≤ 4))
section
variable (T : Nat → Nat) (n mem nn : Nat) (NM : Nat → Nat × Nat)
def pOne (f : Nat) : Prop := ∀ (h : xh_H) (p o d : Nat) (P : cdL), cr h T n mem nn NM p o d → ptx h P → P.length ≤ 3 * o + 16 → o ≤ 120 → d ≤ 12 → a_rq a_tb h → xq f xi_X4_readOne xmi_X4_readOne 0 [(0, .ref 3)] [] h (rP h T n mem nn NM o d P 2 (VO T n mem nn (nmW T NM) d p o))
def pAll (f : Nat) : Prop := ∀ (h : xh_H) (p o d : Nat) (P : cdL), cr h T n mem nn NM p o d → ptx h P → P.length ≤ 3 * o + 16 → o ≤ 120 → d ≤ 12 → a_rq a_tb h → xq f xi_X4_readAll xmi_X4_readAll 0 [(0, .ref 3)] [] h (rP h T n mem nn NM o d P 2 (fun p' o' c => ky T n p' 2 = false ∧ VA T n mem nn (nmW T NM) d p o p' o' c))
def pRule (f : Nat) : Prop := ∀ (h : xh_H) (p o d : Nat) (P : cdL), cr h T n mem nn NM p o d → ptx h P → P.length ≤ 3 * o + 16 → o ≤ 120 → d ≤ 12 → a_rq a_tb h → xq f xi_X4_readRule xmi_X4_readRule 0 [(0, .ref 3)] [] h (rP h T n mem nn NM o d P 2 (fun p' o' c => ky T n p' 2 = false ∧ ky T n p' 3 = false ∧ VR T n mem nn (nmW T NM) d p o p' o' c))
def pItem (f : Nat) : Prop := ∀ (h : xh_H) (p o d : Nat) (P : cdL), cr h T n mem nn NM p o d → ptx h P → P.length ≤ 3 * o + 16 → o ≤ 120 → d ≤ 12 → a_rq a_tb h → xq f xi_X4_readItem xmi_X4_readItem 0 [(0, .ref 3)] [] h (rP h T n mem nn NM o d P 1 (VI T n mem nn (nmW T NM) d p o))
def pQuota (f : Nat) : Prop := ∀ (h : xh_H) (p o d st num : Nat) (P : cdL), cr h T n mem nn NM p o d → ptx h P → P.length ≤ 3 * o + 16 → o ≤ 120 → d ≤ 12 → num ≤ 999 → a_rq a_tb h → xq f xi_X4_readQuota xmi_X4_readQuota 0 [(0, .ref 3), (1, .int (nI st)), (2, .int (nI num))] [] h (rP h T n mem nn NM o d P 2 (VQ T n mem nn (nmW T NM) d p o st num))
end
set_option maxRecDepth 100000 in
set_option maxHeartbeats 4000000 in
theorem one_p {f : Nat} (iq : pQuota T n mem nn NM f) (ir : pRule T n mem nn NM f) : pOne T n mem nn NM (f + 1) := by
  intro h p o d P c0 pt pl o6 d12 hq
  have hT : ∀ k, k < n → T k < 256 := fun k hk' => (c0.1.2.2 k hk').1
  have kb := tkk_lt (T := T) (n := n) (p := p) hT
  have n6 := c0.1.2.1
  have s6 := tks_le (T := T) (n := n) (p := p)
  have mm := c0.2.2.2.2.1
  have n16 := c0.2.2.2.2.2.2.2.2.2.1.2.1
  have t9 : tkn T n p ≤ 999 := vf_999
  cases c1 : xe_c .ne (nI (tkk T n p)) (Int32.ofInt 3) with
  | true =>
    have z1 : (tkk T n p) ≠ 3 := nq_net (a := (tkk T n p)) (b := 3) (by omega) (by omega) c1
    cases c2 : xe_c .ne (nI (tkk T n p)) 40 with
    | true =>
      have z2 : (tkk T n p) ≠ 40 := nq_net (a := (tkk T n p)) (b := 40) (by omega) (by omega) c2
      refine xq_m 108 [0, 1] [(0, .ref 3), (1, .int (xg 0 h.2.1 8 4))] [.ref 8] h [true, true] 18 hq rfl ⟨(show xe_c .ne (xg 0 h.2.1 8 3) (Int32.ofInt 3) = true by rw [show (xg 0 h.2.1 8 3) = (nI (tkk T n p)) from c0.2.1.1]; exact c1), (show xe_c .ne (xg 0 h.2.1 8 3) 40 = true by rw [show (xg 0 h.2.1 8 3) = (nI (tkk T n p)) from c0.2.1.1]; exact c2), trivial⟩ (fun hq => ?_)
      rw [show (xg 0 h.2.1 8 4) = (nI (tks T n p)) from c0.2.1.2.1]
      refine xq_run hq rfl rfl (lo_q (c0.1) (c0.2.1) hq) ?_
      rintro v3 h_v3 ⟨rfl, rfl⟩
      cases b4 : (lone T n p) with
      | true =>
        have db4 := of_decide_eq_true b4
        refine xq_n 115 [0, 1] [(0, .ref 3), (1, .int (nI (tks T n p)))] [.ref 3] h [false] 4 hq rfl ⟨rfl, trivial⟩ (fun hq => ?_)
        refine xq_run hq rfl rfl (xq_and (nmb_q b4 c0 hq) (nmb_n b4 (pt) (by omega) c0 hq)) ?_
        rintro v5 h5 ⟨⟨g5, l5, q5⟩, n5⟩
        have hq := fx_q g5 hq
        by_cases w5_0 : mem ≤ T (tks T n p) - 97
        · obtain ⟨rfl, f5, y5, z5, e65, e5⟩ := q5 2 (tks T n p) (by unfold kM; rw [if_pos w5_0])
          refine xq_n 149 [0, 1, 2] [(0, .ref 3), (1, .int (nI (tks T n p))), (2, .int (Int32.ofInt 0))] [.ref 8] h5 [true] 7 hq rfl ⟨(by decide), trivial⟩ (fun hq => ?_)
          refine xq_run hq rfl rfl (adv_q hq hT (ct_f (S := cS) (L := fN) (c0.1) (g5) rfl (fun _ => rfl)) ((fx_i g5 rfl).trans (c0.2.2.1)) e5 e65) ?_
          rintro v6 h6 ⟨rfl, g6, -⟩
          have hq := fx_q g6 hq
          refine xq_n 153 [] [] [.int (Int32.ofInt 0)] h6 [] 3 hq rfl trivial (fun hq => ?_)
          exact xq_ret rfl rfl rfl ⟨fx_t (fx_t (fx_0) (g5)) (fx_w g6 (fun _ _ => sS_c) (fun _ _ z => z)), Or.inr ⟨rfl, _, (fx_i g6 rfl).trans (f5), by omega, by omega⟩⟩
        · skip
          obtain ⟨rfl, c5⟩ := l5 (p) (o) (d) (by unfold kM; rw [if_neg w5_0])
          have x5 : ptx h5 (P ++ [(0, nI (T (tks T n p) - 97))]) := by simpa only [List.append_assoc] using (n5 rfl)
          have kb5 := tkk_lt (T := T) (n := n) (p := p) hT
          have s65 := tks_le (T := T) (n := n) (p := p)
          refine xq_n 133 [0, 1] [(0, .ref 3), (1, .int (nI (tks T n p)))] [.int (nI (tks T n p)), .ref 3] h5 [false] 6 hq rfl ⟨(by decide), trivial⟩ (fun hq => ?_)
          refine xq_run hq rfl rfl (xq_and (co_q (st := (tks T n p)) (by omega) c5 hq) (co_n (st := (tks T n p)) (by omega) c5 hq)) ?_
          rintro v7 h7 ⟨⟨g7, l7, q7⟩, n7⟩
          have hq := fx_q g7 hq
          by_cases w7_0 : 120 ≤ o
          · obtain ⟨rfl, f7, y7, z7, e67, e7⟩ := q7 4 ((tks T n p)) (by unfold kC; rw [if_pos w7_0])
            refine xq_n 149 [0, 1, 2] [(0, .ref 3), (1, .int (nI (tks T n p))), (2, .int (Int32.ofInt 0))] [.ref 8] h7 [true] 7 hq rfl ⟨(by decide), trivial⟩ (fun hq => ?_)
            refine xq_run hq rfl rfl (adv_q hq hT (ct_f (S := cS) (L := fN) (c5.1) (g7) rfl (fun _ => rfl)) ((fx_i g7 rfl).trans (c5.2.2.1)) e7 e67) ?_
            rintro v8 h8 ⟨rfl, g8, -⟩
            have hq := fx_q g8 hq
            refine xq_n 153 [] [] [.int (Int32.ofInt 0)] h8 [] 3 hq rfl trivial (fun hq => ?_)
            exact xq_ret rfl rfl rfl ⟨fx_t (fx_t (fx_t (fx_0) (g5)) (g7)) (fx_w g8 (fun _ _ => sS_c) (fun _ _ z => z)), Or.inr ⟨rfl, _, (fx_i g8 rfl).trans (f7), by omega, by omega⟩⟩
          · skip
            obtain ⟨rfl, c7⟩ := l7 (p) (o + 1) (d) (by unfold kC; rw [if_neg w7_0])
            have kb7 := tkk_lt (T := T) (n := n) (p := p) hT
            have s67 := tks_le (T := T) (n := n) (p := p)
            refine xq_n 149 [0, 1, 2] [(0, .ref 3), (1, .int (nI (tks T n p))), (2, .int (Int32.ofInt 1))] [.ref 8] h7 [false] 8 hq rfl ⟨(by decide), trivial⟩ (fun hq => ?_)
            have nz9 : tkk T n p ≠ 0 := by omega
            have le9 := tke_le nz9
            refine xq_run hq rfl rfl (adv_q hq hT (c7.1) (c7.2.2.1) ((c7.2.1.2.2.1 (by omega)).1) (by omega)) ?_
            rintro v9 h9 ⟨rfl, g9, t9⟩
            have hq := fx_q g9 hq
            have kb9 := tkk_lt (T := T) (n := n) (p := tke T n p) hT
            have s69 := tks_le (T := T) (n := n) (p := tke T n p)
            refine xq_n 153 [] [] [.int (Int32.ofInt 1)] h9 [] 3 hq rfl trivial (fun hq => ?_)
            exact xq_ret rfl rfl rfl ⟨fx_t (fx_t (fx_t (fx_0) (g5)) (g7)) (fx_w g9 (fun _ _ => sS_c) (fun _ _ z => z)), Or.inl ⟨rfl, tke T n p, (o + 1), [(0, nI (T (tks T n p) - 97))], ⟨ct_f (S := cS) (L := fN) (c7.1) (fx_w g9 (fun _ _ => sS_c) (fun _ _ z => z)) rfl (fun _ => rfl), t9, (fx_i g9 rfl).trans (c7.2.2.1), (fx_i g9 rfl).trans (c7.2.2.2.1), c0.2.2.2.2.1, (fx_i g9 rfl).trans (c7.2.2.2.2.2.1), by omega, (fx_i g9 rfl).trans (c7.2.2.2.2.2.2.2.1), by omega, cn_f (S := cS) (L := fN) (c7.2.2.2.2.2.2.2.2.2.1) (fx_w g9 (fun _ _ => sS_c) (fun _ _ z => z)) rfl (fun _ => rfl) (fun _ => rfl), (fx_i g9 rfl).trans (c7.2.2.2.2.2.2.2.2.2.2)⟩, by omega, by omega, ptx_f (ptx_n (x5) n7) g9 rfl (fun _ => rfl) (fun _ => rfl), by first | omega | (simp only [List.length_append, List.length_cons, List.length_nil]; omega), VO_mem (by assumption) (by omega) mm (by omega) d12⟩⟩
      | false =>
        have db4 := of_decide_eq_false b4
        refine xq_n 125 [0, 1] [(0, .ref 3), (1, .int (nI (tks T n p)))] [.ref 3] h [true] 4 hq rfl ⟨rfl, trivial⟩ (fun hq => ?_)
        refine xq_run hq rfl rfl (xq_and (nnm_q c0 hq) (nnm_n (pt) (by omega) c0 hq)) ?_
        rintro v10 h10 ⟨⟨g10, l10, q10⟩, n10⟩
        have hq := fx_q g10 hq
        by_cases w10_0 : nmt T n p = false
        · obtain ⟨rfl, f10, y10, z10, e610, e10⟩ := q10 1 (tks T n p) (by unfold kN; rw [if_pos w10_0])
          refine xq_n 149 [0, 1, 2] [(0, .ref 3), (1, .int (nI (tks T n p))), (2, .int (Int32.ofInt 0))] [.ref 8] h10 [true] 7 hq rfl ⟨(by decide), trivial⟩ (fun hq => ?_)
          refine xq_run hq rfl rfl (adv_q hq hT (ct_f (S := cS) (L := fN) (c0.1) (g10) rfl (fun _ => rfl)) ((fx_i g10 rfl).trans (c0.2.2.1)) e10 e610) ?_
          rintro v11 h11 ⟨rfl, g11, -⟩
          have hq := fx_q g11 hq
          refine xq_n 153 [] [] [.int (Int32.ofInt 0)] h11 [] 3 hq rfl trivial (fun hq => ?_)
          exact xq_ret rfl rfl rfl ⟨fx_t (fx_t (fx_0) (g10)) (fx_w g11 (fun _ _ => sS_c) (fun _ _ z => z)), Or.inr ⟨rfl, _, (fx_i g11 rfl).trans (f10), by omega, by omega⟩⟩
        · skip
          have w10_0t : nmt T n p = true := eq_true_of_ne_false w10_0
          have dw10_0 := of_decide_eq_true w10_0t
          by_cases w10_1 : hasn nn (nmW T NM) (tkw T n p) = false
          · obtain ⟨rfl, f10, y10, z10, e610, e10⟩ := q10 3 (tks T n p) (by unfold kN; rw [if_neg w10_0, if_pos w10_1])
            refine xq_n 149 [0, 1, 2] [(0, .ref 3), (1, .int (nI (tks T n p))), (2, .int (Int32.ofInt 0))] [.ref 8] h10 [true] 7 hq rfl ⟨(by decide), trivial⟩ (fun hq => ?_)
            refine xq_run hq rfl rfl (adv_q hq hT (ct_f (S := cS) (L := fN) (c0.1) (g10) rfl (fun _ => rfl)) ((fx_i g10 rfl).trans (c0.2.2.1)) e10 e610) ?_
            rintro v12 h12 ⟨rfl, g12, -⟩
            have hq := fx_q g12 hq
            refine xq_n 153 [] [] [.int (Int32.ofInt 0)] h12 [] 3 hq rfl trivial (fun hq => ?_)
            exact xq_ret rfl rfl rfl ⟨fx_t (fx_t (fx_0) (g10)) (fx_w g12 (fun _ _ => sS_c) (fun _ _ z => z)), Or.inr ⟨rfl, _, (fx_i g12 rfl).trans (f10), by omega, by omega⟩⟩
          · skip
            have w10_1t : hasn nn (nmW T NM) (tkw T n p) = true := eq_true_of_ne_false w10_1
            obtain ⟨rfl, c10⟩ := l10 (p) (o) (d) (by unfold kN; rw [if_neg w10_0, if_neg w10_1])
            have x10 : ptx h10 (P ++ [(1, nI (nmi nn (nmW T NM) (tkw T n p)))]) := by simpa only [List.append_assoc] using (n10 rfl).2
            have nk10 := (n10 rfl).1
            have kb10 := tkk_lt (T := T) (n := n) (p := p) hT
            have s610 := tks_le (T := T) (n := n) (p := p)
            refine xq_n 133 [0, 1] [(0, .ref 3), (1, .int (nI (tks T n p)))] [.int (nI (tks T n p)), .ref 3] h10 [false] 5 hq rfl ⟨(by decide), trivial⟩ (fun hq => ?_)
            refine xq_run hq rfl rfl (xq_and (co_q (st := (tks T n p)) (by omega) c10 hq) (co_n (st := (tks T n p)) (by omega) c10 hq)) ?_
            rintro v13 h13 ⟨⟨g13, l13, q13⟩, n13⟩
            have hq := fx_q g13 hq
            by_cases w13_0 : 120 ≤ o
            · obtain ⟨rfl, f13, y13, z13, e613, e13⟩ := q13 4 ((tks T n p)) (by unfold kC; rw [if_pos w13_0])
              refine xq_n 149 [0, 1, 2] [(0, .ref 3), (1, .int (nI (tks T n p))), (2, .int (Int32.ofInt 0))] [.ref 8] h13 [true] 7 hq rfl ⟨(by decide), trivial⟩ (fun hq => ?_)
              refine xq_run hq rfl rfl (adv_q hq hT (ct_f (S := cS) (L := fN) (c10.1) (g13) rfl (fun _ => rfl)) ((fx_i g13 rfl).trans (c10.2.2.1)) e13 e613) ?_
              rintro v14 h14 ⟨rfl, g14, -⟩
              have hq := fx_q g14 hq
              refine xq_n 153 [] [] [.int (Int32.ofInt 0)] h14 [] 3 hq rfl trivial (fun hq => ?_)
              exact xq_ret rfl rfl rfl ⟨fx_t (fx_t (fx_t (fx_0) (g10)) (g13)) (fx_w g14 (fun _ _ => sS_c) (fun _ _ z => z)), Or.inr ⟨rfl, _, (fx_i g14 rfl).trans (f13), by omega, by omega⟩⟩
            · skip
              obtain ⟨rfl, c13⟩ := l13 (p) (o + 1) (d) (by unfold kC; rw [if_neg w13_0])
              have kb13 := tkk_lt (T := T) (n := n) (p := p) hT
              have s613 := tks_le (T := T) (n := n) (p := p)
              refine xq_n 149 [0, 1, 2] [(0, .ref 3), (1, .int (nI (tks T n p))), (2, .int (Int32.ofInt 1))] [.ref 8] h13 [false] 8 hq rfl ⟨(by decide), trivial⟩ (fun hq => ?_)
              have nz15 : tkk T n p ≠ 0 := by omega
              have le15 := tke_le nz15
              refine xq_run hq rfl rfl (adv_q hq hT (c13.1) (c13.2.2.1) ((c13.2.1.2.2.1 (by omega)).1) (by omega)) ?_
              rintro v15 h15 ⟨rfl, g15, t15⟩
              have hq := fx_q g15 hq
              have kb15 := tkk_lt (T := T) (n := n) (p := tke T n p) hT
              have s615 := tks_le (T := T) (n := n) (p := tke T n p)
              refine xq_n 153 [] [] [.int (Int32.ofInt 1)] h15 [] 3 hq rfl trivial (fun hq => ?_)
              exact xq_ret rfl rfl rfl ⟨fx_t (fx_t (fx_t (fx_0) (g10)) (g13)) (fx_w g15 (fun _ _ => sS_c) (fun _ _ z => z)), Or.inl ⟨rfl, tke T n p, (o + 1), [(1, nI (nmi nn (nmW T NM) (tkw T n p)))], ⟨ct_f (S := cS) (L := fN) (c13.1) (fx_w g15 (fun _ _ => sS_c) (fun _ _ z => z)) rfl (fun _ => rfl), t15, (fx_i g15 rfl).trans (c13.2.2.1), (fx_i g15 rfl).trans (c13.2.2.2.1), c0.2.2.2.2.1, (fx_i g15 rfl).trans (c13.2.2.2.2.2.1), by omega, (fx_i g15 rfl).trans (c13.2.2.2.2.2.2.2.1), by omega, cn_f (S := cS) (L := fN) (c13.2.2.2.2.2.2.2.2.2.1) (fx_w g15 (fun _ _ => sS_c) (fun _ _ z => z)) rfl (fun _ => rfl) (fun _ => rfl), (fx_i g15 rfl).trans (c13.2.2.2.2.2.2.2.2.2.2)⟩, by omega, by omega, ptx_f (ptx_n (x10) n13) g15 rfl (fun _ => rfl) (fun _ => rfl), by first | omega | (simp only [List.length_append, List.length_cons, List.length_nil]; omega), VO_nam (by assumption) (by assumption) (by assumption) n16 (by omega) d12⟩⟩
    | false =>
      have z2 : (tkk T n p) = 40 := nq_nef (a := (tkk T n p)) (b := 40) (by omega) (by omega) c2
      refine xq_m 55 [0, 1] [(0, .ref 3), (1, .int (xg 0 h.2.1 8 4))] [.int (xg 0 h.2.1 8 4), .ref 3] h [true, false] 18 hq rfl ⟨(show xe_c .ne (xg 0 h.2.1 8 3) (Int32.ofInt 3) = true by rw [show (xg 0 h.2.1 8 3) = (nI (tkk T n p)) from c0.2.1.1]; exact c1), (show xe_c .ne (xg 0 h.2.1 8 3) 40 = false by rw [show (xg 0 h.2.1 8 3) = (nI (tkk T n p)) from c0.2.1.1]; exact c2), trivial⟩ (fun hq => ?_)
      rw [show (xg 0 h.2.1 8 4) = (nI (tks T n p)) from c0.2.1.2.1]
      refine xq_run hq rfl rfl (xq_and (co_q (st := (tks T n p)) (by omega) c0 hq) (co_n (st := (tks T n p)) (by omega) c0 hq)) ?_
      rintro v16 h16 ⟨⟨g16, l16, q16⟩, n16⟩
      have hq := fx_q g16 hq
      by_cases w16_0 : 120 ≤ o
      · obtain ⟨rfl, f16, y16, z16, e616, e16⟩ := q16 4 ((tks T n p)) (by unfold kC; rw [if_pos w16_0])
        refine xq_n 103 [] [] [.int (Int32.ofInt 0)] (xh_ui h16 3 6 ((xg 0 h16.2.1 3 6) - (Int32.ofInt 1))) [true] 12 hq rfl ⟨(by decide), trivial⟩ (fun _ => ?_)
        have hq : a_rq a_tb (xh_ui h16 3 6 ((xg 0 h16.2.1 3 6) - (Int32.ofInt 1))) := a_rq_ui hq
        exact xq_ret rfl rfl rfl ⟨fx_ui (fx_t (fx_0) (g16)) rfl, Or.inr ⟨rfl, _, (gx_k (by decide)).trans (f16), by omega, by omega⟩⟩
      · skip
        obtain ⟨rfl, c16⟩ := l16 (p) (o + 1) (d) (by unfold kC; rw [if_neg w16_0])
        have kb16 := tkk_lt (T := T) (n := n) (p := p) hT
        have s616 := tks_le (T := T) (n := n) (p := p)
        refine xq_n 64 [0, 1] [(0, .ref 3), (1, .int (nI (tks T n p)))] [.int 40, .ref 3] h16 [false] 5 hq rfl ⟨(by decide), trivial⟩ (fun hq => ?_)
        refine xq_run hq rfl rfl (xq_and (to_q (c := 40) (by decide) (by decide) c16 hq) (to_n (c := 40) (by decide) (by decide) c16 hq)) ?_
        rintro v17 h17 ⟨⟨g17, l17, q17⟩, n17⟩
        have hq := fx_q g17 hq
        by_cases w17_0 : tkk T n p ≠ 40
        · obtain ⟨rfl, f17, y17, z17, e617, e17⟩ := q17 1 (tks T n p) (by unfold kO; rw [if_pos w17_0])
          refine xq_n 103 [] [] [.int (Int32.ofInt 0)] (xh_ui h17 3 6 ((xg 0 h17.2.1 3 6) - (Int32.ofInt 1))) [true] 12 hq rfl ⟨(by decide), trivial⟩ (fun _ => ?_)
          have hq : a_rq a_tb (xh_ui h17 3 6 ((xg 0 h17.2.1 3 6) - (Int32.ofInt 1))) := a_rq_ui hq
          exact xq_ret rfl rfl rfl ⟨fx_ui (fx_t (fx_t (fx_0) (g16)) (g17)) rfl, Or.inr ⟨rfl, _, (gx_k (by decide)).trans (f17), by omega, by omega⟩⟩
        · skip
          by_cases w17_1 : 12 ≤ d
          · obtain ⟨rfl, f17, y17, z17, e617, e17⟩ := q17 4 (tks T n p) (by unfold kO; rw [if_neg w17_0, if_pos w17_1])
            refine xq_n 103 [] [] [.int (Int32.ofInt 0)] (xh_ui h17 3 6 ((xg 0 h17.2.1 3 6) - (Int32.ofInt 1))) [true] 12 hq rfl ⟨(by decide), trivial⟩ (fun _ => ?_)
            have hq : a_rq a_tb (xh_ui h17 3 6 ((xg 0 h17.2.1 3 6) - (Int32.ofInt 1))) := a_rq_ui hq
            exact xq_ret rfl rfl rfl ⟨fx_ui (fx_t (fx_t (fx_0) (g16)) (g17)) rfl, Or.inr ⟨rfl, _, (gx_k (by decide)).trans (f17), by omega, by omega⟩⟩
          · skip
            obtain ⟨rfl, c17⟩ := l17 (tke T n p) ((o + 1)) (d + 1) (by unfold kO; rw [if_neg w17_0, if_neg w17_1])
            have kb17 := tkk_lt (T := T) (n := n) (p := tke T n p) hT
            have s617 := tks_le (T := T) (n := n) (p := tke T n p)
            refine xq_n 71 [0, 1] [(0, .ref 3), (1, .int (nI (tks T n p)))] [.ref 3] h17 [false] 4 hq rfl ⟨(by decide), trivial⟩ (fun hq => ?_)
            refine xq_run hq rfl rfl (ir _ _ _ _ (P) c17 (ptx_n (ptx_n (pt) n16) n17) (by omega) (by omega) (by omega) hq) ?_
            rintro v18 h18 ⟨g18, ⟨rfl, pq18, oq18, cq18, c18, lt18, le18, x18, ln18, G18⟩ | ⟨rfl, kq18, f18, ka18, kz18⟩⟩
            · have hq := fx_q g18 hq
              have kb18 := tkk_lt (T := T) (n := n) (p := pq18) hT
              have s618 := tks_le (T := T) (n := n) (p := pq18)
              refine xq_n 80 [0, 1] [(0, .ref 3), (1, .int (nI (tks T n p)))] [.int 41, .ref 3] h18 [false] 5 hq rfl ⟨(by decide), trivial⟩ (fun hq => ?_)
              refine xq_run hq rfl rfl (xq_and (ts_q (c := 41) (by decide) (by decide) c18 hq) (ts_n (c := 41) (by decide) (by decide) c18 hq)) ?_
              rintro v19 h19 ⟨⟨g19, l19, q19⟩, n19⟩
              have hq := fx_q g19 hq
              by_cases w19_0 : tkk T n pq18 ≠ 41
              · obtain ⟨rfl, f19, y19, z19, e619, e19⟩ := q19 1 (tks T n pq18) (by unfold kS; rw [if_pos w19_0])
                refine xq_n 103 [] [] [.int (Int32.ofInt 0)] (xh_ui h19 3 6 ((xg 0 h19.2.1 3 6) - (Int32.ofInt 1))) [true] 12 hq rfl ⟨(by decide), trivial⟩ (fun _ => ?_)
                have hq : a_rq a_tb (xh_ui h19 3 6 ((xg 0 h19.2.1 3 6) - (Int32.ofInt 1))) := a_rq_ui hq
                exact xq_ret rfl rfl rfl ⟨fx_ui (fx_t (fx_t (fx_t (fx_t (fx_0) (g16)) (g17)) (g18)) (g19)) rfl, Or.inr ⟨rfl, _, (gx_k (by decide)).trans (f19), by omega, by omega⟩⟩
              · skip
                obtain ⟨rfl, c19⟩ := l19 (tke T n pq18) (oq18) ((d + 1)) (by unfold kS; rw [if_neg w19_0])
                have kb19 := tkk_lt (T := T) (n := n) (p := tke T n pq18) hT
                have s619 := tks_le (T := T) (n := n) (p := tke T n pq18)
                refine xq_n 103 [] [] [.int (Int32.ofInt 1)] (xh_ui h19 3 6 ((xg 0 h19.2.1 3 6) - (Int32.ofInt 1))) [false] 13 hq rfl ⟨(by decide), trivial⟩ (fun _ => ?_)
                rw [show (xg 0 h19.2.1 3 6) = (nI (d + 1)) from c19.2.2.2.2.2.2.2.1]
                rw [show ((nI (d + 1)) - (Int32.ofInt 1)) = nI ((d + 1) - 1) from nI_dec1 (by omega)]
                rw [show (nI ((d + 1) - 1)) = nI d from (by rw [Nat.add_sub_cancel])]
                have hq : a_rq a_tb (xh_ui h19 3 6 (nI d)) := a_rq_ui hq
                exact xq_ret rfl rfl rfl ⟨fx_ui (fx_t (fx_t (fx_t (fx_t (fx_0) (g16)) (g17)) (g18)) (g19)) rfl, Or.inl ⟨rfl, tke T n pq18, oq18, cq18, ⟨ct_f (S := cS) (L := fN) (c19.1) (fx_ui fx_0 rfl) rfl (fun _ => rfl), tok_f (S := fun c k => Nat.beq c 3) (L := fN) (c19.2.1) (fx_ui fx_0 rfl) (fun _ => rfl), (gx_o (by decide)).trans (c19.2.2.1), (gx_k (by decide)).trans (c19.2.2.2.1), c0.2.2.2.2.1, (gx_k (by decide)).trans (c19.2.2.2.2.2.1), by omega, gx_s, by omega, cn_f (S := cS) (L := fN) (c19.2.2.2.2.2.2.2.2.2.1) (fx_ui fx_0 rfl) rfl (fun _ => rfl) (fun _ => rfl), (gx_k (by decide)).trans (c19.2.2.2.2.2.2.2.2.2.2)⟩, by omega, by omega, ptx_f (S := fun c k => Nat.beq c 3) (L := fN) (ptx_n (x18) n19) (fx_ui fx_0 rfl) rfl (fun _ => rfl) (fun _ => rfl), by first | omega | (simp only [List.length_append, List.length_cons, List.length_nil]; omega), VO_par (by omega) (by omega) (by omega) G18.2.2 G18.1 G18.2.1 (by omega)⟩⟩
            · have hq := fx_q g18 hq
              refine xq_n 103 [] [] [.int (Int32.ofInt 0)] (xh_ui h18 3 6 ((xg 0 h18.2.1 3 6) - (Int32.ofInt 1))) [true] 12 hq rfl ⟨(by decide), trivial⟩ (fun _ => ?_)
              have hq : a_rq a_tb (xh_ui h18 3 6 ((xg 0 h18.2.1 3 6) - (Int32.ofInt 1))) := a_rq_ui hq
              exact xq_ret rfl rfl rfl ⟨fx_ui (fx_t (fx_t (fx_t (fx_0) (g16)) (g17)) (g18)) rfl, Or.inr ⟨rfl, _, (gx_k (by decide)).trans (f18), by omega, by omega⟩⟩
  | false =>
    have z1 : (tkk T n p) = 3 := nq_nef (a := (tkk T n p)) (b := 3) (by omega) (by omega) c1
    refine xq_m 31 [0, 1, 2] [(0, .ref 3), (1, .int (xg 0 h.2.1 8 4)), (2, .int (xg 0 h.2.1 8 6))] [.ref 8] h [false] 17 hq rfl ⟨(show xe_c .ne (xg 0 h.2.1 8 3) (Int32.ofInt 3) = false by rw [show (xg 0 h.2.1 8 3) = (nI (tkk T n p)) from c0.2.1.1]; exact c1), trivial⟩ (fun hq => ?_)
    rw [show (xg 0 h.2.1 8 4) = (nI (tks T n p)) from c0.2.1.2.1]
    rw [show (xg 0 h.2.1 8 6) = (nI (tkn T n p)) from c0.2.1.2.2.2.1 (by omega)]
    have nz20 : tkk T n p ≠ 0 := by omega
    have le20 := tke_le nz20
    refine xq_run hq rfl rfl (adv_q hq hT (c0.1) (c0.2.2.1) ((c0.2.1.2.2.1 (by omega)).1) (by omega)) ?_
    rintro v20 h20 ⟨rfl, g20, t20⟩
    have hq := fx_q g20 hq
    have kb20 := tkk_lt (T := T) (n := n) (p := tke T n p) hT
    have s620 := tks_le (T := T) (n := n) (p := tke T n p)
    refine xq_n 37 [0, 1, 2] [(0, .ref 3), (1, .int (nI (tks T n p))), (2, .int (nI (tkn T n p)))] [.int (nI (tkn T n p)), .int (nI (tks T n p)), .ref 3] h20 [] 5 hq rfl trivial (fun hq => ?_)
    refine xq_run hq rfl rfl (iq _ _ _ _ (tks T n p) (tkn T n p) (P) ⟨ct_f (S := cS) (L := fN) (c0.1) (fx_w g20 (fun _ _ => sS_c) (fun _ _ z => z)) rfl (fun _ => rfl), t20, (fx_i g20 rfl).trans (c0.2.2.1), (fx_i g20 rfl).trans (c0.2.2.2.1), c0.2.2.2.2.1, (fx_i g20 rfl).trans (c0.2.2.2.2.2.1), by omega, (fx_i g20 rfl).trans (c0.2.2.2.2.2.2.2.1), by omega, cn_f (S := cS) (L := fN) (c0.2.2.2.2.2.2.2.2.2.1) (fx_w g20 (fun _ _ => sS_c) (fun _ _ z => z)) rfl (fun _ => rfl) (fun _ => rfl), (fx_i g20 rfl).trans (c0.2.2.2.2.2.2.2.2.2.2)⟩ (ptx_f (pt) g20 rfl (fun _ => rfl) (fun _ => rfl)) (by omega) (by omega) (by omega) (by omega) hq) ?_
    rintro v21 h21 ⟨g21, ⟨rfl, pq21, oq21, cq21, c21, lt21, le21, x21, ln21, G21⟩ | ⟨rfl, kq21, f21, ka21, kz21⟩⟩
    · have hq := fx_q g21 hq
      have kb21 := tkk_lt (T := T) (n := n) (p := pq21) hT
      have s621 := tks_le (T := T) (n := n) (p := pq21)
      exact xq_ret rfl rfl rfl ⟨fx_t (fx_t (fx_0) (fx_w g20 (fun _ _ => sS_c) (fun _ _ z => z))) (g21), Or.inl ⟨rfl, pq21, oq21, cq21, c21, by omega, by omega, x21, by first | omega | (simp only [List.length_append, List.length_cons, List.length_nil]; omega), VO_quo (by omega) G21⟩⟩
    · have hq := fx_q g21 hq
      exact xq_ret rfl rfl rfl ⟨fx_t (fx_t (fx_0) (fx_w g20 (fun _ _ => sS_c) (fun _ _ z => z))) (g21), Or.inr ⟨rfl, _, f21, by omega, by omega⟩⟩
set_option maxRecDepth 100000 in
set_option maxHeartbeats 4000000 in
theorem item_p {f : Nat} (io : pOne T n mem nn NM f) (iq : pQuota T n mem nn NM f) : pItem T n mem nn NM (f + 1) := by
  intro h p o d P c0 pt pl o6 d12 hq
  have hT : ∀ k, k < n → T k < 256 := fun k hk' => (c0.1.2.2 k hk').1
  have kb := tkk_lt (T := T) (n := n) (p := p) hT
  have n6 := c0.1.2.1
  have s6 := tks_le (T := T) (n := n) (p := p)
  have mm := c0.2.2.2.2.1
  have n16 := c0.2.2.2.2.2.2.2.2.2.1.2.1
  have t9 : tkn T n p ≤ 999 := vf_999
  cases c1 : xe_c .ne (nI (tkk T n p)) (Int32.ofInt 3) with
  | true =>
    have z1 : (tkk T n p) ≠ 3 := nq_net (a := (tkk T n p)) (b := 3) (by omega) (by omega) c1
    refine xq_m 107 [0, 1] [(0, .ref 3), (1, .int (Int32.ofInt 1))] [.ref 3] h [true] 10 hq rfl ⟨(show xe_c .ne (xg 0 h.2.1 8 3) (Int32.ofInt 3) = true by rw [show (xg 0 h.2.1 8 3) = (nI (tkk T n p)) from c0.2.1.1]; exact c1), trivial⟩ (fun hq => ?_)
    refine xq_run hq rfl rfl (io _ _ _ _ (P) c0 (pt) (by omega) (by omega) (by omega) hq) ?_
    rintro v2 h2 ⟨g2, ⟨rfl, pq2, oq2, cq2, c2, lt2, le2, x2, ln2, G2⟩ | ⟨rfl, kq2, f2, ka2, kz2⟩⟩
    · have hq := fx_q g2 hq
      have kb2 := tkk_lt (T := T) (n := n) (p := pq2) hT
      have s62 := tks_le (T := T) (n := n) (p := pq2)
      refine xq_n 117 [0, 1, 2] [(0, .ref 3), (1, .int (Int32.ofInt 1)), (2, .int (Int32.ofInt 1))] [.int (Int32.ofInt 1), .int (Int32.ofInt 5), .ref 4] h2 [] 7 hq rfl trivial (fun hq => ?_)
      refine xq_run hq rfl rfl (pad_q (c := 5) (y := Int32.ofInt 1) (x2) (by first | omega | (simp only [List.length_append, List.length_cons, List.length_nil]; omega)) hq) ?_
      rintro v3 h3 ⟨rfl, g3, x3⟩
      have hq := fx_q g3 hq
      have x3 : ptx h3 (P ++ (cq2 ++ [(5, Int32.ofInt 1)])) := by simpa only [List.append_assoc] using x3
      refine xq_n 121 [] [] [.int (Int32.ofInt 1)] h3 [] 3 hq rfl trivial (fun hq => ?_)
      exact xq_ret rfl rfl rfl ⟨fx_t (fx_t (fx_0) (g2)) (fx_w g3 (fun _ _ => aS_c) (fun _ _ z => z)), Or.inl ⟨rfl, pq2, oq2, (cq2 ++ [(5, Int32.ofInt 1)]), ⟨ct_f (S := cS) (L := fN) (c2.1) (fx_w g3 (fun _ _ => aS_c) (fun _ _ z => z)) rfl (fun _ => rfl), tok_f (c2.2.1) g3 (fun _ => rfl), (fx_i g3 rfl).trans (c2.2.2.1), (fx_i g3 rfl).trans (c2.2.2.2.1), c0.2.2.2.2.1, (fx_i g3 rfl).trans (c2.2.2.2.2.2.1), by omega, (fx_i g3 rfl).trans (c2.2.2.2.2.2.2.2.1), by omega, cn_f (S := cS) (L := fN) (c2.2.2.2.2.2.2.2.2.2.1) (fx_w g3 (fun _ _ => aS_c) (fun _ _ z => z)) rfl (fun _ => rfl) (fun _ => rfl), (fx_i g3 rfl).trans (c2.2.2.2.2.2.2.2.2.2.2)⟩, by omega, by omega, x3, by first | omega | (simp only [List.length_append, List.length_cons, List.length_nil]; omega), VI_1 (by omega) G2⟩⟩
    · have hq := fx_q g2 hq
      refine xq_n 117 [0, 1, 2] [(0, .ref 3), (1, .int (Int32.ofInt 1)), (2, .int (Int32.ofInt 0))] [.int (Int32.ofInt 1), .int (Int32.ofInt 5), .ref 4] h2 [] 7 hq rfl trivial (fun hq => ?_)
      refine xq_run hq rfl rfl (add_q hq) ?_
      rintro v4 h4 ⟨rfl, g4⟩
      have hq := fx_q g4 hq
      refine xq_n 121 [] [] [.int (Int32.ofInt 0)] h4 [] 3 hq rfl trivial (fun hq => ?_)
      exact xq_ret rfl rfl rfl ⟨fx_t (fx_t (fx_0) (g2)) (fx_w g4 (fun _ _ => aS_c) (fun _ _ z => z)), Or.inr ⟨rfl, _, (fx_i g4 rfl).trans (f2), by omega, by omega⟩⟩
  | false =>
    have z1 : (tkk T n p) = 3 := nq_nef (a := (tkk T n p)) (b := 3) (by omega) (by omega) c1
    refine xq_m 34 [0, 1, 3, 4] [(0, .ref 3), (1, .int (Int32.ofInt 1)), (3, .int (xg 0 h.2.1 8 4)), (4, .int (xg 0 h.2.1 8 6))] [.ref 8] h [false] 19 hq rfl ⟨(show xe_c .ne (xg 0 h.2.1 8 3) (Int32.ofInt 3) = false by rw [show (xg 0 h.2.1 8 3) = (nI (tkk T n p)) from c0.2.1.1]; exact c1), trivial⟩ (fun hq => ?_)
    rw [show (xg 0 h.2.1 8 4) = (nI (tks T n p)) from c0.2.1.2.1]
    rw [show (xg 0 h.2.1 8 6) = (nI (tkn T n p)) from c0.2.1.2.2.2.1 (by omega)]
    have nz5 : tkk T n p ≠ 0 := by omega
    have le5 := tke_le nz5
    refine xq_run hq rfl rfl (adv_q hq hT (c0.1) (c0.2.2.1) ((c0.2.1.2.2.1 (by omega)).1) (by omega)) ?_
    rintro v5 h5 ⟨rfl, g5, t5⟩
    have hq := fx_q g5 hq
    have kb5 := tkk_lt (T := T) (n := n) (p := tke T n p) hT
    have s65 := tks_le (T := T) (n := n) (p := tke T n p)
    cases c6 : xe_c .ne (nI (tkk T n (tke T n p))) 42 with
    | true =>
      have z6 : (tkk T n (tke T n p)) ≠ 42 := nq_net (a := (tkk T n (tke T n p))) (b := 42) (by omega) (by omega) c6
      refine xq_n 73 [0, 1, 3, 4] [(0, .ref 3), (1, .int (Int32.ofInt 1)), (3, .int (nI (tks T n p))), (4, .int (nI (tkn T n p)))] [.float 6, .ref 8] h5 [true] 10 hq rfl ⟨(show xe_c .ne (xg 0 h5.2.1 8 3) 42 = true by rw [show (xg 0 h5.2.1 8 3) = (nI (tkk T n (tke T n p))) from t5.1]; exact c6), trivial⟩ (fun hq => ?_)
      refine xq_run hq rfl rfl (iw4_q (ct_f (S := cS) (L := fN) (c0.1) (fx_w g5 (fun _ _ => sS_c) (fun _ _ z => z)) rfl (fun _ => rfl)) (t5) hq) ?_
      rintro v7 h_v7 ⟨rfl, rfl⟩
      cases b8 : (ky T n (tke T n p) 4) with
      | true =>
        have db8 := of_decide_eq_true b8
        refine xq_n 83 [0, 1, 3, 4] [(0, .ref 3), (1, .int (Int32.ofInt 1)), (3, .int (nI (tks T n p))), (4, .int (nI (tkn T n p)))] [.int (nI (tkn T n p)), .int (nI (tks T n p)), .ref 3] h5 [false] 6 hq rfl ⟨rfl, trivial⟩ (fun hq => ?_)
        refine xq_run hq rfl rfl (iq _ _ _ _ (tks T n p) (tkn T n p) (P) ⟨ct_f (S := cS) (L := fN) (c0.1) (fx_w g5 (fun _ _ => sS_c) (fun _ _ z => z)) rfl (fun _ => rfl), t5, (fx_i g5 rfl).trans (c0.2.2.1), (fx_i g5 rfl).trans (c0.2.2.2.1), c0.2.2.2.2.1, (fx_i g5 rfl).trans (c0.2.2.2.2.2.1), by omega, (fx_i g5 rfl).trans (c0.2.2.2.2.2.2.2.1), by omega, cn_f (S := cS) (L := fN) (c0.2.2.2.2.2.2.2.2.2.1) (fx_w g5 (fun _ _ => sS_c) (fun _ _ z => z)) rfl (fun _ => rfl) (fun _ => rfl), (fx_i g5 rfl).trans (c0.2.2.2.2.2.2.2.2.2.2)⟩ (ptx_f (pt) g5 rfl (fun _ => rfl) (fun _ => rfl)) (by omega) (by omega) (by omega) (by omega) hq) ?_
        rintro v9 h9 ⟨g9, ⟨rfl, pq9, oq9, cq9, c9, lt9, le9, x9, ln9, G9⟩ | ⟨rfl, kq9, f9, ka9, kz9⟩⟩
        · have hq := fx_q g9 hq
          have kb9 := tkk_lt (T := T) (n := n) (p := pq9) hT
          have s69 := tks_le (T := T) (n := n) (p := pq9)
          refine xq_n 117 [0, 1, 2, 3, 4] [(0, .ref 3), (1, .int (Int32.ofInt 1)), (2, .int (Int32.ofInt 1)), (3, .int (nI (tks T n p))), (4, .int (nI (tkn T n p)))] [.int (Int32.ofInt 1), .int (Int32.ofInt 5), .ref 4] h9 [] 9 hq rfl trivial (fun hq => ?_)
          refine xq_run hq rfl rfl (pad_q (c := 5) (y := Int32.ofInt 1) (x9) (by first | omega | (simp only [List.length_append, List.length_cons, List.length_nil]; omega)) hq) ?_
          rintro v10 h10 ⟨rfl, g10, x10⟩
          have hq := fx_q g10 hq
          have x10 : ptx h10 (P ++ (cq9 ++ [(5, Int32.ofInt 1)])) := by simpa only [List.append_assoc] using x10
          refine xq_n 121 [] [] [.int (Int32.ofInt 1)] h10 [] 3 hq rfl trivial (fun hq => ?_)
          exact xq_ret rfl rfl rfl ⟨fx_t (fx_t (fx_t (fx_0) (fx_w g5 (fun _ _ => sS_c) (fun _ _ z => z))) (g9)) (fx_w g10 (fun _ _ => aS_c) (fun _ _ z => z)), Or.inl ⟨rfl, pq9, oq9, (cq9 ++ [(5, Int32.ofInt 1)]), ⟨ct_f (S := cS) (L := fN) (c9.1) (fx_w g10 (fun _ _ => aS_c) (fun _ _ z => z)) rfl (fun _ => rfl), tok_f (c9.2.1) g10 (fun _ => rfl), (fx_i g10 rfl).trans (c9.2.2.1), (fx_i g10 rfl).trans (c9.2.2.2.1), c0.2.2.2.2.1, (fx_i g10 rfl).trans (c9.2.2.2.2.2.1), by omega, (fx_i g10 rfl).trans (c9.2.2.2.2.2.2.2.1), by omega, cn_f (S := cS) (L := fN) (c9.2.2.2.2.2.2.2.2.2.1) (fx_w g10 (fun _ _ => aS_c) (fun _ _ z => z)) rfl (fun _ => rfl) (fun _ => rfl), (fx_i g10 rfl).trans (c9.2.2.2.2.2.2.2.2.2.2)⟩, by omega, by omega, x10, by first | omega | (simp only [List.length_append, List.length_cons, List.length_nil]; omega), VI_q (by omega) (by omega) (by assumption) G9⟩⟩
        · have hq := fx_q g9 hq
          refine xq_n 117 [0, 1, 2, 3, 4] [(0, .ref 3), (1, .int (Int32.ofInt 1)), (2, .int (Int32.ofInt 0)), (3, .int (nI (tks T n p))), (4, .int (nI (tkn T n p)))] [.int (Int32.ofInt 1), .int (Int32.ofInt 5), .ref 4] h9 [] 9 hq rfl trivial (fun hq => ?_)
          refine xq_run hq rfl rfl (add_q hq) ?_
          rintro v11 h11 ⟨rfl, g11⟩
          have hq := fx_q g11 hq
          refine xq_n 121 [] [] [.int (Int32.ofInt 0)] h11 [] 3 hq rfl trivial (fun hq => ?_)
          exact xq_ret rfl rfl rfl ⟨fx_t (fx_t (fx_t (fx_0) (fx_w g5 (fun _ _ => sS_c) (fun _ _ z => z))) (g9)) (fx_w g11 (fun _ _ => aS_c) (fun _ _ z => z)), Or.inr ⟨rfl, _, (fx_i g11 rfl).trans (f9), by omega, by omega⟩⟩
      | false =>
        have db8 := of_decide_eq_false b8
        refine xq_n 99 [0, 1, 3, 4] [(0, .ref 3), (1, .int (Int32.ofInt 1)), (3, .int (nI (tks T n p))), (4, .int (nI (tkn T n p)))] [.int (xg 0 h5.2.1 8 4), .int (Int32.ofInt 1), .ref 3] h5 [true] 8 hq rfl ⟨rfl, trivial⟩ (fun hq => ?_)
        rw [show (xg 0 h5.2.1 8 4) = (nI (tks T n (tke T n p))) from t5.2.1]
        refine xq_run hq rfl rfl (fail_q (k := 1) (pl := (tks T n (tke T n p))) hq) ?_
        rintro v12 h12 ⟨rfl, g12, f12, l12⟩
        have hq := fx_q g12 hq
        refine xq_n 117 [0, 1, 2, 3, 4] [(0, .ref 3), (1, .int (Int32.ofInt 1)), (2, .int (Int32.ofInt 0)), (3, .int (nI (tks T n p))), (4, .int (nI (tkn T n p)))] [.int (Int32.ofInt 1), .int (Int32.ofInt 5), .ref 4] h12 [] 8 hq rfl trivial (fun hq => ?_)
        refine xq_run hq rfl rfl (add_q hq) ?_
        rintro v13 h13 ⟨rfl, g13⟩
        have hq := fx_q g13 hq
        refine xq_n 121 [] [] [.int (Int32.ofInt 0)] h13 [] 3 hq rfl trivial (fun hq => ?_)
        exact xq_ret rfl rfl rfl ⟨fx_t (fx_t (fx_t (fx_0) (fx_w g5 (fun _ _ => sS_c) (fun _ _ z => z))) (fx_w g12 (fun _ _ => fS_c) (fun _ _ z => z))) (fx_w g13 (fun _ _ => aS_c) (fun _ _ z => z)), Or.inr ⟨rfl, _, (fx_i g13 rfl).trans (f12), by omega, by omega⟩⟩
    | false =>
      have z6 : (tkk T n (tke T n p)) = 42 := nq_nef (a := (tkk T n (tke T n p))) (b := 42) (by omega) (by omega) c6
      refine xq_n 56 [0, 1, 3, 4] [(0, .ref 3), (1, .int (nI (tkn T n p))), (3, .int (nI (tks T n p))), (4, .int (nI (tkn T n p)))] [.ref 8] h5 [false] 11 hq rfl ⟨(show xe_c .ne (xg 0 h5.2.1 8 3) 42 = false by rw [show (xg 0 h5.2.1 8 3) = (nI (tkk T n (tke T n p))) from t5.1]; exact c6), trivial⟩ (fun hq => ?_)
      have nz14 : tkk T n (tke T n p) ≠ 0 := by omega
      have le14 := tke_le nz14
      refine xq_run hq rfl rfl (adv_q hq hT (ct_f (S := cS) (L := fN) (c0.1) (fx_w g5 (fun _ _ => sS_c) (fun _ _ z => z)) rfl (fun _ => rfl)) ((fx_i g5 rfl).trans (c0.2.2.1)) ((t5.2.2.1 (by omega)).1) (by omega)) ?_
      rintro v14 h14 ⟨rfl, g14, t14⟩
      have hq := fx_q g14 hq
      have kb14 := tkk_lt (T := T) (n := n) (p := tke T n (tke T n p)) hT
      have s614 := tks_le (T := T) (n := n) (p := tke T n (tke T n p))
      refine xq_n 60 [0, 1, 3, 4] [(0, .ref 3), (1, .int (nI (tkn T n p))), (3, .int (nI (tks T n p))), (4, .int (nI (tkn T n p)))] [.ref 3] h14 [] 3 hq rfl trivial (fun hq => ?_)
      refine xq_run hq rfl rfl (io _ _ _ _ (P) ⟨ct_f (S := cS) (L := fN) (ct_f (S := cS) (L := fN) (c0.1) (fx_w g5 (fun _ _ => sS_c) (fun _ _ z => z)) rfl (fun _ => rfl)) (fx_w g14 (fun _ _ => sS_c) (fun _ _ z => z)) rfl (fun _ => rfl), t14, (fx_i g14 rfl).trans ((fx_i g5 rfl).trans (c0.2.2.1)), (fx_i g14 rfl).trans ((fx_i g5 rfl).trans (c0.2.2.2.1)), c0.2.2.2.2.1, (fx_i g14 rfl).trans ((fx_i g5 rfl).trans (c0.2.2.2.2.2.1)), by omega, (fx_i g14 rfl).trans ((fx_i g5 rfl).trans (c0.2.2.2.2.2.2.2.1)), by omega, cn_f (S := cS) (L := fN) (cn_f (S := cS) (L := fN) (c0.2.2.2.2.2.2.2.2.2.1) (fx_w g5 (fun _ _ => sS_c) (fun _ _ z => z)) rfl (fun _ => rfl) (fun _ => rfl)) (fx_w g14 (fun _ _ => sS_c) (fun _ _ z => z)) rfl (fun _ => rfl) (fun _ => rfl), (fx_i g14 rfl).trans ((fx_i g5 rfl).trans (c0.2.2.2.2.2.2.2.2.2.2))⟩ (ptx_f (ptx_f (pt) g5 rfl (fun _ => rfl) (fun _ => rfl)) g14 rfl (fun _ => rfl) (fun _ => rfl)) (by omega) (by omega) (by omega) hq) ?_
      rintro v15 h15 ⟨g15, ⟨rfl, pq15, oq15, cq15, c15, lt15, le15, x15, ln15, G15⟩ | ⟨rfl, kq15, f15, ka15, kz15⟩⟩
      · have hq := fx_q g15 hq
        have kb15 := tkk_lt (T := T) (n := n) (p := pq15) hT
        have s615 := tks_le (T := T) (n := n) (p := pq15)
        refine xq_n 117 [0, 1, 2, 3, 4] [(0, .ref 3), (1, .int (nI (tkn T n p))), (2, .int (Int32.ofInt 1)), (3, .int (nI (tks T n p))), (4, .int (nI (tkn T n p)))] [.int (nI (tkn T n p)), .int (Int32.ofInt 5), .ref 4] h15 [] 9 hq rfl trivial (fun hq => ?_)
        refine xq_run hq rfl rfl (pad_q (c := 5) (y := (nI (tkn T n p))) (x15) (by first | omega | (simp only [List.length_append, List.length_cons, List.length_nil]; omega)) hq) ?_
        rintro v16 h16 ⟨rfl, g16, x16⟩
        have hq := fx_q g16 hq
        have x16 : ptx h16 (P ++ (cq15 ++ [(5, (nI (tkn T n p)))])) := by simpa only [List.append_assoc] using x16
        refine xq_n 121 [] [] [.int (Int32.ofInt 1)] h16 [] 3 hq rfl trivial (fun hq => ?_)
        exact xq_ret rfl rfl rfl ⟨fx_t (fx_t (fx_t (fx_t (fx_0) (fx_w g5 (fun _ _ => sS_c) (fun _ _ z => z))) (fx_w g14 (fun _ _ => sS_c) (fun _ _ z => z))) (g15)) (fx_w g16 (fun _ _ => aS_c) (fun _ _ z => z)), Or.inl ⟨rfl, pq15, oq15, (cq15 ++ [(5, (nI (tkn T n p)))]), ⟨ct_f (S := cS) (L := fN) (c15.1) (fx_w g16 (fun _ _ => aS_c) (fun _ _ z => z)) rfl (fun _ => rfl), tok_f (c15.2.1) g16 (fun _ => rfl), (fx_i g16 rfl).trans (c15.2.2.1), (fx_i g16 rfl).trans (c15.2.2.2.1), c0.2.2.2.2.1, (fx_i g16 rfl).trans (c15.2.2.2.2.2.1), by omega, (fx_i g16 rfl).trans (c15.2.2.2.2.2.2.2.1), by omega, cn_f (S := cS) (L := fN) (c15.2.2.2.2.2.2.2.2.2.1) (fx_w g16 (fun _ _ => aS_c) (fun _ _ z => z)) rfl (fun _ => rfl) (fun _ => rfl), (fx_i g16 rfl).trans (c15.2.2.2.2.2.2.2.2.2.2)⟩, by omega, by omega, x16, by first | omega | (simp only [List.length_append, List.length_cons, List.length_nil]; omega), VI_w (by omega) (by omega) G15⟩⟩
      · have hq := fx_q g15 hq
        refine xq_n 117 [0, 1, 2, 3, 4] [(0, .ref 3), (1, .int (nI (tkn T n p))), (2, .int (Int32.ofInt 0)), (3, .int (nI (tks T n p))), (4, .int (nI (tkn T n p)))] [.int (nI (tkn T n p)), .int (Int32.ofInt 5), .ref 4] h15 [] 9 hq rfl trivial (fun hq => ?_)
        refine xq_run hq rfl rfl (add_q hq) ?_
        rintro v17 h17 ⟨rfl, g17⟩
        have hq := fx_q g17 hq
        refine xq_n 121 [] [] [.int (Int32.ofInt 0)] h17 [] 3 hq rfl trivial (fun hq => ?_)
        exact xq_ret rfl rfl rfl ⟨fx_t (fx_t (fx_t (fx_t (fx_0) (fx_w g5 (fun _ _ => sS_c) (fun _ _ z => z))) (fx_w g14 (fun _ _ => sS_c) (fun _ _ z => z))) (g15)) (fx_w g17 (fun _ _ => aS_c) (fun _ _ z => z)), Or.inr ⟨rfl, _, (fx_i g17 rfl).trans (f15), by omega, by omega⟩⟩
set_option maxRecDepth 100000 in
set_option maxHeartbeats 4000000 in
theorem all_lpp {f p o d : Nat} {P : cdL} {h0 : xh_H} (io : pOne T n mem nn NM f) (o6 : o ≤ 120) (d12 : d ≤ 12) (pl : P.length ≤ 3 * o + 16) : ∀ g, g ≤ f → ∀ (h : xh_H) (i p1 o1 : Nat) (cz : cdL), cr h T n mem nn NM p1 o1 d → fx cS fN h0 h → ptx h (P ++ cz) → o + 1 + i ≤ o1 → o1 ≤ 120 → cz.length + 2 ≤ 3 * (o1 - o) → VA T n mem nn (nmW T NM) d p o p1 o1 cz → a_rq a_tb h → xq g xi_X4_readAll xmi_X4_readAll 7 [(0, .ref 3), (1, .int (Int32.ofInt 1)), (2, .int (nI i))] [] h (rP h0 T n mem nn NM o d P 2 (fun p' o' c => ky T n p' 2 = false ∧ VA T n mem nn (nmW T NM) d p o p' o' c)) := by
  intro g
  induction g with
  | zero => intros; exact xq_0
  | succ g ihg =>
    intro hg h i p1 o1 cz c0 g0 pt hi ho hc GG hq
    have hT : ∀ k, k < n → T k < 256 := fun k hk' => (c0.1.2.2 k hk').1
    have kb := tkk_lt (T := T) (n := n) (p := p1) hT
    have n6 := c0.1.2.1
    have s6 := tks_le (T := T) (n := n) (p := p1)
    have mm := c0.2.2.2.2.1
    have n16 := c0.2.2.2.2.2.2.2.2.2.1.2.1
    cases c1 : xe_c .gt (nI i) 120 with
    | true =>
      have z1 : i > 120 := nq_gtt (a := i) (b := 120) (by omega) (by omega) c1
      omega
    | false =>
      have z1 : i ≤ 120 := nq_gtf (a := i) (b := 120) (by omega) (by omega) c1
      refine xq_m 23 [0, 1, 2] [(0, .ref 3), (1, .int (Int32.ofInt 1)), (2, .int (nI i))] [.float 4, .ref 8] h [false, false] 10 hq rfl ⟨c1, (by decide), trivial⟩ (fun hq => ?_)
      refine xq_run hq rfl rfl (iw2_q (c0.1) (c0.2.1) hq) ?_
      rintro v2 h_v2 ⟨rfl, rfl⟩
      cases b3 : (ky T n p1 2) with
      | true =>
        have db3 := of_decide_eq_true b3
        refine xq_n 33 [0, 1, 2] [(0, .ref 3), (1, .int (Int32.ofInt 1)), (2, .int (nI i))] [.ref 8] h [false] 5 hq rfl ⟨rfl, trivial⟩ (fun hq => ?_)
        have nz4 : tkk T n p1 ≠ 0 := by omega
        have le4 := tke_le nz4
        refine xq_run hq rfl rfl (adv_q hq hT (c0.1) (c0.2.2.1) ((c0.2.1.2.2.1 (by omega)).1) (by omega)) ?_
        rintro v4 h4 ⟨rfl, g4, t4⟩
        have hq := fx_q g4 hq
        have kb4 := tkk_lt (T := T) (n := n) (p := tke T n p1) hT
        have s64 := tks_le (T := T) (n := n) (p := tke T n p1)
        refine xq_n 37 [0, 1, 2] [(0, .ref 3), (1, .int (Int32.ofInt 1)), (2, .int (nI i))] [.ref 3] h4 [] 3 hq rfl trivial (fun hq => ?_)
        refine xq_run hq rfl rfl (xq_le (by omega) (io _ _ _ _ (P ++ cz) ⟨ct_f (S := cS) (L := fN) (c0.1) (fx_w g4 (fun _ _ => sS_c) (fun _ _ z => z)) rfl (fun _ => rfl), t4, (fx_i g4 rfl).trans (c0.2.2.1), (fx_i g4 rfl).trans (c0.2.2.2.1), c0.2.2.2.2.1, (fx_i g4 rfl).trans (c0.2.2.2.2.2.1), by omega, (fx_i g4 rfl).trans (c0.2.2.2.2.2.2.2.1), by omega, cn_f (S := cS) (L := fN) (c0.2.2.2.2.2.2.2.2.2.1) (fx_w g4 (fun _ _ => sS_c) (fun _ _ z => z)) rfl (fun _ => rfl) (fun _ => rfl), (fx_i g4 rfl).trans (c0.2.2.2.2.2.2.2.2.2.2)⟩ (ptx_f (pt) g4 rfl (fun _ => rfl) (fun _ => rfl)) (by first | omega | (simp only [List.length_append, List.length_cons, List.length_nil]; omega)) (by omega) (by omega) hq)) ?_
        rintro v5 h5 ⟨g5, ⟨rfl, pq5, oq5, cq5, c5, lt5, le5, x5, ln5, G5⟩ | ⟨rfl, kq5, f5, ka5, kz5⟩⟩
        · have hq := fx_q g5 hq
          have x5 : ptx h5 (P ++ (cz ++ cq5)) := by simpa only [List.append_assoc] using x5
          have kb5 := tkk_lt (T := T) (n := n) (p := pq5) hT
          have s65 := tks_le (T := T) (n := n) (p := pq5)
          refine xq_n 47 [0, 1, 2] [(0, .ref 3), (1, .int (Int32.ofInt 1)), (2, .int (nI i))] [.int (Int32.ofInt 0), .int (Int32.ofInt 2), .ref 4] h5 [] 7 hq rfl trivial (fun hq => ?_)
          refine xq_run hq rfl rfl (pad_q (c := 2) (y := Int32.ofInt 0) (x5) (by first | omega | (simp only [List.length_append, List.length_cons, List.length_nil]; omega)) hq) ?_
          rintro v6 h6 ⟨rfl, g6, x6⟩
          have hq := fx_q g6 hq
          have x6 : ptx h6 (P ++ (cz ++ (cq5 ++ [(2, Int32.ofInt 0)]))) := by simpa only [List.append_assoc] using x6
          refine xq_n 7 [0, 1, 2] [(0, .ref 3), (1, .int (Int32.ofInt 1)), (2, .int ((nI i) + Int32.ofInt 1))] [] h6 [] 4 hq rfl trivial (fun hq => ?_)
          rw [show ((nI i) + Int32.ofInt 1) = nI (i + 1) from nI_1 _]
          exact ihg (by omega) _ (i + 1) pq5 oq5 (cz ++ (cq5 ++ [(2, Int32.ofInt 0)])) ⟨ct_f (S := cS) (L := fN) (c5.1) (fx_w g6 (fun _ _ => aS_c) (fun _ _ z => z)) rfl (fun _ => rfl), tok_f (c5.2.1) g6 (fun _ => rfl), (fx_i g6 rfl).trans (c5.2.2.1), (fx_i g6 rfl).trans (c5.2.2.2.1), c0.2.2.2.2.1, (fx_i g6 rfl).trans (c5.2.2.2.2.2.1), by omega, (fx_i g6 rfl).trans (c5.2.2.2.2.2.2.2.1), by omega, cn_f (S := cS) (L := fN) (c5.2.2.2.2.2.2.2.2.2.1) (fx_w g6 (fun _ _ => aS_c) (fun _ _ z => z)) rfl (fun _ => rfl) (fun _ => rfl), (fx_i g6 rfl).trans (c5.2.2.2.2.2.2.2.2.2.2)⟩ (fx_t (fx_t (fx_t (g0) (fx_w g4 (fun _ _ => sS_c) (fun _ _ z => z))) (g5)) (fx_w g6 (fun _ _ => aS_c) (fun _ _ z => z))) (x6) (by omega) (by omega) (by first | omega | (simp only [List.length_append, List.length_cons, List.length_nil]; omega)) (VA_s d12 GG b3 G5) hq
        · have hq := fx_q g5 hq
          refine xq_n 47 [0, 1, 2] [(0, .ref 3), (1, .int (Int32.ofInt 0)), (2, .int (nI i))] [.int (Int32.ofInt 0), .int (Int32.ofInt 2), .ref 4] h5 [] 7 hq rfl trivial (fun hq => ?_)
          refine xq_run hq rfl rfl (add_q hq) ?_
          rintro v7 h7 ⟨rfl, g7⟩
          have hq := fx_q g7 hq
          refine xq_n 7 [0, 1, 2] [(0, .ref 3), (1, .int (Int32.ofInt 0)), (2, .int ((nI i) + Int32.ofInt 1))] [] h7 [] 4 hq rfl trivial (fun hq => ?_)
          rw [show ((nI i) + Int32.ofInt 1) = nI (i + 1) from nI_1 _]
          refine xq_mono (all_z hq) (fun v h' e => ?_)
          obtain ⟨rfl, rfl⟩ := e
          exact ⟨fx_t (fx_t (fx_t (g0) (fx_w g4 (fun _ _ => sS_c) (fun _ _ z => z))) (g5)) (fx_w g7 (fun _ _ => aS_c) (fun _ _ z => z)), Or.inr ⟨rfl, _, (fx_i g7 rfl).trans (f5), by omega, by omega⟩⟩
      | false =>
        have db3 := of_decide_eq_false b3
        refine xq_n 57 [] [] [.int (Int32.ofInt 1)] h [true] 4 hq rfl ⟨rfl, trivial⟩ (fun hq => ?_)
        exact xq_ret rfl rfl rfl ⟨g0, Or.inl ⟨rfl, p1, o1, cz, c0, by omega, by omega, pt, by omega, b3, GG⟩⟩
set_option maxRecDepth 100000 in
set_option maxHeartbeats 4000000 in
theorem all_p {f : Nat} (io : pOne T n mem nn NM f) : pAll T n mem nn NM (f + 1) := by
  intro h p o d P c0 pt pl o6 d12 hq
  have hT : ∀ k, k < n → T k < 256 := fun k hk' => (c0.1.2.2 k hk').1
  have kb := tkk_lt (T := T) (n := n) (p := p) hT
  have n6 := c0.1.2.1
  have s6 := tks_le (T := T) (n := n) (p := p)
  have mm := c0.2.2.2.2.1
  have n16 := c0.2.2.2.2.2.2.2.2.2.1.2.1
  refine xq_m 1 [0] [(0, .ref 3)] [.ref 3] h [] 3 hq rfl trivial (fun hq => ?_)
  refine xq_run hq rfl rfl (io _ _ _ _ (P) c0 (pt) (by omega) (by omega) (by omega) hq) ?_
  rintro v1 h1 ⟨g1, ⟨rfl, pq1, oq1, cq1, c1, lt1, le1, x1, ln1, G1⟩ | ⟨rfl, kq1, f1, ka1, kz1⟩⟩
  · have hq := fx_q g1 hq
    have kb1 := tkk_lt (T := T) (n := n) (p := pq1) hT
    have s61 := tks_le (T := T) (n := n) (p := pq1)
    refine xq_n 7 [0, 1, 2] [(0, .ref 3), (1, .int (Int32.ofInt 1)), (2, .int (Int32.ofInt 0))] [] h1 [] 5 hq rfl trivial (fun hq => ?_)
    exact all_lpp io o6 d12 pl f (Nat.le_refl _) _ 0 pq1 oq1 cq1 c1 (fx_t (fx_0) (g1)) (x1) (by omega) (by omega) (by omega) (VA_1 d12 G1) hq
  · have hq := fx_q g1 hq
    refine xq_n 7 [0, 1, 2] [(0, .ref 3), (1, .int (Int32.ofInt 0)), (2, .int (Int32.ofInt 0))] [] h1 [] 5 hq rfl trivial (fun hq => ?_)
    refine xq_mono (all_z hq) (fun v h' e => ?_)
    obtain ⟨rfl, rfl⟩ := e
    exact ⟨fx_t (fx_0) (g1), Or.inr ⟨rfl, _, f1, by omega, by omega⟩⟩
set_option maxRecDepth 100000 in
set_option maxHeartbeats 4000000 in
theorem rul_lpp {f p o d : Nat} {P : cdL} {h0 : xh_H} (ia : pAll T n mem nn NM f) (o6 : o ≤ 120) (d12 : d ≤ 12) (pl : P.length ≤ 3 * o + 16) : ∀ g, g ≤ f → ∀ (h : xh_H) (i p1 o1 : Nat) (cz : cdL), cr h T n mem nn NM p1 o1 d → fx cS fN h0 h → ptx h (P ++ cz) → o + 1 + i ≤ o1 → o1 ≤ 120 → cz.length + 2 ≤ 3 * (o1 - o) → ky T n p1 2 = false → VR T n mem nn (nmW T NM) d p o p1 o1 cz → a_rq a_tb h → xq g xi_X4_readRule xmi_X4_readRule 7 [(0, .ref 3), (1, .int (Int32.ofInt 1)), (2, .int (nI i))] [] h (rP h0 T n mem nn NM o d P 2 (fun p' o' c => ky T n p' 2 = false ∧ ky T n p' 3 = false ∧ VR T n mem nn (nmW T NM) d p o p' o' c)) := by
  intro g
  induction g with
  | zero => intros; exact xq_0
  | succ g ihg =>
    intro hg h i p1 o1 cz c0 g0 pt hi ho hc k2 GG hq
    have hT : ∀ k, k < n → T k < 256 := fun k hk' => (c0.1.2.2 k hk').1
    have kb := tkk_lt (T := T) (n := n) (p := p1) hT
    have n6 := c0.1.2.1
    have s6 := tks_le (T := T) (n := n) (p := p1)
    have mm := c0.2.2.2.2.1
    have n16 := c0.2.2.2.2.2.2.2.2.2.1.2.1
    cases c1 : xe_c .gt (nI i) 120 with
    | true =>
      have z1 : i > 120 := nq_gtt (a := i) (b := 120) (by omega) (by omega) c1
      omega
    | false =>
      have z1 : i ≤ 120 := nq_gtf (a := i) (b := 120) (by omega) (by omega) c1
      refine xq_m 23 [0, 1, 2] [(0, .ref 3), (1, .int (Int32.ofInt 1)), (2, .int (nI i))] [.float 5, .ref 8] h [false, false] 10 hq rfl ⟨c1, (by decide), trivial⟩ (fun hq => ?_)
      refine xq_run hq rfl rfl (iw3_q (c0.1) (c0.2.1) hq) ?_
      rintro v2 h_v2 ⟨rfl, rfl⟩
      cases b3 : (ky T n p1 3) with
      | true =>
        have db3 := of_decide_eq_true b3
        refine xq_n 33 [0, 1, 2] [(0, .ref 3), (1, .int (Int32.ofInt 1)), (2, .int (nI i))] [.ref 8] h [false] 5 hq rfl ⟨rfl, trivial⟩ (fun hq => ?_)
        have nz4 : tkk T n p1 ≠ 0 := by omega
        have le4 := tke_le nz4
        refine xq_run hq rfl rfl (adv_q hq hT (c0.1) (c0.2.2.1) ((c0.2.1.2.2.1 (by omega)).1) (by omega)) ?_
        rintro v4 h4 ⟨rfl, g4, t4⟩
        have hq := fx_q g4 hq
        have kb4 := tkk_lt (T := T) (n := n) (p := tke T n p1) hT
        have s64 := tks_le (T := T) (n := n) (p := tke T n p1)
        refine xq_n 37 [0, 1, 2] [(0, .ref 3), (1, .int (Int32.ofInt 1)), (2, .int (nI i))] [.ref 3] h4 [] 3 hq rfl trivial (fun hq => ?_)
        refine xq_run hq rfl rfl (xq_le (by omega) (ia _ _ _ _ (P ++ cz) ⟨ct_f (S := cS) (L := fN) (c0.1) (fx_w g4 (fun _ _ => sS_c) (fun _ _ z => z)) rfl (fun _ => rfl), t4, (fx_i g4 rfl).trans (c0.2.2.1), (fx_i g4 rfl).trans (c0.2.2.2.1), c0.2.2.2.2.1, (fx_i g4 rfl).trans (c0.2.2.2.2.2.1), by omega, (fx_i g4 rfl).trans (c0.2.2.2.2.2.2.2.1), by omega, cn_f (S := cS) (L := fN) (c0.2.2.2.2.2.2.2.2.2.1) (fx_w g4 (fun _ _ => sS_c) (fun _ _ z => z)) rfl (fun _ => rfl) (fun _ => rfl), (fx_i g4 rfl).trans (c0.2.2.2.2.2.2.2.2.2.2)⟩ (ptx_f (pt) g4 rfl (fun _ => rfl) (fun _ => rfl)) (by first | omega | (simp only [List.length_append, List.length_cons, List.length_nil]; omega)) (by omega) (by omega) hq)) ?_
        rintro v5 h5 ⟨g5, ⟨rfl, pq5, oq5, cq5, c5, lt5, le5, x5, ln5, G5⟩ | ⟨rfl, kq5, f5, ka5, kz5⟩⟩
        · have hq := fx_q g5 hq
          have x5 : ptx h5 (P ++ (cz ++ cq5)) := by simpa only [List.append_assoc] using x5
          have kb5 := tkk_lt (T := T) (n := n) (p := pq5) hT
          have s65 := tks_le (T := T) (n := n) (p := pq5)
          refine xq_n 47 [0, 1, 2] [(0, .ref 3), (1, .int (Int32.ofInt 1)), (2, .int (nI i))] [.int (Int32.ofInt 0), .int (Int32.ofInt 3), .ref 4] h5 [] 7 hq rfl trivial (fun hq => ?_)
          refine xq_run hq rfl rfl (pad_q (c := 3) (y := Int32.ofInt 0) (x5) (by first | omega | (simp only [List.length_append, List.length_cons, List.length_nil]; omega)) hq) ?_
          rintro v6 h6 ⟨rfl, g6, x6⟩
          have hq := fx_q g6 hq
          have x6 : ptx h6 (P ++ (cz ++ (cq5 ++ [(3, Int32.ofInt 0)]))) := by simpa only [List.append_assoc] using x6
          refine xq_n 7 [0, 1, 2] [(0, .ref 3), (1, .int (Int32.ofInt 1)), (2, .int ((nI i) + Int32.ofInt 1))] [] h6 [] 4 hq rfl trivial (fun hq => ?_)
          rw [show ((nI i) + Int32.ofInt 1) = nI (i + 1) from nI_1 _]
          exact ihg (by omega) _ (i + 1) pq5 oq5 (cz ++ (cq5 ++ [(3, Int32.ofInt 0)])) ⟨ct_f (S := cS) (L := fN) (c5.1) (fx_w g6 (fun _ _ => aS_c) (fun _ _ z => z)) rfl (fun _ => rfl), tok_f (c5.2.1) g6 (fun _ => rfl), (fx_i g6 rfl).trans (c5.2.2.1), (fx_i g6 rfl).trans (c5.2.2.2.1), c0.2.2.2.2.1, (fx_i g6 rfl).trans (c5.2.2.2.2.2.1), by omega, (fx_i g6 rfl).trans (c5.2.2.2.2.2.2.2.1), by omega, cn_f (S := cS) (L := fN) (c5.2.2.2.2.2.2.2.2.2.1) (fx_w g6 (fun _ _ => aS_c) (fun _ _ z => z)) rfl (fun _ => rfl) (fun _ => rfl), (fx_i g6 rfl).trans (c5.2.2.2.2.2.2.2.2.2.2)⟩ (fx_t (fx_t (fx_t (g0) (fx_w g4 (fun _ _ => sS_c) (fun _ _ z => z))) (g5)) (fx_w g6 (fun _ _ => aS_c) (fun _ _ z => z))) (x6) (by omega) (by omega) (by first | omega | (simp only [List.length_append, List.length_cons, List.length_nil]; omega)) G5.1 (VR_s d12 GG k2 b3 G5.2) hq
        · have hq := fx_q g5 hq
          refine xq_n 47 [0, 1, 2] [(0, .ref 3), (1, .int (Int32.ofInt 0)), (2, .int (nI i))] [.int (Int32.ofInt 0), .int (Int32.ofInt 3), .ref 4] h5 [] 7 hq rfl trivial (fun hq => ?_)
          refine xq_run hq rfl rfl (add_q hq) ?_
          rintro v7 h7 ⟨rfl, g7⟩
          have hq := fx_q g7 hq
          refine xq_n 7 [0, 1, 2] [(0, .ref 3), (1, .int (Int32.ofInt 0)), (2, .int ((nI i) + Int32.ofInt 1))] [] h7 [] 4 hq rfl trivial (fun hq => ?_)
          rw [show ((nI i) + Int32.ofInt 1) = nI (i + 1) from nI_1 _]
          refine xq_mono (rul_z hq) (fun v h' e => ?_)
          obtain ⟨rfl, rfl⟩ := e
          exact ⟨fx_t (fx_t (fx_t (g0) (fx_w g4 (fun _ _ => sS_c) (fun _ _ z => z))) (g5)) (fx_w g7 (fun _ _ => aS_c) (fun _ _ z => z)), Or.inr ⟨rfl, _, (fx_i g7 rfl).trans (f5), by omega, by omega⟩⟩
      | false =>
        have db3 := of_decide_eq_false b3
        refine xq_n 57 [] [] [.int (Int32.ofInt 1)] h [true] 4 hq rfl ⟨rfl, trivial⟩ (fun hq => ?_)
        exact xq_ret rfl rfl rfl ⟨g0, Or.inl ⟨rfl, p1, o1, cz, c0, by omega, by omega, pt, by omega, k2, b3, GG⟩⟩
set_option maxRecDepth 100000 in
set_option maxHeartbeats 4000000 in
theorem rul_p {f : Nat} (ia : pAll T n mem nn NM f) : pRule T n mem nn NM (f + 1) := by
  intro h p o d P c0 pt pl o6 d12 hq
  have hT : ∀ k, k < n → T k < 256 := fun k hk' => (c0.1.2.2 k hk').1
  have kb := tkk_lt (T := T) (n := n) (p := p) hT
  have n6 := c0.1.2.1
  have s6 := tks_le (T := T) (n := n) (p := p)
  have mm := c0.2.2.2.2.1
  have n16 := c0.2.2.2.2.2.2.2.2.2.1.2.1
  refine xq_m 1 [0] [(0, .ref 3)] [.ref 3] h [] 3 hq rfl trivial (fun hq => ?_)
  refine xq_run hq rfl rfl (ia _ _ _ _ (P) c0 (pt) (by omega) (by omega) (by omega) hq) ?_
  rintro v1 h1 ⟨g1, ⟨rfl, pq1, oq1, cq1, c1, lt1, le1, x1, ln1, G1⟩ | ⟨rfl, kq1, f1, ka1, kz1⟩⟩
  · have hq := fx_q g1 hq
    have kb1 := tkk_lt (T := T) (n := n) (p := pq1) hT
    have s61 := tks_le (T := T) (n := n) (p := pq1)
    refine xq_n 7 [0, 1, 2] [(0, .ref 3), (1, .int (Int32.ofInt 1)), (2, .int (Int32.ofInt 0))] [] h1 [] 5 hq rfl trivial (fun hq => ?_)
    exact rul_lpp ia o6 d12 pl f (Nat.le_refl _) _ 0 pq1 oq1 cq1 c1 (fx_t (fx_0) (g1)) (x1) (by omega) (by omega) (by omega) G1.1 (VR_1 d12 G1.2) hq
  · have hq := fx_q g1 hq
    refine xq_n 7 [0, 1, 2] [(0, .ref 3), (1, .int (Int32.ofInt 0)), (2, .int (Int32.ofInt 0))] [] h1 [] 5 hq rfl trivial (fun hq => ?_)
    refine xq_mono (rul_z hq) (fun v h' e => ?_)
    obtain ⟨rfl, rfl⟩ := e
    exact ⟨fx_t (fx_0) (g1), Or.inr ⟨rfl, _, f1, by omega, by omega⟩⟩
set_option maxRecDepth 100000 in
set_option maxHeartbeats 4000000 in
theorem qu_lpp {f p o d st num : Nat} {P : cdL} {h0 : xh_H} (ii : pItem T n mem nn NM f) (o6 : o ≤ 119) (d12 : d ≤ 11) (n9 : num ≤ 999) (pl : P.length ≤ 3 * o + 16) (n0 : num ≠ 0) (k4 : ky T n p 4 = true) (k91 : tkk T n (tke T n p) = 91) : ∀ g, g ≤ f → ∀ (h : xh_H) (i p1 o1 : Nat) (cz : cdL), cr h T n mem nn NM p1 o1 (d + 1) → fx cS fN h0 h → ptx h (P ++ cz) → o + 2 + i ≤ o1 → o1 ≤ 120 → cz.length + 3 ≤ 3 * (o1 - o) → VS T n mem nn (nmW T NM) d (tke T n (tke T n p)) o num p1 o1 cz → a_rq a_tb h → xq g xi_X4_readQuota xmi_X4_readQuota 57 [(0, .ref 3), (2, .int (nI num)), (3, .int (Int32.ofInt 1)), (4, .int (nI i))] [] h (rP h0 T n mem nn NM o d P 2 (VQ T n mem nn (nmW T NM) d p o st num)) := by
  intro g
  induction g with
  | zero => intros; exact xq_0
  | succ g ihg =>
    intro hg h i p1 o1 cz c0 g0 pt hi ho hc GG hq
    have hT : ∀ k, k < n → T k < 256 := fun k hk' => (c0.1.2.2 k hk').1
    have kb := tkk_lt (T := T) (n := n) (p := p1) hT
    have n6 := c0.1.2.1
    have s6 := tks_le (T := T) (n := n) (p := p1)
    have mm := c0.2.2.2.2.1
    have n16 := c0.2.2.2.2.2.2.2.2.2.1.2.1
    cases c1 : xe_c .gt (nI i) 120 with
    | true =>
      have z1 : i > 120 := nq_gtt (a := i) (b := 120) (by omega) (by omega) c1
      omega
    | false =>
      have z1 : i ≤ 120 := nq_gtf (a := i) (b := 120) (by omega) (by omega) c1
      cases c2 : xe_c .eq (nI (tkk T n p1)) 93 with
      | true =>
        have z2 : (tkk T n p1) = 93 := nq_eqt (a := (tkk T n p1)) (b := 93) (by omega) (by omega) c2
        refine xq_m 98 [0, 2, 3, 4] [(0, .ref 3), (2, .int (nI num)), (3, .int (Int32.ofInt 1)), (4, .int (nI i))] [.int (nI num), .int 6, .ref 4] h [false, false, true] 16 hq rfl ⟨c1, (by decide), (show xe_c .eq (xg 0 h.2.1 8 3) 93 = true by rw [show (xg 0 h.2.1 8 3) = (nI (tkk T n p1)) from c0.2.1.1]; exact c2), trivial⟩ (fun hq => ?_)
        refine xq_run hq rfl rfl (pad_q (c := 6) (y := nI num) (pt) (by first | omega | (simp only [List.length_append, List.length_cons, List.length_nil]; omega)) hq) ?_
        rintro v3 h3 ⟨rfl, g3, x3⟩
        have hq := fx_q g3 hq
        have x3 : ptx h3 (P ++ (cz ++ [(6, nI num)])) := by simpa only [List.append_assoc] using x3
        refine xq_n 118 [0, 2, 3, 4] [(0, .ref 3), (2, .int (nI num)), (3, .int (Int32.ofInt 1)), (4, .int (nI i))] [.int 93, .ref 3] (xh_ui h3 3 6 ((xg 0 h3.2.1 3 6) - (Int32.ofInt 1))) [false] 12 hq rfl ⟨(by decide), trivial⟩ (fun _ => ?_)
        rw [show (xg 0 h3.2.1 3 6) = (nI (d + 1)) from (fx_i g3 rfl).trans (c0.2.2.2.2.2.2.2.1)]
        rw [show ((nI (d + 1)) - (Int32.ofInt 1)) = nI ((d + 1) - 1) from nI_dec1 (by omega)]
        rw [show (nI ((d + 1) - 1)) = nI d from (by rw [Nat.add_sub_cancel])]
        have hq : a_rq a_tb (xh_ui h3 3 6 (nI d)) := a_rq_ui hq
        refine xq_run hq rfl rfl (xq_and (ts_q (c := 93) (by decide) (by decide) ⟨ct_f (S := cS) (L := fN) (ct_f (S := cS) (L := fN) (c0.1) (fx_w g3 (fun _ _ => aS_c) (fun _ _ z => z)) rfl (fun _ => rfl)) (fx_ui fx_0 rfl) rfl (fun _ => rfl), tok_f (S := fun c k => Nat.beq c 3) (L := fN) (tok_f (c0.2.1) g3 (fun _ => rfl)) (fx_ui fx_0 rfl) (fun _ => rfl), (gx_o (by decide)).trans ((fx_i g3 rfl).trans (c0.2.2.1)), (gx_k (by decide)).trans ((fx_i g3 rfl).trans (c0.2.2.2.1)), c0.2.2.2.2.1, (gx_k (by decide)).trans ((fx_i g3 rfl).trans (c0.2.2.2.2.2.1)), by omega, gx_s, by omega, cn_f (S := cS) (L := fN) (cn_f (S := cS) (L := fN) (c0.2.2.2.2.2.2.2.2.2.1) (fx_w g3 (fun _ _ => aS_c) (fun _ _ z => z)) rfl (fun _ => rfl) (fun _ => rfl)) (fx_ui fx_0 rfl) rfl (fun _ => rfl) (fun _ => rfl), (gx_k (by decide)).trans ((fx_i g3 rfl).trans (c0.2.2.2.2.2.2.2.2.2.2))⟩ hq) (ts_n (c := 93) (by decide) (by decide) ⟨ct_f (S := cS) (L := fN) (ct_f (S := cS) (L := fN) (c0.1) (fx_w g3 (fun _ _ => aS_c) (fun _ _ z => z)) rfl (fun _ => rfl)) (fx_ui fx_0 rfl) rfl (fun _ => rfl), tok_f (S := fun c k => Nat.beq c 3) (L := fN) (tok_f (c0.2.1) g3 (fun _ => rfl)) (fx_ui fx_0 rfl) (fun _ => rfl), (gx_o (by decide)).trans ((fx_i g3 rfl).trans (c0.2.2.1)), (gx_k (by decide)).trans ((fx_i g3 rfl).trans (c0.2.2.2.1)), c0.2.2.2.2.1, (gx_k (by decide)).trans ((fx_i g3 rfl).trans (c0.2.2.2.2.2.1)), by omega, gx_s, by omega, cn_f (S := cS) (L := fN) (cn_f (S := cS) (L := fN) (c0.2.2.2.2.2.2.2.2.2.1) (fx_w g3 (fun _ _ => aS_c) (fun _ _ z => z)) rfl (fun _ => rfl) (fun _ => rfl)) (fx_ui fx_0 rfl) rfl (fun _ => rfl) (fun _ => rfl), (gx_k (by decide)).trans ((fx_i g3 rfl).trans (c0.2.2.2.2.2.2.2.2.2.2))⟩ hq)) ?_
        rintro v4 h4 ⟨⟨g4, l4, q4⟩, n4⟩
        have hq := fx_q g4 hq
        by_cases w4_0 : tkk T n p1 ≠ 93
        · obtain ⟨rfl, f4, y4, z4, e64, e4⟩ := q4 1 (tks T n p1) (by unfold kS; rw [if_pos w4_0])
          refine xq_n 129 [] [] [.int (Int32.ofInt 0)] h4 [true] 4 hq rfl ⟨(by decide), trivial⟩ (fun hq => ?_)
          exfalso; omega
        · skip
          obtain ⟨rfl, c4⟩ := l4 (tke T n p1) (o1) (d) (by unfold kS; rw [if_neg w4_0])
          have kb4 := tkk_lt (T := T) (n := n) (p := tke T n p1) hT
          have s64 := tks_le (T := T) (n := n) (p := tke T n p1)
          refine xq_n 129 [] [] [.int (Int32.ofInt 1)] h4 [false] 5 hq rfl ⟨(by decide), trivial⟩ (fun hq => ?_)
          exact xq_ret rfl rfl rfl ⟨fx_t (fx_ui (fx_t (g0) (fx_w g3 (fun _ _ => aS_c) (fun _ _ z => z))) rfl) (g4), Or.inl ⟨rfl, tke T n p1, o1, (cz ++ [(6, nI num)]), c4, by omega, by omega, ptx_n (ptx_f (S := fun c k => Nat.beq c 3) (L := fN) (x3) (fx_ui fx_0 rfl) rfl (fun _ => rfl) (fun _ => rfl)) n4, by first | omega | (simp only [List.length_append, List.length_cons, List.length_nil]; omega), VQ_e (by omega) GG (by omega) n0 (by omega) k4 k91⟩⟩
      | false =>
        have z2 : (tkk T n p1) ≠ 93 := nq_eqf (a := (tkk T n p1)) (b := 93) (by omega) (by omega) c2
        refine xq_m 81 [0, 2, 3, 4] [(0, .ref 3), (2, .int (nI num)), (3, .int (Int32.ofInt 1)), (4, .int (nI i))] [.ref 3] h [false, false, false] 13 hq rfl ⟨c1, (by decide), (show xe_c .eq (xg 0 h.2.1 8 3) 93 = false by rw [show (xg 0 h.2.1 8 3) = (nI (tkk T n p1)) from c0.2.1.1]; exact c2), trivial⟩ (fun hq => ?_)
        refine xq_run hq rfl rfl (xq_le (by omega) (ii _ _ _ _ (P ++ cz) c0 (pt) (by first | omega | (simp only [List.length_append, List.length_cons, List.length_nil]; omega)) (by omega) (by omega) hq)) ?_
        rintro v5 h5 ⟨g5, ⟨rfl, pq5, oq5, cq5, c5, lt5, le5, x5, ln5, G5⟩ | ⟨rfl, kq5, f5, ka5, kz5⟩⟩
        · have hq := fx_q g5 hq
          have x5 : ptx h5 (P ++ (cz ++ cq5)) := by simpa only [List.append_assoc] using x5
          have kb5 := tkk_lt (T := T) (n := n) (p := pq5) hT
          have s65 := tks_le (T := T) (n := n) (p := pq5)
          refine xq_n 57 [0, 2, 3, 4] [(0, .ref 3), (2, .int (nI num)), (3, .int (Int32.ofInt 1)), (4, .int ((nI i) + Int32.ofInt 1))] [] h5 [] 5 hq rfl trivial (fun hq => ?_)
          rw [show ((nI i) + Int32.ofInt 1) = nI (i + 1) from nI_1 _]
          exact ihg (by omega) _ (i + 1) pq5 oq5 (cz ++ cq5) c5 (fx_t (g0) (g5)) (x5) (by omega) (by omega) (by first | omega | (simp only [List.length_append, List.length_cons, List.length_nil]; omega)) (VS_s (by omega) GG (by omega) G5) hq
        · have hq := fx_q g5 hq
          refine xq_n 57 [0, 2, 3, 4] [(0, .ref 3), (2, .int (nI num)), (3, .int (Int32.ofInt 0)), (4, .int ((nI i) + Int32.ofInt 1))] [] h5 [] 5 hq rfl trivial (fun hq => ?_)
          rw [show ((nI i) + Int32.ofInt 1) = nI (i + 1) from nI_1 _]
          refine xq_mono (qz_q hq) (fun v h' e => ?_)
          obtain ⟨rfl, gz⟩ := e
          exact ⟨fx_t (fx_t (g0) (g5)) (fx_w gz (fun _ _ => zS_c) (fun _ _ z => z)), Or.inr ⟨rfl, _, (fx_i gz rfl).trans (f5), by omega, by omega⟩⟩
set_option maxRecDepth 100000 in
set_option maxHeartbeats 4000000 in
theorem quo_p {f : Nat} (ii : pItem T n mem nn NM f) : pQuota T n mem nn NM (f + 1) := by
  intro h p o d st num P c0 pt pl o6 d12 n9 hq
  have hT : ∀ k, k < n → T k < 256 := fun k hk' => (c0.1.2.2 k hk').1
  have kb := tkk_lt (T := T) (n := n) (p := p) hT
  have n6 := c0.1.2.1
  have s6 := tks_le (T := T) (n := n) (p := p)
  have mm := c0.2.2.2.2.1
  have n16 := c0.2.2.2.2.2.2.2.2.2.1.2.1
  cases c1 : xe_c .ge (nI num) (Int32.ofInt 1) with
  | true =>
    have z1 : num ≥ 1 := nq_get (a := num) (b := 1) (by omega) (by omega) c1
    refine xq_m 14 [0, 1, 2] [(0, .ref 3), (1, .int (nI st)), (2, .int (nI num))] [.int (nI st), .ref 3] h [true] 7 hq rfl ⟨c1, trivial⟩ (fun hq => ?_)
    refine xq_run hq rfl rfl (xq_and (co_q (st := st) (by omega) c0 hq) (co_n (st := st) (by omega) c0 hq)) ?_
    rintro v2 h2 ⟨⟨g2, l2, q2⟩, n2⟩
    have hq := fx_q g2 hq
    by_cases w2_0 : 120 ≤ o
    · obtain ⟨rfl, f2, y2, z2, e62, e2⟩ := q2 4 (st) (by unfold kC; rw [if_pos w2_0])
      refine xq_n 39 [] [] [.int (Int32.ofInt 0)] h2 [true] 4 hq rfl ⟨(by decide), trivial⟩ (fun hq => ?_)
      exact xq_ret rfl rfl rfl ⟨fx_t (fx_0) (g2), Or.inr ⟨rfl, _, f2, by omega, by omega⟩⟩
    · skip
      obtain ⟨rfl, c2⟩ := l2 (p) (o + 1) (d) (by unfold kC; rw [if_neg w2_0])
      have kb2 := tkk_lt (T := T) (n := n) (p := p) hT
      have s62 := tks_le (T := T) (n := n) (p := p)
      refine xq_n 23 [0, 1, 2] [(0, .ref 3), (1, .int (nI st)), (2, .int (nI num))] [.float 6, .ref 3] h2 [false] 5 hq rfl ⟨(by decide), trivial⟩ (fun hq => ?_)
      refine xq_run hq rfl rfl (xq_and (tw4_q c2 hq) (tw4_n c2 hq)) ?_
      rintro v3 h3 ⟨⟨g3, l3, q3⟩, n3⟩
      have hq := fx_q g3 hq
      by_cases w3_0 : ky T n p 4 = false
      · obtain ⟨rfl, f3, y3, z3, e63, e3⟩ := q3 1 (tks T n p) (by unfold kW; rw [if_pos w3_0])
        refine xq_n 39 [] [] [.int (Int32.ofInt 0)] h3 [true] 4 hq rfl ⟨(by decide), trivial⟩ (fun hq => ?_)
        exact xq_ret rfl rfl rfl ⟨fx_t (fx_t (fx_0) (g2)) (g3), Or.inr ⟨rfl, _, f3, by omega, by omega⟩⟩
      · skip
        have w3_0t : ky T n p 4 = true := eq_true_of_ne_false w3_0
        have dw3_0 := of_decide_eq_true w3_0t
        obtain ⟨rfl, c3⟩ := l3 (tke T n p) ((o + 1)) (d) (by unfold kW; rw [if_neg w3_0])
        have kb3 := tkk_lt (T := T) (n := n) (p := tke T n p) hT
        have s63 := tks_le (T := T) (n := n) (p := tke T n p)
        refine xq_n 32 [0, 1, 2] [(0, .ref 3), (1, .int (nI st)), (2, .int (nI num))] [.int 91, .ref 3] h3 [false] 5 hq rfl ⟨(by decide), trivial⟩ (fun hq => ?_)
        refine xq_run hq rfl rfl (xq_and (to_q (c := 91) (by decide) (by decide) c3 hq) (to_n (c := 91) (by decide) (by decide) c3 hq)) ?_
        rintro v4 h4 ⟨⟨g4, l4, q4⟩, n4⟩
        have hq := fx_q g4 hq
        by_cases w4_0 : tkk T n (tke T n p) ≠ 91
        · obtain ⟨rfl, f4, y4, z4, e64, e4⟩ := q4 1 (tks T n (tke T n p)) (by unfold kO; rw [if_pos w4_0])
          refine xq_n 39 [] [] [.int (Int32.ofInt 0)] h4 [false] 4 hq rfl ⟨(by decide), trivial⟩ (fun hq => ?_)
          exact xq_ret rfl rfl rfl ⟨fx_t (fx_t (fx_t (fx_0) (g2)) (g3)) (g4), Or.inr ⟨rfl, _, f4, by omega, by omega⟩⟩
        · skip
          by_cases w4_1 : 12 ≤ d
          · obtain ⟨rfl, f4, y4, z4, e64, e4⟩ := q4 4 (tks T n (tke T n p)) (by unfold kO; rw [if_neg w4_0, if_pos w4_1])
            refine xq_n 39 [] [] [.int (Int32.ofInt 0)] h4 [false] 4 hq rfl ⟨(by decide), trivial⟩ (fun hq => ?_)
            exact xq_ret rfl rfl rfl ⟨fx_t (fx_t (fx_t (fx_0) (g2)) (g3)) (g4), Or.inr ⟨rfl, _, f4, by omega, by omega⟩⟩
          · skip
            obtain ⟨rfl, c4⟩ := l4 (tke T n (tke T n p)) ((o + 1)) (d + 1) (by unfold kO; rw [if_neg w4_0, if_neg w4_1])
            have kb4 := tkk_lt (T := T) (n := n) (p := tke T n (tke T n p)) hT
            have s64 := tks_le (T := T) (n := n) (p := tke T n (tke T n p))
            refine xq_n 46 [0, 1, 2] [(0, .ref 3), (1, .int (nI st)), (2, .int (nI num))] [.int (Int32.ofInt 0), .int (Int32.ofInt 4), .ref 4] h4 [true] 7 hq rfl ⟨(by decide), trivial⟩ (fun hq => ?_)
            refine xq_run hq rfl rfl (pad_q (c := 4) (y := Int32.ofInt 0) (ptx_n (ptx_n (ptx_n (pt) n2) n3) n4) (by first | omega | (simp only [List.length_append, List.length_cons, List.length_nil]; omega)) hq) ?_
            rintro v5 h5 ⟨rfl, g5, x5⟩
            have hq := fx_q g5 hq
            refine xq_n 50 [0, 1, 2] [(0, .ref 3), (1, .int (nI st)), (2, .int (nI num))] [.ref 3] h5 [] 3 hq rfl trivial (fun hq => ?_)
            refine xq_run hq rfl rfl (ii _ _ _ _ (P ++ [(4, Int32.ofInt 0)]) ⟨ct_f (S := cS) (L := fN) (c4.1) (fx_w g5 (fun _ _ => aS_c) (fun _ _ z => z)) rfl (fun _ => rfl), tok_f (c4.2.1) g5 (fun _ => rfl), (fx_i g5 rfl).trans (c4.2.2.1), (fx_i g5 rfl).trans (c4.2.2.2.1), c0.2.2.2.2.1, (fx_i g5 rfl).trans (c4.2.2.2.2.2.1), by omega, (fx_i g5 rfl).trans (c4.2.2.2.2.2.2.2.1), by omega, cn_f (S := cS) (L := fN) (c4.2.2.2.2.2.2.2.2.2.1) (fx_w g5 (fun _ _ => aS_c) (fun _ _ z => z)) rfl (fun _ => rfl) (fun _ => rfl), (fx_i g5 rfl).trans (c4.2.2.2.2.2.2.2.2.2.2)⟩ (x5) (by first | omega | (simp only [List.length_append, List.length_cons, List.length_nil]; omega)) (by omega) (by omega) hq) ?_
            rintro v6 h6 ⟨g6, ⟨rfl, pq6, oq6, cq6, c6, lt6, le6, x6, ln6, G6⟩ | ⟨rfl, kq6, f6, ka6, kz6⟩⟩
            · have hq := fx_q g6 hq
              have x6 : ptx h6 (P ++ ([(4, Int32.ofInt 0)] ++ cq6)) := by simpa only [List.append_assoc] using x6
              have kb6 := tkk_lt (T := T) (n := n) (p := pq6) hT
              have s66 := tks_le (T := T) (n := n) (p := pq6)
              refine xq_n 57 [0, 2, 3, 4] [(0, .ref 3), (2, .int (nI num)), (3, .int (Int32.ofInt 1)), (4, .int (Int32.ofInt 0))] [] h6 [] 5 hq rfl trivial (fun hq => ?_)
              exact qu_lpp (p := p) (o := o) (d := d) (st := st) ii (by omega) (by omega) n9 pl (by omega) (by assumption) (by omega) f (Nat.le_refl _) _ 0 pq6 oq6 ([(4, Int32.ofInt 0)] ++ cq6) c6 (fx_t (fx_t (fx_t (fx_t (fx_t (fx_0) (g2)) (g3)) (g4)) (fx_w g5 (fun _ _ => aS_c) (fun _ _ z => z))) (g6)) (x6) (by omega) (by omega) (by first | omega | (simp only [List.length_append, List.length_cons, List.length_nil]; omega)) (VS_1 (by omega) G6) hq
            · have hq := fx_q g6 hq
              refine xq_n 57 [0, 2, 3, 4] [(0, .ref 3), (2, .int (nI num)), (3, .int (Int32.ofInt 0)), (4, .int (Int32.ofInt 0))] [] h6 [] 5 hq rfl trivial (fun hq => ?_)
              refine xq_mono (qz_q hq) (fun v h' e => ?_)
              obtain ⟨rfl, gz⟩ := e
              exact ⟨fx_t (fx_t (fx_t (fx_t (fx_t (fx_t (fx_0) (g2)) (g3)) (g4)) (fx_w g5 (fun _ _ => aS_c) (fun _ _ z => z))) (g6)) (fx_w gz (fun _ _ => zS_c) (fun _ _ z => z)), Or.inr ⟨rfl, _, (fx_i gz rfl).trans (f6), by omega, by omega⟩⟩
  | false =>
    have z1 : num < 1 := nq_gef (a := num) (b := 1) (by omega) (by omega) c1
    refine xq_m 8 [0, 1, 2] [(0, .ref 3), (1, .int (nI st)), (2, .int (nI num))] [.int (nI st), .int (Int32.ofInt 2), .ref 3] h [false] 8 hq rfl ⟨c1, trivial⟩ (fun hq => ?_)
    refine xq_run hq rfl rfl (fail_q (k := 2) (pl := st) hq) ?_
    rintro v7 h7 ⟨rfl, g7, f7, l7⟩
    have hq := fx_q g7 hq
    exact xq_ret rfl rfl rfl ⟨fx_t (fx_0) (fx_w g7 (fun _ _ => fS_c) (fun _ _ z => z)), Or.inr ⟨rfl, _, f7, by omega, by omega⟩⟩
/-- ALL OF THEM -/
theorem rp_all : ∀ f, pOne T n mem nn NM f ∧ pAll T n mem nn NM f ∧ pRule T n mem nn NM f ∧ pItem T n mem nn NM f ∧ pQuota T n mem nn NM f := by
  intro f
  induction f with
  | zero => exact ⟨fun _ _ _ _ _ _ _ _ _ _ _ => xq_0, fun _ _ _ _ _ _ _ _ _ _ _ => xq_0, fun _ _ _ _ _ _ _ _ _ _ _ => xq_0, fun _ _ _ _ _ _ _ _ _ _ _ => xq_0, fun _ _ _ _ _ _ _ _ _ _ _ _ _ _ => xq_0⟩
  | succ f ih => exact ⟨one_p ih.2.2.2.2 ih.2.2.1, all_p ih.1, rul_p ih.2.1, item_p ih.1 ih.2.2.2.2, quo_p ih.2.2.2.1⟩
end XPS2
end
section
section XPT2
variable {T : Nat → Nat} {n mem nn : Nat} {NM : Nat → Nat × Nat} {NW : Nat → Nat}
theorem VR_c {d p o p' o' : Nat} {c : cdL} (h : VR T n mem nn NW d p o p' o' c) (t : Nat) (fs : List Nat) (ht : t ≠ 2) (hf : fs.length = d) : Rc T n mem nn NW (1, p, o, t :: fs) (0, p', o', t :: fs) := by
  obtain ⟨y, -, h2⟩ := h 0 (fun _ => false) (nI 0) (by decide) ⟨0, Nat.two_pow_pos nn, rfl, fun k _ => Nat.zero_testBit k⟩
  obtain ⟨_, _, _, _, r⟩ := h2 t fs 0 1 0 [] false ht hf
  exact Rv_c r
theorem VR_top {p o p' o' : Nat} {c : cdL} (h : VR T n mem nn NW 0 p o p' o' c) (k2 : ky T n p' 2 = false) (k3 : ky T n p' 3 = false) (k59 : tkk T n p' = 59) {sv : Nat} {NV : Nat → Bool} {nm : Int32} (hs : sv < 4096) (hn : nmo nn NV nm) : ∃ y, pv (nI sv) nm 27 c (bl y) ∧ ∀ one, Rv T n nn NW sv NV mem (1, p, o, [0]) ([vR], one) (0, tke T n p', o', []) ([], y) := by
  obtain ⟨y, h1, h2⟩ := h sv NV nm hs hn
  refine ⟨y, h1, fun one => ?_⟩
  obtain ⟨ov, a, one', e, r⟩ := h2 0 [] 0 1 0 [] one (by decide) rfl
  refine Rv_t r ?_
  have es : stp T n mem nn NW (0, p', o', [0]) = .inl (0, tke T n p', o', []) := by
    rw [enE]
    unfold en
    rw [if_neg (by intro z; cases z), if_neg (by rw [k2]; decide), if_neg (by rw [k3]; decide), if_pos (show [0].head? = some 0 from rfl), if_pos k59]
  have r1 := Rv_1 (sv := sv) (NV := NV) (x := ([(ov, a, (0 : Int32), (1 : Int32), (0 : Int32))], one')) es
  rw [vdt0, ven_c] at r1
  rw [if_neg (by intro z; cases z), if_neg (by rw [k2]; decide), if_neg (by rw [k3]; decide), e] at r1
  exact r1
/-- A TEXT'S VALUE for one set -/
def Tv (T : Nat → Nat) (n mem sv : Nat) : Nat → Nat → Nat → Nat → (Nat → Nat) → (Nat → Bool) → Bool → Prop
  | 0, p, o, nn, NW, NV, y => ky T n p 0 = false ∧ ky T n p 1 = true ∧ ∃ p' o', rkk T n p' = 0 ∧ ∀ one, Rv T n nn NW sv NV mem (1, tke T n p, o, [0]) ([vR], one) (0, p', o', []) ([], y)
  | j + 1, p, o, nn, NW, NV, y => ky T n p 0 = true ∧ nmt T n (tke T n p) = true ∧ hasn nn NW (tkw T n (tke T n p)) = false ∧ nn < 16 ∧ tkk T n (tke T n (tke T n p)) = 58 ∧ ∃ p' o' y1, (∀ one, Rv T n nn NW sv NV mem (1, tke T n (tke T n (tke T n p)), o, [0]) ([vR], one) (0, p', o', []) ([], y1)) ∧ Tv T n mem sv j p' o' (nn + 1) (upN NW nn (tkw T n (tke T n p))) (upB NV nn y1) y
/-- what was read so far, and what the program makes of it -/
def FW (T : Nat → Nat) (n mem : Nat) (P : cdL) (p o nn : Nat) (NW : Nat → Nat) : Prop := ∀ sv, sv < 4096 → ∃ NV nm, nmo nn NV nm ∧ px (nI sv) P ([], nI 0) = some ([], nm) ∧ ∀ y j, Tv T n mem sv j p o nn NW NV y → Tv T n mem sv (nn + j) 0 0 0 (nmW T (fun _ => (0, 0))) (fun _ => false) y
theorem FW_s {p o p' o' : Nat} {P c : cdL} (h : FW T n mem P p o nn NW) (kb : ky T n p 0 = true) (kn : nmt T n (tke T n p) = true) (hn' : hasn nn NW (tkw T n (tke T n p)) = false) (n16 : nn < 16) (k58 : tkk T n (tke T n (tke T n p)) = 58) (hv : VR T n mem nn NW 0 (tke T n (tke T n (tke T n p))) o p' o' c) (k2 : ky T n p' 2 = false) (k3 : ky T n p' 3 = false) (k59 : tkk T n p' = 59) : FW T n mem (P ++ (c ++ [(7, nI nn)])) (tke T n p') o' (nn + 1) (upN NW nn (tkw T n (tke T n p))) := by
  intro sv hs
  obtain ⟨NV, nm, h1, h2, h3⟩ := h sv hs
  obtain ⟨y, h4, h5⟩ := VR_top hv k2 k3 k59 hs h1
  refine ⟨upB NV nn y, nm ||| (bl y <<< (nI nn &&& 31)), nmo_up h1 n16, ?_, fun z j ht => ?_⟩
  · rw [px_app, h2]
    show px (nI sv) (c ++ [(7, nI nn)]) ([], nm) = _
    rw [px_app, h4 [] (by decide)]
    rfl
  · rw [show nn + 1 + j = nn + (j + 1) by omega]
    exact h3 z (j + 1) ⟨kb, kn, hn', n16, k58, _, _, y, h5, ht⟩
/-- what a good text leaves in the class -/
def tx_G (T : Nat → Nat) (n mem : Nat) (h' : xh_H) : Prop := ∃ P, ptx h' P ∧ P.length < 400 ∧ ∀ sv, sv < 4096 → ∃ y j nm, px (nI sv) P ([], nI 0) = some ([bl y], nm) ∧ Tv T n mem sv j 0 0 0 (nmW T (fun _ => (0, 0))) (fun _ => false) y
theorem FW_e {p o p' o' : Nat} {P c : cdL} {h' : xh_H} (h : FW T n mem P p o nn NW) (kb : ky T n p 0 = false) (kc : ky T n p 1 = true) (hv : VR T n mem nn NW 0 (tke T n p) o p' o' c) (k2 : ky T n p' 2 = false) (k3 : ky T n p' 3 = false) (k59 : tkk T n p' = 59) (ke : rkk T n (tke T n p') = 0) (pt : ptx h' (P ++ c)) (pl : (P ++ c).length < 400) : tx_G T n mem h' := by
  refine ⟨_, pt, pl, fun sv hs => ?_⟩
  obtain ⟨NV, nm, h1, h2, h3⟩ := h sv hs
  obtain ⟨y, h4, h5⟩ := VR_top hv k2 k3 k59 hs h1
  refine ⟨y, nn + 0, nm, ?_, h3 y 0 ⟨kb, kc, _, _, ke, h5⟩⟩
  rw [px_app, h2]
  exact h4 [] (by decide)
def bc_P (h : xh_H) (T : Nat → Nat) (n mem nn : Nat) (NM : Nat → Nat × Nat) (P : cdL) (p o : Nat) (v : Option Value) (h' : xh_H) : Prop := fx cT fN h h' ∧ ((v = some (.int 1) ∧ ∃ p' o' c, o < o' ∧ o' ≤ 120 ∧ cr h' T n mem (nn + 1) (upM NM nn (tks T n (tke T n p), tke T n (tke T n p))) (tke T n p') o' 0 ∧ ptx h' (P ++ (c ++ [(7, nI nn)])) ∧ c.length + 2 ≤ 3 * (o' - o) ∧ nmt T n (tke T n p) = true ∧ hasn nn (nmW T NM) (tkw T n (tke T n p)) = false ∧ nn < 16 ∧ tkk T n (tke T n (tke T n p)) = 58 ∧ VR T n mem nn (nmW T NM) 0 (tke T n (tke T n (tke T n p))) o p' o' c ∧ ky T n p' 2 = false ∧ ky T n p' 3 = false ∧ tkk T n p' = 59) ∨ (v = some (.int 0) ∧ ∃ k, xg 0 h'.2.1 3 8 = nI k ∧ 1 ≤ k ∧ k ≤ 4))
set_option maxRecDepth 100000 in
set_option maxHeartbeats 4000000 in
theorem bd_endp {f : Nat} {xa xb : Int32} {P : cdL} {h : xh_H} (pt : ptx h P) (l4 : P.length < 400) (e7 : xg 0 h.2.1 3 7 = nI nn) (n15 : nn < 16) (hq : a_rq a_tb h) : xq f xi_X4_readBody xmi_X4_readBody 57 [(0, .ref 3), (1, .int xa), (2, .int xb)] [] h (fun v h' => ptx h' (P ++ [(7, nI nn)])) := by
  refine xq_n 67 [0, 1, 2] [(0, .ref 3), (1, .int xa), (2, .int xb)] [.int (xg 0 h.2.1 3 7), .int 7, .ref 4] h [] 7 hq rfl trivial (fun hq => ?_)
  rw [show (xg 0 h.2.1 3 7) = (nI nn) from e7]
  refine xq_run hq rfl rfl (pad_q (c := 7) (y := (nI nn)) (pt) (by first | omega | (simp only [List.length_append, List.length_cons, List.length_nil]; omega)) hq) ?_
  rintro v1 h1 ⟨rfl, g1, x1⟩
  have hq := fx_q g1 hq
  cases c2 : xe_c .ge (nI nn) 16 with
  | true =>
    have z2 : nn ≥ 16 := nq_get (a := nn) (b := 16) (by omega) (by omega) c2
    omega
  | false =>
    have z2 : nn < 16 := nq_gef (a := nn) (b := 16) (by omega) (by omega) c2
    refine xq_n 110 [] [] [.int (Int32.ofInt 1)] (xh_ui (xh_ui (xh_ui h1 9 ((xg 0 h1.2.1 3 7).toNatClampNeg) xa) 10 ((xg 0 (xh_ui h1 9 ((xg 0 h1.2.1 3 7).toNatClampNeg) xa).2.1 3 7).toNatClampNeg) xb) 3 7 ((xg 0 (xh_ui (xh_ui h1 9 ((xg 0 h1.2.1 3 7).toNatClampNeg) xa) 10 ((xg 0 (xh_ui h1 9 ((xg 0 h1.2.1 3 7).toNatClampNeg) xa).2.1 3 7).toNatClampNeg) xb).2.1 3 7) + (Int32.ofInt 1))) [false] 25 hq rfl ⟨(show xe_c .ge (xg 0 h1.2.1 3 7) 16 = false by rw [show (xg 0 h1.2.1 3 7) = (nI nn) from (fx_i g1 rfl).trans (e7)]; exact c2), trivial⟩ (fun _ => ?_)
    rw [show (xg 0 (xh_ui (xh_ui h1 9 ((xg 0 h1.2.1 3 7).toNatClampNeg) xa) 10 ((xg 0 (xh_ui h1 9 ((xg 0 h1.2.1 3 7).toNatClampNeg) xa).2.1 3 7).toNatClampNeg) xb).2.1 3 7) = (nI nn) from (gx_o (by decide)).trans ((gx_o (by decide)).trans ((fx_i g1 rfl).trans (e7)))]
    rw [show (xg 0 (xh_ui h1 9 ((xg 0 h1.2.1 3 7).toNatClampNeg) xa).2.1 3 7) = (nI nn) from (gx_o (by decide)).trans ((fx_i g1 rfl).trans (e7))]
    rw [show (xg 0 h1.2.1 3 7) = (nI nn) from (fx_i g1 rfl).trans (e7)]
    rw [show ((nI nn).toNatClampNeg) = nn from nI_clamp (by omega)]
    rw [show ((nI nn) + (Int32.ofInt 1)) = nI (nn + 1) from nI_1 _]
    have hq : a_rq a_tb (xh_ui (xh_ui (xh_ui h1 9 nn xa) 10 nn xb) 3 7 (nI (nn + 1))) := a_rq_ui (a_rq_ui (a_rq_ui hq))
    exact xq_ret rfl rfl rfl (ptx_f (S := fun c k => Nat.beq c 3) (L := fN) (ptx_f (S := fun c k => Nat.beq c 10) (L := fN) (ptx_f (S := fun c k => Nat.beq c 9) (L := fN) (x1) (fx_ui fx_0 rfl) rfl (fun _ => rfl) (fun _ => rfl)) (fx_ui fx_0 rfl) rfl (fun _ => rfl) (fun _ => rfl)) (fx_ui fx_0 rfl) rfl (fun _ => rfl) (fun _ => rfl))
theorem Rc_end {s : aSt} {p1 o1 p2 o2 : Nat} (a : Rc T n mem nn NW s (0, p1, o1, [])) (b : Rc T n mem nn NW s (0, p2, o2, [])) : p1 = p2 ∧ o1 = o2 := by
  obtain ⟨k, hk⟩ := a
  obtain ⟨j, hj⟩ := b
  have e1 := (its_add (j := j) hk).trans its_d
  have e2 := (its_add (j := k) hj).trans its_d
  rw [Nat.add_comm] at e2
  rw [e1] at e2
  cases e2
  exact ⟨rfl, rfl⟩
theorem Fl_end {s : aSt} {p1 o1 : Nat} {e : Nat × Nat} (a : Rc T n mem nn NW s (0, p1, o1, [])) (b : Fl T n mem nn NW s e) : False := by
  obtain ⟨k, hk⟩ := a
  obtain ⟨j, hj⟩ := b
  have e1 := (its_add (j := j) hk).trans its_d
  have e2 : its T n mem nn NW (j + k) s = .inr e := by
    clear e1 hk
    induction j generalizing s with
    | zero => cases hj
    | succ j ih =>
      rw [Nat.succ_add]
      have u : ∀ m, its T n mem nn NW (m + 1) s = (match stp T n mem nn NW s with
        | .inl s' => its T n mem nn NW m s'
        | .inr e => .inr e) := fun _ => rfl
      have hj : its T n mem nn NW (j + 1) s = .inr e := hj
      rw [u] at hj
      rw [show (j + k).succ = (j + k) + 1 from rfl, u]
      cases hs : stp T n mem nn NW s with
      | inl s' => rw [hs] at hj; exact ih hj
      | inr e' => rw [hs] at hj; exact hj
  rw [Nat.add_comm, e1] at e2
  cases e2
theorem Bdy_u {p o p1 o1 p2 o2 w1 w2 : Nat} (a : Bdy T n mem nn NW p o (.inl (p1, o1, w1))) (b : Bdy T n mem nn NW p o (.inl (p2, o2, w2))) : p1 = p2 ∧ o1 = o2 := by
  unfold Bdy at a b
  by_cases c1 : nmt T n (tke T n p) = false
  · rw [if_pos c1] at a; cases a
  rw [if_neg c1] at a b
  by_cases c2 : hasn nn NW (tkw T n (tke T n p)) = true
  · rw [if_pos c2] at a; cases a
  rw [if_neg c2] at a b
  by_cases c3 : nn = 16
  · rw [if_pos c3] at a; cases a
  rw [if_neg c3] at a b
  by_cases c4 : tkk T n (tke T n (tke T n p)) ≠ 58
  · rw [if_pos c4] at a; cases a
  rw [if_neg c4] at a b
  obtain ⟨q1, r1, e1⟩ := a
  obtain ⟨q2, r2, e2⟩ := b
  rcases r1 with ⟨_, _, rfl, _⟩ | ⟨x1, y1, rfl, r1⟩
  · cases e1
  rcases r2 with ⟨_, _, rfl, _⟩ | ⟨x2, y2, rfl, r2⟩
  · cases e2
  cases e1
  cases e2
  exact Rc_end r1 r2
theorem Bdy_n {p o p1 o1 w1 : Nat} {e : Nat × Nat} (a : Bdy T n mem nn NW p o (.inl (p1, o1, w1))) : ¬ Bdy T n mem nn NW p o (.inr e) := by
  intro b
  unfold Bdy at a b
  by_cases c1 : nmt T n (tke T n p) = false
  · rw [if_pos c1] at a; cases a
  rw [if_neg c1] at a b
  by_cases c2 : hasn nn NW (tkw T n (tke T n p)) = true
  · rw [if_pos c2] at a; cases a
  rw [if_neg c2] at a b
  by_cases c3 : nn = 16
  · rw [if_pos c3] at a; cases a
  rw [if_neg c3] at a b
  by_cases c4 : tkk T n (tke T n (tke T n p)) ≠ 58
  · rw [if_pos c4] at a; cases a
  rw [if_neg c4] at a b
  obtain ⟨q1, r1, e1⟩ := a
  obtain ⟨q2, r2, e2⟩ := b
  rcases r1 with ⟨_, _, rfl, _⟩ | ⟨x1, y1, rfl, r1⟩
  · cases e1
  rcases r2 with ⟨x2, y2, rfl, r2⟩ | ⟨_, _, rfl, _⟩
  · exact Fl_end r1 r2
  · cases e2
set_option maxRecDepth 100000 in
set_option maxHeartbeats 4000000 in
theorem bd_p {f p o : Nat} {P : cdL} {h : xh_H} (c0 : cr h T n mem nn NM p o 0) (pt : ptx h P) (pl : P.length ≤ 3 * o + nn) (o6 : o ≤ 120) (nz : tkk T n p ≠ 0) (hq : a_rq a_tb h) : xq f xi_X4_readBody xmi_X4_readBody 0 [(0, .ref 3)] [] h (bc_P h T n mem nn NM P p o) := by
  have hT : ∀ k, k < n → T k < 256 := fun k hk' => (c0.1.2.2 k hk').1
  have kb := tkk_lt (T := T) (n := n) (p := p) hT
  have n6 := c0.1.2.1
  have s6 := tks_le (T := T) (n := n) (p := p)
  have mm := c0.2.2.2.2.1
  have n16 := c0.2.2.2.2.2.2.2.2.2.1.2.1
  refine xq_n 4 [0] [(0, .ref 3)] [.ref 8] h [] 4 hq rfl trivial (fun hq => ?_)
  have nz1 : tkk T n p ≠ 0 := by omega
  have le1 := tke_le nz1
  refine xq_run hq rfl rfl (adv_q hq hT (c0.1) (c0.2.2.1) ((c0.2.1.2.2.1 (by omega)).1) (by omega)) ?_
  rintro v1 h1 ⟨rfl, g1, t1⟩
  have hq := fx_q g1 hq
  have kb1 := tkk_lt (T := T) (n := n) (p := tke T n p) hT
  have s61 := tks_le (T := T) (n := n) (p := tke T n p)
  refine xq_n 24 [0, 1, 2] [(0, .ref 3), (1, .int (xg 0 h1.2.1 8 4)), (2, .int (xg 0 h1.2.1 8 5))] [.ref 3] h1 [] 11 hq rfl trivial (fun hq => ?_)
  rw [show (xg 0 h1.2.1 8 4) = (nI (tks T n (tke T n p))) from t1.2.1]
  refine xq_run hq rfl rfl (xq_and (tnn_q ⟨ct_f (S := cS) (L := fN) (c0.1) (fx_w g1 (fun _ _ => sS_c) (fun _ _ z => z)) rfl (fun _ => rfl), t1, (fx_i g1 rfl).trans (c0.2.2.1), (fx_i g1 rfl).trans (c0.2.2.2.1), c0.2.2.2.2.1, (fx_i g1 rfl).trans (c0.2.2.2.2.2.1), by omega, (fx_i g1 rfl).trans (c0.2.2.2.2.2.2.2.1), by omega, cn_f (S := cS) (L := fN) (c0.2.2.2.2.2.2.2.2.2.1) (fx_w g1 (fun _ _ => sS_c) (fun _ _ z => z)) rfl (fun _ => rfl) (fun _ => rfl), (fx_i g1 rfl).trans (c0.2.2.2.2.2.2.2.2.2.2)⟩ hq) (tnn_n ⟨ct_f (S := cS) (L := fN) (c0.1) (fx_w g1 (fun _ _ => sS_c) (fun _ _ z => z)) rfl (fun _ => rfl), t1, (fx_i g1 rfl).trans (c0.2.2.1), (fx_i g1 rfl).trans (c0.2.2.2.1), c0.2.2.2.2.1, (fx_i g1 rfl).trans (c0.2.2.2.2.2.1), by omega, (fx_i g1 rfl).trans (c0.2.2.2.2.2.2.2.1), by omega, cn_f (S := cS) (L := fN) (c0.2.2.2.2.2.2.2.2.2.1) (fx_w g1 (fun _ _ => sS_c) (fun _ _ z => z)) rfl (fun _ => rfl) (fun _ => rfl), (fx_i g1 rfl).trans (c0.2.2.2.2.2.2.2.2.2.2)⟩ hq)) ?_
  rintro v2 h2 ⟨⟨g2, l2, q2⟩, n2⟩
  have hq := fx_q g2 hq
  by_cases w2_0 : nmt T n (tke T n p) = false
  · obtain ⟨rfl, f2, y2, z2, e62, e2⟩ := q2 1 (tks T n (tke T n p)) (by unfold kT; rw [if_pos w2_0])
    refine xq_n 56 [] [] [.int (Int32.ofInt 0)] h2 [true] 4 hq rfl ⟨(by decide), trivial⟩ (fun hq => ?_)
    exact xq_ret rfl rfl rfl ⟨fx_w (fx_t (fx_t (fx_0) (fx_w g1 (fun _ _ => sS_c) (fun _ _ z => z))) (g2)) (fun _ _ => cS_t) (fun _ _ z => z), Or.inr ⟨rfl, _, f2, by omega, by omega⟩⟩
  · skip
    have w2_0t : nmt T n (tke T n p) = true := eq_true_of_ne_false w2_0
    have dw2_0 := of_decide_eq_true w2_0t
    by_cases w2_1 : hasn nn (nmW T NM) (tkw T n (tke T n p)) = true
    · obtain ⟨rfl, f2, y2, z2, e62, e2⟩ := q2 3 (tks T n (tke T n p)) (by unfold kT; rw [if_neg w2_0, if_pos w2_1])
      refine xq_n 56 [] [] [.int (Int32.ofInt 0)] h2 [true] 4 hq rfl ⟨(by decide), trivial⟩ (fun hq => ?_)
      exact xq_ret rfl rfl rfl ⟨fx_w (fx_t (fx_t (fx_0) (fx_w g1 (fun _ _ => sS_c) (fun _ _ z => z))) (g2)) (fun _ _ => cS_t) (fun _ _ z => z), Or.inr ⟨rfl, _, f2, by omega, by omega⟩⟩
    · skip
      by_cases w2_2 : 16 ≤ nn
      · obtain ⟨rfl, f2, y2, z2, e62, e2⟩ := q2 4 (tks T n (tke T n p)) (by unfold kT; rw [if_neg w2_0, if_neg w2_1, if_pos w2_2])
        refine xq_n 56 [] [] [.int (Int32.ofInt 0)] h2 [true] 4 hq rfl ⟨(by decide), trivial⟩ (fun hq => ?_)
        exact xq_ret rfl rfl rfl ⟨fx_w (fx_t (fx_t (fx_0) (fx_w g1 (fun _ _ => sS_c) (fun _ _ z => z))) (g2)) (fun _ _ => cS_t) (fun _ _ z => z), Or.inr ⟨rfl, _, f2, by omega, by omega⟩⟩
      · skip
        obtain ⟨rfl, c2⟩ := l2 (tke T n (tke T n p)) (o) (0) (by unfold kT; rw [if_neg w2_0, if_neg w2_1, if_neg w2_2])
        have kb2 := tkk_lt (T := T) (n := n) (p := tke T n (tke T n p)) hT
        have s62 := tks_le (T := T) (n := n) (p := tke T n (tke T n p))
        refine xq_n 33 [0, 1, 2] [(0, .ref 3), (1, .int (nI (tks T n (tke T n p)))), (2, .int (xg 0 h1.2.1 8 5))] [.int 58, .ref 3] h2 [false] 5 hq rfl ⟨(by decide), trivial⟩ (fun hq => ?_)
        refine xq_run hq rfl rfl (xq_and (ts_q (c := 58) (by decide) (by decide) c2 hq) (ts_n (c := 58) (by decide) (by decide) c2 hq)) ?_
        rintro v3 h3 ⟨⟨g3, l3, q3⟩, n3⟩
        have hq := fx_q g3 hq
        by_cases w3_0 : tkk T n (tke T n (tke T n p)) ≠ 58
        · obtain ⟨rfl, f3, y3, z3, e63, e3⟩ := q3 1 (tks T n (tke T n (tke T n p))) (by unfold kS; rw [if_pos w3_0])
          refine xq_n 56 [] [] [.int (Int32.ofInt 0)] h3 [true] 4 hq rfl ⟨(by decide), trivial⟩ (fun hq => ?_)
          exact xq_ret rfl rfl rfl ⟨fx_w (fx_t (fx_t (fx_t (fx_0) (fx_w g1 (fun _ _ => sS_c) (fun _ _ z => z))) (g2)) (g3)) (fun _ _ => cS_t) (fun _ _ z => z), Or.inr ⟨rfl, _, f3, by omega, by omega⟩⟩
        · skip
          obtain ⟨rfl, c3⟩ := l3 (tke T n (tke T n (tke T n p))) (o) (0) (by unfold kS; rw [if_neg w3_0])
          have kb3 := tkk_lt (T := T) (n := n) (p := tke T n (tke T n (tke T n p))) hT
          have s63 := tks_le (T := T) (n := n) (p := tke T n (tke T n (tke T n p)))
          refine xq_n 40 [0, 1, 2] [(0, .ref 3), (1, .int (nI (tks T n (tke T n p)))), (2, .int (xg 0 h1.2.1 8 5))] [.ref 3] h3 [false] 4 hq rfl ⟨(by decide), trivial⟩ (fun hq => ?_)
          refine xq_run hq rfl rfl ((rp_all f).2.2.1 _ _ _ _ (P) c3 (ptx_n (ptx_n (ptx_f (pt) g1 rfl (fun _ => rfl) (fun _ => rfl)) n2) n3) (by omega) (by omega) (by omega) hq) ?_
          rintro v4 h4 ⟨g4, ⟨rfl, pq4, oq4, cq4, c4, lt4, le4, x4, ln4, G4⟩ | ⟨rfl, kq4, f4, ka4, kz4⟩⟩
          · have hq := fx_q g4 hq
            have kb4 := tkk_lt (T := T) (n := n) (p := pq4) hT
            have s64 := tks_le (T := T) (n := n) (p := pq4)
            refine xq_n 49 [0, 1, 2] [(0, .ref 3), (1, .int (nI (tks T n (tke T n p)))), (2, .int (xg 0 h1.2.1 8 5))] [.int 59, .ref 3] h4 [false] 5 hq rfl ⟨(by decide), trivial⟩ (fun hq => ?_)
            refine xq_run hq rfl rfl (xq_and (ts_q (c := 59) (by decide) (by decide) c4 hq) (ts_n (c := 59) (by decide) (by decide) c4 hq)) ?_
            rintro v5 h5 ⟨⟨g5, l5, q5⟩, n5⟩
            have hq := fx_q g5 hq
            by_cases w5_0 : tkk T n pq4 ≠ 59
            · obtain ⟨rfl, f5, y5, z5, e65, e5⟩ := q5 1 (tks T n pq4) (by unfold kS; rw [if_pos w5_0])
              refine xq_n 56 [] [] [.int (Int32.ofInt 0)] h5 [false] 4 hq rfl ⟨(by decide), trivial⟩ (fun hq => ?_)
              exact xq_ret rfl rfl rfl ⟨fx_w (fx_t (fx_t (fx_t (fx_t (fx_t (fx_0) (fx_w g1 (fun _ _ => sS_c) (fun _ _ z => z))) (g2)) (g3)) (g4)) (g5)) (fun _ _ => cS_t) (fun _ _ z => z), Or.inr ⟨rfl, _, f5, by omega, by omega⟩⟩
            · skip
              obtain ⟨rfl, c5⟩ := l5 (tke T n pq4) (oq4) (0) (by unfold kS; rw [if_neg w5_0])
              have kb5 := tkk_lt (T := T) (n := n) (p := tke T n pq4) hT
              have s65 := tks_le (T := T) (n := n) (p := tke T n pq4)
              refine xq_n 57 [0, 1, 2] [(0, .ref 3), (1, .int (nI (tks T n (tke T n p)))), (2, .int (xg 0 h1.2.1 8 5))] [] h5 [true] 3 hq rfl ⟨(by decide), trivial⟩ (fun hq => ?_)
              have cE : cr h5 T n mem nn NM (tke T n pq4) (oq4) 0 := c5
              have gE : fx cS fN h h5 := fx_t (fx_t (fx_t (fx_t (fx_t (fx_0) (fx_w g1 (fun _ _ => sS_c) (fun _ _ z => z))) (g2)) (g3)) (g4)) (g5)
              have hB : Bdy T n mem nn (nmW T NM) p o (.inl (tke T n pq4, oq4, tkw T n (tke T n p))) := by
                unfold Bdy
                repeat (first | rw [if_pos (by omega)] | rw [if_neg (by omega)] | rw [if_pos w2_0] | rw [if_neg w2_0] | rw [if_neg (by rw [w2_0]; decide)] | rw [if_pos w2_1] | rw [if_neg w2_1] | rw [if_neg (by rw [w2_1]; decide)] | rw [if_pos w2_2] | rw [if_neg w2_2] | rw [if_neg (by rw [w2_2]; decide)] | rw [if_pos w2_0t] | rw [if_neg w2_0t] | rw [if_neg (by rw [w2_0t]; decide)] | rw [if_pos w3_0] | rw [if_neg w3_0] | rw [if_neg (by rw [w3_0]; decide)] | rw [if_pos w5_0] | rw [if_neg w5_0] | rw [if_neg (by rw [w5_0]; decide)])
                exact ⟨.inl (tke T n pq4, oq4), Or.inr ⟨_, _, rfl, Rc_t (VR_c G4.2.2 0 [] (by decide) rfl) (Rc_1 (by rw [enE]; unfold en; rw [if_neg (by intro z; cases z), if_neg (by rw [G4.1]; decide), if_neg (by rw [G4.2.1]; decide), if_pos (show [0].head? = some 0 from rfl), if_pos (by omega)]))⟩, rfl⟩
              rw [show xg 0 h1.2.1 8 5 = nI (tke T n (tke T n p)) from (t1.2.2.1 (by omega)).2]
              refine xq_mono (xq_and (bd_end hq cE gE (by omega) (by omega) (by omega) hB) (bd_endp (ptx_n (x4) n5) (by first | omega | (simp only [List.length_append, List.length_cons, List.length_nil]; omega)) cE.2.2.2.2.2.2.2.2.2.1.1 (by omega) hq)) (fun v h' e => ?_)
              obtain ⟨⟨e1, ⟨e2, n15, pe, oe, o7, ce, he⟩ | ⟨e2, k, pl', f1, f2, he⟩⟩, ex⟩ := e
              · obtain ⟨rfl, rfl⟩ := Bdy_u hB he
                exact ⟨e1, Or.inl ⟨e2, pq4, oq4, cq4, by omega, by omega, ce, by simpa only [List.append_assoc] using ex, ln4, (by assumption), (by first | assumption | exact eq_false_of_ne_true (by assumption)), by omega, by omega, G4.2.2, G4.1, G4.2.1, by omega⟩⟩
              · exact absurd he (Bdy_n hB)
          · have hq := fx_q g4 hq
            refine xq_n 56 [] [] [.int (Int32.ofInt 0)] h4 [true] 4 hq rfl ⟨(by decide), trivial⟩ (fun hq => ?_)
            exact xq_ret rfl rfl rfl ⟨fx_w (fx_t (fx_t (fx_t (fx_t (fx_0) (fx_w g1 (fun _ _ => sS_c) (fun _ _ z => z))) (g2)) (g3)) (g4)) (fun _ _ => cS_t) (fun _ _ z => z), Or.inr ⟨rfl, _, f4, by omega, by omega⟩⟩
def rt_P (h0 : xh_H) (T : Nat → Nat) (n mem : Nat) (v : Option Value) (h' : xh_H) : Prop := v = none ∧ fx cT fN h0 h' ∧ (tx_G T n mem h' ∨ ∃ k, xg 0 h'.2.1 3 8 = nI k ∧ 1 ≤ k ∧ k ≤ 4)
set_option maxRecDepth 100000 in
set_option maxHeartbeats 4000000 in
theorem rd_finp {f p o : Nat} {P : cdL} {h0 h : xh_H} (c0 : cr h T n mem nn NM p o 0) (g0 : fx cT fN h0 h) (pt : ptx h P) (pl : P.length ≤ 3 * o + nn) (fw : FW T n mem P p o nn (nmW T NM)) (o6 : o ≤ 120) (hb0 : ky T n p 0 = false) (hq : a_rq a_tb h) : xq f xi_X4_read xmi_X4_read 81 [(0, .ref 3), (2, .int (Int32.ofInt 1))] [] h (rt_P h0 T n mem) := by
  have hT : ∀ k, k < n → T k < 256 := fun k hk' => (c0.1.2.2 k hk').1
  have kb := tkk_lt (T := T) (n := n) (p := p) hT
  have n6 := c0.1.2.1
  have s6 := tks_le (T := T) (n := n) (p := p)
  have mm := c0.2.2.2.2.1
  have n16 := c0.2.2.2.2.2.2.2.2.2.1.2.1
  refine xq_n 88 [0, 2] [(0, .ref 3), (2, .int (Int32.ofInt 1))] [.float 3, .ref 3] h [false] 6 hq rfl ⟨(by decide), trivial⟩ (fun hq => ?_)
  refine xq_run hq rfl rfl (xq_and (tw1_q c0 hq) (tw1_n c0 hq)) ?_
  rintro v1 h1 ⟨⟨g1, l1, q1⟩, n1⟩
  have hq := fx_q g1 hq
  by_cases w1_0 : ky T n p 1 = false
  · obtain ⟨rfl, f1, y1, z1, e61, e1⟩ := q1 1 (tks T n p) (by unfold kW; rw [if_pos w1_0])
    refine xq_n 115 [] [] [] h1 [true] 3 hq rfl ⟨(by decide), trivial⟩ (fun hq => ?_)
    exact xq_ret rfl rfl rfl ⟨rfl, fx_t g0 (fx_w (fx_t (fx_0) (g1)) (fun _ _ => cS_t) (fun _ _ z => z)), Or.inr ⟨_, f1, by omega, by omega⟩⟩
  · skip
    have w1_0t : ky T n p 1 = true := eq_true_of_ne_false w1_0
    have dw1_0 := of_decide_eq_true w1_0t
    obtain ⟨rfl, c1⟩ := l1 (tke T n p) (o) (0) (by unfold kW; rw [if_neg w1_0])
    have kb1 := tkk_lt (T := T) (n := n) (p := tke T n p) hT
    have s61 := tks_le (T := T) (n := n) (p := tke T n p)
    refine xq_n 95 [0, 2] [(0, .ref 3), (2, .int (Int32.ofInt 1))] [.ref 3] h1 [false] 4 hq rfl ⟨(by decide), trivial⟩ (fun hq => ?_)
    refine xq_run hq rfl rfl ((rp_all f).2.2.1 _ _ _ _ (P) c1 (ptx_n (pt) n1) (by omega) (by omega) (by omega) hq) ?_
    rintro v2 h2 ⟨g2, ⟨rfl, pq2, oq2, cq2, c2, lt2, le2, x2, ln2, G2⟩ | ⟨rfl, kq2, f2, ka2, kz2⟩⟩
    · have hq := fx_q g2 hq
      have kb2 := tkk_lt (T := T) (n := n) (p := pq2) hT
      have s62 := tks_le (T := T) (n := n) (p := pq2)
      refine xq_n 104 [0, 2] [(0, .ref 3), (2, .int (Int32.ofInt 1))] [.int 59, .ref 3] h2 [false] 5 hq rfl ⟨(by decide), trivial⟩ (fun hq => ?_)
      refine xq_run hq rfl rfl (xq_and (ts_q (c := 59) (by decide) (by decide) c2 hq) (ts_n (c := 59) (by decide) (by decide) c2 hq)) ?_
      rintro v3 h3 ⟨⟨g3, l3, q3⟩, n3⟩
      have hq := fx_q g3 hq
      by_cases w3_0 : tkk T n pq2 ≠ 59
      · obtain ⟨rfl, f3, y3, z3, e63, e3⟩ := q3 1 (tks T n pq2) (by unfold kS; rw [if_pos w3_0])
        refine xq_n 115 [] [] [] h3 [true] 3 hq rfl ⟨(by decide), trivial⟩ (fun hq => ?_)
        exact xq_ret rfl rfl rfl ⟨rfl, fx_t g0 (fx_w (fx_t (fx_t (fx_t (fx_0) (g1)) (g2)) (g3)) (fun _ _ => cS_t) (fun _ _ z => z)), Or.inr ⟨_, f3, by omega, by omega⟩⟩
      · skip
        obtain ⟨rfl, c3⟩ := l3 (tke T n pq2) (oq2) (0) (by unfold kS; rw [if_neg w3_0])
        have kb3 := tkk_lt (T := T) (n := n) (p := tke T n pq2) hT
        have s63 := tks_le (T := T) (n := n) (p := tke T n pq2)
        refine xq_n 111 [0, 2] [(0, .ref 3), (2, .int (Int32.ofInt 1))] [.ref 3] h3 [false] 4 hq rfl ⟨(by decide), trivial⟩ (fun hq => ?_)
        refine xq_run hq rfl rfl (xq_and (te_q c3 hq) (te_n c3 hq)) ?_
        rintro v4 h4 ⟨⟨g4, l4, q4⟩, n4⟩
        have hq := fx_q g4 hq
        by_cases w4 : tkk T n (tke T n pq2) = 0 ∧ n ≤ 600
        · obtain ⟨rfl, c4⟩ := l4 (tke T n pq2) (oq2) (0) (by unfold kE; rw [if_pos w4])
          refine xq_n 115 [] [] [] h4 [] 3 hq rfl trivial (fun hq => ?_)
          exact xq_ret rfl rfl rfl ⟨rfl, fx_t g0 (fx_w (fx_t (fx_t (fx_t (fx_t (fx_0) (g1)) (g2)) (g3)) (g4)) (fun _ _ => cS_t) (fun _ _ z => z)), Or.inl (FW_e fw hb0 (by assumption) G2.2.2 G2.1 G2.2.1 (by omega) (rk0.mpr w4) (ptx_n (ptx_n (x2) n3) n4) (by first | omega | (simp only [List.length_append, List.length_cons, List.length_nil]; omega)))⟩
        · obtain ⟨rfl, f4, y4, -⟩ := q4 1 (tks T n (tke T n pq2)) (by unfold kE; rw [if_neg w4])
          refine xq_n 115 [] [] [] h4 [] 3 hq rfl trivial (fun hq => ?_)
          exact xq_ret rfl rfl rfl ⟨rfl, fx_t g0 (fx_w (fx_t (fx_t (fx_t (fx_t (fx_0) (g1)) (g2)) (g3)) (g4)) (fun _ _ => cS_t) (fun _ _ z => z)), Or.inr ⟨_, f4, by omega, by omega⟩⟩
    · have hq := fx_q g2 hq
      refine xq_n 115 [] [] [] h2 [true] 3 hq rfl ⟨(by decide), trivial⟩ (fun hq => ?_)
      exact xq_ret rfl rfl rfl ⟨rfl, fx_t g0 (fx_w (fx_t (fx_t (fx_0) (g1)) (g2)) (fun _ _ => cS_t) (fun _ _ z => z)), Or.inr ⟨_, f2, by omega, by omega⟩⟩
set_option maxRecDepth 100000 in
set_option maxHeartbeats 4000000 in
theorem rdb_lpp {h0 : xh_H} : ∀ (f nn p o : Nat) (NM : Nat → Nat × Nat) (P : cdL) (h : xh_H), cr h T n mem nn NM p o 0 → fx cT fN h0 h → ptx h P → P.length ≤ 3 * o + nn → FW T n mem P p o nn (nmW T NM) → o ≤ 120 → a_rq a_tb h → xq f xi_X4_read xmi_X4_read 48 [(0, .ref 3), (2, .int (Int32.ofInt 1)), (3, .int (nI nn))] [] h (rt_P h0 T n mem) := by
  intro f
  induction f with
  | zero => intros; exact xq_0
  | succ f ih =>
    intro nn p o NM P h c0 g0 pt pl fw o6 hq
    have n16 := c0.2.2.2.2.2.2.2.2.2.1.2.1
    refine xq_m 64 [0, 2, 3] [(0, .ref 3), (2, .int (Int32.ofInt 1)), (3, .int (nI nn))] [.float 2, .ref 8] h [false, false] 10 hq rfl ⟨(show xe_c .gt (nI nn) 16 = false by exact xgt_f (by rw [nI_toInt (by omega)]; show ((nn : Nat) : Int) ≤ 16; omega)), by decide, trivial⟩ (fun hq => ?_)
    refine xq_run hq rfl rfl (iw0_q c0.1 c0.2.1 hq) ?_
    rintro v h1 ⟨rfl, rfl⟩
    cases b : ky T n p 0 with
    | false =>
      refine xq_n 81 [0, 2] [(0, .ref 3), (2, .int (Int32.ofInt 1))] [] h [true] 3 hq rfl ⟨rfl, trivial⟩ (fun hq => ?_)
      exact rd_finp c0 g0 pt pl fw o6 b hq
    | true =>
      have db := of_decide_eq_true b
      refine xq_n 71 [0, 3] [(0, .ref 3), (3, .int (nI nn))] [.ref 3] h [false] 4 hq rfl ⟨rfl, trivial⟩ (fun hq => ?_)
      refine xq_run hq rfl rfl (bd_p c0 pt pl o6 (by omega) hq) ?_
      rintro v h1 ⟨g1, ⟨rfl, p', o', c, oo, o7, c1, x1, ln, kn, hn', n15, k58, hv, k2, k3, k59⟩ | ⟨rfl, k, f1, ka, kz⟩⟩
      · have hq := fx_q g1 hq
        refine xq_n 48 [0, 2, 3] [(0, .ref 3), (2, .int (Int32.ofInt 1)), (3, .int ((nI nn) + Int32.ofInt 1))] [] h1 [] 5 hq rfl trivial (fun hq => ?_)
        rw [show nI nn + Int32.ofInt 1 = nI (nn + 1) from nI_1 _]
        have fw' := FW_s fw b kn hn' n15 k58 hv k2 k3 k59
        rw [show upN (nmW T NM) nn (tkw T n (tke T n p)) = nmW T (upM NM nn (tks T n (tke T n p), tke T n (tke T n p))) from (nmW_up (x := (tks T n (tke T n p), tke T n (tke T n p)))).symm] at fw'
        exact ih (nn + 1) _ o' _ _ h1 c1 (fx_t g0 g1) x1 (by simp only [List.length_append, List.length_cons, List.length_nil]; omega) fw' o7 hq
      · have hq := fx_q g1 hq
        refine xq_n 48 [0, 2, 3] [(0, .ref 3), (2, .int (Int32.ofInt 0)), (3, .int ((nI nn) + Int32.ofInt 1))] [] h1 [] 5 hq rfl trivial (fun hq => ?_)
        refine xq_mono (rd_z hq) (fun v h' e => ?_)
        obtain ⟨rfl, rfl⟩ := e
        exact ⟨rfl, fx_t g0 g1, Or.inr ⟨k, f1, ka, kz⟩⟩
set_option maxRecDepth 100000 in
set_option maxHeartbeats 4000000 in
/-- Reader.read -/
theorem read_p {f : Nat} {h : xh_H} (hc : ct h T n) (m12 : mem ≤ 12) (hq : a_rq a_tb h) : xq f xi_X4_read xmi_X4_read 0 [(0, .ref 3), (1, .int (nI mem))] [] h (fun v h' => tx_G T n mem h' ∨ ∃ k, xg 0 h'.2.1 3 8 = nI k ∧ 1 ≤ k ∧ k ≤ 4) := by
  refine xq_n 4 [0, 1] [(0, .ref 3), (1, .int (nI mem))] [.ref 4] h [] 4 hq rfl trivial (fun hq => ?_)
  refine xq_run (Q1 := fun v h' => v = none ∧ fx aS_ fN h h' ∧ xg 0 h'.2.1 4 3 = nI 0) hq rfl rfl ?_ ?_
  · refine xq_n 5 [] [] [] (xh_ui h 4 3 (Int32.ofInt 0)) [] 5 hq rfl trivial (fun _ => ?_)
    exact xq_ret rfl rfl rfl ⟨rfl, fx_ui fx_0 rfl, gx_s⟩
  rintro v h1 ⟨rfl, g1, z1⟩
  have hq := fx_q g1 hq
  refine xq_n 41 [0] [(0, .ref 3)] [.ref 8] (xh_ui (xh_ui (xh_ui (xh_ui (xh_ui (xh_ui h1 3 4 (nI mem)) 3 5 (Int32.ofInt 0)) 3 6 (Int32.ofInt 0)) 3 7 (Int32.ofInt 0)) 3 8 (Int32.ofInt 0)) 3 9 (Int32.ofInt 0)) [] 24 hq rfl trivial (fun _ => ?_)
  have hq : a_rq a_tb (xh_ui (xh_ui (xh_ui (xh_ui (xh_ui (xh_ui h1 3 4 (nI mem)) 3 5 (Int32.ofInt 0)) 3 6 (Int32.ofInt 0)) 3 7 (Int32.ofInt 0)) 3 8 (Int32.ofInt 0)) 3 9 (Int32.ofInt 0)) := a_rq_ui (a_rq_ui (a_rq_ui (a_rq_ui (a_rq_ui (a_rq_ui hq)))))
  have g2 : fx cU fN h (xh_ui (xh_ui (xh_ui (xh_ui (xh_ui (xh_ui h1 3 4 (nI mem)) 3 5 (Int32.ofInt 0)) 3 6 (Int32.ofInt 0)) 3 7 (Int32.ofInt 0)) 3 8 (Int32.ofInt 0)) 3 9 (Int32.ofInt 0)) := fx_ui (fx_ui (fx_ui (fx_ui (fx_ui (fx_ui (fx_w g1 (fun c k z => by obtain ⟨-, z⟩ := or_f z; obtain ⟨-, z⟩ := or_f z; obtain ⟨z4, z⟩ := or_f z; obtain ⟨z5, z⟩ := or_f z; obtain ⟨z6, -⟩ := or_f z; unfold aS_; rw [z4, z5, z6]; rfl) (fun _ _ z => z)) rfl) rfl) rfl) rfl) rfl) rfl
  have e4 : xg 0 (xh_ui (xh_ui (xh_ui (xh_ui (xh_ui (xh_ui h1 3 4 (nI mem)) 3 5 (Int32.ofInt 0)) 3 6 (Int32.ofInt 0)) 3 7 (Int32.ofInt 0)) 3 8 (Int32.ofInt 0)) 3 9 (Int32.ofInt 0)).2.1 3 4 = nI mem := (gx_k (by decide)).trans ((gx_k (by decide)).trans ((gx_k (by decide)).trans ((gx_k (by decide)).trans ((gx_k (by decide)).trans gx_s))))
  have e5 : xg 0 (xh_ui (xh_ui (xh_ui (xh_ui (xh_ui (xh_ui h1 3 4 (nI mem)) 3 5 (Int32.ofInt 0)) 3 6 (Int32.ofInt 0)) 3 7 (Int32.ofInt 0)) 3 8 (Int32.ofInt 0)) 3 9 (Int32.ofInt 0)).2.1 3 5 = nI 0 := (gx_k (by decide)).trans ((gx_k (by decide)).trans ((gx_k (by decide)).trans ((gx_k (by decide)).trans gx_s)))
  have e6 : xg 0 (xh_ui (xh_ui (xh_ui (xh_ui (xh_ui (xh_ui h1 3 4 (nI mem)) 3 5 (Int32.ofInt 0)) 3 6 (Int32.ofInt 0)) 3 7 (Int32.ofInt 0)) 3 8 (Int32.ofInt 0)) 3 9 (Int32.ofInt 0)).2.1 3 6 = nI 0 := (gx_k (by decide)).trans ((gx_k (by decide)).trans ((gx_k (by decide)).trans gx_s))
  have e7 : xg 0 (xh_ui (xh_ui (xh_ui (xh_ui (xh_ui (xh_ui h1 3 4 (nI mem)) 3 5 (Int32.ofInt 0)) 3 6 (Int32.ofInt 0)) 3 7 (Int32.ofInt 0)) 3 8 (Int32.ofInt 0)) 3 9 (Int32.ofInt 0)).2.1 3 7 = nI 0 := (gx_k (by decide)).trans ((gx_k (by decide)).trans gx_s)
  have e8 : xg 0 (xh_ui (xh_ui (xh_ui (xh_ui (xh_ui (xh_ui h1 3 4 (nI mem)) 3 5 (Int32.ofInt 0)) 3 6 (Int32.ofInt 0)) 3 7 (Int32.ofInt 0)) 3 8 (Int32.ofInt 0)) 3 9 (Int32.ofInt 0)).2.1 3 8 = nI 0 := (gx_k (by decide)).trans gx_s
  have e43 : xg 0 (xh_ui (xh_ui (xh_ui (xh_ui (xh_ui (xh_ui h1 3 4 (nI mem)) 3 5 (Int32.ofInt 0)) 3 6 (Int32.ofInt 0)) 3 7 (Int32.ofInt 0)) 3 8 (Int32.ofInt 0)) 3 9 (Int32.ofInt 0)).2.1 4 3 = nI 0 := (gx_o (by decide)).trans ((gx_o (by decide)).trans ((gx_o (by decide)).trans ((gx_o (by decide)).trans ((gx_o (by decide)).trans ((gx_o (by decide)).trans z1)))))
  generalize xh_ui (xh_ui (xh_ui (xh_ui (xh_ui (xh_ui h1 3 4 (nI mem)) 3 5 (Int32.ofInt 0)) 3 6 (Int32.ofInt 0)) 3 7 (Int32.ofInt 0)) 3 8 (Int32.ofInt 0)) 3 9 (Int32.ofInt 0) = h2 at hq g2 e4 e5 e6 e7 e8 e43 ⊢
  refine xq_run hq rfl rfl (beg_q (ct_f hc g2 rfl (fun _ => rfl)) hq) ?_
  rintro v h3 ⟨rfl, g3, t3, l3⟩
  have hq := fx_q g3 hq
  have g4 : fx cU fN h h3 := fx_t g2 (fx_w g3 (fun c k z => (or_f z).1) (fun _ _ z => z))
  refine xq_n 48 [0, 2, 3] [(0, .ref 3), (2, .int (Int32.ofInt 1)), (3, .int (Int32.ofInt 0))] [] h3 [] 6 hq rfl trivial (fun hq => ?_)
  have c3 : cr h3 T n mem 0 (fun _ => (0, 0)) 0 0 0 := ⟨ct_f hc g4 rfl (fun _ => rfl), t3, l3, (fx_i g3 rfl).trans e4, m12, (fx_i g3 rfl).trans e5, by decide, (fx_i g3 rfl).trans e6, by decide, ⟨(fx_i g3 rfl).trans e7, by decide, fun k hk' => absurd hk' (Nat.not_lt_zero k)⟩, (fx_i g3 rfl).trans e8⟩
  have pt : ptx h3 [] := ⟨(fx_i g3 rfl).trans e43, fun k hk' => absurd hk' (Nat.not_lt_zero k)⟩
  have fw : FW T n mem [] 0 0 0 (nmW T (fun _ => (0, 0))) := fun sv _ => ⟨fun _ => false, nI 0, ⟨0, by decide, rfl, fun k hk' => absurd hk' (Nat.not_lt_zero k)⟩, rfl, fun y j ht => by rw [Nat.zero_add]; exact ht⟩
  refine xq_mono (rdb_lpp f 0 0 0 _ [] h3 c3 fx_0 pt (Nat.zero_le _) fw (by decide) hq) (fun v h' e => ?_)
  exact e.2.2
end XPT2
end
