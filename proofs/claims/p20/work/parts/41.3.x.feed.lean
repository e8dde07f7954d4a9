section XFD
/-- a byte of a number -/
def byC (x : Int32) (j : Nat) : Int32 := match j with
  | 0 => vp_nar FieldType.byte ((x >>> ((24 : Int32) &&& 31)).toInt8.toInt32)
  | 1 => vp_nar FieldType.byte ((x >>> ((16 : Int32) &&& 31)).toInt8.toInt32)
  | 2 => vp_nar FieldType.byte ((x >>> ((8 : Int32) &&& 31)).toInt8.toInt32)
  | _ => vp_nar FieldType.byte ((x >>> ((0 : Int32) &&& 31)).toInt8.toInt32)
def byR (x : Int32) (j : Nat) : Int32 := match j with
  | 0 => (x.toUInt32 >>> (Int32.toUInt32 24 &&& Int32.toUInt32 31)).toInt32 &&& 255
  | 1 => (x.toUInt32 >>> (Int32.toUInt32 16 &&& Int32.toUInt32 31)).toInt32 &&& 255
  | 2 => (x.toUInt32 >>> (Int32.toUInt32 8 &&& Int32.toUInt32 31)).toInt32 &&& 255
  | _ => (x.toUInt32 >>> (Int32.toUInt32 0 &&& Int32.toUInt32 31)).toInt32 &&& 255
def pC (c k : Nat) : Bool := (Nat.beq c 1 && Nat.beq k 1) || Nat.beq c 2
def pR (c k : Nat) : Bool := (Nat.beq c 39 && (Nat.beq k 0 || Nat.beq k 2)) || Nat.beq c 40
set_option maxRecDepth 100000 in
set_option maxHeartbeats 4000000 in
theorem put_q {f t : Nat} {x : Int32} {h : xh_H} (hq : a_rq a_tb h) (t4 : t + 4 ≤ 640) (e1 : xg 0 h.2.1 1 1 = nI t) : xq f xi_X8_put xmi_X8_put 0 [(0, .ref 1), (1, .int x)] [] h (fun v h' => v = none ∧ fx pC fN h h' ∧ xg 0 h'.2.1 1 1 = nI (t + 4) ∧ (∀ j, j < 4 → xg 0 h'.2.1 2 (t + j) = byC x j) ∧ ∀ k, (k < t ∨ t + 4 ≤ k) → xg 0 h'.2.1 2 k = xg 0 h.2.1 2 k) := by
  refine xq_n 3 [0, 1, 2] [(0, .ref 1), (1, .int x), (2, .int 24)] [] h [] 4 hq rfl trivial (fun hq => ?_)
  cases c1 : xe_c .ge (nI t) 640 with
  | true =>
    have z1 : t ≥ 640 := nq_get (a := t) (b := 640) (by omega) (by omega) c1
    omega
  | false =>
    have z1 : t < 640 := nq_gef (a := t) (b := 640) (by omega) (by omega) c1
    refine xq_n 3 [0, 1, 2] [(0, .ref 1), (1, .int x), (2, .int (24 + Int32.ofInt (-8)))] [] (xh_ui (xh_ui h 2 ((xg 0 h.2.1 1 1).toNatClampNeg) (vp_nar FieldType.byte ((x >>> ((24 : Int32) &&& 31)).toInt8.toInt32))) 1 1 ((xg 0 (xh_ui h 2 ((xg 0 h.2.1 1 1).toNatClampNeg) (vp_nar FieldType.byte ((x >>> ((24 : Int32) &&& 31)).toInt8.toInt32))).2.1 1 1) + (Int32.ofInt 1))) [false, false] 25 hq rfl ⟨(by decide), (show xe_c .ge (xg 0 h.2.1 1 1) 640 = false by rw [show (xg 0 h.2.1 1 1) = (nI t) from e1]; exact c1), trivial⟩ (fun _ => ?_)
    rw [show (xg 0 (xh_ui h 2 ((xg 0 h.2.1 1 1).toNatClampNeg) (vp_nar FieldType.byte ((x >>> ((24 : Int32) &&& 31)).toInt8.toInt32))).2.1 1 1) = (nI t) from (gx_o (by decide)).trans (e1)]
    rw [show (xg 0 h.2.1 1 1) = (nI t) from e1]
    rw [show (24 + Int32.ofInt (-8)) = 16 from rfl]
    rw [show ((nI t).toNatClampNeg) = t from nI_clamp (by omega)]
    rw [show ((nI t) + (Int32.ofInt 1)) = nI (t + 1) from nI_1 _]
    have hq : a_rq a_tb (xh_ui (xh_ui h 2 t (vp_nar FieldType.byte ((x >>> ((24 : Int32) &&& 31)).toInt8.toInt32))) 1 1 (nI (t + 1))) := a_rq_ui (a_rq_ui hq)
    cases c2 : xe_c .ge (nI (t + 1)) 640 with
    | true =>
      have z2 : (t + 1) ≥ 640 := nq_get (a := (t + 1)) (b := 640) (by omega) (by omega) c2
      omega
    | false =>
      have z2 : (t + 1) < 640 := nq_gef (a := (t + 1)) (b := 640) (by omega) (by omega) c2
      refine xq_n 3 [0, 1, 2] [(0, .ref 1), (1, .int x), (2, .int (16 + Int32.ofInt (-8)))] [] (xh_ui (xh_ui (xh_ui (xh_ui h 2 t (vp_nar FieldType.byte ((x >>> ((24 : Int32) &&& 31)).toInt8.toInt32))) 1 1 (nI (t + 1))) 2 ((xg 0 (xh_ui (xh_ui h 2 t (vp_nar FieldType.byte ((x >>> ((24 : Int32) &&& 31)).toInt8.toInt32))) 1 1 (nI (t + 1))).2.1 1 1).toNatClampNeg) (vp_nar FieldType.byte ((x >>> ((16 : Int32) &&& 31)).toInt8.toInt32))) 1 1 ((xg 0 (xh_ui (xh_ui (xh_ui h 2 t (vp_nar FieldType.byte ((x >>> ((24 : Int32) &&& 31)).toInt8.toInt32))) 1 1 (nI (t + 1))) 2 ((xg 0 (xh_ui (xh_ui h 2 t (vp_nar FieldType.byte ((x >>> ((24 : Int32) &&& 31)).toInt8.toInt32))) 1 1 (nI (t + 1))).2.1 1 1).toNatClampNeg) (vp_nar FieldType.byte ((x >>> ((16 : Int32) &&& 31)).toInt8.toInt32))).2.1 1 1) + (Int32.ofInt 1))) [false, false] 25 hq rfl ⟨(by decide), (show xe_c .ge (xg 0 (xh_ui (xh_ui h 2 t (vp_nar FieldType.byte ((x >>> ((24 : Int32) &&& 31)).toInt8.toInt32))) 1 1 (nI (t + 1))).2.1 1 1) 640 = false by rw [show (xg 0 (xh_ui (xh_ui h 2 t (vp_nar FieldType.byte ((x >>> ((24 : Int32) &&& 31)).toInt8.toInt32))) 1 1 (nI (t + 1))).2.1 1 1) = (nI (t + 1)) from gx_s]; exact c2), trivial⟩ (fun _ => ?_)
      rw [show (xg 0 (xh_ui (xh_ui (xh_ui h 2 t (vp_nar FieldType.byte ((x >>> ((24 : Int32) &&& 31)).toInt8.toInt32))) 1 1 (nI (t + 1))) 2 ((xg 0 (xh_ui (xh_ui h 2 t (vp_nar FieldType.byte ((x >>> ((24 : Int32) &&& 31)).toInt8.toInt32))) 1 1 (nI (t + 1))).2.1 1 1).toNatClampNeg) (vp_nar FieldType.byte ((x >>> ((16 : Int32) &&& 31)).toInt8.toInt32))).2.1 1 1) = (nI (t + 1)) from (gx_o (by decide)).trans (gx_s)]
      rw [show (xg 0 (xh_ui (xh_ui h 2 t (vp_nar FieldType.byte ((x >>> ((24 : Int32) &&& 31)).toInt8.toInt32))) 1 1 (nI (t + 1))).2.1 1 1) = (nI (t + 1)) from gx_s]
      rw [show (16 + Int32.ofInt (-8)) = 8 from rfl]
      rw [show ((nI (t + 1)).toNatClampNeg) = (t + 1) from nI_clamp (by omega)]
      rw [show ((nI (t + 1)) + (Int32.ofInt 1)) = nI (t + 1 + 1) from nI_1 _]
      have hq : a_rq a_tb (xh_ui (xh_ui (xh_ui (xh_ui h 2 t (vp_nar FieldType.byte ((x >>> ((24 : Int32) &&& 31)).toInt8.toInt32))) 1 1 (nI (t + 1))) 2 (t + 1) (vp_nar FieldType.byte ((x >>> ((16 : Int32) &&& 31)).toInt8.toInt32))) 1 1 (nI (t + 1 + 1))) := a_rq_ui (a_rq_ui hq)
      cases c3 : xe_c .ge (nI (t + 1 + 1)) 640 with
      | true =>
        have z3 : (t + 1 + 1) ≥ 640 := nq_get (a := (t + 1 + 1)) (b := 640) (by omega) (by omega) c3
        omega
      | false =>
        have z3 : (t + 1 + 1) < 640 := nq_gef (a := (t + 1 + 1)) (b := 640) (by omega) (by omega) c3
        refine xq_n 3 [0, 1, 2] [(0, .ref 1), (1, .int x), (2, .int (8 + Int32.ofInt (-8)))] [] (xh_ui (xh_ui (xh_ui (xh_ui (xh_ui (xh_ui h 2 t (vp_nar FieldType.byte ((x >>> ((24 : Int32) &&& 31)).toInt8.toInt32))) 1 1 (nI (t + 1))) 2 (t + 1) (vp_nar FieldType.byte ((x >>> ((16 : Int32) &&& 31)).toInt8.toInt32))) 1 1 (nI (t + 1 + 1))) 2 ((xg 0 (xh_ui (xh_ui (xh_ui (xh_ui h 2 t (vp_nar FieldType.byte ((x >>> ((24 : Int32) &&& 31)).toInt8.toInt32))) 1 1 (nI (t + 1))) 2 (t + 1) (vp_nar FieldType.byte ((x >>> ((16 : Int32) &&& 31)).toInt8.toInt32))) 1 1 (nI (t + 1 + 1))).2.1 1 1).toNatClampNeg) (vp_nar FieldType.byte ((x >>> ((8 : Int32) &&& 31)).toInt8.toInt32))) 1 1 ((xg 0 (xh_ui (xh_ui (xh_ui (xh_ui (xh_ui h 2 t (vp_nar FieldType.byte ((x >>> ((24 : Int32) &&& 31)).toInt8.toInt32))) 1 1 (nI (t + 1))) 2 (t + 1) (vp_nar FieldType.byte ((x >>> ((16 : Int32) &&& 31)).toInt8.toInt32))) 1 1 (nI (t + 1 + 1))) 2 ((xg 0 (xh_ui (xh_ui (xh_ui (xh_ui h 2 t (vp_nar FieldType.byte ((x >>> ((24 : Int32) &&& 31)).toInt8.toInt32))) 1 1 (nI (t + 1))) 2 (t + 1) (vp_nar FieldType.byte ((x >>> ((16 : Int32) &&& 31)).toInt8.toInt32))) 1 1 (nI (t + 1 + 1))).2.1 1 1).toNatClampNeg) (vp_nar FieldType.byte ((x >>> ((8 : Int32) &&& 31)).toInt8.toInt32))).2.1 1 1) + (Int32.ofInt 1))) [false, false] 25 hq rfl ⟨(by decide), (show xe_c .ge (xg 0 (xh_ui (xh_ui (xh_ui (xh_ui h 2 t (vp_nar FieldType.byte ((x >>> ((24 : Int32) &&& 31)).toInt8.toInt32))) 1 1 (nI (t + 1))) 2 (t + 1) (vp_nar FieldType.byte ((x >>> ((16 : Int32) &&& 31)).toInt8.toInt32))) 1 1 (nI (t + 1 + 1))).2.1 1 1) 640 = false by rw [show (xg 0 (xh_ui (xh_ui (xh_ui (xh_ui h 2 t (vp_nar FieldType.byte ((x >>> ((24 : Int32) &&& 31)).toInt8.toInt32))) 1 1 (nI (t + 1))) 2 (t + 1) (vp_nar FieldType.byte ((x >>> ((16 : Int32) &&& 31)).toInt8.toInt32))) 1 1 (nI (t + 1 + 1))).2.1 1 1) = (nI (t + 1 + 1)) from gx_s]; exact c3), trivial⟩ (fun _ => ?_)
        rw [show (xg 0 (xh_ui (xh_ui (xh_ui (xh_ui (xh_ui h 2 t (vp_nar FieldType.byte ((x >>> ((24 : Int32) &&& 31)).toInt8.toInt32))) 1 1 (nI (t + 1))) 2 (t + 1) (vp_nar FieldType.byte ((x >>> ((16 : Int32) &&& 31)).toInt8.toInt32))) 1 1 (nI (t + 1 + 1))) 2 ((xg 0 (xh_ui (xh_ui (xh_ui (xh_ui h 2 t (vp_nar FieldType.byte ((x >>> ((24 : Int32) &&& 31)).toInt8.toInt32))) 1 1 (nI (t + 1))) 2 (t + 1) (vp_nar FieldType.byte ((x >>> ((16 : Int32) &&& 31)).toInt8.toInt32))) 1 1 (nI (t + 1 + 1))).2.1 1 1).toNatClampNeg) (vp_nar FieldType.byte ((x >>> ((8 : Int32) &&& 31)).toInt8.toInt32))).2.1 1 1) = (nI (t + 1 + 1)) from (gx_o (by decide)).trans (gx_s)]
        rw [show (xg 0 (xh_ui (xh_ui (xh_ui (xh_ui h 2 t (vp_nar FieldType.byte ((x >>> ((24 : Int32) &&& 31)).toInt8.toInt32))) 1 1 (nI (t + 1))) 2 (t + 1) (vp_nar FieldType.byte ((x >>> ((16 : Int32) &&& 31)).toInt8.toInt32))) 1 1 (nI (t + 1 + 1))).2.1 1 1) = (nI (t + 1 + 1)) from gx_s]
        rw [show (8 + Int32.ofInt (-8)) = 0 from rfl]
        rw [show ((nI (t + 1 + 1)).toNatClampNeg) = (t + 1 + 1) from nI_clamp (by omega)]
        rw [show ((nI (t + 1 + 1)) + (Int32.ofInt 1)) = nI (t + 1 + 1 + 1) from nI_1 _]
        have hq : a_rq a_tb (xh_ui (xh_ui (xh_ui (xh_ui (xh_ui (xh_ui h 2 t (vp_nar FieldType.byte ((x >>> ((24 : Int32) &&& 31)).toInt8.toInt32))) 1 1 (nI (t + 1))) 2 (t + 1) (vp_nar FieldType.byte ((x >>> ((16 : Int32) &&& 31)).toInt8.toInt32))) 1 1 (nI (t + 1 + 1))) 2 (t + 1 + 1) (vp_nar FieldType.byte ((x >>> ((8 : Int32) &&& 31)).toInt8.toInt32))) 1 1 (nI (t + 1 + 1 + 1))) := a_rq_ui (a_rq_ui hq)
        cases c4 : xe_c .ge (nI (t + 1 + 1 + 1)) 640 with
        | true =>
          have z4 : (t + 1 + 1 + 1) ≥ 640 := nq_get (a := (t + 1 + 1 + 1)) (b := 640) (by omega) (by omega) c4
          omega
        | false =>
          have z4 : (t + 1 + 1 + 1) < 640 := nq_gef (a := (t + 1 + 1 + 1)) (b := 640) (by omega) (by omega) c4
          refine xq_n 3 [0, 1, 2] [(0, .ref 1), (1, .int x), (2, .int (0 + Int32.ofInt (-8)))] [] (xh_ui (xh_ui (xh_ui (xh_ui (xh_ui (xh_ui (xh_ui (xh_ui h 2 t (vp_nar FieldType.byte ((x >>> ((24 : Int32) &&& 31)).toInt8.toInt32))) 1 1 (nI (t + 1))) 2 (t + 1) (vp_nar FieldType.byte ((x >>> ((16 : Int32) &&& 31)).toInt8.toInt32))) 1 1 (nI (t + 1 + 1))) 2 (t + 1 + 1) (vp_nar FieldType.byte ((x >>> ((8 : Int32) &&& 31)).toInt8.toInt32))) 1 1 (nI (t + 1 + 1 + 1))) 2 ((xg 0 (xh_ui (xh_ui (xh_ui (xh_ui (xh_ui (xh_ui h 2 t (vp_nar FieldType.byte ((x >>> ((24 : Int32) &&& 31)).toInt8.toInt32))) 1 1 (nI (t + 1))) 2 (t + 1) (vp_nar FieldType.byte ((x >>> ((16 : Int32) &&& 31)).toInt8.toInt32))) 1 1 (nI (t + 1 + 1))) 2 (t + 1 + 1) (vp_nar FieldType.byte ((x >>> ((8 : Int32) &&& 31)).toInt8.toInt32))) 1 1 (nI (t + 1 + 1 + 1))).2.1 1 1).toNatClampNeg) (vp_nar FieldType.byte ((x >>> ((0 : Int32) &&& 31)).toInt8.toInt32))) 1 1 ((xg 0 (xh_ui (xh_ui (xh_ui (xh_ui (xh_ui (xh_ui (xh_ui h 2 t (vp_nar FieldType.byte ((x >>> ((24 : Int32) &&& 31)).toInt8.toInt32))) 1 1 (nI (t + 1))) 2 (t + 1) (vp_nar FieldType.byte ((x >>> ((16 : Int32) &&& 31)).toInt8.toInt32))) 1 1 (nI (t + 1 + 1))) 2 (t + 1 + 1) (vp_nar FieldType.byte ((x >>> ((8 : Int32) &&& 31)).toInt8.toInt32))) 1 1 (nI (t + 1 + 1 + 1))) 2 ((xg 0 (xh_ui (xh_ui (xh_ui (xh_ui (xh_ui (xh_ui h 2 t (vp_nar FieldType.byte ((x >>> ((24 : Int32) &&& 31)).toInt8.toInt32))) 1 1 (nI (t + 1))) 2 (t + 1) (vp_nar FieldType.byte ((x >>> ((16 : Int32) &&& 31)).toInt8.toInt32))) 1 1 (nI (t + 1 + 1))) 2 (t + 1 + 1) (vp_nar FieldType.byte ((x >>> ((8 : Int32) &&& 31)).toInt8.toInt32))) 1 1 (nI (t + 1 + 1 + 1))).2.1 1 1).toNatClampNeg) (vp_nar FieldType.byte ((x >>> ((0 : Int32) &&& 31)).toInt8.toInt32))).2.1 1 1) + (Int32.ofInt 1))) [false, false] 25 hq rfl ⟨(by decide), (show xe_c .ge (xg 0 (xh_ui (xh_ui (xh_ui (xh_ui (xh_ui (xh_ui h 2 t (vp_nar FieldType.byte ((x >>> ((24 : Int32) &&& 31)).toInt8.toInt32))) 1 1 (nI (t + 1))) 2 (t + 1) (vp_nar FieldType.byte ((x >>> ((16 : Int32) &&& 31)).toInt8.toInt32))) 1 1 (nI (t + 1 + 1))) 2 (t + 1 + 1) (vp_nar FieldType.byte ((x >>> ((8 : Int32) &&& 31)).toInt8.toInt32))) 1 1 (nI (t + 1 + 1 + 1))).2.1 1 1) 640 = false by rw [show (xg 0 (xh_ui (xh_ui (xh_ui (xh_ui (xh_ui (xh_ui h 2 t (vp_nar FieldType.byte ((x >>> ((24 : Int32) &&& 31)).toInt8.toInt32))) 1 1 (nI (t + 1))) 2 (t + 1) (vp_nar FieldType.byte ((x >>> ((16 : Int32) &&& 31)).toInt8.toInt32))) 1 1 (nI (t + 1 + 1))) 2 (t + 1 + 1) (vp_nar FieldType.byte ((x >>> ((8 : Int32) &&& 31)).toInt8.toInt32))) 1 1 (nI (t + 1 + 1 + 1))).2.1 1 1) = (nI (t + 1 + 1 + 1)) from gx_s]; exact c4), trivial⟩ (fun _ => ?_)
          rw [show (xg 0 (xh_ui (xh_ui (xh_ui (xh_ui (xh_ui (xh_ui (xh_ui h 2 t (vp_nar FieldType.byte ((x >>> ((24 : Int32) &&& 31)).toInt8.toInt32))) 1 1 (nI (t + 1))) 2 (t + 1) (vp_nar FieldType.byte ((x >>> ((16 : Int32) &&& 31)).toInt8.toInt32))) 1 1 (nI (t + 1 + 1))) 2 (t + 1 + 1) (vp_nar FieldType.byte ((x >>> ((8 : Int32) &&& 31)).toInt8.toInt32))) 1 1 (nI (t + 1 + 1 + 1))) 2 ((xg 0 (xh_ui (xh_ui (xh_ui (xh_ui (xh_ui (xh_ui h 2 t (vp_nar FieldType.byte ((x >>> ((24 : Int32) &&& 31)).toInt8.toInt32))) 1 1 (nI (t + 1))) 2 (t + 1) (vp_nar FieldType.byte ((x >>> ((16 : Int32) &&& 31)).toInt8.toInt32))) 1 1 (nI (t + 1 + 1))) 2 (t + 1 + 1) (vp_nar FieldType.byte ((x >>> ((8 : Int32) &&& 31)).toInt8.toInt32))) 1 1 (nI (t + 1 + 1 + 1))).2.1 1 1).toNatClampNeg) (vp_nar FieldType.byte ((x >>> ((0 : Int32) &&& 31)).toInt8.toInt32))).2.1 1 1) = (nI (t + 1 + 1 + 1)) from (gx_o (by decide)).trans (gx_s)]
          rw [show (xg 0 (xh_ui (xh_ui (xh_ui (xh_ui (xh_ui (xh_ui h 2 t (vp_nar FieldType.byte ((x >>> ((24 : Int32) &&& 31)).toInt8.toInt32))) 1 1 (nI (t + 1))) 2 (t + 1) (vp_nar FieldType.byte ((x >>> ((16 : Int32) &&& 31)).toInt8.toInt32))) 1 1 (nI (t + 1 + 1))) 2 (t + 1 + 1) (vp_nar FieldType.byte ((x >>> ((8 : Int32) &&& 31)).toInt8.toInt32))) 1 1 (nI (t + 1 + 1 + 1))).2.1 1 1) = (nI (t + 1 + 1 + 1)) from gx_s]
          rw [show (0 + Int32.ofInt (-8)) = (-8) from rfl]
          rw [show ((nI (t + 1 + 1 + 1)).toNatClampNeg) = (t + 1 + 1 + 1) from nI_clamp (by omega)]
          rw [show ((nI (t + 1 + 1 + 1)) + (Int32.ofInt 1)) = nI (t + 1 + 1 + 1 + 1) from nI_1 _]
          have hq : a_rq a_tb (xh_ui (xh_ui (xh_ui (xh_ui (xh_ui (xh_ui (xh_ui (xh_ui h 2 t (vp_nar FieldType.byte ((x >>> ((24 : Int32) &&& 31)).toInt8.toInt32))) 1 1 (nI (t + 1))) 2 (t + 1) (vp_nar FieldType.byte ((x >>> ((16 : Int32) &&& 31)).toInt8.toInt32))) 1 1 (nI (t + 1 + 1))) 2 (t + 1 + 1) (vp_nar FieldType.byte ((x >>> ((8 : Int32) &&& 31)).toInt8.toInt32))) 1 1 (nI (t + 1 + 1 + 1))) 2 (t + 1 + 1 + 1) (vp_nar FieldType.byte ((x >>> ((0 : Int32) &&& 31)).toInt8.toInt32))) 1 1 (nI (t + 1 + 1 + 1 + 1))) := a_rq_ui (a_rq_ui hq)
          refine xq_n 46 [] [] [] (xh_ui (xh_ui (xh_ui (xh_ui (xh_ui (xh_ui (xh_ui (xh_ui h 2 t (vp_nar FieldType.byte ((x >>> ((24 : Int32) &&& 31)).toInt8.toInt32))) 1 1 (nI (t + 1))) 2 (t + 1) (vp_nar FieldType.byte ((x >>> ((16 : Int32) &&& 31)).toInt8.toInt32))) 1 1 (nI (t + 1 + 1))) 2 (t + 1 + 1) (vp_nar FieldType.byte ((x >>> ((8 : Int32) &&& 31)).toInt8.toInt32))) 1 1 (nI (t + 1 + 1 + 1))) 2 (t + 1 + 1 + 1) (vp_nar FieldType.byte ((x >>> ((0 : Int32) &&& 31)).toInt8.toInt32))) 1 1 (nI (t + 1 + 1 + 1 + 1))) [true] 4 hq rfl ⟨(by decide), trivial⟩ (fun hq => ?_)
          refine xq_ret rfl rfl rfl ⟨rfl, fx_ui (fx_ui (fx_ui (fx_ui (fx_ui (fx_ui (fx_ui (fx_ui (fx_0) rfl) rfl) rfl) rfl) rfl) rfl) rfl) rfl, gx_s, fun j hj => ?_, fun k hk' => ?_⟩
          · match j, hj with
            | 0, _ => exact (gx_o (by decide)).trans ((gx_k (by omega)).trans ((gx_o (by decide)).trans ((gx_k (by omega)).trans ((gx_o (by decide)).trans ((gx_k (by omega)).trans ((gx_o (by decide)).trans (gx_s)))))))
            | 1, _ => exact (gx_o (by decide)).trans ((gx_k (by omega)).trans ((gx_o (by decide)).trans ((gx_k (by omega)).trans ((gx_o (by decide)).trans (gx_s)))))
            | 2, _ => exact (gx_o (by decide)).trans ((gx_k (by omega)).trans ((gx_o (by decide)).trans (gx_s)))
            | 3, _ => exact (gx_o (by decide)).trans (gx_s)
          · exact (gx_o (by decide)).trans ((gx_k (by omega)).trans ((gx_o (by decide)).trans ((gx_k (by omega)).trans ((gx_o (by decide)).trans ((gx_k (by omega)).trans ((gx_o (by decide)).trans (gx_k (by omega))))))))
set_option maxRecDepth 100000 in
set_option maxHeartbeats 4000000 in
theorem com_q {f t : Nat} {x : Int32} {h : xh_H} (hq : a_rq a_tb h) (t4 : t + 4 ≤ 640) (e1 : xg 0 h.2.1 39 2 = nI t) : xq f xi_X10_come xmi_X10_come 0 [(0, .ref 39), (1, .int x)] [] h (fun v h' => v = none ∧ fx pR fN h h' ∧ xg 0 h'.2.1 39 2 = nI (t + 4) ∧ (∀ j, j < 4 → xg 0 h'.2.1 40 (t + j) = byR x j) ∧ ∀ k, (k < t ∨ t + 4 ≤ k) → xg 0 h'.2.1 40 k = xg 0 h.2.1 40 k) := by
  refine xq_n 3 [0, 1, 2] [(0, .ref 39), (1, .int x), (2, .int 24)] [] h [] 4 hq rfl trivial (fun hq => ?_)
  refine xq_n 3 [0, 1, 2] [(0, .ref 39), (1, .int x), (2, .int (24 + Int32.ofInt (-8)))] [] (xh_ui (xh_ui h 40 ((xg 0 h.2.1 39 2).toNatClampNeg) (((x.toUInt32 >>> ((Int32.toUInt32 24) &&& Int32.toUInt32 31)).toInt32) &&& 255)) 39 2 ((xg 0 (xh_ui h 40 ((xg 0 h.2.1 39 2).toNatClampNeg) (((x.toUInt32 >>> ((Int32.toUInt32 24) &&& Int32.toUInt32 31)).toInt32) &&& 255)).2.1 39 2) + (Int32.ofInt 1))) [false] 22 hq rfl ⟨(by decide), trivial⟩ (fun _ => ?_)
  rw [show (xg 0 (xh_ui h 40 ((xg 0 h.2.1 39 2).toNatClampNeg) (((x.toUInt32 >>> ((Int32.toUInt32 24) &&& Int32.toUInt32 31)).toInt32) &&& 255)).2.1 39 2) = (nI t) from (gx_o (by decide)).trans (e1)]
  rw [show (xg 0 h.2.1 39 2) = (nI t) from e1]
  rw [show (24 + Int32.ofInt (-8)) = 16 from rfl]
  rw [show ((nI t).toNatClampNeg) = t from nI_clamp (by omega)]
  rw [show ((nI t) + (Int32.ofInt 1)) = nI (t + 1) from nI_1 _]
  have hq : a_rq a_tb (xh_ui (xh_ui h 40 t (((x.toUInt32 >>> ((Int32.toUInt32 24) &&& Int32.toUInt32 31)).toInt32) &&& 255)) 39 2 (nI (t + 1))) := a_rq_ui (a_rq_ui hq)
  refine xq_n 3 [0, 1, 2] [(0, .ref 39), (1, .int x), (2, .int (16 + Int32.ofInt (-8)))] [] (xh_ui (xh_ui (xh_ui (xh_ui h 40 t (((x.toUInt32 >>> ((Int32.toUInt32 24) &&& Int32.toUInt32 31)).toInt32) &&& 255)) 39 2 (nI (t + 1))) 40 ((xg 0 (xh_ui (xh_ui h 40 t (((x.toUInt32 >>> ((Int32.toUInt32 24) &&& Int32.toUInt32 31)).toInt32) &&& 255)) 39 2 (nI (t + 1))).2.1 39 2).toNatClampNeg) (((x.toUInt32 >>> ((Int32.toUInt32 16) &&& Int32.toUInt32 31)).toInt32) &&& 255)) 39 2 ((xg 0 (xh_ui (xh_ui (xh_ui h 40 t (((x.toUInt32 >>> ((Int32.toUInt32 24) &&& Int32.toUInt32 31)).toInt32) &&& 255)) 39 2 (nI (t + 1))) 40 ((xg 0 (xh_ui (xh_ui h 40 t (((x.toUInt32 >>> ((Int32.toUInt32 24) &&& Int32.toUInt32 31)).toInt32) &&& 255)) 39 2 (nI (t + 1))).2.1 39 2).toNatClampNeg) (((x.toUInt32 >>> ((Int32.toUInt32 16) &&& Int32.toUInt32 31)).toInt32) &&& 255)).2.1 39 2) + (Int32.ofInt 1))) [false] 22 hq rfl ⟨(by decide), trivial⟩ (fun _ => ?_)
  rw [show (xg 0 (xh_ui (xh_ui (xh_ui h 40 t (((x.toUInt32 >>> ((Int32.toUInt32 24) &&& Int32.toUInt32 31)).toInt32) &&& 255)) 39 2 (nI (t + 1))) 40 ((xg 0 (xh_ui (xh_ui h 40 t (((x.toUInt32 >>> ((Int32.toUInt32 24) &&& Int32.toUInt32 31)).toInt32) &&& 255)) 39 2 (nI (t + 1))).2.1 39 2).toNatClampNeg) (((x.toUInt32 >>> ((Int32.toUInt32 16) &&& Int32.toUInt32 31)).toInt32) &&& 255)).2.1 39 2) = (nI (t + 1)) from (gx_o (by decide)).trans (gx_s)]
  rw [show (xg 0 (xh_ui (xh_ui h 40 t (((x.toUInt32 >>> ((Int32.toUInt32 24) &&& Int32.toUInt32 31)).toInt32) &&& 255)) 39 2 (nI (t + 1))).2.1 39 2) = (nI (t + 1)) from gx_s]
  rw [show (16 + Int32.ofInt (-8)) = 8 from rfl]
  rw [show ((nI (t + 1)).toNatClampNeg) = (t + 1) from nI_clamp (by omega)]
  rw [show ((nI (t + 1)) + (Int32.ofInt 1)) = nI (t + 1 + 1) from nI_1 _]
  have hq : a_rq a_tb (xh_ui (xh_ui (xh_ui (xh_ui h 40 t (((x.toUInt32 >>> ((Int32.toUInt32 24) &&& Int32.toUInt32 31)).toInt32) &&& 255)) 39 2 (nI (t + 1))) 40 (t + 1) (((x.toUInt32 >>> ((Int32.toUInt32 16) &&& Int32.toUInt32 31)).toInt32) &&& 255)) 39 2 (nI (t + 1 + 1))) := a_rq_ui (a_rq_ui hq)
  refine xq_n 3 [0, 1, 2] [(0, .ref 39), (1, .int x), (2, .int (8 + Int32.ofInt (-8)))] [] (xh_ui (xh_ui (xh_ui (xh_ui (xh_ui (xh_ui h 40 t (((x.toUInt32 >>> ((Int32.toUInt32 24) &&& Int32.toUInt32 31)).toInt32) &&& 255)) 39 2 (nI (t + 1))) 40 (t + 1) (((x.toUInt32 >>> ((Int32.toUInt32 16) &&& Int32.toUInt32 31)).toInt32) &&& 255)) 39 2 (nI (t + 1 + 1))) 40 ((xg 0 (xh_ui (xh_ui (xh_ui (xh_ui h 40 t (((x.toUInt32 >>> ((Int32.toUInt32 24) &&& Int32.toUInt32 31)).toInt32) &&& 255)) 39 2 (nI (t + 1))) 40 (t + 1) (((x.toUInt32 >>> ((Int32.toUInt32 16) &&& Int32.toUInt32 31)).toInt32) &&& 255)) 39 2 (nI (t + 1 + 1))).2.1 39 2).toNatClampNeg) (((x.toUInt32 >>> ((Int32.toUInt32 8) &&& Int32.toUInt32 31)).toInt32) &&& 255)) 39 2 ((xg 0 (xh_ui (xh_ui (xh_ui (xh_ui (xh_ui h 40 t (((x.toUInt32 >>> ((Int32.toUInt32 24) &&& Int32.toUInt32 31)).toInt32) &&& 255)) 39 2 (nI (t + 1))) 40 (t + 1) (((x.toUInt32 >>> ((Int32.toUInt32 16) &&& Int32.toUInt32 31)).toInt32) &&& 255)) 39 2 (nI (t + 1 + 1))) 40 ((xg 0 (xh_ui (xh_ui (xh_ui (xh_ui h 40 t (((x.toUInt32 >>> ((Int32.toUInt32 24) &&& Int32.toUInt32 31)).toInt32) &&& 255)) 39 2 (nI (t + 1))) 40 (t + 1) (((x.toUInt32 >>> ((Int32.toUInt32 16) &&& Int32.toUInt32 31)).toInt32) &&& 255)) 39 2 (nI (t + 1 + 1))).2.1 39 2).toNatClampNeg) (((x.toUInt32 >>> ((Int32.toUInt32 8) &&& Int32.toUInt32 31)).toInt32) &&& 255)).2.1 39 2) + (Int32.ofInt 1))) [false] 22 hq rfl ⟨(by decide), trivial⟩ (fun _ => ?_)
  rw [show (xg 0 (xh_ui (xh_ui (xh_ui (xh_ui (xh_ui h 40 t (((x.toUInt32 >>> ((Int32.toUInt32 24) &&& Int32.toUInt32 31)).toInt32) &&& 255)) 39 2 (nI (t + 1))) 40 (t + 1) (((x.toUInt32 >>> ((Int32.toUInt32 16) &&& Int32.toUInt32 31)).toInt32) &&& 255)) 39 2 (nI (t + 1 + 1))) 40 ((xg 0 (xh_ui (xh_ui (xh_ui (xh_ui h 40 t (((x.toUInt32 >>> ((Int32.toUInt32 24) &&& Int32.toUInt32 31)).toInt32) &&& 255)) 39 2 (nI (t + 1))) 40 (t + 1) (((x.toUInt32 >>> ((Int32.toUInt32 16) &&& Int32.toUInt32 31)).toInt32) &&& 255)) 39 2 (nI (t + 1 + 1))).2.1 39 2).toNatClampNeg) (((x.toUInt32 >>> ((Int32.toUInt32 8) &&& Int32.toUInt32 31)).toInt32) &&& 255)).2.1 39 2) = (nI (t + 1 + 1)) from (gx_o (by decide)).trans (gx_s)]
  rw [show (xg 0 (xh_ui (xh_ui (xh_ui (xh_ui h 40 t (((x.toUInt32 >>> ((Int32.toUInt32 24) &&& Int32.toUInt32 31)).toInt32) &&& 255)) 39 2 (nI (t + 1))) 40 (t + 1) (((x.toUInt32 >>> ((Int32.toUInt32 16) &&& Int32.toUInt32 31)).toInt32) &&& 255)) 39 2 (nI (t + 1 + 1))).2.1 39 2) = (nI (t + 1 + 1)) from gx_s]
  rw [show (8 + Int32.ofInt (-8)) = 0 from rfl]
  rw [show ((nI (t + 1 + 1)).toNatClampNeg) = (t + 1 + 1) from nI_clamp (by omega)]
  rw [show ((nI (t + 1 + 1)) + (Int32.ofInt 1)) = nI (t + 1 + 1 + 1) from nI_1 _]
  have hq : a_rq a_tb (xh_ui (xh_ui (xh_ui (xh_ui (xh_ui (xh_ui h 40 t (((x.toUInt32 >>> ((Int32.toUInt32 24) &&& Int32.toUInt32 31)).toInt32) &&& 255)) 39 2 (nI (t + 1))) 40 (t + 1) (((x.toUInt32 >>> ((Int32.toUInt32 16) &&& Int32.toUInt32 31)).toInt32) &&& 255)) 39 2 (nI (t + 1 + 1))) 40 (t + 1 + 1) (((x.toUInt32 >>> ((Int32.toUInt32 8) &&& Int32.toUInt32 31)).toInt32) &&& 255)) 39 2 (nI (t + 1 + 1 + 1))) := a_rq_ui (a_rq_ui hq)
  refine xq_n 3 [0, 1, 2] [(0, .ref 39), (1, .int x), (2, .int (0 + Int32.ofInt (-8)))] [] (xh_ui (xh_ui (xh_ui (xh_ui (xh_ui (xh_ui (xh_ui (xh_ui h 40 t (((x.toUInt32 >>> ((Int32.toUInt32 24) &&& Int32.toUInt32 31)).toInt32) &&& 255)) 39 2 (nI (t + 1))) 40 (t + 1) (((x.toUInt32 >>> ((Int32.toUInt32 16) &&& Int32.toUInt32 31)).toInt32) &&& 255)) 39 2 (nI (t + 1 + 1))) 40 (t + 1 + 1) (((x.toUInt32 >>> ((Int32.toUInt32 8) &&& Int32.toUInt32 31)).toInt32) &&& 255)) 39 2 (nI (t + 1 + 1 + 1))) 40 ((xg 0 (xh_ui (xh_ui (xh_ui (xh_ui (xh_ui (xh_ui h 40 t (((x.toUInt32 >>> ((Int32.toUInt32 24) &&& Int32.toUInt32 31)).toInt32) &&& 255)) 39 2 (nI (t + 1))) 40 (t + 1) (((x.toUInt32 >>> ((Int32.toUInt32 16) &&& Int32.toUInt32 31)).toInt32) &&& 255)) 39 2 (nI (t + 1 + 1))) 40 (t + 1 + 1) (((x.toUInt32 >>> ((Int32.toUInt32 8) &&& Int32.toUInt32 31)).toInt32) &&& 255)) 39 2 (nI (t + 1 + 1 + 1))).2.1 39 2).toNatClampNeg) (((x.toUInt32 >>> ((Int32.toUInt32 0) &&& Int32.toUInt32 31)).toInt32) &&& 255)) 39 2 ((xg 0 (xh_ui (xh_ui (xh_ui (xh_ui (xh_ui (xh_ui (xh_ui h 40 t (((x.toUInt32 >>> ((Int32.toUInt32 24) &&& Int32.toUInt32 31)).toInt32) &&& 255)) 39 2 (nI (t + 1))) 40 (t + 1) (((x.toUInt32 >>> ((Int32.toUInt32 16) &&& Int32.toUInt32 31)).toInt32) &&& 255)) 39 2 (nI (t + 1 + 1))) 40 (t + 1 + 1) (((x.toUInt32 >>> ((Int32.toUInt32 8) &&& Int32.toUInt32 31)).toInt32) &&& 255)) 39 2 (nI (t + 1 + 1 + 1))) 40 ((xg 0 (xh_ui (xh_ui (xh_ui (xh_ui (xh_ui (xh_ui h 40 t (((x.toUInt32 >>> ((Int32.toUInt32 24) &&& Int32.toUInt32 31)).toInt32) &&& 255)) 39 2 (nI (t + 1))) 40 (t + 1) (((x.toUInt32 >>> ((Int32.toUInt32 16) &&& Int32.toUInt32 31)).toInt32) &&& 255)) 39 2 (nI (t + 1 + 1))) 40 (t + 1 + 1) (((x.toUInt32 >>> ((Int32.toUInt32 8) &&& Int32.toUInt32 31)).toInt32) &&& 255)) 39 2 (nI (t + 1 + 1 + 1))).2.1 39 2).toNatClampNeg) (((x.toUInt32 >>> ((Int32.toUInt32 0) &&& Int32.toUInt32 31)).toInt32) &&& 255)).2.1 39 2) + (Int32.ofInt 1))) [false] 22 hq rfl ⟨(by decide), trivial⟩ (fun _ => ?_)
  rw [show (xg 0 (xh_ui (xh_ui (xh_ui (xh_ui (xh_ui (xh_ui (xh_ui h 40 t (((x.toUInt32 >>> ((Int32.toUInt32 24) &&& Int32.toUInt32 31)).toInt32) &&& 255)) 39 2 (nI (t + 1))) 40 (t + 1) (((x.toUInt32 >>> ((Int32.toUInt32 16) &&& Int32.toUInt32 31)).toInt32) &&& 255)) 39 2 (nI (t + 1 + 1))) 40 (t + 1 + 1) (((x.toUInt32 >>> ((Int32.toUInt32 8) &&& Int32.toUInt32 31)).toInt32) &&& 255)) 39 2 (nI (t + 1 + 1 + 1))) 40 ((xg 0 (xh_ui (xh_ui (xh_ui (xh_ui (xh_ui (xh_ui h 40 t (((x.toUInt32 >>> ((Int32.toUInt32 24) &&& Int32.toUInt32 31)).toInt32) &&& 255)) 39 2 (nI (t + 1))) 40 (t + 1) (((x.toUInt32 >>> ((Int32.toUInt32 16) &&& Int32.toUInt32 31)).toInt32) &&& 255)) 39 2 (nI (t + 1 + 1))) 40 (t + 1 + 1) (((x.toUInt32 >>> ((Int32.toUInt32 8) &&& Int32.toUInt32 31)).toInt32) &&& 255)) 39 2 (nI (t + 1 + 1 + 1))).2.1 39 2).toNatClampNeg) (((x.toUInt32 >>> ((Int32.toUInt32 0) &&& Int32.toUInt32 31)).toInt32) &&& 255)).2.1 39 2) = (nI (t + 1 + 1 + 1)) from (gx_o (by decide)).trans (gx_s)]
  rw [show (xg 0 (xh_ui (xh_ui (xh_ui (xh_ui (xh_ui (xh_ui h 40 t (((x.toUInt32 >>> ((Int32.toUInt32 24) &&& Int32.toUInt32 31)).toInt32) &&& 255)) 39 2 (nI (t + 1))) 40 (t + 1) (((x.toUInt32 >>> ((Int32.toUInt32 16) &&& Int32.toUInt32 31)).toInt32) &&& 255)) 39 2 (nI (t + 1 + 1))) 40 (t + 1 + 1) (((x.toUInt32 >>> ((Int32.toUInt32 8) &&& Int32.toUInt32 31)).toInt32) &&& 255)) 39 2 (nI (t + 1 + 1 + 1))).2.1 39 2) = (nI (t + 1 + 1 + 1)) from gx_s]
  rw [show (0 + Int32.ofInt (-8)) = (-8) from rfl]
  rw [show ((nI (t + 1 + 1 + 1)).toNatClampNeg) = (t + 1 + 1 + 1) from nI_clamp (by omega)]
  rw [show ((nI (t + 1 + 1 + 1)) + (Int32.ofInt 1)) = nI (t + 1 + 1 + 1 + 1) from nI_1 _]
  have hq : a_rq a_tb (xh_ui (xh_ui (xh_ui (xh_ui (xh_ui (xh_ui (xh_ui (xh_ui h 40 t (((x.toUInt32 >>> ((Int32.toUInt32 24) &&& Int32.toUInt32 31)).toInt32) &&& 255)) 39 2 (nI (t + 1))) 40 (t + 1) (((x.toUInt32 >>> ((Int32.toUInt32 16) &&& Int32.toUInt32 31)).toInt32) &&& 255)) 39 2 (nI (t + 1 + 1))) 40 (t + 1 + 1) (((x.toUInt32 >>> ((Int32.toUInt32 8) &&& Int32.toUInt32 31)).toInt32) &&& 255)) 39 2 (nI (t + 1 + 1 + 1))) 40 (t + 1 + 1 + 1) (((x.toUInt32 >>> ((Int32.toUInt32 0) &&& Int32.toUInt32 31)).toInt32) &&& 255)) 39 2 (nI (t + 1 + 1 + 1 + 1))) := a_rq_ui (a_rq_ui hq)
  refine xq_n 39 [] [] [] (xh_ui (xh_ui (xh_ui (xh_ui (xh_ui (xh_ui (xh_ui (xh_ui h 40 t (((x.toUInt32 >>> ((Int32.toUInt32 24) &&& Int32.toUInt32 31)).toInt32) &&& 255)) 39 2 (nI (t + 1))) 40 (t + 1) (((x.toUInt32 >>> ((Int32.toUInt32 16) &&& Int32.toUInt32 31)).toInt32) &&& 255)) 39 2 (nI (t + 1 + 1))) 40 (t + 1 + 1) (((x.toUInt32 >>> ((Int32.toUInt32 8) &&& Int32.toUInt32 31)).toInt32) &&& 255)) 39 2 (nI (t + 1 + 1 + 1))) 40 (t + 1 + 1 + 1) (((x.toUInt32 >>> ((Int32.toUInt32 0) &&& Int32.toUInt32 31)).toInt32) &&& 255)) 39 2 (nI (t + 1 + 1 + 1 + 1))) [true] 4 hq rfl ⟨(by decide), trivial⟩ (fun hq => ?_)
  refine xq_ret rfl rfl rfl ⟨rfl, fx_ui (fx_ui (fx_ui (fx_ui (fx_ui (fx_ui (fx_ui (fx_ui (fx_0) rfl) rfl) rfl) rfl) rfl) rfl) rfl) rfl, gx_s, fun j hj => ?_, fun k hk' => ?_⟩
  · match j, hj with
    | 0, _ => exact (gx_o (by decide)).trans ((gx_k (by omega)).trans ((gx_o (by decide)).trans ((gx_k (by omega)).trans ((gx_o (by decide)).trans ((gx_k (by omega)).trans ((gx_o (by decide)).trans (gx_s)))))))
    | 1, _ => exact (gx_o (by decide)).trans ((gx_k (by omega)).trans ((gx_o (by decide)).trans ((gx_k (by omega)).trans ((gx_o (by decide)).trans (gx_s)))))
    | 2, _ => exact (gx_o (by decide)).trans ((gx_k (by omega)).trans ((gx_o (by decide)).trans (gx_s)))
    | 3, _ => exact (gx_o (by decide)).trans (gx_s)
  · exact (gx_o (by decide)).trans ((gx_k (by omega)).trans ((gx_o (by decide)).trans ((gx_k (by omega)).trans ((gx_o (by decide)).trans ((gx_k (by omega)).trans ((gx_o (by decide)).trans (gx_k (by omega))))))))
set_option maxRecDepth 100000 in
set_option maxHeartbeats 4000000 in
theorem room_q {f t : Nat} {h : xh_H} (hq : a_rq a_tb h) (t6 : t ≤ 640) (e1 : xg 0 h.2.1 1 1 = nI t) : xq f xi_X8_hasRoom xmi_X8_hasRoom 0 [(0, .ref 1)] [] h (fun v h' => h = h' ∧ v = some (.int (bl (decide (t + 20 ≤ 640))))) := by
  cases c1 : xe_c .gt (nI (t + 20)) 640 with
  | true =>
    have z1 : (t + 20) > 640 := nq_gtt (a := (t + 20)) (b := 640) (by omega) (by omega) c1
    refine xq_n 18 [] [] [.int (Int32.ofInt 0)] h [true] 9 hq rfl ⟨(show xe_c .gt ((xg 0 h.2.1 1 1) + 20) 640 = true by rw [show (xg 0 h.2.1 1 1) = (nI t) from e1, show ((nI t) + 20) = nI (t + 20) from nI_add t 20]; exact c1), trivial⟩ (fun hq => ?_)
    exact xq_ret rfl rfl rfl ⟨rfl, by rw [show decide (t + 20 ≤ 640) = false from decide_eq_false (by omega)]; rfl⟩
  | false =>
    have z1 : (t + 20) ≤ 640 := nq_gtf (a := (t + 20)) (b := 640) (by omega) (by omega) c1
    refine xq_n 18 [] [] [.int (Int32.ofInt 1)] h [false] 10 hq rfl ⟨(show xe_c .gt ((xg 0 h.2.1 1 1) + 20) 640 = false by rw [show (xg 0 h.2.1 1 1) = (nI t) from e1, show ((nI t) + 20) = nI (t + 20) from nI_add t 20]; exact c1), trivial⟩ (fun hq => ?_)
    exact xq_ret rfl rfl rfl ⟨rfl, by rw [show decide (t + 20 ≤ 640) = true from decide_eq_true (by omega)]; rfl⟩
/-- twenty bytes more -/
def fd_B (by_ : Int32 → Nat → Int32) (c t : Nat) (x1 x2 x3 x4 x5 : Int32) (h h' : xh_H) : Prop := (∀ j, j < 4 → xg 0 h'.2.1 c (t + j) = by_ x1 j) ∧ (∀ j, j < 4 → xg 0 h'.2.1 c (t + 4 + j) = by_ x2 j) ∧ (∀ j, j < 4 → xg 0 h'.2.1 c (t + 4 + 4 + j) = by_ x3 j) ∧ (∀ j, j < 4 → xg 0 h'.2.1 c (t + 4 + 4 + 4 + j) = by_ x4 j) ∧ (∀ j, j < 4 → xg 0 h'.2.1 c (t + 4 + 4 + 4 + 4 + j) = by_ x5 j) ∧ ∀ k, (k < t ∨ t + 20 ≤ k) → xg 0 h'.2.1 c k = xg 0 h.2.1 c k
set_option maxRecDepth 100000 in
set_option maxHeartbeats 4000000 in
theorem fd9_q {f t : Nat} {x1 x2 x3 x4 x5 : Int32} {h : xh_H} (hq : a_rq a_tb h) (t6 : t ≤ 640) (e1 : xg 0 h.2.1 1 1 = nI t) : xq f xi_X9_feed xmi_X9_feed 0 [(0, .ref 0), (1, .int x1), (2, .int x2), (3, .int x3), (4, .int x4), (5, .int x5)] [] h (fun v h' => (t + 20 ≤ 640 → v = some (.int (nI (t + 4 + 4 + 4 + 4 + 4))) ∧ fx pC fN h h' ∧ xg 0 h'.2.1 1 1 = nI (t + 4 + 4 + 4 + 4 + 4) ∧ fd_B byC 2 t x1 x2 x3 x4 x5 h h') ∧ (¬ t + 20 ≤ 640 → v = some (.int (-1)) ∧ h' = h)) := by
  refine xq_n 4 [0, 1, 2, 3, 4, 5] [(0, .ref 0), (1, .int x1), (2, .int x2), (3, .int x3), (4, .int x4), (5, .int x5)] [.ref 1] h [] 4 hq rfl trivial (fun hq => ?_)
  refine xq_run hq rfl rfl (room_q (t := t) hq t6 e1) ?_
  rintro _ h_ ⟨rfl, rfl⟩
  cases b1 : (decide (t + 20 ≤ 640)) with
  | true =>
    have db1 := of_decide_eq_true b1
    refine xq_n 17 [0, 1, 2, 3, 4, 5] [(0, .ref 0), (1, .int x1), (2, .int x2), (3, .int x3), (4, .int x4), (5, .int x5)] [.int x1, .ref 1] h [true] 6 hq rfl ⟨rfl, trivial⟩ (fun hq => ?_)
    refine xq_run hq rfl rfl (put_q (t := t) hq (by omega) (e1)) ?_
    rintro _ h1 ⟨rfl, g1, d1, a1, o1⟩
    have hq := fx_q g1 hq
    refine xq_n 25 [0, 1, 2, 3, 4, 5] [(0, .ref 0), (1, .int x1), (2, .int x2), (3, .int x3), (4, .int x4), (5, .int x5)] [.int x2, .ref 1] h1 [] 5 hq rfl trivial (fun hq => ?_)
    refine xq_run hq rfl rfl (put_q (t := t + 4) hq (by omega) (d1)) ?_
    rintro _ h2 ⟨rfl, g2, d2, a2, o2⟩
    have hq := fx_q g2 hq
    refine xq_n 33 [0, 1, 2, 3, 4, 5] [(0, .ref 0), (1, .int x1), (2, .int x2), (3, .int x3), (4, .int x4), (5, .int x5)] [.int x3, .ref 1] h2 [] 5 hq rfl trivial (fun hq => ?_)
    refine xq_run hq rfl rfl (put_q (t := t + 4 + 4) hq (by omega) (d2)) ?_
    rintro _ h3 ⟨rfl, g3, d3, a3, o3⟩
    have hq := fx_q g3 hq
    refine xq_n 42 [0, 1, 2, 3, 4, 5] [(0, .ref 0), (1, .int x1), (2, .int x2), (3, .int x3), (4, .int x4), (5, .int x5)] [.int x4, .ref 1] h3 [] 5 hq rfl trivial (fun hq => ?_)
    refine xq_run hq rfl rfl (put_q (t := t + 4 + 4 + 4) hq (by omega) (d3)) ?_
    rintro _ h4 ⟨rfl, g4, d4, a4, o4⟩
    have hq := fx_q g4 hq
    refine xq_n 51 [0, 1, 2, 3, 4, 5] [(0, .ref 0), (1, .int x1), (2, .int x2), (3, .int x3), (4, .int x4), (5, .int x5)] [.int x5, .ref 1] h4 [] 5 hq rfl trivial (fun hq => ?_)
    refine xq_run hq rfl rfl (put_q (t := t + 4 + 4 + 4 + 4) hq (by omega) (d4)) ?_
    rintro _ h5 ⟨rfl, g5, d5, a5, o5⟩
    have hq := fx_q g5 hq
    refine xq_n 61 [] [] [.int (xg 0 h5.2.1 1 1)] h5 [] 5 hq rfl trivial (fun hq => ?_)
    rw [show (xg 0 h5.2.1 1 1) = (nI (t + 4 + 4 + 4 + 4 + 4)) from d5]
    have ex : ∀ k, xg 0 h.2.1 2 k = xg 0 h.2.1 2 k := fun k => rfl
    refine xq_ret rfl rfl rfl ⟨fun _ => ⟨rfl, fx_t (fx_t (fx_t (fx_t (fx_t (fx_0) (g1)) (g2)) (g3)) (g4)) (g5), d5, fun j hj => ?_, fun j hj => ?_, fun j hj => ?_, fun j hj => ?_, fun j hj => ?_, fun k hk' => ?_⟩, fun z => absurd z (by omega)⟩
    · exact (o5 _ (Or.inl (by omega))).trans ((o4 _ (Or.inl (by omega))).trans ((o3 _ (Or.inl (by omega))).trans ((o2 _ (Or.inl (by omega))).trans (a1 j hj))))
    · exact (o5 _ (Or.inl (by omega))).trans ((o4 _ (Or.inl (by omega))).trans ((o3 _ (Or.inl (by omega))).trans (a2 j hj)))
    · exact (o5 _ (Or.inl (by omega))).trans ((o4 _ (Or.inl (by omega))).trans (a3 j hj))
    · exact (o5 _ (Or.inl (by omega))).trans (a4 j hj)
    · exact a5 j hj
    · exact (o5 _ (by omega)).trans ((o4 _ (by omega)).trans ((o3 _ (by omega)).trans ((o2 _ (by omega)).trans ((o1 _ (by omega)).trans (ex k)))))
  | false =>
    have db1 := of_decide_eq_false b1
    refine xq_n 11 [] [] [.int (Int32.ofInt (-1))] h [false] 4 hq rfl ⟨rfl, trivial⟩ (fun hq => ?_)
    exact xq_ret rfl rfl rfl ⟨fun z => absurd z (by omega), fun _ => ⟨rfl, rfl⟩⟩
set_option maxRecDepth 100000 in
set_option maxHeartbeats 4000000 in
theorem fd10_q {f t : Nat} {x1 x2 x3 x4 x5 : Int32} {h : xh_H} (hq : a_rq a_tb h) (t6 : t ≤ 640) (e1 : xg 0 h.2.1 39 2 = nI t) : xq f xi_X10_feed xmi_X10_feed 0 [(0, .ref 39), (1, .int x1), (2, .int x2), (3, .int x3), (4, .int x4), (5, .int x5)] [] h (fun v h' => (t + 20 ≤ 640 → v = some (.int (nI (t + 4 + 4 + 4 + 4 + 4))) ∧ fx pR fN h h' ∧ xg 0 h'.2.1 39 2 = nI (t + 4 + 4 + 4 + 4 + 4) ∧ fd_B byR 40 t x1 x2 x3 x4 x5 h h') ∧ (¬ t + 20 ≤ 640 → v = some (.int (-1)) ∧ fx pR fN h h' ∧ xg 0 h'.2.1 39 2 = xg 0 h.2.1 39 2 ∧ ∀ k, xg 0 h'.2.1 40 k = xg 0 h.2.1 40 k)) := by
  cases c1 : xe_c .le (nI (t + 20)) 640 with
  | true =>
    have z1 : (t + 20) ≤ 640 := nq_let (a := (t + 20)) (b := 640) (by omega) (by omega) c1
    refine xq_n 22 [0, 1, 2, 3, 4, 5] [(0, .ref 39), (1, .int x1), (2, .int x2), (3, .int x3), (4, .int x4), (5, .int x5)] [.int x1, .ref 39] (xh_ui h 39 0 (Int32.ofInt 0)) [true] 13 hq rfl ⟨(show xe_c .le ((xg 0 (xh_ui h 39 0 (Int32.ofInt 0)).2.1 39 2) + 20) 640 = true by rw [show (xg 0 (xh_ui h 39 0 (Int32.ofInt 0)).2.1 39 2) = (nI t) from (gx_k (by decide)).trans (e1), show ((nI t) + 20) = nI (t + 20) from nI_add t 20]; exact c1), trivial⟩ (fun _ => ?_)
    have hq : a_rq a_tb (xh_ui h 39 0 (Int32.ofInt 0)) := a_rq_ui hq
    refine xq_run hq rfl rfl (com_q (t := t) hq (by omega) ((gx_k (by decide)).trans (e1))) ?_
    rintro _ h1 ⟨rfl, g1, d1, a1, o1⟩
    have hq := fx_q g1 hq
    refine xq_n 27 [0, 1, 2, 3, 4, 5] [(0, .ref 39), (1, .int x1), (2, .int x2), (3, .int x3), (4, .int x4), (5, .int x5)] [.int x2, .ref 39] h1 [] 4 hq rfl trivial (fun hq => ?_)
    refine xq_run hq rfl rfl (com_q (t := t + 4) hq (by omega) (d1)) ?_
    rintro _ h2 ⟨rfl, g2, d2, a2, o2⟩
    have hq := fx_q g2 hq
    refine xq_n 32 [0, 1, 2, 3, 4, 5] [(0, .ref 39), (1, .int x1), (2, .int x2), (3, .int x3), (4, .int x4), (5, .int x5)] [.int x3, .ref 39] h2 [] 4 hq rfl trivial (fun hq => ?_)
    refine xq_run hq rfl rfl (com_q (t := t + 4 + 4) hq (by omega) (d2)) ?_
    rintro _ h3 ⟨rfl, g3, d3, a3, o3⟩
    have hq := fx_q g3 hq
    refine xq_n 38 [0, 1, 2, 3, 4, 5] [(0, .ref 39), (1, .int x1), (2, .int x2), (3, .int x3), (4, .int x4), (5, .int x5)] [.int x4, .ref 39] h3 [] 4 hq rfl trivial (fun hq => ?_)
    refine xq_run hq rfl rfl (com_q (t := t + 4 + 4 + 4) hq (by omega) (d3)) ?_
    rintro _ h4 ⟨rfl, g4, d4, a4, o4⟩
    have hq := fx_q g4 hq
    refine xq_n 44 [0, 1, 2, 3, 4, 5] [(0, .ref 39), (1, .int x1), (2, .int x2), (3, .int x3), (4, .int x4), (5, .int x5)] [.int x5, .ref 39] h4 [] 4 hq rfl trivial (fun hq => ?_)
    refine xq_run hq rfl rfl (com_q (t := t + 4 + 4 + 4 + 4) hq (by omega) (d4)) ?_
    rintro _ h5 ⟨rfl, g5, d5, a5, o5⟩
    have hq := fx_q g5 hq
    refine xq_n 51 [] [] [.int (xg 0 h5.2.1 39 2)] h5 [] 4 hq rfl trivial (fun hq => ?_)
    rw [show (xg 0 h5.2.1 39 2) = (nI (t + 4 + 4 + 4 + 4 + 4)) from d5]
    have ex : ∀ k, xg 0 (xh_ui h 39 0 (Int32.ofInt 0)).2.1 40 k = xg 0 h.2.1 40 k := fun k => gx_o (by decide)
    refine xq_ret rfl rfl rfl ⟨fun _ => ⟨rfl, fx_t (fx_t (fx_t (fx_t (fx_t (fx_ui (fx_0) rfl) (g1)) (g2)) (g3)) (g4)) (g5), d5, fun j hj => ?_, fun j hj => ?_, fun j hj => ?_, fun j hj => ?_, fun j hj => ?_, fun k hk' => ?_⟩, fun z => absurd z (by omega)⟩
    · exact (o5 _ (Or.inl (by omega))).trans ((o4 _ (Or.inl (by omega))).trans ((o3 _ (Or.inl (by omega))).trans ((o2 _ (Or.inl (by omega))).trans (a1 j hj))))
    · exact (o5 _ (Or.inl (by omega))).trans ((o4 _ (Or.inl (by omega))).trans ((o3 _ (Or.inl (by omega))).trans (a2 j hj)))
    · exact (o5 _ (Or.inl (by omega))).trans ((o4 _ (Or.inl (by omega))).trans (a3 j hj))
    · exact (o5 _ (Or.inl (by omega))).trans (a4 j hj)
    · exact a5 j hj
    · exact (o5 _ (by omega)).trans ((o4 _ (by omega)).trans ((o3 _ (by omega)).trans ((o2 _ (by omega)).trans ((o1 _ (by omega)).trans (ex k)))))
  | false =>
    have z1 : (t + 20) > 640 := nq_lef (a := (t + 20)) (b := 640) (by omega) (by omega) c1
    refine xq_n 19 [] [] [.int (Int32.ofInt (-1))] (xh_ui h 39 0 (Int32.ofInt 0)) [false] 12 hq rfl ⟨(show xe_c .le ((xg 0 (xh_ui h 39 0 (Int32.ofInt 0)).2.1 39 2) + 20) 640 = false by rw [show (xg 0 (xh_ui h 39 0 (Int32.ofInt 0)).2.1 39 2) = (nI t) from (gx_k (by decide)).trans (e1), show ((nI t) + 20) = nI (t + 20) from nI_add t 20]; exact c1), trivial⟩ (fun _ => ?_)
    have hq : a_rq a_tb (xh_ui h 39 0 (Int32.ofInt 0)) := a_rq_ui hq
    exact xq_ret rfl rfl rfl ⟨fun z => absurd z (by omega), fun _ => ⟨rfl, fx_ui fx_0 rfl, gx_k (by decide), fun k => gx_o (by decide)⟩⟩
theorem i8_255 (y : Int32) : y.toInt8.toInt32 &&& 255 = y &&& 255 := by
  apply Int32.toBitVec_inj.mp
  rw [Int32.toBitVec_and, Int32.toBitVec_and, Int8.toBitVec_toInt32, Int32.toBitVec_toInt8]
  apply BitVec.eq_of_getLsbD_eq
  intro i hi
  rw [BitVec.getLsbD_and, BitVec.getLsbD_and, BitVec.getLsbD_signExtend]
  by_cases h : i < 8
  · rw [if_pos h, BitVec.getLsbD_signExtend, if_pos (by omega)]
    simp [h, hi]
  · have : (255 : Int32).toBitVec.getLsbD i = false := by
      have h2 : 255 < 2 ^ i := Nat.lt_of_lt_of_le (by decide : 255 < 2 ^ 8) (Nat.pow_le_pow_right (by decide) (by omega))
      show Nat.testBit 255 i = false
      exact Nat.testBit_lt_two_pow h2
    rw [this, Bool.and_false, Bool.and_false]
theorem sh_255 (x s : Int32) (k : Nat) (e1 : (s.toBitVec.smod 32).toNat = k) (e2 : (s.toUInt32.toBitVec % 32).toNat = k) (hk : k ≤ 24) : (x >>> s) &&& 255 = (x.toUInt32 >>> s.toUInt32).toInt32 &&& 255 := by
  apply Int32.toBitVec_inj.mp
  rw [Int32.toBitVec_and, Int32.toBitVec_and, Int32.toBitVec_shiftRight]
  show _ = (x.toUInt32 >>> s.toUInt32).toBitVec &&& _
  rw [UInt32.toBitVec_shiftRight]
  show _ = (x.toBitVec >>> _) &&& _
  apply BitVec.eq_of_getLsbD_eq
  intro i hi
  rw [BitVec.getLsbD_and, BitVec.getLsbD_and]
  by_cases h : i < 8
  · rw [BitVec.sshiftRight', BitVec.getLsbD_sshiftRight, e1]
    show _ = ((x.toBitVec >>> (s.toUInt32.toBitVec % 32).toNat).getLsbD i && _)
    rw [e2, BitVec.getLsbD_ushiftRight]
    simp [show ¬ 32 ≤ i by omega, show k + i < 32 by omega]
  · have : (255 : Int32).toBitVec.getLsbD i = false := by
      have h2 : 255 < 2 ^ i := Nat.lt_of_lt_of_le (by decide : 255 < 2 ^ 8) (Nat.pow_le_pow_right (by decide) (by omega))
      show Nat.testBit 255 i = false
      exact Nat.testBit_lt_two_pow h2
    rw [this, Bool.and_false, Bool.and_false]
theorem byCR (x : Int32) (j : Nat) : byC x j &&& 255 = byR x j := by
  unfold byC byR
  split
  · rw [vp_nar_byte, i8_255, i8_255]; exact sh_255 x (24 &&& 31) 24 (by decide) (by decide) (by decide)
  · rw [vp_nar_byte, i8_255, i8_255]; exact sh_255 x (16 &&& 31) 16 (by decide) (by decide) (by decide)
  · rw [vp_nar_byte, i8_255, i8_255]; exact sh_255 x (8 &&& 31) 8 (by decide) (by decide) (by decide)
  · rw [vp_nar_byte, i8_255, i8_255]; exact sh_255 x (0 &&& 31) 0 (by decide) (by decide) (by decide)
/-- the two tapes are alike -/
def tpe (h : xh_H) (t : Nat) : Prop := xg 0 h.2.1 1 1 = nI t ∧ xg 0 h.2.1 39 2 = nI t ∧ t ≤ 640 ∧ ∀ k, k < t → xg 0 h.2.1 2 k &&& 255 = xg 0 h.2.1 40 k
theorem tpe_f {S L : Nat → Nat → Bool} {h h' : xh_H} {t : Nat} (hc : tpe h t) (g : fx S L h h') (e1 : S 1 1 = false) (e2 : ∀ k, S 2 k = false) (e3 : S 39 2 = false) (e4 : ∀ k, S 40 k = false) : tpe h' t := ⟨(fx_i g e1).trans hc.1, (fx_i g e3).trans hc.2.1, hc.2.2.1, fun k hk' => by rw [fx_i g (e2 k), fx_i g (e4 k)]; exact hc.2.2.2 k hk'⟩
theorem and255 (y : Int32) : ∃ m, m < 256 ∧ y &&& 255 = nI m := by
  have e : (y &&& 255).toBitVec = y.toBitVec &&& 255#32 := Int32.toBitVec_and y 255
  have l : (y &&& 255).toBitVec.toNat < 256 := by
    rw [e, BitVec.toNat_and]
    exact Nat.lt_of_le_of_lt Nat.and_le_right (by decide)
  refine ⟨(y &&& 255).toBitVec.toNat, l, ?_⟩
  apply Int32.toBitVec_inj.mp
  apply BitVec.eq_of_toNat_eq
  show _ = (BitVec.ofNat 32 _).toNat
  rw [BitVec.toNat_ofNat, Nat.mod_eq_of_lt (by omega)]
def tpT (h : xh_H) (k : Nat) : Nat := (xg 0 h.2.1 2 k &&& 255).toNatClampNeg
theorem tpe_T {h : xh_H} {t : Nat} (ht : tpe h t) : (∀ k, tpT h k < 256 ∧ xg 0 h.2.1 2 k &&& 255 = nI (tpT h k)) ∧ ∀ k, k < t → tpT h k < 256 ∧ xg 0 h.2.1 40 k = nI (tpT h k) := by
  have a : ∀ k, tpT h k < 256 ∧ xg 0 h.2.1 2 k &&& 255 = nI (tpT h k) := fun k => by
    obtain ⟨m, m2, e⟩ := and255 (xg 0 h.2.1 2 k)
    have : tpT h k = m := by unfold tpT; rw [e]; exact nI_clamp (by omega)
    rw [this]; exact ⟨m2, e⟩
  exact ⟨a, fun k hk' => ⟨(a k).1, (ht.2.2.2 k hk').symm.trans (a k).2⟩⟩
theorem fd_4 {t : Nat} {P : Nat → Prop} (a0 : ∀ k, k < t → P k) (a : ∀ j, j < 4 → P (t + j)) : ∀ k, k < t + 4 → P k := fun k hk' => by
  by_cases z : k < t
  · exact a0 k z
  · have := a (k - t) (by omega)
    rwa [show t + (k - t) = k by omega] at this
theorem fd_al {t : Nat} {x1 x2 x3 x4 x5 : Int32} {h h1 h2 : xh_H} (ht : tpe h t) (l : t + 20 ≤ 640) (g1 : fx pC fN h h1) (n1 : xg 0 h1.2.1 1 1 = nI (t + 4 + 4 + 4 + 4 + 4)) (b1 : fd_B byC 2 t x1 x2 x3 x4 x5 h h1) (g2 : fx pR fN h1 h2) (n2 : xg 0 h2.2.1 39 2 = nI (t + 4 + 4 + 4 + 4 + 4)) (b2 : fd_B byR 40 t x1 x2 x3 x4 x5 h1 h2) : tpe h2 (t + 4 + 4 + 4 + 4 + 4) := by
  refine ⟨(fx_i g2 rfl).trans n1, n2, by omega, fd_4 (fd_4 (fd_4 (fd_4 (fd_4 (fun k hk' => ?_) ?_) ?_) ?_) ?_) ?_⟩
  · rw [fx_i (k := k) (c := 2) g2 rfl, b1.2.2.2.2.2 k (Or.inl hk'), b2.2.2.2.2.2 k (Or.inl hk'), fx_i (k := k) (c := 40) g1 rfl]
    exact ht.2.2.2 k hk'
  · intro j hj
    rw [fx_i (c := 2) g2 rfl, b1.1 j hj, b2.1 j hj]; exact byCR _ _
  · intro j hj
    rw [fx_i (c := 2) g2 rfl, b1.2.1 j hj, b2.2.1 j hj]; exact byCR _ _
  · intro j hj
    rw [fx_i (c := 2) g2 rfl, b1.2.2.1 j hj, b2.2.2.1 j hj]; exact byCR _ _
  · intro j hj
    rw [fx_i (c := 2) g2 rfl, b1.2.2.2.1 j hj, b2.2.2.2.1 j hj]; exact byCR _ _
  · intro j hj
    rw [fx_i (c := 2) g2 rfl, b1.2.2.2.2.1 j hj, b2.2.2.2.2.1 j hj]; exact byCR _ _
end XFD
