section XPS
set_option maxRecDepth 100000 in
set_option maxHeartbeats 4000000 in
theorem psh_q {f d : Nat} {x : Int32} {h : xh_H} (d1 : 0 ≤ d) (d2 : d < 64) (hq : a_rq a_tb h) : xq f xi_X3_push xmi_X3_push 0 [(0, .ref 4), (1, .int (nI d)), (2, .int x)] [] h (fun v h' => h' = xh_ui h 7 d x ∧ v = some (.int (nI (d + 1)))) := by
  cases c1 : xe_c .lt (nI d) 0 with
  | true =>
    have z1 : d < 0 := nq_ltt (a := d) (b := 0) (by omega) (by omega) c1
    omega
  | false =>
    have z1 : d ≥ 0 := nq_ltf (a := d) (b := 0) (by omega) (by omega) c1
    cases c2 : xe_c .lt (nI d) 64 with
    | true =>
      have z2 : d < 64 := nq_ltt (a := d) (b := 64) (by omega) (by omega) c2
      refine xq_n 22 [] [] [.int ((nI d) + (Int32.ofInt 1))] (xh_ui h 7 ((nI d).toNatClampNeg) x) [false, true] 15 hq rfl ⟨c1, c2, trivial⟩ (fun _ => ?_)
      rw [show ((nI d).toNatClampNeg) = d from nI_clamp (by omega)]
      rw [show ((nI d) + (Int32.ofInt 1)) = nI (d + 1) from nI_1 _]
      have hq : a_rq a_tb (xh_ui h 7 d x) := a_rq_ui hq
      exact xq_ret rfl rfl rfl ⟨rfl, rfl⟩
    | false =>
      have z2 : d ≥ 64 := nq_ltf (a := d) (b := 64) (by omega) (by omega) c2
      omega
set_option maxRecDepth 100000 in
set_option maxHeartbeats 4000000 in
theorem rpl_q {f d : Nat} {x : Int32} {h : xh_H} (d1 : 0 < d) (d2 : d ≤ 64) (hq : a_rq a_tb h) : xq f xi_X3_replace xmi_X3_replace 0 [(0, .ref 4), (1, .int (nI d)), (2, .int x)] [] h (fun v h' => h' = xh_ui h 7 (d - 1) x ∧ v = none) := by
  cases c1 : xe_c .le (nI d) 0 with
  | true =>
    have z1 : d ≤ 0 := nq_let (a := d) (b := 0) (by omega) (by omega) c1
    omega
  | false =>
    have z1 : d > 0 := nq_lef (a := d) (b := 0) (by omega) (by omega) c1
    cases c2 : xe_c .gt (nI d) 64 with
    | true =>
      have z2 : d > 64 := nq_gtt (a := d) (b := 64) (by omega) (by omega) c2
      omega
    | false =>
      have z2 : d ≤ 64 := nq_gtf (a := d) (b := 64) (by omega) (by omega) c2
      refine xq_n 19 [] [] [] (xh_ui h 7 (((nI d) - (Int32.ofInt 1)).toNatClampNeg) x) [false, false] 14 hq rfl ⟨c1, c2, trivial⟩ (fun _ => ?_)
      rw [show ((nI d) - (Int32.ofInt 1)) = nI (d - 1) from nI_sub (b := 1) (by omega)]
      rw [show ((nI (d - 1)).toNatClampNeg) = (d - 1) from nI_clamp (by omega)]
      have hq : a_rq a_tb (xh_ui h 7 (d - 1) x) := a_rq_ui hq
      exact xq_ret rfl rfl rfl ⟨rfl, rfl⟩
set_option maxRecDepth 100000 in
set_option maxHeartbeats 4000000 in
theorem pek_q {f d : Nat} {h : xh_H} (d1 : 0 < d) (d2 : d ≤ 64) (hq : a_rq a_tb h) : xq f xi_X3_peek xmi_X3_peek 0 [(0, .ref 4), (1, .int (nI d))] [] h (fun v h' => h = h' ∧ v = some (.int (xg 0 h.2.1 7 (d - 1)))) := by
  cases c1 : xe_c .le (nI d) 0 with
  | true =>
    have z1 : d ≤ 0 := nq_let (a := d) (b := 0) (by omega) (by omega) c1
    omega
  | false =>
    have z1 : d > 0 := nq_lef (a := d) (b := 0) (by omega) (by omega) c1
    cases c2 : xe_c .gt (nI d) 64 with
    | true =>
      have z2 : d > 64 := nq_gtt (a := d) (b := 64) (by omega) (by omega) c2
      omega
    | false =>
      have z2 : d ≤ 64 := nq_gtf (a := d) (b := 64) (by omega) (by omega) c2
      refine xq_n 22 [] [] [.int (xg 0 h.2.1 7 (((nI d) - (Int32.ofInt 1)).toNatClampNeg))] h [false, false] 14 hq rfl ⟨c1, c2, trivial⟩ (fun hq => ?_)
      rw [show (xg 0 h.2.1 7 (((nI d) - (Int32.ofInt 1)).toNatClampNeg)) = xg 0 h.2.1 7 (d - 1) from (by rw [show ((nI d) - (Int32.ofInt 1)) = nI (d - 1) from nI_sub (b := 1) (by omega), show ((nI (d - 1)).toNatClampNeg) = (d - 1) from nI_clamp (by omega)])]
      exact xq_ret rfl rfl rfl ⟨rfl, rfl⟩
end XPS
