section XSC
set_option maxRecDepth 100000 in
set_option maxHeartbeats 4000000 in
theorem bk_q {f c : Nat} {h : xh_H} (hc : c < 256) (hq : a_rq a_tb h) : xq f xi_X6_isBlank xmi_X6_isBlank 0 [(0, .int (nI c))] [] h (fun v h' => h = h' ∧ v = some (.int (bl (p_bk c)))) := by
  cases c1 : xe_c .eq (nI c) 32 with
  | true =>
    have z1 : c = 32 := nq_eqt (a := c) (b := 32) (by omega) (by omega) c1
    refine xq_n 17 [] [] [.int (Int32.ofInt 1)] h [true] 7 hq rfl ⟨c1, trivial⟩ (fun hq => ?_)
    exact xq_ret rfl rfl rfl ⟨rfl, by rw [show p_bk c = true from decide_eq_true (by omega)]; rfl⟩
  | false =>
    have z1 : c ≠ 32 := nq_eqf (a := c) (b := 32) (by omega) (by omega) c1
    cases c2 : xe_c .ne (nI c) 10 with
    | true =>
      have z2 : c ≠ 10 := nq_net (a := c) (b := 10) (by omega) (by omega) c2
      refine xq_n 17 [] [] [.int (Int32.ofInt 0)] h [false, true] 9 hq rfl ⟨c1, c2, trivial⟩ (fun hq => ?_)
      exact xq_ret rfl rfl rfl ⟨rfl, by rw [show p_bk c = false from decide_eq_false (by omega)]; rfl⟩
    | false =>
      have z2 : c = 10 := nq_nef (a := c) (b := 10) (by omega) (by omega) c2
      refine xq_n 17 [] [] [.int (Int32.ofInt 1)] h [false, false] 10 hq rfl ⟨c1, c2, trivial⟩ (fun hq => ?_)
      exact xq_ret rfl rfl rfl ⟨rfl, by rw [show p_bk c = true from decide_eq_true (by omega)]; rfl⟩
set_option maxRecDepth 100000 in
set_option maxHeartbeats 4000000 in
theorem lt_q {f c : Nat} {h : xh_H} (hc : c < 256) (hq : a_rq a_tb h) : xq f xi_X6_isLetter xmi_X6_isLetter 0 [(0, .int (nI c))] [] h (fun v h' => h = h' ∧ v = some (.int (bl (p_lt c)))) := by
  cases c1 : xe_c .lt (nI c) 97 with
  | true =>
    have z1 : c < 97 := nq_ltt (a := c) (b := 97) (by omega) (by omega) c1
    refine xq_n 17 [] [] [.int (Int32.ofInt 0)] h [true] 6 hq rfl ⟨c1, trivial⟩ (fun hq => ?_)
    exact xq_ret rfl rfl rfl ⟨rfl, by rw [show p_lt c = false from decide_eq_false (by omega)]; rfl⟩
  | false =>
    have z1 : c ≥ 97 := nq_ltf (a := c) (b := 97) (by omega) (by omega) c1
    cases c2 : xe_c .gt (nI c) 122 with
    | true =>
      have z2 : c > 122 := nq_gtt (a := c) (b := 122) (by omega) (by omega) c2
      refine xq_n 17 [] [] [.int (Int32.ofInt 0)] h [false, true] 9 hq rfl ⟨c1, c2, trivial⟩ (fun hq => ?_)
      exact xq_ret rfl rfl rfl ⟨rfl, by rw [show p_lt c = false from decide_eq_false (by omega)]; rfl⟩
    | false =>
      have z2 : c ≤ 122 := nq_gtf (a := c) (b := 122) (by omega) (by omega) c2
      refine xq_n 17 [] [] [.int (Int32.ofInt 1)] h [false, false] 10 hq rfl ⟨c1, c2, trivial⟩ (fun hq => ?_)
      exact xq_ret rfl rfl rfl ⟨rfl, by rw [show p_lt c = true from decide_eq_true (by omega)]; rfl⟩
set_option maxRecDepth 100000 in
set_option maxHeartbeats 4000000 in
theorem dg_q {f c : Nat} {h : xh_H} (hc : c < 256) (hq : a_rq a_tb h) : xq f xi_X6_isDigit xmi_X6_isDigit 0 [(0, .int (nI c))] [] h (fun v h' => h = h' ∧ v = some (.int (bl (p_dg c)))) := by
  cases c1 : xe_c .lt (nI c) 48 with
  | true =>
    have z1 : c < 48 := nq_ltt (a := c) (b := 48) (by omega) (by omega) c1
    refine xq_n 17 [] [] [.int (Int32.ofInt 0)] h [true] 6 hq rfl ⟨c1, trivial⟩ (fun hq => ?_)
    exact xq_ret rfl rfl rfl ⟨rfl, by rw [show p_dg c = false from decide_eq_false (by omega)]; rfl⟩
  | false =>
    have z1 : c ≥ 48 := nq_ltf (a := c) (b := 48) (by omega) (by omega) c1
    cases c2 : xe_c .gt (nI c) 57 with
    | true =>
      have z2 : c > 57 := nq_gtt (a := c) (b := 57) (by omega) (by omega) c2
      refine xq_n 17 [] [] [.int (Int32.ofInt 0)] h [false, true] 9 hq rfl ⟨c1, c2, trivial⟩ (fun hq => ?_)
      exact xq_ret rfl rfl rfl ⟨rfl, by rw [show p_dg c = false from decide_eq_false (by omega)]; rfl⟩
    | false =>
      have z2 : c ≤ 57 := nq_gtf (a := c) (b := 57) (by omega) (by omega) c2
      refine xq_n 17 [] [] [.int (Int32.ofInt 1)] h [false, false] 10 hq rfl ⟨c1, c2, trivial⟩ (fun hq => ?_)
      exact xq_ret rfl rfl rfl ⟨rfl, by rw [show p_dg c = true from decide_eq_true (by omega)]; rfl⟩
set_option maxRecDepth 100000 in
set_option maxHeartbeats 4000000 in
theorem sn_q {f c : Nat} {h : xh_H} (hc : c < 256) (hq : a_rq a_tb h) : xq f xi_X6_isSign xmi_X6_isSign 0 [(0, .int (nI c))] [] h (fun v h' => h = h' ∧ v = some (.int (bl (p_sn c)))) := by
  cases c1 : xe_c .eq (nI c) 59 with
  | true =>
    have z1 : c = 59 := nq_eqt (a := c) (b := 59) (by omega) (by omega) c1
    refine xq_n 47 [] [] [.int (Int32.ofInt 1)] h [true] 7 hq rfl ⟨c1, trivial⟩ (fun hq => ?_)
    exact xq_ret rfl rfl rfl ⟨rfl, by rw [show p_sn c = true from decide_eq_true (by omega)]; rfl⟩
  | false =>
    have z1 : c ≠ 59 := nq_eqf (a := c) (b := 59) (by omega) (by omega) c1
    cases c2 : xe_c .eq (nI c) 58 with
    | true =>
      have z2 : c = 58 := nq_eqt (a := c) (b := 58) (by omega) (by omega) c2
      refine xq_n 47 [] [] [.int (Int32.ofInt 1)] h [false, true] 10 hq rfl ⟨c1, c2, trivial⟩ (fun hq => ?_)
      exact xq_ret rfl rfl rfl ⟨rfl, by rw [show p_sn c = true from decide_eq_true (by omega)]; rfl⟩
    | false =>
      have z2 : c ≠ 58 := nq_eqf (a := c) (b := 58) (by omega) (by omega) c2
      cases c3 : xe_c .eq (nI c) 42 with
      | true =>
        have z3 : c = 42 := nq_eqt (a := c) (b := 42) (by omega) (by omega) c3
        refine xq_n 47 [] [] [.int (Int32.ofInt 1)] h [false, false, true] 13 hq rfl ⟨c1, c2, c3, trivial⟩ (fun hq => ?_)
        exact xq_ret rfl rfl rfl ⟨rfl, by rw [show p_sn c = true from decide_eq_true (by omega)]; rfl⟩
      | false =>
        have z3 : c ≠ 42 := nq_eqf (a := c) (b := 42) (by omega) (by omega) c3
        cases c4 : xe_c .eq (nI c) 40 with
        | true =>
          have z4 : c = 40 := nq_eqt (a := c) (b := 40) (by omega) (by omega) c4
          refine xq_n 47 [] [] [.int (Int32.ofInt 1)] h [false, false, false, true] 16 hq rfl ⟨c1, c2, c3, c4, trivial⟩ (fun hq => ?_)
          exact xq_ret rfl rfl rfl ⟨rfl, by rw [show p_sn c = true from decide_eq_true (by omega)]; rfl⟩
        | false =>
          have z4 : c ≠ 40 := nq_eqf (a := c) (b := 40) (by omega) (by omega) c4
          cases c5 : xe_c .eq (nI c) 41 with
          | true =>
            have z5 : c = 41 := nq_eqt (a := c) (b := 41) (by omega) (by omega) c5
            refine xq_n 47 [] [] [.int (Int32.ofInt 1)] h [false, false, false, false, true] 19 hq rfl ⟨c1, c2, c3, c4, c5, trivial⟩ (fun hq => ?_)
            exact xq_ret rfl rfl rfl ⟨rfl, by rw [show p_sn c = true from decide_eq_true (by omega)]; rfl⟩
          | false =>
            have z5 : c ≠ 41 := nq_eqf (a := c) (b := 41) (by omega) (by omega) c5
            cases c6 : xe_c .eq (nI c) 91 with
            | true =>
              have z6 : c = 91 := nq_eqt (a := c) (b := 91) (by omega) (by omega) c6
              refine xq_n 47 [] [] [.int (Int32.ofInt 1)] h [false, false, false, false, false, true] 22 hq rfl ⟨c1, c2, c3, c4, c5, c6, trivial⟩ (fun hq => ?_)
              exact xq_ret rfl rfl rfl ⟨rfl, by rw [show p_sn c = true from decide_eq_true (by omega)]; rfl⟩
            | false =>
              have z6 : c ≠ 91 := nq_eqf (a := c) (b := 91) (by omega) (by omega) c6
              cases c7 : xe_c .ne (nI c) 93 with
              | true =>
                have z7 : c ≠ 93 := nq_net (a := c) (b := 93) (by omega) (by omega) c7
                refine xq_n 47 [] [] [.int (Int32.ofInt 0)] h [false, false, false, false, false, false, true] 24 hq rfl ⟨c1, c2, c3, c4, c5, c6, c7, trivial⟩ (fun hq => ?_)
                exact xq_ret rfl rfl rfl ⟨rfl, by rw [show p_sn c = false from decide_eq_false (by omega)]; rfl⟩
              | false =>
                have z7 : c = 93 := nq_nef (a := c) (b := 93) (by omega) (by omega) c7
                refine xq_n 47 [] [] [.int (Int32.ofInt 1)] h [false, false, false, false, false, false, false] 25 hq rfl ⟨c1, c2, c3, c4, c5, c6, c7, trivial⟩ (fun hq => ?_)
                exact xq_ret rfl rfl rfl ⟨rfl, by rw [show p_sn c = true from decide_eq_true (by omega)]; rfl⟩
/-- the class's tape -/
def ct (h : xh_H) (T : Nat → Nat) (n : Nat) : Prop := xg 0 h.2.1 1 1 = nI n ∧ n ≤ 640 ∧ ∀ k, k < n → T k < 256 ∧ xg 0 h.2.1 2 k &&& 255 = nI (T k)
theorem ct_f {S L : Nat → Nat → Bool} {h h' : xh_H} {T : Nat → Nat} {n : Nat} (hc : ct h T n) (g : fx S L h h') (e1 : S 1 1 = false) (e2 : ∀ k, S 2 k = false) : ct h' T n := by
  refine ⟨by rw [fx_i g e1]; exact hc.1, hc.2.1, fun k hk' => ?_⟩
  rw [fx_i g (e2 k)]
  exact hc.2.2 k hk'
set_option maxRecDepth 100000 in
set_option maxHeartbeats 4000000 in
theorem at_q {f p n : Nat} {T : Nat → Nat} {h : xh_H} (hc : ct h T n) (hp : p < n) (hq : a_rq a_tb h) : xq f xi_X8_at xmi_X8_at 0 [(0, .ref 1), (1, .int (nI p))] [] h (fun v h' => h = h' ∧ v = some (.int (nI (T p)))) := by
  have n6 := hc.2.1
  cases c1 : xe_c .lt (nI p) 0 with
  | true =>
    have z1 : p < 0 := nq_ltt (a := p) (b := 0) (by omega) (by omega) c1
    omega
  | false =>
    have z1 : p ≥ 0 := nq_ltf (a := p) (b := 0) (by omega) (by omega) c1
    cases c2 : xe_c .ge (nI p) (nI n) with
    | true =>
      have z2 : p ≥ n := nq_get (a := p) (b := n) (by omega) (by omega) c2
      omega
    | false =>
      have z2 : p < n := nq_gef (a := p) (b := n) (by omega) (by omega) c2
      refine xq_n 26 [] [] [.int ((xg 0 h.2.1 2 ((nI p).toNatClampNeg)) &&& 255)] h [false, false] 15 hq rfl ⟨c1, (show xe_c .ge (nI p) (xg 0 h.2.1 1 1) = false by rw [show (xg 0 h.2.1 1 1) = (nI n) from hc.1]; exact c2), trivial⟩ (fun hq => ?_)
      rw [show (xg 0 h.2.1 2 ((nI p).toNatClampNeg)) = xg 0 h.2.1 2 p from (by rw [show ((nI p).toNatClampNeg) = p from nI_clamp (by omega)])]
      exact xq_ret rfl rfl rfl ⟨rfl, by rw [(hc.2.2 p hp).2]⟩
/-- the scanner's fields that reading changes -/
def sS (c k : Nat) : Bool := Nat.beq c 8 && Nat.ble 2 k
theorem nI_val {v c : Nat} (hc : 48 ≤ c) : nI v * 10 + nI c - 48 = nI (v * 10 + (c - 48)) := by
  obtain ⟨j, rfl⟩ : ∃ j, c = j + 48 := ⟨c - 48, by omega⟩
  rw [show (10 : Int32) = nI 10 from rfl, show (48 : Int32) = nI 48 from rfl, ← nI_mul2, Nat.add_sub_cancel, ← nI_add j 48, ← Int32.add_assoc, Int32.add_sub_cancel, nI_add]
/-- what a run of letters and digits leaves -/
def tr_Q (h0 : xh_H) (T : Nat → Nat) (n q : Nat) (v : Option Value) (h' : xh_H) : Prop := v = none ∧ fx sS fN h0 h' ∧ xg 0 h'.2.1 8 2 = nI (rn T n q) ∧ xg 0 h'.2.1 8 3 = nI (kw (cL T q (rn T n q - q)) (cD T q (rn T n q - q))) ∧ xg 0 h'.2.1 8 4 = xg 0 h0.2.1 8 4 ∧ xg 0 h'.2.1 8 6 = nI (vf T q (rn T n q - q))
set_option maxRecDepth 100000 in
set_option maxHeartbeats 4000000 in
theorem tr_end {f n q m l dd v : Nat} {T : Nat → Nat} {h0 h : xh_H} (hq : a_rq a_tb h) (g0 : fx sS fN h0 h) (m6 : m ≤ 640) (hl : l ≤ m) (hd : dd ≤ m) (el : cL T q m = l) (ed : cD T q m = dd) (ev : vf T q m = v) (er : rn T n q = q + m) (e2 : xg 0 h.2.1 8 2 = nI (q + m)) (e4 : xg 0 h.2.1 8 4 = xg 0 h0.2.1 8 4) (e6 : xg 0 h.2.1 8 6 = nI v) : xq f xi_X6_takeRun xmi_X6_takeRun 99 [(0, .ref 8), (1, .int (nI l)), (2, .int (nI dd))] [] h (tr_Q h0 T n q) := by
  cases c1 : xe_c .ne (nI dd) 0 with
  | true =>
    have z1 : dd ≠ 0 := nq_net (a := dd) (b := 0) (by omega) (by omega) c1
    cases c2 : xe_c .ne (nI l) 0 with
    | true =>
      have z2 : l ≠ 0 := nq_net (a := l) (b := 0) (by omega) (by omega) c2
      refine xq_n 136 [] [] [] (xh_ui h 8 3 (Int32.ofInt 1)) [true, true] 9 hq rfl ⟨c1, c2, trivial⟩ (fun _ => ?_)
      have hq : a_rq a_tb (xh_ui h 8 3 (Int32.ofInt 1)) := a_rq_ui hq
      have ek : kw l dd = 1 := by unfold kw; rw [if_neg (by omega), if_neg (by omega)]
      exact xq_ret rfl rfl rfl ⟨rfl, fx_ui (g0) rfl, by rw [er, gx_k (by decide), e2], by rw [er, Nat.add_sub_cancel_left, el, ed, ek, gx_s]; rfl, by rw [gx_k (by decide)]; exact e4, by rw [er, Nat.add_sub_cancel_left, ev, gx_k (by decide), e6]⟩
    | false =>
      have z2 : l = 0 := nq_nef (a := l) (b := 0) (by omega) (by omega) c2
      cases c3 : xe_c .gt (nI dd) (Int32.ofInt 3) with
      | true =>
        have z3 : dd > 3 := nq_gtt (a := dd) (b := 3) (by omega) (by omega) c3
        refine xq_n 136 [] [] [] (xh_ui h 8 3 (Int32.ofInt 1)) [true, false, true] 12 hq rfl ⟨c1, c2, c3, trivial⟩ (fun _ => ?_)
        have hq : a_rq a_tb (xh_ui h 8 3 (Int32.ofInt 1)) := a_rq_ui hq
        have ek : kw l dd = 1 := by unfold kw; rw [if_neg (by omega), if_neg (by omega)]
        exact xq_ret rfl rfl rfl ⟨rfl, fx_ui (g0) rfl, by rw [er, gx_k (by decide), e2], by rw [er, Nat.add_sub_cancel_left, el, ed, ek, gx_s]; rfl, by rw [gx_k (by decide)]; exact e4, by rw [er, Nat.add_sub_cancel_left, ev, gx_k (by decide), e6]⟩
      | false =>
        have z3 : dd ≤ 3 := nq_gtf (a := dd) (b := 3) (by omega) (by omega) c3
        refine xq_n 136 [] [] [] (xh_ui (xh_ui h 8 3 (Int32.ofInt 1)) 8 3 (Int32.ofInt 3)) [true, false, false] 15 hq rfl ⟨c1, c2, c3, trivial⟩ (fun _ => ?_)
        have hq : a_rq a_tb (xh_ui (xh_ui h 8 3 (Int32.ofInt 1)) 8 3 (Int32.ofInt 3)) := a_rq_ui (a_rq_ui hq)
        have ek : kw l dd = 3 := by unfold kw; rw [if_neg (by omega), if_pos (by omega)]
        exact xq_ret rfl rfl rfl ⟨rfl, fx_ui (fx_ui (g0) rfl) rfl, by rw [er, gx_k (by decide), gx_k (by decide), e2], by rw [er, Nat.add_sub_cancel_left, el, ed, ek, gx_s]; rfl, by rw [gx_k (by decide), gx_k (by decide)]; exact e4, by rw [er, Nat.add_sub_cancel_left, ev, gx_k (by decide), gx_k (by decide), e6]⟩
  | false =>
    have z1 : dd = 0 := nq_nef (a := dd) (b := 0) (by omega) (by omega) c1
    cases c4 : xe_c .gt (nI l) 8 with
    | true =>
      have z4 : l > 8 := nq_gtt (a := l) (b := 8) (by omega) (by omega) c4
      cases c5 : xe_c .ne (nI l) 0 with
      | true =>
        have z5 : l ≠ 0 := nq_net (a := l) (b := 0) (by omega) (by omega) c5
        refine xq_n 136 [] [] [] (xh_ui h 8 3 (Int32.ofInt 1)) [false, true, true] 12 hq rfl ⟨c1, c4, c5, trivial⟩ (fun _ => ?_)
        have hq : a_rq a_tb (xh_ui h 8 3 (Int32.ofInt 1)) := a_rq_ui hq
        have ek : kw l dd = 1 := by unfold kw; rw [if_neg (by omega), if_neg (by omega)]
        exact xq_ret rfl rfl rfl ⟨rfl, fx_ui (g0) rfl, by rw [er, gx_k (by decide), e2], by rw [er, Nat.add_sub_cancel_left, el, ed, ek, gx_s]; rfl, by rw [gx_k (by decide)]; exact e4, by rw [er, Nat.add_sub_cancel_left, ev, gx_k (by decide), e6]⟩
      | false =>
        have z5 : l = 0 := nq_nef (a := l) (b := 0) (by omega) (by omega) c5
        refine xq_n 136 [] [] [] (xh_ui (xh_ui h 8 3 (Int32.ofInt 1)) 8 3 (Int32.ofInt 3)) [false, true, false, false] 18 hq rfl ⟨c1, c4, c5, (show xe_c .gt (nI dd) (Int32.ofInt 3) = false by rw [z1]; rfl), trivial⟩ (fun _ => ?_)
        have hq : a_rq a_tb (xh_ui (xh_ui h 8 3 (Int32.ofInt 1)) 8 3 (Int32.ofInt 3)) := a_rq_ui (a_rq_ui hq)
        have ek : kw l dd = 3 := by unfold kw; rw [if_neg (by omega), if_pos (by omega)]
        exact xq_ret rfl rfl rfl ⟨rfl, fx_ui (fx_ui (g0) rfl) rfl, by rw [er, gx_k (by decide), gx_k (by decide), e2], by rw [er, Nat.add_sub_cancel_left, el, ed, ek, gx_s]; rfl, by rw [gx_k (by decide), gx_k (by decide)]; exact e4, by rw [er, Nat.add_sub_cancel_left, ev, gx_k (by decide), gx_k (by decide), e6]⟩
    | false =>
      have z4 : l ≤ 8 := nq_gtf (a := l) (b := 8) (by omega) (by omega) c4
      refine xq_n 136 [] [] [] (xh_ui (xh_ui h 8 3 (Int32.ofInt 1)) 8 3 (Int32.ofInt 2)) [false, false] 14 hq rfl ⟨c1, c4, trivial⟩ (fun _ => ?_)
      have hq : a_rq a_tb (xh_ui (xh_ui h 8 3 (Int32.ofInt 1)) 8 3 (Int32.ofInt 2)) := a_rq_ui (a_rq_ui hq)
      have ek : kw l dd = 2 := by unfold kw; rw [if_pos (by omega)]
      exact xq_ret rfl rfl rfl ⟨rfl, fx_ui (fx_ui (g0) rfl) rfl, by rw [er, gx_k (by decide), gx_k (by decide), e2], by rw [er, Nat.add_sub_cancel_left, el, ed, ek, gx_s]; rfl, by rw [gx_k (by decide), gx_k (by decide)]; exact e4, by rw [er, Nat.add_sub_cancel_left, ev, gx_k (by decide), gx_k (by decide), e6]⟩
set_option maxRecDepth 100000 in
set_option maxHeartbeats 4000000 in
theorem tr_lp {n q : Nat} {T : Nat → Nat} {h0 : xh_H} (hT : ∀ k, k < n → T k < 256) : ∀ (f m l dd v : Nat) (h : xh_H), a_rq a_tb h → fx sS fN h0 h → q + m ≤ n → l ≤ m → dd ≤ m → cL T q m = l → cD T q m = dd → vf T q m = v → (∀ k, q ≤ k → k < q + m → p_an (T k) = true) → xg 0 h.2.1 8 2 = nI (q + m) → xg 0 h.2.1 8 4 = xg 0 h0.2.1 8 4 → xg 0 h.2.1 8 6 = nI v → ct h T n → xq f xi_X6_takeRun xmi_X6_takeRun 9 [(0, .ref 8), (1, .int (nI l)), (2, .int (nI dd))] [] h (tr_Q h0 T n q) := by
  intro f
  induction f with
  | zero => intros; exact xq_0
  | succ f ih =>
    intro m l dd v h hq g0 hm hl hd el ed ev ha e2 e4 e6 hc
    have n6 := hc.2.1
    have hv9 : v ≤ 999 := ev ▸ vf_999
    cases c1 : xe_c .ge (nI (q + m)) (nI n) with
    | true =>
      have z1 : (q + m) ≥ n := nq_get (a := (q + m)) (b := n) (by omega) (by omega) c1
      refine xq_m 99 [0, 1, 2] [(0, .ref 8), (1, .int (nI l)), (2, .int (nI dd))] [] h [true] 8 hq rfl ⟨(show xe_c .ge (xg 0 h.2.1 8 2) (xg 0 h.2.1 1 1) = true by rw [show (xg 0 h.2.1 8 2) = (nI (q + m)) from e2, show (xg 0 h.2.1 1 1) = (nI n) from hc.1]; exact c1), trivial⟩ (fun hq => ?_)
      exact tr_end hq g0 (by omega) (by omega) (by omega) el ed ev (rn_eq ha (by omega) (Or.inl (by omega))) e2 e4 e6
    | false =>
      have z1 : (q + m) < n := nq_gef (a := (q + m)) (b := n) (by omega) (by omega) c1
      refine xq_m 31 [0, 1, 2] [(0, .ref 8), (1, .int (nI l)), (2, .int (nI dd))] [.int (xg 0 h.2.1 8 2), .ref 1] h [false] 12 hq rfl ⟨(show xe_c .ge (xg 0 h.2.1 8 2) (xg 0 h.2.1 1 1) = false by rw [show (xg 0 h.2.1 8 2) = (nI (q + m)) from e2, show (xg 0 h.2.1 1 1) = (nI n) from hc.1]; exact c1), trivial⟩ (fun hq => ?_)
      rw [show (xg 0 h.2.1 8 2) = (nI (q + m)) from e2]
      refine xq_run hq rfl rfl (at_q hc (p := (q + m)) (by omega) hq) ?_
      rintro v2 h_v2 ⟨rfl, rfl⟩
      have tv2 := hT (q + m) (by omega)
      refine xq_n 36 [0, 1, 2, 3] [(0, .ref 8), (1, .int (nI l)), (2, .int (nI dd)), (3, .int (nI (T (q + m))))] [.int (nI (T (q + m)))] h [] 4 hq rfl trivial (fun hq => ?_)
      refine xq_run hq rfl rfl (lt_q (c := T (q + m)) (hT _ (by omega)) hq) ?_
      rintro v3 h_v3 ⟨rfl, rfl⟩
      cases b4 : (p_lt (T (q + m))) with
      | true =>
        refine xq_n 9 [0, 1, 2] [(0, .ref 8), (1, .int ((nI l) + Int32.ofInt 1)), (2, .int (nI dd))] [] (xh_ui h 8 2 ((xg 0 h.2.1 8 2) + (Int32.ofInt 1))) [false] 12 hq rfl ⟨rfl, trivial⟩ (fun _ => ?_)
        rw [show (xg 0 h.2.1 8 2) = (nI (q + m)) from e2]
        rw [show ((nI l) + Int32.ofInt 1) = nI (l + 1) from nI_1 _]
        rw [show ((nI (q + m)) + (Int32.ofInt 1)) = nI (q + m + 1) from nI_1 _]
        have hq : a_rq a_tb (xh_ui h 8 2 (nI (q + m + 1))) := a_rq_ui hq
        have hlt : p_lt (T (q + m)) = true := by assumption
        have hdg : p_dg (T (q + m)) = false := by have z := of_decide_eq_true hlt; exact decide_eq_false (by omega)
        have hcl : cL T q (m + 1) = l + 1 := by show cL T q m + cond (p_lt (T (q + m))) 1 0 = _; rw [hlt, el]; rfl
        have hcd : cD T q (m + 1) = dd := by show cD T q m + cond (p_dg (T (q + m))) 1 0 = _; rw [hdg, ed]; rfl
        refine ih (m + 1) (l + 1) dd v _ hq (fx_ui (g0) rfl) (by omega) (by omega) (by omega) hcl hcd (by show cond (p_dg (T (q + m)) && Nat.ble (cD T q (m + 1)) 3) _ _ = _; rw [hdg]; exact ev) ?_ (by rw [show q + (m + 1) = q + m + 1 from rfl]; exact gx_s) (by rw [gx_k (by decide)]; exact e4) ((gx_k (by decide)).trans (e6)) (ct_f (S := sS) (L := fN) hc (fx_ui (fx_0) rfl) rfl (fun _ => rfl))
        intro k z1 z2
        by_cases ek : k = q + m
        · rw [ek]; have z := of_decide_eq_true hlt; exact decide_eq_true (by omega)
        · exact ha k z1 (by omega)
      | false =>
        refine xq_n 49 [0, 1, 2, 3] [(0, .ref 8), (1, .int (nI l)), (2, .int (nI dd)), (3, .int (nI (T (q + m))))] [.int (nI (T (q + m)))] h [true] 4 hq rfl ⟨rfl, trivial⟩ (fun hq => ?_)
        refine xq_run hq rfl rfl (dg_q (c := T (q + m)) (hT _ (by omega)) hq) ?_
        rintro v5 h_v5 ⟨rfl, rfl⟩
        cases b6 : (p_dg (T (q + m))) with
        | true =>
          cases c7 : xe_c .gt (nI (dd + 1)) (Int32.ofInt 3) with
          | true =>
            have z7 : (dd + 1) > 3 := nq_gtt (a := (dd + 1)) (b := 3) (by omega) (by omega) c7
            refine xq_n 9 [0, 1, 2] [(0, .ref 8), (1, .int (nI l)), (2, .int ((nI dd) + Int32.ofInt 1))] [] (xh_ui (xh_ui h 8 6 (xg 0 h.2.1 8 6)) 8 2 ((xg 0 (xh_ui h 8 6 (xg 0 h.2.1 8 6)).2.1 8 2) + (Int32.ofInt 1))) [false, true] 18 hq rfl ⟨rfl, (show xe_c .gt ((nI dd) + Int32.ofInt 1) (Int32.ofInt 3) = true by rw [show ((nI dd) + Int32.ofInt 1) = nI (dd + 1) from nI_1 _]; exact c7), trivial⟩ (fun _ => ?_)
            rw [show (xg 0 (xh_ui h 8 6 (xg 0 h.2.1 8 6)).2.1 8 2) = (nI (q + m)) from (gx_k (by decide)).trans (e2)]
            rw [show (xg 0 h.2.1 8 6) = (nI v) from e6]
            rw [show ((nI dd) + Int32.ofInt 1) = nI (dd + 1) from nI_1 _]
            rw [show ((nI (q + m)) + (Int32.ofInt 1)) = nI (q + m + 1) from nI_1 _]
            have hq : a_rq a_tb (xh_ui (xh_ui h 8 6 (nI v)) 8 2 (nI (q + m + 1))) := a_rq_ui (a_rq_ui hq)
            have hlt : p_lt (T (q + m)) = false := by assumption
            have hdg : p_dg (T (q + m)) = true := by assumption
            have hcl : cL T q (m + 1) = l := by show cL T q m + cond (p_lt (T (q + m))) 1 0 = _; rw [hlt, el]; rfl
            have hcd : cD T q (m + 1) = dd + 1 := by show cD T q m + cond (p_dg (T (q + m))) 1 0 = _; rw [hdg, ed]; rfl
            refine ih (m + 1) l (dd + 1) v _ hq (fx_ui (fx_ui (g0) rfl) rfl) (by omega) (by omega) (by omega) hcl hcd (by show cond (p_dg (T (q + m)) && Nat.ble (cD T q (m + 1)) 3) _ _ = _; rw [hdg, hcd, show Nat.ble (dd + 1) 3 = false from by rw [Bool.eq_false_iff]; intro z; have := Nat.ble_eq.mp z; omega]; exact ev) ?_ (by rw [show q + (m + 1) = q + m + 1 from rfl]; exact gx_s) (by rw [gx_k (by decide), gx_k (by decide)]; exact e4) ((gx_k (by decide)).trans (gx_s)) (ct_f (S := sS) (L := fN) hc (fx_ui (fx_ui (fx_0) rfl) rfl) rfl (fun _ => rfl))
            intro k z1 z2
            by_cases ek : k = q + m
            · rw [ek]; have z := of_decide_eq_true hdg; exact decide_eq_true (by omega)
            · exact ha k z1 (by omega)
          | false =>
            have z7 : (dd + 1) ≤ 3 := nq_gtf (a := (dd + 1)) (b := 3) (by omega) (by omega) c7
            refine xq_n 9 [0, 1, 2] [(0, .ref 8), (1, .int (nI l)), (2, .int ((nI dd) + Int32.ofInt 1))] [] (xh_ui (xh_ui h 8 6 ((((xg 0 h.2.1 8 6) * 10) + (nI (T (q + m)))) - 48)) 8 2 ((xg 0 (xh_ui h 8 6 ((((xg 0 h.2.1 8 6) * 10) + (nI (T (q + m)))) - 48)).2.1 8 2) + (Int32.ofInt 1))) [false, false] 25 hq rfl ⟨rfl, (show xe_c .gt ((nI dd) + Int32.ofInt 1) (Int32.ofInt 3) = false by rw [show ((nI dd) + Int32.ofInt 1) = nI (dd + 1) from nI_1 _]; exact c7), trivial⟩ (fun _ => ?_)
            rw [show (xg 0 (xh_ui h 8 6 ((((xg 0 h.2.1 8 6) * 10) + (nI (T (q + m)))) - 48)).2.1 8 2) = (nI (q + m)) from (gx_k (by decide)).trans (e2)]
            rw [show (xg 0 h.2.1 8 6) = (nI v) from e6]
            rw [show ((((nI v) * 10) + (nI (T (q + m)))) - 48) = nI (v * 10 + (T (q + m) - 48)) from nI_val (by have z := of_decide_eq_true (show p_dg (T (q + m)) = true by assumption); omega)]
            rw [show ((nI dd) + Int32.ofInt 1) = nI (dd + 1) from nI_1 _]
            rw [show ((nI (q + m)) + (Int32.ofInt 1)) = nI (q + m + 1) from nI_1 _]
            have hq : a_rq a_tb (xh_ui (xh_ui h 8 6 (nI (v * 10 + (T (q + m) - 48)))) 8 2 (nI (q + m + 1))) := a_rq_ui (a_rq_ui hq)
            have hlt : p_lt (T (q + m)) = false := by assumption
            have hdg : p_dg (T (q + m)) = true := by assumption
            have hcl : cL T q (m + 1) = l := by show cL T q m + cond (p_lt (T (q + m))) 1 0 = _; rw [hlt, el]; rfl
            have hcd : cD T q (m + 1) = dd + 1 := by show cD T q m + cond (p_dg (T (q + m))) 1 0 = _; rw [hdg, ed]; rfl
            refine ih (m + 1) l (dd + 1) (v * 10 + (T (q + m) - 48)) _ hq (fx_ui (fx_ui (g0) rfl) rfl) (by omega) (by omega) (by omega) hcl hcd (by show cond (p_dg (T (q + m)) && Nat.ble (cD T q (m + 1)) 3) (vf T q m * 10 + (T (q + m) - 48)) _ = _; rw [hdg, hcd, show Nat.ble (dd + 1) 3 = true from Nat.ble_eq.mpr (by omega), ev]; rfl) ?_ (by rw [show q + (m + 1) = q + m + 1 from rfl]; exact gx_s) (by rw [gx_k (by decide), gx_k (by decide)]; exact e4) ((gx_k (by decide)).trans (gx_s)) (ct_f (S := sS) (L := fN) hc (fx_ui (fx_ui (fx_0) rfl) rfl) rfl (fun _ => rfl))
            intro k z1 z2
            by_cases ek : k = q + m
            · rw [ek]; have z := of_decide_eq_true hdg; exact decide_eq_true (by omega)
            · exact ha k z1 (by omega)
        | false =>
          refine xq_n 99 [0, 1, 2] [(0, .ref 8), (1, .int (nI l)), (2, .int (nI dd))] [] h [true] 3 hq rfl ⟨rfl, trivial⟩ (fun hq => ?_)
          refine tr_end hq g0 (by omega) (by omega) (by omega) el ed ev (rn_eq ha (by omega) (Or.inr ?_)) e2 e4 e6
          have y1 : p_lt (T (q + m)) = false := by assumption
          have y2 : p_dg (T (q + m)) = false := by assumption
          have y1 := of_decide_eq_false y1
          have y2 := of_decide_eq_false y2
          exact decide_eq_false (by omega)
set_option maxRecDepth 100000 in
set_option maxHeartbeats 4000000 in
theorem tr_q {f n q : Nat} {T : Nat → Nat} {h : xh_H} (hq : a_rq a_tb h) (hT : ∀ k, k < n → T k < 256) (hc : ct h T n) (hn : q ≤ n) (e2 : xg 0 h.2.1 8 2 = nI q) : xq f xi_X6_takeRun xmi_X6_takeRun 0 [(0, .ref 8)] [] h (tr_Q h T n q) := by
  refine xq_n 9 [0, 1, 2] [(0, .ref 8), (1, .int (Int32.ofInt 0)), (2, .int (Int32.ofInt 0))] [] (xh_ui h 8 6 (Int32.ofInt 0)) [] 9 hq rfl trivial (fun hq => ?_)
  exact tr_lp hT f 0 0 0 0 _ hq (fx_ui fx_0 rfl) (by omega) (by omega) (by omega) rfl rfl rfl (fun k z1 z2 => by omega) (by rw [gx_k (by decide)]; exact e2) (by rw [gx_k (by decide)]) gx_s (ct_f (S := sS) (L := fN) hc (fx_ui fx_0 rfl) rfl (fun _ => rfl))
theorem nI_min {a b : Nat} (ha : a < 2 ^ 31) (hb : b < 2 ^ 31) : (if nI b < nI a then nI b else nI a) = nI (min a b) := by
  have e1 := nI_toInt ha
  have e2 := nI_toInt hb
  split
  · rename_i z
    have z := Int32.lt_iff_toInt_lt.mp z
    rw [show min a b = b by omega]
  · rename_i z
    have z : ¬ (nI b).toInt < (nI a).toInt := fun y => z (Int32.lt_iff_toInt_lt.mpr y)
    rw [show min a b = a by omega]
/-- the token at hand, read from p on -/
def tok (h : xh_H) (T : Nat → Nat) (n p : Nat) : Prop := xg 0 h.2.1 8 3 = nI (tkk T n p) ∧ xg 0 h.2.1 8 4 = nI (tks T n p) ∧ (tkk T n p ≠ 0 → xg 0 h.2.1 8 2 = nI (tke T n p) ∧ xg 0 h.2.1 8 5 = nI (tke T n p)) ∧ (tkk T n p = 3 → xg 0 h.2.1 8 6 = nI (tkn T n p)) ∧ ∃ e, e ≤ 640 ∧ xg 0 h.2.1 8 2 = nI e
def adv_Q (h0 : xh_H) (T : Nat → Nat) (n p : Nat) (v : Option Value) (h' : xh_H) : Prop := v = none ∧ fx sS fN h0 h' ∧ tok h' T n p
set_option maxRecDepth 100000 in
set_option maxHeartbeats 4000000 in
theorem adv_e {f n q p : Nat} {T : Nat → Nat} {h0 h : xh_H} (hq : a_rq a_tb h) (hc : ct h T n) (hl : xg 0 h.2.1 8 1 = nI (min n 600)) (e2 : xg 0 h.2.1 8 2 = nI q) (q6 : q ≤ 640) (g0 : fx sS fN h0 h) (hL : min n 600 ≤ q) (et : tks T n p = min n 600) : xq f xi_X6_advance xmi_X6_advance 41 [(0, .ref 8)] [] h (adv_Q h0 T n p) := by
  have n6 := hc.2.1
  have ek : tkk T n p = 0 := by unfold tkk kq; rw [et, if_pos (Nat.le_refl _)]
  cases c1 : xe_c .lt (nI q) (nI (min n 600)) with
  | true =>
    have z1 : q < (min n 600) := nq_ltt (a := q) (b := (min n 600)) (by omega) (by omega) c1
    omega
  | false =>
    have z1 : q ≥ (min n 600) := nq_ltf (a := q) (b := (min n 600)) (by omega) (by omega) c1
    refine xq_n 170 [] [] [] (xh_ui (xh_ui (xh_ui h 8 4 (if (xg 0 h.2.1 8 1) < (xg 0 h.2.1 8 2) then (xg 0 h.2.1 8 1) else (xg 0 h.2.1 8 2))) 8 3 (Int32.ofInt 0)) 8 5 (xg 0 (xh_ui (xh_ui h 8 4 (if (xg 0 h.2.1 8 1) < (xg 0 h.2.1 8 2) then (xg 0 h.2.1 8 1) else (xg 0 h.2.1 8 2))) 8 3 (Int32.ofInt 0)).2.1 8 2)) [false] 22 hq rfl ⟨(show xe_c .lt (xg 0 (xh_ui h 8 4 (if (xg 0 h.2.1 8 1) < (xg 0 h.2.1 8 2) then (xg 0 h.2.1 8 1) else (xg 0 h.2.1 8 2))).2.1 8 2) (xg 0 (xh_ui h 8 4 (if (xg 0 h.2.1 8 1) < (xg 0 h.2.1 8 2) then (xg 0 h.2.1 8 1) else (xg 0 h.2.1 8 2))).2.1 8 1) = false by rw [show (xg 0 (xh_ui h 8 4 (if (xg 0 h.2.1 8 1) < (xg 0 h.2.1 8 2) then (xg 0 h.2.1 8 1) else (xg 0 h.2.1 8 2))).2.1 8 2) = (nI q) from (gx_k (by decide)).trans (e2), show (xg 0 (xh_ui h 8 4 (if (xg 0 h.2.1 8 1) < (xg 0 h.2.1 8 2) then (xg 0 h.2.1 8 1) else (xg 0 h.2.1 8 2))).2.1 8 1) = (nI (min n 600)) from (gx_k (by decide)).trans (hl)]; exact c1), trivial⟩ (fun _ => ?_)
    rw [show (xg 0 (xh_ui (xh_ui h 8 4 (if (xg 0 h.2.1 8 1) < (xg 0 h.2.1 8 2) then (xg 0 h.2.1 8 1) else (xg 0 h.2.1 8 2))) 8 3 (Int32.ofInt 0)).2.1 8 2) = (nI q) from (gx_k (by decide)).trans ((gx_k (by decide)).trans (e2))]
    rw [show (xg 0 h.2.1 8 2) = (nI q) from e2]
    rw [show (xg 0 h.2.1 8 1) = (nI (min n 600)) from hl]
    rw [show (if (nI (min n 600)) < (nI q) then (nI (min n 600)) else (nI q)) = nI (min q (min n 600)) from nI_min (by omega) (by omega)]
    have hq : a_rq a_tb (xh_ui (xh_ui (xh_ui h 8 4 (nI (min q (min n 600)))) 8 3 (Int32.ofInt 0)) 8 5 (nI q)) := a_rq_ui (a_rq_ui (a_rq_ui hq))
    refine xq_ret rfl rfl rfl ⟨rfl, fx_ui (fx_ui (fx_ui (g0) rfl) rfl) rfl, ?_, ?_, fun z => absurd ek z, fun z => (by rw [ek] at z; cases z), q, q6, (gx_k (by decide)).trans ((gx_k (by decide)).trans ((gx_k (by decide)).trans (e2)))⟩
    · rw [ek]; exact (gx_k (by decide)).trans (gx_s)
    · rw [et]; exact ((gx_k (by decide)).trans ((gx_k (by decide)).trans (gx_s))).trans (congrArg nI (by omega))
set_option maxRecDepth 100000 in
set_option maxHeartbeats 4000000 in
theorem adv_t {f n q p : Nat} {T : Nat → Nat} {h0 h : xh_H} (hq : a_rq a_tb h) (hc : ct h T n) (hT : ∀ k, k < n → T k < 256) (hl : xg 0 h.2.1 8 1 = nI (min n 600)) (e2 : xg 0 h.2.1 8 2 = nI q) (g0 : fx sS fN h0 h) (hL : q < min n 600) (et : tks T n p = q) : xq f xi_X6_advance xmi_X6_advance 41 [(0, .ref 8)] [] h (adv_Q h0 T n p) := by
  have n6 := hc.2.1
  have emin : nI (min q (min n 600)) = nI q := by rw [show min q (min n 600) = q by omega]
  cases c1 : xe_c .lt (nI q) (nI (min n 600)) with
  | true =>
    have z1 : q < (min n 600) := nq_ltt (a := q) (b := (min n 600)) (by omega) (by omega) c1
    refine xq_n 83 [0] [(0, .ref 8)] [.int (xg 0 (xh_ui h 8 4 (if (xg 0 h.2.1 8 1) < (xg 0 h.2.1 8 2) then (xg 0 h.2.1 8 1) else (xg 0 h.2.1 8 2))).2.1 8 2), .ref 1] (xh_ui h 8 4 (if (xg 0 h.2.1 8 1) < (xg 0 h.2.1 8 2) then (xg 0 h.2.1 8 1) else (xg 0 h.2.1 8 2))) [true] 18 hq rfl ⟨(show xe_c .lt (xg 0 (xh_ui h 8 4 (if (xg 0 h.2.1 8 1) < (xg 0 h.2.1 8 2) then (xg 0 h.2.1 8 1) else (xg 0 h.2.1 8 2))).2.1 8 2) (xg 0 (xh_ui h 8 4 (if (xg 0 h.2.1 8 1) < (xg 0 h.2.1 8 2) then (xg 0 h.2.1 8 1) else (xg 0 h.2.1 8 2))).2.1 8 1) = true by rw [show (xg 0 (xh_ui h 8 4 (if (xg 0 h.2.1 8 1) < (xg 0 h.2.1 8 2) then (xg 0 h.2.1 8 1) else (xg 0 h.2.1 8 2))).2.1 8 2) = (nI q) from (gx_k (by decide)).trans (e2), show (xg 0 (xh_ui h 8 4 (if (xg 0 h.2.1 8 1) < (xg 0 h.2.1 8 2) then (xg 0 h.2.1 8 1) else (xg 0 h.2.1 8 2))).2.1 8 1) = (nI (min n 600)) from (gx_k (by decide)).trans (hl)]; exact c1), trivial⟩ (fun _ => ?_)
    rw [show (xg 0 (xh_ui h 8 4 (if (xg 0 h.2.1 8 1) < (xg 0 h.2.1 8 2) then (xg 0 h.2.1 8 1) else (xg 0 h.2.1 8 2))).2.1 8 2) = (nI q) from (gx_k (by decide)).trans (e2)]
    rw [show (xg 0 h.2.1 8 2) = (nI q) from e2]
    rw [show (xg 0 h.2.1 8 1) = (nI (min n 600)) from hl]
    rw [show (if (nI (min n 600)) < (nI q) then (nI (min n 600)) else (nI q)) = nI (min q (min n 600)) from nI_min (by omega) (by omega)]
    have hq : a_rq a_tb (xh_ui h 8 4 (nI (min q (min n 600)))) := a_rq_ui hq
    refine xq_run hq rfl rfl (at_q (ct_f (S := sS) (L := fN) hc (fx_ui (fx_0) rfl) rfl (fun _ => rfl)) (p := q) (by omega) hq) ?_
    rintro v2 h_v2 ⟨rfl, rfl⟩
    have tv2 := hT q (by omega)
    refine xq_run hq rfl rfl (lt_q (c := T q) (hT _ (by omega)) hq) ?_
    rintro v3 h_v3 ⟨rfl, rfl⟩
    cases b4 : (p_lt (T q)) with
    | true =>
      refine xq_n 110 [0] [(0, .ref 8)] [.ref 8] (xh_ui h 8 4 (nI (min q (min n 600)))) [true] 4 hq rfl ⟨rfl, trivial⟩ (fun hq => ?_)
      refine xq_run hq rfl rfl (tr_q (q := q) hq hT (ct_f (S := sS) (L := fN) hc (fx_ui (fx_0) rfl) rfl (fun _ => rfl)) (by omega) ((gx_k (by decide)).trans (e2))) ?_
      rintro v5 h5 ⟨rfl, g5, r25, r35, r45, r65⟩
      have hq := fx_q g5 hq
      refine xq_n 170 [] [] [] (xh_ui h5 8 5 (xg 0 h5.2.1 8 2)) [] 7 hq rfl trivial (fun _ => ?_)
      rw [show (xg 0 h5.2.1 8 2) = (nI (rn T n q)) from r25]
      have hq : a_rq a_tb (xh_ui h5 8 5 (nI (rn T n q))) := a_rq_ui hq
      have han : p_an (T q) = true := by
        first
        | (have z := of_decide_eq_true (show p_lt (T q) = true by assumption); exact decide_eq_true (by omega))
        | (have z := of_decide_eq_true (show p_dg (T q) = true by assumption); exact decide_eq_true (by omega))
      have ek : tkk T n p = kw (cL T q (rn T n q - q)) (cD T q (rn T n q - q)) := by unfold tkk kq; rw [et, if_neg (by omega), if_pos han]
      have ee : tke T n p = rn T n q := by unfold tke eq_; rw [et, if_pos han]
      refine xq_ret rfl rfl rfl ⟨rfl, fx_ui (fx_t (fx_ui (g0) rfl) (g5)) rfl, ?_, ?_, fun _ => ⟨?_, ?_⟩, fun _ => ?_, rn T n q, Nat.le_trans (rn_le (by omega)) n6, (gx_k (by decide)).trans (r25)⟩
      · rw [ek]; exact (gx_k (by decide)).trans (r35)
      · rw [et, ← emin]; exact (gx_k (by decide)).trans (r45.trans (gx_s))
      · rw [ee]; exact (gx_k (by decide)).trans (r25)
      · rw [ee]; exact gx_s
      · unfold tkn; rw [ee, et]; exact (gx_k (by decide)).trans (r65)
    | false =>
      refine xq_n 100 [0] [(0, .ref 8)] [.int (xg 0 (xh_ui h 8 4 (nI (min q (min n 600)))).2.1 8 2), .ref 1] (xh_ui h 8 4 (nI (min q (min n 600)))) [false] 7 hq rfl ⟨rfl, trivial⟩ (fun hq => ?_)
      rw [show (xg 0 (xh_ui h 8 4 (nI (min q (min n 600)))).2.1 8 2) = (nI q) from (gx_k (by decide)).trans (e2)]
      refine xq_run hq rfl rfl (at_q (ct_f (S := sS) (L := fN) hc (fx_ui (fx_0) rfl) rfl (fun _ => rfl)) (p := q) (by omega) hq) ?_
      rintro v6 h_v6 ⟨rfl, rfl⟩
      have tv6 := hT q (by omega)
      refine xq_run hq rfl rfl (dg_q (c := T q) (hT _ (by omega)) hq) ?_
      rintro v7 h_v7 ⟨rfl, rfl⟩
      cases b8 : (p_dg (T q)) with
      | true =>
        refine xq_n 110 [0] [(0, .ref 8)] [.ref 8] (xh_ui h 8 4 (nI (min q (min n 600)))) [false] 4 hq rfl ⟨rfl, trivial⟩ (fun hq => ?_)
        refine xq_run hq rfl rfl (tr_q (q := q) hq hT (ct_f (S := sS) (L := fN) hc (fx_ui (fx_0) rfl) rfl (fun _ => rfl)) (by omega) ((gx_k (by decide)).trans (e2))) ?_
        rintro v9 h9 ⟨rfl, g9, r29, r39, r49, r69⟩
        have hq := fx_q g9 hq
        refine xq_n 170 [] [] [] (xh_ui h9 8 5 (xg 0 h9.2.1 8 2)) [] 7 hq rfl trivial (fun _ => ?_)
        rw [show (xg 0 h9.2.1 8 2) = (nI (rn T n q)) from r29]
        have hq : a_rq a_tb (xh_ui h9 8 5 (nI (rn T n q))) := a_rq_ui hq
        have han : p_an (T q) = true := by
          first
          | (have z := of_decide_eq_true (show p_lt (T q) = true by assumption); exact decide_eq_true (by omega))
          | (have z := of_decide_eq_true (show p_dg (T q) = true by assumption); exact decide_eq_true (by omega))
        have ek : tkk T n p = kw (cL T q (rn T n q - q)) (cD T q (rn T n q - q)) := by unfold tkk kq; rw [et, if_neg (by omega), if_pos han]
        have ee : tke T n p = rn T n q := by unfold tke eq_; rw [et, if_pos han]
        refine xq_ret rfl rfl rfl ⟨rfl, fx_ui (fx_t (fx_ui (g0) rfl) (g9)) rfl, ?_, ?_, fun _ => ⟨?_, ?_⟩, fun _ => ?_, rn T n q, Nat.le_trans (rn_le (by omega)) n6, (gx_k (by decide)).trans (r29)⟩
        · rw [ek]; exact (gx_k (by decide)).trans (r39)
        · rw [et, ← emin]; exact (gx_k (by decide)).trans (r49.trans (gx_s))
        · rw [ee]; exact (gx_k (by decide)).trans (r29)
        · rw [ee]; exact gx_s
        · unfold tkn; rw [ee, et]; exact (gx_k (by decide)).trans (r69)
      | false =>
        refine xq_n 125 [0] [(0, .ref 8)] [.int (xg 0 (xh_ui h 8 4 (nI (min q (min n 600)))).2.1 8 2), .ref 1, .ref 8] (xh_ui h 8 4 (nI (min q (min n 600)))) [true] 8 hq rfl ⟨rfl, trivial⟩ (fun hq => ?_)
        rw [show (xg 0 (xh_ui h 8 4 (nI (min q (min n 600)))).2.1 8 2) = (nI q) from (gx_k (by decide)).trans (e2)]
        refine xq_run hq rfl rfl (at_q (ct_f (S := sS) (L := fN) hc (fx_ui (fx_0) rfl) rfl (fun _ => rfl)) (p := q) (by omega) hq) ?_
        rintro v10 h_v10 ⟨rfl, rfl⟩
        have tv10 := hT q (by omega)
        refine xq_run hq rfl rfl (sn_q (c := T q) (hT _ (by omega)) hq) ?_
        rintro v11 h_v11 ⟨rfl, rfl⟩
        cases b12 : (p_sn (T q)) with
        | true =>
          refine xq_n 142 [0] [(0, .ref 8)] [.int (xg 0 (xh_ui h 8 4 (nI (min q (min n 600)))).2.1 8 2), .ref 1, .ref 8] (xh_ui h 8 4 (nI (min q (min n 600)))) [false] 7 hq rfl ⟨rfl, trivial⟩ (fun hq => ?_)
          rw [show (xg 0 (xh_ui h 8 4 (nI (min q (min n 600)))).2.1 8 2) = (nI q) from (gx_k (by decide)).trans (e2)]
          refine xq_run hq rfl rfl (at_q (ct_f (S := sS) (L := fN) hc (fx_ui (fx_0) rfl) rfl (fun _ => rfl)) (p := q) (by omega) hq) ?_
          rintro v13 h_v13 ⟨rfl, rfl⟩
          have tv13 := hT q (by omega)
          refine xq_n 170 [] [] [] (xh_ui (xh_ui (xh_ui (xh_ui h 8 4 (nI (min q (min n 600)))) 8 3 (nI (T q))) 8 2 ((xg 0 (xh_ui (xh_ui h 8 4 (nI (min q (min n 600)))) 8 3 (nI (T q))).2.1 8 2) + (Int32.ofInt 1))) 8 5 (xg 0 (xh_ui (xh_ui (xh_ui h 8 4 (nI (min q (min n 600)))) 8 3 (nI (T q))) 8 2 ((xg 0 (xh_ui (xh_ui h 8 4 (nI (min q (min n 600)))) 8 3 (nI (T q))).2.1 8 2) + (Int32.ofInt 1))).2.1 8 2)) [] 14 hq rfl trivial (fun _ => ?_)
          rw [show (xg 0 (xh_ui (xh_ui (xh_ui h 8 4 (nI (min q (min n 600)))) 8 3 (nI (T q))) 8 2 ((xg 0 (xh_ui (xh_ui h 8 4 (nI (min q (min n 600)))) 8 3 (nI (T q))).2.1 8 2) + (Int32.ofInt 1))).2.1 8 2) = ((xg 0 (xh_ui (xh_ui h 8 4 (nI (min q (min n 600)))) 8 3 (nI (T q))).2.1 8 2) + (Int32.ofInt 1)) from gx_s]
          rw [show (xg 0 (xh_ui (xh_ui h 8 4 (nI (min q (min n 600)))) 8 3 (nI (T q))).2.1 8 2) = (nI q) from (gx_k (by decide)).trans ((gx_k (by decide)).trans (e2))]
          rw [show ((nI q) + (Int32.ofInt 1)) = nI (q + 1) from nI_1 _]
          have hq : a_rq a_tb (xh_ui (xh_ui (xh_ui (xh_ui h 8 4 (nI (min q (min n 600)))) 8 3 (nI (T q))) 8 2 (nI (q + 1))) 8 5 (nI (q + 1))) := a_rq_ui (a_rq_ui (a_rq_ui hq))
          have hna : ¬ p_an (T q) = true := by
            intro z
            have z := of_decide_eq_true z
            have y1 := of_decide_eq_false (show p_lt (T q) = false by assumption)
            have y2 := of_decide_eq_false (show p_dg (T q) = false by assumption)
            omega
          have ek : tkk T n p = T q := by unfold tkk kq; rw [et, if_neg (by omega), if_neg hna, if_pos (by assumption)]
          have ee : tke T n p = q + 1 := by unfold tke eq_; rw [et, if_neg hna]
          refine xq_ret rfl rfl rfl ⟨rfl, fx_ui (fx_ui (fx_ui (fx_ui (g0) rfl) rfl) rfl) rfl, ?_, ?_, fun _ => ⟨?_, ?_⟩, fun z => (by rw [ek] at z; have y := of_decide_eq_true (show p_sn (T q) = true by assumption); omega), q + 1, by omega, (gx_k (by decide)).trans (gx_s)⟩
          · rw [ek]; exact (gx_k (by decide)).trans ((gx_k (by decide)).trans (gx_s))
          · rw [et, ← emin]; exact (gx_k (by decide)).trans ((gx_k (by decide)).trans ((gx_k (by decide)).trans (gx_s)))
          · rw [ee]; exact (gx_k (by decide)).trans (gx_s)
          · rw [ee]; exact gx_s
        | false =>
          refine xq_n 170 [] [] [] (xh_ui (xh_ui (xh_ui (xh_ui h 8 4 (nI (min q (min n 600)))) 8 3 (Int32.ofInt 1)) 8 2 ((xg 0 (xh_ui (xh_ui h 8 4 (nI (min q (min n 600)))) 8 3 (Int32.ofInt 1)).2.1 8 2) + (Int32.ofInt 1))) 8 5 (xg 0 (xh_ui (xh_ui (xh_ui h 8 4 (nI (min q (min n 600)))) 8 3 (Int32.ofInt 1)) 8 2 ((xg 0 (xh_ui (xh_ui h 8 4 (nI (min q (min n 600)))) 8 3 (Int32.ofInt 1)).2.1 8 2) + (Int32.ofInt 1))).2.1 8 2)) [true] 15 hq rfl ⟨rfl, trivial⟩ (fun _ => ?_)
          rw [show (xg 0 (xh_ui (xh_ui (xh_ui h 8 4 (nI (min q (min n 600)))) 8 3 (Int32.ofInt 1)) 8 2 ((xg 0 (xh_ui (xh_ui h 8 4 (nI (min q (min n 600)))) 8 3 (Int32.ofInt 1)).2.1 8 2) + (Int32.ofInt 1))).2.1 8 2) = ((xg 0 (xh_ui (xh_ui h 8 4 (nI (min q (min n 600)))) 8 3 (Int32.ofInt 1)).2.1 8 2) + (Int32.ofInt 1)) from gx_s]
          rw [show (xg 0 (xh_ui (xh_ui h 8 4 (nI (min q (min n 600)))) 8 3 (Int32.ofInt 1)).2.1 8 2) = (nI q) from (gx_k (by decide)).trans ((gx_k (by decide)).trans (e2))]
          rw [show ((nI q) + (Int32.ofInt 1)) = nI (q + 1) from nI_1 _]
          have hq : a_rq a_tb (xh_ui (xh_ui (xh_ui (xh_ui h 8 4 (nI (min q (min n 600)))) 8 3 (Int32.ofInt 1)) 8 2 (nI (q + 1))) 8 5 (nI (q + 1))) := a_rq_ui (a_rq_ui (a_rq_ui hq))
          have hna : ¬ p_an (T q) = true := by
            intro z
            have z := of_decide_eq_true z
            have y1 := of_decide_eq_false (show p_lt (T q) = false by assumption)
            have y2 := of_decide_eq_false (show p_dg (T q) = false by assumption)
            omega
          have ek : tkk T n p = 1 := by unfold tkk kq; rw [et, if_neg (by omega), if_neg hna, if_neg (by simp only [*]; decide)]
          have ee : tke T n p = q + 1 := by unfold tke eq_; rw [et, if_neg hna]
          refine xq_ret rfl rfl rfl ⟨rfl, fx_ui (fx_ui (fx_ui (fx_ui (g0) rfl) rfl) rfl) rfl, ?_, ?_, fun _ => ⟨?_, ?_⟩, fun z => (by rw [ek] at z; cases z), q + 1, by omega, (gx_k (by decide)).trans (gx_s)⟩
          · rw [ek]; exact (gx_k (by decide)).trans ((gx_k (by decide)).trans (gx_s))
          · rw [et, ← emin]; exact (gx_k (by decide)).trans ((gx_k (by decide)).trans ((gx_k (by decide)).trans (gx_s)))
          · rw [ee]; exact (gx_k (by decide)).trans (gx_s)
          · rw [ee]; exact gx_s
  | false =>
    have z1 : q ≥ (min n 600) := nq_ltf (a := q) (b := (min n 600)) (by omega) (by omega) c1
    omega
set_option maxRecDepth 100000 in
set_option maxHeartbeats 4000000 in
theorem adv_lp {n p : Nat} {T : Nat → Nat} {h0 : xh_H} (hT : ∀ k, k < n → T k < 256) : ∀ (f q : Nat) (h : xh_H), a_rq a_tb h → ct h T n → xg 0 h.2.1 8 1 = nI (min n 600) → xg 0 h.2.1 8 2 = nI q → q ≤ 640 → fx sS fN h0 h → tks T n q = tks T n p → xq f xi_X6_advance xmi_X6_advance 0 [(0, .ref 8)] [] h (adv_Q h0 T n p) := by
  intro f
  induction f with
  | zero => intros; exact xq_0
  | succ f ih =>
    intro q h hq hc hl e2 q6 g0 et
    have n6 := hc.2.1
    cases c1 : xe_c .ge (nI q) (nI (min n 600)) with
    | true =>
      have z1 : q ≥ (min n 600) := nq_get (a := q) (b := (min n 600)) (by omega) (by omega) c1
      refine xq_m 41 [0] [(0, .ref 8)] [] h [true] 7 hq rfl ⟨(show xe_c .ge (xg 0 h.2.1 8 2) (xg 0 h.2.1 8 1) = true by rw [show (xg 0 h.2.1 8 2) = (nI q) from e2, show (xg 0 h.2.1 8 1) = (nI (min n 600)) from hl]; exact c1), trivial⟩ (fun hq => ?_)
      exact adv_e hq hc hl e2 (by omega) g0 (by omega) (et.symm.trans (tks_n (by omega)))
    | false =>
      have z1 : q < (min n 600) := nq_gef (a := q) (b := (min n 600)) (by omega) (by omega) c1
      refine xq_m 19 [0] [(0, .ref 8)] [.int (xg 0 h.2.1 8 2), .ref 1] h [false] 11 hq rfl ⟨(show xe_c .ge (xg 0 h.2.1 8 2) (xg 0 h.2.1 8 1) = false by rw [show (xg 0 h.2.1 8 2) = (nI q) from e2, show (xg 0 h.2.1 8 1) = (nI (min n 600)) from hl]; exact c1), trivial⟩ (fun hq => ?_)
      rw [show (xg 0 h.2.1 8 2) = (nI q) from e2]
      refine xq_run hq rfl rfl (at_q hc (p := q) (by omega) hq) ?_
      rintro v2 h_v2 ⟨rfl, rfl⟩
      have tv2 := hT q (by omega)
      refine xq_run hq rfl rfl (bk_q (c := T q) (hT _ (by omega)) hq) ?_
      rintro v3 h_v3 ⟨rfl, rfl⟩
      cases b4 : (p_bk (T q)) with
      | true =>
        refine xq_n 0 [0] [(0, .ref 8)] [] (xh_ui h 8 2 ((xg 0 h.2.1 8 2) + (Int32.ofInt 1))) [false] 10 hq rfl ⟨rfl, trivial⟩ (fun _ => ?_)
        rw [show (xg 0 h.2.1 8 2) = (nI q) from e2]
        rw [show ((nI q) + (Int32.ofInt 1)) = nI (q + 1) from nI_1 _]
        have hq : a_rq a_tb (xh_ui h 8 2 (nI (q + 1))) := a_rq_ui hq
        exact ih (q + 1) _ hq (ct_f (S := sS) (L := fN) hc (fx_ui (fx_0) rfl) rfl (fun _ => rfl)) ((gx_k (by decide)).trans (hl)) (gx_s) (by omega) (fx_ui (g0) rfl) ((tks_b (by omega) (by assumption)).symm.trans et)
      | false =>
        refine xq_n 41 [0] [(0, .ref 8)] [] h [true] 3 hq rfl ⟨rfl, trivial⟩ (fun hq => ?_)
        exact adv_t hq hc hT hl e2 g0 (by omega) (et.symm.trans (tks_s (by omega) (by assumption)))
/-- the next token -/
theorem adv_q {f n p : Nat} {T : Nat → Nat} {h : xh_H} (hq : a_rq a_tb h) (hT : ∀ k, k < n → T k < 256) (hc : ct h T n) (hl : xg 0 h.2.1 8 1 = nI (min n 600)) (e2 : xg 0 h.2.1 8 2 = nI p) (p6 : p ≤ 640) : xq f xi_X6_advance xmi_X6_advance 0 [(0, .ref 8)] [] h (adv_Q h T n p) := adv_lp hT f p h hq hc hl e2 p6 fx_0 rfl
end XSC
