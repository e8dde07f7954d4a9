section XPL
theorem gx_if {h : xh_H} {c a k : Nat} {x : Int32} : xg 0 (xh_ui h c a x).2.1 c k = if k = a then x else xg 0 h.2.1 c k := by
  by_cases e : k = a
  · rw [if_pos e, e]; exact gx_s
  · rw [if_neg e]; exact gx_k (by omega)
/-- the places of an order -/
def pw (T : Nat → Nat) (x : Int32) : Nat → Nat → (Nat → Int32) → Nat → Int32
  | 0, _, F => F
  | j + 1, i, F => pw T x j (i + 1) (fun k => if k = (x * 7 + nI (T i)).toNatClampNeg then nI i else F k)
theorem pw_c {T : Nat → Nat} {x : Int32} {N : Nat} : ∀ (j i : Nat) (F G : Nat → Int32), (∀ k, k < N → F k = G k) → ∀ k, k < N → pw T x j i F k = pw T x j i G k := by
  intro j
  induction j with
  | zero => intro i F G h k hk'; exact h k hk'
  | succ j ih =>
    intro i F G h k hk'
    refine ih (i + 1) _ _ (fun k hk' => ?_) k hk'
    by_cases e : k = (x * 7 + nI (T i)).toNatClampNeg
    · rw [if_pos e, if_pos e]
    · rw [if_neg e, if_neg e]; exact h k hk'
theorem ro_lt {T : Nat → Nat} : ∀ (j i : Nat) (s : Int32), ro T j i s = true → ∀ k, i ≤ k → k < i + j → T k < 7 := by
  intro j
  induction j with
  | zero => intro i s _ k h1 h2; omega
  | succ j ih =>
    intro i s h k h1 h2
    have hR : ro T (j + 1) i s = (decide (T i < 7) && (xe_c .eq ((s >>> (nI (T i) &&& 31)) &&& Int32.ofInt 1) 0 && ro T j (i + 1) (s ||| (Int32.ofInt 1 <<< (nI (T i) &&& 31))))) := rfl
    rw [hR, Bool.and_eq_true, Bool.and_eq_true] at h
    by_cases e : k = i
    · rw [e]; exact of_decide_eq_true h.1
    · exact ih (i + 1) _ h.2.2 k (by omega) (by omega)
set_option maxRecDepth 100000 in
set_option maxHeartbeats 4000000 in
theorem ord2_l {f : Nat} {T : Nat → Nat} {x : Int32} {h0 : xh_H} (hc : ct h0 T 7) (h7 : ∀ k, k < 7 → T k < 7) : ∀ (j i : Nat) (h : xh_H), i + j = 7 → fx oSr fN h0 h → a_rq a_tb h → ∀ F : Nat → Int32, (∀ k, xg 0 h.2.1 30 k = F k) → xq f xi_X0_order xmi_X0_order 2 [(0, .ref 28), (1, .int x), (2, .ref 1), (3, .int (nI i))] [] h (fun v h' => v = none ∧ fx oSr fN h0 h' ∧ ∀ k, xg 0 h'.2.1 30 k = pw T x j i F k) := by
  intro j
  induction j with
  | zero =>
    intro i h ij g hq F hF
    cases c1 : xe_c .ge (nI i) 7 with
    | true =>
      have z1 : i ≥ 7 := nq_get (a := i) (b := 7) (by omega) (by omega) c1
      refine xq_n 47 [] [] [] (xh_ui h 28 1 (Int32.ofInt 1)) [true] 8 hq rfl ⟨c1, trivial⟩ (fun _ => ?_)
      have hq : a_rq a_tb (xh_ui h 28 1 (Int32.ofInt 1)) := a_rq_ui hq
      exact xq_ret rfl rfl rfl ⟨rfl, fx_t g (fx_ui (fx_0) rfl), fun k => (gx_o (by decide)).trans (hF k)⟩
    | false =>
      have z1 : i < 7 := nq_gef (a := i) (b := 7) (by omega) (by omega) c1
      omega
  | succ j ih =>
    intro i h ij g hq F hF
    cases c1 : xe_c .ge (nI i) 7 with
    | true =>
      have z1 : i ≥ 7 := nq_get (a := i) (b := 7) (by omega) (by omega) c1
      omega
    | false =>
      have z1 : i < 7 := nq_gef (a := i) (b := 7) (by omega) (by omega) c1
      refine xq_n 10 [0, 1, 2, 3] [(0, .ref 28), (1, .int x), (2, .ref 1), (3, .int (nI i))] [.int (nI i), .ref 1] h [false] 7 hq rfl ⟨c1, trivial⟩ (fun hq => ?_)
      have tI := (hc.2.2 i (by omega)).1
      refine xq_run hq rfl rfl (at_q (ct_f hc g rfl (fun _ => rfl)) (p := i) (by omega) hq) ?_
      rintro _ h_ ⟨rfl, rfl⟩
      refine xq_n 17 [0, 1, 2, 3, 4] [(0, .ref 28), (1, .int x), (2, .ref 1), (3, .int (nI i)), (4, .int (nI (T i)))] [.int (nI (T i))] h [] 4 hq rfl trivial (fun hq => ?_)
      refine xq_run hq rfl rfl (isop_q (c := (T i)) (by omega) hq) ?_
      rintro _ h_ ⟨rfl, rfl⟩
      cases b2 : (decide (T i < 7)) with
      | true =>
        have db2 := of_decide_eq_true b2
        refine xq_n 2 [0, 1, 2, 3] [(0, .ref 28), (1, .int x), (2, .ref 1), (3, .int ((nI i) + Int32.ofInt 1))] [] (xh_ui h 30 (((x * 7) + (nI (T i))).toNatClampNeg) (nI i)) [false] 14 hq rfl ⟨rfl, trivial⟩ (fun _ => ?_)
        rw [show ((nI i) + Int32.ofInt 1) = nI (i + 1) from nI_1 _]
        have hq : a_rq a_tb (xh_ui h 30 (((x * 7) + (nI (T i))).toNatClampNeg) (nI i)) := a_rq_ui hq
        refine ih (i + 1) _ (by omega) (fx_t g (fx_ui (fx_0) rfl)) hq _ (fun k => ?_)
        rw [gx_if, hF k]
      | false =>
        have db2 := of_decide_eq_false b2
        have := h7 i (by omega); omega
set_option maxRecDepth 100000 in
set_option maxHeartbeats 4000000 in
theorem ord2_q {f : Nat} {T : Nat → Nat} {x : Int32} {h : xh_H} (hc : ct h T 7) (h7 : ∀ k, k < 7 → T k < 7) (hq : a_rq a_tb h) : xq f xi_X0_order xmi_X0_order 0 [(0, .ref 28), (1, .int x), (2, .ref 1)] [] h (fun v h' => v = none ∧ fx oSr fN h h' ∧ ∀ k, xg 0 h'.2.1 30 k = pw T x 7 0 (fun k => xg 0 h.2.1 30 k) k) := by
  refine xq_n 2 [0, 1, 2, 3] [(0, .ref 28), (1, .int x), (2, .ref 1), (3, .int (Int32.ofInt 0))] [] h [] 4 hq rfl trivial (fun hq => ?_)
  exact ord2_l hc h7 7 0 h rfl fx_0 hq _ (fun _ => rfl)
set_option maxRecDepth 100000 in
set_option maxHeartbeats 4000000 in
theorem rk9b_q {f n : Nat} {T : Nat → Nat} {x z : Int32} {h : xh_H} (hc : ct h T n) (e9 : xg 0 h.2.1 0 9 = z) (hq : a_rq a_tb h) : xq f xi_X9_rank xmi_X9_rank 0 [(0, .ref 0), (1, .int x)] [] h (fun v h' => ∀ k, xg 0 h'.2.1 30 k = cond ((!xe_c .lt x 0 && !xe_c .ge x z) && (Nat.beq n 7 && ro T 7 0 (Int32.ofInt 0))) (pw T x 7 0 (fun k => xg 0 h.2.1 30 k)) (fun k => xg 0 h.2.1 30 k) k) := by
  have n6 := hc.2.1
  refine xq_n 2 [0, 1] [(0, .ref 0), (1, .int x)] [.int x, .ref 0] h [] 4 hq rfl trivial (fun hq => ?_)
  refine xq_run hq rfl rfl (mem9_q (x := x) (z := z) (e9) hq) ?_
  rintro _ h_ ⟨rfl, rfl⟩
  cases b1 : (!xe_c .lt x 0 && !xe_c .ge x z) with
  | true =>
    cases c2 : xe_c .ne (nI n) 7 with
    | true =>
      have z2 : n ≠ 7 := nq_net (a := n) (b := 7) (by omega) (by omega) c2
      rw [show Nat.beq n 7 = false from bq_f z2]
      refine xq_n 65 [] [] [.int (Int32.ofInt 0)] (xh_ui h 1 1 (Int32.ofInt 0)) [false, true, true] 17 hq rfl ⟨rfl, (show xe_c .ne (xg 0 h.2.1 1 1) 7 = true by rw [show (xg 0 h.2.1 1 1) = (nI n) from hc.1]; exact c2), (by decide), trivial⟩ (fun _ => ?_)
      have hq : a_rq a_tb (xh_ui h 1 1 (Int32.ofInt 0)) := a_rq_ui hq
      exact xq_ret rfl rfl rfl (fun k => gx_o (by decide))
    | false =>
      have z2 : n = 7 := nq_nef (a := n) (b := 7) (by omega) (by omega) c2
      rw [show Nat.beq n 7 = true from bq_t z2]
      have hc7 : ct h T 7 := z2 ▸ hc
      refine xq_n 28 [0, 1] [(0, .ref 0), (1, .int x)] [.ref 1, .ref 28] h [false, false] 12 hq rfl ⟨rfl, (show xe_c .ne (xg 0 h.2.1 1 1) 7 = false by rw [show (xg 0 h.2.1 1 1) = (nI n) from hc.1]; exact c2), trivial⟩ (fun hq => ?_)
      refine xq_run hq rfl rfl (row_q hc7 hq) ?_
      rintro _ h_ ⟨rfl, rfl⟩
      rw [show (decide (1 ≤ 7 ∧ 7 ≤ 7) && ro T 7 0 (Int32.ofInt 0)) = ro T 7 0 (Int32.ofInt 0) from rfl]
      cases b3 : (ro T 7 0 (Int32.ofInt 0)) with
      | true =>
        refine xq_n 53 [0, 1, 2] [(0, .ref 0), (1, .int x), (2, .int (Int32.ofInt 1))] [.ref 1, .int x, .ref 28] h [false, false] 13 hq rfl ⟨rfl, (by decide), trivial⟩ (fun hq => ?_)
        have h7 : ∀ k, k < 7 → T k < 7 := fun k hk' => ro_lt 7 0 _ b3 k (Nat.zero_le k) (by omega)
        refine xq_run hq rfl rfl (ord2_q hc7 h7 hq) ?_
        rintro _ h1 ⟨rfl, g1, d1⟩
        have hq := fx_q g1 hq
        refine xq_n 65 [] [] [.int (Int32.ofInt 1)] (xh_ui h1 1 1 (Int32.ofInt 0)) [] 7 hq rfl trivial (fun _ => ?_)
        have hq : a_rq a_tb (xh_ui h1 1 1 (Int32.ofInt 0)) := a_rq_ui hq
        exact xq_ret rfl rfl rfl (fun k => (gx_o (by decide)).trans (d1 k))
      | false =>
        refine xq_n 65 [] [] [.int (Int32.ofInt 0)] (xh_ui h 1 1 (Int32.ofInt 0)) [true, true] 12 hq rfl ⟨rfl, (by decide), trivial⟩ (fun _ => ?_)
        have hq : a_rq a_tb (xh_ui h 1 1 (Int32.ofInt 0)) := a_rq_ui hq
        exact xq_ret rfl rfl rfl (fun k => gx_o (by decide))
  | false =>
    refine xq_n 65 [] [] [.int (Int32.ofInt 0)] (xh_ui h 1 1 (Int32.ofInt 0)) [true, true] 12 hq rfl ⟨rfl, (by decide), trivial⟩ (fun _ => ?_)
    have hq : a_rq a_tb (xh_ui h 1 1 (Int32.ofInt 0)) := a_rq_ui hq
    exact xq_ret rfl rfl rfl (fun k => gx_o (by decide))
set_option maxRecDepth 100000 in
set_option maxHeartbeats 4000000 in
theorem rkl2_q {f : Nat} {T : Nat → Nat} {x : Int32} : ∀ (j i : Nat) (h : xh_H), i + j = 7 → (∀ k, k < 7 → T k < 256 ∧ xg 0 h.2.1 40 k = nI (T k)) → a_rq a_tb h → ∀ F : Nat → Int32, (∀ k, xg 0 h.2.1 62 k = F k) → xq f xi_X10_rank xmi_X10_rank 36 [(0, .ref 39), (1, .int x), (3, .int (nI i))] [] h (fun v h' => ∀ k, xg 0 h'.2.1 62 k = pw T x j i F k) := by
  intro j
  induction j with
  | zero =>
    intro i h ij hT hq F hF
    cases c1 : xe_c .ge (nI i) 7 with
    | true =>
      have z1 : i ≥ 7 := nq_get (a := i) (b := 7) (by omega) (by omega) c1
      refine xq_n 71 [] [] [.int (Int32.ofInt 1)] (xh_ui h 39 5 (Int32.ofInt 1)) [true] 9 hq rfl ⟨c1, trivial⟩ (fun _ => ?_)
      have hq : a_rq a_tb (xh_ui h 39 5 (Int32.ofInt 1)) := a_rq_ui hq
      exact xq_ret rfl rfl rfl (fun k => (gx_o (by decide)).trans (hF k))
    | false =>
      have z1 : i < 7 := nq_gef (a := i) (b := 7) (by omega) (by omega) c1
      omega
  | succ j ih =>
    intro i h ij hT hq F hF
    cases c1 : xe_c .ge (nI i) 7 with
    | true =>
      have z1 : i ≥ 7 := nq_get (a := i) (b := 7) (by omega) (by omega) c1
      omega
    | false =>
      have z1 : i < 7 := nq_gef (a := i) (b := 7) (by omega) (by omega) c1
      refine xq_n 36 [0, 1, 3] [(0, .ref 39), (1, .int x), (3, .int ((nI i) + Int32.ofInt 1))] [] (xh_ui h 62 (((7 * x) + (xg 0 h.2.1 40 ((nI i).toNatClampNeg))).toNatClampNeg) (nI i)) [false] 19 hq rfl ⟨c1, trivial⟩ (fun _ => ?_)
      rw [show (xg 0 h.2.1 40 ((nI i).toNatClampNeg)) = (nI (T i)) from (by rw [show ((nI i).toNatClampNeg) = i from nI_clamp (by omega)]; exact (hT i (by omega)).2)]
      rw [show ((nI i) + Int32.ofInt 1) = nI (i + 1) from nI_1 _]
      have hq : a_rq a_tb (xh_ui h 62 (((7 * x) + (nI (T i))).toNatClampNeg) (nI i)) := a_rq_ui hq
      refine ih (i + 1) _ (by omega) (fun k hk' => ⟨(hT k hk').1, (gx_o (by decide)).trans (hT k hk').2⟩) hq _ (fun k => ?_)
      rw [gx_if, hF k, show (7 : Int32) * x = x * 7 from Int32.mul_comm _ _]
set_option maxRecDepth 100000 in
set_option maxHeartbeats 4000000 in
theorem rk10b_q {f n : Nat} {T : Nat → Nat} {x z : Int32} {h : xh_H} (n6 : n ≤ 640) (e2 : xg 0 h.2.1 39 2 = nI n) (hT : ∀ k, k < n → T k < 256 ∧ xg 0 h.2.1 40 k = nI (T k)) (e9 : xg 0 h.2.1 39 4 = z) (hq : a_rq a_tb h) : xq f xi_X10_rank xmi_X10_rank 0 [(0, .ref 39), (1, .int x)] [] h (fun v h' => ∀ k, xg 0 h'.2.1 62 k = cond ((!xe_c .lt x 0 && !xe_c .ge x z) && (Nat.beq n 7 && ro T 7 0 (Int32.ofInt 0))) (pw T x 7 0 (fun k => xg 0 h.2.1 62 k)) (fun k => xg 0 h.2.1 62 k) k) := by
  refine xq_n 6 [0, 1] [(0, .ref 39), (1, .int x)] [.ref 39] (xh_ui h 39 0 (Int32.ofInt 0)) [] 6 hq rfl trivial (fun _ => ?_)
  have hq : a_rq a_tb (xh_ui h 39 0 (Int32.ofInt 0)) := a_rq_ui hq
  refine xq_run hq rfl rfl (take_q hq) ?_
  rintro _ _ ⟨rfl, rfl⟩
  rw [show xg 0 (xh_ui h 39 0 (Int32.ofInt 0)).2.1 39 2 = nI n from (gx_k (by decide)).trans e2]
  have hq : a_rq a_tb (xh_ui (xh_ui h 39 0 (Int32.ofInt 0)) 39 2 (Int32.ofInt 0)) := a_rq_ui hq
  refine xq_n 12 [0, 1, 2] [(0, .ref 39), (1, .int x), (2, .int (nI n))] [.int x, .ref 39] (xh_ui (xh_ui h 39 0 (Int32.ofInt 0)) 39 2 (Int32.ofInt 0)) [] 5 hq rfl trivial (fun hq => ?_)
  refine xq_run hq rfl rfl (mem10_q (x := x) (z := z) ((gx_k (by decide)).trans ((gx_k (by decide)).trans (e9))) hq) ?_
  rintro _ h_ ⟨rfl, rfl⟩
  cases b1 : (!xe_c .lt x 0 && !xe_c .ge x z) with
  | true =>
    cases c2 : xe_c .ne (nI n) 7 with
    | true =>
      have z2 : n ≠ 7 := nq_net (a := n) (b := 7) (by omega) (by omega) c2
      rw [show Nat.beq n 7 = false from bq_f z2]
      refine xq_n 33 [] [] [.int (Int32.ofInt 0)] (xh_ui (xh_ui h 39 0 (Int32.ofInt 0)) 39 2 (Int32.ofInt 0)) [false, true] 7 hq rfl ⟨rfl, c2, trivial⟩ (fun hq => ?_)
      exact xq_ret rfl rfl rfl (fun k => (gx_o (by decide)).trans (gx_o (by decide)))
    | false =>
      have z2 : n = 7 := nq_nef (a := n) (b := 7) (by omega) (by omega) c2
      rw [show Nat.beq n 7 = true from bq_t z2]
      have er : ro T n 0 (Int32.ofInt 0) = ro T 7 0 (Int32.ofInt 0) := by rw [z2]
      refine xq_n 26 [0, 1, 2] [(0, .ref 39), (1, .int x), (2, .int (nI n))] [.int (nI n), .ref 39] (xh_ui (xh_ui h 39 0 (Int32.ofInt 0)) 39 2 (Int32.ofInt 0)) [false, false] 8 hq rfl ⟨rfl, c2, trivial⟩ (fun hq => ?_)
      refine xq_run hq rfl rfl (are_q (by omega) (fun k hk' => ⟨(hT k hk').1, (gx_o (by decide)).trans ((gx_o (by decide)).trans (hT k hk').2)⟩) hq) ?_
      rintro _ h_ ⟨rfl, rfl⟩
      rw [er]
      cases b3 : (ro T 7 0 (Int32.ofInt 0)) with
      | true =>
        refine xq_n 36 [0, 1, 3] [(0, .ref 39), (1, .int x), (3, .int (Int32.ofInt 0))] [] (xh_ui (xh_ui h 39 0 (Int32.ofInt 0)) 39 2 (Int32.ofInt 0)) [true] 5 hq rfl ⟨rfl, trivial⟩ (fun hq => ?_)
        refine rkl2_q 7 0 _ rfl (fun k hk' => ⟨(hT k (by omega)).1, (gx_o (by decide)).trans ((gx_o (by decide)).trans (hT k (by omega)).2)⟩) hq _ (fun k => (gx_o (by decide)).trans (gx_o (by decide)))
      | false =>
        refine xq_n 33 [] [] [.int (Int32.ofInt 0)] (xh_ui (xh_ui h 39 0 (Int32.ofInt 0)) 39 2 (Int32.ofInt 0)) [false] 4 hq rfl ⟨rfl, trivial⟩ (fun hq => ?_)
        exact xq_ret rfl rfl rfl (fun k => (gx_o (by decide)).trans (gx_o (by decide)))
  | false =>
    refine xq_n 33 [] [] [.int (Int32.ofInt 0)] (xh_ui (xh_ui h 39 0 (Int32.ofInt 0)) 39 2 (Int32.ofInt 0)) [true] 4 hq rfl ⟨rfl, trivial⟩ (fun hq => ?_)
    exact xq_ret rfl rfl rfl (fun k => (gx_o (by decide)).trans (gx_o (by decide)))
end XPL
