section XRO
variable {T : Nat → Nat} {n mem nn : Nat} {NM : Nat → Nat × Nat}
def zS (c k : Nat) : Bool := aS_ c k || (Nat.beq c 3 && Nat.beq k 6)
theorem zS_c {c k : Nat} (h : cS c k = false) : zS c k = false := by
  have h1 := aS_c h
  unfold zS
  rw [h1]
  unfold cS at h
  have h2 := (or_f (or_f h).2).1
  cases h3 : Nat.beq c 3 with
  | false => rfl
  | true =>
    rw [h3] at h2
    have h2 : (Nat.beq k 5 || (Nat.beq k 6 || (Nat.beq k 8 || Nat.beq k 9))) = false := h2
    show (false || Nat.beq k 6) = false
    rw [(or_f (or_f h2).2).1]
    rfl
set_option maxRecDepth 100000 in
set_option maxHeartbeats 4000000 in
theorem qz_q {f : Nat} {x2 x4 : Int32} {h : xh_H} (hq : a_rq a_tb h) : xq f xi_X4_readQuota xmi_X4_readQuota 57 [(0, .ref 3), (2, .int x2), (3, .int (Int32.ofInt 0)), (4, .int x4)] [] h (fun v h' => v = some (.int 0) ∧ fx zS fN h h') := by
  cases c1 : xe_c .gt x4 120 with
  | true =>
    refine xq_n 98 [0, 2, 3, 4] [(0, .ref 3), (2, .int x2), (3, .int (Int32.ofInt 0)), (4, .int x4)] [.int x2, .int 6, .ref 4] h [true] 9 hq rfl ⟨c1, trivial⟩ (fun hq => ?_)
    refine xq_run hq rfl rfl (add_q hq) ?_
    rintro v2 h2 ⟨rfl, g2⟩
    have hq := fx_q g2 hq
    refine xq_n 129 [] [] [.int (Int32.ofInt 0)] (xh_ui h2 3 6 ((xg 0 h2.2.1 3 6) - (Int32.ofInt 1))) [true] 11 hq rfl ⟨(by decide), trivial⟩ (fun _ => ?_)
    rw [show (xg 0 h2.2.1 3 6) = (xg 0 h.2.1 3 6) from fx_i g2 rfl]
    have hq : a_rq a_tb (xh_ui h2 3 6 ((xg 0 h.2.1 3 6) - (Int32.ofInt 1))) := a_rq_ui hq
    exact xq_ret rfl rfl rfl ⟨rfl, fx_ui (fx_t (fx_0) (fx_w g2 (fun _ _ z => (or_f z).1) (fun _ _ z => z))) rfl⟩
  | false =>
    refine xq_n 98 [0, 2, 3, 4] [(0, .ref 3), (2, .int x2), (3, .int (Int32.ofInt 0)), (4, .int x4)] [.int x2, .int 6, .ref 4] h [false, true] 11 hq rfl ⟨c1, (by decide), trivial⟩ (fun hq => ?_)
    refine xq_run hq rfl rfl (add_q hq) ?_
    rintro v3 h3 ⟨rfl, g3⟩
    have hq := fx_q g3 hq
    refine xq_n 129 [] [] [.int (Int32.ofInt 0)] (xh_ui h3 3 6 ((xg 0 h3.2.1 3 6) - (Int32.ofInt 1))) [true] 11 hq rfl ⟨(by decide), trivial⟩ (fun _ => ?_)
    rw [show (xg 0 h3.2.1 3 6) = (xg 0 h.2.1 3 6) from fx_i g3 rfl]
    have hq : a_rq a_tb (xh_ui h3 3 6 ((xg 0 h.2.1 3 6) - (Int32.ofInt 1))) := a_rq_ui hq
    exact xq_ret rfl rfl rfl ⟨rfl, fx_ui (fx_t (fx_0) (fx_w g3 (fun _ _ z => (or_f z).1) (fun _ _ z => z))) rfl⟩
set_option maxRecDepth 100000 in
set_option maxHeartbeats 4000000 in
theorem qu_lp {f P o d : Nat} {x2 : Int32} {h0 : xh_H} (ii : sItem T n mem nn NM f) (o6 : o ≤ 119) (d12 : d ≤ 11) : ∀ g, g ≤ f → ∀ (h : xh_H) (i p1 o1 : Nat), cr h T n mem nn NM p1 o1 (d + 1) → fx cS fN h0 h → o + 2 + i ≤ o1 → o1 ≤ 120 → (∀ fs : List Nat, fs.length = d + 1 → Rc T n mem nn (nmW T NM) (1, P, o + 1, 2 :: fs) (0, p1, o1, 2 :: fs)) → a_rq a_tb h → xq g xi_X4_readQuota xmi_X4_readQuota 57 [(0, .ref 3), (2, .int x2), (3, .int (Int32.ofInt 1)), (4, .int (nI i))] [] h (rO h0 T n mem nn NM o d (fun p' o' => ∀ fs : List Nat, fs.length = d + 1 → Rc T n mem nn (nmW T NM) (1, P, o + 1, 2 :: fs) (0, p', o', fs)) (fun e => ∀ fs : List Nat, fs.length = d + 1 → Fl T n mem nn (nmW T NM) (1, P, o + 1, 2 :: fs) e)) := by
  intro g
  induction g with
  | zero => intros; exact xq_0
  | succ g ihg =>
    intro hg h i p1 o1 c0 g0 hi ho GG hq
    have hT : ∀ k, k < n → T k < 256 := fun k hk' => (c0.1.2.2 k hk').1
    have kb := tkk_lt (T := T) (n := n) (p := p1) hT
    have n6 := c0.1.2.1
    have s6 := tks_le (T := T) (n := n) (p := p1)
    have mm := c0.2.2.2.2.1
    have n16 := c0.2.2.2.2.2.2.2.2.2.1.2.1
    cases c1 : xe_c .gt (nI i) 120 with
    | true =>
      have z1 : i > 120 := nq_gtt (a := i) (b := 120) (by omega) (by omega) c1
      omega
    | false =>
      have z1 : i ≤ 120 := nq_gtf (a := i) (b := 120) (by omega) (by omega) c1
      cases c2 : xe_c .eq (nI (tkk T n p1)) 93 with
      | true =>
        have z2 : (tkk T n p1) = 93 := nq_eqt (a := (tkk T n p1)) (b := 93) (by omega) (by omega) c2
        refine xq_m 98 [0, 2, 3, 4] [(0, .ref 3), (2, .int x2), (3, .int (Int32.ofInt 1)), (4, .int (nI i))] [.int x2, .int 6, .ref 4] h [false, false, true] 16 hq rfl ⟨c1, (by decide), (show xe_c .eq (xg 0 h.2.1 8 3) 93 = true by rw [show (xg 0 h.2.1 8 3) = (nI (tkk T n p1)) from c0.2.1.1]; exact c2), trivial⟩ (fun hq => ?_)
        refine xq_run hq rfl rfl (add_q hq) ?_
        rintro v3 h3 ⟨rfl, g3⟩
        have hq := fx_q g3 hq
        refine xq_n 118 [0, 2, 3, 4] [(0, .ref 3), (2, .int x2), (3, .int (Int32.ofInt 1)), (4, .int (nI i))] [.int 93, .ref 3] (xh_ui h3 3 6 ((xg 0 h3.2.1 3 6) - (Int32.ofInt 1))) [false] 12 hq rfl ⟨(by decide), trivial⟩ (fun _ => ?_)
        rw [show (xg 0 h3.2.1 3 6) = (nI (d + 1)) from (fx_i g3 rfl).trans (c0.2.2.2.2.2.2.2.1)]
        rw [show ((nI (d + 1)) - (Int32.ofInt 1)) = nI ((d + 1) - 1) from nI_dec1 (by omega)]
        rw [show (nI ((d + 1) - 1)) = nI d from (by rw [Nat.add_sub_cancel])]
        have hq : a_rq a_tb (xh_ui h3 3 6 (nI d)) := a_rq_ui hq
        refine xq_run hq rfl rfl (ts_q (c := 93) (by decide) (by decide) ⟨ct_f (S := cS) (L := fN) (ct_f (S := cS) (L := fN) (c0.1) (fx_w g3 (fun _ _ => aS_c) (fun _ _ z => z)) rfl (fun _ => rfl)) (fx_ui fx_0 rfl) rfl (fun _ => rfl), tok_f (S := fun c k => Nat.beq c 3) (L := fN) (tok_f (c0.2.1) g3 (fun _ => rfl)) (fx_ui fx_0 rfl) (fun _ => rfl), (gx_o (by decide)).trans ((fx_i g3 rfl).trans (c0.2.2.1)), (gx_k (by decide)).trans ((fx_i g3 rfl).trans (c0.2.2.2.1)), c0.2.2.2.2.1, (gx_k (by decide)).trans ((fx_i g3 rfl).trans (c0.2.2.2.2.2.1)), by omega, gx_s, by omega, cn_f (S := cS) (L := fN) (cn_f (S := cS) (L := fN) (c0.2.2.2.2.2.2.2.2.2.1) (fx_w g3 (fun _ _ => aS_c) (fun _ _ z => z)) rfl (fun _ => rfl) (fun _ => rfl)) (fx_ui fx_0 rfl) rfl (fun _ => rfl) (fun _ => rfl), (gx_k (by decide)).trans ((fx_i g3 rfl).trans (c0.2.2.2.2.2.2.2.2.2.2))⟩ hq) ?_
        rintro v4 h4 ⟨g4, l4, q4⟩
        have hq := fx_q g4 hq
        by_cases w4_0 : tkk T n p1 ≠ 93
        · obtain ⟨rfl, f4, y4, z4, e64, e4⟩ := q4 1 (tks T n p1) (by unfold kS; rw [if_pos w4_0])
          refine xq_n 129 [] [] [.int (Int32.ofInt 0)] h4 [true] 4 hq rfl ⟨(by decide), trivial⟩ (fun hq => ?_)
          exfalso; omega
        · skip
          obtain ⟨rfl, c4⟩ := l4 (tke T n p1) (o1) (d) (by unfold kS; rw [if_neg w4_0])
          have kb4 := tkk_lt (T := T) (n := n) (p := tke T n p1) hT
          have s64 := tks_le (T := T) (n := n) (p := tke T n p1)
          refine xq_n 129 [] [] [.int (Int32.ofInt 1)] h4 [false] 5 hq rfl ⟨(by decide), trivial⟩ (fun hq => ?_)
          refine xq_ret rfl rfl rfl ⟨fx_t (fx_ui (fx_t (g0) (fx_w g3 (fun _ _ => aS_c) (fun _ _ z => z))) rfl) (g4), Or.inl ⟨rfl, tke T n p1, o1, c4, by omega, by omega, fun fs hf => Rc_t (GG fs hf) (Rc_1 ?_)⟩⟩
          rw [enE]
          unfold en
          rw [if_pos (show (2 :: fs).head? = some 2 from rfl), if_pos (by omega)]
          rfl
      | false =>
        have z2 : (tkk T n p1) ≠ 93 := nq_eqf (a := (tkk T n p1)) (b := 93) (by omega) (by omega) c2
        have es : ∀ fs : List Nat, stp T n mem nn (nmW T NM) (0, p1, o1, 2 :: fs) = .inl (1, p1, o1, 2 :: fs) := fun fs => by rw [enE]; unfold en; rw [if_pos (show (2 :: fs).head? = some 2 from rfl), if_neg (by omega)]
        refine xq_m 81 [0, 2, 3, 4] [(0, .ref 3), (2, .int x2), (3, .int (Int32.ofInt 1)), (4, .int (nI i))] [.ref 3] h [false, false, false] 13 hq rfl ⟨c1, (by decide), (show xe_c .eq (xg 0 h.2.1 8 3) 93 = false by rw [show (xg 0 h.2.1 8 3) = (nI (tkk T n p1)) from c0.2.1.1]; exact c2), trivial⟩ (fun hq => ?_)
        refine xq_run hq rfl rfl (xq_le (by omega) (ii _ _ _ _ c0 (by omega) (by omega) hq)) ?_
        rintro v5 h5 ⟨g5, ⟨rfl, pq5, oq5, c5, lt5, le5, G5⟩ | ⟨rfl, kq5, lq5, f5, y5, B5⟩⟩
        · have hq := fx_q g5 hq
          have kb5 := tkk_lt (T := T) (n := n) (p := pq5) hT
          have s65 := tks_le (T := T) (n := n) (p := pq5)
          refine xq_n 57 [0, 2, 3, 4] [(0, .ref 3), (2, .int x2), (3, .int (Int32.ofInt 1)), (4, .int ((nI i) + Int32.ofInt 1))] [] h5 [] 5 hq rfl trivial (fun hq => ?_)
          rw [show ((nI i) + Int32.ofInt 1) = nI (i + 1) from nI_1 _]
          exact ihg (by omega) _ (i + 1) pq5 oq5 c5 (fx_t (g0) (g5)) (by omega) (by omega) (fun fs hf => Rc_t (GG fs hf) (Rc_t (Rc_1 (es fs)) (G5 fs hf))) hq
        · have hq := fx_q g5 hq
          refine xq_n 57 [0, 2, 3, 4] [(0, .ref 3), (2, .int x2), (3, .int (Int32.ofInt 0)), (4, .int ((nI i) + Int32.ofInt 1))] [] h5 [] 5 hq rfl trivial (fun hq => ?_)
          rw [show ((nI i) + Int32.ofInt 1) = nI (i + 1) from nI_1 _]
          refine xq_mono (qz_q hq) (fun v h' e => ?_)
          obtain ⟨rfl, gz⟩ := e
          exact ⟨fx_t (fx_t (g0) (g5)) (fx_w gz (fun _ _ => zS_c) (fun _ _ z => z)), Or.inr ⟨rfl, kq5, lq5, (fx_i gz rfl).trans (f5), (fx_i gz rfl).trans (y5), fun fs hf => Fl_t (Rc_t (GG fs hf) (Rc_1 (es fs))) (B5 fs hf)⟩⟩
set_option maxRecDepth 100000 in
set_option maxHeartbeats 4000000 in
theorem quo_s {f : Nat} (ii : sItem T n mem nn NM f) : sQuota T n mem nn NM (f + 1) := by
  intro h p o d st num c0 o6 d12 n9 hq
  have hT : ∀ k, k < n → T k < 256 := fun k hk' => (c0.1.2.2 k hk').1
  have kb := tkk_lt (T := T) (n := n) (p := p) hT
  have n6 := c0.1.2.1
  have s6 := tks_le (T := T) (n := n) (p := p)
  have mm := c0.2.2.2.2.1
  have n16 := c0.2.2.2.2.2.2.2.2.2.1.2.1
  cases c1 : xe_c .ge (nI num) (Int32.ofInt 1) with
  | true =>
    have z1 : num ≥ 1 := nq_get (a := num) (b := 1) (by omega) (by omega) c1
    refine xq_m 14 [0, 1, 2] [(0, .ref 3), (1, .int (nI st)), (2, .int (nI num))] [.int (nI st), .ref 3] h [true] 7 hq rfl ⟨c1, trivial⟩ (fun hq => ?_)
    refine xq_run hq rfl rfl (co_q (st := st) (by omega) c0 hq) ?_
    rintro v2 h2 ⟨g2, l2, q2⟩
    have hq := fx_q g2 hq
    by_cases w2_0 : 120 ≤ o
    · obtain ⟨rfl, f2, y2, z2, e62, e2⟩ := q2 4 (st) (by unfold kC; rw [if_pos w2_0])
      refine xq_n 39 [] [] [.int (Int32.ofInt 0)] h2 [true] 4 hq rfl ⟨(by decide), trivial⟩ (fun hq => ?_)
      refine xq_ret rfl rfl rfl ⟨fx_t (fx_0) (g2), Or.inr ⟨rfl, 4, st, f2, y2, fun fs hf => Or.inl ?_⟩⟩
      unfold qt
      try unfold bls
      repeat (first | rw [if_pos (by omega)] | rw [if_neg (by omega)] | rw [if_pos w2_0] | rw [if_neg w2_0] | rw [if_neg (by rw [w2_0]; decide)])
      try rfl
    · skip
      obtain ⟨rfl, c2⟩ := l2 (p) (o + 1) (d) (by unfold kC; rw [if_neg w2_0])
      have kb2 := tkk_lt (T := T) (n := n) (p := p) hT
      have s62 := tks_le (T := T) (n := n) (p := p)
      refine xq_n 23 [0, 1, 2] [(0, .ref 3), (1, .int (nI st)), (2, .int (nI num))] [.float 6, .ref 3] h2 [false] 5 hq rfl ⟨(by decide), trivial⟩ (fun hq => ?_)
      refine xq_run hq rfl rfl (tw4_q c2 hq) ?_
      rintro v3 h3 ⟨g3, l3, q3⟩
      have hq := fx_q g3 hq
      by_cases w3_0 : ky T n p 4 = false
      · obtain ⟨rfl, f3, y3, z3, e63, e3⟩ := q3 1 (tks T n p) (by unfold kW; rw [if_pos w3_0])
        refine xq_n 39 [] [] [.int (Int32.ofInt 0)] h3 [true] 4 hq rfl ⟨(by decide), trivial⟩ (fun hq => ?_)
        refine xq_ret rfl rfl rfl ⟨fx_t (fx_t (fx_0) (g2)) (g3), Or.inr ⟨rfl, 1, tks T n p, f3, y3, fun fs hf => Or.inl ?_⟩⟩
        unfold qt
        try unfold bls
        repeat (first | rw [if_pos (by omega)] | rw [if_neg (by omega)] | rw [if_pos w2_0] | rw [if_neg w2_0] | rw [if_neg (by rw [w2_0]; decide)] | rw [if_pos w3_0] | rw [if_neg w3_0] | rw [if_neg (by rw [w3_0]; decide)])
        try rfl
      · skip
        have w3_0t : ky T n p 4 = true := eq_true_of_ne_false w3_0
        have dw3_0 := of_decide_eq_true w3_0t
        obtain ⟨rfl, c3⟩ := l3 (tke T n p) ((o + 1)) (d) (by unfold kW; rw [if_neg w3_0])
        have kb3 := tkk_lt (T := T) (n := n) (p := tke T n p) hT
        have s63 := tks_le (T := T) (n := n) (p := tke T n p)
        refine xq_n 32 [0, 1, 2] [(0, .ref 3), (1, .int (nI st)), (2, .int (nI num))] [.int 91, .ref 3] h3 [false] 5 hq rfl ⟨(by decide), trivial⟩ (fun hq => ?_)
        refine xq_run hq rfl rfl (to_q (c := 91) (by decide) (by decide) c3 hq) ?_
        rintro v4 h4 ⟨g4, l4, q4⟩
        have hq := fx_q g4 hq
        by_cases w4_0 : tkk T n (tke T n p) ≠ 91
        · obtain ⟨rfl, f4, y4, z4, e64, e4⟩ := q4 1 (tks T n (tke T n p)) (by unfold kO; rw [if_pos w4_0])
          refine xq_n 39 [] [] [.int (Int32.ofInt 0)] h4 [false] 4 hq rfl ⟨(by decide), trivial⟩ (fun hq => ?_)
          refine xq_ret rfl rfl rfl ⟨fx_t (fx_t (fx_t (fx_0) (g2)) (g3)) (g4), Or.inr ⟨rfl, 1, tks T n (tke T n p), f4, y4, fun fs hf => Or.inl ?_⟩⟩
          unfold qt
          try unfold bls
          repeat (first | rw [if_pos (by omega)] | rw [if_neg (by omega)] | rw [if_pos w2_0] | rw [if_neg w2_0] | rw [if_neg (by rw [w2_0]; decide)] | rw [if_pos w3_0] | rw [if_neg w3_0] | rw [if_neg (by rw [w3_0]; decide)] | rw [if_pos w3_0t] | rw [if_neg w3_0t] | rw [if_neg (by rw [w3_0t]; decide)] | rw [if_pos w4_0] | rw [if_neg w4_0] | rw [if_neg (by rw [w4_0]; decide)])
          try rfl
        · skip
          by_cases w4_1 : 12 ≤ d
          · obtain ⟨rfl, f4, y4, z4, e64, e4⟩ := q4 4 (tks T n (tke T n p)) (by unfold kO; rw [if_neg w4_0, if_pos w4_1])
            refine xq_n 39 [] [] [.int (Int32.ofInt 0)] h4 [false] 4 hq rfl ⟨(by decide), trivial⟩ (fun hq => ?_)
            refine xq_ret rfl rfl rfl ⟨fx_t (fx_t (fx_t (fx_0) (g2)) (g3)) (g4), Or.inr ⟨rfl, 4, tks T n (tke T n p), f4, y4, fun fs hf => Or.inl ?_⟩⟩
            unfold qt
            try unfold bls
            repeat (first | rw [if_pos (by omega)] | rw [if_neg (by omega)] | rw [if_pos w2_0] | rw [if_neg w2_0] | rw [if_neg (by rw [w2_0]; decide)] | rw [if_pos w3_0] | rw [if_neg w3_0] | rw [if_neg (by rw [w3_0]; decide)] | rw [if_pos w3_0t] | rw [if_neg w3_0t] | rw [if_neg (by rw [w3_0t]; decide)] | rw [if_pos w4_0] | rw [if_neg w4_0] | rw [if_neg (by rw [w4_0]; decide)] | rw [if_pos w4_1] | rw [if_neg w4_1] | rw [if_neg (by rw [w4_1]; decide)])
            try rfl
          · skip
            obtain ⟨rfl, c4⟩ := l4 (tke T n (tke T n p)) ((o + 1)) (d + 1) (by unfold kO; rw [if_neg w4_0, if_neg w4_1])
            have kb4 := tkk_lt (T := T) (n := n) (p := tke T n (tke T n p)) hT
            have s64 := tks_le (T := T) (n := n) (p := tke T n (tke T n p))
            refine xq_n 46 [0, 1, 2] [(0, .ref 3), (1, .int (nI st)), (2, .int (nI num))] [.int (Int32.ofInt 0), .int (Int32.ofInt 4), .ref 4] h4 [true] 7 hq rfl ⟨(by decide), trivial⟩ (fun hq => ?_)
            refine xq_run hq rfl rfl (add_q hq) ?_
            rintro v5 h5 ⟨rfl, g5⟩
            have hq := fx_q g5 hq
            refine xq_n 50 [0, 1, 2] [(0, .ref 3), (1, .int (nI st)), (2, .int (nI num))] [.ref 3] h5 [] 3 hq rfl trivial (fun hq => ?_)
            refine xq_run hq rfl rfl (ii _ _ _ _ ⟨ct_f (S := cS) (L := fN) (c4.1) (fx_w g5 (fun _ _ => aS_c) (fun _ _ z => z)) rfl (fun _ => rfl), tok_f (c4.2.1) g5 (fun _ => rfl), (fx_i g5 rfl).trans (c4.2.2.1), (fx_i g5 rfl).trans (c4.2.2.2.1), c0.2.2.2.2.1, (fx_i g5 rfl).trans (c4.2.2.2.2.2.1), by omega, (fx_i g5 rfl).trans (c4.2.2.2.2.2.2.2.1), by omega, cn_f (S := cS) (L := fN) (c4.2.2.2.2.2.2.2.2.2.1) (fx_w g5 (fun _ _ => aS_c) (fun _ _ z => z)) rfl (fun _ => rfl) (fun _ => rfl), (fx_i g5 rfl).trans (c4.2.2.2.2.2.2.2.2.2.2)⟩ (by omega) (by omega) hq) ?_
            rintro v6 h6 ⟨g6, ⟨rfl, pq6, oq6, c6, lt6, le6, G6⟩ | ⟨rfl, kq6, lq6, f6, y6, B6⟩⟩
            · have hq := fx_q g6 hq
              have kb6 := tkk_lt (T := T) (n := n) (p := pq6) hT
              have s66 := tks_le (T := T) (n := n) (p := pq6)
              refine xq_n 57 [0, 2, 3, 4] [(0, .ref 3), (2, .int (nI num)), (3, .int (Int32.ofInt 1)), (4, .int (Int32.ofInt 0))] [] h6 [] 5 hq rfl trivial (fun hq => ?_)
              refine xq_mono (qu_lp (P := tke T n (tke T n p)) (o := o) (d := d) ii (by omega) (by omega) f (Nat.le_refl _) _ 0 pq6 oq6 c6 (fx_t (fx_t (fx_t (fx_t (fx_t (fx_0) (g2)) (g3)) (g4)) (fx_w g5 (fun _ _ => aS_c) (fun _ _ z => z))) (g6)) (by omega) (by omega) (fun fs hf => G6 fs hf) hq) (fun v h' e => ?_)
              obtain ⟨e1, ⟨rfl, p', o', e3, e4, e5, e6⟩ | ⟨rfl, k, pl, e3, e4, e5⟩⟩ := e
              · refine ⟨e1, Or.inl ⟨rfl, p', o', e3, e4, e5, fun fs hf => ?_⟩⟩
                have er : qt T n p o st num fs = .inl (1, tke T n (tke T n p), o + 1, 2 :: fs) := by unfold qt bls; repeat (first | rw [if_pos (by omega)] | rw [if_neg (by omega)] | rw [if_pos w2_0] | rw [if_neg w2_0] | rw [if_neg (by rw [w2_0]; decide)] | rw [if_pos w3_0] | rw [if_neg w3_0] | rw [if_neg (by rw [w3_0]; decide)] | rw [if_pos w3_0t] | rw [if_neg w3_0t] | rw [if_neg (by rw [w3_0t]; decide)] | rw [if_pos w4_0] | rw [if_neg w4_0] | rw [if_neg (by rw [w4_0]; decide)] | rw [if_pos w4_1] | rw [if_neg w4_1] | rw [if_neg (by rw [w4_1]; decide)])
                exact ⟨_, er, e6 fs hf⟩
              · refine ⟨e1, Or.inr ⟨rfl, k, pl, e3, e4, fun fs hf => ?_⟩⟩
                have er : qt T n p o st num fs = .inl (1, tke T n (tke T n p), o + 1, 2 :: fs) := by unfold qt bls; repeat (first | rw [if_pos (by omega)] | rw [if_neg (by omega)] | rw [if_pos w2_0] | rw [if_neg w2_0] | rw [if_neg (by rw [w2_0]; decide)] | rw [if_pos w3_0] | rw [if_neg w3_0] | rw [if_neg (by rw [w3_0]; decide)] | rw [if_pos w3_0t] | rw [if_neg w3_0t] | rw [if_neg (by rw [w3_0t]; decide)] | rw [if_pos w4_0] | rw [if_neg w4_0] | rw [if_neg (by rw [w4_0]; decide)] | rw [if_pos w4_1] | rw [if_neg w4_1] | rw [if_neg (by rw [w4_1]; decide)])
                exact Or.inr ⟨_, er, e5 fs hf⟩
            · have hq := fx_q g6 hq
              refine xq_n 57 [0, 2, 3, 4] [(0, .ref 3), (2, .int (nI num)), (3, .int (Int32.ofInt 0)), (4, .int (Int32.ofInt 0))] [] h6 [] 5 hq rfl trivial (fun hq => ?_)
              refine xq_mono (qz_q hq) (fun v h' e => ?_)
              obtain ⟨rfl, gz⟩ := e
              refine ⟨fx_t (fx_t (fx_t (fx_t (fx_t (fx_t (fx_0) (g2)) (g3)) (g4)) (fx_w g5 (fun _ _ => aS_c) (fun _ _ z => z))) (g6)) (fx_w gz (fun _ _ => zS_c) (fun _ _ z => z)), Or.inr ⟨rfl, kq6, lq6, (fx_i gz rfl).trans (f6), (fx_i gz rfl).trans (y6), fun fs hf => ?_⟩⟩
              have er : qt T n p o st num fs = .inl (1, tke T n (tke T n p), o + 1, 2 :: fs) := by unfold qt bls; repeat (first | rw [if_pos (by omega)] | rw [if_neg (by omega)] | rw [if_pos w2_0] | rw [if_neg w2_0] | rw [if_neg (by rw [w2_0]; decide)] | rw [if_pos w3_0] | rw [if_neg w3_0] | rw [if_neg (by rw [w3_0]; decide)] | rw [if_pos w3_0t] | rw [if_neg w3_0t] | rw [if_neg (by rw [w3_0t]; decide)] | rw [if_pos w4_0] | rw [if_neg w4_0] | rw [if_neg (by rw [w4_0]; decide)] | rw [if_pos w4_1] | rw [if_neg w4_1] | rw [if_neg (by rw [w4_1]; decide)])
              exact Or.inr ⟨_, er, B6 fs hf⟩
  | false =>
    have z1 : num < 1 := nq_gef (a := num) (b := 1) (by omega) (by omega) c1
    refine xq_m 8 [0, 1, 2] [(0, .ref 3), (1, .int (nI st)), (2, .int (nI num))] [.int (nI st), .int (Int32.ofInt 2), .ref 3] h [false] 8 hq rfl ⟨c1, trivial⟩ (fun hq => ?_)
    refine xq_run hq rfl rfl (fail_q (k := 2) (pl := st) hq) ?_
    rintro v7 h7 ⟨rfl, g7, f7, l7⟩
    have hq := fx_q g7 hq
    refine xq_ret rfl rfl rfl ⟨fx_t (fx_0) (fx_w g7 (fun _ _ => fS_c) (fun _ _ z => z)), Or.inr ⟨rfl, 2, st, f7, l7, fun fs hf => Or.inl ?_⟩⟩
    unfold qt
    try unfold bls
    repeat (first | rw [if_pos (by omega)] | rw [if_neg (by omega)])
    try rfl
/-- ALL OF THEM -/
theorem rd_all : ∀ f, sOne T n mem nn NM f ∧ sAll T n mem nn NM f ∧ sRule T n mem nn NM f ∧ sItem T n mem nn NM f ∧ sQuota T n mem nn NM f := by
  intro f
  induction f with
  | zero => exact ⟨fun _ _ _ _ _ _ _ _ => xq_0, fun _ _ _ _ _ _ _ _ => xq_0, fun _ _ _ _ _ _ _ _ => xq_0, fun _ _ _ _ _ _ _ _ => xq_0, fun _ _ _ _ _ _ _ _ _ _ _ => xq_0⟩
  | succ f ih => exact ⟨one_s ih.2.2.2.2 ih.2.2.1, all_s ih.1, rul_s ih.2.1, item_s ih.1 ih.2.2.2.2, quo_s ih.2.2.2.1⟩
end XRO
