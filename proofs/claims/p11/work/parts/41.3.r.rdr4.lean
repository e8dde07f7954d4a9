section
section XRO
variable {T : Nat → Nat} {n mem nn : Nat} {NM : Nat → Nat × Nat}
def zS (c k : Nat) : Bool := aS_ c k || (Nat.beq c 3 && Nat.beq k 6)
theorem zS_c {c k : Nat} (h : cS c k = false) : zS c k = false := by
  have h1 := aS_c h
  unfold zS
  rw [h1]
  unfold cS at h
  have h2 := (or_f (or_f h).2).1
  cases h3 : Nat.beq c 3 with
  | false => rfl
  | true =>
    rw [h3] at h2
    have h2 : (Nat.beq k 5 || (Nat.beq k 6 || (Nat.beq k 8 || Nat.beq k 9))) = false := h2
    show (false || Nat.beq k 6) = false
    rw [(or_f (or_f h2).2).1]
    rfl
set_option maxRecDepth 100000 in
set_option maxHeartbeats 4000000 in
theorem qz_q {f : Nat} {x2 x4 : Int32} {h : xh_H} (hq : a_rq a_tb h) : xq f xi_X4_readQuota xmi_X4_readQuota 57 [(0, .ref 3), (2, .int x2), (3, .int (Int32.ofInt 0)), (4, .int x4)] [] h (fun v h' => v = some (.int 0) ∧ fx zS fN h h') := by
  cases c1 : xe_c .gt x4 120 with
  | true =>
    refine xq_n 98 [0, 2, 3, 4] [(0, .ref 3), (2, .int x2), (3, .int (Int32.ofInt 0)), (4, .int x4)] [.int x2, .int 6, .ref 4] h [true] 9 hq rfl ⟨c1, trivial⟩ (fun hq => ?_)
    refine xq_run hq rfl rfl (add_q hq) ?_
    rintro v2 h2 ⟨rfl, g2⟩
    have hq := fx_q g2 hq
    refine xq_n 129 [] [] [.int (Int32.ofInt 0)] (xh_ui h2 3 6 ((xg 0 h2.2.1 3 6) - (Int32.ofInt 1))) [true] 11 hq rfl ⟨(by decide), trivial⟩ (fun _ => ?_)
    rw [show (xg 0 h2.2.1 3 6) = (xg 0 h.2.1 3 6) from fx_i g2 rfl]
    have hq : a_rq a_tb (xh_ui h2 3 6 ((xg 0 h.2.1 3 6) - (Int32.ofInt 1))) := a_rq_ui hq
    exact xq_ret rfl rfl rfl ⟨rfl, fx_ui (fx_t (fx_0) (fx_w g2 (fun _ _ z => (or_f z).1) (fun _ _ z => z))) rfl⟩
  | false =>
    refine xq_n 98 [0, 2, 3, 4] [(0, .ref 3), (2, .int x2), (3, .int (Int32.ofInt 0)), (4, .int x4)] [.int x2, .int 6, .ref 4] h [false, true] 11 hq rfl ⟨c1, (by decide), trivial⟩ (fun hq => ?_)
    refine xq_run hq rfl rfl (add_q hq) ?_
    rintro v3 h3 ⟨rfl, g3⟩
    have hq := fx_q g3 hq
    refine xq_n 129 [] [] [.int (Int32.ofInt 0)] (xh_ui h3 3 6 ((xg 0 h3.2.1 3 6) - (Int32.ofInt 1))) [true] 11 hq rfl ⟨(by decide), trivial⟩ (fun _ => ?_)
    rw [show (xg 0 h3.2.1 3 6) = (xg 0 h.2.1 3 6) from fx_i g3 rfl]
    have hq : a_rq a_tb (xh_ui h3 3 6 ((xg 0 h.2.1 3 6) - (Int32.ofInt 1))) := a_rq_ui hq
    exact xq_ret rfl rfl rfl ⟨rfl, fx_ui (fx_t (fx_0) (fx_w g3 (fun _ _ z => (or_f z).1) (fun _ _ z => z))) rfl⟩
set_option maxRecDepth 100000 in
set_option maxHeartbeats 4000000 in
theorem qu_lp {f P o d : Nat} {x2 : Int32} {h0 : xh_H} (ii : sItem T n mem nn NM f) (o6 : o ≤ 119) (d12 : d ≤ 11) : ∀ g, g ≤ f → ∀ (h : xh_H) (i p1 o1 : Nat), cr h T n mem nn NM p1 o1 (d + 1) → fx cS fN h0 h → o + 2 + i ≤ o1 → o1 ≤ 120 → (∀ fs : List Nat, fs.length = d + 1 → Rc T n mem nn (nmW T NM) (1, P, o + 1, 2 :: fs) (0, p1, o1, 2 :: fs)) → a_rq a_tb h → xq g xi_X4_readQuota xmi_X4_readQuota 57 [(0, .ref 3), (2, .int x2), (3, .int (Int32.ofInt 1)), (4, .int (nI i))] [] h (rO h0 T n mem nn NM o d (fun p' o' => ∀ fs : List Nat, fs.length = d + 1 → Rc T n mem nn (nmW T NM) (1, P, o + 1, 2 :: fs) (0, p', o', fs)) (fun e => ∀ fs : List Nat, fs.length = d + 1 → Fl T n mem nn (nmW T NM) (1, P, o + 1, 2 :: fs) e)) := by
  intro g
  induction g with
  | zero => intros; exact xq_0
  | succ g ihg =>
    intro hg h i p1 o1 c0 g0 hi ho GG hq
    have hT : ∀ k, k < n → T k < 256 := fun k hk' => (c0.1.2.2 k hk').1
    have kb := tkk_lt (T := T) (n := n) (p := p1) hT
    have n6 := c0.1.2.1
    have s6 := tks_le (T := T) (n := n) (p := p1)
    have mm := c0.2.2.2.2.1
    have n16 := c0.2.2.2.2.2.2.2.2.2.1.2.1
    cases c1 : xe_c .gt (nI i) 120 with
    | true =>
      have z1 : i > 120 := nq_gtt (a := i) (b := 120) (by omega) (by omega) c1
      omega
    | false =>
      have z1 : i ≤ 120 := nq_gtf (a := i) (b := 120) (by omega) (by omega) c1
      cases c2 : xe_c .eq (nI (tkk T n p1)) 93 with
      | true =>
        have z2 : (tkk T n p1) = 93 := nq_eqt (a := (tkk T n p1)) (b := 93) (by omega) (by omega) c2
        refine xq_m 98 [0, 2, 3, 4] [(0, .ref 3), (2, .int x2), (3, .int (Int32.ofInt 1)), (4, .int (nI i))] [.int x2, .int 6, .ref 4] h [false, false, true] 16 hq rfl ⟨c1, (by decide), (show xe_c .eq (xg 0 h.2.1 8 3) 93 = true by rw [show (xg 0 h.2.1 8 3) = (nI (tkk T n p1)) from c0.2.1.1]; exact c2), trivial⟩ (fun hq => ?_)
        refine xq_run hq rfl rfl (add_q hq) ?_
        rintro v3 h3 ⟨rfl, g3⟩
        have hq := fx_q g3 hq
        refine xq_n 118 [0, 2, 3, 4] [(0, .ref 3), (2, .int x2), (3, .int (Int32.ofInt 1)), (4, .int (nI i))] [.int 93, .ref 3] (xh_ui h3 3 6 ((xg 0 h3.2.1 3 6) - (Int32.ofInt 1))) [false] 12 hq rfl ⟨(by decide), trivial⟩ (fun _ => ?_)
        rw [show (xg 0 h3.2.1 3 6) = (nI (d + 1)) from (fx_i g3 rfl).trans (c0.2.2.2.2.2.2.2.1)]
        rw [show ((nI (d + 1)) - (Int32.ofInt 1)) = nI ((d + 1) - 1) from nI_dec1 (by omega)]
        rw [show (nI ((d + 1) - 1)) = nI d from (by rw [Nat.add_sub_cancel])]
        have hq : a_rq a_tb (xh_ui h3 3 6 (nI d)) := a_rq_ui hq
        refine xq_run hq rfl rfl (ts_q (c := 93) (by decide) (by decide) ⟨ct_f (S := cS) (L := fN) (ct_f (S := cS) (L := fN) (c0.1) (fx_w g3 (fun _ _ => aS_c) (fun _ _ z => z)) rfl (fun _ => rfl)) (fx_ui fx_0 rfl) rfl (fun _ => rfl), tok_f (S := fun c k => Nat.beq c 3) (L := fN) (tok_f (c0.2.1) g3 (fun _ => rfl)) (fx_ui fx_0 rfl) (fun _ => rfl), (gx_o (by decide)).trans ((fx_i g3 rfl).trans (c0.2.2.1)), (gx_k (by decide)).trans ((fx_i g3 rfl).trans (c0.2.2.2.1)), c0.2.2.2.2.1, (gx_k (by decide)).trans ((fx_i g3 rfl).trans (c0.2.2.2.2.2.1)), by omega, gx_s, by omega, cn_f (S := cS) (L := fN) (cn_f (S := cS) (L := fN) (c0.2.2.2.2.2.2.2.2.2.1) (fx_w g3 (fun _ _ => aS_c) (fun _ _ z => z)) rfl (fun _ => rfl) (fun _ => rfl)) (fx_ui fx_0 rfl) rfl (fun _ => rfl) (fun _ => rfl), (gx_k (by decide)).trans ((fx_i g3 rfl).trans (c0.2.2.2.2.2.2.2.2.2.2))⟩ hq) ?_
        rintro v4 h4 ⟨g4, l4, q4⟩
        have hq := fx_q g4 hq
        by_cases w4_0 : tkk T n p1 ≠ 93
        · obtain ⟨rfl, f4, y4, z4, e64, e4⟩ := q4 1 (tks T n p1) (by unfold kS; rw [if_pos w4_0])
          refine xq_n 129 [] [] [.int (Int32.ofInt 0)] h4 [true] 4 hq rfl ⟨(by decide), trivial⟩ (fun hq => ?_)
          exfalso; omega
        · skip
          obtain ⟨rfl, c4⟩ := l4 (tke T n p1) (o1) (d) (by unfold kS; rw [if_neg w4_0])
          have kb4 := tkk_lt (T := T) (n := n) (p := tke T n p1) hT
          have s64 := tks_le (T := T) (n := n) (p := tke T n p1)
          refine xq_n 129 [] [] [.int (Int32.ofInt 1)] h4 [false] 5 hq rfl ⟨(by decide), trivial⟩ (fun hq => ?_)
          refine xq_ret rfl rfl rfl ⟨fx_t (fx_ui (fx_t (g0) (fx_w g3 (fun _ _ => aS_c) (fun _ _ z => z))) rfl) (g4), Or.inl ⟨rfl, tke T n p1, o1, c4, by omega, by omega, fun fs hf => Rc_t (GG fs hf) (Rc_1 ?_)⟩⟩
          rw [enE]
          unfold en
          rw [if_pos (show (2 :: fs).head? = some 2 from rfl), if_pos (by omega)]
          rfl
      | false =>
        have z2 : (tkk T n p1) ≠ 93 := nq_eqf (a := (tkk T n p1)) (b := 93) (by omega) (by omega) c2
        have es : ∀ fs : List Nat, stp T n mem nn (nmW T NM) (0, p1, o1, 2 :: fs) = .inl (1, p1, o1, 2 :: fs) := fun fs => by rw [enE]; unfold en; rw [if_pos (show (2 :: fs).head? = some 2 from rfl), if_neg (by omega)]
        refine xq_m 81 [0, 2, 3, 4] [(0, .ref 3), (2, .int x2), (3, .int (Int32.ofInt 1)), (4, .int (nI i))] [.ref 3] h [false, false, false] 13 hq rfl ⟨c1, (by decide), (show xe_c .eq (xg 0 h.2.1 8 3) 93 = false by rw [show (xg 0 h.2.1 8 3) = (nI (tkk T n p1)) from c0.2.1.1]; exact c2), trivial⟩ (fun hq => ?_)
        refine xq_run hq rfl rfl (xq_le (by omega) (ii _ _ _ _ c0 (by omega) (by omega) hq)) ?_
        rintro v5 h5 ⟨g5, ⟨rfl, pq5, oq5, c5, lt5, le5, G5⟩ | ⟨rfl, kq5, lq5, f5, y5, B5⟩⟩
        · have hq := fx_q g5 hq
          have kb5 := tkk_lt (T := T) (n := n) (p := pq5) hT
          have s65 := tks_le (T := T) (n := n) (p := pq5)
          refine xq_n 57 [0, 2, 3, 4] [(0, .ref 3), (2, .int x2), (3, .int (Int32.ofInt 1)), (4, .int ((nI i) + Int32.ofInt 1))] [] h5 [] 5 hq rfl trivial (fun hq => ?_)
          rw [show ((nI i) + Int32.ofInt 1) = nI (i + 1) from nI_1 _]
          exact ihg (by omega) _ (i + 1) pq5 oq5 c5 (fx_t (g0) (g5)) (by omega) (by omega) (fun fs hf => Rc_t (GG fs hf) (Rc_t (Rc_1 (es fs)) (G5 fs hf))) hq
        · have hq := fx_q g5 hq
          refine xq_n 57 [0, 2, 3, 4] [(0, .ref 3), (2, .int x2), (3, .int (Int32.ofInt 0)), (4, .int ((nI i) + Int32.ofInt 1))] [] h5 [] 5 hq rfl trivial (fun hq => ?_)
          rw [show ((nI i) + Int32.ofInt 1) = nI (i + 1) from nI_1 _]
          refine xq_mono (qz_q hq) (fun v h' e => ?_)
          obtain ⟨rfl, gz⟩ := e
          exact ⟨fx_t (fx_t (g0) (g5)) (fx_w gz (fun _ _ => zS_c) (fun _ _ z => z)), Or.inr ⟨rfl, kq5, lq5, (fx_i gz rfl).trans (f5), (fx_i gz rfl).trans (y5), fun fs hf => Fl_t (Rc_t (GG fs hf) (Rc_1 (es fs))) (B5 fs hf)⟩⟩
set_option maxRecDepth 100000 in
set_option maxHeartbeats 4000000 in
theorem quo_s {f : Nat} (ii : sItem T n mem nn NM f) : sQuota T n mem nn NM (f + 1) := by
  intro h p o d st num c0 o6 d12 n9 hq
  have hT : ∀ k, k < n → T k < 256 := fun k hk' => (c0.1.2.2 k hk').1
  have kb := tkk_lt (T := T) (n := n) (p := p) hT
  have n6 := c0.1.2.1
  have s6 := tks_le (T := T) (n := n) (p := p)
  have mm := c0.2.2.2.2.1
  have n16 := c0.2.2.2.2.2.2.2.2.2.1.2.1
  cases c1 : xe_c .ge (nI num) (Int32.ofInt 1) with
  | true =>
    have z1 : num ≥ 1 := nq_get (a := num) (b := 1) (by omega) (by omega) c1
    refine xq_m 14 [0, 1, 2] [(0, .ref 3), (1, .int (nI st)), (2, .int (nI num))] [.int (nI st), .ref 3] h [true] 7 hq rfl ⟨c1, trivial⟩ (fun hq => ?_)
    refine xq_run hq rfl rfl (co_q (st := st) (by omega) c0 hq) ?_
    rintro v2 h2 ⟨g2, l2, q2⟩
    have hq := fx_q g2 hq
    by_cases w2_0 : 120 ≤ o
    · obtain ⟨rfl, f2, y2, z2, e62, e2⟩ := q2 4 (st) (by unfold kC; rw [if_pos w2_0])
      refine xq_n 39 [] [] [.int (Int32.ofInt 0)] h2 [true] 4 hq rfl ⟨(by decide), trivial⟩ (fun hq => ?_)
      refine xq_ret rfl rfl rfl ⟨fx_t (fx_0) (g2), Or.inr ⟨rfl, 4, st, f2, y2, fun fs hf => Or.inl ?_⟩⟩
      unfold qt
      try unfold bls
      repeat (first | rw [if_pos (by omega)] | rw [if_neg (by omega)] | rw [if_pos w2_0] | rw [if_neg w2_0] | rw [if_neg (by rw [w2_0]; decide)])
      try rfl
    · skip
      obtain ⟨rfl, c2⟩ := l2 (p) (o + 1) (d) (by unfold kC; rw [if_neg w2_0])
      have kb2 := tkk_lt (T := T) (n := n) (p := p) hT
      have s62 := tks_le (T := T) (n := n) (p := p)
      refine xq_n 23 [0, 1, 2] [(0, .ref 3), (1, .int (nI st)), (2, .int (nI num))] [.float 6, .ref 3] h2 [false] 5 hq rfl ⟨(by decide), trivial⟩ (fun hq => ?_)
      refine xq_run hq rfl rfl (tw4_q c2 hq) ?_
      rintro v3 h3 ⟨g3, l3, q3⟩
      have hq := fx_q g3 hq
      by_cases w3_0 : ky T n p 4 = false
      · obtain ⟨rfl, f3, y3, z3, e63, e3⟩ := q3 1 (tks T n p) (by unfold kW; rw [if_pos w3_0])
        refine xq_n 39 [] [] [.int (Int32.ofInt 0)] h3 [true] 4 hq rfl ⟨(by decide), trivial⟩ (fun hq => ?_)
        refine xq_ret rfl rfl rfl ⟨fx_t (fx_t (fx_0) (g2)) (g3), Or.inr ⟨rfl, 1, tks T n p, f3, y3, fun fs hf => Or.inl ?_⟩⟩
        unfold qt
        try unfold bls
        repeat (first | rw [if_pos (by omega)] | rw [if_neg (by omega)] | rw [if_pos w2_0] | rw [if_neg w2_0] | rw [if_neg (by rw [w2_0]; decide)] | rw [if_pos w3_0] | rw [if_neg w3_0] | rw [if_neg (by rw [w3_0]; decide)])
        try rfl
      · skip
        have w3_0t : ky T n p 4 = true := eq_true_of_ne_false w3_0
        have dw3_0 := of_decide_eq_true w3_0t
        obtain ⟨rfl, c3⟩ := l3 (tke T n p) ((o + 1)) (d) (by unfold kW; rw [if_neg w3_0])
        have kb3 := tkk_lt (T := T) (n := n) (p := tke T n p) hT
        have s63 := tks_le (T := T) (n := n) (p := tke T n p)
        refine xq_n 32 [0, 1, 2] [(0, .ref 3), (1, .int (nI st)), (2, .int (nI num))] [.int 91, .ref 3] h3 [false] 5 hq rfl ⟨(by decide), trivial⟩ (fun hq => ?_)
        refine xq_run hq rfl rfl (to_q (c := 91) (by decide) (by decide) c3 hq) ?_
        rintro v4 h4 ⟨g4, l4, q4⟩
        have hq := fx_q g4 hq
        by_cases w4_0 : tkk T n (tke T n p) ≠ 91
        · obtain ⟨rfl, f4, y4, z4, e64, e4⟩ := q4 1 (tks T n (tke T n p)) (by unfold kO; rw [if_pos w4_0])
          refine xq_n 39 [] [] [.int (Int32.ofInt 0)] h4 [false] 4 hq rfl ⟨(by decide), trivial⟩ (fun hq => ?_)
          refine xq_ret rfl rfl rfl ⟨fx_t (fx_t (fx_t (fx_0) (g2)) (g3)) (g4), Or.inr ⟨rfl, 1, tks T n (tke T n p), f4, y4, fun fs hf => Or.inl ?_⟩⟩
          unfold qt
          try unfold bls
          repeat (first | rw [if_pos (by omega)] | rw [if_neg (by omega)] | rw [if_pos w2_0] | rw [if_neg w2_0] | rw [if_neg (by rw [w2_0]; decide)] | rw [if_pos w3_0] | rw [if_neg w3_0] | rw [if_neg (by rw [w3_0]; decide)] | rw [if_pos w3_0t] | rw [if_neg w3_0t] | rw [if_neg (by rw [w3_0t]; decide)] | rw [if_pos w4_0] | rw [if_neg w4_0] | rw [if_neg (by rw [w4_0]; decide)])
          try rfl
        · skip
          by_cases w4_1 : 12 ≤ d
          · obtain ⟨rfl, f4, y4, z4, e64, e4⟩ := q4 4 (tks T n (tke T n p)) (by unfold kO; rw [if_neg w4_0, if_pos w4_1])
            refine xq_n 39 [] [] [.int (Int32.ofInt 0)] h4 [false] 4 hq rfl ⟨(by decide), trivial⟩ (fun hq => ?_)
            refine xq_ret rfl rfl rfl ⟨fx_t (fx_t (fx_t (fx_0) (g2)) (g3)) (g4), Or.inr ⟨rfl, 4, tks T n (tke T n p), f4, y4, fun fs hf => Or.inl ?_⟩⟩
            unfold qt
            try unfold bls
            repeat (first | rw [if_pos (by omega)] | rw [if_neg (by omega)] | rw [if_pos w2_0] | rw [if_neg w2_0] | rw [if_neg (by rw [w2_0]; decide)] | rw [if_pos w3_0] | rw [if_neg w3_0] | rw [if_neg (by rw [w3_0]; decide)] | rw [if_pos w3_0t] | rw [if_neg w3_0t] | rw [if_neg (by rw [w3_0t]; decide)] | rw [if_pos w4_0] | rw [if_neg w4_0] | rw [if_neg (by rw [w4_0]; decide)] | rw [if_pos w4_1] | rw [if_neg w4_1] | rw [if_neg (by rw [w4_1]; decide)])
            try rfl
          · skip
            obtain ⟨rfl, c4⟩ := l4 (tke T n (tke T n p)) ((o + 1)) (d + 1) (by unfold kO; rw [if_neg w4_0, if_neg w4_1])
            have kb4 := tkk_lt (T := T) (n := n) (p := tke T n (tke T n p)) hT
            have s64 := tks_le (T := T) (n := n) (p := tke T n (tke T n p))
            refine xq_n 46 [0, 1, 2] [(0, .ref 3), (1, .int (nI st)), (2, .int (nI num))] [.int (Int32.ofInt 0), .int (Int32.ofInt 4), .ref 4] h4 [true] 7 hq rfl ⟨(by decide), trivial⟩ (fun hq => ?_)
            refine xq_run hq rfl rfl (add_q hq) ?_
            rintro v5 h5 ⟨rfl, g5⟩
            have hq := fx_q g5 hq
            refine xq_n 50 [0, 1, 2] [(0, .ref 3), (1, .int (nI st)), (2, .int (nI num))] [.ref 3] h5 [] 3 hq rfl trivial (fun hq => ?_)
            refine xq_run hq rfl rfl (ii _ _ _ _ ⟨ct_f (S := cS) (L := fN) (c4.1) (fx_w g5 (fun _ _ => aS_c) (fun _ _ z => z)) rfl (fun _ => rfl), tok_f (c4.2.1) g5 (fun _ => rfl), (fx_i g5 rfl).trans (c4.2.2.1), (fx_i g5 rfl).trans (c4.2.2.2.1), c0.2.2.2.2.1, (fx_i g5 rfl).trans (c4.2.2.2.2.2.1), by omega, (fx_i g5 rfl).trans (c4.2.2.2.2.2.2.2.1), by omega, cn_f (S := cS) (L := fN) (c4.2.2.2.2.2.2.2.2.2.1) (fx_w g5 (fun _ _ => aS_c) (fun _ _ z => z)) rfl (fun _ => rfl) (fun _ => rfl), (fx_i g5 rfl).trans (c4.2.2.2.2.2.2.2.2.2.2)⟩ (by omega) (by omega) hq) ?_
            rintro v6 h6 ⟨g6, ⟨rfl, pq6, oq6, c6, lt6, le6, G6⟩ | ⟨rfl, kq6, lq6, f6, y6, B6⟩⟩
            · have hq := fx_q g6 hq
              have kb6 := tkk_lt (T := T) (n := n) (p := pq6) hT
              have s66 := tks_le (T := T) (n := n) (p := pq6)
              refine xq_n 57 [0, 2, 3, 4] [(0, .ref 3), (2, .int (nI num)), (3, .int (Int32.ofInt 1)), (4, .int (Int32.ofInt 0))] [] h6 [] 5 hq rfl trivial (fun hq => ?_)
              refine xq_mono (qu_lp (P := tke T n (tke T n p)) (o := o) (d := d) ii (by omega) (by omega) f (Nat.le_refl _) _ 0 pq6 oq6 c6 (fx_t (fx_t (fx_t (fx_t (fx_t (fx_0) (g2)) (g3)) (g4)) (fx_w g5 (fun _ _ => aS_c) (fun _ _ z => z))) (g6)) (by omega) (by omega) (fun fs hf => G6 fs hf) hq) (fun v h' e => ?_)
              obtain ⟨e1, ⟨rfl, p', o', e3, e4, e5, e6⟩ | ⟨rfl, k, pl, e3, e4, e5⟩⟩ := e
              · refine ⟨e1, Or.inl ⟨rfl, p', o', e3, e4, e5, fun fs hf => ?_⟩⟩
                have er : qt T n p o st num fs = .inl (1, tke T n (tke T n p), o + 1, 2 :: fs) := by unfold qt bls; repeat (first | rw [if_pos (by omega)] | rw [if_neg (by omega)] | rw [if_pos w2_0] | rw [if_neg w2_0] | rw [if_neg (by rw [w2_0]; decide)] | rw [if_pos w3_0] | rw [if_neg w3_0] | rw [if_neg (by rw [w3_0]; decide)] | rw [if_pos w3_0t] | rw [if_neg w3_0t] | rw [if_neg (by rw [w3_0t]; decide)] | rw [if_pos w4_0] | rw [if_neg w4_0] | rw [if_neg (by rw [w4_0]; decide)] | rw [if_pos w4_1] | rw [if_neg w4_1] | rw [if_neg (by rw [w4_1]; decide)])
                exact ⟨_, er, e6 fs hf⟩
              · refine ⟨e1, Or.inr ⟨rfl, k, pl, e3, e4, fun fs hf => ?_⟩⟩
                have er : qt T n p o st num fs = .inl (1, tke T n (tke T n p), o + 1, 2 :: fs) := by unfold qt bls; repeat (first | rw [if_pos (by omega)] | rw [if_neg (by omega)] | rw [if_pos w2_0] | rw [if_neg w2_0] | rw [if_neg (by rw [w2_0]; decide)] | rw [if_pos w3_0] | rw [if_neg w3_0] | rw [if_neg (by rw [w3_0]; decide)] | rw [if_pos w3_0t] | rw [if_neg w3_0t] | rw [if_neg (by rw [w3_0t]; decide)] | rw [if_pos w4_0] | rw [if_neg w4_0] | rw [if_neg (by rw [w4_0]; decide)] | rw [if_pos w4_1] | rw [if_neg w4_1] | rw [if_neg (by rw [w4_1]; decide)])
                exact Or.inr ⟨_, er, e5 fs hf⟩
            · have hq := fx_q g6 hq
              refine xq_n 57 [0, 2, 3, 4] [(0, .ref 3), (2, .int (nI num)), (3, .int (Int32.ofInt 0)), (4, .int (Int32.ofInt 0))] [] h6 [] 5 hq rfl trivial (fun hq => ?_)
              refine xq_mono (qz_q hq) (fun v h' e => ?_)
              obtain ⟨rfl, gz⟩ := e
              refine ⟨fx_t (fx_t (fx_t (fx_t (fx_t (fx_t (fx_0) (g2)) (g3)) (g4)) (fx_w g5 (fun _ _ => aS_c) (fun _ _ z => z))) (g6)) (fx_w gz (fun _ _ => zS_c) (fun _ _ z => z)), Or.inr ⟨rfl, kq6, lq6, (fx_i gz rfl).trans (f6), (fx_i gz rfl).trans (y6), fun fs hf => ?_⟩⟩
              have er : qt T n p o st num fs = .inl (1, tke T n (tke T n p), o + 1, 2 :: fs) := by unfold qt bls; repeat (first | rw [if_pos (by omega)] | rw [if_neg (by omega)] | rw [if_pos w2_0] | rw [if_neg w2_0] | rw [if_neg (by rw [w2_0]; decide)] | rw [if_pos w3_0] | rw [if_neg w3_0] | rw [if_neg (by rw [w3_0]; decide)] | rw [if_pos w3_0t] | rw [if_neg w3_0t] | rw [if_neg (by rw [w3_0t]; decide)] | rw [if_pos w4_0] | rw [if_neg w4_0] | rw [if_neg (by rw [w4_0]; decide)] | rw [if_pos w4_1] | rw [if_neg w4_1] | rw [if_neg (by rw [w4_1]; decide)])
              exact Or.inr ⟨_, er, B6 fs hf⟩
  | false =>
    have z1 : num < 1 := nq_gef (a := num) (b := 1) (by omega) (by omega) c1
    refine xq_m 8 [0, 1, 2] [(0, .ref 3), (1, .int (nI st)), (2, .int (nI num))] [.int (nI st), .int (Int32.ofInt 2), .ref 3] h [false] 8 hq rfl ⟨c1, trivial⟩ (fun hq => ?_)
    refine xq_run hq rfl rfl (fail_q (k := 2) (pl := st) hq) ?_
    rintro v7 h7 ⟨rfl, g7, f7, l7⟩
    have hq := fx_q g7 hq
    refine xq_ret rfl rfl rfl ⟨fx_t (fx_0) (fx_w g7 (fun _ _ => fS_c) (fun _ _ z => z)), Or.inr ⟨rfl, 2, st, f7, l7, fun fs hf => Or.inl ?_⟩⟩
    unfold qt
    try unfold bls
    repeat (first | rw [if_pos (by omega)] | rw [if_neg (by omega)])
    try rfl
/-- ALL OF THEM -/
theorem rd_all : ∀ f, sOne T n mem nn NM f ∧ sAll T n mem nn NM f ∧ sRule T n mem nn NM f ∧ sItem T n mem nn NM f ∧ sQuota T n mem nn NM f := by
  intro f
  induction f with
  | zero => exact ⟨fun _ _ _ _ _ _ _ _ => xq_0, fun _ _ _ _ _ _ _ _ => xq_0, fun _ _ _ _ _ _ _ _ => xq_0, fun _ _ _ _ _ _ _ _ => xq_0, fun _ _ _ _ _ _ _ _ _ _ _ => xq_0⟩
  | succ f ih => exact ⟨one_s ih.2.2.2.2 ih.2.2.1, all_s ih.1, rul_s ih.2.1, item_s ih.1 ih.2.2.2.2, quo_s ih.2.2.2.1⟩
end XRO
end
section
section XRP
variable {T : Nat → Nat} {n mem nn : Nat} {NM : Nat → Nat × Nat}
def kT (T : Nat → Nat) (n nn : Nat) (NW : Nat → Nat) (p o d : Nat) : Sum (Nat × Nat × Nat) (Nat × Nat) := if nmt T n p = false then .inr (1, tks T n p) else if hasn nn NW (tkw T n p) = true then .inr (3, tks T n p) else if 16 ≤ nn then .inr (4, tks T n p) else .inl (tke T n p, o, d)
def kE (T : Nat → Nat) (n p o d : Nat) : Sum (Nat × Nat × Nat) (Nat × Nat) := if tkk T n p = 0 ∧ n ≤ 600 then .inl (p, o, d) else .inr (1, tks T n p)
set_option maxRecDepth 100000 in
set_option maxHeartbeats 4000000 in
theorem tnn_q {f p o d : Nat} {h : xh_H} (c0 : cr h T n mem nn NM p o d) (hq : a_rq a_tb h) : xq f xi_X4_takeNewName xmi_X4_takeNewName 0 [(0, .ref 3)] [] h (co_Q h T n mem nn NM (kT T n nn (nmW T NM) p o d)) := by
  have hT : ∀ k, k < n → T k < 256 := fun k hk' => (c0.1.2.2 k hk').1
  have kb := tkk_lt (T := T) (n := n) (p := p) hT
  have n6 := c0.1.2.1
  have s6 := tks_le (T := T) (n := n) (p := p)
  have mm := c0.2.2.2.2.1
  have n16 := c0.2.2.2.2.2.2.2.2.2.1.2.1
  have o121 := c0.2.2.2.2.2.2.1
  have d13 := c0.2.2.2.2.2.2.2.2.1
  refine xq_n 4 [0] [(0, .ref 3)] [.ref 8] h [] 4 hq rfl trivial (fun hq => ?_)
  refine xq_run hq rfl rfl (nm_q (c0.1) (c0.2.1) hq) ?_
  rintro v1 h_v1 ⟨rfl, rfl⟩
  cases b2 : (nmt T n p) with
  | true =>
    have db2 := of_decide_eq_true b2
    refine xq_n 24 [0] [(0, .ref 3)] [.ref 3] h [true] 4 hq rfl ⟨rfl, trivial⟩ (fun hq => ?_)
    refine xq_run hq rfl rfl (tn_q c0 (by omega) hq) ?_
    rintro v3 h_3 ⟨rfl, ⟨rfl, hn3⟩ | ⟨kk3, kl3, rfl, -, hn3⟩⟩
    · skip
      cases c4 : xe_c .lt (nI nn) 16 with
      | true =>
        have z4 : nn < 16 := nq_ltt (a := nn) (b := 16) (by omega) (by omega) c4
        refine xq_n 70 [0] [(0, .ref 3)] [.ref 8] h [true, true] 10 hq rfl ⟨(by decide), (show xe_c .lt (xg 0 h.2.1 3 7) 16 = true by rw [show (xg 0 h.2.1 3 7) = (nI nn) from c0.2.2.2.2.2.2.2.2.2.1.1]; exact c4), trivial⟩ (fun hq => ?_)
        have nz5 : tkk T n p ≠ 0 := by omega
        have le5 := tke_le nz5
        refine xq_run hq rfl rfl (adv_q hq hT (c0.1) (c0.2.2.1) ((c0.2.1.2.2.1 (by omega)).1) (by omega)) ?_
        rintro v5 h5 ⟨rfl, g5, t5⟩
        have hq := fx_q g5 hq
        have kb5 := tkk_lt (T := T) (n := n) (p := tke T n p) hT
        have s65 := tks_le (T := T) (n := n) (p := tke T n p)
        refine xq_n 74 [] [] [.int (Int32.ofInt 1)] h5 [] 3 hq rfl trivial (fun hq => ?_)
        have er : kT T n nn (nmW T NM) p o d = .inl (tke T n p, o, d) := by
          unfold kT
          repeat (first | rw [if_pos (by omega)] | rw [if_neg (by omega)] | rw [if_pos b2] | rw [if_neg (by rw [b2]; decide)] | rw [if_pos hn3] | rw [if_neg (by rw [hn3]; decide)])
          try rfl
        exact xq_ret rfl rfl rfl (co_l er (fx_t (fx_0) (fx_w g5 (fun _ _ => sS_c) (fun _ _ z => z))) rfl ⟨ct_f (S := cS) (L := fN) (c0.1) (fx_w g5 (fun _ _ => sS_c) (fun _ _ z => z)) rfl (fun _ => rfl), t5, (fx_i g5 rfl).trans (c0.2.2.1), (fx_i g5 rfl).trans (c0.2.2.2.1), c0.2.2.2.2.1, (fx_i g5 rfl).trans (c0.2.2.2.2.2.1), by omega, (fx_i g5 rfl).trans (c0.2.2.2.2.2.2.2.1), by omega, cn_f (S := cS) (L := fN) (c0.2.2.2.2.2.2.2.2.2.1) (fx_w g5 (fun _ _ => sS_c) (fun _ _ z => z)) rfl (fun _ => rfl) (fun _ => rfl), (fx_i g5 rfl).trans (c0.2.2.2.2.2.2.2.2.2.2)⟩)
      | false =>
        have z4 : nn ≥ 16 := nq_ltf (a := nn) (b := 16) (by omega) (by omega) c4
        refine xq_n 62 [0] [(0, .ref 3)] [.int (xg 0 h.2.1 8 4), .int (Int32.ofInt 4), .ref 3] h [true, false] 13 hq rfl ⟨(by decide), (show xe_c .lt (xg 0 h.2.1 3 7) 16 = false by rw [show (xg 0 h.2.1 3 7) = (nI nn) from c0.2.2.2.2.2.2.2.2.2.1.1]; exact c4), trivial⟩ (fun hq => ?_)
        rw [show (xg 0 h.2.1 8 4) = (nI (tks T n p)) from c0.2.1.2.1]
        refine xq_run hq rfl rfl (fail_q (k := 4) (pl := (tks T n p)) hq) ?_
        rintro v6 h6 ⟨rfl, g6, f6, l6⟩
        have hq := fx_q g6 hq
        have er : kT T n nn (nmW T NM) p o d = .inr (4, tks T n p) := by
          unfold kT
          repeat (first | rw [if_pos (by omega)] | rw [if_neg (by omega)] | rw [if_pos b2] | rw [if_neg (by rw [b2]; decide)] | rw [if_pos hn3] | rw [if_neg (by rw [hn3]; decide)])
          try rfl
        exact xq_ret rfl rfl rfl (co_r er (fx_t (fx_0) (fx_w g6 (fun _ _ => fS_c) (fun _ _ z => z))) rfl (f6) (l6) (tok_f (c0.2.1) g6 (fun _ => rfl)).2.2.2.2)
    · skip
      cases c7 : xe_c .eq (nI kk3) (Int32.ofInt (-1)) with
      | true =>
        exact absurd (of_decide_eq_true c7) (nIm1 (by omega))
      | false =>
        refine xq_n 40 [0] [(0, .ref 3)] [.int (xg 0 h.2.1 8 4), .int (Int32.ofInt 3), .ref 3] h [false] 9 hq rfl ⟨c7, trivial⟩ (fun hq => ?_)
        rw [show (xg 0 h.2.1 8 4) = (nI (tks T n p)) from c0.2.1.2.1]
        refine xq_run hq rfl rfl (fail_q (k := 3) (pl := (tks T n p)) hq) ?_
        rintro v8 h8 ⟨rfl, g8, f8, l8⟩
        have hq := fx_q g8 hq
        have er : kT T n nn (nmW T NM) p o d = .inr (3, tks T n p) := by
          unfold kT
          repeat (first | rw [if_pos (by omega)] | rw [if_neg (by omega)] | rw [if_pos b2] | rw [if_neg (by rw [b2]; decide)] | rw [if_pos hn3] | rw [if_neg (by rw [hn3]; decide)])
          try rfl
        exact xq_ret rfl rfl rfl (co_r er (fx_t (fx_0) (fx_w g8 (fun _ _ => fS_c) (fun _ _ z => z))) rfl (f8) (l8) (tok_f (c0.2.1) g8 (fun _ => rfl)).2.2.2.2)
  | false =>
    have db2 := of_decide_eq_false b2
    refine xq_n 19 [0] [(0, .ref 3)] [.int (xg 0 h.2.1 8 4), .int (Int32.ofInt 1), .ref 3] h [false] 8 hq rfl ⟨rfl, trivial⟩ (fun hq => ?_)
    rw [show (xg 0 h.2.1 8 4) = (nI (tks T n p)) from c0.2.1.2.1]
    refine xq_run hq rfl rfl (fail_q (k := 1) (pl := (tks T n p)) hq) ?_
    rintro v9 h9 ⟨rfl, g9, f9, l9⟩
    have hq := fx_q g9 hq
    have er : kT T n nn (nmW T NM) p o d = .inr (1, tks T n p) := by
      unfold kT
      repeat (first | rw [if_pos (by omega)] | rw [if_neg (by omega)] | rw [if_pos b2] | rw [if_neg (by rw [b2]; decide)])
      try rfl
    exact xq_ret rfl rfl rfl (co_r er (fx_t (fx_0) (fx_w g9 (fun _ _ => fS_c) (fun _ _ z => z))) rfl (f9) (l9) (tok_f (c0.2.1) g9 (fun _ => rfl)).2.2.2.2)
set_option maxRecDepth 100000 in
set_option maxHeartbeats 4000000 in
theorem cut_q {f : Nat} {h : xh_H} (hc : ct h T n) (hq : a_rq a_tb h) : xq f xi_X6_isCut xmi_X6_isCut 0 [(0, .ref 8)] [] h (fun v h' => h = h' ∧ v = some (.int (bl (decide (600 < n))))) := by
  have n6 := hc.2.1
  cases c1 : xe_c .le (nI n) 600 with
  | true =>
    have z1 : n ≤ 600 := nq_let (a := n) (b := 600) (by omega) (by omega) c1
    refine xq_n 18 [] [] [.int (Int32.ofInt 0)] h [true] 8 hq rfl ⟨(show xe_c .le (xg 0 h.2.1 1 1) 600 = true by rw [show (xg 0 h.2.1 1 1) = (nI n) from hc.1]; exact c1), trivial⟩ (fun hq => ?_)
    exact xq_ret rfl rfl rfl ⟨rfl, by rw [show decide (600 < n) = false from decide_eq_false (by omega)]; rfl⟩
  | false =>
    have z1 : n > 600 := nq_lef (a := n) (b := 600) (by omega) (by omega) c1
    refine xq_n 18 [] [] [.int (Int32.ofInt 1)] h [false] 9 hq rfl ⟨(show xe_c .le (xg 0 h.2.1 1 1) 600 = false by rw [show (xg 0 h.2.1 1 1) = (nI n) from hc.1]; exact c1), trivial⟩ (fun hq => ?_)
    exact xq_ret rfl rfl rfl ⟨rfl, by rw [show decide (600 < n) = true from decide_eq_true (by omega)]; rfl⟩
set_option maxRecDepth 100000 in
set_option maxHeartbeats 4000000 in
theorem te_q {f p o d : Nat} {h : xh_H} (c0 : cr h T n mem nn NM p o d) (hq : a_rq a_tb h) : xq f xi_X4_takeEnd xmi_X4_takeEnd 0 [(0, .ref 3)] [] h (co_Q h T n mem nn NM (kE T n p o d)) := by
  have hT : ∀ k, k < n → T k < 256 := fun k hk' => (c0.1.2.2 k hk').1
  have kb := tkk_lt (T := T) (n := n) (p := p) hT
  have n6 := c0.1.2.1
  have s6 := tks_le (T := T) (n := n) (p := p)
  have mm := c0.2.2.2.2.1
  have n16 := c0.2.2.2.2.2.2.2.2.2.1.2.1
  have o121 := c0.2.2.2.2.2.2.1
  have d13 := c0.2.2.2.2.2.2.2.2.1
  cases c1 : xe_c .ne (nI (tkk T n p)) 0 with
  | true =>
    have z1 : (tkk T n p) ≠ 0 := nq_net (a := (tkk T n p)) (b := 0) (by omega) (by omega) c1
    refine xq_n 39 [0, 1] [(0, .ref 3), (1, .int (Int32.ofInt 0))] [.int (xg 0 h.2.1 8 4), .int (Int32.ofInt 1), .ref 3] h [true, false] 15 hq rfl ⟨(show xe_c .ne (xg 0 h.2.1 8 3) 0 = true by rw [show (xg 0 h.2.1 8 3) = (nI (tkk T n p)) from c0.2.1.1]; exact c1), (by decide), trivial⟩ (fun hq => ?_)
    rw [show (xg 0 h.2.1 8 4) = (nI (tks T n p)) from c0.2.1.2.1]
    refine xq_run hq rfl rfl (fail_q (k := 1) (pl := (tks T n p)) hq) ?_
    rintro v2 h2 ⟨rfl, g2, f2, l2⟩
    have hq := fx_q g2 hq
    refine xq_n 50 [] [] [.int (Int32.ofInt 0)] h2 [true] 4 hq rfl ⟨(by decide), trivial⟩ (fun hq => ?_)
    have er : kE T n p o d = .inr (1, tks T n p) := by
      unfold kE
      repeat (first | rw [if_pos (by omega)] | rw [if_neg (by omega)])
      try rfl
    exact xq_ret rfl rfl rfl (co_r er (fx_t (fx_0) (fx_w g2 (fun _ _ => fS_c) (fun _ _ z => z))) rfl (f2) (l2) (tok_f (c0.2.1) g2 (fun _ => rfl)).2.2.2.2)
  | false =>
    have z1 : (tkk T n p) = 0 := nq_nef (a := (tkk T n p)) (b := 0) (by omega) (by omega) c1
    refine xq_n 14 [0] [(0, .ref 3)] [.ref 8] h [false] 8 hq rfl ⟨(show xe_c .ne (xg 0 h.2.1 8 3) 0 = false by rw [show (xg 0 h.2.1 8 3) = (nI (tkk T n p)) from c0.2.1.1]; exact c1), trivial⟩ (fun hq => ?_)
    refine xq_run hq rfl rfl (cut_q (c0.1) hq) ?_
    rintro v3 h_v3 ⟨rfl, rfl⟩
    cases b4 : (decide (600 < n)) with
    | true =>
      have db4 := of_decide_eq_true b4
      refine xq_n 39 [0, 1] [(0, .ref 3), (1, .int (Int32.ofInt 0))] [.int (xg 0 h.2.1 8 4), .int (Int32.ofInt 1), .ref 3] h [true, false] 12 hq rfl ⟨rfl, (by decide), trivial⟩ (fun hq => ?_)
      rw [show (xg 0 h.2.1 8 4) = (nI (tks T n p)) from c0.2.1.2.1]
      refine xq_run hq rfl rfl (fail_q (k := 1) (pl := (tks T n p)) hq) ?_
      rintro v5 h5 ⟨rfl, g5, f5, l5⟩
      have hq := fx_q g5 hq
      refine xq_n 50 [] [] [.int (Int32.ofInt 0)] h5 [true] 4 hq rfl ⟨(by decide), trivial⟩ (fun hq => ?_)
      have er : kE T n p o d = .inr (1, tks T n p) := by
        unfold kE
        repeat (first | rw [if_pos (by omega)] | rw [if_neg (by omega)] | rw [if_pos b4] | rw [if_neg (by rw [b4]; decide)])
        try rfl
      exact xq_ret rfl rfl rfl (co_r er (fx_t (fx_0) (fx_w g5 (fun _ _ => fS_c) (fun _ _ z => z))) rfl (f5) (l5) (tok_f (c0.2.1) g5 (fun _ => rfl)).2.2.2.2)
    | false =>
      have db4 := of_decide_eq_false b4
      refine xq_n 50 [] [] [.int (Int32.ofInt 1)] h [false, true] 10 hq rfl ⟨rfl, (by decide), trivial⟩ (fun hq => ?_)
      have er : kE T n p o d = .inl (p, o, d) := by
        unfold kE
        repeat (first | rw [if_pos (by omega)] | rw [if_neg (by omega)] | rw [if_pos b4] | rw [if_neg (by rw [b4]; decide)])
        try rfl
      exact xq_ret rfl rfl rfl (co_l er (fx_0) rfl c0)
def upM (NM : Nat → Nat × Nat) (nn : Nat) (x : Nat × Nat) : Nat → Nat × Nat := fun k => if k = nn then x else NM k
theorem nmW_up {x : Nat × Nat} : nmW T (upM NM nn x) = upN (nmW T NM) nn (wv T x.1 (x.2 - x.1)) := by
  funext k
  unfold nmW upM upN
  by_cases e : k = nn
  · rw [if_pos e, if_pos e]
  · rw [if_neg e, if_neg e]
def cT (c k : Nat) : Bool := cS c k || ((Nat.beq c 3 && Nat.beq k 7) || (Nat.beq c 9 || Nat.beq c 10))
theorem cS_t {c k : Nat} (h : cT c k = false) : cS c k = false := (or_f h).1
def bc_Q (h : xh_H) (T : Nat → Nat) (n mem nn : Nat) (NM : Nat → Nat × Nat) (p o : Nat) (v : Option Value) (h' : xh_H) : Prop := fx cT fN h h' ∧ ((v = some (.int 1) ∧ nn < 16 ∧ ∃ p' o', o' ≤ 120 ∧ cr h' T n mem (nn + 1) (upM NM nn (tks T n (tke T n p), tke T n (tke T n p))) p' o' 0 ∧ Bdy T n mem nn (nmW T NM) p o (.inl (p', o', tkw T n (tke T n p)))) ∨ (v = some (.int 0) ∧ ∃ k pl, xg 0 h'.2.1 3 8 = nI k ∧ xg 0 h'.2.1 3 9 = nI pl ∧ Bdy T n mem nn (nmW T NM) p o (.inr (k, pl))))
set_option maxRecDepth 100000 in
set_option maxHeartbeats 4000000 in
theorem bd_end {f p o p' o' : Nat} {h h1 : xh_H} (hq : a_rq a_tb h1) (c1 : cr h1 T n mem nn NM p' o' 0) (g1 : fx cS fN h h1) (n15 : nn < 16) (h2 : tkk T n (tke T n p) = 2) (o6 : o' ≤ 120) (hB : Bdy T n mem nn (nmW T NM) p o (.inl (p', o', tkw T n (tke T n p)))) : xq f xi_X4_readBody xmi_X4_readBody 57 [(0, .ref 3), (1, .int (nI (tks T n (tke T n p)))), (2, .int (nI (tke T n (tke T n p))))] [] h1 (bc_Q h T n mem nn NM p o) := by
  have gt := tke_gt (T := T) (n := n) (p := tke T n p) (by omega)
  refine xq_n 67 [0, 1, 2] [(0, .ref 3), (1, .int (nI (tks T n (tke T n p)))), (2, .int (nI (tke T n (tke T n p))))] [.int (xg 0 h1.2.1 3 7), .int 7, .ref 4] h1 [] 7 hq rfl trivial (fun hq => ?_)
  refine xq_run hq rfl rfl (add_q hq) ?_
  rintro v h2' ⟨rfl, g2⟩
  have hq := fx_q g2 hq
  have g3 : fx cS fN h1 h2' := fx_w g2 (fun _ _ => aS_c) (fun _ _ z => z)
  have e7 : xg 0 h2'.2.1 3 7 = nI nn := (fx_i g2 rfl).trans c1.2.2.2.2.2.2.2.2.2.1.1
  refine xq_n 89 [0, 2] [(0, .ref 3), (2, .int (nI (tke T n (tke T n p))))] [] (xh_ui h2' 9 (xg 0 h2'.2.1 3 7).toNatClampNeg (nI (tks T n (tke T n p)))) [false] 12 hq rfl ⟨(show xe_c .ge (xg 0 h2'.2.1 3 7) 16 = false by rw [e7]; exact nge_f (b := 16) (by omega) (by decide) n15), trivial⟩ (fun _ => ?_)
  rw [e7, show (nI nn).toNatClampNeg = nn from nI_clamp (by omega)]
  have hq : a_rq a_tb (xh_ui h2' 9 nn (nI (tks T n (tke T n p)))) := a_rq_ui hq
  have f7 : xg 0 (xh_ui h2' 9 nn (nI (tks T n (tke T n p)))).2.1 3 7 = nI nn := (gx_o (by decide)).trans e7
  refine xq_n 99 [0] [(0, .ref 3)] [] (xh_ui (xh_ui h2' 9 nn (nI (tks T n (tke T n p)))) 10 (xg 0 (xh_ui h2' 9 nn (nI (tks T n (tke T n p)))).2.1 3 7).toNatClampNeg (nI (tke T n (tke T n p)))) [] 8 hq rfl trivial (fun _ => ?_)
  rw [f7, show (nI nn).toNatClampNeg = nn from nI_clamp (by omega)]
  have hq : a_rq a_tb (xh_ui (xh_ui h2' 9 nn (nI (tks T n (tke T n p)))) 10 nn (nI (tke T n (tke T n p)))) := a_rq_ui hq
  have k7 : xg 0 (xh_ui (xh_ui h2' 9 nn (nI (tks T n (tke T n p)))) 10 nn (nI (tke T n (tke T n p)))).2.1 3 7 = nI nn := (gx_o (by decide)).trans f7
  have k9 : ∀ k, xg 0 (xh_ui (xh_ui h2' 9 nn (nI (tks T n (tke T n p)))) 10 nn (nI (tke T n (tke T n p)))).2.1 9 k = if k = nn then nI (tks T n (tke T n p)) else xg 0 h2'.2.1 9 k := fun k => by
    rw [gx_o (by decide)]
    by_cases e : k = nn
    · rw [if_pos e, e]; exact gx_s
    · rw [if_neg e]; exact gx_k e
  have k10 : ∀ k, xg 0 (xh_ui (xh_ui h2' 9 nn (nI (tks T n (tke T n p)))) 10 nn (nI (tke T n (tke T n p)))).2.1 10 k = if k = nn then nI (tke T n (tke T n p)) else xg 0 h2'.2.1 10 k := fun k => by
    by_cases e : k = nn
    · rw [if_pos e, e]; exact gx_s
    · rw [if_neg e, gx_k e]; exact gx_o (by decide)
  have g4 : fx (fun c _ => Nat.beq c 9 || Nat.beq c 10) fN h2' (xh_ui (xh_ui h2' 9 nn (nI (tks T n (tke T n p)))) 10 nn (nI (tke T n (tke T n p)))) := fx_ui (fx_ui fx_0 rfl) rfl
  generalize xh_ui (xh_ui h2' 9 nn (nI (tks T n (tke T n p)))) 10 nn (nI (tke T n (tke T n p))) = h3 at hq k7 k9 k10 g4 ⊢
  refine xq_n 110 [] [] [.int (Int32.ofInt 1)] (xh_ui h3 3 7 ((xg 0 h3.2.1 3 7) + (Int32.ofInt 1))) [] 9 hq rfl trivial (fun _ => ?_)
  rw [k7, show nI nn + Int32.ofInt 1 = nI (nn + 1) from nI_1 _]
  have gA : fx cT fN h (xh_ui h3 3 7 (nI (nn + 1))) := fx_ui (fx_t (fx_t (fx_w g1 (fun _ _ => cS_t) (fun _ _ z => z)) (fx_w g3 (fun _ _ => cS_t) (fun _ _ z => z))) (fx_w g4 (fun c k z => by have := (or_f (or_f z).2).2; exact this) (fun _ _ z => z))) rfl
  have gB : fx (fun c k => Nat.beq c 9 || (Nat.beq c 10 || ((Nat.beq c 3 && Nat.beq k 7) || aS_ c k))) fN h1 (xh_ui h3 3 7 (nI (nn + 1))) := by
    refine fx_ui (fx_t (fx_w g2 (fun c k z => ?_) (fun _ _ z => z)) (fx_w g4 (fun c k z => ?_) (fun _ _ z => z))) rfl
    · exact (or_f (or_f (or_f z).2).2).2
    · show (Nat.beq c 9 || Nat.beq c 10) = false
      rw [(or_f z).1, (or_f (or_f z).2).1]
      rfl
  obtain ⟨s1, s2, s3, s4, s5, s6, s7, s8, s9, s10, s11⟩ := c1
  refine xq_ret rfl rfl rfl ⟨gA, Or.inl ⟨rfl, n15, p', o', o6, ⟨ct_f s1 gB rfl (fun _ => rfl), tok_f s2 gB (fun _ => rfl), (fx_i gB rfl).trans s3, (fx_i gB rfl).trans s4, s5, (fx_i gB rfl).trans s6, s7, (fx_i gB rfl).trans s8, s9, ⟨gx_s, by omega, fun k hk' => ?_⟩, (fx_i gB rfl).trans s11⟩, hB⟩⟩
  rw [gx_o (by decide), gx_o (by decide), k9, k10]
  unfold upM
  by_cases e : k = nn
  · rw [if_pos e, if_pos e, if_pos e]
    exact ⟨rfl, rfl, by show tks T n (tke T n p) ≤ tke T n (tke T n p); omega, gt.2.1, fun j hj => (tk2 h2).2.2 _ (by show tks T n (tke T n p) ≤ tks T n (tke T n p) + j; omega) (by have hj : j < tke T n (tke T n p) - tks T n (tke T n p) := hj; show tks T n (tke T n p) + j < _; omega)⟩
  · rw [if_neg e, if_neg e, if_neg e]
    have := s10.2.2 k (by omega)
    rw [fx_i (c := 9) (k := k) g2 rfl, fx_i (c := 10) (k := k) g2 rfl]
    exact this
set_option maxRecDepth 100000 in
set_option maxHeartbeats 4000000 in
theorem bd_q {f p o : Nat} {h : xh_H} (c0 : cr h T n mem nn NM p o 0) (o6 : o ≤ 120) (nz : tkk T n p ≠ 0) (hq : a_rq a_tb h) : xq f xi_X4_readBody xmi_X4_readBody 0 [(0, .ref 3)] [] h (bc_Q h T n mem nn NM p o) := by
  have hT : ∀ k, k < n → T k < 256 := fun k hk' => (c0.1.2.2 k hk').1
  have kb := tkk_lt (T := T) (n := n) (p := p) hT
  have n6 := c0.1.2.1
  have s6 := tks_le (T := T) (n := n) (p := p)
  have mm := c0.2.2.2.2.1
  have n16 := c0.2.2.2.2.2.2.2.2.2.1.2.1
  refine xq_n 4 [0] [(0, .ref 3)] [.ref 8] h [] 4 hq rfl trivial (fun hq => ?_)
  have nz1 : tkk T n p ≠ 0 := by omega
  have le1 := tke_le nz1
  refine xq_run hq rfl rfl (adv_q hq hT (c0.1) (c0.2.2.1) ((c0.2.1.2.2.1 (by omega)).1) (by omega)) ?_
  rintro v1 h1 ⟨rfl, g1, t1⟩
  have hq := fx_q g1 hq
  have kb1 := tkk_lt (T := T) (n := n) (p := tke T n p) hT
  have s61 := tks_le (T := T) (n := n) (p := tke T n p)
  refine xq_n 24 [0, 1, 2] [(0, .ref 3), (1, .int (xg 0 h1.2.1 8 4)), (2, .int (xg 0 h1.2.1 8 5))] [.ref 3] h1 [] 11 hq rfl trivial (fun hq => ?_)
  rw [show (xg 0 h1.2.1 8 4) = (nI (tks T n (tke T n p))) from t1.2.1]
  refine xq_run hq rfl rfl (tnn_q ⟨ct_f (S := cS) (L := fN) (c0.1) (fx_w g1 (fun _ _ => sS_c) (fun _ _ z => z)) rfl (fun _ => rfl), t1, (fx_i g1 rfl).trans (c0.2.2.1), (fx_i g1 rfl).trans (c0.2.2.2.1), c0.2.2.2.2.1, (fx_i g1 rfl).trans (c0.2.2.2.2.2.1), by omega, (fx_i g1 rfl).trans (c0.2.2.2.2.2.2.2.1), by omega, cn_f (S := cS) (L := fN) (c0.2.2.2.2.2.2.2.2.2.1) (fx_w g1 (fun _ _ => sS_c) (fun _ _ z => z)) rfl (fun _ => rfl) (fun _ => rfl), (fx_i g1 rfl).trans (c0.2.2.2.2.2.2.2.2.2.2)⟩ hq) ?_
  rintro v2 h2 ⟨g2, l2, q2⟩
  have hq := fx_q g2 hq
  by_cases w2_0 : nmt T n (tke T n p) = false
  · obtain ⟨rfl, f2, y2, z2, e62, e2⟩ := q2 1 (tks T n (tke T n p)) (by unfold kT; rw [if_pos w2_0])
    refine xq_n 56 [] [] [.int (Int32.ofInt 0)] h2 [true] 4 hq rfl ⟨(by decide), trivial⟩ (fun hq => ?_)
    refine xq_ret rfl rfl rfl ⟨fx_w (fx_t (fx_t (fx_0) (fx_w g1 (fun _ _ => sS_c) (fun _ _ z => z))) (g2)) (fun _ _ => cS_t) (fun _ _ z => z), Or.inr ⟨rfl, 1, tks T n (tke T n p), f2, y2, ?_⟩⟩
    unfold Bdy
    repeat (first | rw [if_pos (by omega)] | rw [if_neg (by omega)] | rw [if_pos w2_0] | rw [if_neg w2_0] | rw [if_neg (by rw [w2_0]; decide)])
    try (exfalso; omega)
  · skip
    have w2_0t : nmt T n (tke T n p) = true := eq_true_of_ne_false w2_0
    have dw2_0 := of_decide_eq_true w2_0t
    by_cases w2_1 : hasn nn (nmW T NM) (tkw T n (tke T n p)) = true
    · obtain ⟨rfl, f2, y2, z2, e62, e2⟩ := q2 3 (tks T n (tke T n p)) (by unfold kT; rw [if_neg w2_0, if_pos w2_1])
      refine xq_n 56 [] [] [.int (Int32.ofInt 0)] h2 [true] 4 hq rfl ⟨(by decide), trivial⟩ (fun hq => ?_)
      refine xq_ret rfl rfl rfl ⟨fx_w (fx_t (fx_t (fx_0) (fx_w g1 (fun _ _ => sS_c) (fun _ _ z => z))) (g2)) (fun _ _ => cS_t) (fun _ _ z => z), Or.inr ⟨rfl, 3, tks T n (tke T n p), f2, y2, ?_⟩⟩
      unfold Bdy
      repeat (first | rw [if_pos (by omega)] | rw [if_neg (by omega)] | rw [if_pos w2_0] | rw [if_neg w2_0] | rw [if_neg (by rw [w2_0]; decide)] | rw [if_pos w2_1] | rw [if_neg w2_1] | rw [if_neg (by rw [w2_1]; decide)] | rw [if_pos w2_0t] | rw [if_neg w2_0t] | rw [if_neg (by rw [w2_0t]; decide)])
      try (exfalso; omega)
    · skip
      by_cases w2_2 : 16 ≤ nn
      · obtain ⟨rfl, f2, y2, z2, e62, e2⟩ := q2 4 (tks T n (tke T n p)) (by unfold kT; rw [if_neg w2_0, if_neg w2_1, if_pos w2_2])
        refine xq_n 56 [] [] [.int (Int32.ofInt 0)] h2 [true] 4 hq rfl ⟨(by decide), trivial⟩ (fun hq => ?_)
        refine xq_ret rfl rfl rfl ⟨fx_w (fx_t (fx_t (fx_0) (fx_w g1 (fun _ _ => sS_c) (fun _ _ z => z))) (g2)) (fun _ _ => cS_t) (fun _ _ z => z), Or.inr ⟨rfl, 4, tks T n (tke T n p), f2, y2, ?_⟩⟩
        unfold Bdy
        repeat (first | rw [if_pos (by omega)] | rw [if_neg (by omega)] | rw [if_pos w2_0] | rw [if_neg w2_0] | rw [if_neg (by rw [w2_0]; decide)] | rw [if_pos w2_1] | rw [if_neg w2_1] | rw [if_neg (by rw [w2_1]; decide)] | rw [if_pos w2_2] | rw [if_neg w2_2] | rw [if_neg (by rw [w2_2]; decide)] | rw [if_pos w2_0t] | rw [if_neg w2_0t] | rw [if_neg (by rw [w2_0t]; decide)])
        try (exfalso; omega)
      · skip
        obtain ⟨rfl, c2⟩ := l2 (tke T n (tke T n p)) (o) (0) (by unfold kT; rw [if_neg w2_0, if_neg w2_1, if_neg w2_2])
        have kb2 := tkk_lt (T := T) (n := n) (p := tke T n (tke T n p)) hT
        have s62 := tks_le (T := T) (n := n) (p := tke T n (tke T n p))
        refine xq_n 33 [0, 1, 2] [(0, .ref 3), (1, .int (nI (tks T n (tke T n p)))), (2, .int (xg 0 h1.2.1 8 5))] [.int 58, .ref 3] h2 [false] 5 hq rfl ⟨(by decide), trivial⟩ (fun hq => ?_)
        refine xq_run hq rfl rfl (ts_q (c := 58) (by decide) (by decide) c2 hq) ?_
        rintro v3 h3 ⟨g3, l3, q3⟩
        have hq := fx_q g3 hq
        by_cases w3_0 : tkk T n (tke T n (tke T n p)) ≠ 58
        · obtain ⟨rfl, f3, y3, z3, e63, e3⟩ := q3 1 (tks T n (tke T n (tke T n p))) (by unfold kS; rw [if_pos w3_0])
          refine xq_n 56 [] [] [.int (Int32.ofInt 0)] h3 [true] 4 hq rfl ⟨(by decide), trivial⟩ (fun hq => ?_)
          refine xq_ret rfl rfl rfl ⟨fx_w (fx_t (fx_t (fx_t (fx_0) (fx_w g1 (fun _ _ => sS_c) (fun _ _ z => z))) (g2)) (g3)) (fun _ _ => cS_t) (fun _ _ z => z), Or.inr ⟨rfl, 1, tks T n (tke T n (tke T n p)), f3, y3, ?_⟩⟩
          unfold Bdy
          repeat (first | rw [if_pos (by omega)] | rw [if_neg (by omega)] | rw [if_pos w2_0] | rw [if_neg w2_0] | rw [if_neg (by rw [w2_0]; decide)] | rw [if_pos w2_1] | rw [if_neg w2_1] | rw [if_neg (by rw [w2_1]; decide)] | rw [if_pos w2_2] | rw [if_neg w2_2] | rw [if_neg (by rw [w2_2]; decide)] | rw [if_pos w2_0t] | rw [if_neg w2_0t] | rw [if_neg (by rw [w2_0t]; decide)] | rw [if_pos w3_0] | rw [if_neg w3_0] | rw [if_neg (by rw [w3_0]; decide)])
          try (exfalso; omega)
        · skip
          obtain ⟨rfl, c3⟩ := l3 (tke T n (tke T n (tke T n p))) (o) (0) (by unfold kS; rw [if_neg w3_0])
          have kb3 := tkk_lt (T := T) (n := n) (p := tke T n (tke T n (tke T n p))) hT
          have s63 := tks_le (T := T) (n := n) (p := tke T n (tke T n (tke T n p)))
          refine xq_n 40 [0, 1, 2] [(0, .ref 3), (1, .int (nI (tks T n (tke T n p)))), (2, .int (xg 0 h1.2.1 8 5))] [.ref 3] h3 [false] 4 hq rfl ⟨(by decide), trivial⟩ (fun hq => ?_)
          refine xq_run hq rfl rfl ((rd_all f).2.2.1 _ _ _ _ c3 (by omega) (by omega) hq) ?_
          rintro v4 h4 ⟨g4, ⟨rfl, pq4, oq4, c4, lt4, le4, G4⟩ | ⟨rfl, kq4, lq4, f4, y4, B4⟩⟩
          · have hq := fx_q g4 hq
            have kb4 := tkk_lt (T := T) (n := n) (p := pq4) hT
            have s64 := tks_le (T := T) (n := n) (p := pq4)
            refine xq_n 49 [0, 1, 2] [(0, .ref 3), (1, .int (nI (tks T n (tke T n p)))), (2, .int (xg 0 h1.2.1 8 5))] [.int 59, .ref 3] h4 [false] 5 hq rfl ⟨(by decide), trivial⟩ (fun hq => ?_)
            refine xq_run hq rfl rfl (ts_q (c := 59) (by decide) (by decide) c4 hq) ?_
            rintro v5 h5 ⟨g5, l5, q5⟩
            have hq := fx_q g5 hq
            by_cases w5_0 : tkk T n pq4 ≠ 59
            · obtain ⟨rfl, f5, y5, z5, e65, e5⟩ := q5 1 (tks T n pq4) (by unfold kS; rw [if_pos w5_0])
              refine xq_n 56 [] [] [.int (Int32.ofInt 0)] h5 [false] 4 hq rfl ⟨(by decide), trivial⟩ (fun hq => ?_)
              refine xq_ret rfl rfl rfl ⟨fx_w (fx_t (fx_t (fx_t (fx_t (fx_t (fx_0) (fx_w g1 (fun _ _ => sS_c) (fun _ _ z => z))) (g2)) (g3)) (g4)) (g5)) (fun _ _ => cS_t) (fun _ _ z => z), Or.inr ⟨rfl, 1, tks T n pq4, f5, y5, ?_⟩⟩
              unfold Bdy
              repeat (first | rw [if_pos (by omega)] | rw [if_neg (by omega)] | rw [if_pos w2_0] | rw [if_neg w2_0] | rw [if_neg (by rw [w2_0]; decide)] | rw [if_pos w2_1] | rw [if_neg w2_1] | rw [if_neg (by rw [w2_1]; decide)] | rw [if_pos w2_2] | rw [if_neg w2_2] | rw [if_neg (by rw [w2_2]; decide)] | rw [if_pos w2_0t] | rw [if_neg w2_0t] | rw [if_neg (by rw [w2_0t]; decide)] | rw [if_pos w3_0] | rw [if_neg w3_0] | rw [if_neg (by rw [w3_0]; decide)] | rw [if_pos w5_0] | rw [if_neg w5_0] | rw [if_neg (by rw [w5_0]; decide)])
              exact ⟨.inr (1, tks T n pq4), Or.inl ⟨_, _, rfl, Fl_t (G4.2.2 0 [] (by decide) rfl) (Fl_1 (by rw [enE]; unfold en; rw [if_neg (by intro z; cases z), if_neg (by rw [G4.1]; decide), if_neg (by rw [G4.2.1]; decide), if_pos (show [0].head? = some 0 from rfl), if_neg (by omega)]))⟩, rfl⟩
            · skip
              obtain ⟨rfl, c5⟩ := l5 (tke T n pq4) (oq4) (0) (by unfold kS; rw [if_neg w5_0])
              have kb5 := tkk_lt (T := T) (n := n) (p := tke T n pq4) hT
              have s65 := tks_le (T := T) (n := n) (p := tke T n pq4)
              refine xq_n 57 [0, 1, 2] [(0, .ref 3), (1, .int (nI (tks T n (tke T n p)))), (2, .int (xg 0 h1.2.1 8 5))] [] h5 [true] 3 hq rfl ⟨(by decide), trivial⟩ (fun hq => ?_)
              have cE : cr h5 T n mem nn NM (tke T n pq4) (oq4) 0 := c5
              have gE : fx cS fN h h5 := fx_t (fx_t (fx_t (fx_t (fx_t (fx_0) (fx_w g1 (fun _ _ => sS_c) (fun _ _ z => z))) (g2)) (g3)) (g4)) (g5)
              have hB : Bdy T n mem nn (nmW T NM) p o (.inl (tke T n pq4, oq4, tkw T n (tke T n p))) := by
                unfold Bdy
                repeat (first | rw [if_pos (by omega)] | rw [if_neg (by omega)] | rw [if_pos w2_0] | rw [if_neg w2_0] | rw [if_neg (by rw [w2_0]; decide)] | rw [if_pos w2_1] | rw [if_neg w2_1] | rw [if_neg (by rw [w2_1]; decide)] | rw [if_pos w2_2] | rw [if_neg w2_2] | rw [if_neg (by rw [w2_2]; decide)] | rw [if_pos w2_0t] | rw [if_neg w2_0t] | rw [if_neg (by rw [w2_0t]; decide)] | rw [if_pos w3_0] | rw [if_neg w3_0] | rw [if_neg (by rw [w3_0]; decide)] | rw [if_pos w5_0] | rw [if_neg w5_0] | rw [if_neg (by rw [w5_0]; decide)])
                exact ⟨.inl (tke T n pq4, oq4), Or.inr ⟨_, _, rfl, Rc_t (G4.2.2 0 [] (by decide) rfl) (Rc_1 (by rw [enE]; unfold en; rw [if_neg (by intro z; cases z), if_neg (by rw [G4.1]; decide), if_neg (by rw [G4.2.1]; decide), if_pos (show [0].head? = some 0 from rfl), if_pos (by omega)]))⟩, rfl⟩
              rw [show xg 0 h1.2.1 8 5 = nI (tke T n (tke T n p)) from (t1.2.2.1 (by omega)).2]
              exact bd_end hq cE gE (by omega) (by omega) (by omega) hB
          · have hq := fx_q g4 hq
            refine xq_n 56 [] [] [.int (Int32.ofInt 0)] h4 [true] 4 hq rfl ⟨(by decide), trivial⟩ (fun hq => ?_)
            refine xq_ret rfl rfl rfl ⟨fx_w (fx_t (fx_t (fx_t (fx_t (fx_0) (fx_w g1 (fun _ _ => sS_c) (fun _ _ z => z))) (g2)) (g3)) (g4)) (fun _ _ => cS_t) (fun _ _ z => z), Or.inr ⟨rfl, kq4, lq4, f4, y4, ?_⟩⟩
            unfold Bdy
            repeat (first | rw [if_pos (by omega)] | rw [if_neg (by omega)] | rw [if_pos w2_0] | rw [if_neg w2_0] | rw [if_neg (by rw [w2_0]; decide)] | rw [if_pos w2_1] | rw [if_neg w2_1] | rw [if_neg (by rw [w2_1]; decide)] | rw [if_pos w2_2] | rw [if_neg w2_2] | rw [if_neg (by rw [w2_2]; decide)] | rw [if_pos w2_0t] | rw [if_neg w2_0t] | rw [if_neg (by rw [w2_0t]; decide)] | rw [if_pos w3_0] | rw [if_neg w3_0] | rw [if_neg (by rw [w3_0]; decide)])
            exact ⟨.inr (kq4, lq4), Or.inl ⟨_, _, rfl, B4 0 [] (by decide) rfl⟩, rfl⟩
end XRP
end
section
section XRQ
variable {T : Nat → Nat} {n mem nn : Nat} {NM : Nat → Nat × Nat}
/-- what a text's reading leaves in the class -/
def tx_O (r : Sum Nat (Nat × Nat)) (h' : xh_H) : Prop := (∀ m, r = .inl m → xg 0 h'.2.1 3 8 = nI 0 ∧ xg 0 h'.2.1 3 7 = nI m ∧ m ≤ 16) ∧ ∀ k pl, r = .inr (k, pl) → xg 0 h'.2.1 3 8 = nI k ∧ xg 0 h'.2.1 3 9 = nI pl
def rt_Q (h0 : xh_H) (T : Nat → Nat) (n mem p o nn : Nat) (NW : Nat → Nat) (v : Option Value) (h' : xh_H) : Prop := v = none ∧ fx cT fN h0 h' ∧ ∃ j r, Tx T n mem j p o nn NW r ∧ tx_O r h'
set_option maxRecDepth 100000 in
set_option maxHeartbeats 4000000 in
theorem rd_z {f : Nat} {x : Int32} {h : xh_H} (hq : a_rq a_tb h) : xq f xi_X4_read xmi_X4_read 48 [(0, .ref 3), (2, .int (Int32.ofInt 0)), (3, .int x)] [] h (fun v h' => h = h' ∧ v = none) := by
  cases c1 : xe_c .gt x 16 with
  | true =>
    refine xq_n 115 [] [] [] h [true, true] 7 hq rfl ⟨c1, (by decide), trivial⟩ (fun hq => ?_)
    exact xq_ret rfl rfl rfl ⟨rfl, rfl⟩
  | false =>
    refine xq_n 115 [] [] [] h [false, true, true] 9 hq rfl ⟨c1, (by decide), (by decide), trivial⟩ (fun hq => ?_)
    exact xq_ret rfl rfl rfl ⟨rfl, rfl⟩
set_option maxRecDepth 100000 in
set_option maxHeartbeats 4000000 in
theorem rd_fin {f p o : Nat} {h0 h : xh_H} (c0 : cr h T n mem nn NM p o 0) (g0 : fx cT fN h0 h) (o6 : o ≤ 120) (hb0 : ky T n p 0 = false) (hq : a_rq a_tb h) : xq f xi_X4_read xmi_X4_read 81 [(0, .ref 3), (2, .int (Int32.ofInt 1))] [] h (rt_Q h0 T n mem p o nn (nmW T NM)) := by
  have hT : ∀ k, k < n → T k < 256 := fun k hk' => (c0.1.2.2 k hk').1
  have kb := tkk_lt (T := T) (n := n) (p := p) hT
  have n6 := c0.1.2.1
  have s6 := tks_le (T := T) (n := n) (p := p)
  have mm := c0.2.2.2.2.1
  have n16 := c0.2.2.2.2.2.2.2.2.2.1.2.1
  refine xq_n 88 [0, 2] [(0, .ref 3), (2, .int (Int32.ofInt 1))] [.float 3, .ref 3] h [false] 6 hq rfl ⟨(by decide), trivial⟩ (fun hq => ?_)
  refine xq_run hq rfl rfl (tw1_q c0 hq) ?_
  rintro v1 h1 ⟨g1, l1, q1⟩
  have hq := fx_q g1 hq
  by_cases w1_0 : ky T n p 1 = false
  · obtain ⟨rfl, f1, y1, z1, e61, e1⟩ := q1 1 (tks T n p) (by unfold kW; rw [if_pos w1_0])
    refine xq_n 115 [] [] [] h1 [true] 3 hq rfl ⟨(by decide), trivial⟩ (fun hq => ?_)
    refine xq_ret rfl rfl rfl ⟨rfl, fx_t g0 (fx_w (fx_t (fx_0) (g1)) (fun _ _ => cS_t) (fun _ _ z => z)), 0, .inr (1, tks T n p), ⟨hb0, ?_⟩, fun _ e => (by cases e), fun _ _ e => by cases e; exact ⟨f1, y1⟩⟩
    unfold Fin_
    rw [if_pos w1_0]
  · skip
    have w1_0t : ky T n p 1 = true := eq_true_of_ne_false w1_0
    have dw1_0 := of_decide_eq_true w1_0t
    obtain ⟨rfl, c1⟩ := l1 (tke T n p) (o) (0) (by unfold kW; rw [if_neg w1_0])
    have kb1 := tkk_lt (T := T) (n := n) (p := tke T n p) hT
    have s61 := tks_le (T := T) (n := n) (p := tke T n p)
    refine xq_n 95 [0, 2] [(0, .ref 3), (2, .int (Int32.ofInt 1))] [.ref 3] h1 [false] 4 hq rfl ⟨(by decide), trivial⟩ (fun hq => ?_)
    refine xq_run hq rfl rfl ((rd_all f).2.2.1 _ _ _ _ c1 (by omega) (by omega) hq) ?_
    rintro v2 h2 ⟨g2, ⟨rfl, pq2, oq2, c2, lt2, le2, G2⟩ | ⟨rfl, kq2, lq2, f2, y2, B2⟩⟩
    · have hq := fx_q g2 hq
      have kb2 := tkk_lt (T := T) (n := n) (p := pq2) hT
      have s62 := tks_le (T := T) (n := n) (p := pq2)
      refine xq_n 104 [0, 2] [(0, .ref 3), (2, .int (Int32.ofInt 1))] [.int 59, .ref 3] h2 [false] 5 hq rfl ⟨(by decide), trivial⟩ (fun hq => ?_)
      refine xq_run hq rfl rfl (ts_q (c := 59) (by decide) (by decide) c2 hq) ?_
      rintro v3 h3 ⟨g3, l3, q3⟩
      have hq := fx_q g3 hq
      by_cases w3_0 : tkk T n pq2 ≠ 59
      · obtain ⟨rfl, f3, y3, z3, e63, e3⟩ := q3 1 (tks T n pq2) (by unfold kS; rw [if_pos w3_0])
        refine xq_n 115 [] [] [] h3 [true] 3 hq rfl ⟨(by decide), trivial⟩ (fun hq => ?_)
        refine xq_ret rfl rfl rfl ⟨rfl, fx_t g0 (fx_w (fx_t (fx_t (fx_t (fx_0) (g1)) (g2)) (g3)) (fun _ _ => cS_t) (fun _ _ z => z)), 0, .inr (1, tks T n pq2), ⟨hb0, ?_⟩, fun _ e => (by cases e), fun _ _ e => by cases e; exact ⟨f3, y3⟩⟩
        unfold Fin_
        rw [if_neg w1_0]
        exact ⟨.inr (1, tks T n pq2), Or.inl ⟨_, _, rfl, Fl_t (G2.2.2 0 [] (by decide) rfl) (Fl_1 (by rw [enE]; unfold en; rw [if_neg (by intro z; cases z), if_neg (by rw [G2.1]; decide), if_neg (by rw [G2.2.1]; decide), if_pos (show [0].head? = some 0 from rfl), if_neg (by omega)]))⟩, Or.inl ⟨_, _, rfl, rfl⟩⟩
      · skip
        obtain ⟨rfl, c3⟩ := l3 (tke T n pq2) (oq2) (0) (by unfold kS; rw [if_neg w3_0])
        have kb3 := tkk_lt (T := T) (n := n) (p := tke T n pq2) hT
        have s63 := tks_le (T := T) (n := n) (p := tke T n pq2)
        refine xq_n 111 [0, 2] [(0, .ref 3), (2, .int (Int32.ofInt 1))] [.ref 3] h3 [false] 4 hq rfl ⟨(by decide), trivial⟩ (fun hq => ?_)
        refine xq_run hq rfl rfl (te_q c3 hq) ?_
        rintro v4 h4 ⟨g4, l4, q4⟩
        have hq := fx_q g4 hq
        by_cases w4 : tkk T n (tke T n pq2) = 0 ∧ n ≤ 600
        · obtain ⟨rfl, c4⟩ := l4 (tke T n pq2) (oq2) (0) (by unfold kE; rw [if_pos w4])
          refine xq_n 115 [] [] [] h4 [] 3 hq rfl trivial (fun hq => ?_)
          refine xq_ret rfl rfl rfl ⟨rfl, fx_t g0 (fx_w (fx_t (fx_t (fx_t (fx_t (fx_0) (g1)) (g2)) (g3)) (g4)) (fun _ _ => cS_t) (fun _ _ z => z)), 0, .inl nn, ⟨hb0, ?_⟩, fun _ e => by cases e; exact ⟨c4.2.2.2.2.2.2.2.2.2.2, c4.2.2.2.2.2.2.2.2.2.1.1, n16⟩, fun _ _ e => (by cases e)⟩
          unfold Fin_
          rw [if_neg w1_0]
          exact ⟨.inl (tke T n pq2, oq2), Or.inr ⟨_, _, rfl, Rc_t (G2.2.2 0 [] (by decide) rfl) (Rc_1 (by rw [enE]; unfold en; rw [if_neg (by intro z; cases z), if_neg (by rw [G2.1]; decide), if_neg (by rw [G2.2.1]; decide), if_pos (show [0].head? = some 0 from rfl), if_pos (by omega)]))⟩, Or.inr ⟨_, _, rfl, by rw [if_pos (rk0.mpr w4)]⟩⟩
        · obtain ⟨rfl, f4, y4, -⟩ := q4 1 (tks T n (tke T n pq2)) (by unfold kE; rw [if_neg w4])
          refine xq_n 115 [] [] [] h4 [] 3 hq rfl trivial (fun hq => ?_)
          refine xq_ret rfl rfl rfl ⟨rfl, fx_t g0 (fx_w (fx_t (fx_t (fx_t (fx_t (fx_0) (g1)) (g2)) (g3)) (g4)) (fun _ _ => cS_t) (fun _ _ z => z)), 0, .inr (1, tks T n (tke T n pq2)), ⟨hb0, ?_⟩, fun _ e => (by cases e), fun _ _ e => by cases e; exact ⟨f4, y4⟩⟩
          unfold Fin_
          rw [if_neg w1_0]
          exact ⟨.inl (tke T n pq2, oq2), Or.inr ⟨_, _, rfl, Rc_t (G2.2.2 0 [] (by decide) rfl) (Rc_1 (by rw [enE]; unfold en; rw [if_neg (by intro z; cases z), if_neg (by rw [G2.1]; decide), if_neg (by rw [G2.2.1]; decide), if_pos (show [0].head? = some 0 from rfl), if_pos (by omega)]))⟩, Or.inr ⟨_, _, rfl, by rw [if_neg (fun e => w4 (rk0.mp e))]⟩⟩
    · have hq := fx_q g2 hq
      refine xq_n 115 [] [] [] h2 [true] 3 hq rfl ⟨(by decide), trivial⟩ (fun hq => ?_)
      refine xq_ret rfl rfl rfl ⟨rfl, fx_t g0 (fx_w (fx_t (fx_t (fx_0) (g1)) (g2)) (fun _ _ => cS_t) (fun _ _ z => z)), 0, .inr (kq2, lq2), ⟨hb0, ?_⟩, fun _ e => (by cases e), fun _ _ e => by cases e; exact ⟨f2, y2⟩⟩
      unfold Fin_
      rw [if_neg w1_0]
      exact ⟨.inr (kq2, lq2), Or.inl ⟨_, _, rfl, B2 0 [] (by decide) rfl⟩, Or.inl ⟨_, _, rfl, rfl⟩⟩
set_option maxRecDepth 100000 in
set_option maxHeartbeats 4000000 in
theorem rdb_lp {h0 : xh_H} : ∀ (f nn p o : Nat) (NM : Nat → Nat × Nat) (h : xh_H), cr h T n mem nn NM p o 0 → fx cT fN h0 h → o ≤ 120 → a_rq a_tb h → xq f xi_X4_read xmi_X4_read 48 [(0, .ref 3), (2, .int (Int32.ofInt 1)), (3, .int (nI nn))] [] h (rt_Q h0 T n mem p o nn (nmW T NM)) := by
  intro f
  induction f with
  | zero => intros; exact xq_0
  | succ f ih =>
    intro nn p o NM h c0 g0 o6 hq
    have n16 := c0.2.2.2.2.2.2.2.2.2.1.2.1
    refine xq_m 64 [0, 2, 3] [(0, .ref 3), (2, .int (Int32.ofInt 1)), (3, .int (nI nn))] [.float 2, .ref 8] h [false, false] 10 hq rfl ⟨(show xe_c .gt (nI nn) 16 = false by exact xgt_f (by rw [nI_toInt (by omega)]; show ((nn : Nat) : Int) ≤ 16; omega)), by decide, trivial⟩ (fun hq => ?_)
    refine xq_run hq rfl rfl (iw0_q c0.1 c0.2.1 hq) ?_
    rintro v h1 ⟨rfl, rfl⟩
    cases b : ky T n p 0 with
    | false =>
      refine xq_n 81 [0, 2] [(0, .ref 3), (2, .int (Int32.ofInt 1))] [] h [true] 3 hq rfl ⟨rfl, trivial⟩ (fun hq => ?_)
      exact rd_fin c0 g0 o6 b hq
    | true =>
      have db := of_decide_eq_true b
      refine xq_n 71 [0, 3] [(0, .ref 3), (3, .int (nI nn))] [.ref 3] h [false] 4 hq rfl ⟨rfl, trivial⟩ (fun hq => ?_)
      refine xq_run hq rfl rfl (bd_q c0 o6 (by omega) hq) ?_
      rintro v h1 ⟨g1, ⟨rfl, n15, p', o', o7, c1, hB⟩ | ⟨rfl, k, pl, f1, f2, hB⟩⟩
      · have hq := fx_q g1 hq
        refine xq_n 48 [0, 2, 3] [(0, .ref 3), (2, .int (Int32.ofInt 1)), (3, .int ((nI nn) + Int32.ofInt 1))] [] h1 [] 5 hq rfl trivial (fun hq => ?_)
        rw [show nI nn + Int32.ofInt 1 = nI (nn + 1) from nI_1 _]
        refine xq_mono (ih (nn + 1) p' o' _ h1 c1 (fx_t g0 g1) o7 hq) (fun v h' e => ?_)
        obtain ⟨e1, e2, j, r, e3, e4⟩ := e
        rw [nmW_up] at e3
        exact ⟨e1, e2, j + 1, r, ⟨b, _, hB, Or.inr ⟨_, _, _, rfl, e3⟩⟩, e4⟩
      · have hq := fx_q g1 hq
        refine xq_n 48 [0, 2, 3] [(0, .ref 3), (2, .int (Int32.ofInt 0)), (3, .int ((nI nn) + Int32.ofInt 1))] [] h1 [] 5 hq rfl trivial (fun hq => ?_)
        refine xq_mono (rd_z hq) (fun v h' e => ?_)
        obtain ⟨rfl, rfl⟩ := e
        exact ⟨rfl, fx_t g0 g1, 1, .inr (k, pl), ⟨b, _, hB, Or.inl ⟨_, _, rfl, rfl⟩⟩, fun _ e => (by cases e), fun _ _ e => by cases e; exact ⟨f1, f2⟩⟩
set_option maxRecDepth 100000 in
set_option maxHeartbeats 4000000 in
theorem beg_q {f : Nat} {h : xh_H} (hc : ct h T n) (hq : a_rq a_tb h) : xq f xi_X6_begin xmi_X6_begin 0 [(0, .ref 8)] [] h (fun v h' => v = none ∧ fx (fun c _ => Nat.beq c 8) fN h h' ∧ tok h' T n 0 ∧ xg 0 h'.2.1 8 1 = nI (min n 600)) := by
  have n6 := hc.2.1
  have hT : ∀ k, k < n → T k < 256 := fun k hk' => (hc.2.2 k hk').1
  refine xq_n 23 [0] [(0, .ref 8)] [.ref 8] (xh_ui (xh_ui h 8 1 (if 600 < (xg 0 h.2.1 1 1) then 600 else (xg 0 h.2.1 1 1))) 8 2 (Int32.ofInt 0)) [] 13 hq rfl trivial (fun _ => ?_)
  rw [hc.1, show (if (600 : Int32) < nI n then 600 else nI n) = nI (min n 600) from nI_min (a := n) (b := 600) (by omega) (by decide)]
  have hq : a_rq a_tb (xh_ui (xh_ui h 8 1 (nI (min n 600))) 8 2 (Int32.ofInt 0)) := a_rq_ui (a_rq_ui hq)
  have g1 : fx (fun c _ => Nat.beq c 8) fN h (xh_ui (xh_ui h 8 1 (nI (min n 600))) 8 2 (Int32.ofInt 0)) := fx_ui (fx_ui fx_0 rfl) rfl
  have e1 : xg 0 (xh_ui (xh_ui h 8 1 (nI (min n 600))) 8 2 (Int32.ofInt 0)).2.1 8 1 = nI (min n 600) := (gx_k (by decide)).trans gx_s
  have e2 : xg 0 (xh_ui (xh_ui h 8 1 (nI (min n 600))) 8 2 (Int32.ofInt 0)).2.1 8 2 = nI 0 := gx_s
  generalize xh_ui (xh_ui h 8 1 (nI (min n 600))) 8 2 (Int32.ofInt 0) = h1 at hq g1 e1 e2 ⊢
  refine xq_run hq rfl rfl (adv_q hq hT (ct_f hc g1 rfl (fun _ => rfl)) e1 e2 (by decide)) ?_
  rintro v h2 ⟨rfl, g2, t2⟩
  exact xq_ret rfl rfl rfl ⟨rfl, fx_t g1 (fx_w g2 (fun c k z => by unfold sS; rw [z]; rfl) (fun _ _ z => z)), t2, (fx_i g2 rfl).trans e1⟩
def cU (c k : Nat) : Bool := Nat.beq c 8 || (Nat.beq c 3 || ((Nat.beq c 4 && Nat.beq k 3) || (Nat.beq c 5 || (Nat.beq c 6 || (Nat.beq c 9 || Nat.beq c 10)))))
theorem cT_u {c k : Nat} (h : cU c k = false) : cT c k = false := by
  unfold cU at h
  obtain ⟨h8, h⟩ := or_f h
  obtain ⟨h3, h⟩ := or_f h
  obtain ⟨h4, h⟩ := or_f h
  obtain ⟨h5, h⟩ := or_f h
  obtain ⟨h6, h⟩ := or_f h
  obtain ⟨h9, h10⟩ := or_f h
  unfold cT cS
  rw [h8, h3, h4, h5, h6, h9, h10]
  rfl
set_option maxRecDepth 100000 in
set_option maxHeartbeats 4000000 in
/-- Reader.read -/
theorem read_q {f : Nat} {h : xh_H} (hc : ct h T n) (m12 : mem ≤ 12) (hq : a_rq a_tb h) : xq f xi_X4_read xmi_X4_read 0 [(0, .ref 3), (1, .int (nI mem))] [] h (fun v h' => v = none ∧ fx cU fN h h' ∧ ∃ j r, Tx T n mem j 0 0 0 (nmW T (fun _ => (0, 0))) r ∧ tx_O r h') := by
  refine xq_n 4 [0, 1] [(0, .ref 3), (1, .int (nI mem))] [.ref 4] h [] 4 hq rfl trivial (fun hq => ?_)
  refine xq_run (Q1 := fun v h' => v = none ∧ fx aS_ fN h h') hq rfl rfl ?_ ?_
  · refine xq_n 5 [] [] [] (xh_ui h 4 3 (Int32.ofInt 0)) [] 5 hq rfl trivial (fun _ => ?_)
    exact xq_ret rfl rfl rfl ⟨rfl, fx_ui fx_0 rfl⟩
  rintro v h1 ⟨rfl, g1⟩
  have hq := fx_q g1 hq
  refine xq_n 41 [0] [(0, .ref 3)] [.ref 8] (xh_ui (xh_ui (xh_ui (xh_ui (xh_ui (xh_ui h1 3 4 (nI mem)) 3 5 (Int32.ofInt 0)) 3 6 (Int32.ofInt 0)) 3 7 (Int32.ofInt 0)) 3 8 (Int32.ofInt 0)) 3 9 (Int32.ofInt 0)) [] 24 hq rfl trivial (fun _ => ?_)
  have hq : a_rq a_tb (xh_ui (xh_ui (xh_ui (xh_ui (xh_ui (xh_ui h1 3 4 (nI mem)) 3 5 (Int32.ofInt 0)) 3 6 (Int32.ofInt 0)) 3 7 (Int32.ofInt 0)) 3 8 (Int32.ofInt 0)) 3 9 (Int32.ofInt 0)) := a_rq_ui (a_rq_ui (a_rq_ui (a_rq_ui (a_rq_ui (a_rq_ui hq)))))
  have g2 : fx cU fN h (xh_ui (xh_ui (xh_ui (xh_ui (xh_ui (xh_ui h1 3 4 (nI mem)) 3 5 (Int32.ofInt 0)) 3 6 (Int32.ofInt 0)) 3 7 (Int32.ofInt 0)) 3 8 (Int32.ofInt 0)) 3 9 (Int32.ofInt 0)) := fx_ui (fx_ui (fx_ui (fx_ui (fx_ui (fx_ui (fx_w g1 (fun c k z => by obtain ⟨-, z⟩ := or_f z; obtain ⟨-, z⟩ := or_f z; obtain ⟨z4, z⟩ := or_f z; obtain ⟨z5, z⟩ := or_f z; obtain ⟨z6, -⟩ := or_f z; unfold aS_; rw [z4, z5, z6]; rfl) (fun _ _ z => z)) rfl) rfl) rfl) rfl) rfl) rfl
  have e4 : xg 0 (xh_ui (xh_ui (xh_ui (xh_ui (xh_ui (xh_ui h1 3 4 (nI mem)) 3 5 (Int32.ofInt 0)) 3 6 (Int32.ofInt 0)) 3 7 (Int32.ofInt 0)) 3 8 (Int32.ofInt 0)) 3 9 (Int32.ofInt 0)).2.1 3 4 = nI mem := (gx_k (by decide)).trans ((gx_k (by decide)).trans ((gx_k (by decide)).trans ((gx_k (by decide)).trans ((gx_k (by decide)).trans gx_s))))
  have e5 : xg 0 (xh_ui (xh_ui (xh_ui (xh_ui (xh_ui (xh_ui h1 3 4 (nI mem)) 3 5 (Int32.ofInt 0)) 3 6 (Int32.ofInt 0)) 3 7 (Int32.ofInt 0)) 3 8 (Int32.ofInt 0)) 3 9 (Int32.ofInt 0)).2.1 3 5 = nI 0 := (gx_k (by decide)).trans ((gx_k (by decide)).trans ((gx_k (by decide)).trans ((gx_k (by decide)).trans gx_s)))
  have e6 : xg 0 (xh_ui (xh_ui (xh_ui (xh_ui (xh_ui (xh_ui h1 3 4 (nI mem)) 3 5 (Int32.ofInt 0)) 3 6 (Int32.ofInt 0)) 3 7 (Int32.ofInt 0)) 3 8 (Int32.ofInt 0)) 3 9 (Int32.ofInt 0)).2.1 3 6 = nI 0 := (gx_k (by decide)).trans ((gx_k (by decide)).trans ((gx_k (by decide)).trans gx_s))
  have e7 : xg 0 (xh_ui (xh_ui (xh_ui (xh_ui (xh_ui (xh_ui h1 3 4 (nI mem)) 3 5 (Int32.ofInt 0)) 3 6 (Int32.ofInt 0)) 3 7 (Int32.ofInt 0)) 3 8 (Int32.ofInt 0)) 3 9 (Int32.ofInt 0)).2.1 3 7 = nI 0 := (gx_k (by decide)).trans ((gx_k (by decide)).trans gx_s)
  have e8 : xg 0 (xh_ui (xh_ui (xh_ui (xh_ui (xh_ui (xh_ui h1 3 4 (nI mem)) 3 5 (Int32.ofInt 0)) 3 6 (Int32.ofInt 0)) 3 7 (Int32.ofInt 0)) 3 8 (Int32.ofInt 0)) 3 9 (Int32.ofInt 0)).2.1 3 8 = nI 0 := (gx_k (by decide)).trans gx_s
  generalize xh_ui (xh_ui (xh_ui (xh_ui (xh_ui (xh_ui h1 3 4 (nI mem)) 3 5 (Int32.ofInt 0)) 3 6 (Int32.ofInt 0)) 3 7 (Int32.ofInt 0)) 3 8 (Int32.ofInt 0)) 3 9 (Int32.ofInt 0) = h2 at hq g2 e4 e5 e6 e7 e8 ⊢
  refine xq_run hq rfl rfl (beg_q (ct_f hc g2 rfl (fun _ => rfl)) hq) ?_
  rintro v h3 ⟨rfl, g3, t3, l3⟩
  have hq := fx_q g3 hq
  have g4 : fx cU fN h h3 := fx_t g2 (fx_w g3 (fun c k z => (or_f z).1) (fun _ _ z => z))
  refine xq_n 48 [0, 2, 3] [(0, .ref 3), (2, .int (Int32.ofInt 1)), (3, .int (Int32.ofInt 0))] [] h3 [] 6 hq rfl trivial (fun hq => ?_)
  have c3 : cr h3 T n mem 0 (fun _ => (0, 0)) 0 0 0 := ⟨ct_f hc g4 rfl (fun _ => rfl), t3, l3, (fx_i g3 rfl).trans e4, m12, (fx_i g3 rfl).trans e5, by decide, (fx_i g3 rfl).trans e6, by decide, ⟨(fx_i g3 rfl).trans e7, by decide, fun k hk' => absurd hk' (Nat.not_lt_zero k)⟩, (fx_i g3 rfl).trans e8⟩
  refine xq_mono (rdb_lp f 0 0 0 _ h3 c3 fx_0 (by decide) hq) (fun v h' e => ?_)
  obtain ⟨e1, e2, e3⟩ := e
  exact ⟨e1, fx_t g4 (fx_w e2 (fun _ _ => cT_u) (fun _ _ z => z)), e3⟩
end XRQ
end
section
section XSU1
variable {T : Nat → Nat} {n mem nn : Nat} {NW : Nat → Nat}
/-! a fault's kind is not 0 -/
theorem bls_k {p o k pl : Nat} {fs : List Nat} (e : bls T n p o fs = .inr (k, pl)) : 1 ≤ k ∧ k ≤ 4 := by
  unfold bls at e
  repeat' split at e
  all_goals first | (cases e; done) | (cases e; decide)
theorem bo_k {p o k pl : Nat} {fs : List Nat} (e : bo T n mem nn NW p o fs = .inr (k, pl)) : 1 ≤ k ∧ k ≤ 4 := by
  unfold bo at e
  repeat' split at e
  all_goals first | exact bls_k e | (cases e; done) | (cases e; decide)
theorem bg_k {p o k pl : Nat} {fs : List Nat} (e : bg T n mem nn NW p o fs = .inr (k, pl)) : 1 ≤ k ∧ k ≤ 4 := by
  unfold bg bi at e
  repeat' split at e
  all_goals first | exact bls_k e | exact bo_k e | (cases e; done) | (cases e; decide)
theorem en_k {p o k pl : Nat} {fs : List Nat} (e : en T n p o fs = .inr (k, pl)) : 1 ≤ k ∧ k ≤ 4 := by
  unfold en at e
  repeat' split at e
  all_goals first | (cases e; done) | (cases e; decide)
theorem stp_k {s : aSt} {k pl : Nat} (e : stp T n mem nn NW s = .inr (k, pl)) : 1 ≤ k ∧ k ≤ 4 := by
  unfold stp at e
  split at e
  · cases e
  · split at e
    · exact bg_k e
    · exact en_k e
theorem its_k {k pl : Nat} : ∀ {j : Nat} {s : aSt}, its T n mem nn NW j s = .inr (k, pl) → 1 ≤ k ∧ k ≤ 4 := by
  intro j
  induction j with
  | zero => intro s e; cases e
  | succ j ih =>
    intro s e
    have e : (match stp T n mem nn NW s with
      | .inl s' => its T n mem nn NW j s'
      | .inr e => .inr e) = .inr (k, pl) := e
    cases hs : stp T n mem nn NW s with
    | inl s' => rw [hs] at e; exact ih e
    | inr e2 => rw [hs] at e; cases e; exact stp_k hs
theorem RLq_k {p o k pl : Nat} (e : RLq T n mem nn NW p o (.inr (k, pl))) : 1 ≤ k ∧ k ≤ 4 := by
  rcases e with ⟨k', pl', e1, j, e2⟩ | ⟨p', o', e1, -⟩
  · cases e1
    exact its_k e2
  · cases e1
theorem Bdy_k {p o k pl : Nat} (e : Bdy T n mem nn NW p o (.inr (k, pl))) : 1 ≤ k ∧ k ≤ 4 := by
  unfold Bdy at e
  repeat' split at e
  all_goals first | (cases e; decide) | skip
  obtain ⟨q, h1, h2⟩ := e
  cases q with
  | inl s => cases h2
  | inr e2 =>
    obtain ⟨k', pl'⟩ := e2
    cases h2
    exact RLq_k h1
theorem Tx_k {k pl : Nat} : ∀ {j p o nn : Nat} {NW : Nat → Nat}, Tx T n mem j p o nn NW (.inr (k, pl)) → 1 ≤ k ∧ k ≤ 4 := by
  intro j
  induction j with
  | zero =>
    intro p o nn NW e
    have e := e.2
    unfold Fin_ at e
    split at e
    · cases e
      decide
    · obtain ⟨q, h1, ⟨k', pl', rfl, h2⟩ | ⟨p', o', rfl, h2⟩⟩ := e
      · cases h2
        exact RLq_k h1
      · split at h2
        · cases h2
        · cases h2
          decide
  | succ j ih =>
    intro p o nn NW e
    obtain ⟨-, b, h1, ⟨k', pl', rfl, h2⟩ | ⟨p', o', w, rfl, h2⟩⟩ := e
    · cases h2
      exact Bdy_k h1
    · exact ih h2
end XSU1
section XSU2
variable {tb : aT} {mid d : Nat} {mi : xm_M} {pc : Nat} {lv : List (Nat × Value)} {st : List Value} {h : xh_H} {Q : Option Value → xh_H → Nat → Nat → Prop}
/-- a call that answers nothing, by its contract and by what holds of its end -/
theorem xb_voidq {C : aC} {r : xr_R} {mj : xm_M} {As q : List Value} {σ : aN → Int} {P : aP} {Q1 : Option Value → xh_H → Prop} (hC : a_spec tb C) (hq : a_rq tb h) (hi0 : a_inv tb h) (hr : xC mid pc = some r) (hid : C.1 = r.2.2.1) (he : xa_c r st = some (mj, As, q)) (hd : C.2.1 ≤ d) (ha : a_st σ h.1.length C.2.2.1 As) (hp : a_fp C.2.2.2.2.2 h) (hret : C.2.2.2.1 = [(none, P)]) (hx : ∀ f, xq f r.2.2.1 mj 0 (lv_args 0 As) [] h Q1)
    (k : ∀ (h' : xh_H), Q1 none h' → a_inv tb h' → h'.1 = h.1 → a_fr C.2.2.2.2.1 h h' → a_rq tb h' → xt_B (d + 1) mid mi (pc + 3) lv q h' Q) : xt_B (d + 1) mid mi pc lv st h Q := by
  obtain ⟨e1, e2, e3, e4⟩ := xa_c_ok (d := d) (pc := pc) (lv := lv) (nL := mi.2.2.2.1) hq he
  obtain ⟨v, h', r1, p1, p2, ⟨t, ht, p3⟩, p4⟩ := hC d mj As h σ hd (by rw [hid]; exact e4) hi0 hq.1 ha hp
  rw [hret] at ht
  cases List.mem_singleton.mp ht
  obtain ⟨g1, g2⟩ := p3
  cases g1
  have r1' : xR none d r.2.2.1 mj (0, lv_args 0 As, [], h, 0, 0) (none, h', 0, 0) := by rw [← hid]; exact r1
  obtain ⟨v2, h2, c, s, r2, q2⟩ := k h' (xq_R lv_args_nd r1' hx) p1 p2 p4 (a_rq_of p1.1 (by rw [p2]; exact hq.1))
  have r3 := xR_call (v := none) (h' := h') (mc := 0) (ms := 0) hr e3 e2 e1 r1' r2
  exact ⟨v2, h2, c, s, r3, q2⟩
end XSU2
section XSU3
variable {T : Nat → Nat} {n mem : Nat}
set_option maxRecDepth 100000 in
set_option maxHeartbeats 8000000 in
/-- from the new Statute on -/
theorem s9_rest2 {d n m sc : Nat} {f : Int32} {h : xh_H} (hn : 72 ≤ h.1.length) (hi : a_inv a_tb h) (n72 : 72 ≤ n) (hpn : n % 2 = 0) (hnl : n < h.1.length) (hsn : h.1[n]? = some (0, 7)) (e8' : xg 0 h.2.1 0 8 = nI sc) (sc8 : sc < 8) (e37 : xg 0 h.2.1 3 7 = nI m) : xt_P (d + 49) xi_X9_statute xmi_X9_statute 91 [(0, .ref 0), (1, .int f)] [.ref n] h (fun v h' => hk ss_md h h' ∧ v = some (.int (nI m)) ∧ xg 0 h'.2.1 1 1 = xg 0 h.2.1 1 1 ∧ xg 0 h'.2.1 0 8 = nI (sc + 1) ∧ xg 0 h'.2.1 0 11 = xg 0 h.2.1 0 11) := by
  have hq := a_rq_of hi.1 hn
  have mb := a_flx (c := 0) (k := 9) (lo := 1) (hi := 12) hi.1 hn rfl rfl (by decide)
  refine xa_tn 104 [0, 2] [(0, .ref 0), (2, .ref n)] [.int (xg 0 h.2.1 0 9), .ref n, .ref 4] h [] 9 hq rfl trivial (fun _ => ?_)
  refine xp_void (C := aC_m_X3_fill) (P := []) (σ := fun _ => 0) as_m_X3_fill hq hi rfl rfl rfl (by show 2 ≤ d + 48; omega) ⟨a_av (t := 4) (by decide) hq.1, ⟨n, rfl, hnl, a_tg_e n72 hpn⟩, a_ai mb.1 mb.2, trivial⟩ a_fp0 rfl (fun h2 _ i2 l2 f2 q2 => ?_)
  have hk2 : hk ss_md h h2 := hk_c (hk_0 hi) i2 l2 f2 (by decide)
  have e8 : xg 0 h2.2.1 0 8 = nI sc := (fr_g f2 rfl rfl).trans e8'
  have e7 : xg 0 h2.2.1 3 7 = nI m := (fr_g f2 rfl rfl).trans e37
  refine xa_tn 116 [0, 2] [(0, .ref 0), (2, .ref n)] [.ref n, .int (xg 0 h2.2.1 0 8), .ref 13] h2 [] 7 q2 rfl trivial (fun _ => ?_)
  rw [e8]
  have hin : xe_in (nI sc) 8 = true := xin_n (by omega) (by omega)
  have ecl : (nI sc).toNatClampNeg = sc := nI_clamp (by omega)
  have ki := nI_toInt (n := sc + 1) (by omega)
  have s13 : h2.1[13]? = some (5, 8) := q2.2.1 13 _ rfl
  have sn2 : h2.1[n]? = some (0, 7) := by rw [l2]; exact hsn
  refine xp_step (pc1 := 117) (lv1 := [(0, .ref 0), (2, .ref n)]) (st1 := []) (h1 := xh_ur h2 13 sc (some n)) (r := _) rfl rfl (by simp [xe_2, xe_1, xp_rir, s13, sn2, hin, ecl]) ?_
  have i3 : a_inv a_tb (xh_ur h2 13 sc (some n)) := a_inv_ur (s := (5, 8)) (e := (3, 11, 0)) i2 s13 rfl (Or.inr rfl) ⟨by rw [l2]; exact hnl, a_tg_e n72 hpn⟩
  have hk3 : hk ss_md h (xh_ur h2 13 sc (some n)) := ⟨i3, l2, hk2.2.2⟩
  have e11 : xg 0 (xh_ur h2 13 sc (some n)).2.1 1 1 = xg 0 h.2.1 1 1 := fr_g f2 rfl rfl
  have e0b : xg 0 (xh_ur h2 13 sc (some n)).2.1 0 11 = xg 0 h.2.1 0 11 := fr_g f2 rfl rfl
  have e83 : xg 0 (xh_ur h2 13 sc (some n)).2.1 0 8 = nI sc := e8
  have e73 : xg 0 (xh_ur h2 13 sc (some n)).2.1 3 7 = nI m := e7
  generalize xh_ur h2 13 sc (some n) = h3 at hk3 e83 e11 e0b e73 ⊢
  refine xa_tn 134 [] [] [.int (xg 0 (xh_ui h3 0 8 ((xg 0 h3.2.1 0 8) + (Int32.ofInt 1))).2.1 3 7)] (xh_ui h3 0 8 ((xg 0 h3.2.1 0 8) + (Int32.ofInt 1))) [] 11 (hk_q hk3 hn) rfl trivial (fun _ => ?_)
  have e1 : nI sc + Int32.ofInt 1 = nI (sc + 1) := nI_1 sc
  rw [gx_o (by decide), e73, e83, e1]
  exact xp_ret rfl rfl rfl ⟨hk_ui (s := (0, 9)) (lo := 0) (hi := 8) hk3 hn rfl rfl (by omega) (by omega) rfl rfl, rfl, (gx_o (by decide)).trans e11, gx_s, (gx_k (by decide)).trans e0b⟩
set_option maxRecDepth 100000 in
set_option maxHeartbeats 8000000 in
/-- .. with its making -/
theorem s9_new2 {d m sc : Nat} {f : Int32} {h : xh_H} (hn : 72 ≤ h.1.length) (hp : h.1.length % 2 = 0) (hi : a_inv a_tb h) (e8 : xg 0 h.2.1 0 8 = nI sc) (sc8 : sc < 8) (e37 : xg 0 h.2.1 3 7 = nI m) (f9 : f.toInt ≤ 999) : xt_B (d + 49) xi_X9_statute xmi_X9_statute 83 [(0, .ref 0), (1, .int f)] [] h (fun v h' c s => hl ss_md h h' ∧ (v = some (.int (nI m)) ∧ xg 0 h'.2.1 1 1 = xg 0 h.2.1 1 1 ∧ xg 0 h'.2.1 0 8 = nI (sc + 1) ∧ xg 0 h'.2.1 0 11 = xg 0 h.2.1 0 11) ∧ c ≤ 2 ∧ s ≤ 66) := by
  have i1 := ns_inv hi hn hp f9
  have n1 : (ns_h h f).1.length = h.1.length + 2 := ns_n
  obtain ⟨v, h', r, q1, q2, q3, q4, q5⟩ := s9_rest2 (d := d) (n := h.1.length) (m := m) (sc := sc) (f := f) (h := ns_h h f) (by omega) i1 hn hp (by omega) ns_s0 (by rw [ns_i (by omega)]; exact e8) sc8 (by rw [ns_i (by omega)]; exact e37)
  refine ⟨v, h', 2, 66, ?_, ⟨q1.1, by rw [q1.2.1]; omega, by rw [q1.2.1]; omega, a_fr_t (fun c k hz _ => ns_i (by have := a_fz_lt hz; omega)) q1.2.2 (fun _ z => z)⟩, ⟨q2, q3.trans (ns_i (by omega)), q4, q5.trans (ns_i (by omega))⟩, Nat.le_refl _, Nat.le_refl _⟩
  refine xR_step (o1 := (86, [(0, .ref 0), (1, .int f)], [.ref h.1.length], xh_nw h (0, 7), 1, 2)) rfl rfl rfl ?_
  refine xR_step (o1 := (87, [(0, .ref 0), (1, .int f)], [.ref h.1.length, .ref h.1.length], xh_nw h (0, 7), 1, 2)) rfl rfl rfl ?_
  refine xR_step (o1 := (88, [(0, .ref 0), (1, .int f)], [.int f, .ref h.1.length, .ref h.1.length], xh_nw h (0, 7), 1, 2)) rfl rfl rfl ?_
  refine xR_call (d := d + 48) (v := none) (h' := ns_h h f) (mc := 1) (ms := 64) (As := [.ref h.1.length, .int f]) (q := [.ref h.1.length]) (mj := xmi_X7_init) rfl rfl rfl rfl (ns_init (d := d + 47)) ?_
  exact xR_ad r 2 66
/-- a statute is refused without its text being read -/
def sref (sc td : Nat) (f : Int32) : Prop := 8 ≤ sc ∨ f.toInt < (td : Int) ∨ 999 < f.toInt
/-- what the class's statute answers -/
def s9_A (T : Nat → Nat) (n mem sc td : Nat) (f fk : Int32) (v : Option Value) (h' : xh_H) : Prop := (sref sc td f → v = some (.int (-1000)) ∧ xg 0 h'.2.1 0 8 = nI sc ∧ xg 0 h'.2.1 0 11 = fk) ∧ (¬ sref sc td f → ∃ j r, Tx T n mem j 0 0 0 (nmW T (fun _ => (0, 0))) r ∧ (∀ m, r = .inl m → v = some (.int (nI m)) ∧ m ≤ 16 ∧ xg 0 h'.2.1 0 8 = nI (sc + 1) ∧ xg 0 h'.2.1 0 11 = nI 0) ∧ ∀ k pl, r = .inr (k, pl) → v = some (.int (Int32.ofInt (-1) - nI pl)) ∧ xg 0 h'.2.1 0 8 = nI sc ∧ xg 0 h'.2.1 0 11 = nI k)
set_option maxRecDepth 100000 in
set_option maxHeartbeats 8000000 in
/-- X9.statute -/
theorem s9t_run {d sc td : Nat} {f : Int32} {h : xh_H} (hn : 72 ≤ h.1.length) (hp : h.1.length % 2 = 0) (hi : a_inv a_tb h) (hc : ct h T n) (e9 : xg 0 h.2.1 0 9 = nI mem) (m12 : mem ≤ 12) (e8 : xg 0 h.2.1 0 8 = nI sc) (sc8 : sc ≤ 8) (e10 : xg 0 h.2.1 0 10 = nI td) (td9 : td ≤ 999) : xt_B (d + 49) xi_X9_statute xmi_X9_statute 0 [(0, .ref 0), (1, .int f)] [] h (fun v h' c s => hl ss_md h h' ∧ (xg 0 h'.2.1 1 1 = 0 ∧ s9_A T n mem sc td f (xg 0 h.2.1 0 11) v h') ∧ c ≤ 2 ∧ s ≤ 66) := by
  have hq := a_rq_of hi.1 hn
  have mb := a_flx (c := 0) (k := 9) (lo := 1) (hi := 12) hi.1 hn rfl rfl (by decide)
  have tdi := nI_toInt (n := td) (by omega)
  have bad : sref sc td f → xt_B (d + 49) xi_X9_statute xmi_X9_statute 24 [(0, .ref 0), (1, .int f)] [] h (fun v h' c s => hl ss_md h h' ∧ (xg 0 h'.2.1 1 1 = 0 ∧ s9_A T n mem sc td f (xg 0 h.2.1 0 11) v h') ∧ c ≤ 2 ∧ s ≤ 66) := by
    intro hs
    refine xb_P (Q1 := fun v h' => hk ss_md h h' ∧ xg 0 h'.2.1 1 1 = 0 ∧ s9_A T n mem sc td f (xg 0 h.2.1 0 11) v h') ?_ (fun v h' z => ⟨hl_hk z.1 hn hp, z.2, by decide, by decide⟩)
    refine xa_tn 35 [] [] [.int (-1000)] (xh_ui h 1 1 (Int32.ofInt 0)) [] 7 hq rfl trivial (fun _ => ?_)
    exact xp_ret rfl rfl rfl ⟨hk_ui (s := (0, 8)) (lo := 0) (hi := 640) (hk_0 hi) hn rfl rfl (by decide) (by decide) rfl rfl, gx_s, fun _ => ⟨rfl, (gx_o (by decide)).trans e8, gx_o (by decide)⟩, fun z => absurd hs z⟩
  by_cases k8 : 8 ≤ sc
  · exact xb_tn 24 [0, 1] [(0, .ref 0), (1, .int f)] [] h [true] 6 hq rfl ⟨(show xe_c .ge (xg 0 h.2.1 0 8) 8 = true by rw [e8]; exact nge_t (b := 8) (by omega) (by decide) k8), trivial⟩ (fun _ => bad (Or.inl k8))
  have c1 : xe_c .ge (xg 0 h.2.1 0 8) 8 = false := by rw [e8]; exact nge_f (b := 8) (by omega) (by decide) (by omega)
  cases c2 : xe_c .lt f (xg 0 h.2.1 0 10) with
  | true =>
    have b2 : f.toInt < (xg 0 h.2.1 0 10).toInt := a_ce c2
    rw [e10, tdi] at b2
    exact xb_tn 24 [0, 1] [(0, .ref 0), (1, .int f)] [] h [false, true] 10 hq rfl ⟨c1, c2, trivial⟩ (fun _ => bad (Or.inr (Or.inl b2)))
  | false =>
    have b2 : (xg 0 h.2.1 0 10).toInt ≤ f.toInt := a_ce (a_neg_ok c2)
    rw [e10, tdi] at b2
    cases c3 : xe_c .le f 999 with
    | false =>
      have b3 : (999 : Int) < f.toInt := a_ce (a_neg_ok c3)
      exact xb_tn 24 [0, 1] [(0, .ref 0), (1, .int f)] [] h [false, false, false] 13 hq rfl ⟨c1, c2, c3, trivial⟩ (fun _ => bad (Or.inr (Or.inr b3)))
    | true =>
      have f9 : f.toInt ≤ (999 : Int) := a_ce c3
      have nsr : ¬ sref sc td f := by
        rintro (z | z | z) <;> omega
      refine xb_tn 44 [0, 1] [(0, .ref 0), (1, .int f)] [.int (xg 0 h.2.1 0 9), .ref 3] h [false, false, true] 17 hq rfl ⟨c1, c2, c3, trivial⟩ (fun _ => ?_)
      refine xb_voidq (C := aC_m_X4_read) (P := []) (σ := fun _ => 0) as_m_X4_read hq hi rfl rfl rfl (by show 48 ≤ d + 48; omega) ⟨a_av (t := 3) (by decide) hq.1, a_ai mb.1 mb.2, trivial⟩ a_fp0 rfl (fun f => by rw [e9]; exact read_q (f := f) hc m12 hq) (fun h1 hx i1 l1 f1 q1 => ?_)
      obtain ⟨-, gx, j, r, hX, hO⟩ := hx
      have hk1 : hk ss_md h h1 := hk_c (hk_0 hi) i1 l1 f1 (by decide)
      have hn1 := hk_n hk1 hn
      have ka : hk ss_md h (xh_ui h1 1 1 (Int32.ofInt 0)) := hk_ui (s := (0, 8)) (lo := 0) (hi := 640) hk1 hn rfl rfl (by decide) (by decide) rfl rfl
      have b38 := a_flx (c := 3) (k := 8) (lo := 0) (hi := 4) ka.1.1 (hk_n ka hn) rfl rfl (by decide)
      have kb : hk ss_md h (xh_ui (xh_ui h1 1 1 (Int32.ofInt 0)) 0 11 (xg 0 (xh_ui h1 1 1 (Int32.ofInt 0)).2.1 3 8)) := hk_ui (s := (0, 9)) (lo := 0) (hi := 4) ka hn rfl rfl b38.1 b38.2 rfl rfl
      have d38 : xg 0 (xh_ui h1 1 1 (Int32.ofInt 0)).2.1 3 8 = xg 0 h1.2.1 3 8 := gx_o (by decide)
      have d8 : xg 0 (xh_ui (xh_ui h1 1 1 (Int32.ofInt 0)) 0 11 (xg 0 (xh_ui h1 1 1 (Int32.ofInt 0)).2.1 3 8)).2.1 0 8 = nI sc := (gx_k (by decide)).trans ((gx_o (by decide)).trans ((fx_i gx rfl).trans e8))
      have d11 : xg 0 (xh_ui (xh_ui h1 1 1 (Int32.ofInt 0)) 0 11 (xg 0 (xh_ui h1 1 1 (Int32.ofInt 0)).2.1 3 8)).2.1 0 11 = xg 0 h1.2.1 3 8 := gx_s.trans d38
      have d1 : xg 0 (xh_ui (xh_ui h1 1 1 (Int32.ofInt 0)) 0 11 (xg 0 (xh_ui h1 1 1 (Int32.ofInt 0)).2.1 3 8)).2.1 1 1 = 0 := (gx_o (by decide)).trans gx_s
      have d7 : xg 0 (xh_ui (xh_ui h1 1 1 (Int32.ofInt 0)) 0 11 (xg 0 (xh_ui h1 1 1 (Int32.ofInt 0)).2.1 3 8)).2.1 3 7 = xg 0 h1.2.1 3 7 := (gx_o (by decide)).trans (gx_o (by decide))
      have d9 : xg 0 (xh_ui (xh_ui h1 1 1 (Int32.ofInt 0)) 0 11 (xg 0 (xh_ui h1 1 1 (Int32.ofInt 0)).2.1 3 8)).2.1 3 9 = xg 0 h1.2.1 3 9 := (gx_o (by decide)).trans (gx_o (by decide))
      cases r with
      | inr e =>
        obtain ⟨k, pl⟩ := e
        obtain ⟨o1, o2⟩ := hO.2 _ _ rfl
        obtain ⟨k1, k4⟩ := Tx_k hX
        refine xb_P (Q1 := fun v h' => hk ss_md h h' ∧ xg 0 h'.2.1 1 1 = 0 ∧ s9_A T n mem sc td f (xg 0 h.2.1 0 11) v h') ?_ (fun v h' z => ⟨hl_hk z.1 hn hp, z.2, by decide, by decide⟩)
        refine xa_tn 82 [] [] [.int ((Int32.ofInt (-1)) - (xg 0 (xh_ui (xh_ui h1 1 1 (Int32.ofInt 0)) 0 11 (xg 0 (xh_ui h1 1 1 (Int32.ofInt 0)).2.1 3 8)).2.1 3 9))] (xh_ui (xh_ui h1 1 1 (Int32.ofInt 0)) 0 11 (xg 0 (xh_ui h1 1 1 (Int32.ofInt 0)).2.1 3 8)) [false] 19 q1 rfl ⟨(show xe_c .eq (xg 0 (xh_ui (xh_ui h1 1 1 (Int32.ofInt 0)) 0 11 (xg 0 (xh_ui h1 1 1 (Int32.ofInt 0)).2.1 3 8)).2.1 0 11) 0 = false by rw [d11, o1]; exact xeq_f (by rw [nI_toInt (by omega)]; show ((k : Nat) : Int) ≠ 0; omega)), trivial⟩ (fun _ => ?_)
        rw [d9, o2]
        exact xp_ret rfl rfl rfl ⟨kb, d1, fun z => absurd z nsr, fun _ => ⟨j, _, hX, fun _ e => (by cases e), fun _ _ e => by cases e; exact ⟨rfl, d8, d11.trans o1⟩⟩⟩
      | inl m =>
        obtain ⟨o1, o2, o3⟩ := hO.1 _ rfl
        refine xb_tn 83 [0, 1] [(0, .ref 0), (1, .int f)] [] (xh_ui (xh_ui h1 1 1 (Int32.ofInt 0)) 0 11 (xg 0 (xh_ui h1 1 1 (Int32.ofInt 0)).2.1 3 8)) [true] 14 q1 rfl ⟨(show xe_c .eq (xg 0 (xh_ui (xh_ui h1 1 1 (Int32.ofInt 0)) 0 11 (xg 0 (xh_ui h1 1 1 (Int32.ofInt 0)).2.1 3 8)).2.1 0 11) 0 = true by rw [d11, o1]; rfl), trivial⟩ (fun _ => ?_)
        generalize xh_ui (xh_ui h1 1 1 (Int32.ofInt 0)) 0 11 (xg 0 (xh_ui h1 1 1 (Int32.ofInt 0)).2.1 3 8) = h2 at kb d8 d11 d1 d7 d9 ⊢
        obtain ⟨v, h', c, s, r, z1, ⟨z2, z3, z4, z5⟩, z6⟩ := s9_new2 (d := d) (m := m) (sc := sc) (f := f) (hk_n kb hn) (by rw [kb.2.1]; exact hp) kb.1 d8 (by omega) (d7.trans o2) f9
        refine ⟨v, h', c, s, r, ⟨z1.1, z1.2.1, z1.2.2.1, a_fr_t kb.2.2 z1.2.2.2 (fun _ z => z)⟩, ⟨z3.trans d1, fun z => absurd z nsr, fun _ => ⟨j, _, hX, fun _ e => ?_, fun _ _ e => (by cases e)⟩⟩, z6⟩
        cases e
        exact ⟨z2, o3, z4, z5.trans (d11.trans o1)⟩
end XSU3
end
section
section XSV
variable {T : Nat → Nat} {n mem : Nat}
set_option maxRecDepth 100000 in
set_option maxHeartbeats 4000000 in
theorem isIn_q {f : Nat} {v a b : Int32} {h : xh_H} (hq : a_rq a_tb h) : xq f xi_X10_isIn xmi_X10_isIn 0 [(0, .int v), (1, .int a), (2, .int b)] [] h (fun w h' => h = h' ∧ w = some (.int (bl (decide (a.toInt ≤ v.toInt ∧ v.toInt ≤ b.toInt))))) := by
  cases c1 : xe_c .lt v a with
  | true =>
    have b1 : v.toInt < a.toInt := a_ce c1
    refine xq_n 15 [] [] [.int (Int32.ofInt 0)] h [true] 6 hq rfl ⟨c1, trivial⟩ (fun hq => ?_)
    exact xq_ret rfl rfl rfl ⟨rfl, by rw [show decide (a.toInt ≤ v.toInt ∧ v.toInt ≤ b.toInt) = false from decide_eq_false (by omega)]; rfl⟩
  | false =>
    have b1 : a.toInt ≤ v.toInt := a_ce (a_neg_ok c1)
    cases c2 : xe_c .gt v b with
    | true =>
      have b2 : b.toInt < v.toInt := a_ce c2
      refine xq_n 15 [] [] [.int (Int32.ofInt 0)] h [false, true] 9 hq rfl ⟨c1, c2, trivial⟩ (fun hq => ?_)
      exact xq_ret rfl rfl rfl ⟨rfl, by rw [show decide (a.toInt ≤ v.toInt ∧ v.toInt ≤ b.toInt) = false from decide_eq_false (by omega)]; rfl⟩
    | false =>
      have b2 : v.toInt ≤ b.toInt := a_ce (a_neg_ok c2)
      refine xq_n 15 [] [] [.int (Int32.ofInt 1)] h [false, false] 10 hq rfl ⟨c1, c2, trivial⟩ (fun hq => ?_)
      exact xq_ret rfl rfl rfl ⟨rfl, by rw [show decide (a.toInt ≤ v.toInt ∧ v.toInt ≤ b.toInt) = true from decide_eq_true (by omega)]; rfl⟩
set_option maxRecDepth 100000 in
theorem take_q {f : Nat} {h : xh_H} (hq : a_rq a_tb h) : xq f xi_X10_take xmi_X10_take 0 [(0, .ref 39)] [] h (fun v h' => v = some (.int (xg 0 h.2.1 39 2)) ∧ h' = xh_ui h 39 2 (Int32.ofInt 0)) := by
  refine xq_n 11 [] [] [.int (xg 0 h.2.1 39 2)] (xh_ui h 39 2 (Int32.ofInt 0)) [] 9 hq rfl trivial (fun _ => ?_)
  exact xq_ret rfl rfl rfl ⟨rfl, rfl⟩
/-- what the reference's statute answers -/
def s10_A (sc td : Nat) (f fk : Int32) (r : Sum Nat (Nat × Nat)) (v : Option Value) (h' : xh_H) : Prop := (sref sc td f → v = some (.int (-1000)) ∧ xg 0 h'.2.1 39 33 = nI sc ∧ xg 0 h'.2.1 39 13 = fk) ∧ (¬ sref sc td f → (∀ m, r = .inl m → v = some (.int (nI m)) ∧ xg 0 h'.2.1 39 33 = nI (sc + 1) ∧ xg 0 h'.2.1 39 13 = nI 0) ∧ ∀ k pl, r = .inr (k, pl) → v = some (.int (Int32.ofInt (-1) - nI pl)) ∧ xg 0 h'.2.1 39 33 = nI sc ∧ xg 0 h'.2.1 39 13 = nI k)
set_option maxRecDepth 100000 in
set_option maxHeartbeats 4000000 in
/-- X10.statute -/
theorem s10_q {f sc td : Nat} {fd : Int32} {h : xh_H} {r : Sum Nat (Nat × Nat)} (hq : a_rq a_tb h) (n6 : n ≤ 640) (e2 : xg 0 h.2.1 39 2 = nI n) (hT : ∀ k, k < n → T k < 256 ∧ xg 0 h.2.1 40 k = nI (T k)) (e4 : xg 0 h.2.1 39 4 = nI mem) (m12 : mem ≤ 12) (e33 : xg 0 h.2.1 39 33 = nI sc) (sc8 : sc ≤ 8) (e3 : xg 0 h.2.1 39 3 = nI td) (td9 : td ≤ 999) {W : Nat → Nat} (hX : ¬ sref sc td fd → ∃ j, Tx T n mem j 0 0 0 W r) : xq f xi_X10_statute xmi_X10_statute 0 [(0, .ref 39), (1, .int fd)] [] h (s10_A sc td fd (xg 0 h.2.1 39 13) r) := by
  have tdi := nI_toInt (n := td) (by omega)
  refine xq_n 7 [0, 1] [(0, .ref 39), (1, .int fd)] [.ref 39, .ref 39] (xh_ui h 39 0 (Int32.ofInt 0)) [] 7 hq rfl trivial (fun _ => ?_)
  have hq : a_rq a_tb (xh_ui h 39 0 (Int32.ofInt 0)) := a_rq_ui hq
  refine xq_run hq rfl rfl (take_q hq) ?_
  rintro v h1 ⟨rfl, rfl⟩
  have hq : a_rq a_tb (xh_ui (xh_ui h 39 0 (Int32.ofInt 0)) 39 2 (Int32.ofInt 0)) := a_rq_ui hq
  rw [show xg 0 (xh_ui h 39 0 (Int32.ofInt 0)).2.1 39 2 = nI n from (gx_k (by decide)).trans e2]
  have g1 : fx (fun c k => Nat.beq c 39 && (Nat.beq k 0 || (Nat.beq k 2 || Nat.beq k 6))) fN h (xh_ui (xh_ui (xh_ui h 39 0 (Int32.ofInt 0)) 39 2 (Int32.ofInt 0)) 39 6 (nI n)) := fx_ui (fx_ui (fx_ui fx_0 rfl) rfl) rfl
  have d33 := (fx_i (c := 39) (k := 33) g1 rfl).trans e33
  have d3 := (fx_i (c := 39) (k := 3) g1 rfl).trans e3
  have d13 := fx_i (c := 39) (k := 13) g1 rfl
  have d4 := (fx_i (c := 39) (k := 4) g1 rfl).trans e4
  have d40 : ∀ k, k < n → T k < 256 ∧ xg 0 (xh_ui (xh_ui (xh_ui h 39 0 (Int32.ofInt 0)) 39 2 (Int32.ofInt 0)) 39 6 (nI n)).2.1 40 k = nI (T k) := fun k hk' => ⟨(hT k hk').1, (fx_i (c := 40) (k := k) g1 rfl).trans (hT k hk').2⟩
  have d6 : xg 0 (xh_ui (xh_ui (xh_ui h 39 0 (Int32.ofInt 0)) 39 2 (Int32.ofInt 0)) 39 6 (nI n)).2.1 39 6 = nI n := gx_s
  have hq1 : a_rq a_tb (xh_ui (xh_ui (xh_ui h 39 0 (Int32.ofInt 0)) 39 2 (Int32.ofInt 0)) 39 6 (nI n)) := a_rq_ui hq
  refine xq_n 13 [0, 1] [(0, .ref 39), (1, .int fd)] [] (xh_ui (xh_ui (xh_ui h 39 0 (Int32.ofInt 0)) 39 2 (Int32.ofInt 0)) 39 6 (nI n)) [] 3 hq rfl trivial (fun _ => ?_)
  generalize xh_ui (xh_ui (xh_ui h 39 0 (Int32.ofInt 0)) 39 2 (Int32.ofInt 0)) 39 6 (nI n) = h1 at d33 d3 d13 d4 d40 d6 hq1 ⊢
  have hq := hq1
  by_cases k8 : sc = 8
  · refine xq_n 39 [] [] [.int (-1000)] h1 [true] 7 hq rfl ⟨(show xe_c .eq (xg 0 h1.2.1 39 33) 8 = true by rw [d33, k8]; rfl), trivial⟩ (fun hq => ?_)
    exact xq_ret rfl rfl rfl ⟨fun _ => ⟨rfl, d33, d13⟩, fun z => absurd (Or.inl (by omega)) z⟩
  have c1 : xe_c .eq (xg 0 h1.2.1 39 33) 8 = false := by rw [d33]; exact xeq_f (by rw [nI_toInt (by omega)]; show ((sc : Nat) : Int) ≠ 8; omega)
  refine xq_n 30 [0, 1] [(0, .ref 39), (1, .int fd)] [.int 999, .int (xg 0 h1.2.1 39 3), .int fd] h1 [false] 10 hq rfl ⟨c1, trivial⟩ (fun hq => ?_)
  rw [d3]
  refine xq_run hq rfl rfl (isIn_q hq) ?_
  rintro v h2 ⟨rfl, rfl⟩
  cases b : decide ((nI td).toInt ≤ fd.toInt ∧ fd.toInt ≤ (999 : Int32).toInt) with
  | false =>
    have db := of_decide_eq_false b
    rw [tdi] at db
    have e9 : (999 : Int32).toInt = 999 := rfl
    rw [e9] at db
    refine xq_n 39 [] [] [.int (-1000)] h1 [false] 4 hq rfl ⟨rfl, trivial⟩ (fun hq => ?_)
    refine xq_ret rfl rfl rfl ⟨fun _ => ⟨rfl, d33, d13⟩, fun z => absurd ?_ z⟩
    by_cases z1 : (td : Int) ≤ fd.toInt
    · exact Or.inr (Or.inr (by omega))
    · exact Or.inr (Or.inl (by omega))
  | true =>
    have db := of_decide_eq_true b
    rw [tdi] at db
    have e9 : (999 : Int32).toInt = 999 := rfl
    rw [e9] at db
    have nsr : ¬ sref sc td fd := by
      rintro (z | z | z) <;> omega
    obtain ⟨j, hX⟩ := hX nsr
    refine xq_n 61 [0, 1] [(0, .ref 39), (1, .int fd)] [.ref 39] (xh_ui (xh_ui (xh_ui (xh_ui h1 39 13 (Int32.ofInt 0)) 39 26 (Int32.ofInt 0)) 39 27 (Int32.ofInt 0)) 39 7 (Int32.ofInt 0)) [true] 16 hq rfl ⟨rfl, trivial⟩ (fun _ => ?_)
    have hq : a_rq a_tb (xh_ui (xh_ui (xh_ui (xh_ui h1 39 13 (Int32.ofInt 0)) 39 26 (Int32.ofInt 0)) 39 27 (Int32.ofInt 0)) 39 7 (Int32.ofInt 0)) := a_rq_ui (a_rq_ui (a_rq_ui (a_rq_ui hq)))
    have g2 : fx (fun c k => Nat.beq c 39 && (Nat.beq k 13 || (Nat.beq k 26 || (Nat.beq k 27 || Nat.beq k 7)))) fN h1 (xh_ui (xh_ui (xh_ui (xh_ui h1 39 13 (Int32.ofInt 0)) 39 26 (Int32.ofInt 0)) 39 27 (Int32.ofInt 0)) 39 7 (Int32.ofInt 0)) := fx_ui (fx_ui (fx_ui (fx_ui fx_0 rfl) rfl) rfl) rfl
    have a33 := (fx_i (c := 39) (k := 33) g2 rfl).trans d33
    have a4 := (fx_i (c := 39) (k := 4) g2 rfl).trans d4
    have a6 := (fx_i (c := 39) (k := 6) g2 rfl).trans d6
    have a40 : ∀ k, k < n → T k < 256 ∧ xg 0 (xh_ui (xh_ui (xh_ui (xh_ui h1 39 13 (Int32.ofInt 0)) 39 26 (Int32.ofInt 0)) 39 27 (Int32.ofInt 0)) 39 7 (Int32.ofInt 0)).2.1 40 k = nI (T k) := fun k hk' => ⟨(d40 k hk').1, (fx_i (c := 40) (k := k) g2 rfl).trans (d40 k hk').2⟩
    have a7 : xg 0 (xh_ui (xh_ui (xh_ui (xh_ui h1 39 13 (Int32.ofInt 0)) 39 26 (Int32.ofInt 0)) 39 27 (Int32.ofInt 0)) 39 7 (Int32.ofInt 0)).2.1 39 7 = nI 0 := gx_s
    have a27 : xg 0 (xh_ui (xh_ui (xh_ui (xh_ui h1 39 13 (Int32.ofInt 0)) 39 26 (Int32.ofInt 0)) 39 27 (Int32.ofInt 0)) 39 7 (Int32.ofInt 0)).2.1 39 27 = nI 0 := (gx_k (by decide)).trans gx_s
    have a26 : xg 0 (xh_ui (xh_ui (xh_ui (xh_ui h1 39 13 (Int32.ofInt 0)) 39 26 (Int32.ofInt 0)) 39 27 (Int32.ofInt 0)) 39 7 (Int32.ofInt 0)).2.1 39 26 = nI 0 := (gx_k (by decide)).trans ((gx_k (by decide)).trans gx_s)
    have a13 : xg 0 (xh_ui (xh_ui (xh_ui (xh_ui h1 39 13 (Int32.ofInt 0)) 39 26 (Int32.ofInt 0)) 39 27 (Int32.ofInt 0)) 39 7 (Int32.ofInt 0)).2.1 39 13 = nI 0 := (gx_k (by decide)).trans ((gx_k (by decide)).trans ((gx_k (by decide)).trans gx_s))
    generalize xh_ui (xh_ui (xh_ui (xh_ui h1 39 13 (Int32.ofInt 0)) 39 26 (Int32.ofInt 0)) 39 27 (Int32.ofInt 0)) 39 7 (Int32.ofInt 0) = h2 at hq a33 a4 a6 a40 a7 a27 a26 a13 ⊢
    have hr : rtp h2 T n := ⟨a6, n6, a40⟩
    refine xq_run hq rfl rfl (go_q hq hr a7 (Nat.zero_le _)) ?_
    rintro v h3 ⟨rfl, g3, t3⟩
    have hq := fx_q g3 hq
    have r0 : rq0 h3 T n mem 0 W 0 0 := ⟨rtp_f hr g3 rfl (fun _ => rfl), t3, (fx_i g3 rfl).trans a4, m12, ⟨(fx_i g3 rfl).trans a26, by decide, fun k hk' => absurd hk' (Nat.not_lt_zero k)⟩, (fx_i g3 rfl).trans a27, by decide, (fx_i g3 rfl).trans a13⟩
    refine xq_mono (st_64 (fd := fd) (h0 := h3) (by omega) j 0 0 0 W f h3 hX r0 hq fx_0 ((fx_i g3 rfl).trans a33)) (fun v h' e => ?_)
    exact ⟨fun z => absurd z nsr, fun _ => ⟨e.2.1, e.2.2⟩⟩
end XSV
end
section
section XDP
/-! what a run comes to doesn't hang on the depth it is allowed -/
theorem xe_oi_d {r : xr_R} {pc d : Nat} {lv : List (Nat × Value)} {st : List Value} {h : xh_H} {c s : Nat} {o : xs_S} (e : xe_oi r pc d lv st h c s = some o) : xe_oi r pc (d + 1) lv st h c s = some o := by
  unfold xe_oi at e ⊢
  split at e
  · split at e
    · split at e
      · exact e
      · cases e
    · split at e
      · exact e
      · cases e
    · cases e
  · split at e
    · split at e
      · cases e
      · exact e
    · cases e
  · split at e
    · split at e
      · cases e
      · exact e
    · cases e
  · cases e
theorem xe_2_d {nL d pc : Nat} {r : xr_R} {lv : List (Nat × Value)} {st : List Value} {h : xh_H} {c s : Nat} {o : xs_S} (e : xe_2 none nL r d pc lv st h c s = some o) : xe_2 none nL r (d + 1) pc lv st h c s = some o := by
  unfold xe_2 at e ⊢
  cases h1 : xe_1 nL r pc lv st h c s with
  | some o1 => rw [h1] at e; exact e
  | none =>
    rw [h1] at e
    dsimp only at e ⊢
    cases h2 : xe_o none r pc lv st h c s with
    | some o1 => rw [h2] at e; exact e
    | none => rw [h2] at e; exact xe_oi_d e
theorem xe_oi_c {r : xr_R} {own : String} {pc d : Nat} {lv : List (Nat × Value)} {st : List Value} {h : xh_H} {c s : Nat} {t : xm_M × List Value × List Value} (hr : xr_c xM own r = true) (hc : xe_cl xM r st h = some t) : xe_oi r pc d lv st h c s = none := by
  obtain ⟨i, len, ra, rb, rK, ri⟩ := r
  unfold xe_cl at hc
  cases hM : xM (i, len, ra, rb, rK, ri).2.2.1 with
  | none => rw [hM] at hc; cases hc
  | some m =>
    rw [hM] at hc
    have hM' : xM ra = some m := hM
    unfold xe_oi
    cases i
    case invokevirtual idx =>
      dsimp only
      unfold xr_c at hr
      dsimp only at hr
      split
      · rw [hM'] at hr
        obtain ⟨-, hr⟩ := xw_bb hr
        cases hr
      · rw [hM'] at hr
        obtain ⟨-, hr⟩ := xw_bb hr
        cases hr
      · rfl
    case invokespecial idx =>
      dsimp only at hc ⊢
      split
      · split at hc
        · obtain ⟨z, -⟩ := xw_c hc
          obtain ⟨z, -⟩ := xw_bb z
          cases z
        · cases hc
      · rfl
    case invokestatic idx =>
      dsimp only at hc ⊢
      split
      · obtain ⟨z, -⟩ := xw_c hc
        obtain ⟨z, -⟩ := xw_bb z
        cases z
      · rfl
    all_goals rfl
theorem xe_cl_M {r : xr_R} {st : List Value} {h : xh_H} {mj : xm_M} {As q : List Value} (e : xe_cl xM r st h = some (mj, As, q)) : ∃ m, xM r.2.2.1 = some m := by
  unfold xe_cl at e
  cases hM : xM r.2.2.1 with
  | none => rw [hM] at e; cases e
  | some m => exact ⟨m, rfl⟩
theorem xe_x_dp : ∀ (f d mid : Nat) (mi : xm_M) (S : xs_S) (R : Option Value × xh_H × Nat × Nat), (∃ m, xM mid = some m) → xe_x xM xC none f d mid mi S = some R → xe_x xM xC none f (d + 1) mid mi S = some R := by
  intro f
  induction f with
  | zero => intro d mid mi S R _ e; cases e
  | succ f ih =>
    intro d mid mi S R hM e
    obtain ⟨pc, lv, st, h, c, s⟩ := S
    unfold xe_x at e ⊢
    cases hr : xC mid pc with
    | none => rw [hr] at e; cases e
    | some r =>
      rw [hr] at e
      dsimp only at e ⊢
      cases hi : xe_isr r.1 with
      | true => rw [hi] at e; exact e
      | false =>
        rw [hi] at e
        simp only [cond_false] at e ⊢
        cases h2 : xe_2 none mi.2.2.2.1 r d pc lv st h c s with
        | some o =>
          rw [h2] at e
          rw [xe_2_d h2]
          exact ih d mid mi o R hM e
        | none =>
          rw [h2] at e
          dsimp only at e
          cases d with
          | zero => cases e
          | succ d' =>
            dsimp only at e
            cases hcl : xe_cl xM r st h with
            | none => rw [hcl] at e; cases e
            | some t =>
              obtain ⟨m, hm⟩ := hM
              have hrc := ((xP.1 mid m hm).2 pc r hr).2
              have h3 : xe_2 none mi.2.2.2.1 r (d' + 1 + 1) pc lv st h c s = none := by
                unfold xe_2 at h2 ⊢
                cases k1 : xe_1 mi.2.2.2.1 r pc lv st h c s with
                | some o => rw [k1] at h2; cases h2
                | none =>
                  rw [k1] at h2
                  dsimp only at h2 ⊢
                  cases k2 : xe_o none r pc lv st h c s with
                  | some o => rw [k2] at h2; cases h2
                  | none => exact xe_oi_c hrc hcl
              rw [h3]
              obtain ⟨mj, As, q⟩ := t
              rw [hcl] at e
              dsimp only at e ⊢
              cases hx : xe_x xM xC none f d' r.2.2.1 mj (0, lv_args 0 As, [], h, 0, 0) with
              | none => rw [hx] at e; cases e
              | some t =>
                obtain ⟨v1, h1, mc, ms⟩ := t
                rw [hx] at e
                rw [ih d' r.2.2.1 mj _ _ (xe_cl_M hcl) hx]
                exact ih (d' + 1) mid mi _ R ⟨m, hm⟩ e
theorem xe_x_ds {f mid : Nat} {mi : xm_M} {S : xs_S} {R : Option Value × xh_H × Nat × Nat} (hM : ∃ m, xM mid = some m) {d : Nat} : ∀ k, xe_x xM xC none f d mid mi S = some R → xe_x xM xC none f (d + k) mid mi S = some R := by
  intro k e
  induction k with
  | zero => exact e
  | succ k ih => exact xe_x_dp _ _ _ _ _ _ hM ih
/-- what a run that is known to end comes to, holds of every run -/
theorem xq_of {f d mid : Nat} {mi : xm_M} {pc : Nat} {lv : List (Nat × Value)} {st : List Value} {h : xh_H} {Q : Option Value → xh_H → Prop} (hM : ∃ m, xM mid = some m) (k : xt_P d mid mi pc lv st h Q) : xq f mid mi pc lv st h Q := by
  intro d' lw v h' c s hs hx
  obtain ⟨v2, h2, r, q⟩ := k
  obtain ⟨f2, hf2⟩ := xR_sb hs r
  have a1 := xe_x_le (Nat.le_add_right f f2) (xe_x_ds hM d hx)
  have a2 := xe_x_le (Nat.le_add_left f2 f) (xe_x_ds hM d' hf2)
  rw [Nat.add_comm d' d] at a1
  rw [a1] at a2
  cases a2
  exact q
end XDP
end
section
section XFD
/-- a byte of a number -/
def byC (x : Int32) (j : Nat) : Int32 := match j with
  | 0 => vp_nar FieldType.byte ((x >>> ((24 : Int32) &&& 31)).toInt8.toInt32)
  | 1 => vp_nar FieldType.byte ((x >>> ((16 : Int32) &&& 31)).toInt8.toInt32)
  | 2 => vp_nar FieldType.byte ((x >>> ((8 : Int32) &&& 31)).toInt8.toInt32)
  | _ => vp_nar FieldType.byte ((x >>> ((0 : Int32) &&& 31)).toInt8.toInt32)
def byR (x : Int32) (j : Nat) : Int32 := match j with
  | 0 => (x.toUInt32 >>> (Int32.toUInt32 24 &&& Int32.toUInt32 31)).toInt32 &&& 255
  | 1 => (x.toUInt32 >>> (Int32.toUInt32 16 &&& Int32.toUInt32 31)).toInt32 &&& 255
  | 2 => (x.toUInt32 >>> (Int32.toUInt32 8 &&& Int32.toUInt32 31)).toInt32 &&& 255
  | _ => (x.toUInt32 >>> (Int32.toUInt32 0 &&& Int32.toUInt32 31)).toInt32 &&& 255
def pC (c k : Nat) : Bool := (Nat.beq c 1 && Nat.beq k 1) || Nat.beq c 2
def pR (c k : Nat) : Bool := (Nat.beq c 39 && (Nat.beq k 0 || Nat.beq k 2)) || Nat.beq c 40
set_option maxRecDepth 100000 in
set_option maxHeartbeats 4000000 in
theorem put_q {f t : Nat} {x : Int32} {h : xh_H} (hq : a_rq a_tb h) (t4 : t + 4 ≤ 640) (e1 : xg 0 h.2.1 1 1 = nI t) : xq f xi_X8_put xmi_X8_put 0 [(0, .ref 1), (1, .int x)] [] h (fun v h' => v = none ∧ fx pC fN h h' ∧ xg 0 h'.2.1 1 1 = nI (t + 4) ∧ (∀ j, j < 4 → xg 0 h'.2.1 2 (t + j) = byC x j) ∧ ∀ k, (k < t ∨ t + 4 ≤ k) → xg 0 h'.2.1 2 k = xg 0 h.2.1 2 k) := by
  refine xq_n 3 [0, 1, 2] [(0, .ref 1), (1, .int x), (2, .int 24)] [] h [] 4 hq rfl trivial (fun hq => ?_)
  cases c1 : xe_c .ge (nI t) 640 with
  | true =>
    have z1 : t ≥ 640 := nq_get (a := t) (b := 640) (by omega) (by omega) c1
    omega
  | false =>
    have z1 : t < 640 := nq_gef (a := t) (b := 640) (by omega) (by omega) c1
    refine xq_n 3 [0, 1, 2] [(0, .ref 1), (1, .int x), (2, .int (24 + Int32.ofInt (-8)))] [] (xh_ui (xh_ui h 2 ((xg 0 h.2.1 1 1).toNatClampNeg) (vp_nar FieldType.byte ((x >>> ((24 : Int32) &&& 31)).toInt8.toInt32))) 1 1 ((xg 0 (xh_ui h 2 ((xg 0 h.2.1 1 1).toNatClampNeg) (vp_nar FieldType.byte ((x >>> ((24 : Int32) &&& 31)).toInt8.toInt32))).2.1 1 1) + (Int32.ofInt 1))) [false, false] 25 hq rfl ⟨(by decide), (show xe_c .ge (xg 0 h.2.1 1 1) 640 = false by rw [show (xg 0 h.2.1 1 1) = (nI t) from e1]; exact c1), trivial⟩ (fun _ => ?_)
    rw [show (xg 0 (xh_ui h 2 ((xg 0 h.2.1 1 1).toNatClampNeg) (vp_nar FieldType.byte ((x >>> ((24 : Int32) &&& 31)).toInt8.toInt32))).2.1 1 1) = (nI t) from (gx_o (by decide)).trans (e1)]
    rw [show (xg 0 h.2.1 1 1) = (nI t) from e1]
    rw [show (24 + Int32.ofInt (-8)) = 16 from rfl]
    rw [show ((nI t).toNatClampNeg) = t from nI_clamp (by omega)]
    rw [show ((nI t) + (Int32.ofInt 1)) = nI (t + 1) from nI_1 _]
    have hq : a_rq a_tb (xh_ui (xh_ui h 2 t (vp_nar FieldType.byte ((x >>> ((24 : Int32) &&& 31)).toInt8.toInt32))) 1 1 (nI (t + 1))) := a_rq_ui (a_rq_ui hq)
    cases c2 : xe_c .ge (nI (t + 1)) 640 with
    | true =>
      have z2 : (t + 1) ≥ 640 := nq_get (a := (t + 1)) (b := 640) (by omega) (by omega) c2
      omega
    | false =>
      have z2 : (t + 1) < 640 := nq_gef (a := (t + 1)) (b := 640) (by omega) (by omega) c2
      refine xq_n 3 [0, 1, 2] [(0, .ref 1), (1, .int x), (2, .int (16 + Int32.ofInt (-8)))] [] (xh_ui (xh_ui (xh_ui (xh_ui h 2 t (vp_nar FieldType.byte ((x >>> ((24 : Int32) &&& 31)).toInt8.toInt32))) 1 1 (nI (t + 1))) 2 ((xg 0 (xh_ui (xh_ui h 2 t (vp_nar FieldType.byte ((x >>> ((24 : Int32) &&& 31)).toInt8.toInt32))) 1 1 (nI (t + 1))).2.1 1 1).toNatClampNeg) (vp_nar FieldType.byte ((x >>> ((16 : Int32) &&& 31)).toInt8.toInt32))) 1 1 ((xg 0 (xh_ui (xh_ui (xh_ui h 2 t (vp_nar FieldType.byte ((x >>> ((24 : Int32) &&& 31)).toInt8.toInt32))) 1 1 (nI (t + 1))) 2 ((xg 0 (xh_ui (xh_ui h 2 t (vp_nar FieldType.byte ((x >>> ((24 : Int32) &&& 31)).toInt8.toInt32))) 1 1 (nI (t + 1))).2.1 1 1).toNatClampNeg) (vp_nar FieldType.byte ((x >>> ((16 : Int32) &&& 31)).toInt8.toInt32))).2.1 1 1) + (Int32.ofInt 1))) [false, false] 25 hq rfl ⟨(by decide), (show xe_c .ge (xg 0 (xh_ui (xh_ui h 2 t (vp_nar FieldType.byte ((x >>> ((24 : Int32) &&& 31)).toInt8.toInt32))) 1 1 (nI (t + 1))).2.1 1 1) 640 = false by rw [show (xg 0 (xh_ui (xh_ui h 2 t (vp_nar FieldType.byte ((x >>> ((24 : Int32) &&& 31)).toInt8.toInt32))) 1 1 (nI (t + 1))).2.1 1 1) = (nI (t + 1)) from gx_s]; exact c2), trivial⟩ (fun _ => ?_)
      rw [show (xg 0 (xh_ui (xh_ui (xh_ui h 2 t (vp_nar FieldType.byte ((x >>> ((24 : Int32) &&& 31)).toInt8.toInt32))) 1 1 (nI (t + 1))) 2 ((xg 0 (xh_ui (xh_ui h 2 t (vp_nar FieldType.byte ((x >>> ((24 : Int32) &&& 31)).toInt8.toInt32))) 1 1 (nI (t + 1))).2.1 1 1).toNatClampNeg) (vp_nar FieldType.byte ((x >>> ((16 : Int32) &&& 31)).toInt8.toInt32))).2.1 1 1) = (nI (t + 1)) from (gx_o (by decide)).trans (gx_s)]
      rw [show (xg 0 (xh_ui (xh_ui h 2 t (vp_nar FieldType.byte ((x >>> ((24 : Int32) &&& 31)).toInt8.toInt32))) 1 1 (nI (t + 1))).2.1 1 1) = (nI (t + 1)) from gx_s]
      rw [show (16 + Int32.ofInt (-8)) = 8 from rfl]
      rw [show ((nI (t + 1)).toNatClampNeg) = (t + 1) from nI_clamp (by omega)]
      rw [show ((nI (t + 1)) + (Int32.ofInt 1)) = nI (t + 1 + 1) from nI_1 _]
      have hq : a_rq a_tb (xh_ui (xh_ui (xh_ui (xh_ui h 2 t (vp_nar FieldType.byte ((x >>> ((24 : Int32) &&& 31)).toInt8.toInt32))) 1 1 (nI (t + 1))) 2 (t + 1) (vp_nar FieldType.byte ((x >>> ((16 : Int32) &&& 31)).toInt8.toInt32))) 1 1 (nI (t + 1 + 1))) := a_rq_ui (a_rq_ui hq)
      cases c3 : xe_c .ge (nI (t + 1 + 1)) 640 with
      | true =>
        have z3 : (t + 1 + 1) ≥ 640 := nq_get (a := (t + 1 + 1)) (b := 640) (by omega) (by omega) c3
        omega
      | false =>
        have z3 : (t + 1 + 1) < 640 := nq_gef (a := (t + 1 + 1)) (b := 640) (by omega) (by omega) c3
        refine xq_n 3 [0, 1, 2] [(0, .ref 1), (1, .int x), (2, .int (8 + Int32.ofInt (-8)))] [] (xh_ui (xh_ui (xh_ui (xh_ui (xh_ui (xh_ui h 2 t (vp_nar FieldType.byte ((x >>> ((24 : Int32) &&& 31)).toInt8.toInt32))) 1 1 (nI (t + 1))) 2 (t + 1) (vp_nar FieldType.byte ((x >>> ((16 : Int32) &&& 31)).toInt8.toInt32))) 1 1 (nI (t + 1 + 1))) 2 ((xg 0 (xh_ui (xh_ui (xh_ui (xh_ui h 2 t (vp_nar FieldType.byte ((x >>> ((24 : Int32) &&& 31)).toInt8.toInt32))) 1 1 (nI (t + 1))) 2 (t + 1) (vp_nar FieldType.byte ((x >>> ((16 : Int32) &&& 31)).toInt8.toInt32))) 1 1 (nI (t + 1 + 1))).2.1 1 1).toNatClampNeg) (vp_nar FieldType.byte ((x >>> ((8 : Int32) &&& 31)).toInt8.toInt32))) 1 1 ((xg 0 (xh_ui (xh_ui (xh_ui (xh_ui (xh_ui h 2 t (vp_nar FieldType.byte ((x >>> ((24 : Int32) &&& 31)).toInt8.toInt32))) 1 1 (nI (t + 1))) 2 (t + 1) (vp_nar FieldType.byte ((x >>> ((16 : Int32) &&& 31)).toInt8.toInt32))) 1 1 (nI (t + 1 + 1))) 2 ((xg 0 (xh_ui (xh_ui (xh_ui (xh_ui h 2 t (vp_nar FieldType.byte ((x >>> ((24 : Int32) &&& 31)).toInt8.toInt32))) 1 1 (nI (t + 1))) 2 (t + 1) (vp_nar FieldType.byte ((x >>> ((16 : Int32) &&& 31)).toInt8.toInt32))) 1 1 (nI (t + 1 + 1))).2.1 1 1).toNatClampNeg) (vp_nar FieldType.byte ((x >>> ((8 : Int32) &&& 31)).toInt8.toInt32))).2.1 1 1) + (Int32.ofInt 1))) [false, false] 25 hq rfl ⟨(by decide), (show xe_c .ge (xg 0 (xh_ui (xh_ui (xh_ui (xh_ui h 2 t (vp_nar FieldType.byte ((x >>> ((24 : Int32) &&& 31)).toInt8.toInt32))) 1 1 (nI (t + 1))) 2 (t + 1) (vp_nar FieldType.byte ((x >>> ((16 : Int32) &&& 31)).toInt8.toInt32))) 1 1 (nI (t + 1 + 1))).2.1 1 1) 640 = false by rw [show (xg 0 (xh_ui (xh_ui (xh_ui (xh_ui h 2 t (vp_nar FieldType.byte ((x >>> ((24 : Int32) &&& 31)).toInt8.toInt32))) 1 1 (nI (t + 1))) 2 (t + 1) (vp_nar FieldType.byte ((x >>> ((16 : Int32) &&& 31)).toInt8.toInt32))) 1 1 (nI (t + 1 + 1))).2.1 1 1) = (nI (t + 1 + 1)) from gx_s]; exact c3), trivial⟩ (fun _ => ?_)
        rw [show (xg 0 (xh_ui (xh_ui (xh_ui (xh_ui (xh_ui h 2 t (vp_nar FieldType.byte ((x >>> ((24 : Int32) &&& 31)).toInt8.toInt32))) 1 1 (nI (t + 1))) 2 (t + 1) (vp_nar FieldType.byte ((x >>> ((16 : Int32) &&& 31)).toInt8.toInt32))) 1 1 (nI (t + 1 + 1))) 2 ((xg 0 (xh_ui (xh_ui (xh_ui (xh_ui h 2 t (vp_nar FieldType.byte ((x >>> ((24 : Int32) &&& 31)).toInt8.toInt32))) 1 1 (nI (t + 1))) 2 (t + 1) (vp_nar FieldType.byte ((x >>> ((16 : Int32) &&& 31)).toInt8.toInt32))) 1 1 (nI (t + 1 + 1))).2.1 1 1).toNatClampNeg) (vp_nar FieldType.byte ((x >>> ((8 : Int32) &&& 31)).toInt8.toInt32))).2.1 1 1) = (nI (t + 1 + 1)) from (gx_o (by decide)).trans (gx_s)]
        rw [show (xg 0 (xh_ui (xh_ui (xh_ui (xh_ui h 2 t (vp_nar FieldType.byte ((x >>> ((24 : Int32) &&& 31)).toInt8.toInt32))) 1 1 (nI (t + 1))) 2 (t + 1) (vp_nar FieldType.byte ((x >>> ((16 : Int32) &&& 31)).toInt8.toInt32))) 1 1 (nI (t + 1 + 1))).2.1 1 1) = (nI (t + 1 + 1)) from gx_s]
        rw [show (8 + Int32.ofInt (-8)) = 0 from rfl]
        rw [show ((nI (t + 1 + 1)).toNatClampNeg) = (t + 1 + 1) from nI_clamp (by omega)]
        rw [show ((nI (t + 1 + 1)) + (Int32.ofInt 1)) = nI (t + 1 + 1 + 1) from nI_1 _]
        have hq : a_rq a_tb (xh_ui (xh_ui (xh_ui (xh_ui (xh_ui (xh_ui h 2 t (vp_nar FieldType.byte ((x >>> ((24 : Int32) &&& 31)).toInt8.toInt32))) 1 1 (nI (t + 1))) 2 (t + 1) (vp_nar FieldType.byte ((x >>> ((16 : Int32) &&& 31)).toInt8.toInt32))) 1 1 (nI (t + 1 + 1))) 2 (t + 1 + 1) (vp_nar FieldType.byte ((x >>> ((8 : Int32) &&& 31)).toInt8.toInt32))) 1 1 (nI (t + 1 + 1 + 1))) := a_rq_ui (a_rq_ui hq)
        cases c4 : xe_c .ge (nI (t + 1 + 1 + 1)) 640 with
        | true =>
          have z4 : (t + 1 + 1 + 1) ≥ 640 := nq_get (a := (t + 1 + 1 + 1)) (b := 640) (by omega) (by omega) c4
          omega
        | false =>
          have z4 : (t + 1 + 1 + 1) < 640 := nq_gef (a := (t + 1 + 1 + 1)) (b := 640) (by omega) (by omega) c4
          refine xq_n 3 [0, 1, 2] [(0, .ref 1), (1, .int x), (2, .int (0 + Int32.ofInt (-8)))] [] (xh_ui (xh_ui (xh_ui (xh_ui (xh_ui (xh_ui (xh_ui (xh_ui h 2 t (vp_nar FieldType.byte ((x >>> ((24 : Int32) &&& 31)).toInt8.toInt32))) 1 1 (nI (t + 1))) 2 (t + 1) (vp_nar FieldType.byte ((x >>> ((16 : Int32) &&& 31)).toInt8.toInt32))) 1 1 (nI (t + 1 + 1))) 2 (t + 1 + 1) (vp_nar FieldType.byte ((x >>> ((8 : Int32) &&& 31)).toInt8.toInt32))) 1 1 (nI (t + 1 + 1 + 1))) 2 ((xg 0 (xh_ui (xh_ui (xh_ui (xh_ui (xh_ui (xh_ui h 2 t (vp_nar FieldType.byte ((x >>> ((24 : Int32) &&& 31)).toInt8.toInt32))) 1 1 (nI (t + 1))) 2 (t + 1) (vp_nar FieldType.byte ((x >>> ((16 : Int32) &&& 31)).toInt8.toInt32))) 1 1 (nI (t + 1 + 1))) 2 (t + 1 + 1) (vp_nar FieldType.byte ((x >>> ((8 : Int32) &&& 31)).toInt8.toInt32))) 1 1 (nI (t + 1 + 1 + 1))).2.1 1 1).toNatClampNeg) (vp_nar FieldType.byte ((x >>> ((0 : Int32) &&& 31)).toInt8.toInt32))) 1 1 ((xg 0 (xh_ui (xh_ui (xh_ui (xh_ui (xh_ui (xh_ui (xh_ui h 2 t (vp_nar FieldType.byte ((x >>> ((24 : Int32) &&& 31)).toInt8.toInt32))) 1 1 (nI (t + 1))) 2 (t + 1) (vp_nar FieldType.byte ((x >>> ((16 : Int32) &&& 31)).toInt8.toInt32))) 1 1 (nI (t + 1 + 1))) 2 (t + 1 + 1) (vp_nar FieldType.byte ((x >>> ((8 : Int32) &&& 31)).toInt8.toInt32))) 1 1 (nI (t + 1 + 1 + 1))) 2 ((xg 0 (xh_ui (xh_ui (xh_ui (xh_ui (xh_ui (xh_ui h 2 t (vp_nar FieldType.byte ((x >>> ((24 : Int32) &&& 31)).toInt8.toInt32))) 1 1 (nI (t + 1))) 2 (t + 1) (vp_nar FieldType.byte ((x >>> ((16 : Int32) &&& 31)).toInt8.toInt32))) 1 1 (nI (t + 1 + 1))) 2 (t + 1 + 1) (vp_nar FieldType.byte ((x >>> ((8 : Int32) &&& 31)).toInt8.toInt32))) 1 1 (nI (t + 1 + 1 + 1))).2.1 1 1).toNatClampNeg) (vp_nar FieldType.byte ((x >>> ((0 : Int32) &&& 31)).toInt8.toInt32))).2.1 1 1) + (Int32.ofInt 1))) [false, false] 25 hq rfl ⟨(by decide), (show xe_c .ge (xg 0 (xh_ui (xh_ui (xh_ui (xh_ui (xh_ui (xh_ui h 2 t (vp_nar FieldType.byte ((x >>> ((24 : Int32) &&& 31)).toInt8.toInt32))) 1 1 (nI (t + 1))) 2 (t + 1) (vp_nar FieldType.byte ((x >>> ((16 : Int32) &&& 31)).toInt8.toInt32))) 1 1 (nI (t + 1 + 1))) 2 (t + 1 + 1) (vp_nar FieldType.byte ((x >>> ((8 : Int32) &&& 31)).toInt8.toInt32))) 1 1 (nI (t + 1 + 1 + 1))).2.1 1 1) 640 = false by rw [show (xg 0 (xh_ui (xh_ui (xh_ui (xh_ui (xh_ui (xh_ui h 2 t (vp_nar FieldType.byte ((x >>> ((24 : Int32) &&& 31)).toInt8.toInt32))) 1 1 (nI (t + 1))) 2 (t + 1) (vp_nar FieldType.byte ((x >>> ((16 : Int32) &&& 31)).toInt8.toInt32))) 1 1 (nI (t + 1 + 1))) 2 (t + 1 + 1) (vp_nar FieldType.byte ((x >>> ((8 : Int32) &&& 31)).toInt8.toInt32))) 1 1 (nI (t + 1 + 1 + 1))).2.1 1 1) = (nI (t + 1 + 1 + 1)) from gx_s]; exact c4), trivial⟩ (fun _ => ?_)
          rw [show (xg 0 (xh_ui (xh_ui (xh_ui (xh_ui (xh_ui (xh_ui (xh_ui h 2 t (vp_nar FieldType.byte ((x >>> ((24 : Int32) &&& 31)).toInt8.toInt32))) 1 1 (nI (t + 1))) 2 (t + 1) (vp_nar FieldType.byte ((x >>> ((16 : Int32) &&& 31)).toInt8.toInt32))) 1 1 (nI (t + 1 + 1))) 2 (t + 1 + 1) (vp_nar FieldType.byte ((x >>> ((8 : Int32) &&& 31)).toInt8.toInt32))) 1 1 (nI (t + 1 + 1 + 1))) 2 ((xg 0 (xh_ui (xh_ui (xh_ui (xh_ui (xh_ui (xh_ui h 2 t (vp_nar FieldType.byte ((x >>> ((24 : Int32) &&& 31)).toInt8.toInt32))) 1 1 (nI (t + 1))) 2 (t + 1) (vp_nar FieldType.byte ((x >>> ((16 : Int32) &&& 31)).toInt8.toInt32))) 1 1 (nI (t + 1 + 1))) 2 (t + 1 + 1) (vp_nar FieldType.byte ((x >>> ((8 : Int32) &&& 31)).toInt8.toInt32))) 1 1 (nI (t + 1 + 1 + 1))).2.1 1 1).toNatClampNeg) (vp_nar FieldType.byte ((x >>> ((0 : Int32) &&& 31)).toInt8.toInt32))).2.1 1 1) = (nI (t + 1 + 1 + 1)) from (gx_o (by decide)).trans (gx_s)]
          rw [show (xg 0 (xh_ui (xh_ui (xh_ui (xh_ui (xh_ui (xh_ui h 2 t (vp_nar FieldType.byte ((x >>> ((24 : Int32) &&& 31)).toInt8.toInt32))) 1 1 (nI (t + 1))) 2 (t + 1) (vp_nar FieldType.byte ((x >>> ((16 : Int32) &&& 31)).toInt8.toInt32))) 1 1 (nI (t + 1 + 1))) 2 (t + 1 + 1) (vp_nar FieldType.byte ((x >>> ((8 : Int32) &&& 31)).toInt8.toInt32))) 1 1 (nI (t + 1 + 1 + 1))).2.1 1 1) = (nI (t + 1 + 1 + 1)) from gx_s]
          rw [show (0 + Int32.ofInt (-8)) = (-8) from rfl]
          rw [show ((nI (t + 1 + 1 + 1)).toNatClampNeg) = (t + 1 + 1 + 1) from nI_clamp (by omega)]
          rw [show ((nI (t + 1 + 1 + 1)) + (Int32.ofInt 1)) = nI (t + 1 + 1 + 1 + 1) from nI_1 _]
          have hq : a_rq a_tb (xh_ui (xh_ui (xh_ui (xh_ui (xh_ui (xh_ui (xh_ui (xh_ui h 2 t (vp_nar FieldType.byte ((x >>> ((24 : Int32) &&& 31)).toInt8.toInt32))) 1 1 (nI (t + 1))) 2 (t + 1) (vp_nar FieldType.byte ((x >>> ((16 : Int32) &&& 31)).toInt8.toInt32))) 1 1 (nI (t + 1 + 1))) 2 (t + 1 + 1) (vp_nar FieldType.byte ((x >>> ((8 : Int32) &&& 31)).toInt8.toInt32))) 1 1 (nI (t + 1 + 1 + 1))) 2 (t + 1 + 1 + 1) (vp_nar FieldType.byte ((x >>> ((0 : Int32) &&& 31)).toInt8.toInt32))) 1 1 (nI (t + 1 + 1 + 1 + 1))) := a_rq_ui (a_rq_ui hq)
          refine xq_n 46 [] [] [] (xh_ui (xh_ui (xh_ui (xh_ui (xh_ui (xh_ui (xh_ui (xh_ui h 2 t (vp_nar FieldType.byte ((x >>> ((24 : Int32) &&& 31)).toInt8.toInt32))) 1 1 (nI (t + 1))) 2 (t + 1) (vp_nar FieldType.byte ((x >>> ((16 : Int32) &&& 31)).toInt8.toInt32))) 1 1 (nI (t + 1 + 1))) 2 (t + 1 + 1) (vp_nar FieldType.byte ((x >>> ((8 : Int32) &&& 31)).toInt8.toInt32))) 1 1 (nI (t + 1 + 1 + 1))) 2 (t + 1 + 1 + 1) (vp_nar FieldType.byte ((x >>> ((0 : Int32) &&& 31)).toInt8.toInt32))) 1 1 (nI (t + 1 + 1 + 1 + 1))) [true] 4 hq rfl ⟨(by decide), trivial⟩ (fun hq => ?_)
          refine xq_ret rfl rfl rfl ⟨rfl, fx_ui (fx_ui (fx_ui (fx_ui (fx_ui (fx_ui (fx_ui (fx_ui (fx_0) rfl) rfl) rfl) rfl) rfl) rfl) rfl) rfl, gx_s, fun j hj => ?_, fun k hk' => ?_⟩
          · match j, hj with
            | 0, _ => exact (gx_o (by decide)).trans ((gx_k (by omega)).trans ((gx_o (by decide)).trans ((gx_k (by omega)).trans ((gx_o (by decide)).trans ((gx_k (by omega)).trans ((gx_o (by decide)).trans (gx_s)))))))
            | 1, _ => exact (gx_o (by decide)).trans ((gx_k (by omega)).trans ((gx_o (by decide)).trans ((gx_k (by omega)).trans ((gx_o (by decide)).trans (gx_s)))))
            | 2, _ => exact (gx_o (by decide)).trans ((gx_k (by omega)).trans ((gx_o (by decide)).trans (gx_s)))
            | 3, _ => exact (gx_o (by decide)).trans (gx_s)
          · exact (gx_o (by decide)).trans ((gx_k (by omega)).trans ((gx_o (by decide)).trans ((gx_k (by omega)).trans ((gx_o (by decide)).trans ((gx_k (by omega)).trans ((gx_o (by decide)).trans (gx_k (by omega))))))))
set_option maxRecDepth 100000 in
set_option maxHeartbeats 4000000 in
theorem com_q {f t : Nat} {x : Int32} {h : xh_H} (hq : a_rq a_tb h) (t4 : t + 4 ≤ 640) (e1 : xg 0 h.2.1 39 2 = nI t) : xq f xi_X10_come xmi_X10_come 0 [(0, .ref 39), (1, .int x)] [] h (fun v h' => v = none ∧ fx pR fN h h' ∧ xg 0 h'.2.1 39 2 = nI (t + 4) ∧ (∀ j, j < 4 → xg 0 h'.2.1 40 (t + j) = byR x j) ∧ ∀ k, (k < t ∨ t + 4 ≤ k) → xg 0 h'.2.1 40 k = xg 0 h.2.1 40 k) := by
  refine xq_n 3 [0, 1, 2] [(0, .ref 39), (1, .int x), (2, .int 24)] [] h [] 4 hq rfl trivial (fun hq => ?_)
  refine xq_n 3 [0, 1, 2] [(0, .ref 39), (1, .int x), (2, .int (24 + Int32.ofInt (-8)))] [] (xh_ui (xh_ui h 40 ((xg 0 h.2.1 39 2).toNatClampNeg) (((x.toUInt32 >>> ((Int32.toUInt32 24) &&& Int32.toUInt32 31)).toInt32) &&& 255)) 39 2 ((xg 0 (xh_ui h 40 ((xg 0 h.2.1 39 2).toNatClampNeg) (((x.toUInt32 >>> ((Int32.toUInt32 24) &&& Int32.toUInt32 31)).toInt32) &&& 255)).2.1 39 2) + (Int32.ofInt 1))) [false] 22 hq rfl ⟨(by decide), trivial⟩ (fun _ => ?_)
  rw [show (xg 0 (xh_ui h 40 ((xg 0 h.2.1 39 2).toNatClampNeg) (((x.toUInt32 >>> ((Int32.toUInt32 24) &&& Int32.toUInt32 31)).toInt32) &&& 255)).2.1 39 2) = (nI t) from (gx_o (by decide)).trans (e1)]
  rw [show (xg 0 h.2.1 39 2) = (nI t) from e1]
  rw [show (24 + Int32.ofInt (-8)) = 16 from rfl]
  rw [show ((nI t).toNatClampNeg) = t from nI_clamp (by omega)]
  rw [show ((nI t) + (Int32.ofInt 1)) = nI (t + 1) from nI_1 _]
  have hq : a_rq a_tb (xh_ui (xh_ui h 40 t (((x.toUInt32 >>> ((Int32.toUInt32 24) &&& Int32.toUInt32 31)).toInt32) &&& 255)) 39 2 (nI (t + 1))) := a_rq_ui (a_rq_ui hq)
  refine xq_n 3 [0, 1, 2] [(0, .ref 39), (1, .int x), (2, .int (16 + Int32.ofInt (-8)))] [] (xh_ui (xh_ui (xh_ui (xh_ui h 40 t (((x.toUInt32 >>> ((Int32.toUInt32 24) &&& Int32.toUInt32 31)).toInt32) &&& 255)) 39 2 (nI (t + 1))) 40 ((xg 0 (xh_ui (xh_ui h 40 t (((x.toUInt32 >>> ((Int32.toUInt32 24) &&& Int32.toUInt32 31)).toInt32) &&& 255)) 39 2 (nI (t + 1))).2.1 39 2).toNatClampNeg) (((x.toUInt32 >>> ((Int32.toUInt32 16) &&& Int32.toUInt32 31)).toInt32) &&& 255)) 39 2 ((xg 0 (xh_ui (xh_ui (xh_ui h 40 t (((x.toUInt32 >>> ((Int32.toUInt32 24) &&& Int32.toUInt32 31)).toInt32) &&& 255)) 39 2 (nI (t + 1))) 40 ((xg 0 (xh_ui (xh_ui h 40 t (((x.toUInt32 >>> ((Int32.toUInt32 24) &&& Int32.toUInt32 31)).toInt32) &&& 255)) 39 2 (nI (t + 1))).2.1 39 2).toNatClampNeg) (((x.toUInt32 >>> ((Int32.toUInt32 16) &&& Int32.toUInt32 31)).toInt32) &&& 255)).2.1 39 2) + (Int32.ofInt 1))) [false] 22 hq rfl ⟨(by decide), trivial⟩ (fun _ => ?_)
  rw [show (xg 0 (xh_ui (xh_ui (xh_ui h 40 t (((x.toUInt32 >>> ((Int32.toUInt32 24) &&& Int32.toUInt32 31)).toInt32) &&& 255)) 39 2 (nI (t + 1))) 40 ((xg 0 (xh_ui (xh_ui h 40 t (((x.toUInt32 >>> ((Int32.toUInt32 24) &&& Int32.toUInt32 31)).toInt32) &&& 255)) 39 2 (nI (t + 1))).2.1 39 2).toNatClampNeg) (((x.toUInt32 >>> ((Int32.toUInt32 16) &&& Int32.toUInt32 31)).toInt32) &&& 255)).2.1 39 2) = (nI (t + 1)) from (gx_o (by decide)).trans (gx_s)]
  rw [show (xg 0 (xh_ui (xh_ui h 40 t (((x.toUInt32 >>> ((Int32.toUInt32 24) &&& Int32.toUInt32 31)).toInt32) &&& 255)) 39 2 (nI (t + 1))).2.1 39 2) = (nI (t + 1)) from gx_s]
  rw [show (16 + Int32.ofInt (-8)) = 8 from rfl]
  rw [show ((nI (t + 1)).toNatClampNeg) = (t + 1) from nI_clamp (by omega)]
  rw [show ((nI (t + 1)) + (Int32.ofInt 1)) = nI (t + 1 + 1) from nI_1 _]
  have hq : a_rq a_tb (xh_ui (xh_ui (xh_ui (xh_ui h 40 t (((x.toUInt32 >>> ((Int32.toUInt32 24) &&& Int32.toUInt32 31)).toInt32) &&& 255)) 39 2 (nI (t + 1))) 40 (t + 1) (((x.toUInt32 >>> ((Int32.toUInt32 16) &&& Int32.toUInt32 31)).toInt32) &&& 255)) 39 2 (nI (t + 1 + 1))) := a_rq_ui (a_rq_ui hq)
  refine xq_n 3 [0, 1, 2] [(0, .ref 39), (1, .int x), (2, .int (8 + Int32.ofInt (-8)))] [] (xh_ui (xh_ui (xh_ui (xh_ui (xh_ui (xh_ui h 40 t (((x.toUInt32 >>> ((Int32.toUInt32 24) &&& Int32.toUInt32 31)).toInt32) &&& 255)) 39 2 (nI (t + 1))) 40 (t + 1) (((x.toUInt32 >>> ((Int32.toUInt32 16) &&& Int32.toUInt32 31)).toInt32) &&& 255)) 39 2 (nI (t + 1 + 1))) 40 ((xg 0 (xh_ui (xh_ui (xh_ui (xh_ui h 40 t (((x.toUInt32 >>> ((Int32.toUInt32 24) &&& Int32.toUInt32 31)).toInt32) &&& 255)) 39 2 (nI (t + 1))) 40 (t + 1) (((x.toUInt32 >>> ((Int32.toUInt32 16) &&& Int32.toUInt32 31)).toInt32) &&& 255)) 39 2 (nI (t + 1 + 1))).2.1 39 2).toNatClampNeg) (((x.toUInt32 >>> ((Int32.toUInt32 8) &&& Int32.toUInt32 31)).toInt32) &&& 255)) 39 2 ((xg 0 (xh_ui (xh_ui (xh_ui (xh_ui (xh_ui h 40 t (((x.toUInt32 >>> ((Int32.toUInt32 24) &&& Int32.toUInt32 31)).toInt32) &&& 255)) 39 2 (nI (t + 1))) 40 (t + 1) (((x.toUInt32 >>> ((Int32.toUInt32 16) &&& Int32.toUInt32 31)).toInt32) &&& 255)) 39 2 (nI (t + 1 + 1))) 40 ((xg 0 (xh_ui (xh_ui (xh_ui (xh_ui h 40 t (((x.toUInt32 >>> ((Int32.toUInt32 24) &&& Int32.toUInt32 31)).toInt32) &&& 255)) 39 2 (nI (t + 1))) 40 (t + 1) (((x.toUInt32 >>> ((Int32.toUInt32 16) &&& Int32.toUInt32 31)).toInt32) &&& 255)) 39 2 (nI (t + 1 + 1))).2.1 39 2).toNatClampNeg) (((x.toUInt32 >>> ((Int32.toUInt32 8) &&& Int32.toUInt32 31)).toInt32) &&& 255)).2.1 39 2) + (Int32.ofInt 1))) [false] 22 hq rfl ⟨(by decide), trivial⟩ (fun _ => ?_)
  rw [show (xg 0 (xh_ui (xh_ui (xh_ui (xh_ui (xh_ui h 40 t (((x.toUInt32 >>> ((Int32.toUInt32 24) &&& Int32.toUInt32 31)).toInt32) &&& 255)) 39 2 (nI (t + 1))) 40 (t + 1) (((x.toUInt32 >>> ((Int32.toUInt32 16) &&& Int32.toUInt32 31)).toInt32) &&& 255)) 39 2 (nI (t + 1 + 1))) 40 ((xg 0 (xh_ui (xh_ui (xh_ui (xh_ui h 40 t (((x.toUInt32 >>> ((Int32.toUInt32 24) &&& Int32.toUInt32 31)).toInt32) &&& 255)) 39 2 (nI (t + 1))) 40 (t + 1) (((x.toUInt32 >>> ((Int32.toUInt32 16) &&& Int32.toUInt32 31)).toInt32) &&& 255)) 39 2 (nI (t + 1 + 1))).2.1 39 2).toNatClampNeg) (((x.toUInt32 >>> ((Int32.toUInt32 8) &&& Int32.toUInt32 31)).toInt32) &&& 255)).2.1 39 2) = (nI (t + 1 + 1)) from (gx_o (by decide)).trans (gx_s)]
  rw [show (xg 0 (xh_ui (xh_ui (xh_ui (xh_ui h 40 t (((x.toUInt32 >>> ((Int32.toUInt32 24) &&& Int32.toUInt32 31)).toInt32) &&& 255)) 39 2 (nI (t + 1))) 40 (t + 1) (((x.toUInt32 >>> ((Int32.toUInt32 16) &&& Int32.toUInt32 31)).toInt32) &&& 255)) 39 2 (nI (t + 1 + 1))).2.1 39 2) = (nI (t + 1 + 1)) from gx_s]
  rw [show (8 + Int32.ofInt (-8)) = 0 from rfl]
  rw [show ((nI (t + 1 + 1)).toNatClampNeg) = (t + 1 + 1) from nI_clamp (by omega)]
  rw [show ((nI (t + 1 + 1)) + (Int32.ofInt 1)) = nI (t + 1 + 1 + 1) from nI_1 _]
  have hq : a_rq a_tb (xh_ui (xh_ui (xh_ui (xh_ui (xh_ui (xh_ui h 40 t (((x.toUInt32 >>> ((Int32.toUInt32 24) &&& Int32.toUInt32 31)).toInt32) &&& 255)) 39 2 (nI (t + 1))) 40 (t + 1) (((x.toUInt32 >>> ((Int32.toUInt32 16) &&& Int32.toUInt32 31)).toInt32) &&& 255)) 39 2 (nI (t + 1 + 1))) 40 (t + 1 + 1) (((x.toUInt32 >>> ((Int32.toUInt32 8) &&& Int32.toUInt32 31)).toInt32) &&& 255)) 39 2 (nI (t + 1 + 1 + 1))) := a_rq_ui (a_rq_ui hq)
  refine xq_n 3 [0, 1, 2] [(0, .ref 39), (1, .int x), (2, .int (0 + Int32.ofInt (-8)))] [] (xh_ui (xh_ui (xh_ui (xh_ui (xh_ui (xh_ui (xh_ui (xh_ui h 40 t (((x.toUInt32 >>> ((Int32.toUInt32 24) &&& Int32.toUInt32 31)).toInt32) &&& 255)) 39 2 (nI (t + 1))) 40 (t + 1) (((x.toUInt32 >>> ((Int32.toUInt32 16) &&& Int32.toUInt32 31)).toInt32) &&& 255)) 39 2 (nI (t + 1 + 1))) 40 (t + 1 + 1) (((x.toUInt32 >>> ((Int32.toUInt32 8) &&& Int32.toUInt32 31)).toInt32) &&& 255)) 39 2 (nI (t + 1 + 1 + 1))) 40 ((xg 0 (xh_ui (xh_ui (xh_ui (xh_ui (xh_ui (xh_ui h 40 t (((x.toUInt32 >>> ((Int32.toUInt32 24) &&& Int32.toUInt32 31)).toInt32) &&& 255)) 39 2 (nI (t + 1))) 40 (t + 1) (((x.toUInt32 >>> ((Int32.toUInt32 16) &&& Int32.toUInt32 31)).toInt32) &&& 255)) 39 2 (nI (t + 1 + 1))) 40 (t + 1 + 1) (((x.toUInt32 >>> ((Int32.toUInt32 8) &&& Int32.toUInt32 31)).toInt32) &&& 255)) 39 2 (nI (t + 1 + 1 + 1))).2.1 39 2).toNatClampNeg) (((x.toUInt32 >>> ((Int32.toUInt32 0) &&& Int32.toUInt32 31)).toInt32) &&& 255)) 39 2 ((xg 0 (xh_ui (xh_ui (xh_ui (xh_ui (xh_ui (xh_ui (xh_ui h 40 t (((x.toUInt32 >>> ((Int32.toUInt32 24) &&& Int32.toUInt32 31)).toInt32) &&& 255)) 39 2 (nI (t + 1))) 40 (t + 1) (((x.toUInt32 >>> ((Int32.toUInt32 16) &&& Int32.toUInt32 31)).toInt32) &&& 255)) 39 2 (nI (t + 1 + 1))) 40 (t + 1 + 1) (((x.toUInt32 >>> ((Int32.toUInt32 8) &&& Int32.toUInt32 31)).toInt32) &&& 255)) 39 2 (nI (t + 1 + 1 + 1))) 40 ((xg 0 (xh_ui (xh_ui (xh_ui (xh_ui (xh_ui (xh_ui h 40 t (((x.toUInt32 >>> ((Int32.toUInt32 24) &&& Int32.toUInt32 31)).toInt32) &&& 255)) 39 2 (nI (t + 1))) 40 (t + 1) (((x.toUInt32 >>> ((Int32.toUInt32 16) &&& Int32.toUInt32 31)).toInt32) &&& 255)) 39 2 (nI (t + 1 + 1))) 40 (t + 1 + 1) (((x.toUInt32 >>> ((Int32.toUInt32 8) &&& Int32.toUInt32 31)).toInt32) &&& 255)) 39 2 (nI (t + 1 + 1 + 1))).2.1 39 2).toNatClampNeg) (((x.toUInt32 >>> ((Int32.toUInt32 0) &&& Int32.toUInt32 31)).toInt32) &&& 255)).2.1 39 2) + (Int32.ofInt 1))) [false] 22 hq rfl ⟨(by decide), trivial⟩ (fun _ => ?_)
  rw [show (xg 0 (xh_ui (xh_ui (xh_ui (xh_ui (xh_ui (xh_ui (xh_ui h 40 t (((x.toUInt32 >>> ((Int32.toUInt32 24) &&& Int32.toUInt32 31)).toInt32) &&& 255)) 39 2 (nI (t + 1))) 40 (t + 1) (((x.toUInt32 >>> ((Int32.toUInt32 16) &&& Int32.toUInt32 31)).toInt32) &&& 255)) 39 2 (nI (t + 1 + 1))) 40 (t + 1 + 1) (((x.toUInt32 >>> ((Int32.toUInt32 8) &&& Int32.toUInt32 31)).toInt32) &&& 255)) 39 2 (nI (t + 1 + 1 + 1))) 40 ((xg 0 (xh_ui (xh_ui (xh_ui (xh_ui (xh_ui (xh_ui h 40 t (((x.toUInt32 >>> ((Int32.toUInt32 24) &&& Int32.toUInt32 31)).toInt32) &&& 255)) 39 2 (nI (t + 1))) 40 (t + 1) (((x.toUInt32 >>> ((Int32.toUInt32 16) &&& Int32.toUInt32 31)).toInt32) &&& 255)) 39 2 (nI (t + 1 + 1))) 40 (t + 1 + 1) (((x.toUInt32 >>> ((Int32.toUInt32 8) &&& Int32.toUInt32 31)).toInt32) &&& 255)) 39 2 (nI (t + 1 + 1 + 1))).2.1 39 2).toNatClampNeg) (((x.toUInt32 >>> ((Int32.toUInt32 0) &&& Int32.toUInt32 31)).toInt32) &&& 255)).2.1 39 2) = (nI (t + 1 + 1 + 1)) from (gx_o (by decide)).trans (gx_s)]
  rw [show (xg 0 (xh_ui (xh_ui (xh_ui (xh_ui (xh_ui (xh_ui h 40 t (((x.toUInt32 >>> ((Int32.toUInt32 24) &&& Int32.toUInt32 31)).toInt32) &&& 255)) 39 2 (nI (t + 1))) 40 (t + 1) (((x.toUInt32 >>> ((Int32.toUInt32 16) &&& Int32.toUInt32 31)).toInt32) &&& 255)) 39 2 (nI (t + 1 + 1))) 40 (t + 1 + 1) (((x.toUInt32 >>> ((Int32.toUInt32 8) &&& Int32.toUInt32 31)).toInt32) &&& 255)) 39 2 (nI (t + 1 + 1 + 1))).2.1 39 2) = (nI (t + 1 + 1 + 1)) from gx_s]
  rw [show (0 + Int32.ofInt (-8)) = (-8) from rfl]
  rw [show ((nI (t + 1 + 1 + 1)).toNatClampNeg) = (t + 1 + 1 + 1) from nI_clamp (by omega)]
  rw [show ((nI (t + 1 + 1 + 1)) + (Int32.ofInt 1)) = nI (t + 1 + 1 + 1 + 1) from nI_1 _]
  have hq : a_rq a_tb (xh_ui (xh_ui (xh_ui (xh_ui (xh_ui (xh_ui (xh_ui (xh_ui h 40 t (((x.toUInt32 >>> ((Int32.toUInt32 24) &&& Int32.toUInt32 31)).toInt32) &&& 255)) 39 2 (nI (t + 1))) 40 (t + 1) (((x.toUInt32 >>> ((Int32.toUInt32 16) &&& Int32.toUInt32 31)).toInt32) &&& 255)) 39 2 (nI (t + 1 + 1))) 40 (t + 1 + 1) (((x.toUInt32 >>> ((Int32.toUInt32 8) &&& Int32.toUInt32 31)).toInt32) &&& 255)) 39 2 (nI (t + 1 + 1 + 1))) 40 (t + 1 + 1 + 1) (((x.toUInt32 >>> ((Int32.toUInt32 0) &&& Int32.toUInt32 31)).toInt32) &&& 255)) 39 2 (nI (t + 1 + 1 + 1 + 1))) := a_rq_ui (a_rq_ui hq)
  refine xq_n 39 [] [] [] (xh_ui (xh_ui (xh_ui (xh_ui (xh_ui (xh_ui (xh_ui (xh_ui h 40 t (((x.toUInt32 >>> ((Int32.toUInt32 24) &&& Int32.toUInt32 31)).toInt32) &&& 255)) 39 2 (nI (t + 1))) 40 (t + 1) (((x.toUInt32 >>> ((Int32.toUInt32 16) &&& Int32.toUInt32 31)).toInt32) &&& 255)) 39 2 (nI (t + 1 + 1))) 40 (t + 1 + 1) (((x.toUInt32 >>> ((Int32.toUInt32 8) &&& Int32.toUInt32 31)).toInt32) &&& 255)) 39 2 (nI (t + 1 + 1 + 1))) 40 (t + 1 + 1 + 1) (((x.toUInt32 >>> ((Int32.toUInt32 0) &&& Int32.toUInt32 31)).toInt32) &&& 255)) 39 2 (nI (t + 1 + 1 + 1 + 1))) [true] 4 hq rfl ⟨(by decide), trivial⟩ (fun hq => ?_)
  refine xq_ret rfl rfl rfl ⟨rfl, fx_ui (fx_ui (fx_ui (fx_ui (fx_ui (fx_ui (fx_ui (fx_ui (fx_0) rfl) rfl) rfl) rfl) rfl) rfl) rfl) rfl, gx_s, fun j hj => ?_, fun k hk' => ?_⟩
  · match j, hj with
    | 0, _ => exact (gx_o (by decide)).trans ((gx_k (by omega)).trans ((gx_o (by decide)).trans ((gx_k (by omega)).trans ((gx_o (by decide)).trans ((gx_k (by omega)).trans ((gx_o (by decide)).trans (gx_s)))))))
    | 1, _ => exact (gx_o (by decide)).trans ((gx_k (by omega)).trans ((gx_o (by decide)).trans ((gx_k (by omega)).trans ((gx_o (by decide)).trans (gx_s)))))
    | 2, _ => exact (gx_o (by decide)).trans ((gx_k (by omega)).trans ((gx_o (by decide)).trans (gx_s)))
    | 3, _ => exact (gx_o (by decide)).trans (gx_s)
  · exact (gx_o (by decide)).trans ((gx_k (by omega)).trans ((gx_o (by decide)).trans ((gx_k (by omega)).trans ((gx_o (by decide)).trans ((gx_k (by omega)).trans ((gx_o (by decide)).trans (gx_k (by omega))))))))
set_option maxRecDepth 100000 in
set_option maxHeartbeats 4000000 in
theorem room_q {f t : Nat} {h : xh_H} (hq : a_rq a_tb h) (t6 : t ≤ 640) (e1 : xg 0 h.2.1 1 1 = nI t) : xq f xi_X8_hasRoom xmi_X8_hasRoom 0 [(0, .ref 1)] [] h (fun v h' => h = h' ∧ v = some (.int (bl (decide (t + 20 ≤ 640))))) := by
  cases c1 : xe_c .gt (nI (t + 20)) 640 with
  | true =>
    have z1 : (t + 20) > 640 := nq_gtt (a := (t + 20)) (b := 640) (by omega) (by omega) c1
    refine xq_n 18 [] [] [.int (Int32.ofInt 0)] h [true] 9 hq rfl ⟨(show xe_c .gt ((xg 0 h.2.1 1 1) + 20) 640 = true by rw [show (xg 0 h.2.1 1 1) = (nI t) from e1, show ((nI t) + 20) = nI (t + 20) from nI_add t 20]; exact c1), trivial⟩ (fun hq => ?_)
    exact xq_ret rfl rfl rfl ⟨rfl, by rw [show decide (t + 20 ≤ 640) = false from decide_eq_false (by omega)]; rfl⟩
  | false =>
    have z1 : (t + 20) ≤ 640 := nq_gtf (a := (t + 20)) (b := 640) (by omega) (by omega) c1
    refine xq_n 18 [] [] [.int (Int32.ofInt 1)] h [false] 10 hq rfl ⟨(show xe_c .gt ((xg 0 h.2.1 1 1) + 20) 640 = false by rw [show (xg 0 h.2.1 1 1) = (nI t) from e1, show ((nI t) + 20) = nI (t + 20) from nI_add t 20]; exact c1), trivial⟩ (fun hq => ?_)
    exact xq_ret rfl rfl rfl ⟨rfl, by rw [show decide (t + 20 ≤ 640) = true from decide_eq_true (by omega)]; rfl⟩
/-- twenty bytes more -/
def fd_B (by_ : Int32 → Nat → Int32) (c t : Nat) (x1 x2 x3 x4 x5 : Int32) (h h' : xh_H) : Prop := (∀ j, j < 4 → xg 0 h'.2.1 c (t + j) = by_ x1 j) ∧ (∀ j, j < 4 → xg 0 h'.2.1 c (t + 4 + j) = by_ x2 j) ∧ (∀ j, j < 4 → xg 0 h'.2.1 c (t + 4 + 4 + j) = by_ x3 j) ∧ (∀ j, j < 4 → xg 0 h'.2.1 c (t + 4 + 4 + 4 + j) = by_ x4 j) ∧ (∀ j, j < 4 → xg 0 h'.2.1 c (t + 4 + 4 + 4 + 4 + j) = by_ x5 j) ∧ ∀ k, (k < t ∨ t + 20 ≤ k) → xg 0 h'.2.1 c k = xg 0 h.2.1 c k
set_option maxRecDepth 100000 in
set_option maxHeartbeats 4000000 in
theorem fd9_q {f t : Nat} {x1 x2 x3 x4 x5 : Int32} {h : xh_H} (hq : a_rq a_tb h) (t6 : t ≤ 640) (e1 : xg 0 h.2.1 1 1 = nI t) : xq f xi_X9_feed xmi_X9_feed 0 [(0, .ref 0), (1, .int x1), (2, .int x2), (3, .int x3), (4, .int x4), (5, .int x5)] [] h (fun v h' => (t + 20 ≤ 640 → v = some (.int (nI (t + 4 + 4 + 4 + 4 + 4))) ∧ fx pC fN h h' ∧ xg 0 h'.2.1 1 1 = nI (t + 4 + 4 + 4 + 4 + 4) ∧ fd_B byC 2 t x1 x2 x3 x4 x5 h h') ∧ (¬ t + 20 ≤ 640 → v = some (.int (-1)) ∧ h' = h)) := by
  refine xq_n 4 [0, 1, 2, 3, 4, 5] [(0, .ref 0), (1, .int x1), (2, .int x2), (3, .int x3), (4, .int x4), (5, .int x5)] [.ref 1] h [] 4 hq rfl trivial (fun hq => ?_)
  refine xq_run hq rfl rfl (room_q (t := t) hq t6 e1) ?_
  rintro _ h_ ⟨rfl, rfl⟩
  cases b1 : (decide (t + 20 ≤ 640)) with
  | true =>
    have db1 := of_decide_eq_true b1
    refine xq_n 17 [0, 1, 2, 3, 4, 5] [(0, .ref 0), (1, .int x1), (2, .int x2), (3, .int x3), (4, .int x4), (5, .int x5)] [.int x1, .ref 1] h [true] 6 hq rfl ⟨rfl, trivial⟩ (fun hq => ?_)
    refine xq_run hq rfl rfl (put_q (t := t) hq (by omega) (e1)) ?_
    rintro _ h1 ⟨rfl, g1, d1, a1, o1⟩
    have hq := fx_q g1 hq
    refine xq_n 25 [0, 1, 2, 3, 4, 5] [(0, .ref 0), (1, .int x1), (2, .int x2), (3, .int x3), (4, .int x4), (5, .int x5)] [.int x2, .ref 1] h1 [] 5 hq rfl trivial (fun hq => ?_)
    refine xq_run hq rfl rfl (put_q (t := t + 4) hq (by omega) (d1)) ?_
    rintro _ h2 ⟨rfl, g2, d2, a2, o2⟩
    have hq := fx_q g2 hq
    refine xq_n 33 [0, 1, 2, 3, 4, 5] [(0, .ref 0), (1, .int x1), (2, .int x2), (3, .int x3), (4, .int x4), (5, .int x5)] [.int x3, .ref 1] h2 [] 5 hq rfl trivial (fun hq => ?_)
    refine xq_run hq rfl rfl (put_q (t := t + 4 + 4) hq (by omega) (d2)) ?_
    rintro _ h3 ⟨rfl, g3, d3, a3, o3⟩
    have hq := fx_q g3 hq
    refine xq_n 42 [0, 1, 2, 3, 4, 5] [(0, .ref 0), (1, .int x1), (2, .int x2), (3, .int x3), (4, .int x4), (5, .int x5)] [.int x4, .ref 1] h3 [] 5 hq rfl trivial (fun hq => ?_)
    refine xq_run hq rfl rfl (put_q (t := t + 4 + 4 + 4) hq (by omega) (d3)) ?_
    rintro _ h4 ⟨rfl, g4, d4, a4, o4⟩
    have hq := fx_q g4 hq
    refine xq_n 51 [0, 1, 2, 3, 4, 5] [(0, .ref 0), (1, .int x1), (2, .int x2), (3, .int x3), (4, .int x4), (5, .int x5)] [.int x5, .ref 1] h4 [] 5 hq rfl trivial (fun hq => ?_)
    refine xq_run hq rfl rfl (put_q (t := t + 4 + 4 + 4 + 4) hq (by omega) (d4)) ?_
    rintro _ h5 ⟨rfl, g5, d5, a5, o5⟩
    have hq := fx_q g5 hq
    refine xq_n 61 [] [] [.int (xg 0 h5.2.1 1 1)] h5 [] 5 hq rfl trivial (fun hq => ?_)
    rw [show (xg 0 h5.2.1 1 1) = (nI (t + 4 + 4 + 4 + 4 + 4)) from d5]
    have ex : ∀ k, xg 0 h.2.1 2 k = xg 0 h.2.1 2 k := fun k => rfl
    refine xq_ret rfl rfl rfl ⟨fun _ => ⟨rfl, fx_t (fx_t (fx_t (fx_t (fx_t (fx_0) (g1)) (g2)) (g3)) (g4)) (g5), d5, fun j hj => ?_, fun j hj => ?_, fun j hj => ?_, fun j hj => ?_, fun j hj => ?_, fun k hk' => ?_⟩, fun z => absurd z (by omega)⟩
    · exact (o5 _ (Or.inl (by omega))).trans ((o4 _ (Or.inl (by omega))).trans ((o3 _ (Or.inl (by omega))).trans ((o2 _ (Or.inl (by omega))).trans (a1 j hj))))
    · exact (o5 _ (Or.inl (by omega))).trans ((o4 _ (Or.inl (by omega))).trans ((o3 _ (Or.inl (by omega))).trans (a2 j hj)))
    · exact (o5 _ (Or.inl (by omega))).trans ((o4 _ (Or.inl (by omega))).trans (a3 j hj))
    · exact (o5 _ (Or.inl (by omega))).trans (a4 j hj)
    · exact a5 j hj
    · exact (o5 _ (by omega)).trans ((o4 _ (by omega)).trans ((o3 _ (by omega)).trans ((o2 _ (by omega)).trans ((o1 _ (by omega)).trans (ex k)))))
  | false =>
    have db1 := of_decide_eq_false b1
    refine xq_n 11 [] [] [.int (Int32.ofInt (-1))] h [false] 4 hq rfl ⟨rfl, trivial⟩ (fun hq => ?_)
    exact xq_ret rfl rfl rfl ⟨fun z => absurd z (by omega), fun _ => ⟨rfl, rfl⟩⟩
set_option maxRecDepth 100000 in
set_option maxHeartbeats 4000000 in
theorem fd10_q {f t : Nat} {x1 x2 x3 x4 x5 : Int32} {h : xh_H} (hq : a_rq a_tb h) (t6 : t ≤ 640) (e1 : xg 0 h.2.1 39 2 = nI t) : xq f xi_X10_feed xmi_X10_feed 0 [(0, .ref 39), (1, .int x1), (2, .int x2), (3, .int x3), (4, .int x4), (5, .int x5)] [] h (fun v h' => (t + 20 ≤ 640 → v = some (.int (nI (t + 4 + 4 + 4 + 4 + 4))) ∧ fx pR fN h h' ∧ xg 0 h'.2.1 39 2 = nI (t + 4 + 4 + 4 + 4 + 4) ∧ fd_B byR 40 t x1 x2 x3 x4 x5 h h') ∧ (¬ t + 20 ≤ 640 → v = some (.int (-1)) ∧ fx pR fN h h' ∧ xg 0 h'.2.1 39 2 = xg 0 h.2.1 39 2 ∧ ∀ k, xg 0 h'.2.1 40 k = xg 0 h.2.1 40 k)) := by
  cases c1 : xe_c .le (nI (t + 20)) 640 with
  | true =>
    have z1 : (t + 20) ≤ 640 := nq_let (a := (t + 20)) (b := 640) (by omega) (by omega) c1
    refine xq_n 22 [0, 1, 2, 3, 4, 5] [(0, .ref 39), (1, .int x1), (2, .int x2), (3, .int x3), (4, .int x4), (5, .int x5)] [.int x1, .ref 39] (xh_ui h 39 0 (Int32.ofInt 0)) [true] 13 hq rfl ⟨(show xe_c .le ((xg 0 (xh_ui h 39 0 (Int32.ofInt 0)).2.1 39 2) + 20) 640 = true by rw [show (xg 0 (xh_ui h 39 0 (Int32.ofInt 0)).2.1 39 2) = (nI t) from (gx_k (by decide)).trans (e1), show ((nI t) + 20) = nI (t + 20) from nI_add t 20]; exact c1), trivial⟩ (fun _ => ?_)
    have hq : a_rq a_tb (xh_ui h 39 0 (Int32.ofInt 0)) := a_rq_ui hq
    refine xq_run hq rfl rfl (com_q (t := t) hq (by omega) ((gx_k (by decide)).trans (e1))) ?_
    rintro _ h1 ⟨rfl, g1, d1, a1, o1⟩
    have hq := fx_q g1 hq
    refine xq_n 27 [0, 1, 2, 3, 4, 5] [(0, .ref 39), (1, .int x1), (2, .int x2), (3, .int x3), (4, .int x4), (5, .int x5)] [.int x2, .ref 39] h1 [] 4 hq rfl trivial (fun hq => ?_)
    refine xq_run hq rfl rfl (com_q (t := t + 4) hq (by omega) (d1)) ?_
    rintro _ h2 ⟨rfl, g2, d2, a2, o2⟩
    have hq := fx_q g2 hq
    refine xq_n 32 [0, 1, 2, 3, 4, 5] [(0, .ref 39), (1, .int x1), (2, .int x2), (3, .int x3), (4, .int x4), (5, .int x5)] [.int x3, .ref 39] h2 [] 4 hq rfl trivial (fun hq => ?_)
    refine xq_run hq rfl rfl (com_q (t := t + 4 + 4) hq (by omega) (d2)) ?_
    rintro _ h3 ⟨rfl, g3, d3, a3, o3⟩
    have hq := fx_q g3 hq
    refine xq_n 38 [0, 1, 2, 3, 4, 5] [(0, .ref 39), (1, .int x1), (2, .int x2), (3, .int x3), (4, .int x4), (5, .int x5)] [.int x4, .ref 39] h3 [] 4 hq rfl trivial (fun hq => ?_)
    refine xq_run hq rfl rfl (com_q (t := t + 4 + 4 + 4) hq (by omega) (d3)) ?_
    rintro _ h4 ⟨rfl, g4, d4, a4, o4⟩
    have hq := fx_q g4 hq
    refine xq_n 44 [0, 1, 2, 3, 4, 5] [(0, .ref 39), (1, .int x1), (2, .int x2), (3, .int x3), (4, .int x4), (5, .int x5)] [.int x5, .ref 39] h4 [] 4 hq rfl trivial (fun hq => ?_)
    refine xq_run hq rfl rfl (com_q (t := t + 4 + 4 + 4 + 4) hq (by omega) (d4)) ?_
    rintro _ h5 ⟨rfl, g5, d5, a5, o5⟩
    have hq := fx_q g5 hq
    refine xq_n 51 [] [] [.int (xg 0 h5.2.1 39 2)] h5 [] 4 hq rfl trivial (fun hq => ?_)
    rw [show (xg 0 h5.2.1 39 2) = (nI (t + 4 + 4 + 4 + 4 + 4)) from d5]
    have ex : ∀ k, xg 0 (xh_ui h 39 0 (Int32.ofInt 0)).2.1 40 k = xg 0 h.2.1 40 k := fun k => gx_o (by decide)
    refine xq_ret rfl rfl rfl ⟨fun _ => ⟨rfl, fx_t (fx_t (fx_t (fx_t (fx_t (fx_ui (fx_0) rfl) (g1)) (g2)) (g3)) (g4)) (g5), d5, fun j hj => ?_, fun j hj => ?_, fun j hj => ?_, fun j hj => ?_, fun j hj => ?_, fun k hk' => ?_⟩, fun z => absurd z (by omega)⟩
    · exact (o5 _ (Or.inl (by omega))).trans ((o4 _ (Or.inl (by omega))).trans ((o3 _ (Or.inl (by omega))).trans ((o2 _ (Or.inl (by omega))).trans (a1 j hj))))
    · exact (o5 _ (Or.inl (by omega))).trans ((o4 _ (Or.inl (by omega))).trans ((o3 _ (Or.inl (by omega))).trans (a2 j hj)))
    · exact (o5 _ (Or.inl (by omega))).trans ((o4 _ (Or.inl (by omega))).trans (a3 j hj))
    · exact (o5 _ (Or.inl (by omega))).trans (a4 j hj)
    · exact a5 j hj
    · exact (o5 _ (by omega)).trans ((o4 _ (by omega)).trans ((o3 _ (by omega)).trans ((o2 _ (by omega)).trans ((o1 _ (by omega)).trans (ex k)))))
  | false =>
    have z1 : (t + 20) > 640 := nq_lef (a := (t + 20)) (b := 640) (by omega) (by omega) c1
    refine xq_n 19 [] [] [.int (Int32.ofInt (-1))] (xh_ui h 39 0 (Int32.ofInt 0)) [false] 12 hq rfl ⟨(show xe_c .le ((xg 0 (xh_ui h 39 0 (Int32.ofInt 0)).2.1 39 2) + 20) 640 = false by rw [show (xg 0 (xh_ui h 39 0 (Int32.ofInt 0)).2.1 39 2) = (nI t) from (gx_k (by decide)).trans (e1), show ((nI t) + 20) = nI (t + 20) from nI_add t 20]; exact c1), trivial⟩ (fun _ => ?_)
    have hq : a_rq a_tb (xh_ui h 39 0 (Int32.ofInt 0)) := a_rq_ui hq
    exact xq_ret rfl rfl rfl ⟨fun z => absurd z (by omega), fun _ => ⟨rfl, fx_ui fx_0 rfl, gx_k (by decide), fun k => gx_o (by decide)⟩⟩
theorem i8_255 (y : Int32) : y.toInt8.toInt32 &&& 255 = y &&& 255 := by
  apply Int32.toBitVec_inj.mp
  rw [Int32.toBitVec_and, Int32.toBitVec_and, Int8.toBitVec_toInt32, Int32.toBitVec_toInt8]
  apply BitVec.eq_of_getLsbD_eq
  intro i hi
  rw [BitVec.getLsbD_and, BitVec.getLsbD_and, BitVec.getLsbD_signExtend]
  by_cases h : i < 8
  · rw [if_pos h, BitVec.getLsbD_signExtend, if_pos (by omega)]
    simp [h, hi]
  · have : (255 : Int32).toBitVec.getLsbD i = false := by
      have h2 : 255 < 2 ^ i := Nat.lt_of_lt_of_le (by decide : 255 < 2 ^ 8) (Nat.pow_le_pow_right (by decide) (by omega))
      show Nat.testBit 255 i = false
      exact Nat.testBit_lt_two_pow h2
    rw [this, Bool.and_false, Bool.and_false]
theorem sh_255 (x s : Int32) (k : Nat) (e1 : (s.toBitVec.smod 32).toNat = k) (e2 : (s.toUInt32.toBitVec % 32).toNat = k) (hk : k ≤ 24) : (x >>> s) &&& 255 = (x.toUInt32 >>> s.toUInt32).toInt32 &&& 255 := by
  apply Int32.toBitVec_inj.mp
  rw [Int32.toBitVec_and, Int32.toBitVec_and, Int32.toBitVec_shiftRight]
  show _ = (x.toUInt32 >>> s.toUInt32).toBitVec &&& _
  rw [UInt32.toBitVec_shiftRight]
  show _ = (x.toBitVec >>> _) &&& _
  apply BitVec.eq_of_getLsbD_eq
  intro i hi
  rw [BitVec.getLsbD_and, BitVec.getLsbD_and]
  by_cases h : i < 8
  · rw [BitVec.sshiftRight', BitVec.getLsbD_sshiftRight, e1]
    show _ = ((x.toBitVec >>> (s.toUInt32.toBitVec % 32).toNat).getLsbD i && _)
    rw [e2, BitVec.getLsbD_ushiftRight]
    simp [show ¬ 32 ≤ i by omega, show k + i < 32 by omega]
  · have : (255 : Int32).toBitVec.getLsbD i = false := by
      have h2 : 255 < 2 ^ i := Nat.lt_of_lt_of_le (by decide : 255 < 2 ^ 8) (Nat.pow_le_pow_right (by decide) (by omega))
      show Nat.testBit 255 i = false
      exact Nat.testBit_lt_two_pow h2
    rw [this, Bool.and_false, Bool.and_false]
theorem byCR (x : Int32) (j : Nat) : byC x j &&& 255 = byR x j := by
  unfold byC byR
  split
  · rw [vp_nar_byte, i8_255, i8_255]; exact sh_255 x (24 &&& 31) 24 (by decide) (by decide) (by decide)
  · rw [vp_nar_byte, i8_255, i8_255]; exact sh_255 x (16 &&& 31) 16 (by decide) (by decide) (by decide)
  · rw [vp_nar_byte, i8_255, i8_255]; exact sh_255 x (8 &&& 31) 8 (by decide) (by decide) (by decide)
  · rw [vp_nar_byte, i8_255, i8_255]; exact sh_255 x (0 &&& 31) 0 (by decide) (by decide) (by decide)
/-- the two tapes are alike -/
def tpe (h : xh_H) (t : Nat) : Prop := xg 0 h.2.1 1 1 = nI t ∧ xg 0 h.2.1 39 2 = nI t ∧ t ≤ 640 ∧ ∀ k, k < t → xg 0 h.2.1 2 k &&& 255 = xg 0 h.2.1 40 k
theorem tpe_f {S L : Nat → Nat → Bool} {h h' : xh_H} {t : Nat} (hc : tpe h t) (g : fx S L h h') (e1 : S 1 1 = false) (e2 : ∀ k, S 2 k = false) (e3 : S 39 2 = false) (e4 : ∀ k, S 40 k = false) : tpe h' t := ⟨(fx_i g e1).trans hc.1, (fx_i g e3).trans hc.2.1, hc.2.2.1, fun k hk' => by rw [fx_i g (e2 k), fx_i g (e4 k)]; exact hc.2.2.2 k hk'⟩
theorem and255 (y : Int32) : ∃ m, m < 256 ∧ y &&& 255 = nI m := by
  have e : (y &&& 255).toBitVec = y.toBitVec &&& 255#32 := Int32.toBitVec_and y 255
  have l : (y &&& 255).toBitVec.toNat < 256 := by
    rw [e, BitVec.toNat_and]
    exact Nat.lt_of_le_of_lt Nat.and_le_right (by decide)
  refine ⟨(y &&& 255).toBitVec.toNat, l, ?_⟩
  apply Int32.toBitVec_inj.mp
  apply BitVec.eq_of_toNat_eq
  show _ = (BitVec.ofNat 32 _).toNat
  rw [BitVec.toNat_ofNat, Nat.mod_eq_of_lt (by omega)]
def tpT (h : xh_H) (k : Nat) : Nat := (xg 0 h.2.1 2 k &&& 255).toNatClampNeg
theorem tpe_T {h : xh_H} {t : Nat} (ht : tpe h t) : (∀ k, tpT h k < 256 ∧ xg 0 h.2.1 2 k &&& 255 = nI (tpT h k)) ∧ ∀ k, k < t → tpT h k < 256 ∧ xg 0 h.2.1 40 k = nI (tpT h k) := by
  have a : ∀ k, tpT h k < 256 ∧ xg 0 h.2.1 2 k &&& 255 = nI (tpT h k) := fun k => by
    obtain ⟨m, m2, e⟩ := and255 (xg 0 h.2.1 2 k)
    have : tpT h k = m := by unfold tpT; rw [e]; exact nI_clamp (by omega)
    rw [this]; exact ⟨m2, e⟩
  exact ⟨a, fun k hk' => ⟨(a k).1, (ht.2.2.2 k hk').symm.trans (a k).2⟩⟩
theorem fd_4 {t : Nat} {P : Nat → Prop} (a0 : ∀ k, k < t → P k) (a : ∀ j, j < 4 → P (t + j)) : ∀ k, k < t + 4 → P k := fun k hk' => by
  by_cases z : k < t
  · exact a0 k z
  · have := a (k - t) (by omega)
    rwa [show t + (k - t) = k by omega] at this
theorem fd_al {t : Nat} {x1 x2 x3 x4 x5 : Int32} {h h1 h2 : xh_H} (ht : tpe h t) (l : t + 20 ≤ 640) (g1 : fx pC fN h h1) (n1 : xg 0 h1.2.1 1 1 = nI (t + 4 + 4 + 4 + 4 + 4)) (b1 : fd_B byC 2 t x1 x2 x3 x4 x5 h h1) (g2 : fx pR fN h1 h2) (n2 : xg 0 h2.2.1 39 2 = nI (t + 4 + 4 + 4 + 4 + 4)) (b2 : fd_B byR 40 t x1 x2 x3 x4 x5 h1 h2) : tpe h2 (t + 4 + 4 + 4 + 4 + 4) := by
  refine ⟨(fx_i g2 rfl).trans n1, n2, by omega, fd_4 (fd_4 (fd_4 (fd_4 (fd_4 (fun k hk' => ?_) ?_) ?_) ?_) ?_) ?_⟩
  · rw [fx_i (k := k) (c := 2) g2 rfl, b1.2.2.2.2.2 k (Or.inl hk'), b2.2.2.2.2.2 k (Or.inl hk'), fx_i (k := k) (c := 40) g1 rfl]
    exact ht.2.2.2 k hk'
  · intro j hj
    rw [fx_i (c := 2) g2 rfl, b1.1 j hj, b2.1 j hj]; exact byCR _ _
  · intro j hj
    rw [fx_i (c := 2) g2 rfl, b1.2.1 j hj, b2.2.1 j hj]; exact byCR _ _
  · intro j hj
    rw [fx_i (c := 2) g2 rfl, b1.2.2.1 j hj, b2.2.2.1 j hj]; exact byCR _ _
  · intro j hj
    rw [fx_i (c := 2) g2 rfl, b1.2.2.2.1 j hj, b2.2.2.2.1 j hj]; exact byCR _ _
  · intro j hj
    rw [fx_i (c := 2) g2 rfl, b1.2.2.2.2.1 j hj, b2.2.2.2.2.1 j hj]; exact byCR _ _
end XFD
end
section
section XRI
/-- a row of options: each below seven, none twice -/
def ro (T : Nat → Nat) : Nat → Nat → Int32 → Bool
  | 0, _, _ => true
  | j + 1, i, s => decide (T i < 7) && (xe_c .eq ((s >>> (nI (T i) &&& 31)) &&& Int32.ofInt 1) 0 && ro T j (i + 1) (s ||| (Int32.ofInt 1 <<< (nI (T i) &&& 31))))
theorem and1_c (y : Int32) : xe_c .ne (y &&& Int32.ofInt 1) (Int32.ofInt 1) = xe_c .eq (y &&& Int32.ofInt 1) 0 := by
  have e : (y &&& Int32.ofInt 1).toBitVec = y.toBitVec &&& 1#32 := Int32.toBitVec_and y (Int32.ofInt 1)
  have l : (y &&& Int32.ofInt 1).toBitVec.toNat ≤ 1 := by
    rw [e, BitVec.toNat_and]
    exact Nat.and_le_right
  have d : y &&& Int32.ofInt 1 = 0 ∨ y &&& Int32.ofInt 1 = 1 := by
    rcases Nat.le_one_iff_eq_zero_or_eq_one.mp l with z | z
    · exact Or.inl (Int32.toBitVec_inj.mp (BitVec.eq_of_toNat_eq z))
    · exact Or.inr (Int32.toBitVec_inj.mp (BitVec.eq_of_toNat_eq z))
  rcases d with z | z <;> rw [z] <;> rfl
set_option maxRecDepth 100000 in
set_option maxHeartbeats 4000000 in
theorem isop_q {f c : Nat} {h : xh_H} (hc : c < 256) (hq : a_rq a_tb h) : xq f xi_X0_isOption xmi_X0_isOption 0 [(0, .int (nI c))] [] h (fun v h' => h = h' ∧ v = some (.int (bl (decide (c < 7))))) := by
  cases c1 : xe_c .lt (nI c) 0 with
  | true =>
    have z1 : c < 0 := nq_ltt (a := c) (b := 0) (by omega) (by omega) c1
    omega
  | false =>
    have z1 : c ≥ 0 := nq_ltf (a := c) (b := 0) (by omega) (by omega) c1
    cases c2 : xe_c .ge (nI c) 7 with
    | true =>
      have z2 : c ≥ 7 := nq_get (a := c) (b := 7) (by omega) (by omega) c2
      refine xq_n 15 [] [] [.int (Int32.ofInt 0)] h [false, true] 8 hq rfl ⟨c1, c2, trivial⟩ (fun hq => ?_)
      exact xq_ret rfl rfl rfl ⟨rfl, by rw [show decide (c < 7) = false from decide_eq_false (by omega)]; rfl⟩
    | false =>
      have z2 : c < 7 := nq_gef (a := c) (b := 7) (by omega) (by omega) c2
      refine xq_n 15 [] [] [.int (Int32.ofInt 1)] h [false, false] 9 hq rfl ⟨c1, c2, trivial⟩ (fun hq => ?_)
      exact xq_ret rfl rfl rfl ⟨rfl, by rw [show decide (c < 7) = true from decide_eq_true (by omega)]; rfl⟩
set_option maxRecDepth 100000 in
set_option maxHeartbeats 4000000 in
theorem row_l {f n : Nat} {T : Nat → Nat} {h : xh_H} (hc : ct h T n) (hq : a_rq a_tb h) : ∀ (j i : Nat) (s : Int32), i + j = n → xq f xi_X0_isRow xmi_X0_isRow 23 [(0, .ref 28), (1, .ref 1), (2, .int s), (3, .int (nI i))] [] h (fun v h' => h = h' ∧ v = some (.int (bl (ro T j i s)))) := by
  have n6 := hc.2.1
  intro j
  induction j with
  | zero =>
    intro i s ij
    cases c1 : xe_c .ge (nI i) (nI n) with
    | true =>
      have z1 : i ≥ n := nq_get (a := i) (b := n) (by omega) (by omega) c1
      refine xq_n 71 [] [] [.int (Int32.ofInt 1)] h [true] 7 hq rfl ⟨(show xe_c .ge (nI i) (xg 0 h.2.1 1 1) = true by rw [show (xg 0 h.2.1 1 1) = (nI n) from hc.1]; exact c1), trivial⟩ (fun hq => ?_)
      exact xq_ret rfl rfl rfl ⟨rfl, rfl⟩
    | false =>
      have z1 : i < n := nq_gef (a := i) (b := n) (by omega) (by omega) c1
      omega
  | succ j ih =>
    intro i s ij
    have hR : ro T (j + 1) i s = (decide (T i < 7) && (xe_c .eq ((s >>> (nI (T i) &&& 31)) &&& Int32.ofInt 1) 0 && ro T j (i + 1) (s ||| (Int32.ofInt 1 <<< (nI (T i) &&& 31))))) := rfl
    rw [hR]
    cases c1 : xe_c .ge (nI i) (nI n) with
    | true =>
      have z1 : i ≥ n := nq_get (a := i) (b := n) (by omega) (by omega) c1
      omega
    | false =>
      have z1 : i < n := nq_gef (a := i) (b := n) (by omega) (by omega) c1
      refine xq_n 33 [0, 1, 2, 3] [(0, .ref 28), (1, .ref 1), (2, .int s), (3, .int (nI i))] [.int (nI i), .ref 1] h [false] 8 hq rfl ⟨(show xe_c .ge (nI i) (xg 0 h.2.1 1 1) = false by rw [show (xg 0 h.2.1 1 1) = (nI n) from hc.1]; exact c1), trivial⟩ (fun hq => ?_)
      have tI := (hc.2.2 i (by omega)).1
      refine xq_run hq rfl rfl (at_q hc (p := i) (by omega) hq) ?_
      rintro _ h_ ⟨rfl, rfl⟩
      refine xq_n 40 [0, 1, 2, 3, 4] [(0, .ref 28), (1, .ref 1), (2, .int s), (3, .int (nI i)), (4, .int (nI (T i)))] [.int (nI (T i))] h [] 4 hq rfl trivial (fun hq => ?_)
      refine xq_run hq rfl rfl (isop_q (c := (T i)) (by omega) hq) ?_
      rintro _ h_ ⟨rfl, rfl⟩
      cases b2 : (decide (T i < 7)) with
      | true =>
        have db2 := of_decide_eq_true b2
        cases c3 : xe_c .eq ((s >>> ((nI (T i)) &&& 31)) &&& (Int32.ofInt 1)) 0 with
        | true =>
          refine xq_n 23 [0, 1, 2, 3] [(0, .ref 28), (1, .ref 1), (2, .int (s ||| ((Int32.ofInt 1) <<< ((nI (T i)) &&& 31)))), (3, .int ((nI i) + Int32.ofInt 1))] [] h [false, true] 17 hq rfl ⟨rfl, c3, trivial⟩ (fun hq => ?_)
          rw [show ((nI i) + Int32.ofInt 1) = nI (i + 1) from nI_1 _]
          exact ih (i + 1) (s ||| ((Int32.ofInt 1) <<< ((nI (T i)) &&& 31))) (by omega)
        | false =>
          refine xq_n 56 [] [] [.int (Int32.ofInt 0)] h [false, false] 10 hq rfl ⟨rfl, c3, trivial⟩ (fun hq => ?_)
          exact xq_ret rfl rfl rfl ⟨rfl, rfl⟩
      | false =>
        have db2 := of_decide_eq_false b2
        refine xq_n 56 [] [] [.int (Int32.ofInt 0)] h [true] 4 hq rfl ⟨rfl, trivial⟩ (fun hq => ?_)
        exact xq_ret rfl rfl rfl ⟨rfl, rfl⟩
set_option maxRecDepth 100000 in
set_option maxHeartbeats 4000000 in
theorem row_q {f n : Nat} {T : Nat → Nat} {h : xh_H} (hc : ct h T n) (hq : a_rq a_tb h) : xq f xi_X0_isRow xmi_X0_isRow 0 [(0, .ref 28), (1, .ref 1)] [] h (fun v h' => h = h' ∧ v = some (.int (bl (decide (1 ≤ n ∧ n ≤ 7) && ro T n 0 (Int32.ofInt 0))))) := by
  have n6 := hc.2.1
  cases c1 : xe_c .lt (nI n) (Int32.ofInt 1) with
  | true =>
    have z1 : n < 1 := nq_ltt (a := n) (b := 1) (by omega) (by omega) c1
    refine xq_n 18 [] [] [.int (Int32.ofInt 0)] h [true] 7 hq rfl ⟨(show xe_c .lt (xg 0 h.2.1 1 1) (Int32.ofInt 1) = true by rw [show (xg 0 h.2.1 1 1) = (nI n) from hc.1]; exact c1), trivial⟩ (fun hq => ?_)
    exact xq_ret rfl rfl rfl ⟨rfl, by rw [decide_eq_false (by omega)]; rfl⟩
  | false =>
    have z1 : n ≥ 1 := nq_ltf (a := n) (b := 1) (by omega) (by omega) c1
    cases c2 : xe_c .le (nI n) 7 with
    | true =>
      have z2 : n ≤ 7 := nq_let (a := n) (b := 7) (by omega) (by omega) c2
      refine xq_n 23 [0, 1, 2, 3] [(0, .ref 28), (1, .ref 1), (2, .int (Int32.ofInt 0)), (3, .int (Int32.ofInt 0))] [] h [false, true] 14 hq rfl ⟨(show xe_c .lt (xg 0 h.2.1 1 1) (Int32.ofInt 1) = false by rw [show (xg 0 h.2.1 1 1) = (nI n) from hc.1]; exact c1), (show xe_c .le (xg 0 h.2.1 1 1) 7 = true by rw [show (xg 0 h.2.1 1 1) = (nI n) from hc.1]; exact c2), trivial⟩ (fun hq => ?_)
      rw [show decide (1 ≤ n ∧ n ≤ 7) = true from decide_eq_true (by omega)]
      exact row_l hc hq n 0 _ (by omega)
    | false =>
      have z2 : n > 7 := nq_lef (a := n) (b := 7) (by omega) (by omega) c2
      refine xq_n 18 [] [] [.int (Int32.ofInt 0)] h [false, false] 11 hq rfl ⟨(show xe_c .lt (xg 0 h.2.1 1 1) (Int32.ofInt 1) = false by rw [show (xg 0 h.2.1 1 1) = (nI n) from hc.1]; exact c1), (show xe_c .le (xg 0 h.2.1 1 1) 7 = false by rw [show (xg 0 h.2.1 1 1) = (nI n) from hc.1]; exact c2), trivial⟩ (fun hq => ?_)
      exact xq_ret rfl rfl rfl ⟨rfl, by rw [decide_eq_false (by omega)]; rfl⟩
set_option maxRecDepth 100000 in
set_option maxHeartbeats 4000000 in
theorem are_l {f n : Nat} {T : Nat → Nat} {h : xh_H} (n6 : n ≤ 640) (hT : ∀ k, k < n → T k < 256 ∧ xg 0 h.2.1 40 k = nI (T k)) (hq : a_rq a_tb h) : ∀ (j i : Nat) (s : Int32), i + j = n → xq f xi_X10_areOptions xmi_X10_areOptions 4 [(0, .ref 39), (1, .int (nI n)), (2, .int s), (3, .int (nI i))] [] h (fun v h' => h = h' ∧ v = some (.int (bl (ro T j i s)))) := by
  intro j
  induction j with
  | zero =>
    intro i s ij
    cases c1 : xe_c .ge (nI i) (nI n) with
    | true =>
      have z1 : i ≥ n := nq_get (a := i) (b := n) (by omega) (by omega) c1
      refine xq_n 54 [] [] [.int (Int32.ofInt 1)] h [true] 6 hq rfl ⟨c1, trivial⟩ (fun hq => ?_)
      exact xq_ret rfl rfl rfl ⟨rfl, rfl⟩
    | false =>
      have z1 : i < n := nq_gef (a := i) (b := n) (by omega) (by omega) c1
      omega
  | succ j ih =>
    intro i s ij
    have tI := (hT i (by omega)).1
    have hR : ro T (j + 1) i s = (decide (T i < 7) && (xe_c .ne ((s >>> (nI (T i) &&& 31)) &&& Int32.ofInt 1) (Int32.ofInt 1) && ro T j (i + 1) (s ||| (Int32.ofInt 1 <<< (nI (T i) &&& 31))))) := by rw [and1_c]; rfl
    rw [hR]
    cases c1 : xe_c .ge (nI i) (nI n) with
    | true =>
      have z1 : i ≥ n := nq_get (a := i) (b := n) (by omega) (by omega) c1
      omega
    | false =>
      have z1 : i < n := nq_gef (a := i) (b := n) (by omega) (by omega) c1
      cases c2 : xe_c .ge (nI (T i)) 7 with
      | true =>
        have z2 : (T i) ≥ 7 := nq_get (a := (T i)) (b := 7) (by omega) (by omega) c2
        rw [show decide (T i < 7) = false from decide_eq_false (by omega)]
        refine xq_n 35 [] [] [.int (Int32.ofInt 0)] h [false, true] 12 hq rfl ⟨c1, (show xe_c .ge (xg 0 h.2.1 40 ((nI i).toNatClampNeg)) 7 = true by rw [show (xg 0 h.2.1 40 ((nI i).toNatClampNeg)) = (nI (T i)) from (by rw [show ((nI i).toNatClampNeg) = i from nI_clamp (by omega)]; exact (hT i (by omega)).2)]; exact c2), trivial⟩ (fun hq => ?_)
        exact xq_ret rfl rfl rfl ⟨rfl, rfl⟩
      | false =>
        have z2 : (T i) < 7 := nq_gef (a := (T i)) (b := 7) (by omega) (by omega) c2
        rw [show decide (T i < 7) = true from decide_eq_true (by omega)]
        cases c3 : xe_c .ne ((s >>> ((nI (T i)) &&& 31)) &&& (Int32.ofInt 1)) (Int32.ofInt 1) with
        | true =>
          refine xq_n 4 [0, 1, 2, 3] [(0, .ref 39), (1, .int (nI n)), (2, .int (s ||| ((Int32.ofInt 1) <<< ((xg 0 h.2.1 40 ((nI i).toNatClampNeg)) &&& 31)))), (3, .int ((nI i) + Int32.ofInt 1))] [] h [false, false, true] 32 hq rfl ⟨c1, (show xe_c .ge (xg 0 h.2.1 40 ((nI i).toNatClampNeg)) 7 = false by rw [show (xg 0 h.2.1 40 ((nI i).toNatClampNeg)) = (nI (T i)) from (by rw [show ((nI i).toNatClampNeg) = i from nI_clamp (by omega)]; exact (hT i (by omega)).2)]; exact c2), (show xe_c .ne ((s >>> ((xg 0 h.2.1 40 ((nI i).toNatClampNeg)) &&& 31)) &&& (Int32.ofInt 1)) (Int32.ofInt 1) = true by rw [show (xg 0 h.2.1 40 ((nI i).toNatClampNeg)) = (nI (T i)) from (by rw [show ((nI i).toNatClampNeg) = i from nI_clamp (by omega)]; exact (hT i (by omega)).2)]; exact c3), trivial⟩ (fun hq => ?_)
          rw [show (xg 0 h.2.1 40 ((nI i).toNatClampNeg)) = (nI (T i)) from (by rw [show ((nI i).toNatClampNeg) = i from nI_clamp (by omega)]; exact (hT i (by omega)).2)]
          rw [show ((nI i) + Int32.ofInt 1) = nI (i + 1) from nI_1 _]
          exact ih (i + 1) (s ||| ((Int32.ofInt 1) <<< ((nI (T i)) &&& 31))) (by omega)
        | false =>
          refine xq_n 35 [] [] [.int (Int32.ofInt 0)] h [false, false, false] 22 hq rfl ⟨c1, (show xe_c .ge (xg 0 h.2.1 40 ((nI i).toNatClampNeg)) 7 = false by rw [show (xg 0 h.2.1 40 ((nI i).toNatClampNeg)) = (nI (T i)) from (by rw [show ((nI i).toNatClampNeg) = i from nI_clamp (by omega)]; exact (hT i (by omega)).2)]; exact c2), (show xe_c .ne ((s >>> ((xg 0 h.2.1 40 ((nI i).toNatClampNeg)) &&& 31)) &&& (Int32.ofInt 1)) (Int32.ofInt 1) = false by rw [show (xg 0 h.2.1 40 ((nI i).toNatClampNeg)) = (nI (T i)) from (by rw [show ((nI i).toNatClampNeg) = i from nI_clamp (by omega)]; exact (hT i (by omega)).2)]; exact c3), trivial⟩ (fun hq => ?_)
          exact xq_ret rfl rfl rfl ⟨rfl, rfl⟩
set_option maxRecDepth 100000 in
set_option maxHeartbeats 4000000 in
theorem are_q {f n : Nat} {T : Nat → Nat} {h : xh_H} (n6 : n ≤ 640) (hT : ∀ k, k < n → T k < 256 ∧ xg 0 h.2.1 40 k = nI (T k)) (hq : a_rq a_tb h) : xq f xi_X10_areOptions xmi_X10_areOptions 0 [(0, .ref 39), (1, .int (nI n))] [] h (fun v h' => h = h' ∧ v = some (.int (bl (ro T n 0 (Int32.ofInt 0))))) := by
  refine xq_n 4 [0, 1, 2, 3] [(0, .ref 39), (1, .int (nI n)), (2, .int (Int32.ofInt 0)), (3, .int (Int32.ofInt 0))] [] h [] 6 hq rfl trivial (fun hq => ?_)
  exact are_l n6 hT hq n 0 _ (by omega)
set_option maxRecDepth 100000 in
set_option maxHeartbeats 4000000 in
theorem mem9_q {f : Nat} {x z : Int32} {h : xh_H} (e9 : xg 0 h.2.1 0 9 = z) (hq : a_rq a_tb h) : xq f xi_X9_isMember xmi_X9_isMember 0 [(0, .ref 0), (1, .int x)] [] h (fun v h' => h = h' ∧ v = some (.int (bl (!xe_c .lt x 0 && !xe_c .ge x z)))) := by
  cases c1 : xe_c .lt x 0 with
  | true =>
    refine xq_n 17 [] [] [.int (Int32.ofInt 0)] h [true] 5 hq rfl ⟨c1, trivial⟩ (fun hq => ?_)
    exact xq_ret rfl rfl rfl ⟨rfl, rfl⟩
  | false =>
    cases c2 : xe_c .ge x z with
    | true =>
      refine xq_n 17 [] [] [.int (Int32.ofInt 0)] h [false, true] 9 hq rfl ⟨c1, (show xe_c .ge x (xg 0 h.2.1 0 9) = true by rw [show (xg 0 h.2.1 0 9) = z from e9]; exact c2), trivial⟩ (fun hq => ?_)
      exact xq_ret rfl rfl rfl ⟨rfl, rfl⟩
    | false =>
      refine xq_n 17 [] [] [.int (Int32.ofInt 1)] h [false, false] 10 hq rfl ⟨c1, (show xe_c .ge x (xg 0 h.2.1 0 9) = false by rw [show (xg 0 h.2.1 0 9) = z from e9]; exact c2), trivial⟩ (fun hq => ?_)
      exact xq_ret rfl rfl rfl ⟨rfl, rfl⟩
set_option maxRecDepth 100000 in
set_option maxHeartbeats 4000000 in
theorem mem10_q {f : Nat} {x z : Int32} {h : xh_H} (e9 : xg 0 h.2.1 39 4 = z) (hq : a_rq a_tb h) : xq f xi_X10_isMember xmi_X10_isMember 0 [(0, .ref 39), (1, .int x)] [] h (fun v h' => h = h' ∧ v = some (.int (bl (!xe_c .lt x 0 && !xe_c .ge x z)))) := by
  cases c1 : xe_c .lt x 0 with
  | true =>
    refine xq_n 17 [] [] [.int (Int32.ofInt 0)] h [true] 5 hq rfl ⟨c1, trivial⟩ (fun hq => ?_)
    exact xq_ret rfl rfl rfl ⟨rfl, rfl⟩
  | false =>
    cases c2 : xe_c .ge x z with
    | true =>
      refine xq_n 17 [] [] [.int (Int32.ofInt 0)] h [false, true] 9 hq rfl ⟨c1, (show xe_c .ge x (xg 0 h.2.1 39 4) = true by rw [show (xg 0 h.2.1 39 4) = z from e9]; exact c2), trivial⟩ (fun hq => ?_)
      exact xq_ret rfl rfl rfl ⟨rfl, rfl⟩
    | false =>
      refine xq_n 17 [] [] [.int (Int32.ofInt 1)] h [false, false] 10 hq rfl ⟨c1, (show xe_c .ge x (xg 0 h.2.1 39 4) = false by rw [show (xg 0 h.2.1 39 4) = z from e9]; exact c2), trivial⟩ (fun hq => ?_)
      exact xq_ret rfl rfl rfl ⟨rfl, rfl⟩
set_option maxRecDepth 100000 in
set_option maxHeartbeats 4000000 in
theorem set9_q {f : Nat} {x z : Int32} {h : xh_H} (e9 : xg 0 h.2.1 0 9 = z) (hq : a_rq a_tb h) : xq f xi_X9_isSet xmi_X9_isSet 0 [(0, .ref 0), (1, .int x)] [] h (fun v h' => h = h' ∧ v = some (.int (bl (!xe_c .lt x 0 && !xe_c .ge x (Int32.ofInt 1 <<< (z &&& 31)))))) := by
  cases c1 : xe_c .lt x 0 with
  | true =>
    refine xq_n 19 [] [] [.int (Int32.ofInt 0)] h [true] 5 hq rfl ⟨c1, trivial⟩ (fun hq => ?_)
    exact xq_ret rfl rfl rfl ⟨rfl, rfl⟩
  | false =>
    cases c2 : xe_c .ge x ((Int32.ofInt 1) <<< ((z) &&& 31)) with
    | true =>
      refine xq_n 19 [] [] [.int (Int32.ofInt 0)] h [false, true] 11 hq rfl ⟨c1, (show xe_c .ge x ((Int32.ofInt 1) <<< ((xg 0 h.2.1 0 9) &&& 31)) = true by rw [show (xg 0 h.2.1 0 9) = z from e9]; exact c2), trivial⟩ (fun hq => ?_)
      exact xq_ret rfl rfl rfl ⟨rfl, rfl⟩
    | false =>
      refine xq_n 19 [] [] [.int (Int32.ofInt 1)] h [false, false] 12 hq rfl ⟨c1, (show xe_c .ge x ((Int32.ofInt 1) <<< ((xg 0 h.2.1 0 9) &&& 31)) = false by rw [show (xg 0 h.2.1 0 9) = z from e9]; exact c2), trivial⟩ (fun hq => ?_)
      exact xq_ret rfl rfl rfl ⟨rfl, rfl⟩
set_option maxRecDepth 100000 in
set_option maxHeartbeats 4000000 in
theorem set10_q {f : Nat} {x z : Int32} {h : xh_H} (e9 : xg 0 h.2.1 39 4 = z) (hq : a_rq a_tb h) : xq f xi_X10_isSet xmi_X10_isSet 0 [(0, .ref 39), (1, .int x)] [] h (fun v h' => h = h' ∧ v = some (.int (bl (!xe_c .lt x 0 && !xe_c .ge x (Int32.ofInt 1 <<< (z &&& 31)))))) := by
  cases c1 : xe_c .lt x 0 with
  | true =>
    refine xq_n 19 [] [] [.int (Int32.ofInt 0)] h [true] 5 hq rfl ⟨c1, trivial⟩ (fun hq => ?_)
    exact xq_ret rfl rfl rfl ⟨rfl, rfl⟩
  | false =>
    cases c2 : xe_c .ge x ((Int32.ofInt 1) <<< ((z) &&& 31)) with
    | true =>
      refine xq_n 19 [] [] [.int (Int32.ofInt 0)] h [false, true] 11 hq rfl ⟨c1, (show xe_c .ge x ((Int32.ofInt 1) <<< ((xg 0 h.2.1 39 4) &&& 31)) = true by rw [show (xg 0 h.2.1 39 4) = z from e9]; exact c2), trivial⟩ (fun hq => ?_)
      exact xq_ret rfl rfl rfl ⟨rfl, rfl⟩
    | false =>
      refine xq_n 19 [] [] [.int (Int32.ofInt 1)] h [false, false] 12 hq rfl ⟨c1, (show xe_c .ge x ((Int32.ofInt 1) <<< ((xg 0 h.2.1 39 4) &&& 31)) = false by rw [show (xg 0 h.2.1 39 4) = z from e9]; exact c2), trivial⟩ (fun hq => ?_)
      exact xq_ret rfl rfl rfl ⟨rfl, rfl⟩
def oSr (c k : Nat) : Bool := Nat.beq c 30 || (Nat.beq c 28 && Nat.beq k 1)
set_option maxRecDepth 100000 in
set_option maxHeartbeats 4000000 in
theorem ord_l {f : Nat} {T : Nat → Nat} {x : Int32} {h0 : xh_H} (hc : ct h0 T 7) : ∀ (j i : Nat) (h : xh_H), i + j = 7 → fx oSr fN h0 h → a_rq a_tb h → xq f xi_X0_order xmi_X0_order 2 [(0, .ref 28), (1, .int x), (2, .ref 1), (3, .int (nI i))] [] h (fun v h' => v = none ∧ fx oSr fN h0 h' ∧ xg 0 h'.2.1 28 1 = Int32.ofInt 1) := by
  intro j
  induction j with
  | zero =>
    intro i h ij g hq
    cases c1 : xe_c .ge (nI i) 7 with
    | true =>
      have z1 : i ≥ 7 := nq_get (a := i) (b := 7) (by omega) (by omega) c1
      refine xq_n 47 [] [] [] (xh_ui h 28 1 (Int32.ofInt 1)) [true] 8 hq rfl ⟨c1, trivial⟩ (fun _ => ?_)
      have hq : a_rq a_tb (xh_ui h 28 1 (Int32.ofInt 1)) := a_rq_ui hq
      exact xq_ret rfl rfl rfl ⟨rfl, fx_t g (fx_ui (fx_0) rfl), gx_s⟩
    | false =>
      have z1 : i < 7 := nq_gef (a := i) (b := 7) (by omega) (by omega) c1
      omega
  | succ j ih =>
    intro i h ij g hq
    cases c1 : xe_c .ge (nI i) 7 with
    | true =>
      have z1 : i ≥ 7 := nq_get (a := i) (b := 7) (by omega) (by omega) c1
      omega
    | false =>
      have z1 : i < 7 := nq_gef (a := i) (b := 7) (by omega) (by omega) c1
      refine xq_n 10 [0, 1, 2, 3] [(0, .ref 28), (1, .int x), (2, .ref 1), (3, .int (nI i))] [.int (nI i), .ref 1] h [false] 7 hq rfl ⟨c1, trivial⟩ (fun hq => ?_)
      have tI := (hc.2.2 i (by omega)).1
      refine xq_run hq rfl rfl (at_q (ct_f hc g rfl (fun _ => rfl)) (p := i) (by omega) hq) ?_
      rintro _ h_ ⟨rfl, rfl⟩
      refine xq_n 17 [0, 1, 2, 3, 4] [(0, .ref 28), (1, .int x), (2, .ref 1), (3, .int (nI i)), (4, .int (nI (T i)))] [.int (nI (T i))] h [] 4 hq rfl trivial (fun hq => ?_)
      refine xq_run hq rfl rfl (isop_q (c := (T i)) (by omega) hq) ?_
      rintro _ h_ ⟨rfl, rfl⟩
      cases b2 : (decide (T i < 7)) with
      | true =>
        have db2 := of_decide_eq_true b2
        refine xq_n 2 [0, 1, 2, 3] [(0, .ref 28), (1, .int x), (2, .ref 1), (3, .int ((nI i) + Int32.ofInt 1))] [] (xh_ui h 30 (((x * 7) + (nI (T i))).toNatClampNeg) (nI i)) [false] 14 hq rfl ⟨rfl, trivial⟩ (fun _ => ?_)
        rw [show ((nI i) + Int32.ofInt 1) = nI (i + 1) from nI_1 _]
        have hq : a_rq a_tb (xh_ui h 30 (((x * 7) + (nI (T i))).toNatClampNeg) (nI i)) := a_rq_ui hq
        exact ih (i + 1) _ (by omega) (fx_t g (fx_ui (fx_0) rfl)) hq
      | false =>
        have db2 := of_decide_eq_false b2
        refine xq_n 2 [0, 1, 2, 3] [(0, .ref 28), (1, .int x), (2, .ref 1), (3, .int ((nI i) + Int32.ofInt 1))] [] h [true] 5 hq rfl ⟨rfl, trivial⟩ (fun hq => ?_)
        rw [show ((nI i) + Int32.ofInt 1) = nI (i + 1) from nI_1 _]
        exact ih (i + 1) _ (by omega) (fx_t g (fx_0)) hq
set_option maxRecDepth 100000 in
set_option maxHeartbeats 4000000 in
theorem ord_q {f : Nat} {T : Nat → Nat} {x : Int32} {h : xh_H} (hc : ct h T 7) (hq : a_rq a_tb h) : xq f xi_X0_order xmi_X0_order 0 [(0, .ref 28), (1, .int x), (2, .ref 1)] [] h (fun v h' => v = none ∧ fx oSr fN h h' ∧ xg 0 h'.2.1 28 1 = Int32.ofInt 1) := by
  refine xq_n 2 [0, 1, 2, 3] [(0, .ref 28), (1, .int x), (2, .ref 1), (3, .int (Int32.ofInt 0))] [] h [] 4 hq rfl trivial (fun hq => ?_)
  exact ord_l hc 7 0 h rfl fx_0 hq
def rkB (T : Nat → Nat) (n : Nat) (x z : Int32) : Bool := (!xe_c .lt x 0 && !xe_c .ge x z) && (Nat.beq n 7 && ro T 7 0 (Int32.ofInt 0))
theorem bq_t {a b : Nat} (h : a = b) : Nat.beq a b = true := by
  subst h
  exact Nat.beq_refl a
theorem bq_f {a b : Nat} (h : a ≠ b) : Nat.beq a b = false := by
  cases e : Nat.beq a b with
  | false => rfl
  | true => exact absurd (Nat.eq_of_beq_eq_true e) h
set_option maxRecDepth 100000 in
set_option maxHeartbeats 4000000 in
theorem rk9_q {f n : Nat} {T : Nat → Nat} {x z : Int32} {h : xh_H} (hc : ct h T n) (e9 : xg 0 h.2.1 0 9 = z) (hq : a_rq a_tb h) : xq f xi_X9_rank xmi_X9_rank 0 [(0, .ref 0), (1, .int x)] [] h (fun v h' => v = some (.int (bl ((!xe_c .lt x 0 && !xe_c .ge x z) && (Nat.beq n 7 && ro T 7 0 (Int32.ofInt 0))))) ∧ xg 0 h'.2.1 28 1 = cond ((!xe_c .lt x 0 && !xe_c .ge x z) && (Nat.beq n 7 && ro T 7 0 (Int32.ofInt 0))) (Int32.ofInt 1) (xg 0 h.2.1 28 1)) := by
  have n6 := hc.2.1
  refine xq_n 2 [0, 1] [(0, .ref 0), (1, .int x)] [.int x, .ref 0] h [] 4 hq rfl trivial (fun hq => ?_)
  refine xq_run hq rfl rfl (mem9_q (x := x) (z := z) (e9) hq) ?_
  rintro _ h_ ⟨rfl, rfl⟩
  cases b1 : (!xe_c .lt x 0 && !xe_c .ge x z) with
  | true =>
    cases c2 : xe_c .ne (nI n) 7 with
    | true =>
      have z2 : n ≠ 7 := nq_net (a := n) (b := 7) (by omega) (by omega) c2
      rw [show Nat.beq n 7 = false from bq_f z2]
      refine xq_n 65 [] [] [.int (Int32.ofInt 0)] (xh_ui h 1 1 (Int32.ofInt 0)) [false, true, true] 17 hq rfl ⟨rfl, (show xe_c .ne (xg 0 h.2.1 1 1) 7 = true by rw [show (xg 0 h.2.1 1 1) = (nI n) from hc.1]; exact c2), (by decide), trivial⟩ (fun _ => ?_)
      have hq : a_rq a_tb (xh_ui h 1 1 (Int32.ofInt 0)) := a_rq_ui hq
      exact xq_ret rfl rfl rfl ⟨rfl, gx_o (by decide)⟩
    | false =>
      have z2 : n = 7 := nq_nef (a := n) (b := 7) (by omega) (by omega) c2
      rw [show Nat.beq n 7 = true from bq_t z2]
      have hc7 : ct h T 7 := z2 ▸ hc
      refine xq_n 28 [0, 1] [(0, .ref 0), (1, .int x)] [.ref 1, .ref 28] h [false, false] 12 hq rfl ⟨rfl, (show xe_c .ne (xg 0 h.2.1 1 1) 7 = false by rw [show (xg 0 h.2.1 1 1) = (nI n) from hc.1]; exact c2), trivial⟩ (fun hq => ?_)
      refine xq_run hq rfl rfl (row_q hc7 hq) ?_
      rintro _ h_ ⟨rfl, rfl⟩
      rw [show (decide (1 ≤ 7 ∧ 7 ≤ 7) && ro T 7 0 (Int32.ofInt 0)) = ro T 7 0 (Int32.ofInt 0) from rfl]
      cases b3 : (ro T 7 0 (Int32.ofInt 0)) with
      | true =>
        refine xq_n 53 [0, 1, 2] [(0, .ref 0), (1, .int x), (2, .int (Int32.ofInt 1))] [.ref 1, .int x, .ref 28] h [false, false] 13 hq rfl ⟨rfl, (by decide), trivial⟩ (fun hq => ?_)
        refine xq_run hq rfl rfl (ord_q hc7 hq) ?_
        rintro _ h1 ⟨rfl, g1, d1⟩
        have hq := fx_q g1 hq
        refine xq_n 65 [] [] [.int (Int32.ofInt 1)] (xh_ui h1 1 1 (Int32.ofInt 0)) [] 7 hq rfl trivial (fun _ => ?_)
        have hq : a_rq a_tb (xh_ui h1 1 1 (Int32.ofInt 0)) := a_rq_ui hq
        exact xq_ret rfl rfl rfl ⟨rfl, (gx_o (by decide)).trans d1⟩
      | false =>
        refine xq_n 65 [] [] [.int (Int32.ofInt 0)] (xh_ui h 1 1 (Int32.ofInt 0)) [true, true] 12 hq rfl ⟨rfl, (by decide), trivial⟩ (fun _ => ?_)
        have hq : a_rq a_tb (xh_ui h 1 1 (Int32.ofInt 0)) := a_rq_ui hq
        exact xq_ret rfl rfl rfl ⟨rfl, gx_o (by decide)⟩
  | false =>
    refine xq_n 65 [] [] [.int (Int32.ofInt 0)] (xh_ui h 1 1 (Int32.ofInt 0)) [true, true] 12 hq rfl ⟨rfl, (by decide), trivial⟩ (fun _ => ?_)
    have hq : a_rq a_tb (xh_ui h 1 1 (Int32.ofInt 0)) := a_rq_ui hq
    exact xq_ret rfl rfl rfl ⟨rfl, gx_o (by decide)⟩
set_option maxRecDepth 100000 in
set_option maxHeartbeats 4000000 in
theorem rkl_q {f : Nat} {x : Int32} : ∀ (j i : Nat) (h : xh_H), i + j = 7 → a_rq a_tb h → xq f xi_X10_rank xmi_X10_rank 36 [(0, .ref 39), (1, .int x), (3, .int (nI i))] [] h (fun v h' => v = some (.int (Int32.ofInt 1)) ∧ xg 0 h'.2.1 39 5 = Int32.ofInt 1) := by
  intro j
  induction j with
  | zero =>
    intro i h ij hq
    cases c1 : xe_c .ge (nI i) 7 with
    | true =>
      have z1 : i ≥ 7 := nq_get (a := i) (b := 7) (by omega) (by omega) c1
      refine xq_n 71 [] [] [.int (Int32.ofInt 1)] (xh_ui h 39 5 (Int32.ofInt 1)) [true] 9 hq rfl ⟨c1, trivial⟩ (fun _ => ?_)
      have hq : a_rq a_tb (xh_ui h 39 5 (Int32.ofInt 1)) := a_rq_ui hq
      exact xq_ret rfl rfl rfl ⟨rfl, gx_s⟩
    | false =>
      have z1 : i < 7 := nq_gef (a := i) (b := 7) (by omega) (by omega) c1
      omega
  | succ j ih =>
    intro i h ij hq
    cases c1 : xe_c .ge (nI i) 7 with
    | true =>
      have z1 : i ≥ 7 := nq_get (a := i) (b := 7) (by omega) (by omega) c1
      omega
    | false =>
      have z1 : i < 7 := nq_gef (a := i) (b := 7) (by omega) (by omega) c1
      refine xq_n 36 [0, 1, 3] [(0, .ref 39), (1, .int x), (3, .int ((nI i) + Int32.ofInt 1))] [] (xh_ui h 62 (((7 * x) + (xg 0 h.2.1 40 ((nI i).toNatClampNeg))).toNatClampNeg) (nI i)) [false] 19 hq rfl ⟨c1, trivial⟩ (fun _ => ?_)
      rw [show (xg 0 h.2.1 40 ((nI i).toNatClampNeg)) = xg 0 h.2.1 40 i from (by rw [show ((nI i).toNatClampNeg) = i from nI_clamp (by omega)])]
      rw [show ((nI i) + Int32.ofInt 1) = nI (i + 1) from nI_1 _]
      have hq : a_rq a_tb (xh_ui h 62 (((7 * x) + (xg 0 h.2.1 40 i)).toNatClampNeg) (nI i)) := a_rq_ui hq
      exact ih (i + 1) _ (by omega) hq
set_option maxRecDepth 100000 in
set_option maxHeartbeats 4000000 in
theorem rk10_q {f n : Nat} {T : Nat → Nat} {x z : Int32} {h : xh_H} (n6 : n ≤ 640) (e2 : xg 0 h.2.1 39 2 = nI n) (hT : ∀ k, k < n → T k < 256 ∧ xg 0 h.2.1 40 k = nI (T k)) (e9 : xg 0 h.2.1 39 4 = z) (hq : a_rq a_tb h) : xq f xi_X10_rank xmi_X10_rank 0 [(0, .ref 39), (1, .int x)] [] h (fun v h' => v = some (.int (bl ((!xe_c .lt x 0 && !xe_c .ge x z) && (Nat.beq n 7 && ro T 7 0 (Int32.ofInt 0))))) ∧ xg 0 h'.2.1 39 5 = cond ((!xe_c .lt x 0 && !xe_c .ge x z) && (Nat.beq n 7 && ro T 7 0 (Int32.ofInt 0))) (Int32.ofInt 1) (xg 0 h.2.1 39 5)) := by
  refine xq_n 6 [0, 1] [(0, .ref 39), (1, .int x)] [.ref 39] (xh_ui h 39 0 (Int32.ofInt 0)) [] 6 hq rfl trivial (fun _ => ?_)
  have hq : a_rq a_tb (xh_ui h 39 0 (Int32.ofInt 0)) := a_rq_ui hq
  refine xq_run hq rfl rfl (take_q hq) ?_
  rintro _ _ ⟨rfl, rfl⟩
  rw [show xg 0 (xh_ui h 39 0 (Int32.ofInt 0)).2.1 39 2 = nI n from (gx_k (by decide)).trans e2]
  have hq : a_rq a_tb (xh_ui (xh_ui h 39 0 (Int32.ofInt 0)) 39 2 (Int32.ofInt 0)) := a_rq_ui hq
  refine xq_n 12 [0, 1, 2] [(0, .ref 39), (1, .int x), (2, .int (nI n))] [.int x, .ref 39] (xh_ui (xh_ui h 39 0 (Int32.ofInt 0)) 39 2 (Int32.ofInt 0)) [] 5 hq rfl trivial (fun hq => ?_)
  refine xq_run hq rfl rfl (mem10_q (x := x) (z := z) ((gx_k (by decide)).trans ((gx_k (by decide)).trans (e9))) hq) ?_
  rintro _ h_ ⟨rfl, rfl⟩
  cases b1 : (!xe_c .lt x 0 && !xe_c .ge x z) with
  | true =>
    cases c2 : xe_c .ne (nI n) 7 with
    | true =>
      have z2 : n ≠ 7 := nq_net (a := n) (b := 7) (by omega) (by omega) c2
      rw [show Nat.beq n 7 = false from bq_f z2]
      refine xq_n 33 [] [] [.int (Int32.ofInt 0)] (xh_ui (xh_ui h 39 0 (Int32.ofInt 0)) 39 2 (Int32.ofInt 0)) [false, true] 7 hq rfl ⟨rfl, c2, trivial⟩ (fun hq => ?_)
      exact xq_ret rfl rfl rfl ⟨rfl, (gx_k (by decide)).trans (gx_k (by decide))⟩
    | false =>
      have z2 : n = 7 := nq_nef (a := n) (b := 7) (by omega) (by omega) c2
      rw [show Nat.beq n 7 = true from bq_t z2]
      have er : ro T n 0 (Int32.ofInt 0) = ro T 7 0 (Int32.ofInt 0) := by rw [z2]
      refine xq_n 26 [0, 1, 2] [(0, .ref 39), (1, .int x), (2, .int (nI n))] [.int (nI n), .ref 39] (xh_ui (xh_ui h 39 0 (Int32.ofInt 0)) 39 2 (Int32.ofInt 0)) [false, false] 8 hq rfl ⟨rfl, c2, trivial⟩ (fun hq => ?_)
      refine xq_run hq rfl rfl (are_q (by omega) (fun k hk' => ⟨(hT k hk').1, (gx_o (by decide)).trans ((gx_o (by decide)).trans (hT k hk').2)⟩) hq) ?_
      rintro _ h_ ⟨rfl, rfl⟩
      rw [er]
      cases b3 : (ro T 7 0 (Int32.ofInt 0)) with
      | true =>
        refine xq_n 36 [0, 1, 3] [(0, .ref 39), (1, .int x), (3, .int (Int32.ofInt 0))] [] (xh_ui (xh_ui h 39 0 (Int32.ofInt 0)) 39 2 (Int32.ofInt 0)) [true] 5 hq rfl ⟨rfl, trivial⟩ (fun hq => ?_)
        exact rkl_q 7 0 _ rfl hq
      | false =>
        refine xq_n 33 [] [] [.int (Int32.ofInt 0)] (xh_ui (xh_ui h 39 0 (Int32.ofInt 0)) 39 2 (Int32.ofInt 0)) [false] 4 hq rfl ⟨rfl, trivial⟩ (fun hq => ?_)
        exact xq_ret rfl rfl rfl ⟨rfl, (gx_k (by decide)).trans (gx_k (by decide))⟩
  | false =>
    refine xq_n 33 [] [] [.int (Int32.ofInt 0)] (xh_ui (xh_ui h 39 0 (Int32.ofInt 0)) 39 2 (Int32.ofInt 0)) [true] 4 hq rfl ⟨rfl, trivial⟩ (fun hq => ?_)
    exact xq_ret rfl rfl rfl ⟨rfl, (gx_k (by decide)).trans (gx_k (by decide))⟩
end XRI
end
section
section XRJ
theorem nI_s1 (v : Nat) : nI (v + 1) - Int32.ofInt 1 = nI v := (nI_sub (a := v + 1) (b := 1) (by omega)).trans (by rw [Nat.add_sub_cancel])
def vaS (c k : Nat) : Bool := Nat.beq c 36 || (Nat.beq c 37 || (Nat.beq c 38 || (Nat.beq c 35 && Nat.beq k 3)))
set_option maxRecDepth 100000 in
set_option maxHeartbeats 4000000 in
theorem vadd_q {f vc : Nat} {x b dy : Int32} {h : xh_H} (v6 : vc ≤ 60) (e3 : xg 0 h.2.1 35 3 = nI vc) (hq : a_rq a_tb h) : xq f xi_X1_add xmi_X1_add 0 [(0, .ref 35), (1, .int x), (2, .int b), (3, .int dy)] [] h (fun v h' => v = some (.int (cond (decide (vc < 60)) (nI vc) (Int32.ofInt (-1)))) ∧ fx vaS fN h h' ∧ xg 0 h'.2.1 35 3 = nI (cond (decide (vc < 60)) (vc + 1) vc)) := by
  cases c1 : xe_c .lt (nI vc) 60 with
  | true =>
    have z1 : vc < 60 := nq_ltt (a := vc) (b := 60) (by omega) (by omega) c1
    rw [show decide (vc < 60) = true from decide_eq_true (by omega)]
    refine xq_n 57 [] [] [.int ((xg 0 (xh_ui (xh_ui (xh_ui (xh_ui h 36 ((xg 0 h.2.1 35 3).toNatClampNeg) x) 38 ((xg 0 (xh_ui h 36 ((xg 0 h.2.1 35 3).toNatClampNeg) x).2.1 35 3).toNatClampNeg) (vp_nar FieldType.boolean b)) 37 ((xg 0 (xh_ui (xh_ui h 36 ((xg 0 h.2.1 35 3).toNatClampNeg) x) 38 ((xg 0 (xh_ui h 36 ((xg 0 h.2.1 35 3).toNatClampNeg) x).2.1 35 3).toNatClampNeg) (vp_nar FieldType.boolean b)).2.1 35 3).toNatClampNeg) dy) 35 3 ((xg 0 (xh_ui (xh_ui (xh_ui h 36 ((xg 0 h.2.1 35 3).toNatClampNeg) x) 38 ((xg 0 (xh_ui h 36 ((xg 0 h.2.1 35 3).toNatClampNeg) x).2.1 35 3).toNatClampNeg) (vp_nar FieldType.boolean b)) 37 ((xg 0 (xh_ui (xh_ui h 36 ((xg 0 h.2.1 35 3).toNatClampNeg) x) 38 ((xg 0 (xh_ui h 36 ((xg 0 h.2.1 35 3).toNatClampNeg) x).2.1 35 3).toNatClampNeg) (vp_nar FieldType.boolean b)).2.1 35 3).toNatClampNeg) dy).2.1 35 3) + (Int32.ofInt 1))).2.1 35 3) - (Int32.ofInt 1))] (xh_ui (xh_ui (xh_ui (xh_ui h 36 ((xg 0 h.2.1 35 3).toNatClampNeg) x) 38 ((xg 0 (xh_ui h 36 ((xg 0 h.2.1 35 3).toNatClampNeg) x).2.1 35 3).toNatClampNeg) (vp_nar FieldType.boolean b)) 37 ((xg 0 (xh_ui (xh_ui h 36 ((xg 0 h.2.1 35 3).toNatClampNeg) x) 38 ((xg 0 (xh_ui h 36 ((xg 0 h.2.1 35 3).toNatClampNeg) x).2.1 35 3).toNatClampNeg) (vp_nar FieldType.boolean b)).2.1 35 3).toNatClampNeg) dy) 35 3 ((xg 0 (xh_ui (xh_ui (xh_ui h 36 ((xg 0 h.2.1 35 3).toNatClampNeg) x) 38 ((xg 0 (xh_ui h 36 ((xg 0 h.2.1 35 3).toNatClampNeg) x).2.1 35 3).toNatClampNeg) (vp_nar FieldType.boolean b)) 37 ((xg 0 (xh_ui (xh_ui h 36 ((xg 0 h.2.1 35 3).toNatClampNeg) x) 38 ((xg 0 (xh_ui h 36 ((xg 0 h.2.1 35 3).toNatClampNeg) x).2.1 35 3).toNatClampNeg) (vp_nar FieldType.boolean b)).2.1 35 3).toNatClampNeg) dy).2.1 35 3) + (Int32.ofInt 1))) [true] 34 hq rfl ⟨(show xe_c .lt (xg 0 h.2.1 35 3) 60 = true by rw [show (xg 0 h.2.1 35 3) = (nI vc) from e3]; exact c1), trivial⟩ (fun _ => ?_)
    rw [show (xg 0 (xh_ui (xh_ui (xh_ui (xh_ui h 36 ((xg 0 h.2.1 35 3).toNatClampNeg) x) 38 ((xg 0 (xh_ui h 36 ((xg 0 h.2.1 35 3).toNatClampNeg) x).2.1 35 3).toNatClampNeg) (vp_nar FieldType.boolean b)) 37 ((xg 0 (xh_ui (xh_ui h 36 ((xg 0 h.2.1 35 3).toNatClampNeg) x) 38 ((xg 0 (xh_ui h 36 ((xg 0 h.2.1 35 3).toNatClampNeg) x).2.1 35 3).toNatClampNeg) (vp_nar FieldType.boolean b)).2.1 35 3).toNatClampNeg) dy) 35 3 ((xg 0 (xh_ui (xh_ui (xh_ui h 36 ((xg 0 h.2.1 35 3).toNatClampNeg) x) 38 ((xg 0 (xh_ui h 36 ((xg 0 h.2.1 35 3).toNatClampNeg) x).2.1 35 3).toNatClampNeg) (vp_nar FieldType.boolean b)) 37 ((xg 0 (xh_ui (xh_ui h 36 ((xg 0 h.2.1 35 3).toNatClampNeg) x) 38 ((xg 0 (xh_ui h 36 ((xg 0 h.2.1 35 3).toNatClampNeg) x).2.1 35 3).toNatClampNeg) (vp_nar FieldType.boolean b)).2.1 35 3).toNatClampNeg) dy).2.1 35 3) + (Int32.ofInt 1))).2.1 35 3) = ((xg 0 (xh_ui (xh_ui (xh_ui h 36 ((xg 0 h.2.1 35 3).toNatClampNeg) x) 38 ((xg 0 (xh_ui h 36 ((xg 0 h.2.1 35 3).toNatClampNeg) x).2.1 35 3).toNatClampNeg) (vp_nar FieldType.boolean b)) 37 ((xg 0 (xh_ui (xh_ui h 36 ((xg 0 h.2.1 35 3).toNatClampNeg) x) 38 ((xg 0 (xh_ui h 36 ((xg 0 h.2.1 35 3).toNatClampNeg) x).2.1 35 3).toNatClampNeg) (vp_nar FieldType.boolean b)).2.1 35 3).toNatClampNeg) dy).2.1 35 3) + (Int32.ofInt 1)) from gx_s]
    rw [show (xg 0 (xh_ui (xh_ui (xh_ui h 36 ((xg 0 h.2.1 35 3).toNatClampNeg) x) 38 ((xg 0 (xh_ui h 36 ((xg 0 h.2.1 35 3).toNatClampNeg) x).2.1 35 3).toNatClampNeg) (vp_nar FieldType.boolean b)) 37 ((xg 0 (xh_ui (xh_ui h 36 ((xg 0 h.2.1 35 3).toNatClampNeg) x) 38 ((xg 0 (xh_ui h 36 ((xg 0 h.2.1 35 3).toNatClampNeg) x).2.1 35 3).toNatClampNeg) (vp_nar FieldType.boolean b)).2.1 35 3).toNatClampNeg) dy).2.1 35 3) = (nI vc) from (gx_o (by decide)).trans ((gx_o (by decide)).trans ((gx_o (by decide)).trans (e3)))]
    rw [show (xg 0 (xh_ui (xh_ui h 36 ((xg 0 h.2.1 35 3).toNatClampNeg) x) 38 ((xg 0 (xh_ui h 36 ((xg 0 h.2.1 35 3).toNatClampNeg) x).2.1 35 3).toNatClampNeg) (vp_nar FieldType.boolean b)).2.1 35 3) = (nI vc) from (gx_o (by decide)).trans ((gx_o (by decide)).trans (e3))]
    rw [show (xg 0 (xh_ui h 36 ((xg 0 h.2.1 35 3).toNatClampNeg) x).2.1 35 3) = (nI vc) from (gx_o (by decide)).trans (e3)]
    rw [show (xg 0 h.2.1 35 3) = (nI vc) from e3]
    rw [show ((nI vc).toNatClampNeg) = vc from nI_clamp (by omega)]
    rw [show ((nI vc) + (Int32.ofInt 1)) = nI (vc + 1) from nI_1 _]
    rw [show ((nI (vc + 1)) - (Int32.ofInt 1)) = nI vc from nI_s1 _]
    have hq : a_rq a_tb (xh_ui (xh_ui (xh_ui (xh_ui h 36 vc x) 38 vc (vp_nar FieldType.boolean b)) 37 vc dy) 35 3 (nI (vc + 1))) := a_rq_ui (a_rq_ui (a_rq_ui (a_rq_ui hq)))
    exact xq_ret rfl rfl rfl ⟨rfl, fx_ui (fx_ui (fx_ui (fx_ui (fx_0) rfl) rfl) rfl) rfl, gx_s⟩
  | false =>
    have z1 : vc ≥ 60 := nq_ltf (a := vc) (b := 60) (by omega) (by omega) c1
    rw [show decide (vc < 60) = false from decide_eq_false (by omega)]
    refine xq_n 10 [] [] [.int (Int32.ofInt (-1))] h [false] 7 hq rfl ⟨(show xe_c .lt (xg 0 h.2.1 35 3) 60 = false by rw [show (xg 0 h.2.1 35 3) = (nI vc) from e3]; exact c1), trivial⟩ (fun hq => ?_)
    exact xq_ret rfl rfl rfl ⟨rfl, fx_0, e3⟩
set_option maxRecDepth 100000 in
set_option maxHeartbeats 4000000 in
theorem vt9_q {f vc : Nat} {x b z : Int32} {h : xh_H} (v6 : vc ≤ 60) (e3 : xg 0 h.2.1 35 3 = nI vc) (e9 : xg 0 h.2.1 0 9 = z) (hq : a_rq a_tb h) : xq f xi_X9_vote xmi_X9_vote 0 [(0, .ref 0), (1, .int x), (2, .int b)] [] h (fun v h' => v = some (.int (cond ((!xe_c .lt x 0 && !xe_c .ge x (Int32.ofInt 1 <<< (z &&& 31))) && decide (vc < 60)) (nI vc) (Int32.ofInt (-1)))) ∧ xg 0 h'.2.1 35 3 = nI (cond ((!xe_c .lt x 0 && !xe_c .ge x (Int32.ofInt 1 <<< (z &&& 31))) && decide (vc < 60)) (vc + 1) vc)) := by
  refine xq_n 2 [0, 1, 2] [(0, .ref 0), (1, .int x), (2, .int b)] [.int x, .ref 0] h [] 4 hq rfl trivial (fun hq => ?_)
  refine xq_run hq rfl rfl (set9_q (x := x) (z := z) (e9) hq) ?_
  rintro _ h_ ⟨rfl, rfl⟩
  cases b1 : (!xe_c .lt x 0 && !xe_c .ge x (Int32.ofInt 1 <<< (z &&& 31))) with
  | true =>
    refine xq_n 18 [0, 1, 2] [(0, .ref 0), (1, .int x), (2, .int b)] [.int (xg 0 h.2.1 0 10), .int b, .int x, .ref 35] h [false] 9 hq rfl ⟨rfl, trivial⟩ (fun hq => ?_)
    refine xq_run hq rfl rfl (vadd_q v6 e3 hq) ?_
    rintro _ h1 ⟨rfl, g1, d1⟩
    have hq := fx_q g1 hq
    refine xq_n 25 [] [] [.int (cond (decide (vc < 60)) (nI vc) (Int32.ofInt (-1)))] h1 [] 3 hq rfl trivial (fun hq => ?_)
    exact xq_ret rfl rfl rfl ⟨rfl, d1⟩
  | false =>
    refine xq_n 25 [] [] [.int (Int32.ofInt (-1))] h [true] 4 hq rfl ⟨rfl, trivial⟩ (fun hq => ?_)
    exact xq_ret rfl rfl rfl ⟨rfl, e3⟩
set_option maxRecDepth 100000 in
set_option maxHeartbeats 4000000 in
theorem vt10_q {f vc : Nat} {x b z : Int32} {h : xh_H} (v6 : vc ≤ 60) (e3 : xg 0 h.2.1 39 63 = nI vc) (e9 : xg 0 h.2.1 39 4 = z) (hq : a_rq a_tb h) : xq f xi_X10_vote xmi_X10_vote 0 [(0, .ref 39), (1, .int x), (2, .int b)] [] h (fun v h' => v = some (.int (cond ((!xe_c .lt x 0 && !xe_c .ge x (Int32.ofInt 1 <<< (z &&& 31))) && decide (vc < 60)) (nI vc) (Int32.ofInt (-1)))) ∧ xg 0 h'.2.1 39 63 = nI (cond ((!xe_c .lt x 0 && !xe_c .ge x (Int32.ofInt 1 <<< (z &&& 31))) && decide (vc < 60)) (vc + 1) vc)) := by
  cases c1 : xe_c .eq (nI vc) 60 with
  | true =>
    have z1 : vc = 60 := nq_eqt (a := vc) (b := 60) (by omega) (by omega) c1
    rw [show decide (vc < 60) = false from decide_eq_false (by omega)]
    refine xq_n 23 [] [] [.int (Int32.ofInt (-1))] (xh_ui h 39 0 (Int32.ofInt 0)) [true] 10 hq rfl ⟨(show xe_c .eq (xg 0 (xh_ui h 39 0 (Int32.ofInt 0)).2.1 39 63) 60 = true by rw [show (xg 0 (xh_ui h 39 0 (Int32.ofInt 0)).2.1 39 63) = (nI vc) from (gx_k (by decide)).trans (e3)]; exact c1), trivial⟩ (fun _ => ?_)
    have hq : a_rq a_tb (xh_ui h 39 0 (Int32.ofInt 0)) := a_rq_ui hq
    exact xq_ret rfl rfl rfl ⟨by rw [Bool.and_false]; rfl, by rw [Bool.and_false]; exact (gx_k (by decide)).trans (e3)⟩
  | false =>
    have z1 : vc ≠ 60 := nq_eqf (a := vc) (b := 60) (by omega) (by omega) c1
    rw [show decide (vc < 60) = true from decide_eq_true (by omega)]
    refine xq_n 16 [0, 1, 2] [(0, .ref 39), (1, .int x), (2, .int b)] [.int x, .ref 39] (xh_ui h 39 0 (Int32.ofInt 0)) [false] 11 hq rfl ⟨(show xe_c .eq (xg 0 (xh_ui h 39 0 (Int32.ofInt 0)).2.1 39 63) 60 = false by rw [show (xg 0 (xh_ui h 39 0 (Int32.ofInt 0)).2.1 39 63) = (nI vc) from (gx_k (by decide)).trans (e3)]; exact c1), trivial⟩ (fun _ => ?_)
    have hq : a_rq a_tb (xh_ui h 39 0 (Int32.ofInt 0)) := a_rq_ui hq
    refine xq_run hq rfl rfl (set10_q (x := x) (z := z) ((gx_k (by decide)).trans e9) hq) ?_
    rintro _ h_ ⟨rfl, rfl⟩
    cases b2 : (!xe_c .lt x 0 && !xe_c .ge x (Int32.ofInt 1 <<< (z &&& 31))) with
    | true =>
      refine xq_n 73 [] [] [.int ((xg 0 (xh_ui (xh_ui (xh_ui (xh_ui (xh_ui h 39 0 (Int32.ofInt 0)) 68 ((xg 0 (xh_ui h 39 0 (Int32.ofInt 0)).2.1 39 63).toNatClampNeg) x) 69 ((xg 0 (xh_ui (xh_ui h 39 0 (Int32.ofInt 0)) 68 ((xg 0 (xh_ui h 39 0 (Int32.ofInt 0)).2.1 39 63).toNatClampNeg) x).2.1 39 63).toNatClampNeg) (xg 0 (xh_ui (xh_ui h 39 0 (Int32.ofInt 0)) 68 ((xg 0 (xh_ui h 39 0 (Int32.ofInt 0)).2.1 39 63).toNatClampNeg) x).2.1 39 3)) 70 ((xg 0 (xh_ui (xh_ui (xh_ui h 39 0 (Int32.ofInt 0)) 68 ((xg 0 (xh_ui h 39 0 (Int32.ofInt 0)).2.1 39 63).toNatClampNeg) x) 69 ((xg 0 (xh_ui (xh_ui h 39 0 (Int32.ofInt 0)) 68 ((xg 0 (xh_ui h 39 0 (Int32.ofInt 0)).2.1 39 63).toNatClampNeg) x).2.1 39 63).toNatClampNeg) (xg 0 (xh_ui (xh_ui h 39 0 (Int32.ofInt 0)) 68 ((xg 0 (xh_ui h 39 0 (Int32.ofInt 0)).2.1 39 63).toNatClampNeg) x).2.1 39 3)).2.1 39 63).toNatClampNeg) (vp_nar FieldType.boolean b)) 39 63 ((xg 0 (xh_ui (xh_ui (xh_ui (xh_ui h 39 0 (Int32.ofInt 0)) 68 ((xg 0 (xh_ui h 39 0 (Int32.ofInt 0)).2.1 39 63).toNatClampNeg) x) 69 ((xg 0 (xh_ui (xh_ui h 39 0 (Int32.ofInt 0)) 68 ((xg 0 (xh_ui h 39 0 (Int32.ofInt 0)).2.1 39 63).toNatClampNeg) x).2.1 39 63).toNatClampNeg) (xg 0 (xh_ui (xh_ui h 39 0 (Int32.ofInt 0)) 68 ((xg 0 (xh_ui h 39 0 (Int32.ofInt 0)).2.1 39 63).toNatClampNeg) x).2.1 39 3)) 70 ((xg 0 (xh_ui (xh_ui (xh_ui h 39 0 (Int32.ofInt 0)) 68 ((xg 0 (xh_ui h 39 0 (Int32.ofInt 0)).2.1 39 63).toNatClampNeg) x) 69 ((xg 0 (xh_ui (xh_ui h 39 0 (Int32.ofInt 0)) 68 ((xg 0 (xh_ui h 39 0 (Int32.ofInt 0)).2.1 39 63).toNatClampNeg) x).2.1 39 63).toNatClampNeg) (xg 0 (xh_ui (xh_ui h 39 0 (Int32.ofInt 0)) 68 ((xg 0 (xh_ui h 39 0 (Int32.ofInt 0)).2.1 39 63).toNatClampNeg) x).2.1 39 3)).2.1 39 63).toNatClampNeg) (vp_nar FieldType.boolean b)).2.1 39 63) + (Int32.ofInt 1))).2.1 39 63) - (Int32.ofInt 1))] (xh_ui (xh_ui (xh_ui (xh_ui (xh_ui h 39 0 (Int32.ofInt 0)) 68 ((xg 0 (xh_ui h 39 0 (Int32.ofInt 0)).2.1 39 63).toNatClampNeg) x) 69 ((xg 0 (xh_ui (xh_ui h 39 0 (Int32.ofInt 0)) 68 ((xg 0 (xh_ui h 39 0 (Int32.ofInt 0)).2.1 39 63).toNatClampNeg) x).2.1 39 63).toNatClampNeg) (xg 0 (xh_ui (xh_ui h 39 0 (Int32.ofInt 0)) 68 ((xg 0 (xh_ui h 39 0 (Int32.ofInt 0)).2.1 39 63).toNatClampNeg) x).2.1 39 3)) 70 ((xg 0 (xh_ui (xh_ui (xh_ui h 39 0 (Int32.ofInt 0)) 68 ((xg 0 (xh_ui h 39 0 (Int32.ofInt 0)).2.1 39 63).toNatClampNeg) x) 69 ((xg 0 (xh_ui (xh_ui h 39 0 (Int32.ofInt 0)) 68 ((xg 0 (xh_ui h 39 0 (Int32.ofInt 0)).2.1 39 63).toNatClampNeg) x).2.1 39 63).toNatClampNeg) (xg 0 (xh_ui (xh_ui h 39 0 (Int32.ofInt 0)) 68 ((xg 0 (xh_ui h 39 0 (Int32.ofInt 0)).2.1 39 63).toNatClampNeg) x).2.1 39 3)).2.1 39 63).toNatClampNeg) (vp_nar FieldType.boolean b)) 39 63 ((xg 0 (xh_ui (xh_ui (xh_ui (xh_ui h 39 0 (Int32.ofInt 0)) 68 ((xg 0 (xh_ui h 39 0 (Int32.ofInt 0)).2.1 39 63).toNatClampNeg) x) 69 ((xg 0 (xh_ui (xh_ui h 39 0 (Int32.ofInt 0)) 68 ((xg 0 (xh_ui h 39 0 (Int32.ofInt 0)).2.1 39 63).toNatClampNeg) x).2.1 39 63).toNatClampNeg) (xg 0 (xh_ui (xh_ui h 39 0 (Int32.ofInt 0)) 68 ((xg 0 (xh_ui h 39 0 (Int32.ofInt 0)).2.1 39 63).toNatClampNeg) x).2.1 39 3)) 70 ((xg 0 (xh_ui (xh_ui (xh_ui h 39 0 (Int32.ofInt 0)) 68 ((xg 0 (xh_ui h 39 0 (Int32.ofInt 0)).2.1 39 63).toNatClampNeg) x) 69 ((xg 0 (xh_ui (xh_ui h 39 0 (Int32.ofInt 0)) 68 ((xg 0 (xh_ui h 39 0 (Int32.ofInt 0)).2.1 39 63).toNatClampNeg) x).2.1 39 63).toNatClampNeg) (xg 0 (xh_ui (xh_ui h 39 0 (Int32.ofInt 0)) 68 ((xg 0 (xh_ui h 39 0 (Int32.ofInt 0)).2.1 39 63).toNatClampNeg) x).2.1 39 3)).2.1 39 63).toNatClampNeg) (vp_nar FieldType.boolean b)).2.1 39 63) + (Int32.ofInt 1))) [true] 32 hq rfl ⟨rfl, trivial⟩ (fun _ => ?_)
      rw [show (xg 0 (xh_ui (xh_ui (xh_ui (xh_ui (xh_ui h 39 0 (Int32.ofInt 0)) 68 ((xg 0 (xh_ui h 39 0 (Int32.ofInt 0)).2.1 39 63).toNatClampNeg) x) 69 ((xg 0 (xh_ui (xh_ui h 39 0 (Int32.ofInt 0)) 68 ((xg 0 (xh_ui h 39 0 (Int32.ofInt 0)).2.1 39 63).toNatClampNeg) x).2.1 39 63).toNatClampNeg) (xg 0 (xh_ui (xh_ui h 39 0 (Int32.ofInt 0)) 68 ((xg 0 (xh_ui h 39 0 (Int32.ofInt 0)).2.1 39 63).toNatClampNeg) x).2.1 39 3)) 70 ((xg 0 (xh_ui (xh_ui (xh_ui h 39 0 (Int32.ofInt 0)) 68 ((xg 0 (xh_ui h 39 0 (Int32.ofInt 0)).2.1 39 63).toNatClampNeg) x) 69 ((xg 0 (xh_ui (xh_ui h 39 0 (Int32.ofInt 0)) 68 ((xg 0 (xh_ui h 39 0 (Int32.ofInt 0)).2.1 39 63).toNatClampNeg) x).2.1 39 63).toNatClampNeg) (xg 0 (xh_ui (xh_ui h 39 0 (Int32.ofInt 0)) 68 ((xg 0 (xh_ui h 39 0 (Int32.ofInt 0)).2.1 39 63).toNatClampNeg) x).2.1 39 3)).2.1 39 63).toNatClampNeg) (vp_nar FieldType.boolean b)) 39 63 ((xg 0 (xh_ui (xh_ui (xh_ui (xh_ui h 39 0 (Int32.ofInt 0)) 68 ((xg 0 (xh_ui h 39 0 (Int32.ofInt 0)).2.1 39 63).toNatClampNeg) x) 69 ((xg 0 (xh_ui (xh_ui h 39 0 (Int32.ofInt 0)) 68 ((xg 0 (xh_ui h 39 0 (Int32.ofInt 0)).2.1 39 63).toNatClampNeg) x).2.1 39 63).toNatClampNeg) (xg 0 (xh_ui (xh_ui h 39 0 (Int32.ofInt 0)) 68 ((xg 0 (xh_ui h 39 0 (Int32.ofInt 0)).2.1 39 63).toNatClampNeg) x).2.1 39 3)) 70 ((xg 0 (xh_ui (xh_ui (xh_ui h 39 0 (Int32.ofInt 0)) 68 ((xg 0 (xh_ui h 39 0 (Int32.ofInt 0)).2.1 39 63).toNatClampNeg) x) 69 ((xg 0 (xh_ui (xh_ui h 39 0 (Int32.ofInt 0)) 68 ((xg 0 (xh_ui h 39 0 (Int32.ofInt 0)).2.1 39 63).toNatClampNeg) x).2.1 39 63).toNatClampNeg) (xg 0 (xh_ui (xh_ui h 39 0 (Int32.ofInt 0)) 68 ((xg 0 (xh_ui h 39 0 (Int32.ofInt 0)).2.1 39 63).toNatClampNeg) x).2.1 39 3)).2.1 39 63).toNatClampNeg) (vp_nar FieldType.boolean b)).2.1 39 63) + (Int32.ofInt 1))).2.1 39 63) = ((xg 0 (xh_ui (xh_ui (xh_ui (xh_ui h 39 0 (Int32.ofInt 0)) 68 ((xg 0 (xh_ui h 39 0 (Int32.ofInt 0)).2.1 39 63).toNatClampNeg) x) 69 ((xg 0 (xh_ui (xh_ui h 39 0 (Int32.ofInt 0)) 68 ((xg 0 (xh_ui h 39 0 (Int32.ofInt 0)).2.1 39 63).toNatClampNeg) x).2.1 39 63).toNatClampNeg) (xg 0 (xh_ui (xh_ui h 39 0 (Int32.ofInt 0)) 68 ((xg 0 (xh_ui h 39 0 (Int32.ofInt 0)).2.1 39 63).toNatClampNeg) x).2.1 39 3)) 70 ((xg 0 (xh_ui (xh_ui (xh_ui h 39 0 (Int32.ofInt 0)) 68 ((xg 0 (xh_ui h 39 0 (Int32.ofInt 0)).2.1 39 63).toNatClampNeg) x) 69 ((xg 0 (xh_ui (xh_ui h 39 0 (Int32.ofInt 0)) 68 ((xg 0 (xh_ui h 39 0 (Int32.ofInt 0)).2.1 39 63).toNatClampNeg) x).2.1 39 63).toNatClampNeg) (xg 0 (xh_ui (xh_ui h 39 0 (Int32.ofInt 0)) 68 ((xg 0 (xh_ui h 39 0 (Int32.ofInt 0)).2.1 39 63).toNatClampNeg) x).2.1 39 3)).2.1 39 63).toNatClampNeg) (vp_nar FieldType.boolean b)).2.1 39 63) + (Int32.ofInt 1)) from gx_s]
      rw [show (xg 0 (xh_ui (xh_ui (xh_ui (xh_ui h 39 0 (Int32.ofInt 0)) 68 ((xg 0 (xh_ui h 39 0 (Int32.ofInt 0)).2.1 39 63).toNatClampNeg) x) 69 ((xg 0 (xh_ui (xh_ui h 39 0 (Int32.ofInt 0)) 68 ((xg 0 (xh_ui h 39 0 (Int32.ofInt 0)).2.1 39 63).toNatClampNeg) x).2.1 39 63).toNatClampNeg) (xg 0 (xh_ui (xh_ui h 39 0 (Int32.ofInt 0)) 68 ((xg 0 (xh_ui h 39 0 (Int32.ofInt 0)).2.1 39 63).toNatClampNeg) x).2.1 39 3)) 70 ((xg 0 (xh_ui (xh_ui (xh_ui h 39 0 (Int32.ofInt 0)) 68 ((xg 0 (xh_ui h 39 0 (Int32.ofInt 0)).2.1 39 63).toNatClampNeg) x) 69 ((xg 0 (xh_ui (xh_ui h 39 0 (Int32.ofInt 0)) 68 ((xg 0 (xh_ui h 39 0 (Int32.ofInt 0)).2.1 39 63).toNatClampNeg) x).2.1 39 63).toNatClampNeg) (xg 0 (xh_ui (xh_ui h 39 0 (Int32.ofInt 0)) 68 ((xg 0 (xh_ui h 39 0 (Int32.ofInt 0)).2.1 39 63).toNatClampNeg) x).2.1 39 3)).2.1 39 63).toNatClampNeg) (vp_nar FieldType.boolean b)).2.1 39 63) = (nI vc) from (gx_o (by decide)).trans ((gx_o (by decide)).trans ((gx_o (by decide)).trans ((gx_k (by decide)).trans (e3))))]
      rw [show (xg 0 (xh_ui (xh_ui (xh_ui h 39 0 (Int32.ofInt 0)) 68 ((xg 0 (xh_ui h 39 0 (Int32.ofInt 0)).2.1 39 63).toNatClampNeg) x) 69 ((xg 0 (xh_ui (xh_ui h 39 0 (Int32.ofInt 0)) 68 ((xg 0 (xh_ui h 39 0 (Int32.ofInt 0)).2.1 39 63).toNatClampNeg) x).2.1 39 63).toNatClampNeg) (xg 0 (xh_ui (xh_ui h 39 0 (Int32.ofInt 0)) 68 ((xg 0 (xh_ui h 39 0 (Int32.ofInt 0)).2.1 39 63).toNatClampNeg) x).2.1 39 3)).2.1 39 63) = (nI vc) from (gx_o (by decide)).trans ((gx_o (by decide)).trans ((gx_k (by decide)).trans (e3)))]
      rw [show (xg 0 (xh_ui (xh_ui h 39 0 (Int32.ofInt 0)) 68 ((xg 0 (xh_ui h 39 0 (Int32.ofInt 0)).2.1 39 63).toNatClampNeg) x).2.1 39 63) = (nI vc) from (gx_o (by decide)).trans ((gx_k (by decide)).trans (e3))]
      rw [show (xg 0 (xh_ui (xh_ui h 39 0 (Int32.ofInt 0)) 68 ((xg 0 (xh_ui h 39 0 (Int32.ofInt 0)).2.1 39 63).toNatClampNeg) x).2.1 39 3) = (xg 0 h.2.1 39 3) from (gx_o (by decide)).trans (gx_k (by decide))]
      rw [show (xg 0 (xh_ui h 39 0 (Int32.ofInt 0)).2.1 39 63) = (nI vc) from (gx_k (by decide)).trans (e3)]
      rw [show ((nI vc).toNatClampNeg) = vc from nI_clamp (by omega)]
      rw [show ((nI vc) + (Int32.ofInt 1)) = nI (vc + 1) from nI_1 _]
      rw [show ((nI (vc + 1)) - (Int32.ofInt 1)) = nI vc from nI_s1 _]
      have hq : a_rq a_tb (xh_ui (xh_ui (xh_ui (xh_ui (xh_ui h 39 0 (Int32.ofInt 0)) 68 vc x) 69 vc (xg 0 h.2.1 39 3)) 70 vc (vp_nar FieldType.boolean b)) 39 63 (nI (vc + 1))) := a_rq_ui (a_rq_ui (a_rq_ui (a_rq_ui hq)))
      exact xq_ret rfl rfl rfl ⟨rfl, gx_s⟩
    | false =>
      refine xq_n 23 [] [] [.int (Int32.ofInt (-1))] (xh_ui h 39 0 (Int32.ofInt 0)) [false] 4 hq rfl ⟨rfl, trivial⟩ (fun hq => ?_)
      exact xq_ret rfl rfl rfl ⟨rfl, ((gx_k (by decide)).trans (e3))⟩
def mbB (s v r x : Int32) : Bool := (!xe_c .lt x (Int32.ofInt 1) && xe_c .le x 12) && (!xe_c .gt s 0 && (!xe_c .gt v 0 && xe_c .eq r 0))
theorem in_c {a x b : Int32} : decide (a.toInt ≤ x.toInt ∧ x.toInt ≤ b.toInt) = (!xe_c .lt x a && xe_c .le x b) := by
  cases c1 : xe_c .lt x a with
  | true =>
    have b1 : x.toInt < a.toInt := a_ce c1
    rw [decide_eq_false (by omega)]; rfl
  | false =>
    have b1 : a.toInt ≤ x.toInt := a_ce (a_neg_ok c1)
    cases c2 : xe_c .le x b with
    | true =>
      have b2 : x.toInt ≤ b.toInt := a_ce c2
      rw [decide_eq_true ⟨b1, b2⟩]; rfl
    | false =>
      have b2 : b.toInt < x.toInt := a_ce (a_neg_ok c2)
      rw [decide_eq_false (by omega)]; rfl
theorem xq_cr {f mid : Nat} {mi : xm_M} {pc : Nat} {lv : List (Nat × Value)} {st : List Value} {h : xh_H} {Q : Option Value → xh_H → Prop} {r : xr_R} {mj : xm_M} {As q : List Value} {Q1 : Option Value → xh_H → Prop} (hr : xC mid pc = some r) (hi : xe_isr r.1 = false) (h2 : ∀ d lw, xe_2 none mi.2.2.2.1 r d pc lw st h 0 0 = none) (hcl : xe_cl xM r st h = some (mj, As, q)) (hm : ∀ f, xq f r.2.2.1 mj 0 (lv_args 0 As) [] h Q1) (k : ∀ v h', Q1 v h' → xq f mid mi (pc + 3) lv (v.toList ++ q) h' Q) : xq f mid mi pc lv st h Q := by
  intro d lw w h' c s hs hx
  obtain ⟨g, eg, ⟨o', e2, -⟩ | ⟨-, d', mj', As', q', v1, h1, mc, ms, rfl, e5, e6, e7⟩⟩ := xq_s hr hi hx
  · rw [h2] at e2
    cases e2
  · rw [hcl] at e5
    cases e5
    have q1 := hm g d' _ v1 h1 mc ms ⟨lv_args_nd, fun i v e => e⟩ e6
    rw [Nat.zero_add, Nat.zero_add] at e7
    have e8 : xe_x xM xC none g (d' + 1) mid mi (pc + 3, lw, v1.toList ++ q, h1, mc, ms) = _ := xe_x_am (scr := none) (mid := mid) (mi := mi) g (d' + 1) (pc + 3) lw (v1.toList ++ q) h1 mc ms 0 0
    rw [e7] at e8
    cases h9 : xe_x xM xC none g (d' + 1) mid mi (pc + 3, lw, v1.toList ++ q, h1, 0, 0) with
    | none => rw [h9] at e8; cases e8
    | some t =>
      obtain ⟨v2, h2, c2, s2⟩ := t
      rw [h9] at e8
      cases e8
      exact k v1 h1 q1 (d' + 1) lw v2 h2 c2 s2 hs (xe_x_le (by omega) h9)
theorem na_q {f q : Nat} {x : Int32} {h : xh_H} (hi : a_inv a_tb h) (hn : 72 ≤ h.1.length) (r : a_r h.1.length 11 q) (x1 : 1 ≤ x.toInt) (x2 : x.toInt ≤ 12) : xq f xi_X7_needAll xmi_X7_needAll 0 [(0, .ref q), (1, .int x)] [] h (fun v h' => v = none ∧ h'.1 = h.1 ∧ a_inv a_tb h' ∧ a_fr [] h h') := by
  refine xq_of (d := 1) ⟨_, rfl⟩ ?_
  obtain ⟨v, h', r1, p1, p2, ⟨t, ht, p3⟩, p4⟩ := as_m_X7_needAll 1 xmi_X7_needAll [.ref q, .int x] h (fun _ => 0) (by decide) rfl hi hn ⟨⟨q, rfl, r⟩, a_ai x1 x2, trivial⟩ a_fp0
  refine ⟨v, h', r1, ?_, p2, p1, p4⟩
  cases List.mem_singleton.mp ht
  exact p3.1
set_option maxRecDepth 100000 in
set_option maxHeartbeats 4000000 in
theorem mb9_q {f : Nat} {x s w r : Int32} {h : xh_H} (hi : a_inv a_tb h) (hn : 72 ≤ h.1.length) (e8 : xg 0 h.2.1 0 8 = s) (e3 : xg 0 h.2.1 35 3 = w) (e1 : xg 0 h.2.1 28 1 = r) : xq f xi_X9_members xmi_X9_members 0 [(0, .ref 0), (1, .int x)] [] h (fun v h' => v = some (.int (bl (mbB s w r x))) ∧ xg 0 h'.2.1 0 9 = cond (mbB s w r x) x (xg 0 h.2.1 0 9)) := by
  have hq := a_rq_of hi.1 hn
  cases c1 : xe_c .gt s 0 with
  | true =>
    refine xq_n 49 [] [] [.int (Int32.ofInt 0)] h [true, true] 11 hq rfl ⟨(show xe_c .gt (xg 0 h.2.1 0 8) 0 = true by rw [show (xg 0 h.2.1 0 8) = s from e8]; exact c1), (by decide), trivial⟩ (fun hq => ?_)
    have hB : mbB s w r x = false := by unfold mbB; (rw [c1]) <;> simp only [Bool.not_true, Bool.not_false, Bool.true_and, Bool.false_and, Bool.and_false, Bool.and_true]
    exact xq_ret rfl rfl rfl ⟨by first | (rw [hB]; done) | (rw [hB]; rfl), by first | (rw [hB]; done) | (rw [hB]; exact rfl)⟩
  | false =>
    cases c2 : xe_c .gt w 0 with
    | true =>
      refine xq_n 49 [] [] [.int (Int32.ofInt 0)] h [false, true, true] 15 hq rfl ⟨(show xe_c .gt (xg 0 h.2.1 0 8) 0 = false by rw [show (xg 0 h.2.1 0 8) = s from e8]; exact c1), (show xe_c .gt (xg 0 h.2.1 35 3) 0 = true by rw [show (xg 0 h.2.1 35 3) = w from e3]; exact c2), (by decide), trivial⟩ (fun hq => ?_)
      have hB : mbB s w r x = false := by unfold mbB; (rw [c1, c2]) <;> simp only [Bool.not_true, Bool.not_false, Bool.true_and, Bool.false_and, Bool.and_false, Bool.and_true]
      exact xq_ret rfl rfl rfl ⟨by first | (rw [hB]; done) | (rw [hB]; rfl), by first | (rw [hB]; done) | (rw [hB]; exact rfl)⟩
    | false =>
      cases c3 : xe_c .eq r 0 with
      | true =>
        cases c4 : xe_c .lt x (Int32.ofInt 1) with
        | true =>
          refine xq_n 49 [] [] [.int (Int32.ofInt 0)] h [false, false, true, false, true] 21 hq rfl ⟨(show xe_c .gt (xg 0 h.2.1 0 8) 0 = false by rw [show (xg 0 h.2.1 0 8) = s from e8]; exact c1), (show xe_c .gt (xg 0 h.2.1 35 3) 0 = false by rw [show (xg 0 h.2.1 35 3) = w from e3]; exact c2), (show xe_c .eq (xg 0 h.2.1 28 1) 0 = true by rw [show (xg 0 h.2.1 28 1) = r from e1]; exact c3), (by decide), c4, trivial⟩ (fun hq => ?_)
          have hB : mbB s w r x = false := by unfold mbB; (rw [c1, c2, c3, c4]) <;> simp only [Bool.not_true, Bool.not_false, Bool.true_and, Bool.false_and, Bool.and_false, Bool.and_true]
          exact xq_ret rfl rfl rfl ⟨by first | (rw [hB]; done) | (rw [hB]; rfl), by first | (rw [hB]; done) | (rw [hB]; exact rfl)⟩
        | false =>
          cases c5 : xe_c .le x 12 with
          | true =>
            refine xq_n 60 [0, 1, 2] [(0, .ref 0), (1, .int x), (2, .int (Int32.ofInt 0))] [.int x, va_rf (xg none (xh_ui h 0 9 x).2.2.2 0 2)] (xh_ui h 0 9 x) [false, false, true, false, false, true] 29 hq rfl ⟨(show xe_c .gt (xg 0 h.2.1 0 8) 0 = false by rw [show (xg 0 h.2.1 0 8) = s from e8]; exact c1), (show xe_c .gt (xg 0 h.2.1 35 3) 0 = false by rw [show (xg 0 h.2.1 35 3) = w from e3]; exact c2), (show xe_c .eq (xg 0 h.2.1 28 1) 0 = true by rw [show (xg 0 h.2.1 28 1) = r from e1]; exact c3), (by decide), c4, c5, trivial⟩ (fun _ => ?_)
            have hq : a_rq a_tb (xh_ui h 0 9 x) := a_rq_ui hq
            have x1 : (Int32.ofInt 1).toInt ≤ x.toInt := a_ce (a_neg_ok c4)
            have x2 : x.toInt ≤ (12 : Int32).toInt := a_ce c5
            have k0 : hk [(0, 9)] h (xh_ui h 0 9 x) := hk_ui (s := (0, 9)) (lo := 1) (hi := 12) (hk_0 hi) hn rfl rfl x1 x2 rfl rfl
            obtain ⟨q, e, rq⟩ : a_e (xh_ui h 0 9 x) 0 2 (2, 11, 0) := ((k0.1.1 0 (0, 9) (hq.2.1 0 (0, 9) rfl)).2 2 (by decide))
            rw [e]
            have sh := a_sh_at k0.1 rq (show a_sh[11]? = some (0, 7) from rfl)
            refine xq_cr (As := [.ref q, .int x]) (mj := xmi_X7_needAll) (q := []) rfl rfl (fun _ _ => rfl) ?_ (fun f => na_q (f := f) (x := x) k0.1 (hk_n k0 hn) rq x1 x2) ?_
            · show (match (xh_ui h 0 9 x).1[q]? with | some (0, ci) => _ | _ => none) = _
              rw [sh]
              rfl
            rintro _ h1 ⟨rfl, l1, i1, f1⟩
            have hq := a_rq_of i1.1 (show 72 ≤ h1.1.length by rw [l1]; exact hk_n k0 hn)
            have d1 : xg 0 h1.2.1 0 9 = x := (fr_g f1 rfl rfl).trans gx_s
            refine xq_n 64 [] [] [.int (Int32.ofInt 1)] h1 [] 3 hq rfl trivial (fun hq => ?_)
            have hB : mbB s w r x = true := by unfold mbB; (rw [c1, c2, c3, c4, c5]) <;> simp only [Bool.not_true, Bool.not_false, Bool.true_and, Bool.false_and, Bool.and_false, Bool.and_true]
            exact xq_ret rfl rfl rfl ⟨by first | (rw [hB]; done) | (rw [hB]; rfl), by first | (rw [hB]; done) | (rw [hB]; exact d1)⟩
          | false =>
            refine xq_n 49 [] [] [.int (Int32.ofInt 0)] h [false, false, true, false, false, false] 24 hq rfl ⟨(show xe_c .gt (xg 0 h.2.1 0 8) 0 = false by rw [show (xg 0 h.2.1 0 8) = s from e8]; exact c1), (show xe_c .gt (xg 0 h.2.1 35 3) 0 = false by rw [show (xg 0 h.2.1 35 3) = w from e3]; exact c2), (show xe_c .eq (xg 0 h.2.1 28 1) 0 = true by rw [show (xg 0 h.2.1 28 1) = r from e1]; exact c3), (by decide), c4, c5, trivial⟩ (fun hq => ?_)
            have hB : mbB s w r x = false := by unfold mbB; (rw [c1, c2, c3, c4, c5]) <;> simp only [Bool.not_true, Bool.not_false, Bool.true_and, Bool.false_and, Bool.and_false, Bool.and_true]
            exact xq_ret rfl rfl rfl ⟨by first | (rw [hB]; done) | (rw [hB]; rfl), by first | (rw [hB]; done) | (rw [hB]; exact rfl)⟩
      | false =>
        refine xq_n 49 [] [] [.int (Int32.ofInt 0)] h [false, false, false, true] 19 hq rfl ⟨(show xe_c .gt (xg 0 h.2.1 0 8) 0 = false by rw [show (xg 0 h.2.1 0 8) = s from e8]; exact c1), (show xe_c .gt (xg 0 h.2.1 35 3) 0 = false by rw [show (xg 0 h.2.1 35 3) = w from e3]; exact c2), (show xe_c .eq (xg 0 h.2.1 28 1) 0 = false by rw [show (xg 0 h.2.1 28 1) = r from e1]; exact c3), (by decide), trivial⟩ (fun hq => ?_)
        have hB : mbB s w r x = false := by unfold mbB; (rw [c1, c2, c3]) <;> simp only [Bool.not_true, Bool.not_false, Bool.true_and, Bool.false_and, Bool.and_false, Bool.and_true]
        exact xq_ret rfl rfl rfl ⟨by first | (rw [hB]; done) | (rw [hB]; rfl), by first | (rw [hB]; done) | (rw [hB]; exact rfl)⟩
set_option maxRecDepth 100000 in
set_option maxHeartbeats 4000000 in
theorem mb10_q {f : Nat} {x s w r : Int32} {h : xh_H} (hq : a_rq a_tb h) (e8 : xg 0 h.2.1 39 33 = s) (e3 : xg 0 h.2.1 39 63 = w) (e1 : xg 0 h.2.1 39 5 = r) : xq f xi_X10_members xmi_X10_members 0 [(0, .ref 39), (1, .int x)] [] h (fun v h' => v = some (.int (bl (mbB s w r x))) ∧ xg 0 h'.2.1 39 4 = cond (mbB s w r x) x (xg 0 h.2.1 39 4)) := by
  refine xq_n 9 [0, 1] [(0, .ref 39), (1, .int x)] [.int 12, .int (Int32.ofInt 1), .int x] (xh_ui h 39 0 (Int32.ofInt 0)) [] 8 hq rfl trivial (fun _ => ?_)
  have hq : a_rq a_tb (xh_ui h 39 0 (Int32.ofInt 0)) := a_rq_ui hq
  refine xq_run hq rfl rfl (isIn_q hq) ?_
  rintro _ h_ ⟨rfl, rfl⟩
  rw [in_c]
  cases b1 : (!xe_c .lt x (Int32.ofInt 1) && xe_c .le x 12) with
  | true =>
    cases c2 : xe_c .gt s 0 with
    | true =>
      refine xq_n 37 [] [] [.int (Int32.ofInt 0)] (xh_ui h 39 0 (Int32.ofInt 0)) [false, true] 7 hq rfl ⟨rfl, (show xe_c .gt (xg 0 (xh_ui h 39 0 (Int32.ofInt 0)).2.1 39 33) 0 = true by rw [show (xg 0 (xh_ui h 39 0 (Int32.ofInt 0)).2.1 39 33) = s from (gx_k (by decide)).trans (e8)]; exact c2), trivial⟩ (fun hq => ?_)
      have hB : mbB s w r x = false := by unfold mbB; rw [b1, c2]; rfl
      exact xq_ret rfl rfl rfl ⟨by first | (rw [hB]; done) | (rw [hB]; rfl), by first | (rw [hB]; done) | (rw [hB]; exact gx_k (by decide))⟩
    | false =>
      cases c3 : xe_c .gt w 0 with
      | true =>
        refine xq_n 37 [] [] [.int (Int32.ofInt 0)] (xh_ui h 39 0 (Int32.ofInt 0)) [false, false, true] 10 hq rfl ⟨rfl, (show xe_c .gt (xg 0 (xh_ui h 39 0 (Int32.ofInt 0)).2.1 39 33) 0 = false by rw [show (xg 0 (xh_ui h 39 0 (Int32.ofInt 0)).2.1 39 33) = s from (gx_k (by decide)).trans (e8)]; exact c2), (show xe_c .gt (xg 0 (xh_ui h 39 0 (Int32.ofInt 0)).2.1 39 63) 0 = true by rw [show (xg 0 (xh_ui h 39 0 (Int32.ofInt 0)).2.1 39 63) = w from (gx_k (by decide)).trans (e3)]; exact c3), trivial⟩ (fun hq => ?_)
        have hB : mbB s w r x = false := by unfold mbB; rw [b1, c2, c3]; rfl
        exact xq_ret rfl rfl rfl ⟨by first | (rw [hB]; done) | (rw [hB]; rfl), by first | (rw [hB]; done) | (rw [hB]; exact gx_k (by decide))⟩
      | false =>
        cases c4 : xe_c .eq r 0 with
        | true =>
          refine xq_n 44 [] [] [.int (Int32.ofInt 1)] (xh_ui (xh_ui h 39 0 (Int32.ofInt 0)) 39 4 x) [false, false, false, true] 16 hq rfl ⟨rfl, (show xe_c .gt (xg 0 (xh_ui h 39 0 (Int32.ofInt 0)).2.1 39 33) 0 = false by rw [show (xg 0 (xh_ui h 39 0 (Int32.ofInt 0)).2.1 39 33) = s from (gx_k (by decide)).trans (e8)]; exact c2), (show xe_c .gt (xg 0 (xh_ui h 39 0 (Int32.ofInt 0)).2.1 39 63) 0 = false by rw [show (xg 0 (xh_ui h 39 0 (Int32.ofInt 0)).2.1 39 63) = w from (gx_k (by decide)).trans (e3)]; exact c3), (show xe_c .eq (xg 0 (xh_ui h 39 0 (Int32.ofInt 0)).2.1 39 5) 0 = true by rw [show (xg 0 (xh_ui h 39 0 (Int32.ofInt 0)).2.1 39 5) = r from (gx_k (by decide)).trans (e1)]; exact c4), trivial⟩ (fun _ => ?_)
          have hq : a_rq a_tb (xh_ui (xh_ui h 39 0 (Int32.ofInt 0)) 39 4 x) := a_rq_ui hq
          have hB : mbB s w r x = true := by simp only [mbB, b1, c2, c3, c4]; rfl
          exact xq_ret rfl rfl rfl ⟨by first | (rw [hB]; done) | (rw [hB]; rfl), by first | (rw [hB]; done) | (rw [hB]; exact gx_s)⟩
        | false =>
          refine xq_n 37 [] [] [.int (Int32.ofInt 0)] (xh_ui h 39 0 (Int32.ofInt 0)) [false, false, false, false] 13 hq rfl ⟨rfl, (show xe_c .gt (xg 0 (xh_ui h 39 0 (Int32.ofInt 0)).2.1 39 33) 0 = false by rw [show (xg 0 (xh_ui h 39 0 (Int32.ofInt 0)).2.1 39 33) = s from (gx_k (by decide)).trans (e8)]; exact c2), (show xe_c .gt (xg 0 (xh_ui h 39 0 (Int32.ofInt 0)).2.1 39 63) 0 = false by rw [show (xg 0 (xh_ui h 39 0 (Int32.ofInt 0)).2.1 39 63) = w from (gx_k (by decide)).trans (e3)]; exact c3), (show xe_c .eq (xg 0 (xh_ui h 39 0 (Int32.ofInt 0)).2.1 39 5) 0 = false by rw [show (xg 0 (xh_ui h 39 0 (Int32.ofInt 0)).2.1 39 5) = r from (gx_k (by decide)).trans (e1)]; exact c4), trivial⟩ (fun hq => ?_)
          have hB : mbB s w r x = false := by unfold mbB; rw [b1, c2, c3, c4]; rfl
          exact xq_ret rfl rfl rfl ⟨by first | (rw [hB]; done) | (rw [hB]; rfl), by first | (rw [hB]; done) | (rw [hB]; exact gx_k (by decide))⟩
  | false =>
    refine xq_n 37 [] [] [.int (Int32.ofInt 0)] (xh_ui h 39 0 (Int32.ofInt 0)) [true] 4 hq rfl ⟨rfl, trivial⟩ (fun hq => ?_)
    have hB : mbB s w r x = false := by unfold mbB; rw [b1]; rfl
    exact xq_ret rfl rfl rfl ⟨by first | (rw [hB]; done) | (rw [hB]; rfl), by first | (rw [hB]; done) | (rw [hB]; exact gx_k (by decide))⟩
end XRJ
end
section
section XNX
/-- what next answers, and the day behind it -/
def nx_ok (t : Nat) (n : Int32) : Bool := decide (0 ≤ n.toInt) && decide ((t : Int) + n.toInt ≤ 999)
def nx_a (t : Nat) (n : Int32) : Int32 := cond (nx_ok t n) (nI (t + n.toInt.toNat)) (Int32.ofInt (-1))
def nx_t (t : Nat) (n : Int32) : Nat := cond (nx_ok t n) (t + n.toInt.toNat) t
theorem nx_t9 {t : Nat} {n : Int32} (h : t ≤ 999) : nx_t t n ≤ 999 := by
  unfold nx_t
  cases hb : nx_ok t n with
  | false => exact h
  | true =>
    unfold nx_ok at hb
    rw [Bool.and_eq_true, decide_eq_true_eq, decide_eq_true_eq] at hb
    show t + n.toInt.toNat ≤ 999
    omega
theorem nx_no {t : Nat} {n : Int32} (h : ¬ (0 ≤ n.toInt ∧ (t : Int) + n.toInt ≤ 999)) : nx_ok t n = false := by
  unfold nx_ok
  rw [Bool.eq_false_iff]
  intro z
  rw [Bool.and_eq_true, decide_eq_true_eq, decide_eq_true_eq] at z
  exact h z
theorem nx_y {t : Nat} {n : Int32} (h1 : 0 ≤ n.toInt) (h2 : (t : Int) + n.toInt ≤ 999) : nx_ok t n = true := by
  unfold nx_ok
  rw [decide_eq_true h1, decide_eq_true h2]
  rfl
set_option maxRecDepth 100000 in
theorem n9_run {d t : Nat} {n : Int32} {h : xh_H} (hn : 72 ≤ h.1.length) (hi : a_inv a_tb h) (t9 : t ≤ 999) (ht : xg 0 h.2.1 0 10 = nI t) : xt_P d xi_X9_next xmi_X9_next 0 [(0, .ref 0), (1, .int n)] [] h (fun v h' => hk [(0, 10)] h h' ∧ v = some (.int (nx_a t n)) ∧ xg 0 h'.2.1 0 10 = nI (nx_t t n)) := by
  have hq := a_rq_of hi.1 hn
  have ti := nI_toInt (n := t) (by omega)
  have z0 : (0 : Int32).toInt = 0 := rfl
  have z9 : (999 : Int32).toInt = 999 := rfl
  have no : nx_ok t n = false → hk [(0, 10)] h h ∧ some (Value.int (Int32.ofInt (-1))) = some (.int (nx_a t n)) ∧ xg 0 h.2.1 0 10 = nI (nx_t t n) := fun z => by
    refine ⟨hk_0 hi, ?_, ?_⟩
    · unfold nx_a
      rw [z]
      rfl
    · unfold nx_t
      rw [z]
      exact ht
  cases c1 : xe_c .lt n 0 with
  | true =>
    have b1 : n.toInt < (0 : Int) := a_ce c1
    refine xa_tn 24 [] [] [.int (Int32.ofInt (-1))] h [true] 5 hq rfl ⟨c1, trivial⟩ (fun _ => ?_)
    exact xp_ret rfl rfl rfl (no (nx_no (by omega)))
  | false =>
    have b1 : (0 : Int) ≤ n.toInt := a_ce (a_neg_ok c1)
    cases c2 : xe_c .gt n 999 with
    | true =>
      have b2 : (999 : Int) < n.toInt := a_ce c2
      refine xa_tn 24 [] [] [.int (Int32.ofInt (-1))] h [false, true] 8 hq rfl ⟨c1, c2, trivial⟩ (fun _ => ?_)
      exact xp_ret rfl rfl rfl (no (nx_no (by omega)))
    | false =>
      have b2 : n.toInt ≤ (999 : Int) := a_ce (a_neg_ok c2)
      have es : (nI t + n).toInt = (t : Int) + n.toInt := by rw [i_add (by rw [ti]; omega) (by rw [ti]; omega), ti]
      by_cases hs : (t : Int) + n.toInt ≤ 999
      · refine xa_tn 39 [] [] [.int (xg 0 (xh_ui h 0 10 ((xg 0 h.2.1 0 10) + n)).2.1 0 10)] (xh_ui h 0 10 ((xg 0 h.2.1 0 10) + n)) [false, false, true] 21 hq rfl ⟨c1, c2, xle_t (show ((xg 0 h.2.1 0 10) + n).toInt ≤ (999 : Int32).toInt by rw [ht, es, z9]; exact hs), trivial⟩ (fun _ => ?_)
        have en : nI t + n = nI (t + n.toInt.toNat) := Int32.toInt_inj.mp (by rw [es, nI_toInt (by omega)]; omega)
        rw [ht, en]
        have ni := nI_toInt (n := t + n.toInt.toNat) (by omega)
        refine xp_ret rfl rfl rfl ⟨hk_ui (s := (0, 9)) (lo := -2147483648) (hi := 2147483647) (hk_0 hi) hn rfl rfl (by omega) (by omega) rfl rfl, ?_, ?_⟩
        · unfold nx_a
          rw [nx_y b1 hs, gx_s]
          rfl
        · unfold nx_t
          rw [nx_y b1 hs]
          exact gx_s
      · refine xa_tn 24 [] [] [.int (Int32.ofInt (-1))] h [false, false, false] 14 hq rfl ⟨c1, c2, xle_f (show (999 : Int32).toInt < ((xg 0 h.2.1 0 10) + n).toInt by rw [ht, es, z9]; omega), trivial⟩ (fun _ => ?_)
        exact xp_ret rfl rfl rfl (no (nx_no (by omega)))
set_option maxRecDepth 100000 in
theorem isj_run {d : Nat} {x lo hi : Int32} {h : xh_H} (hq : a_rq a_tb h) : xt_P d xi_X10_isIn xmi_X10_isIn 0 [(0, .int x), (1, .int lo), (2, .int hi)] [] h (fun v h' => h = h' ∧ v = some (.int (bl (decide (lo.toInt ≤ x.toInt ∧ x.toInt ≤ hi.toInt))))) := by
  cases c1 : xe_c .lt x lo with
  | true =>
    have b1 : x.toInt < lo.toInt := a_ce c1
    refine xa_tn 15 [] [] [.int (Int32.ofInt 0)] h [true] 6 hq rfl ⟨c1, trivial⟩ (fun _ => ?_)
    refine xp_ret rfl rfl rfl ⟨rfl, ?_⟩
    rw [decide_eq_false (by omega)]
    rfl
  | false =>
    have b1 : lo.toInt ≤ x.toInt := a_ce (a_neg_ok c1)
    cases c2 : xe_c .gt x hi with
    | true =>
      have b2 : hi.toInt < x.toInt := a_ce c2
      refine xa_tn 15 [] [] [.int (Int32.ofInt 0)] h [false, true] 9 hq rfl ⟨c1, c2, trivial⟩ (fun _ => ?_)
      refine xp_ret rfl rfl rfl ⟨rfl, ?_⟩
      rw [decide_eq_false (by omega)]
      rfl
    | false =>
      have b2 : x.toInt ≤ hi.toInt := a_ce (a_neg_ok c2)
      refine xa_tn 15 [] [] [.int (Int32.ofInt 1)] h [false, false] 10 hq rfl ⟨c1, c2, trivial⟩ (fun _ => ?_)
      refine xp_ret rfl rfl rfl ⟨rfl, ?_⟩
      rw [decide_eq_true ⟨b1, b2⟩]
      rfl
set_option maxRecDepth 100000 in
theorem n10_run {d t : Nat} {n : Int32} {h : xh_H} (hn : 72 ≤ h.1.length) (hi : a_inv a_tb h) (t9 : t ≤ 999) (ht : xg 0 h.2.1 39 3 = nI t) : xt_P (d + 1) xi_X10_next xmi_X10_next 0 [(0, .ref 39), (1, .int n)] [] h (fun v h' => hk [(39, 0), (39, 3)] h h' ∧ v = some (.int (nx_a t n)) ∧ xg 0 h'.2.1 39 3 = nI (nx_t t n)) := by
  have hq := a_rq_of hi.1 hn
  have ti := nI_toInt (n := t) (by omega)
  have z9 : (999 : Int32).toInt = 999 := rfl
  have z0 : (Int32.ofInt 0).toInt = 0 := rfl
  refine xa_tn 10 [0, 1] [(0, .ref 39), (1, .int n)] [.int 999, .int (Int32.ofInt 0), .int n] (xh_ui h 39 0 (Int32.ofInt 0)) [] 8 hq rfl trivial (fun _ => ?_)
  have hk1 : hk [(39, 0), (39, 3)] h (xh_ui h 39 0 (Int32.ofInt 0)) := hk_ui (s := (0, 10)) (lo := 0) (hi := 1) (hk_0 hi) hn rfl rfl (by decide) (by decide) rfl rfl
  have e3 : xg 0 (xh_ui h 39 0 (Int32.ofInt 0)).2.1 39 3 = nI t := by rw [gx_k (by decide)]; exact ht
  generalize xh_ui h 39 0 (Int32.ofInt 0) = h1 at hk1 e3 ⊢
  have q1 := hk_q hk1 hn
  have no : nx_ok t n = false → hk [(39, 0), (39, 3)] h h1 ∧ some (Value.int (Int32.ofInt (-1))) = some (.int (nx_a t n)) ∧ xg 0 h1.2.1 39 3 = nI (nx_t t n) := fun z => by
    refine ⟨hk1, ?_, ?_⟩
    · unfold nx_a
      rw [z]
      rfl
    · unfold nx_t
      rw [z]
      exact e3
  refine xp_run q1 rfl rfl (isj_run (d := d) (x := n) (lo := Int32.ofInt 0) (hi := 999) q1) ?_
  rintro v h2 ⟨rfl, rfl⟩
  rw [z0, z9]
  by_cases hr : (0 : Int) ≤ n.toInt ∧ n.toInt ≤ 999
  · rw [decide_eq_true hr]
    have es : (nI t + n).toInt = (t : Int) + n.toInt := by rw [i_add (by rw [ti]; omega) (by rw [ti]; omega), ti]
    by_cases hs : (t : Int) + n.toInt ≤ 999
    · refine xa_tn 44 [] [] [.int (xg 0 (xh_ui h1 39 3 ((xg 0 h1.2.1 39 3) + n)).2.1 39 3)] (xh_ui h1 39 3 ((xg 0 h1.2.1 39 3) + n)) [false, true] 17 q1 rfl ⟨rfl, xle_t (show ((xg 0 h1.2.1 39 3) + n).toInt ≤ (999 : Int32).toInt by rw [e3, es, z9]; exact hs), trivial⟩ (fun _ => ?_)
      have en : nI t + n = nI (t + n.toInt.toNat) := Int32.toInt_inj.mp (by rw [es, nI_toInt (by omega)]; omega)
      rw [e3, en]
      have ni := nI_toInt (n := t + n.toInt.toNat) (by omega)
      refine xp_ret rfl rfl rfl ⟨hk_ui (s := (0, 10)) (lo := -2147483648) (hi := 2147483647) hk1 hn rfl rfl (by omega) (by omega) rfl rfl, ?_, ?_⟩
      · unfold nx_a
        rw [nx_y hr.1 hs, gx_s]
        rfl
      · unfold nx_t
        rw [nx_y hr.1 hs]
        exact gx_s
    · refine xa_tn 29 [] [] [.int (Int32.ofInt (-1))] h1 [false, false] 10 q1 rfl ⟨rfl, xle_f (show (999 : Int32).toInt < ((xg 0 h1.2.1 39 3) + n).toInt by rw [e3, es, z9]; omega), trivial⟩ (fun _ => ?_)
      exact xp_ret rfl rfl rfl (no (nx_no (by omega)))
  · rw [decide_eq_false hr]
    refine xa_tn 29 [] [] [.int (Int32.ofInt (-1))] h1 [true] 4 q1 rfl ⟨rfl, trivial⟩ (fun _ => ?_)
    exact xp_ret rfl rfl rfl (no (nx_no (by omega)))
end XNX
end
section
section XCN
/-- a single step that leaves locals and heap -/
theorem xq_1 {f mid : Nat} {mi : xm_M} {pc : Nat} {lv : List (Nat × Value)} {st : List Value} {h : xh_H} {Q : Option Value → xh_H → Prop} {r : xr_R} {pc1 : Nat} {st1 : List Value} (hr : xC mid pc = some r) (hi : xe_isr r.1 = false) (h2 : ∀ d lw, xe_2 none mi.2.2.2.1 r d pc lw st h 0 0 = some (pc1, lw, st1, h, 0, 0)) (k : xq f mid mi pc1 lv st1 h Q) : xq f mid mi pc lv st h Q := by
  intro d lw v h' c s hs hx
  obtain ⟨g, eg, ⟨o', e2, e3⟩ | ⟨e2, -⟩⟩ := xq_s hr hi hx
  · rw [h2] at e2
    cases e2
    exact k d lw v h' c s hs (xe_x_le (by omega) e3)
  · rw [h2] at e2
    cases e2
/-- what count answers -/
def cnA (x a b c d e : Int32) : Int32 := if x = 0 then a else if x = 1 then b else if x = 2 then c else if x = 3 then d else if x = 4 then e else Int32.ofInt (-1)
theorem cnA_o {x a b c d e : Int32} (hx : x.toInt < 0 ∨ 4 < x.toInt) : cnA x a b c d e = Int32.ofInt (-1) := by
  unfold cnA
  rw [if_neg, if_neg, if_neg, if_neg, if_neg]
  all_goals
    rintro rfl
    revert hx
    decide
theorem cn_k {x : Int32} (hx : ¬ (x.toInt < 0 ∨ 4 < x.toInt)) : x = 0 ∨ x = 1 ∨ x = 2 ∨ x = 3 ∨ x = 4 := by
  have i0 : (0 : Int32).toInt = 0 := rfl
  have i1 : (1 : Int32).toInt = 1 := rfl
  have i2 : (2 : Int32).toInt = 2 := rfl
  have i3 : (3 : Int32).toInt = 3 := rfl
  have i4 : (4 : Int32).toInt = 4 := rfl
  have : x.toInt = 0 ∨ x.toInt = 1 ∨ x.toInt = 2 ∨ x.toInt = 3 ∨ x.toInt = 4 := by omega
  rcases this with z | z | z | z | z
  · exact Or.inl (Int32.toInt_inj.mp (z.trans i0.symm))
  · exact Or.inr (Or.inl (Int32.toInt_inj.mp (z.trans i1.symm)))
  · exact Or.inr (Or.inr (Or.inl (Int32.toInt_inj.mp (z.trans i2.symm))))
  · exact Or.inr (Or.inr (Or.inr (Or.inl (Int32.toInt_inj.mp (z.trans i3.symm)))))
  · exact Or.inr (Or.inr (Or.inr (Or.inr (Int32.toInt_inj.mp (z.trans i4.symm)))))
set_option maxRecDepth 100000 in
set_option maxHeartbeats 4000000 in
theorem cn9_q {f : Nat} {x a b c d e : Int32} {h : xh_H} (hq : a_rq a_tb h) (e0 : xg 0 h.2.1 0 10 = a) (e1 : xg 0 h.2.1 0 9 = b) (e2 : xg 0 h.2.1 0 8 = c) (e3 : xg 0 h.2.1 35 3 = d) (e4 : xg 0 h.2.1 1 1 = e) : xq f xi_X9_count xmi_X9_count 0 [(0, .ref 0), (1, .int x)] [] h (fun v h' => v = some (.int (cnA x a b c d e))) := by
  refine xq_n 1 [0] [(0, .ref 0)] [.int x] h [] 3 hq rfl trivial (fun hq => ?_)
  by_cases hx : x.toInt < 0 ∨ 4 < x.toInt
  · refine xq_1 (pc1 := 67) (st1 := []) rfl rfl (fun _ _ => by rcases hx with hx | hx <;> simp [xe_2, xe_1, xp_i, hx]) ?_
    refine xq_n 68 [] [] [.int (Int32.ofInt (-1))] h [] 3 hq rfl trivial (fun hq => ?_)
    exact xq_ret rfl rfl rfl (by rw [cnA_o hx])
  · rcases cn_k hx with rfl | rfl | rfl | rfl | rfl
    · refine xq_1 (pc1 := 36) (st1 := []) rfl rfl (fun _ _ => rfl) ?_
      refine xq_n 40 [] [] [.int (xg 0 h.2.1 0 10)] h [] 4 hq rfl trivial (fun hq => ?_)
      rw [e0]
      exact xq_ret rfl rfl rfl rfl
    · refine xq_1 (pc1 := 41) (st1 := []) rfl rfl (fun _ _ => rfl) ?_
      refine xq_n 45 [] [] [.int (xg 0 h.2.1 0 9)] h [] 4 hq rfl trivial (fun hq => ?_)
      rw [e1]
      exact xq_ret rfl rfl rfl rfl
    · refine xq_1 (pc1 := 46) (st1 := []) rfl rfl (fun _ _ => rfl) ?_
      refine xq_n 50 [] [] [.int (xg 0 h.2.1 0 8)] h [] 4 hq rfl trivial (fun hq => ?_)
      rw [e2]
      exact xq_ret rfl rfl rfl rfl
    · refine xq_1 (pc1 := 51) (st1 := []) rfl rfl (fun _ _ => rfl) ?_
      refine xq_n 58 [] [] [.int (xg 0 h.2.1 35 3)] h [] 5 hq rfl trivial (fun hq => ?_)
      rw [e3]
      exact xq_ret rfl rfl rfl rfl
    · refine xq_1 (pc1 := 59) (st1 := []) rfl rfl (fun _ _ => rfl) ?_
      refine xq_n 66 [] [] [.int (xg 0 h.2.1 1 1)] h [] 5 hq rfl trivial (fun hq => ?_)
      rw [e4]
      exact xq_ret rfl rfl rfl rfl
set_option maxRecDepth 100000 in
set_option maxHeartbeats 4000000 in
theorem cn10_q {f : Nat} {x a b c d e : Int32} {h : xh_H} (hq : a_rq a_tb h) (e0 : xg 0 h.2.1 39 3 = a) (e1 : xg 0 h.2.1 39 4 = b) (e2 : xg 0 h.2.1 39 33 = c) (e3 : xg 0 h.2.1 39 63 = d) (e4 : xg 0 h.2.1 39 2 = e) : xq f xi_X10_count xmi_X10_count 0 [(0, .ref 39), (1, .int x)] [] h (fun v h' => v = some (.int (cnA x a b c d e))) := by
  refine xq_n 6 [0] [(0, .ref 39)] [.int x] (xh_ui h 39 0 (Int32.ofInt 0)) [] 6 hq rfl trivial (fun _ => ?_)
  have hq : a_rq a_tb (xh_ui h 39 0 (Int32.ofInt 0)) := a_rq_ui hq
  by_cases hx : x.toInt < 0 ∨ 4 < x.toInt
  · refine xq_1 (pc1 := 65) (st1 := []) rfl rfl (fun _ _ => by rcases hx with hx | hx <;> simp [xe_2, xe_1, xp_i, hx]) ?_
    refine xq_n 66 [] [] [.int (Int32.ofInt (-1))] (xh_ui h 39 0 (Int32.ofInt 0)) [] 3 hq rfl trivial (fun hq => ?_)
    exact xq_ret rfl rfl rfl (by rw [cnA_o hx])
  · rcases cn_k hx with rfl | rfl | rfl | rfl | rfl
    · refine xq_1 (pc1 := 40) (st1 := []) rfl rfl (fun _ _ => rfl) ?_
      refine xq_n 44 [] [] [.int (xg 0 (xh_ui h 39 0 (Int32.ofInt 0)).2.1 39 3)] (xh_ui h 39 0 (Int32.ofInt 0)) [] 4 hq rfl trivial (fun hq => ?_)
      rw [show xg 0 (xh_ui h 39 0 (Int32.ofInt 0)).2.1 39 3 = a from (gx_k (by decide)).trans e0]
      exact xq_ret rfl rfl rfl rfl
    · refine xq_1 (pc1 := 45) (st1 := []) rfl rfl (fun _ _ => rfl) ?_
      refine xq_n 49 [] [] [.int (xg 0 (xh_ui h 39 0 (Int32.ofInt 0)).2.1 39 4)] (xh_ui h 39 0 (Int32.ofInt 0)) [] 4 hq rfl trivial (fun hq => ?_)
      rw [show xg 0 (xh_ui h 39 0 (Int32.ofInt 0)).2.1 39 4 = b from (gx_k (by decide)).trans e1]
      exact xq_ret rfl rfl rfl rfl
    · refine xq_1 (pc1 := 50) (st1 := []) rfl rfl (fun _ _ => rfl) ?_
      refine xq_n 54 [] [] [.int (xg 0 (xh_ui h 39 0 (Int32.ofInt 0)).2.1 39 33)] (xh_ui h 39 0 (Int32.ofInt 0)) [] 4 hq rfl trivial (fun hq => ?_)
      rw [show xg 0 (xh_ui h 39 0 (Int32.ofInt 0)).2.1 39 33 = c from (gx_k (by decide)).trans e2]
      exact xq_ret rfl rfl rfl rfl
    · refine xq_1 (pc1 := 55) (st1 := []) rfl rfl (fun _ _ => rfl) ?_
      refine xq_n 59 [] [] [.int (xg 0 (xh_ui h 39 0 (Int32.ofInt 0)).2.1 39 63)] (xh_ui h 39 0 (Int32.ofInt 0)) [] 4 hq rfl trivial (fun hq => ?_)
      rw [show xg 0 (xh_ui h 39 0 (Int32.ofInt 0)).2.1 39 63 = d from (gx_k (by decide)).trans e3]
      exact xq_ret rfl rfl rfl rfl
    · refine xq_1 (pc1 := 60) (st1 := []) rfl rfl (fun _ _ => rfl) ?_
      refine xq_n 64 [] [] [.int (xg 0 (xh_ui h 39 0 (Int32.ofInt 0)).2.1 39 2)] (xh_ui h 39 0 (Int32.ofInt 0)) [] 4 hq rfl trivial (fun hq => ?_)
      rw [show xg 0 (xh_ui h 39 0 (Int32.ofInt 0)).2.1 39 2 = e from (gx_k (by decide)).trans e4]
      exact xq_ret rfl rfl rfl rfl
set_option maxRecDepth 100000 in
theorem fa9_q {f : Nat} {a : Int32} {h : xh_H} (hq : a_rq a_tb h) (e : xg 0 h.2.1 0 11 = a) : xq f xi_X9_fault xmi_X9_fault 0 [(0, .ref 0)] [] h (fun v h' => v = some (.int a)) := by
  refine xq_n 4 [] [] [.int (xg 0 h.2.1 0 11)] h [] 4 hq rfl trivial (fun hq => ?_)
  rw [e]
  exact xq_ret rfl rfl rfl rfl
set_option maxRecDepth 100000 in
theorem fa10_q {f : Nat} {a : Int32} {h : xh_H} (hq : a_rq a_tb h) (e : xg 0 h.2.1 39 13 = a) : xq f xi_X10_fault xmi_X10_fault 0 [(0, .ref 39)] [] h (fun v h' => v = some (.int a)) := by
  refine xq_n 9 [] [] [.int (xg 0 (xh_ui h 39 0 (Int32.ofInt 0)).2.1 39 13)] (xh_ui h 39 0 (Int32.ofInt 0)) [] 7 hq rfl trivial (fun _ => ?_)
  rw [show xg 0 (xh_ui h 39 0 (Int32.ofInt 0)).2.1 39 13 = a from (gx_k (by decide)).trans e]
  exact xq_ret rfl rfl rfl rfl
end XCN
end
section
section XJG
theorem bl_o1 {a : Bool} : bl a ||| Int32.ofInt 1 = bl true := by cases a <;> rfl
theorem bl_o0 {a : Bool} : bl a ||| Int32.ofInt 0 = bl a := by cases a <;> rfl
theorem gt_le {a b : Int32} : xe_c .gt a b = !xe_c .le a b := by
  show decide (b < a) = !decide (a ≤ b)
  by_cases h : a ≤ b
  · rw [decide_eq_true h, decide_eq_false (fun z => absurd (Int32.lt_iff_toInt_lt.mp z) (by have := Int32.le_iff_toInt_le.mp h; omega))]
    rfl
  · rw [decide_eq_false h, decide_eq_true (Int32.lt_iff_toInt_lt.mpr (by have := mt Int32.le_iff_toInt_le.mpr h; omega))]
    rfl
theorem bit_sub {x s : Int32} : (s &&& (x ^^^ Int32.ofInt (-1)) = 0) ↔ (x &&& s = s) := by
  rw [← Int32.toBitVec_inj, ← Int32.toBitVec_inj, Int32.toBitVec_and, Int32.toBitVec_and, Int32.toBitVec_xor]
  have e1 : (Int32.ofInt (-1)).toBitVec = BitVec.allOnes 32 := by decide
  have e0 : (0 : Int32).toBitVec = 0#32 := rfl
  rw [e1, e0]
  constructor
  · intro h
    apply BitVec.eq_of_getLsbD_eq
    intro i hi
    have := congrArg (fun b => b.getLsbD i) h
    simp only [BitVec.getLsbD_and, BitVec.getLsbD_xor, BitVec.getLsbD_allOnes, BitVec.getLsbD_zero, hi, decide_true] at this
    rw [BitVec.getLsbD_and]
    revert this
    cases x.toBitVec.getLsbD i <;> cases s.toBitVec.getLsbD i <;> simp
  · intro h
    apply BitVec.eq_of_getLsbD_eq
    intro i hi
    have := congrArg (fun b => b.getLsbD i) h
    simp only [BitVec.getLsbD_and] at this
    simp only [BitVec.getLsbD_and, BitVec.getLsbD_xor, BitVec.getLsbD_allOnes, BitVec.getLsbD_zero, hi, decide_true]
    revert this
    cases x.toBitVec.getLsbD i <;> cases s.toBitVec.getLsbD i <;> simp
theorem sb_1 {x s : Int32} : xe_c .ne (s &&& (x ^^^ Int32.ofInt (-1))) 0 = xe_c .ne (x &&& s) s := by
  show (!decide _) = !decide _
  rw [decide_eq_decide.mpr bit_sub]
theorem sb_2 {x s : Int32} : xe_c .ne (x &&& (s ^^^ Int32.ofInt (-1))) 0 = xe_c .ne (x &&& s) x := by
  rw [sb_1, show s &&& x = x &&& s from Int32.and_comm _ _]
/-- what the votes say of a set on a day -/
def jg (S D P : Nat → Int32) (x t : Int32) : Nat → Nat → Bool → Bool → Int32
  | 0, _, a, b => cond a (cond b (Int32.ofInt 3) (Int32.ofInt 1)) (cond b (Int32.ofInt 0) (Int32.ofInt 2))
  | j + 1, i, a, b => cond (xe_c .gt (D i) t) (jg S D P x t j (i + 1) a b) (jg S D P x t j (i + 1) ((!xe_c .eq (P i) 0 && !xe_c .ne (S i &&& (x ^^^ Int32.ofInt (-1))) 0) || a) ((xe_c .eq (P i) 0 && !xe_c .ne (x &&& (S i ^^^ Int32.ofInt (-1))) 0) || b))
set_option maxRecDepth 100000 in
set_option maxHeartbeats 4000000 in
theorem jd9_l {f n : Nat} {S D P : Nat → Int32} {x t : Int32} {h : xh_H} (n6 : n ≤ 60) (e3 : xg 0 h.2.1 35 3 = nI n) (hA : ∀ k, k < n → xg 0 h.2.1 36 k = S k ∧ xg 0 h.2.1 37 k = D k ∧ xg 0 h.2.1 38 k = P k) (hq : a_rq a_tb h) : ∀ (j i : Nat) (a b : Bool), i + j = n → xq f xi_X1_judge xmi_X1_judge 8 [(0, .ref 35), (1, .int x), (2, .int t), (3, .int (bl a)), (4, .int (bl b)), (5, .int (nI i))] [] h (fun v h' => h = h' ∧ v = some (.int (jg S D P x t j i a b))) := by
  intro j
  induction j with
  | zero =>
    intro i a b ij
    cases c1 : xe_c .ge (nI i) (nI n) with
    | true =>
      have z1 : i ≥ n := nq_get (a := i) (b := n) (by omega) (by omega) c1
      cases b2 : a with
      | true =>
        cases b3 : b with
        | true =>
          refine xq_n 114 [] [] [.int (Int32.ofInt 3)] h [true, false, false] 12 hq rfl ⟨(show xe_c .ge (nI i) (xg 0 h.2.1 35 3) = true by rw [show (xg 0 h.2.1 35 3) = (nI n) from e3]; exact c1), rfl, rfl, trivial⟩ (fun hq => ?_)
          exact xq_ret rfl rfl rfl ⟨rfl, rfl⟩
        | false =>
          refine xq_n 114 [] [] [.int (Int32.ofInt 1)] h [true, false, true] 11 hq rfl ⟨(show xe_c .ge (nI i) (xg 0 h.2.1 35 3) = true by rw [show (xg 0 h.2.1 35 3) = (nI n) from e3]; exact c1), rfl, rfl, trivial⟩ (fun hq => ?_)
          exact xq_ret rfl rfl rfl ⟨rfl, rfl⟩
      | false =>
        cases b4 : b with
        | true =>
          refine xq_n 125 [] [] [.int (Int32.ofInt 0)] h [true, true, false] 12 hq rfl ⟨(show xe_c .ge (nI i) (xg 0 h.2.1 35 3) = true by rw [show (xg 0 h.2.1 35 3) = (nI n) from e3]; exact c1), rfl, rfl, trivial⟩ (fun hq => ?_)
          exact xq_ret rfl rfl rfl ⟨rfl, rfl⟩
        | false =>
          refine xq_n 125 [] [] [.int (Int32.ofInt 2)] h [true, true, true] 11 hq rfl ⟨(show xe_c .ge (nI i) (xg 0 h.2.1 35 3) = true by rw [show (xg 0 h.2.1 35 3) = (nI n) from e3]; exact c1), rfl, rfl, trivial⟩ (fun hq => ?_)
          exact xq_ret rfl rfl rfl ⟨rfl, rfl⟩
    | false =>
      have z1 : i < n := nq_gef (a := i) (b := n) (by omega) (by omega) c1
      omega
  | succ j ih =>
    intro i a b ij
    have hR : jg S D P x t (j + 1) i a b = cond (xe_c .gt (D i) t) (jg S D P x t j (i + 1) a b) (jg S D P x t j (i + 1) ((!xe_c .eq (P i) 0 && !xe_c .ne (S i &&& (x ^^^ Int32.ofInt (-1))) 0) || a) ((xe_c .eq (P i) 0 && !xe_c .ne (x &&& (S i ^^^ Int32.ofInt (-1))) 0) || b)) := rfl
    rw [hR]
    cases c1 : xe_c .ge (nI i) (nI n) with
    | true =>
      have z1 : i ≥ n := nq_get (a := i) (b := n) (by omega) (by omega) c1
      omega
    | false =>
      have z1 : i < n := nq_gef (a := i) (b := n) (by omega) (by omega) c1
      cases c2 : xe_c .gt (D i) t with
      | true =>
        refine xq_n 8 [0, 1, 2, 3, 4, 5] [(0, .ref 35), (1, .int x), (2, .int t), (3, .int (bl a)), (4, .int (bl b)), (5, .int ((nI i) + Int32.ofInt 1))] [] h [false, true] 14 hq rfl ⟨(show xe_c .ge (nI i) (xg 0 h.2.1 35 3) = false by rw [show (xg 0 h.2.1 35 3) = (nI n) from e3]; exact c1), (show xe_c .gt (xg 0 h.2.1 37 ((nI i).toNatClampNeg)) t = true by rw [show (xg 0 h.2.1 37 ((nI i).toNatClampNeg)) = (D i) from (by rw [show ((nI i).toNatClampNeg) = i from nI_clamp (by omega)]; exact (hA i (by omega)).2.1)]; exact c2), trivial⟩ (fun hq => ?_)
        rw [show ((nI i) + Int32.ofInt 1) = nI (i + 1) from nI_1 _]
        exact ih (i + 1) a b (by omega)
      | false =>
        cases c3 : xe_c .eq (P i) 0 with
        | true =>
          cases c4 : xe_c .ne (x &&& ((S i) ^^^ (Int32.ofInt (-1)))) 0 with
          | true =>
            refine xq_n 8 [0, 1, 2, 3, 4, 5] [(0, .ref 35), (1, .int x), (2, .int t), (3, .int ((bl a) ||| (Int32.ofInt 0))), (4, .int ((bl b) ||| (Int32.ofInt 0))), (5, .int ((nI i) + Int32.ofInt 1))] [] h [false, false, true, false, true] 41 hq rfl ⟨(show xe_c .ge (nI i) (xg 0 h.2.1 35 3) = false by rw [show (xg 0 h.2.1 35 3) = (nI n) from e3]; exact c1), (show xe_c .gt (xg 0 h.2.1 37 ((nI i).toNatClampNeg)) t = false by rw [show (xg 0 h.2.1 37 ((nI i).toNatClampNeg)) = (D i) from (by rw [show ((nI i).toNatClampNeg) = i from nI_clamp (by omega)]; exact (hA i (by omega)).2.1)]; exact c2), (show xe_c .eq (xg 0 h.2.1 38 ((nI i).toNatClampNeg)) 0 = true by rw [show (xg 0 h.2.1 38 ((nI i).toNatClampNeg)) = (P i) from (by rw [show ((nI i).toNatClampNeg) = i from nI_clamp (by omega)]; exact (hA i (by omega)).2.2)]; exact c3), (show xe_c .ne (xg 0 h.2.1 38 ((nI i).toNatClampNeg)) 0 = false by rw [show (xg 0 h.2.1 38 ((nI i).toNatClampNeg)) = (P i) from (by rw [show ((nI i).toNatClampNeg) = i from nI_clamp (by omega)]; exact (hA i (by omega)).2.2), xc_ne, c3]; rfl), (show xe_c .ne (x &&& ((xg 0 h.2.1 36 ((nI i).toNatClampNeg)) ^^^ (Int32.ofInt (-1)))) 0 = true by rw [show (xg 0 h.2.1 36 ((nI i).toNatClampNeg)) = (S i) from (by rw [show ((nI i).toNatClampNeg) = i from nI_clamp (by omega)]; exact (hA i (by omega)).1)]; exact c4), trivial⟩ (fun hq => ?_)
            rw [show ((bl a) ||| (Int32.ofInt 0)) = bl a from bl_o0]
            rw [show ((bl b) ||| (Int32.ofInt 0)) = bl b from bl_o0]
            rw [show ((nI i) + Int32.ofInt 1) = nI (i + 1) from nI_1 _]
            exact ih (i + 1) a b (by omega)
          | false =>
            refine xq_n 8 [0, 1, 2, 3, 4, 5] [(0, .ref 35), (1, .int x), (2, .int t), (3, .int ((bl a) ||| (Int32.ofInt 0))), (4, .int ((bl b) ||| (Int32.ofInt 1))), (5, .int ((nI i) + Int32.ofInt 1))] [] h [false, false, true, false, false] 42 hq rfl ⟨(show xe_c .ge (nI i) (xg 0 h.2.1 35 3) = false by rw [show (xg 0 h.2.1 35 3) = (nI n) from e3]; exact c1), (show xe_c .gt (xg 0 h.2.1 37 ((nI i).toNatClampNeg)) t = false by rw [show (xg 0 h.2.1 37 ((nI i).toNatClampNeg)) = (D i) from (by rw [show ((nI i).toNatClampNeg) = i from nI_clamp (by omega)]; exact (hA i (by omega)).2.1)]; exact c2), (show xe_c .eq (xg 0 h.2.1 38 ((nI i).toNatClampNeg)) 0 = true by rw [show (xg 0 h.2.1 38 ((nI i).toNatClampNeg)) = (P i) from (by rw [show ((nI i).toNatClampNeg) = i from nI_clamp (by omega)]; exact (hA i (by omega)).2.2)]; exact c3), (show xe_c .ne (xg 0 h.2.1 38 ((nI i).toNatClampNeg)) 0 = false by rw [show (xg 0 h.2.1 38 ((nI i).toNatClampNeg)) = (P i) from (by rw [show ((nI i).toNatClampNeg) = i from nI_clamp (by omega)]; exact (hA i (by omega)).2.2), xc_ne, c3]; rfl), (show xe_c .ne (x &&& ((xg 0 h.2.1 36 ((nI i).toNatClampNeg)) ^^^ (Int32.ofInt (-1)))) 0 = false by rw [show (xg 0 h.2.1 36 ((nI i).toNatClampNeg)) = (S i) from (by rw [show ((nI i).toNatClampNeg) = i from nI_clamp (by omega)]; exact (hA i (by omega)).1)]; exact c4), trivial⟩ (fun hq => ?_)
            rw [show ((bl b) ||| (Int32.ofInt 1)) = bl true from bl_o1]
            rw [show ((bl a) ||| (Int32.ofInt 0)) = bl a from bl_o0]
            rw [show ((nI i) + Int32.ofInt 1) = nI (i + 1) from nI_1 _]
            exact ih (i + 1) a true (by omega)
        | false =>
          cases c5 : xe_c .ne ((S i) &&& (x ^^^ (Int32.ofInt (-1)))) 0 with
          | true =>
            refine xq_n 8 [0, 1, 2, 3, 4, 5] [(0, .ref 35), (1, .int x), (2, .int t), (3, .int ((bl a) ||| (Int32.ofInt 0))), (4, .int ((bl b) ||| (Int32.ofInt 0))), (5, .int ((nI i) + Int32.ofInt 1))] [] h [false, false, false, true, true] 41 hq rfl ⟨(show xe_c .ge (nI i) (xg 0 h.2.1 35 3) = false by rw [show (xg 0 h.2.1 35 3) = (nI n) from e3]; exact c1), (show xe_c .gt (xg 0 h.2.1 37 ((nI i).toNatClampNeg)) t = false by rw [show (xg 0 h.2.1 37 ((nI i).toNatClampNeg)) = (D i) from (by rw [show ((nI i).toNatClampNeg) = i from nI_clamp (by omega)]; exact (hA i (by omega)).2.1)]; exact c2), (show xe_c .eq (xg 0 h.2.1 38 ((nI i).toNatClampNeg)) 0 = false by rw [show (xg 0 h.2.1 38 ((nI i).toNatClampNeg)) = (P i) from (by rw [show ((nI i).toNatClampNeg) = i from nI_clamp (by omega)]; exact (hA i (by omega)).2.2)]; exact c3), (show xe_c .ne ((xg 0 h.2.1 36 ((nI i).toNatClampNeg)) &&& (x ^^^ (Int32.ofInt (-1)))) 0 = true by rw [show (xg 0 h.2.1 36 ((nI i).toNatClampNeg)) = (S i) from (by rw [show ((nI i).toNatClampNeg) = i from nI_clamp (by omega)]; exact (hA i (by omega)).1)]; exact c5), (show xe_c .ne (xg 0 h.2.1 38 ((nI i).toNatClampNeg)) 0 = true by rw [show (xg 0 h.2.1 38 ((nI i).toNatClampNeg)) = (P i) from (by rw [show ((nI i).toNatClampNeg) = i from nI_clamp (by omega)]; exact (hA i (by omega)).2.2), xc_ne, c3]; rfl), trivial⟩ (fun hq => ?_)
            rw [show ((bl a) ||| (Int32.ofInt 0)) = bl a from bl_o0]
            rw [show ((bl b) ||| (Int32.ofInt 0)) = bl b from bl_o0]
            rw [show ((nI i) + Int32.ofInt 1) = nI (i + 1) from nI_1 _]
            exact ih (i + 1) a b (by omega)
          | false =>
            refine xq_n 8 [0, 1, 2, 3, 4, 5] [(0, .ref 35), (1, .int x), (2, .int t), (3, .int ((bl a) ||| (Int32.ofInt 1))), (4, .int ((bl b) ||| (Int32.ofInt 0))), (5, .int ((nI i) + Int32.ofInt 1))] [] h [false, false, false, false, true] 42 hq rfl ⟨(show xe_c .ge (nI i) (xg 0 h.2.1 35 3) = false by rw [show (xg 0 h.2.1 35 3) = (nI n) from e3]; exact c1), (show xe_c .gt (xg 0 h.2.1 37 ((nI i).toNatClampNeg)) t = false by rw [show (xg 0 h.2.1 37 ((nI i).toNatClampNeg)) = (D i) from (by rw [show ((nI i).toNatClampNeg) = i from nI_clamp (by omega)]; exact (hA i (by omega)).2.1)]; exact c2), (show xe_c .eq (xg 0 h.2.1 38 ((nI i).toNatClampNeg)) 0 = false by rw [show (xg 0 h.2.1 38 ((nI i).toNatClampNeg)) = (P i) from (by rw [show ((nI i).toNatClampNeg) = i from nI_clamp (by omega)]; exact (hA i (by omega)).2.2)]; exact c3), (show xe_c .ne ((xg 0 h.2.1 36 ((nI i).toNatClampNeg)) &&& (x ^^^ (Int32.ofInt (-1)))) 0 = false by rw [show (xg 0 h.2.1 36 ((nI i).toNatClampNeg)) = (S i) from (by rw [show ((nI i).toNatClampNeg) = i from nI_clamp (by omega)]; exact (hA i (by omega)).1)]; exact c5), (show xe_c .ne (xg 0 h.2.1 38 ((nI i).toNatClampNeg)) 0 = true by rw [show (xg 0 h.2.1 38 ((nI i).toNatClampNeg)) = (P i) from (by rw [show ((nI i).toNatClampNeg) = i from nI_clamp (by omega)]; exact (hA i (by omega)).2.2), xc_ne, c3]; rfl), trivial⟩ (fun hq => ?_)
            rw [show ((bl a) ||| (Int32.ofInt 1)) = bl true from bl_o1]
            rw [show ((bl b) ||| (Int32.ofInt 0)) = bl b from bl_o0]
            rw [show ((nI i) + Int32.ofInt 1) = nI (i + 1) from nI_1 _]
            exact ih (i + 1) true b (by omega)
set_option maxRecDepth 100000 in
set_option maxHeartbeats 4000000 in
theorem jd9_q {f n : Nat} {S D P : Nat → Int32} {x t : Int32} {h : xh_H} (n6 : n ≤ 60) (e3 : xg 0 h.2.1 35 3 = nI n) (hA : ∀ k, k < n → xg 0 h.2.1 36 k = S k ∧ xg 0 h.2.1 37 k = D k ∧ xg 0 h.2.1 38 k = P k) (hq : a_rq a_tb h) : xq f xi_X1_judge xmi_X1_judge 0 [(0, .ref 35), (1, .int x), (2, .int t)] [] h (fun v h' => h = h' ∧ v = some (.int (jg S D P x t n 0 false false))) := by
  refine xq_n 8 [0, 1, 2, 3, 4, 5] [(0, .ref 35), (1, .int x), (2, .int t), (3, .int (Int32.ofInt 0)), (4, .int (Int32.ofInt 0)), (5, .int (Int32.ofInt 0))] [] h [] 8 hq rfl trivial (fun hq => ?_)
  exact jd9_l n6 e3 hA hq n 0 false false (by omega)
set_option maxRecDepth 100000 in
set_option maxHeartbeats 4000000 in
theorem jd10_l {f n : Nat} {S D P : Nat → Int32} {x t : Int32} {h : xh_H} (n6 : n ≤ 60) (e3 : xg 0 h.2.1 39 63 = nI n) (hA : ∀ k, k < n → xg 0 h.2.1 68 k = S k ∧ xg 0 h.2.1 69 k = D k ∧ xg 0 h.2.1 70 k = P k) (hq : a_rq a_tb h) : ∀ (j i : Nat) (a b : Bool), i + j = n → xq f xi_X10_sureOf xmi_X10_sureOf 8 [(0, .ref 39), (1, .int x), (2, .int t), (3, .int (bl a)), (4, .int (bl b)), (5, .int (nI i))] [] h (fun v h' => h = h' ∧ v = some (.int (jg S D P x t j i a b))) := by
  intro j
  induction j with
  | zero =>
    intro i a b ij
    cases c1 : xe_c .ge (nI i) (nI n) with
    | true =>
      have z1 : i ≥ n := nq_get (a := i) (b := n) (by omega) (by omega) c1
      cases b2 : a with
      | true =>
        cases b3 : b with
        | true =>
          refine xq_n 121 [] [] [.int (Int32.ofInt 3)] h [true, false, false] 12 hq rfl ⟨(show xe_c .ge (nI i) (xg 0 h.2.1 39 63) = true by rw [show (xg 0 h.2.1 39 63) = (nI n) from e3]; exact c1), rfl, rfl, trivial⟩ (fun hq => ?_)
          exact xq_ret rfl rfl rfl ⟨rfl, rfl⟩
        | false =>
          refine xq_n 121 [] [] [.int (Int32.ofInt 1)] h [true, false, true] 12 hq rfl ⟨(show xe_c .ge (nI i) (xg 0 h.2.1 39 63) = true by rw [show (xg 0 h.2.1 39 63) = (nI n) from e3]; exact c1), rfl, rfl, trivial⟩ (fun hq => ?_)
          exact xq_ret rfl rfl rfl ⟨rfl, rfl⟩
      | false =>
        cases b4 : b with
        | true =>
          refine xq_n 121 [] [] [.int (Int32.ofInt 0)] h [true, true, false] 12 hq rfl ⟨(show xe_c .ge (nI i) (xg 0 h.2.1 39 63) = true by rw [show (xg 0 h.2.1 39 63) = (nI n) from e3]; exact c1), rfl, rfl, trivial⟩ (fun hq => ?_)
          exact xq_ret rfl rfl rfl ⟨rfl, rfl⟩
        | false =>
          refine xq_n 121 [] [] [.int (Int32.ofInt 2)] h [true, true, true] 11 hq rfl ⟨(show xe_c .ge (nI i) (xg 0 h.2.1 39 63) = true by rw [show (xg 0 h.2.1 39 63) = (nI n) from e3]; exact c1), rfl, rfl, trivial⟩ (fun hq => ?_)
          exact xq_ret rfl rfl rfl ⟨rfl, rfl⟩
    | false =>
      have z1 : i < n := nq_gef (a := i) (b := n) (by omega) (by omega) c1
      omega
  | succ j ih =>
    intro i a b ij
    have hR : jg S D P x t (j + 1) i a b = cond (!xe_c .le (D i) t) (jg S D P x t j (i + 1) a b) (jg S D P x t j (i + 1) ((!xe_c .eq (P i) 0 && !xe_c .ne (x &&& S i) (S i)) || a) ((xe_c .eq (P i) 0 && !xe_c .ne (x &&& S i) x) || b)) := by
      rw [← gt_le, ← sb_1, ← sb_2]
      rfl
    rw [hR]
    cases c1 : xe_c .ge (nI i) (nI n) with
    | true =>
      have z1 : i ≥ n := nq_get (a := i) (b := n) (by omega) (by omega) c1
      omega
    | false =>
      have z1 : i < n := nq_gef (a := i) (b := n) (by omega) (by omega) c1
      cases c2 : xe_c .le (D i) t with
      | true =>
        cases c3 : xe_c .eq (P i) 0 with
        | true =>
          cases c4 : xe_c .ne (x &&& (S i)) x with
          | true =>
            refine xq_n 8 [0, 1, 2, 3, 4, 5] [(0, .ref 39), (1, .int x), (2, .int t), (3, .int (bl a)), (4, .int (bl b)), (5, .int ((nI i) + Int32.ofInt 1))] [] h [false, true, true, false, true] 32 hq rfl ⟨(show xe_c .ge (nI i) (xg 0 h.2.1 39 63) = false by rw [show (xg 0 h.2.1 39 63) = (nI n) from e3]; exact c1), (show xe_c .le (xg 0 h.2.1 69 ((nI i).toNatClampNeg)) t = true by rw [show (xg 0 h.2.1 69 ((nI i).toNatClampNeg)) = (D i) from (by rw [show ((nI i).toNatClampNeg) = i from nI_clamp (by omega)]; exact (hA i (by omega)).2.1)]; exact c2), (show xe_c .eq (xg 0 h.2.1 70 ((nI i).toNatClampNeg)) 0 = true by rw [show (xg 0 h.2.1 70 ((nI i).toNatClampNeg)) = (P i) from (by rw [show ((nI i).toNatClampNeg) = i from nI_clamp (by omega)]; exact (hA i (by omega)).2.2)]; exact c3), (show xe_c .ne (xg 0 h.2.1 70 ((nI i).toNatClampNeg)) 0 = false by rw [show (xg 0 h.2.1 70 ((nI i).toNatClampNeg)) = (P i) from (by rw [show ((nI i).toNatClampNeg) = i from nI_clamp (by omega)]; exact (hA i (by omega)).2.2), xc_ne, c3]; rfl), (show xe_c .ne (x &&& (xg 0 h.2.1 68 ((nI i).toNatClampNeg))) x = true by rw [show (xg 0 h.2.1 68 ((nI i).toNatClampNeg)) = (S i) from (by rw [show ((nI i).toNatClampNeg) = i from nI_clamp (by omega)]; exact (hA i (by omega)).1)]; exact c4), trivial⟩ (fun hq => ?_)
            rw [show ((nI i) + Int32.ofInt 1) = nI (i + 1) from nI_1 _]
            exact ih (i + 1) a b (by omega)
          | false =>
            refine xq_n 8 [0, 1, 2, 3, 4, 5] [(0, .ref 39), (1, .int x), (2, .int t), (3, .int (bl a)), (4, .int (Int32.ofInt 1)), (5, .int ((nI i) + Int32.ofInt 1))] [] h [false, true, true, false, false] 34 hq rfl ⟨(show xe_c .ge (nI i) (xg 0 h.2.1 39 63) = false by rw [show (xg 0 h.2.1 39 63) = (nI n) from e3]; exact c1), (show xe_c .le (xg 0 h.2.1 69 ((nI i).toNatClampNeg)) t = true by rw [show (xg 0 h.2.1 69 ((nI i).toNatClampNeg)) = (D i) from (by rw [show ((nI i).toNatClampNeg) = i from nI_clamp (by omega)]; exact (hA i (by omega)).2.1)]; exact c2), (show xe_c .eq (xg 0 h.2.1 70 ((nI i).toNatClampNeg)) 0 = true by rw [show (xg 0 h.2.1 70 ((nI i).toNatClampNeg)) = (P i) from (by rw [show ((nI i).toNatClampNeg) = i from nI_clamp (by omega)]; exact (hA i (by omega)).2.2)]; exact c3), (show xe_c .ne (xg 0 h.2.1 70 ((nI i).toNatClampNeg)) 0 = false by rw [show (xg 0 h.2.1 70 ((nI i).toNatClampNeg)) = (P i) from (by rw [show ((nI i).toNatClampNeg) = i from nI_clamp (by omega)]; exact (hA i (by omega)).2.2), xc_ne, c3]; rfl), (show xe_c .ne (x &&& (xg 0 h.2.1 68 ((nI i).toNatClampNeg))) x = false by rw [show (xg 0 h.2.1 68 ((nI i).toNatClampNeg)) = (S i) from (by rw [show ((nI i).toNatClampNeg) = i from nI_clamp (by omega)]; exact (hA i (by omega)).1)]; exact c4), trivial⟩ (fun hq => ?_)
            rw [show ((nI i) + Int32.ofInt 1) = nI (i + 1) from nI_1 _]
            exact ih (i + 1) a true (by omega)
        | false =>
          cases c5 : xe_c .ne (x &&& (S i)) (S i) with
          | true =>
            refine xq_n 8 [0, 1, 2, 3, 4, 5] [(0, .ref 39), (1, .int x), (2, .int t), (3, .int (bl a)), (4, .int (bl b)), (5, .int ((nI i) + Int32.ofInt 1))] [] h [false, true, false, true, true] 35 hq rfl ⟨(show xe_c .ge (nI i) (xg 0 h.2.1 39 63) = false by rw [show (xg 0 h.2.1 39 63) = (nI n) from e3]; exact c1), (show xe_c .le (xg 0 h.2.1 69 ((nI i).toNatClampNeg)) t = true by rw [show (xg 0 h.2.1 69 ((nI i).toNatClampNeg)) = (D i) from (by rw [show ((nI i).toNatClampNeg) = i from nI_clamp (by omega)]; exact (hA i (by omega)).2.1)]; exact c2), (show xe_c .eq (xg 0 h.2.1 70 ((nI i).toNatClampNeg)) 0 = false by rw [show (xg 0 h.2.1 70 ((nI i).toNatClampNeg)) = (P i) from (by rw [show ((nI i).toNatClampNeg) = i from nI_clamp (by omega)]; exact (hA i (by omega)).2.2)]; exact c3), (show xe_c .ne (x &&& (xg 0 h.2.1 68 ((nI i).toNatClampNeg))) (xg 0 h.2.1 68 ((nI i).toNatClampNeg)) = true by rw [show (xg 0 h.2.1 68 ((nI i).toNatClampNeg)) = (S i) from (by rw [show ((nI i).toNatClampNeg) = i from nI_clamp (by omega)]; exact (hA i (by omega)).1)]; exact c5), (show xe_c .ne (xg 0 h.2.1 70 ((nI i).toNatClampNeg)) 0 = true by rw [show (xg 0 h.2.1 70 ((nI i).toNatClampNeg)) = (P i) from (by rw [show ((nI i).toNatClampNeg) = i from nI_clamp (by omega)]; exact (hA i (by omega)).2.2), xc_ne, c3]; rfl), trivial⟩ (fun hq => ?_)
            rw [show ((nI i) + Int32.ofInt 1) = nI (i + 1) from nI_1 _]
            exact ih (i + 1) a b (by omega)
          | false =>
            refine xq_n 8 [0, 1, 2, 3, 4, 5] [(0, .ref 39), (1, .int x), (2, .int t), (3, .int (Int32.ofInt 1)), (4, .int (bl b)), (5, .int ((nI i) + Int32.ofInt 1))] [] h [false, true, false, false, true] 37 hq rfl ⟨(show xe_c .ge (nI i) (xg 0 h.2.1 39 63) = false by rw [show (xg 0 h.2.1 39 63) = (nI n) from e3]; exact c1), (show xe_c .le (xg 0 h.2.1 69 ((nI i).toNatClampNeg)) t = true by rw [show (xg 0 h.2.1 69 ((nI i).toNatClampNeg)) = (D i) from (by rw [show ((nI i).toNatClampNeg) = i from nI_clamp (by omega)]; exact (hA i (by omega)).2.1)]; exact c2), (show xe_c .eq (xg 0 h.2.1 70 ((nI i).toNatClampNeg)) 0 = false by rw [show (xg 0 h.2.1 70 ((nI i).toNatClampNeg)) = (P i) from (by rw [show ((nI i).toNatClampNeg) = i from nI_clamp (by omega)]; exact (hA i (by omega)).2.2)]; exact c3), (show xe_c .ne (x &&& (xg 0 h.2.1 68 ((nI i).toNatClampNeg))) (xg 0 h.2.1 68 ((nI i).toNatClampNeg)) = false by rw [show (xg 0 h.2.1 68 ((nI i).toNatClampNeg)) = (S i) from (by rw [show ((nI i).toNatClampNeg) = i from nI_clamp (by omega)]; exact (hA i (by omega)).1)]; exact c5), (show xe_c .ne (xg 0 h.2.1 70 ((nI i).toNatClampNeg)) 0 = true by rw [show (xg 0 h.2.1 70 ((nI i).toNatClampNeg)) = (P i) from (by rw [show ((nI i).toNatClampNeg) = i from nI_clamp (by omega)]; exact (hA i (by omega)).2.2), xc_ne, c3]; rfl), trivial⟩ (fun hq => ?_)
            rw [show ((nI i) + Int32.ofInt 1) = nI (i + 1) from nI_1 _]
            exact ih (i + 1) true b (by omega)
      | false =>
        refine xq_n 8 [0, 1, 2, 3, 4, 5] [(0, .ref 39), (1, .int x), (2, .int t), (3, .int (bl a)), (4, .int (bl b)), (5, .int ((nI i) + Int32.ofInt 1))] [] h [false, false] 15 hq rfl ⟨(show xe_c .ge (nI i) (xg 0 h.2.1 39 63) = false by rw [show (xg 0 h.2.1 39 63) = (nI n) from e3]; exact c1), (show xe_c .le (xg 0 h.2.1 69 ((nI i).toNatClampNeg)) t = false by rw [show (xg 0 h.2.1 69 ((nI i).toNatClampNeg)) = (D i) from (by rw [show ((nI i).toNatClampNeg) = i from nI_clamp (by omega)]; exact (hA i (by omega)).2.1)]; exact c2), trivial⟩ (fun hq => ?_)
        rw [show ((nI i) + Int32.ofInt 1) = nI (i + 1) from nI_1 _]
        exact ih (i + 1) a b (by omega)
set_option maxRecDepth 100000 in
set_option maxHeartbeats 4000000 in
theorem jd10_q {f n : Nat} {S D P : Nat → Int32} {x t : Int32} {h : xh_H} (n6 : n ≤ 60) (e3 : xg 0 h.2.1 39 63 = nI n) (hA : ∀ k, k < n → xg 0 h.2.1 68 k = S k ∧ xg 0 h.2.1 69 k = D k ∧ xg 0 h.2.1 70 k = P k) (hq : a_rq a_tb h) : xq f xi_X10_sureOf xmi_X10_sureOf 0 [(0, .ref 39), (1, .int x), (2, .int t)] [] h (fun v h' => h = h' ∧ v = some (.int (jg S D P x t n 0 false false))) := by
  refine xq_n 8 [0, 1, 2, 3, 4, 5] [(0, .ref 39), (1, .int x), (2, .int t), (3, .int (Int32.ofInt 0)), (4, .int (Int32.ofInt 0)), (5, .int (Int32.ofInt 0))] [] h [] 8 hq rfl trivial (fun hq => ?_)
  exact jd10_l n6 e3 hA hq n 0 false false (by omega)
set_option maxRecDepth 100000 in
set_option maxHeartbeats 4000000 in
theorem su9_q {f n : Nat} {S D P : Nat → Int32} {x t z : Int32} {h : xh_H} (n6 : n ≤ 60) (e3 : xg 0 h.2.1 35 3 = nI n) (hA : ∀ k, k < n → xg 0 h.2.1 36 k = S k ∧ xg 0 h.2.1 37 k = D k ∧ xg 0 h.2.1 38 k = P k) (e9 : xg 0 h.2.1 0 9 = z) (hq : a_rq a_tb h) : xq f xi_X9_sure xmi_X9_sure 0 [(0, .ref 0), (1, .int x), (2, .int t)] [] h (fun v h' => v = some (.int (cond (!xe_c .lt x 0 && !xe_c .ge x (Int32.ofInt 1 <<< (z &&& 31))) (jg S D P x t n 0 false false) (Int32.ofInt (-1))))) := by
  refine xq_n 2 [0, 1, 2] [(0, .ref 0), (1, .int x), (2, .int t)] [.int x, .ref 0] h [] 4 hq rfl trivial (fun hq => ?_)
  refine xq_run hq rfl rfl (set9_q (x := x) (z := z) (e9) hq) ?_
  rintro _ h_ ⟨rfl, rfl⟩
  cases b1 : (!xe_c .lt x 0 && !xe_c .ge x (Int32.ofInt 1 <<< (z &&& 31))) with
  | true =>
    refine xq_n 14 [0, 1, 2] [(0, .ref 0), (1, .int x), (2, .int t)] [.int t, .int x, .ref 35] h [false] 7 hq rfl ⟨rfl, trivial⟩ (fun hq => ?_)
    refine xq_run hq rfl rfl (jd9_q (x := x) (t := t) n6 e3 hA hq) ?_
    rintro _ h_ ⟨rfl, rfl⟩
    refine xq_n 21 [] [] [.int (jg S D P x t n 0 false false)] h [] 3 hq rfl trivial (fun hq => ?_)
    exact xq_ret rfl rfl rfl rfl
  | false =>
    refine xq_n 21 [] [] [.int (Int32.ofInt (-1))] h [true] 4 hq rfl ⟨rfl, trivial⟩ (fun hq => ?_)
    exact xq_ret rfl rfl rfl rfl
set_option maxRecDepth 100000 in
set_option maxHeartbeats 4000000 in
theorem su10_q {f n : Nat} {S D P : Nat → Int32} {x t z : Int32} {h : xh_H} (n6 : n ≤ 60) (e3 : xg 0 h.2.1 39 63 = nI n) (hA : ∀ k, k < n → xg 0 h.2.1 68 k = S k ∧ xg 0 h.2.1 69 k = D k ∧ xg 0 h.2.1 70 k = P k) (e9 : xg 0 h.2.1 39 4 = z) (hq : a_rq a_tb h) : xq f xi_X10_sure xmi_X10_sure 0 [(0, .ref 39), (1, .int x), (2, .int t)] [] h (fun v h' => v = some (.int (cond (!xe_c .lt x 0 && !xe_c .ge x (Int32.ofInt 1 <<< (z &&& 31))) (jg S D P x t n 0 false false) (Int32.ofInt (-1))))) := by
  refine xq_n 7 [0, 1, 2] [(0, .ref 39), (1, .int x), (2, .int t)] [.int x, .ref 39] (xh_ui h 39 0 (Int32.ofInt 0)) [] 7 hq rfl trivial (fun _ => ?_)
  have hq : a_rq a_tb (xh_ui h 39 0 (Int32.ofInt 0)) := a_rq_ui hq
  refine xq_run hq rfl rfl (set10_q (x := x) (z := z) ((gx_k (by decide)).trans e9) hq) ?_
  rintro _ h_ ⟨rfl, rfl⟩
  cases b1 : (!xe_c .lt x 0 && !xe_c .ge x (Int32.ofInt 1 <<< (z &&& 31))) with
  | true =>
    refine xq_n 16 [0, 1, 2] [(0, .ref 39), (1, .int x), (2, .int t)] [.int t, .int x, .ref 39] (xh_ui h 39 0 (Int32.ofInt 0)) [false] 6 hq rfl ⟨rfl, trivial⟩ (fun hq => ?_)
    refine xq_run hq rfl rfl (jd10_q (x := x) (t := t) n6 ((gx_k (by decide)).trans e3) (fun k hk' => ⟨(gx_o (by decide)).trans (hA k hk').1, (gx_o (by decide)).trans (hA k hk').2.1, (gx_o (by decide)).trans (hA k hk').2.2⟩) hq) ?_
    rintro _ h_ ⟨rfl, rfl⟩
    refine xq_n 23 [] [] [.int (jg S D P x t n 0 false false)] (xh_ui h 39 0 (Int32.ofInt 0)) [] 3 hq rfl trivial (fun hq => ?_)
    exact xq_ret rfl rfl rfl rfl
  | false =>
    refine xq_n 23 [] [] [.int (Int32.ofInt (-1))] (xh_ui h 39 0 (Int32.ofInt 0)) [true] 4 hq rfl ⟨rfl, trivial⟩ (fun hq => ?_)
    exact xq_ret rfl rfl rfl rfl
theorem shl_n : ∀ m : Nat, m < 13 → (Int32.ofInt 1 <<< (nI m &&& 31) = nI (2 ^ m) ∧ 2 ^ m ≤ 4096) := by decide
/-- how many sets are open -/
def og (S D P : Nat → Int32) (t : Int32) (n : Nat) : Nat → Nat → Int32 → Int32
  | 0, _, c => c
  | j + 1, i, c => cond (xe_c .ne (jg S D P (nI i) t n 0 false false) (Int32.ofInt 2)) (og S D P t n j (i + 1) c) (og S D P t n j (i + 1) (c + Int32.ofInt 1))
set_option maxRecDepth 100000 in
set_option maxHeartbeats 4000000 in
theorem op9_l {f n m : Nat} {S D P : Nat → Int32} {t : Int32} {h : xh_H} (n6 : n ≤ 60) (m12 : m ≤ 12) (e3 : xg 0 h.2.1 35 3 = nI n) (hA : ∀ k, k < n → xg 0 h.2.1 36 k = S k ∧ xg 0 h.2.1 37 k = D k ∧ xg 0 h.2.1 38 k = P k) (e9 : xg 0 h.2.1 0 9 = nI m) (hq : a_rq a_tb h) : ∀ (j i : Nat) (c : Int32), i + j = 2 ^ m → xq f xi_X9_open xmi_X9_open 4 [(0, .ref 0), (1, .int t), (2, .int c), (3, .int (nI i))] [] h (fun v h' => h = h' ∧ v = some (.int (og S D P t n j i c))) := by
  have m40 := (shl_n m (by omega)).2
  intro j
  induction j with
  | zero =>
    intro i c ij
    cases c1 : xe_c .ge (nI i) (nI (2 ^ m)) with
    | true =>
      have z1 : i ≥ (2 ^ m) := nq_get (a := i) (b := (2 ^ m)) (by omega) (by omega) c1
      refine xq_n 37 [] [] [.int c] h [true] 9 hq rfl ⟨(show xe_c .ge (nI i) ((Int32.ofInt 1) <<< ((xg 0 h.2.1 0 9) &&& 31)) = true by rw [show (xg 0 h.2.1 0 9) = (nI m) from e9, show ((Int32.ofInt 1) <<< ((nI m) &&& 31)) = nI (2 ^ m) from (shl_n m (by omega)).1]; exact c1), trivial⟩ (fun hq => ?_)
      exact xq_ret rfl rfl rfl ⟨rfl, rfl⟩
    | false =>
      have z1 : i < (2 ^ m) := nq_gef (a := i) (b := (2 ^ m)) (by omega) (by omega) c1
      omega
  | succ j ih =>
    intro i c ij
    have hR : og S D P t n (j + 1) i c = cond (xe_c .ne (jg S D P (nI i) t n 0 false false) (Int32.ofInt 2)) (og S D P t n j (i + 1) c) (og S D P t n j (i + 1) (c + Int32.ofInt 1)) := rfl
    rw [hR]
    cases c1 : xe_c .ge (nI i) (nI (2 ^ m)) with
    | true =>
      have z1 : i ≥ (2 ^ m) := nq_get (a := i) (b := (2 ^ m)) (by omega) (by omega) c1
      omega
    | false =>
      have z1 : i < (2 ^ m) := nq_gef (a := i) (b := (2 ^ m)) (by omega) (by omega) c1
      refine xq_n 20 [0, 1, 2, 3] [(0, .ref 0), (1, .int t), (2, .int c), (3, .int (nI i))] [.int t, .int (nI i), .ref 35] h [false] 12 hq rfl ⟨(show xe_c .ge (nI i) ((Int32.ofInt 1) <<< ((xg 0 h.2.1 0 9) &&& 31)) = false by rw [show (xg 0 h.2.1 0 9) = (nI m) from e9, show ((Int32.ofInt 1) <<< ((nI m) &&& 31)) = nI (2 ^ m) from (shl_n m (by omega)).1]; exact c1), trivial⟩ (fun hq => ?_)
      refine xq_run hq rfl rfl (jd9_q (x := nI i) (t := t) n6 e3 hA hq) ?_
      rintro _ h_ ⟨rfl, rfl⟩
      cases c2 : xe_c .ne (jg S D P (nI i) t n 0 false false) (Int32.ofInt 2) with
      | true =>
        refine xq_n 4 [0, 1, 2, 3] [(0, .ref 0), (1, .int t), (2, .int c), (3, .int ((nI i) + Int32.ofInt 1))] [] h [true] 6 hq rfl ⟨c2, trivial⟩ (fun hq => ?_)
        rw [show ((nI i) + Int32.ofInt 1) = nI (i + 1) from nI_1 _]
        exact ih (i + 1) (c) (by omega)
      | false =>
        refine xq_n 4 [0, 1, 2, 3] [(0, .ref 0), (1, .int t), (2, .int (c + Int32.ofInt 1)), (3, .int ((nI i) + Int32.ofInt 1))] [] h [false] 7 hq rfl ⟨c2, trivial⟩ (fun hq => ?_)
        rw [show ((nI i) + Int32.ofInt 1) = nI (i + 1) from nI_1 _]
        exact ih (i + 1) (c + Int32.ofInt 1) (by omega)
set_option maxRecDepth 100000 in
set_option maxHeartbeats 4000000 in
theorem op9_q {f n m : Nat} {S D P : Nat → Int32} {t : Int32} {h : xh_H} (n6 : n ≤ 60) (m12 : m ≤ 12) (e3 : xg 0 h.2.1 35 3 = nI n) (hA : ∀ k, k < n → xg 0 h.2.1 36 k = S k ∧ xg 0 h.2.1 37 k = D k ∧ xg 0 h.2.1 38 k = P k) (e9 : xg 0 h.2.1 0 9 = nI m) (hq : a_rq a_tb h) : xq f xi_X9_open xmi_X9_open 0 [(0, .ref 0), (1, .int t)] [] h (fun v h' => v = some (.int (og S D P t n (2 ^ m) 0 (Int32.ofInt 0)))) := by
  refine xq_n 4 [0, 1, 2, 3] [(0, .ref 0), (1, .int t), (2, .int (Int32.ofInt 0)), (3, .int (Int32.ofInt 0))] [] h [] 6 hq rfl trivial (fun hq => ?_)
  refine xq_mono (op9_l n6 m12 e3 hA e9 hq (2 ^ m) 0 (Int32.ofInt 0) (by omega)) (fun v h' e => e.2)
set_option maxRecDepth 100000 in
set_option maxHeartbeats 4000000 in
theorem op10_l {f n m : Nat} {S D P : Nat → Int32} {t : Int32} {h : xh_H} (n6 : n ≤ 60) (m12 : m ≤ 12) (e3 : xg 0 h.2.1 39 63 = nI n) (hA : ∀ k, k < n → xg 0 h.2.1 68 k = S k ∧ xg 0 h.2.1 69 k = D k ∧ xg 0 h.2.1 70 k = P k) (e9 : xg 0 h.2.1 39 4 = nI m) (hq : a_rq a_tb h) : ∀ (j i : Nat) (c : Int32), i + j = 2 ^ m → xq f xi_X10_open xmi_X10_open 9 [(0, .ref 39), (1, .int t), (2, .int c), (3, .int (nI i))] [] h (fun v h' => h = h' ∧ v = some (.int (og S D P t n j i c))) := by
  have m40 := (shl_n m (by omega)).2
  intro j
  induction j with
  | zero =>
    intro i c ij
    cases c1 : xe_c .ge (nI i) (nI (2 ^ m)) with
    | true =>
      have z1 : i ≥ (2 ^ m) := nq_get (a := i) (b := (2 ^ m)) (by omega) (by omega) c1
      refine xq_n 39 [] [] [.int c] h [true] 9 hq rfl ⟨(show xe_c .ge (nI i) ((Int32.ofInt 1) <<< ((xg 0 h.2.1 39 4) &&& 31)) = true by rw [show (xg 0 h.2.1 39 4) = (nI m) from e9, show ((Int32.ofInt 1) <<< ((nI m) &&& 31)) = nI (2 ^ m) from (shl_n m (by omega)).1]; exact c1), trivial⟩ (fun hq => ?_)
      exact xq_ret rfl rfl rfl ⟨rfl, rfl⟩
    | false =>
      have z1 : i < (2 ^ m) := nq_gef (a := i) (b := (2 ^ m)) (by omega) (by omega) c1
      omega
  | succ j ih =>
    intro i c ij
    have hR : og S D P t n (j + 1) i c = cond (xe_c .ne (jg S D P (nI i) t n 0 false false) (Int32.ofInt 2)) (og S D P t n j (i + 1) c) (og S D P t n j (i + 1) (c + Int32.ofInt 1)) := rfl
    rw [hR]
    cases c1 : xe_c .ge (nI i) (nI (2 ^ m)) with
    | true =>
      have z1 : i ≥ (2 ^ m) := nq_get (a := i) (b := (2 ^ m)) (by omega) (by omega) c1
      omega
    | false =>
      have z1 : i < (2 ^ m) := nq_gef (a := i) (b := (2 ^ m)) (by omega) (by omega) c1
      refine xq_n 22 [0, 1, 2, 3] [(0, .ref 39), (1, .int t), (2, .int c), (3, .int (nI i))] [.int t, .int (nI i), .ref 39] h [false] 11 hq rfl ⟨(show xe_c .ge (nI i) ((Int32.ofInt 1) <<< ((xg 0 h.2.1 39 4) &&& 31)) = false by rw [show (xg 0 h.2.1 39 4) = (nI m) from e9, show ((Int32.ofInt 1) <<< ((nI m) &&& 31)) = nI (2 ^ m) from (shl_n m (by omega)).1]; exact c1), trivial⟩ (fun hq => ?_)
      refine xq_run hq rfl rfl (jd10_q (x := nI i) (t := t) n6 e3 hA hq) ?_
      rintro _ h_ ⟨rfl, rfl⟩
      cases c2 : xe_c .ne (jg S D P (nI i) t n 0 false false) (Int32.ofInt 2) with
      | true =>
        refine xq_n 9 [0, 1, 2, 3] [(0, .ref 39), (1, .int t), (2, .int c), (3, .int ((nI i) + Int32.ofInt 1))] [] h [true] 6 hq rfl ⟨c2, trivial⟩ (fun hq => ?_)
        rw [show ((nI i) + Int32.ofInt 1) = nI (i + 1) from nI_1 _]
        exact ih (i + 1) (c) (by omega)
      | false =>
        refine xq_n 9 [0, 1, 2, 3] [(0, .ref 39), (1, .int t), (2, .int (c + Int32.ofInt 1)), (3, .int ((nI i) + Int32.ofInt 1))] [] h [false] 7 hq rfl ⟨c2, trivial⟩ (fun hq => ?_)
        rw [show ((nI i) + Int32.ofInt 1) = nI (i + 1) from nI_1 _]
        exact ih (i + 1) (c + Int32.ofInt 1) (by omega)
set_option maxRecDepth 100000 in
set_option maxHeartbeats 4000000 in
theorem op10_q {f n m : Nat} {S D P : Nat → Int32} {t : Int32} {h : xh_H} (n6 : n ≤ 60) (m12 : m ≤ 12) (e3 : xg 0 h.2.1 39 63 = nI n) (hA : ∀ k, k < n → xg 0 h.2.1 68 k = S k ∧ xg 0 h.2.1 69 k = D k ∧ xg 0 h.2.1 70 k = P k) (e9 : xg 0 h.2.1 39 4 = nI m) (hq : a_rq a_tb h) : xq f xi_X10_open xmi_X10_open 0 [(0, .ref 39), (1, .int t)] [] h (fun v h' => v = some (.int (og S D P t n (2 ^ m) 0 (Int32.ofInt 0)))) := by
  refine xq_n 9 [0, 1, 2, 3] [(0, .ref 39), (1, .int t), (2, .int (Int32.ofInt 0)), (3, .int (Int32.ofInt 0))] [] (xh_ui h 39 0 (Int32.ofInt 0)) [] 9 hq rfl trivial (fun _ => ?_)
  have hq : a_rq a_tb (xh_ui h 39 0 (Int32.ofInt 0)) := a_rq_ui hq
  refine xq_mono (op10_l n6 m12 ((gx_k (by decide)).trans e3) (fun k hk' => ⟨(gx_o (by decide)).trans (hA k hk').1, (gx_o (by decide)).trans (hA k hk').2.1, (gx_o (by decide)).trans (hA k hk').2.2⟩) ((gx_k (by decide)).trans e9) hq (2 ^ m) 0 (Int32.ofInt 0) (by omega)) (fun v h' e => e.2)
end XJG
end
