section XRN
variable {T : Nat → Nat} {n mem nn : Nat} {NM : Nat → Nat × Nat}
set_option maxRecDepth 100000 in
set_option maxHeartbeats 4000000 in
theorem item_s {f : Nat} (io : sOne T n mem nn NM f) (iq : sQuota T n mem nn NM f) : sItem T n mem nn NM (f + 1) := by
  intro h p o d c0 o6 d12 hq
  have hT : ∀ k, k < n → T k < 256 := fun k hk' => (c0.1.2.2 k hk').1
  have kb := tkk_lt (T := T) (n := n) (p := p) hT
  have n6 := c0.1.2.1
  have s6 := tks_le (T := T) (n := n) (p := p)
  have mm := c0.2.2.2.2.1
  have n16 := c0.2.2.2.2.2.2.2.2.2.1.2.1
  have t9 : tkn T n p ≤ 999 := vf_999
  cases c1 : xe_c .ne (nI (tkk T n p)) (Int32.ofInt 3) with
  | true =>
    have z1 : (tkk T n p) ≠ 3 := nq_net (a := (tkk T n p)) (b := 3) (by omega) (by omega) c1
    refine xq_m 107 [0, 1] [(0, .ref 3), (1, .int (Int32.ofInt 1))] [.ref 3] h [true] 10 hq rfl ⟨(show xe_c .ne (xg 0 h.2.1 8 3) (Int32.ofInt 3) = true by rw [show (xg 0 h.2.1 8 3) = (nI (tkk T n p)) from c0.2.1.1]; exact c1), trivial⟩ (fun hq => ?_)
    refine xq_run hq rfl rfl (io _ _ _ _ c0 (by omega) (by omega) hq) ?_
    rintro v2 h2 ⟨g2, ⟨rfl, pq2, oq2, c2, lt2, le2, G2⟩ | ⟨rfl, kq2, lq2, f2, y2, B2⟩⟩
    · have hq := fx_q g2 hq
      have kb2 := tkk_lt (T := T) (n := n) (p := pq2) hT
      have s62 := tks_le (T := T) (n := n) (p := pq2)
      refine xq_n 117 [0, 1, 2] [(0, .ref 3), (1, .int (Int32.ofInt 1)), (2, .int (Int32.ofInt 1))] [.int (Int32.ofInt 1), .int (Int32.ofInt 5), .ref 4] h2 [] 7 hq rfl trivial (fun hq => ?_)
      refine xq_run hq rfl rfl (add_q hq) ?_
      rintro v3 h3 ⟨rfl, g3⟩
      have hq := fx_q g3 hq
      refine xq_n 121 [] [] [.int (Int32.ofInt 1)] h3 [] 3 hq rfl trivial (fun hq => ?_)
      refine xq_ret rfl rfl rfl ⟨fx_t (fx_t (fx_0) (g2)) (fx_w g3 (fun _ _ => aS_c) (fun _ _ z => z)), Or.inl ⟨rfl, pq2, oq2, ⟨ct_f (S := cS) (L := fN) (c2.1) (fx_w g3 (fun _ _ => aS_c) (fun _ _ z => z)) rfl (fun _ => rfl), tok_f (c2.2.1) g3 (fun _ => rfl), (fx_i g3 rfl).trans (c2.2.2.1), (fx_i g3 rfl).trans (c2.2.2.2.1), c0.2.2.2.2.1, (fx_i g3 rfl).trans (c2.2.2.2.2.2.1), by omega, (fx_i g3 rfl).trans (c2.2.2.2.2.2.2.2.1), by omega, cn_f (S := cS) (L := fN) (c2.2.2.2.2.2.2.2.2.2.1) (fx_w g3 (fun _ _ => aS_c) (fun _ _ z => z)) rfl (fun _ => rfl) (fun _ => rfl), (fx_i g3 rfl).trans (c2.2.2.2.2.2.2.2.2.2.2)⟩, lt2, le2, fun fs hf => ?_⟩⟩
      have es : stp T n mem nn (nmW T NM) (1, p, o, 2 :: fs) = bo T n mem nn (nmW T NM) p o (2 :: fs) := by
        rw [bgI]
        first | rw [if_pos (by omega)] | rw [if_neg (by omega)]
        try rfl
      exact Rc_r es (G2 (2 :: fs) (by rw [List.length_cons, hf]))
    · have hq := fx_q g2 hq
      refine xq_n 117 [0, 1, 2] [(0, .ref 3), (1, .int (Int32.ofInt 1)), (2, .int (Int32.ofInt 0))] [.int (Int32.ofInt 1), .int (Int32.ofInt 5), .ref 4] h2 [] 7 hq rfl trivial (fun hq => ?_)
      refine xq_run hq rfl rfl (add_q hq) ?_
      rintro v4 h4 ⟨rfl, g4⟩
      have hq := fx_q g4 hq
      refine xq_n 121 [] [] [.int (Int32.ofInt 0)] h4 [] 3 hq rfl trivial (fun hq => ?_)
      refine xq_ret rfl rfl rfl ⟨fx_t (fx_t (fx_0) (g2)) (fx_w g4 (fun _ _ => aS_c) (fun _ _ z => z)), Or.inr ⟨rfl, kq2, lq2, (fx_i g4 rfl).trans (f2), (fx_i g4 rfl).trans (y2), fun fs hf => ?_⟩⟩
      have es : stp T n mem nn (nmW T NM) (1, p, o, 2 :: fs) = bo T n mem nn (nmW T NM) p o (2 :: fs) := by
        rw [bgI]
        first | rw [if_pos (by omega)] | rw [if_neg (by omega)]
        try rfl
      exact Fl_r es (B2 (2 :: fs) (by rw [List.length_cons, hf]))
  | false =>
    have z1 : (tkk T n p) = 3 := nq_nef (a := (tkk T n p)) (b := 3) (by omega) (by omega) c1
    refine xq_m 34 [0, 1, 3, 4] [(0, .ref 3), (1, .int (Int32.ofInt 1)), (3, .int (xg 0 h.2.1 8 4)), (4, .int (xg 0 h.2.1 8 6))] [.ref 8] h [false] 19 hq rfl ⟨(show xe_c .ne (xg 0 h.2.1 8 3) (Int32.ofInt 3) = false by rw [show (xg 0 h.2.1 8 3) = (nI (tkk T n p)) from c0.2.1.1]; exact c1), trivial⟩ (fun hq => ?_)
    rw [show (xg 0 h.2.1 8 4) = (nI (tks T n p)) from c0.2.1.2.1]
    rw [show (xg 0 h.2.1 8 6) = (nI (tkn T n p)) from c0.2.1.2.2.2.1 (by omega)]
    have nz5 : tkk T n p ≠ 0 := by omega
    have le5 := tke_le nz5
    refine xq_run hq rfl rfl (adv_q hq hT (c0.1) (c0.2.2.1) ((c0.2.1.2.2.1 (by omega)).1) (by omega)) ?_
    rintro v5 h5 ⟨rfl, g5, t5⟩
    have hq := fx_q g5 hq
    have kb5 := tkk_lt (T := T) (n := n) (p := tke T n p) hT
    have s65 := tks_le (T := T) (n := n) (p := tke T n p)
    cases c6 : xe_c .ne (nI (tkk T n (tke T n p))) 42 with
    | true =>
      have z6 : (tkk T n (tke T n p)) ≠ 42 := nq_net (a := (tkk T n (tke T n p))) (b := 42) (by omega) (by omega) c6
      refine xq_n 73 [0, 1, 3, 4] [(0, .ref 3), (1, .int (Int32.ofInt 1)), (3, .int (nI (tks T n p))), (4, .int (nI (tkn T n p)))] [.float 6, .ref 8] h5 [true] 10 hq rfl ⟨(show xe_c .ne (xg 0 h5.2.1 8 3) 42 = true by rw [show (xg 0 h5.2.1 8 3) = (nI (tkk T n (tke T n p))) from t5.1]; exact c6), trivial⟩ (fun hq => ?_)
      refine xq_run hq rfl rfl (iw4_q (ct_f (S := cS) (L := fN) (c0.1) (fx_w g5 (fun _ _ => sS_c) (fun _ _ z => z)) rfl (fun _ => rfl)) (t5) hq) ?_
      rintro v7 h_v7 ⟨rfl, rfl⟩
      cases b8 : (ky T n (tke T n p) 4) with
      | true =>
        have db8 := of_decide_eq_true b8
        refine xq_n 83 [0, 1, 3, 4] [(0, .ref 3), (1, .int (Int32.ofInt 1)), (3, .int (nI (tks T n p))), (4, .int (nI (tkn T n p)))] [.int (nI (tkn T n p)), .int (nI (tks T n p)), .ref 3] h5 [false] 6 hq rfl ⟨rfl, trivial⟩ (fun hq => ?_)
        refine xq_run hq rfl rfl (iq _ _ _ _ (tks T n p) (tkn T n p) ⟨ct_f (S := cS) (L := fN) (c0.1) (fx_w g5 (fun _ _ => sS_c) (fun _ _ z => z)) rfl (fun _ => rfl), t5, (fx_i g5 rfl).trans (c0.2.2.1), (fx_i g5 rfl).trans (c0.2.2.2.1), c0.2.2.2.2.1, (fx_i g5 rfl).trans (c0.2.2.2.2.2.1), by omega, (fx_i g5 rfl).trans (c0.2.2.2.2.2.2.2.1), by omega, cn_f (S := cS) (L := fN) (c0.2.2.2.2.2.2.2.2.2.1) (fx_w g5 (fun _ _ => sS_c) (fun _ _ z => z)) rfl (fun _ => rfl) (fun _ => rfl), (fx_i g5 rfl).trans (c0.2.2.2.2.2.2.2.2.2.2)⟩ (by omega) (by omega) (by omega) hq) ?_
        rintro v9 h9 ⟨g9, ⟨rfl, pq9, oq9, c9, lt9, le9, G9⟩ | ⟨rfl, kq9, lq9, f9, y9, B9⟩⟩
        · have hq := fx_q g9 hq
          have kb9 := tkk_lt (T := T) (n := n) (p := pq9) hT
          have s69 := tks_le (T := T) (n := n) (p := pq9)
          refine xq_n 117 [0, 1, 2, 3, 4] [(0, .ref 3), (1, .int (Int32.ofInt 1)), (2, .int (Int32.ofInt 1)), (3, .int (nI (tks T n p))), (4, .int (nI (tkn T n p)))] [.int (Int32.ofInt 1), .int (Int32.ofInt 5), .ref 4] h9 [] 9 hq rfl trivial (fun hq => ?_)
          refine xq_run hq rfl rfl (add_q hq) ?_
          rintro v10 h10 ⟨rfl, g10⟩
          have hq := fx_q g10 hq
          refine xq_n 121 [] [] [.int (Int32.ofInt 1)] h10 [] 3 hq rfl trivial (fun hq => ?_)
          refine xq_ret rfl rfl rfl ⟨fx_t (fx_t (fx_t (fx_0) (fx_w g5 (fun _ _ => sS_c) (fun _ _ z => z))) (g9)) (fx_w g10 (fun _ _ => aS_c) (fun _ _ z => z)), Or.inl ⟨rfl, pq9, oq9, ⟨ct_f (S := cS) (L := fN) (c9.1) (fx_w g10 (fun _ _ => aS_c) (fun _ _ z => z)) rfl (fun _ => rfl), tok_f (c9.2.1) g10 (fun _ => rfl), (fx_i g10 rfl).trans (c9.2.2.1), (fx_i g10 rfl).trans (c9.2.2.2.1), c0.2.2.2.2.1, (fx_i g10 rfl).trans (c9.2.2.2.2.2.1), by omega, (fx_i g10 rfl).trans (c9.2.2.2.2.2.2.2.1), by omega, cn_f (S := cS) (L := fN) (c9.2.2.2.2.2.2.2.2.2.1) (fx_w g10 (fun _ _ => aS_c) (fun _ _ z => z)) rfl (fun _ => rfl) (fun _ => rfl), (fx_i g10 rfl).trans (c9.2.2.2.2.2.2.2.2.2.2)⟩, lt9, le9, fun fs hf => ?_⟩⟩
          have es : stp T n mem nn (nmW T NM) (1, p, o, 2 :: fs) = qt T n (tke T n p) o (tks T n p) (tkn T n p) (2 :: fs) := by
            rw [bgI]
            first | rw [if_pos (by omega)] | rw [if_neg (by omega)]
            unfold bi
            unfold qt
            repeat (first | rw [if_pos (show tkk T n (tke T n p) = 42 by omega)] | rw [if_neg (show ¬ tkk T n (tke T n p) = 42 by omega)] | rw [if_neg (show ¬ ky T n (tke T n p) 4 = false by rw [b8]; decide)] | rw [if_pos (show ky T n (tke T n p) 4 = false from b8)])
            try rfl
          exact Rc_r es (G9 (2 :: fs) (by rw [List.length_cons, hf]))
        · have hq := fx_q g9 hq
          refine xq_n 117 [0, 1, 2, 3, 4] [(0, .ref 3), (1, .int (Int32.ofInt 1)), (2, .int (Int32.ofInt 0)), (3, .int (nI (tks T n p))), (4, .int (nI (tkn T n p)))] [.int (Int32.ofInt 1), .int (Int32.ofInt 5), .ref 4] h9 [] 9 hq rfl trivial (fun hq => ?_)
          refine xq_run hq rfl rfl (add_q hq) ?_
          rintro v11 h11 ⟨rfl, g11⟩
          have hq := fx_q g11 hq
          refine xq_n 121 [] [] [.int (Int32.ofInt 0)] h11 [] 3 hq rfl trivial (fun hq => ?_)
          refine xq_ret rfl rfl rfl ⟨fx_t (fx_t (fx_t (fx_0) (fx_w g5 (fun _ _ => sS_c) (fun _ _ z => z))) (g9)) (fx_w g11 (fun _ _ => aS_c) (fun _ _ z => z)), Or.inr ⟨rfl, kq9, lq9, (fx_i g11 rfl).trans (f9), (fx_i g11 rfl).trans (y9), fun fs hf => ?_⟩⟩
          have es : stp T n mem nn (nmW T NM) (1, p, o, 2 :: fs) = qt T n (tke T n p) o (tks T n p) (tkn T n p) (2 :: fs) := by
            rw [bgI]
            first | rw [if_pos (by omega)] | rw [if_neg (by omega)]
            unfold bi
            unfold qt
            repeat (first | rw [if_pos (show tkk T n (tke T n p) = 42 by omega)] | rw [if_neg (show ¬ tkk T n (tke T n p) = 42 by omega)] | rw [if_neg (show ¬ ky T n (tke T n p) 4 = false by rw [b8]; decide)] | rw [if_pos (show ky T n (tke T n p) 4 = false from b8)])
            try rfl
          exact Fl_r es (B9 (2 :: fs) (by rw [List.length_cons, hf]))
      | false =>
        have db8 := of_decide_eq_false b8
        refine xq_n 99 [0, 1, 3, 4] [(0, .ref 3), (1, .int (Int32.ofInt 1)), (3, .int (nI (tks T n p))), (4, .int (nI (tkn T n p)))] [.int (xg 0 h5.2.1 8 4), .int (Int32.ofInt 1), .ref 3] h5 [true] 8 hq rfl ⟨rfl, trivial⟩ (fun hq => ?_)
        rw [show (xg 0 h5.2.1 8 4) = (nI (tks T n (tke T n p))) from t5.2.1]
        refine xq_run hq rfl rfl (fail_q (k := 1) (pl := (tks T n (tke T n p))) hq) ?_
        rintro v12 h12 ⟨rfl, g12, f12, l12⟩
        have hq := fx_q g12 hq
        refine xq_n 117 [0, 1, 2, 3, 4] [(0, .ref 3), (1, .int (Int32.ofInt 1)), (2, .int (Int32.ofInt 0)), (3, .int (nI (tks T n p))), (4, .int (nI (tkn T n p)))] [.int (Int32.ofInt 1), .int (Int32.ofInt 5), .ref 4] h12 [] 8 hq rfl trivial (fun hq => ?_)
        refine xq_run hq rfl rfl (add_q hq) ?_
        rintro v13 h13 ⟨rfl, g13⟩
        have hq := fx_q g13 hq
        refine xq_n 121 [] [] [.int (Int32.ofInt 0)] h13 [] 3 hq rfl trivial (fun hq => ?_)
        refine xq_ret rfl rfl rfl ⟨fx_t (fx_t (fx_t (fx_0) (fx_w g5 (fun _ _ => sS_c) (fun _ _ z => z))) (fx_w g12 (fun _ _ => fS_c) (fun _ _ z => z))) (fx_w g13 (fun _ _ => aS_c) (fun _ _ z => z)), Or.inr ⟨rfl, 1, tks T n (tke T n p), (fx_i g13 rfl).trans (f12), (fx_i g13 rfl).trans (l12), fun fs hf => ?_⟩⟩
        have es : stp T n mem nn (nmW T NM) (1, p, o, 2 :: fs) = .inr (1, tks T n (tke T n p)) := by
          rw [bgI]
          first | rw [if_pos (by omega)] | rw [if_neg (by omega)]
          unfold bi
          repeat (first | rw [if_pos (show tkk T n (tke T n p) = 42 by omega)] | rw [if_neg (show ¬ tkk T n (tke T n p) = 42 by omega)] | rw [if_neg (show ¬ ky T n (tke T n p) 4 = false by rw [b8]; decide)] | rw [if_pos (show ky T n (tke T n p) 4 = false from b8)])
          try rfl
        exact Fl_1 es
    | false =>
      have z6 : (tkk T n (tke T n p)) = 42 := nq_nef (a := (tkk T n (tke T n p))) (b := 42) (by omega) (by omega) c6
      refine xq_n 56 [0, 1, 3, 4] [(0, .ref 3), (1, .int (nI (tkn T n p))), (3, .int (nI (tks T n p))), (4, .int (nI (tkn T n p)))] [.ref 8] h5 [false] 11 hq rfl ⟨(show xe_c .ne (xg 0 h5.2.1 8 3) 42 = false by rw [show (xg 0 h5.2.1 8 3) = (nI (tkk T n (tke T n p))) from t5.1]; exact c6), trivial⟩ (fun hq => ?_)
      have nz14 : tkk T n (tke T n p) ≠ 0 := by omega
      have le14 := tke_le nz14
      refine xq_run hq rfl rfl (adv_q hq hT (ct_f (S := cS) (L := fN) (c0.1) (fx_w g5 (fun _ _ => sS_c) (fun _ _ z => z)) rfl (fun _ => rfl)) ((fx_i g5 rfl).trans (c0.2.2.1)) ((t5.2.2.1 (by omega)).1) (by omega)) ?_
      rintro v14 h14 ⟨rfl, g14, t14⟩
      have hq := fx_q g14 hq
      have kb14 := tkk_lt (T := T) (n := n) (p := tke T n (tke T n p)) hT
      have s614 := tks_le (T := T) (n := n) (p := tke T n (tke T n p))
      refine xq_n 60 [0, 1, 3, 4] [(0, .ref 3), (1, .int (nI (tkn T n p))), (3, .int (nI (tks T n p))), (4, .int (nI (tkn T n p)))] [.ref 3] h14 [] 3 hq rfl trivial (fun hq => ?_)
      refine xq_run hq rfl rfl (io _ _ _ _ ⟨ct_f (S := cS) (L := fN) (ct_f (S := cS) (L := fN) (c0.1) (fx_w g5 (fun _ _ => sS_c) (fun _ _ z => z)) rfl (fun _ => rfl)) (fx_w g14 (fun _ _ => sS_c) (fun _ _ z => z)) rfl (fun _ => rfl), t14, (fx_i g14 rfl).trans ((fx_i g5 rfl).trans (c0.2.2.1)), (fx_i g14 rfl).trans ((fx_i g5 rfl).trans (c0.2.2.2.1)), c0.2.2.2.2.1, (fx_i g14 rfl).trans ((fx_i g5 rfl).trans (c0.2.2.2.2.2.1)), by omega, (fx_i g14 rfl).trans ((fx_i g5 rfl).trans (c0.2.2.2.2.2.2.2.1)), by omega, cn_f (S := cS) (L := fN) (cn_f (S := cS) (L := fN) (c0.2.2.2.2.2.2.2.2.2.1) (fx_w g5 (fun _ _ => sS_c) (fun _ _ z => z)) rfl (fun _ => rfl) (fun _ => rfl)) (fx_w g14 (fun _ _ => sS_c) (fun _ _ z => z)) rfl (fun _ => rfl) (fun _ => rfl), (fx_i g14 rfl).trans ((fx_i g5 rfl).trans (c0.2.2.2.2.2.2.2.2.2.2))⟩ (by omega) (by omega) hq) ?_
      rintro v15 h15 ⟨g15, ⟨rfl, pq15, oq15, c15, lt15, le15, G15⟩ | ⟨rfl, kq15, lq15, f15, y15, B15⟩⟩
      · have hq := fx_q g15 hq
        have kb15 := tkk_lt (T := T) (n := n) (p := pq15) hT
        have s615 := tks_le (T := T) (n := n) (p := pq15)
        refine xq_n 117 [0, 1, 2, 3, 4] [(0, .ref 3), (1, .int (nI (tkn T n p))), (2, .int (Int32.ofInt 1)), (3, .int (nI (tks T n p))), (4, .int (nI (tkn T n p)))] [.int (nI (tkn T n p)), .int (Int32.ofInt 5), .ref 4] h15 [] 9 hq rfl trivial (fun hq => ?_)
        refine xq_run hq rfl rfl (add_q hq) ?_
        rintro v16 h16 ⟨rfl, g16⟩
        have hq := fx_q g16 hq
        refine xq_n 121 [] [] [.int (Int32.ofInt 1)] h16 [] 3 hq rfl trivial (fun hq => ?_)
        refine xq_ret rfl rfl rfl ⟨fx_t (fx_t (fx_t (fx_t (fx_0) (fx_w g5 (fun _ _ => sS_c) (fun _ _ z => z))) (fx_w g14 (fun _ _ => sS_c) (fun _ _ z => z))) (g15)) (fx_w g16 (fun _ _ => aS_c) (fun _ _ z => z)), Or.inl ⟨rfl, pq15, oq15, ⟨ct_f (S := cS) (L := fN) (c15.1) (fx_w g16 (fun _ _ => aS_c) (fun _ _ z => z)) rfl (fun _ => rfl), tok_f (c15.2.1) g16 (fun _ => rfl), (fx_i g16 rfl).trans (c15.2.2.1), (fx_i g16 rfl).trans (c15.2.2.2.1), c0.2.2.2.2.1, (fx_i g16 rfl).trans (c15.2.2.2.2.2.1), by omega, (fx_i g16 rfl).trans (c15.2.2.2.2.2.2.2.1), by omega, cn_f (S := cS) (L := fN) (c15.2.2.2.2.2.2.2.2.2.1) (fx_w g16 (fun _ _ => aS_c) (fun _ _ z => z)) rfl (fun _ => rfl) (fun _ => rfl), (fx_i g16 rfl).trans (c15.2.2.2.2.2.2.2.2.2.2)⟩, lt15, le15, fun fs hf => ?_⟩⟩
        have es : stp T n mem nn (nmW T NM) (1, p, o, 2 :: fs) = bo T n mem nn (nmW T NM) (tke T n (tke T n p)) o (2 :: fs) := by
          rw [bgI]
          first | rw [if_pos (by omega)] | rw [if_neg (by omega)]
          unfold bi
          repeat (first | rw [if_pos (show tkk T n (tke T n p) = 42 by omega)] | rw [if_neg (show ¬ tkk T n (tke T n p) = 42 by omega)])
          try rfl
        exact Rc_r es (G15 (2 :: fs) (by rw [List.length_cons, hf]))
      · have hq := fx_q g15 hq
        refine xq_n 117 [0, 1, 2, 3, 4] [(0, .ref 3), (1, .int (nI (tkn T n p))), (2, .int (Int32.ofInt 0)), (3, .int (nI (tks T n p))), (4, .int (nI (tkn T n p)))] [.int (nI (tkn T n p)), .int (Int32.ofInt 5), .ref 4] h15 [] 9 hq rfl trivial (fun hq => ?_)
        refine xq_run hq rfl rfl (add_q hq) ?_
        rintro v17 h17 ⟨rfl, g17⟩
        have hq := fx_q g17 hq
        refine xq_n 121 [] [] [.int (Int32.ofInt 0)] h17 [] 3 hq rfl trivial (fun hq => ?_)
        refine xq_ret rfl rfl rfl ⟨fx_t (fx_t (fx_t (fx_t (fx_0) (fx_w g5 (fun _ _ => sS_c) (fun _ _ z => z))) (fx_w g14 (fun _ _ => sS_c) (fun _ _ z => z))) (g15)) (fx_w g17 (fun _ _ => aS_c) (fun _ _ z => z)), Or.inr ⟨rfl, kq15, lq15, (fx_i g17 rfl).trans (f15), (fx_i g17 rfl).trans (y15), fun fs hf => ?_⟩⟩
        have es : stp T n mem nn (nmW T NM) (1, p, o, 2 :: fs) = bo T n mem nn (nmW T NM) (tke T n (tke T n p)) o (2 :: fs) := by
          rw [bgI]
          first | rw [if_pos (by omega)] | rw [if_neg (by omega)]
          unfold bi
          repeat (first | rw [if_pos (show tkk T n (tke T n p) = 42 by omega)] | rw [if_neg (show ¬ tkk T n (tke T n p) = 42 by omega)])
          try rfl
        exact Fl_r es (B15 (2 :: fs) (by rw [List.length_cons, hf]))
set_option maxRecDepth 100000 in
set_option maxHeartbeats 4000000 in
theorem all_z {f : Nat} {x : Int32} {h : xh_H} (hq : a_rq a_tb h) : xq f xi_X4_readAll xmi_X4_readAll 7 [(0, .ref 3), (1, .int (Int32.ofInt 0)), (2, .int x)] [] h (fun v h' => h = h' ∧ v = some (.int 0)) := by
  cases c1 : xe_c .gt x 120 with
  | true =>
    refine xq_n 57 [] [] [.int (Int32.ofInt 0)] h [true] 6 hq rfl ⟨c1, trivial⟩ (fun hq => ?_)
    exact xq_ret rfl rfl rfl ⟨rfl, rfl⟩
  | false =>
    refine xq_n 57 [] [] [.int (Int32.ofInt 0)] h [false, true] 8 hq rfl ⟨c1, (by decide), trivial⟩ (fun hq => ?_)
    exact xq_ret rfl rfl rfl ⟨rfl, rfl⟩
set_option maxRecDepth 100000 in
set_option maxHeartbeats 4000000 in
theorem all_lp {f p o d : Nat} {h0 : xh_H} (io : sOne T n mem nn NM f) (o6 : o ≤ 120) (d12 : d ≤ 12) : ∀ g, g ≤ f → ∀ (h : xh_H) (i p1 o1 : Nat), cr h T n mem nn NM p1 o1 d → fx cS fN h0 h → o + 1 + i ≤ o1 → o1 ≤ 120 → (∀ (t : Nat) (fs : List Nat), t ≠ 2 → fs.length = d → Rc T n mem nn (nmW T NM) (1, p, o, t :: fs) (0, p1, o1, t :: fs)) → a_rq a_tb h → xq g xi_X4_readAll xmi_X4_readAll 7 [(0, .ref 3), (1, .int (Int32.ofInt 1)), (2, .int (nI i))] [] h (rO h0 T n mem nn NM o d (fun p' o' => ky T n p' 2 = false ∧ ∀ (t : Nat) (fs : List Nat), t ≠ 2 → fs.length = d → Rc T n mem nn (nmW T NM) (1, p, o, t :: fs) (0, p', o', t :: fs)) (fun e => ∀ (t : Nat) (fs : List Nat), t ≠ 2 → fs.length = d → Fl T n mem nn (nmW T NM) (1, p, o, t :: fs) e)) := by
  intro g
  induction g with
  | zero => intros; exact xq_0
  | succ g ihg =>
    intro hg h i p1 o1 c0 g0 hi ho GG hq
    have hT : ∀ k, k < n → T k < 256 := fun k hk' => (c0.1.2.2 k hk').1
    have kb := tkk_lt (T := T) (n := n) (p := p1) hT
    have n6 := c0.1.2.1
    have s6 := tks_le (T := T) (n := n) (p := p1)
    have mm := c0.2.2.2.2.1
    have n16 := c0.2.2.2.2.2.2.2.2.2.1.2.1
    cases c1 : xe_c .gt (nI i) 120 with
    | true =>
      have z1 : i > 120 := nq_gtt (a := i) (b := 120) (by omega) (by omega) c1
      omega
    | false =>
      have z1 : i ≤ 120 := nq_gtf (a := i) (b := 120) (by omega) (by omega) c1
      refine xq_m 23 [0, 1, 2] [(0, .ref 3), (1, .int (Int32.ofInt 1)), (2, .int (nI i))] [.float 4, .ref 8] h [false, false] 10 hq rfl ⟨c1, (by decide), trivial⟩ (fun hq => ?_)
      refine xq_run hq rfl rfl (iw2_q (c0.1) (c0.2.1) hq) ?_
      rintro v2 h_v2 ⟨rfl, rfl⟩
      cases b3 : (ky T n p1 2) with
      | true =>
        have db3 := of_decide_eq_true b3
        have es : ∀ {t : Nat} {fs : List Nat}, t ≠ 2 → stp T n mem nn (nmW T NM) (0, p1, o1, t :: fs) = .inl (1, tke T n p1, o1, t :: fs) := fun {t fs} ht => by rw [enE]; unfold en; rw [if_neg (show ¬ (t :: fs).head? = some 2 from fun z => ht (Option.some.inj z)), if_pos b3]
        refine xq_n 33 [0, 1, 2] [(0, .ref 3), (1, .int (Int32.ofInt 1)), (2, .int (nI i))] [.ref 8] h [false] 5 hq rfl ⟨rfl, trivial⟩ (fun hq => ?_)
        have nz4 : tkk T n p1 ≠ 0 := by omega
        have le4 := tke_le nz4
        refine xq_run hq rfl rfl (adv_q hq hT (c0.1) (c0.2.2.1) ((c0.2.1.2.2.1 (by omega)).1) (by omega)) ?_
        rintro v4 h4 ⟨rfl, g4, t4⟩
        have hq := fx_q g4 hq
        have kb4 := tkk_lt (T := T) (n := n) (p := tke T n p1) hT
        have s64 := tks_le (T := T) (n := n) (p := tke T n p1)
        refine xq_n 37 [0, 1, 2] [(0, .ref 3), (1, .int (Int32.ofInt 1)), (2, .int (nI i))] [.ref 3] h4 [] 3 hq rfl trivial (fun hq => ?_)
        refine xq_run hq rfl rfl (xq_le (by omega) (io _ _ _ _ ⟨ct_f (S := cS) (L := fN) (c0.1) (fx_w g4 (fun _ _ => sS_c) (fun _ _ z => z)) rfl (fun _ => rfl), t4, (fx_i g4 rfl).trans (c0.2.2.1), (fx_i g4 rfl).trans (c0.2.2.2.1), c0.2.2.2.2.1, (fx_i g4 rfl).trans (c0.2.2.2.2.2.1), by omega, (fx_i g4 rfl).trans (c0.2.2.2.2.2.2.2.1), by omega, cn_f (S := cS) (L := fN) (c0.2.2.2.2.2.2.2.2.2.1) (fx_w g4 (fun _ _ => sS_c) (fun _ _ z => z)) rfl (fun _ => rfl) (fun _ => rfl), (fx_i g4 rfl).trans (c0.2.2.2.2.2.2.2.2.2.2)⟩ (by omega) (by omega) hq)) ?_
        rintro v5 h5 ⟨g5, ⟨rfl, pq5, oq5, c5, lt5, le5, G5⟩ | ⟨rfl, kq5, lq5, f5, y5, B5⟩⟩
        · have hq := fx_q g5 hq
          have kb5 := tkk_lt (T := T) (n := n) (p := pq5) hT
          have s65 := tks_le (T := T) (n := n) (p := pq5)
          refine xq_n 47 [0, 1, 2] [(0, .ref 3), (1, .int (Int32.ofInt 1)), (2, .int (nI i))] [.int (Int32.ofInt 0), .int (Int32.ofInt 2), .ref 4] h5 [] 7 hq rfl trivial (fun hq => ?_)
          refine xq_run hq rfl rfl (add_q hq) ?_
          rintro v6 h6 ⟨rfl, g6⟩
          have hq := fx_q g6 hq
          refine xq_n 7 [0, 1, 2] [(0, .ref 3), (1, .int (Int32.ofInt 1)), (2, .int ((nI i) + Int32.ofInt 1))] [] h6 [] 4 hq rfl trivial (fun hq => ?_)
          rw [show ((nI i) + Int32.ofInt 1) = nI (i + 1) from nI_1 _]
          exact ihg (by omega) _ (i + 1) pq5 oq5 ⟨ct_f (S := cS) (L := fN) (c5.1) (fx_w g6 (fun _ _ => aS_c) (fun _ _ z => z)) rfl (fun _ => rfl), tok_f (c5.2.1) g6 (fun _ => rfl), (fx_i g6 rfl).trans (c5.2.2.1), (fx_i g6 rfl).trans (c5.2.2.2.1), c0.2.2.2.2.1, (fx_i g6 rfl).trans (c5.2.2.2.2.2.1), by omega, (fx_i g6 rfl).trans (c5.2.2.2.2.2.2.2.1), by omega, cn_f (S := cS) (L := fN) (c5.2.2.2.2.2.2.2.2.2.1) (fx_w g6 (fun _ _ => aS_c) (fun _ _ z => z)) rfl (fun _ => rfl) (fun _ => rfl), (fx_i g6 rfl).trans (c5.2.2.2.2.2.2.2.2.2.2)⟩ (fx_t (fx_t (fx_t (g0) (fx_w g4 (fun _ _ => sS_c) (fun _ _ z => z))) (g5)) (fx_w g6 (fun _ _ => aS_c) (fun _ _ z => z))) (by omega) (by omega) (fun t fs ht hf => Rc_t (GG t fs ht hf) (Rc_t (Rc_1 (es ht)) (Rc_r (bgO ht) (G5 (t :: fs) (by rw [List.length_cons, hf]))))) hq
        · have hq := fx_q g5 hq
          refine xq_n 47 [0, 1, 2] [(0, .ref 3), (1, .int (Int32.ofInt 0)), (2, .int (nI i))] [.int (Int32.ofInt 0), .int (Int32.ofInt 2), .ref 4] h5 [] 7 hq rfl trivial (fun hq => ?_)
          refine xq_run hq rfl rfl (add_q hq) ?_
          rintro v7 h7 ⟨rfl, g7⟩
          have hq := fx_q g7 hq
          refine xq_n 7 [0, 1, 2] [(0, .ref 3), (1, .int (Int32.ofInt 0)), (2, .int ((nI i) + Int32.ofInt 1))] [] h7 [] 4 hq rfl trivial (fun hq => ?_)
          rw [show ((nI i) + Int32.ofInt 1) = nI (i + 1) from nI_1 _]
          refine xq_mono (all_z hq) (fun v h' e => ?_)
          obtain ⟨rfl, rfl⟩ := e
          exact ⟨fx_t (fx_t (fx_t (g0) (fx_w g4 (fun _ _ => sS_c) (fun _ _ z => z))) (g5)) (fx_w g7 (fun _ _ => aS_c) (fun _ _ z => z)), Or.inr ⟨rfl, kq5, lq5, (fx_i g7 rfl).trans (f5), (fx_i g7 rfl).trans (y5), fun t fs ht hf => Fl_t (Rc_t (GG t fs ht hf) (Rc_1 (es ht))) (Fl_r (bgO ht) (B5 (t :: fs) (by rw [List.length_cons, hf])))⟩⟩
      | false =>
        have db3 := of_decide_eq_false b3
        refine xq_n 57 [] [] [.int (Int32.ofInt 1)] h [true] 4 hq rfl ⟨rfl, trivial⟩ (fun hq => ?_)
        exact xq_ret rfl rfl rfl ⟨g0, Or.inl ⟨rfl, p1, o1, c0, by omega, by omega, b3, GG⟩⟩
set_option maxRecDepth 100000 in
set_option maxHeartbeats 4000000 in
theorem all_s {f : Nat} (io : sOne T n mem nn NM f) : sAll T n mem nn NM (f + 1) := by
  intro h p o d c0 o6 d12 hq
  have hT : ∀ k, k < n → T k < 256 := fun k hk' => (c0.1.2.2 k hk').1
  have kb := tkk_lt (T := T) (n := n) (p := p) hT
  have n6 := c0.1.2.1
  have s6 := tks_le (T := T) (n := n) (p := p)
  have mm := c0.2.2.2.2.1
  have n16 := c0.2.2.2.2.2.2.2.2.2.1.2.1
  refine xq_m 1 [0] [(0, .ref 3)] [.ref 3] h [] 3 hq rfl trivial (fun hq => ?_)
  refine xq_run hq rfl rfl (io _ _ _ _ c0 (by omega) (by omega) hq) ?_
  rintro v1 h1 ⟨g1, ⟨rfl, pq1, oq1, c1, lt1, le1, G1⟩ | ⟨rfl, kq1, lq1, f1, y1, B1⟩⟩
  · have hq := fx_q g1 hq
    have kb1 := tkk_lt (T := T) (n := n) (p := pq1) hT
    have s61 := tks_le (T := T) (n := n) (p := pq1)
    refine xq_n 7 [0, 1, 2] [(0, .ref 3), (1, .int (Int32.ofInt 1)), (2, .int (Int32.ofInt 0))] [] h1 [] 5 hq rfl trivial (fun hq => ?_)
    exact all_lp io o6 d12 f (Nat.le_refl _) _ 0 pq1 oq1 c1 (fx_t (fx_0) (g1)) (by omega) (by omega) (fun t fs ht hf => Rc_r (bgO ht) (G1 (t :: fs) (by rw [List.length_cons, hf]))) hq
  · have hq := fx_q g1 hq
    refine xq_n 7 [0, 1, 2] [(0, .ref 3), (1, .int (Int32.ofInt 0)), (2, .int (Int32.ofInt 0))] [] h1 [] 5 hq rfl trivial (fun hq => ?_)
    refine xq_mono (all_z hq) (fun v h' e => ?_)
    obtain ⟨rfl, rfl⟩ := e
    exact ⟨fx_t (fx_0) (g1), Or.inr ⟨rfl, kq1, lq1, f1, y1, fun t fs ht hf => Fl_r (bgO ht) (B1 (t :: fs) (by rw [List.length_cons, hf]))⟩⟩
set_option maxRecDepth 100000 in
set_option maxHeartbeats 4000000 in
theorem rul_z {f : Nat} {x : Int32} {h : xh_H} (hq : a_rq a_tb h) : xq f xi_X4_readRule xmi_X4_readRule 7 [(0, .ref 3), (1, .int (Int32.ofInt 0)), (2, .int x)] [] h (fun v h' => h = h' ∧ v = some (.int 0)) := by
  cases c1 : xe_c .gt x 120 with
  | true =>
    refine xq_n 57 [] [] [.int (Int32.ofInt 0)] h [true] 6 hq rfl ⟨c1, trivial⟩ (fun hq => ?_)
    exact xq_ret rfl rfl rfl ⟨rfl, rfl⟩
  | false =>
    refine xq_n 57 [] [] [.int (Int32.ofInt 0)] h [false, true] 8 hq rfl ⟨c1, (by decide), trivial⟩ (fun hq => ?_)
    exact xq_ret rfl rfl rfl ⟨rfl, rfl⟩
set_option maxRecDepth 100000 in
set_option maxHeartbeats 4000000 in
theorem rul_lp {f p o d : Nat} {h0 : xh_H} (ia : sAll T n mem nn NM f) (o6 : o ≤ 120) (d12 : d ≤ 12) : ∀ g, g ≤ f → ∀ (h : xh_H) (i p1 o1 : Nat), cr h T n mem nn NM p1 o1 d → fx cS fN h0 h → o + 1 + i ≤ o1 → o1 ≤ 120 → ky T n p1 2 = false → (∀ (t : Nat) (fs : List Nat), t ≠ 2 → fs.length = d → Rc T n mem nn (nmW T NM) (1, p, o, t :: fs) (0, p1, o1, t :: fs)) → a_rq a_tb h → xq g xi_X4_readRule xmi_X4_readRule 7 [(0, .ref 3), (1, .int (Int32.ofInt 1)), (2, .int (nI i))] [] h (rO h0 T n mem nn NM o d (fun p' o' => ky T n p' 2 = false ∧ ky T n p' 3 = false ∧ ∀ (t : Nat) (fs : List Nat), t ≠ 2 → fs.length = d → Rc T n mem nn (nmW T NM) (1, p, o, t :: fs) (0, p', o', t :: fs)) (fun e => ∀ (t : Nat) (fs : List Nat), t ≠ 2 → fs.length = d → Fl T n mem nn (nmW T NM) (1, p, o, t :: fs) e)) := by
  intro g
  induction g with
  | zero => intros; exact xq_0
  | succ g ihg =>
    intro hg h i p1 o1 c0 g0 hi ho k2 GG hq
    have hT : ∀ k, k < n → T k < 256 := fun k hk' => (c0.1.2.2 k hk').1
    have kb := tkk_lt (T := T) (n := n) (p := p1) hT
    have n6 := c0.1.2.1
    have s6 := tks_le (T := T) (n := n) (p := p1)
    have mm := c0.2.2.2.2.1
    have n16 := c0.2.2.2.2.2.2.2.2.2.1.2.1
    cases c1 : xe_c .gt (nI i) 120 with
    | true =>
      have z1 : i > 120 := nq_gtt (a := i) (b := 120) (by omega) (by omega) c1
      omega
    | false =>
      have z1 : i ≤ 120 := nq_gtf (a := i) (b := 120) (by omega) (by omega) c1
      refine xq_m 23 [0, 1, 2] [(0, .ref 3), (1, .int (Int32.ofInt 1)), (2, .int (nI i))] [.float 5, .ref 8] h [false, false] 10 hq rfl ⟨c1, (by decide), trivial⟩ (fun hq => ?_)
      refine xq_run hq rfl rfl (iw3_q (c0.1) (c0.2.1) hq) ?_
      rintro v2 h_v2 ⟨rfl, rfl⟩
      cases b3 : (ky T n p1 3) with
      | true =>
        have db3 := of_decide_eq_true b3
        have es : ∀ {t : Nat} {fs : List Nat}, t ≠ 2 → stp T n mem nn (nmW T NM) (0, p1, o1, t :: fs) = .inl (1, tke T n p1, o1, t :: fs) := fun {t fs} ht => by rw [enE]; unfold en; rw [if_neg (show ¬ (t :: fs).head? = some 2 from fun z => ht (Option.some.inj z)), if_neg (by rw [k2]; decide), if_pos b3]
        refine xq_n 33 [0, 1, 2] [(0, .ref 3), (1, .int (Int32.ofInt 1)), (2, .int (nI i))] [.ref 8] h [false] 5 hq rfl ⟨rfl, trivial⟩ (fun hq => ?_)
        have nz4 : tkk T n p1 ≠ 0 := by omega
        have le4 := tke_le nz4
        refine xq_run hq rfl rfl (adv_q hq hT (c0.1) (c0.2.2.1) ((c0.2.1.2.2.1 (by omega)).1) (by omega)) ?_
        rintro v4 h4 ⟨rfl, g4, t4⟩
        have hq := fx_q g4 hq
        have kb4 := tkk_lt (T := T) (n := n) (p := tke T n p1) hT
        have s64 := tks_le (T := T) (n := n) (p := tke T n p1)
        refine xq_n 37 [0, 1, 2] [(0, .ref 3), (1, .int (Int32.ofInt 1)), (2, .int (nI i))] [.ref 3] h4 [] 3 hq rfl trivial (fun hq => ?_)
        refine xq_run hq rfl rfl (xq_le (by omega) (ia _ _ _ _ ⟨ct_f (S := cS) (L := fN) (c0.1) (fx_w g4 (fun _ _ => sS_c) (fun _ _ z => z)) rfl (fun _ => rfl), t4, (fx_i g4 rfl).trans (c0.2.2.1), (fx_i g4 rfl).trans (c0.2.2.2.1), c0.2.2.2.2.1, (fx_i g4 rfl).trans (c0.2.2.2.2.2.1), by omega, (fx_i g4 rfl).trans (c0.2.2.2.2.2.2.2.1), by omega, cn_f (S := cS) (L := fN) (c0.2.2.2.2.2.2.2.2.2.1) (fx_w g4 (fun _ _ => sS_c) (fun _ _ z => z)) rfl (fun _ => rfl) (fun _ => rfl), (fx_i g4 rfl).trans (c0.2.2.2.2.2.2.2.2.2.2)⟩ (by omega) (by omega) hq)) ?_
        rintro v5 h5 ⟨g5, ⟨rfl, pq5, oq5, c5, lt5, le5, G5⟩ | ⟨rfl, kq5, lq5, f5, y5, B5⟩⟩
        · have hq := fx_q g5 hq
          have kb5 := tkk_lt (T := T) (n := n) (p := pq5) hT
          have s65 := tks_le (T := T) (n := n) (p := pq5)
          refine xq_n 47 [0, 1, 2] [(0, .ref 3), (1, .int (Int32.ofInt 1)), (2, .int (nI i))] [.int (Int32.ofInt 0), .int (Int32.ofInt 3), .ref 4] h5 [] 7 hq rfl trivial (fun hq => ?_)
          refine xq_run hq rfl rfl (add_q hq) ?_
          rintro v6 h6 ⟨rfl, g6⟩
          have hq := fx_q g6 hq
          refine xq_n 7 [0, 1, 2] [(0, .ref 3), (1, .int (Int32.ofInt 1)), (2, .int ((nI i) + Int32.ofInt 1))] [] h6 [] 4 hq rfl trivial (fun hq => ?_)
          rw [show ((nI i) + Int32.ofInt 1) = nI (i + 1) from nI_1 _]
          exact ihg (by omega) _ (i + 1) pq5 oq5 ⟨ct_f (S := cS) (L := fN) (c5.1) (fx_w g6 (fun _ _ => aS_c) (fun _ _ z => z)) rfl (fun _ => rfl), tok_f (c5.2.1) g6 (fun _ => rfl), (fx_i g6 rfl).trans (c5.2.2.1), (fx_i g6 rfl).trans (c5.2.2.2.1), c0.2.2.2.2.1, (fx_i g6 rfl).trans (c5.2.2.2.2.2.1), by omega, (fx_i g6 rfl).trans (c5.2.2.2.2.2.2.2.1), by omega, cn_f (S := cS) (L := fN) (c5.2.2.2.2.2.2.2.2.2.1) (fx_w g6 (fun _ _ => aS_c) (fun _ _ z => z)) rfl (fun _ => rfl) (fun _ => rfl), (fx_i g6 rfl).trans (c5.2.2.2.2.2.2.2.2.2.2)⟩ (fx_t (fx_t (fx_t (g0) (fx_w g4 (fun _ _ => sS_c) (fun _ _ z => z))) (g5)) (fx_w g6 (fun _ _ => aS_c) (fun _ _ z => z))) (by omega) (by omega) G5.1 (fun t fs ht hf => Rc_t (GG t fs ht hf) (Rc_t (Rc_1 (es ht)) (G5.2 t fs ht hf))) hq
        · have hq := fx_q g5 hq
          refine xq_n 47 [0, 1, 2] [(0, .ref 3), (1, .int (Int32.ofInt 0)), (2, .int (nI i))] [.int (Int32.ofInt 0), .int (Int32.ofInt 3), .ref 4] h5 [] 7 hq rfl trivial (fun hq => ?_)
          refine xq_run hq rfl rfl (add_q hq) ?_
          rintro v7 h7 ⟨rfl, g7⟩
          have hq := fx_q g7 hq
          refine xq_n 7 [0, 1, 2] [(0, .ref 3), (1, .int (Int32.ofInt 0)), (2, .int ((nI i) + Int32.ofInt 1))] [] h7 [] 4 hq rfl trivial (fun hq => ?_)
          rw [show ((nI i) + Int32.ofInt 1) = nI (i + 1) from nI_1 _]
          refine xq_mono (rul_z hq) (fun v h' e => ?_)
          obtain ⟨rfl, rfl⟩ := e
          exact ⟨fx_t (fx_t (fx_t (g0) (fx_w g4 (fun _ _ => sS_c) (fun _ _ z => z))) (g5)) (fx_w g7 (fun _ _ => aS_c) (fun _ _ z => z)), Or.inr ⟨rfl, kq5, lq5, (fx_i g7 rfl).trans (f5), (fx_i g7 rfl).trans (y5), fun t fs ht hf => Fl_t (Rc_t (GG t fs ht hf) (Rc_1 (es ht))) (B5 t fs ht hf)⟩⟩
      | false =>
        have db3 := of_decide_eq_false b3
        refine xq_n 57 [] [] [.int (Int32.ofInt 1)] h [true] 4 hq rfl ⟨rfl, trivial⟩ (fun hq => ?_)
        exact xq_ret rfl rfl rfl ⟨g0, Or.inl ⟨rfl, p1, o1, c0, by omega, by omega, k2, b3, GG⟩⟩
set_option maxRecDepth 100000 in
set_option maxHeartbeats 4000000 in
theorem rul_s {f : Nat} (ia : sAll T n mem nn NM f) : sRule T n mem nn NM (f + 1) := by
  intro h p o d c0 o6 d12 hq
  have hT : ∀ k, k < n → T k < 256 := fun k hk' => (c0.1.2.2 k hk').1
  have kb := tkk_lt (T := T) (n := n) (p := p) hT
  have n6 := c0.1.2.1
  have s6 := tks_le (T := T) (n := n) (p := p)
  have mm := c0.2.2.2.2.1
  have n16 := c0.2.2.2.2.2.2.2.2.2.1.2.1
  refine xq_m 1 [0] [(0, .ref 3)] [.ref 3] h [] 3 hq rfl trivial (fun hq => ?_)
  refine xq_run hq rfl rfl (ia _ _ _ _ c0 (by omega) (by omega) hq) ?_
  rintro v1 h1 ⟨g1, ⟨rfl, pq1, oq1, c1, lt1, le1, G1⟩ | ⟨rfl, kq1, lq1, f1, y1, B1⟩⟩
  · have hq := fx_q g1 hq
    have kb1 := tkk_lt (T := T) (n := n) (p := pq1) hT
    have s61 := tks_le (T := T) (n := n) (p := pq1)
    refine xq_n 7 [0, 1, 2] [(0, .ref 3), (1, .int (Int32.ofInt 1)), (2, .int (Int32.ofInt 0))] [] h1 [] 5 hq rfl trivial (fun hq => ?_)
    exact rul_lp ia o6 d12 f (Nat.le_refl _) _ 0 pq1 oq1 c1 (fx_t (fx_0) (g1)) (by omega) (by omega) G1.1 (fun t fs ht hf => G1.2 t fs ht hf) hq
  · have hq := fx_q g1 hq
    refine xq_n 7 [0, 1, 2] [(0, .ref 3), (1, .int (Int32.ofInt 0)), (2, .int (Int32.ofInt 0))] [] h1 [] 5 hq rfl trivial (fun hq => ?_)
    refine xq_mono (rul_z hq) (fun v h' e => ?_)
    obtain ⟨rfl, rfl⟩ := e
    exact ⟨fx_t (fx_0) (g1), Or.inr ⟨rfl, kq1, lq1, f1, y1, fun t fs ht hf => B1 t fs ht hf⟩⟩
end XRN
