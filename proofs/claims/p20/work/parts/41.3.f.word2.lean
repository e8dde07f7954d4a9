section XWE
set_option maxRecDepth 100000 in
set_option maxHeartbeats 4000000 in
theorem iw0_q {f n p : Nat} {T : Nat → Nat} {h : xh_H} (hc : ct h T n) (tk : tok h T n p) (hq : a_rq a_tb h) : xq f xi_X6_isWord xmi_X6_isWord 0 [(0, .ref 8), (1, .float 2)] [] h (fun v h' => h = h' ∧ v = some (.int (bl (ky T n p 0)))) := by
  have n6 := hc.2.1
  have hT : ∀ k, k < n → T k < 256 := fun k hk' => (hc.2.2 k hk').1
  have k256 := tkk_lt (p := p) hT
  have sle := tks_le (T := T) (n := n) (p := p)
  cases c1 : xe_c .ne (nI (tkk T n p)) (Int32.ofInt 2) with
  | true =>
    have z1 : (tkk T n p) ≠ 2 := nq_net (a := (tkk T n p)) (b := 2) (by omega) (by omega) c1
    refine xq_n 25 [] [] [.int (Int32.ofInt 0)] h [true] 7 hq rfl ⟨(show xe_c .ne (xg 0 h.2.1 8 3) (Int32.ofInt 2) = true by rw [show (xg 0 h.2.1 8 3) = (nI (tkk T n p)) from tk.1]; exact c1), trivial⟩ (fun hq => ?_)
    refine xq_ret rfl rfl rfl ⟨rfl, ?_⟩
    rw [show ky T n p 0 = false from decide_eq_false (fun y => z1 y.1)]; rfl
  | false =>
    have z1 : (tkk T n p) = 2 := nq_nef (a := (tkk T n p)) (b := 2) (by omega) (by omega) c1
    have gt := tke_gt (T := T) (n := n) (p := p) (by omega)
    cases c2 : xe_c .eq (nI ((tke T n p) - (tks T n p))) 4 with
    | true =>
      have z2 : ((tke T n p) - (tks T n p)) = 4 := nq_eqt (a := ((tke T n p) - (tks T n p))) (b := 4) (by omega) (by omega) c2
      refine xq_n 46 [0, 1, 2] [(0, .ref 8), (1, .float 2), (2, .int (Int32.ofInt 0))] [.int ((xg 0 h.2.1 8 4) + (Int32.ofInt 0)), .ref 1] h [false, true, false] 26 hq rfl ⟨(show xe_c .ne (xg 0 h.2.1 8 3) (Int32.ofInt 2) = false by rw [show (xg 0 h.2.1 8 3) = (nI (tkk T n p)) from tk.1]; exact c1), (show xe_c .eq ((xg 0 h.2.1 8 5) - (xg 0 h.2.1 8 4)) 4 = true by rw [show (xg 0 h.2.1 8 5) = (nI (tke T n p)) from (tk.2.2.1 (by omega)).2, show (xg 0 h.2.1 8 4) = (nI (tks T n p)) from tk.2.1, show ((nI (tke T n p)) - (nI (tks T n p))) = nI ((tke T n p) - (tks T n p)) from nI_sub (by omega)]; exact c2), (by decide), trivial⟩ (fun hq => ?_)
      rw [show (xg 0 h.2.1 8 4) = (nI (tks T n p)) from tk.2.1]
      rw [show ((nI (tks T n p)) + (Int32.ofInt 0)) = nI ((tks T n p) + 0) from nI_add _ 0]
      refine xq_run hq rfl rfl (at_q hc (p := ((tks T n p) + 0)) (by omega) hq) ?_
      rintro v3 h_v3 ⟨rfl, rfl⟩
      have tv3 := hT ((tks T n p) + 0) (by omega)
      cases c4 : xe_c .eq (nI (T ((tks T n p) + 0))) 98 with
      | true =>
        have z4 : (T ((tks T n p) + 0)) = 98 := nq_eqt (a := (T ((tks T n p) + 0))) (b := 98) (by omega) (by omega) c4
        refine xq_n 46 [0, 1, 2] [(0, .ref 8), (1, .float 2), (2, .int ((Int32.ofInt 0) + Int32.ofInt 1))] [.int ((xg 0 h.2.1 8 4) + ((Int32.ofInt 0) + Int32.ofInt 1)), .ref 1] h [true, false] 18 hq rfl ⟨(show xe_c .eq (nI (T ((tks T n p) + 0))) (js_ch 0 (Int32.ofInt 0).toNatClampNeg) = true by rw [show (js_ch 0 (Int32.ofInt 0).toNatClampNeg) = 98 from rfl]; exact c4), (show xe_c .ge ((Int32.ofInt 0) + Int32.ofInt 1) 4 = false by rw [show ((Int32.ofInt 0) + Int32.ofInt 1) = Int32.ofInt 1 from rfl]; rfl), trivial⟩ (fun hq => ?_)
        rw [show (xg 0 h.2.1 8 4) = (nI (tks T n p)) from tk.2.1]
        rw [show ((Int32.ofInt 0) + Int32.ofInt 1) = Int32.ofInt 1 from rfl]
        rw [show ((nI (tks T n p)) + (Int32.ofInt 1)) = nI ((tks T n p) + 1) from nI_add _ 1]
        refine xq_run hq rfl rfl (at_q hc (p := ((tks T n p) + 1)) (by omega) hq) ?_
        rintro v5 h_v5 ⟨rfl, rfl⟩
        have tv5 := hT ((tks T n p) + 1) (by omega)
        cases c6 : xe_c .eq (nI (T ((tks T n p) + 1))) 111 with
        | true =>
          have z6 : (T ((tks T n p) + 1)) = 111 := nq_eqt (a := (T ((tks T n p) + 1))) (b := 111) (by omega) (by omega) c6
          refine xq_n 46 [0, 1, 2] [(0, .ref 8), (1, .float 2), (2, .int ((Int32.ofInt 1) + Int32.ofInt 1))] [.int ((xg 0 h.2.1 8 4) + ((Int32.ofInt 1) + Int32.ofInt 1)), .ref 1] h [true, false] 18 hq rfl ⟨(show xe_c .eq (nI (T ((tks T n p) + 1))) (js_ch 0 (Int32.ofInt 1).toNatClampNeg) = true by rw [show (js_ch 0 (Int32.ofInt 1).toNatClampNeg) = 111 from rfl]; exact c6), (show xe_c .ge ((Int32.ofInt 1) + Int32.ofInt 1) 4 = false by rw [show ((Int32.ofInt 1) + Int32.ofInt 1) = Int32.ofInt 2 from rfl]; rfl), trivial⟩ (fun hq => ?_)
          rw [show (xg 0 h.2.1 8 4) = (nI (tks T n p)) from tk.2.1]
          rw [show ((Int32.ofInt 1) + Int32.ofInt 1) = Int32.ofInt 2 from rfl]
          rw [show ((nI (tks T n p)) + (Int32.ofInt 2)) = nI ((tks T n p) + 2) from nI_add _ 2]
          refine xq_run hq rfl rfl (at_q hc (p := ((tks T n p) + 2)) (by omega) hq) ?_
          rintro v7 h_v7 ⟨rfl, rfl⟩
          have tv7 := hT ((tks T n p) + 2) (by omega)
          cases c8 : xe_c .eq (nI (T ((tks T n p) + 2))) 100 with
          | true =>
            have z8 : (T ((tks T n p) + 2)) = 100 := nq_eqt (a := (T ((tks T n p) + 2))) (b := 100) (by omega) (by omega) c8
            refine xq_n 46 [0, 1, 2] [(0, .ref 8), (1, .float 2), (2, .int ((Int32.ofInt 2) + Int32.ofInt 1))] [.int ((xg 0 h.2.1 8 4) + ((Int32.ofInt 2) + Int32.ofInt 1)), .ref 1] h [true, false] 18 hq rfl ⟨(show xe_c .eq (nI (T ((tks T n p) + 2))) (js_ch 0 (Int32.ofInt 2).toNatClampNeg) = true by rw [show (js_ch 0 (Int32.ofInt 2).toNatClampNeg) = 100 from rfl]; exact c8), (show xe_c .ge ((Int32.ofInt 2) + Int32.ofInt 1) 4 = false by rw [show ((Int32.ofInt 2) + Int32.ofInt 1) = Int32.ofInt 3 from rfl]; rfl), trivial⟩ (fun hq => ?_)
            rw [show (xg 0 h.2.1 8 4) = (nI (tks T n p)) from tk.2.1]
            rw [show ((Int32.ofInt 2) + Int32.ofInt 1) = Int32.ofInt 3 from rfl]
            rw [show ((nI (tks T n p)) + (Int32.ofInt 3)) = nI ((tks T n p) + 3) from nI_add _ 3]
            refine xq_run hq rfl rfl (at_q hc (p := ((tks T n p) + 3)) (by omega) hq) ?_
            rintro v9 h_v9 ⟨rfl, rfl⟩
            have tv9 := hT ((tks T n p) + 3) (by omega)
            cases c10 : xe_c .eq (nI (T ((tks T n p) + 3))) 121 with
            | true =>
              have z10 : (T ((tks T n p) + 3)) = 121 := nq_eqt (a := (T ((tks T n p) + 3))) (b := 121) (by omega) (by omega) c10
              refine xq_n 66 [] [] [.int (Int32.ofInt 1)] h [true, true] 13 hq rfl ⟨(show xe_c .eq (nI (T ((tks T n p) + 3))) (js_ch 0 (Int32.ofInt 3).toNatClampNeg) = true by rw [show (js_ch 0 (Int32.ofInt 3).toNatClampNeg) = 121 from rfl]; exact c10), (show xe_c .ge ((Int32.ofInt 3) + Int32.ofInt 1) 4 = true by rw [show ((Int32.ofInt 3) + Int32.ofInt 1) = Int32.ofInt 4 from rfl]; rfl), trivial⟩ (fun hq => ?_)
              refine xq_ret rfl rfl rfl ⟨rfl, ?_⟩
              rw [show ky T n p 0 = true from decide_eq_true ⟨z1, (wd_iff (by decide) z1).mpr ⟨by rw [show sN 0 = 4 from rfl]; omega, fun k hk' => ?_⟩⟩]
              · rfl
              · have hk' : k < 4 := hk'
                match k, hk' with
                | 0, _ => exact z4
                | 1, _ => exact z6
                | 2, _ => exact z8
                | 3, _ => exact z10
            | false =>
              have z10 : (T ((tks T n p) + 3)) ≠ 121 := nq_eqf (a := (T ((tks T n p) + 3))) (b := 121) (by omega) (by omega) c10
              refine xq_n 58 [] [] [.int (Int32.ofInt 0)] h [false] 7 hq rfl ⟨(show xe_c .eq (nI (T ((tks T n p) + 3))) (js_ch 0 (Int32.ofInt 3).toNatClampNeg) = false by rw [show (js_ch 0 (Int32.ofInt 3).toNatClampNeg) = 121 from rfl]; exact c10), trivial⟩ (fun hq => ?_)
              refine xq_ret rfl rfl rfl ⟨rfl, ?_⟩
              rw [show ky T n p 0 = false from decide_eq_false (fun y => z10 (((wd_iff (by decide) z1).mp y.2).2 3 (by decide)))]; rfl
          | false =>
            have z8 : (T ((tks T n p) + 2)) ≠ 100 := nq_eqf (a := (T ((tks T n p) + 2))) (b := 100) (by omega) (by omega) c8
            refine xq_n 58 [] [] [.int (Int32.ofInt 0)] h [false] 7 hq rfl ⟨(show xe_c .eq (nI (T ((tks T n p) + 2))) (js_ch 0 (Int32.ofInt 2).toNatClampNeg) = false by rw [show (js_ch 0 (Int32.ofInt 2).toNatClampNeg) = 100 from rfl]; exact c8), trivial⟩ (fun hq => ?_)
            refine xq_ret rfl rfl rfl ⟨rfl, ?_⟩
            rw [show ky T n p 0 = false from decide_eq_false (fun y => z8 (((wd_iff (by decide) z1).mp y.2).2 2 (by decide)))]; rfl
        | false =>
          have z6 : (T ((tks T n p) + 1)) ≠ 111 := nq_eqf (a := (T ((tks T n p) + 1))) (b := 111) (by omega) (by omega) c6
          refine xq_n 58 [] [] [.int (Int32.ofInt 0)] h [false] 7 hq rfl ⟨(show xe_c .eq (nI (T ((tks T n p) + 1))) (js_ch 0 (Int32.ofInt 1).toNatClampNeg) = false by rw [show (js_ch 0 (Int32.ofInt 1).toNatClampNeg) = 111 from rfl]; exact c6), trivial⟩ (fun hq => ?_)
          refine xq_ret rfl rfl rfl ⟨rfl, ?_⟩
          rw [show ky T n p 0 = false from decide_eq_false (fun y => z6 (((wd_iff (by decide) z1).mp y.2).2 1 (by decide)))]; rfl
      | false =>
        have z4 : (T ((tks T n p) + 0)) ≠ 98 := nq_eqf (a := (T ((tks T n p) + 0))) (b := 98) (by omega) (by omega) c4
        refine xq_n 58 [] [] [.int (Int32.ofInt 0)] h [false] 7 hq rfl ⟨(show xe_c .eq (nI (T ((tks T n p) + 0))) (js_ch 0 (Int32.ofInt 0).toNatClampNeg) = false by rw [show (js_ch 0 (Int32.ofInt 0).toNatClampNeg) = 98 from rfl]; exact c4), trivial⟩ (fun hq => ?_)
        refine xq_ret rfl rfl rfl ⟨rfl, ?_⟩
        rw [show ky T n p 0 = false from decide_eq_false (fun y => z4 (((wd_iff (by decide) z1).mp y.2).2 0 (by decide)))]; rfl
    | false =>
      have z2 : ((tke T n p) - (tks T n p)) ≠ 4 := nq_eqf (a := ((tke T n p) - (tks T n p))) (b := 4) (by omega) (by omega) c2
      refine xq_n 25 [] [] [.int (Int32.ofInt 0)] h [false, false] 15 hq rfl ⟨(show xe_c .ne (xg 0 h.2.1 8 3) (Int32.ofInt 2) = false by rw [show (xg 0 h.2.1 8 3) = (nI (tkk T n p)) from tk.1]; exact c1), (show xe_c .eq ((xg 0 h.2.1 8 5) - (xg 0 h.2.1 8 4)) 4 = false by rw [show (xg 0 h.2.1 8 5) = (nI (tke T n p)) from (tk.2.2.1 (by omega)).2, show (xg 0 h.2.1 8 4) = (nI (tks T n p)) from tk.2.1, show ((nI (tke T n p)) - (nI (tks T n p))) = nI ((tke T n p) - (tks T n p)) from nI_sub (by omega)]; exact c2), trivial⟩ (fun hq => ?_)
      refine xq_ret rfl rfl rfl ⟨rfl, ?_⟩
      rw [show ky T n p 0 = false from decide_eq_false (fun y => z2 ((wd_iff (by decide) z1).mp y.2).1)]; rfl
set_option maxRecDepth 100000 in
set_option maxHeartbeats 4000000 in
theorem iw1_q {f n p : Nat} {T : Nat → Nat} {h : xh_H} (hc : ct h T n) (tk : tok h T n p) (hq : a_rq a_tb h) : xq f xi_X6_isWord xmi_X6_isWord 0 [(0, .ref 8), (1, .float 3)] [] h (fun v h' => h = h' ∧ v = some (.int (bl (ky T n p 1)))) := by
  have n6 := hc.2.1
  have hT : ∀ k, k < n → T k < 256 := fun k hk' => (hc.2.2 k hk').1
  have k256 := tkk_lt (p := p) hT
  have sle := tks_le (T := T) (n := n) (p := p)
  cases c1 : xe_c .ne (nI (tkk T n p)) (Int32.ofInt 2) with
  | true =>
    have z1 : (tkk T n p) ≠ 2 := nq_net (a := (tkk T n p)) (b := 2) (by omega) (by omega) c1
    refine xq_n 25 [] [] [.int (Int32.ofInt 0)] h [true] 7 hq rfl ⟨(show xe_c .ne (xg 0 h.2.1 8 3) (Int32.ofInt 2) = true by rw [show (xg 0 h.2.1 8 3) = (nI (tkk T n p)) from tk.1]; exact c1), trivial⟩ (fun hq => ?_)
    refine xq_ret rfl rfl rfl ⟨rfl, ?_⟩
    rw [show ky T n p 1 = false from decide_eq_false (fun y => z1 y.1)]; rfl
  | false =>
    have z1 : (tkk T n p) = 2 := nq_nef (a := (tkk T n p)) (b := 2) (by omega) (by omega) c1
    have gt := tke_gt (T := T) (n := n) (p := p) (by omega)
    cases c2 : xe_c .eq (nI ((tke T n p) - (tks T n p))) 5 with
    | true =>
      have z2 : ((tke T n p) - (tks T n p)) = 5 := nq_eqt (a := ((tke T n p) - (tks T n p))) (b := 5) (by omega) (by omega) c2
      refine xq_n 46 [0, 1, 2] [(0, .ref 8), (1, .float 3), (2, .int (Int32.ofInt 0))] [.int ((xg 0 h.2.1 8 4) + (Int32.ofInt 0)), .ref 1] h [false, true, false] 26 hq rfl ⟨(show xe_c .ne (xg 0 h.2.1 8 3) (Int32.ofInt 2) = false by rw [show (xg 0 h.2.1 8 3) = (nI (tkk T n p)) from tk.1]; exact c1), (show xe_c .eq ((xg 0 h.2.1 8 5) - (xg 0 h.2.1 8 4)) 5 = true by rw [show (xg 0 h.2.1 8 5) = (nI (tke T n p)) from (tk.2.2.1 (by omega)).2, show (xg 0 h.2.1 8 4) = (nI (tks T n p)) from tk.2.1, show ((nI (tke T n p)) - (nI (tks T n p))) = nI ((tke T n p) - (tks T n p)) from nI_sub (by omega)]; exact c2), (by decide), trivial⟩ (fun hq => ?_)
      rw [show (xg 0 h.2.1 8 4) = (nI (tks T n p)) from tk.2.1]
      rw [show ((nI (tks T n p)) + (Int32.ofInt 0)) = nI ((tks T n p) + 0) from nI_add _ 0]
      refine xq_run hq rfl rfl (at_q hc (p := ((tks T n p) + 0)) (by omega) hq) ?_
      rintro v3 h_v3 ⟨rfl, rfl⟩
      have tv3 := hT ((tks T n p) + 0) (by omega)
      cases c4 : xe_c .eq (nI (T ((tks T n p) + 0))) 99 with
      | true =>
        have z4 : (T ((tks T n p) + 0)) = 99 := nq_eqt (a := (T ((tks T n p) + 0))) (b := 99) (by omega) (by omega) c4
        refine xq_n 46 [0, 1, 2] [(0, .ref 8), (1, .float 3), (2, .int ((Int32.ofInt 0) + Int32.ofInt 1))] [.int ((xg 0 h.2.1 8 4) + ((Int32.ofInt 0) + Int32.ofInt 1)), .ref 1] h [true, false] 18 hq rfl ⟨(show xe_c .eq (nI (T ((tks T n p) + 0))) (js_ch 1 (Int32.ofInt 0).toNatClampNeg) = true by rw [show (js_ch 1 (Int32.ofInt 0).toNatClampNeg) = 99 from rfl]; exact c4), (show xe_c .ge ((Int32.ofInt 0) + Int32.ofInt 1) 5 = false by rw [show ((Int32.ofInt 0) + Int32.ofInt 1) = Int32.ofInt 1 from rfl]; rfl), trivial⟩ (fun hq => ?_)
        rw [show (xg 0 h.2.1 8 4) = (nI (tks T n p)) from tk.2.1]
        rw [show ((Int32.ofInt 0) + Int32.ofInt 1) = Int32.ofInt 1 from rfl]
        rw [show ((nI (tks T n p)) + (Int32.ofInt 1)) = nI ((tks T n p) + 1) from nI_add _ 1]
        refine xq_run hq rfl rfl (at_q hc (p := ((tks T n p) + 1)) (by omega) hq) ?_
        rintro v5 h_v5 ⟨rfl, rfl⟩
        have tv5 := hT ((tks T n p) + 1) (by omega)
        cases c6 : xe_c .eq (nI (T ((tks T n p) + 1))) 97 with
        | true =>
          have z6 : (T ((tks T n p) + 1)) = 97 := nq_eqt (a := (T ((tks T n p) + 1))) (b := 97) (by omega) (by omega) c6
          refine xq_n 46 [0, 1, 2] [(0, .ref 8), (1, .float 3), (2, .int ((Int32.ofInt 1) + Int32.ofInt 1))] [.int ((xg 0 h.2.1 8 4) + ((Int32.ofInt 1) + Int32.ofInt 1)), .ref 1] h [true, false] 18 hq rfl ⟨(show xe_c .eq (nI (T ((tks T n p) + 1))) (js_ch 1 (Int32.ofInt 1).toNatClampNeg) = true by rw [show (js_ch 1 (Int32.ofInt 1).toNatClampNeg) = 97 from rfl]; exact c6), (show xe_c .ge ((Int32.ofInt 1) + Int32.ofInt 1) 5 = false by rw [show ((Int32.ofInt 1) + Int32.ofInt 1) = Int32.ofInt 2 from rfl]; rfl), trivial⟩ (fun hq => ?_)
          rw [show (xg 0 h.2.1 8 4) = (nI (tks T n p)) from tk.2.1]
          rw [show ((Int32.ofInt 1) + Int32.ofInt 1) = Int32.ofInt 2 from rfl]
          rw [show ((nI (tks T n p)) + (Int32.ofInt 2)) = nI ((tks T n p) + 2) from nI_add _ 2]
          refine xq_run hq rfl rfl (at_q hc (p := ((tks T n p) + 2)) (by omega) hq) ?_
          rintro v7 h_v7 ⟨rfl, rfl⟩
          have tv7 := hT ((tks T n p) + 2) (by omega)
          cases c8 : xe_c .eq (nI (T ((tks T n p) + 2))) 114 with
          | true =>
            have z8 : (T ((tks T n p) + 2)) = 114 := nq_eqt (a := (T ((tks T n p) + 2))) (b := 114) (by omega) (by omega) c8
            refine xq_n 46 [0, 1, 2] [(0, .ref 8), (1, .float 3), (2, .int ((Int32.ofInt 2) + Int32.ofInt 1))] [.int ((xg 0 h.2.1 8 4) + ((Int32.ofInt 2) + Int32.ofInt 1)), .ref 1] h [true, false] 18 hq rfl ⟨(show xe_c .eq (nI (T ((tks T n p) + 2))) (js_ch 1 (Int32.ofInt 2).toNatClampNeg) = true by rw [show (js_ch 1 (Int32.ofInt 2).toNatClampNeg) = 114 from rfl]; exact c8), (show xe_c .ge ((Int32.ofInt 2) + Int32.ofInt 1) 5 = false by rw [show ((Int32.ofInt 2) + Int32.ofInt 1) = Int32.ofInt 3 from rfl]; rfl), trivial⟩ (fun hq => ?_)
            rw [show (xg 0 h.2.1 8 4) = (nI (tks T n p)) from tk.2.1]
            rw [show ((Int32.ofInt 2) + Int32.ofInt 1) = Int32.ofInt 3 from rfl]
            rw [show ((nI (tks T n p)) + (Int32.ofInt 3)) = nI ((tks T n p) + 3) from nI_add _ 3]
            refine xq_run hq rfl rfl (at_q hc (p := ((tks T n p) + 3)) (by omega) hq) ?_
            rintro v9 h_v9 ⟨rfl, rfl⟩
            have tv9 := hT ((tks T n p) + 3) (by omega)
            cases c10 : xe_c .eq (nI (T ((tks T n p) + 3))) 114 with
            | true =>
              have z10 : (T ((tks T n p) + 3)) = 114 := nq_eqt (a := (T ((tks T n p) + 3))) (b := 114) (by omega) (by omega) c10
              refine xq_n 46 [0, 1, 2] [(0, .ref 8), (1, .float 3), (2, .int ((Int32.ofInt 3) + Int32.ofInt 1))] [.int ((xg 0 h.2.1 8 4) + ((Int32.ofInt 3) + Int32.ofInt 1)), .ref 1] h [true, false] 18 hq rfl ⟨(show xe_c .eq (nI (T ((tks T n p) + 3))) (js_ch 1 (Int32.ofInt 3).toNatClampNeg) = true by rw [show (js_ch 1 (Int32.ofInt 3).toNatClampNeg) = 114 from rfl]; exact c10), (show xe_c .ge ((Int32.ofInt 3) + Int32.ofInt 1) 5 = false by rw [show ((Int32.ofInt 3) + Int32.ofInt 1) = Int32.ofInt 4 from rfl]; rfl), trivial⟩ (fun hq => ?_)
              rw [show (xg 0 h.2.1 8 4) = (nI (tks T n p)) from tk.2.1]
              rw [show ((Int32.ofInt 3) + Int32.ofInt 1) = Int32.ofInt 4 from rfl]
              rw [show ((nI (tks T n p)) + (Int32.ofInt 4)) = nI ((tks T n p) + 4) from nI_add _ 4]
              refine xq_run hq rfl rfl (at_q hc (p := ((tks T n p) + 4)) (by omega) hq) ?_
              rintro v11 h_v11 ⟨rfl, rfl⟩
              have tv11 := hT ((tks T n p) + 4) (by omega)
              cases c12 : xe_c .eq (nI (T ((tks T n p) + 4))) 121 with
              | true =>
                have z12 : (T ((tks T n p) + 4)) = 121 := nq_eqt (a := (T ((tks T n p) + 4))) (b := 121) (by omega) (by omega) c12
                refine xq_n 66 [] [] [.int (Int32.ofInt 1)] h [true, true] 13 hq rfl ⟨(show xe_c .eq (nI (T ((tks T n p) + 4))) (js_ch 1 (Int32.ofInt 4).toNatClampNeg) = true by rw [show (js_ch 1 (Int32.ofInt 4).toNatClampNeg) = 121 from rfl]; exact c12), (show xe_c .ge ((Int32.ofInt 4) + Int32.ofInt 1) 5 = true by rw [show ((Int32.ofInt 4) + Int32.ofInt 1) = Int32.ofInt 5 from rfl]; rfl), trivial⟩ (fun hq => ?_)
                refine xq_ret rfl rfl rfl ⟨rfl, ?_⟩
                rw [show ky T n p 1 = true from decide_eq_true ⟨z1, (wd_iff (by decide) z1).mpr ⟨by rw [show sN 1 = 5 from rfl]; omega, fun k hk' => ?_⟩⟩]
                · rfl
                · have hk' : k < 5 := hk'
                  match k, hk' with
                  | 0, _ => exact z4
                  | 1, _ => exact z6
                  | 2, _ => exact z8
                  | 3, _ => exact z10
                  | 4, _ => exact z12
              | false =>
                have z12 : (T ((tks T n p) + 4)) ≠ 121 := nq_eqf (a := (T ((tks T n p) + 4))) (b := 121) (by omega) (by omega) c12
                refine xq_n 58 [] [] [.int (Int32.ofInt 0)] h [false] 7 hq rfl ⟨(show xe_c .eq (nI (T ((tks T n p) + 4))) (js_ch 1 (Int32.ofInt 4).toNatClampNeg) = false by rw [show (js_ch 1 (Int32.ofInt 4).toNatClampNeg) = 121 from rfl]; exact c12), trivial⟩ (fun hq => ?_)
                refine xq_ret rfl rfl rfl ⟨rfl, ?_⟩
                rw [show ky T n p 1 = false from decide_eq_false (fun y => z12 (((wd_iff (by decide) z1).mp y.2).2 4 (by decide)))]; rfl
            | false =>
              have z10 : (T ((tks T n p) + 3)) ≠ 114 := nq_eqf (a := (T ((tks T n p) + 3))) (b := 114) (by omega) (by omega) c10
              refine xq_n 58 [] [] [.int (Int32.ofInt 0)] h [false] 7 hq rfl ⟨(show xe_c .eq (nI (T ((tks T n p) + 3))) (js_ch 1 (Int32.ofInt 3).toNatClampNeg) = false by rw [show (js_ch 1 (Int32.ofInt 3).toNatClampNeg) = 114 from rfl]; exact c10), trivial⟩ (fun hq => ?_)
              refine xq_ret rfl rfl rfl ⟨rfl, ?_⟩
              rw [show ky T n p 1 = false from decide_eq_false (fun y => z10 (((wd_iff (by decide) z1).mp y.2).2 3 (by decide)))]; rfl
          | false =>
            have z8 : (T ((tks T n p) + 2)) ≠ 114 := nq_eqf (a := (T ((tks T n p) + 2))) (b := 114) (by omega) (by omega) c8
            refine xq_n 58 [] [] [.int (Int32.ofInt 0)] h [false] 7 hq rfl ⟨(show xe_c .eq (nI (T ((tks T n p) + 2))) (js_ch 1 (Int32.ofInt 2).toNatClampNeg) = false by rw [show (js_ch 1 (Int32.ofInt 2).toNatClampNeg) = 114 from rfl]; exact c8), trivial⟩ (fun hq => ?_)
            refine xq_ret rfl rfl rfl ⟨rfl, ?_⟩
            rw [show ky T n p 1 = false from decide_eq_false (fun y => z8 (((wd_iff (by decide) z1).mp y.2).2 2 (by decide)))]; rfl
        | false =>
          have z6 : (T ((tks T n p) + 1)) ≠ 97 := nq_eqf (a := (T ((tks T n p) + 1))) (b := 97) (by omega) (by omega) c6
          refine xq_n 58 [] [] [.int (Int32.ofInt 0)] h [false] 7 hq rfl ⟨(show xe_c .eq (nI (T ((tks T n p) + 1))) (js_ch 1 (Int32.ofInt 1).toNatClampNeg) = false by rw [show (js_ch 1 (Int32.ofInt 1).toNatClampNeg) = 97 from rfl]; exact c6), trivial⟩ (fun hq => ?_)
          refine xq_ret rfl rfl rfl ⟨rfl, ?_⟩
          rw [show ky T n p 1 = false from decide_eq_false (fun y => z6 (((wd_iff (by decide) z1).mp y.2).2 1 (by decide)))]; rfl
      | false =>
        have z4 : (T ((tks T n p) + 0)) ≠ 99 := nq_eqf (a := (T ((tks T n p) + 0))) (b := 99) (by omega) (by omega) c4
        refine xq_n 58 [] [] [.int (Int32.ofInt 0)] h [false] 7 hq rfl ⟨(show xe_c .eq (nI (T ((tks T n p) + 0))) (js_ch 1 (Int32.ofInt 0).toNatClampNeg) = false by rw [show (js_ch 1 (Int32.ofInt 0).toNatClampNeg) = 99 from rfl]; exact c4), trivial⟩ (fun hq => ?_)
        refine xq_ret rfl rfl rfl ⟨rfl, ?_⟩
        rw [show ky T n p 1 = false from decide_eq_false (fun y => z4 (((wd_iff (by decide) z1).mp y.2).2 0 (by decide)))]; rfl
    | false =>
      have z2 : ((tke T n p) - (tks T n p)) ≠ 5 := nq_eqf (a := ((tke T n p) - (tks T n p))) (b := 5) (by omega) (by omega) c2
      refine xq_n 25 [] [] [.int (Int32.ofInt 0)] h [false, false] 15 hq rfl ⟨(show xe_c .ne (xg 0 h.2.1 8 3) (Int32.ofInt 2) = false by rw [show (xg 0 h.2.1 8 3) = (nI (tkk T n p)) from tk.1]; exact c1), (show xe_c .eq ((xg 0 h.2.1 8 5) - (xg 0 h.2.1 8 4)) 5 = false by rw [show (xg 0 h.2.1 8 5) = (nI (tke T n p)) from (tk.2.2.1 (by omega)).2, show (xg 0 h.2.1 8 4) = (nI (tks T n p)) from tk.2.1, show ((nI (tke T n p)) - (nI (tks T n p))) = nI ((tke T n p) - (tks T n p)) from nI_sub (by omega)]; exact c2), trivial⟩ (fun hq => ?_)
      refine xq_ret rfl rfl rfl ⟨rfl, ?_⟩
      rw [show ky T n p 1 = false from decide_eq_false (fun y => z2 ((wd_iff (by decide) z1).mp y.2).1)]; rfl
set_option maxRecDepth 100000 in
set_option maxHeartbeats 4000000 in
theorem iw2_q {f n p : Nat} {T : Nat → Nat} {h : xh_H} (hc : ct h T n) (tk : tok h T n p) (hq : a_rq a_tb h) : xq f xi_X6_isWord xmi_X6_isWord 0 [(0, .ref 8), (1, .float 4)] [] h (fun v h' => h = h' ∧ v = some (.int (bl (ky T n p 2)))) := by
  have n6 := hc.2.1
  have hT : ∀ k, k < n → T k < 256 := fun k hk' => (hc.2.2 k hk').1
  have k256 := tkk_lt (p := p) hT
  have sle := tks_le (T := T) (n := n) (p := p)
  cases c1 : xe_c .ne (nI (tkk T n p)) (Int32.ofInt 2) with
  | true =>
    have z1 : (tkk T n p) ≠ 2 := nq_net (a := (tkk T n p)) (b := 2) (by omega) (by omega) c1
    refine xq_n 25 [] [] [.int (Int32.ofInt 0)] h [true] 7 hq rfl ⟨(show xe_c .ne (xg 0 h.2.1 8 3) (Int32.ofInt 2) = true by rw [show (xg 0 h.2.1 8 3) = (nI (tkk T n p)) from tk.1]; exact c1), trivial⟩ (fun hq => ?_)
    refine xq_ret rfl rfl rfl ⟨rfl, ?_⟩
    rw [show ky T n p 2 = false from decide_eq_false (fun y => z1 y.1)]; rfl
  | false =>
    have z1 : (tkk T n p) = 2 := nq_nef (a := (tkk T n p)) (b := 2) (by omega) (by omega) c1
    have gt := tke_gt (T := T) (n := n) (p := p) (by omega)
    cases c2 : xe_c .eq (nI ((tke T n p) - (tks T n p))) 3 with
    | true =>
      have z2 : ((tke T n p) - (tks T n p)) = 3 := nq_eqt (a := ((tke T n p) - (tks T n p))) (b := 3) (by omega) (by omega) c2
      refine xq_n 46 [0, 1, 2] [(0, .ref 8), (1, .float 4), (2, .int (Int32.ofInt 0))] [.int ((xg 0 h.2.1 8 4) + (Int32.ofInt 0)), .ref 1] h [false, true, false] 26 hq rfl ⟨(show xe_c .ne (xg 0 h.2.1 8 3) (Int32.ofInt 2) = false by rw [show (xg 0 h.2.1 8 3) = (nI (tkk T n p)) from tk.1]; exact c1), (show xe_c .eq ((xg 0 h.2.1 8 5) - (xg 0 h.2.1 8 4)) 3 = true by rw [show (xg 0 h.2.1 8 5) = (nI (tke T n p)) from (tk.2.2.1 (by omega)).2, show (xg 0 h.2.1 8 4) = (nI (tks T n p)) from tk.2.1, show ((nI (tke T n p)) - (nI (tks T n p))) = nI ((tke T n p) - (tks T n p)) from nI_sub (by omega)]; exact c2), (by decide), trivial⟩ (fun hq => ?_)
      rw [show (xg 0 h.2.1 8 4) = (nI (tks T n p)) from tk.2.1]
      rw [show ((nI (tks T n p)) + (Int32.ofInt 0)) = nI ((tks T n p) + 0) from nI_add _ 0]
      refine xq_run hq rfl rfl (at_q hc (p := ((tks T n p) + 0)) (by omega) hq) ?_
      rintro v3 h_v3 ⟨rfl, rfl⟩
      have tv3 := hT ((tks T n p) + 0) (by omega)
      cases c4 : xe_c .eq (nI (T ((tks T n p) + 0))) 97 with
      | true =>
        have z4 : (T ((tks T n p) + 0)) = 97 := nq_eqt (a := (T ((tks T n p) + 0))) (b := 97) (by omega) (by omega) c4
        refine xq_n 46 [0, 1, 2] [(0, .ref 8), (1, .float 4), (2, .int ((Int32.ofInt 0) + Int32.ofInt 1))] [.int ((xg 0 h.2.1 8 4) + ((Int32.ofInt 0) + Int32.ofInt 1)), .ref 1] h [true, false] 18 hq rfl ⟨(show xe_c .eq (nI (T ((tks T n p) + 0))) (js_ch 2 (Int32.ofInt 0).toNatClampNeg) = true by rw [show (js_ch 2 (Int32.ofInt 0).toNatClampNeg) = 97 from rfl]; exact c4), (show xe_c .ge ((Int32.ofInt 0) + Int32.ofInt 1) 3 = false by rw [show ((Int32.ofInt 0) + Int32.ofInt 1) = Int32.ofInt 1 from rfl]; rfl), trivial⟩ (fun hq => ?_)
        rw [show (xg 0 h.2.1 8 4) = (nI (tks T n p)) from tk.2.1]
        rw [show ((Int32.ofInt 0) + Int32.ofInt 1) = Int32.ofInt 1 from rfl]
        rw [show ((nI (tks T n p)) + (Int32.ofInt 1)) = nI ((tks T n p) + 1) from nI_add _ 1]
        refine xq_run hq rfl rfl (at_q hc (p := ((tks T n p) + 1)) (by omega) hq) ?_
        rintro v5 h_v5 ⟨rfl, rfl⟩
        have tv5 := hT ((tks T n p) + 1) (by omega)
        cases c6 : xe_c .eq (nI (T ((tks T n p) + 1))) 110 with
        | true =>
          have z6 : (T ((tks T n p) + 1)) = 110 := nq_eqt (a := (T ((tks T n p) + 1))) (b := 110) (by omega) (by omega) c6
          refine xq_n 46 [0, 1, 2] [(0, .ref 8), (1, .float 4), (2, .int ((Int32.ofInt 1) + Int32.ofInt 1))] [.int ((xg 0 h.2.1 8 4) + ((Int32.ofInt 1) + Int32.ofInt 1)), .ref 1] h [true, false] 18 hq rfl ⟨(show xe_c .eq (nI (T ((tks T n p) + 1))) (js_ch 2 (Int32.ofInt 1).toNatClampNeg) = true by rw [show (js_ch 2 (Int32.ofInt 1).toNatClampNeg) = 110 from rfl]; exact c6), (show xe_c .ge ((Int32.ofInt 1) + Int32.ofInt 1) 3 = false by rw [show ((Int32.ofInt 1) + Int32.ofInt 1) = Int32.ofInt 2 from rfl]; rfl), trivial⟩ (fun hq => ?_)
          rw [show (xg 0 h.2.1 8 4) = (nI (tks T n p)) from tk.2.1]
          rw [show ((Int32.ofInt 1) + Int32.ofInt 1) = Int32.ofInt 2 from rfl]
          rw [show ((nI (tks T n p)) + (Int32.ofInt 2)) = nI ((tks T n p) + 2) from nI_add _ 2]
          refine xq_run hq rfl rfl (at_q hc (p := ((tks T n p) + 2)) (by omega) hq) ?_
          rintro v7 h_v7 ⟨rfl, rfl⟩
          have tv7 := hT ((tks T n p) + 2) (by omega)
          cases c8 : xe_c .eq (nI (T ((tks T n p) + 2))) 100 with
          | true =>
            have z8 : (T ((tks T n p) + 2)) = 100 := nq_eqt (a := (T ((tks T n p) + 2))) (b := 100) (by omega) (by omega) c8
            refine xq_n 66 [] [] [.int (Int32.ofInt 1)] h [true, true] 13 hq rfl ⟨(show xe_c .eq (nI (T ((tks T n p) + 2))) (js_ch 2 (Int32.ofInt 2).toNatClampNeg) = true by rw [show (js_ch 2 (Int32.ofInt 2).toNatClampNeg) = 100 from rfl]; exact c8), (show xe_c .ge ((Int32.ofInt 2) + Int32.ofInt 1) 3 = true by rw [show ((Int32.ofInt 2) + Int32.ofInt 1) = Int32.ofInt 3 from rfl]; rfl), trivial⟩ (fun hq => ?_)
            refine xq_ret rfl rfl rfl ⟨rfl, ?_⟩
            rw [show ky T n p 2 = true from decide_eq_true ⟨z1, (wd_iff (by decide) z1).mpr ⟨by rw [show sN 2 = 3 from rfl]; omega, fun k hk' => ?_⟩⟩]
            · rfl
            · have hk' : k < 3 := hk'
              match k, hk' with
              | 0, _ => exact z4
              | 1, _ => exact z6
              | 2, _ => exact z8
          | false =>
            have z8 : (T ((tks T n p) + 2)) ≠ 100 := nq_eqf (a := (T ((tks T n p) + 2))) (b := 100) (by omega) (by omega) c8
            refine xq_n 58 [] [] [.int (Int32.ofInt 0)] h [false] 7 hq rfl ⟨(show xe_c .eq (nI (T ((tks T n p) + 2))) (js_ch 2 (Int32.ofInt 2).toNatClampNeg) = false by rw [show (js_ch 2 (Int32.ofInt 2).toNatClampNeg) = 100 from rfl]; exact c8), trivial⟩ (fun hq => ?_)
            refine xq_ret rfl rfl rfl ⟨rfl, ?_⟩
            rw [show ky T n p 2 = false from decide_eq_false (fun y => z8 (((wd_iff (by decide) z1).mp y.2).2 2 (by decide)))]; rfl
        | false =>
          have z6 : (T ((tks T n p) + 1)) ≠ 110 := nq_eqf (a := (T ((tks T n p) + 1))) (b := 110) (by omega) (by omega) c6
          refine xq_n 58 [] [] [.int (Int32.ofInt 0)] h [false] 7 hq rfl ⟨(show xe_c .eq (nI (T ((tks T n p) + 1))) (js_ch 2 (Int32.ofInt 1).toNatClampNeg) = false by rw [show (js_ch 2 (Int32.ofInt 1).toNatClampNeg) = 110 from rfl]; exact c6), trivial⟩ (fun hq => ?_)
          refine xq_ret rfl rfl rfl ⟨rfl, ?_⟩
          rw [show ky T n p 2 = false from decide_eq_false (fun y => z6 (((wd_iff (by decide) z1).mp y.2).2 1 (by decide)))]; rfl
      | false =>
        have z4 : (T ((tks T n p) + 0)) ≠ 97 := nq_eqf (a := (T ((tks T n p) + 0))) (b := 97) (by omega) (by omega) c4
        refine xq_n 58 [] [] [.int (Int32.ofInt 0)] h [false] 7 hq rfl ⟨(show xe_c .eq (nI (T ((tks T n p) + 0))) (js_ch 2 (Int32.ofInt 0).toNatClampNeg) = false by rw [show (js_ch 2 (Int32.ofInt 0).toNatClampNeg) = 97 from rfl]; exact c4), trivial⟩ (fun hq => ?_)
        refine xq_ret rfl rfl rfl ⟨rfl, ?_⟩
        rw [show ky T n p 2 = false from decide_eq_false (fun y => z4 (((wd_iff (by decide) z1).mp y.2).2 0 (by decide)))]; rfl
    | false =>
      have z2 : ((tke T n p) - (tks T n p)) ≠ 3 := nq_eqf (a := ((tke T n p) - (tks T n p))) (b := 3) (by omega) (by omega) c2
      refine xq_n 25 [] [] [.int (Int32.ofInt 0)] h [false, false] 15 hq rfl ⟨(show xe_c .ne (xg 0 h.2.1 8 3) (Int32.ofInt 2) = false by rw [show (xg 0 h.2.1 8 3) = (nI (tkk T n p)) from tk.1]; exact c1), (show xe_c .eq ((xg 0 h.2.1 8 5) - (xg 0 h.2.1 8 4)) 3 = false by rw [show (xg 0 h.2.1 8 5) = (nI (tke T n p)) from (tk.2.2.1 (by omega)).2, show (xg 0 h.2.1 8 4) = (nI (tks T n p)) from tk.2.1, show ((nI (tke T n p)) - (nI (tks T n p))) = nI ((tke T n p) - (tks T n p)) from nI_sub (by omega)]; exact c2), trivial⟩ (fun hq => ?_)
      refine xq_ret rfl rfl rfl ⟨rfl, ?_⟩
      rw [show ky T n p 2 = false from decide_eq_false (fun y => z2 ((wd_iff (by decide) z1).mp y.2).1)]; rfl
set_option maxRecDepth 100000 in
set_option maxHeartbeats 4000000 in
theorem iw3_q {f n p : Nat} {T : Nat → Nat} {h : xh_H} (hc : ct h T n) (tk : tok h T n p) (hq : a_rq a_tb h) : xq f xi_X6_isWord xmi_X6_isWord 0 [(0, .ref 8), (1, .float 5)] [] h (fun v h' => h = h' ∧ v = some (.int (bl (ky T n p 3)))) := by
  have n6 := hc.2.1
  have hT : ∀ k, k < n → T k < 256 := fun k hk' => (hc.2.2 k hk').1
  have k256 := tkk_lt (p := p) hT
  have sle := tks_le (T := T) (n := n) (p := p)
  cases c1 : xe_c .ne (nI (tkk T n p)) (Int32.ofInt 2) with
  | true =>
    have z1 : (tkk T n p) ≠ 2 := nq_net (a := (tkk T n p)) (b := 2) (by omega) (by omega) c1
    refine xq_n 25 [] [] [.int (Int32.ofInt 0)] h [true] 7 hq rfl ⟨(show xe_c .ne (xg 0 h.2.1 8 3) (Int32.ofInt 2) = true by rw [show (xg 0 h.2.1 8 3) = (nI (tkk T n p)) from tk.1]; exact c1), trivial⟩ (fun hq => ?_)
    refine xq_ret rfl rfl rfl ⟨rfl, ?_⟩
    rw [show ky T n p 3 = false from decide_eq_false (fun y => z1 y.1)]; rfl
  | false =>
    have z1 : (tkk T n p) = 2 := nq_nef (a := (tkk T n p)) (b := 2) (by omega) (by omega) c1
    have gt := tke_gt (T := T) (n := n) (p := p) (by omega)
    cases c2 : xe_c .eq (nI ((tke T n p) - (tks T n p))) 2 with
    | true =>
      have z2 : ((tke T n p) - (tks T n p)) = 2 := nq_eqt (a := ((tke T n p) - (tks T n p))) (b := 2) (by omega) (by omega) c2
      refine xq_n 46 [0, 1, 2] [(0, .ref 8), (1, .float 5), (2, .int (Int32.ofInt 0))] [.int ((xg 0 h.2.1 8 4) + (Int32.ofInt 0)), .ref 1] h [false, true, false] 26 hq rfl ⟨(show xe_c .ne (xg 0 h.2.1 8 3) (Int32.ofInt 2) = false by rw [show (xg 0 h.2.1 8 3) = (nI (tkk T n p)) from tk.1]; exact c1), (show xe_c .eq ((xg 0 h.2.1 8 5) - (xg 0 h.2.1 8 4)) 2 = true by rw [show (xg 0 h.2.1 8 5) = (nI (tke T n p)) from (tk.2.2.1 (by omega)).2, show (xg 0 h.2.1 8 4) = (nI (tks T n p)) from tk.2.1, show ((nI (tke T n p)) - (nI (tks T n p))) = nI ((tke T n p) - (tks T n p)) from nI_sub (by omega)]; exact c2), (by decide), trivial⟩ (fun hq => ?_)
      rw [show (xg 0 h.2.1 8 4) = (nI (tks T n p)) from tk.2.1]
      rw [show ((nI (tks T n p)) + (Int32.ofInt 0)) = nI ((tks T n p) + 0) from nI_add _ 0]
      refine xq_run hq rfl rfl (at_q hc (p := ((tks T n p) + 0)) (by omega) hq) ?_
      rintro v3 h_v3 ⟨rfl, rfl⟩
      have tv3 := hT ((tks T n p) + 0) (by omega)
      cases c4 : xe_c .eq (nI (T ((tks T n p) + 0))) 111 with
      | true =>
        have z4 : (T ((tks T n p) + 0)) = 111 := nq_eqt (a := (T ((tks T n p) + 0))) (b := 111) (by omega) (by omega) c4
        refine xq_n 46 [0, 1, 2] [(0, .ref 8), (1, .float 5), (2, .int ((Int32.ofInt 0) + Int32.ofInt 1))] [.int ((xg 0 h.2.1 8 4) + ((Int32.ofInt 0) + Int32.ofInt 1)), .ref 1] h [true, false] 18 hq rfl ⟨(show xe_c .eq (nI (T ((tks T n p) + 0))) (js_ch 3 (Int32.ofInt 0).toNatClampNeg) = true by rw [show (js_ch 3 (Int32.ofInt 0).toNatClampNeg) = 111 from rfl]; exact c4), (show xe_c .ge ((Int32.ofInt 0) + Int32.ofInt 1) 2 = false by rw [show ((Int32.ofInt 0) + Int32.ofInt 1) = Int32.ofInt 1 from rfl]; rfl), trivial⟩ (fun hq => ?_)
        rw [show (xg 0 h.2.1 8 4) = (nI (tks T n p)) from tk.2.1]
        rw [show ((Int32.ofInt 0) + Int32.ofInt 1) = Int32.ofInt 1 from rfl]
        rw [show ((nI (tks T n p)) + (Int32.ofInt 1)) = nI ((tks T n p) + 1) from nI_add _ 1]
        refine xq_run hq rfl rfl (at_q hc (p := ((tks T n p) + 1)) (by omega) hq) ?_
        rintro v5 h_v5 ⟨rfl, rfl⟩
        have tv5 := hT ((tks T n p) + 1) (by omega)
        cases c6 : xe_c .eq (nI (T ((tks T n p) + 1))) 114 with
        | true =>
          have z6 : (T ((tks T n p) + 1)) = 114 := nq_eqt (a := (T ((tks T n p) + 1))) (b := 114) (by omega) (by omega) c6
          refine xq_n 66 [] [] [.int (Int32.ofInt 1)] h [true, true] 13 hq rfl ⟨(show xe_c .eq (nI (T ((tks T n p) + 1))) (js_ch 3 (Int32.ofInt 1).toNatClampNeg) = true by rw [show (js_ch 3 (Int32.ofInt 1).toNatClampNeg) = 114 from rfl]; exact c6), (show xe_c .ge ((Int32.ofInt 1) + Int32.ofInt 1) 2 = true by rw [show ((Int32.ofInt 1) + Int32.ofInt 1) = Int32.ofInt 2 from rfl]; rfl), trivial⟩ (fun hq => ?_)
          refine xq_ret rfl rfl rfl ⟨rfl, ?_⟩
          rw [show ky T n p 3 = true from decide_eq_true ⟨z1, (wd_iff (by decide) z1).mpr ⟨by rw [show sN 3 = 2 from rfl]; omega, fun k hk' => ?_⟩⟩]
          · rfl
          · have hk' : k < 2 := hk'
            match k, hk' with
            | 0, _ => exact z4
            | 1, _ => exact z6
        | false =>
          have z6 : (T ((tks T n p) + 1)) ≠ 114 := nq_eqf (a := (T ((tks T n p) + 1))) (b := 114) (by omega) (by omega) c6
          refine xq_n 58 [] [] [.int (Int32.ofInt 0)] h [false] 7 hq rfl ⟨(show xe_c .eq (nI (T ((tks T n p) + 1))) (js_ch 3 (Int32.ofInt 1).toNatClampNeg) = false by rw [show (js_ch 3 (Int32.ofInt 1).toNatClampNeg) = 114 from rfl]; exact c6), trivial⟩ (fun hq => ?_)
          refine xq_ret rfl rfl rfl ⟨rfl, ?_⟩
          rw [show ky T n p 3 = false from decide_eq_false (fun y => z6 (((wd_iff (by decide) z1).mp y.2).2 1 (by decide)))]; rfl
      | false =>
        have z4 : (T ((tks T n p) + 0)) ≠ 111 := nq_eqf (a := (T ((tks T n p) + 0))) (b := 111) (by omega) (by omega) c4
        refine xq_n 58 [] [] [.int (Int32.ofInt 0)] h [false] 7 hq rfl ⟨(show xe_c .eq (nI (T ((tks T n p) + 0))) (js_ch 3 (Int32.ofInt 0).toNatClampNeg) = false by rw [show (js_ch 3 (Int32.ofInt 0).toNatClampNeg) = 111 from rfl]; exact c4), trivial⟩ (fun hq => ?_)
        refine xq_ret rfl rfl rfl ⟨rfl, ?_⟩
        rw [show ky T n p 3 = false from decide_eq_false (fun y => z4 (((wd_iff (by decide) z1).mp y.2).2 0 (by decide)))]; rfl
    | false =>
      have z2 : ((tke T n p) - (tks T n p)) ≠ 2 := nq_eqf (a := ((tke T n p) - (tks T n p))) (b := 2) (by omega) (by omega) c2
      refine xq_n 25 [] [] [.int (Int32.ofInt 0)] h [false, false] 15 hq rfl ⟨(show xe_c .ne (xg 0 h.2.1 8 3) (Int32.ofInt 2) = false by rw [show (xg 0 h.2.1 8 3) = (nI (tkk T n p)) from tk.1]; exact c1), (show xe_c .eq ((xg 0 h.2.1 8 5) - (xg 0 h.2.1 8 4)) 2 = false by rw [show (xg 0 h.2.1 8 5) = (nI (tke T n p)) from (tk.2.2.1 (by omega)).2, show (xg 0 h.2.1 8 4) = (nI (tks T n p)) from tk.2.1, show ((nI (tke T n p)) - (nI (tks T n p))) = nI ((tke T n p) - (tks T n p)) from nI_sub (by omega)]; exact c2), trivial⟩ (fun hq => ?_)
      refine xq_ret rfl rfl rfl ⟨rfl, ?_⟩
      rw [show ky T n p 3 = false from decide_eq_false (fun y => z2 ((wd_iff (by decide) z1).mp y.2).1)]; rfl
set_option maxRecDepth 100000 in
set_option maxHeartbeats 4000000 in
theorem iw4_q {f n p : Nat} {T : Nat → Nat} {h : xh_H} (hc : ct h T n) (tk : tok h T n p) (hq : a_rq a_tb h) : xq f xi_X6_isWord xmi_X6_isWord 0 [(0, .ref 8), (1, .float 6)] [] h (fun v h' => h = h' ∧ v = some (.int (bl (ky T n p 4)))) := by
  have n6 := hc.2.1
  have hT : ∀ k, k < n → T k < 256 := fun k hk' => (hc.2.2 k hk').1
  have k256 := tkk_lt (p := p) hT
  have sle := tks_le (T := T) (n := n) (p := p)
  cases c1 : xe_c .ne (nI (tkk T n p)) (Int32.ofInt 2) with
  | true =>
    have z1 : (tkk T n p) ≠ 2 := nq_net (a := (tkk T n p)) (b := 2) (by omega) (by omega) c1
    refine xq_n 25 [] [] [.int (Int32.ofInt 0)] h [true] 7 hq rfl ⟨(show xe_c .ne (xg 0 h.2.1 8 3) (Int32.ofInt 2) = true by rw [show (xg 0 h.2.1 8 3) = (nI (tkk T n p)) from tk.1]; exact c1), trivial⟩ (fun hq => ?_)
    refine xq_ret rfl rfl rfl ⟨rfl, ?_⟩
    rw [show ky T n p 4 = false from decide_eq_false (fun y => z1 y.1)]; rfl
  | false =>
    have z1 : (tkk T n p) = 2 := nq_nef (a := (tkk T n p)) (b := 2) (by omega) (by omega) c1
    have gt := tke_gt (T := T) (n := n) (p := p) (by omega)
    cases c2 : xe_c .eq (nI ((tke T n p) - (tks T n p))) 2 with
    | true =>
      have z2 : ((tke T n p) - (tks T n p)) = 2 := nq_eqt (a := ((tke T n p) - (tks T n p))) (b := 2) (by omega) (by omega) c2
      refine xq_n 46 [0, 1, 2] [(0, .ref 8), (1, .float 6), (2, .int (Int32.ofInt 0))] [.int ((xg 0 h.2.1 8 4) + (Int32.ofInt 0)), .ref 1] h [false, true, false] 26 hq rfl ⟨(show xe_c .ne (xg 0 h.2.1 8 3) (Int32.ofInt 2) = false by rw [show (xg 0 h.2.1 8 3) = (nI (tkk T n p)) from tk.1]; exact c1), (show xe_c .eq ((xg 0 h.2.1 8 5) - (xg 0 h.2.1 8 4)) 2 = true by rw [show (xg 0 h.2.1 8 5) = (nI (tke T n p)) from (tk.2.2.1 (by omega)).2, show (xg 0 h.2.1 8 4) = (nI (tks T n p)) from tk.2.1, show ((nI (tke T n p)) - (nI (tks T n p))) = nI ((tke T n p) - (tks T n p)) from nI_sub (by omega)]; exact c2), (by decide), trivial⟩ (fun hq => ?_)
      rw [show (xg 0 h.2.1 8 4) = (nI (tks T n p)) from tk.2.1]
      rw [show ((nI (tks T n p)) + (Int32.ofInt 0)) = nI ((tks T n p) + 0) from nI_add _ 0]
      refine xq_run hq rfl rfl (at_q hc (p := ((tks T n p) + 0)) (by omega) hq) ?_
      rintro v3 h_v3 ⟨rfl, rfl⟩
      have tv3 := hT ((tks T n p) + 0) (by omega)
      cases c4 : xe_c .eq (nI (T ((tks T n p) + 0))) 111 with
      | true =>
        have z4 : (T ((tks T n p) + 0)) = 111 := nq_eqt (a := (T ((tks T n p) + 0))) (b := 111) (by omega) (by omega) c4
        refine xq_n 46 [0, 1, 2] [(0, .ref 8), (1, .float 6), (2, .int ((Int32.ofInt 0) + Int32.ofInt 1))] [.int ((xg 0 h.2.1 8 4) + ((Int32.ofInt 0) + Int32.ofInt 1)), .ref 1] h [true, false] 18 hq rfl ⟨(show xe_c .eq (nI (T ((tks T n p) + 0))) (js_ch 4 (Int32.ofInt 0).toNatClampNeg) = true by rw [show (js_ch 4 (Int32.ofInt 0).toNatClampNeg) = 111 from rfl]; exact c4), (show xe_c .ge ((Int32.ofInt 0) + Int32.ofInt 1) 2 = false by rw [show ((Int32.ofInt 0) + Int32.ofInt 1) = Int32.ofInt 1 from rfl]; rfl), trivial⟩ (fun hq => ?_)
        rw [show (xg 0 h.2.1 8 4) = (nI (tks T n p)) from tk.2.1]
        rw [show ((Int32.ofInt 0) + Int32.ofInt 1) = Int32.ofInt 1 from rfl]
        rw [show ((nI (tks T n p)) + (Int32.ofInt 1)) = nI ((tks T n p) + 1) from nI_add _ 1]
        refine xq_run hq rfl rfl (at_q hc (p := ((tks T n p) + 1)) (by omega) hq) ?_
        rintro v5 h_v5 ⟨rfl, rfl⟩
        have tv5 := hT ((tks T n p) + 1) (by omega)
        cases c6 : xe_c .eq (nI (T ((tks T n p) + 1))) 102 with
        | true =>
          have z6 : (T ((tks T n p) + 1)) = 102 := nq_eqt (a := (T ((tks T n p) + 1))) (b := 102) (by omega) (by omega) c6
          refine xq_n 66 [] [] [.int (Int32.ofInt 1)] h [true, true] 13 hq rfl ⟨(show xe_c .eq (nI (T ((tks T n p) + 1))) (js_ch 4 (Int32.ofInt 1).toNatClampNeg) = true by rw [show (js_ch 4 (Int32.ofInt 1).toNatClampNeg) = 102 from rfl]; exact c6), (show xe_c .ge ((Int32.ofInt 1) + Int32.ofInt 1) 2 = true by rw [show ((Int32.ofInt 1) + Int32.ofInt 1) = Int32.ofInt 2 from rfl]; rfl), trivial⟩ (fun hq => ?_)
          refine xq_ret rfl rfl rfl ⟨rfl, ?_⟩
          rw [show ky T n p 4 = true from decide_eq_true ⟨z1, (wd_iff (by decide) z1).mpr ⟨by rw [show sN 4 = 2 from rfl]; omega, fun k hk' => ?_⟩⟩]
          · rfl
          · have hk' : k < 2 := hk'
            match k, hk' with
            | 0, _ => exact z4
            | 1, _ => exact z6
        | false =>
          have z6 : (T ((tks T n p) + 1)) ≠ 102 := nq_eqf (a := (T ((tks T n p) + 1))) (b := 102) (by omega) (by omega) c6
          refine xq_n 58 [] [] [.int (Int32.ofInt 0)] h [false] 7 hq rfl ⟨(show xe_c .eq (nI (T ((tks T n p) + 1))) (js_ch 4 (Int32.ofInt 1).toNatClampNeg) = false by rw [show (js_ch 4 (Int32.ofInt 1).toNatClampNeg) = 102 from rfl]; exact c6), trivial⟩ (fun hq => ?_)
          refine xq_ret rfl rfl rfl ⟨rfl, ?_⟩
          rw [show ky T n p 4 = false from decide_eq_false (fun y => z6 (((wd_iff (by decide) z1).mp y.2).2 1 (by decide)))]; rfl
      | false =>
        have z4 : (T ((tks T n p) + 0)) ≠ 111 := nq_eqf (a := (T ((tks T n p) + 0))) (b := 111) (by omega) (by omega) c4
        refine xq_n 58 [] [] [.int (Int32.ofInt 0)] h [false] 7 hq rfl ⟨(show xe_c .eq (nI (T ((tks T n p) + 0))) (js_ch 4 (Int32.ofInt 0).toNatClampNeg) = false by rw [show (js_ch 4 (Int32.ofInt 0).toNatClampNeg) = 111 from rfl]; exact c4), trivial⟩ (fun hq => ?_)
        refine xq_ret rfl rfl rfl ⟨rfl, ?_⟩
        rw [show ky T n p 4 = false from decide_eq_false (fun y => z4 (((wd_iff (by decide) z1).mp y.2).2 0 (by decide)))]; rfl
    | false =>
      have z2 : ((tke T n p) - (tks T n p)) ≠ 2 := nq_eqf (a := ((tke T n p) - (tks T n p))) (b := 2) (by omega) (by omega) c2
      refine xq_n 25 [] [] [.int (Int32.ofInt 0)] h [false, false] 15 hq rfl ⟨(show xe_c .ne (xg 0 h.2.1 8 3) (Int32.ofInt 2) = false by rw [show (xg 0 h.2.1 8 3) = (nI (tkk T n p)) from tk.1]; exact c1), (show xe_c .eq ((xg 0 h.2.1 8 5) - (xg 0 h.2.1 8 4)) 2 = false by rw [show (xg 0 h.2.1 8 5) = (nI (tke T n p)) from (tk.2.2.1 (by omega)).2, show (xg 0 h.2.1 8 4) = (nI (tks T n p)) from tk.2.1, show ((nI (tke T n p)) - (nI (tks T n p))) = nI ((tke T n p) - (tks T n p)) from nI_sub (by omega)]; exact c2), trivial⟩ (fun hq => ?_)
      refine xq_ret rfl rfl rfl ⟨rfl, ?_⟩
      rw [show ky T n p 4 = false from decide_eq_false (fun y => z2 ((wd_iff (by decide) z1).mp y.2).1)]; rfl
set_option maxRecDepth 100000 in
set_option maxHeartbeats 4000000 in
theorem nm_q {f n p : Nat} {T : Nat → Nat} {h : xh_H} (hc : ct h T n) (tk : tok h T n p) (hq : a_rq a_tb h) : xq f xi_X6_isName xmi_X6_isName 0 [(0, .ref 8)] [] h (fun v h' => h = h' ∧ v = some (.int (bl (nmt T n p)))) := by
  have n6 := hc.2.1
  have hT : ∀ k, k < n → T k < 256 := fun k hk' => (hc.2.2 k hk').1
  have k256 := tkk_lt (p := p) hT
  have sle := tks_le (T := T) (n := n) (p := p)
  refine xq_n 3 [0] [(0, .ref 8)] [.float 2, .ref 8] h [] 4 hq rfl trivial (fun hq => ?_)
  refine xq_run hq rfl rfl (iw0_q hc tk hq) ?_
  rintro v1 h_v1 ⟨rfl, rfl⟩
  cases b2 : (ky T n p 0) with
  | true =>
    have db2 := of_decide_eq_true b2
    cases c3 : xe_c .ne (nI (tkk T n p)) (Int32.ofInt 2) with
    | true =>
      have z3 : (tkk T n p) ≠ 2 := nq_net (a := (tkk T n p)) (b := 2) (by omega) (by omega) c3
      refine xq_n 81 [] [] [.int (Int32.ofInt 0)] h [true, true] 11 hq rfl ⟨rfl, (show xe_c .ne (xg 0 h.2.1 8 3) (Int32.ofInt 2) = true by rw [show (xg 0 h.2.1 8 3) = (nI (tkk T n p)) from tk.1]; exact c3), trivial⟩ (fun hq => ?_)
      have b2 := of_decide_eq_true b2
      exact xq_ret rfl rfl rfl ⟨rfl, by rw [show nmt T n p = false from decide_eq_false (by omega)]; rfl⟩
    | false =>
      have z3 : (tkk T n p) = 2 := nq_nef (a := (tkk T n p)) (b := 2) (by omega) (by omega) c3
      have gt := tke_gt (T := T) (n := n) (p := p) (by omega)
      cases c4 : xe_c .lt (nI ((tke T n p) - (tks T n p))) (Int32.ofInt 2) with
      | true =>
        have z4 : ((tke T n p) - (tks T n p)) < 2 := nq_ltt (a := ((tke T n p) - (tks T n p))) (b := 2) (by omega) (by omega) c4
        refine xq_n 81 [] [] [.int (Int32.ofInt 0)] h [true, false, true] 18 hq rfl ⟨rfl, (show xe_c .ne (xg 0 h.2.1 8 3) (Int32.ofInt 2) = false by rw [show (xg 0 h.2.1 8 3) = (nI (tkk T n p)) from tk.1]; exact c3), (show xe_c .lt ((xg 0 h.2.1 8 5) - (xg 0 h.2.1 8 4)) (Int32.ofInt 2) = true by rw [show (xg 0 h.2.1 8 5) = (nI (tke T n p)) from (tk.2.2.1 (by omega)).2, show (xg 0 h.2.1 8 4) = (nI (tks T n p)) from tk.2.1, show ((nI (tke T n p)) - (nI (tks T n p))) = nI ((tke T n p) - (tks T n p)) from nI_sub (by omega)]; exact c4), trivial⟩ (fun hq => ?_)
        have b2 := of_decide_eq_true b2
        exact xq_ret rfl rfl rfl ⟨rfl, by rw [show nmt T n p = false from decide_eq_false (by omega)]; rfl⟩
      | false =>
        have z4 : ((tke T n p) - (tks T n p)) ≥ 2 := nq_ltf (a := ((tke T n p) - (tks T n p))) (b := 2) (by omega) (by omega) c4
        refine xq_n 81 [] [] [.int (Int32.ofInt 0)] h [true, false, false, true] 20 hq rfl ⟨rfl, (show xe_c .ne (xg 0 h.2.1 8 3) (Int32.ofInt 2) = false by rw [show (xg 0 h.2.1 8 3) = (nI (tkk T n p)) from tk.1]; exact c3), (show xe_c .lt ((xg 0 h.2.1 8 5) - (xg 0 h.2.1 8 4)) (Int32.ofInt 2) = false by rw [show (xg 0 h.2.1 8 5) = (nI (tke T n p)) from (tk.2.2.1 (by omega)).2, show (xg 0 h.2.1 8 4) = (nI (tks T n p)) from tk.2.1, show ((nI (tke T n p)) - (nI (tks T n p))) = nI ((tke T n p) - (tks T n p)) from nI_sub (by omega)]; exact c4), (by decide), trivial⟩ (fun hq => ?_)
        have b2 := of_decide_eq_true b2
        exact xq_ret rfl rfl rfl ⟨rfl, by rw [show nmt T n p = false from decide_eq_false (by omega)]; rfl⟩
  | false =>
    have db2 := of_decide_eq_false b2
    refine xq_n 12 [0] [(0, .ref 8)] [.float 3, .ref 8] h [false] 5 hq rfl ⟨rfl, trivial⟩ (fun hq => ?_)
    refine xq_run hq rfl rfl (iw1_q hc tk hq) ?_
    rintro v5 h_v5 ⟨rfl, rfl⟩
    cases b6 : (ky T n p 1) with
    | true =>
      have db6 := of_decide_eq_true b6
      cases c7 : xe_c .ne (nI (tkk T n p)) (Int32.ofInt 2) with
      | true =>
        have z7 : (tkk T n p) ≠ 2 := nq_net (a := (tkk T n p)) (b := 2) (by omega) (by omega) c7
        refine xq_n 81 [] [] [.int (Int32.ofInt 0)] h [true, true] 11 hq rfl ⟨rfl, (show xe_c .ne (xg 0 h.2.1 8 3) (Int32.ofInt 2) = true by rw [show (xg 0 h.2.1 8 3) = (nI (tkk T n p)) from tk.1]; exact c7), trivial⟩ (fun hq => ?_)
        have b2 := of_decide_eq_false b2
        have b6 := of_decide_eq_true b6
        exact xq_ret rfl rfl rfl ⟨rfl, by rw [show nmt T n p = false from decide_eq_false (by omega)]; rfl⟩
      | false =>
        have z7 : (tkk T n p) = 2 := nq_nef (a := (tkk T n p)) (b := 2) (by omega) (by omega) c7
        have gt := tke_gt (T := T) (n := n) (p := p) (by omega)
        cases c8 : xe_c .lt (nI ((tke T n p) - (tks T n p))) (Int32.ofInt 2) with
        | true =>
          have z8 : ((tke T n p) - (tks T n p)) < 2 := nq_ltt (a := ((tke T n p) - (tks T n p))) (b := 2) (by omega) (by omega) c8
          refine xq_n 81 [] [] [.int (Int32.ofInt 0)] h [true, false, true] 18 hq rfl ⟨rfl, (show xe_c .ne (xg 0 h.2.1 8 3) (Int32.ofInt 2) = false by rw [show (xg 0 h.2.1 8 3) = (nI (tkk T n p)) from tk.1]; exact c7), (show xe_c .lt ((xg 0 h.2.1 8 5) - (xg 0 h.2.1 8 4)) (Int32.ofInt 2) = true by rw [show (xg 0 h.2.1 8 5) = (nI (tke T n p)) from (tk.2.2.1 (by omega)).2, show (xg 0 h.2.1 8 4) = (nI (tks T n p)) from tk.2.1, show ((nI (tke T n p)) - (nI (tks T n p))) = nI ((tke T n p) - (tks T n p)) from nI_sub (by omega)]; exact c8), trivial⟩ (fun hq => ?_)
          have b2 := of_decide_eq_false b2
          have b6 := of_decide_eq_true b6
          exact xq_ret rfl rfl rfl ⟨rfl, by rw [show nmt T n p = false from decide_eq_false (by omega)]; rfl⟩
        | false =>
          have z8 : ((tke T n p) - (tks T n p)) ≥ 2 := nq_ltf (a := ((tke T n p) - (tks T n p))) (b := 2) (by omega) (by omega) c8
          refine xq_n 81 [] [] [.int (Int32.ofInt 0)] h [true, false, false, true] 20 hq rfl ⟨rfl, (show xe_c .ne (xg 0 h.2.1 8 3) (Int32.ofInt 2) = false by rw [show (xg 0 h.2.1 8 3) = (nI (tkk T n p)) from tk.1]; exact c7), (show xe_c .lt ((xg 0 h.2.1 8 5) - (xg 0 h.2.1 8 4)) (Int32.ofInt 2) = false by rw [show (xg 0 h.2.1 8 5) = (nI (tke T n p)) from (tk.2.2.1 (by omega)).2, show (xg 0 h.2.1 8 4) = (nI (tks T n p)) from tk.2.1, show ((nI (tke T n p)) - (nI (tks T n p))) = nI ((tke T n p) - (tks T n p)) from nI_sub (by omega)]; exact c8), (by decide), trivial⟩ (fun hq => ?_)
          have b2 := of_decide_eq_false b2
          have b6 := of_decide_eq_true b6
          exact xq_ret rfl rfl rfl ⟨rfl, by rw [show nmt T n p = false from decide_eq_false (by omega)]; rfl⟩
    | false =>
      have db6 := of_decide_eq_false b6
      refine xq_n 21 [0] [(0, .ref 8)] [.float 4, .ref 8] h [false] 5 hq rfl ⟨rfl, trivial⟩ (fun hq => ?_)
      refine xq_run hq rfl rfl (iw2_q hc tk hq) ?_
      rintro v9 h_v9 ⟨rfl, rfl⟩
      cases b10 : (ky T n p 2) with
      | true =>
        have db10 := of_decide_eq_true b10
        cases c11 : xe_c .ne (nI (tkk T n p)) (Int32.ofInt 2) with
        | true =>
          have z11 : (tkk T n p) ≠ 2 := nq_net (a := (tkk T n p)) (b := 2) (by omega) (by omega) c11
          refine xq_n 81 [] [] [.int (Int32.ofInt 0)] h [true, true] 11 hq rfl ⟨rfl, (show xe_c .ne (xg 0 h.2.1 8 3) (Int32.ofInt 2) = true by rw [show (xg 0 h.2.1 8 3) = (nI (tkk T n p)) from tk.1]; exact c11), trivial⟩ (fun hq => ?_)
          have b2 := of_decide_eq_false b2
          have b6 := of_decide_eq_false b6
          have b10 := of_decide_eq_true b10
          exact xq_ret rfl rfl rfl ⟨rfl, by rw [show nmt T n p = false from decide_eq_false (by omega)]; rfl⟩
        | false =>
          have z11 : (tkk T n p) = 2 := nq_nef (a := (tkk T n p)) (b := 2) (by omega) (by omega) c11
          have gt := tke_gt (T := T) (n := n) (p := p) (by omega)
          cases c12 : xe_c .lt (nI ((tke T n p) - (tks T n p))) (Int32.ofInt 2) with
          | true =>
            have z12 : ((tke T n p) - (tks T n p)) < 2 := nq_ltt (a := ((tke T n p) - (tks T n p))) (b := 2) (by omega) (by omega) c12
            refine xq_n 81 [] [] [.int (Int32.ofInt 0)] h [true, false, true] 18 hq rfl ⟨rfl, (show xe_c .ne (xg 0 h.2.1 8 3) (Int32.ofInt 2) = false by rw [show (xg 0 h.2.1 8 3) = (nI (tkk T n p)) from tk.1]; exact c11), (show xe_c .lt ((xg 0 h.2.1 8 5) - (xg 0 h.2.1 8 4)) (Int32.ofInt 2) = true by rw [show (xg 0 h.2.1 8 5) = (nI (tke T n p)) from (tk.2.2.1 (by omega)).2, show (xg 0 h.2.1 8 4) = (nI (tks T n p)) from tk.2.1, show ((nI (tke T n p)) - (nI (tks T n p))) = nI ((tke T n p) - (tks T n p)) from nI_sub (by omega)]; exact c12), trivial⟩ (fun hq => ?_)
            have b2 := of_decide_eq_false b2
            have b6 := of_decide_eq_false b6
            have b10 := of_decide_eq_true b10
            exact xq_ret rfl rfl rfl ⟨rfl, by rw [show nmt T n p = false from decide_eq_false (by omega)]; rfl⟩
          | false =>
            have z12 : ((tke T n p) - (tks T n p)) ≥ 2 := nq_ltf (a := ((tke T n p) - (tks T n p))) (b := 2) (by omega) (by omega) c12
            refine xq_n 81 [] [] [.int (Int32.ofInt 0)] h [true, false, false, true] 20 hq rfl ⟨rfl, (show xe_c .ne (xg 0 h.2.1 8 3) (Int32.ofInt 2) = false by rw [show (xg 0 h.2.1 8 3) = (nI (tkk T n p)) from tk.1]; exact c11), (show xe_c .lt ((xg 0 h.2.1 8 5) - (xg 0 h.2.1 8 4)) (Int32.ofInt 2) = false by rw [show (xg 0 h.2.1 8 5) = (nI (tke T n p)) from (tk.2.2.1 (by omega)).2, show (xg 0 h.2.1 8 4) = (nI (tks T n p)) from tk.2.1, show ((nI (tke T n p)) - (nI (tks T n p))) = nI ((tke T n p) - (tks T n p)) from nI_sub (by omega)]; exact c12), (by decide), trivial⟩ (fun hq => ?_)
            have b2 := of_decide_eq_false b2
            have b6 := of_decide_eq_false b6
            have b10 := of_decide_eq_true b10
            exact xq_ret rfl rfl rfl ⟨rfl, by rw [show nmt T n p = false from decide_eq_false (by omega)]; rfl⟩
      | false =>
        have db10 := of_decide_eq_false b10
        refine xq_n 30 [0] [(0, .ref 8)] [.float 5, .ref 8] h [false] 5 hq rfl ⟨rfl, trivial⟩ (fun hq => ?_)
        refine xq_run hq rfl rfl (iw3_q hc tk hq) ?_
        rintro v13 h_v13 ⟨rfl, rfl⟩
        cases b14 : (ky T n p 3) with
        | true =>
          have db14 := of_decide_eq_true b14
          cases c15 : xe_c .ne (nI (tkk T n p)) (Int32.ofInt 2) with
          | true =>
            have z15 : (tkk T n p) ≠ 2 := nq_net (a := (tkk T n p)) (b := 2) (by omega) (by omega) c15
            refine xq_n 81 [] [] [.int (Int32.ofInt 0)] h [true, true] 11 hq rfl ⟨rfl, (show xe_c .ne (xg 0 h.2.1 8 3) (Int32.ofInt 2) = true by rw [show (xg 0 h.2.1 8 3) = (nI (tkk T n p)) from tk.1]; exact c15), trivial⟩ (fun hq => ?_)
            have b2 := of_decide_eq_false b2
            have b6 := of_decide_eq_false b6
            have b10 := of_decide_eq_false b10
            have b14 := of_decide_eq_true b14
            exact xq_ret rfl rfl rfl ⟨rfl, by rw [show nmt T n p = false from decide_eq_false (by omega)]; rfl⟩
          | false =>
            have z15 : (tkk T n p) = 2 := nq_nef (a := (tkk T n p)) (b := 2) (by omega) (by omega) c15
            have gt := tke_gt (T := T) (n := n) (p := p) (by omega)
            cases c16 : xe_c .lt (nI ((tke T n p) - (tks T n p))) (Int32.ofInt 2) with
            | true =>
              have z16 : ((tke T n p) - (tks T n p)) < 2 := nq_ltt (a := ((tke T n p) - (tks T n p))) (b := 2) (by omega) (by omega) c16
              refine xq_n 81 [] [] [.int (Int32.ofInt 0)] h [true, false, true] 18 hq rfl ⟨rfl, (show xe_c .ne (xg 0 h.2.1 8 3) (Int32.ofInt 2) = false by rw [show (xg 0 h.2.1 8 3) = (nI (tkk T n p)) from tk.1]; exact c15), (show xe_c .lt ((xg 0 h.2.1 8 5) - (xg 0 h.2.1 8 4)) (Int32.ofInt 2) = true by rw [show (xg 0 h.2.1 8 5) = (nI (tke T n p)) from (tk.2.2.1 (by omega)).2, show (xg 0 h.2.1 8 4) = (nI (tks T n p)) from tk.2.1, show ((nI (tke T n p)) - (nI (tks T n p))) = nI ((tke T n p) - (tks T n p)) from nI_sub (by omega)]; exact c16), trivial⟩ (fun hq => ?_)
              have b2 := of_decide_eq_false b2
              have b6 := of_decide_eq_false b6
              have b10 := of_decide_eq_false b10
              have b14 := of_decide_eq_true b14
              exact xq_ret rfl rfl rfl ⟨rfl, by rw [show nmt T n p = false from decide_eq_false (by omega)]; rfl⟩
            | false =>
              have z16 : ((tke T n p) - (tks T n p)) ≥ 2 := nq_ltf (a := ((tke T n p) - (tks T n p))) (b := 2) (by omega) (by omega) c16
              refine xq_n 81 [] [] [.int (Int32.ofInt 0)] h [true, false, false, true] 20 hq rfl ⟨rfl, (show xe_c .ne (xg 0 h.2.1 8 3) (Int32.ofInt 2) = false by rw [show (xg 0 h.2.1 8 3) = (nI (tkk T n p)) from tk.1]; exact c15), (show xe_c .lt ((xg 0 h.2.1 8 5) - (xg 0 h.2.1 8 4)) (Int32.ofInt 2) = false by rw [show (xg 0 h.2.1 8 5) = (nI (tke T n p)) from (tk.2.2.1 (by omega)).2, show (xg 0 h.2.1 8 4) = (nI (tks T n p)) from tk.2.1, show ((nI (tke T n p)) - (nI (tks T n p))) = nI ((tke T n p) - (tks T n p)) from nI_sub (by omega)]; exact c16), (by decide), trivial⟩ (fun hq => ?_)
              have b2 := of_decide_eq_false b2
              have b6 := of_decide_eq_false b6
              have b10 := of_decide_eq_false b10
              have b14 := of_decide_eq_true b14
              exact xq_ret rfl rfl rfl ⟨rfl, by rw [show nmt T n p = false from decide_eq_false (by omega)]; rfl⟩
        | false =>
          have db14 := of_decide_eq_false b14
          refine xq_n 39 [0] [(0, .ref 8)] [.float 6, .ref 8] h [false] 5 hq rfl ⟨rfl, trivial⟩ (fun hq => ?_)
          refine xq_run hq rfl rfl (iw4_q hc tk hq) ?_
          rintro v17 h_v17 ⟨rfl, rfl⟩
          cases b18 : (ky T n p 4) with
          | true =>
            have db18 := of_decide_eq_true b18
            cases c19 : xe_c .ne (nI (tkk T n p)) (Int32.ofInt 2) with
            | true =>
              have z19 : (tkk T n p) ≠ 2 := nq_net (a := (tkk T n p)) (b := 2) (by omega) (by omega) c19
              refine xq_n 81 [] [] [.int (Int32.ofInt 0)] h [false, true] 11 hq rfl ⟨rfl, (show xe_c .ne (xg 0 h.2.1 8 3) (Int32.ofInt 2) = true by rw [show (xg 0 h.2.1 8 3) = (nI (tkk T n p)) from tk.1]; exact c19), trivial⟩ (fun hq => ?_)
              have b2 := of_decide_eq_false b2
              have b6 := of_decide_eq_false b6
              have b10 := of_decide_eq_false b10
              have b14 := of_decide_eq_false b14
              have b18 := of_decide_eq_true b18
              exact xq_ret rfl rfl rfl ⟨rfl, by rw [show nmt T n p = false from decide_eq_false (by omega)]; rfl⟩
            | false =>
              have z19 : (tkk T n p) = 2 := nq_nef (a := (tkk T n p)) (b := 2) (by omega) (by omega) c19
              have gt := tke_gt (T := T) (n := n) (p := p) (by omega)
              cases c20 : xe_c .lt (nI ((tke T n p) - (tks T n p))) (Int32.ofInt 2) with
              | true =>
                have z20 : ((tke T n p) - (tks T n p)) < 2 := nq_ltt (a := ((tke T n p) - (tks T n p))) (b := 2) (by omega) (by omega) c20
                refine xq_n 81 [] [] [.int (Int32.ofInt 0)] h [false, false, true] 18 hq rfl ⟨rfl, (show xe_c .ne (xg 0 h.2.1 8 3) (Int32.ofInt 2) = false by rw [show (xg 0 h.2.1 8 3) = (nI (tkk T n p)) from tk.1]; exact c19), (show xe_c .lt ((xg 0 h.2.1 8 5) - (xg 0 h.2.1 8 4)) (Int32.ofInt 2) = true by rw [show (xg 0 h.2.1 8 5) = (nI (tke T n p)) from (tk.2.2.1 (by omega)).2, show (xg 0 h.2.1 8 4) = (nI (tks T n p)) from tk.2.1, show ((nI (tke T n p)) - (nI (tks T n p))) = nI ((tke T n p) - (tks T n p)) from nI_sub (by omega)]; exact c20), trivial⟩ (fun hq => ?_)
                have b2 := of_decide_eq_false b2
                have b6 := of_decide_eq_false b6
                have b10 := of_decide_eq_false b10
                have b14 := of_decide_eq_false b14
                have b18 := of_decide_eq_true b18
                exact xq_ret rfl rfl rfl ⟨rfl, by rw [show nmt T n p = false from decide_eq_false (by omega)]; rfl⟩
              | false =>
                have z20 : ((tke T n p) - (tks T n p)) ≥ 2 := nq_ltf (a := ((tke T n p) - (tks T n p))) (b := 2) (by omega) (by omega) c20
                refine xq_n 81 [] [] [.int (Int32.ofInt 0)] h [false, false, false, true] 20 hq rfl ⟨rfl, (show xe_c .ne (xg 0 h.2.1 8 3) (Int32.ofInt 2) = false by rw [show (xg 0 h.2.1 8 3) = (nI (tkk T n p)) from tk.1]; exact c19), (show xe_c .lt ((xg 0 h.2.1 8 5) - (xg 0 h.2.1 8 4)) (Int32.ofInt 2) = false by rw [show (xg 0 h.2.1 8 5) = (nI (tke T n p)) from (tk.2.2.1 (by omega)).2, show (xg 0 h.2.1 8 4) = (nI (tks T n p)) from tk.2.1, show ((nI (tke T n p)) - (nI (tks T n p))) = nI ((tke T n p) - (tks T n p)) from nI_sub (by omega)]; exact c20), (by decide), trivial⟩ (fun hq => ?_)
                have b2 := of_decide_eq_false b2
                have b6 := of_decide_eq_false b6
                have b10 := of_decide_eq_false b10
                have b14 := of_decide_eq_false b14
                have b18 := of_decide_eq_true b18
                exact xq_ret rfl rfl rfl ⟨rfl, by rw [show nmt T n p = false from decide_eq_false (by omega)]; rfl⟩
          | false =>
            have db18 := of_decide_eq_false b18
            cases c21 : xe_c .ne (nI (tkk T n p)) (Int32.ofInt 2) with
            | true =>
              have z21 : (tkk T n p) ≠ 2 := nq_net (a := (tkk T n p)) (b := 2) (by omega) (by omega) c21
              refine xq_n 81 [] [] [.int (Int32.ofInt 0)] h [true, true] 10 hq rfl ⟨rfl, (show xe_c .ne (xg 0 h.2.1 8 3) (Int32.ofInt 2) = true by rw [show (xg 0 h.2.1 8 3) = (nI (tkk T n p)) from tk.1]; exact c21), trivial⟩ (fun hq => ?_)
              have b2 := of_decide_eq_false b2
              have b6 := of_decide_eq_false b6
              have b10 := of_decide_eq_false b10
              have b14 := of_decide_eq_false b14
              have b18 := of_decide_eq_false b18
              exact xq_ret rfl rfl rfl ⟨rfl, by rw [show nmt T n p = false from decide_eq_false (by omega)]; rfl⟩
            | false =>
              have z21 : (tkk T n p) = 2 := nq_nef (a := (tkk T n p)) (b := 2) (by omega) (by omega) c21
              have gt := tke_gt (T := T) (n := n) (p := p) (by omega)
              cases c22 : xe_c .lt (nI ((tke T n p) - (tks T n p))) (Int32.ofInt 2) with
              | true =>
                have z22 : ((tke T n p) - (tks T n p)) < 2 := nq_ltt (a := ((tke T n p) - (tks T n p))) (b := 2) (by omega) (by omega) c22
                refine xq_n 81 [] [] [.int (Int32.ofInt 0)] h [true, false, true] 17 hq rfl ⟨rfl, (show xe_c .ne (xg 0 h.2.1 8 3) (Int32.ofInt 2) = false by rw [show (xg 0 h.2.1 8 3) = (nI (tkk T n p)) from tk.1]; exact c21), (show xe_c .lt ((xg 0 h.2.1 8 5) - (xg 0 h.2.1 8 4)) (Int32.ofInt 2) = true by rw [show (xg 0 h.2.1 8 5) = (nI (tke T n p)) from (tk.2.2.1 (by omega)).2, show (xg 0 h.2.1 8 4) = (nI (tks T n p)) from tk.2.1, show ((nI (tke T n p)) - (nI (tks T n p))) = nI ((tke T n p) - (tks T n p)) from nI_sub (by omega)]; exact c22), trivial⟩ (fun hq => ?_)
                have b2 := of_decide_eq_false b2
                have b6 := of_decide_eq_false b6
                have b10 := of_decide_eq_false b10
                have b14 := of_decide_eq_false b14
                have b18 := of_decide_eq_false b18
                exact xq_ret rfl rfl rfl ⟨rfl, by rw [show nmt T n p = false from decide_eq_false (by omega)]; rfl⟩
              | false =>
                have z22 : ((tke T n p) - (tks T n p)) ≥ 2 := nq_ltf (a := ((tke T n p) - (tks T n p))) (b := 2) (by omega) (by omega) c22
                refine xq_n 81 [] [] [.int (Int32.ofInt 1)] h [true, false, false, false] 20 hq rfl ⟨rfl, (show xe_c .ne (xg 0 h.2.1 8 3) (Int32.ofInt 2) = false by rw [show (xg 0 h.2.1 8 3) = (nI (tkk T n p)) from tk.1]; exact c21), (show xe_c .lt ((xg 0 h.2.1 8 5) - (xg 0 h.2.1 8 4)) (Int32.ofInt 2) = false by rw [show (xg 0 h.2.1 8 5) = (nI (tke T n p)) from (tk.2.2.1 (by omega)).2, show (xg 0 h.2.1 8 4) = (nI (tks T n p)) from tk.2.1, show ((nI (tke T n p)) - (nI (tks T n p))) = nI ((tke T n p) - (tks T n p)) from nI_sub (by omega)]; exact c22), (by decide), trivial⟩ (fun hq => ?_)
                have b2 := of_decide_eq_false b2
                have b6 := of_decide_eq_false b6
                have b10 := of_decide_eq_false b10
                have b14 := of_decide_eq_false b14
                have b18 := of_decide_eq_false b18
                exact xq_ret rfl rfl rfl ⟨rfl, by rw [show nmt T n p = true from decide_eq_true (by omega)]; rfl⟩
set_option maxRecDepth 100000 in
set_option maxHeartbeats 4000000 in
theorem lo_q {f n p : Nat} {T : Nat → Nat} {h : xh_H} (hc : ct h T n) (tk : tok h T n p) (hq : a_rq a_tb h) : xq f xi_X6_isLone xmi_X6_isLone 0 [(0, .ref 8)] [] h (fun v h' => h = h' ∧ v = some (.int (bl (lone T n p)))) := by
  have n6 := hc.2.1
  have hT : ∀ k, k < n → T k < 256 := fun k hk' => (hc.2.2 k hk').1
  have k256 := tkk_lt (p := p) hT
  have sle := tks_le (T := T) (n := n) (p := p)
  cases c1 : xe_c .ne (nI (tkk T n p)) (Int32.ofInt 2) with
  | true =>
    have z1 : (tkk T n p) ≠ 2 := nq_net (a := (tkk T n p)) (b := 2) (by omega) (by omega) c1
    refine xq_n 26 [] [] [.int (Int32.ofInt 0)] h [true] 7 hq rfl ⟨(show xe_c .ne (xg 0 h.2.1 8 3) (Int32.ofInt 2) = true by rw [show (xg 0 h.2.1 8 3) = (nI (tkk T n p)) from tk.1]; exact c1), trivial⟩ (fun hq => ?_)
    exact xq_ret rfl rfl rfl ⟨rfl, by rw [show lone T n p = false from decide_eq_false (by omega)]; rfl⟩
  | false =>
    have z1 : (tkk T n p) = 2 := nq_nef (a := (tkk T n p)) (b := 2) (by omega) (by omega) c1
    have gt := tke_gt (T := T) (n := n) (p := p) (by omega)
    cases c2 : xe_c .ne (nI ((tke T n p) - (tks T n p))) (Int32.ofInt 1) with
    | true =>
      have z2 : ((tke T n p) - (tks T n p)) ≠ 1 := nq_net (a := ((tke T n p) - (tks T n p))) (b := 1) (by omega) (by omega) c2
      refine xq_n 26 [] [] [.int (Int32.ofInt 0)] h [false, true] 14 hq rfl ⟨(show xe_c .ne (xg 0 h.2.1 8 3) (Int32.ofInt 2) = false by rw [show (xg 0 h.2.1 8 3) = (nI (tkk T n p)) from tk.1]; exact c1), (show xe_c .ne ((xg 0 h.2.1 8 5) - (xg 0 h.2.1 8 4)) (Int32.ofInt 1) = true by rw [show (xg 0 h.2.1 8 5) = (nI (tke T n p)) from (tk.2.2.1 (by omega)).2, show (xg 0 h.2.1 8 4) = (nI (tks T n p)) from tk.2.1, show ((nI (tke T n p)) - (nI (tks T n p))) = nI ((tke T n p) - (tks T n p)) from nI_sub (by omega)]; exact c2), trivial⟩ (fun hq => ?_)
      exact xq_ret rfl rfl rfl ⟨rfl, by rw [show lone T n p = false from decide_eq_false (by omega)]; rfl⟩
    | false =>
      have z2 : ((tke T n p) - (tks T n p)) = 1 := nq_nef (a := ((tke T n p) - (tks T n p))) (b := 1) (by omega) (by omega) c2
      refine xq_n 26 [] [] [.int (Int32.ofInt 1)] h [false, false] 15 hq rfl ⟨(show xe_c .ne (xg 0 h.2.1 8 3) (Int32.ofInt 2) = false by rw [show (xg 0 h.2.1 8 3) = (nI (tkk T n p)) from tk.1]; exact c1), (show xe_c .ne ((xg 0 h.2.1 8 5) - (xg 0 h.2.1 8 4)) (Int32.ofInt 1) = false by rw [show (xg 0 h.2.1 8 5) = (nI (tke T n p)) from (tk.2.2.1 (by omega)).2, show (xg 0 h.2.1 8 4) = (nI (tks T n p)) from tk.2.1, show ((nI (tke T n p)) - (nI (tks T n p))) = nI ((tke T n p) - (tks T n p)) from nI_sub (by omega)]; exact c2), trivial⟩ (fun hq => ?_)
      exact xq_ret rfl rfl rfl ⟨rfl, by rw [show lone T n p = true from decide_eq_true (by omega)]; rfl⟩
set_option maxRecDepth 100000 in
set_option maxHeartbeats 4000000 in
theorem let_q {f n p : Nat} {T : Nat → Nat} {h : xh_H} (hc : ct h T n) (tk : tok h T n p) (h2 : tkk T n p = 2) (hq : a_rq a_tb h) : xq f xi_X6_letter xmi_X6_letter 0 [(0, .ref 8)] [] h (fun v h' => h = h' ∧ v = some (.int (nI (T (tks T n p) - 97)))) := by
  have n6 := hc.2.1
  have hT : ∀ k, k < n → T k < 256 := fun k hk' => (hc.2.2 k hk').1
  have k256 := tkk_lt (p := p) hT
  have sle := tks_le (T := T) (n := n) (p := p)
  have gt := tke_gt (T := T) (n := n) (p := p) (by omega)
  have l1 := (tk2 h2).2.2 (tks T n p) (by omega) (by omega)
  refine xq_n 8 [0] [(0, .ref 8)] [.int (xg 0 h.2.1 8 4), .ref 1] h [] 6 hq rfl trivial (fun hq => ?_)
  rw [show (xg 0 h.2.1 8 4) = (nI (tks T n p)) from tk.2.1]
  refine xq_run hq rfl rfl (at_q hc (p := (tks T n p)) (by omega) hq) ?_
  rintro v1 h_v1 ⟨rfl, rfl⟩
  have tv1 := hT (tks T n p) (by omega)
  refine xq_n 14 [] [] [.int ((nI (T (tks T n p))) - 97)] h [] 4 hq rfl trivial (fun hq => ?_)
  rw [show ((nI (T (tks T n p))) - 97) = nI (T (tks T n p) - 97) from nI_sub (b := 97) (by omega)]
  exact xq_ret rfl rfl rfl ⟨rfl, rfl⟩
set_option maxRecDepth 100000 in
set_option maxHeartbeats 4000000 in
theorem lk_lp {n p a b : Nat} {T : Nat → Nat} {h : xh_H} (hc : ct h T n) (tk : tok h T n p) (h2 : tkk T n p = 2) (hb : b ≤ n) (hab0 : a ≤ b) (hab : ∀ k, k < b - a → 97 ≤ T (a + k) ∧ T (a + k) ≤ 122) (el : b - a = tke T n p - tks T n p) : ∀ (f i : Nat), a_rq a_tb h → i ≤ b - a → (∀ k, k < i → T (a + k) = T (tks T n p + k)) → xq f xi_X6_isLike xmi_X6_isLike 19 [(0, .ref 8), (1, .int (nI a)), (2, .int (nI b)), (3, .int (nI i))] [] h (fun v h' => h = h' ∧ v = some (.int (bl (decide (wv T a (b - a) = tkw T n p))))) := by
  have n6 := hc.2.1
  have hT : ∀ k, k < n → T k < 256 := fun k hk' => (hc.2.2 k hk').1
  have k256 := tkk_lt (p := p) hT
  have sle := tks_le (T := T) (n := n) (p := p)
  have gt := tke_gt (T := T) (n := n) (p := p) (by omega)
  have hts : ∀ k, k < tke T n p - tks T n p → 97 ≤ T (tks T n p + k) ∧ T (tks T n p + k) ≤ 122 := fun k hk' => (tk2 h2).2.2 _ (by omega) (by omega)
  intro f
  induction f with
  | zero => intros; exact xq_0
  | succ f ih =>
    intro i hq hi ha
    have ti : T (a + i) < 256 ∨ n ≤ a + i := by
      by_cases z : a + i < n
      · exact Or.inl (hT _ z)
      · exact Or.inr (by omega)
    have ti2 : T (tks T n p + i) < 256 ∨ n ≤ tks T n p + i := by
      by_cases z : tks T n p + i < n
      · exact Or.inl (hT _ z)
      · exact Or.inr (by omega)
    cases c1 : xe_c .ge (nI i) (nI (b - a)) with
    | true =>
      have z1 : i ≥ (b - a) := nq_get (a := i) (b := (b - a)) (by omega) (by omega) c1
      refine xq_m 61 [] [] [.int (Int32.ofInt 1)] h [true] 8 hq rfl ⟨(show xe_c .ge (nI i) ((nI b) - (nI a)) = true by rw [show ((nI b) - (nI a)) = nI (b - a) from nI_sub (by omega)]; exact c1), trivial⟩ (fun hq => ?_)
      exact xq_ret rfl rfl rfl ⟨rfl, by rw [show decide (wv T a (b - a) = tkw T n p) = true from decide_eq_true (by unfold tkw; rw [← el]; exact wv_c (fun k hk' => ha k (by omega)))]; rfl⟩
    | false =>
      have z1 : i < (b - a) := nq_gef (a := i) (b := (b - a)) (by omega) (by omega) c1
      refine xq_m 33 [0, 1, 2, 3] [(0, .ref 8), (1, .int (nI a)), (2, .int (nI b)), (3, .int (nI i))] [.int ((nI a) + (nI i)), .ref 1] h [false] 12 hq rfl ⟨(show xe_c .ge (nI i) ((nI b) - (nI a)) = false by rw [show ((nI b) - (nI a)) = nI (b - a) from nI_sub (by omega)]; exact c1), trivial⟩ (fun hq => ?_)
      rw [show ((nI a) + (nI i)) = nI (a + i) from nI_add _ _]
      refine xq_run hq rfl rfl (at_q hc (p := (a + i)) (by omega) hq) ?_
      rintro v2 h_v2 ⟨rfl, rfl⟩
      have tv2 := hT (a + i) (by omega)
      refine xq_n 46 [0, 1, 2, 3] [(0, .ref 8), (1, .int (nI a)), (2, .int (nI b)), (3, .int (nI i))] [.int ((xg 0 h.2.1 8 4) + (nI i)), .ref 1, .int (nI (T (a + i)))] h [] 8 hq rfl trivial (fun hq => ?_)
      rw [show (xg 0 h.2.1 8 4) = (nI (tks T n p)) from tk.2.1]
      rw [show ((nI (tks T n p)) + (nI i)) = nI ((tks T n p) + i) from nI_add _ _]
      refine xq_run hq rfl rfl (at_q hc (p := ((tks T n p) + i)) (by omega) hq) ?_
      rintro v3 h_v3 ⟨rfl, rfl⟩
      have tv3 := hT ((tks T n p) + i) (by omega)
      cases c4 : xe_c .eq (nI (T (a + i))) (nI (T ((tks T n p) + i))) with
      | true =>
        have z4 : (T (a + i)) = (T ((tks T n p) + i)) := nq_eqt (a := (T (a + i))) (b := (T ((tks T n p) + i))) (by omega) (by omega) c4
        refine xq_n 19 [0, 1, 2, 3] [(0, .ref 8), (1, .int (nI a)), (2, .int (nI b)), (3, .int ((nI i) + Int32.ofInt 1))] [] h [true] 5 hq rfl ⟨c4, trivial⟩ (fun hq => ?_)
        rw [show ((nI i) + Int32.ofInt 1) = nI (i + 1) from nI_1 _]
        exact ih (i + 1) hq (by omega) (fun k hk' => by
          by_cases ek : k = i
          · rw [ek]; exact z4
          · exact ha k (by omega))
      | false =>
        have z4 : (T (a + i)) ≠ (T ((tks T n p) + i)) := nq_eqf (a := (T (a + i))) (b := (T ((tks T n p) + i))) (by omega) (by omega) c4
        refine xq_n 53 [] [] [.int (Int32.ofInt 0)] h [false] 4 hq rfl ⟨c4, trivial⟩ (fun hq => ?_)
        exact xq_ret rfl rfl rfl ⟨rfl, by rw [show decide (wv T a (b - a) = tkw T n p) = false from decide_eq_false (fun y => z4 ((wv_inj (q := a) (r := tks T n p) hab hts y).2 i (by omega)))]; rfl⟩
set_option maxRecDepth 100000 in
set_option maxHeartbeats 4000000 in
theorem lk_q {f n p a b : Nat} {T : Nat → Nat} {h : xh_H} (hc : ct h T n) (tk : tok h T n p) (h2 : tkk T n p = 2) (hb : b ≤ n) (hab0 : a ≤ b) (hab : ∀ k, k < b - a → 97 ≤ T (a + k) ∧ T (a + k) ≤ 122) (hq : a_rq a_tb h) : xq f xi_X6_isLike xmi_X6_isLike 0 [(0, .ref 8), (1, .int (nI a)), (2, .int (nI b))] [] h (fun v h' => h = h' ∧ v = some (.int (bl (decide (wv T a (b - a) = tkw T n p))))) := by
  have n6 := hc.2.1
  have hT : ∀ k, k < n → T k < 256 := fun k hk' => (hc.2.2 k hk').1
  have k256 := tkk_lt (p := p) hT
  have sle := tks_le (T := T) (n := n) (p := p)
  have gt := tke_gt (T := T) (n := n) (p := p) (by omega)
  have hts : ∀ k, k < tke T n p - tks T n p → 97 ≤ T (tks T n p + k) ∧ T (tks T n p + k) ≤ 122 := fun k hk' => (tk2 h2).2.2 _ (by omega) (by omega)
  cases c1 : xe_c .eq (nI (b - a)) (nI ((tke T n p) - (tks T n p))) with
  | true =>
    have z1 : (b - a) = ((tke T n p) - (tks T n p)) := nq_eqt (a := (b - a)) (b := ((tke T n p) - (tks T n p))) (by omega) (by omega) c1
    refine xq_n 19 [0, 1, 2, 3] [(0, .ref 8), (1, .int (nI a)), (2, .int (nI b)), (3, .int (Int32.ofInt 0))] [] h [true] 13 hq rfl ⟨(show xe_c .eq ((nI b) - (nI a)) ((xg 0 h.2.1 8 5) - (xg 0 h.2.1 8 4)) = true by rw [show ((nI b) - (nI a)) = nI (b - a) from nI_sub (by omega), show (xg 0 h.2.1 8 5) = (nI (tke T n p)) from (tk.2.2.1 (by omega)).2, show (xg 0 h.2.1 8 4) = (nI (tks T n p)) from tk.2.1, show ((nI (tke T n p)) - (nI (tks T n p))) = nI ((tke T n p) - (tks T n p)) from nI_sub (by omega)]; exact c1), trivial⟩ (fun hq => ?_)
    exact lk_lp hc tk h2 hb hab0 hab z1 f 0 hq (by omega) (fun k hk' => by omega)
  | false =>
    have z1 : (b - a) ≠ ((tke T n p) - (tks T n p)) := nq_eqf (a := (b - a)) (b := ((tke T n p) - (tks T n p))) (by omega) (by omega) c1
    refine xq_n 16 [] [] [.int (Int32.ofInt 0)] h [false] 12 hq rfl ⟨(show xe_c .eq ((nI b) - (nI a)) ((xg 0 h.2.1 8 5) - (xg 0 h.2.1 8 4)) = false by rw [show ((nI b) - (nI a)) = nI (b - a) from nI_sub (by omega), show (xg 0 h.2.1 8 5) = (nI (tke T n p)) from (tk.2.2.1 (by omega)).2, show (xg 0 h.2.1 8 4) = (nI (tks T n p)) from tk.2.1, show ((nI (tke T n p)) - (nI (tks T n p))) = nI ((tke T n p) - (tks T n p)) from nI_sub (by omega)]; exact c1), trivial⟩ (fun hq => ?_)
    exact xq_ret rfl rfl rfl ⟨rfl, by rw [show decide (wv T a (b - a) = tkw T n p) = false from decide_eq_false (fun y => z1 ((wv_inj (q := a) (r := tks T n p) hab hts y).1))]; rfl⟩
end XWE
