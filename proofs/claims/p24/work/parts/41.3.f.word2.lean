section
section XWE
set_option maxRecDepth 100000 in
set_option maxHeartbeats 4000000 in
theorem iw0_q {f n p : Nat} {T : Nat → Nat} {h : xh_H} (hc : ct h T n) (tk : tok h T n p) (hq : a_rq a_tb h) : xq f xi_X6_isWord xmi_X6_isWord 0 [(0, .ref 8), (1, .float 2)] [] h (fun v h' => h = h' ∧ v = some (.int (bl (ky T n p 0)))) := by
  have n6 := hc.2.1
  have hT : ∀ k, k < n → T k < 256 := fun k hk' => (hc.2.2 k hk').1
  have k256 := tkk_lt (p := p) hT
  have sle := tks_le (T := T) (n := n) (p := p)
  cases c1 : xe_c .ne (nI (tkk T n p)) (Int32.ofInt 2) with
  | true =>
    have z1 : (tkk T n p) ≠ 2 := nq_net (a := (tkk T n p)) (b := 2) (by omega) (by omega) c1
    refine xq_n 25 [] [] [.int (Int32.ofInt 0)] h [true] 7 hq rfl ⟨(show xe_c .ne (xg 0 h.2.1 8 3) (Int32.ofInt 2) = true by rw [show (xg 0 h.2.1 8 3) = (nI (tkk T n p)) from tk.1]; exact c1), trivial⟩ (fun hq => ?_)
    refine xq_ret rfl rfl rfl ⟨rfl, ?_⟩
    rw [show ky T n p 0 = false from decide_eq_false (fun y => z1 y.1)]; rfl
  | false =>
    have z1 : (tkk T n p) = 2 := nq_nef (a := (tkk T n p)) (b := 2) (by omega) (by omega) c1
    have gt := tke_gt (T := T) (n := n) (p := p) (by omega)
    cases c2 : xe_c .eq (nI ((tke T n p) - (tks T n p))) 4 with
    | true =>
      have z2 : ((tke T n p) - (tks T n p)) = 4 := nq_eqt (a := ((tke T n p) - (tks T n p))) (b := 4) (by omega) (by omega) c2
      refine xq_n 46 [0, 1, 2] [(0, .ref 8), (1, .float 2), (2, .int (Int32.ofInt 0))] [.int ((xg 0 h.2.1 8 4) + (Int32.ofInt 0)), .ref 1] h [false, true, false] 26 hq rfl ⟨(show xe_c .ne (xg 0 h.2.1 8 3) (Int32.ofInt 2) = false by rw [show (xg 0 h.2.1 8 3) = (nI (tkk T n p)) from tk.1]; exact c1), (show xe_c .eq ((xg 0 h.2.1 8 5) - (xg 0 h.2.1 8 4)) 4 = true by rw [show (xg 0 h.2.1 8 5) = (nI (tke T n p)) from (tk.2.2.1 (by omega)).2, show (xg 0 h.2.1 8 4) = (nI (tks T n p)) from tk.2.1, show ((nI (tke T n p)) - (nI (tks T n p))) = nI ((tke T n p) - (tks T n p)) from nI_sub (by omega)]; exact c2), (by decide), trivial⟩ (fun hq => ?_)
      rw [show (xg 0 h.2.1 8 4) = (nI (tks T n p)) from tk.2.1]
      rw [show ((nI (tks T n p)) + (Int32.ofInt 0)) = nI ((tks T n p) + 0) from nI_add _ 0]
      refine xq_run hq rfl rfl (at_q hc (p := ((tks T n p) + 0)) (by omega) hq) ?_
      rintro v3 h_v3 ⟨rfl, rfl⟩
      have tv3 := hT ((tks T n p) + 0) (by omega)
      cases c4 : xe_c .eq (nI (T ((tks T n p) + 0))) 98 with
      | true =>
        have z4 : (T ((tks T n p) + 0)) = 98 := nq_eqt (a := (T ((tks T n p) + 0))) (b := 98) (by omega) (by omega) c4
        refine xq_n 46 [0, 1, 2] [(0, .ref 8), (1, .float 2), (2, .int ((Int32.ofInt 0) + Int32.ofInt 1))] [.int ((xg 0 h.2.1 8 4) + ((Int32.ofInt 0) + Int32.ofInt 1)), .ref 1] h [true, false] 18 hq rfl ⟨(show xe_c .eq (nI (T ((tks T n p) + 0))) (js_ch 0 (Int32.ofInt 0).toNatClampNeg) = true by rw [show (js_ch 0 (Int32.ofInt 0).toNatClampNeg) = 98 from rfl]; exact c4), (show xe_c .ge ((Int32.ofInt 0) + Int32.ofInt 1) 4 = false by rw [show ((Int32.ofInt 0) + Int32.ofInt 1) = Int32.ofInt 1 from rfl]; rfl), trivial⟩ (fun hq => ?_)
        rw [show (xg 0 h.2.1 8 4) = (nI (tks T n p)) from tk.2.1]
        rw [show ((Int32.ofInt 0) + Int32.ofInt 1) = Int32.ofInt 1 from rfl]
        rw [show ((nI (tks T n p)) + (Int32.ofInt 1)) = nI ((tks T n p) + 1) from nI_add _ 1]
        refine xq_run hq rfl rfl (at_q hc (p := ((tks T n p) + 1)) (by omega) hq) ?_
        rintro v5 h_v5 ⟨rfl, rfl⟩
        have tv5 := hT ((tks T n p) + 1) (by omega)
        cases c6 : xe_c .eq (nI (T ((tks T n p) + 1))) 111 with
        | true =>
          have z6 : (T ((tks T n p) + 1)) = 111 := nq_eqt (a := (T ((tks T n p) + 1))) (b := 111) (by omega) (by omega) c6
          refine xq_n 46 [0, 1, 2] [(0, .ref 8), (1, .float 2), (2, .int ((Int32.ofInt 1) + Int32.ofInt 1))] [.int ((xg 0 h.2.1 8 4) + ((Int32.ofInt 1) + Int32.ofInt 1)), .ref 1] h [true, false] 18 hq rfl ⟨(show xe_c .eq (nI (T ((tks T n p) + 1))) (js_ch 0 (Int32.ofInt 1).toNatClampNeg) = true by rw [show (js_ch 0 (Int32.ofInt 1).toNatClampNeg) = 111 from rfl]; exact c6), (show xe_c .ge ((Int32.ofInt 1) + Int32.ofInt 1) 4 = false by rw [show ((Int32.ofInt 1) + Int32.ofInt 1) = Int32.ofInt 2 from rfl]; rfl), trivial⟩ (fun hq => ?_)
          rw [show (xg 0 h.2.1 8 4) = (nI (tks T n p)) from tk.2.1]
          rw [show ((Int32.ofInt 1) + Int32.ofInt 1) = Int32.ofInt 2 from rfl]
          rw [show ((nI (tks T n p)) + (Int32.ofInt 2)) = nI ((tks T n p) + 2) from nI_add _ 2]
          refine xq_run hq rfl rfl (at_q hc (p := ((tks T n p) + 2)) (by omega) hq) ?_
          rintro v7 h_v7 ⟨rfl, rfl⟩
          have tv7 := hT ((tks T n p) + 2) (by omega)
          cases c8 : xe_c .eq (nI (T ((tks T n p) + 2))) 100 with
          | true =>
            have z8 : (T ((tks T n p) + 2)) = 100 := nq_eqt (a := (T ((tks T n p) + 2))) (b := 100) (by omega) (by omega) c8
            refine xq_n 46 [0, 1, 2] [(0, .ref 8), (1, .float 2), (2, .int ((Int32.ofInt 2) + Int32.ofInt 1))] [.int ((xg 0 h.2.1 8 4) + ((Int32.ofInt 2) + Int32.ofInt 1)), .ref 1] h [true, false] 18 hq rfl ⟨(show xe_c .eq (nI (T ((tks T n p) + 2))) (js_ch 0 (Int32.ofInt 2).toNatClampNeg) = true by rw [show (js_ch 0 (Int32.ofInt 2).toNatClampNeg) = 100 from rfl]; exact c8), (show xe_c .ge ((Int32.ofInt 2) + Int32.ofInt 1) 4 = false by rw [show ((Int32.ofInt 2) + Int32.ofInt 1) = Int32.ofInt 3 from rfl]; rfl), trivial⟩ (fun hq => ?_)
            rw [show (xg 0 h.2.1 8 4) = (nI (tks T n p)) from tk.2.1]
            rw [show ((Int32.ofInt 2) + Int32.ofInt 1) = Int32.ofInt 3 from rfl]
            rw [show ((nI (tks T n p)) + (Int32.ofInt 3)) = nI ((tks T n p) + 3) from nI_add _ 3]
            refine xq_run hq rfl rfl (at_q hc (p := ((tks T n p) + 3)) (by omega) hq) ?_
            rintro v9 h_v9 ⟨rfl, rfl⟩
            have tv9 := hT ((tks T n p) + 3) (by omega)
            cases c10 : xe_c .eq (nI (T ((tks T n p) + 3))) 121 with
            | true =>
              have z10 : (T ((tks T n p) + 3)) = 121 := nq_eqt (a := (T ((tks T n p) + 3))) (b := 121) (by omega) (by omega) c10
              refine xq_n 66 [] [] [.int (Int32.ofInt 1)] h [true, true] 13 hq rfl ⟨(show xe_c .eq (nI (T ((tks T n p) + 3))) (js_ch 0 (Int32.ofInt 3).toNatClampNeg) = true by rw [show (js_ch 0 (Int32.ofInt 3).toNatClampNeg) = 121 from rfl]; exact c10), (show xe_c .ge ((Int32.ofInt 3) + Int32.ofInt 1) 4 = true by rw [show ((Int32.ofInt 3) + Int32.ofInt 1) = Int32.ofInt 4 from rfl]; rfl), trivial⟩ (fun hq => ?_)
              refine xq_ret rfl rfl rfl ⟨rfl, ?_⟩
              rw [show ky T n p 0 = true from decide_eq_true ⟨z1, (wd_iff (by decide) z1).mpr ⟨by rw [show sN 0 = 4 from rfl]; omega, fun k hk' => ?_⟩⟩]
              · rfl
              · have hk' : k < 4 := hk'
                match k, hk' with
                | 0, _ => exact z4
                | 1, _ => exact z6
                | 2, _ => exact z8
                | 3, _ => exact z10
            | false =>
              have z10 : (T ((tks T n p) + 3)) ≠ 121 := nq_eqf (a := (T ((tks T n p) + 3))) (b := 121) (by omega) (by omega) c10
              refine xq_n 58 [] [] [.int (Int32.ofInt 0)] h [false] 7 hq rfl ⟨(show xe_c .eq (nI (T ((tks T n p) + 3))) (js_ch 0 (Int32.ofInt 3).toNatClampNeg) = false by rw [show (js_ch 0 (Int32.ofInt 3).toNatClampNeg) = 121 from rfl]; exact c10), trivial⟩ (fun hq => ?_)
              refine xq_ret rfl rfl rfl ⟨rfl, ?_⟩
              rw [show ky T n p 0 = false from decide_eq_false (fun y => z10 (((wd_iff (by decide) z1).mp y.2).2 3 (by decide)))]; rfl
          | false =>
            have z8 : (T ((tks T n p) + 2)) ≠ 100 := nq_eqf (a := (T ((tks T n p) + 2))) (b := 100) (by omega) (by omega) c8
            refine xq_n 58 [] [] [.int (Int32.ofInt 0)] h [false] 7 hq rfl ⟨(show xe_c .eq (nI (T ((tks T n p) + 2))) (js_ch 0 (Int32.ofInt 2).toNatClampNeg) = false by rw [show (js_ch 0 (Int32.ofInt 2).toNatClampNeg) = 100 from rfl]; exact c8), trivial⟩ (fun hq => ?_)
            refine xq_ret rfl rfl rfl ⟨rfl, ?_⟩
            rw [show ky T n p 0 = false from decide_eq_false (fun y => z8 (((wd_iff (by decide) z1).mp y.2).2 2 (by decide)))]; rfl
        | false =>
          have z6 : (T ((tks T n p) + 1)) ≠ 111 := nq_eqf (a := (T ((tks T n p) + 1))) (b := 111) (by omega) (by omega) c6
          refine xq_n 58 [] [] [.int (Int32.ofInt 0)] h [false] 7 hq rfl ⟨(show xe_c .eq (nI (T ((tks T n p) + 1))) (js_ch 0 (Int32.ofInt 1).toNatClampNeg) = false by rw [show (js_ch 0 (Int32.ofInt 1).toNatClampNeg) = 111 from rfl]; exact c6), trivial⟩ (fun hq => ?_)
          refine xq_ret rfl rfl rfl ⟨rfl, ?_⟩
          rw [show ky T n p 0 = false from decide_eq_false (fun y => z6 (((wd_iff (by decide) z1).mp y.2).2 1 (by decide)))]; rfl
      | false =>
        have z4 : (T ((tks T n p) + 0)) ≠ 98 := nq_eqf (a := (T ((tks T n p) + 0))) (b := 98) (by omega) (by omega) c4
        refine xq_n 58 [] [] [.int (Int32.ofInt 0)] h [false] 7 hq rfl ⟨(show xe_c .eq (nI (T ((tks T n p) + 0))) (js_ch 0 (Int32.ofInt 0).toNatClampNeg) = false by rw [show (js_ch 0 (Int32.ofInt 0).toNatClampNeg) = 98 from rfl]; exact c4), trivial⟩ (fun hq => ?_)
        refine xq_ret rfl rfl rfl ⟨rfl, ?_⟩
        rw [show ky T n p 0 = false from decide_eq_false (fun y => z4 (((wd_iff (by decide) z1).mp y.2).2 0 (by decide)))]; rfl
    | false =>
      have z2 : ((tke T n p) - (tks T n p)) ≠ 4 := nq_eqf (a := ((tke T n p) - (tks T n p))) (b := 4) (by omega) (by omega) c2
      refine xq_n 25 [] [] [.int (Int32.ofInt 0)] h [false, false] 15 hq rfl ⟨(show xe_c .ne (xg 0 h.2.1 8 3) (Int32.ofInt 2) = false by rw [show (xg 0 h.2.1 8 3) = (nI (tkk T n p)) from tk.1]; exact c1), (show xe_c .eq ((xg 0 h.2.1 8 5) - (xg 0 h.2.1 8 4)) 4 = false by rw [show (xg 0 h.2.1 8 5) = (nI (tke T n p)) from (tk.2.2.1 (by omega)).2, show (xg 0 h.2.1 8 4) = (nI (tks T n p)) from tk.2.1, show ((nI (tke T n p)) - (nI (tks T n p))) = nI ((tke T n p) - (tks T n p)) from nI_sub (by omega)]; exact c2), trivial⟩ (fun hq => ?_)
      refine xq_ret rfl rfl rfl ⟨rfl, ?_⟩
      rw [show ky T n p 0 = false from decide_eq_false (fun y => z2 ((wd_iff (by decide) z1).mp y.2).1)]; rfl
set_option maxRecDepth 100000 in
set_option maxHeartbeats 4000000 in
theorem iw1_q {f n p : Nat} {T : Nat → Nat} {h : xh_H} (hc : ct h T n) (tk : tok h T n p) (hq : a_rq a_tb h) : xq f xi_X6_isWord xmi_X6_isWord 0 [(0, .ref 8), (1, .float 3)] [] h (fun v h' => h = h' ∧ v = some (.int (bl (ky T n p 1)))) := by
  have n6 := hc.2.1
  have hT : ∀ k, k < n → T k < 256 := fun k hk' => (hc.2.2 k hk').1
  have k256 := tkk_lt (p := p) hT
  have sle := tks_le (T := T) (n := n) (p := p)
  cases c1 : xe_c .ne (nI (tkk T n p)) (Int32.ofInt 2) with
  | true =>
    have z1 : (tkk T n p) ≠ 2 := nq_net (a := (tkk T n p)) (b := 2) (by omega) (by omega) c1
    refine xq_n 25 [] [] [.int (Int32.ofInt 0)] h [true] 7 hq rfl ⟨(show xe_c .ne (xg 0 h.2.1 8 3) (Int32.ofInt 2) = true by rw [show (xg 0 h.2.1 8 3) = (nI (tkk T n p)) from tk.1]; exact c1), trivial⟩ (fun hq => ?_)
    refine xq_ret rfl rfl rfl ⟨rfl, ?_⟩
    rw [show ky T n p 1 = false from decide_eq_false (fun y => z1 y.1)]; rfl
  | false =>
    have z1 : (tkk T n p) = 2 := nq_nef (a := (tkk T n p)) (b := 2) (by omega) (by omega) c1
    have gt := tke_gt (T := T) (n := n) (p := p) (by omega)
    cases c2 : xe_c .eq (nI ((tke T n p) - (tks T n p))) 5 with
    | true =>
      have z2 : ((tke T n p) - (tks T n p)) = 5 := nq_eqt (a := ((tke T n p) - (tks T n p))) (b := 5) (by omega) (by omega) c2
      refine xq_n 46 [0, 1, 2] [(0, .ref 8), (1, .float 3), (2, .int (Int32.ofInt 0))] [.int ((xg 0 h.2.1 8 4) + (Int32.ofInt 0)), .ref 1] h [false, true, false] 26 hq rfl ⟨(show xe_c .ne (xg 0 h.2.1 8 3) (Int32.ofInt 2) = false by rw [show (xg 0 h.2.1 8 3) = (nI (tkk T n p)) from tk.1]; exact c1), (show xe_c .eq ((xg 0 h.2.1 8 5) - (xg 0 h.2.1 8 4)) 5 = true by rw [show (xg 0 h.2.1 8 5) = (nI (tke T n p)) from (tk.2.2.1 (by omega)).2, show (xg 0 h.2.1 8 4) = (nI (tks T n p)) from tk.2.1, show ((nI (tke T n p)) - (nI (tks T n p))) = nI ((tke T n p) - (tks T n p)) from nI_sub (by omega)]; exact c2), (by decide), trivial⟩ (fun hq => ?_)
      rw [show (xg 0 h.2.1 8 4) = (nI (tks T n p)) from tk.2.1]
      rw [show ((nI (tks T n p)) + (Int32.ofInt 0)) = nI ((tks T n p) + 0) from nI_add _ 0]
      refine xq_run hq rfl rfl (at_q hc (p := ((tks T n p) + 0)) (by omega) hq) ?_
      rintro v3 h_v3 ⟨rfl, rfl⟩
      have tv3 := hT ((tks T n p) + 0) (by omega)
      cases c4 : xe_c .eq (nI (T ((tks T n p) + 0))) 99 with
      | true =>
        have z4 : (T ((tks T n p) + 0)) = 99 := nq_eqt (a := (T ((tks T n p) + 0))) (b := 99) (by omega) (by omega) c4
        refine xq_n 46 [0, 1, 2] [(0, .ref 8), (1, .float 3), (2, .int ((Int32.ofInt 0) + Int32.ofInt 1))] [.int ((xg 0 h.2.1 8 4) + ((Int32.ofInt 0) + Int32.ofInt 1)), .ref 1] h [true, false] 18 hq rfl ⟨(show xe_c .eq (nI (T ((tks T n p) + 0))) (js_ch 1 (Int32.ofInt 0).toNatClampNeg) = true by rw [show (js_ch 1 (Int32.ofInt 0).toNatClampNeg) = 99 from rfl]; exact c4), (show xe_c .ge ((Int32.ofInt 0) + Int32.ofInt 1) 5 = false by rw [show ((Int32.ofInt 0) + Int32.ofInt 1) = Int32.ofInt 1 from rfl]; rfl), trivial⟩ (fun hq => ?_)
        rw [show (xg 0 h.2.1 8 4) = (nI (tks T n p)) from tk.2.1]
        rw [show ((Int32.ofInt 0) + Int32.ofInt 1) = Int32.ofInt 1 from rfl]
        rw [show ((nI (tks T n p)) + (Int32.ofInt 1)) = nI ((tks T n p) + 1) from nI_add _ 1]
        refine xq_run hq rfl rfl (at_q hc (p := ((tks T n p) + 1)) (by omega) hq) ?_
        rintro v5 h_v5 ⟨rfl, rfl⟩
        have tv5 := hT ((tks T n p) + 1) (by omega)
        cases c6 : xe_c .eq (nI (T ((tks T n p) + 1))) 97 with
        | true =>
          have z6 : (T ((tks T n p) + 1)) = 97 := nq_eqt (a := (T ((tks T n p) + 1))) (b := 97) (by omega) (by omega) c6
          refine xq_n 46 [0, 1, 2] [(0, .ref 8), (1, .float 3), (2, .int ((Int32.ofInt 1) + Int32.ofInt 1))] [.int ((xg 0 h.2.1 8 4) + ((Int32.ofInt 1) + Int32.ofInt 1)), .ref 1] h [true, false] 18 hq rfl ⟨(show xe_c .eq (nI (T ((tks T n p) + 1))) (js_ch 1 (Int32.ofInt 1).toNatClampNeg) = true by rw [show (js_ch 1 (Int32.ofInt 1).toNatClampNeg) = 97 from rfl]; exact c6), (show xe_c .ge ((Int32.ofInt 1) + Int32.ofInt 1) 5 = false by rw [show ((Int32.ofInt 1) + Int32.ofInt 1) = Int32.ofInt 2 from rfl]; rfl), trivial⟩ (fun hq => ?_)
          rw [show (xg 0 h.2.1 8 4) = (nI (tks T n p)) from tk.2.1]
          rw [show ((Int32.ofInt 1) + Int32.ofInt 1) = Int32.ofInt 2 from rfl]
          rw [show ((nI (tks T n p)) + (Int32.ofInt 2)) = nI ((tks T n p) + 2) from nI_add _ 2]
          refine xq_run hq rfl rfl (at_q hc (p := ((tks T n p) + 2)) (by omega) hq) ?_
          rintro v7 h_v7 ⟨rfl, rfl⟩
          have tv7 := hT ((tks T n p) + 2) (by omega)
          cases c8 : xe_c .eq (nI (T ((tks T n p) + 2))) 114 with
          | true =>
            have z8 : (T ((tks T n p) + 2)) = 114 := nq_eqt (a := (T ((tks T n p) + 2))) (b := 114) (by omega) (by omega) c8
            refine xq_n 46 [0, 1, 2] [(0, .ref 8), (1, .float 3), (2, .int ((Int32.ofInt 2) + Int32.ofInt 1))] [.int ((xg 0 h.2.1 8 4) + ((Int32.ofInt 2) + Int32.ofInt 1)), .ref 1] h [true, false] 18 hq rfl ⟨(show xe_c .eq (nI (T ((tks T n p) + 2))) (js_ch 1 (Int32.ofInt 2).toNatClampNeg) = true by rw [show (js_ch 1 (Int32.ofInt 2).toNatClampNeg) = 114 from rfl]; exact c8), (show xe_c .ge ((Int32.ofInt 2) + Int32.ofInt 1) 5 = false by rw [show ((Int32.ofInt 2) + Int32.ofInt 1) = Int32.ofInt 3 from rfl]; rfl), trivial⟩ (fun hq => ?_)
            rw [show (xg 0 h.2.1 8 4) = (nI (tks T n p)) from tk.2.1]
            rw [show ((Int32.ofInt 2) + Int32.ofInt 1) = Int32.ofInt 3 from rfl]
            rw [show ((nI (tks T n p)) + (Int32.ofInt 3)) = nI ((tks T n p) + 3) from nI_add _ 3]
            refine xq_run hq rfl rfl (at_q hc (p := ((tks T n p) + 3)) (by omega) hq) ?_
            rintro v9 h_v9 ⟨rfl, rfl⟩
            have tv9 := hT ((tks T n p) + 3) (by omega)
            cases c10 : xe_c .eq (nI (T ((tks T n p) + 3))) 114 with
            | true =>
              have z10 : (T ((tks T n p) + 3)) = 114 := nq_eqt (a := (T ((tks T n p) + 3))) (b := 114) (by omega) (by omega) c10
              refine xq_n 46 [0, 1, 2] [(0, .ref 8), (1, .float 3), (2, .int ((Int32.ofInt 3) + Int32.ofInt 1))] [.int ((xg 0 h.2.1 8 4) + ((Int32.ofInt 3) + Int32.ofInt 1)), .ref 1] h [true, false] 18 hq rfl ⟨(show xe_c .eq (nI (T ((tks T n p) + 3))) (js_ch 1 (Int32.ofInt 3).toNatClampNeg) = true by rw [show (js_ch 1 (Int32.ofInt 3).toNatClampNeg) = 114 from rfl]; exact c10), (show xe_c .ge ((Int32.ofInt 3) + Int32.ofInt 1) 5 = false by rw [show ((Int32.ofInt 3) + Int32.ofInt 1) = Int32.ofInt 4 from rfl]; rfl), trivial⟩ (fun hq => ?_)
              rw [show (xg 0 h.2.1 8 4) = (nI (tks T n p)) from tk.2.1]
              rw [show ((Int32.ofInt 3) + Int32.ofInt 1) = Int32.ofInt 4 from rfl]
              rw [show ((nI (tks T n p)) + (Int32.ofInt 4)) = nI ((tks T n p) + 4) from nI_add _ 4]
              refine xq_run hq rfl rfl (at_q hc (p := ((tks T n p) + 4)) (by omega) hq) ?_
              rintro v11 h_v11 ⟨rfl, rfl⟩
              have tv11 := hT ((tks T n p) + 4) (by omega)
              cases c12 : xe_c .eq (nI (T ((tks T n p) + 4))) 121 with
              | true =>
                have z12 : (T ((tks T n p) + 4)) = 121 := nq_eqt (a := (T ((tks T n p) + 4))) (b := 121) (by omega) (by omega) c12
                refine xq_n 66 [] [] [.int (Int32.ofInt 1)] h [true, true] 13 hq rfl ⟨(show xe_c .eq (nI (T ((tks T n p) + 4))) (js_ch 1 (Int32.ofInt 4).toNatClampNeg) = true by rw [show (js_ch 1 (Int32.ofInt 4).toNatClampNeg) = 121 from rfl]; exact c12), (show xe_c .ge ((Int32.ofInt 4) + Int32.ofInt 1) 5 = true by rw [show ((Int32.ofInt 4) + Int32.ofInt 1) = Int32.ofInt 5 from rfl]; rfl), trivial⟩ (fun hq => ?_)
                refine xq_ret rfl rfl rfl ⟨rfl, ?_⟩
                rw [show ky T n p 1 = true from decide_eq_true ⟨z1, (wd_iff (by decide) z1).mpr ⟨by rw [show sN 1 = 5 from rfl]; omega, fun k hk' => ?_⟩⟩]
                · rfl
                · have hk' : k < 5 := hk'
                  match k, hk' with
                  | 0, _ => exact z4
                  | 1, _ => exact z6
                  | 2, _ => exact z8
                  | 3, _ => exact z10
                  | 4, _ => exact z12
              | false =>
                have z12 : (T ((tks T n p) + 4)) ≠ 121 := nq_eqf (a := (T ((tks T n p) + 4))) (b := 121) (by omega) (by omega) c12
                refine xq_n 58 [] [] [.int (Int32.ofInt 0)] h [false] 7 hq rfl ⟨(show xe_c .eq (nI (T ((tks T n p) + 4))) (js_ch 1 (Int32.ofInt 4).toNatClampNeg) = false by rw [show (js_ch 1 (Int32.ofInt 4).toNatClampNeg) = 121 from rfl]; exact c12), trivial⟩ (fun hq => ?_)
                refine xq_ret rfl rfl rfl ⟨rfl, ?_⟩
                rw [show ky T n p 1 = false from decide_eq_false (fun y => z12 (((wd_iff (by decide) z1).mp y.2).2 4 (by decide)))]; rfl
            | false =>
              have z10 : (T ((tks T n p) + 3)) ≠ 114 := nq_eqf (a := (T ((tks T n p) + 3))) (b := 114) (by omega) (by omega) c10
              refine xq_n 58 [] [] [.int (Int32.ofInt 0)] h [false] 7 hq rfl ⟨(show xe_c .eq (nI (T ((tks T n p) + 3))) (js_ch 1 (Int32.ofInt 3).toNatClampNeg) = false by rw [show (js_ch 1 (Int32.ofInt 3).toNatClampNeg) = 114 from rfl]; exact c10), trivial⟩ (fun hq => ?_)
              refine xq_ret rfl rfl rfl ⟨rfl, ?_⟩
              rw [show ky T n p 1 = false from decide_eq_false (fun y => z10 (((wd_iff (by decide) z1).mp y.2).2 3 (by decide)))]; rfl
          | false =>
            have z8 : (T ((tks T n p) + 2)) ≠ 114 := nq_eqf (a := (T ((tks T n p) + 2))) (b := 114) (by omega) (by omega) c8
            refine xq_n 58 [] [] [.int (Int32.ofInt 0)] h [false] 7 hq rfl ⟨(show xe_c .eq (nI (T ((tks T n p) + 2))) (js_ch 1 (Int32.ofInt 2).toNatClampNeg) = false by rw [show (js_ch 1 (Int32.ofInt 2).toNatClampNeg) = 114 from rfl]; exact c8), trivial⟩ (fun hq => ?_)
            refine xq_ret rfl rfl rfl ⟨rfl, ?_⟩
            rw [show ky T n p 1 = false from decide_eq_false (fun y => z8 (((wd_iff (by decide) z1).mp y.2).2 2 (by decide)))]; rfl
        | false =>
          have z6 : (T ((tks T n p) + 1)) ≠ 97 := nq_eqf (a := (T ((tks T n p) + 1))) (b := 97) (by omega) (by omega) c6
          refine xq_n 58 [] [] [.int (Int32.ofInt 0)] h [false] 7 hq rfl ⟨(show xe_c .eq (nI (T ((tks T n p) + 1))) (js_ch 1 (Int32.ofInt 1).toNatClampNeg) = false by rw [show (js_ch 1 (Int32.ofInt 1).toNatClampNeg) = 97 from rfl]; exact c6), trivial⟩ (fun hq => ?_)
          refine xq_ret rfl rfl rfl ⟨rfl, ?_⟩
          rw [show ky T n p 1 = false from decide_eq_false (fun y => z6 (((wd_iff (by decide) z1).mp y.2).2 1 (by decide)))]; rfl
      | false =>
        have z4 : (T ((tks T n p) + 0)) ≠ 99 := nq_eqf (a := (T ((tks T n p) + 0))) (b := 99) (by omega) (by omega) c4
        refine xq_n 58 [] [] [.int (Int32.ofInt 0)] h [false] 7 hq rfl ⟨(show xe_c .eq (nI (T ((tks T n p) + 0))) (js_ch 1 (Int32.ofInt 0).toNatClampNeg) = false by rw [show (js_ch 1 (Int32.ofInt 0).toNatClampNeg) = 99 from rfl]; exact c4), trivial⟩ (fun hq => ?_)
        refine xq_ret rfl rfl rfl ⟨rfl, ?_⟩
        rw [show ky T n p 1 = false from decide_eq_false (fun y => z4 (((wd_iff (by decide) z1).mp y.2).2 0 (by decide)))]; rfl
    | false =>
      have z2 : ((tke T n p) - (tks T n p)) ≠ 5 := nq_eqf (a := ((tke T n p) - (tks T n p))) (b := 5) (by omega) (by omega) c2
      refine xq_n 25 [] [] [.int (Int32.ofInt 0)] h [false, false] 15 hq rfl ⟨(show xe_c .ne (xg 0 h.2.1 8 3) (Int32.ofInt 2) = false by rw [show (xg 0 h.2.1 8 3) = (nI (tkk T n p)) from tk.1]; exact c1), (show xe_c .eq ((xg 0 h.2.1 8 5) - (xg 0 h.2.1 8 4)) 5 = false by rw [show (xg 0 h.2.1 8 5) = (nI (tke T n p)) from (tk.2.2.1 (by omega)).2, show (xg 0 h.2.1 8 4) = (nI (tks T n p)) from tk.2.1, show ((nI (tke T n p)) - (nI (tks T n p))) = nI ((tke T n p) - (tks T n p)) from nI_sub (by omega)]; exact c2), trivial⟩ (fun hq => ?_)
      refine xq_ret rfl rfl rfl ⟨rfl, ?_⟩
      rw [show ky T n p 1 = false from decide_eq_false (fun y => z2 ((wd_iff (by decide) z1).mp y.2).1)]; rfl
set_option maxRecDepth 100000 in
set_option maxHeartbeats 4000000 in
theorem iw2_q {f n p : Nat} {T : Nat → Nat} {h : xh_H} (hc : ct h T n) (tk : tok h T n p) (hq : a_rq a_tb h) : xq f xi_X6_isWord xmi_X6_isWord 0 [(0, .ref 8), (1, .float 4)] [] h (fun v h' => h = h' ∧ v = some (.int (bl (ky T n p 2)))) := by
  have n6 := hc.2.1
  have hT : ∀ k, k < n → T k < 256 := fun k hk' => (hc.2.2 k hk').1
  have k256 := tkk_lt (p := p) hT
  have sle := tks_le (T := T) (n := n) (p := p)
  cases c1 : xe_c .ne (nI (tkk T n p)) (Int32.ofInt 2) with
  | true =>
    have z1 : (tkk T n p) ≠ 2 := nq_net (a := (tkk T n p)) (b := 2) (by omega) (by omega) c1
    refine xq_n 25 [] [] [.int (Int32.ofInt 0)] h [true] 7 hq rfl ⟨(show xe_c .ne (xg 0 h.2.1 8 3) (Int32.ofInt 2) = true by rw [show (xg 0 h.2.1 8 3) = (nI (tkk T n p)) from tk.1]; exact c1), trivial⟩ (fun hq => ?_)
    refine xq_ret rfl rfl rfl ⟨rfl, ?_⟩
    rw [show ky T n p 2 = false from decide_eq_false (fun y => z1 y.1)]; rfl
  | false =>
    have z1 : (tkk T n p) = 2 := nq_nef (a := (tkk T n p)) (b := 2) (by omega) (by omega) c1
    have gt := tke_gt (T := T) (n := n) (p := p) (by omega)
    cases c2 : xe_c .eq (nI ((tke T n p) - (tks T n p))) 3 with
    | true =>
      have z2 : ((tke T n p) - (tks T n p)) = 3 := nq_eqt (a := ((tke T n p) - (tks T n p))) (b := 3) (by omega) (by omega) c2
      refine xq_n 46 [0, 1, 2] [(0, .ref 8), (1, .float 4), (2, .int (Int32.ofInt 0))] [.int ((xg 0 h.2.1 8 4) + (Int32.ofInt 0)), .ref 1] h [false, true, false] 26 hq rfl ⟨(show xe_c .ne (xg 0 h.2.1 8 3) (Int32.ofInt 2) = false by rw [show (xg 0 h.2.1 8 3) = (nI (tkk T n p)) from tk.1]; exact c1), (show xe_c .eq ((xg 0 h.2.1 8 5) - (xg 0 h.2.1 8 4)) 3 = true by rw [show (xg 0 h.2.1 8 5) = (nI (tke T n p)) from (tk.2.2.1 (by omega)).2, show (xg 0 h.2.1 8 4) = (nI (tks T n p)) from tk.2.1, show ((nI (tke T n p)) - (nI (tks T n p))) = nI ((tke T n p) - (tks T n p)) from nI_sub (by omega)]; exact c2), (by decide), trivial⟩ (fun hq => ?_)
      rw [show (xg 0 h.2.1 8 4) = (nI (tks T n p)) from tk.2.1]
      rw [show ((nI (tks T n p)) + (Int32.ofInt 0)) = nI ((tks T n p) + 0) from nI_add _ 0]
      refine xq_run hq rfl rfl (at_q hc (p := ((tks T n p) + 0)) (by omega) hq) ?_
      rintro v3 h_v3 ⟨rfl, rfl⟩
      have tv3 := hT ((tks T n p) + 0) (by omega)
      cases c4 : xe_c .eq (nI (T ((tks T n p) + 0))) 97 with
      | true =>
        have z4 : (T ((tks T n p) + 0)) = 97 := nq_eqt (a := (T ((tks T n p) + 0))) (b := 97) (by omega) (by omega) c4
        refine xq_n 46 [0, 1, 2] [(0, .ref 8), (1, .float 4), (2, .int ((Int32.ofInt 0) + Int32.ofInt 1))] [.int ((xg 0 h.2.1 8 4) + ((Int32.ofInt 0) + Int32.ofInt 1)), .ref 1] h [true, false] 18 hq rfl ⟨(show xe_c .eq (nI (T ((tks T n p) + 0))) (js_ch 2 (Int32.ofInt 0).toNatClampNeg) = true by rw [show (js_ch 2 (Int32.ofInt 0).toNatClampNeg) = 97 from rfl]; exact c4), (show xe_c .ge ((Int32.ofInt 0) + Int32.ofInt 1) 3 = false by rw [show ((Int32.ofInt 0) + Int32.ofInt 1) = Int32.ofInt 1 from rfl]; rfl), trivial⟩ (fun hq => ?_)
        rw [show (xg 0 h.2.1 8 4) = (nI (tks T n p)) from tk.2.1]
        rw [show ((Int32.ofInt 0) + Int32.ofInt 1) = Int32.ofInt 1 from rfl]
        rw [show ((nI (tks T n p)) + (Int32.ofInt 1)) = nI ((tks T n p) + 1) from nI_add _ 1]
        refine xq_run hq rfl rfl (at_q hc (p := ((tks T n p) + 1)) (by omega) hq) ?_
        rintro v5 h_v5 ⟨rfl, rfl⟩
        have tv5 := hT ((tks T n p) + 1) (by omega)
        cases c6 : xe_c .eq (nI (T ((tks T n p) + 1))) 110 with
        | true =>
          have z6 : (T ((tks T n p) + 1)) = 110 := nq_eqt (a := (T ((tks T n p) + 1))) (b := 110) (by omega) (by omega) c6
          refine xq_n 46 [0, 1, 2] [(0, .ref 8), (1, .float 4), (2, .int ((Int32.ofInt 1) + Int32.ofInt 1))] [.int ((xg 0 h.2.1 8 4) + ((Int32.ofInt 1) + Int32.ofInt 1)), .ref 1] h [true, false] 18 hq rfl ⟨(show xe_c .eq (nI (T ((tks T n p) + 1))) (js_ch 2 (Int32.ofInt 1).toNatClampNeg) = true by rw [show (js_ch 2 (Int32.ofInt 1).toNatClampNeg) = 110 from rfl]; exact c6), (show xe_c .ge ((Int32.ofInt 1) + Int32.ofInt 1) 3 = false by rw [show ((Int32.ofInt 1) + Int32.ofInt 1) = Int32.ofInt 2 from rfl]; rfl), trivial⟩ (fun hq => ?_)
          rw [show (xg 0 h.2.1 8 4) = (nI (tks T n p)) from tk.2.1]
          rw [show ((Int32.ofInt 1) + Int32.ofInt 1) = Int32.ofInt 2 from rfl]
          rw [show ((nI (tks T n p)) + (Int32.ofInt 2)) = nI ((tks T n p) + 2) from nI_add _ 2]
          refine xq_run hq rfl rfl (at_q hc (p := ((tks T n p) + 2)) (by omega) hq) ?_
          rintro v7 h_v7 ⟨rfl, rfl⟩
          have tv7 := hT ((tks T n p) + 2) (by omega)
          cases c8 : xe_c .eq (nI (T ((tks T n p) + 2))) 100 with
          | true =>
            have z8 : (T ((tks T n p) + 2)) = 100 := nq_eqt (a := (T ((tks T n p) + 2))) (b := 100) (by omega) (by omega) c8
            refine xq_n 66 [] [] [.int (Int32.ofInt 1)] h [true, true] 13 hq rfl ⟨(show xe_c .eq (nI (T ((tks T n p) + 2))) (js_ch 2 (Int32.ofInt 2).toNatClampNeg) = true by rw [show (js_ch 2 (Int32.ofInt 2).toNatClampNeg) = 100 from rfl]; exact c8), (show xe_c .ge ((Int32.ofInt 2) + Int32.ofInt 1) 3 = true by rw [show ((Int32.ofInt 2) + Int32.ofInt 1) = Int32.ofInt 3 from rfl]; rfl), trivial⟩ (fun hq => ?_)
            refine xq_ret rfl rfl rfl ⟨rfl, ?_⟩
            rw [show ky T n p 2 = true from decide_eq_true ⟨z1, (wd_iff (by decide) z1).mpr ⟨by rw [show sN 2 = 3 from rfl]; omega, fun k hk' => ?_⟩⟩]
            · rfl
            · have hk' : k < 3 := hk'
              match k, hk' with
              | 0, _ => exact z4
              | 1, _ => exact z6
              | 2, _ => exact z8
          | false =>
            have z8 : (T ((tks T n p) + 2)) ≠ 100 := nq_eqf (a := (T ((tks T n p) + 2))) (b := 100) (by omega) (by omega) c8
            refine xq_n 58 [] [] [.int (Int32.ofInt 0)] h [false] 7 hq rfl ⟨(show xe_c .eq (nI (T ((tks T n p) + 2))) (js_ch 2 (Int32.ofInt 2).toNatClampNeg) = false by rw [show (js_ch 2 (Int32.ofInt 2).toNatClampNeg) = 100 from rfl]; exact c8), trivial⟩ (fun hq => ?_)
            refine xq_ret rfl rfl rfl ⟨rfl, ?_⟩
            rw [show ky T n p 2 = false from decide_eq_false (fun y => z8 (((wd_iff (by decide) z1).mp y.2).2 2 (by decide)))]; rfl
        | false =>
          have z6 : (T ((tks T n p) + 1)) ≠ 110 := nq_eqf (a := (T ((tks T n p) + 1))) (b := 110) (by omega) (by omega) c6
          refine xq_n 58 [] [] [.int (Int32.ofInt 0)] h [false] 7 hq rfl ⟨(show xe_c .eq (nI (T ((tks T n p) + 1))) (js_ch 2 (Int32.ofInt 1).toNatClampNeg) = false by rw [show (js_ch 2 (Int32.ofInt 1).toNatClampNeg) = 110 from rfl]; exact c6), trivial⟩ (fun hq => ?_)
          refine xq_ret rfl rfl rfl ⟨rfl, ?_⟩
          rw [show ky T n p 2 = false from decide_eq_false (fun y => z6 (((wd_iff (by decide) z1).mp y.2).2 1 (by decide)))]; rfl
      | false =>
        have z4 : (T ((tks T n p) + 0)) ≠ 97 := nq_eqf (a := (T ((tks T n p) + 0))) (b := 97) (by omega) (by omega) c4
        refine xq_n 58 [] [] [.int (Int32.ofInt 0)] h [false] 7 hq rfl ⟨(show xe_c .eq (nI (T ((tks T n p) + 0))) (js_ch 2 (Int32.ofInt 0).toNatClampNeg) = false by rw [show (js_ch 2 (Int32.ofInt 0).toNatClampNeg) = 97 from rfl]; exact c4), trivial⟩ (fun hq => ?_)
        refine xq_ret rfl rfl rfl ⟨rfl, ?_⟩
        rw [show ky T n p 2 = false from decide_eq_false (fun y => z4 (((wd_iff (by decide) z1).mp y.2).2 0 (by decide)))]; rfl
    | false =>
      have z2 : ((tke T n p) - (tks T n p)) ≠ 3 := nq_eqf (a := ((tke T n p) - (tks T n p))) (b := 3) (by omega) (by omega) c2
      refine xq_n 25 [] [] [.int (Int32.ofInt 0)] h [false, false] 15 hq rfl ⟨(show xe_c .ne (xg 0 h.2.1 8 3) (Int32.ofInt 2) = false by rw [show (xg 0 h.2.1 8 3) = (nI (tkk T n p)) from tk.1]; exact c1), (show xe_c .eq ((xg 0 h.2.1 8 5) - (xg 0 h.2.1 8 4)) 3 = false by rw [show (xg 0 h.2.1 8 5) = (nI (tke T n p)) from (tk.2.2.1 (by omega)).2, show (xg 0 h.2.1 8 4) = (nI (tks T n p)) from tk.2.1, show ((nI (tke T n p)) - (nI (tks T n p))) = nI ((tke T n p) - (tks T n p)) from nI_sub (by omega)]; exact c2), trivial⟩ (fun hq => ?_)
      refine xq_ret rfl rfl rfl ⟨rfl, ?_⟩
      rw [show ky T n p 2 = false from decide_eq_false (fun y => z2 ((wd_iff (by decide) z1).mp y.2).1)]; rfl
set_option maxRecDepth 100000 in
set_option maxHeartbeats 4000000 in
theorem iw3_q {f n p : Nat} {T : Nat → Nat} {h : xh_H} (hc : ct h T n) (tk : tok h T n p) (hq : a_rq a_tb h) : xq f xi_X6_isWord xmi_X6_isWord 0 [(0, .ref 8), (1, .float 5)] [] h (fun v h' => h = h' ∧ v = some (.int (bl (ky T n p 3)))) := by
  have n6 := hc.2.1
  have hT : ∀ k, k < n → T k < 256 := fun k hk' => (hc.2.2 k hk').1
  have k256 := tkk_lt (p := p) hT
  have sle := tks_le (T := T) (n := n) (p := p)
  cases c1 : xe_c .ne (nI (tkk T n p)) (Int32.ofInt 2) with
  | true =>
    have z1 : (tkk T n p) ≠ 2 := nq_net (a := (tkk T n p)) (b := 2) (by omega) (by omega) c1
    refine xq_n 25 [] [] [.int (Int32.ofInt 0)] h [true] 7 hq rfl ⟨(show xe_c .ne (xg 0 h.2.1 8 3) (Int32.ofInt 2) = true by rw [show (xg 0 h.2.1 8 3) = (nI (tkk T n p)) from tk.1]; exact c1), trivial⟩ (fun hq => ?_)
    refine xq_ret rfl rfl rfl ⟨rfl, ?_⟩
    rw [show ky T n p 3 = false from decide_eq_false (fun y => z1 y.1)]; rfl
  | false =>
    have z1 : (tkk T n p) = 2 := nq_nef (a := (tkk T n p)) (b := 2) (by omega) (by omega) c1
    have gt := tke_gt (T := T) (n := n) (p := p) (by omega)
    cases c2 : xe_c .eq (nI ((tke T n p) - (tks T n p))) 2 with
    | true =>
      have z2 : ((tke T n p) - (tks T n p)) = 2 := nq_eqt (a := ((tke T n p) - (tks T n p))) (b := 2) (by omega) (by omega) c2
      refine xq_n 46 [0, 1, 2] [(0, .ref 8), (1, .float 5), (2, .int (Int32.ofInt 0))] [.int ((xg 0 h.2.1 8 4) + (Int32.ofInt 0)), .ref 1] h [false, true, false] 26 hq rfl ⟨(show xe_c .ne (xg 0 h.2.1 8 3) (Int32.ofInt 2) = false by rw [show (xg 0 h.2.1 8 3) = (nI (tkk T n p)) from tk.1]; exact c1), (show xe_c .eq ((xg 0 h.2.1 8 5) - (xg 0 h.2.1 8 4)) 2 = true by rw [show (xg 0 h.2.1 8 5) = (nI (tke T n p)) from (tk.2.2.1 (by omega)).2, show (xg 0 h.2.1 8 4) = (nI (tks T n p)) from tk.2.1, show ((nI (tke T n p)) - (nI (tks T n p))) = nI ((tke T n p) - (tks T n p)) from nI_sub (by omega)]; exact c2), (by decide), trivial⟩ (fun hq => ?_)
      rw [show (xg 0 h.2.1 8 4) = (nI (tks T n p)) from tk.2.1]
      rw [show ((nI (tks T n p)) + (Int32.ofInt 0)) = nI ((tks T n p) + 0) from nI_add _ 0]
      refine xq_run hq rfl rfl (at_q hc (p := ((tks T n p) + 0)) (by omega) hq) ?_
      rintro v3 h_v3 ⟨rfl, rfl⟩
      have tv3 := hT ((tks T n p) + 0) (by omega)
      cases c4 : xe_c .eq (nI (T ((tks T n p) + 0))) 111 with
      | true =>
        have z4 : (T ((tks T n p) + 0)) = 111 := nq_eqt (a := (T ((tks T n p) + 0))) (b := 111) (by omega) (by omega) c4
        refine xq_n 46 [0, 1, 2] [(0, .ref 8), (1, .float 5), (2, .int ((Int32.ofInt 0) + Int32.ofInt 1))] [.int ((xg 0 h.2.1 8 4) + ((Int32.ofInt 0) + Int32.ofInt 1)), .ref 1] h [true, false] 18 hq rfl ⟨(show xe_c .eq (nI (T ((tks T n p) + 0))) (js_ch 3 (Int32.ofInt 0).toNatClampNeg) = true by rw [show (js_ch 3 (Int32.ofInt 0).toNatClampNeg) = 111 from rfl]; exact c4), (show xe_c .ge ((Int32.ofInt 0) + Int32.ofInt 1) 2 = false by rw [show ((Int32.ofInt 0) + Int32.ofInt 1) = Int32.ofInt 1 from rfl]; rfl), trivial⟩ (fun hq => ?_)
        rw [show (xg 0 h.2.1 8 4) = (nI (tks T n p)) from tk.2.1]
        rw [show ((Int32.ofInt 0) + Int32.ofInt 1) = Int32.ofInt 1 from rfl]
        rw [show ((nI (tks T n p)) + (Int32.ofInt 1)) = nI ((tks T n p) + 1) from nI_add _ 1]
        refine xq_run hq rfl rfl (at_q hc (p := ((tks T n p) + 1)) (by omega) hq) ?_
        rintro v5 h_v5 ⟨rfl, rfl⟩
        have tv5 := hT ((tks T n p) + 1) (by omega)
        cases c6 : xe_c .eq (nI (T ((tks T n p) + 1))) 114 with
        | true =>
          have z6 : (T ((tks T n p) + 1)) = 114 := nq_eqt (a := (T ((tks T n p) + 1))) (b := 114) (by omega) (by omega) c6
          refine xq_n 66 [] [] [.int (Int32.ofInt 1)] h [true, true] 13 hq rfl ⟨(show xe_c .eq (nI (T ((tks T n p) + 1))) (js_ch 3 (Int32.ofInt 1).toNatClampNeg) = true by rw [show (js_ch 3 (Int32.ofInt 1).toNatClampNeg) = 114 from rfl]; exact c6), (show xe_c .ge ((Int32.ofInt 1) + Int32.ofInt 1) 2 = true by rw [show ((Int32.ofInt 1) + Int32.ofInt 1) = Int32.ofInt 2 from rfl]; rfl), trivial⟩ (fun hq => ?_)
          refine xq_ret rfl rfl rfl ⟨rfl, ?_⟩
          rw [show ky T n p 3 = true from decide_eq_true ⟨z1, (wd_iff (by decide) z1).mpr ⟨by rw [show sN 3 = 2 from rfl]; omega, fun k hk' => ?_⟩⟩]
          · rfl
          · have hk' : k < 2 := hk'
            match k, hk' with
            | 0, _ => exact z4
            | 1, _ => exact z6
        | false =>
          have z6 : (T ((tks T n p) + 1)) ≠ 114 := nq_eqf (a := (T ((tks T n p) + 1))) (b := 114) (by omega) (by omega) c6
          refine xq_n 58 [] [] [.int (Int32.ofInt 0)] h [false] 7 hq rfl ⟨(show xe_c .eq (nI (T ((tks T n p) + 1))) (js_ch 3 (Int32.ofInt 1).toNatClampNeg) = false by rw [show (js_ch 3 (Int32.ofInt 1).toNatClampNeg) = 114 from rfl]; exact c6), trivial⟩ (fun hq => ?_)
          refine xq_ret rfl rfl rfl ⟨rfl, ?_⟩
          rw [show ky T n p 3 = false from decide_eq_false (fun y => z6 (((wd_iff (by decide) z1).mp y.2).2 1 (by decide)))]; rfl
      | false =>
        have z4 : (T ((tks T n p) + 0)) ≠ 111 := nq_eqf (a := (T ((tks T n p) + 0))) (b := 111) (by omega) (by omega) c4
        refine xq_n 58 [] [] [.int (Int32.ofInt 0)] h [false] 7 hq rfl ⟨(show xe_c .eq (nI (T ((tks T n p) + 0))) (js_ch 3 (Int32.ofInt 0).toNatClampNeg) = false by rw [show (js_ch 3 (Int32.ofInt 0).toNatClampNeg) = 111 from rfl]; exact c4), trivial⟩ (fun hq => ?_)
        refine xq_ret rfl rfl rfl ⟨rfl, ?_⟩
        rw [show ky T n p 3 = false from decide_eq_false (fun y => z4 (((wd_iff (by decide) z1).mp y.2).2 0 (by decide)))]; rfl
    | false =>
      have z2 : ((tke T n p) - (tks T n p)) ≠ 2 := nq_eqf (a := ((tke T n p) - (tks T n p))) (b := 2) (by omega) (by omega) c2
      refine xq_n 25 [] [] [.int (Int32.ofInt 0)] h [false, false] 15 hq rfl ⟨(show xe_c .ne (xg 0 h.2.1 8 3) (Int32.ofInt 2) = false by rw [show (xg 0 h.2.1 8 3) = (nI (tkk T n p)) from tk.1]; exact c1), (show xe_c .eq ((xg 0 h.2.1 8 5) - (xg 0 h.2.1 8 4)) 2 = false by rw [show (xg 0 h.2.1 8 5) = (nI (tke T n p)) from (tk.2.2.1 (by omega)).2, show (xg 0 h.2.1 8 4) = (nI (tks T n p)) from tk.2.1, show ((nI (tke T n p)) - (nI (tks T n p))) = nI ((tke T n p) - (tks T n p)) from nI_sub (by omega)]; exact c2), trivial⟩ (fun hq => ?_)
      refine xq_ret rfl rfl rfl ⟨rfl, ?_⟩
      rw [show ky T n p 3 = false from decide_eq_false (fun y => z2 ((wd_iff (by decide) z1).mp y.2).1)]; rfl
set_option maxRecDepth 100000 in
set_option maxHeartbeats 4000000 in
theorem iw4_q {f n p : Nat} {T : Nat → Nat} {h : xh_H} (hc : ct h T n) (tk : tok h T n p) (hq : a_rq a_tb h) : xq f xi_X6_isWord xmi_X6_isWord 0 [(0, .ref 8), (1, .float 6)] [] h (fun v h' => h = h' ∧ v = some (.int (bl (ky T n p 4)))) := by
  have n6 := hc.2.1
  have hT : ∀ k, k < n → T k < 256 := fun k hk' => (hc.2.2 k hk').1
  have k256 := tkk_lt (p := p) hT
  have sle := tks_le (T := T) (n := n) (p := p)
  cases c1 : xe_c .ne (nI (tkk T n p)) (Int32.ofInt 2) with
  | true =>
    have z1 : (tkk T n p) ≠ 2 := nq_net (a := (tkk T n p)) (b := 2) (by omega) (by omega) c1
    refine xq_n 25 [] [] [.int (Int32.ofInt 0)] h [true] 7 hq rfl ⟨(show xe_c .ne (xg 0 h.2.1 8 3) (Int32.ofInt 2) = true by rw [show (xg 0 h.2.1 8 3) = (nI (tkk T n p)) from tk.1]; exact c1), trivial⟩ (fun hq => ?_)
    refine xq_ret rfl rfl rfl ⟨rfl, ?_⟩
    rw [show ky T n p 4 = false from decide_eq_false (fun y => z1 y.1)]; rfl
  | false =>
    have z1 : (tkk T n p) = 2 := nq_nef (a := (tkk T n p)) (b := 2) (by omega) (by omega) c1
    have gt := tke_gt (T := T) (n := n) (p := p) (by omega)
    cases c2 : xe_c .eq (nI ((tke T n p) - (tks T n p))) 2 with
    | true =>
      have z2 : ((tke T n p) - (tks T n p)) = 2 := nq_eqt (a := ((tke T n p) - (tks T n p))) (b := 2) (by omega) (by omega) c2
      refine xq_n 46 [0, 1, 2] [(0, .ref 8), (1, .float 6), (2, .int (Int32.ofInt 0))] [.int ((xg 0 h.2.1 8 4) + (Int32.ofInt 0)), .ref 1] h [false, true, false] 26 hq rfl ⟨(show xe_c .ne (xg 0 h.2.1 8 3) (Int32.ofInt 2) = false by rw [show (xg 0 h.2.1 8 3) = (nI (tkk T n p)) from tk.1]; exact c1), (show xe_c .eq ((xg 0 h.2.1 8 5) - (xg 0 h.2.1 8 4)) 2 = true by rw [show (xg 0 h.2.1 8 5) = (nI (tke T n p)) from (tk.2.2.1 (by omega)).2, show (xg 0 h.2.1 8 4) = (nI (tks T n p)) from tk.2.1, show ((nI (tke T n p)) - (nI (tks T n p))) = nI ((tke T n p) - (tks T n p)) from nI_sub (by omega)]; exact c2), (by decide), trivial⟩ (fun hq => ?_)
      rw [show (xg 0 h.2.1 8 4) = (nI (tks T n p)) from tk.2.1]
      rw [show ((nI (tks T n p)) + (Int32.ofInt 0)) = nI ((tks T n p) + 0) from nI_add _ 0]
      refine xq_run hq rfl rfl (at_q hc (p := ((tks T n p) + 0)) (by omega) hq) ?_
      rintro v3 h_v3 ⟨rfl, rfl⟩
      have tv3 := hT ((tks T n p) + 0) (by omega)
      cases c4 : xe_c .eq (nI (T ((tks T n p) + 0))) 111 with
      | true =>
        have z4 : (T ((tks T n p) + 0)) = 111 := nq_eqt (a := (T ((tks T n p) + 0))) (b := 111) (by omega) (by omega) c4
        refine xq_n 46 [0, 1, 2] [(0, .ref 8), (1, .float 6), (2, .int ((Int32.ofInt 0) + Int32.ofInt 1))] [.int ((xg 0 h.2.1 8 4) + ((Int32.ofInt 0) + Int32.ofInt 1)), .ref 1] h [true, false] 18 hq rfl ⟨(show xe_c .eq (nI (T ((tks T n p) + 0))) (js_ch 4 (Int32.ofInt 0).toNatClampNeg) = true by rw [show (js_ch 4 (Int32.ofInt 0).toNatClampNeg) = 111 from rfl]; exact c4), (show xe_c .ge ((Int32.ofInt 0) + Int32.ofInt 1) 2 = false by rw [show ((Int32.ofInt 0) + Int32.ofInt 1) = Int32.ofInt 1 from rfl]; rfl), trivial⟩ (fun hq => ?_)
        rw [show (xg 0 h.2.1 8 4) = (nI (tks T n p)) from tk.2.1]
        rw [show ((Int32.ofInt 0) + Int32.ofInt 1) = Int32.ofInt 1 from rfl]
        rw [show ((nI (tks T n p)) + (Int32.ofInt 1)) = nI ((tks T n p) + 1) from nI_add _ 1]
        refine xq_run hq rfl rfl (at_q hc (p := ((tks T n p) + 1)) (by omega) hq) ?_
        rintro v5 h_v5 ⟨rfl, rfl⟩
        have tv5 := hT ((tks T n p) + 1) (by omega)
        cases c6 : xe_c .eq (nI (T ((tks T n p) + 1))) 102 with
        | true =>
          have z6 : (T ((tks T n p) + 1)) = 102 := nq_eqt (a := (T ((tks T n p) + 1))) (b := 102) (by omega) (by omega) c6
          refine xq_n 66 [] [] [.int (Int32.ofInt 1)] h [true, true] 13 hq rfl ⟨(show xe_c .eq (nI (T ((tks T n p) + 1))) (js_ch 4 (Int32.ofInt 1).toNatClampNeg) = true by rw [show (js_ch 4 (Int32.ofInt 1).toNatClampNeg) = 102 from rfl]; exact c6), (show xe_c .ge ((Int32.ofInt 1) + Int32.ofInt 1) 2 = true by rw [show ((Int32.ofInt 1) + Int32.ofInt 1) = Int32.ofInt 2 from rfl]; rfl), trivial⟩ (fun hq => ?_)
          refine xq_ret rfl rfl rfl ⟨rfl, ?_⟩
          rw [show ky T n p 4 = true from decide_eq_true ⟨z1, (wd_iff (by decide) z1).mpr ⟨by rw [show sN 4 = 2 from rfl]; omega, fun k hk' => ?_⟩⟩]
          · rfl
          · have hk' : k < 2 := hk'
            match k, hk' with
            | 0, _ => exact z4
            | 1, _ => exact z6
        | false =>
          have z6 : (T ((tks T n p) + 1)) ≠ 102 := nq_eqf (a := (T ((tks T n p) + 1))) (b := 102) (by omega) (by omega) c6
          refine xq_n 58 [] [] [.int (Int32.ofInt 0)] h [false] 7 hq rfl ⟨(show xe_c .eq (nI (T ((tks T n p) + 1))) (js_ch 4 (Int32.ofInt 1).toNatClampNeg) = false by rw [show (js_ch 4 (Int32.ofInt 1).toNatClampNeg) = 102 from rfl]; exact c6), trivial⟩ (fun hq => ?_)
          refine xq_ret rfl rfl rfl ⟨rfl, ?_⟩
          rw [show ky T n p 4 = false from decide_eq_false (fun y => z6 (((wd_iff (by decide) z1).mp y.2).2 1 (by decide)))]; rfl
      | false =>
        have z4 : (T ((tks T n p) + 0)) ≠ 111 := nq_eqf (a := (T ((tks T n p) + 0))) (b := 111) (by omega) (by omega) c4
        refine xq_n 58 [] [] [.int (Int32.ofInt 0)] h [false] 7 hq rfl ⟨(show xe_c .eq (nI (T ((tks T n p) + 0))) (js_ch 4 (Int32.ofInt 0).toNatClampNeg) = false by rw [show (js_ch 4 (Int32.ofInt 0).toNatClampNeg) = 111 from rfl]; exact c4), trivial⟩ (fun hq => ?_)
        refine xq_ret rfl rfl rfl ⟨rfl, ?_⟩
        rw [show ky T n p 4 = false from decide_eq_false (fun y => z4 (((wd_iff (by decide) z1).mp y.2).2 0 (by decide)))]; rfl
    | false =>
      have z2 : ((tke T n p) - (tks T n p)) ≠ 2 := nq_eqf (a := ((tke T n p) - (tks T n p))) (b := 2) (by omega) (by omega) c2
      refine xq_n 25 [] [] [.int (Int32.ofInt 0)] h [false, false] 15 hq rfl ⟨(show xe_c .ne (xg 0 h.2.1 8 3) (Int32.ofInt 2) = false by rw [show (xg 0 h.2.1 8 3) = (nI (tkk T n p)) from tk.1]; exact c1), (show xe_c .eq ((xg 0 h.2.1 8 5) - (xg 0 h.2.1 8 4)) 2 = false by rw [show (xg 0 h.2.1 8 5) = (nI (tke T n p)) from (tk.2.2.1 (by omega)).2, show (xg 0 h.2.1 8 4) = (nI (tks T n p)) from tk.2.1, show ((nI (tke T n p)) - (nI (tks T n p))) = nI ((tke T n p) - (tks T n p)) from nI_sub (by omega)]; exact c2), trivial⟩ (fun hq => ?_)
      refine xq_ret rfl rfl rfl ⟨rfl, ?_⟩
      rw [show ky T n p 4 = false from decide_eq_false (fun y => z2 ((wd_iff (by decide) z1).mp y.2).1)]; rfl
set_option maxRecDepth 100000 in
set_option maxHeartbeats 4000000 in
theorem nm_q {f n p : Nat} {T : Nat → Nat} {h : xh_H} (hc : ct h T n) (tk : tok h T n p) (hq : a_rq a_tb h) : xq f xi_X6_isName xmi_X6_isName 0 [(0, .ref 8)] [] h (fun v h' => h = h' ∧ v = some (.int (bl (nmt T n p)))) := by
  have n6 := hc.2.1
  have hT : ∀ k, k < n → T k < 256 := fun k hk' => (hc.2.2 k hk').1
  have k256 := tkk_lt (p := p) hT
  have sle := tks_le (T := T) (n := n) (p := p)
  refine xq_n 3 [0] [(0, .ref 8)] [.float 2, .ref 8] h [] 4 hq rfl trivial (fun hq => ?_)
  refine xq_run hq rfl rfl (iw0_q hc tk hq) ?_
  rintro v1 h_v1 ⟨rfl, rfl⟩
  cases b2 : (ky T n p 0) with
  | true =>
    have db2 := of_decide_eq_true b2
    cases c3 : xe_c .ne (nI (tkk T n p)) (Int32.ofInt 2) with
    | true =>
      have z3 : (tkk T n p) ≠ 2 := nq_net (a := (tkk T n p)) (b := 2) (by omega) (by omega) c3
      refine xq_n 81 [] [] [.int (Int32.ofInt 0)] h [true, true] 11 hq rfl ⟨rfl, (show xe_c .ne (xg 0 h.2.1 8 3) (Int32.ofInt 2) = true by rw [show (xg 0 h.2.1 8 3) = (nI (tkk T n p)) from tk.1]; exact c3), trivial⟩ (fun hq => ?_)
      have b2 := of_decide_eq_true b2
      exact xq_ret rfl rfl rfl ⟨rfl, by rw [show nmt T n p = false from decide_eq_false (by omega)]; rfl⟩
    | false =>
      have z3 : (tkk T n p) = 2 := nq_nef (a := (tkk T n p)) (b := 2) (by omega) (by omega) c3
      have gt := tke_gt (T := T) (n := n) (p := p) (by omega)
      cases c4 : xe_c .lt (nI ((tke T n p) - (tks T n p))) (Int32.ofInt 2) with
      | true =>
        have z4 : ((tke T n p) - (tks T n p)) < 2 := nq_ltt (a := ((tke T n p) - (tks T n p))) (b := 2) (by omega) (by omega) c4
        refine xq_n 81 [] [] [.int (Int32.ofInt 0)] h [true, false, true] 18 hq rfl ⟨rfl, (show xe_c .ne (xg 0 h.2.1 8 3) (Int32.ofInt 2) = false by rw [show (xg 0 h.2.1 8 3) = (nI (tkk T n p)) from tk.1]; exact c3), (show xe_c .lt ((xg 0 h.2.1 8 5) - (xg 0 h.2.1 8 4)) (Int32.ofInt 2) = true by rw [show (xg 0 h.2.1 8 5) = (nI (tke T n p)) from (tk.2.2.1 (by omega)).2, show (xg 0 h.2.1 8 4) = (nI (tks T n p)) from tk.2.1, show ((nI (tke T n p)) - (nI (tks T n p))) = nI ((tke T n p) - (tks T n p)) from nI_sub (by omega)]; exact c4), trivial⟩ (fun hq => ?_)
        have b2 := of_decide_eq_true b2
        exact xq_ret rfl rfl rfl ⟨rfl, by rw [show nmt T n p = false from decide_eq_false (by omega)]; rfl⟩
      | false =>
        have z4 : ((tke T n p) - (tks T n p)) ≥ 2 := nq_ltf (a := ((tke T n p) - (tks T n p))) (b := 2) (by omega) (by omega) c4
        refine xq_n 81 [] [] [.int (Int32.ofInt 0)] h [true, false, false, true] 20 hq rfl ⟨rfl, (show xe_c .ne (xg 0 h.2.1 8 3) (Int32.ofInt 2) = false by rw [show (xg 0 h.2.1 8 3) = (nI (tkk T n p)) from tk.1]; exact c3), (show xe_c .lt ((xg 0 h.2.1 8 5) - (xg 0 h.2.1 8 4)) (Int32.ofInt 2) = false by rw [show (xg 0 h.2.1 8 5) = (nI (tke T n p)) from (tk.2.2.1 (by omega)).2, show (xg 0 h.2.1 8 4) = (nI (tks T n p)) from tk.2.1, show ((nI (tke T n p)) - (nI (tks T n p))) = nI ((tke T n p) - (tks T n p)) from nI_sub (by omega)]; exact c4), (by decide), trivial⟩ (fun hq => ?_)
        have b2 := of_decide_eq_true b2
        exact xq_ret rfl rfl rfl ⟨rfl, by rw [show nmt T n p = false from decide_eq_false (by omega)]; rfl⟩
  | false =>
    have db2 := of_decide_eq_false b2
    refine xq_n 12 [0] [(0, .ref 8)] [.float 3, .ref 8] h [false] 5 hq rfl ⟨rfl, trivial⟩ (fun hq => ?_)
    refine xq_run hq rfl rfl (iw1_q hc tk hq) ?_
    rintro v5 h_v5 ⟨rfl, rfl⟩
    cases b6 : (ky T n p 1) with
    | true =>
      have db6 := of_decide_eq_true b6
      cases c7 : xe_c .ne (nI (tkk T n p)) (Int32.ofInt 2) with
      | true =>
        have z7 : (tkk T n p) ≠ 2 := nq_net (a := (tkk T n p)) (b := 2) (by omega) (by omega) c7
        refine xq_n 81 [] [] [.int (Int32.ofInt 0)] h [true, true] 11 hq rfl ⟨rfl, (show xe_c .ne (xg 0 h.2.1 8 3) (Int32.ofInt 2) = true by rw [show (xg 0 h.2.1 8 3) = (nI (tkk T n p)) from tk.1]; exact c7), trivial⟩ (fun hq => ?_)
        have b2 := of_decide_eq_false b2
        have b6 := of_decide_eq_true b6
        exact xq_ret rfl rfl rfl ⟨rfl, by rw [show nmt T n p = false from decide_eq_false (by omega)]; rfl⟩
      | false =>
        have z7 : (tkk T n p) = 2 := nq_nef (a := (tkk T n p)) (b := 2) (by omega) (by omega) c7
        have gt := tke_gt (T := T) (n := n) (p := p) (by omega)
        cases c8 : xe_c .lt (nI ((tke T n p) - (tks T n p))) (Int32.ofInt 2) with
        | true =>
          have z8 : ((tke T n p) - (tks T n p)) < 2 := nq_ltt (a := ((tke T n p) - (tks T n p))) (b := 2) (by omega) (by omega) c8
          refine xq_n 81 [] [] [.int (Int32.ofInt 0)] h [true, false, true] 18 hq rfl ⟨rfl, (show xe_c .ne (xg 0 h.2.1 8 3) (Int32.ofInt 2) = false by rw [show (xg 0 h.2.1 8 3) = (nI (tkk T n p)) from tk.1]; exact c7), (show xe_c .lt ((xg 0 h.2.1 8 5) - (xg 0 h.2.1 8 4)) (Int32.ofInt 2) = true by rw [show (xg 0 h.2.1 8 5) = (nI (tke T n p)) from (tk.2.2.1 (by omega)).2, show (xg 0 h.2.1 8 4) = (nI (tks T n p)) from tk.2.1, show ((nI (tke T n p)) - (nI (tks T n p))) = nI ((tke T n p) - (tks T n p)) from nI_sub (by omega)]; exact c8), trivial⟩ (fun hq => ?_)
          have b2 := of_decide_eq_false b2
          have b6 := of_decide_eq_true b6
          exact xq_ret rfl rfl rfl ⟨rfl, by rw [show nmt T n p = false from decide_eq_false (by omega)]; rfl⟩
        | false =>
          have z8 : ((tke T n p) - (tks T n p)) ≥ 2 := nq_ltf (a := ((tke T n p) - (tks T n p))) (b := 2) (by omega) (by omega) c8
          refine xq_n 81 [] [] [.int (Int32.ofInt 0)] h [true, false, false, true] 20 hq rfl ⟨rfl, (show xe_c .ne (xg 0 h.2.1 8 3) (Int32.ofInt 2) = false by rw [show (xg 0 h.2.1 8 3) = (nI (tkk T n p)) from tk.1]; exact c7), (show xe_c .lt ((xg 0 h.2.1 8 5) - (xg 0 h.2.1 8 4)) (Int32.ofInt 2) = false by rw [show (xg 0 h.2.1 8 5) = (nI (tke T n p)) from (tk.2.2.1 (by omega)).2, show (xg 0 h.2.1 8 4) = (nI (tks T n p)) from tk.2.1, show ((nI (tke T n p)) - (nI (tks T n p))) = nI ((tke T n p) - (tks T n p)) from nI_sub (by omega)]; exact c8), (by decide), trivial⟩ (fun hq => ?_)
          have b2 := of_decide_eq_false b2
          have b6 := of_decide_eq_true b6
          exact xq_ret rfl rfl rfl ⟨rfl, by rw [show nmt T n p = false from decide_eq_false (by omega)]; rfl⟩
    | false =>
      have db6 := of_decide_eq_false b6
      refine xq_n 21 [0] [(0, .ref 8)] [.float 4, .ref 8] h [false] 5 hq rfl ⟨rfl, trivial⟩ (fun hq => ?_)
      refine xq_run hq rfl rfl (iw2_q hc tk hq) ?_
      rintro v9 h_v9 ⟨rfl, rfl⟩
      cases b10 : (ky T n p 2) with
      | true =>
        have db10 := of_decide_eq_true b10
        cases c11 : xe_c .ne (nI (tkk T n p)) (Int32.ofInt 2) with
        | true =>
          have z11 : (tkk T n p) ≠ 2 := nq_net (a := (tkk T n p)) (b := 2) (by omega) (by omega) c11
          refine xq_n 81 [] [] [.int (Int32.ofInt 0)] h [true, true] 11 hq rfl ⟨rfl, (show xe_c .ne (xg 0 h.2.1 8 3) (Int32.ofInt 2) = true by rw [show (xg 0 h.2.1 8 3) = (nI (tkk T n p)) from tk.1]; exact c11), trivial⟩ (fun hq => ?_)
          have b2 := of_decide_eq_false b2
          have b6 := of_decide_eq_false b6
          have b10 := of_decide_eq_true b10
          exact xq_ret rfl rfl rfl ⟨rfl, by rw [show nmt T n p = false from decide_eq_false (by omega)]; rfl⟩
        | false =>
          have z11 : (tkk T n p) = 2 := nq_nef (a := (tkk T n p)) (b := 2) (by omega) (by omega) c11
          have gt := tke_gt (T := T) (n := n) (p := p) (by omega)
          cases c12 : xe_c .lt (nI ((tke T n p) - (tks T n p))) (Int32.ofInt 2) with
          | true =>
            have z12 : ((tke T n p) - (tks T n p)) < 2 := nq_ltt (a := ((tke T n p) - (tks T n p))) (b := 2) (by omega) (by omega) c12
            refine xq_n 81 [] [] [.int (Int32.ofInt 0)] h [true, false, true] 18 hq rfl ⟨rfl, (show xe_c .ne (xg 0 h.2.1 8 3) (Int32.ofInt 2) = false by rw [show (xg 0 h.2.1 8 3) = (nI (tkk T n p)) from tk.1]; exact c11), (show xe_c .lt ((xg 0 h.2.1 8 5) - (xg 0 h.2.1 8 4)) (Int32.ofInt 2) = true by rw [show (xg 0 h.2.1 8 5) = (nI (tke T n p)) from (tk.2.2.1 (by omega)).2, show (xg 0 h.2.1 8 4) = (nI (tks T n p)) from tk.2.1, show ((nI (tke T n p)) - (nI (tks T n p))) = nI ((tke T n p) - (tks T n p)) from nI_sub (by omega)]; exact c12), trivial⟩ (fun hq => ?_)
            have b2 := of_decide_eq_false b2
            have b6 := of_decide_eq_false b6
            have b10 := of_decide_eq_true b10
            exact xq_ret rfl rfl rfl ⟨rfl, by rw [show nmt T n p = false from decide_eq_false (by omega)]; rfl⟩
          | false =>
            have z12 : ((tke T n p) - (tks T n p)) ≥ 2 := nq_ltf (a := ((tke T n p) - (tks T n p))) (b := 2) (by omega) (by omega) c12
            refine xq_n 81 [] [] [.int (Int32.ofInt 0)] h [true, false, false, true] 20 hq rfl ⟨rfl, (show xe_c .ne (xg 0 h.2.1 8 3) (Int32.ofInt 2) = false by rw [show (xg 0 h.2.1 8 3) = (nI (tkk T n p)) from tk.1]; exact c11), (show xe_c .lt ((xg 0 h.2.1 8 5) - (xg 0 h.2.1 8 4)) (Int32.ofInt 2) = false by rw [show (xg 0 h.2.1 8 5) = (nI (tke T n p)) from (tk.2.2.1 (by omega)).2, show (xg 0 h.2.1 8 4) = (nI (tks T n p)) from tk.2.1, show ((nI (tke T n p)) - (nI (tks T n p))) = nI ((tke T n p) - (tks T n p)) from nI_sub (by omega)]; exact c12), (by decide), trivial⟩ (fun hq => ?_)
            have b2 := of_decide_eq_false b2
            have b6 := of_decide_eq_false b6
            have b10 := of_decide_eq_true b10
            exact xq_ret rfl rfl rfl ⟨rfl, by rw [show nmt T n p = false from decide_eq_false (by omega)]; rfl⟩
      | false =>
        have db10 := of_decide_eq_false b10
        refine xq_n 30 [0] [(0, .ref 8)] [.float 5, .ref 8] h [false] 5 hq rfl ⟨rfl, trivial⟩ (fun hq => ?_)
        refine xq_run hq rfl rfl (iw3_q hc tk hq) ?_
        rintro v13 h_v13 ⟨rfl, rfl⟩
        cases b14 : (ky T n p 3) with
        | true =>
          have db14 := of_decide_eq_true b14
          cases c15 : xe_c .ne (nI (tkk T n p)) (Int32.ofInt 2) with
          | true =>
            have z15 : (tkk T n p) ≠ 2 := nq_net (a := (tkk T n p)) (b := 2) (by omega) (by omega) c15
            refine xq_n 81 [] [] [.int (Int32.ofInt 0)] h [true, true] 11 hq rfl ⟨rfl, (show xe_c .ne (xg 0 h.2.1 8 3) (Int32.ofInt 2) = true by rw [show (xg 0 h.2.1 8 3) = (nI (tkk T n p)) from tk.1]; exact c15), trivial⟩ (fun hq => ?_)
            have b2 := of_decide_eq_false b2
            have b6 := of_decide_eq_false b6
            have b10 := of_decide_eq_false b10
            have b14 := of_decide_eq_true b14
            exact xq_ret rfl rfl rfl ⟨rfl, by rw [show nmt T n p = false from decide_eq_false (by omega)]; rfl⟩
          | false =>
            have z15 : (tkk T n p) = 2 := nq_nef (a := (tkk T n p)) (b := 2) (by omega) (by omega) c15
            have gt := tke_gt (T := T) (n := n) (p := p) (by omega)
            cases c16 : xe_c .lt (nI ((tke T n p) - (tks T n p))) (Int32.ofInt 2) with
            | true =>
              have z16 : ((tke T n p) - (tks T n p)) < 2 := nq_ltt (a := ((tke T n p) - (tks T n p))) (b := 2) (by omega) (by omega) c16
              refine xq_n 81 [] [] [.int (Int32.ofInt 0)] h [true, false, true] 18 hq rfl ⟨rfl, (show xe_c .ne (xg 0 h.2.1 8 3) (Int32.ofInt 2) = false by rw [show (xg 0 h.2.1 8 3) = (nI (tkk T n p)) from tk.1]; exact c15), (show xe_c .lt ((xg 0 h.2.1 8 5) - (xg 0 h.2.1 8 4)) (Int32.ofInt 2) = true by rw [show (xg 0 h.2.1 8 5) = (nI (tke T n p)) from (tk.2.2.1 (by omega)).2, show (xg 0 h.2.1 8 4) = (nI (tks T n p)) from tk.2.1, show ((nI (tke T n p)) - (nI (tks T n p))) = nI ((tke T n p) - (tks T n p)) from nI_sub (by omega)]; exact c16), trivial⟩ (fun hq => ?_)
              have b2 := of_decide_eq_false b2
              have b6 := of_decide_eq_false b6
              have b10 := of_decide_eq_false b10
              have b14 := of_decide_eq_true b14
              exact xq_ret rfl rfl rfl ⟨rfl, by rw [show nmt T n p = false from decide_eq_false (by omega)]; rfl⟩
            | false =>
              have z16 : ((tke T n p) - (tks T n p)) ≥ 2 := nq_ltf (a := ((tke T n p) - (tks T n p))) (b := 2) (by omega) (by omega) c16
              refine xq_n 81 [] [] [.int (Int32.ofInt 0)] h [true, false, false, true] 20 hq rfl ⟨rfl, (show xe_c .ne (xg 0 h.2.1 8 3) (Int32.ofInt 2) = false by rw [show (xg 0 h.2.1 8 3) = (nI (tkk T n p)) from tk.1]; exact c15), (show xe_c .lt ((xg 0 h.2.1 8 5) - (xg 0 h.2.1 8 4)) (Int32.ofInt 2) = false by rw [show (xg 0 h.2.1 8 5) = (nI (tke T n p)) from (tk.2.2.1 (by omega)).2, show (xg 0 h.2.1 8 4) = (nI (tks T n p)) from tk.2.1, show ((nI (tke T n p)) - (nI (tks T n p))) = nI ((tke T n p) - (tks T n p)) from nI_sub (by omega)]; exact c16), (by decide), trivial⟩ (fun hq => ?_)
              have b2 := of_decide_eq_false b2
              have b6 := of_decide_eq_false b6
              have b10 := of_decide_eq_false b10
              have b14 := of_decide_eq_true b14
              exact xq_ret rfl rfl rfl ⟨rfl, by rw [show nmt T n p = false from decide_eq_false (by omega)]; rfl⟩
        | false =>
          have db14 := of_decide_eq_false b14
          refine xq_n 39 [0] [(0, .ref 8)] [.float 6, .ref 8] h [false] 5 hq rfl ⟨rfl, trivial⟩ (fun hq => ?_)
          refine xq_run hq rfl rfl (iw4_q hc tk hq) ?_
          rintro v17 h_v17 ⟨rfl, rfl⟩
          cases b18 : (ky T n p 4) with
          | true =>
            have db18 := of_decide_eq_true b18
            cases c19 : xe_c .ne (nI (tkk T n p)) (Int32.ofInt 2) with
            | true =>
              have z19 : (tkk T n p) ≠ 2 := nq_net (a := (tkk T n p)) (b := 2) (by omega) (by omega) c19
              refine xq_n 81 [] [] [.int (Int32.ofInt 0)] h [false, true] 11 hq rfl ⟨rfl, (show xe_c .ne (xg 0 h.2.1 8 3) (Int32.ofInt 2) = true by rw [show (xg 0 h.2.1 8 3) = (nI (tkk T n p)) from tk.1]; exact c19), trivial⟩ (fun hq => ?_)
              have b2 := of_decide_eq_false b2
              have b6 := of_decide_eq_false b6
              have b10 := of_decide_eq_false b10
              have b14 := of_decide_eq_false b14
              have b18 := of_decide_eq_true b18
              exact xq_ret rfl rfl rfl ⟨rfl, by rw [show nmt T n p = false from decide_eq_false (by omega)]; rfl⟩
            | false =>
              have z19 : (tkk T n p) = 2 := nq_nef (a := (tkk T n p)) (b := 2) (by omega) (by omega) c19
              have gt := tke_gt (T := T) (n := n) (p := p) (by omega)
              cases c20 : xe_c .lt (nI ((tke T n p) - (tks T n p))) (Int32.ofInt 2) with
              | true =>
                have z20 : ((tke T n p) - (tks T n p)) < 2 := nq_ltt (a := ((tke T n p) - (tks T n p))) (b := 2) (by omega) (by omega) c20
                refine xq_n 81 [] [] [.int (Int32.ofInt 0)] h [false, false, true] 18 hq rfl ⟨rfl, (show xe_c .ne (xg 0 h.2.1 8 3) (Int32.ofInt 2) = false by rw [show (xg 0 h.2.1 8 3) = (nI (tkk T n p)) from tk.1]; exact c19), (show xe_c .lt ((xg 0 h.2.1 8 5) - (xg 0 h.2.1 8 4)) (Int32.ofInt 2) = true by rw [show (xg 0 h.2.1 8 5) = (nI (tke T n p)) from (tk.2.2.1 (by omega)).2, show (xg 0 h.2.1 8 4) = (nI (tks T n p)) from tk.2.1, show ((nI (tke T n p)) - (nI (tks T n p))) = nI ((tke T n p) - (tks T n p)) from nI_sub (by omega)]; exact c20), trivial⟩ (fun hq => ?_)
                have b2 := of_decide_eq_false b2
                have b6 := of_decide_eq_false b6
                have b10 := of_decide_eq_false b10
                have b14 := of_decide_eq_false b14
                have b18 := of_decide_eq_true b18
                exact xq_ret rfl rfl rfl ⟨rfl, by rw [show nmt T n p = false from decide_eq_false (by omega)]; rfl⟩
              | false =>
                have z20 : ((tke T n p) - (tks T n p)) ≥ 2 := nq_ltf (a := ((tke T n p) - (tks T n p))) (b := 2) (by omega) (by omega) c20
                refine xq_n 81 [] [] [.int (Int32.ofInt 0)] h [false, false, false, true] 20 hq rfl ⟨rfl, (show xe_c .ne (xg 0 h.2.1 8 3) (Int32.ofInt 2) = false by rw [show (xg 0 h.2.1 8 3) = (nI (tkk T n p)) from tk.1]; exact c19), (show xe_c .lt ((xg 0 h.2.1 8 5) - (xg 0 h.2.1 8 4)) (Int32.ofInt 2) = false by rw [show (xg 0 h.2.1 8 5) = (nI (tke T n p)) from (tk.2.2.1 (by omega)).2, show (xg 0 h.2.1 8 4) = (nI (tks T n p)) from tk.2.1, show ((nI (tke T n p)) - (nI (tks T n p))) = nI ((tke T n p) - (tks T n p)) from nI_sub (by omega)]; exact c20), (by decide), trivial⟩ (fun hq => ?_)
                have b2 := of_decide_eq_false b2
                have b6 := of_decide_eq_false b6
                have b10 := of_decide_eq_false b10
                have b14 := of_decide_eq_false b14
                have b18 := of_decide_eq_true b18
                exact xq_ret rfl rfl rfl ⟨rfl, by rw [show nmt T n p = false from decide_eq_false (by omega)]; rfl⟩
          | false =>
            have db18 := of_decide_eq_false b18
            cases c21 : xe_c .ne (nI (tkk T n p)) (Int32.ofInt 2) with
            | true =>
              have z21 : (tkk T n p) ≠ 2 := nq_net (a := (tkk T n p)) (b := 2) (by omega) (by omega) c21
              refine xq_n 81 [] [] [.int (Int32.ofInt 0)] h [true, true] 10 hq rfl ⟨rfl, (show xe_c .ne (xg 0 h.2.1 8 3) (Int32.ofInt 2) = true by rw [show (xg 0 h.2.1 8 3) = (nI (tkk T n p)) from tk.1]; exact c21), trivial⟩ (fun hq => ?_)
              have b2 := of_decide_eq_false b2
              have b6 := of_decide_eq_false b6
              have b10 := of_decide_eq_false b10
              have b14 := of_decide_eq_false b14
              have b18 := of_decide_eq_false b18
              exact xq_ret rfl rfl rfl ⟨rfl, by rw [show nmt T n p = false from decide_eq_false (by omega)]; rfl⟩
            | false =>
              have z21 : (tkk T n p) = 2 := nq_nef (a := (tkk T n p)) (b := 2) (by omega) (by omega) c21
              have gt := tke_gt (T := T) (n := n) (p := p) (by omega)
              cases c22 : xe_c .lt (nI ((tke T n p) - (tks T n p))) (Int32.ofInt 2) with
              | true =>
                have z22 : ((tke T n p) - (tks T n p)) < 2 := nq_ltt (a := ((tke T n p) - (tks T n p))) (b := 2) (by omega) (by omega) c22
                refine xq_n 81 [] [] [.int (Int32.ofInt 0)] h [true, false, true] 17 hq rfl ⟨rfl, (show xe_c .ne (xg 0 h.2.1 8 3) (Int32.ofInt 2) = false by rw [show (xg 0 h.2.1 8 3) = (nI (tkk T n p)) from tk.1]; exact c21), (show xe_c .lt ((xg 0 h.2.1 8 5) - (xg 0 h.2.1 8 4)) (Int32.ofInt 2) = true by rw [show (xg 0 h.2.1 8 5) = (nI (tke T n p)) from (tk.2.2.1 (by omega)).2, show (xg 0 h.2.1 8 4) = (nI (tks T n p)) from tk.2.1, show ((nI (tke T n p)) - (nI (tks T n p))) = nI ((tke T n p) - (tks T n p)) from nI_sub (by omega)]; exact c22), trivial⟩ (fun hq => ?_)
                have b2 := of_decide_eq_false b2
                have b6 := of_decide_eq_false b6
                have b10 := of_decide_eq_false b10
                have b14 := of_decide_eq_false b14
                have b18 := of_decide_eq_false b18
                exact xq_ret rfl rfl rfl ⟨rfl, by rw [show nmt T n p = false from decide_eq_false (by omega)]; rfl⟩
              | false =>
                have z22 : ((tke T n p) - (tks T n p)) ≥ 2 := nq_ltf (a := ((tke T n p) - (tks T n p))) (b := 2) (by omega) (by omega) c22
                refine xq_n 81 [] [] [.int (Int32.ofInt 1)] h [true, false, false, false] 20 hq rfl ⟨rfl, (show xe_c .ne (xg 0 h.2.1 8 3) (Int32.ofInt 2) = false by rw [show (xg 0 h.2.1 8 3) = (nI (tkk T n p)) from tk.1]; exact c21), (show xe_c .lt ((xg 0 h.2.1 8 5) - (xg 0 h.2.1 8 4)) (Int32.ofInt 2) = false by rw [show (xg 0 h.2.1 8 5) = (nI (tke T n p)) from (tk.2.2.1 (by omega)).2, show (xg 0 h.2.1 8 4) = (nI (tks T n p)) from tk.2.1, show ((nI (tke T n p)) - (nI (tks T n p))) = nI ((tke T n p) - (tks T n p)) from nI_sub (by omega)]; exact c22), (by decide), trivial⟩ (fun hq => ?_)
                have b2 := of_decide_eq_false b2
                have b6 := of_decide_eq_false b6
                have b10 := of_decide_eq_false b10
                have b14 := of_decide_eq_false b14
                have b18 := of_decide_eq_false b18
                exact xq_ret rfl rfl rfl ⟨rfl, by rw [show nmt T n p = true from decide_eq_true (by omega)]; rfl⟩
set_option maxRecDepth 100000 in
set_option maxHeartbeats 4000000 in
theorem lo_q {f n p : Nat} {T : Nat → Nat} {h : xh_H} (hc : ct h T n) (tk : tok h T n p) (hq : a_rq a_tb h) : xq f xi_X6_isLone xmi_X6_isLone 0 [(0, .ref 8)] [] h (fun v h' => h = h' ∧ v = some (.int (bl (lone T n p)))) := by
  have n6 := hc.2.1
  have hT : ∀ k, k < n → T k < 256 := fun k hk' => (hc.2.2 k hk').1
  have k256 := tkk_lt (p := p) hT
  have sle := tks_le (T := T) (n := n) (p := p)
  cases c1 : xe_c .ne (nI (tkk T n p)) (Int32.ofInt 2) with
  | true =>
    have z1 : (tkk T n p) ≠ 2 := nq_net (a := (tkk T n p)) (b := 2) (by omega) (by omega) c1
    refine xq_n 26 [] [] [.int (Int32.ofInt 0)] h [true] 7 hq rfl ⟨(show xe_c .ne (xg 0 h.2.1 8 3) (Int32.ofInt 2) = true by rw [show (xg 0 h.2.1 8 3) = (nI (tkk T n p)) from tk.1]; exact c1), trivial⟩ (fun hq => ?_)
    exact xq_ret rfl rfl rfl ⟨rfl, by rw [show lone T n p = false from decide_eq_false (by omega)]; rfl⟩
  | false =>
    have z1 : (tkk T n p) = 2 := nq_nef (a := (tkk T n p)) (b := 2) (by omega) (by omega) c1
    have gt := tke_gt (T := T) (n := n) (p := p) (by omega)
    cases c2 : xe_c .ne (nI ((tke T n p) - (tks T n p))) (Int32.ofInt 1) with
    | true =>
      have z2 : ((tke T n p) - (tks T n p)) ≠ 1 := nq_net (a := ((tke T n p) - (tks T n p))) (b := 1) (by omega) (by omega) c2
      refine xq_n 26 [] [] [.int (Int32.ofInt 0)] h [false, true] 14 hq rfl ⟨(show xe_c .ne (xg 0 h.2.1 8 3) (Int32.ofInt 2) = false by rw [show (xg 0 h.2.1 8 3) = (nI (tkk T n p)) from tk.1]; exact c1), (show xe_c .ne ((xg 0 h.2.1 8 5) - (xg 0 h.2.1 8 4)) (Int32.ofInt 1) = true by rw [show (xg 0 h.2.1 8 5) = (nI (tke T n p)) from (tk.2.2.1 (by omega)).2, show (xg 0 h.2.1 8 4) = (nI (tks T n p)) from tk.2.1, show ((nI (tke T n p)) - (nI (tks T n p))) = nI ((tke T n p) - (tks T n p)) from nI_sub (by omega)]; exact c2), trivial⟩ (fun hq => ?_)
      exact xq_ret rfl rfl rfl ⟨rfl, by rw [show lone T n p = false from decide_eq_false (by omega)]; rfl⟩
    | false =>
      have z2 : ((tke T n p) - (tks T n p)) = 1 := nq_nef (a := ((tke T n p) - (tks T n p))) (b := 1) (by omega) (by omega) c2
      refine xq_n 26 [] [] [.int (Int32.ofInt 1)] h [false, false] 15 hq rfl ⟨(show xe_c .ne (xg 0 h.2.1 8 3) (Int32.ofInt 2) = false by rw [show (xg 0 h.2.1 8 3) = (nI (tkk T n p)) from tk.1]; exact c1), (show xe_c .ne ((xg 0 h.2.1 8 5) - (xg 0 h.2.1 8 4)) (Int32.ofInt 1) = false by rw [show (xg 0 h.2.1 8 5) = (nI (tke T n p)) from (tk.2.2.1 (by omega)).2, show (xg 0 h.2.1 8 4) = (nI (tks T n p)) from tk.2.1, show ((nI (tke T n p)) - (nI (tks T n p))) = nI ((tke T n p) - (tks T n p)) from nI_sub (by omega)]; exact c2), trivial⟩ (fun hq => ?_)
      exact xq_ret rfl rfl rfl ⟨rfl, by rw [show lone T n p = true from decide_eq_true (by omega)]; rfl⟩
set_option maxRecDepth 100000 in
set_option maxHeartbeats 4000000 in
theorem let_q {f n p : Nat} {T : Nat → Nat} {h : xh_H} (hc : ct h T n) (tk : tok h T n p) (h2 : tkk T n p = 2) (hq : a_rq a_tb h) : xq f xi_X6_letter xmi_X6_letter 0 [(0, .ref 8)] [] h (fun v h' => h = h' ∧ v = some (.int (nI (T (tks T n p) - 97)))) := by
  have n6 := hc.2.1
  have hT : ∀ k, k < n → T k < 256 := fun k hk' => (hc.2.2 k hk').1
  have k256 := tkk_lt (p := p) hT
  have sle := tks_le (T := T) (n := n) (p := p)
  have gt := tke_gt (T := T) (n := n) (p := p) (by omega)
  have l1 := (tk2 h2).2.2 (tks T n p) (by omega) (by omega)
  refine xq_n 8 [0] [(0, .ref 8)] [.int (xg 0 h.2.1 8 4), .ref 1] h [] 6 hq rfl trivial (fun hq => ?_)
  rw [show (xg 0 h.2.1 8 4) = (nI (tks T n p)) from tk.2.1]
  refine xq_run hq rfl rfl (at_q hc (p := (tks T n p)) (by omega) hq) ?_
  rintro v1 h_v1 ⟨rfl, rfl⟩
  have tv1 := hT (tks T n p) (by omega)
  refine xq_n 14 [] [] [.int ((nI (T (tks T n p))) - 97)] h [] 4 hq rfl trivial (fun hq => ?_)
  rw [show ((nI (T (tks T n p))) - 97) = nI (T (tks T n p) - 97) from nI_sub (b := 97) (by omega)]
  exact xq_ret rfl rfl rfl ⟨rfl, rfl⟩
set_option maxRecDepth 100000 in
set_option maxHeartbeats 4000000 in
theorem lk_lp {n p a b : Nat} {T : Nat → Nat} {h : xh_H} (hc : ct h T n) (tk : tok h T n p) (h2 : tkk T n p = 2) (hb : b ≤ n) (hab0 : a ≤ b) (hab : ∀ k, k < b - a → 97 ≤ T (a + k) ∧ T (a + k) ≤ 122) (el : b - a = tke T n p - tks T n p) : ∀ (f i : Nat), a_rq a_tb h → i ≤ b - a → (∀ k, k < i → T (a + k) = T (tks T n p + k)) → xq f xi_X6_isLike xmi_X6_isLike 19 [(0, .ref 8), (1, .int (nI a)), (2, .int (nI b)), (3, .int (nI i))] [] h (fun v h' => h = h' ∧ v = some (.int (bl (decide (wv T a (b - a) = tkw T n p))))) := by
  have n6 := hc.2.1
  have hT : ∀ k, k < n → T k < 256 := fun k hk' => (hc.2.2 k hk').1
  have k256 := tkk_lt (p := p) hT
  have sle := tks_le (T := T) (n := n) (p := p)
  have gt := tke_gt (T := T) (n := n) (p := p) (by omega)
  have hts : ∀ k, k < tke T n p - tks T n p → 97 ≤ T (tks T n p + k) ∧ T (tks T n p + k) ≤ 122 := fun k hk' => (tk2 h2).2.2 _ (by omega) (by omega)
  intro f
  induction f with
  | zero => intros; exact xq_0
  | succ f ih =>
    intro i hq hi ha
    have ti : T (a + i) < 256 ∨ n ≤ a + i := by
      by_cases z : a + i < n
      · exact Or.inl (hT _ z)
      · exact Or.inr (by omega)
    have ti2 : T (tks T n p + i) < 256 ∨ n ≤ tks T n p + i := by
      by_cases z : tks T n p + i < n
      · exact Or.inl (hT _ z)
      · exact Or.inr (by omega)
    cases c1 : xe_c .ge (nI i) (nI (b - a)) with
    | true =>
      have z1 : i ≥ (b - a) := nq_get (a := i) (b := (b - a)) (by omega) (by omega) c1
      refine xq_m 61 [] [] [.int (Int32.ofInt 1)] h [true] 8 hq rfl ⟨(show xe_c .ge (nI i) ((nI b) - (nI a)) = true by rw [show ((nI b) - (nI a)) = nI (b - a) from nI_sub (by omega)]; exact c1), trivial⟩ (fun hq => ?_)
      exact xq_ret rfl rfl rfl ⟨rfl, by rw [show decide (wv T a (b - a) = tkw T n p) = true from decide_eq_true (by unfold tkw; rw [← el]; exact wv_c (fun k hk' => ha k (by omega)))]; rfl⟩
    | false =>
      have z1 : i < (b - a) := nq_gef (a := i) (b := (b - a)) (by omega) (by omega) c1
      refine xq_m 33 [0, 1, 2, 3] [(0, .ref 8), (1, .int (nI a)), (2, .int (nI b)), (3, .int (nI i))] [.int ((nI a) + (nI i)), .ref 1] h [false] 12 hq rfl ⟨(show xe_c .ge (nI i) ((nI b) - (nI a)) = false by rw [show ((nI b) - (nI a)) = nI (b - a) from nI_sub (by omega)]; exact c1), trivial⟩ (fun hq => ?_)
      rw [show ((nI a) + (nI i)) = nI (a + i) from nI_add _ _]
      refine xq_run hq rfl rfl (at_q hc (p := (a + i)) (by omega) hq) ?_
      rintro v2 h_v2 ⟨rfl, rfl⟩
      have tv2 := hT (a + i) (by omega)
      refine xq_n 46 [0, 1, 2, 3] [(0, .ref 8), (1, .int (nI a)), (2, .int (nI b)), (3, .int (nI i))] [.int ((xg 0 h.2.1 8 4) + (nI i)), .ref 1, .int (nI (T (a + i)))] h [] 8 hq rfl trivial (fun hq => ?_)
      rw [show (xg 0 h.2.1 8 4) = (nI (tks T n p)) from tk.2.1]
      rw [show ((nI (tks T n p)) + (nI i)) = nI ((tks T n p) + i) from nI_add _ _]
      refine xq_run hq rfl rfl (at_q hc (p := ((tks T n p) + i)) (by omega) hq) ?_
      rintro v3 h_v3 ⟨rfl, rfl⟩
      have tv3 := hT ((tks T n p) + i) (by omega)
      cases c4 : xe_c .eq (nI (T (a + i))) (nI (T ((tks T n p) + i))) with
      | true =>
        have z4 : (T (a + i)) = (T ((tks T n p) + i)) := nq_eqt (a := (T (a + i))) (b := (T ((tks T n p) + i))) (by omega) (by omega) c4
        refine xq_n 19 [0, 1, 2, 3] [(0, .ref 8), (1, .int (nI a)), (2, .int (nI b)), (3, .int ((nI i) + Int32.ofInt 1))] [] h [true] 5 hq rfl ⟨c4, trivial⟩ (fun hq => ?_)
        rw [show ((nI i) + Int32.ofInt 1) = nI (i + 1) from nI_1 _]
        exact ih (i + 1) hq (by omega) (fun k hk' => by
          by_cases ek : k = i
          · rw [ek]; exact z4
          · exact ha k (by omega))
      | false =>
        have z4 : (T (a + i)) ≠ (T ((tks T n p) + i)) := nq_eqf (a := (T (a + i))) (b := (T ((tks T n p) + i))) (by omega) (by omega) c4
        refine xq_n 53 [] [] [.int (Int32.ofInt 0)] h [false] 4 hq rfl ⟨c4, trivial⟩ (fun hq => ?_)
        exact xq_ret rfl rfl rfl ⟨rfl, by rw [show decide (wv T a (b - a) = tkw T n p) = false from decide_eq_false (fun y => z4 ((wv_inj (q := a) (r := tks T n p) hab hts y).2 i (by omega)))]; rfl⟩
set_option maxRecDepth 100000 in
set_option maxHeartbeats 4000000 in
theorem lk_q {f n p a b : Nat} {T : Nat → Nat} {h : xh_H} (hc : ct h T n) (tk : tok h T n p) (h2 : tkk T n p = 2) (hb : b ≤ n) (hab0 : a ≤ b) (hab : ∀ k, k < b - a → 97 ≤ T (a + k) ∧ T (a + k) ≤ 122) (hq : a_rq a_tb h) : xq f xi_X6_isLike xmi_X6_isLike 0 [(0, .ref 8), (1, .int (nI a)), (2, .int (nI b))] [] h (fun v h' => h = h' ∧ v = some (.int (bl (decide (wv T a (b - a) = tkw T n p))))) := by
  have n6 := hc.2.1
  have hT : ∀ k, k < n → T k < 256 := fun k hk' => (hc.2.2 k hk').1
  have k256 := tkk_lt (p := p) hT
  have sle := tks_le (T := T) (n := n) (p := p)
  have gt := tke_gt (T := T) (n := n) (p := p) (by omega)
  have hts : ∀ k, k < tke T n p - tks T n p → 97 ≤ T (tks T n p + k) ∧ T (tks T n p + k) ≤ 122 := fun k hk' => (tk2 h2).2.2 _ (by omega) (by omega)
  cases c1 : xe_c .eq (nI (b - a)) (nI ((tke T n p) - (tks T n p))) with
  | true =>
    have z1 : (b - a) = ((tke T n p) - (tks T n p)) := nq_eqt (a := (b - a)) (b := ((tke T n p) - (tks T n p))) (by omega) (by omega) c1
    refine xq_n 19 [0, 1, 2, 3] [(0, .ref 8), (1, .int (nI a)), (2, .int (nI b)), (3, .int (Int32.ofInt 0))] [] h [true] 13 hq rfl ⟨(show xe_c .eq ((nI b) - (nI a)) ((xg 0 h.2.1 8 5) - (xg 0 h.2.1 8 4)) = true by rw [show ((nI b) - (nI a)) = nI (b - a) from nI_sub (by omega), show (xg 0 h.2.1 8 5) = (nI (tke T n p)) from (tk.2.2.1 (by omega)).2, show (xg 0 h.2.1 8 4) = (nI (tks T n p)) from tk.2.1, show ((nI (tke T n p)) - (nI (tks T n p))) = nI ((tke T n p) - (tks T n p)) from nI_sub (by omega)]; exact c1), trivial⟩ (fun hq => ?_)
    exact lk_lp hc tk h2 hb hab0 hab z1 f 0 hq (by omega) (fun k hk' => by omega)
  | false =>
    have z1 : (b - a) ≠ ((tke T n p) - (tks T n p)) := nq_eqf (a := (b - a)) (b := ((tke T n p) - (tks T n p))) (by omega) (by omega) c1
    refine xq_n 16 [] [] [.int (Int32.ofInt 0)] h [false] 12 hq rfl ⟨(show xe_c .eq ((nI b) - (nI a)) ((xg 0 h.2.1 8 5) - (xg 0 h.2.1 8 4)) = false by rw [show ((nI b) - (nI a)) = nI (b - a) from nI_sub (by omega), show (xg 0 h.2.1 8 5) = (nI (tke T n p)) from (tk.2.2.1 (by omega)).2, show (xg 0 h.2.1 8 4) = (nI (tks T n p)) from tk.2.1, show ((nI (tke T n p)) - (nI (tks T n p))) = nI ((tke T n p) - (tks T n p)) from nI_sub (by omega)]; exact c1), trivial⟩ (fun hq => ?_)
    exact xq_ret rfl rfl rfl ⟨rfl, by rw [show decide (wv T a (b - a) = tkw T n p) = false from decide_eq_false (fun y => z1 ((wv_inj (q := a) (r := tks T n p) hab hts y).1))]; rfl⟩
end XWE
end
section
section XGR
set_option maxRecDepth 100000 in
set_option maxHeartbeats 4000000 in
theorem rlt_q {f c : Nat} {h : xh_H} (hc : c < 256) (hq : a_rq a_tb h) : xq f xi_X10_isLetter xmi_X10_isLetter 0 [(0, .int (nI c))] [] h (fun v h' => h = h' ∧ v = some (.int (bl (p_lt c)))) := by
  cases c1 : xe_c .lt (nI c) 97 with
  | true =>
    have z1 : c < 97 := nq_ltt (a := c) (b := 97) (by omega) (by omega) c1
    refine xq_n 17 [] [] [.int (Int32.ofInt 0)] h [true] 6 hq rfl ⟨c1, trivial⟩ (fun hq => ?_)
    exact xq_ret rfl rfl rfl ⟨rfl, by rw [show p_lt c = false from decide_eq_false (by omega)]; rfl⟩
  | false =>
    have z1 : c ≥ 97 := nq_ltf (a := c) (b := 97) (by omega) (by omega) c1
    cases c2 : xe_c .gt (nI c) 122 with
    | true =>
      have z2 : c > 122 := nq_gtt (a := c) (b := 122) (by omega) (by omega) c2
      refine xq_n 17 [] [] [.int (Int32.ofInt 0)] h [false, true] 9 hq rfl ⟨c1, c2, trivial⟩ (fun hq => ?_)
      exact xq_ret rfl rfl rfl ⟨rfl, by rw [show p_lt c = false from decide_eq_false (by omega)]; rfl⟩
    | false =>
      have z2 : c ≤ 122 := nq_gtf (a := c) (b := 122) (by omega) (by omega) c2
      refine xq_n 17 [] [] [.int (Int32.ofInt 1)] h [false, false] 10 hq rfl ⟨c1, c2, trivial⟩ (fun hq => ?_)
      exact xq_ret rfl rfl rfl ⟨rfl, by rw [show p_lt c = true from decide_eq_true (by omega)]; rfl⟩
set_option maxRecDepth 100000 in
set_option maxHeartbeats 4000000 in
theorem rdg_q {f c : Nat} {h : xh_H} (hc : c < 256) (hq : a_rq a_tb h) : xq f xi_X10_isDigit xmi_X10_isDigit 0 [(0, .int (nI c))] [] h (fun v h' => h = h' ∧ v = some (.int (bl (p_dg c)))) := by
  cases c1 : xe_c .lt (nI c) 48 with
  | true =>
    have z1 : c < 48 := nq_ltt (a := c) (b := 48) (by omega) (by omega) c1
    refine xq_n 17 [] [] [.int (Int32.ofInt 0)] h [true] 6 hq rfl ⟨c1, trivial⟩ (fun hq => ?_)
    exact xq_ret rfl rfl rfl ⟨rfl, by rw [show p_dg c = false from decide_eq_false (by omega)]; rfl⟩
  | false =>
    have z1 : c ≥ 48 := nq_ltf (a := c) (b := 48) (by omega) (by omega) c1
    cases c2 : xe_c .gt (nI c) 57 with
    | true =>
      have z2 : c > 57 := nq_gtt (a := c) (b := 57) (by omega) (by omega) c2
      refine xq_n 17 [] [] [.int (Int32.ofInt 0)] h [false, true] 9 hq rfl ⟨c1, c2, trivial⟩ (fun hq => ?_)
      exact xq_ret rfl rfl rfl ⟨rfl, by rw [show p_dg c = false from decide_eq_false (by omega)]; rfl⟩
    | false =>
      have z2 : c ≤ 57 := nq_gtf (a := c) (b := 57) (by omega) (by omega) c2
      refine xq_n 17 [] [] [.int (Int32.ofInt 1)] h [false, false] 10 hq rfl ⟨c1, c2, trivial⟩ (fun hq => ?_)
      exact xq_ret rfl rfl rfl ⟨rfl, by rw [show p_dg c = true from decide_eq_true (by omega)]; rfl⟩
set_option maxRecDepth 100000 in
set_option maxHeartbeats 4000000 in
theorem rsn_q {f c : Nat} {h : xh_H} (hc : c < 256) (hq : a_rq a_tb h) : xq f xi_X10_isMark xmi_X10_isMark 0 [(0, .int (nI c))] [] h (fun v h' => h = h' ∧ v = some (.int (bl (p_sn c)))) := by
  cases c1 : xe_c .eq (nI c) 59 with
  | true =>
    have z1 : c = 59 := nq_eqt (a := c) (b := 59) (by omega) (by omega) c1
    refine xq_n 47 [] [] [.int (Int32.ofInt 1)] h [true] 7 hq rfl ⟨c1, trivial⟩ (fun hq => ?_)
    exact xq_ret rfl rfl rfl ⟨rfl, by rw [show p_sn c = true from decide_eq_true (by omega)]; rfl⟩
  | false =>
    have z1 : c ≠ 59 := nq_eqf (a := c) (b := 59) (by omega) (by omega) c1
    cases c2 : xe_c .eq (nI c) 58 with
    | true =>
      have z2 : c = 58 := nq_eqt (a := c) (b := 58) (by omega) (by omega) c2
      refine xq_n 47 [] [] [.int (Int32.ofInt 1)] h [false, true] 10 hq rfl ⟨c1, c2, trivial⟩ (fun hq => ?_)
      exact xq_ret rfl rfl rfl ⟨rfl, by rw [show p_sn c = true from decide_eq_true (by omega)]; rfl⟩
    | false =>
      have z2 : c ≠ 58 := nq_eqf (a := c) (b := 58) (by omega) (by omega) c2
      cases c3 : xe_c .eq (nI c) 42 with
      | true =>
        have z3 : c = 42 := nq_eqt (a := c) (b := 42) (by omega) (by omega) c3
        refine xq_n 47 [] [] [.int (Int32.ofInt 1)] h [false, false, true] 13 hq rfl ⟨c1, c2, c3, trivial⟩ (fun hq => ?_)
        exact xq_ret rfl rfl rfl ⟨rfl, by rw [show p_sn c = true from decide_eq_true (by omega)]; rfl⟩
      | false =>
        have z3 : c ≠ 42 := nq_eqf (a := c) (b := 42) (by omega) (by omega) c3
        cases c4 : xe_c .eq (nI c) 40 with
        | true =>
          have z4 : c = 40 := nq_eqt (a := c) (b := 40) (by omega) (by omega) c4
          refine xq_n 47 [] [] [.int (Int32.ofInt 1)] h [false, false, false, true] 16 hq rfl ⟨c1, c2, c3, c4, trivial⟩ (fun hq => ?_)
          exact xq_ret rfl rfl rfl ⟨rfl, by rw [show p_sn c = true from decide_eq_true (by omega)]; rfl⟩
        | false =>
          have z4 : c ≠ 40 := nq_eqf (a := c) (b := 40) (by omega) (by omega) c4
          cases c5 : xe_c .eq (nI c) 41 with
          | true =>
            have z5 : c = 41 := nq_eqt (a := c) (b := 41) (by omega) (by omega) c5
            refine xq_n 47 [] [] [.int (Int32.ofInt 1)] h [false, false, false, false, true] 19 hq rfl ⟨c1, c2, c3, c4, c5, trivial⟩ (fun hq => ?_)
            exact xq_ret rfl rfl rfl ⟨rfl, by rw [show p_sn c = true from decide_eq_true (by omega)]; rfl⟩
          | false =>
            have z5 : c ≠ 41 := nq_eqf (a := c) (b := 41) (by omega) (by omega) c5
            cases c6 : xe_c .eq (nI c) 91 with
            | true =>
              have z6 : c = 91 := nq_eqt (a := c) (b := 91) (by omega) (by omega) c6
              refine xq_n 47 [] [] [.int (Int32.ofInt 1)] h [false, false, false, false, false, true] 22 hq rfl ⟨c1, c2, c3, c4, c5, c6, trivial⟩ (fun hq => ?_)
              exact xq_ret rfl rfl rfl ⟨rfl, by rw [show p_sn c = true from decide_eq_true (by omega)]; rfl⟩
            | false =>
              have z6 : c ≠ 91 := nq_eqf (a := c) (b := 91) (by omega) (by omega) c6
              cases c7 : xe_c .ne (nI c) 93 with
              | true =>
                have z7 : c ≠ 93 := nq_net (a := c) (b := 93) (by omega) (by omega) c7
                refine xq_n 47 [] [] [.int (Int32.ofInt 0)] h [false, false, false, false, false, false, true] 24 hq rfl ⟨c1, c2, c3, c4, c5, c6, c7, trivial⟩ (fun hq => ?_)
                exact xq_ret rfl rfl rfl ⟨rfl, by rw [show p_sn c = false from decide_eq_false (by omega)]; rfl⟩
              | false =>
                have z7 : c = 93 := nq_nef (a := c) (b := 93) (by omega) (by omega) c7
                refine xq_n 47 [] [] [.int (Int32.ofInt 1)] h [false, false, false, false, false, false, false] 25 hq rfl ⟨c1, c2, c3, c4, c5, c6, c7, trivial⟩ (fun hq => ?_)
                exact xq_ret rfl rfl rfl ⟨rfl, by rw [show p_sn c = true from decide_eq_true (by omega)]; rfl⟩
/-- the reference's tape, while a text is read -/
def rtp (h : xh_H) (T : Nat → Nat) (n : Nat) : Prop := xg 0 h.2.1 39 6 = nI n ∧ n ≤ 640 ∧ ∀ k, k < n → T k < 256 ∧ xg 0 h.2.1 40 k = nI (T k)
theorem rtp_f {S L : Nat → Nat → Bool} {h h' : xh_H} {T : Nat → Nat} {n : Nat} (hc : rtp h T n) (g : fx S L h h') (e1 : S 39 6 = false) (e2 : ∀ k, S 40 k = false) : rtp h' T n := by
  refine ⟨by rw [fx_i g e1]; exact hc.1, hc.2.1, fun k hk' => ?_⟩
  rw [fx_i g (e2 k)]
  exact hc.2.2 k hk'
/-- the reference's token -/
def rkk (T : Nat → Nat) (n p : Nat) : Nat := if tkk T n p = 0 then (if n ≤ 600 then 0 else 1) else if tkk T n p = 1 then 1 else if tkk T n p = 2 then 2 else if tkk T n p = 3 then 3 else 4
def rtk (h : xh_H) (T : Nat → Nat) (n p : Nat) : Prop := xg 0 h.2.1 39 8 = nI (tks T n p) ∧ xg 0 h.2.1 39 9 = nI (rkk T n p) ∧ (tkk T n p = 2 → xg 0 h.2.1 39 12 = nI (tke T n p - tks T n p) ∧ xg 0 h.2.2.1 39 15 = Int64.ofNat (tkw T n p)) ∧ (tkk T n p = 3 → xg 0 h.2.1 39 10 = nI (tkn T n p)) ∧ (40 ≤ tkk T n p → xg 0 h.2.1 39 11 = nI (tkk T n p)) ∧ (tkk T n p ≠ 0 → xg 0 h.2.1 39 7 = nI (tke T n p))
theorem tkk_k {T : Nat → Nat} {n p : Nat} : tkk T n p ≤ 3 ∨ 40 ≤ tkk T n p := by
  rcases tkk_cs (T := T) (n := n) (p := p) with ⟨-, e⟩ | ⟨-, -, e, -⟩ | ⟨h1, h2, e, -⟩ | ⟨-, e, -⟩
  · omega
  · rcases kw_le (l := cL T (tks T n p) (rn T n (tks T n p) - tks T n p)) (d := cD T (tks T n p) (rn T n (tks T n p) - tks T n p)) with z | z | z <;> omega
  · have := sn_ge h2
    omega
  · omega
theorem rkk_k {T : Nat → Nat} {n p : Nat} : rkk T n p ≤ 4 ∧ (rkk T n p = 2 ↔ tkk T n p = 2) ∧ (rkk T n p = 3 ↔ tkk T n p = 3) ∧ (rkk T n p = 4 ↔ 40 ≤ tkk T n p) ∧ (rkk T n p = 0 ↔ (tkk T n p = 0 ∧ n ≤ 600)) ∧ (rkk T n p = 1 ↔ (tkk T n p = 1 ∨ (tkk T n p = 0 ∧ 600 < n))) := by
  have := tkk_k (T := T) (n := n) (p := p)
  unfold rkk
  split
  · split <;> omega
  · split
    · omega
    · split
      · omega
      · split <;> omega
theorem rk2 {T : Nat → Nat} {n p : Nat} : rkk T n p = 2 ↔ tkk T n p = 2 := rkk_k.2.1
theorem rk3 {T : Nat → Nat} {n p : Nat} : rkk T n p = 3 ↔ tkk T n p = 3 := rkk_k.2.2.1
theorem rk4 {T : Nat → Nat} {n p : Nat} : rkk T n p = 4 ↔ 40 ≤ tkk T n p := rkk_k.2.2.2.1
theorem rk0 {T : Nat → Nat} {n p : Nat} : rkk T n p = 0 ↔ (tkk T n p = 0 ∧ n ≤ 600) := rkk_k.2.2.2.2.1
theorem rk1 {T : Nat → Nat} {n p : Nat} : rkk T n p = 1 ↔ (tkk T n p = 1 ∨ (tkk T n p = 0 ∧ 600 < n)) := rkk_k.2.2.2.2.2
def gS (c k : Nat) : Bool := Nat.beq c 39 && (Nat.ble 7 k && Nat.ble k 12)
def gL (c k : Nat) : Bool := Nat.beq c 39 && Nat.beq k 15
def gr_Q (h0 : xh_H) (T : Nat → Nat) (n p : Nat) (v : Option Value) (h' : xh_H) : Prop := v = none ∧ fx gS gL h0 h' ∧ rtk h' T n p
theorem blne {a b : Bool} : xe_c .ne (bl a) (bl b) = (a != b) := by cases a <;> cases b <;> rfl
/-- so far all are as the first one -/
def gd (w : Bool) (T : Nat → Nat) (q m : Nat) : Bool := cond w (Nat.beq (cD T q m) 0) (Nat.beq (cL T q m) 0)
theorem nI_val2 {v c : Nat} (hc : 48 ≤ c) : 10 * nI v + nI c - 48 = nI (v * 10 + (c - 48)) := by
  rw [show (10 : Int32) * nI v = nI v * 10 from Int32.mul_comm _ _]
  exact nI_val hc
theorem wl_val {w c : Nat} (hc : 96 ≤ c) (h2 : c < 256) : 27 * Int64.ofNat w + (nI c).toInt64 - 96 = Int64.ofNat (27 * w + (c - 96)) := by
  obtain ⟨j, rfl⟩ : ∃ j, c = j + 96 := ⟨c - 96, by omega⟩
  have e1 : (nI (j + 96)).toInt64 = Int64.ofNat (j + 96) := by
    apply Int64.toInt_inj.mp
    rw [Int32.toInt_toInt64, nI_toInt (by omega), Int64.toInt_ofNat_of_lt (by omega)]
  rw [e1, show (27 : Int64) = Int64.ofNat 27 from rfl, show (96 : Int64) = Int64.ofNat 96 from rfl, ← Int64.ofNat_mul, Int64.ofNat_add j 96, ← Int64.add_assoc, Int64.add_sub_cancel, Nat.add_sub_cancel, ← Int64.ofNat_add]
set_option maxRecDepth 100000 in
set_option maxHeartbeats 4000000 in
theorem bt_q {f p n : Nat} {T : Nat → Nat} {h : xh_H} (hc : rtp h T n) (hp : p < n) (p6 : p ≤ 640) (hq : a_rq a_tb h) : xq f xi_X10_byteAt xmi_X10_byteAt 0 [(0, .ref 39), (1, .int (nI p))] [] h (fun v h' => h = h' ∧ v = some (.int (nI (T p)))) := by
  have n6 := hc.2.1
  cases c1 : xe_c .ge (nI p) (nI n) with
  | true =>
    have z1 : p ≥ n := nq_get (a := p) (b := n) (by omega) (by omega) c1
    omega
  | false =>
    have z1 : p < n := nq_gef (a := p) (b := n) (by omega) (by omega) c1
    refine xq_n 18 [] [] [.int (xg 0 h.2.1 40 ((nI p).toNatClampNeg))] h [false] 11 hq rfl ⟨(show xe_c .ge (nI p) (xg 0 h.2.1 39 6) = false by rw [show (xg 0 h.2.1 39 6) = (nI n) from hc.1]; exact c1), trivial⟩ (fun hq => ?_)
    rw [show (xg 0 h.2.1 40 ((nI p).toNatClampNeg)) = xg 0 h.2.1 40 p from (by rw [show ((nI p).toNatClampNeg) = p from nI_clamp (by omega)])]
    exact xq_ret rfl rfl rfl ⟨rfl, by rw [(hc.2.2 p hp).2]⟩
set_option maxRecDepth 100000 in
set_option maxHeartbeats 4000000 in
theorem bt_z {f p n : Nat} {T : Nat → Nat} {h : xh_H} (hc : rtp h T n) (hp : n ≤ p) (p6 : p ≤ 640) (hq : a_rq a_tb h) : xq f xi_X10_byteAt xmi_X10_byteAt 0 [(0, .ref 39), (1, .int (nI p))] [] h (fun v h' => h = h' ∧ v = some (.int (nI 0))) := by
  have n6 := hc.2.1
  cases c1 : xe_c .ge (nI p) (nI n) with
  | true =>
    have z1 : p ≥ n := nq_get (a := p) (b := n) (by omega) (by omega) c1
    refine xq_n 18 [] [] [.int (Int32.ofInt 0)] h [true] 7 hq rfl ⟨(show xe_c .ge (nI p) (xg 0 h.2.1 39 6) = true by rw [show (xg 0 h.2.1 39 6) = (nI n) from hc.1]; exact c1), trivial⟩ (fun hq => ?_)
    exact xq_ret rfl rfl rfl ⟨rfl, rfl⟩
  | false =>
    have z1 : p < n := nq_gef (a := p) (b := n) (by omega) (by omega) c1
    omega
theorem cL_pos {T : Nat → Nat} {q : Nat} (h : p_lt (T q) = true) : ∀ {m : Nat}, 1 ≤ m → 1 ≤ cL T q m := by
  intro m
  induction m with
  | zero => intro z; omega
  | succ m ih =>
    intro _
    show 1 ≤ cL T q m + cond (p_lt (T (q + m))) 1 0
    cases m with
    | zero => rw [Nat.add_zero, h]; show 1 ≤ 0 + 1; omega
    | succ m => have := ih (by omega); omega
theorem cD_pos {T : Nat → Nat} {q : Nat} (h : p_dg (T q) = true) : ∀ {m : Nat}, 1 ≤ m → 1 ≤ cD T q m := by
  intro m
  induction m with
  | zero => intro z; omega
  | succ m ih =>
    intro _
    show 1 ≤ cD T q m + cond (p_dg (T (q + m))) 1 0
    cases m with
    | zero => rw [Nat.add_zero, h]; show 1 ≤ 0 + 1; omega
    | succ m => have := ih (by omega); omega
theorem beq_f {a : Nat} (h : a ≠ 0) : Nat.beq a 0 = false := by
  rw [Bool.eq_false_iff]
  intro z
  exact h (Nat.eq_of_beq_eq_true z)
theorem kw_gd {T : Nat → Nat} {q m : Nat} {w : Bool} (han : ∀ k, q ≤ k → k < q + m → p_an (T k) = true) (m1 : 1 ≤ m) (hw0 : w = p_lt (T q)) : kw (cL T q m) (cD T q m) = cond (gd w T q m) (cond w (if m ≤ 8 then 2 else 1) (if m ≤ 3 then 3 else 1)) 1 := by
  have e := cLD (T := T) (q := q) (m := m) han
  cases hw : p_lt (T q) with
  | true =>
    have l1 := cL_pos hw m1
    rw [hw0, hw]
    unfold gd kw
    dsimp only [cond]
    by_cases z : cD T q m = 0
    · rw [z, show Nat.beq 0 0 = true from rfl]
      dsimp only
      by_cases y : m ≤ 8
      · rw [if_pos (by omega), if_pos y]
      · rw [if_neg (by omega), if_neg (by omega), if_neg y]
    · rw [beq_f z, if_neg (by omega), if_neg (by omega)]
  | false =>
    have hd : p_dg (T q) = true := by
      rcases p_an_or (han q (Nat.le_refl _) (by omega)) with y | y
      · rw [hw] at y; cases y
      · exact y
    have l1 := cD_pos hd m1
    rw [hw0, hw]
    unfold gd kw
    dsimp only [cond]
    by_cases z : cL T q m = 0
    · rw [z, show Nat.beq 0 0 = true from rfl]
      dsimp only
      by_cases y : m ≤ 3
      · rw [if_neg (by omega), if_pos (by omega), if_pos y]
      · rw [if_neg (by omega), if_neg (by omega), if_neg y]
    · rw [beq_f z, if_neg (by omega), if_neg (by omega)]
theorem gd_t {w : Bool} {T : Nat → Nat} {q m : Nat} (h : gd w T q m = true) : (w = true → cD T q m = 0) ∧ (w = false → cL T q m = 0) := by
  constructor
  · rintro rfl
    exact Nat.eq_of_beq_eq_true h
  · rintro rfl
    exact Nat.eq_of_beq_eq_true h
set_option maxRecDepth 100000 in
set_option maxHeartbeats 4000000 in
theorem go_end {f n p q m : Nat} {T : Nat → Nat} {h0 h : xh_H} {w : Bool} (hq : a_rq a_tb h) (g0 : fx gS gL h0 h) (n6 : n ≤ 640) (e7 : xg 0 h.2.1 39 7 = nI (q + m)) (e8 : xg 0 h.2.1 39 8 = nI q) (hmn : q + m ≤ n) (et : tks T n p = q) (hL : q < min n 600) (han : ∀ k, q ≤ k → k < q + m → p_an (T k) = true) (hw0 : w = p_lt (T q)) (hw : w = true → cD T q m = 0 → xg 0 h.2.2.1 39 15 = Int64.ofNat (wv T q (min m 8))) (hv : w = false → cL T q m = 0 → xg 0 h.2.1 39 10 = nI (vf T q m)) (m1 : 1 ≤ m) (er : rn T n q = q + m) : xq f xi_X10_go xmi_X10_go 318 [(0, .ref 39), (2, .int (bl w)), (3, .int (bl (gd w T q m)))] [] h (gr_Q h0 T n p) := by
  have han1 := han q (Nat.le_refl _) (by omega)
  have ek : tkk T n p = kw (cL T q m) (cD T q m) := by unfold tkk kq; rw [et, if_neg (by omega), if_pos han1, er, Nat.add_sub_cancel_left]
  have ee : tke T n p = q + m := by unfold tke eq_; rw [et, if_pos han1, er]
  cases b1 : (gd w T q m) with
  | true =>
    cases b2 : w with
    | true =>
      cases c3 : xe_c .le (nI (q + m - q)) 8 with
      | true =>
        have z3 : (q + m - q) ≤ 8 := nq_let (a := (q + m - q)) (b := 8) (by omega) (by omega) c3
        refine xq_n 369 [] [] [] (xh_ui (xh_ui h 39 12 ((xg 0 h.2.1 39 7) - (xg 0 h.2.1 39 8))) 39 9 (Int32.ofInt 2)) [false, false, true, false] 24 hq rfl ⟨rfl, rfl, (show xe_c .le (xg 0 (xh_ui h 39 12 ((xg 0 h.2.1 39 7) - (xg 0 h.2.1 39 8))).2.1 39 12) 8 = true by rw [show (xg 0 (xh_ui h 39 12 ((xg 0 h.2.1 39 7) - (xg 0 h.2.1 39 8))).2.1 39 12) = ((xg 0 h.2.1 39 7) - (xg 0 h.2.1 39 8)) from gx_s, show (xg 0 h.2.1 39 7) = (nI (q + m)) from e7, show (xg 0 h.2.1 39 8) = (nI q) from e8, show ((nI (q + m)) - (nI q)) = nI (q + m - q) from nI_sub (by omega)]; exact c3), rfl, trivial⟩ (fun _ => ?_)
        rw [show (xg 0 h.2.1 39 7) = (nI (q + m)) from e7]
        rw [show (xg 0 h.2.1 39 8) = (nI q) from e8]
        rw [show ((nI (q + m)) - (nI q)) = nI (q + m - q) from nI_sub (by omega)]
        have hq : a_rq a_tb (xh_ui (xh_ui h 39 12 (nI (q + m - q))) 39 9 (Int32.ofInt 2)) := a_rq_ui (a_rq_ui hq)
        have ekk : tkk T n p = 2 := by rw [ek, kw_gd han m1 hw0, b1, b2]; exact if_pos (by omega)
        refine xq_ret rfl rfl rfl ⟨rfl, fx_ui (fx_ui (g0) rfl) rfl, ?_, ?_, ?_, ?_, ?_, ?_⟩
        · rw [et]; exact (gx_k (by decide)).trans ((gx_k (by decide)).trans (e8))
        · rw [show rkk T n p = 2 by have := rkk_k (T := T) (n := n) (p := p); omega]; exact gx_s
        · exact fun _ => ⟨by rw [ee, et]; exact (gx_k (by decide)).trans (gx_s), by unfold tkw; rw [ee, et, Nat.add_sub_cancel_left]; exact (hw b2 ((gd_t b1).1 b2)).trans (by rw [show min m 8 = m by omega])⟩
        · exact fun z => by omega
        · exact fun z => by omega
        · exact fun _ => by rw [ee]; exact (gx_k (by decide)).trans ((gx_k (by decide)).trans (e7))
      | false =>
        have z3 : (q + m - q) > 8 := nq_lef (a := (q + m - q)) (b := 8) (by omega) (by omega) c3
        refine xq_n 369 [] [] [] (xh_ui (xh_ui h 39 12 ((xg 0 h.2.1 39 7) - (xg 0 h.2.1 39 8))) 39 9 (Int32.ofInt 1)) [false, false, false] 22 hq rfl ⟨rfl, rfl, (show xe_c .le (xg 0 (xh_ui h 39 12 ((xg 0 h.2.1 39 7) - (xg 0 h.2.1 39 8))).2.1 39 12) 8 = false by rw [show (xg 0 (xh_ui h 39 12 ((xg 0 h.2.1 39 7) - (xg 0 h.2.1 39 8))).2.1 39 12) = ((xg 0 h.2.1 39 7) - (xg 0 h.2.1 39 8)) from gx_s, show (xg 0 h.2.1 39 7) = (nI (q + m)) from e7, show (xg 0 h.2.1 39 8) = (nI q) from e8, show ((nI (q + m)) - (nI q)) = nI (q + m - q) from nI_sub (by omega)]; exact c3), trivial⟩ (fun _ => ?_)
        rw [show (xg 0 h.2.1 39 7) = (nI (q + m)) from e7]
        rw [show (xg 0 h.2.1 39 8) = (nI q) from e8]
        rw [show ((nI (q + m)) - (nI q)) = nI (q + m - q) from nI_sub (by omega)]
        have hq : a_rq a_tb (xh_ui (xh_ui h 39 12 (nI (q + m - q))) 39 9 (Int32.ofInt 1)) := a_rq_ui (a_rq_ui hq)
        have ekk : tkk T n p = 1 := by rw [ek, kw_gd han m1 hw0, b1, b2]; exact if_neg (by omega)
        refine xq_ret rfl rfl rfl ⟨rfl, fx_ui (fx_ui (g0) rfl) rfl, ?_, ?_, ?_, ?_, ?_, ?_⟩
        · rw [et]; exact (gx_k (by decide)).trans ((gx_k (by decide)).trans (e8))
        · rw [show rkk T n p = 1 by have := rkk_k (T := T) (n := n) (p := p); omega]; exact gx_s
        · exact fun z => by omega
        · exact fun z => by omega
        · exact fun z => by omega
        · exact fun _ => by rw [ee]; exact (gx_k (by decide)).trans ((gx_k (by decide)).trans (e7))
    | false =>
      cases c4 : xe_c .le (nI (q + m - q)) (Int32.ofInt 3) with
      | true =>
        have z4 : (q + m - q) ≤ 3 := nq_let (a := (q + m - q)) (b := 3) (by omega) (by omega) c4
        refine xq_n 369 [] [] [] (xh_ui (xh_ui h 39 12 ((xg 0 h.2.1 39 7) - (xg 0 h.2.1 39 8))) 39 9 (Int32.ofInt 3)) [false, true, true, true] 22 hq rfl ⟨rfl, rfl, (show xe_c .le (xg 0 (xh_ui h 39 12 ((xg 0 h.2.1 39 7) - (xg 0 h.2.1 39 8))).2.1 39 12) (Int32.ofInt 3) = true by rw [show (xg 0 (xh_ui h 39 12 ((xg 0 h.2.1 39 7) - (xg 0 h.2.1 39 8))).2.1 39 12) = ((xg 0 h.2.1 39 7) - (xg 0 h.2.1 39 8)) from gx_s, show (xg 0 h.2.1 39 7) = (nI (q + m)) from e7, show (xg 0 h.2.1 39 8) = (nI q) from e8, show ((nI (q + m)) - (nI q)) = nI (q + m - q) from nI_sub (by omega)]; exact c4), rfl, trivial⟩ (fun _ => ?_)
        rw [show (xg 0 h.2.1 39 7) = (nI (q + m)) from e7]
        rw [show (xg 0 h.2.1 39 8) = (nI q) from e8]
        rw [show ((nI (q + m)) - (nI q)) = nI (q + m - q) from nI_sub (by omega)]
        have hq : a_rq a_tb (xh_ui (xh_ui h 39 12 (nI (q + m - q))) 39 9 (Int32.ofInt 3)) := a_rq_ui (a_rq_ui hq)
        have ekk : tkk T n p = 3 := by rw [ek, kw_gd han m1 hw0, b1, b2]; exact if_pos (by omega)
        refine xq_ret rfl rfl rfl ⟨rfl, fx_ui (fx_ui (g0) rfl) rfl, ?_, ?_, ?_, ?_, ?_, ?_⟩
        · rw [et]; exact (gx_k (by decide)).trans ((gx_k (by decide)).trans (e8))
        · rw [show rkk T n p = 3 by have := rkk_k (T := T) (n := n) (p := p); omega]; exact gx_s
        · exact fun z => by omega
        · exact fun _ => by unfold tkn; rw [ee, et, Nat.add_sub_cancel_left]; exact (gx_k (by decide)).trans ((gx_k (by decide)).trans (hv b2 ((gd_t b1).2 b2)))
        · exact fun z => by omega
        · exact fun _ => by rw [ee]; exact (gx_k (by decide)).trans ((gx_k (by decide)).trans (e7))
      | false =>
        have z4 : (q + m - q) > 3 := nq_lef (a := (q + m - q)) (b := 3) (by omega) (by omega) c4
        refine xq_n 369 [] [] [] (xh_ui (xh_ui h 39 12 ((xg 0 h.2.1 39 7) - (xg 0 h.2.1 39 8))) 39 9 (Int32.ofInt 1)) [false, true, false] 21 hq rfl ⟨rfl, rfl, (show xe_c .le (xg 0 (xh_ui h 39 12 ((xg 0 h.2.1 39 7) - (xg 0 h.2.1 39 8))).2.1 39 12) (Int32.ofInt 3) = false by rw [show (xg 0 (xh_ui h 39 12 ((xg 0 h.2.1 39 7) - (xg 0 h.2.1 39 8))).2.1 39 12) = ((xg 0 h.2.1 39 7) - (xg 0 h.2.1 39 8)) from gx_s, show (xg 0 h.2.1 39 7) = (nI (q + m)) from e7, show (xg 0 h.2.1 39 8) = (nI q) from e8, show ((nI (q + m)) - (nI q)) = nI (q + m - q) from nI_sub (by omega)]; exact c4), trivial⟩ (fun _ => ?_)
        rw [show (xg 0 h.2.1 39 7) = (nI (q + m)) from e7]
        rw [show (xg 0 h.2.1 39 8) = (nI q) from e8]
        rw [show ((nI (q + m)) - (nI q)) = nI (q + m - q) from nI_sub (by omega)]
        have hq : a_rq a_tb (xh_ui (xh_ui h 39 12 (nI (q + m - q))) 39 9 (Int32.ofInt 1)) := a_rq_ui (a_rq_ui hq)
        have ekk : tkk T n p = 1 := by rw [ek, kw_gd han m1 hw0, b1, b2]; exact if_neg (by omega)
        refine xq_ret rfl rfl rfl ⟨rfl, fx_ui (fx_ui (g0) rfl) rfl, ?_, ?_, ?_, ?_, ?_, ?_⟩
        · rw [et]; exact (gx_k (by decide)).trans ((gx_k (by decide)).trans (e8))
        · rw [show rkk T n p = 1 by have := rkk_k (T := T) (n := n) (p := p); omega]; exact gx_s
        · exact fun z => by omega
        · exact fun z => by omega
        · exact fun z => by omega
        · exact fun _ => by rw [ee]; exact (gx_k (by decide)).trans ((gx_k (by decide)).trans (e7))
  | false =>
    refine xq_n 369 [] [] [] (xh_ui (xh_ui h 39 12 ((xg 0 h.2.1 39 7) - (xg 0 h.2.1 39 8))) 39 9 (Int32.ofInt 1)) [true] 15 hq rfl ⟨rfl, trivial⟩ (fun _ => ?_)
    rw [show (xg 0 h.2.1 39 7) = (nI (q + m)) from e7]
    rw [show (xg 0 h.2.1 39 8) = (nI q) from e8]
    rw [show ((nI (q + m)) - (nI q)) = nI (q + m - q) from nI_sub (by omega)]
    have hq : a_rq a_tb (xh_ui (xh_ui h 39 12 (nI (q + m - q))) 39 9 (Int32.ofInt 1)) := a_rq_ui (a_rq_ui hq)
    have ekk : tkk T n p = 1 := by rw [ek, kw_gd han m1 hw0, b1]; rfl
    refine xq_ret rfl rfl rfl ⟨rfl, fx_ui (fx_ui (g0) rfl) rfl, ?_, ?_, ?_, ?_, ?_, ?_⟩
    · rw [et]; exact (gx_k (by decide)).trans ((gx_k (by decide)).trans (e8))
    · rw [show rkk T n p = 1 by have := rkk_k (T := T) (n := n) (p := p); omega]; exact gx_s
    · exact fun z => by omega
    · exact fun z => by omega
    · exact fun z => by omega
    · exact fun _ => by rw [ee]; exact (gx_k (by decide)).trans ((gx_k (by decide)).trans (e7))
theorem vf_s {T : Nat → Nat} {q m : Nat} (han : ∀ k, q ≤ k → k < q + m → p_an (T k) = true) (l1 : p_dg (T (q + m)) = true) (h0 : cL T q m = 0) : vf T q (m + 1) = if m < 3 then vf T q m * 10 + (T (q + m) - 48) else vf T q m := by
  have lm := cLD (T := T) (q := q) (m := m) han
  have cdm : cD T q (m + 1) = m + 1 := by
    show cD T q m + cond (p_dg (T (q + m))) 1 0 = m + 1
    rw [l1]
    dsimp only [cond]
    omega
  show cond (p_dg (T (q + m)) && Nat.ble (cD T q (m + 1)) 3) (vf T q m * 10 + (T (q + m) - 48)) (vf T q m) = _
  rw [l1, cdm]
  by_cases y : m < 3
  · rw [show Nat.ble (m + 1) 3 = true from Nat.ble_eq.mpr (by omega), if_pos y]
    rfl
  · rw [show Nat.ble (m + 1) 3 = false from by rw [Bool.eq_false_iff]; intro y9; have := Nat.ble_eq.mp y9; omega, if_neg y]
    rfl
theorem c_s {T : Nat → Nat} {q m : Nat} (lord : (p_lt (T (q + m)) = true ∧ p_dg (T (q + m)) = false) ∨ (p_lt (T (q + m)) = false ∧ p_dg (T (q + m)) = true)) : (cD T q (m + 1) = 0 → cD T q m = 0 ∧ p_lt (T (q + m)) = true) ∧ (cL T q (m + 1) = 0 → cL T q m = 0 ∧ p_dg (T (q + m)) = true) := by
  have cl1 : cL T q (m + 1) = cL T q m + cond (p_lt (T (q + m))) 1 0 := rfl
  have cd1 : cD T q (m + 1) = cD T q m + cond (p_dg (T (q + m))) 1 0 := rfl
  rcases lord with ⟨l1, l2⟩ | ⟨l1, l2⟩
  · rw [l1] at cl1
    rw [l2] at cd1
    dsimp only [cond] at cl1 cd1
    exact ⟨fun z => ⟨by omega, l1⟩, fun z => by omega⟩
  · rw [l1] at cl1
    rw [l2] at cd1
    dsimp only [cond] at cl1 cd1
    exact ⟨fun z => by omega, fun z => ⟨by omega, l2⟩⟩
theorem gd_s {T : Nat → Nat} {q m : Nat} {w : Bool} (lord : (p_lt (T (q + m)) = true ∧ p_dg (T (q + m)) = false) ∨ (p_lt (T (q + m)) = false ∧ p_dg (T (q + m)) = true)) : gd w T q (m + 1) = (gd w T q m && !(p_lt (T (q + m)) != w)) := by
  have cl1 : cL T q (m + 1) = cL T q m + cond (p_lt (T (q + m))) 1 0 := rfl
  have cd1 : cD T q (m + 1) = cD T q m + cond (p_dg (T (q + m))) 1 0 := rfl
  unfold gd
  rw [cl1, cd1]
  rcases lord with ⟨l1, l2⟩ | ⟨l1, l2⟩
  · rw [l1, l2]
    cases w
    · show Nat.beq (cL T q m + 1) 0 = _
      rw [beq_f (by omega)]
      show false = (_ && false)
      rw [Bool.and_false]
    · show Nat.beq (cD T q m) 0 = (_ && true)
      rw [Bool.and_true]
      rfl
  · rw [l1, l2]
    cases w
    · show Nat.beq (cL T q m) 0 = (_ && true)
      rw [Bool.and_true]
      rfl
    · show Nat.beq (cD T q m + 1) 0 = _
      rw [beq_f (by omega)]
      show false = (_ && false)
      rw [Bool.and_false]
set_option maxRecDepth 100000 in
set_option maxHeartbeats 4000000 in
theorem go_s3 {f n q m : Nat} {T : Nat → Nat} {h0 h : xh_H} {w : Bool} {Q : Option Value → xh_H → Prop} (ih : ∀ h, a_rq a_tb h → fx gS gL h0 h → rtp h T n → xg 0 h.2.1 39 7 = nI (q + (m + 1)) → xg 0 h.2.1 39 8 = nI q → (w = true → cD T q (m + 1) = 0 → xg 0 h.2.2.1 39 15 = Int64.ofNat (wv T q (min (m + 1) 8))) → (w = false → cL T q (m + 1) = 0 → xg 0 h.2.1 39 10 = nI (vf T q (m + 1))) → xq f xi_X10_go xmi_X10_go 183 [(0, .ref 39), (2, .int (bl w)), (3, .int (bl (gd w T q (m + 1))))] [] h Q) (lord : (p_lt (T (q + m)) = true ∧ p_dg (T (q + m)) = false) ∨ (p_lt (T (q + m)) = false ∧ p_dg (T (q + m)) = true)) (hq : a_rq a_tb h) (g0 : fx gS gL h0 h) (hc : rtp h T n) (e7 : xg 0 h.2.1 39 7 = nI (q + m)) (e8 : xg 0 h.2.1 39 8 = nI q) (hmn : q + m < n) (han : ∀ k, q ≤ k → k < q + m → p_an (T k) = true) (hw : w = true → cD T q (m + 1) = 0 → xg 0 h.2.2.1 39 15 = Int64.ofNat (wv T q (min (m + 1) 8))) (hv : w = false → cL T q m = 0 → xg 0 h.2.1 39 10 = nI (vf T q m)) : xq f xi_X10_go xmi_X10_go 275 [(0, .ref 39), (2, .int (bl w)), (3, .int (bl (gd w T q (m + 1)))), (4, .int (nI (T (q + m))))] [] h Q := by
  have n6 := hc.2.1
  cases c1 : xe_c .ge (nI m) (Int32.ofInt 3) with
  | true =>
    have z1 : m ≥ 3 := nq_get (a := m) (b := 3) (by omega) (by omega) c1
    refine xq_n 183 [0, 2, 3] [(0, .ref 39), (2, .int (bl w)), (3, .int (bl (gd w T q (m + 1))))] [] (xh_ui h 39 7 ((xg 0 h.2.1 39 7) + (Int32.ofInt 1))) [true] 16 hq rfl ⟨(show xe_c .ge ((xg 0 h.2.1 39 7) - (xg 0 h.2.1 39 8)) (Int32.ofInt 3) = true by rw [show (xg 0 h.2.1 39 7) = (nI (q + m)) from e7, show (xg 0 h.2.1 39 8) = (nI q) from e8, show ((nI (q + m)) - (nI q)) = nI m from (by rw [nI_sub (by omega), Nat.add_sub_cancel_left])]; exact c1), trivial⟩ (fun _ => ?_)
    rw [show (xg 0 h.2.1 39 7) = (nI (q + m)) from e7]
    rw [show ((nI (q + m)) + (Int32.ofInt 1)) = nI (q + m + 1) from nI_1 _]
    have hq : a_rq a_tb (xh_ui h 39 7 (nI (q + m + 1))) := a_rq_ui hq
    refine ih _ hq (fx_ui (g0) rfl) (rtp_f (S := gS) (L := gL) hc (fx_ui (fx_0) rfl) rfl (fun _ => rfl)) (gx_s) ((gx_k (by decide)).trans (e8)) hw (fun y2 y3 => ?_)
    obtain ⟨y4, y5⟩ := (c_s lord).2 y3
    refine (gx_k (by decide)).trans ?_
    rw [vf_s han y5 y4, if_neg (by omega), hv y2 y4]
  | false =>
    have z1 : m < 3 := nq_gef (a := m) (b := 3) (by omega) (by omega) c1
    refine xq_n 183 [0, 2, 3] [(0, .ref 39), (2, .int (bl w)), (3, .int (bl (gd w T q (m + 1))))] [] (xh_ui (xh_ui h 39 10 (((10 * (xg 0 h.2.1 39 10)) + (nI (T (q + m)))) - 48)) 39 7 ((xg 0 (xh_ui h 39 10 (((10 * (xg 0 h.2.1 39 10)) + (nI (T (q + m)))) - 48)).2.1 39 7) + (Int32.ofInt 1))) [false] 26 hq rfl ⟨(show xe_c .ge ((xg 0 h.2.1 39 7) - (xg 0 h.2.1 39 8)) (Int32.ofInt 3) = false by rw [show (xg 0 h.2.1 39 7) = (nI (q + m)) from e7, show (xg 0 h.2.1 39 8) = (nI q) from e8, show ((nI (q + m)) - (nI q)) = nI m from (by rw [nI_sub (by omega), Nat.add_sub_cancel_left])]; exact c1), trivial⟩ (fun _ => ?_)
    rw [show (xg 0 (xh_ui h 39 10 (((10 * (xg 0 h.2.1 39 10)) + (nI (T (q + m)))) - 48)).2.1 39 7) = (nI (q + m)) from (gx_k (by decide)).trans (e7)]
    rw [show ((nI (q + m)) + (Int32.ofInt 1)) = nI (q + m + 1) from nI_1 _]
    have hq : a_rq a_tb (xh_ui (xh_ui h 39 10 (((10 * (xg 0 h.2.1 39 10)) + (nI (T (q + m)))) - 48)) 39 7 (nI (q + m + 1))) := a_rq_ui (a_rq_ui hq)
    refine ih _ hq (fx_ui (fx_ui (g0) rfl) rfl) (rtp_f (S := gS) (L := gL) hc (fx_ui (fx_ui (fx_0) rfl) rfl) rfl (fun _ => rfl)) (gx_s) ((gx_k (by decide)).trans ((gx_k (by decide)).trans (e8))) hw (fun y2 y3 => ?_)
    obtain ⟨y4, y5⟩ := (c_s lord).2 y3
    refine ((gx_k (by decide)).trans (gx_s)).trans ?_
    rw [vf_s han y5 y4, if_pos (by omega), hv y2 y4]
    have := of_decide_eq_true y5
    exact nI_val2 (by omega)
set_option maxRecDepth 100000 in
set_option maxHeartbeats 4000000 in
theorem go_s2 {f n q m : Nat} {T : Nat → Nat} {h0 h : xh_H} {w : Bool} {Q : Option Value → xh_H → Prop} (ih : ∀ h, a_rq a_tb h → fx gS gL h0 h → rtp h T n → xg 0 h.2.1 39 7 = nI (q + (m + 1)) → xg 0 h.2.1 39 8 = nI q → (w = true → cD T q (m + 1) = 0 → xg 0 h.2.2.1 39 15 = Int64.ofNat (wv T q (min (m + 1) 8))) → (w = false → cL T q (m + 1) = 0 → xg 0 h.2.1 39 10 = nI (vf T q (m + 1))) → xq f xi_X10_go xmi_X10_go 183 [(0, .ref 39), (2, .int (bl w)), (3, .int (bl (gd w T q (m + 1))))] [] h Q) (lord : (p_lt (T (q + m)) = true ∧ p_dg (T (q + m)) = false) ∨ (p_lt (T (q + m)) = false ∧ p_dg (T (q + m)) = true)) (hq : a_rq a_tb h) (g0 : fx gS gL h0 h) (hc : rtp h T n) (e7 : xg 0 h.2.1 39 7 = nI (q + m)) (e8 : xg 0 h.2.1 39 8 = nI q) (hmn : q + m < n) (han : ∀ k, q ≤ k → k < q + m → p_an (T k) = true) (hw : w = true → cD T q m = 0 → xg 0 h.2.2.1 39 15 = Int64.ofNat (wv T q (min m 8))) (hv : w = false → cL T q m = 0 → xg 0 h.2.1 39 10 = nI (vf T q m)) : xq f xi_X10_go xmi_X10_go 241 [(0, .ref 39), (2, .int (bl w)), (3, .int (bl (gd w T q (m + 1)))), (4, .int (nI (T (q + m))))] [] h Q := by
  have n6 := hc.2.1
  cases c1 : xe_c .ge (nI m) 8 with
  | true =>
    have z1 : m ≥ 8 := nq_get (a := m) (b := 8) (by omega) (by omega) c1
    refine xq_n 275 [0, 2, 3, 4] [(0, .ref 39), (2, .int (bl w)), (3, .int (bl (gd w T q (m + 1)))), (4, .int (nI (T (q + m))))] [] h [true] 9 hq rfl ⟨(show xe_c .ge ((xg 0 h.2.1 39 7) - (xg 0 h.2.1 39 8)) 8 = true by rw [show (xg 0 h.2.1 39 7) = (nI (q + m)) from e7, show (xg 0 h.2.1 39 8) = (nI q) from e8, show ((nI (q + m)) - (nI q)) = nI m from (by rw [nI_sub (by omega), Nat.add_sub_cancel_left])]; exact c1), trivial⟩ (fun hq => ?_)
    refine go_s3 ih lord hq (g0) (hc) (e7) (e8) hmn han (fun y2 y3 => ?_) hv
    obtain ⟨y4, y5⟩ := (c_s lord).1 y3
    rw [show min (m + 1) 8 = min m 8 by omega]
    exact hw y2 y4
  | false =>
    have z1 : m < 8 := nq_gef (a := m) (b := 8) (by omega) (by omega) c1
    refine xq_n 275 [0, 2, 3, 4] [(0, .ref 39), (2, .int (bl w)), (3, .int (bl (gd w T q (m + 1)))), (4, .int (nI (T (q + m))))] [] (xh_ul h 39 15 (((27 * (xg 0 h.2.2.1 39 15)) + ((nI (T (q + m))).toInt64)) - 96)) [false] 20 hq rfl ⟨(show xe_c .ge ((xg 0 h.2.1 39 7) - (xg 0 h.2.1 39 8)) 8 = false by rw [show (xg 0 h.2.1 39 7) = (nI (q + m)) from e7, show (xg 0 h.2.1 39 8) = (nI q) from e8, show ((nI (q + m)) - (nI q)) = nI m from (by rw [nI_sub (by omega), Nat.add_sub_cancel_left])]; exact c1), trivial⟩ (fun _ => ?_)
    have hq : a_rq a_tb (xh_ul h 39 15 (((27 * (xg 0 h.2.2.1 39 15)) + ((nI (T (q + m))).toInt64)) - 96)) := a_rq_ul hq
    refine go_s3 ih lord hq (fx_ul (g0) rfl) (rtp_f (S := gS) (L := gL) hc (fx_ul (fx_0) rfl) rfl (fun _ => rfl)) (e7) (e8) hmn han (fun y2 y3 => ?_) hv
    obtain ⟨y4, y5⟩ := (c_s lord).1 y3
    have y6 := of_decide_eq_true y5
    rw [show min (m + 1) 8 = m + 1 by omega]
    refine gl_s.trans ?_
    rw [hw y2 y4, show min m 8 = m by omega]
    exact wl_val (by omega) (hc.2.2 _ hmn).1
set_option maxRecDepth 100000 in
set_option maxHeartbeats 4000000 in
theorem go_s1 {f n q m : Nat} {T : Nat → Nat} {h0 h : xh_H} {w : Bool} {Q : Option Value → xh_H → Prop} (hT : ∀ k, k < n → T k < 256) (ih : ∀ h, a_rq a_tb h → fx gS gL h0 h → rtp h T n → xg 0 h.2.1 39 7 = nI (q + (m + 1)) → xg 0 h.2.1 39 8 = nI q → (w = true → cD T q (m + 1) = 0 → xg 0 h.2.2.1 39 15 = Int64.ofNat (wv T q (min (m + 1) 8))) → (w = false → cL T q (m + 1) = 0 → xg 0 h.2.1 39 10 = nI (vf T q (m + 1))) → xq f xi_X10_go xmi_X10_go 183 [(0, .ref 39), (2, .int (bl w)), (3, .int (bl (gd w T q (m + 1))))] [] h Q) (lord : (p_lt (T (q + m)) = true ∧ p_dg (T (q + m)) = false) ∨ (p_lt (T (q + m)) = false ∧ p_dg (T (q + m)) = true)) (hq : a_rq a_tb h) (g0 : fx gS gL h0 h) (hc : rtp h T n) (e7 : xg 0 h.2.1 39 7 = nI (q + m)) (e8 : xg 0 h.2.1 39 8 = nI q) (hmn : q + m < n) (han : ∀ k, q ≤ k → k < q + m → p_an (T k) = true) (hw : w = true → cD T q m = 0 → xg 0 h.2.2.1 39 15 = Int64.ofNat (wv T q (min m 8))) (hv : w = false → cL T q m = 0 → xg 0 h.2.1 39 10 = nI (vf T q m)) : xq f xi_X10_go xmi_X10_go 211 [(0, .ref 39), (2, .int (bl w)), (3, .int (bl (gd w T q m)))] [] h Q := by
  have n6 := hc.2.1
  cases b1 : (gd w T q m) with
  | true =>
    refine xq_n 228 [0, 2, 3, 4] [(0, .ref 39), (2, .int (bl w)), (3, .int (bl true)), (4, .int (xg 0 h.2.1 40 ((xg 0 h.2.1 39 7).toNatClampNeg)))] [.int (xg 0 h.2.1 40 ((xg 0 h.2.1 39 7).toNatClampNeg))] h [false] 11 hq rfl ⟨rfl, trivial⟩ (fun hq => ?_)
    rw [show (xg 0 h.2.1 40 ((xg 0 h.2.1 39 7).toNatClampNeg)) = (nI (T (q + m))) from (by rw [show (xg 0 h.2.1 39 7) = (nI (q + m)) from e7, show ((nI (q + m)).toNatClampNeg) = (q + m) from nI_clamp (by omega)]; exact (hc.2.2 _ (by omega)).2)]
    refine xq_run hq rfl rfl (rlt_q (c := T (q + m)) (hT _ (by omega)) hq) ?_
    rintro v2 h_v2 ⟨rfl, rfl⟩
    cases c3 : xe_c .ne (bl (p_lt (T (q + m)))) (bl w) with
    | true =>
      refine xq_n 241 [0, 2, 3, 4] [(0, .ref 39), (2, .int (bl w)), (3, .int (Int32.ofInt 0)), (4, .int (nI (T (q + m))))] [] h [true] 6 hq rfl ⟨c3, trivial⟩ (fun hq => ?_)
      have y1 := c3
      rw [blne] at y1
      have eg : gd w T q (m + 1) = false := by rw [gd_s lord, b1, y1]; rfl
      rw [show (Int32.ofInt 0 : Int32) = bl (gd w T q (m + 1)) from by rw [eg]; rfl]
      exact go_s2 ih lord hq g0 hc e7 e8 hmn han hw hv
    | false =>
      refine xq_n 241 [0, 2, 3, 4] [(0, .ref 39), (2, .int (bl w)), (3, .int (Int32.ofInt 1)), (4, .int (nI (T (q + m))))] [] h [false] 7 hq rfl ⟨c3, trivial⟩ (fun hq => ?_)
      have y1 := c3
      rw [blne] at y1
      have eg : gd w T q (m + 1) = true := by rw [gd_s lord, b1, y1]; rfl
      rw [show (Int32.ofInt 1 : Int32) = bl (gd w T q (m + 1)) from by rw [eg]; rfl]
      exact go_s2 ih lord hq g0 hc e7 e8 hmn han hw hv
  | false =>
    refine xq_n 241 [0, 2, 3, 4] [(0, .ref 39), (2, .int (bl w)), (3, .int (Int32.ofInt 0)), (4, .int (xg 0 h.2.1 40 ((xg 0 h.2.1 39 7).toNatClampNeg)))] [] h [true] 12 hq rfl ⟨rfl, trivial⟩ (fun hq => ?_)
    rw [show (xg 0 h.2.1 40 ((xg 0 h.2.1 39 7).toNatClampNeg)) = (nI (T (q + m))) from (by rw [show (xg 0 h.2.1 39 7) = (nI (q + m)) from e7, show ((nI (q + m)).toNatClampNeg) = (q + m) from nI_clamp (by omega)]; exact (hc.2.2 _ (by omega)).2)]
    have eg : gd w T q (m + 1) = false := by rw [gd_s lord, b1]; rfl
    rw [show (Int32.ofInt 0 : Int32) = bl (gd w T q (m + 1)) from by rw [eg]; rfl]
    exact go_s2 ih lord hq g0 hc e7 e8 hmn han hw hv
set_option maxRecDepth 100000 in
set_option maxHeartbeats 4000000 in
theorem go_lp {n p q : Nat} {T : Nat → Nat} {h0 : xh_H} {w : Bool} (hT : ∀ k, k < n → T k < 256) (n6 : n ≤ 640) (et : tks T n p = q) (hL : q < min n 600) (han0 : p_an (T q) = true) (hw0 : w = p_lt (T q)) : ∀ (f m : Nat) (h : xh_H), a_rq a_tb h → fx gS gL h0 h → rtp h T n → xg 0 h.2.1 39 7 = nI (q + m) → xg 0 h.2.1 39 8 = nI q → q + m ≤ n → (∀ k, q ≤ k → k < q + m → p_an (T k) = true) → (w = true → cD T q m = 0 → xg 0 h.2.2.1 39 15 = Int64.ofNat (wv T q (min m 8))) → (w = false → cL T q m = 0 → xg 0 h.2.1 39 10 = nI (vf T q m)) → xq f xi_X10_go xmi_X10_go 183 [(0, .ref 39), (2, .int (bl w)), (3, .int (bl (gd w T q m)))] [] h (gr_Q h0 T n p) := by
  intro f
  induction f with
  | zero => intros; exact xq_0
  | succ f ih =>
    intro m h hq g0 hc e7 e8 hmn han hw hv
    by_cases hlt : q + m < n
    · have hTm := hT (q + m) hlt
      have body : (p_lt (T (q + m)) = true ∧ p_dg (T (q + m)) = false) ∨ (p_lt (T (q + m)) = false ∧ p_dg (T (q + m)) = true) → xq f xi_X10_go xmi_X10_go 211 [(0, .ref 39), (2, .int (bl w)), (3, .int (bl (gd w T q m)))] [] h (gr_Q h0 T n p) := by
        intro lord
        have hcl : p_an (T (q + m)) = true := by
          rcases lord with ⟨l1, -⟩ | ⟨-, l1⟩
          · have := of_decide_eq_true l1
            exact decide_eq_true (by omega)
          · have := of_decide_eq_true l1
            exact decide_eq_true (by omega)
        refine go_s1 hT (fun h2 a1 a2 a3 a4 a5 a6 a7 => ih (m + 1) h2 a1 a2 a3 a4 a5 (by omega) (fun k y2 y3 => ?_) a6 a7) lord hq g0 hc e7 e8 hlt han hw hv
        by_cases ek : k = q + m
        · rw [ek]; exact hcl
        · exact han k y2 (by omega)
      refine xq_m 188 [0, 2, 3] [(0, .ref 39), (2, .int (bl w)), (3, .int (bl (gd w T q m)))] [.int (xg 0 h.2.1 39 7), .ref 39] h [] 5 hq rfl trivial (fun hq => ?_)
      rw [show (xg 0 h.2.1 39 7) = (nI (q + m)) from e7]
      refine xq_run hq rfl rfl (bt_q (hc) (p := (q + m)) (by omega) (by omega) hq) ?_
      rintro v1 h_v1 ⟨rfl, rfl⟩
      refine xq_run hq rfl rfl (rlt_q (c := T (q + m)) (hT _ (by omega)) hq) ?_
      rintro v2 h_v2 ⟨rfl, rfl⟩
      cases b3 : (p_lt (T (q + m))) with
      | true =>
        refine xq_n 211 [0, 2, 3] [(0, .ref 39), (2, .int (bl w)), (3, .int (bl (gd w T q m)))] [] h [true] 3 hq rfl ⟨rfl, trivial⟩ (fun hq => ?_)
        exact body (Or.inl ⟨b3, decide_eq_false (by have := of_decide_eq_true b3; omega)⟩)
      | false =>
        refine xq_n 202 [0, 2, 3] [(0, .ref 39), (2, .int (bl w)), (3, .int (bl (gd w T q m)))] [.int (xg 0 h.2.1 39 7), .ref 39] h [false] 6 hq rfl ⟨rfl, trivial⟩ (fun hq => ?_)
        rw [show (xg 0 h.2.1 39 7) = (nI (q + m)) from e7]
        refine xq_run hq rfl rfl (bt_q (hc) (p := (q + m)) (by omega) (by omega) hq) ?_
        rintro v4 h_v4 ⟨rfl, rfl⟩
        refine xq_run hq rfl rfl (rdg_q (c := T (q + m)) (hT _ (by omega)) hq) ?_
        rintro v5 h_v5 ⟨rfl, rfl⟩
        cases b6 : (p_dg (T (q + m))) with
        | true =>
          refine xq_n 211 [0, 2, 3] [(0, .ref 39), (2, .int (bl w)), (3, .int (bl (gd w T q m)))] [] h [false] 3 hq rfl ⟨rfl, trivial⟩ (fun hq => ?_)
          exact body (Or.inr ⟨b3, b6⟩)
        | false =>
          refine xq_n 318 [0, 2, 3] [(0, .ref 39), (2, .int (bl w)), (3, .int (bl (gd w T q m)))] [] h [true] 3 hq rfl ⟨rfl, trivial⟩ (fun hq => ?_)
          have nan : p_an (T (q + m)) = false := by
            have y1 := of_decide_eq_false b3
            have y2 := of_decide_eq_false b6
            exact decide_eq_false (by omega)
          have m1 : 1 ≤ m := by
            by_cases y : m = 0
            · rw [y, Nat.add_zero, han0] at nan; cases nan
            · omega
          exact go_end hq g0 n6 e7 e8 hmn et hL han hw0 hw hv m1 (rn_eq han hmn (Or.inr nan))
    · have e : q + m = n := by omega
      refine xq_m 188 [0, 2, 3] [(0, .ref 39), (2, .int (bl w)), (3, .int (bl (gd w T q m)))] [.int (xg 0 h.2.1 39 7), .ref 39] h [] 5 hq rfl trivial (fun hq => ?_)
      rw [e7]
      refine xq_run hq rfl rfl (bt_z hc (p := q + m) (by omega) (by omega) hq) ?_
      rintro v1 h1 ⟨rfl, rfl⟩
      refine xq_run hq rfl rfl (rlt_q (c := 0) (by decide) hq) ?_
      rintro v1 h1 ⟨rfl, rfl⟩
      refine xq_n 202 [0, 2, 3] [(0, .ref 39), (2, .int (bl w)), (3, .int (bl (gd w T q m)))] [.int (xg 0 h.2.1 39 7), .ref 39] h [false] 6 hq rfl ⟨rfl, trivial⟩ (fun hq => ?_)
      rw [e7]
      refine xq_run hq rfl rfl (bt_z hc (p := q + m) (by omega) (by omega) hq) ?_
      rintro v1 h1 ⟨rfl, rfl⟩
      refine xq_run hq rfl rfl (rdg_q (c := 0) (by decide) hq) ?_
      rintro v1 h1 ⟨rfl, rfl⟩
      refine xq_n 318 [0, 2, 3] [(0, .ref 39), (2, .int (bl w)), (3, .int (bl (gd w T q m)))] [] h [true] 3 hq rfl ⟨rfl, trivial⟩ (fun hq => ?_)
      have m1 : 1 ≤ m := by omega
      exact go_end hq g0 n6 e7 e8 hmn et hL han hw0 hw hv m1 (rn_eq han hmn (Or.inl e))
set_option maxRecDepth 100000 in
set_option maxHeartbeats 4000000 in
theorem go_52 {f n p q : Nat} {T : Nat → Nat} {h0 h : xh_H} (hq : a_rq a_tb h) (hc : rtp h T n) (g0 : fx gS gL h0 h) (e7 : xg 0 h.2.1 39 7 = nI q) (hqn : q ≤ n) (et : tks T n q = tks T n p) (hb : q < n → p_bk (T q) = false) : xq f xi_X10_go xmi_X10_go 52 [(0, .ref 39)] [] h (gr_Q h0 T n p) := by
  have n6 := hc.2.1
  have hT : ∀ k, k < n → T k < 256 := fun k hk' => (hc.2.2 k hk').1
  cases c1 : xe_c .le (nI n) 600 with
  | true =>
    have z1 : n ≤ 600 := nq_let (a := n) (b := 600) (by omega) (by omega) c1
    cases c2 : xe_c .lt (nI q) (nI n) with
    | true =>
      have z2 : q < n := nq_ltt (a := q) (b := n) (by omega) (by omega) c2
      refine xq_n 121 [0, 1] [(0, .ref 39), (1, .int (xg 0 (xh_ui h 39 8 (xg 0 h.2.1 39 7)).2.1 40 ((xg 0 (xh_ui h 39 8 (xg 0 h.2.1 39 7)).2.1 39 7).toNatClampNeg)))] [.int (xg 0 (xh_ui h 39 8 (xg 0 h.2.1 39 7)).2.1 40 ((xg 0 (xh_ui h 39 8 (xg 0 h.2.1 39 7)).2.1 39 7).toNatClampNeg))] (xh_ui h 39 8 (xg 0 h.2.1 39 7)) [true, true] 22 hq rfl ⟨(show xe_c .le (xg 0 (xh_ui h 39 8 (xg 0 h.2.1 39 7)).2.1 39 6) 600 = true by rw [show (xg 0 (xh_ui h 39 8 (xg 0 h.2.1 39 7)).2.1 39 6) = (nI n) from (gx_k (by decide)).trans (hc.1)]; exact c1), (show xe_c .lt (xg 0 (xh_ui h 39 8 (xg 0 h.2.1 39 7)).2.1 39 7) (xg 0 (xh_ui h 39 8 (xg 0 h.2.1 39 7)).2.1 39 6) = true by rw [show (xg 0 (xh_ui h 39 8 (xg 0 h.2.1 39 7)).2.1 39 7) = (nI q) from (gx_k (by decide)).trans (e7), show (xg 0 (xh_ui h 39 8 (xg 0 h.2.1 39 7)).2.1 39 6) = (nI n) from (gx_k (by decide)).trans (hc.1)]; exact c2), trivial⟩ (fun _ => ?_)
      rw [show (xg 0 (xh_ui h 39 8 (xg 0 h.2.1 39 7)).2.1 40 ((xg 0 (xh_ui h 39 8 (xg 0 h.2.1 39 7)).2.1 39 7).toNatClampNeg)) = (nI (T q)) from (by rw [show (xg 0 (xh_ui h 39 8 (xg 0 h.2.1 39 7)).2.1 39 7) = (nI q) from (gx_k (by decide)).trans (e7), show ((nI q).toNatClampNeg) = q from nI_clamp (by omega)]; exact (gx_o (by decide)).trans ((hc.2.2 _ (by omega)).2))]
      rw [show (xg 0 h.2.1 39 7) = (nI q) from e7]
      have hq : a_rq a_tb (xh_ui h 39 8 (nI q)) := a_rq_ui hq
      refine xq_run hq rfl rfl (rlt_q (c := T q) (hT _ (by omega)) hq) ?_
      rintro v3 h_v3 ⟨rfl, rfl⟩
      cases b4 : (p_lt (T q)) with
      | true =>
        refine xq_n 167 [0, 1] [(0, .ref 39), (1, .int (nI (T q)))] [.int (nI (T q))] (xh_ui h 39 8 (nI q)) [true] 4 hq rfl ⟨rfl, trivial⟩ (fun hq => ?_)
        refine xq_run hq rfl rfl (rlt_q (c := T q) (hT _ (by omega)) hq) ?_
        rintro v5 h_v5 ⟨rfl, rfl⟩
        refine xq_n 183 [0, 2, 3] [(0, .ref 39), (2, .int (bl (p_lt (T q)))), (3, .int (Int32.ofInt 1))] [] (xh_ui (xh_ul (xh_ui h 39 8 (nI q)) 39 15 0) 39 10 (Int32.ofInt 0)) [] 11 hq rfl trivial (fun _ => ?_)
        have hq : a_rq a_tb (xh_ui (xh_ul (xh_ui h 39 8 (nI q)) 39 15 0) 39 10 (Int32.ofInt 0)) := a_rq_ui (a_rq_ul hq)
        have et2 : tks T n p = q := et.symm.trans (tks_s (by omega) (hb (by omega)))
        have han0 : p_an (T q) = true := by
          have y := of_decide_eq_true b4
          exact decide_eq_true (by omega)
        rw [show (Int32.ofInt 1 : Int32) = bl (gd (p_lt (T q)) T q 0) from by unfold gd; cases (p_lt (T q)) <;> rfl]
        exact go_lp (w := (p_lt (T q))) hT n6 et2 (by omega) han0 rfl f 0 _ hq (fx_ui (fx_ul (fx_ui (g0) rfl) rfl) rfl) (rtp_f (S := gS) (L := gL) hc (fx_ui (fx_ul (fx_ui (fx_0) rfl) rfl) rfl) rfl (fun _ => rfl)) ((gx_k (by decide)).trans ((gx_k (by decide)).trans (e7))) ((gx_k (by decide)).trans (gx_s)) (by omega) (fun k y1 y2 => by omega) (fun _ _ => gl_s) (fun _ _ => gx_s)
      | false =>
        refine xq_n 128 [0, 1] [(0, .ref 39), (1, .int (nI (T q)))] [.int (nI (T q))] (xh_ui h 39 8 (nI q)) [false] 4 hq rfl ⟨rfl, trivial⟩ (fun hq => ?_)
        refine xq_run hq rfl rfl (rdg_q (c := T q) (hT _ (by omega)) hq) ?_
        rintro v6 h_v6 ⟨rfl, rfl⟩
        cases b7 : (p_dg (T q)) with
        | true =>
          refine xq_n 167 [0, 1] [(0, .ref 39), (1, .int (nI (T q)))] [.int (nI (T q))] (xh_ui h 39 8 (nI q)) [true] 4 hq rfl ⟨rfl, trivial⟩ (fun hq => ?_)
          refine xq_run hq rfl rfl (rlt_q (c := T q) (hT _ (by omega)) hq) ?_
          rintro v8 h_v8 ⟨rfl, rfl⟩
          refine xq_n 183 [0, 2, 3] [(0, .ref 39), (2, .int (bl (p_lt (T q)))), (3, .int (Int32.ofInt 1))] [] (xh_ui (xh_ul (xh_ui h 39 8 (nI q)) 39 15 0) 39 10 (Int32.ofInt 0)) [] 11 hq rfl trivial (fun _ => ?_)
          have hq : a_rq a_tb (xh_ui (xh_ul (xh_ui h 39 8 (nI q)) 39 15 0) 39 10 (Int32.ofInt 0)) := a_rq_ui (a_rq_ul hq)
          have et2 : tks T n p = q := et.symm.trans (tks_s (by omega) (hb (by omega)))
          have han0 : p_an (T q) = true := by
            have y := of_decide_eq_true b7
            exact decide_eq_true (by omega)
          rw [show (Int32.ofInt 1 : Int32) = bl (gd (p_lt (T q)) T q 0) from by unfold gd; cases (p_lt (T q)) <;> rfl]
          exact go_lp (w := (p_lt (T q))) hT n6 et2 (by omega) han0 rfl f 0 _ hq (fx_ui (fx_ul (fx_ui (g0) rfl) rfl) rfl) (rtp_f (S := gS) (L := gL) hc (fx_ui (fx_ul (fx_ui (fx_0) rfl) rfl) rfl) rfl (fun _ => rfl)) ((gx_k (by decide)).trans ((gx_k (by decide)).trans (e7))) ((gx_k (by decide)).trans (gx_s)) (by omega) (fun k y1 y2 => by omega) (fun _ _ => gl_s) (fun _ _ => gx_s)
        | false =>
          refine xq_n 136 [0, 1] [(0, .ref 39), (1, .int (nI (T q)))] [.int (nI (T q)), .ref 39] (xh_ui h 39 8 (nI q)) [false] 5 hq rfl ⟨rfl, trivial⟩ (fun hq => ?_)
          refine xq_run hq rfl rfl (rsn_q (c := T q) (hT _ (by omega)) hq) ?_
          rintro v9 h_v9 ⟨rfl, rfl⟩
          cases b10 : (p_sn (T q)) with
          | true =>
            refine xq_n 165 [] [] [] (xh_ui (xh_ui (xh_ui (xh_ui h 39 8 (nI q)) 39 9 (Int32.ofInt 4)) 39 11 (nI (T q))) 39 7 ((xg 0 (xh_ui (xh_ui (xh_ui h 39 8 (nI q)) 39 9 (Int32.ofInt 4)) 39 11 (nI (T q))).2.1 39 7) + (Int32.ofInt 1))) [false] 15 hq rfl ⟨rfl, trivial⟩ (fun _ => ?_)
            rw [show (xg 0 (xh_ui (xh_ui (xh_ui h 39 8 (nI q)) 39 9 (Int32.ofInt 4)) 39 11 (nI (T q))).2.1 39 7) = (nI q) from (gx_k (by decide)).trans ((gx_k (by decide)).trans ((gx_k (by decide)).trans (e7)))]
            rw [show ((nI q) + (Int32.ofInt 1)) = nI (q + 1) from nI_1 _]
            have hq : a_rq a_tb (xh_ui (xh_ui (xh_ui (xh_ui h 39 8 (nI q)) 39 9 (Int32.ofInt 4)) 39 11 (nI (T q))) 39 7 (nI (q + 1))) := a_rq_ui (a_rq_ui (a_rq_ui hq))
            have et2 : tks T n p = q := et.symm.trans (tks_s (by omega) (hb (by omega)))
            have et := et2
            have hna : ¬ p_an (T q) = true := by
              intro y
              have y := of_decide_eq_true y
              have y1 := of_decide_eq_false b4
              have y2 := of_decide_eq_false b7
              omega
            have ee : tke T n p = q + 1 := by unfold tke eq_; rw [et, if_neg hna]
            have ekk : tkk T n p = T q := by unfold tkk kq; rw [et, if_neg (by omega), if_neg hna, if_pos b10]
            have y4 := sn_ge b10
            refine xq_ret rfl rfl rfl ⟨rfl, fx_ui (fx_ui (fx_ui (fx_ui (g0) rfl) rfl) rfl) rfl, ?_, ?_, ?_, ?_, ?_, ?_⟩
            · rw [et]; exact (gx_k (by decide)).trans ((gx_k (by decide)).trans ((gx_k (by decide)).trans (gx_s)))
            · rw [show rkk T n p = 4 by have := rkk_k (T := T) (n := n) (p := p); omega]; exact (gx_k (by decide)).trans ((gx_k (by decide)).trans (gx_s))
            · exact fun z => by omega
            · exact fun z => by omega
            · exact fun _ => by rw [ekk]; exact (gx_k (by decide)).trans (gx_s)
            · exact fun _ => by rw [ee]; exact gx_s
          | false =>
            refine xq_n 165 [] [] [] (xh_ui (xh_ui (xh_ui (xh_ui h 39 8 (nI q)) 39 9 (Int32.ofInt 1)) 39 11 (nI (T q))) 39 7 ((xg 0 (xh_ui (xh_ui (xh_ui h 39 8 (nI q)) 39 9 (Int32.ofInt 1)) 39 11 (nI (T q))).2.1 39 7) + (Int32.ofInt 1))) [true] 14 hq rfl ⟨rfl, trivial⟩ (fun _ => ?_)
            rw [show (xg 0 (xh_ui (xh_ui (xh_ui h 39 8 (nI q)) 39 9 (Int32.ofInt 1)) 39 11 (nI (T q))).2.1 39 7) = (nI q) from (gx_k (by decide)).trans ((gx_k (by decide)).trans ((gx_k (by decide)).trans (e7)))]
            rw [show ((nI q) + (Int32.ofInt 1)) = nI (q + 1) from nI_1 _]
            have hq : a_rq a_tb (xh_ui (xh_ui (xh_ui (xh_ui h 39 8 (nI q)) 39 9 (Int32.ofInt 1)) 39 11 (nI (T q))) 39 7 (nI (q + 1))) := a_rq_ui (a_rq_ui (a_rq_ui hq))
            have et2 : tks T n p = q := et.symm.trans (tks_s (by omega) (hb (by omega)))
            have et := et2
            have hna : ¬ p_an (T q) = true := by
              intro y
              have y := of_decide_eq_true y
              have y1 := of_decide_eq_false b4
              have y2 := of_decide_eq_false b7
              omega
            have ee : tke T n p = q + 1 := by unfold tke eq_; rw [et, if_neg hna]
            have ekk : tkk T n p = 1 := by unfold tkk kq; rw [et, if_neg (by omega), if_neg hna, if_neg (by rw [b10]; decide)]
            refine xq_ret rfl rfl rfl ⟨rfl, fx_ui (fx_ui (fx_ui (fx_ui (g0) rfl) rfl) rfl) rfl, ?_, ?_, ?_, ?_, ?_, ?_⟩
            · rw [et]; exact (gx_k (by decide)).trans ((gx_k (by decide)).trans ((gx_k (by decide)).trans (gx_s)))
            · rw [show rkk T n p = 1 by have := rkk_k (T := T) (n := n) (p := p); omega]; exact (gx_k (by decide)).trans ((gx_k (by decide)).trans (gx_s))
            · exact fun z => by omega
            · exact fun z => by omega
            · exact fun z => by omega
            · exact fun _ => by rw [ee]; exact gx_s
    | false =>
      have z2 : q ≥ n := nq_ltf (a := q) (b := n) (by omega) (by omega) c2
      refine xq_n 109 [] [] [] (xh_ui (xh_ui h 39 8 (xg 0 h.2.1 39 7)) 39 9 (Int32.ofInt 0)) [true, false] 18 hq rfl ⟨(show xe_c .le (xg 0 (xh_ui h 39 8 (xg 0 h.2.1 39 7)).2.1 39 6) 600 = true by rw [show (xg 0 (xh_ui h 39 8 (xg 0 h.2.1 39 7)).2.1 39 6) = (nI n) from (gx_k (by decide)).trans (hc.1)]; exact c1), (show xe_c .lt (xg 0 (xh_ui h 39 8 (xg 0 h.2.1 39 7)).2.1 39 7) (xg 0 (xh_ui h 39 8 (xg 0 h.2.1 39 7)).2.1 39 6) = false by rw [show (xg 0 (xh_ui h 39 8 (xg 0 h.2.1 39 7)).2.1 39 7) = (nI q) from (gx_k (by decide)).trans (e7), show (xg 0 (xh_ui h 39 8 (xg 0 h.2.1 39 7)).2.1 39 6) = (nI n) from (gx_k (by decide)).trans (hc.1)]; exact c2), trivial⟩ (fun _ => ?_)
      rw [show (xg 0 h.2.1 39 7) = (nI q) from e7]
      have hq : a_rq a_tb (xh_ui (xh_ui h 39 8 (nI q)) 39 9 (Int32.ofInt 0)) := a_rq_ui (a_rq_ui hq)
      have et2 : tks T n p = min n 600 := et.symm.trans (tks_n (by omega))
      have ekk : tkk T n p = 0 := by unfold tkk kq; rw [et2, if_pos (Nat.le_refl _)]
      refine xq_ret rfl rfl rfl ⟨rfl, fx_ui (fx_ui (g0) rfl) rfl, ?_, ?_, ?_, ?_, ?_, ?_⟩
      · rw [et2, show min n 600 = q by omega]; exact (gx_k (by decide)).trans (gx_s)
      · rw [show rkk T n p = 0 by have := rkk_k (T := T) (n := n) (p := p); omega]; exact gx_s
      · exact fun z => by omega
      · exact fun z => by omega
      · exact fun z => by omega
      · exact fun z => absurd ekk z
  | false =>
    have z1 : n > 600 := nq_lef (a := n) (b := 600) (by omega) (by omega) c1
    cases c11 : xe_c .lt (nI q) 600 with
    | true =>
      have z11 : q < 600 := nq_ltt (a := q) (b := 600) (by omega) (by omega) c11
      cases c12 : xe_c .lt (nI q) (nI n) with
      | true =>
        have z12 : q < n := nq_ltt (a := q) (b := n) (by omega) (by omega) c12
        refine xq_n 121 [0, 1] [(0, .ref 39), (1, .int (xg 0 (xh_ui h 39 8 (xg 0 h.2.1 39 7)).2.1 40 ((xg 0 (xh_ui h 39 8 (xg 0 h.2.1 39 7)).2.1 39 7).toNatClampNeg)))] [.int (xg 0 (xh_ui h 39 8 (xg 0 h.2.1 39 7)).2.1 40 ((xg 0 (xh_ui h 39 8 (xg 0 h.2.1 39 7)).2.1 39 7).toNatClampNeg))] (xh_ui h 39 8 (xg 0 h.2.1 39 7)) [false, true, true] 26 hq rfl ⟨(show xe_c .le (xg 0 (xh_ui h 39 8 (xg 0 h.2.1 39 7)).2.1 39 6) 600 = false by rw [show (xg 0 (xh_ui h 39 8 (xg 0 h.2.1 39 7)).2.1 39 6) = (nI n) from (gx_k (by decide)).trans (hc.1)]; exact c1), (show xe_c .lt (xg 0 (xh_ui h 39 8 (xg 0 h.2.1 39 7)).2.1 39 8) 600 = true by rw [show (xg 0 (xh_ui h 39 8 (xg 0 h.2.1 39 7)).2.1 39 8) = (xg 0 h.2.1 39 7) from gx_s, show (xg 0 h.2.1 39 7) = (nI q) from e7]; exact c11), (show xe_c .lt (xg 0 (xh_ui h 39 8 (xg 0 h.2.1 39 7)).2.1 39 7) (xg 0 (xh_ui h 39 8 (xg 0 h.2.1 39 7)).2.1 39 6) = true by rw [show (xg 0 (xh_ui h 39 8 (xg 0 h.2.1 39 7)).2.1 39 7) = (nI q) from (gx_k (by decide)).trans (e7), show (xg 0 (xh_ui h 39 8 (xg 0 h.2.1 39 7)).2.1 39 6) = (nI n) from (gx_k (by decide)).trans (hc.1)]; exact c12), trivial⟩ (fun _ => ?_)
        rw [show (xg 0 (xh_ui h 39 8 (xg 0 h.2.1 39 7)).2.1 40 ((xg 0 (xh_ui h 39 8 (xg 0 h.2.1 39 7)).2.1 39 7).toNatClampNeg)) = (nI (T q)) from (by rw [show (xg 0 (xh_ui h 39 8 (xg 0 h.2.1 39 7)).2.1 39 7) = (nI q) from (gx_k (by decide)).trans (e7), show ((nI q).toNatClampNeg) = q from nI_clamp (by omega)]; exact (gx_o (by decide)).trans ((hc.2.2 _ (by omega)).2))]
        rw [show (xg 0 h.2.1 39 7) = (nI q) from e7]
        have hq : a_rq a_tb (xh_ui h 39 8 (nI q)) := a_rq_ui hq
        refine xq_run hq rfl rfl (rlt_q (c := T q) (hT _ (by omega)) hq) ?_
        rintro v13 h_v13 ⟨rfl, rfl⟩
        cases b14 : (p_lt (T q)) with
        | true =>
          refine xq_n 167 [0, 1] [(0, .ref 39), (1, .int (nI (T q)))] [.int (nI (T q))] (xh_ui h 39 8 (nI q)) [true] 4 hq rfl ⟨rfl, trivial⟩ (fun hq => ?_)
          refine xq_run hq rfl rfl (rlt_q (c := T q) (hT _ (by omega)) hq) ?_
          rintro v15 h_v15 ⟨rfl, rfl⟩
          refine xq_n 183 [0, 2, 3] [(0, .ref 39), (2, .int (bl (p_lt (T q)))), (3, .int (Int32.ofInt 1))] [] (xh_ui (xh_ul (xh_ui h 39 8 (nI q)) 39 15 0) 39 10 (Int32.ofInt 0)) [] 11 hq rfl trivial (fun _ => ?_)
          have hq : a_rq a_tb (xh_ui (xh_ul (xh_ui h 39 8 (nI q)) 39 15 0) 39 10 (Int32.ofInt 0)) := a_rq_ui (a_rq_ul hq)
          have et2 : tks T n p = q := et.symm.trans (tks_s (by omega) (hb (by omega)))
          have han0 : p_an (T q) = true := by
            have y := of_decide_eq_true b14
            exact decide_eq_true (by omega)
          rw [show (Int32.ofInt 1 : Int32) = bl (gd (p_lt (T q)) T q 0) from by unfold gd; cases (p_lt (T q)) <;> rfl]
          exact go_lp (w := (p_lt (T q))) hT n6 et2 (by omega) han0 rfl f 0 _ hq (fx_ui (fx_ul (fx_ui (g0) rfl) rfl) rfl) (rtp_f (S := gS) (L := gL) hc (fx_ui (fx_ul (fx_ui (fx_0) rfl) rfl) rfl) rfl (fun _ => rfl)) ((gx_k (by decide)).trans ((gx_k (by decide)).trans (e7))) ((gx_k (by decide)).trans (gx_s)) (by omega) (fun k y1 y2 => by omega) (fun _ _ => gl_s) (fun _ _ => gx_s)
        | false =>
          refine xq_n 128 [0, 1] [(0, .ref 39), (1, .int (nI (T q)))] [.int (nI (T q))] (xh_ui h 39 8 (nI q)) [false] 4 hq rfl ⟨rfl, trivial⟩ (fun hq => ?_)
          refine xq_run hq rfl rfl (rdg_q (c := T q) (hT _ (by omega)) hq) ?_
          rintro v16 h_v16 ⟨rfl, rfl⟩
          cases b17 : (p_dg (T q)) with
          | true =>
            refine xq_n 167 [0, 1] [(0, .ref 39), (1, .int (nI (T q)))] [.int (nI (T q))] (xh_ui h 39 8 (nI q)) [true] 4 hq rfl ⟨rfl, trivial⟩ (fun hq => ?_)
            refine xq_run hq rfl rfl (rlt_q (c := T q) (hT _ (by omega)) hq) ?_
            rintro v18 h_v18 ⟨rfl, rfl⟩
            refine xq_n 183 [0, 2, 3] [(0, .ref 39), (2, .int (bl (p_lt (T q)))), (3, .int (Int32.ofInt 1))] [] (xh_ui (xh_ul (xh_ui h 39 8 (nI q)) 39 15 0) 39 10 (Int32.ofInt 0)) [] 11 hq rfl trivial (fun _ => ?_)
            have hq : a_rq a_tb (xh_ui (xh_ul (xh_ui h 39 8 (nI q)) 39 15 0) 39 10 (Int32.ofInt 0)) := a_rq_ui (a_rq_ul hq)
            have et2 : tks T n p = q := et.symm.trans (tks_s (by omega) (hb (by omega)))
            have han0 : p_an (T q) = true := by
              have y := of_decide_eq_true b17
              exact decide_eq_true (by omega)
            rw [show (Int32.ofInt 1 : Int32) = bl (gd (p_lt (T q)) T q 0) from by unfold gd; cases (p_lt (T q)) <;> rfl]
            exact go_lp (w := (p_lt (T q))) hT n6 et2 (by omega) han0 rfl f 0 _ hq (fx_ui (fx_ul (fx_ui (g0) rfl) rfl) rfl) (rtp_f (S := gS) (L := gL) hc (fx_ui (fx_ul (fx_ui (fx_0) rfl) rfl) rfl) rfl (fun _ => rfl)) ((gx_k (by decide)).trans ((gx_k (by decide)).trans (e7))) ((gx_k (by decide)).trans (gx_s)) (by omega) (fun k y1 y2 => by omega) (fun _ _ => gl_s) (fun _ _ => gx_s)
          | false =>
            refine xq_n 136 [0, 1] [(0, .ref 39), (1, .int (nI (T q)))] [.int (nI (T q)), .ref 39] (xh_ui h 39 8 (nI q)) [false] 5 hq rfl ⟨rfl, trivial⟩ (fun hq => ?_)
            refine xq_run hq rfl rfl (rsn_q (c := T q) (hT _ (by omega)) hq) ?_
            rintro v19 h_v19 ⟨rfl, rfl⟩
            cases b20 : (p_sn (T q)) with
            | true =>
              refine xq_n 165 [] [] [] (xh_ui (xh_ui (xh_ui (xh_ui h 39 8 (nI q)) 39 9 (Int32.ofInt 4)) 39 11 (nI (T q))) 39 7 ((xg 0 (xh_ui (xh_ui (xh_ui h 39 8 (nI q)) 39 9 (Int32.ofInt 4)) 39 11 (nI (T q))).2.1 39 7) + (Int32.ofInt 1))) [false] 15 hq rfl ⟨rfl, trivial⟩ (fun _ => ?_)
              rw [show (xg 0 (xh_ui (xh_ui (xh_ui h 39 8 (nI q)) 39 9 (Int32.ofInt 4)) 39 11 (nI (T q))).2.1 39 7) = (nI q) from (gx_k (by decide)).trans ((gx_k (by decide)).trans ((gx_k (by decide)).trans (e7)))]
              rw [show ((nI q) + (Int32.ofInt 1)) = nI (q + 1) from nI_1 _]
              have hq : a_rq a_tb (xh_ui (xh_ui (xh_ui (xh_ui h 39 8 (nI q)) 39 9 (Int32.ofInt 4)) 39 11 (nI (T q))) 39 7 (nI (q + 1))) := a_rq_ui (a_rq_ui (a_rq_ui hq))
              have et2 : tks T n p = q := et.symm.trans (tks_s (by omega) (hb (by omega)))
              have et := et2
              have hna : ¬ p_an (T q) = true := by
                intro y
                have y := of_decide_eq_true y
                have y1 := of_decide_eq_false b14
                have y2 := of_decide_eq_false b17
                omega
              have ee : tke T n p = q + 1 := by unfold tke eq_; rw [et, if_neg hna]
              have ekk : tkk T n p = T q := by unfold tkk kq; rw [et, if_neg (by omega), if_neg hna, if_pos b20]
              have y4 := sn_ge b20
              refine xq_ret rfl rfl rfl ⟨rfl, fx_ui (fx_ui (fx_ui (fx_ui (g0) rfl) rfl) rfl) rfl, ?_, ?_, ?_, ?_, ?_, ?_⟩
              · rw [et]; exact (gx_k (by decide)).trans ((gx_k (by decide)).trans ((gx_k (by decide)).trans (gx_s)))
              · rw [show rkk T n p = 4 by have := rkk_k (T := T) (n := n) (p := p); omega]; exact (gx_k (by decide)).trans ((gx_k (by decide)).trans (gx_s))
              · exact fun z => by omega
              · exact fun z => by omega
              · exact fun _ => by rw [ekk]; exact (gx_k (by decide)).trans (gx_s)
              · exact fun _ => by rw [ee]; exact gx_s
            | false =>
              refine xq_n 165 [] [] [] (xh_ui (xh_ui (xh_ui (xh_ui h 39 8 (nI q)) 39 9 (Int32.ofInt 1)) 39 11 (nI (T q))) 39 7 ((xg 0 (xh_ui (xh_ui (xh_ui h 39 8 (nI q)) 39 9 (Int32.ofInt 1)) 39 11 (nI (T q))).2.1 39 7) + (Int32.ofInt 1))) [true] 14 hq rfl ⟨rfl, trivial⟩ (fun _ => ?_)
              rw [show (xg 0 (xh_ui (xh_ui (xh_ui h 39 8 (nI q)) 39 9 (Int32.ofInt 1)) 39 11 (nI (T q))).2.1 39 7) = (nI q) from (gx_k (by decide)).trans ((gx_k (by decide)).trans ((gx_k (by decide)).trans (e7)))]
              rw [show ((nI q) + (Int32.ofInt 1)) = nI (q + 1) from nI_1 _]
              have hq : a_rq a_tb (xh_ui (xh_ui (xh_ui (xh_ui h 39 8 (nI q)) 39 9 (Int32.ofInt 1)) 39 11 (nI (T q))) 39 7 (nI (q + 1))) := a_rq_ui (a_rq_ui (a_rq_ui hq))
              have et2 : tks T n p = q := et.symm.trans (tks_s (by omega) (hb (by omega)))
              have et := et2
              have hna : ¬ p_an (T q) = true := by
                intro y
                have y := of_decide_eq_true y
                have y1 := of_decide_eq_false b14
                have y2 := of_decide_eq_false b17
                omega
              have ee : tke T n p = q + 1 := by unfold tke eq_; rw [et, if_neg hna]
              have ekk : tkk T n p = 1 := by unfold tkk kq; rw [et, if_neg (by omega), if_neg hna, if_neg (by rw [b20]; decide)]
              refine xq_ret rfl rfl rfl ⟨rfl, fx_ui (fx_ui (fx_ui (fx_ui (g0) rfl) rfl) rfl) rfl, ?_, ?_, ?_, ?_, ?_, ?_⟩
              · rw [et]; exact (gx_k (by decide)).trans ((gx_k (by decide)).trans ((gx_k (by decide)).trans (gx_s)))
              · rw [show rkk T n p = 1 by have := rkk_k (T := T) (n := n) (p := p); omega]; exact (gx_k (by decide)).trans ((gx_k (by decide)).trans (gx_s))
              · exact fun z => by omega
              · exact fun z => by omega
              · exact fun z => by omega
              · exact fun _ => by rw [ee]; exact gx_s
      | false =>
        have z12 : q ≥ n := nq_ltf (a := q) (b := n) (by omega) (by omega) c12
        refine xq_n 109 [] [] [] (xh_ui (xh_ui h 39 8 (xg 0 h.2.1 39 7)) 39 9 (Int32.ofInt 0)) [false, true, false] 22 hq rfl ⟨(show xe_c .le (xg 0 (xh_ui h 39 8 (xg 0 h.2.1 39 7)).2.1 39 6) 600 = false by rw [show (xg 0 (xh_ui h 39 8 (xg 0 h.2.1 39 7)).2.1 39 6) = (nI n) from (gx_k (by decide)).trans (hc.1)]; exact c1), (show xe_c .lt (xg 0 (xh_ui h 39 8 (xg 0 h.2.1 39 7)).2.1 39 8) 600 = true by rw [show (xg 0 (xh_ui h 39 8 (xg 0 h.2.1 39 7)).2.1 39 8) = (xg 0 h.2.1 39 7) from gx_s, show (xg 0 h.2.1 39 7) = (nI q) from e7]; exact c11), (show xe_c .lt (xg 0 (xh_ui h 39 8 (xg 0 h.2.1 39 7)).2.1 39 7) (xg 0 (xh_ui h 39 8 (xg 0 h.2.1 39 7)).2.1 39 6) = false by rw [show (xg 0 (xh_ui h 39 8 (xg 0 h.2.1 39 7)).2.1 39 7) = (nI q) from (gx_k (by decide)).trans (e7), show (xg 0 (xh_ui h 39 8 (xg 0 h.2.1 39 7)).2.1 39 6) = (nI n) from (gx_k (by decide)).trans (hc.1)]; exact c12), trivial⟩ (fun _ => ?_)
        rw [show (xg 0 h.2.1 39 7) = (nI q) from e7]
        have hq : a_rq a_tb (xh_ui (xh_ui h 39 8 (nI q)) 39 9 (Int32.ofInt 0)) := a_rq_ui (a_rq_ui hq)
        have et2 : tks T n p = min n 600 := et.symm.trans (tks_n (by omega))
        have ekk : tkk T n p = 0 := by unfold tkk kq; rw [et2, if_pos (Nat.le_refl _)]
        refine xq_ret rfl rfl rfl ⟨rfl, fx_ui (fx_ui (g0) rfl) rfl, ?_, ?_, ?_, ?_, ?_, ?_⟩
        · rw [et2, show min n 600 = q by omega]; exact (gx_k (by decide)).trans (gx_s)
        · rw [show rkk T n p = 0 by have := rkk_k (T := T) (n := n) (p := p); omega]; exact gx_s
        · exact fun z => by omega
        · exact fun z => by omega
        · exact fun z => by omega
        · exact fun z => absurd ekk z
    | false =>
      have z11 : q ≥ 600 := nq_ltf (a := q) (b := 600) (by omega) (by omega) c11
      refine xq_n 92 [] [] [] (xh_ui (xh_ui (xh_ui h 39 8 (xg 0 h.2.1 39 7)) 39 8 600) 39 9 (Int32.ofInt 1)) [false, false] 20 hq rfl ⟨(show xe_c .le (xg 0 (xh_ui h 39 8 (xg 0 h.2.1 39 7)).2.1 39 6) 600 = false by rw [show (xg 0 (xh_ui h 39 8 (xg 0 h.2.1 39 7)).2.1 39 6) = (nI n) from (gx_k (by decide)).trans (hc.1)]; exact c1), (show xe_c .lt (xg 0 (xh_ui h 39 8 (xg 0 h.2.1 39 7)).2.1 39 8) 600 = false by rw [show (xg 0 (xh_ui h 39 8 (xg 0 h.2.1 39 7)).2.1 39 8) = (xg 0 h.2.1 39 7) from gx_s, show (xg 0 h.2.1 39 7) = (nI q) from e7]; exact c11), trivial⟩ (fun _ => ?_)
      rw [show (xg 0 h.2.1 39 7) = (nI q) from e7]
      have hq : a_rq a_tb (xh_ui (xh_ui (xh_ui h 39 8 (nI q)) 39 8 600) 39 9 (Int32.ofInt 1)) := a_rq_ui (a_rq_ui (a_rq_ui hq))
      have et2 : tks T n p = min n 600 := et.symm.trans (tks_n (by omega))
      have ekk : tkk T n p = 0 := by unfold tkk kq; rw [et2, if_pos (Nat.le_refl _)]
      refine xq_ret rfl rfl rfl ⟨rfl, fx_ui (fx_ui (fx_ui (g0) rfl) rfl) rfl, ?_, ?_, ?_, ?_, ?_, ?_⟩
      · rw [et2, show min n 600 = 600 by omega]; exact (gx_k (by decide)).trans (gx_s)
      · rw [show rkk T n p = 1 by have := rkk_k (T := T) (n := n) (p := p); omega]; exact gx_s
      · exact fun z => by omega
      · exact fun z => by omega
      · exact fun z => by omega
      · exact fun z => absurd ekk z
set_option maxRecDepth 100000 in
set_option maxHeartbeats 4000000 in
theorem go_l0 {n p : Nat} {T : Nat → Nat} {h0 : xh_H} : ∀ (f q : Nat) (h : xh_H), a_rq a_tb h → rtp h T n → fx gS gL h0 h → xg 0 h.2.1 39 7 = nI q → q ≤ n → tks T n q = tks T n p → xq f xi_X10_go xmi_X10_go 0 [(0, .ref 39)] [] h (gr_Q h0 T n p) := by
  intro f
  induction f with
  | zero => intros; exact xq_0
  | succ f ih =>
    intro q h hq hc g0 e7 hqn et
    have n6 := hc.2.1
    have hT : ∀ k, k < n → T k < 256 := fun k hk' => (hc.2.2 k hk').1
    have hTq : T q < 256 ∨ n ≤ q := by
      by_cases y : q < n
      · exact Or.inl (hT q y)
      · exact Or.inr (by omega)
    cases c1 : xe_c .ge (nI q) (nI n) with
    | true =>
      have z1 : q ≥ n := nq_get (a := q) (b := n) (by omega) (by omega) c1
      refine xq_m 52 [0] [(0, .ref 39)] [] h [true] 7 hq rfl ⟨(show xe_c .ge (xg 0 h.2.1 39 7) (xg 0 h.2.1 39 6) = true by rw [show (xg 0 h.2.1 39 7) = (nI q) from e7, show (xg 0 h.2.1 39 6) = (nI n) from hc.1]; exact c1), trivial⟩ (fun hq => ?_)
      exact go_52 hq hc g0 e7 hqn et (fun y => by omega)
    | false =>
      have z1 : q < n := nq_gef (a := q) (b := n) (by omega) (by omega) c1
      cases c2 : xe_c .eq (nI (T q)) 32 with
      | true =>
        have z2 : (T q) = 32 := nq_eqt (a := (T q)) (b := 32) (by omega) (by omega) c2
        refine xq_m 0 [0] [(0, .ref 39)] [] (xh_ui h 39 7 ((xg 0 h.2.1 39 7) + (Int32.ofInt 1))) [false, true] 21 hq rfl ⟨(show xe_c .ge (xg 0 h.2.1 39 7) (xg 0 h.2.1 39 6) = false by rw [show (xg 0 h.2.1 39 7) = (nI q) from e7, show (xg 0 h.2.1 39 6) = (nI n) from hc.1]; exact c1), (show xe_c .eq (xg 0 h.2.1 40 ((xg 0 h.2.1 39 7).toNatClampNeg)) 32 = true by rw [show (xg 0 h.2.1 40 ((xg 0 h.2.1 39 7).toNatClampNeg)) = (nI (T q)) from (by rw [show (xg 0 h.2.1 39 7) = (nI q) from e7, show ((nI q).toNatClampNeg) = q from nI_clamp (by omega)]; exact (hc.2.2 _ (by omega)).2)]; exact c2), trivial⟩ (fun _ => ?_)
        rw [show (xg 0 h.2.1 39 7) = (nI q) from e7]
        rw [show ((nI q) + (Int32.ofInt 1)) = nI (q + 1) from nI_1 _]
        have hq : a_rq a_tb (xh_ui h 39 7 (nI (q + 1))) := a_rq_ui hq
        exact ih (q + 1) _ hq (rtp_f (S := gS) (L := gL) hc (fx_ui (fx_0) rfl) rfl (fun _ => rfl)) (fx_ui (g0) rfl) (gx_s) (by omega) ((tks_b (by omega) (decide_eq_true (by omega))).symm.trans et)
      | false =>
        have z2 : (T q) ≠ 32 := nq_eqf (a := (T q)) (b := 32) (by omega) (by omega) c2
        cases c3 : xe_c .ne (nI (T q)) 10 with
        | true =>
          have z3 : (T q) ≠ 10 := nq_net (a := (T q)) (b := 10) (by omega) (by omega) c3
          refine xq_m 52 [0] [(0, .ref 39)] [] h [false, false, true] 21 hq rfl ⟨(show xe_c .ge (xg 0 h.2.1 39 7) (xg 0 h.2.1 39 6) = false by rw [show (xg 0 h.2.1 39 7) = (nI q) from e7, show (xg 0 h.2.1 39 6) = (nI n) from hc.1]; exact c1), (show xe_c .eq (xg 0 h.2.1 40 ((xg 0 h.2.1 39 7).toNatClampNeg)) 32 = false by rw [show (xg 0 h.2.1 40 ((xg 0 h.2.1 39 7).toNatClampNeg)) = (nI (T q)) from (by rw [show (xg 0 h.2.1 39 7) = (nI q) from e7, show ((nI q).toNatClampNeg) = q from nI_clamp (by omega)]; exact (hc.2.2 _ (by omega)).2)]; exact c2), (show xe_c .ne (xg 0 h.2.1 40 ((xg 0 h.2.1 39 7).toNatClampNeg)) 10 = true by rw [show (xg 0 h.2.1 40 ((xg 0 h.2.1 39 7).toNatClampNeg)) = (nI (T q)) from (by rw [show (xg 0 h.2.1 39 7) = (nI q) from e7, show ((nI q).toNatClampNeg) = q from nI_clamp (by omega)]; exact (hc.2.2 _ (by omega)).2)]; exact c3), trivial⟩ (fun hq => ?_)
          exact go_52 hq hc g0 e7 hqn et (fun _ => decide_eq_false (by omega))
        | false =>
          have z3 : (T q) = 10 := nq_nef (a := (T q)) (b := 10) (by omega) (by omega) c3
          refine xq_m 0 [0] [(0, .ref 39)] [] (xh_ui h 39 7 ((xg 0 h.2.1 39 7) + (Int32.ofInt 1))) [false, false, false] 28 hq rfl ⟨(show xe_c .ge (xg 0 h.2.1 39 7) (xg 0 h.2.1 39 6) = false by rw [show (xg 0 h.2.1 39 7) = (nI q) from e7, show (xg 0 h.2.1 39 6) = (nI n) from hc.1]; exact c1), (show xe_c .eq (xg 0 h.2.1 40 ((xg 0 h.2.1 39 7).toNatClampNeg)) 32 = false by rw [show (xg 0 h.2.1 40 ((xg 0 h.2.1 39 7).toNatClampNeg)) = (nI (T q)) from (by rw [show (xg 0 h.2.1 39 7) = (nI q) from e7, show ((nI q).toNatClampNeg) = q from nI_clamp (by omega)]; exact (hc.2.2 _ (by omega)).2)]; exact c2), (show xe_c .ne (xg 0 h.2.1 40 ((xg 0 h.2.1 39 7).toNatClampNeg)) 10 = false by rw [show (xg 0 h.2.1 40 ((xg 0 h.2.1 39 7).toNatClampNeg)) = (nI (T q)) from (by rw [show (xg 0 h.2.1 39 7) = (nI q) from e7, show ((nI q).toNatClampNeg) = q from nI_clamp (by omega)]; exact (hc.2.2 _ (by omega)).2)]; exact c3), trivial⟩ (fun _ => ?_)
          rw [show (xg 0 h.2.1 39 7) = (nI q) from e7]
          rw [show ((nI q) + (Int32.ofInt 1)) = nI (q + 1) from nI_1 _]
          have hq : a_rq a_tb (xh_ui h 39 7 (nI (q + 1))) := a_rq_ui hq
          exact ih (q + 1) _ hq (rtp_f (S := gS) (L := gL) hc (fx_ui (fx_0) rfl) rfl (fun _ => rfl)) (fx_ui (g0) rfl) (gx_s) (by omega) ((tks_b (by omega) (decide_eq_true (by omega))).symm.trans et)
/-- the reference's next token -/
theorem go_q {f n p : Nat} {T : Nat → Nat} {h : xh_H} (hq : a_rq a_tb h) (hc : rtp h T n) (e7 : xg 0 h.2.1 39 7 = nI p) (hp : p ≤ n) : xq f xi_X10_go xmi_X10_go 0 [(0, .ref 39)] [] h (gr_Q h T n p) := go_l0 f p h hq hc fx_0 e7 hp rfl
end XGR
end
section
section XAU
/-! reading a rule as an automaton: a state is whether a one is awaited (1) or was read (0), where the token at hand begins to be read, how many ones there were, what is open (0 the rule itself, 1 a bracket, 2 a list; the innermost first) -/
abbrev aSt : Type := Nat × Nat × Nat × List Nat
abbrev aRs : Type := Sum aSt (Nat × Nat)
section
variable (T : Nat → Nat) (n mem nn : Nat) (NW : Nat → Nat)
/-- the name at hand was told -/
def hasn (w : Nat) : Bool := decide (∃ k, k < nn ∧ NW k = w)
/-- a list begins: 'of' is at hand -/
def bls (p o : Nat) (fs : List Nat) : aRs := if ky T n p 4 = false then .inr (1, tks T n p) else if tkk T n (tke T n p) ≠ 91 then .inr (1, tks T n (tke T n p)) else if fs.length = 13 then .inr (4, tks T n (tke T n p)) else .inl (1, tke T n (tke T n p), o, 2 :: fs)
/-- a one begins -/
def bo (p o : Nat) (fs : List Nat) : aRs := if tkk T n p = 3 then (if tkn T n p = 0 then .inr (2, tks T n p) else if o = 120 then .inr (4, tks T n p) else bls T n (tke T n p) (o + 1) fs) else if tkk T n p = 40 then (if o = 120 then .inr (4, tks T n p) else if fs.length = 13 then .inr (4, tks T n p) else .inl (1, tke T n p, o + 1, 1 :: fs)) else if lone T n p = true then (if mem ≤ T (tks T n p) - 97 then .inr (2, tks T n p) else if o = 120 then .inr (4, tks T n p) else .inl (0, tke T n p, o + 1, fs)) else if nmt T n p = true then (if hasn nn NW (tkw T n p) = false then .inr (3, tks T n p) else if o = 120 then .inr (4, tks T n p) else .inl (0, tke T n p, o + 1, fs)) else .inr (1, tks T n p)
/-- an item that begins with a number -/
def bi (p o : Nat) (fs : List Nat) : aRs := if tkk T n (tke T n p) = 42 then bo T n mem nn NW (tke T n (tke T n p)) o fs else if ky T n (tke T n p) 4 = false then .inr (1, tks T n (tke T n p)) else if tkn T n p = 0 then .inr (2, tks T n p) else if o = 120 then .inr (4, tks T n p) else bls T n (tke T n p) (o + 1) fs
def bg (p o : Nat) (fs : List Nat) : aRs := if fs.head? = some 2 ∧ tkk T n p = 3 then bi T n mem nn NW p o fs else bo T n mem nn NW p o fs
/-- a one was read; the rule is read when nothing is open any more -/
def en (p o : Nat) (fs : List Nat) : aRs := if fs.head? = some 2 then (if tkk T n p = 93 then .inl (0, tke T n p, o, fs.tail) else .inl (1, p, o, fs)) else if ky T n p 2 = true then .inl (1, tke T n p, o, fs) else if ky T n p 3 = true then .inl (1, tke T n p, o, fs) else if fs.head? = some 0 then (if tkk T n p = 59 then .inl (0, tke T n p, o, []) else .inr (1, tks T n p)) else if tkk T n p = 41 then .inl (0, tke T n p, o, fs.tail) else .inr (1, tks T n p)
def stp (s : aSt) : aRs := if s.2.2.2 = [] then .inl s else if s.1 = 1 then bg T n mem nn NW s.2.1 s.2.2.1 s.2.2.2 else en T n s.2.1 s.2.2.1 s.2.2.2
def its : Nat → aSt → aRs
  | 0, s => .inl s
  | k + 1, s => (match stp T n mem nn NW s with
    | .inl s' => its k s'
    | .inr e => .inr e)
def Rc (s s' : aSt) : Prop := ∃ k, its T n mem nn NW k s = .inl s'
def Fl (s : aSt) (e : Nat × Nat) : Prop := ∃ k, its T n mem nn NW k s = .inr e
/-- .. from a result on -/
def Rr (r : aRs) (s' : aSt) : Prop := ∃ s, r = .inl s ∧ Rc T n mem nn NW s s'
def Fr (r : aRs) (e : Nat × Nat) : Prop := r = .inr e ∨ ∃ s, r = .inl s ∧ Fl T n mem nn NW s e
end
variable {T : Nat → Nat} {n mem nn : Nat} {NW : Nat → Nat} {s s1 s2 : aSt} {e : Nat × Nat} {r : aRs}
theorem Rc_0 : Rc T n mem nn NW s s := ⟨0, rfl⟩
theorem its_add : ∀ {k j : Nat} {s : aSt}, its T n mem nn NW k s = .inl s1 → its T n mem nn NW (k + j) s = its T n mem nn NW j s1 := by
  intro k
  induction k with
  | zero => intro j s h; cases h; rw [Nat.zero_add]
  | succ k ih =>
    intro j s h
    rw [show k + 1 + j = (k + j) + 1 by omega]
    have h : (match stp T n mem nn NW s with
      | .inl s' => its T n mem nn NW k s'
      | .inr e => .inr e) = .inl s1 := h
    show (match stp T n mem nn NW s with
      | .inl s' => its T n mem nn NW (k + j) s'
      | .inr e => .inr e) = its T n mem nn NW j s1
    cases hs : stp T n mem nn NW s with
    | inl s' => rw [hs] at h; exact ih h
    | inr e => rw [hs] at h; cases h
theorem Rc_t (a : Rc T n mem nn NW s s1) (b : Rc T n mem nn NW s1 s2) : Rc T n mem nn NW s s2 := by
  obtain ⟨k, hk⟩ := a
  obtain ⟨j, hj⟩ := b
  exact ⟨k + j, (its_add hk).trans hj⟩
theorem Fl_t (a : Rc T n mem nn NW s s1) (b : Fl T n mem nn NW s1 e) : Fl T n mem nn NW s e := by
  obtain ⟨k, hk⟩ := a
  obtain ⟨j, hj⟩ := b
  exact ⟨k + j, (its_add hk).trans hj⟩
theorem Rc_1 (h : stp T n mem nn NW s = .inl s1) : Rc T n mem nn NW s s1 := ⟨1, by
  show (match stp T n mem nn NW s with
    | .inl s' => its T n mem nn NW 0 s'
    | .inr e => .inr e) = .inl s1
  rw [h]
  rfl⟩
theorem Rc_r (h : stp T n mem nn NW s = r) (a : Rr T n mem nn NW r s1) : Rc T n mem nn NW s s1 := by
  obtain ⟨s2, h1, h2⟩ := a
  exact Rc_t (Rc_1 (h.trans h1)) h2
theorem Fl_1 (h : stp T n mem nn NW s = .inr e) : Fl T n mem nn NW s e := ⟨1, by
  show (match stp T n mem nn NW s with
    | .inl s' => its T n mem nn NW 0 s'
    | .inr e => .inr e) = .inr e
  rw [h]⟩
theorem Fl_r (h : stp T n mem nn NW s = r) (a : Fr T n mem nn NW r e) : Fl T n mem nn NW s e := by
  rcases a with h1 | ⟨s2, h1, h2⟩
  · exact Fl_1 (h.trans h1)
  · exact Fl_t (Rc_1 (h.trans h1)) h2
theorem Rr_t (a : Rr T n mem nn NW r s1) (b : Rc T n mem nn NW s1 s2) : Rr T n mem nn NW r s2 := by
  obtain ⟨s, h1, h2⟩ := a
  exact ⟨s, h1, Rc_t h2 b⟩
theorem Fr_t (a : Rr T n mem nn NW r s1) (b : Fl T n mem nn NW s1 e) : Fr T n mem nn NW r e := by
  obtain ⟨s, h1, h2⟩ := a
  exact Or.inr ⟨s, h1, Fl_t h2 b⟩
end XAU
end
section
section XRF
theorem wv_lt {T : Nat → Nat} {q : Nat} : ∀ {m : Nat}, (∀ k, k < m → 97 ≤ T (q + k) ∧ T (q + k) ≤ 122) → wv T q m < 27 ^ m := by
  intro m
  induction m with
  | zero => intro _; show 0 < 27 ^ 0; decide
  | succ m ih =>
    intro h
    have h1 := ih (fun k hk' => h k (by omega))
    have h2 := h m (by omega)
    show 27 * wv T q m + (T (q + m) - 96) < 27 ^ (m + 1)
    rw [Nat.pow_succ]
    omega
theorem tkw_lt {T : Nat → Nat} {n p : Nat} (h : tkk T n p = 2) : tkw T n p < 282429536481 := by
  have h1 := tk2 h
  have h2 := wv_lt (T := T) (q := tks T n p) (m := tke T n p - tks T n p) (fun k hk' => h1.2.2 _ (by omega) (by omega))
  have h3 : 27 ^ (tke T n p - tks T n p) ≤ 27 ^ 8 := Nat.pow_le_pow_right (by decide) h1.2.1
  have h4 : (27 : Nat) ^ 8 = 282429536481 := by decide
  unfold tkw
  omega
/-- what holds while a rule is read -/
def frs (h : xh_H) : List Nat → Prop
  | [] => True
  | t :: fs => xg 0 h.2.1 47 fs.length = nI t ∧ t ≤ 2 ∧ frs h fs
theorem frs_c {h h' : xh_H} : ∀ {fs : List Nat}, (∀ k, k < fs.length → xg 0 h'.2.1 47 k = xg 0 h.2.1 47 k) → frs h fs → frs h' fs := by
  intro fs
  induction fs with
  | nil => intro _ _; trivial
  | cons t fs ih =>
    intro e g
    refine ⟨by rw [e _ (by show fs.length < fs.length + 1; omega)]; exact g.1, g.2.1, ih (fun k hk' => e k (by show k < fs.length + 1; omega)) g.2.2⟩
def nms (h : xh_H) (nn : Nat) (NW : Nat → Nat) : Prop := xg 0 h.2.1 39 26 = nI nn ∧ nn ≤ 16 ∧ ∀ k, k < nn → NW k < 282429536481 ∧ xg 0 h.2.2.1 50 k = Int64.ofNat (NW k)
def rr (h : xh_H) (T : Nat → Nat) (n mem nn : Nat) (NW : Nat → Nat) (p o : Nat) (fs : List Nat) : Prop := rtp h T n ∧ rtk h T n p ∧ xg 0 h.2.1 39 4 = nI mem ∧ mem ≤ 12 ∧ nms h nn NW ∧ xg 0 h.2.1 39 27 = nI o ∧ o ≤ 120 ∧ xg 0 h.2.1 39 28 = nI (fs.length - 1) ∧ 1 ≤ fs.length ∧ fs.length ≤ 13 ∧ frs h fs ∧ xg 0 h.2.1 39 13 = nI 0
def rS (c k : Nat) : Bool := (Nat.beq c 39 && ((Nat.ble 7 k && Nat.ble k 14) || (Nat.ble 27 k && Nat.ble k 29))) || (Nat.beq c 41 || (Nat.beq c 42 || (Nat.beq c 45 || (Nat.beq c 46 || (Nat.beq c 47 || (Nat.beq c 48 || Nat.beq c 49))))))
def rT (c k : Nat) : Bool := rS c k || (Nat.beq c 39 && Nat.beq k 30)
theorem rS_t {c k : Nat} (h : rT c k = false) : rS c k = false := by
  unfold rT at h
  cases h1 : rS c k with
  | false => rfl
  | true => rw [h1] at h; cases h
def bS (c k : Nat) : Bool := Nat.beq c 39 && (Nat.beq k 13 || Nat.beq k 14)
def oS (t c k : Nat) : Bool := (Nat.beq c 39 && ((Nat.ble 7 k && Nat.ble k 12) || Nat.beq k 29)) || (Nat.beq c 41 || (Nat.beq c 42 || (Nat.beq c 45 || (Nat.beq c 46 || (Nat.beq c 48 || (Nat.beq c 49 || (Nat.beq c 47 && Nat.beq k t)))))))
theorem or_f {a b : Bool} (h : (a || b) = false) : a = false ∧ b = false := by cases a <;> cases b <;> simp_all
theorem gS_o {t c k : Nat} (h : oS t c k = false) : gS c k = false := by
  unfold oS at h
  unfold gS
  have h1 := (or_f h).1
  cases h2 : Nat.beq c 39 with
  | false => rfl
  | true => rw [h2] at h1; exact (or_f h1).1
theorem gS_r {c k : Nat} (h : rS c k = false) : gS c k = false := by
  unfold rS at h
  unfold gS
  have h1 := (or_f h).1
  cases h2 : Nat.beq c 39 with
  | false => rfl
  | true =>
    rw [h2] at h1
    have h3 := (or_f h1).1
    have h3 : (Nat.ble 7 k && Nat.ble k 14) = false := h3
    cases h4 : Nat.ble 7 k with
    | false => rfl
    | true =>
      rw [h4] at h3
      have h3 : Nat.ble k 14 = false := h3
      show Nat.ble k 12 = false
      rw [Bool.eq_false_iff] at h3 ⊢
      intro z
      exact h3 (Nat.ble_eq.mpr (by have := Nat.ble_eq.mp z; omega))
theorem bS_r {c k : Nat} (h : rS c k = false) : bS c k = false := by
  unfold rS at h
  unfold bS
  have h1 := (or_f h).1
  cases h2 : Nat.beq c 39 with
  | false => rfl
  | true =>
    rw [h2] at h1
    have h3 := (or_f h1).1
    show (Nat.beq k 13 || Nat.beq k 14) = false
    rw [Bool.eq_false_iff]
    intro z
    have h4 : k = 13 ∨ k = 14 := by
      cases z1 : Nat.beq k 13 with
      | true => exact Or.inl (Nat.eq_of_beq_eq_true z1)
      | false => rw [z1] at z; exact Or.inr (Nat.eq_of_beq_eq_true z)
    have h5 : (Nat.ble 7 k && Nat.ble k 14) = true := by
      rw [Nat.ble_eq.mpr (show 7 ≤ k by omega), Nat.ble_eq.mpr (show k ≤ 14 by omega)]
      rfl
    have h3 : (Nat.ble 7 k && Nat.ble k 14) = false := h3
    rw [h5] at h3
    cases h3
theorem oS_r {t c k : Nat} (h : rS c k = false) : oS t c k = false := by
  have hg := gS_r h
  unfold rS at h
  unfold oS
  obtain ⟨h1, h2⟩ := or_f h
  obtain ⟨h41, h2⟩ := or_f h2
  obtain ⟨h42, h2⟩ := or_f h2
  obtain ⟨h45, h2⟩ := or_f h2
  obtain ⟨h46, h2⟩ := or_f h2
  obtain ⟨h47, h2⟩ := or_f h2
  obtain ⟨h48, h49⟩ := or_f h2
  rw [h41, h42, h45, h46, h47, h48, h49]
  cases h5 : Nat.beq c 39 with
  | false => rfl
  | true =>
    rw [h5] at h1
    unfold gS at hg
    rw [h5] at hg
    have hg : (Nat.ble 7 k && Nat.ble k 12) = false := hg
    have h6 : (Nat.ble 27 k && Nat.ble k 29) = false := (or_f h1).2
    rw [hg]
    show ((false || Nat.beq k 29) || _) = false
    cases h7 : Nat.beq k 29 with
    | false => rfl
    | true =>
      rw [Nat.eq_of_beq_eq_true h7] at h6
      cases h6
set_option maxRecDepth 100000 in
set_option maxHeartbeats 4000000 in
theorem rsg_q {f n p c : Nat} {T : Nat → Nat} {h : xh_H} (hc4 : 40 ≤ c) (hc5 : c < 256) (hT : ∀ k, k < n → T k < 256) (rt : rtk h T n p) (hq : a_rq a_tb h) : xq f xi_X10_isSign xmi_X10_isSign 0 [(0, .ref 39), (1, .int (nI c))] [] h (fun v h' => h = h' ∧ v = some (.int (bl (decide (tkk T n p = c))))) := by
  have rb := (rkk_k (T := T) (n := n) (p := p)).1
  have k256 := tkk_lt (T := T) (n := n) (p := p) hT
  cases c1 : xe_c .ne (nI (rkk T n p)) (Int32.ofInt 4) with
  | true =>
    have z1 : (rkk T n p) ≠ 4 := nq_net (a := (rkk T n p)) (b := 4) (by omega) (by omega) c1
    have yc1 := mt (rk4 (T := T) (n := n) (p := p)).mpr z1
    refine xq_n 21 [] [] [.int (Int32.ofInt 0)] h [true] 7 hq rfl ⟨(show xe_c .ne (xg 0 h.2.1 39 9) (Int32.ofInt 4) = true by rw [show (xg 0 h.2.1 39 9) = (nI (rkk T n p)) from rt.2.1]; exact c1), trivial⟩ (fun hq => ?_)
    exact xq_ret rfl rfl rfl ⟨rfl, by rw [show decide (tkk T n p = c) = false from decide_eq_false (by omega)]; rfl⟩
  | false =>
    have z1 : (rkk T n p) = 4 := nq_nef (a := (rkk T n p)) (b := 4) (by omega) (by omega) c1
    have yc1 := (rk4 (T := T) (n := n) (p := p)).mp z1
    cases c2 : xe_c .ne (nI (tkk T n p)) (nI c) with
    | true =>
      have z2 : (tkk T n p) ≠ c := nq_net (a := (tkk T n p)) (b := c) (by omega) (by omega) c2
      refine xq_n 21 [] [] [.int (Int32.ofInt 0)] h [false, true] 11 hq rfl ⟨(show xe_c .ne (xg 0 h.2.1 39 9) (Int32.ofInt 4) = false by rw [show (xg 0 h.2.1 39 9) = (nI (rkk T n p)) from rt.2.1]; exact c1), (show xe_c .ne (xg 0 h.2.1 39 11) (nI c) = true by rw [show (xg 0 h.2.1 39 11) = (nI (tkk T n p)) from rt.2.2.2.2.1 (by omega)]; exact c2), trivial⟩ (fun hq => ?_)
      exact xq_ret rfl rfl rfl ⟨rfl, by rw [show decide (tkk T n p = c) = false from decide_eq_false (by omega)]; rfl⟩
    | false =>
      have z2 : (tkk T n p) = c := nq_nef (a := (tkk T n p)) (b := c) (by omega) (by omega) c2
      refine xq_n 21 [] [] [.int (Int32.ofInt 1)] h [false, false] 12 hq rfl ⟨(show xe_c .ne (xg 0 h.2.1 39 9) (Int32.ofInt 4) = false by rw [show (xg 0 h.2.1 39 9) = (nI (rkk T n p)) from rt.2.1]; exact c1), (show xe_c .ne (xg 0 h.2.1 39 11) (nI c) = false by rw [show (xg 0 h.2.1 39 11) = (nI (tkk T n p)) from rt.2.2.2.2.1 (by omega)]; exact c2), trivial⟩ (fun hq => ?_)
      exact xq_ret rfl rfl rfl ⟨rfl, by rw [show decide (tkk T n p = c) = true from decide_eq_true (by omega)]; rfl⟩
set_option maxRecDepth 100000 in
set_option maxHeartbeats 4000000 in
theorem rky_q {f n p W : Nat} {T : Nat → Nat} {h : xh_H} (hW : W < 282429536481) (hT : ∀ k, k < n → T k < 256) (rt : rtk h T n p) (hq : a_rq a_tb h) : xq f xi_X10_isKey xmi_X10_isKey 0 [(0, .ref 39), (1, .long (Int64.ofNat W))] [] h (fun v h' => h = h' ∧ v = some (.int (bl (decide (tkk T n p = 2 ∧ tkw T n p = W))))) := by
  have rb := (rkk_k (T := T) (n := n) (p := p)).1
  have k256 := tkk_lt (T := T) (n := n) (p := p) hT
  cases c1 : xe_c .ne (nI (rkk T n p)) (Int32.ofInt 2) with
  | true =>
    have z1 : (rkk T n p) ≠ 2 := nq_net (a := (rkk T n p)) (b := 2) (by omega) (by omega) c1
    have yc1 := mt (rk2 (T := T) (n := n) (p := p)).mpr z1
    refine xq_n 22 [] [] [.int (Int32.ofInt 0)] h [true] 7 hq rfl ⟨(show xe_c .ne (xg 0 h.2.1 39 9) (Int32.ofInt 2) = true by rw [show (xg 0 h.2.1 39 9) = (nI (rkk T n p)) from rt.2.1]; exact c1), trivial⟩ (fun hq => ?_)
    exact xq_ret rfl rfl rfl ⟨rfl, by rw [show decide (tkk T n p = 2 ∧ tkw T n p = W) = false from decide_eq_false (by omega)]; rfl⟩
  | false =>
    have z1 : (rkk T n p) = 2 := nq_nef (a := (rkk T n p)) (b := 2) (by omega) (by omega) c1
    have yc1 := (rk2 (T := T) (n := n) (p := p)).mp z1
    have wb := tkw_lt (T := T) (n := n) (p := p) yc1
    cases c2 : xe_c .ne (lg_cmp (Int64.ofNat (tkw T n p)) (Int64.ofNat W)) 0 with
    | true =>
      have z2 : (tkw T n p) ≠ W := fun y => xne_i c2 (lg0.mpr (by rw [y]))
      refine xq_n 22 [] [] [.int (Int32.ofInt 0)] h [false, true] 12 hq rfl ⟨(show xe_c .ne (xg 0 h.2.1 39 9) (Int32.ofInt 2) = false by rw [show (xg 0 h.2.1 39 9) = (nI (rkk T n p)) from rt.2.1]; exact c1), (show xe_c .ne (lg_cmp (xg 0 h.2.2.1 39 15) (Int64.ofNat W)) 0 = true by rw [show (xg 0 h.2.2.1 39 15) = (Int64.ofNat (tkw T n p)) from (rt.2.2.1 (by omega)).2]; exact c2), trivial⟩ (fun hq => ?_)
      exact xq_ret rfl rfl rfl ⟨rfl, by rw [show decide (tkk T n p = 2 ∧ tkw T n p = W) = false from decide_eq_false (by omega)]; rfl⟩
    | false =>
      have z2 : (tkw T n p) = W := i64_inj (by omega) (by omega) (lg0.mp (xne_j c2))
      refine xq_n 22 [] [] [.int (Int32.ofInt 1)] h [false, false] 13 hq rfl ⟨(show xe_c .ne (xg 0 h.2.1 39 9) (Int32.ofInt 2) = false by rw [show (xg 0 h.2.1 39 9) = (nI (rkk T n p)) from rt.2.1]; exact c1), (show xe_c .ne (lg_cmp (xg 0 h.2.2.1 39 15) (Int64.ofNat W)) 0 = false by rw [show (xg 0 h.2.2.1 39 15) = (Int64.ofNat (tkw T n p)) from (rt.2.2.1 (by omega)).2]; exact c2), trivial⟩ (fun hq => ?_)
      exact xq_ret rfl rfl rfl ⟨rfl, by rw [show decide (tkk T n p = 2 ∧ tkw T n p = W) = true from decide_eq_true (by omega)]; rfl⟩
set_option maxRecDepth 100000 in
set_option maxHeartbeats 4000000 in
theorem rw0_q {f n p : Nat} {T : Nat → Nat} {h : xh_H} (hT : ∀ k, k < n → T k < 256) (rt : rtk h T n p) (hq : a_rq a_tb h) : xq f xi_X10_isBody xmi_X10_isBody 0 [(0, .ref 39)] [] h (fun v h' => h = h' ∧ v = some (.int (bl (ky T n p 0)))) := by
  refine xq_n 10 [] [] [.int (Int32.ofInt 0), .int 121, .int 100, .int 111, .int 98, .ref 39] h [] 8 hq rfl trivial (fun _ => ?_)
  refine xq_run (Q1 := fun v h' => h = h' ∧ v = some (.long (Int64.ofNat 50434))) hq rfl rfl ?_ ?_
  · refine xq_n 81 [] [] [.long (((27 * (((27 * (((27 * ((98 : Int32).toInt64 - 96)) + (111 : Int32).toInt64) - 96)) + (100 : Int32).toInt64) - 96)) + (121 : Int32).toInt64) - 96)] h [false, false, true] 39 hq rfl ⟨by decide, by decide, by decide, trivial⟩ (fun _ => ?_)
    exact xq_ret rfl rfl rfl ⟨rfl, by decide +kernel⟩
  · rintro v h1 ⟨rfl, rfl⟩
    refine xq_run hq rfl rfl (rky_q (W := 50434) (by decide) hT rt hq) ?_
    rintro v h1 ⟨rfl, rfl⟩
    exact xq_ret rfl rfl rfl ⟨rfl, by unfold ky; rw [show sW 0 = 50434 by decide]⟩
set_option maxRecDepth 100000 in
set_option maxHeartbeats 4000000 in
theorem rw1_q {f n p : Nat} {T : Nat → Nat} {h : xh_H} (hT : ∀ k, k < n → T k < 256) (rt : rtk h T n p) (hq : a_rq a_tb h) : xq f xi_X10_isCarry xmi_X10_isCarry 0 [(0, .ref 39)] [] h (fun v h' => h = h' ∧ v = some (.int (bl (ky T n p 1)))) := by
  refine xq_n 11 [] [] [.int 121, .int 114, .int 114, .int 97, .int 99, .ref 39] h [] 8 hq rfl trivial (fun _ => ?_)
  refine xq_run (Q1 := fun v h' => h = h' ∧ v = some (.long (Int64.ofNat 1627639))) hq rfl rfl ?_ ?_
  · refine xq_n 81 [] [] [.long (((27 * (((27 * (((27 * (((27 * ((99 : Int32).toInt64 - 96)) + (97 : Int32).toInt64) - 96)) + (114 : Int32).toInt64) - 96)) + (114 : Int32).toInt64) - 96)) + (121 : Int32).toInt64) - 96)] h [false, false, false] 47 hq rfl ⟨by decide, by decide, by decide, trivial⟩ (fun _ => ?_)
    exact xq_ret rfl rfl rfl ⟨rfl, by decide +kernel⟩
  · rintro v h1 ⟨rfl, rfl⟩
    refine xq_run hq rfl rfl (rky_q (W := 1627639) (by decide) hT rt hq) ?_
    rintro v h1 ⟨rfl, rfl⟩
    exact xq_ret rfl rfl rfl ⟨rfl, by unfold ky; rw [show sW 1 = 1627639 by decide]⟩
set_option maxRecDepth 100000 in
set_option maxHeartbeats 4000000 in
theorem rw2_q {f n p : Nat} {T : Nat → Nat} {h : xh_H} (hT : ∀ k, k < n → T k < 256) (rt : rtk h T n p) (hq : a_rq a_tb h) : xq f xi_X10_isAnd xmi_X10_isAnd 0 [(0, .ref 39)] [] h (fun v h' => h = h' ∧ v = some (.int (bl (ky T n p 2)))) := by
  refine xq_n 9 [] [] [.int (Int32.ofInt 0), .int (Int32.ofInt 0), .int 100, .int 110, .int 97, .ref 39] h [] 8 hq rfl trivial (fun _ => ?_)
  refine xq_run (Q1 := fun v h' => h = h' ∧ v = some (.long (Int64.ofNat 1111))) hq rfl rfl ?_ ?_
  · refine xq_n 81 [] [] [.long (((27 * (((27 * ((97 : Int32).toInt64 - 96)) + (110 : Int32).toInt64) - 96)) + (100 : Int32).toInt64) - 96)] h [false, true, true] 30 hq rfl ⟨by decide, by decide, by decide, trivial⟩ (fun _ => ?_)
    exact xq_ret rfl rfl rfl ⟨rfl, by decide +kernel⟩
  · rintro v h1 ⟨rfl, rfl⟩
    refine xq_run hq rfl rfl (rky_q (W := 1111) (by decide) hT rt hq) ?_
    rintro v h1 ⟨rfl, rfl⟩
    exact xq_ret rfl rfl rfl ⟨rfl, by unfold ky; rw [show sW 2 = 1111 by decide]⟩
set_option maxRecDepth 100000 in
set_option maxHeartbeats 4000000 in
theorem rw3_q {f n p : Nat} {T : Nat → Nat} {h : xh_H} (hT : ∀ k, k < n → T k < 256) (rt : rtk h T n p) (hq : a_rq a_tb h) : xq f xi_X10_isOr xmi_X10_isOr 0 [(0, .ref 39)] [] h (fun v h' => h = h' ∧ v = some (.int (bl (ky T n p 3)))) := by
  refine xq_n 8 [] [] [.int (Int32.ofInt 0), .int (Int32.ofInt 0), .int (Int32.ofInt 0), .int 114, .int 111, .ref 39] h [] 8 hq rfl trivial (fun _ => ?_)
  refine xq_run (Q1 := fun v h' => h = h' ∧ v = some (.long (Int64.ofNat 423))) hq rfl rfl ?_ ?_
  · refine xq_n 81 [] [] [.long (((27 * ((111 : Int32).toInt64 - 96)) + (114 : Int32).toInt64) - 96)] h [true, true, true] 21 hq rfl ⟨by decide, by decide, by decide, trivial⟩ (fun _ => ?_)
    exact xq_ret rfl rfl rfl ⟨rfl, by decide +kernel⟩
  · rintro v h1 ⟨rfl, rfl⟩
    refine xq_run hq rfl rfl (rky_q (W := 423) (by decide) hT rt hq) ?_
    rintro v h1 ⟨rfl, rfl⟩
    exact xq_ret rfl rfl rfl ⟨rfl, by unfold ky; rw [show sW 3 = 423 by decide]⟩
set_option maxRecDepth 100000 in
set_option maxHeartbeats 4000000 in
theorem rw4_q {f n p : Nat} {T : Nat → Nat} {h : xh_H} (hT : ∀ k, k < n → T k < 256) (rt : rtk h T n p) (hq : a_rq a_tb h) : xq f xi_X10_isOf xmi_X10_isOf 0 [(0, .ref 39)] [] h (fun v h' => h = h' ∧ v = some (.int (bl (ky T n p 4)))) := by
  refine xq_n 8 [] [] [.int (Int32.ofInt 0), .int (Int32.ofInt 0), .int (Int32.ofInt 0), .int 102, .int 111, .ref 39] h [] 8 hq rfl trivial (fun _ => ?_)
  refine xq_run (Q1 := fun v h' => h = h' ∧ v = some (.long (Int64.ofNat 411))) hq rfl rfl ?_ ?_
  · refine xq_n 81 [] [] [.long (((27 * ((111 : Int32).toInt64 - 96)) + (102 : Int32).toInt64) - 96)] h [true, true, true] 21 hq rfl ⟨by decide, by decide, by decide, trivial⟩ (fun _ => ?_)
    exact xq_ret rfl rfl rfl ⟨rfl, by decide +kernel⟩
  · rintro v h1 ⟨rfl, rfl⟩
    refine xq_run hq rfl rfl (rky_q (W := 411) (by decide) hT rt hq) ?_
    rintro v h1 ⟨rfl, rfl⟩
    exact xq_ret rfl rfl rfl ⟨rfl, by unfold ky; rw [show sW 4 = 411 by decide]⟩
theorem nmt_k0 {T : Nat → Nat} {n p : Nat} (h : ky T n p 0 = true) : nmt T n p = false := by
  have h1 := (of_decide_eq_true h).2
  unfold nmt
  rw [h1]
  exact decide_eq_false (fun ⟨_, _, a, _⟩ => a rfl)
theorem nmt_k1 {T : Nat → Nat} {n p : Nat} (h : ky T n p 1 = true) : nmt T n p = false := by
  have h1 := (of_decide_eq_true h).2
  unfold nmt
  rw [h1]
  exact decide_eq_false (fun ⟨_, _, _, a, _⟩ => a rfl)
theorem nmt_k2 {T : Nat → Nat} {n p : Nat} (h : ky T n p 2 = true) : nmt T n p = false := by
  have h1 := (of_decide_eq_true h).2
  unfold nmt
  rw [h1]
  exact decide_eq_false (fun ⟨_, _, _, _, a, _⟩ => a rfl)
theorem nmt_k3 {T : Nat → Nat} {n p : Nat} (h : ky T n p 3 = true) : nmt T n p = false := by
  have h1 := (of_decide_eq_true h).2
  unfold nmt
  rw [h1]
  exact decide_eq_false (fun ⟨_, _, _, _, _, a, _⟩ => a rfl)
theorem nmt_k4 {T : Nat → Nat} {n p : Nat} (h : ky T n p 4 = true) : nmt T n p = false := by
  have h1 := (of_decide_eq_true h).2
  unfold nmt
  rw [h1]
  exact decide_eq_false (fun ⟨_, _, _, _, _, _, a⟩ => a rfl)
set_option maxRecDepth 100000 in
set_option maxHeartbeats 4000000 in
theorem rnm_q {f n p : Nat} {T : Nat → Nat} {h : xh_H} (hT : ∀ k, k < n → T k < 256) (rt : rtk h T n p) (hq : a_rq a_tb h) : xq f xi_X10_isName xmi_X10_isName 0 [(0, .ref 39)] [] h (fun v h' => h = h' ∧ v = some (.int (bl (nmt T n p)))) := by
  have rb := (rkk_k (T := T) (n := n) (p := p)).1
  have k256 := tkk_lt (T := T) (n := n) (p := p) hT
  cases c1 : xe_c .ne (nI (rkk T n p)) (Int32.ofInt 2) with
  | true =>
    have z1 : (rkk T n p) ≠ 2 := nq_net (a := (rkk T n p)) (b := 2) (by omega) (by omega) c1
    have yc1 := mt (rk2 (T := T) (n := n) (p := p)).mpr z1
    refine xq_n 56 [] [] [.int (Int32.ofInt 0)] h [true] 7 hq rfl ⟨(show xe_c .ne (xg 0 h.2.1 39 9) (Int32.ofInt 2) = true by rw [show (xg 0 h.2.1 39 9) = (nI (rkk T n p)) from rt.2.1]; exact c1), trivial⟩ (fun hq => ?_)
    exact xq_ret rfl rfl rfl ⟨rfl, by rw [show nmt T n p = false from decide_eq_false (fun y => yc1 y.1)]; rfl⟩
  | false =>
    have z1 : (rkk T n p) = 2 := nq_nef (a := (rkk T n p)) (b := 2) (by omega) (by omega) c1
    have yc1 := (rk2 (T := T) (n := n) (p := p)).mp z1
    have gt := (tk2 (T := T) (n := n) (p := p) yc1).2.1
    cases c2 : xe_c .le (nI (tke T n p - tks T n p)) (Int32.ofInt 1) with
    | true =>
      have z2 : (tke T n p - tks T n p) ≤ 1 := nq_let (a := (tke T n p - tks T n p)) (b := 1) (by omega) (by omega) c2
      refine xq_n 56 [] [] [.int (Int32.ofInt 0)] h [false, true] 11 hq rfl ⟨(show xe_c .ne (xg 0 h.2.1 39 9) (Int32.ofInt 2) = false by rw [show (xg 0 h.2.1 39 9) = (nI (rkk T n p)) from rt.2.1]; exact c1), (show xe_c .le (xg 0 h.2.1 39 12) (Int32.ofInt 1) = true by rw [show (xg 0 h.2.1 39 12) = (nI (tke T n p - tks T n p)) from (rt.2.2.1 (by omega)).1]; exact c2), trivial⟩ (fun hq => ?_)
      exact xq_ret rfl rfl rfl ⟨rfl, by rw [show nmt T n p = false from decide_eq_false (fun y => Nat.not_le.mpr (Nat.lt_succ_of_le z2) y.2.1)]; rfl⟩
    | false =>
      have z2 : (tke T n p - tks T n p) > 1 := nq_lef (a := (tke T n p - tks T n p)) (b := 1) (by omega) (by omega) c2
      refine xq_n 17 [0] [(0, .ref 39)] [.ref 39] h [false, false] 11 hq rfl ⟨(show xe_c .ne (xg 0 h.2.1 39 9) (Int32.ofInt 2) = false by rw [show (xg 0 h.2.1 39 9) = (nI (rkk T n p)) from rt.2.1]; exact c1), (show xe_c .le (xg 0 h.2.1 39 12) (Int32.ofInt 1) = false by rw [show (xg 0 h.2.1 39 12) = (nI (tke T n p - tks T n p)) from (rt.2.2.1 (by omega)).1]; exact c2), trivial⟩ (fun hq => ?_)
      refine xq_run hq rfl rfl (rw0_q hT rt hq) ?_
      rintro v3 h_v3 ⟨rfl, rfl⟩
      cases b4 : (ky T n p 0) with
      | true =>
        have db4 := of_decide_eq_true b4
        refine xq_n 56 [] [] [.int (Int32.ofInt 0)] h [true] 4 hq rfl ⟨rfl, trivial⟩ (fun hq => ?_)
        exact xq_ret rfl rfl rfl ⟨rfl, by rw [nmt_k0 b4]; rfl⟩
      | false =>
        have db4 := of_decide_eq_false b4
        refine xq_n 24 [0] [(0, .ref 39)] [.ref 39] h [false] 4 hq rfl ⟨rfl, trivial⟩ (fun hq => ?_)
        refine xq_run hq rfl rfl (rw1_q hT rt hq) ?_
        rintro v5 h_v5 ⟨rfl, rfl⟩
        cases b6 : (ky T n p 1) with
        | true =>
          have db6 := of_decide_eq_true b6
          refine xq_n 56 [] [] [.int (Int32.ofInt 0)] h [true] 4 hq rfl ⟨rfl, trivial⟩ (fun hq => ?_)
          exact xq_ret rfl rfl rfl ⟨rfl, by rw [nmt_k1 b6]; rfl⟩
        | false =>
          have db6 := of_decide_eq_false b6
          refine xq_n 31 [0] [(0, .ref 39)] [.ref 39] h [false] 4 hq rfl ⟨rfl, trivial⟩ (fun hq => ?_)
          refine xq_run hq rfl rfl (rw2_q hT rt hq) ?_
          rintro v7 h_v7 ⟨rfl, rfl⟩
          cases b8 : (ky T n p 2) with
          | true =>
            have db8 := of_decide_eq_true b8
            refine xq_n 56 [] [] [.int (Int32.ofInt 0)] h [true] 4 hq rfl ⟨rfl, trivial⟩ (fun hq => ?_)
            exact xq_ret rfl rfl rfl ⟨rfl, by rw [nmt_k2 b8]; rfl⟩
          | false =>
            have db8 := of_decide_eq_false b8
            refine xq_n 38 [0] [(0, .ref 39)] [.ref 39] h [false] 4 hq rfl ⟨rfl, trivial⟩ (fun hq => ?_)
            refine xq_run hq rfl rfl (rw3_q hT rt hq) ?_
            rintro v9 h_v9 ⟨rfl, rfl⟩
            cases b10 : (ky T n p 3) with
            | true =>
              have db10 := of_decide_eq_true b10
              refine xq_n 56 [] [] [.int (Int32.ofInt 0)] h [true] 4 hq rfl ⟨rfl, trivial⟩ (fun hq => ?_)
              exact xq_ret rfl rfl rfl ⟨rfl, by rw [nmt_k3 b10]; rfl⟩
            | false =>
              have db10 := of_decide_eq_false b10
              refine xq_n 45 [0] [(0, .ref 39)] [.ref 39] h [false] 4 hq rfl ⟨rfl, trivial⟩ (fun hq => ?_)
              refine xq_run hq rfl rfl (rw4_q hT rt hq) ?_
              rintro v11 h_v11 ⟨rfl, rfl⟩
              cases b12 : (ky T n p 4) with
              | true =>
                have db12 := of_decide_eq_true b12
                refine xq_n 56 [] [] [.int (Int32.ofInt 0)] h [true] 4 hq rfl ⟨rfl, trivial⟩ (fun hq => ?_)
                exact xq_ret rfl rfl rfl ⟨rfl, by rw [nmt_k4 b12]; rfl⟩
              | false =>
                have db12 := of_decide_eq_false b12
                refine xq_n 56 [] [] [.int (Int32.ofInt 1)] h [false] 5 hq rfl ⟨rfl, trivial⟩ (fun hq => ?_)
                exact xq_ret rfl rfl rfl ⟨rfl, by rw [show nmt T n p = true from decide_eq_true ⟨yc1, z2, fun e => db4 ⟨yc1, e⟩, fun e => db6 ⟨yc1, e⟩, fun e => db8 ⟨yc1, e⟩, fun e => db10 ⟨yc1, e⟩, fun e => db12 ⟨yc1, e⟩⟩]; rfl⟩
def nh_Q (h : xh_H) (nn : Nat) (NW : Nat → Nat) (w : Nat) (v : Option Value) (h' : xh_H) : Prop := h = h' ∧ ((v = some (.int (Int32.ofInt (-1))) ∧ hasn nn NW w = false) ∨ ∃ k, k < nn ∧ v = some (.int (nI k)) ∧ NW k = w ∧ hasn nn NW w = true)
set_option maxRecDepth 100000 in
set_option maxHeartbeats 4000000 in
theorem nh_lp {nn w : Nat} {NW : Nat → Nat} {h : xh_H} (nm : nms h nn NW) (e15 : xg 0 h.2.2.1 39 15 = Int64.ofNat w) (hw : w < 282429536481) : ∀ (f k : Nat), a_rq a_tb h → k ≤ nn → (∀ j, j < k → NW j ≠ w) → xq f xi_X10_nameAtHand xmi_X10_nameAtHand 2 [(0, .ref 39), (1, .int (nI k))] [] h (nh_Q h nn NW w) := by
  have n16 := nm.2.1
  intro f
  induction f with
  | zero => intros; exact xq_0
  | succ f ih =>
    intro k hq hk' ha
    cases c1 : xe_c .ge (nI k) (nI nn) with
    | true =>
      have z1 : k ≥ nn := nq_get (a := k) (b := nn) (by omega) (by omega) c1
      refine xq_m 33 [] [] [.int (Int32.ofInt (-1))] h [true] 7 hq rfl ⟨(show xe_c .ge (nI k) (xg 0 h.2.1 39 26) = true by rw [show (xg 0 h.2.1 39 26) = (nI nn) from nm.1]; exact c1), trivial⟩ (fun hq => ?_)
      exact xq_ret rfl rfl rfl ⟨rfl, Or.inl ⟨rfl, decide_eq_false (fun ⟨j, y1, y2⟩ => ha j (by omega) y2)⟩⟩
    | false =>
      have z1 : k < nn := nq_gef (a := k) (b := nn) (by omega) (by omega) c1
      have nwk := (nm.2.2 k (by omega)).1
      cases c2 : xe_c .ne (lg_cmp (Int64.ofNat (NW k)) (Int64.ofNat w)) 0 with
      | true =>
        have z2 : (NW k) ≠ w := fun y => xne_i c2 (lg0.mpr (by rw [y]))
        refine xq_m 2 [0, 1] [(0, .ref 39), (1, .int ((nI k) + Int32.ofInt 1))] [] h [false, true] 16 hq rfl ⟨(show xe_c .ge (nI k) (xg 0 h.2.1 39 26) = false by rw [show (xg 0 h.2.1 39 26) = (nI nn) from nm.1]; exact c1), (show xe_c .ne (lg_cmp (xg 0 h.2.2.1 50 ((nI k).toNatClampNeg)) (xg 0 h.2.2.1 39 15)) 0 = true by rw [show (xg 0 h.2.2.1 50 ((nI k).toNatClampNeg)) = (Int64.ofNat (NW k)) from (by rw [show ((nI k).toNatClampNeg) = k from nI_clamp (by omega)]; exact (nm.2.2 _ (by omega)).2), show (xg 0 h.2.2.1 39 15) = (Int64.ofNat w) from e15]; exact c2), trivial⟩ (fun hq => ?_)
        rw [show ((nI k) + Int32.ofInt 1) = nI (k + 1) from nI_1 _]
        exact ih (k + 1) hq (by omega) (fun j hj => by
          by_cases ek : j = k
          · rw [ek]; exact z2
          · exact ha j (by omega))
      | false =>
        have z2 : (NW k) = w := i64_inj (by omega) (by omega) (lg0.mp (xne_j c2))
        refine xq_m 25 [] [] [.int (nI k)] h [false, false] 15 hq rfl ⟨(show xe_c .ge (nI k) (xg 0 h.2.1 39 26) = false by rw [show (xg 0 h.2.1 39 26) = (nI nn) from nm.1]; exact c1), (show xe_c .ne (lg_cmp (xg 0 h.2.2.1 50 ((nI k).toNatClampNeg)) (xg 0 h.2.2.1 39 15)) 0 = false by rw [show (xg 0 h.2.2.1 50 ((nI k).toNatClampNeg)) = (Int64.ofNat (NW k)) from (by rw [show ((nI k).toNatClampNeg) = k from nI_clamp (by omega)]; exact (nm.2.2 _ (by omega)).2), show (xg 0 h.2.2.1 39 15) = (Int64.ofNat w) from e15]; exact c2), trivial⟩ (fun hq => ?_)
        exact xq_ret rfl rfl rfl ⟨rfl, Or.inr ⟨k, by omega, rfl, z2, decide_eq_true ⟨k, by omega, z2⟩⟩⟩
set_option maxRecDepth 100000 in
set_option maxHeartbeats 4000000 in
theorem nh_q {f nn w : Nat} {NW : Nat → Nat} {h : xh_H} (nm : nms h nn NW) (e15 : xg 0 h.2.2.1 39 15 = Int64.ofNat w) (hw : w < 282429536481) (hq : a_rq a_tb h) : xq f xi_X10_nameAtHand xmi_X10_nameAtHand 0 [(0, .ref 39)] [] h (nh_Q h nn NW w) := by
  refine xq_n 2 [0, 1] [(0, .ref 39), (1, .int (Int32.ofInt 0))] [] h [] 4 hq rfl trivial (fun hq => ?_)
  exact nh_lp nm e15 hw f 0 hq (Nat.zero_le _) (fun j hj => absurd hj (Nat.not_lt_zero j))
def bd_Q (h : xh_H) (k pl : Nat) (v : Option Value) (h' : xh_H) : Prop := v = some (.int 0) ∧ fx bS fN h h' ∧ xg 0 h'.2.1 39 13 = nI k ∧ xg 0 h'.2.1 39 14 = nI pl
set_option maxRecDepth 100000 in
set_option maxHeartbeats 4000000 in
theorem bad_q {f n p k : Nat} {T : Nat → Nat} {h : xh_H} (hT : ∀ k, k < n → T k < 256) (rt : rtk h T n p) (hq : a_rq a_tb h) : xq f xi_X10_bad xmi_X10_bad 0 [(0, .ref 39), (1, .int (nI k))] [] h (bd_Q h (if rkk T n p = 1 then 1 else k) (tks T n p)) := by
  have rb := (rkk_k (T := T) (n := n) (p := p)).1
  have k256 := tkk_lt (T := T) (n := n) (p := p) hT
  cases c1 : xe_c .ne (nI (rkk T n p)) (Int32.ofInt 1) with
  | true =>
    have z1 : (rkk T n p) ≠ 1 := nq_net (a := (rkk T n p)) (b := 1) (by omega) (by omega) c1
    have yc1 := mt (rk1 (T := T) (n := n) (p := p)).mpr z1
    refine xq_n 26 [] [] [.int (Int32.ofInt 0)] (xh_ui (xh_ui h 39 13 (nI k)) 39 14 (xg 0 (xh_ui h 39 13 (nI k)).2.1 39 8)) [true] 14 hq rfl ⟨(show xe_c .ne (xg 0 h.2.1 39 9) (Int32.ofInt 1) = true by rw [show (xg 0 h.2.1 39 9) = (nI (rkk T n p)) from rt.2.1]; exact c1), trivial⟩ (fun _ => ?_)
    rw [show (xg 0 (xh_ui h 39 13 (nI k)).2.1 39 8) = (nI (tks T n p)) from (gx_k (by decide)).trans (rt.1)]
    have hq : a_rq a_tb (xh_ui (xh_ui h 39 13 (nI k)) 39 14 (nI (tks T n p))) := a_rq_ui (a_rq_ui hq)
    exact xq_ret rfl rfl rfl ⟨rfl, fx_ui (fx_ui (fx_0) rfl) rfl, by rw [if_neg z1]; exact (gx_k (by decide)).trans (gx_s), gx_s⟩
  | false =>
    have z1 : (rkk T n p) = 1 := nq_nef (a := (rkk T n p)) (b := 1) (by omega) (by omega) c1
    have yc1 := (rk1 (T := T) (n := n) (p := p)).mp z1
    refine xq_n 26 [] [] [.int (Int32.ofInt 0)] (xh_ui (xh_ui h 39 13 (Int32.ofInt 1)) 39 14 (xg 0 (xh_ui h 39 13 (Int32.ofInt 1)).2.1 39 8)) [false] 15 hq rfl ⟨(show xe_c .ne (xg 0 h.2.1 39 9) (Int32.ofInt 1) = false by rw [show (xg 0 h.2.1 39 9) = (nI (rkk T n p)) from rt.2.1]; exact c1), trivial⟩ (fun _ => ?_)
    rw [show (xg 0 (xh_ui h 39 13 (Int32.ofInt 1)).2.1 39 8) = (nI (tks T n p)) from (gx_k (by decide)).trans (rt.1)]
    have hq : a_rq a_tb (xh_ui (xh_ui h 39 13 (Int32.ofInt 1)) 39 14 (nI (tks T n p))) := a_rq_ui (a_rq_ui hq)
    exact xq_ret rfl rfl rfl ⟨rfl, fx_ui (fx_ui (fx_0) rfl) rfl, by rw [if_pos z1]; exact (gx_k (by decide)).trans (gx_s), gx_s⟩
set_option maxRecDepth 100000 in
set_option maxHeartbeats 4000000 in
theorem badAt_q {f k pl : Nat} {h : xh_H} (hq : a_rq a_tb h) : xq f xi_X10_badAt xmi_X10_badAt 0 [(0, .ref 39), (1, .int (nI k)), (2, .int (nI pl))] [] h (bd_Q h k pl) := by
  refine xq_n 11 [] [] [.int (Int32.ofInt 0)] (xh_ui (xh_ui h 39 13 (nI k)) 39 14 (nI pl)) [] 9 hq rfl trivial (fun _ => ?_)
  have hq : a_rq a_tb (xh_ui (xh_ui h 39 13 (nI k)) 39 14 (nI pl)) := a_rq_ui (a_rq_ui hq)
  exact xq_ret rfl rfl rfl ⟨rfl, fx_ui (fx_ui (fx_0) rfl) rfl, (gx_k (by decide)).trans (gx_s), gx_s⟩
def op_q (t ty : Nat) (h : xh_H) (T : Nat → Nat) (n e : Nat) (v : Option Value) (h' : xh_H) : Prop := v = none ∧ fx (oS t) gL h h' ∧ rtk h' T n e ∧ xg 0 h'.2.1 47 t = nI ty ∧ xg 0 h'.2.1 39 29 = nI 1
set_option maxRecDepth 100000 in
set_option maxHeartbeats 4000000 in
theorem opr_lp {n e t ty : Nat} {T : Nat → Nat} {h0 : xh_H} (he : e ≤ n) : ∀ (f : Nat) (x : Int32) (h : xh_H), a_rq a_tb h → fx (oS t) gL h0 h → rtp h T n → xg 0 h.2.1 39 7 = nI e → xg 0 h.2.1 47 t = nI ty → xg 0 h.2.1 39 28 = nI t → xq f xi_X10_openRule xmi_X10_openRule 12 [(0, .ref 39), (2, .int x)] [] h (op_q t ty h0 T n e) := by
  intro f
  induction f with
  | zero => intros; exact xq_0
  | succ f ih =>
    intro x h hq g0 hc e7 e47 e28
    cases c1 : xe_c .ge x 4096 with
    | true =>
      refine xq_m 63 [0, 2] [(0, .ref 39), (2, .int x)] [.ref 39] (xh_ui h 39 29 (Int32.ofInt 1)) [true] 9 hq rfl ⟨c1, trivial⟩ (fun _ => ?_)
      have hq : a_rq a_tb (xh_ui h 39 29 (Int32.ofInt 1)) := a_rq_ui hq
      refine xq_run hq rfl rfl (go_q hq (rtp_f (S := oS t) (L := gL) hc (fx_ui (fx_0) rfl) rfl (fun _ => rfl)) ((gx_k (by decide)).trans (e7)) he) ?_
      rintro v2 h2 ⟨rfl, g2, r2⟩
      have hq := fx_q g2 hq
      exact xq_ret rfl rfl rfl ⟨rfl, fx_t (fx_ui (g0) rfl) (fx_w g2 (fun _ _ => gS_o) (fun _ _ z => z)), r2, (fx_i g2 rfl).trans ((gx_o (by decide)).trans (e47)), (fx_i g2 rfl).trans (gx_s)⟩
    | false =>
      refine xq_m 12 [0, 2] [(0, .ref 39), (2, .int (x + Int32.ofInt 1))] [] (xh_ui (xh_ui h 41 (((4096 * (xg 0 h.2.1 39 28)) + x).toNatClampNeg) (vp_nar .boolean (Int32.ofInt 0))) 42 (((4096 * (xg 0 (xh_ui h 41 (((4096 * (xg 0 h.2.1 39 28)) + x).toNatClampNeg) (vp_nar .boolean (Int32.ofInt 0))).2.1 39 28)) + x).toNatClampNeg) (vp_nar .boolean (Int32.ofInt 1))) [false] 27 hq rfl ⟨c1, trivial⟩ (fun _ => ?_)
      rw [show (xg 0 (xh_ui h 41 (((4096 * (xg 0 h.2.1 39 28)) + x).toNatClampNeg) (vp_nar .boolean (Int32.ofInt 0))).2.1 39 28) = (nI t) from (gx_o (by decide)).trans (e28)]
      rw [show (xg 0 h.2.1 39 28) = (nI t) from e28]
      have hq : a_rq a_tb (xh_ui (xh_ui h 41 (((4096 * (nI t)) + x).toNatClampNeg) (vp_nar .boolean (Int32.ofInt 0))) 42 (((4096 * (nI t)) + x).toNatClampNeg) (vp_nar .boolean (Int32.ofInt 1))) := a_rq_ui (a_rq_ui hq)
      exact ih _ _ hq (fx_ui (fx_ui (g0) rfl) rfl) (rtp_f (S := oS t) (L := gL) hc (fx_ui (fx_ui (fx_0) rfl) rfl) rfl (fun _ => rfl)) ((gx_o (by decide)).trans ((gx_o (by decide)).trans (e7))) ((gx_o (by decide)).trans ((gx_o (by decide)).trans (e47))) ((gx_o (by decide)).trans ((gx_o (by decide)).trans (e28)))
set_option maxRecDepth 100000 in
set_option maxHeartbeats 4000000 in
theorem opr_q {f n e t ty : Nat} {T : Nat → Nat} {h : xh_H} (t12 : t ≤ 12) (he : e ≤ n) (hq : a_rq a_tb h) (hc : rtp h T n) (e7 : xg 0 h.2.1 39 7 = nI e) (e28 : xg 0 h.2.1 39 28 = nI t) : xq f xi_X10_openRule xmi_X10_openRule 0 [(0, .ref 39), (1, .int (nI ty))] [] h (op_q t ty h T n e) := by
  have t47 : oS t 47 t = true := by unfold oS; rw [Nat.beq_refl t]; rfl
  refine xq_n 12 [0, 2] [(0, .ref 39), (2, .int (Int32.ofInt 0))] [] (xh_ui h 47 ((xg 0 h.2.1 39 28).toNatClampNeg) (nI ty)) [] 10 hq rfl trivial (fun _ => ?_)
  rw [show (xg 0 h.2.1 39 28) = (nI t) from e28]
  rw [show ((nI t).toNatClampNeg) = t from nI_clamp (by omega)]
  have hq : a_rq a_tb (xh_ui h 47 t (nI ty)) := a_rq_ui hq
  exact opr_lp he f _ _ hq (fx_ui (fx_0) t47) (rtp_f (S := oS t) (L := gL) hc (fx_ui (fx_0) t47) rfl (fun _ => rfl)) ((gx_o (by decide)).trans (e7)) (gx_s) ((gx_o (by decide)).trans (e28))
set_option maxRecDepth 100000 in
set_option maxHeartbeats 4000000 in
theorem opl_lp {n e t : Nat} {T : Nat → Nat} {h0 : xh_H} (he : e ≤ n) : ∀ (f : Nat) (x : Int32) (h : xh_H), a_rq a_tb h → fx (oS t) gL h0 h → rtp h T n → xg 0 h.2.1 39 7 = nI e → xg 0 h.2.1 47 t = nI 2 → xg 0 h.2.1 39 28 = nI t → xq f xi_X10_openList xmi_X10_openList 32 [(0, .ref 39), (2, .int x)] [] h (op_q t 2 h0 T n e) := by
  intro f
  induction f with
  | zero => intros; exact xq_0
  | succ f ih =>
    intro x h hq g0 hc e7 e47 e28
    cases c1 : xe_c .ge x 4096 with
    | true =>
      refine xq_m 67 [0, 2] [(0, .ref 39), (2, .int x)] [.ref 39] (xh_ui h 39 29 (Int32.ofInt 1)) [true] 9 hq rfl ⟨c1, trivial⟩ (fun _ => ?_)
      have hq : a_rq a_tb (xh_ui h 39 29 (Int32.ofInt 1)) := a_rq_ui hq
      refine xq_run hq rfl rfl (go_q hq (rtp_f (S := oS t) (L := gL) hc (fx_ui (fx_0) rfl) rfl (fun _ => rfl)) ((gx_k (by decide)).trans (e7)) he) ?_
      rintro v2 h2 ⟨rfl, g2, r2⟩
      have hq := fx_q g2 hq
      exact xq_ret rfl rfl rfl ⟨rfl, fx_t (fx_ui (g0) rfl) (fx_w g2 (fun _ _ => gS_o) (fun _ _ z => z)), r2, (fx_i g2 rfl).trans ((gx_o (by decide)).trans (e47)), (fx_i g2 rfl).trans (gx_s)⟩
    | false =>
      refine xq_m 32 [0, 2] [(0, .ref 39), (2, .int (x + Int32.ofInt 1))] [] (xh_ui h 46 (((4096 * (xg 0 h.2.1 39 28)) + x).toNatClampNeg) (Int32.ofInt 0)) [false] 17 hq rfl ⟨c1, trivial⟩ (fun _ => ?_)
      rw [show (xg 0 h.2.1 39 28) = (nI t) from e28]
      have hq : a_rq a_tb (xh_ui h 46 (((4096 * (nI t)) + x).toNatClampNeg) (Int32.ofInt 0)) := a_rq_ui hq
      exact ih _ _ hq (fx_ui (g0) rfl) (rtp_f (S := oS t) (L := gL) hc (fx_ui (fx_0) rfl) rfl (fun _ => rfl)) ((gx_o (by decide)).trans (e7)) ((gx_o (by decide)).trans (e47)) ((gx_o (by decide)).trans (e28))
set_option maxRecDepth 100000 in
set_option maxHeartbeats 4000000 in
theorem opl_q {f n e t a : Nat} {T : Nat → Nat} {h : xh_H} (t12 : t ≤ 12) (he : e ≤ n) (hq : a_rq a_tb h) (hc : rtp h T n) (e7 : xg 0 h.2.1 39 7 = nI e) (e28 : xg 0 h.2.1 39 28 = nI t) : xq f xi_X10_openList xmi_X10_openList 0 [(0, .ref 39), (1, .int (nI a))] [] h (op_q t 2 h T n e) := by
  have t47 : oS t 47 t = true := by unfold oS; rw [Nat.beq_refl t]; rfl
  refine xq_n 32 [0, 2] [(0, .ref 39), (2, .int (Int32.ofInt 0))] [] (xh_ui (xh_ui (xh_ui h 47 ((xg 0 h.2.1 39 28).toNatClampNeg) (Int32.ofInt 2)) 49 ((xg 0 (xh_ui h 47 ((xg 0 h.2.1 39 28).toNatClampNeg) (Int32.ofInt 2)).2.1 39 28).toNatClampNeg) (nI a)) 48 ((xg 0 (xh_ui (xh_ui h 47 ((xg 0 h.2.1 39 28).toNatClampNeg) (Int32.ofInt 2)) 49 ((xg 0 (xh_ui h 47 ((xg 0 h.2.1 39 28).toNatClampNeg) (Int32.ofInt 2)).2.1 39 28).toNatClampNeg) (nI a)).2.1 39 28).toNatClampNeg) (Int32.ofInt 1)) [] 22 hq rfl trivial (fun _ => ?_)
  rw [show (xg 0 (xh_ui (xh_ui h 47 ((xg 0 h.2.1 39 28).toNatClampNeg) (Int32.ofInt 2)) 49 ((xg 0 (xh_ui h 47 ((xg 0 h.2.1 39 28).toNatClampNeg) (Int32.ofInt 2)).2.1 39 28).toNatClampNeg) (nI a)).2.1 39 28) = (nI t) from (gx_o (by decide)).trans ((gx_o (by decide)).trans (e28))]
  rw [show (xg 0 (xh_ui h 47 ((xg 0 h.2.1 39 28).toNatClampNeg) (Int32.ofInt 2)).2.1 39 28) = (nI t) from (gx_o (by decide)).trans (e28)]
  rw [show (xg 0 h.2.1 39 28) = (nI t) from e28]
  rw [show ((nI t).toNatClampNeg) = t from nI_clamp (by omega)]
  have hq : a_rq a_tb (xh_ui (xh_ui (xh_ui h 47 t (Int32.ofInt 2)) 49 t (nI a)) 48 t (Int32.ofInt 1)) := a_rq_ui (a_rq_ui (a_rq_ui hq))
  exact opl_lp he f _ _ hq (fx_ui (fx_ui (fx_ui (fx_0) t47) rfl) rfl) (rtp_f (S := oS t) (L := gL) hc (fx_ui (fx_ui (fx_ui (fx_0) t47) rfl) rfl) rfl (fun _ => rfl)) ((gx_o (by decide)).trans ((gx_o (by decide)).trans ((gx_o (by decide)).trans (e7)))) ((gx_o (by decide)).trans ((gx_o (by decide)).trans (gx_s))) ((gx_o (by decide)).trans ((gx_o (by decide)).trans ((gx_o (by decide)).trans (e28))))
end XRF
end
section
section XRG
variable {T : Nat → Nat} {n mem nn : Nat} {NW : Nat → Nat}
theorem rtk_ui {h : xh_H} {p c k : Nat} {x : Int32} (rt : rtk h T n p) (e : gS c k = false) : rtk (xh_ui h c k x) T n p := by
  have q : ∀ j, 7 ≤ j → j ≤ 12 → xg 0 (xh_ui h c k x).2.1 39 j = xg 0 h.2.1 39 j := fun j j1 j2 => by
    rw [gx_i]
    rintro ⟨rfl, rfl⟩
    unfold gS at e
    rw [Nat.ble_eq.mpr j1, Nat.ble_eq.mpr j2] at e
    cases e
  obtain ⟨r1, r2, r3, r4, r5, r6⟩ := rt
  exact ⟨by rw [q 8 (by decide) (by decide)]; exact r1, by rw [q 9 (by decide) (by decide)]; exact r2, fun z => ⟨by rw [q 12 (by decide) (by decide)]; exact (r3 z).1, (r3 z).2⟩, fun z => by rw [q 10 (by decide) (by decide)]; exact r4 z, fun z => by rw [q 11 (by decide) (by decide)]; exact r5 z, fun z => by rw [q 7 (by decide) (by decide)]; exact r6 z⟩
theorem rtk_f {S L : Nat → Nat → Bool} {h h' : xh_H} {p : Nat} (rt : rtk h T n p) (g : fx S L h h') (e : ∀ j, 7 ≤ j → j ≤ 12 → S 39 j = false) (e2 : L 39 15 = false) : rtk h' T n p := by
  have q : ∀ j, 7 ≤ j → j ≤ 12 → xg 0 h'.2.1 39 j = xg 0 h.2.1 39 j := fun j j1 j2 => fx_i g (e j j1 j2)
  obtain ⟨r1, r2, r3, r4, r5, r6⟩ := rt
  exact ⟨by rw [q 8 (by decide) (by decide)]; exact r1, by rw [q 9 (by decide) (by decide)]; exact r2, fun z => ⟨by rw [q 12 (by decide) (by decide)]; exact (r3 z).1, by rw [fx_l g e2]; exact (r3 z).2⟩, fun z => by rw [q 10 (by decide) (by decide)]; exact r4 z, fun z => by rw [q 11 (by decide) (by decide)]; exact r5 z, fun z => by rw [q 7 (by decide) (by decide)]; exact r6 z⟩
theorem nms_f {S L : Nat → Nat → Bool} {h h' : xh_H} (nm : nms h nn NW) (g : fx S L h h') (e1 : S 39 26 = false) (e2 : ∀ k, L 50 k = false) : nms h' nn NW := ⟨by rw [fx_i g e1]; exact nm.1, nm.2.1, fun k hk' => ⟨(nm.2.2 k hk').1, by rw [fx_l g (e2 k)]; exact (nm.2.2 k hk').2⟩⟩
/-- what a step of the reference's reader leaves -/
def ou_Q (h : xh_H) (T : Nat → Nat) (n mem nn : Nat) (NW : Nat → Nat) (r : aRs) (v : Option Value) (h' : xh_H) : Prop := fx rS gL h h' ∧ (∀ aw p' o' fs', r = .inl (aw, p', o', fs') → v = some (.int 1) ∧ rr h' T n mem nn NW p' o' fs' ∧ xg 0 h'.2.1 39 29 = nI aw) ∧ ∀ k pl, r = .inr (k, pl) → v = some (.int 0) ∧ xg 0 h'.2.1 39 13 = nI k ∧ xg 0 h'.2.1 39 14 = nI pl
theorem ou_l {h h' : xh_H} {r : aRs} {v : Option Value} {aw p' o' : Nat} {fs' : List Nat} (er : r = .inl (aw, p', o', fs')) (g : fx rS gL h h') (hv : v = some (.int 1)) (hr : rr h' T n mem nn NW p' o' fs') (ha : xg 0 h'.2.1 39 29 = nI aw) : ou_Q h T n mem nn NW r v h' := by
  subst er
  refine ⟨g, fun _ _ _ _ e => ?_, fun _ _ e => by cases e⟩
  cases e
  exact ⟨hv, hr, ha⟩
theorem ou_r {h h' : xh_H} {r : aRs} {v : Option Value} {k pl : Nat} (er : r = .inr (k, pl)) (g : fx rS gL h h') (hv : v = some (.int 0)) (h1 : xg 0 h'.2.1 39 13 = nI k) (h2 : xg 0 h'.2.1 39 14 = nI pl) : ou_Q h T n mem nn NW r v h' := by
  subst er
  refine ⟨g, fun _ _ _ _ e => (by cases e), fun _ _ e => ?_⟩
  cases e
  exact ⟨hv, h1, h2⟩
theorem o47 {t k : Nat} (h : k < t) : oS t 47 k = false := by
  unfold oS
  rw [show Nat.beq k t = false from by rw [Bool.eq_false_iff]; intro z; have := Nat.eq_of_beq_eq_true z; omega]
  rfl
theorem nIm1 {k : Nat} (h : k < 2 ^ 31) : nI k ≠ Int32.ofInt (-1) := by
  intro e
  have e2 := congrArg Int32.toInt e
  rw [nI_toInt h] at e2
  have e3 : (Int32.ofInt (-1)).toInt = -1 := rfl
  omega
theorem tke_le {p : Nat} (h : tkk T n p ≠ 0) : tke T n p ≤ n := (tke_gt h).2.1
set_option maxRecDepth 100000 in
set_option maxHeartbeats 4000000 in
theorem bls_q {f p o a : Nat} {fs : List Nat} {h : xh_H} (rr0 : rr h T n mem nn NW p o fs) (hq : a_rq a_tb h) : xq f xi_X10_beginList xmi_X10_beginList 0 [(0, .ref 39), (1, .int (nI a))] [] h (ou_Q h T n mem nn NW (bls T n p o fs)) := by
  have hT : ∀ k, k < n → T k < 256 := fun k hk' => (rr0.1.2.2 k hk').1
  have rt := rr0.2.1
  have rb := (rkk_k (T := T) (n := n) (p := p)).1
  have kb := tkk_lt (T := T) (n := n) (p := p) hT
  have o120 := rr0.2.2.2.2.2.2.1
  have f1 := rr0.2.2.2.2.2.2.2.2.1
  have n16 := rr0.2.2.2.2.1.2.1
  have f13 := rr0.2.2.2.2.2.2.2.2.2.1
  have n6 := rr0.1.2.1
  refine xq_n 1 [0, 1] [(0, .ref 39), (1, .int (nI a))] [.ref 39] h [] 3 hq rfl trivial (fun hq => ?_)
  refine xq_run hq rfl rfl (rw4_q hT (rt) hq) ?_
  rintro v1 h_v1 ⟨rfl, rfl⟩
  cases b2 : (ky T n p 4) with
  | true =>
    have db2 := of_decide_eq_true b2
    refine xq_n 14 [0, 1] [(0, .ref 39), (1, .int (nI a))] [.ref 39] h [true] 4 hq rfl ⟨rfl, trivial⟩ (fun hq => ?_)
    have nz3 : tkk T n p ≠ 0 := by omega
    have le3 := tke_le nz3
    refine xq_run hq rfl rfl (go_q hq (rr0.1) (rt.2.2.2.2.2 (by omega)) le3) ?_
    rintro v3 h3 ⟨rfl, g3, t3⟩
    have hq := fx_q g3 hq
    have rb3 := (rkk_k (T := T) (n := n) (p := tke T n p)).1
    have kb3 := tkk_lt (T := T) (n := n) (p := tke T n p) hT
    refine xq_n 20 [0, 1] [(0, .ref 39), (1, .int (nI a))] [.int 91, .ref 39] h3 [] 4 hq rfl trivial (fun hq => ?_)
    refine xq_run hq rfl rfl (rsg_q (c := 91) (by decide) (by decide) hT (t3) hq) ?_
    rintro v4 h_v4 ⟨rfl, rfl⟩
    cases b5 : (decide (tkk T n (tke T n p) = 91)) with
    | true =>
      have db5 := of_decide_eq_true b5
      cases c6 : xe_c .ne (nI (fs.length - 1)) 12 with
      | true =>
        have z6 : (fs.length - 1) ≠ 12 := nq_net (a := (fs.length - 1)) (b := 12) (by omega) (by omega) c6
        refine xq_n 59 [0, 1] [(0, .ref 39), (1, .int (nI a))] [.int (nI a), .ref 39] (xh_ui h3 39 28 ((xg 0 h3.2.1 39 28) + (Int32.ofInt 1))) [true, true] 15 hq rfl ⟨rfl, (show xe_c .ne (xg 0 h3.2.1 39 28) 12 = true by rw [show (xg 0 h3.2.1 39 28) = (nI (fs.length - 1)) from (fx_i g3 rfl).trans (rr0.2.2.2.2.2.2.2.1)]; exact c6), trivial⟩ (fun _ => ?_)
        rw [show (xg 0 h3.2.1 39 28) = (nI (fs.length - 1)) from (fx_i g3 rfl).trans (rr0.2.2.2.2.2.2.2.1)]
        rw [show ((nI (fs.length - 1)) + (Int32.ofInt 1)) = nI (fs.length - 1 + 1) from nI_1 _]
        rw [show (nI (fs.length - 1 + 1)) = nI fs.length from (by rw [show fs.length - 1 + 1 = fs.length by omega])]
        have hq : a_rq a_tb (xh_ui h3 39 28 (nI fs.length)) := a_rq_ui hq
        have nz7 : tkk T n (tke T n p) ≠ 0 := by omega
        refine xq_run hq rfl rfl (opl_q (t := fs.length) (by omega) (tke_le nz7) hq (rtp_f (S := rS) (L := gL) rr0.1 (fx_ui (fx_t (fx_0) (fx_w g3 (fun _ _ => gS_r) (fun _ _ z => z))) rfl) rfl (fun _ => rfl)) ((gx_k (by decide)).trans (t3.2.2.2.2.2 (by omega))) (gx_s)) ?_
        rintro v7 h7 ⟨rfl, g7, t7, y7, a7⟩
        have hq := fx_q g7 hq
        refine xq_n 63 [] [] [.int (Int32.ofInt 1)] h7 [] 3 hq rfl trivial (fun hq => ?_)
        have er : bls T n p o fs = .inl (1, tke T n (tke T n p), o, 2 :: fs) := by
          unfold bls
          repeat (first | rw [if_pos (by omega)] | rw [if_neg (by omega)] | rw [if_pos b2] | rw [if_neg (by rw [b2]; decide)] | rw [if_pos b5] | rw [if_neg (by rw [b5]; decide)])
          try rfl
        exact xq_ret rfl rfl rfl (ou_l er (fx_t (fx_ui (fx_t (fx_0) (fx_w g3 (fun _ _ => gS_r) (fun _ _ z => z))) rfl) (fx_w g7 (fun _ _ => oS_r) (fun _ _ z => z))) rfl ⟨rtp_f (S := rS) (L := gL) rr0.1 (fx_t (fx_ui (fx_t (fx_0) (fx_w g3 (fun _ _ => gS_r) (fun _ _ z => z))) rfl) (fx_w g7 (fun _ _ => oS_r) (fun _ _ z => z))) rfl (fun _ => rfl), t7, (fx_i g7 rfl).trans ((gx_k (by decide)).trans ((fx_i g3 rfl).trans (rr0.2.2.1))), rr0.2.2.2.1, nms_f (S := rS) (L := gL) rr0.2.2.2.2.1 (fx_t (fx_ui (fx_t (fx_0) (fx_w g3 (fun _ _ => gS_r) (fun _ _ z => z))) rfl) (fx_w g7 (fun _ _ => oS_r) (fun _ _ z => z))) rfl (fun _ => rfl), (fx_i g7 rfl).trans ((gx_k (by decide)).trans ((fx_i g3 rfl).trans (rr0.2.2.2.2.2.1))), by omega, ((fx_i g7 rfl).trans (gx_s)), by simp only [List.length_cons]; omega, by simp only [List.length_cons]; omega, ⟨y7, by decide, frs_c (fun k hk' => (fx_i g7 (o47 hk')).trans ((gx_o (by decide)).trans (fx_i g3 rfl))) rr0.2.2.2.2.2.2.2.2.2.2.1⟩, (fx_i g7 rfl).trans ((gx_k (by decide)).trans ((fx_i g3 rfl).trans (rr0.2.2.2.2.2.2.2.2.2.2.2)))⟩ (a7))
      | false =>
        have z6 : (fs.length - 1) = 12 := nq_nef (a := (fs.length - 1)) (b := 12) (by omega) (by omega) c6
        refine xq_n 43 [0, 1] [(0, .ref 39), (1, .int (nI a))] [.int (Int32.ofInt 4), .ref 39] h3 [true, false] 9 hq rfl ⟨rfl, (show xe_c .ne (xg 0 h3.2.1 39 28) 12 = false by rw [show (xg 0 h3.2.1 39 28) = (nI (fs.length - 1)) from (fx_i g3 rfl).trans (rr0.2.2.2.2.2.2.2.1)]; exact c6), trivial⟩ (fun hq => ?_)
        refine xq_run hq rfl rfl (bad_q (k := 4) hT (t3) hq) ?_
        rintro v8 h8 ⟨rfl, g8, f8, l8⟩
        have hq := fx_q g8 hq
        rw [if_neg (show ¬ rkk T n (tke T n p) = 1 from fun e => by have e1 := rk1.mp e; omega)] at f8
        have er : bls T n p o fs = .inr (4, tks T n (tke T n p)) := by
          unfold bls
          repeat (first | rw [if_pos (by omega)] | rw [if_neg (by omega)] | rw [if_pos b2] | rw [if_neg (by rw [b2]; decide)] | rw [if_pos b5] | rw [if_neg (by rw [b5]; decide)])
          try rfl
        exact xq_ret rfl rfl rfl (ou_r er (fx_t (fx_t (fx_0) (fx_w g3 (fun _ _ => gS_r) (fun _ _ z => z))) (fx_w g8 (fun _ _ => bS_r) (fun _ _ _ => rfl))) rfl (f8) (l8))
    | false =>
      have db5 := of_decide_eq_false b5
      refine xq_n 28 [0, 1] [(0, .ref 39), (1, .int (nI a))] [.int (Int32.ofInt 1), .ref 39] h3 [false] 5 hq rfl ⟨rfl, trivial⟩ (fun hq => ?_)
      refine xq_run hq rfl rfl (bad_q (k := 1) hT (t3) hq) ?_
      rintro v9 h9 ⟨rfl, g9, f9, l9⟩
      have hq := fx_q g9 hq
      rw [show (if rkk T n (tke T n p) = 1 then 1 else 1) = 1 by split <;> rfl] at f9
      have er : bls T n p o fs = .inr (1, tks T n (tke T n p)) := by
        unfold bls
        repeat (first | rw [if_pos (by omega)] | rw [if_neg (by omega)] | rw [if_pos b2] | rw [if_neg (by rw [b2]; decide)] | rw [if_pos b5] | rw [if_neg (by rw [b5]; decide)])
        try rfl
      exact xq_ret rfl rfl rfl (ou_r er (fx_t (fx_t (fx_0) (fx_w g3 (fun _ _ => gS_r) (fun _ _ z => z))) (fx_w g9 (fun _ _ => bS_r) (fun _ _ _ => rfl))) rfl (f9) (l9))
  | false =>
    have db2 := of_decide_eq_false b2
    refine xq_n 9 [0, 1] [(0, .ref 39), (1, .int (nI a))] [.int (Int32.ofInt 1), .ref 39] h [false] 5 hq rfl ⟨rfl, trivial⟩ (fun hq => ?_)
    refine xq_run hq rfl rfl (bad_q (k := 1) hT (rt) hq) ?_
    rintro v10 h10 ⟨rfl, g10, f10, l10⟩
    have hq := fx_q g10 hq
    rw [show (if rkk T n p = 1 then 1 else 1) = 1 by split <;> rfl] at f10
    have er : bls T n p o fs = .inr (1, tks T n p) := by
      unfold bls
      repeat (first | rw [if_pos (by omega)] | rw [if_neg (by omega)] | rw [if_pos b2] | rw [if_neg (by rw [b2]; decide)])
      try rfl
    exact xq_ret rfl rfl rfl (ou_r er (fx_t (fx_0) (fx_w g10 (fun _ _ => bS_r) (fun _ _ _ => rfl))) rfl (f10) (l10))
theorem ll_v {w : Nat} (h1 : 1 ≤ w) (h2 : w < 282429536481) (h3 : w ≤ 26) : (Int64.ofNat w).toInt32 - Int32.ofInt 1 = nI (w - 1) := by
  have e : (Int64.ofNat w).toInt32 = nI w := by
    apply Int32.toInt_inj.mp
    rw [nI_toInt (by omega), Int64.toInt_toInt32, Int64.toInt_ofNat_of_lt (by omega)]
    rw [Int.bmod_def]
    omega
  rw [e]
  exact nI_sub (b := 1) h1
theorem lone_w {p : Nat} (h : lone T n p = true) : tkw T n p = T (tks T n p) - 96 ∧ 97 ≤ T (tks T n p) ∧ T (tks T n p) ≤ 122 := by
  obtain ⟨h1, h2⟩ := of_decide_eq_true h
  have h3 := (tk2 h1).2.2 (tks T n p) (Nat.le_refl _) (by omega)
  refine ⟨?_, h3⟩
  unfold tkw
  rw [h2]
  show 27 * 0 + (T (tks T n p + 0) - 96) = _
  rw [Nat.mul_zero, Nat.zero_add, Nat.add_zero]
set_option maxRecDepth 100000 in
set_option maxHeartbeats 4000000 in
theorem rmb_q {f m : Nat} {h : xh_H} (m6 : m < 1000) (mm : mem ≤ 12) (e4 : xg 0 h.2.1 39 4 = nI mem) (hq : a_rq a_tb h) : xq f xi_X10_isMember xmi_X10_isMember 0 [(0, .ref 39), (1, .int (nI m))] [] h (fun v h' => h = h' ∧ v = some (.int (bl (decide (m < mem))))) := by
  cases c1 : xe_c .lt (nI m) 0 with
  | true =>
    have z1 : m < 0 := nq_ltt (a := m) (b := 0) (by omega) (by omega) c1
    omega
  | false =>
    have z1 : m ≥ 0 := nq_ltf (a := m) (b := 0) (by omega) (by omega) c1
    cases c2 : xe_c .ge (nI m) (nI mem) with
    | true =>
      have z2 : m ≥ mem := nq_get (a := m) (b := mem) (by omega) (by omega) c2
      refine xq_n 17 [] [] [.int (Int32.ofInt 0)] h [false, true] 9 hq rfl ⟨c1, (show xe_c .ge (nI m) (xg 0 h.2.1 39 4) = true by rw [show (xg 0 h.2.1 39 4) = (nI mem) from e4]; exact c2), trivial⟩ (fun hq => ?_)
      exact xq_ret rfl rfl rfl ⟨rfl, by rw [show decide (m < mem) = false from decide_eq_false (by omega)]; rfl⟩
    | false =>
      have z2 : m < mem := nq_gef (a := m) (b := mem) (by omega) (by omega) c2
      refine xq_n 17 [] [] [.int (Int32.ofInt 1)] h [false, false] 10 hq rfl ⟨c1, (show xe_c .ge (nI m) (xg 0 h.2.1 39 4) = false by rw [show (xg 0 h.2.1 39 4) = (nI mem) from e4]; exact c2), trivial⟩ (fun hq => ?_)
      exact xq_ret rfl rfl rfl ⟨rfl, by rw [show decide (m < mem) = true from decide_eq_true (by omega)]; rfl⟩
set_option maxRecDepth 100000 in
set_option maxHeartbeats 4000000 in
theorem bo_lp {p o : Nat} {fs : List Nat} {h0 : xh_H} : ∀ (f : Nat) (x1 x2 x3 x4 : Int32) (h : xh_H), fx rS gL h0 h → rr h T n mem nn NW p o fs → tkk T n p ≠ 0 → a_rq a_tb h → xq f xi_X10_beginOne xmi_X10_beginOne 235 [(0, .ref 39), (1, .int x1), (2, .int x2), (3, .int x3), (4, .int x4)] [] h (ou_Q h0 T n mem nn NW (.inl (0, tke T n p, o, fs))) := by
  intro f
  induction f with
  | zero => intros; exact xq_0
  | succ f ih =>
    intro x1 x2 x3 x4 h g0 rr0 nz hq
    have hT : ∀ k, k < n → T k < 256 := fun k hk' => (rr0.1.2.2 k hk').1
    have rt := rr0.2.1
    have rb := (rkk_k (T := T) (n := n) (p := p)).1
    have kb := tkk_lt (T := T) (n := n) (p := p) hT
    have o120 := rr0.2.2.2.2.2.2.1
    have f1 := rr0.2.2.2.2.2.2.2.2.1
    have n16 := rr0.2.2.2.2.1.2.1
    have f13 := rr0.2.2.2.2.2.2.2.2.2.1
    have n6 := rr0.1.2.1
    cases c1 : xe_c .ge x4 4096 with
    | true =>
      refine xq_m 292 [0, 1, 2, 3, 4] [(0, .ref 39), (1, .int x1), (2, .int x2), (3, .int x3), (4, .int x4)] [.ref 39] h [true] 6 hq rfl ⟨c1, trivial⟩ (fun hq => ?_)
      have nz2 : tkk T n p ≠ 0 := by omega
      have le2 := tke_le nz2
      refine xq_run hq rfl rfl (go_q hq (rr0.1) (rt.2.2.2.2.2 (by omega)) le2) ?_
      rintro v2 h2 ⟨rfl, g2, t2⟩
      have hq := fx_q g2 hq
      have rb2 := (rkk_k (T := T) (n := n) (p := tke T n p)).1
      have kb2 := tkk_lt (T := T) (n := n) (p := tke T n p) hT
      refine xq_n 301 [] [] [.int (Int32.ofInt 1)] (xh_ui h2 39 29 (Int32.ofInt 0)) [] 6 hq rfl trivial (fun _ => ?_)
      have hq : a_rq a_tb (xh_ui h2 39 29 (Int32.ofInt 0)) := a_rq_ui hq
      exact xq_ret rfl rfl rfl (ou_l rfl (fx_ui (fx_t (g0) (fx_w g2 (fun _ _ => gS_r) (fun _ _ z => z))) rfl) rfl ⟨rtp_f (S := rS) (L := gL) rr0.1 (fx_ui (fx_t (fx_0) (fx_w g2 (fun _ _ => gS_r) (fun _ _ z => z))) rfl) rfl (fun _ => rfl), rtk_ui (t2) rfl, (gx_k (by decide)).trans ((fx_i g2 rfl).trans (rr0.2.2.1)), rr0.2.2.2.1, nms_f (S := rS) (L := gL) rr0.2.2.2.2.1 (fx_ui (fx_t (fx_0) (fx_w g2 (fun _ _ => gS_r) (fun _ _ z => z))) rfl) rfl (fun _ => rfl), (gx_k (by decide)).trans ((fx_i g2 rfl).trans (rr0.2.2.2.2.2.1)), rr0.2.2.2.2.2.2.1, (gx_k (by decide)).trans ((fx_i g2 rfl).trans (rr0.2.2.2.2.2.2.2.1)), rr0.2.2.2.2.2.2.2.2.1, rr0.2.2.2.2.2.2.2.2.2.1, frs_c (fun k hk' => (gx_o (by decide)).trans (fx_i g2 rfl)) rr0.2.2.2.2.2.2.2.2.2.2.1, (gx_k (by decide)).trans ((fx_i g2 rfl).trans (rr0.2.2.2.2.2.2.2.2.2.2.2))⟩ (gx_s))
    | false =>
      cases c3 : xe_c .eq x1 0 with
      | true =>
        refine xq_m 235 [0, 1, 2, 3, 4] [(0, .ref 39), (1, .int x1), (2, .int x2), (3, .int x3), (4, .int (x4 + Int32.ofInt 1))] [] (xh_ui h 45 x4.toNatClampNeg (vp_nar .boolean (xg 0 h.2.1 43 (((4096 * x3) + x4).toNatClampNeg)))) [false, true] 21 hq rfl ⟨c1, c3, trivial⟩ (fun _ => ?_)
        have hq : a_rq a_tb (xh_ui h 45 x4.toNatClampNeg (vp_nar .boolean (xg 0 h.2.1 43 (((4096 * x3) + x4).toNatClampNeg)))) := a_rq_ui hq
        exact ih _ _ _ _ _ (fx_ui (g0) rfl) ⟨rtp_f (S := rS) (L := gL) rr0.1 (fx_ui (fx_0) rfl) rfl (fun _ => rfl), rtk_ui (rt) rfl, (gx_o (by decide)).trans (rr0.2.2.1), rr0.2.2.2.1, nms_f (S := rS) (L := gL) rr0.2.2.2.2.1 (fx_ui (fx_0) rfl) rfl (fun _ => rfl), (gx_o (by decide)).trans (rr0.2.2.2.2.2.1), rr0.2.2.2.2.2.2.1, (gx_o (by decide)).trans (rr0.2.2.2.2.2.2.2.1), rr0.2.2.2.2.2.2.2.2.1, rr0.2.2.2.2.2.2.2.2.2.1, frs_c (fun k hk' => gx_o (by decide)) rr0.2.2.2.2.2.2.2.2.2.2.1, (gx_o (by decide)).trans (rr0.2.2.2.2.2.2.2.2.2.2.2)⟩ nz hq
      | false =>
        cases c4 : xe_c .ne ((x4 >>> (x2 &&& 31)) &&& (Int32.ofInt 1)) (Int32.ofInt 1) with
        | true =>
          refine xq_m 235 [0, 1, 2, 3, 4] [(0, .ref 39), (1, .int x1), (2, .int x2), (3, .int x3), (4, .int (x4 + Int32.ofInt 1))] [] (xh_ui h 45 x4.toNatClampNeg (vp_nar .boolean (Int32.ofInt 0))) [false, false, true] 22 hq rfl ⟨c1, c3, c4, trivial⟩ (fun _ => ?_)
          have hq : a_rq a_tb (xh_ui h 45 x4.toNatClampNeg (vp_nar .boolean (Int32.ofInt 0))) := a_rq_ui hq
          exact ih _ _ _ _ _ (fx_ui (g0) rfl) ⟨rtp_f (S := rS) (L := gL) rr0.1 (fx_ui (fx_0) rfl) rfl (fun _ => rfl), rtk_ui (rt) rfl, (gx_o (by decide)).trans (rr0.2.2.1), rr0.2.2.2.1, nms_f (S := rS) (L := gL) rr0.2.2.2.2.1 (fx_ui (fx_0) rfl) rfl (fun _ => rfl), (gx_o (by decide)).trans (rr0.2.2.2.2.2.1), rr0.2.2.2.2.2.2.1, (gx_o (by decide)).trans (rr0.2.2.2.2.2.2.2.1), rr0.2.2.2.2.2.2.2.2.1, rr0.2.2.2.2.2.2.2.2.2.1, frs_c (fun k hk' => gx_o (by decide)) rr0.2.2.2.2.2.2.2.2.2.2.1, (gx_o (by decide)).trans (rr0.2.2.2.2.2.2.2.2.2.2.2)⟩ nz hq
        | false =>
          refine xq_m 235 [0, 1, 2, 3, 4] [(0, .ref 39), (1, .int x1), (2, .int x2), (3, .int x3), (4, .int (x4 + Int32.ofInt 1))] [] (xh_ui h 45 x4.toNatClampNeg (vp_nar .boolean (Int32.ofInt 1))) [false, false, false] 22 hq rfl ⟨c1, c3, c4, trivial⟩ (fun _ => ?_)
          have hq : a_rq a_tb (xh_ui h 45 x4.toNatClampNeg (vp_nar .boolean (Int32.ofInt 1))) := a_rq_ui hq
          exact ih _ _ _ _ _ (fx_ui (g0) rfl) ⟨rtp_f (S := rS) (L := gL) rr0.1 (fx_ui (fx_0) rfl) rfl (fun _ => rfl), rtk_ui (rt) rfl, (gx_o (by decide)).trans (rr0.2.2.1), rr0.2.2.2.1, nms_f (S := rS) (L := gL) rr0.2.2.2.2.1 (fx_ui (fx_0) rfl) rfl (fun _ => rfl), (gx_o (by decide)).trans (rr0.2.2.2.2.2.1), rr0.2.2.2.2.2.2.1, (gx_o (by decide)).trans (rr0.2.2.2.2.2.2.2.1), rr0.2.2.2.2.2.2.2.2.1, rr0.2.2.2.2.2.2.2.2.2.1, frs_c (fun k hk' => gx_o (by decide)) rr0.2.2.2.2.2.2.2.2.2.2.1, (gx_o (by decide)).trans (rr0.2.2.2.2.2.2.2.2.2.2.2)⟩ nz hq
set_option maxRecDepth 100000 in
set_option maxHeartbeats 4000000 in
theorem bo_q {f p o : Nat} {fs : List Nat} {h : xh_H} (rr0 : rr h T n mem nn NW p o fs) (hq : a_rq a_tb h) : xq f xi_X10_beginOne xmi_X10_beginOne 0 [(0, .ref 39)] [] h (ou_Q h T n mem nn NW (bo T n mem nn NW p o fs)) := by
  have hT : ∀ k, k < n → T k < 256 := fun k hk' => (rr0.1.2.2 k hk').1
  have rt := rr0.2.1
  have rb := (rkk_k (T := T) (n := n) (p := p)).1
  have kb := tkk_lt (T := T) (n := n) (p := p) hT
  have o120 := rr0.2.2.2.2.2.2.1
  have f1 := rr0.2.2.2.2.2.2.2.2.1
  have n16 := rr0.2.2.2.2.1.2.1
  have f13 := rr0.2.2.2.2.2.2.2.2.2.1
  have n6 := rr0.1.2.1
  have t9 : tkn T n p ≤ 999 := vf_999
  have mm := rr0.2.2.2.1
  cases c1 : xe_c .ne (nI (rkk T n p)) (Int32.ofInt 2) with
  | true =>
    have z1 : (rkk T n p) ≠ 2 := nq_net (a := (rkk T n p)) (b := 2) (by omega) (by omega) c1
    have yc1 := mt (rk2 (T := T) (n := n) (p := p)).mpr z1
    cases c2 : xe_c .eq (nI (rkk T n p)) (Int32.ofInt 3) with
    | true =>
      have z2 : (rkk T n p) = 3 := nq_eqt (a := (rkk T n p)) (b := 3) (by omega) (by omega) c2
      have yc2 := (rk3 (T := T) (n := n) (p := p)).mp z2
      cases c3 : xe_c .ne (nI (tkn T n p)) 0 with
      | true =>
        have z3 : (tkn T n p) ≠ 0 := nq_net (a := (tkn T n p)) (b := 0) (by omega) (by omega) c3
        refine xq_n 102 [0, 1] [(0, .ref 39), (1, .int (Int32.ofInt 0))] [.ref 39] h [true, true, false, true, true] 22 hq rfl ⟨(show xe_c .ne (xg 0 h.2.1 39 9) (Int32.ofInt 2) = true by rw [show (xg 0 h.2.1 39 9) = (nI (rkk T n p)) from rt.2.1]; exact c1), (show xe_c .eq (xg 0 h.2.1 39 9) (Int32.ofInt 3) = true by rw [show (xg 0 h.2.1 39 9) = (nI (rkk T n p)) from rt.2.1]; exact c2), (show xe_c .ne (xg 0 h.2.1 39 9) (Int32.ofInt 3) = false by rw [show (xg 0 h.2.1 39 9) = (nI (rkk T n p)) from rt.2.1, z2]; rfl), (show xe_c .ne (xg 0 h.2.1 39 10) 0 = true by rw [show (xg 0 h.2.1 39 10) = (nI (tkn T n p)) from rt.2.2.2.1 (by omega)]; exact c3), (by decide), trivial⟩ (fun hq => ?_)
        refine xq_run hq rfl rfl (rnm_q hT (rt) hq) ?_
        rintro v4 h_v4 ⟨rfl, rfl⟩
        cases b5 : (nmt T n p) with
        | true =>
          have db5 := of_decide_eq_true b5
          omega
        | false =>
          have db5 := of_decide_eq_false b5
          cases c6 : xe_c .ne (nI o) 120 with
          | true =>
            have z6 : o ≠ 120 := nq_net (a := o) (b := 120) (by omega) (by omega) c6
            refine xq_n 140 [0, 1] [(0, .ref 39), (1, .int (Int32.ofInt 0))] [.int 40, .ref 39] h [true, true] 9 hq rfl ⟨rfl, (show xe_c .ne (xg 0 h.2.1 39 27) 120 = true by rw [show (xg 0 h.2.1 39 27) = (nI o) from rr0.2.2.2.2.2.1]; exact c6), trivial⟩ (fun hq => ?_)
            refine xq_run hq rfl rfl (rsg_q (c := 40) (by decide) (by decide) hT (rt) hq) ?_
            rintro v7 h_v7 ⟨rfl, rfl⟩
            cases b8 : (decide (tkk T n p = 40)) with
            | true =>
              have db8 := of_decide_eq_true b8
              omega
            | false =>
              have db8 := of_decide_eq_false b8
              refine xq_n 185 [0, 1, 2] [(0, .ref 39), (1, .int (Int32.ofInt 0)), (2, .int (xg 0 (xh_ui h 39 27 ((xg 0 h.2.1 39 27) + (Int32.ofInt 1))).2.1 39 10))] [.ref 39] (xh_ui h 39 27 ((xg 0 h.2.1 39 27) + (Int32.ofInt 1))) [true, false] 17 hq rfl ⟨rfl, (show xe_c .ne (xg 0 (xh_ui h 39 27 ((xg 0 h.2.1 39 27) + (Int32.ofInt 1))).2.1 39 9) (Int32.ofInt 3) = false by rw [show (xg 0 (xh_ui h 39 27 ((xg 0 h.2.1 39 27) + (Int32.ofInt 1))).2.1 39 9) = (nI (rkk T n p)) from (gx_k (by decide)).trans (rt.2.1), z2]; rfl), trivial⟩ (fun _ => ?_)
              rw [show (xg 0 (xh_ui h 39 27 ((xg 0 h.2.1 39 27) + (Int32.ofInt 1))).2.1 39 10) = (nI (tkn T n p)) from (gx_k (by decide)).trans (rt.2.2.2.1 (by omega))]
              rw [show (xg 0 h.2.1 39 27) = (nI o) from rr0.2.2.2.2.2.1]
              rw [show ((nI o) + (Int32.ofInt 1)) = nI (o + 1) from nI_1 _]
              have hq : a_rq a_tb (xh_ui h 39 27 (nI (o + 1))) := a_rq_ui hq
              have nz9 : tkk T n p ≠ 0 := by omega
              have le9 := tke_le nz9
              refine xq_run hq rfl rfl (go_q hq (rtp_f (S := rS) (L := gL) rr0.1 (fx_ui (fx_0) rfl) rfl (fun _ => rfl)) ((gx_k (by decide)).trans (rt.2.2.2.2.2 (by omega))) le9) ?_
              rintro v9 h9 ⟨rfl, g9, t9⟩
              have hq := fx_q g9 hq
              have rb9 := (rkk_k (T := T) (n := n) (p := tke T n p)).1
              have kb9 := tkk_lt (T := T) (n := n) (p := tke T n p) hT
              refine xq_n 190 [0, 1, 2] [(0, .ref 39), (1, .int (Int32.ofInt 0)), (2, .int (nI (tkn T n p)))] [.int (nI (tkn T n p)), .ref 39] h9 [] 4 hq rfl trivial (fun hq => ?_)
              have er : bo T n mem nn NW p o fs = bls T n (tke T n p) (o + 1) fs := by
                unfold bo
                repeat (first | rw [if_pos (by omega)] | rw [if_neg (by omega)] | rw [if_pos b5] | rw [if_neg (by rw [b5]; decide)] | rw [if_pos b8] | rw [if_neg (by rw [b8]; decide)] | rw [if_pos (show lone T n p = true from decide_eq_true (by omega))] | rw [if_neg (show ¬ lone T n p = true from fun e => by have := of_decide_eq_true e; omega)])
                try rfl
              refine xq_run hq rfl rfl (bls_q ⟨rtp_f (S := rS) (L := gL) rr0.1 (fx_t (fx_ui (fx_0) rfl) (fx_w g9 (fun _ _ => gS_r) (fun _ _ z => z))) rfl (fun _ => rfl), t9, (fx_i g9 rfl).trans ((gx_k (by decide)).trans (rr0.2.2.1)), rr0.2.2.2.1, nms_f (S := rS) (L := gL) rr0.2.2.2.2.1 (fx_t (fx_ui (fx_0) rfl) (fx_w g9 (fun _ _ => gS_r) (fun _ _ z => z))) rfl (fun _ => rfl), (fx_i g9 rfl).trans (gx_s), by omega, (fx_i g9 rfl).trans ((gx_k (by decide)).trans (rr0.2.2.2.2.2.2.2.1)), rr0.2.2.2.2.2.2.2.2.1, rr0.2.2.2.2.2.2.2.2.2.1, frs_c (fun k hk' => (fx_i g9 rfl).trans (gx_o (by decide))) rr0.2.2.2.2.2.2.2.2.2.2.1, (fx_i g9 rfl).trans ((gx_k (by decide)).trans (rr0.2.2.2.2.2.2.2.2.2.2.2))⟩ hq) ?_
              rintro v10 h10 ⟨g10, l10, q10⟩
              have hq := fx_q g10 hq
              rw [er]
              have hv10 : ∃ x, v10 = some (.int x) := by
                cases hr10 : (bls T n (tke T n p) (o + 1) fs) with
                | inl s => obtain ⟨a1, a2, a3, a4⟩ := s; exact ⟨1, (l10 _ _ _ _ hr10).1⟩
                | inr e => obtain ⟨a1, a2⟩ := e; exact ⟨0, (q10 _ _ hr10).1⟩
              obtain ⟨x10, rfl⟩ := hv10
              exact xq_ret rfl rfl rfl ⟨fx_t (fx_t (fx_ui (fx_0) rfl) (fx_w g9 (fun _ _ => gS_r) (fun _ _ z => z))) (g10), l10, q10⟩
          | false =>
            have z6 : o = 120 := nq_nef (a := o) (b := 120) (by omega) (by omega) c6
            refine xq_n 133 [0, 1] [(0, .ref 39), (1, .int (Int32.ofInt 0))] [.int (Int32.ofInt 4), .ref 39] h [true, false] 9 hq rfl ⟨rfl, (show xe_c .ne (xg 0 h.2.1 39 27) 120 = false by rw [show (xg 0 h.2.1 39 27) = (nI o) from rr0.2.2.2.2.2.1]; exact c6), trivial⟩ (fun hq => ?_)
            refine xq_run hq rfl rfl (bad_q (k := 4) hT (rt) hq) ?_
            rintro v11 h11 ⟨rfl, g11, f11, l11⟩
            have hq := fx_q g11 hq
            rw [if_neg (show ¬ rkk T n p = 1 from fun e => by have e1 := rk1.mp e; omega)] at f11
            have er : bo T n mem nn NW p o fs = .inr (4, tks T n p) := by
              unfold bo
              repeat (first | rw [if_pos (by omega)] | rw [if_neg (by omega)] | rw [if_pos b5] | rw [if_neg (by rw [b5]; decide)] | rw [if_pos (show lone T n p = true from decide_eq_true (by omega))] | rw [if_neg (show ¬ lone T n p = true from fun e => by have := of_decide_eq_true e; omega)])
              try rfl
            exact xq_ret rfl rfl rfl (ou_r er (fx_t (fx_0) (fx_w g11 (fun _ _ => bS_r) (fun _ _ _ => rfl))) rfl (f11) (l11))
      | false =>
        have z3 : (tkn T n p) = 0 := nq_nef (a := (tkn T n p)) (b := 0) (by omega) (by omega) c3
        refine xq_n 73 [0, 1] [(0, .ref 39), (1, .int (Int32.ofInt 0))] [.int (Int32.ofInt 2), .ref 39] h [true, true, false, false] 21 hq rfl ⟨(show xe_c .ne (xg 0 h.2.1 39 9) (Int32.ofInt 2) = true by rw [show (xg 0 h.2.1 39 9) = (nI (rkk T n p)) from rt.2.1]; exact c1), (show xe_c .eq (xg 0 h.2.1 39 9) (Int32.ofInt 3) = true by rw [show (xg 0 h.2.1 39 9) = (nI (rkk T n p)) from rt.2.1]; exact c2), (show xe_c .ne (xg 0 h.2.1 39 9) (Int32.ofInt 3) = false by rw [show (xg 0 h.2.1 39 9) = (nI (rkk T n p)) from rt.2.1, z2]; rfl), (show xe_c .ne (xg 0 h.2.1 39 10) 0 = false by rw [show (xg 0 h.2.1 39 10) = (nI (tkn T n p)) from rt.2.2.2.1 (by omega)]; exact c3), trivial⟩ (fun hq => ?_)
        refine xq_run hq rfl rfl (bad_q (k := 2) hT (rt) hq) ?_
        rintro v12 h12 ⟨rfl, g12, f12, l12⟩
        have hq := fx_q g12 hq
        rw [if_neg (show ¬ rkk T n p = 1 from fun e => by have e1 := rk1.mp e; omega)] at f12
        have er : bo T n mem nn NW p o fs = .inr (2, tks T n p) := by
          unfold bo
          repeat (first | rw [if_pos (by omega)] | rw [if_neg (by omega)] | rw [if_pos (show lone T n p = true from decide_eq_true (by omega))] | rw [if_neg (show ¬ lone T n p = true from fun e => by have := of_decide_eq_true e; omega)])
          try rfl
        exact xq_ret rfl rfl rfl (ou_r er (fx_t (fx_0) (fx_w g12 (fun _ _ => bS_r) (fun _ _ _ => rfl))) rfl (f12) (l12))
    | false =>
      have z2 : (rkk T n p) ≠ 3 := nq_eqf (a := (rkk T n p)) (b := 3) (by omega) (by omega) c2
      have yc2 := mt (rk3 (T := T) (n := n) (p := p)).mpr z2
      refine xq_n 33 [0, 1] [(0, .ref 39), (1, .int (Int32.ofInt 0))] [.int 40, .ref 39] h [true, false] 14 hq rfl ⟨(show xe_c .ne (xg 0 h.2.1 39 9) (Int32.ofInt 2) = true by rw [show (xg 0 h.2.1 39 9) = (nI (rkk T n p)) from rt.2.1]; exact c1), (show xe_c .eq (xg 0 h.2.1 39 9) (Int32.ofInt 3) = false by rw [show (xg 0 h.2.1 39 9) = (nI (rkk T n p)) from rt.2.1]; exact c2), trivial⟩ (fun hq => ?_)
      refine xq_run hq rfl rfl (rsg_q (c := 40) (by decide) (by decide) hT (rt) hq) ?_
      rintro v13 h_v13 ⟨rfl, rfl⟩
      cases b14 : (decide (tkk T n p = 40)) with
      | true =>
        have db14 := of_decide_eq_true b14
        refine xq_n 102 [0, 1] [(0, .ref 39), (1, .int (Int32.ofInt 0))] [.ref 39] h [true, true, true] 10 hq rfl ⟨rfl, (show xe_c .ne (xg 0 h.2.1 39 9) (Int32.ofInt 3) = true by rw [show (xg 0 h.2.1 39 9) = (nI (rkk T n p)) from rt.2.1, xc_ne, c2]; rfl), (by decide), trivial⟩ (fun hq => ?_)
        refine xq_run hq rfl rfl (rnm_q hT (rt) hq) ?_
        rintro v15 h_v15 ⟨rfl, rfl⟩
        cases b16 : (nmt T n p) with
        | true =>
          have db16 := of_decide_eq_true b16
          omega
        | false =>
          have db16 := of_decide_eq_false b16
          cases c17 : xe_c .ne (nI o) 120 with
          | true =>
            have z17 : o ≠ 120 := nq_net (a := o) (b := 120) (by omega) (by omega) c17
            refine xq_n 140 [0, 1] [(0, .ref 39), (1, .int (Int32.ofInt 0))] [.int 40, .ref 39] h [true, true] 9 hq rfl ⟨rfl, (show xe_c .ne (xg 0 h.2.1 39 27) 120 = true by rw [show (xg 0 h.2.1 39 27) = (nI o) from rr0.2.2.2.2.2.1]; exact c17), trivial⟩ (fun hq => ?_)
            refine xq_run hq rfl rfl (rsg_q (c := 40) (by decide) (by decide) hT (rt) hq) ?_
            rintro v18 h_v18 ⟨rfl, rfl⟩
            cases c19 : xe_c .ne (nI (fs.length - 1)) 12 with
            | true =>
              have z19 : (fs.length - 1) ≠ 12 := nq_net (a := (fs.length - 1)) (b := 12) (by omega) (by omega) c19
              cases c20 : xe_c .ne (nI (rkk T n p)) (Int32.ofInt 4) with
              | true =>
                have z20 : (rkk T n p) ≠ 4 := nq_net (a := (rkk T n p)) (b := 4) (by omega) (by omega) c20
                have yc20 := mt (rk4 (T := T) (n := n) (p := p)).mpr z20
                omega
              | false =>
                have z20 : (rkk T n p) = 4 := nq_nef (a := (rkk T n p)) (b := 4) (by omega) (by omega) c20
                have yc20 := (rk4 (T := T) (n := n) (p := p)).mp z20
                refine xq_n 214 [0, 1] [(0, .ref 39), (1, .int (Int32.ofInt 0))] [.int (Int32.ofInt 1), .ref 39] (xh_ui (xh_ui h 39 27 ((xg 0 h.2.1 39 27) + (Int32.ofInt 1))) 39 28 ((xg 0 (xh_ui h 39 27 ((xg 0 h.2.1 39 27) + (Int32.ofInt 1))).2.1 39 28) + (Int32.ofInt 1))) [false, true, true, false] 29 hq rfl ⟨(show xe_c .eq (bl (decide (tkk T n p = 40))) 0 = false by rw [b14]; rfl), (show xe_c .ne (xg 0 h.2.1 39 28) 12 = true by rw [show (xg 0 h.2.1 39 28) = (nI (fs.length - 1)) from rr0.2.2.2.2.2.2.2.1]; exact c19), (show xe_c .ne (xg 0 (xh_ui h 39 27 ((xg 0 h.2.1 39 27) + (Int32.ofInt 1))).2.1 39 9) (Int32.ofInt 3) = true by rw [show (xg 0 (xh_ui h 39 27 ((xg 0 h.2.1 39 27) + (Int32.ofInt 1))).2.1 39 9) = (nI (rkk T n p)) from (gx_k (by decide)).trans (rt.2.1), xc_ne, c2]; rfl), (show xe_c .ne (xg 0 (xh_ui h 39 27 ((xg 0 h.2.1 39 27) + (Int32.ofInt 1))).2.1 39 9) (Int32.ofInt 4) = false by rw [show (xg 0 (xh_ui h 39 27 ((xg 0 h.2.1 39 27) + (Int32.ofInt 1))).2.1 39 9) = (nI (rkk T n p)) from (gx_k (by decide)).trans (rt.2.1)]; exact c20), trivial⟩ (fun _ => ?_)
                rw [show (xg 0 (xh_ui h 39 27 ((xg 0 h.2.1 39 27) + (Int32.ofInt 1))).2.1 39 28) = (nI (fs.length - 1)) from (gx_k (by decide)).trans (rr0.2.2.2.2.2.2.2.1)]
                rw [show (xg 0 h.2.1 39 27) = (nI o) from rr0.2.2.2.2.2.1]
                rw [show ((nI o) + (Int32.ofInt 1)) = nI (o + 1) from nI_1 _]
                rw [show ((nI (fs.length - 1)) + (Int32.ofInt 1)) = nI (fs.length - 1 + 1) from nI_1 _]
                rw [show (nI (fs.length - 1 + 1)) = nI fs.length from (by rw [show fs.length - 1 + 1 = fs.length by omega])]
                have hq : a_rq a_tb (xh_ui (xh_ui h 39 27 (nI (o + 1))) 39 28 (nI fs.length)) := a_rq_ui (a_rq_ui hq)
                have nz21 : tkk T n p ≠ 0 := by omega
                refine xq_run hq rfl rfl (opr_q (ty := 1) (t := fs.length) (by omega) (tke_le nz21) hq (rtp_f (S := rS) (L := gL) rr0.1 (fx_ui (fx_ui (fx_0) rfl) rfl) rfl (fun _ => rfl)) ((gx_k (by decide)).trans ((gx_k (by decide)).trans (rt.2.2.2.2.2 (by omega)))) (gx_s)) ?_
                rintro v21 h21 ⟨rfl, g21, t21, y21, a21⟩
                have hq := fx_q g21 hq
                refine xq_n 218 [] [] [.int (Int32.ofInt 1)] h21 [] 3 hq rfl trivial (fun hq => ?_)
                have er : bo T n mem nn NW p o fs = .inl (1, tke T n p, (o + 1), 1 :: fs) := by
                  unfold bo
                  repeat (first | rw [if_pos (by omega)] | rw [if_neg (by omega)] | rw [if_pos b14] | rw [if_neg (by rw [b14]; decide)] | rw [if_pos b16] | rw [if_neg (by rw [b16]; decide)] | rw [if_pos (show lone T n p = true from decide_eq_true (by omega))] | rw [if_neg (show ¬ lone T n p = true from fun e => by have := of_decide_eq_true e; omega)])
                  try rfl
                exact xq_ret rfl rfl rfl (ou_l er (fx_t (fx_ui (fx_ui (fx_0) rfl) rfl) (fx_w g21 (fun _ _ => oS_r) (fun _ _ z => z))) rfl ⟨rtp_f (S := rS) (L := gL) rr0.1 (fx_t (fx_ui (fx_ui (fx_0) rfl) rfl) (fx_w g21 (fun _ _ => oS_r) (fun _ _ z => z))) rfl (fun _ => rfl), t21, (fx_i g21 rfl).trans ((gx_k (by decide)).trans ((gx_k (by decide)).trans (rr0.2.2.1))), rr0.2.2.2.1, nms_f (S := rS) (L := gL) rr0.2.2.2.2.1 (fx_t (fx_ui (fx_ui (fx_0) rfl) rfl) (fx_w g21 (fun _ _ => oS_r) (fun _ _ z => z))) rfl (fun _ => rfl), (fx_i g21 rfl).trans ((gx_k (by decide)).trans (gx_s)), by omega, ((fx_i g21 rfl).trans (gx_s)), by simp only [List.length_cons]; omega, by simp only [List.length_cons]; omega, ⟨y21, by decide, frs_c (fun k hk' => (fx_i g21 (o47 hk')).trans ((gx_o (by decide)).trans (gx_o (by decide)))) rr0.2.2.2.2.2.2.2.2.2.2.1⟩, (fx_i g21 rfl).trans ((gx_k (by decide)).trans ((gx_k (by decide)).trans (rr0.2.2.2.2.2.2.2.2.2.2.2)))⟩ (a21))
            | false =>
              have z19 : (fs.length - 1) = 12 := nq_nef (a := (fs.length - 1)) (b := 12) (by omega) (by omega) c19
              refine xq_n 157 [0, 1] [(0, .ref 39), (1, .int (Int32.ofInt 0))] [.int (Int32.ofInt 4), .ref 39] h [false, false] 9 hq rfl ⟨(show xe_c .eq (bl (decide (tkk T n p = 40))) 0 = false by rw [b14]; rfl), (show xe_c .ne (xg 0 h.2.1 39 28) 12 = false by rw [show (xg 0 h.2.1 39 28) = (nI (fs.length - 1)) from rr0.2.2.2.2.2.2.2.1]; exact c19), trivial⟩ (fun hq => ?_)
              refine xq_run hq rfl rfl (bad_q (k := 4) hT (rt) hq) ?_
              rintro v22 h22 ⟨rfl, g22, f22, l22⟩
              have hq := fx_q g22 hq
              rw [if_neg (show ¬ rkk T n p = 1 from fun e => by have e1 := rk1.mp e; omega)] at f22
              have er : bo T n mem nn NW p o fs = .inr (4, tks T n p) := by
                unfold bo
                repeat (first | rw [if_pos (by omega)] | rw [if_neg (by omega)] | rw [if_pos b14] | rw [if_neg (by rw [b14]; decide)] | rw [if_pos b16] | rw [if_neg (by rw [b16]; decide)] | rw [if_pos (show lone T n p = true from decide_eq_true (by omega))] | rw [if_neg (show ¬ lone T n p = true from fun e => by have := of_decide_eq_true e; omega)])
                try rfl
              exact xq_ret rfl rfl rfl (ou_r er (fx_t (fx_0) (fx_w g22 (fun _ _ => bS_r) (fun _ _ _ => rfl))) rfl (f22) (l22))
          | false =>
            have z17 : o = 120 := nq_nef (a := o) (b := 120) (by omega) (by omega) c17
            refine xq_n 133 [0, 1] [(0, .ref 39), (1, .int (Int32.ofInt 0))] [.int (Int32.ofInt 4), .ref 39] h [true, false] 9 hq rfl ⟨rfl, (show xe_c .ne (xg 0 h.2.1 39 27) 120 = false by rw [show (xg 0 h.2.1 39 27) = (nI o) from rr0.2.2.2.2.2.1]; exact c17), trivial⟩ (fun hq => ?_)
            refine xq_run hq rfl rfl (bad_q (k := 4) hT (rt) hq) ?_
            rintro v23 h23 ⟨rfl, g23, f23, l23⟩
            have hq := fx_q g23 hq
            rw [if_neg (show ¬ rkk T n p = 1 from fun e => by have e1 := rk1.mp e; omega)] at f23
            have er : bo T n mem nn NW p o fs = .inr (4, tks T n p) := by
              unfold bo
              repeat (first | rw [if_pos (by omega)] | rw [if_neg (by omega)] | rw [if_pos b14] | rw [if_neg (by rw [b14]; decide)] | rw [if_pos b16] | rw [if_neg (by rw [b16]; decide)] | rw [if_pos (show lone T n p = true from decide_eq_true (by omega))] | rw [if_neg (show ¬ lone T n p = true from fun e => by have := of_decide_eq_true e; omega)])
              try rfl
            exact xq_ret rfl rfl rfl (ou_r er (fx_t (fx_0) (fx_w g23 (fun _ _ => bS_r) (fun _ _ _ => rfl))) rfl (f23) (l23))
      | false =>
        have db14 := of_decide_eq_false b14
        refine xq_n 44 [0, 1] [(0, .ref 39), (1, .int (Int32.ofInt 0))] [.ref 39] h [false, false] 6 hq rfl ⟨rfl, (by decide), trivial⟩ (fun hq => ?_)
        refine xq_run hq rfl rfl (rnm_q hT (rt) hq) ?_
        rintro v24 h_v24 ⟨rfl, rfl⟩
        cases b25 : (nmt T n p) with
        | true =>
          have db25 := of_decide_eq_true b25
          omega
        | false =>
          have db25 := of_decide_eq_false b25
          refine xq_n 52 [0, 1] [(0, .ref 39), (1, .int (Int32.ofInt 0))] [.int (Int32.ofInt 1), .ref 39] h [false] 5 hq rfl ⟨rfl, trivial⟩ (fun hq => ?_)
          refine xq_run hq rfl rfl (bad_q (k := 1) hT (rt) hq) ?_
          rintro v26 h26 ⟨rfl, g26, f26, l26⟩
          have hq := fx_q g26 hq
          rw [show (if rkk T n p = 1 then 1 else 1) = 1 by split <;> rfl] at f26
          have er : bo T n mem nn NW p o fs = .inr (1, tks T n p) := by
            unfold bo
            repeat (first | rw [if_pos (by omega)] | rw [if_neg (by omega)] | rw [if_pos b14] | rw [if_neg (by rw [b14]; decide)] | rw [if_pos b25] | rw [if_neg (by rw [b25]; decide)] | rw [if_pos (show lone T n p = true from decide_eq_true (by omega))] | rw [if_neg (show ¬ lone T n p = true from fun e => by have := of_decide_eq_true e; omega)])
            try rfl
          exact xq_ret rfl rfl rfl (ou_r er (fx_t (fx_0) (fx_w g26 (fun _ _ => bS_r) (fun _ _ _ => rfl))) rfl (f26) (l26))
  | false =>
    have z1 : (rkk T n p) = 2 := nq_nef (a := (rkk T n p)) (b := 2) (by omega) (by omega) c1
    have yc1 := (rk2 (T := T) (n := n) (p := p)).mp z1
    have wlt := tkw_lt (T := T) (n := n) (p := p) yc1
    have tk2' := (tk2 (T := T) (n := n) (p := p) yc1).2.1
    cases c27 : xe_c .ne (nI (tke T n p - tks T n p)) (Int32.ofInt 1) with
    | true =>
      have z27 : (tke T n p - tks T n p) ≠ 1 := nq_net (a := (tke T n p - tks T n p)) (b := 1) (by omega) (by omega) c27
      refine xq_n 33 [0, 1] [(0, .ref 39), (1, .int (Int32.ofInt 0))] [.int 40, .ref 39] h [false, true, false] 18 hq rfl ⟨(show xe_c .ne (xg 0 h.2.1 39 9) (Int32.ofInt 2) = false by rw [show (xg 0 h.2.1 39 9) = (nI (rkk T n p)) from rt.2.1]; exact c1), (show xe_c .ne (xg 0 h.2.1 39 12) (Int32.ofInt 1) = true by rw [show (xg 0 h.2.1 39 12) = (nI (tke T n p - tks T n p)) from (rt.2.2.1 (by omega)).1]; exact c27), (show xe_c .eq (xg 0 h.2.1 39 9) (Int32.ofInt 3) = false by rw [show (xg 0 h.2.1 39 9) = (nI (rkk T n p)) from rt.2.1, z1]; rfl), trivial⟩ (fun hq => ?_)
      refine xq_run hq rfl rfl (rsg_q (c := 40) (by decide) (by decide) hT (rt) hq) ?_
      rintro v28 h_v28 ⟨rfl, rfl⟩
      cases b29 : (decide (tkk T n p = 40)) with
      | true =>
        have db29 := of_decide_eq_true b29
        omega
      | false =>
        have db29 := of_decide_eq_false b29
        refine xq_n 44 [0, 1] [(0, .ref 39), (1, .int (Int32.ofInt 0))] [.ref 39] h [false, false] 6 hq rfl ⟨rfl, (by decide), trivial⟩ (fun hq => ?_)
        refine xq_run hq rfl rfl (rnm_q hT (rt) hq) ?_
        rintro v30 h_v30 ⟨rfl, rfl⟩
        cases b31 : (nmt T n p) with
        | true =>
          have db31 := of_decide_eq_true b31
          refine xq_n 102 [0, 1] [(0, .ref 39), (1, .int (Int32.ofInt 0))] [.ref 39] h [true, true, true] 10 hq rfl ⟨rfl, (show xe_c .ne (xg 0 h.2.1 39 9) (Int32.ofInt 3) = true by rw [show (xg 0 h.2.1 39 9) = (nI (rkk T n p)) from rt.2.1, z1]; rfl), (by decide), trivial⟩ (fun hq => ?_)
          refine xq_run hq rfl rfl (rnm_q hT (rt) hq) ?_
          rintro v32 h_v32 ⟨rfl, rfl⟩
          refine xq_n 109 [0, 1] [(0, .ref 39), (1, .int (Int32.ofInt 0))] [.ref 39] h [false] 4 hq rfl ⟨(show xe_c .eq (bl (nmt T n p)) 0 = false by rw [b31]; rfl), trivial⟩ (fun hq => ?_)
          refine xq_run hq rfl rfl (nh_q (rr0.2.2.2.2.1) ((rt.2.2.1 (by omega)).2) (tkw_lt (by omega)) hq) ?_
          rintro v33 h_33 ⟨rfl, ⟨rfl, hn33⟩ | ⟨kk33, kl33, rfl, -, hn33⟩⟩
          · skip
            refine xq_n 118 [0, 1] [(0, .ref 39), (1, .int (Int32.ofInt 0))] [.int (Int32.ofInt 3), .ref 39] h [false] 6 hq rfl ⟨(by decide), trivial⟩ (fun hq => ?_)
            refine xq_run hq rfl rfl (bad_q (k := 3) hT (rt) hq) ?_
            rintro v34 h34 ⟨rfl, g34, f34, l34⟩
            have hq := fx_q g34 hq
            rw [if_neg (show ¬ rkk T n p = 1 from fun e => by have e1 := rk1.mp e; omega)] at f34
            have er : bo T n mem nn NW p o fs = .inr (3, tks T n p) := by
              unfold bo
              repeat (first | rw [if_pos (by omega)] | rw [if_neg (by omega)] | rw [if_pos b29] | rw [if_neg (by rw [b29]; decide)] | rw [if_pos b31] | rw [if_neg (by rw [b31]; decide)] | rw [if_pos hn33] | rw [if_neg (by rw [hn33]; decide)] | rw [if_pos (show lone T n p = true from decide_eq_true (by omega))] | rw [if_neg (show ¬ lone T n p = true from fun e => by have := of_decide_eq_true e; omega)])
              try rfl
            exact xq_ret rfl rfl rfl (ou_r er (fx_t (fx_0) (fx_w g34 (fun _ _ => bS_r) (fun _ _ _ => rfl))) rfl (f34) (l34))
          · skip
            cases c35 : xe_c .ne (nI kk33) (Int32.ofInt (-1)) with
            | true =>
              cases c36 : xe_c .ne (nI o) 120 with
              | true =>
                have z36 : o ≠ 120 := nq_net (a := o) (b := 120) (by omega) (by omega) c36
                refine xq_n 140 [0, 1] [(0, .ref 39), (1, .int (Int32.ofInt 0))] [.int 40, .ref 39] h [true, true] 10 hq rfl ⟨c35, (show xe_c .ne (xg 0 h.2.1 39 27) 120 = true by rw [show (xg 0 h.2.1 39 27) = (nI o) from rr0.2.2.2.2.2.1]; exact c36), trivial⟩ (fun hq => ?_)
                refine xq_run hq rfl rfl (rsg_q (c := 40) (by decide) (by decide) hT (rt) hq) ?_
                rintro v37 h_v37 ⟨rfl, rfl⟩
                refine xq_n 228 [0, 1, 2] [(0, .ref 39), (1, .int (Int32.ofInt 0)), (2, .int (((xg 0 (xh_ui h 39 27 ((xg 0 h.2.1 39 27) + (Int32.ofInt 1))).2.2.1 39 15).toInt32) - (Int32.ofInt 1)))] [.ref 39] (xh_ui h 39 27 ((xg 0 h.2.1 39 27) + (Int32.ofInt 1))) [true, true, true] 24 hq rfl ⟨(show xe_c .eq (bl (decide (tkk T n p = 40))) 0 = true by rw [b29]; rfl), (show xe_c .ne (xg 0 (xh_ui h 39 27 ((xg 0 h.2.1 39 27) + (Int32.ofInt 1))).2.1 39 9) (Int32.ofInt 3) = true by rw [show (xg 0 (xh_ui h 39 27 ((xg 0 h.2.1 39 27) + (Int32.ofInt 1))).2.1 39 9) = (nI (rkk T n p)) from (gx_k (by decide)).trans (rt.2.1), z1]; rfl), (show xe_c .ne (xg 0 (xh_ui h 39 27 ((xg 0 h.2.1 39 27) + (Int32.ofInt 1))).2.1 39 9) (Int32.ofInt 4) = true by rw [show (xg 0 (xh_ui h 39 27 ((xg 0 h.2.1 39 27) + (Int32.ofInt 1))).2.1 39 9) = (nI (rkk T n p)) from (gx_k (by decide)).trans (rt.2.1), z1]; rfl), trivial⟩ (fun _ => ?_)
                rw [show (xg 0 (xh_ui h 39 27 ((xg 0 h.2.1 39 27) + (Int32.ofInt 1))).2.2.1 39 15) = (Int64.ofNat (tkw T n p)) from (rt.2.2.1 (by omega)).2]
                rw [show (xg 0 h.2.1 39 27) = (nI o) from rr0.2.2.2.2.2.1]
                rw [show ((nI o) + (Int32.ofInt 1)) = nI (o + 1) from nI_1 _]
                have hq : a_rq a_tb (xh_ui h 39 27 (nI (o + 1))) := a_rq_ui hq
                refine xq_run hq rfl rfl (nh_q (nms_f (S := rS) (L := gL) rr0.2.2.2.2.1 (fx_ui (fx_0) rfl) rfl (fun _ => rfl)) ((rt.2.2.1 (by omega)).2) (tkw_lt (by omega)) hq) ?_
                rintro v38 h_38 ⟨rfl, ⟨rfl, hn38⟩ | ⟨kk38, kl38, rfl, -, hn38⟩⟩
                · rw [hn33] at hn38; cases hn38
                · skip
                  refine xq_n 235 [0, 1, 2, 3, 4] [(0, .ref 39), (1, .int (Int32.ofInt 0)), (2, .int (((Int64.ofNat (tkw T n p)).toInt32) - (Int32.ofInt 1))), (3, .int (nI kk38)), (4, .int (Int32.ofInt 0))] [] (xh_ui h 39 27 (nI (o + 1))) [] 5 hq rfl trivial (fun hq => ?_)
                  have er : bo T n mem nn NW p o fs = .inl (0, tke T n p, (o + 1), fs) := by
                    unfold bo
                    repeat (first | rw [if_pos (by omega)] | rw [if_neg (by omega)] | rw [if_pos b29] | rw [if_neg (by rw [b29]; decide)] | rw [if_pos b31] | rw [if_neg (by rw [b31]; decide)] | rw [if_pos hn33] | rw [if_neg (by rw [hn33]; decide)] | rw [if_pos hn38] | rw [if_neg (by rw [hn38]; decide)] | rw [if_pos (show lone T n p = true from decide_eq_true (by omega))] | rw [if_neg (show ¬ lone T n p = true from fun e => by have := of_decide_eq_true e; omega)])
                    try rfl
                  rw [er]
                  exact bo_lp f _ _ _ _ _ (fx_ui (fx_0) rfl) (⟨rtp_f (S := rS) (L := gL) rr0.1 (fx_ui (fx_0) rfl) rfl (fun _ => rfl), rtk_ui (rt) rfl, (gx_k (by decide)).trans (rr0.2.2.1), rr0.2.2.2.1, nms_f (S := rS) (L := gL) rr0.2.2.2.2.1 (fx_ui (fx_0) rfl) rfl (fun _ => rfl), gx_s, by omega, (gx_k (by decide)).trans (rr0.2.2.2.2.2.2.2.1), rr0.2.2.2.2.2.2.2.2.1, rr0.2.2.2.2.2.2.2.2.2.1, frs_c (fun k hk' => gx_o (by decide)) rr0.2.2.2.2.2.2.2.2.2.2.1, (gx_k (by decide)).trans (rr0.2.2.2.2.2.2.2.2.2.2.2)⟩) (by omega) hq
              | false =>
                have z36 : o = 120 := nq_nef (a := o) (b := 120) (by omega) (by omega) c36
                refine xq_n 133 [0, 1] [(0, .ref 39), (1, .int (Int32.ofInt 0))] [.int (Int32.ofInt 4), .ref 39] h [true, false] 10 hq rfl ⟨c35, (show xe_c .ne (xg 0 h.2.1 39 27) 120 = false by rw [show (xg 0 h.2.1 39 27) = (nI o) from rr0.2.2.2.2.2.1]; exact c36), trivial⟩ (fun hq => ?_)
                refine xq_run hq rfl rfl (bad_q (k := 4) hT (rt) hq) ?_
                rintro v40 h40 ⟨rfl, g40, f40, l40⟩
                have hq := fx_q g40 hq
                rw [if_neg (show ¬ rkk T n p = 1 from fun e => by have e1 := rk1.mp e; omega)] at f40
                have er : bo T n mem nn NW p o fs = .inr (4, tks T n p) := by
                  unfold bo
                  repeat (first | rw [if_pos (by omega)] | rw [if_neg (by omega)] | rw [if_pos b29] | rw [if_neg (by rw [b29]; decide)] | rw [if_pos b31] | rw [if_neg (by rw [b31]; decide)] | rw [if_pos hn33] | rw [if_neg (by rw [hn33]; decide)] | rw [if_pos (show lone T n p = true from decide_eq_true (by omega))] | rw [if_neg (show ¬ lone T n p = true from fun e => by have := of_decide_eq_true e; omega)])
                  try rfl
                exact xq_ret rfl rfl rfl (ou_r er (fx_t (fx_0) (fx_w g40 (fun _ _ => bS_r) (fun _ _ _ => rfl))) rfl (f40) (l40))
            | false =>
              exact absurd (xne_j c35) (nIm1 (by omega))
        | false =>
          have db31 := of_decide_eq_false b31
          refine xq_n 52 [0, 1] [(0, .ref 39), (1, .int (Int32.ofInt 0))] [.int (Int32.ofInt 1), .ref 39] h [false] 5 hq rfl ⟨rfl, trivial⟩ (fun hq => ?_)
          refine xq_run hq rfl rfl (bad_q (k := 1) hT (rt) hq) ?_
          rintro v41 h41 ⟨rfl, g41, f41, l41⟩
          have hq := fx_q g41 hq
          rw [show (if rkk T n p = 1 then 1 else 1) = 1 by split <;> rfl] at f41
          have er : bo T n mem nn NW p o fs = .inr (1, tks T n p) := by
            unfold bo
            repeat (first | rw [if_pos (by omega)] | rw [if_neg (by omega)] | rw [if_pos b29] | rw [if_neg (by rw [b29]; decide)] | rw [if_pos b31] | rw [if_neg (by rw [b31]; decide)] | rw [if_pos (show lone T n p = true from decide_eq_true (by omega))] | rw [if_neg (show ¬ lone T n p = true from fun e => by have := of_decide_eq_true e; omega)])
            try rfl
          exact xq_ret rfl rfl rfl (ou_r er (fx_t (fx_0) (fx_w g41 (fun _ _ => bS_r) (fun _ _ _ => rfl))) rfl (f41) (l41))
    | false =>
      have z27 : (tke T n p - tks T n p) = 1 := nq_nef (a := (tke T n p - tks T n p)) (b := 1) (by omega) (by omega) c27
      refine xq_n 33 [0, 1] [(0, .ref 39), (1, .int (Int32.ofInt 1))] [.int 40, .ref 39] h [false, false, false] 19 hq rfl ⟨(show xe_c .ne (xg 0 h.2.1 39 9) (Int32.ofInt 2) = false by rw [show (xg 0 h.2.1 39 9) = (nI (rkk T n p)) from rt.2.1]; exact c1), (show xe_c .ne (xg 0 h.2.1 39 12) (Int32.ofInt 1) = false by rw [show (xg 0 h.2.1 39 12) = (nI (tke T n p - tks T n p)) from (rt.2.2.1 (by omega)).1]; exact c27), (show xe_c .eq (xg 0 h.2.1 39 9) (Int32.ofInt 3) = false by rw [show (xg 0 h.2.1 39 9) = (nI (rkk T n p)) from rt.2.1, z1]; rfl), trivial⟩ (fun hq => ?_)
      refine xq_run hq rfl rfl (rsg_q (c := 40) (by decide) (by decide) hT (rt) hq) ?_
      rintro v42 h_v42 ⟨rfl, rfl⟩
      cases b43 : (decide (tkk T n p = 40)) with
      | true =>
        have db43 := of_decide_eq_true b43
        omega
      | false =>
        have db43 := of_decide_eq_false b43
        refine xq_n 89 [0, 1] [(0, .ref 39), (1, .int (Int32.ofInt 1))] [.int (((xg 0 h.2.2.1 39 15).toInt32) - (Int32.ofInt 1)), .ref 39] h [false, true, true, false] 17 hq rfl ⟨rfl, (by decide), (show xe_c .ne (xg 0 h.2.1 39 9) (Int32.ofInt 3) = true by rw [show (xg 0 h.2.1 39 9) = (nI (rkk T n p)) from rt.2.1, z1]; rfl), (by decide), trivial⟩ (fun hq => ?_)
        rw [show (xg 0 h.2.2.1 39 15) = (Int64.ofNat (tkw T n p)) from (rt.2.2.1 (by omega)).2]
        have lw := lone_w (T := T) (n := n) (p := p) (decide_eq_true (by omega))
        rw [show (((Int64.ofNat (tkw T n p)).toInt32) - (Int32.ofInt 1)) = nI (tkw T n p - 1) from ll_v (by omega) (by omega) (by omega)]
        refine xq_run hq rfl rfl (rmb_q (m := (tkw T n p - 1)) (by omega) rr0.2.2.2.1 (rr0.2.2.1) hq) ?_
        rintro v44 h_v44 ⟨rfl, rfl⟩
        cases b45 : (decide ((tkw T n p - 1) < mem)) with
        | true =>
          have db45 := of_decide_eq_true b45
          refine xq_n 102 [0, 1] [(0, .ref 39), (1, .int (Int32.ofInt 1))] [.ref 39] h [true] 4 hq rfl ⟨rfl, trivial⟩ (fun hq => ?_)
          refine xq_run hq rfl rfl (rnm_q hT (rt) hq) ?_
          rintro v46 h_v46 ⟨rfl, rfl⟩
          cases b47 : (nmt T n p) with
          | true =>
            have db47 := of_decide_eq_true b47
            omega
          | false =>
            have db47 := of_decide_eq_false b47
            cases c48 : xe_c .ne (nI o) 120 with
            | true =>
              have z48 : o ≠ 120 := nq_net (a := o) (b := 120) (by omega) (by omega) c48
              refine xq_n 140 [0, 1] [(0, .ref 39), (1, .int (Int32.ofInt 1))] [.int 40, .ref 39] h [true, true] 9 hq rfl ⟨rfl, (show xe_c .ne (xg 0 h.2.1 39 27) 120 = true by rw [show (xg 0 h.2.1 39 27) = (nI o) from rr0.2.2.2.2.2.1]; exact c48), trivial⟩ (fun hq => ?_)
              refine xq_run hq rfl rfl (rsg_q (c := 40) (by decide) (by decide) hT (rt) hq) ?_
              rintro v49 h_v49 ⟨rfl, rfl⟩
              refine xq_n 228 [0, 1, 2] [(0, .ref 39), (1, .int (Int32.ofInt 1)), (2, .int (((xg 0 (xh_ui h 39 27 ((xg 0 h.2.1 39 27) + (Int32.ofInt 1))).2.2.1 39 15).toInt32) - (Int32.ofInt 1)))] [.ref 39] (xh_ui h 39 27 ((xg 0 h.2.1 39 27) + (Int32.ofInt 1))) [true, true, true] 24 hq rfl ⟨(show xe_c .eq (bl (decide (tkk T n p = 40))) 0 = true by rw [b43]; rfl), (show xe_c .ne (xg 0 (xh_ui h 39 27 ((xg 0 h.2.1 39 27) + (Int32.ofInt 1))).2.1 39 9) (Int32.ofInt 3) = true by rw [show (xg 0 (xh_ui h 39 27 ((xg 0 h.2.1 39 27) + (Int32.ofInt 1))).2.1 39 9) = (nI (rkk T n p)) from (gx_k (by decide)).trans (rt.2.1), z1]; rfl), (show xe_c .ne (xg 0 (xh_ui h 39 27 ((xg 0 h.2.1 39 27) + (Int32.ofInt 1))).2.1 39 9) (Int32.ofInt 4) = true by rw [show (xg 0 (xh_ui h 39 27 ((xg 0 h.2.1 39 27) + (Int32.ofInt 1))).2.1 39 9) = (nI (rkk T n p)) from (gx_k (by decide)).trans (rt.2.1), z1]; rfl), trivial⟩ (fun _ => ?_)
              rw [show (xg 0 (xh_ui h 39 27 ((xg 0 h.2.1 39 27) + (Int32.ofInt 1))).2.2.1 39 15) = (Int64.ofNat (tkw T n p)) from (rt.2.2.1 (by omega)).2]
              rw [show (xg 0 h.2.1 39 27) = (nI o) from rr0.2.2.2.2.2.1]
              rw [show ((nI o) + (Int32.ofInt 1)) = nI (o + 1) from nI_1 _]
              have hq : a_rq a_tb (xh_ui h 39 27 (nI (o + 1))) := a_rq_ui hq
              refine xq_run hq rfl rfl (nh_q (nms_f (S := rS) (L := gL) rr0.2.2.2.2.1 (fx_ui (fx_0) rfl) rfl (fun _ => rfl)) ((rt.2.2.1 (by omega)).2) (tkw_lt (by omega)) hq) ?_
              rintro v50 h_50 ⟨rfl, ⟨rfl, hn50⟩ | ⟨kk50, kl50, rfl, -, hn50⟩⟩
              · skip
                refine xq_n 235 [0, 1, 2, 3, 4] [(0, .ref 39), (1, .int (Int32.ofInt 1)), (2, .int (((Int64.ofNat (tkw T n p)).toInt32) - (Int32.ofInt 1))), (3, .int (Int32.ofInt (-1))), (4, .int (Int32.ofInt 0))] [] (xh_ui h 39 27 (nI (o + 1))) [] 5 hq rfl trivial (fun hq => ?_)
                have er : bo T n mem nn NW p o fs = .inl (0, tke T n p, (o + 1), fs) := by
                  unfold bo
                  repeat (first | rw [if_pos (by omega)] | rw [if_neg (by omega)] | rw [if_pos b43] | rw [if_neg (by rw [b43]; decide)] | rw [if_pos b45] | rw [if_neg (by rw [b45]; decide)] | rw [if_pos b47] | rw [if_neg (by rw [b47]; decide)] | rw [if_pos hn50] | rw [if_neg (by rw [hn50]; decide)] | rw [if_pos (show lone T n p = true from decide_eq_true (by omega))] | rw [if_neg (show ¬ lone T n p = true from fun e => by have := of_decide_eq_true e; omega)])
                  try rfl
                rw [er]
                exact bo_lp f _ _ _ _ _ (fx_ui (fx_0) rfl) (⟨rtp_f (S := rS) (L := gL) rr0.1 (fx_ui (fx_0) rfl) rfl (fun _ => rfl), rtk_ui (rt) rfl, (gx_k (by decide)).trans (rr0.2.2.1), rr0.2.2.2.1, nms_f (S := rS) (L := gL) rr0.2.2.2.2.1 (fx_ui (fx_0) rfl) rfl (fun _ => rfl), gx_s, by omega, (gx_k (by decide)).trans (rr0.2.2.2.2.2.2.2.1), rr0.2.2.2.2.2.2.2.2.1, rr0.2.2.2.2.2.2.2.2.2.1, frs_c (fun k hk' => gx_o (by decide)) rr0.2.2.2.2.2.2.2.2.2.2.1, (gx_k (by decide)).trans (rr0.2.2.2.2.2.2.2.2.2.2.2)⟩) (by omega) hq
              · skip
                refine xq_n 235 [0, 1, 2, 3, 4] [(0, .ref 39), (1, .int (Int32.ofInt 1)), (2, .int (((Int64.ofNat (tkw T n p)).toInt32) - (Int32.ofInt 1))), (3, .int (nI kk50)), (4, .int (Int32.ofInt 0))] [] (xh_ui h 39 27 (nI (o + 1))) [] 5 hq rfl trivial (fun hq => ?_)
                have er : bo T n mem nn NW p o fs = .inl (0, tke T n p, (o + 1), fs) := by
                  unfold bo
                  repeat (first | rw [if_pos (by omega)] | rw [if_neg (by omega)] | rw [if_pos b43] | rw [if_neg (by rw [b43]; decide)] | rw [if_pos b45] | rw [if_neg (by rw [b45]; decide)] | rw [if_pos b47] | rw [if_neg (by rw [b47]; decide)] | rw [if_pos hn50] | rw [if_neg (by rw [hn50]; decide)] | rw [if_pos (show lone T n p = true from decide_eq_true (by omega))] | rw [if_neg (show ¬ lone T n p = true from fun e => by have := of_decide_eq_true e; omega)])
                  try rfl
                rw [er]
                exact bo_lp f _ _ _ _ _ (fx_ui (fx_0) rfl) (⟨rtp_f (S := rS) (L := gL) rr0.1 (fx_ui (fx_0) rfl) rfl (fun _ => rfl), rtk_ui (rt) rfl, (gx_k (by decide)).trans (rr0.2.2.1), rr0.2.2.2.1, nms_f (S := rS) (L := gL) rr0.2.2.2.2.1 (fx_ui (fx_0) rfl) rfl (fun _ => rfl), gx_s, by omega, (gx_k (by decide)).trans (rr0.2.2.2.2.2.2.2.1), rr0.2.2.2.2.2.2.2.2.1, rr0.2.2.2.2.2.2.2.2.2.1, frs_c (fun k hk' => gx_o (by decide)) rr0.2.2.2.2.2.2.2.2.2.2.1, (gx_k (by decide)).trans (rr0.2.2.2.2.2.2.2.2.2.2.2)⟩) (by omega) hq
            | false =>
              have z48 : o = 120 := nq_nef (a := o) (b := 120) (by omega) (by omega) c48
              refine xq_n 133 [0, 1] [(0, .ref 39), (1, .int (Int32.ofInt 1))] [.int (Int32.ofInt 4), .ref 39] h [true, false] 9 hq rfl ⟨rfl, (show xe_c .ne (xg 0 h.2.1 39 27) 120 = false by rw [show (xg 0 h.2.1 39 27) = (nI o) from rr0.2.2.2.2.2.1]; exact c48), trivial⟩ (fun hq => ?_)
              refine xq_run hq rfl rfl (bad_q (k := 4) hT (rt) hq) ?_
              rintro v53 h53 ⟨rfl, g53, f53, l53⟩
              have hq := fx_q g53 hq
              rw [if_neg (show ¬ rkk T n p = 1 from fun e => by have e1 := rk1.mp e; omega)] at f53
              have er : bo T n mem nn NW p o fs = .inr (4, tks T n p) := by
                unfold bo
                repeat (first | rw [if_pos (by omega)] | rw [if_neg (by omega)] | rw [if_pos b43] | rw [if_neg (by rw [b43]; decide)] | rw [if_pos b45] | rw [if_neg (by rw [b45]; decide)] | rw [if_pos b47] | rw [if_neg (by rw [b47]; decide)] | rw [if_pos (show lone T n p = true from decide_eq_true (by omega))] | rw [if_neg (show ¬ lone T n p = true from fun e => by have := of_decide_eq_true e; omega)])
                try rfl
              exact xq_ret rfl rfl rfl (ou_r er (fx_t (fx_0) (fx_w g53 (fun _ _ => bS_r) (fun _ _ _ => rfl))) rfl (f53) (l53))
        | false =>
          have db45 := of_decide_eq_false b45
          refine xq_n 97 [0, 1] [(0, .ref 39), (1, .int (Int32.ofInt 1))] [.int (Int32.ofInt 2), .ref 39] h [false] 5 hq rfl ⟨rfl, trivial⟩ (fun hq => ?_)
          refine xq_run hq rfl rfl (bad_q (k := 2) hT (rt) hq) ?_
          rintro v54 h54 ⟨rfl, g54, f54, l54⟩
          have hq := fx_q g54 hq
          rw [if_neg (show ¬ rkk T n p = 1 from fun e => by have e1 := rk1.mp e; omega)] at f54
          have er : bo T n mem nn NW p o fs = .inr (2, tks T n p) := by
            unfold bo
            repeat (first | rw [if_pos (by omega)] | rw [if_neg (by omega)] | rw [if_pos b43] | rw [if_neg (by rw [b43]; decide)] | rw [if_pos b45] | rw [if_neg (by rw [b45]; decide)] | rw [if_pos (show lone T n p = true from decide_eq_true (by omega))] | rw [if_neg (show ¬ lone T n p = true from fun e => by have := of_decide_eq_true e; omega)])
            try rfl
          exact xq_ret rfl rfl rfl (ou_r er (fx_t (fx_0) (fx_w g54 (fun _ _ => bS_r) (fun _ _ _ => rfl))) rfl (f54) (l54))
set_option maxRecDepth 100000 in
set_option maxHeartbeats 4000000 in
theorem bi_q {f p o : Nat} {fs : List Nat} {h : xh_H} (rr0 : rr h T n mem nn NW p o fs) (h3 : tkk T n p = 3) (hq : a_rq a_tb h) : xq f xi_X10_beginItem xmi_X10_beginItem 0 [(0, .ref 39)] [] h (ou_Q h T n mem nn NW (bi T n mem nn NW p o fs)) := by
  have hT : ∀ k, k < n → T k < 256 := fun k hk' => (rr0.1.2.2 k hk').1
  have rt := rr0.2.1
  have rb := (rkk_k (T := T) (n := n) (p := p)).1
  have kb := tkk_lt (T := T) (n := n) (p := p) hT
  have o120 := rr0.2.2.2.2.2.2.1
  have f1 := rr0.2.2.2.2.2.2.2.2.1
  have n16 := rr0.2.2.2.2.1.2.1
  have f13 := rr0.2.2.2.2.2.2.2.2.2.1
  have n6 := rr0.1.2.1
  have t9 : tkn T n p ≤ 999 := vf_999
  have s6 := tks_le (T := T) (n := n) (p := p)
  refine xq_n 11 [0, 1, 2] [(0, .ref 39), (1, .int (xg 0 h.2.1 39 10)), (2, .int (xg 0 h.2.1 39 8))] [.ref 39] h [] 9 hq rfl trivial (fun hq => ?_)
  rw [show (xg 0 h.2.1 39 10) = (nI (tkn T n p)) from rt.2.2.2.1 (by omega)]
  rw [show (xg 0 h.2.1 39 8) = (nI (tks T n p)) from rt.1]
  have nz1 : tkk T n p ≠ 0 := by omega
  have le1 := tke_le nz1
  refine xq_run hq rfl rfl (go_q hq (rr0.1) (rt.2.2.2.2.2 (by omega)) le1) ?_
  rintro v1 h1 ⟨rfl, g1, t1⟩
  have hq := fx_q g1 hq
  have rb1 := (rkk_k (T := T) (n := n) (p := tke T n p)).1
  have kb1 := tkk_lt (T := T) (n := n) (p := tke T n p) hT
  refine xq_n 17 [0, 1, 2] [(0, .ref 39), (1, .int (nI (tkn T n p))), (2, .int (nI (tks T n p)))] [.int 42, .ref 39] h1 [] 4 hq rfl trivial (fun hq => ?_)
  refine xq_run hq rfl rfl (rsg_q (c := 42) (by decide) (by decide) hT (t1) hq) ?_
  rintro v2 h_v2 ⟨rfl, rfl⟩
  cases b3 : (decide (tkk T n (tke T n p) = 42)) with
  | true =>
    have db3 := of_decide_eq_true b3
    refine xq_n 34 [0, 1, 2] [(0, .ref 39), (1, .int (nI (tkn T n p))), (2, .int (nI (tks T n p)))] [.ref 39] (xh_ui h1 48 ((xg 0 h1.2.1 39 28).toNatClampNeg) (nI (tkn T n p))) [false] 10 hq rfl ⟨rfl, trivial⟩ (fun _ => ?_)
    rw [show (xg 0 h1.2.1 39 28) = (nI (fs.length - 1)) from (fx_i g1 rfl).trans (rr0.2.2.2.2.2.2.2.1)]
    rw [show ((nI (fs.length - 1)).toNatClampNeg) = (fs.length - 1) from nI_clamp (by omega)]
    have hq : a_rq a_tb (xh_ui h1 48 (fs.length - 1) (nI (tkn T n p))) := a_rq_ui hq
    have nz4 : tkk T n (tke T n p) ≠ 0 := by omega
    have le4 := tke_le nz4
    refine xq_run hq rfl rfl (go_q hq (rtp_f (S := rS) (L := gL) rr0.1 (fx_ui (fx_t (fx_0) (fx_w g1 (fun _ _ => gS_r) (fun _ _ z => z))) rfl) rfl (fun _ => rfl)) ((gx_o (by decide)).trans (t1.2.2.2.2.2 (by omega))) le4) ?_
    rintro v4 h4 ⟨rfl, g4, t4⟩
    have hq := fx_q g4 hq
    have rb4 := (rkk_k (T := T) (n := n) (p := tke T n (tke T n p))).1
    have kb4 := tkk_lt (T := T) (n := n) (p := tke T n (tke T n p)) hT
    refine xq_n 38 [0, 1, 2] [(0, .ref 39), (1, .int (nI (tkn T n p))), (2, .int (nI (tks T n p)))] [.ref 39] h4 [] 3 hq rfl trivial (fun hq => ?_)
    have er : bi T n mem nn NW p o fs = bo T n mem nn NW (tke T n (tke T n p)) o fs := by
      unfold bi
      repeat (first | rw [if_pos (by omega)] | rw [if_neg (by omega)] | rw [if_pos b3] | rw [if_neg (by rw [b3]; decide)])
      try rfl
    refine xq_run hq rfl rfl (bo_q ⟨rtp_f (S := rS) (L := gL) rr0.1 (fx_t (fx_ui (fx_t (fx_0) (fx_w g1 (fun _ _ => gS_r) (fun _ _ z => z))) rfl) (fx_w g4 (fun _ _ => gS_r) (fun _ _ z => z))) rfl (fun _ => rfl), t4, (fx_i g4 rfl).trans ((gx_o (by decide)).trans ((fx_i g1 rfl).trans (rr0.2.2.1))), rr0.2.2.2.1, nms_f (S := rS) (L := gL) rr0.2.2.2.2.1 (fx_t (fx_ui (fx_t (fx_0) (fx_w g1 (fun _ _ => gS_r) (fun _ _ z => z))) rfl) (fx_w g4 (fun _ _ => gS_r) (fun _ _ z => z))) rfl (fun _ => rfl), (fx_i g4 rfl).trans ((gx_o (by decide)).trans ((fx_i g1 rfl).trans (rr0.2.2.2.2.2.1))), by omega, (fx_i g4 rfl).trans ((gx_o (by decide)).trans ((fx_i g1 rfl).trans (rr0.2.2.2.2.2.2.2.1))), rr0.2.2.2.2.2.2.2.2.1, rr0.2.2.2.2.2.2.2.2.2.1, frs_c (fun k hk' => (fx_i g4 rfl).trans ((gx_o (by decide)).trans (fx_i g1 rfl))) rr0.2.2.2.2.2.2.2.2.2.2.1, (fx_i g4 rfl).trans ((gx_o (by decide)).trans ((fx_i g1 rfl).trans (rr0.2.2.2.2.2.2.2.2.2.2.2)))⟩ hq) ?_
    rintro v5 h5 ⟨g5, l5, q5⟩
    have hq := fx_q g5 hq
    rw [er]
    have hv5 : ∃ x, v5 = some (.int x) := by
      cases hr5 : (bo T n mem nn NW (tke T n (tke T n p)) o fs) with
      | inl s => obtain ⟨a1, a2, a3, a4⟩ := s; exact ⟨1, (l5 _ _ _ _ hr5).1⟩
      | inr e => obtain ⟨a1, a2⟩ := e; exact ⟨0, (q5 _ _ hr5).1⟩
    obtain ⟨x5, rfl⟩ := hv5
    exact xq_ret rfl rfl rfl ⟨fx_t (fx_t (fx_ui (fx_t (fx_0) (fx_w g1 (fun _ _ => gS_r) (fun _ _ z => z))) rfl) (fx_w g4 (fun _ _ => gS_r) (fun _ _ z => z))) (g5), l5, q5⟩
  | false =>
    have db3 := of_decide_eq_false b3
    refine xq_n 53 [0, 1, 2] [(0, .ref 39), (1, .int (nI (tkn T n p))), (2, .int (nI (tks T n p)))] [.ref 39] (xh_ui h1 48 ((xg 0 h1.2.1 39 28).toNatClampNeg) (Int32.ofInt 1)) [true] 10 hq rfl ⟨rfl, trivial⟩ (fun _ => ?_)
    rw [show (xg 0 h1.2.1 39 28) = (nI (fs.length - 1)) from (fx_i g1 rfl).trans (rr0.2.2.2.2.2.2.2.1)]
    rw [show ((nI (fs.length - 1)).toNatClampNeg) = (fs.length - 1) from nI_clamp (by omega)]
    have hq : a_rq a_tb (xh_ui h1 48 (fs.length - 1) (Int32.ofInt 1)) := a_rq_ui hq
    refine xq_run hq rfl rfl (rw4_q hT (rtk_ui (t1) rfl) hq) ?_
    rintro v6 h_v6 ⟨rfl, rfl⟩
    cases b7 : (ky T n (tke T n p) 4) with
    | true =>
      have db7 := of_decide_eq_true b7
      cases c8 : xe_c .ne (nI (tkn T n p)) 0 with
      | true =>
        have z8 : (tkn T n p) ≠ 0 := nq_net (a := (tkn T n p)) (b := 0) (by omega) (by omega) c8
        cases c9 : xe_c .ne (nI o) 120 with
        | true =>
          have z9 : o ≠ 120 := nq_net (a := o) (b := 120) (by omega) (by omega) c9
          refine xq_n 104 [0, 1, 2] [(0, .ref 39), (1, .int (nI (tkn T n p))), (2, .int (nI (tks T n p)))] [.int (nI (tkn T n p)), .ref 39] (xh_ui (xh_ui h1 48 (fs.length - 1) (Int32.ofInt 1)) 39 27 ((xg 0 (xh_ui h1 48 (fs.length - 1) (Int32.ofInt 1)).2.1 39 27) + (Int32.ofInt 1))) [true, true, true] 17 hq rfl ⟨rfl, c8, (show xe_c .ne (xg 0 (xh_ui h1 48 (fs.length - 1) (Int32.ofInt 1)).2.1 39 27) 120 = true by rw [show (xg 0 (xh_ui h1 48 (fs.length - 1) (Int32.ofInt 1)).2.1 39 27) = (nI o) from (gx_o (by decide)).trans ((fx_i g1 rfl).trans (rr0.2.2.2.2.2.1))]; exact c9), trivial⟩ (fun _ => ?_)
          rw [show (xg 0 (xh_ui h1 48 (fs.length - 1) (Int32.ofInt 1)).2.1 39 27) = (nI o) from (gx_o (by decide)).trans ((fx_i g1 rfl).trans (rr0.2.2.2.2.2.1))]
          rw [show ((nI o) + (Int32.ofInt 1)) = nI (o + 1) from nI_1 _]
          have hq : a_rq a_tb (xh_ui (xh_ui h1 48 (fs.length - 1) (Int32.ofInt 1)) 39 27 (nI (o + 1))) := a_rq_ui hq
          have er : bi T n mem nn NW p o fs = bls T n (tke T n p) (o + 1) fs := by
            unfold bi
            repeat (first | rw [if_pos (by omega)] | rw [if_neg (by omega)] | rw [if_pos b3] | rw [if_neg (by rw [b3]; decide)] | rw [if_pos b7] | rw [if_neg (by rw [b7]; decide)])
            try rfl
          refine xq_run hq rfl rfl (bls_q ⟨rtp_f (S := rS) (L := gL) rr0.1 (fx_ui (fx_ui (fx_t (fx_0) (fx_w g1 (fun _ _ => gS_r) (fun _ _ z => z))) rfl) rfl) rfl (fun _ => rfl), rtk_ui (rtk_ui (t1) rfl) rfl, (gx_k (by decide)).trans ((gx_o (by decide)).trans ((fx_i g1 rfl).trans (rr0.2.2.1))), rr0.2.2.2.1, nms_f (S := rS) (L := gL) rr0.2.2.2.2.1 (fx_ui (fx_ui (fx_t (fx_0) (fx_w g1 (fun _ _ => gS_r) (fun _ _ z => z))) rfl) rfl) rfl (fun _ => rfl), gx_s, by omega, (gx_k (by decide)).trans ((gx_o (by decide)).trans ((fx_i g1 rfl).trans (rr0.2.2.2.2.2.2.2.1))), rr0.2.2.2.2.2.2.2.2.1, rr0.2.2.2.2.2.2.2.2.2.1, frs_c (fun k hk' => (gx_o (by decide)).trans ((gx_o (by decide)).trans (fx_i g1 rfl))) rr0.2.2.2.2.2.2.2.2.2.2.1, (gx_k (by decide)).trans ((gx_o (by decide)).trans ((fx_i g1 rfl).trans (rr0.2.2.2.2.2.2.2.2.2.2.2)))⟩ hq) ?_
          rintro v10 h10 ⟨g10, l10, q10⟩
          have hq := fx_q g10 hq
          rw [er]
          have hv10 : ∃ x, v10 = some (.int x) := by
            cases hr10 : (bls T n (tke T n p) (o + 1) fs) with
            | inl s => obtain ⟨a1, a2, a3, a4⟩ := s; exact ⟨1, (l10 _ _ _ _ hr10).1⟩
            | inr e => obtain ⟨a1, a2⟩ := e; exact ⟨0, (q10 _ _ hr10).1⟩
          obtain ⟨x10, rfl⟩ := hv10
          exact xq_ret rfl rfl rfl ⟨fx_t (fx_ui (fx_ui (fx_t (fx_0) (fx_w g1 (fun _ _ => gS_r) (fun _ _ z => z))) rfl) rfl) (g10), l10, q10⟩
        | false =>
          have z9 : o = 120 := nq_nef (a := o) (b := 120) (by omega) (by omega) c9
          refine xq_n 88 [0, 1, 2] [(0, .ref 39), (1, .int (nI (tkn T n p))), (2, .int (nI (tks T n p)))] [.int (nI (tks T n p)), .int (Int32.ofInt 4), .ref 39] (xh_ui h1 48 (fs.length - 1) (Int32.ofInt 1)) [true, true, false] 12 hq rfl ⟨rfl, c8, (show xe_c .ne (xg 0 (xh_ui h1 48 (fs.length - 1) (Int32.ofInt 1)).2.1 39 27) 120 = false by rw [show (xg 0 (xh_ui h1 48 (fs.length - 1) (Int32.ofInt 1)).2.1 39 27) = (nI o) from (gx_o (by decide)).trans ((fx_i g1 rfl).trans (rr0.2.2.2.2.2.1))]; exact c9), trivial⟩ (fun hq => ?_)
          refine xq_run hq rfl rfl (badAt_q (k := 4) (pl := (tks T n p)) hq) ?_
          rintro v11 h11 ⟨rfl, g11, f11, l11⟩
          have hq := fx_q g11 hq
          have er : bi T n mem nn NW p o fs = .inr (4, tks T n p) := by
            unfold bi
            repeat (first | rw [if_pos (by omega)] | rw [if_neg (by omega)] | rw [if_pos b3] | rw [if_neg (by rw [b3]; decide)] | rw [if_pos b7] | rw [if_neg (by rw [b7]; decide)])
            try rfl
          exact xq_ret rfl rfl rfl (ou_r er (fx_t (fx_ui (fx_t (fx_0) (fx_w g1 (fun _ _ => gS_r) (fun _ _ z => z))) rfl) (fx_w g11 (fun _ _ => bS_r) (fun _ _ _ => rfl))) rfl (f11) (l11))
      | false =>
        have z8 : (tkn T n p) = 0 := nq_nef (a := (tkn T n p)) (b := 0) (by omega) (by omega) c8
        refine xq_n 72 [0, 1, 2] [(0, .ref 39), (1, .int (nI (tkn T n p))), (2, .int (nI (tks T n p)))] [.int (nI (tks T n p)), .int (Int32.ofInt 2), .ref 39] (xh_ui h1 48 (fs.length - 1) (Int32.ofInt 1)) [true, false] 8 hq rfl ⟨rfl, c8, trivial⟩ (fun hq => ?_)
        refine xq_run hq rfl rfl (badAt_q (k := 2) (pl := (tks T n p)) hq) ?_
        rintro v12 h12 ⟨rfl, g12, f12, l12⟩
        have hq := fx_q g12 hq
        have er : bi T n mem nn NW p o fs = .inr (2, tks T n p) := by
          unfold bi
          repeat (first | rw [if_pos (by omega)] | rw [if_neg (by omega)] | rw [if_pos b3] | rw [if_neg (by rw [b3]; decide)] | rw [if_pos b7] | rw [if_neg (by rw [b7]; decide)])
          try rfl
        exact xq_ret rfl rfl rfl (ou_r er (fx_t (fx_ui (fx_t (fx_0) (fx_w g1 (fun _ _ => gS_r) (fun _ _ z => z))) rfl) (fx_w g12 (fun _ _ => bS_r) (fun _ _ _ => rfl))) rfl (f12) (l12))
    | false =>
      have db7 := of_decide_eq_false b7
      refine xq_n 61 [0, 1, 2] [(0, .ref 39), (1, .int (nI (tkn T n p))), (2, .int (nI (tks T n p)))] [.int (Int32.ofInt 1), .ref 39] (xh_ui h1 48 (fs.length - 1) (Int32.ofInt 1)) [false] 5 hq rfl ⟨rfl, trivial⟩ (fun hq => ?_)
      refine xq_run hq rfl rfl (bad_q (k := 1) hT (rtk_ui (t1) rfl) hq) ?_
      rintro v13 h13 ⟨rfl, g13, f13, l13⟩
      have hq := fx_q g13 hq
      rw [show (if rkk T n (tke T n p) = 1 then 1 else 1) = 1 by split <;> rfl] at f13
      have er : bi T n mem nn NW p o fs = .inr (1, tks T n (tke T n p)) := by
        unfold bi
        repeat (first | rw [if_pos (by omega)] | rw [if_neg (by omega)] | rw [if_pos b3] | rw [if_neg (by rw [b3]; decide)] | rw [if_pos b7] | rw [if_neg (by rw [b7]; decide)])
        try rfl
      exact xq_ret rfl rfl rfl (ou_r er (fx_t (fx_ui (fx_t (fx_0) (fx_w g1 (fun _ _ => gS_r) (fun _ _ z => z))) rfl) (fx_w g13 (fun _ _ => bS_r) (fun _ _ _ => rfl))) rfl (f13) (l13))
set_option maxRecDepth 100000 in
set_option maxHeartbeats 4000000 in
theorem bg_q {f p o ty : Nat} {fs : List Nat} {h : xh_H} (rr0 : rr h T n mem nn NW p o fs) (hty : fs.head? = some ty) (e47 : xg 0 h.2.1 47 (fs.length - 1) = nI ty) (ty2 : ty ≤ 2) (hq : a_rq a_tb h) : xq f xi_X10_begin xmi_X10_begin 0 [(0, .ref 39)] [] h (ou_Q h T n mem nn NW (bg T n mem nn NW p o fs)) := by
  have hT : ∀ k, k < n → T k < 256 := fun k hk' => (rr0.1.2.2 k hk').1
  have rt := rr0.2.1
  have rb := (rkk_k (T := T) (n := n) (p := p)).1
  have kb := tkk_lt (T := T) (n := n) (p := p) hT
  have o120 := rr0.2.2.2.2.2.2.1
  have f1 := rr0.2.2.2.2.2.2.2.2.1
  have n16 := rr0.2.2.2.2.1.2.1
  have f13 := rr0.2.2.2.2.2.2.2.2.2.1
  have n6 := rr0.1.2.1
  have hh : fs.head? = some 2 ↔ ty = 2 := by rw [hty]; exact ⟨fun e => Option.some.inj e, fun e => by rw [e]⟩
  cases c1 : xe_c .ne (nI ty) (Int32.ofInt 2) with
  | true =>
    have z1 : ty ≠ 2 := nq_net (a := ty) (b := 2) (by omega) (by omega) c1
    refine xq_n 27 [0] [(0, .ref 39)] [.ref 39] h [true] 10 hq rfl ⟨(show xe_c .ne (xg 0 h.2.1 47 ((xg 0 h.2.1 39 28).toNatClampNeg)) (Int32.ofInt 2) = true by rw [show (xg 0 h.2.1 47 ((xg 0 h.2.1 39 28).toNatClampNeg)) = (nI ty) from (by rw [show (xg 0 h.2.1 39 28) = (nI (fs.length - 1)) from rr0.2.2.2.2.2.2.2.1, show ((nI (fs.length - 1)).toNatClampNeg) = (fs.length - 1) from nI_clamp (by omega)]; exact e47)]; exact c1), trivial⟩ (fun hq => ?_)
    have er : bg T n mem nn NW p o fs = bo T n mem nn NW p o fs := by
      unfold bg
      first | rw [if_pos ⟨hh.mpr (by omega), by omega⟩] | rw [if_neg (by rintro ⟨e1, e2⟩; have := hh.mp e1; omega)]
    refine xq_run hq rfl rfl (bo_q rr0 hq) ?_
    rintro v2 h2 ⟨g2, l2, q2⟩
    have hq := fx_q g2 hq
    rw [er]
    have hv2 : ∃ x, v2 = some (.int x) := by
      cases hr2 : (bo T n mem nn NW p o fs) with
      | inl s => obtain ⟨a1, a2, a3, a4⟩ := s; exact ⟨1, (l2 _ _ _ _ hr2).1⟩
      | inr e => obtain ⟨a1, a2⟩ := e; exact ⟨0, (q2 _ _ hr2).1⟩
    obtain ⟨x2, rfl⟩ := hv2
    exact xq_ret rfl rfl rfl ⟨fx_t (fx_0) (g2), l2, q2⟩
  | false =>
    have z1 : ty = 2 := nq_nef (a := ty) (b := 2) (by omega) (by omega) c1
    cases c3 : xe_c .ne (nI (rkk T n p)) (Int32.ofInt 3) with
    | true =>
      have z3 : (rkk T n p) ≠ 3 := nq_net (a := (rkk T n p)) (b := 3) (by omega) (by omega) c3
      have yc3 := mt (rk3 (T := T) (n := n) (p := p)).mpr z3
      refine xq_n 27 [0] [(0, .ref 39)] [.ref 39] h [false, true] 14 hq rfl ⟨(show xe_c .ne (xg 0 h.2.1 47 ((xg 0 h.2.1 39 28).toNatClampNeg)) (Int32.ofInt 2) = false by rw [show (xg 0 h.2.1 47 ((xg 0 h.2.1 39 28).toNatClampNeg)) = (nI ty) from (by rw [show (xg 0 h.2.1 39 28) = (nI (fs.length - 1)) from rr0.2.2.2.2.2.2.2.1, show ((nI (fs.length - 1)).toNatClampNeg) = (fs.length - 1) from nI_clamp (by omega)]; exact e47)]; exact c1), (show xe_c .ne (xg 0 h.2.1 39 9) (Int32.ofInt 3) = true by rw [show (xg 0 h.2.1 39 9) = (nI (rkk T n p)) from rt.2.1]; exact c3), trivial⟩ (fun hq => ?_)
      have er : bg T n mem nn NW p o fs = bo T n mem nn NW p o fs := by
        unfold bg
        first | rw [if_pos ⟨hh.mpr (by omega), by omega⟩] | rw [if_neg (by rintro ⟨e1, e2⟩; have := hh.mp e1; omega)]
      refine xq_run hq rfl rfl (bo_q rr0 hq) ?_
      rintro v4 h4 ⟨g4, l4, q4⟩
      have hq := fx_q g4 hq
      rw [er]
      have hv4 : ∃ x, v4 = some (.int x) := by
        cases hr4 : (bo T n mem nn NW p o fs) with
        | inl s => obtain ⟨a1, a2, a3, a4⟩ := s; exact ⟨1, (l4 _ _ _ _ hr4).1⟩
        | inr e => obtain ⟨a1, a2⟩ := e; exact ⟨0, (q4 _ _ hr4).1⟩
      obtain ⟨x4, rfl⟩ := hv4
      exact xq_ret rfl rfl rfl ⟨fx_t (fx_0) (g4), l4, q4⟩
    | false =>
      have z3 : (rkk T n p) = 3 := nq_nef (a := (rkk T n p)) (b := 3) (by omega) (by omega) c3
      have yc3 := (rk3 (T := T) (n := n) (p := p)).mp z3
      refine xq_n 22 [0] [(0, .ref 39)] [.ref 39] h [false, false] 14 hq rfl ⟨(show xe_c .ne (xg 0 h.2.1 47 ((xg 0 h.2.1 39 28).toNatClampNeg)) (Int32.ofInt 2) = false by rw [show (xg 0 h.2.1 47 ((xg 0 h.2.1 39 28).toNatClampNeg)) = (nI ty) from (by rw [show (xg 0 h.2.1 39 28) = (nI (fs.length - 1)) from rr0.2.2.2.2.2.2.2.1, show ((nI (fs.length - 1)).toNatClampNeg) = (fs.length - 1) from nI_clamp (by omega)]; exact e47)]; exact c1), (show xe_c .ne (xg 0 h.2.1 39 9) (Int32.ofInt 3) = false by rw [show (xg 0 h.2.1 39 9) = (nI (rkk T n p)) from rt.2.1]; exact c3), trivial⟩ (fun hq => ?_)
      have er : bg T n mem nn NW p o fs = bi T n mem nn NW p o fs := by
        unfold bg
        first | rw [if_pos ⟨hh.mpr (by omega), by omega⟩] | rw [if_neg (by rintro ⟨e1, e2⟩; have := hh.mp e1; omega)]
      refine xq_run hq rfl rfl (bi_q rr0 (by omega) hq) ?_
      rintro v5 h5 ⟨g5, l5, q5⟩
      have hq := fx_q g5 hq
      rw [er]
      have hv5 : ∃ x, v5 = some (.int x) := by
        cases hr5 : (bi T n mem nn NW p o fs) with
        | inl s => obtain ⟨a1, a2, a3, a4⟩ := s; exact ⟨1, (l5 _ _ _ _ hr5).1⟩
        | inr e => obtain ⟨a1, a2⟩ := e; exact ⟨0, (q5 _ _ hr5).1⟩
      obtain ⟨x5, rfl⟩ := hv5
      exact xq_ret rfl rfl rfl ⟨fx_t (fx_0) (g5), l5, q5⟩
end XRG
end
