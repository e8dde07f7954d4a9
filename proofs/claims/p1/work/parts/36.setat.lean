section XSA
theorem nI_dec (m : Nat) : nI (m + 1) + Int32.ofInt (-1) = nI m := by
  have e : Int32.ofInt (-1) = -1 := by decide
  rw [e, ← Int32.sub_eq_add_neg]
  exact nI_pred m
theorem nI_ge3 {x : Int32} {k : Nat} (h : (k : Int) ≤ x.toInt) : ∃ m : Nat, m + k < 2 ^ 31 ∧ x = nI (m + k) := by
  obtain ⟨j, hj, rfl⟩ := nI_of (x := x) (by rw [Int32.lt_iff_toInt_lt]; simp; omega)
  rw [nI_toInt hj] at h
  exact ⟨j - k, by omega, by rw [show j - k + k = j by omega]⟩
set_option maxRecDepth 100000 in
theorem sz_0 : xx_b (xe_x xM xC none 300 10 xi_X10_sizeOf xmi_X10_sizeOf (0, lv_args 0 [.int 0], [], xf_pl, 0, 0)) (some (.int 0), xf_pl, 0, 0) = true := by decide +kernel
set_option maxRecDepth 100000 in
theorem sz_1 : xx_b (xe_x xM xC none 300 10 xi_X10_sizeOf xmi_X10_sizeOf (0, lv_args 0 [.int 1], [], xf_pl, 0, 0)) (some (.int 1), xf_pl, 0, 0) = true := by decide +kernel
set_option maxRecDepth 100000 in
theorem sz_2 : xx_b (xe_x xM xC none 300 10 xi_X10_sizeOf xmi_X10_sizeOf (0, lv_args 0 [.int 2], [], xf_pl, 0, 0)) (some (.int 1), xf_pl, 0, 0) = true := by decide +kernel
set_option maxRecDepth 100000 in
theorem sz_3 : xx_b (xe_x xM xC none 300 10 xi_X10_sizeOf xmi_X10_sizeOf (0, lv_args 0 [.int 3], [], xf_pl, 0, 0)) (some (.int 2), xf_pl, 0, 0) = true := by decide +kernel
set_option maxRecDepth 100000 in
theorem sz_4 : xx_b (xe_x xM xC none 300 10 xi_X10_sizeOf xmi_X10_sizeOf (0, lv_args 0 [.int 4], [], xf_pl, 0, 0)) (some (.int 1), xf_pl, 0, 0) = true := by decide +kernel
set_option maxRecDepth 100000 in
theorem sz_5 : xx_b (xe_x xM xC none 300 10 xi_X10_sizeOf xmi_X10_sizeOf (0, lv_args 0 [.int 5], [], xf_pl, 0, 0)) (some (.int 2), xf_pl, 0, 0) = true := by decide +kernel
set_option maxRecDepth 100000 in
theorem sz_6 : xx_b (xe_x xM xC none 300 10 xi_X10_sizeOf xmi_X10_sizeOf (0, lv_args 0 [.int 6], [], xf_pl, 0, 0)) (some (.int 2), xf_pl, 0, 0) = true := by decide +kernel
set_option maxRecDepth 100000 in
theorem sz_7 : xx_b (xe_x xM xC none 300 10 xi_X10_sizeOf xmi_X10_sizeOf (0, lv_args 0 [.int 7], [], xf_pl, 0, 0)) (some (.int 3), xf_pl, 0, 0) = true := by decide +kernel
set_option maxRecDepth 100000 in
theorem kd_0_1 : xx_b (xe_x xM xC none 400 10 xi_X10_isOfKind xmi_X10_isOfKind (0, lv_args 0 [.ref 39, .int 0, .int 1], [], xf_pl, 0, 0)) (some (.int 0), xf_pl, 0, 0) = true := by decide +kernel
set_option maxRecDepth 100000 in
theorem kd_1_1 : xx_b (xe_x xM xC none 400 10 xi_X10_isOfKind xmi_X10_isOfKind (0, lv_args 0 [.ref 39, .int 1, .int 1], [], xf_pl, 0, 0)) (some (.int 0), xf_pl, 0, 0) = true := by decide +kernel
set_option maxRecDepth 100000 in
theorem kd_2_1 : xx_b (xe_x xM xC none 400 10 xi_X10_isOfKind xmi_X10_isOfKind (0, lv_args 0 [.ref 39, .int 2, .int 1], [], xf_pl, 0, 0)) (some (.int 0), xf_pl, 0, 0) = true := by decide +kernel
set_option maxRecDepth 100000 in
theorem kd_3_1 : xx_b (xe_x xM xC none 400 10 xi_X10_isOfKind xmi_X10_isOfKind (0, lv_args 0 [.ref 39, .int 3, .int 1], [], xf_pl, 0, 0)) (some (.int 0), xf_pl, 0, 0) = true := by decide +kernel
set_option maxRecDepth 100000 in
theorem kd_4_1 : xx_b (xe_x xM xC none 400 10 xi_X10_isOfKind xmi_X10_isOfKind (0, lv_args 0 [.ref 39, .int 4, .int 1], [], xf_pl, 0, 0)) (some (.int 0), xf_pl, 0, 0) = true := by decide +kernel
set_option maxRecDepth 100000 in
theorem kd_5_1 : xx_b (xe_x xM xC none 400 10 xi_X10_isOfKind xmi_X10_isOfKind (0, lv_args 0 [.ref 39, .int 5, .int 1], [], xf_pl, 0, 0)) (some (.int 0), xf_pl, 0, 0) = true := by decide +kernel
set_option maxRecDepth 100000 in
theorem kd_6_1 : xx_b (xe_x xM xC none 400 10 xi_X10_isOfKind xmi_X10_isOfKind (0, lv_args 0 [.ref 39, .int 6, .int 1], [], xf_pl, 0, 0)) (some (.int 0), xf_pl, 0, 0) = true := by decide +kernel
set_option maxRecDepth 100000 in
theorem kd_7_1 : xx_b (xe_x xM xC none 400 10 xi_X10_isOfKind xmi_X10_isOfKind (0, lv_args 0 [.ref 39, .int 7, .int 1], [], xf_pl, 0, 0)) (some (.int 1), xf_pl, 0, 0) = true := by decide +kernel
set_option maxRecDepth 100000 in
theorem kd_0_2 : xx_b (xe_x xM xC none 400 10 xi_X10_isOfKind xmi_X10_isOfKind (0, lv_args 0 [.ref 39, .int 0, .int 2], [], xf_pl, 0, 0)) (some (.int 0), xf_pl, 0, 0) = true := by decide +kernel
set_option maxRecDepth 100000 in
theorem kd_1_2 : xx_b (xe_x xM xC none 400 10 xi_X10_isOfKind xmi_X10_isOfKind (0, lv_args 0 [.ref 39, .int 1, .int 2], [], xf_pl, 0, 0)) (some (.int 1), xf_pl, 0, 0) = true := by decide +kernel
set_option maxRecDepth 100000 in
theorem kd_2_2 : xx_b (xe_x xM xC none 400 10 xi_X10_isOfKind xmi_X10_isOfKind (0, lv_args 0 [.ref 39, .int 2, .int 2], [], xf_pl, 0, 0)) (some (.int 1), xf_pl, 0, 0) = true := by decide +kernel
set_option maxRecDepth 100000 in
theorem kd_3_2 : xx_b (xe_x xM xC none 400 10 xi_X10_isOfKind xmi_X10_isOfKind (0, lv_args 0 [.ref 39, .int 3, .int 2], [], xf_pl, 0, 0)) (some (.int 0), xf_pl, 0, 0) = true := by decide +kernel
set_option maxRecDepth 100000 in
theorem kd_4_2 : xx_b (xe_x xM xC none 400 10 xi_X10_isOfKind xmi_X10_isOfKind (0, lv_args 0 [.ref 39, .int 4, .int 2], [], xf_pl, 0, 0)) (some (.int 1), xf_pl, 0, 0) = true := by decide +kernel
set_option maxRecDepth 100000 in
theorem kd_5_2 : xx_b (xe_x xM xC none 400 10 xi_X10_isOfKind xmi_X10_isOfKind (0, lv_args 0 [.ref 39, .int 5, .int 2], [], xf_pl, 0, 0)) (some (.int 0), xf_pl, 0, 0) = true := by decide +kernel
set_option maxRecDepth 100000 in
theorem kd_6_2 : xx_b (xe_x xM xC none 400 10 xi_X10_isOfKind xmi_X10_isOfKind (0, lv_args 0 [.ref 39, .int 6, .int 2], [], xf_pl, 0, 0)) (some (.int 0), xf_pl, 0, 0) = true := by decide +kernel
set_option maxRecDepth 100000 in
theorem kd_7_2 : xx_b (xe_x xM xC none 400 10 xi_X10_isOfKind xmi_X10_isOfKind (0, lv_args 0 [.ref 39, .int 7, .int 2], [], xf_pl, 0, 0)) (some (.int 0), xf_pl, 0, 0) = true := by decide +kernel
set_option maxRecDepth 100000 in
theorem e_p0 : xh_eq (xh_ui xf_p 39 0 (Int32.ofInt 0)) xf_p = true := by decide +kernel
set_option maxRecDepth 100000 in
set_option maxHeartbeats 8000000 in
theorem op_8 (xs : Nat → Int32) : lw_C 416 xs := by
  by_cases h1 : (xs 1).toInt < 1
  · exact ⟨_, _, _, by decide, by decide, lw_8 xs (v := (-1)) (h1 := xf_p) (c1 := 0) (s1 := 0) (c2 := 0) (s2 := 0) (by
        refine xR_u (stop := 1) 20 11 _ _ rfl ?_
        refine xR_call rfl rfl rfl rfl ⟨9000, xx_b_ok cl_p⟩ ?_
        refine xR_u (stop := 6) 20 11 _ _ rfl ?_
        refine xR_swo (x := xs 1) 108 rfl (Or.inl h1) (by decide) ?_
        exact ⟨20, rfl⟩) (by rfl) (by
        refine xR_u (stop := 8) 20 11 _ _ rfl ?_
        apply xR_call (d := 10) rfl rfl rfl rfl
        · refine xR_u (stop := 2) 3000 10 _ _ rfl ?_
          refine xR_ic (x := xs 1) (y := (1 : Int32)) rfl (fun _ => ?_) (fun z => absurd (xz_lt0 (b := 1) (by decide) z) (by omega))
          exact ⟨3000, rfl⟩
        exact ⟨20, rfl⟩)⟩
  · by_cases h2 : (xs 1).toInt < 5
    · obtain ⟨j, hj, hx⟩ := vp_in_of (x := xs 1) (n := 5) (vp_in_iff.mpr ⟨by omega, by omega⟩) (by decide)
      match j, hj, hx with
      | 0, _, hx =>
        have hx : xs 1 = 0 := hx
        rw [hx] at h1; exact absurd (by decide) h1
      | 1, _, hx =>
        have hx : xs 1 = 1 := hx
        by_cases h3 : (xs 2).toInt < 0
        · exact ⟨_, _, _, by decide, by decide, lw_8 xs (v := (-1)) (h1 := xf_p) (c1 := 0) (s1 := 0) (c2 := 0) (s2 := 0) (by
              rw [hx]
              refine xR_u (stop := 1) 20 11 _ _ rfl ?_
              refine xR_call rfl rfl rfl rfl ⟨9000, xx_b_ok cl_p⟩ ?_
              refine xR_u (stop := 37) 60 11 _ _ rfl ?_
              refine xR_if (x := xs 2) rfl (fun _ => ?_) (fun z => absurd (xz_lt0 (b := 0) (by decide) z) (by omega))
              exact ⟨20, rfl⟩) (by rfl) (by
              rw [hx]
              refine xR_u (stop := 15) 60 11 _ _ rfl ?_
              refine xR_if (x := xs 2) rfl (fun z => absurd (xz_ge1 (b := 0) (by decide) z) (by omega)) (fun _ => ?_)
              exact ⟨20, rfl⟩)⟩
        · by_cases h4 : (xs 2).toInt < 3
          · obtain ⟨k, hk, hy⟩ := vp_in_of (x := xs 2) (n := 3) (vp_in_iff.mpr ⟨by omega, by omega⟩) (by decide)
            match k, hk, hy with
            | 0, _, hy =>
              have hy : xs 2 = 0 := hy
              exact ⟨_, _, _, by decide, by decide, lw_8 xs (v := (7)) (c1 := 0) (s1 := 0) (c2 := 0) (s2 := 0) (by
                  rw [hx]; rw [hy]
                  refine xR_u (stop := 1) 300 11 _ _ rfl ?_
                  refine xR_call rfl rfl rfl rfl ⟨9000, xx_b_ok cl_p⟩ ?_
                  exact xR_cl (f := 3000) (by decide +kernel)) (by decide +kernel) (by
                  rw [hx]; rw [hy]
                  exact xR_cl (f := 9000) (by decide +kernel))⟩
            | 1, _, hy =>
              have hy : xs 2 = 1 := hy
              exact ⟨_, _, _, by decide, by decide, lw_8 xs (v := (-1)) (c1 := 0) (s1 := 0) (c2 := 0) (s2 := 0) (by
                  rw [hx]; rw [hy]
                  refine xR_u (stop := 1) 300 11 _ _ rfl ?_
                  refine xR_call rfl rfl rfl rfl ⟨9000, xx_b_ok cl_p⟩ ?_
                  exact xR_cl (f := 3000) (by decide +kernel)) (by decide +kernel) (by
                  rw [hx]; rw [hy]
                  exact xR_cl (f := 9000) (by decide +kernel))⟩
            | 2, _, hy =>
              have hy : xs 2 = 2 := hy
              exact ⟨_, _, _, by decide, by decide, lw_8 xs (v := (-1)) (c1 := 0) (s1 := 0) (c2 := 0) (s2 := 0) (by
                  rw [hx]; rw [hy]
                  refine xR_u (stop := 1) 300 11 _ _ rfl ?_
                  refine xR_call rfl rfl rfl rfl ⟨9000, xx_b_ok cl_p⟩ ?_
                  exact xR_cl (f := 3000) (by decide +kernel)) (by decide +kernel) (by
                  rw [hx]; rw [hy]
                  exact xR_cl (f := 9000) (by decide +kernel))⟩
            | k + 3, hk, _ => omega
          · exact ⟨_, _, _, by decide, by decide, lw_8 xs (v := (-1)) (h1 := xf_p) (c1 := 0) (s1 := 0) (c2 := 0) (s2 := 0) (by
                rw [hx]
                refine xR_u (stop := 1) 20 11 _ _ rfl ?_
                refine xR_call rfl rfl rfl rfl ⟨9000, xx_b_ok cl_p⟩ ?_
                refine xR_u (stop := 37) 60 11 _ _ rfl ?_
                refine xR_if (x := xs 2) rfl (fun z => absurd (xz_lt1 (b := 0) (by decide) z) (by omega)) (fun _ => ?_)
                refine xR_u (stop := 45) 60 11 _ _ rfl ?_
                refine xR_ic (x := xs 2) (y := 1) rfl (fun _ => ?_) (fun z => absurd (xz_ge0 (b := 1) (by decide) z) (by omega))
                exact ⟨20, rfl⟩) (by rfl) (by
                rw [hx]
                refine xR_u (stop := 15) 60 11 _ _ rfl ?_
                refine xR_if (x := xs 2) rfl (fun _ => ?_) (fun z => absurd (xz_ge0 (b := 0) (by decide) z) (by omega))
                refine xR_u (stop := 21) 20 11 _ _ rfl ?_
                change xR none 11 xi_X10_setAt xmi_X10_setAt (21, _, _, xh_ui xf_p 39 0 (Int32.ofInt 0), 0, 0) _
                rw [xh_eq_ok e_p0]
                refine xR_call rfl rfl rfl rfl ⟨900, xx_b_ok cl_pl⟩ ?_
                obtain ⟨m, hm, hk⟩ := nI_ge3 (x := xs 2) (k := 3) (by omega)
                rw [hk]
                refine xR_u (stop := 52) 20 11 _ _ rfl ?_
                refine xR_u (stop := 57) 20 11 _ _ rfl ?_
                change xR none 11 xi_X10_setAt xmi_X10_setAt (57, [(4, .int 0), (3, .int (nI (m + 3))), (0, .ref 39), (1, .int 1), (2, .int (nI (m + 3)))], [], xf_pl, 0, 0) _
                refine xR_u (stop := 69) 20 11 _ _ rfl ?_
                change xR none 11 xi_X10_setAt xmi_X10_setAt (69, [(5, .int 0), (4, .int 0), (3, .int (nI (m + 3))), (0, .ref 39), (1, .int 1), (2, .int (nI (m + 3)))], [], xf_pl, 0, 0) _
                refine xR_u (stop := 80) 20 11 _ _ rfl ?_
                refine xR_call rfl rfl rfl rfl ⟨300, xx_b_ok sz_0⟩ ?_
                refine xR_u (stop := 92) 20 11 _ _ rfl ?_
                refine xR_call rfl rfl rfl rfl ⟨400, xx_b_ok kd_0_1⟩ ?_
                refine xR_u (stop := 69) 20 11 _ _ rfl ?_
                change xR none 11 xi_X10_setAt xmi_X10_setAt (69, [(5, .int 1), (4, .int 0), (3, .int (nI (m + 3))), (0, .ref 39), (1, .int 1), (2, .int (nI (m + 3)))], [], xf_pl, 0, 0) _
                refine xR_u (stop := 80) 20 11 _ _ rfl ?_
                refine xR_call rfl rfl rfl rfl ⟨300, xx_b_ok sz_1⟩ ?_
                refine xR_u (stop := 69) 20 11 _ _ rfl ?_
                change xR none 11 xi_X10_setAt xmi_X10_setAt (69, [(5, .int 2), (4, .int 0), (3, .int (nI (m + 3))), (0, .ref 39), (1, .int 1), (2, .int (nI (m + 3)))], [], xf_pl, 0, 0) _
                refine xR_u (stop := 80) 20 11 _ _ rfl ?_
                refine xR_call rfl rfl rfl rfl ⟨300, xx_b_ok sz_2⟩ ?_
                refine xR_u (stop := 69) 20 11 _ _ rfl ?_
                change xR none 11 xi_X10_setAt xmi_X10_setAt (69, [(5, .int 3), (4, .int 0), (3, .int (nI (m + 3))), (0, .ref 39), (1, .int 1), (2, .int (nI (m + 3)))], [], xf_pl, 0, 0) _
                refine xR_u (stop := 80) 20 11 _ _ rfl ?_
                refine xR_call rfl rfl rfl rfl ⟨300, xx_b_ok sz_3⟩ ?_
                refine xR_u (stop := 69) 20 11 _ _ rfl ?_
                change xR none 11 xi_X10_setAt xmi_X10_setAt (69, [(5, .int 4), (4, .int 0), (3, .int (nI (m + 3))), (0, .ref 39), (1, .int 1), (2, .int (nI (m + 3)))], [], xf_pl, 0, 0) _
                refine xR_u (stop := 80) 20 11 _ _ rfl ?_
                refine xR_call rfl rfl rfl rfl ⟨300, xx_b_ok sz_4⟩ ?_
                refine xR_u (stop := 69) 20 11 _ _ rfl ?_
                change xR none 11 xi_X10_setAt xmi_X10_setAt (69, [(5, .int 5), (4, .int 0), (3, .int (nI (m + 3))), (0, .ref 39), (1, .int 1), (2, .int (nI (m + 3)))], [], xf_pl, 0, 0) _
                refine xR_u (stop := 80) 20 11 _ _ rfl ?_
                refine xR_call rfl rfl rfl rfl ⟨300, xx_b_ok sz_5⟩ ?_
                refine xR_u (stop := 69) 20 11 _ _ rfl ?_
                change xR none 11 xi_X10_setAt xmi_X10_setAt (69, [(5, .int 6), (4, .int 0), (3, .int (nI (m + 3))), (0, .ref 39), (1, .int 1), (2, .int (nI (m + 3)))], [], xf_pl, 0, 0) _
                refine xR_u (stop := 80) 20 11 _ _ rfl ?_
                refine xR_call rfl rfl rfl rfl ⟨300, xx_b_ok sz_6⟩ ?_
                refine xR_u (stop := 69) 20 11 _ _ rfl ?_
                change xR none 11 xi_X10_setAt xmi_X10_setAt (69, [(5, .int 7), (4, .int 0), (3, .int (nI (m + 3))), (0, .ref 39), (1, .int 1), (2, .int (nI (m + 3)))], [], xf_pl, 0, 0) _
                refine xR_u (stop := 80) 20 11 _ _ rfl ?_
                refine xR_call rfl rfl rfl rfl ⟨300, xx_b_ok sz_7⟩ ?_
                refine xR_u (stop := 69) 20 11 _ _ rfl ?_
                change xR none 11 xi_X10_setAt xmi_X10_setAt (69, [(5, .int 8), (4, .int 0), (3, .int (nI (m + 3))), (0, .ref 39), (1, .int 1), (2, .int (nI (m + 3)))], [], xf_pl, 0, 0) _
                refine xR_u (stop := 57) 20 11 _ _ rfl ?_
                change xR none 11 xi_X10_setAt xmi_X10_setAt (57, [(4, .int 1), (5, .int 8), (3, .int (nI (m + 3))), (0, .ref 39), (1, .int 1), (2, .int (nI (m + 3)))], [], xf_pl, 0, 0) _
                refine xR_u (stop := 69) 20 11 _ _ rfl ?_
                change xR none 11 xi_X10_setAt xmi_X10_setAt (69, [(5, .int 0), (4, .int 1), (3, .int (nI (m + 3))), (0, .ref 39), (1, .int 1), (2, .int (nI (m + 3)))], [], xf_pl, 0, 0) _
                refine xR_u (stop := 80) 20 11 _ _ rfl ?_
                refine xR_call rfl rfl rfl rfl ⟨300, xx_b_ok sz_0⟩ ?_
                refine xR_u (stop := 69) 20 11 _ _ rfl ?_
                change xR none 11 xi_X10_setAt xmi_X10_setAt (69, [(5, .int 1), (4, .int 1), (3, .int (nI (m + 3))), (0, .ref 39), (1, .int 1), (2, .int (nI (m + 3)))], [], xf_pl, 0, 0) _
                refine xR_u (stop := 80) 20 11 _ _ rfl ?_
                refine xR_call rfl rfl rfl rfl ⟨300, xx_b_ok sz_1⟩ ?_
                refine xR_u (stop := 92) 20 11 _ _ rfl ?_
                refine xR_call rfl rfl rfl rfl ⟨400, xx_b_ok kd_1_1⟩ ?_
                refine xR_u (stop := 69) 20 11 _ _ rfl ?_
                change xR none 11 xi_X10_setAt xmi_X10_setAt (69, [(5, .int 2), (4, .int 1), (3, .int (nI (m + 3))), (0, .ref 39), (1, .int 1), (2, .int (nI (m + 3)))], [], xf_pl, 0, 0) _
                refine xR_u (stop := 80) 20 11 _ _ rfl ?_
                refine xR_call rfl rfl rfl rfl ⟨300, xx_b_ok sz_2⟩ ?_
                refine xR_u (stop := 92) 20 11 _ _ rfl ?_
                refine xR_call rfl rfl rfl rfl ⟨400, xx_b_ok kd_2_1⟩ ?_
                refine xR_u (stop := 69) 20 11 _ _ rfl ?_
                change xR none 11 xi_X10_setAt xmi_X10_setAt (69, [(5, .int 3), (4, .int 1), (3, .int (nI (m + 3))), (0, .ref 39), (1, .int 1), (2, .int (nI (m + 3)))], [], xf_pl, 0, 0) _
                refine xR_u (stop := 80) 20 11 _ _ rfl ?_
                refine xR_call rfl rfl rfl rfl ⟨300, xx_b_ok sz_3⟩ ?_
                refine xR_u (stop := 69) 20 11 _ _ rfl ?_
                change xR none 11 xi_X10_setAt xmi_X10_setAt (69, [(5, .int 4), (4, .int 1), (3, .int (nI (m + 3))), (0, .ref 39), (1, .int 1), (2, .int (nI (m + 3)))], [], xf_pl, 0, 0) _
                refine xR_u (stop := 80) 20 11 _ _ rfl ?_
                refine xR_call rfl rfl rfl rfl ⟨300, xx_b_ok sz_4⟩ ?_
                refine xR_u (stop := 92) 20 11 _ _ rfl ?_
                refine xR_call rfl rfl rfl rfl ⟨400, xx_b_ok kd_4_1⟩ ?_
                refine xR_u (stop := 69) 20 11 _ _ rfl ?_
                change xR none 11 xi_X10_setAt xmi_X10_setAt (69, [(5, .int 5), (4, .int 1), (3, .int (nI (m + 3))), (0, .ref 39), (1, .int 1), (2, .int (nI (m + 3)))], [], xf_pl, 0, 0) _
                refine xR_u (stop := 80) 20 11 _ _ rfl ?_
                refine xR_call rfl rfl rfl rfl ⟨300, xx_b_ok sz_5⟩ ?_
                refine xR_u (stop := 69) 20 11 _ _ rfl ?_
                change xR none 11 xi_X10_setAt xmi_X10_setAt (69, [(5, .int 6), (4, .int 1), (3, .int (nI (m + 3))), (0, .ref 39), (1, .int 1), (2, .int (nI (m + 3)))], [], xf_pl, 0, 0) _
                refine xR_u (stop := 80) 20 11 _ _ rfl ?_
                refine xR_call rfl rfl rfl rfl ⟨300, xx_b_ok sz_6⟩ ?_
                refine xR_u (stop := 69) 20 11 _ _ rfl ?_
                change xR none 11 xi_X10_setAt xmi_X10_setAt (69, [(5, .int 7), (4, .int 1), (3, .int (nI (m + 3))), (0, .ref 39), (1, .int 1), (2, .int (nI (m + 3)))], [], xf_pl, 0, 0) _
                refine xR_u (stop := 80) 20 11 _ _ rfl ?_
                refine xR_call rfl rfl rfl rfl ⟨300, xx_b_ok sz_7⟩ ?_
                refine xR_u (stop := 69) 20 11 _ _ rfl ?_
                change xR none 11 xi_X10_setAt xmi_X10_setAt (69, [(5, .int 8), (4, .int 1), (3, .int (nI (m + 3))), (0, .ref 39), (1, .int 1), (2, .int (nI (m + 3)))], [], xf_pl, 0, 0) _
                refine xR_u (stop := 57) 20 11 _ _ rfl ?_
                change xR none 11 xi_X10_setAt xmi_X10_setAt (57, [(4, .int 2), (5, .int 8), (3, .int (nI (m + 3))), (0, .ref 39), (1, .int 1), (2, .int (nI (m + 3)))], [], xf_pl, 0, 0) _
                refine xR_u (stop := 69) 20 11 _ _ rfl ?_
                change xR none 11 xi_X10_setAt xmi_X10_setAt (69, [(5, .int 0), (4, .int 2), (3, .int (nI (m + 3))), (0, .ref 39), (1, .int 1), (2, .int (nI (m + 3)))], [], xf_pl, 0, 0) _
                refine xR_u (stop := 80) 20 11 _ _ rfl ?_
                refine xR_call rfl rfl rfl rfl ⟨300, xx_b_ok sz_0⟩ ?_
                refine xR_u (stop := 69) 20 11 _ _ rfl ?_
                change xR none 11 xi_X10_setAt xmi_X10_setAt (69, [(5, .int 1), (4, .int 2), (3, .int (nI (m + 3))), (0, .ref 39), (1, .int 1), (2, .int (nI (m + 3)))], [], xf_pl, 0, 0) _
                refine xR_u (stop := 80) 20 11 _ _ rfl ?_
                refine xR_call rfl rfl rfl rfl ⟨300, xx_b_ok sz_1⟩ ?_
                refine xR_u (stop := 69) 20 11 _ _ rfl ?_
                change xR none 11 xi_X10_setAt xmi_X10_setAt (69, [(5, .int 2), (4, .int 2), (3, .int (nI (m + 3))), (0, .ref 39), (1, .int 1), (2, .int (nI (m + 3)))], [], xf_pl, 0, 0) _
                refine xR_u (stop := 80) 20 11 _ _ rfl ?_
                refine xR_call rfl rfl rfl rfl ⟨300, xx_b_ok sz_2⟩ ?_
                refine xR_u (stop := 69) 20 11 _ _ rfl ?_
                change xR none 11 xi_X10_setAt xmi_X10_setAt (69, [(5, .int 3), (4, .int 2), (3, .int (nI (m + 3))), (0, .ref 39), (1, .int 1), (2, .int (nI (m + 3)))], [], xf_pl, 0, 0) _
                refine xR_u (stop := 80) 20 11 _ _ rfl ?_
                refine xR_call rfl rfl rfl rfl ⟨300, xx_b_ok sz_3⟩ ?_
                refine xR_u (stop := 92) 20 11 _ _ rfl ?_
                refine xR_call rfl rfl rfl rfl ⟨400, xx_b_ok kd_3_1⟩ ?_
                refine xR_u (stop := 69) 20 11 _ _ rfl ?_
                change xR none 11 xi_X10_setAt xmi_X10_setAt (69, [(5, .int 4), (4, .int 2), (3, .int (nI (m + 3))), (0, .ref 39), (1, .int 1), (2, .int (nI (m + 3)))], [], xf_pl, 0, 0) _
                refine xR_u (stop := 80) 20 11 _ _ rfl ?_
                refine xR_call rfl rfl rfl rfl ⟨300, xx_b_ok sz_4⟩ ?_
                refine xR_u (stop := 69) 20 11 _ _ rfl ?_
                change xR none 11 xi_X10_setAt xmi_X10_setAt (69, [(5, .int 5), (4, .int 2), (3, .int (nI (m + 3))), (0, .ref 39), (1, .int 1), (2, .int (nI (m + 3)))], [], xf_pl, 0, 0) _
                refine xR_u (stop := 80) 20 11 _ _ rfl ?_
                refine xR_call rfl rfl rfl rfl ⟨300, xx_b_ok sz_5⟩ ?_
                refine xR_u (stop := 92) 20 11 _ _ rfl ?_
                refine xR_call rfl rfl rfl rfl ⟨400, xx_b_ok kd_5_1⟩ ?_
                refine xR_u (stop := 69) 20 11 _ _ rfl ?_
                change xR none 11 xi_X10_setAt xmi_X10_setAt (69, [(5, .int 6), (4, .int 2), (3, .int (nI (m + 3))), (0, .ref 39), (1, .int 1), (2, .int (nI (m + 3)))], [], xf_pl, 0, 0) _
                refine xR_u (stop := 80) 20 11 _ _ rfl ?_
                refine xR_call rfl rfl rfl rfl ⟨300, xx_b_ok sz_6⟩ ?_
                refine xR_u (stop := 92) 20 11 _ _ rfl ?_
                refine xR_call rfl rfl rfl rfl ⟨400, xx_b_ok kd_6_1⟩ ?_
                refine xR_u (stop := 69) 20 11 _ _ rfl ?_
                change xR none 11 xi_X10_setAt xmi_X10_setAt (69, [(5, .int 7), (4, .int 2), (3, .int (nI (m + 3))), (0, .ref 39), (1, .int 1), (2, .int (nI (m + 3)))], [], xf_pl, 0, 0) _
                refine xR_u (stop := 80) 20 11 _ _ rfl ?_
                refine xR_call rfl rfl rfl rfl ⟨300, xx_b_ok sz_7⟩ ?_
                refine xR_u (stop := 69) 20 11 _ _ rfl ?_
                change xR none 11 xi_X10_setAt xmi_X10_setAt (69, [(5, .int 8), (4, .int 2), (3, .int (nI (m + 3))), (0, .ref 39), (1, .int 1), (2, .int (nI (m + 3)))], [], xf_pl, 0, 0) _
                refine xR_u (stop := 57) 20 11 _ _ rfl ?_
                change xR none 11 xi_X10_setAt xmi_X10_setAt (57, [(4, .int 3), (5, .int 8), (3, .int (nI (m + 3))), (0, .ref 39), (1, .int 1), (2, .int (nI (m + 3)))], [], xf_pl, 0, 0) _
                refine xR_u (stop := 69) 20 11 _ _ rfl ?_
                change xR none 11 xi_X10_setAt xmi_X10_setAt (69, [(5, .int 0), (4, .int 3), (3, .int (nI (m + 3))), (0, .ref 39), (1, .int 1), (2, .int (nI (m + 3)))], [], xf_pl, 0, 0) _
                refine xR_u (stop := 80) 20 11 _ _ rfl ?_
                refine xR_call rfl rfl rfl rfl ⟨300, xx_b_ok sz_0⟩ ?_
                refine xR_u (stop := 69) 20 11 _ _ rfl ?_
                change xR none 11 xi_X10_setAt xmi_X10_setAt (69, [(5, .int 1), (4, .int 3), (3, .int (nI (m + 3))), (0, .ref 39), (1, .int 1), (2, .int (nI (m + 3)))], [], xf_pl, 0, 0) _
                refine xR_u (stop := 80) 20 11 _ _ rfl ?_
                refine xR_call rfl rfl rfl rfl ⟨300, xx_b_ok sz_1⟩ ?_
                refine xR_u (stop := 69) 20 11 _ _ rfl ?_
                change xR none 11 xi_X10_setAt xmi_X10_setAt (69, [(5, .int 2), (4, .int 3), (3, .int (nI (m + 3))), (0, .ref 39), (1, .int 1), (2, .int (nI (m + 3)))], [], xf_pl, 0, 0) _
                refine xR_u (stop := 80) 20 11 _ _ rfl ?_
                refine xR_call rfl rfl rfl rfl ⟨300, xx_b_ok sz_2⟩ ?_
                refine xR_u (stop := 69) 20 11 _ _ rfl ?_
                change xR none 11 xi_X10_setAt xmi_X10_setAt (69, [(5, .int 3), (4, .int 3), (3, .int (nI (m + 3))), (0, .ref 39), (1, .int 1), (2, .int (nI (m + 3)))], [], xf_pl, 0, 0) _
                refine xR_u (stop := 80) 20 11 _ _ rfl ?_
                refine xR_call rfl rfl rfl rfl ⟨300, xx_b_ok sz_3⟩ ?_
                refine xR_u (stop := 69) 20 11 _ _ rfl ?_
                change xR none 11 xi_X10_setAt xmi_X10_setAt (69, [(5, .int 4), (4, .int 3), (3, .int (nI (m + 3))), (0, .ref 39), (1, .int 1), (2, .int (nI (m + 3)))], [], xf_pl, 0, 0) _
                refine xR_u (stop := 80) 20 11 _ _ rfl ?_
                refine xR_call rfl rfl rfl rfl ⟨300, xx_b_ok sz_4⟩ ?_
                refine xR_u (stop := 69) 20 11 _ _ rfl ?_
                change xR none 11 xi_X10_setAt xmi_X10_setAt (69, [(5, .int 5), (4, .int 3), (3, .int (nI (m + 3))), (0, .ref 39), (1, .int 1), (2, .int (nI (m + 3)))], [], xf_pl, 0, 0) _
                refine xR_u (stop := 80) 20 11 _ _ rfl ?_
                refine xR_call rfl rfl rfl rfl ⟨300, xx_b_ok sz_5⟩ ?_
                refine xR_u (stop := 69) 20 11 _ _ rfl ?_
                change xR none 11 xi_X10_setAt xmi_X10_setAt (69, [(5, .int 6), (4, .int 3), (3, .int (nI (m + 3))), (0, .ref 39), (1, .int 1), (2, .int (nI (m + 3)))], [], xf_pl, 0, 0) _
                refine xR_u (stop := 80) 20 11 _ _ rfl ?_
                refine xR_call rfl rfl rfl rfl ⟨300, xx_b_ok sz_6⟩ ?_
                refine xR_u (stop := 69) 20 11 _ _ rfl ?_
                change xR none 11 xi_X10_setAt xmi_X10_setAt (69, [(5, .int 7), (4, .int 3), (3, .int (nI (m + 3))), (0, .ref 39), (1, .int 1), (2, .int (nI (m + 3)))], [], xf_pl, 0, 0) _
                refine xR_u (stop := 80) 20 11 _ _ rfl ?_
                refine xR_call rfl rfl rfl rfl ⟨300, xx_b_ok sz_7⟩ ?_
                refine xR_u (stop := 92) 20 11 _ _ rfl ?_
                refine xR_call rfl rfl rfl rfl ⟨400, xx_b_ok kd_7_1⟩ ?_
                refine xR_u (stop := 102) 20 11 _ _ rfl ?_
                refine xR_if (x := nI (m + 3)) rfl (fun _ => ?_) (fun z => absurd z (by have := nI_ne0 (n := m + 3) (by omega) (by omega); simp [xe_c, this]))
                refine xR_u (stop := 111) 20 11 _ _ rfl ?_
                change xR none 11 xi_X10_setAt xmi_X10_setAt (111, [(3, .int (nI (m + 3) + Int32.ofInt (-1))), (5, .int 7), (4, .int 3), (0, .ref 39), (1, .int 1), (2, .int (nI (m + 3)))], [], xf_pl, 0, 0) _
                rw [show nI (m + 3) + Int32.ofInt (-1) = nI (m + 2) from nI_dec (m + 2)]
                refine xR_u (stop := 69) 20 11 _ _ rfl ?_
                change xR none 11 xi_X10_setAt xmi_X10_setAt (69, [(5, .int 8), (3, .int (nI (m + 2))), (4, .int 3), (0, .ref 39), (1, .int 1), (2, .int (nI (m + 3)))], [], xf_pl, 0, 0) _
                refine xR_u (stop := 57) 20 11 _ _ rfl ?_
                exact ⟨30, rfl⟩)⟩
      | 2, _, hx =>
        have hx : xs 1 = 2 := hx
        by_cases h3 : (xs 2).toInt < 0
        · exact ⟨_, _, _, by decide, by decide, lw_8 xs (v := (-1)) (h1 := xf_p) (c1 := 0) (s1 := 0) (c2 := 0) (s2 := 0) (by
              rw [hx]
              refine xR_u (stop := 1) 20 11 _ _ rfl ?_
              refine xR_call rfl rfl rfl rfl ⟨9000, xx_b_ok cl_p⟩ ?_
              refine xR_u (stop := 60) 60 11 _ _ rfl ?_
              refine xR_if (x := xs 2) rfl (fun _ => ?_) (fun z => absurd (xz_lt0 (b := 0) (by decide) z) (by omega))
              exact ⟨20, rfl⟩) (by rfl) (by
              rw [hx]
              refine xR_u (stop := 15) 60 11 _ _ rfl ?_
              refine xR_if (x := xs 2) rfl (fun z => absurd (xz_ge1 (b := 0) (by decide) z) (by omega)) (fun _ => ?_)
              exact ⟨20, rfl⟩)⟩
        · by_cases h4 : (xs 2).toInt < 3
          · obtain ⟨k, hk, hy⟩ := vp_in_of (x := xs 2) (n := 3) (vp_in_iff.mpr ⟨by omega, by omega⟩) (by decide)
            match k, hk, hy with
            | 0, _, hy =>
              have hy : xs 2 = 0 := hy
              exact ⟨_, _, _, by decide, by decide, lw_8 xs (v := (1)) (c1 := 0) (s1 := 0) (c2 := 0) (s2 := 0) (by
                  rw [hx]; rw [hy]
                  refine xR_u (stop := 1) 300 11 _ _ rfl ?_
                  refine xR_call rfl rfl rfl rfl ⟨9000, xx_b_ok cl_p⟩ ?_
                  exact xR_cl (f := 3000) (by decide +kernel)) (by decide +kernel) (by
                  rw [hx]; rw [hy]
                  exact xR_cl (f := 9000) (by decide +kernel))⟩
            | 1, _, hy =>
              have hy : xs 2 = 1 := hy
              exact ⟨_, _, _, by decide, by decide, lw_8 xs (v := (2)) (c1 := 0) (s1 := 0) (c2 := 0) (s2 := 0) (by
                  rw [hx]; rw [hy]
                  refine xR_u (stop := 1) 300 11 _ _ rfl ?_
                  refine xR_call rfl rfl rfl rfl ⟨9000, xx_b_ok cl_p⟩ ?_
                  exact xR_cl (f := 3000) (by decide +kernel)) (by decide +kernel) (by
                  rw [hx]; rw [hy]
                  exact xR_cl (f := 9000) (by decide +kernel))⟩
            | 2, _, hy =>
              have hy : xs 2 = 2 := hy
              exact ⟨_, _, _, by decide, by decide, lw_8 xs (v := (4)) (c1 := 0) (s1 := 0) (c2 := 0) (s2 := 0) (by
                  rw [hx]; rw [hy]
                  refine xR_u (stop := 1) 300 11 _ _ rfl ?_
                  refine xR_call rfl rfl rfl rfl ⟨9000, xx_b_ok cl_p⟩ ?_
                  exact xR_cl (f := 3000) (by decide +kernel)) (by decide +kernel) (by
                  rw [hx]; rw [hy]
                  exact xR_cl (f := 9000) (by decide +kernel))⟩
            | k + 3, hk, _ => omega
          · exact ⟨_, _, _, by decide, by decide, lw_8 xs (v := (-1)) (h1 := xf_p) (c1 := 0) (s1 := 0) (c2 := 0) (s2 := 0) (by
                rw [hx]
                refine xR_u (stop := 1) 20 11 _ _ rfl ?_
                refine xR_call rfl rfl rfl rfl ⟨9000, xx_b_ok cl_p⟩ ?_
                refine xR_u (stop := 60) 60 11 _ _ rfl ?_
                refine xR_if (x := xs 2) rfl (fun z => absurd (xz_lt1 (b := 0) (by decide) z) (by omega)) (fun _ => ?_)
                refine xR_u (stop := 68) 60 11 _ _ rfl ?_
                refine xR_ic (x := xs 2) (y := 3) rfl (fun _ => ?_) (fun z => absurd (xz_ge0 (b := 3) (by decide) z) (by omega))
                exact ⟨20, rfl⟩) (by rfl) (by
                rw [hx]
                refine xR_u (stop := 15) 60 11 _ _ rfl ?_
                refine xR_if (x := xs 2) rfl (fun _ => ?_) (fun z => absurd (xz_ge0 (b := 0) (by decide) z) (by omega))
                refine xR_u (stop := 21) 20 11 _ _ rfl ?_
                change xR none 11 xi_X10_setAt xmi_X10_setAt (21, _, _, xh_ui xf_p 39 0 (Int32.ofInt 0), 0, 0) _
                rw [xh_eq_ok e_p0]
                refine xR_call rfl rfl rfl rfl ⟨900, xx_b_ok cl_pl⟩ ?_
                obtain ⟨m, hm, hk⟩ := nI_ge3 (x := xs 2) (k := 3) (by omega)
                rw [hk]
                refine xR_u (stop := 52) 20 11 _ _ rfl ?_
                refine xR_u (stop := 57) 20 11 _ _ rfl ?_
                change xR none 11 xi_X10_setAt xmi_X10_setAt (57, [(4, .int 0), (3, .int (nI (m + 3))), (0, .ref 39), (1, .int 2), (2, .int (nI (m + 3)))], [], xf_pl, 0, 0) _
                refine xR_u (stop := 69) 20 11 _ _ rfl ?_
                change xR none 11 xi_X10_setAt xmi_X10_setAt (69, [(5, .int 0), (4, .int 0), (3, .int (nI (m + 3))), (0, .ref 39), (1, .int 2), (2, .int (nI (m + 3)))], [], xf_pl, 0, 0) _
                refine xR_u (stop := 80) 20 11 _ _ rfl ?_
                refine xR_call rfl rfl rfl rfl ⟨300, xx_b_ok sz_0⟩ ?_
                refine xR_u (stop := 92) 20 11 _ _ rfl ?_
                refine xR_call rfl rfl rfl rfl ⟨400, xx_b_ok kd_0_2⟩ ?_
                refine xR_u (stop := 69) 20 11 _ _ rfl ?_
                change xR none 11 xi_X10_setAt xmi_X10_setAt (69, [(5, .int 1), (4, .int 0), (3, .int (nI (m + 3))), (0, .ref 39), (1, .int 2), (2, .int (nI (m + 3)))], [], xf_pl, 0, 0) _
                refine xR_u (stop := 80) 20 11 _ _ rfl ?_
                refine xR_call rfl rfl rfl rfl ⟨300, xx_b_ok sz_1⟩ ?_
                refine xR_u (stop := 69) 20 11 _ _ rfl ?_
                change xR none 11 xi_X10_setAt xmi_X10_setAt (69, [(5, .int 2), (4, .int 0), (3, .int (nI (m + 3))), (0, .ref 39), (1, .int 2), (2, .int (nI (m + 3)))], [], xf_pl, 0, 0) _
                refine xR_u (stop := 80) 20 11 _ _ rfl ?_
                refine xR_call rfl rfl rfl rfl ⟨300, xx_b_ok sz_2⟩ ?_
                refine xR_u (stop := 69) 20 11 _ _ rfl ?_
                change xR none 11 xi_X10_setAt xmi_X10_setAt (69, [(5, .int 3), (4, .int 0), (3, .int (nI (m + 3))), (0, .ref 39), (1, .int 2), (2, .int (nI (m + 3)))], [], xf_pl, 0, 0) _
                refine xR_u (stop := 80) 20 11 _ _ rfl ?_
                refine xR_call rfl rfl rfl rfl ⟨300, xx_b_ok sz_3⟩ ?_
                refine xR_u (stop := 69) 20 11 _ _ rfl ?_
                change xR none 11 xi_X10_setAt xmi_X10_setAt (69, [(5, .int 4), (4, .int 0), (3, .int (nI (m + 3))), (0, .ref 39), (1, .int 2), (2, .int (nI (m + 3)))], [], xf_pl, 0, 0) _
                refine xR_u (stop := 80) 20 11 _ _ rfl ?_
                refine xR_call rfl rfl rfl rfl ⟨300, xx_b_ok sz_4⟩ ?_
                refine xR_u (stop := 69) 20 11 _ _ rfl ?_
                change xR none 11 xi_X10_setAt xmi_X10_setAt (69, [(5, .int 5), (4, .int 0), (3, .int (nI (m + 3))), (0, .ref 39), (1, .int 2), (2, .int (nI (m + 3)))], [], xf_pl, 0, 0) _
                refine xR_u (stop := 80) 20 11 _ _ rfl ?_
                refine xR_call rfl rfl rfl rfl ⟨300, xx_b_ok sz_5⟩ ?_
                refine xR_u (stop := 69) 20 11 _ _ rfl ?_
                change xR none 11 xi_X10_setAt xmi_X10_setAt (69, [(5, .int 6), (4, .int 0), (3, .int (nI (m + 3))), (0, .ref 39), (1, .int 2), (2, .int (nI (m + 3)))], [], xf_pl, 0, 0) _
                refine xR_u (stop := 80) 20 11 _ _ rfl ?_
                refine xR_call rfl rfl rfl rfl ⟨300, xx_b_ok sz_6⟩ ?_
                refine xR_u (stop := 69) 20 11 _ _ rfl ?_
                change xR none 11 xi_X10_setAt xmi_X10_setAt (69, [(5, .int 7), (4, .int 0), (3, .int (nI (m + 3))), (0, .ref 39), (1, .int 2), (2, .int (nI (m + 3)))], [], xf_pl, 0, 0) _
                refine xR_u (stop := 80) 20 11 _ _ rfl ?_
                refine xR_call rfl rfl rfl rfl ⟨300, xx_b_ok sz_7⟩ ?_
                refine xR_u (stop := 69) 20 11 _ _ rfl ?_
                change xR none 11 xi_X10_setAt xmi_X10_setAt (69, [(5, .int 8), (4, .int 0), (3, .int (nI (m + 3))), (0, .ref 39), (1, .int 2), (2, .int (nI (m + 3)))], [], xf_pl, 0, 0) _
                refine xR_u (stop := 57) 20 11 _ _ rfl ?_
                change xR none 11 xi_X10_setAt xmi_X10_setAt (57, [(4, .int 1), (5, .int 8), (3, .int (nI (m + 3))), (0, .ref 39), (1, .int 2), (2, .int (nI (m + 3)))], [], xf_pl, 0, 0) _
                refine xR_u (stop := 69) 20 11 _ _ rfl ?_
                change xR none 11 xi_X10_setAt xmi_X10_setAt (69, [(5, .int 0), (4, .int 1), (3, .int (nI (m + 3))), (0, .ref 39), (1, .int 2), (2, .int (nI (m + 3)))], [], xf_pl, 0, 0) _
                refine xR_u (stop := 80) 20 11 _ _ rfl ?_
                refine xR_call rfl rfl rfl rfl ⟨300, xx_b_ok sz_0⟩ ?_
                refine xR_u (stop := 69) 20 11 _ _ rfl ?_
                change xR none 11 xi_X10_setAt xmi_X10_setAt (69, [(5, .int 1), (4, .int 1), (3, .int (nI (m + 3))), (0, .ref 39), (1, .int 2), (2, .int (nI (m + 3)))], [], xf_pl, 0, 0) _
                refine xR_u (stop := 80) 20 11 _ _ rfl ?_
                refine xR_call rfl rfl rfl rfl ⟨300, xx_b_ok sz_1⟩ ?_
                refine xR_u (stop := 92) 20 11 _ _ rfl ?_
                refine xR_call rfl rfl rfl rfl ⟨400, xx_b_ok kd_1_2⟩ ?_
                refine xR_u (stop := 102) 20 11 _ _ rfl ?_
                refine xR_if (x := nI (m + 3)) rfl (fun _ => ?_) (fun z => absurd z (by have := nI_ne0 (n := m + 3) (by omega) (by omega); simp [xe_c, this]))
                refine xR_u (stop := 111) 20 11 _ _ rfl ?_
                change xR none 11 xi_X10_setAt xmi_X10_setAt (111, [(3, .int (nI (m + 3) + Int32.ofInt (-1))), (5, .int 1), (4, .int 1), (0, .ref 39), (1, .int 2), (2, .int (nI (m + 3)))], [], xf_pl, 0, 0) _
                rw [show nI (m + 3) + Int32.ofInt (-1) = nI (m + 2) from nI_dec (m + 2)]
                refine xR_u (stop := 69) 20 11 _ _ rfl ?_
                change xR none 11 xi_X10_setAt xmi_X10_setAt (69, [(5, .int 2), (3, .int (nI (m + 2))), (4, .int 1), (0, .ref 39), (1, .int 2), (2, .int (nI (m + 3)))], [], xf_pl, 0, 0) _
                refine xR_u (stop := 80) 20 11 _ _ rfl ?_
                refine xR_call rfl rfl rfl rfl ⟨300, xx_b_ok sz_2⟩ ?_
                refine xR_u (stop := 92) 20 11 _ _ rfl ?_
                refine xR_call rfl rfl rfl rfl ⟨400, xx_b_ok kd_2_2⟩ ?_
                refine xR_u (stop := 102) 20 11 _ _ rfl ?_
                refine xR_if (x := nI (m + 2)) rfl (fun _ => ?_) (fun z => absurd z (by have := nI_ne0 (n := m + 2) (by omega) (by omega); simp [xe_c, this]))
                refine xR_u (stop := 111) 20 11 _ _ rfl ?_
                change xR none 11 xi_X10_setAt xmi_X10_setAt (111, [(3, .int (nI (m + 2) + Int32.ofInt (-1))), (5, .int 2), (4, .int 1), (0, .ref 39), (1, .int 2), (2, .int (nI (m + 3)))], [], xf_pl, 0, 0) _
                rw [show nI (m + 2) + Int32.ofInt (-1) = nI (m + 1) from nI_dec (m + 1)]
                refine xR_u (stop := 69) 20 11 _ _ rfl ?_
                change xR none 11 xi_X10_setAt xmi_X10_setAt (69, [(5, .int 3), (3, .int (nI (m + 1))), (4, .int 1), (0, .ref 39), (1, .int 2), (2, .int (nI (m + 3)))], [], xf_pl, 0, 0) _
                refine xR_u (stop := 80) 20 11 _ _ rfl ?_
                refine xR_call rfl rfl rfl rfl ⟨300, xx_b_ok sz_3⟩ ?_
                refine xR_u (stop := 69) 20 11 _ _ rfl ?_
                change xR none 11 xi_X10_setAt xmi_X10_setAt (69, [(5, .int 4), (3, .int (nI (m + 1))), (4, .int 1), (0, .ref 39), (1, .int 2), (2, .int (nI (m + 3)))], [], xf_pl, 0, 0) _
                refine xR_u (stop := 80) 20 11 _ _ rfl ?_
                refine xR_call rfl rfl rfl rfl ⟨300, xx_b_ok sz_4⟩ ?_
                refine xR_u (stop := 92) 20 11 _ _ rfl ?_
                refine xR_call rfl rfl rfl rfl ⟨400, xx_b_ok kd_4_2⟩ ?_
                refine xR_u (stop := 102) 20 11 _ _ rfl ?_
                refine xR_if (x := nI (m + 1)) rfl (fun _ => ?_) (fun z => absurd z (by have := nI_ne0 (n := m + 1) (by omega) (by omega); simp [xe_c, this]))
                refine xR_u (stop := 111) 20 11 _ _ rfl ?_
                change xR none 11 xi_X10_setAt xmi_X10_setAt (111, [(3, .int (nI (m + 1) + Int32.ofInt (-1))), (5, .int 4), (4, .int 1), (0, .ref 39), (1, .int 2), (2, .int (nI (m + 3)))], [], xf_pl, 0, 0) _
                rw [show nI (m + 1) + Int32.ofInt (-1) = nI (m + 0) from nI_dec (m + 0)]
                refine xR_u (stop := 69) 20 11 _ _ rfl ?_
                change xR none 11 xi_X10_setAt xmi_X10_setAt (69, [(5, .int 5), (3, .int (nI (m + 0))), (4, .int 1), (0, .ref 39), (1, .int 2), (2, .int (nI (m + 3)))], [], xf_pl, 0, 0) _
                refine xR_u (stop := 80) 20 11 _ _ rfl ?_
                refine xR_call rfl rfl rfl rfl ⟨300, xx_b_ok sz_5⟩ ?_
                refine xR_u (stop := 69) 20 11 _ _ rfl ?_
                change xR none 11 xi_X10_setAt xmi_X10_setAt (69, [(5, .int 6), (3, .int (nI (m + 0))), (4, .int 1), (0, .ref 39), (1, .int 2), (2, .int (nI (m + 3)))], [], xf_pl, 0, 0) _
                refine xR_u (stop := 80) 20 11 _ _ rfl ?_
                refine xR_call rfl rfl rfl rfl ⟨300, xx_b_ok sz_6⟩ ?_
                refine xR_u (stop := 69) 20 11 _ _ rfl ?_
                change xR none 11 xi_X10_setAt xmi_X10_setAt (69, [(5, .int 7), (3, .int (nI (m + 0))), (4, .int 1), (0, .ref 39), (1, .int 2), (2, .int (nI (m + 3)))], [], xf_pl, 0, 0) _
                refine xR_u (stop := 80) 20 11 _ _ rfl ?_
                refine xR_call rfl rfl rfl rfl ⟨300, xx_b_ok sz_7⟩ ?_
                refine xR_u (stop := 69) 20 11 _ _ rfl ?_
                change xR none 11 xi_X10_setAt xmi_X10_setAt (69, [(5, .int 8), (3, .int (nI (m + 0))), (4, .int 1), (0, .ref 39), (1, .int 2), (2, .int (nI (m + 3)))], [], xf_pl, 0, 0) _
                refine xR_u (stop := 57) 20 11 _ _ rfl ?_
                change xR none 11 xi_X10_setAt xmi_X10_setAt (57, [(4, .int 2), (5, .int 8), (3, .int (nI (m + 0))), (0, .ref 39), (1, .int 2), (2, .int (nI (m + 3)))], [], xf_pl, 0, 0) _
                refine xR_u (stop := 69) 20 11 _ _ rfl ?_
                change xR none 11 xi_X10_setAt xmi_X10_setAt (69, [(5, .int 0), (4, .int 2), (3, .int (nI (m + 0))), (0, .ref 39), (1, .int 2), (2, .int (nI (m + 3)))], [], xf_pl, 0, 0) _
                refine xR_u (stop := 80) 20 11 _ _ rfl ?_
                refine xR_call rfl rfl rfl rfl ⟨300, xx_b_ok sz_0⟩ ?_
                refine xR_u (stop := 69) 20 11 _ _ rfl ?_
                change xR none 11 xi_X10_setAt xmi_X10_setAt (69, [(5, .int 1), (4, .int 2), (3, .int (nI (m + 0))), (0, .ref 39), (1, .int 2), (2, .int (nI (m + 3)))], [], xf_pl, 0, 0) _
                refine xR_u (stop := 80) 20 11 _ _ rfl ?_
                refine xR_call rfl rfl rfl rfl ⟨300, xx_b_ok sz_1⟩ ?_
                refine xR_u (stop := 69) 20 11 _ _ rfl ?_
                change xR none 11 xi_X10_setAt xmi_X10_setAt (69, [(5, .int 2), (4, .int 2), (3, .int (nI (m + 0))), (0, .ref 39), (1, .int 2), (2, .int (nI (m + 3)))], [], xf_pl, 0, 0) _
                refine xR_u (stop := 80) 20 11 _ _ rfl ?_
                refine xR_call rfl rfl rfl rfl ⟨300, xx_b_ok sz_2⟩ ?_
                refine xR_u (stop := 69) 20 11 _ _ rfl ?_
                change xR none 11 xi_X10_setAt xmi_X10_setAt (69, [(5, .int 3), (4, .int 2), (3, .int (nI (m + 0))), (0, .ref 39), (1, .int 2), (2, .int (nI (m + 3)))], [], xf_pl, 0, 0) _
                refine xR_u (stop := 80) 20 11 _ _ rfl ?_
                refine xR_call rfl rfl rfl rfl ⟨300, xx_b_ok sz_3⟩ ?_
                refine xR_u (stop := 92) 20 11 _ _ rfl ?_
                refine xR_call rfl rfl rfl rfl ⟨400, xx_b_ok kd_3_2⟩ ?_
                refine xR_u (stop := 69) 20 11 _ _ rfl ?_
                change xR none 11 xi_X10_setAt xmi_X10_setAt (69, [(5, .int 4), (4, .int 2), (3, .int (nI (m + 0))), (0, .ref 39), (1, .int 2), (2, .int (nI (m + 3)))], [], xf_pl, 0, 0) _
                refine xR_u (stop := 80) 20 11 _ _ rfl ?_
                refine xR_call rfl rfl rfl rfl ⟨300, xx_b_ok sz_4⟩ ?_
                refine xR_u (stop := 69) 20 11 _ _ rfl ?_
                change xR none 11 xi_X10_setAt xmi_X10_setAt (69, [(5, .int 5), (4, .int 2), (3, .int (nI (m + 0))), (0, .ref 39), (1, .int 2), (2, .int (nI (m + 3)))], [], xf_pl, 0, 0) _
                refine xR_u (stop := 80) 20 11 _ _ rfl ?_
                refine xR_call rfl rfl rfl rfl ⟨300, xx_b_ok sz_5⟩ ?_
                refine xR_u (stop := 92) 20 11 _ _ rfl ?_
                refine xR_call rfl rfl rfl rfl ⟨400, xx_b_ok kd_5_2⟩ ?_
                refine xR_u (stop := 69) 20 11 _ _ rfl ?_
                change xR none 11 xi_X10_setAt xmi_X10_setAt (69, [(5, .int 6), (4, .int 2), (3, .int (nI (m + 0))), (0, .ref 39), (1, .int 2), (2, .int (nI (m + 3)))], [], xf_pl, 0, 0) _
                refine xR_u (stop := 80) 20 11 _ _ rfl ?_
                refine xR_call rfl rfl rfl rfl ⟨300, xx_b_ok sz_6⟩ ?_
                refine xR_u (stop := 92) 20 11 _ _ rfl ?_
                refine xR_call rfl rfl rfl rfl ⟨400, xx_b_ok kd_6_2⟩ ?_
                refine xR_u (stop := 69) 20 11 _ _ rfl ?_
                change xR none 11 xi_X10_setAt xmi_X10_setAt (69, [(5, .int 7), (4, .int 2), (3, .int (nI (m + 0))), (0, .ref 39), (1, .int 2), (2, .int (nI (m + 3)))], [], xf_pl, 0, 0) _
                refine xR_u (stop := 80) 20 11 _ _ rfl ?_
                refine xR_call rfl rfl rfl rfl ⟨300, xx_b_ok sz_7⟩ ?_
                refine xR_u (stop := 69) 20 11 _ _ rfl ?_
                change xR none 11 xi_X10_setAt xmi_X10_setAt (69, [(5, .int 8), (4, .int 2), (3, .int (nI (m + 0))), (0, .ref 39), (1, .int 2), (2, .int (nI (m + 3)))], [], xf_pl, 0, 0) _
                refine xR_u (stop := 57) 20 11 _ _ rfl ?_
                change xR none 11 xi_X10_setAt xmi_X10_setAt (57, [(4, .int 3), (5, .int 8), (3, .int (nI (m + 0))), (0, .ref 39), (1, .int 2), (2, .int (nI (m + 3)))], [], xf_pl, 0, 0) _
                refine xR_u (stop := 69) 20 11 _ _ rfl ?_
                change xR none 11 xi_X10_setAt xmi_X10_setAt (69, [(5, .int 0), (4, .int 3), (3, .int (nI (m + 0))), (0, .ref 39), (1, .int 2), (2, .int (nI (m + 3)))], [], xf_pl, 0, 0) _
                refine xR_u (stop := 80) 20 11 _ _ rfl ?_
                refine xR_call rfl rfl rfl rfl ⟨300, xx_b_ok sz_0⟩ ?_
                refine xR_u (stop := 69) 20 11 _ _ rfl ?_
                change xR none 11 xi_X10_setAt xmi_X10_setAt (69, [(5, .int 1), (4, .int 3), (3, .int (nI (m + 0))), (0, .ref 39), (1, .int 2), (2, .int (nI (m + 3)))], [], xf_pl, 0, 0) _
                refine xR_u (stop := 80) 20 11 _ _ rfl ?_
                refine xR_call rfl rfl rfl rfl ⟨300, xx_b_ok sz_1⟩ ?_
                refine xR_u (stop := 69) 20 11 _ _ rfl ?_
                change xR none 11 xi_X10_setAt xmi_X10_setAt (69, [(5, .int 2), (4, .int 3), (3, .int (nI (m + 0))), (0, .ref 39), (1, .int 2), (2, .int (nI (m + 3)))], [], xf_pl, 0, 0) _
                refine xR_u (stop := 80) 20 11 _ _ rfl ?_
                refine xR_call rfl rfl rfl rfl ⟨300, xx_b_ok sz_2⟩ ?_
                refine xR_u (stop := 69) 20 11 _ _ rfl ?_
                change xR none 11 xi_X10_setAt xmi_X10_setAt (69, [(5, .int 3), (4, .int 3), (3, .int (nI (m + 0))), (0, .ref 39), (1, .int 2), (2, .int (nI (m + 3)))], [], xf_pl, 0, 0) _
                refine xR_u (stop := 80) 20 11 _ _ rfl ?_
                refine xR_call rfl rfl rfl rfl ⟨300, xx_b_ok sz_3⟩ ?_
                refine xR_u (stop := 69) 20 11 _ _ rfl ?_
                change xR none 11 xi_X10_setAt xmi_X10_setAt (69, [(5, .int 4), (4, .int 3), (3, .int (nI (m + 0))), (0, .ref 39), (1, .int 2), (2, .int (nI (m + 3)))], [], xf_pl, 0, 0) _
                refine xR_u (stop := 80) 20 11 _ _ rfl ?_
                refine xR_call rfl rfl rfl rfl ⟨300, xx_b_ok sz_4⟩ ?_
                refine xR_u (stop := 69) 20 11 _ _ rfl ?_
                change xR none 11 xi_X10_setAt xmi_X10_setAt (69, [(5, .int 5), (4, .int 3), (3, .int (nI (m + 0))), (0, .ref 39), (1, .int 2), (2, .int (nI (m + 3)))], [], xf_pl, 0, 0) _
                refine xR_u (stop := 80) 20 11 _ _ rfl ?_
                refine xR_call rfl rfl rfl rfl ⟨300, xx_b_ok sz_5⟩ ?_
                refine xR_u (stop := 69) 20 11 _ _ rfl ?_
                change xR none 11 xi_X10_setAt xmi_X10_setAt (69, [(5, .int 6), (4, .int 3), (3, .int (nI (m + 0))), (0, .ref 39), (1, .int 2), (2, .int (nI (m + 3)))], [], xf_pl, 0, 0) _
                refine xR_u (stop := 80) 20 11 _ _ rfl ?_
                refine xR_call rfl rfl rfl rfl ⟨300, xx_b_ok sz_6⟩ ?_
                refine xR_u (stop := 69) 20 11 _ _ rfl ?_
                change xR none 11 xi_X10_setAt xmi_X10_setAt (69, [(5, .int 7), (4, .int 3), (3, .int (nI (m + 0))), (0, .ref 39), (1, .int 2), (2, .int (nI (m + 3)))], [], xf_pl, 0, 0) _
                refine xR_u (stop := 80) 20 11 _ _ rfl ?_
                refine xR_call rfl rfl rfl rfl ⟨300, xx_b_ok sz_7⟩ ?_
                refine xR_u (stop := 92) 20 11 _ _ rfl ?_
                refine xR_call rfl rfl rfl rfl ⟨400, xx_b_ok kd_7_2⟩ ?_
                refine xR_u (stop := 69) 20 11 _ _ rfl ?_
                change xR none 11 xi_X10_setAt xmi_X10_setAt (69, [(5, .int 8), (4, .int 3), (3, .int (nI (m + 0))), (0, .ref 39), (1, .int 2), (2, .int (nI (m + 3)))], [], xf_pl, 0, 0) _
                refine xR_u (stop := 57) 20 11 _ _ rfl ?_
                exact ⟨30, rfl⟩)⟩
      | 3, _, hx =>
        have hx : xs 1 = 3 := hx
        by_cases h3 : (xs 2).toInt < 0
        · exact ⟨_, _, _, by decide, by decide, lw_8 xs (v := (-1)) (h1 := xf_p) (c1 := 0) (s1 := 0) (c2 := 0) (s2 := 0) (by
              rw [hx]
              refine xR_u (stop := 1) 20 11 _ _ rfl ?_
              refine xR_call rfl rfl rfl rfl ⟨9000, xx_b_ok cl_p⟩ ?_
              refine xR_u (stop := 83) 60 11 _ _ rfl ?_
              refine xR_if (x := xs 2) rfl (fun _ => ?_) (fun z => absurd (xz_ne0 (b := 0) (by decide) z) (by omega))
              exact ⟨20, rfl⟩) (by rfl) (by
              rw [hx]
              refine xR_u (stop := 15) 60 11 _ _ rfl ?_
              refine xR_if (x := xs 2) rfl (fun z => absurd (xz_ge1 (b := 0) (by decide) z) (by omega)) (fun _ => ?_)
              exact ⟨20, rfl⟩)⟩
        · by_cases h4 : (xs 2).toInt < 1
          · obtain ⟨k, hk, hy⟩ := vp_in_of (x := xs 2) (n := 1) (vp_in_iff.mpr ⟨by omega, by omega⟩) (by decide)
            match k, hk, hy with
            | 0, _, hy =>
              have hy : xs 2 = 0 := hy
              exact ⟨_, _, _, by decide, by decide, lw_8 xs (v := (7)) (c1 := 0) (s1 := 0) (c2 := 0) (s2 := 0) (by
                  rw [hx]; rw [hy]
                  refine xR_u (stop := 1) 300 11 _ _ rfl ?_
                  refine xR_call rfl rfl rfl rfl ⟨9000, xx_b_ok cl_p⟩ ?_
                  exact xR_cl (f := 3000) (by decide +kernel)) (by decide +kernel) (by
                  rw [hx]; rw [hy]
                  exact xR_cl (f := 9000) (by decide +kernel))⟩
            | k + 1, hk, _ => omega
          · exact ⟨_, _, _, by decide, by decide, lw_8 xs (v := (-1)) (h1 := xf_p) (c1 := 0) (s1 := 0) (c2 := 0) (s2 := 0) (by
                rw [hx]
                refine xR_u (stop := 1) 20 11 _ _ rfl ?_
                refine xR_call rfl rfl rfl rfl ⟨9000, xx_b_ok cl_p⟩ ?_
                refine xR_u (stop := 83) 60 11 _ _ rfl ?_
                refine xR_if (x := xs 2) rfl (fun _ => ?_) (fun z => absurd (xz_ne0 (b := 0) (by decide) z) (by omega))
                exact ⟨20, rfl⟩) (by rfl) (by
                rw [hx]
                refine xR_u (stop := 15) 60 11 _ _ rfl ?_
                refine xR_if (x := xs 2) rfl (fun _ => ?_) (fun z => absurd (xz_ge0 (b := 0) (by decide) z) (by omega))
                refine xR_u (stop := 21) 20 11 _ _ rfl ?_
                change xR none 11 xi_X10_setAt xmi_X10_setAt (21, _, _, xh_ui xf_p 39 0 (Int32.ofInt 0), 0, 0) _
                rw [xh_eq_ok e_p0]
                refine xR_call rfl rfl rfl rfl ⟨900, xx_b_ok cl_pl⟩ ?_
                refine xR_u (stop := 30) 60 11 _ _ rfl ?_
                refine xR_if (x := xs 2) rfl (fun _ => ?_) (fun z => absurd (xz_ne0 (b := 0) (by decide) z) (by omega))
                exact ⟨20, rfl⟩)⟩
      | 4, _, hx =>
        have hx : xs 1 = 4 := hx
        by_cases h3 : (xs 2).toInt < 0
        · exact ⟨_, _, _, by decide, by decide, lw_8 xs (v := (-1)) (h1 := xf_p) (c1 := 0) (s1 := 0) (c2 := 0) (s2 := 0) (by
              rw [hx]
              refine xR_u (stop := 1) 20 11 _ _ rfl ?_
              refine xR_call rfl rfl rfl rfl ⟨9000, xx_b_ok cl_p⟩ ?_
              refine xR_u (stop := 96) 60 11 _ _ rfl ?_
              refine xR_if (x := xs 2) rfl (fun _ => ?_) (fun z => absurd (xz_ne0 (b := 0) (by decide) z) (by omega))
              exact ⟨20, rfl⟩) (by rfl) (by
              rw [hx]
              refine xR_u (stop := 15) 60 11 _ _ rfl ?_
              refine xR_if (x := xs 2) rfl (fun z => absurd (xz_ge1 (b := 0) (by decide) z) (by omega)) (fun _ => ?_)
              exact ⟨20, rfl⟩)⟩
        · by_cases h4 : (xs 2).toInt < 1
          · obtain ⟨k, hk, hy⟩ := vp_in_of (x := xs 2) (n := 1) (vp_in_iff.mpr ⟨by omega, by omega⟩) (by decide)
            match k, hk, hy with
            | 0, _, hy =>
              have hy : xs 2 = 0 := hy
              exact ⟨_, _, _, by decide, by decide, lw_8 xs (v := (0)) (c1 := 0) (s1 := 0) (c2 := 0) (s2 := 0) (by
                  rw [hx]; rw [hy]
                  refine xR_u (stop := 1) 300 11 _ _ rfl ?_
                  refine xR_call rfl rfl rfl rfl ⟨9000, xx_b_ok cl_p⟩ ?_
                  exact xR_cl (f := 3000) (by decide +kernel)) (by decide +kernel) (by
                  rw [hx]; rw [hy]
                  exact xR_cl (f := 9000) (by decide +kernel))⟩
            | k + 1, hk, _ => omega
          · exact ⟨_, _, _, by decide, by decide, lw_8 xs (v := (-1)) (h1 := xf_p) (c1 := 0) (s1 := 0) (c2 := 0) (s2 := 0) (by
                rw [hx]
                refine xR_u (stop := 1) 20 11 _ _ rfl ?_
                refine xR_call rfl rfl rfl rfl ⟨9000, xx_b_ok cl_p⟩ ?_
                refine xR_u (stop := 96) 60 11 _ _ rfl ?_
                refine xR_if (x := xs 2) rfl (fun _ => ?_) (fun z => absurd (xz_ne0 (b := 0) (by decide) z) (by omega))
                exact ⟨20, rfl⟩) (by rfl) (by
                rw [hx]
                refine xR_u (stop := 15) 60 11 _ _ rfl ?_
                refine xR_if (x := xs 2) rfl (fun _ => ?_) (fun z => absurd (xz_ge0 (b := 0) (by decide) z) (by omega))
                refine xR_u (stop := 21) 20 11 _ _ rfl ?_
                change xR none 11 xi_X10_setAt xmi_X10_setAt (21, _, _, xh_ui xf_p 39 0 (Int32.ofInt 0), 0, 0) _
                rw [xh_eq_ok e_p0]
                refine xR_call rfl rfl rfl rfl ⟨900, xx_b_ok cl_pl⟩ ?_
                refine xR_u (stop := 30) 60 11 _ _ rfl ?_
                refine xR_if (x := xs 2) rfl (fun _ => ?_) (fun z => absurd (xz_ne0 (b := 0) (by decide) z) (by omega))
                exact ⟨20, rfl⟩)⟩
      | j + 5, hj, _ => omega
    · exact ⟨_, _, _, by decide, by decide, lw_8 xs (v := (-1)) (h1 := xf_p) (c1 := 0) (s1 := 0) (c2 := 0) (s2 := 0) (by
          refine xR_u (stop := 1) 20 11 _ _ rfl ?_
          refine xR_call rfl rfl rfl rfl ⟨9000, xx_b_ok cl_p⟩ ?_
          refine xR_u (stop := 6) 20 11 _ _ rfl ?_
          refine xR_swo (x := xs 1) 108 rfl (Or.inr (by omega)) (by decide) ?_
          exact ⟨20, rfl⟩) (by rfl) (by
          refine xR_u (stop := 8) 20 11 _ _ rfl ?_
          apply xR_call (d := 10) rfl rfl rfl rfl
          · refine xR_u (stop := 2) 3000 10 _ _ rfl ?_
            refine xR_ic (x := xs 1) (y := (1 : Int32)) rfl (fun z => absurd (xz_lt1 (b := 1) (by decide) z) (by omega)) (fun _ => ?_)
            refine xR_u (stop := 7) 3000 10 _ _ rfl ?_
            refine xR_ic (x := xs 1) (y := (4 : Int32)) rfl (fun _ => ?_) (fun z => absurd (xz_gt0 (b := 4) (by decide) z) (by omega))
            exact ⟨3000, rfl⟩
          exact ⟨20, rfl⟩)⟩
end XSA
