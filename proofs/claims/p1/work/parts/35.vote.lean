section XVT
def HV (n35 a36 a37 a38 n39 a68 a69 a70 : List Int32) : xh_H := ([(0, 9), (0, 8), (2, 640), (0, 4), (0, 3), (1, 400), (1, 400), (1, 64), (0, 6), (1, 16), (1, 16), (0, 7), (4, 64), (5, 8), (0, 2), (1, 924), (1, 924), (1, 12), (1, 14), (1, 12), (4, 13), (0, 5), (1, 12), (1, 12), (1, 12), (1, 12), (1, 12), (1, 12), (0, 0), (1, 7), (1, 84), (1, 7), (1, 7), (1, 7), (1, 896), (0, 1), (1, 60), (1, 60), (3, 60), (0, 10), (1, 640), (3, 53248), (3, 53248), (3, 65536), (3, 32768), (3, 4096), (1, 53248), (1, 13), (1, 13), (1, 13), (4, 16), (1, 8), (1, 8), (3, 4096), (1, 12), (1, 12), (1, 12), (1, 12), (1, 13), (1, 924), (1, 924), (3, 144), (1, 84), (3, 49), (3, 49), (1, 56), (1, 7), (1, 7), (1, 60), (1, 60), (3, 60), (4, 1)],
  [[0, 0, 0, 0, 0, 0, 0, 0, 0, 3, 0, 0], [0, 0], [], [], [0, 0, 0, 0], [], [], [], [], [], [], [-1], [], [], [0, 0, 0, 0, 0, 0, 0, 0], [], [], [], [], [], [], [0, -1, 0, 0, 0, 0, 0, 0, 0, 0, 0, 0, 0, 0, 0, 0], [-1, -1, -1, -1, -1, -1, -1, -1, -1, -1, -1, -1], [], [], [], [], [], [], [-1, -1, -1, -1, -1, -1, -1], [0, 1, 2, 3, 4, 5, 6, 0, 1, 2, 3, 4, 5, 6, 0, 1, 2, 3, 4, 5, 6, 0, 1, 2, 3, 4, 5, 6, 0, 1, 2, 3, 4, 5, 6, 0, 1, 2, 3, 4, 5, 6, 0, 1, 2, 3, 4, 5, 6, 0, 1, 2, 3, 4, 5, 6, 0, 1, 2, 3, 4, 5, 6, 0, 1, 2, 3, 4, 5, 6, 0, 1, 2, 3, 4, 5, 6, 0, 1, 2, 3, 4, 5, 6], [], [], [], [], n35, a36, a37, a38, n39, [], [], [], [], [], [], [], [], [], [], [], [], [], [], [], [], [], [], [], [], [], [], [0, 1, 2, 3, 4, 5, 6, 0, 1, 2, 3, 4, 5, 6, 0, 1, 2, 3, 4, 5, 6, 0, 1, 2, 3, 4, 5, 6, 0, 1, 2, 3, 4, 5, 6, 0, 1, 2, 3, 4, 5, 6, 0, 1, 2, 3, 4, 5, 6, 0, 1, 2, 3, 4, 5, 6, 0, 1, 2, 3, 4, 5, 6, 0, 1, 2, 3, 4, 5, 6, 0, 1, 2, 3, 4, 5, 6, 0, 1, 2, 3, 4, 5, 6], [], [], [], [], [], a68, a69, a70, []],
  [[], [], [], [], [], [], [], [], [], [], [], [], [128, 0, 0, 0, 0, 0, 0, 0, 0, 0, 0, 0, 0, 0, 0, 0, 0, 0, 0, 0, 0, 0, 0, 0, 0, 0, 0, 0, 0, 0, 0, 0, 0, 0, 0, 0, 0, 0, 0, 0, 0, 0, 0, 0, 0, 0, 0, 0, 0, 0, 0, 0, 0, 0, 0, 0, 0, 0, 0, 0, 0, 0, 0, 0], [], [], [], [], [], [], [], [], [], [], [], [], [], [], [], [], [], [], [], [], [], [], [], [], [], [], [], [], [], [], [], [], [], [], [], [], [], [], [], [], [], [], [], [], [], [], [], [], [], [], [], [], [], [], [], [], [], [], []],
  [[some 1, some 3, some 11, some 13, some 14, some 21, some 28, some 35], [some 2], [], [some 4, some 8, some 9, some 10], [some 5, some 6, some 7], [], [], [], [some 1], [], [], [none, some 12], [], [], [some 15, some 16, some 17, some 18, some 19, some 20, some 11], [], [], [], [], [], [], [some 22, none, some 14, some 23, some 24, some 25, some 26, some 27, none, none, none, none, none, none, some 11], [], [], [], [], [], [], [some 29, none, some 30, some 31, some 32, some 33, some 34], [], [], [], [], [], [], [some 36, some 37, some 38], [], [], [], [none, some 40, none, none, none, none, none, none, none, none, none, none, none, none, none, none, some 41, some 42, some 43, some 44, some 45, some 46, some 47, some 48, some 49, some 50, none, none, none, none, none, some 51, some 52, none, some 53, none, none, none, some 54, some 55, some 56, some 57, some 58, some 59, some 60, some 61, none, none, none, none, none, none, none, some 62, some 63, some 64, some 65, some 66, some 67, none, some 68, some 69, some 70], [], [], [], [], [], [], [], [], [], [], [], [], [], [], [], [], [], [], [], [], [], [], [], [], [], [], [], [], [], [], [], []])
set_option maxRecDepth 100000 in
set_option maxHeartbeats 8000000 in
theorem op_23 (xs : Nat → Int32) : lw_C 862 xs := by
  by_cases hb : (xs 2).toInt = 0
  · by_cases h1 : (xs 1).toInt < 0
    · exact ⟨_, _, _, by decide, by decide, lw_23_0 xs hb (v := -1) (c1 := 0) (s1 := 0) (c2 := 0) (s2 := 0) (by
          refine xR_u (stop := 2) 3000 11 _ _ rfl ?_
          apply xR_call (d := 10) rfl rfl rfl rfl
          · refine xR_u (stop := 1) 3000 10 _ _ rfl ?_
            refine xR_if (x := xs 1) rfl (fun _ => ?_) (fun z => absurd (xz_lt0 (b := 0) (by decide) z) (by omega))
            exact ⟨3000, rfl⟩
          exact ⟨3000, rfl⟩) (by rfl) (by
          refine xR_u (stop := 16) 3000 11 _ _ rfl ?_
          apply xR_call (d := 10) rfl rfl rfl rfl
          · refine xR_u (stop := 1) 3000 10 _ _ rfl ?_
            refine xR_if (x := xs 1) rfl (fun _ => ?_) (fun z => absurd (xz_lt0 (b := 0) (by decide) z) (by omega))
            exact ⟨3000, rfl⟩
          exact ⟨3000, rfl⟩)⟩
    · by_cases h2 : (xs 1).toInt < 8
      · exact ⟨_, _, _, by decide, by decide, lw_23_0 xs hb (v := 0) (c1 := 0) (s1 := 0) (c2 := 0) (s2 := 0) (by
            refine xR_u (stop := 2) 3000 11 _ _ rfl ?_
            apply xR_call (d := 10) rfl rfl rfl rfl
            · refine xR_u (stop := 1) 3000 10 _ _ rfl ?_
              refine xR_if (x := xs 1) rfl (fun z => absurd (xz_lt1 (b := 0) (by decide) z) (by omega)) (fun _ => ?_)
              refine xR_u (stop := 11) 3000 10 _ _ rfl ?_
              refine xR_ic (x := xs 1) (y := (8 : Int32)) rfl (fun z => absurd (xz_ge1 (b := 8) (by decide) z) (by omega)) (fun _ => ?_)
              exact ⟨3000, rfl⟩
            refine xR_u (stop := 18) 60 11 _ _ rfl ?_
            apply xR_call (d := 10) rfl rfl rfl rfl
            · refine xR_u (stop := 51) 80 10 _ _ rfl ?_
              change xR none 10 xi_X1_add xmi_X1_add (51, _, _, HV [0, 0, 0, 1] _ _ _ [0, 0, 0, 0, 3] _ _ _, 0, 0) _
              refine xR_u (stop := 55) 20 10 _ _ rfl ?_
              change xR none 10 xi_X1_add xmi_X1_add (55, _, [.int 1], _, 0, 0) _
              exact ⟨20, rfl⟩
            exact ⟨20, rfl⟩) (by rfl) (by
            refine xR_u (stop := 16) 3000 11 _ _ rfl ?_
            apply xR_call (d := 10) rfl rfl rfl rfl
            · refine xR_u (stop := 1) 3000 10 _ _ rfl ?_
              refine xR_if (x := xs 1) rfl (fun z => absurd (xz_lt1 (b := 0) (by decide) z) (by omega)) (fun _ => ?_)
              refine xR_u (stop := 10) 3000 10 _ _ rfl ?_
              change xR none 10 xi_X10_isSet xmi_X10_isSet (10, _, [.int 3, .int 1, .int (xs 1)], _, 0, 0) _
              refine xR_u (stop := 11) 3000 10 _ _ rfl ?_
              refine xR_ic (x := xs 1) (y := (8 : Int32)) rfl (fun z => absurd (xz_ge1 (b := 8) (by decide) z) (by omega)) (fun _ => ?_)
              exact ⟨3000, rfl⟩
            refine xR_u (stop := 67) 100 11 _ _ rfl ?_
            change xR none 11 xi_X10_vote xmi_X10_vote (67, _, _, HV [0, 0, 0, 1] _ _ _ [0, 0, 0, 0, 3, 0, 0, 0, 0, 0, 0, 0, 0, 0, 0, 0, 0, 0, 0, 0, 0, 0, 0, 0, 0, 0, 0, 0, 0, 0, 0, 0, 0, 0, 0, 0, 0, 0, 0, 0, 0, 0, 0, 0, 0, 0, 0, 0, 0, 0, 0, 0, 0, 0, 0, 0, 0, 0, 0, 0, 0, 0, 0, 1] _ _ _, 0, 0) _
            refine xR_u (stop := 71) 20 11 _ _ rfl ?_
            change xR none 11 xi_X10_vote xmi_X10_vote (71, _, [.int 1], _, 0, 0) _
            exact ⟨20, rfl⟩)⟩
      · exact ⟨_, _, _, by decide, by decide, lw_23_0 xs hb (v := -1) (c1 := 0) (s1 := 0) (c2 := 0) (s2 := 0) (by
            refine xR_u (stop := 2) 3000 11 _ _ rfl ?_
            apply xR_call (d := 10) rfl rfl rfl rfl
            · refine xR_u (stop := 1) 3000 10 _ _ rfl ?_
              refine xR_if (x := xs 1) rfl (fun z => absurd (xz_lt1 (b := 0) (by decide) z) (by omega)) (fun _ => ?_)
              refine xR_u (stop := 11) 3000 10 _ _ rfl ?_
              refine xR_ic (x := xs 1) (y := (8 : Int32)) rfl (fun _ => ?_) (fun z => absurd (xz_ge0 (b := 8) (by decide) z) (by omega))
              exact ⟨3000, rfl⟩
            exact ⟨3000, rfl⟩) (by rfl) (by
            refine xR_u (stop := 16) 3000 11 _ _ rfl ?_
            apply xR_call (d := 10) rfl rfl rfl rfl
            · refine xR_u (stop := 1) 3000 10 _ _ rfl ?_
              refine xR_if (x := xs 1) rfl (fun z => absurd (xz_lt1 (b := 0) (by decide) z) (by omega)) (fun _ => ?_)
              refine xR_u (stop := 11) 3000 10 _ _ rfl ?_
              refine xR_ic (x := xs 1) (y := (8 : Int32)) rfl (fun _ => ?_) (fun z => absurd (xz_ge0 (b := 8) (by decide) z) (by omega))
              exact ⟨3000, rfl⟩
            exact ⟨3000, rfl⟩)⟩
  · by_cases h1 : (xs 1).toInt < 0
    · exact ⟨_, _, _, by decide, by decide, lw_23_1 xs hb (v := -1) (c1 := 0) (s1 := 0) (c2 := 0) (s2 := 0) (by
          refine xR_u (stop := 2) 3000 11 _ _ rfl ?_
          apply xR_call (d := 10) rfl rfl rfl rfl
          · refine xR_u (stop := 1) 3000 10 _ _ rfl ?_
            refine xR_if (x := xs 1) rfl (fun _ => ?_) (fun z => absurd (xz_lt0 (b := 0) (by decide) z) (by omega))
            exact ⟨3000, rfl⟩
          exact ⟨3000, rfl⟩) (by rfl) (by
          refine xR_u (stop := 16) 3000 11 _ _ rfl ?_
          apply xR_call (d := 10) rfl rfl rfl rfl
          · refine xR_u (stop := 1) 3000 10 _ _ rfl ?_
            refine xR_if (x := xs 1) rfl (fun _ => ?_) (fun z => absurd (xz_lt0 (b := 0) (by decide) z) (by omega))
            exact ⟨3000, rfl⟩
          exact ⟨3000, rfl⟩)⟩
    · by_cases h2 : (xs 1).toInt < 8
      · exact ⟨_, _, _, by decide, by decide, lw_23_1 xs hb (v := 0) (c1 := 0) (s1 := 0) (c2 := 0) (s2 := 0) (by
            refine xR_u (stop := 2) 3000 11 _ _ rfl ?_
            apply xR_call (d := 10) rfl rfl rfl rfl
            · refine xR_u (stop := 1) 3000 10 _ _ rfl ?_
              refine xR_if (x := xs 1) rfl (fun z => absurd (xz_lt1 (b := 0) (by decide) z) (by omega)) (fun _ => ?_)
              refine xR_u (stop := 11) 3000 10 _ _ rfl ?_
              refine xR_ic (x := xs 1) (y := (8 : Int32)) rfl (fun z => absurd (xz_ge1 (b := 8) (by decide) z) (by omega)) (fun _ => ?_)
              exact ⟨3000, rfl⟩
            refine xR_u (stop := 18) 60 11 _ _ rfl ?_
            apply xR_call (d := 10) rfl rfl rfl rfl
            · refine xR_u (stop := 51) 80 10 _ _ rfl ?_
              change xR none 10 xi_X1_add xmi_X1_add (51, _, _, HV [0, 0, 0, 1] _ _ _ [0, 0, 0, 0, 3] _ _ _, 0, 0) _
              refine xR_u (stop := 55) 20 10 _ _ rfl ?_
              change xR none 10 xi_X1_add xmi_X1_add (55, _, [.int 1], _, 0, 0) _
              exact ⟨20, rfl⟩
            exact ⟨20, rfl⟩) (by rfl) (by
            refine xR_u (stop := 16) 3000 11 _ _ rfl ?_
            apply xR_call (d := 10) rfl rfl rfl rfl
            · refine xR_u (stop := 1) 3000 10 _ _ rfl ?_
              refine xR_if (x := xs 1) rfl (fun z => absurd (xz_lt1 (b := 0) (by decide) z) (by omega)) (fun _ => ?_)
              refine xR_u (stop := 10) 3000 10 _ _ rfl ?_
              change xR none 10 xi_X10_isSet xmi_X10_isSet (10, _, [.int 3, .int 1, .int (xs 1)], _, 0, 0) _
              refine xR_u (stop := 11) 3000 10 _ _ rfl ?_
              refine xR_ic (x := xs 1) (y := (8 : Int32)) rfl (fun z => absurd (xz_ge1 (b := 8) (by decide) z) (by omega)) (fun _ => ?_)
              exact ⟨3000, rfl⟩
            refine xR_u (stop := 67) 100 11 _ _ rfl ?_
            change xR none 11 xi_X10_vote xmi_X10_vote (67, _, _, HV [0, 0, 0, 1] _ _ _ [0, 0, 0, 0, 3, 0, 0, 0, 0, 0, 0, 0, 0, 0, 0, 0, 0, 0, 0, 0, 0, 0, 0, 0, 0, 0, 0, 0, 0, 0, 0, 0, 0, 0, 0, 0, 0, 0, 0, 0, 0, 0, 0, 0, 0, 0, 0, 0, 0, 0, 0, 0, 0, 0, 0, 0, 0, 0, 0, 0, 0, 0, 0, 1] _ _ _, 0, 0) _
            refine xR_u (stop := 71) 20 11 _ _ rfl ?_
            change xR none 11 xi_X10_vote xmi_X10_vote (71, _, [.int 1], _, 0, 0) _
            exact ⟨20, rfl⟩)⟩
      · exact ⟨_, _, _, by decide, by decide, lw_23_1 xs hb (v := -1) (c1 := 0) (s1 := 0) (c2 := 0) (s2 := 0) (by
            refine xR_u (stop := 2) 3000 11 _ _ rfl ?_
            apply xR_call (d := 10) rfl rfl rfl rfl
            · refine xR_u (stop := 1) 3000 10 _ _ rfl ?_
              refine xR_if (x := xs 1) rfl (fun z => absurd (xz_lt1 (b := 0) (by decide) z) (by omega)) (fun _ => ?_)
              refine xR_u (stop := 11) 3000 10 _ _ rfl ?_
              refine xR_ic (x := xs 1) (y := (8 : Int32)) rfl (fun _ => ?_) (fun z => absurd (xz_ge0 (b := 8) (by decide) z) (by omega))
              exact ⟨3000, rfl⟩
            exact ⟨3000, rfl⟩) (by rfl) (by
            refine xR_u (stop := 16) 3000 11 _ _ rfl ?_
            apply xR_call (d := 10) rfl rfl rfl rfl
            · refine xR_u (stop := 1) 3000 10 _ _ rfl ?_
              refine xR_if (x := xs 1) rfl (fun z => absurd (xz_lt1 (b := 0) (by decide) z) (by omega)) (fun _ => ?_)
              refine xR_u (stop := 11) 3000 10 _ _ rfl ?_
              refine xR_ic (x := xs 1) (y := (8 : Int32)) rfl (fun _ => ?_) (fun z => absurd (xz_ge0 (b := 8) (by decide) z) (by omega))
              exact ⟨3000, rfl⟩
            exact ⟨3000, rfl⟩)⟩
set_option maxRecDepth 100000 in
set_option maxHeartbeats 8000000 in
theorem jd_0 (s t : Int32) : xR none 10 xi_X1_judge xmi_X1_judge (0, lv_args 0 [.ref 35, .int s, .int t], [], xf_h, 0, 0) (some (.int 2), xf_h, 0, 0) := ⟨100, rfl⟩
set_option maxRecDepth 100000 in
set_option maxHeartbeats 8000000 in
theorem so_0 (s t : Int32) : xR none 10 xi_X10_sureOf xmi_X10_sureOf (0, lv_args 0 [.ref 39, .int s, .int t], [], xf_h, 0, 0) (some (.int 2), xf_h, 0, 0) := ⟨100, rfl⟩
set_option maxRecDepth 100000 in
set_option maxHeartbeats 8000000 in
theorem op_26 (xs : Nat → Int32) : lw_C 977 xs := by
  have e0 : xh_ui xf_h 39 0 (Int32.ofInt 0) = xf_h := xh_eq_ok (by decide +kernel)
  exact ⟨_, _, _, by decide, by decide, lw_26 xs (v := 8) (h1 := xf_h) (h2 := xf_h) (c1 := 0) (s1 := 0) (c2 := 0) (s2 := 0) (by
      refine xR_u (stop := 4) 20 11 _ _ rfl ?_
      change xR none 11 xi_X9_open xmi_X9_open (4, [(3, .int 0), (2, .int 0), (0, .ref 0), (1, .int (xs 1))], [], xf_h, 0, 0) _
      refine xR_u (stop := 20) 40 11 _ _ rfl ?_
      refine xR_call rfl rfl rfl rfl (jd_0 _ _) ?_
      refine xR_u (stop := 4) 40 11 _ _ rfl ?_
      change xR none 11 xi_X9_open xmi_X9_open (4, [(3, .int 1), (2, .int 1), (0, .ref 0), (1, .int (xs 1))], [], xf_h, 0, 0) _
      refine xR_u (stop := 20) 40 11 _ _ rfl ?_
      refine xR_call rfl rfl rfl rfl (jd_0 _ _) ?_
      refine xR_u (stop := 4) 40 11 _ _ rfl ?_
      change xR none 11 xi_X9_open xmi_X9_open (4, [(3, .int 2), (2, .int 2), (0, .ref 0), (1, .int (xs 1))], [], xf_h, 0, 0) _
      refine xR_u (stop := 20) 40 11 _ _ rfl ?_
      refine xR_call rfl rfl rfl rfl (jd_0 _ _) ?_
      refine xR_u (stop := 4) 40 11 _ _ rfl ?_
      change xR none 11 xi_X9_open xmi_X9_open (4, [(3, .int 3), (2, .int 3), (0, .ref 0), (1, .int (xs 1))], [], xf_h, 0, 0) _
      refine xR_u (stop := 20) 40 11 _ _ rfl ?_
      refine xR_call rfl rfl rfl rfl (jd_0 _ _) ?_
      refine xR_u (stop := 4) 40 11 _ _ rfl ?_
      change xR none 11 xi_X9_open xmi_X9_open (4, [(3, .int 4), (2, .int 4), (0, .ref 0), (1, .int (xs 1))], [], xf_h, 0, 0) _
      refine xR_u (stop := 20) 40 11 _ _ rfl ?_
      refine xR_call rfl rfl rfl rfl (jd_0 _ _) ?_
      refine xR_u (stop := 4) 40 11 _ _ rfl ?_
      change xR none 11 xi_X9_open xmi_X9_open (4, [(3, .int 5), (2, .int 5), (0, .ref 0), (1, .int (xs 1))], [], xf_h, 0, 0) _
      refine xR_u (stop := 20) 40 11 _ _ rfl ?_
      refine xR_call rfl rfl rfl rfl (jd_0 _ _) ?_
      refine xR_u (stop := 4) 40 11 _ _ rfl ?_
      change xR none 11 xi_X9_open xmi_X9_open (4, [(3, .int 6), (2, .int 6), (0, .ref 0), (1, .int (xs 1))], [], xf_h, 0, 0) _
      refine xR_u (stop := 20) 40 11 _ _ rfl ?_
      refine xR_call rfl rfl rfl rfl (jd_0 _ _) ?_
      refine xR_u (stop := 4) 40 11 _ _ rfl ?_
      change xR none 11 xi_X9_open xmi_X9_open (4, [(3, .int 7), (2, .int 7), (0, .ref 0), (1, .int (xs 1))], [], xf_h, 0, 0) _
      refine xR_u (stop := 20) 40 11 _ _ rfl ?_
      refine xR_call rfl rfl rfl rfl (jd_0 _ _) ?_
      refine xR_u (stop := 4) 40 11 _ _ rfl ?_
      exact ⟨30, rfl⟩) (by rfl) (by
      refine xR_u (stop := 9) 20 11 _ _ rfl ?_
      change xR none 11 xi_X10_open xmi_X10_open (9, _, _, xh_ui xf_h 39 0 (Int32.ofInt 0), 0, 0) _
      rw [e0]
      change xR none 11 xi_X10_open xmi_X10_open (9, [(3, .int 0), (2, .int 0), (0, .ref 39), (1, .int (xs 1))], [], xf_h, 0, 0) _
      refine xR_u (stop := 22) 40 11 _ _ rfl ?_
      refine xR_call rfl rfl rfl rfl (so_0 _ _) ?_
      refine xR_u (stop := 9) 40 11 _ _ rfl ?_
      change xR none 11 xi_X10_open xmi_X10_open (9, [(3, .int 1), (2, .int 1), (0, .ref 39), (1, .int (xs 1))], [], xf_h, 0, 0) _
      refine xR_u (stop := 22) 40 11 _ _ rfl ?_
      refine xR_call rfl rfl rfl rfl (so_0 _ _) ?_
      refine xR_u (stop := 9) 40 11 _ _ rfl ?_
      change xR none 11 xi_X10_open xmi_X10_open (9, [(3, .int 2), (2, .int 2), (0, .ref 39), (1, .int (xs 1))], [], xf_h, 0, 0) _
      refine xR_u (stop := 22) 40 11 _ _ rfl ?_
      refine xR_call rfl rfl rfl rfl (so_0 _ _) ?_
      refine xR_u (stop := 9) 40 11 _ _ rfl ?_
      change xR none 11 xi_X10_open xmi_X10_open (9, [(3, .int 3), (2, .int 3), (0, .ref 39), (1, .int (xs 1))], [], xf_h, 0, 0) _
      refine xR_u (stop := 22) 40 11 _ _ rfl ?_
      refine xR_call rfl rfl rfl rfl (so_0 _ _) ?_
      refine xR_u (stop := 9) 40 11 _ _ rfl ?_
      change xR none 11 xi_X10_open xmi_X10_open (9, [(3, .int 4), (2, .int 4), (0, .ref 39), (1, .int (xs 1))], [], xf_h, 0, 0) _
      refine xR_u (stop := 22) 40 11 _ _ rfl ?_
      refine xR_call rfl rfl rfl rfl (so_0 _ _) ?_
      refine xR_u (stop := 9) 40 11 _ _ rfl ?_
      change xR none 11 xi_X10_open xmi_X10_open (9, [(3, .int 5), (2, .int 5), (0, .ref 39), (1, .int (xs 1))], [], xf_h, 0, 0) _
      refine xR_u (stop := 22) 40 11 _ _ rfl ?_
      refine xR_call rfl rfl rfl rfl (so_0 _ _) ?_
      refine xR_u (stop := 9) 40 11 _ _ rfl ?_
      change xR none 11 xi_X10_open xmi_X10_open (9, [(3, .int 6), (2, .int 6), (0, .ref 39), (1, .int (xs 1))], [], xf_h, 0, 0) _
      refine xR_u (stop := 22) 40 11 _ _ rfl ?_
      refine xR_call rfl rfl rfl rfl (so_0 _ _) ?_
      refine xR_u (stop := 9) 40 11 _ _ rfl ?_
      change xR none 11 xi_X10_open xmi_X10_open (9, [(3, .int 7), (2, .int 7), (0, .ref 39), (1, .int (xs 1))], [], xf_h, 0, 0) _
      refine xR_u (stop := 22) 40 11 _ _ rfl ?_
      refine xR_call rfl rfl rfl rfl (so_0 _ _) ?_
      refine xR_u (stop := 9) 40 11 _ _ rfl ?_
      exact ⟨30, rfl⟩)⟩
end XVT
