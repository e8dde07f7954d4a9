section XCL7
def xf_lo : xh_H := ([(0, 9), (0, 8), (2, 640), (0, 4), (0, 3), (1, 400), (1, 400), (1, 64), (0, 6), (1, 16), (1, 16), (0, 7), (4, 64), (5, 8), (0, 2), (1, 924), (1, 924), (1, 12), (1, 14), (1, 12), (4, 13), (0, 5), (1, 12), (1, 12), (1, 12), (1, 12), (1, 12), (1, 12), (0, 0), (1, 7), (1, 84), (1, 7), (1, 7), (1, 7), (1, 896), (0, 1), (1, 60), (1, 60), (3, 60), (0, 10), (1, 640), (3, 53248), (3, 53248), (3, 65536), (3, 32768), (3, 4096), (1, 53248), (1, 13), (1, 13), (1, 13), (4, 16), (1, 8), (1, 8), (3, 4096), (1, 12), (1, 12), (1, 12), (1, 12), (1, 13), (1, 924), (1, 924), (3, 144), (1, 84), (3, 49), (3, 49), (1, 56), (1, 7), (1, 7), (1, 60), (1, 60), (3, 60), (4, 1)],
  [[0, 0, 0, 0, 0, 0, 0, 0, 0, 3, 0, 0], [0, 0], [], [], [0, 0, 0, 0], [], [], [], [], [], [], [-1], [], [], [0, 0, 0, 0, 0, 0, 0, 0], [], [], [], [], [], [], [0, -1, 0, 0, 0, 0, 0, 0, 0, 0, 0, 0, 0, 0, 0, 0], [-1, -1, -1, -1, -1, -1, -1, -1, -1, -1, -1, -1], [], [], [], [], [], [], [-1, -1, -1, -1, -1, -1, -1], [0, 1, 2, 3, 4, 5, 6, 0, 1, 2, 3, 4, 5, 6, 0, 1, 2, 3, 4, 5, 6, 0, 1, 2, 3, 4, 5, 6, 0, 1, 2, 3, 4, 5, 6, 0, 1, 2, 3, 4, 5, 6, 0, 1, 2, 3, 4, 5, 6, 0, 1, 2, 3, 4, 5, 6, 0, 1, 2, 3, 4, 5, 6, 0, 1, 2, 3, 4, 5, 6, 0, 1, 2, 3, 4, 5, 6, 0, 1, 2, 3, 4, 5, 6], [], [], [], [], [0, 0, 0, 0], [], [], [], [0, 0, 0, 0, 3, 0, 0, 0, 0, 0, 0, 0, 0, 0, 0, 0, 0, 0, 0, 0, 0, 0, 0, 0, 0, 0, 0, 0, 0, 0, 0, 0, 0, 0, 0, 8], [], [], [], [], [], [], [], [], [], [], [], [], [], [0, 0, 0, 0, 0, 0, 0, 1], [], [], [], [], [], [], [], [], [0, 1, 2, 3, 4, 5, 6, 0, 1, 2, 3, 4, 5, 6, 0, 1, 2, 3, 4, 5, 6, 0, 1, 2, 3, 4, 5, 6, 0, 1, 2, 3, 4, 5, 6, 0, 1, 2, 3, 4, 5, 6, 0, 1, 2, 3, 4, 5, 6, 0, 1, 2, 3, 4, 5, 6, 0, 1, 2, 3, 4, 5, 6, 0, 1, 2, 3, 4, 5, 6, 0, 1, 2, 3, 4, 5, 6, 0, 1, 2, 3, 4, 5, 6], [0, 1, 1, 1, 1, 1, 1, 0, 0, 1, 1, 1, 1, 1, 0, 0, 0, 1, 1, 1, 1, 0, 0, 0, 0, 1, 1, 1, 0, 0, 0, 0, 0, 1, 1, 0, 0, 0, 0, 0, 0, 1, 0, 0, 0, 0, 0, 0, 0], [0, 0, 0, 0, 0, 0, 0, 1, 0, 0, 0, 0, 0, 0, 1, 1, 0, 0, 0, 0, 0, 1, 1, 1, 0, 0, 0, 0, 1, 1, 1, 1, 0, 0, 0, 1, 1, 1, 1, 1, 0, 0, 1, 1, 1, 1, 1, 1, 0], [], [], [], [], [], [], []],
  [[], [], [], [], [], [], [], [], [], [], [], [], [128, 0, 0, 0, 0, 0, 0, 0, 0, 0, 0, 0, 0, 0, 0, 0, 0, 0, 0, 0, 0, 0, 0, 0, 0, 0, 0, 0, 0, 0, 0, 0, 0, 0, 0, 0, 0, 0, 0, 0, 0, 0, 0, 0, 0, 0, 0, 0, 0, 0, 0, 0, 0, 0, 0, 0, 0, 0, 0, 0, 0, 0, 0, 0], [], [], [], [], [], [], [], [], [], [], [], [], [], [], [], [], [], [], [], [], [], [], [], [], [], [], [], [], [], [], [], [], [], [], [], [], [], [], [], [], [], [], [], [], [], [], [], [], [], [], [], [], [], [], [], [], [], [], []],
  [[some 1, some 3, some 11, some 13, some 14, some 21, some 28, some 35], [some 2], [], [some 4, some 8, some 9, some 10], [some 5, some 6, some 7], [], [], [], [some 1], [], [], [none, some 12], [], [], [some 15, some 16, some 17, some 18, some 19, some 20, some 11], [], [], [], [], [], [], [some 22, none, some 14, some 23, some 24, some 25, some 26, some 27, none, none, none, none, none, none, some 11], [], [], [], [], [], [], [some 29, none, some 30, some 31, some 32, some 33, some 34], [], [], [], [], [], [], [some 36, some 37, some 38], [], [], [], [none, some 40, none, none, none, none, none, none, none, none, none, none, none, none, none, none, some 41, some 42, some 43, some 44, some 45, some 46, some 47, some 48, some 49, some 50, none, none, none, none, none, some 51, some 52, none, some 53, none, none, none, some 54, some 55, some 56, some 57, some 58, some 59, some 60, some 61, none, none, none, none, none, none, none, some 62, some 63, some 64, some 65, some 66, some 67, none, some 68, some 69, some 70], [], [], [], [], [], [], [], [], [], [], [], [], [], [], [], [], [], [], [], [], [], [], [], [], [], [], [], [], [], [], [], []])
set_option maxRecDepth 100000 in
theorem cl_lo : xx_b (xe_x xM xC none 14000 10 xi_X10_layOptions xmi_X10_layOptions (0, lv_args 0 [.ref 39], [], xh_ui xf_h 39 0 (Int32.ofInt 0), 0, 0)) (none, xf_lo, 0, 0) = true := by decide +kernel
set_option maxRecDepth 100000 in
set_option maxHeartbeats 8000000 in
theorem op_17 (xs : Nat → Int32) : lw_C 708 xs := by
  by_cases h1 : (xs 1).toInt < 0
  · exact ⟨_, _, _, by decide, by decide, lw_17 xs (v := -1) (c1 := 0) (s1 := 0) (c2 := 0) (s2 := 0) (by
        refine xR_u (stop := 1) 3000 11 _ _ rfl ?_
        apply xR_call (d := 10) rfl rfl rfl rfl
        · refine xR_u (stop := 1) 3000 10 _ _ rfl ?_
          refine xR_if (x := xs 1) rfl (fun _ => ?_) (fun z => absurd (xz_lt0 (b := 0) (by decide) z) (by omega))
          exact ⟨3000, rfl⟩
        exact ⟨3000, rfl⟩) (by rfl) (by
        refine xR_u (stop := 6) 3000 11 _ _ rfl ?_
        apply xR_call (d := 10) rfl rfl rfl rfl
        · refine xR_u (stop := 1) 3000 10 _ _ rfl ?_
          refine xR_if (x := xs 1) rfl (fun _ => ?_) (fun z => absurd (xz_lt0 (b := 0) (by decide) z) (by omega))
          exact ⟨3000, rfl⟩
        exact ⟨3000, rfl⟩)⟩
  · by_cases h2 : (xs 1).toInt < 7
    · by_cases h3 : (xs 2).toInt < 0
      · exact ⟨_, _, _, by decide, by decide, lw_17 xs (v := -1) (c1 := 0) (s1 := 0) (c2 := 0) (s2 := 0) (by
            refine xR_u (stop := 1) 3000 11 _ _ rfl ?_
            apply xR_call (d := 10) rfl rfl rfl rfl
            · refine xR_u (stop := 1) 3000 10 _ _ rfl ?_
              refine xR_if (x := xs 1) rfl (fun z => absurd (xz_lt1 (b := 0) (by decide) z) (by omega)) (fun _ => ?_)
              refine xR_u (stop := 7) 3000 10 _ _ rfl ?_
              refine xR_ic (x := xs 1) (y := (7 : Int32)) rfl (fun z => absurd (xz_ge1 (b := 7) (by decide) z) (by omega)) (fun _ => ?_)
              exact ⟨3000, rfl⟩
            refine xR_u (stop := 8) 3000 11 _ _ rfl ?_
            apply xR_call (d := 10) rfl rfl rfl rfl
            · refine xR_u (stop := 1) 3000 10 _ _ rfl ?_
              refine xR_if (x := xs 2) rfl (fun _ => ?_) (fun z => absurd (xz_lt0 (b := 0) (by decide) z) (by omega))
              exact ⟨3000, rfl⟩
            exact ⟨3000, rfl⟩) (by rfl) (by
            refine xR_u (stop := 6) 3000 11 _ _ rfl ?_
            apply xR_call (d := 10) rfl rfl rfl rfl
            · refine xR_u (stop := 1) 3000 10 _ _ rfl ?_
              refine xR_if (x := xs 1) rfl (fun z => absurd (xz_lt1 (b := 0) (by decide) z) (by omega)) (fun _ => ?_)
              refine xR_u (stop := 7) 3000 10 _ _ rfl ?_
              refine xR_ic (x := xs 1) (y := (7 : Int32)) rfl (fun z => absurd (xz_ge1 (b := 7) (by decide) z) (by omega)) (fun _ => ?_)
              exact ⟨3000, rfl⟩
            refine xR_u (stop := 13) 3000 11 _ _ rfl ?_
            apply xR_call (d := 10) rfl rfl rfl rfl
            · refine xR_u (stop := 1) 3000 10 _ _ rfl ?_
              refine xR_if (x := xs 2) rfl (fun _ => ?_) (fun z => absurd (xz_lt0 (b := 0) (by decide) z) (by omega))
              exact ⟨3000, rfl⟩
            exact ⟨3000, rfl⟩)⟩
      · by_cases h4 : (xs 2).toInt < 7
        · obtain ⟨j, hj, hx⟩ := vp_in_of (x := xs 1) (n := 7) (vp_in_iff.mpr ⟨by omega, by omega⟩) (by decide)
          match j, hj, hx with
          | 0, _, hx =>
            have hx : xs 1 = 0 := hx
            obtain ⟨k, hk, hy⟩ := vp_in_of (x := xs 2) (n := 7) (vp_in_iff.mpr ⟨by omega, by omega⟩) (by decide)
            match k, hk, hy with
            | 0, _, hy =>
              have hy : xs 2 = 0 := hy
              exact ⟨_, _, _, by decide, by decide, lw_17 xs (v := (-1)) (c1 := 0) (s1 := 0) (c2 := 0) (s2 := 0) (by
                  rw [hx]; rw [hy]
                  exact xR_cl (f := 300) (by decide +kernel)) (by decide +kernel) (by
                  rw [hx]; rw [hy]
                  exact xR_cl (f := 300) (by decide +kernel))⟩
            | 1, _, hy =>
              have hy : xs 2 = 1 := hy
              exact ⟨_, _, _, by decide, by decide, lw_17 xs (v := (1)) (h1 := xf_h) (c1 := 0) (s1 := 0) (c2 := 0) (s2 := 0) (by
                  rw [hx, hy]
                  exact ⟨400, xx_b_ok (by decide +kernel)⟩) (by rfl) (by
                  rw [hx, hy]
                  refine xR_u (stop := 27) 300 11 _ _ rfl ?_
                  refine xR_call rfl rfl rfl rfl ⟨14000, xx_b_ok cl_lo⟩ ?_
                  exact xR_cl (f := 100) (by decide +kernel))⟩
            | 2, _, hy =>
              have hy : xs 2 = 2 := hy
              exact ⟨_, _, _, by decide, by decide, lw_17 xs (v := (1)) (h1 := xf_h) (c1 := 0) (s1 := 0) (c2 := 0) (s2 := 0) (by
                  rw [hx, hy]
                  exact ⟨400, xx_b_ok (by decide +kernel)⟩) (by rfl) (by
                  rw [hx, hy]
                  refine xR_u (stop := 27) 300 11 _ _ rfl ?_
                  refine xR_call rfl rfl rfl rfl ⟨14000, xx_b_ok cl_lo⟩ ?_
                  exact xR_cl (f := 100) (by decide +kernel))⟩
            | 3, _, hy =>
              have hy : xs 2 = 3 := hy
              exact ⟨_, _, _, by decide, by decide, lw_17 xs (v := (1)) (h1 := xf_h) (c1 := 0) (s1 := 0) (c2 := 0) (s2 := 0) (by
                  rw [hx, hy]
                  exact ⟨400, xx_b_ok (by decide +kernel)⟩) (by rfl) (by
                  rw [hx, hy]
                  refine xR_u (stop := 27) 300 11 _ _ rfl ?_
                  refine xR_call rfl rfl rfl rfl ⟨14000, xx_b_ok cl_lo⟩ ?_
                  exact xR_cl (f := 100) (by decide +kernel))⟩
            | 4, _, hy =>
              have hy : xs 2 = 4 := hy
              exact ⟨_, _, _, by decide, by decide, lw_17 xs (v := (1)) (h1 := xf_h) (c1 := 0) (s1 := 0) (c2 := 0) (s2 := 0) (by
                  rw [hx, hy]
                  exact ⟨400, xx_b_ok (by decide +kernel)⟩) (by rfl) (by
                  rw [hx, hy]
                  refine xR_u (stop := 27) 300 11 _ _ rfl ?_
                  refine xR_call rfl rfl rfl rfl ⟨14000, xx_b_ok cl_lo⟩ ?_
                  exact xR_cl (f := 100) (by decide +kernel))⟩
            | 5, _, hy =>
              have hy : xs 2 = 5 := hy
              exact ⟨_, _, _, by decide, by decide, lw_17 xs (v := (1)) (h1 := xf_h) (c1 := 0) (s1 := 0) (c2 := 0) (s2 := 0) (by
                  rw [hx, hy]
                  exact ⟨400, xx_b_ok (by decide +kernel)⟩) (by rfl) (by
                  rw [hx, hy]
                  refine xR_u (stop := 27) 300 11 _ _ rfl ?_
                  refine xR_call rfl rfl rfl rfl ⟨14000, xx_b_ok cl_lo⟩ ?_
                  exact xR_cl (f := 100) (by decide +kernel))⟩
            | 6, _, hy =>
              have hy : xs 2 = 6 := hy
              exact ⟨_, _, _, by decide, by decide, lw_17 xs (v := (1)) (h1 := xf_h) (c1 := 0) (s1 := 0) (c2 := 0) (s2 := 0) (by
                  rw [hx, hy]
                  exact ⟨400, xx_b_ok (by decide +kernel)⟩) (by rfl) (by
                  rw [hx, hy]
                  refine xR_u (stop := 27) 300 11 _ _ rfl ?_
                  refine xR_call rfl rfl rfl rfl ⟨14000, xx_b_ok cl_lo⟩ ?_
                  exact xR_cl (f := 100) (by decide +kernel))⟩
            | k + 7, hk, _ => omega
          | 1, _, hx =>
            have hx : xs 1 = 1 := hx
            obtain ⟨k, hk, hy⟩ := vp_in_of (x := xs 2) (n := 7) (vp_in_iff.mpr ⟨by omega, by omega⟩) (by decide)
            match k, hk, hy with
            | 0, _, hy =>
              have hy : xs 2 = 0 := hy
              exact ⟨_, _, _, by decide, by decide, lw_17 xs (v := (0)) (h1 := xf_h) (c1 := 0) (s1 := 0) (c2 := 0) (s2 := 0) (by
                  rw [hx, hy]
                  exact ⟨400, xx_b_ok (by decide +kernel)⟩) (by rfl) (by
                  rw [hx, hy]
                  refine xR_u (stop := 27) 300 11 _ _ rfl ?_
                  refine xR_call rfl rfl rfl rfl ⟨14000, xx_b_ok cl_lo⟩ ?_
                  exact xR_cl (f := 100) (by decide +kernel))⟩
            | 1, _, hy =>
              have hy : xs 2 = 1 := hy
              exact ⟨_, _, _, by decide, by decide, lw_17 xs (v := (-1)) (c1 := 0) (s1 := 0) (c2 := 0) (s2 := 0) (by
                  rw [hx]; rw [hy]
                  exact xR_cl (f := 300) (by decide +kernel)) (by decide +kernel) (by
                  rw [hx]; rw [hy]
                  exact xR_cl (f := 300) (by decide +kernel))⟩
            | 2, _, hy =>
              have hy : xs 2 = 2 := hy
              exact ⟨_, _, _, by decide, by decide, lw_17 xs (v := (1)) (h1 := xf_h) (c1 := 0) (s1 := 0) (c2 := 0) (s2 := 0) (by
                  rw [hx, hy]
                  exact ⟨400, xx_b_ok (by decide +kernel)⟩) (by rfl) (by
                  rw [hx, hy]
                  refine xR_u (stop := 27) 300 11 _ _ rfl ?_
                  refine xR_call rfl rfl rfl rfl ⟨14000, xx_b_ok cl_lo⟩ ?_
                  exact xR_cl (f := 100) (by decide +kernel))⟩
            | 3, _, hy =>
              have hy : xs 2 = 3 := hy
              exact ⟨_, _, _, by decide, by decide, lw_17 xs (v := (1)) (h1 := xf_h) (c1 := 0) (s1 := 0) (c2 := 0) (s2 := 0) (by
                  rw [hx, hy]
                  exact ⟨400, xx_b_ok (by decide +kernel)⟩) (by rfl) (by
                  rw [hx, hy]
                  refine xR_u (stop := 27) 300 11 _ _ rfl ?_
                  refine xR_call rfl rfl rfl rfl ⟨14000, xx_b_ok cl_lo⟩ ?_
                  exact xR_cl (f := 100) (by decide +kernel))⟩
            | 4, _, hy =>
              have hy : xs 2 = 4 := hy
              exact ⟨_, _, _, by decide, by decide, lw_17 xs (v := (1)) (h1 := xf_h) (c1 := 0) (s1 := 0) (c2 := 0) (s2 := 0) (by
                  rw [hx, hy]
                  exact ⟨400, xx_b_ok (by decide +kernel)⟩) (by rfl) (by
                  rw [hx, hy]
                  refine xR_u (stop := 27) 300 11 _ _ rfl ?_
                  refine xR_call rfl rfl rfl rfl ⟨14000, xx_b_ok cl_lo⟩ ?_
                  exact xR_cl (f := 100) (by decide +kernel))⟩
            | 5, _, hy =>
              have hy : xs 2 = 5 := hy
              exact ⟨_, _, _, by decide, by decide, lw_17 xs (v := (1)) (h1 := xf_h) (c1 := 0) (s1 := 0) (c2 := 0) (s2 := 0) (by
                  rw [hx, hy]
                  exact ⟨400, xx_b_ok (by decide +kernel)⟩) (by rfl) (by
                  rw [hx, hy]
                  refine xR_u (stop := 27) 300 11 _ _ rfl ?_
                  refine xR_call rfl rfl rfl rfl ⟨14000, xx_b_ok cl_lo⟩ ?_
                  exact xR_cl (f := 100) (by decide +kernel))⟩
            | 6, _, hy =>
              have hy : xs 2 = 6 := hy
              exact ⟨_, _, _, by decide, by decide, lw_17 xs (v := (1)) (h1 := xf_h) (c1 := 0) (s1 := 0) (c2 := 0) (s2 := 0) (by
                  rw [hx, hy]
                  exact ⟨400, xx_b_ok (by decide +kernel)⟩) (by rfl) (by
                  rw [hx, hy]
                  refine xR_u (stop := 27) 300 11 _ _ rfl ?_
                  refine xR_call rfl rfl rfl rfl ⟨14000, xx_b_ok cl_lo⟩ ?_
                  exact xR_cl (f := 100) (by decide +kernel))⟩
            | k + 7, hk, _ => omega
          | 2, _, hx =>
            have hx : xs 1 = 2 := hx
            obtain ⟨k, hk, hy⟩ := vp_in_of (x := xs 2) (n := 7) (vp_in_iff.mpr ⟨by omega, by omega⟩) (by decide)
            match k, hk, hy with
            | 0, _, hy =>
              have hy : xs 2 = 0 := hy
              exact ⟨_, _, _, by decide, by decide, lw_17 xs (v := (0)) (h1 := xf_h) (c1 := 0) (s1 := 0) (c2 := 0) (s2 := 0) (by
                  rw [hx, hy]
                  exact ⟨400, xx_b_ok (by decide +kernel)⟩) (by rfl) (by
                  rw [hx, hy]
                  refine xR_u (stop := 27) 300 11 _ _ rfl ?_
                  refine xR_call rfl rfl rfl rfl ⟨14000, xx_b_ok cl_lo⟩ ?_
                  exact xR_cl (f := 100) (by decide +kernel))⟩
            | 1, _, hy =>
              have hy : xs 2 = 1 := hy
              exact ⟨_, _, _, by decide, by decide, lw_17 xs (v := (0)) (h1 := xf_h) (c1 := 0) (s1 := 0) (c2 := 0) (s2 := 0) (by
                  rw [hx, hy]
                  exact ⟨400, xx_b_ok (by decide +kernel)⟩) (by rfl) (by
                  rw [hx, hy]
                  refine xR_u (stop := 27) 300 11 _ _ rfl ?_
                  refine xR_call rfl rfl rfl rfl ⟨14000, xx_b_ok cl_lo⟩ ?_
                  exact xR_cl (f := 100) (by decide +kernel))⟩
            | 2, _, hy =>
              have hy : xs 2 = 2 := hy
              exact ⟨_, _, _, by decide, by decide, lw_17 xs (v := (-1)) (c1 := 0) (s1 := 0) (c2 := 0) (s2 := 0) (by
                  rw [hx]; rw [hy]
                  exact xR_cl (f := 300) (by decide +kernel)) (by decide +kernel) (by
                  rw [hx]; rw [hy]
                  exact xR_cl (f := 300) (by decide +kernel))⟩
            | 3, _, hy =>
              have hy : xs 2 = 3 := hy
              exact ⟨_, _, _, by decide, by decide, lw_17 xs (v := (1)) (h1 := xf_h) (c1 := 0) (s1 := 0) (c2 := 0) (s2 := 0) (by
                  rw [hx, hy]
                  exact ⟨400, xx_b_ok (by decide +kernel)⟩) (by rfl) (by
                  rw [hx, hy]
                  refine xR_u (stop := 27) 300 11 _ _ rfl ?_
                  refine xR_call rfl rfl rfl rfl ⟨14000, xx_b_ok cl_lo⟩ ?_
                  exact xR_cl (f := 100) (by decide +kernel))⟩
            | 4, _, hy =>
              have hy : xs 2 = 4 := hy
              exact ⟨_, _, _, by decide, by decide, lw_17 xs (v := (1)) (h1 := xf_h) (c1 := 0) (s1 := 0) (c2 := 0) (s2 := 0) (by
                  rw [hx, hy]
                  exact ⟨400, xx_b_ok (by decide +kernel)⟩) (by rfl) (by
                  rw [hx, hy]
                  refine xR_u (stop := 27) 300 11 _ _ rfl ?_
                  refine xR_call rfl rfl rfl rfl ⟨14000, xx_b_ok cl_lo⟩ ?_
                  exact xR_cl (f := 100) (by decide +kernel))⟩
            | 5, _, hy =>
              have hy : xs 2 = 5 := hy
              exact ⟨_, _, _, by decide, by decide, lw_17 xs (v := (1)) (h1 := xf_h) (c1 := 0) (s1 := 0) (c2 := 0) (s2 := 0) (by
                  rw [hx, hy]
                  exact ⟨400, xx_b_ok (by decide +kernel)⟩) (by rfl) (by
                  rw [hx, hy]
                  refine xR_u (stop := 27) 300 11 _ _ rfl ?_
                  refine xR_call rfl rfl rfl rfl ⟨14000, xx_b_ok cl_lo⟩ ?_
                  exact xR_cl (f := 100) (by decide +kernel))⟩
            | 6, _, hy =>
              have hy : xs 2 = 6 := hy
              exact ⟨_, _, _, by decide, by decide, lw_17 xs (v := (1)) (h1 := xf_h) (c1 := 0) (s1 := 0) (c2 := 0) (s2 := 0) (by
                  rw [hx, hy]
                  exact ⟨400, xx_b_ok (by decide +kernel)⟩) (by rfl) (by
                  rw [hx, hy]
                  refine xR_u (stop := 27) 300 11 _ _ rfl ?_
                  refine xR_call rfl rfl rfl rfl ⟨14000, xx_b_ok cl_lo⟩ ?_
                  exact xR_cl (f := 100) (by decide +kernel))⟩
            | k + 7, hk, _ => omega
          | 3, _, hx =>
            have hx : xs 1 = 3 := hx
            obtain ⟨k, hk, hy⟩ := vp_in_of (x := xs 2) (n := 7) (vp_in_iff.mpr ⟨by omega, by omega⟩) (by decide)
            match k, hk, hy with
            | 0, _, hy =>
              have hy : xs 2 = 0 := hy
              exact ⟨_, _, _, by decide, by decide, lw_17 xs (v := (0)) (h1 := xf_h) (c1 := 0) (s1 := 0) (c2 := 0) (s2 := 0) (by
                  rw [hx, hy]
                  exact ⟨400, xx_b_ok (by decide +kernel)⟩) (by rfl) (by
                  rw [hx, hy]
                  refine xR_u (stop := 27) 300 11 _ _ rfl ?_
                  refine xR_call rfl rfl rfl rfl ⟨14000, xx_b_ok cl_lo⟩ ?_
                  exact xR_cl (f := 100) (by decide +kernel))⟩
            | 1, _, hy =>
              have hy : xs 2 = 1 := hy
              exact ⟨_, _, _, by decide, by decide, lw_17 xs (v := (0)) (h1 := xf_h) (c1 := 0) (s1 := 0) (c2 := 0) (s2 := 0) (by
                  rw [hx, hy]
                  exact ⟨400, xx_b_ok (by decide +kernel)⟩) (by rfl) (by
                  rw [hx, hy]
                  refine xR_u (stop := 27) 300 11 _ _ rfl ?_
                  refine xR_call rfl rfl rfl rfl ⟨14000, xx_b_ok cl_lo⟩ ?_
                  exact xR_cl (f := 100) (by decide +kernel))⟩
            | 2, _, hy =>
              have hy : xs 2 = 2 := hy
              exact ⟨_, _, _, by decide, by decide, lw_17 xs (v := (0)) (h1 := xf_h) (c1 := 0) (s1 := 0) (c2 := 0) (s2 := 0) (by
                  rw [hx, hy]
                  exact ⟨400, xx_b_ok (by decide +kernel)⟩) (by rfl) (by
                  rw [hx, hy]
                  refine xR_u (stop := 27) 300 11 _ _ rfl ?_
                  refine xR_call rfl rfl rfl rfl ⟨14000, xx_b_ok cl_lo⟩ ?_
                  exact xR_cl (f := 100) (by decide +kernel))⟩
            | 3, _, hy =>
              have hy : xs 2 = 3 := hy
              exact ⟨_, _, _, by decide, by decide, lw_17 xs (v := (-1)) (c1 := 0) (s1 := 0) (c2 := 0) (s2 := 0) (by
                  rw [hx]; rw [hy]
                  exact xR_cl (f := 300) (by decide +kernel)) (by decide +kernel) (by
                  rw [hx]; rw [hy]
                  exact xR_cl (f := 300) (by decide +kernel))⟩
            | 4, _, hy =>
              have hy : xs 2 = 4 := hy
              exact ⟨_, _, _, by decide, by decide, lw_17 xs (v := (1)) (h1 := xf_h) (c1 := 0) (s1 := 0) (c2 := 0) (s2 := 0) (by
                  rw [hx, hy]
                  exact ⟨400, xx_b_ok (by decide +kernel)⟩) (by rfl) (by
                  rw [hx, hy]
                  refine xR_u (stop := 27) 300 11 _ _ rfl ?_
                  refine xR_call rfl rfl rfl rfl ⟨14000, xx_b_ok cl_lo⟩ ?_
                  exact xR_cl (f := 100) (by decide +kernel))⟩
            | 5, _, hy =>
              have hy : xs 2 = 5 := hy
              exact ⟨_, _, _, by decide, by decide, lw_17 xs (v := (1)) (h1 := xf_h) (c1 := 0) (s1 := 0) (c2 := 0) (s2 := 0) (by
                  rw [hx, hy]
                  exact ⟨400, xx_b_ok (by decide +kernel)⟩) (by rfl) (by
                  rw [hx, hy]
                  refine xR_u (stop := 27) 300 11 _ _ rfl ?_
                  refine xR_call rfl rfl rfl rfl ⟨14000, xx_b_ok cl_lo⟩ ?_
                  exact xR_cl (f := 100) (by decide +kernel))⟩
            | 6, _, hy =>
              have hy : xs 2 = 6 := hy
              exact ⟨_, _, _, by decide, by decide, lw_17 xs (v := (1)) (h1 := xf_h) (c1 := 0) (s1 := 0) (c2 := 0) (s2 := 0) (by
                  rw [hx, hy]
                  exact ⟨400, xx_b_ok (by decide +kernel)⟩) (by rfl) (by
                  rw [hx, hy]
                  refine xR_u (stop := 27) 300 11 _ _ rfl ?_
                  refine xR_call rfl rfl rfl rfl ⟨14000, xx_b_ok cl_lo⟩ ?_
                  exact xR_cl (f := 100) (by decide +kernel))⟩
            | k + 7, hk, _ => omega
          | 4, _, hx =>
            have hx : xs 1 = 4 := hx
            obtain ⟨k, hk, hy⟩ := vp_in_of (x := xs 2) (n := 7) (vp_in_iff.mpr ⟨by omega, by omega⟩) (by decide)
            match k, hk, hy with
            | 0, _, hy =>
              have hy : xs 2 = 0 := hy
              exact ⟨_, _, _, by decide, by decide, lw_17 xs (v := (0)) (h1 := xf_h) (c1 := 0) (s1 := 0) (c2 := 0) (s2 := 0) (by
                  rw [hx, hy]
                  exact ⟨400, xx_b_ok (by decide +kernel)⟩) (by rfl) (by
                  rw [hx, hy]
                  refine xR_u (stop := 27) 300 11 _ _ rfl ?_
                  refine xR_call rfl rfl rfl rfl ⟨14000, xx_b_ok cl_lo⟩ ?_
                  exact xR_cl (f := 100) (by decide +kernel))⟩
            | 1, _, hy =>
              have hy : xs 2 = 1 := hy
              exact ⟨_, _, _, by decide, by decide, lw_17 xs (v := (0)) (h1 := xf_h) (c1 := 0) (s1 := 0) (c2 := 0) (s2 := 0) (by
                  rw [hx, hy]
                  exact ⟨400, xx_b_ok (by decide +kernel)⟩) (by rfl) (by
                  rw [hx, hy]
                  refine xR_u (stop := 27) 300 11 _ _ rfl ?_
                  refine xR_call rfl rfl rfl rfl ⟨14000, xx_b_ok cl_lo⟩ ?_
                  exact xR_cl (f := 100) (by decide +kernel))⟩
            | 2, _, hy =>
              have hy : xs 2 = 2 := hy
              exact ⟨_, _, _, by decide, by decide, lw_17 xs (v := (0)) (h1 := xf_h) (c1 := 0) (s1 := 0) (c2 := 0) (s2 := 0) (by
                  rw [hx, hy]
                  exact ⟨400, xx_b_ok (by decide +kernel)⟩) (by rfl) (by
                  rw [hx, hy]
                  refine xR_u (stop := 27) 300 11 _ _ rfl ?_
                  refine xR_call rfl rfl rfl rfl ⟨14000, xx_b_ok cl_lo⟩ ?_
                  exact xR_cl (f := 100) (by decide +kernel))⟩
            | 3, _, hy =>
              have hy : xs 2 = 3 := hy
              exact ⟨_, _, _, by decide, by decide, lw_17 xs (v := (0)) (h1 := xf_h) (c1 := 0) (s1 := 0) (c2 := 0) (s2 := 0) (by
                  rw [hx, hy]
                  exact ⟨400, xx_b_ok (by decide +kernel)⟩) (by rfl) (by
                  rw [hx, hy]
                  refine xR_u (stop := 27) 300 11 _ _ rfl ?_
                  refine xR_call rfl rfl rfl rfl ⟨14000, xx_b_ok cl_lo⟩ ?_
                  exact xR_cl (f := 100) (by decide +kernel))⟩
            | 4, _, hy =>
              have hy : xs 2 = 4 := hy
              exact ⟨_, _, _, by decide, by decide, lw_17 xs (v := (-1)) (c1 := 0) (s1 := 0) (c2 := 0) (s2 := 0) (by
                  rw [hx]; rw [hy]
                  exact xR_cl (f := 300) (by decide +kernel)) (by decide +kernel) (by
                  rw [hx]; rw [hy]
                  exact xR_cl (f := 300) (by decide +kernel))⟩
            | 5, _, hy =>
              have hy : xs 2 = 5 := hy
              exact ⟨_, _, _, by decide, by decide, lw_17 xs (v := (1)) (h1 := xf_h) (c1 := 0) (s1 := 0) (c2 := 0) (s2 := 0) (by
                  rw [hx, hy]
                  exact ⟨400, xx_b_ok (by decide +kernel)⟩) (by rfl) (by
                  rw [hx, hy]
                  refine xR_u (stop := 27) 300 11 _ _ rfl ?_
                  refine xR_call rfl rfl rfl rfl ⟨14000, xx_b_ok cl_lo⟩ ?_
                  exact xR_cl (f := 100) (by decide +kernel))⟩
            | 6, _, hy =>
              have hy : xs 2 = 6 := hy
              exact ⟨_, _, _, by decide, by decide, lw_17 xs (v := (1)) (h1 := xf_h) (c1 := 0) (s1 := 0) (c2 := 0) (s2 := 0) (by
                  rw [hx, hy]
                  exact ⟨400, xx_b_ok (by decide +kernel)⟩) (by rfl) (by
                  rw [hx, hy]
                  refine xR_u (stop := 27) 300 11 _ _ rfl ?_
                  refine xR_call rfl rfl rfl rfl ⟨14000, xx_b_ok cl_lo⟩ ?_
                  exact xR_cl (f := 100) (by decide +kernel))⟩
            | k + 7, hk, _ => omega
          | 5, _, hx =>
            have hx : xs 1 = 5 := hx
            obtain ⟨k, hk, hy⟩ := vp_in_of (x := xs 2) (n := 7) (vp_in_iff.mpr ⟨by omega, by omega⟩) (by decide)
            match k, hk, hy with
            | 0, _, hy =>
              have hy : xs 2 = 0 := hy
              exact ⟨_, _, _, by decide, by decide, lw_17 xs (v := (0)) (h1 := xf_h) (c1 := 0) (s1 := 0) (c2 := 0) (s2 := 0) (by
                  rw [hx, hy]
                  exact ⟨400, xx_b_ok (by decide +kernel)⟩) (by rfl) (by
                  rw [hx, hy]
                  refine xR_u (stop := 27) 300 11 _ _ rfl ?_
                  refine xR_call rfl rfl rfl rfl ⟨14000, xx_b_ok cl_lo⟩ ?_
                  exact xR_cl (f := 100) (by decide +kernel))⟩
            | 1, _, hy =>
              have hy : xs 2 = 1 := hy
              exact ⟨_, _, _, by decide, by decide, lw_17 xs (v := (0)) (h1 := xf_h) (c1 := 0) (s1 := 0) (c2 := 0) (s2 := 0) (by
                  rw [hx, hy]
                  exact ⟨400, xx_b_ok (by decide +kernel)⟩) (by rfl) (by
                  rw [hx, hy]
                  refine xR_u (stop := 27) 300 11 _ _ rfl ?_
                  refine xR_call rfl rfl rfl rfl ⟨14000, xx_b_ok cl_lo⟩ ?_
                  exact xR_cl (f := 100) (by decide +kernel))⟩
            | 2, _, hy =>
              have hy : xs 2 = 2 := hy
              exact ⟨_, _, _, by decide, by decide, lw_17 xs (v := (0)) (h1 := xf_h) (c1 := 0) (s1 := 0) (c2 := 0) (s2 := 0) (by
                  rw [hx, hy]
                  exact ⟨400, xx_b_ok (by decide +kernel)⟩) (by rfl) (by
                  rw [hx, hy]
                  refine xR_u (stop := 27) 300 11 _ _ rfl ?_
                  refine xR_call rfl rfl rfl rfl ⟨14000, xx_b_ok cl_lo⟩ ?_
                  exact xR_cl (f := 100) (by decide +kernel))⟩
            | 3, _, hy =>
              have hy : xs 2 = 3 := hy
              exact ⟨_, _, _, by decide, by decide, lw_17 xs (v := (0)) (h1 := xf_h) (c1 := 0) (s1 := 0) (c2 := 0) (s2 := 0) (by
                  rw [hx, hy]
                  exact ⟨400, xx_b_ok (by decide +kernel)⟩) (by rfl) (by
                  rw [hx, hy]
                  refine xR_u (stop := 27) 300 11 _ _ rfl ?_
                  refine xR_call rfl rfl rfl rfl ⟨14000, xx_b_ok cl_lo⟩ ?_
                  exact xR_cl (f := 100) (by decide +kernel))⟩
            | 4, _, hy =>
              have hy : xs 2 = 4 := hy
              exact ⟨_, _, _, by decide, by decide, lw_17 xs (v := (0)) (h1 := xf_h) (c1 := 0) (s1 := 0) (c2 := 0) (s2 := 0) (by
                  rw [hx, hy]
                  exact ⟨400, xx_b_ok (by decide +kernel)⟩) (by rfl) (by
                  rw [hx, hy]
                  refine xR_u (stop := 27) 300 11 _ _ rfl ?_
                  refine xR_call rfl rfl rfl rfl ⟨14000, xx_b_ok cl_lo⟩ ?_
                  exact xR_cl (f := 100) (by decide +kernel))⟩
            | 5, _, hy =>
              have hy : xs 2 = 5 := hy
              exact ⟨_, _, _, by decide, by decide, lw_17 xs (v := (-1)) (c1 := 0) (s1 := 0) (c2 := 0) (s2 := 0) (by
                  rw [hx]; rw [hy]
                  exact xR_cl (f := 300) (by decide +kernel)) (by decide +kernel) (by
                  rw [hx]; rw [hy]
                  exact xR_cl (f := 300) (by decide +kernel))⟩
            | 6, _, hy =>
              have hy : xs 2 = 6 := hy
              exact ⟨_, _, _, by decide, by decide, lw_17 xs (v := (1)) (h1 := xf_h) (c1 := 0) (s1 := 0) (c2 := 0) (s2 := 0) (by
                  rw [hx, hy]
                  exact ⟨400, xx_b_ok (by decide +kernel)⟩) (by rfl) (by
                  rw [hx, hy]
                  refine xR_u (stop := 27) 300 11 _ _ rfl ?_
                  refine xR_call rfl rfl rfl rfl ⟨14000, xx_b_ok cl_lo⟩ ?_
                  exact xR_cl (f := 100) (by decide +kernel))⟩
            | k + 7, hk, _ => omega
          | 6, _, hx =>
            have hx : xs 1 = 6 := hx
            obtain ⟨k, hk, hy⟩ := vp_in_of (x := xs 2) (n := 7) (vp_in_iff.mpr ⟨by omega, by omega⟩) (by decide)
            match k, hk, hy with
            | 0, _, hy =>
              have hy : xs 2 = 0 := hy
              exact ⟨_, _, _, by decide, by decide, lw_17 xs (v := (0)) (h1 := xf_h) (c1 := 0) (s1 := 0) (c2 := 0) (s2 := 0) (by
                  rw [hx, hy]
                  exact ⟨400, xx_b_ok (by decide +kernel)⟩) (by rfl) (by
                  rw [hx, hy]
                  refine xR_u (stop := 27) 300 11 _ _ rfl ?_
                  refine xR_call rfl rfl rfl rfl ⟨14000, xx_b_ok cl_lo⟩ ?_
                  exact xR_cl (f := 100) (by decide +kernel))⟩
            | 1, _, hy =>
              have hy : xs 2 = 1 := hy
              exact ⟨_, _, _, by decide, by decide, lw_17 xs (v := (0)) (h1 := xf_h) (c1 := 0) (s1 := 0) (c2 := 0) (s2 := 0) (by
                  rw [hx, hy]
                  exact ⟨400, xx_b_ok (by decide +kernel)⟩) (by rfl) (by
                  rw [hx, hy]
                  refine xR_u (stop := 27) 300 11 _ _ rfl ?_
                  refine xR_call rfl rfl rfl rfl ⟨14000, xx_b_ok cl_lo⟩ ?_
                  exact xR_cl (f := 100) (by decide +kernel))⟩
            | 2, _, hy =>
              have hy : xs 2 = 2 := hy
              exact ⟨_, _, _, by decide, by decide, lw_17 xs (v := (0)) (h1 := xf_h) (c1 := 0) (s1 := 0) (c2 := 0) (s2 := 0) (by
                  rw [hx, hy]
                  exact ⟨400, xx_b_ok (by decide +kernel)⟩) (by rfl) (by
                  rw [hx, hy]
                  refine xR_u (stop := 27) 300 11 _ _ rfl ?_
                  refine xR_call rfl rfl rfl rfl ⟨14000, xx_b_ok cl_lo⟩ ?_
                  exact xR_cl (f := 100) (by decide +kernel))⟩
            | 3, _, hy =>
              have hy : xs 2 = 3 := hy
              exact ⟨_, _, _, by decide, by decide, lw_17 xs (v := (0)) (h1 := xf_h) (c1 := 0) (s1 := 0) (c2 := 0) (s2 := 0) (by
                  rw [hx, hy]
                  exact ⟨400, xx_b_ok (by decide +kernel)⟩) (by rfl) (by
                  rw [hx, hy]
                  refine xR_u (stop := 27) 300 11 _ _ rfl ?_
                  refine xR_call rfl rfl rfl rfl ⟨14000, xx_b_ok cl_lo⟩ ?_
                  exact xR_cl (f := 100) (by decide +kernel))⟩
            | 4, _, hy =>
              have hy : xs 2 = 4 := hy
              exact ⟨_, _, _, by decide, by decide, lw_17 xs (v := (0)) (h1 := xf_h) (c1 := 0) (s1 := 0) (c2 := 0) (s2 := 0) (by
                  rw [hx, hy]
                  exact ⟨400, xx_b_ok (by decide +kernel)⟩) (by rfl) (by
                  rw [hx, hy]
                  refine xR_u (stop := 27) 300 11 _ _ rfl ?_
                  refine xR_call rfl rfl rfl rfl ⟨14000, xx_b_ok cl_lo⟩ ?_
                  exact xR_cl (f := 100) (by decide +kernel))⟩
            | 5, _, hy =>
              have hy : xs 2 = 5 := hy
              exact ⟨_, _, _, by decide, by decide, lw_17 xs (v := (0)) (h1 := xf_h) (c1 := 0) (s1 := 0) (c2 := 0) (s2 := 0) (by
                  rw [hx, hy]
                  exact ⟨400, xx_b_ok (by decide +kernel)⟩) (by rfl) (by
                  rw [hx, hy]
                  refine xR_u (stop := 27) 300 11 _ _ rfl ?_
                  refine xR_call rfl rfl rfl rfl ⟨14000, xx_b_ok cl_lo⟩ ?_
                  exact xR_cl (f := 100) (by decide +kernel))⟩
            | 6, _, hy =>
              have hy : xs 2 = 6 := hy
              exact ⟨_, _, _, by decide, by decide, lw_17 xs (v := (-1)) (c1 := 0) (s1 := 0) (c2 := 0) (s2 := 0) (by
                  rw [hx]; rw [hy]
                  exact xR_cl (f := 300) (by decide +kernel)) (by decide +kernel) (by
                  rw [hx]; rw [hy]
                  exact xR_cl (f := 300) (by decide +kernel))⟩
            | k + 7, hk, _ => omega
          | j + 7, hj, _ => omega
        · exact ⟨_, _, _, by decide, by decide, lw_17 xs (v := -1) (c1 := 0) (s1 := 0) (c2 := 0) (s2 := 0) (by
              refine xR_u (stop := 1) 3000 11 _ _ rfl ?_
              apply xR_call (d := 10) rfl rfl rfl rfl
              · refine xR_u (stop := 1) 3000 10 _ _ rfl ?_
                refine xR_if (x := xs 1) rfl (fun z => absurd (xz_lt1 (b := 0) (by decide) z) (by omega)) (fun _ => ?_)
                refine xR_u (stop := 7) 3000 10 _ _ rfl ?_
                refine xR_ic (x := xs 1) (y := (7 : Int32)) rfl (fun z => absurd (xz_ge1 (b := 7) (by decide) z) (by omega)) (fun _ => ?_)
                exact ⟨3000, rfl⟩
              refine xR_u (stop := 8) 3000 11 _ _ rfl ?_
              apply xR_call (d := 10) rfl rfl rfl rfl
              · refine xR_u (stop := 1) 3000 10 _ _ rfl ?_
                refine xR_if (x := xs 2) rfl (fun z => absurd (xz_lt1 (b := 0) (by decide) z) (by omega)) (fun _ => ?_)
                refine xR_u (stop := 7) 3000 10 _ _ rfl ?_
                refine xR_ic (x := xs 2) (y := (7 : Int32)) rfl (fun _ => ?_) (fun z => absurd (xz_ge0 (b := 7) (by decide) z) (by omega))
                exact ⟨3000, rfl⟩
              exact ⟨3000, rfl⟩) (by rfl) (by
              refine xR_u (stop := 6) 3000 11 _ _ rfl ?_
              apply xR_call (d := 10) rfl rfl rfl rfl
              · refine xR_u (stop := 1) 3000 10 _ _ rfl ?_
                refine xR_if (x := xs 1) rfl (fun z => absurd (xz_lt1 (b := 0) (by decide) z) (by omega)) (fun _ => ?_)
                refine xR_u (stop := 7) 3000 10 _ _ rfl ?_
                refine xR_ic (x := xs 1) (y := (7 : Int32)) rfl (fun z => absurd (xz_ge1 (b := 7) (by decide) z) (by omega)) (fun _ => ?_)
                exact ⟨3000, rfl⟩
              refine xR_u (stop := 13) 3000 11 _ _ rfl ?_
              apply xR_call (d := 10) rfl rfl rfl rfl
              · refine xR_u (stop := 1) 3000 10 _ _ rfl ?_
                refine xR_if (x := xs 2) rfl (fun z => absurd (xz_lt1 (b := 0) (by decide) z) (by omega)) (fun _ => ?_)
                refine xR_u (stop := 7) 3000 10 _ _ rfl ?_
                refine xR_ic (x := xs 2) (y := (7 : Int32)) rfl (fun _ => ?_) (fun z => absurd (xz_ge0 (b := 7) (by decide) z) (by omega))
                exact ⟨3000, rfl⟩
              exact ⟨3000, rfl⟩)⟩
    · exact ⟨_, _, _, by decide, by decide, lw_17 xs (v := -1) (c1 := 0) (s1 := 0) (c2 := 0) (s2 := 0) (by
          refine xR_u (stop := 1) 3000 11 _ _ rfl ?_
          apply xR_call (d := 10) rfl rfl rfl rfl
          · refine xR_u (stop := 1) 3000 10 _ _ rfl ?_
            refine xR_if (x := xs 1) rfl (fun z => absurd (xz_lt1 (b := 0) (by decide) z) (by omega)) (fun _ => ?_)
            refine xR_u (stop := 7) 3000 10 _ _ rfl ?_
            refine xR_ic (x := xs 1) (y := (7 : Int32)) rfl (fun _ => ?_) (fun z => absurd (xz_ge0 (b := 7) (by decide) z) (by omega))
            exact ⟨3000, rfl⟩
          exact ⟨3000, rfl⟩) (by rfl) (by
          refine xR_u (stop := 6) 3000 11 _ _ rfl ?_
          apply xR_call (d := 10) rfl rfl rfl rfl
          · refine xR_u (stop := 1) 3000 10 _ _ rfl ?_
            refine xR_if (x := xs 1) rfl (fun z => absurd (xz_lt1 (b := 0) (by decide) z) (by omega)) (fun _ => ?_)
            refine xR_u (stop := 7) 3000 10 _ _ rfl ?_
            refine xR_ic (x := xs 1) (y := (7 : Int32)) rfl (fun _ => ?_) (fun z => absurd (xz_ge0 (b := 7) (by decide) z) (by omega))
            exact ⟨3000, rfl⟩
          exact ⟨3000, rfl⟩)⟩
end XCL7
