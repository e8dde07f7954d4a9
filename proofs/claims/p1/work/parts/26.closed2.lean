section XCL2
set_option maxRecDepth 100000 in
set_option maxHeartbeats 8000000 in
theorem op_10 (xs : Nat → Int32) : lw_C 490 xs := by
  by_cases h1 : (xs 1).toInt < 0
  · exact ⟨_, _, _, by decide, by decide, lw_10 xs (v := -1) (c1 := 0) (s1 := 0) (c2 := 0) (s2 := 0) (by
        refine xR_u (stop := 2) 3000 11 _ _ rfl ?_
        apply xR_call (d := 10) rfl rfl rfl rfl
        · refine xR_u (stop := 1) 3000 10 _ _ rfl ?_
          refine xR_if (x := xs 1) rfl (fun _ => ?_) (fun z => absurd (xz_lt0 (b := 0) (by decide) z) (by omega))
          exact ⟨3000, rfl⟩
        exact ⟨3000, rfl⟩) (by rfl) (by
        refine xR_u (stop := 7) 3000 11 _ _ rfl ?_
        apply xR_call (d := 10) rfl rfl rfl rfl
        · refine xR_u (stop := 1) 3000 10 _ _ rfl ?_
          refine xR_if (x := xs 1) rfl (fun _ => ?_) (fun z => absurd (xz_lt0 (b := 0) (by decide) z) (by omega))
          exact ⟨3000, rfl⟩
        exact ⟨3000, rfl⟩)⟩
  · by_cases h2 : (xs 1).toInt < 3
    · obtain ⟨j, hj, hx⟩ := vp_in_of (x := xs 1) (n := 3) (vp_in_iff.mpr ⟨by omega, by omega⟩) (by decide)
      match j, hj, hx with
      | 0, _, hx =>
        have hx : xs 1 = 0 := hx
        exact ⟨_, _, _, by decide, by decide, lw_10 xs (v := (1)) (c1 := 0) (s1 := 0) (c2 := 0) (s2 := 0) (by
            rw [hx]
            refine xR_u (stop := 9) 300 11 _ _ rfl ?_
            refine xR_call rfl rfl rfl rfl ⟨9000, xx_b_ok cl_p⟩ ?_
            exact xR_cl (f := 3000) (by decide +kernel)) (by decide +kernel) (by
            rw [hx]
            exact xR_cl (f := 9000) (by decide +kernel))⟩
      | 1, _, hx =>
        have hx : xs 1 = 1 := hx
        exact ⟨_, _, _, by decide, by decide, lw_10 xs (v := (1)) (c1 := 0) (s1 := 0) (c2 := 0) (s2 := 0) (by
            rw [hx]
            refine xR_u (stop := 9) 300 11 _ _ rfl ?_
            refine xR_call rfl rfl rfl rfl ⟨9000, xx_b_ok cl_p⟩ ?_
            exact xR_cl (f := 3000) (by decide +kernel)) (by decide +kernel) (by
            rw [hx]
            exact xR_cl (f := 9000) (by decide +kernel))⟩
      | 2, _, hx =>
        have hx : xs 1 = 2 := hx
        exact ⟨_, _, _, by decide, by decide, lw_10 xs (v := (1)) (c1 := 0) (s1 := 0) (c2 := 0) (s2 := 0) (by
            rw [hx]
            refine xR_u (stop := 9) 300 11 _ _ rfl ?_
            refine xR_call rfl rfl rfl rfl ⟨9000, xx_b_ok cl_p⟩ ?_
            exact xR_cl (f := 3000) (by decide +kernel)) (by decide +kernel) (by
            rw [hx]
            exact xR_cl (f := 9000) (by decide +kernel))⟩
      | j + 3, hj, _ => omega
    · exact ⟨_, _, _, by decide, by decide, lw_10 xs (v := -1) (c1 := 0) (s1 := 0) (c2 := 0) (s2 := 0) (by
          refine xR_u (stop := 2) 3000 11 _ _ rfl ?_
          apply xR_call (d := 10) rfl rfl rfl rfl
          · refine xR_u (stop := 1) 3000 10 _ _ rfl ?_
            refine xR_if (x := xs 1) rfl (fun z => absurd (xz_lt1 (b := 0) (by decide) z) (by omega)) (fun _ => ?_)
            refine xR_u (stop := 9) 3000 10 _ _ rfl ?_
            refine xR_ic (x := xs 1) (y := (3 : Int32)) rfl (fun _ => ?_) (fun z => absurd (xz_ge0 (b := 3) (by decide) z) (by omega))
            exact ⟨3000, rfl⟩
          exact ⟨3000, rfl⟩) (by rfl) (by
          refine xR_u (stop := 7) 3000 11 _ _ rfl ?_
          apply xR_call (d := 10) rfl rfl rfl rfl
          · refine xR_u (stop := 1) 3000 10 _ _ rfl ?_
            refine xR_if (x := xs 1) rfl (fun z => absurd (xz_lt1 (b := 0) (by decide) z) (by omega)) (fun _ => ?_)
            refine xR_u (stop := 9) 3000 10 _ _ rfl ?_
            refine xR_ic (x := xs 1) (y := (3 : Int32)) rfl (fun _ => ?_) (fun z => absurd (xz_ge0 (b := 3) (by decide) z) (by omega))
            exact ⟨3000, rfl⟩
          exact ⟨3000, rfl⟩)⟩
set_option maxRecDepth 100000 in
set_option maxHeartbeats 8000000 in
theorem op_13 (xs : Nat → Int32) : lw_C 620 xs := by
  by_cases h1 : (xs 1).toInt < 0
  · exact ⟨_, _, _, by decide, by decide, lw_13 xs (v := -1) (c1 := 0) (s1 := 0) (c2 := 0) (s2 := 0) (by
        refine xR_u (stop := 2) 3000 11 _ _ rfl ?_
        apply xR_call (d := 10) rfl rfl rfl rfl
        · refine xR_u (stop := 1) 3000 10 _ _ rfl ?_
          refine xR_if (x := xs 1) rfl (fun _ => ?_) (fun z => absurd (xz_lt0 (b := 0) (by decide) z) (by omega))
          exact ⟨3000, rfl⟩
        exact ⟨3000, rfl⟩) (by rfl) (by
        refine xR_u (stop := 7) 3000 11 _ _ rfl ?_
        apply xR_call (d := 10) rfl rfl rfl rfl
        · refine xR_u (stop := 1) 3000 10 _ _ rfl ?_
          refine xR_if (x := xs 1) rfl (fun _ => ?_) (fun z => absurd (xz_lt0 (b := 0) (by decide) z) (by omega))
          exact ⟨3000, rfl⟩
        exact ⟨3000, rfl⟩)⟩
  · by_cases h2 : (xs 1).toInt < 3
    · obtain ⟨j, hj, hx⟩ := vp_in_of (x := xs 1) (n := 3) (vp_in_iff.mpr ⟨by omega, by omega⟩) (by decide)
      match j, hj, hx with
      | 0, _, hx =>
        have hx : xs 1 = 0 := hx
        exact ⟨_, _, _, by decide, by decide, lw_13 xs (v := (1)) (c1 := 0) (s1 := 0) (c2 := 0) (s2 := 0) (by
            rw [hx]
            refine xR_u (stop := 9) 300 11 _ _ rfl ?_
            refine xR_call rfl rfl rfl rfl ⟨9000, xx_b_ok cl_p⟩ ?_
            exact xR_cl (f := 3000) (by decide +kernel)) (by decide +kernel) (by
            rw [hx]
            exact xR_cl (f := 9000) (by decide +kernel))⟩
      | 1, _, hx =>
        have hx : xs 1 = 1 := hx
        exact ⟨_, _, _, by decide, by decide, lw_13 xs (v := (0)) (c1 := 0) (s1 := 0) (c2 := 0) (s2 := 0) (by
            rw [hx]
            refine xR_u (stop := 9) 300 11 _ _ rfl ?_
            refine xR_call rfl rfl rfl rfl ⟨9000, xx_b_ok cl_p⟩ ?_
            exact xR_cl (f := 3000) (by decide +kernel)) (by decide +kernel) (by
            rw [hx]
            exact xR_cl (f := 9000) (by decide +kernel))⟩
      | 2, _, hx =>
        have hx : xs 1 = 2 := hx
        exact ⟨_, _, _, by decide, by decide, lw_13 xs (v := (0)) (c1 := 0) (s1 := 0) (c2 := 0) (s2 := 0) (by
            rw [hx]
            refine xR_u (stop := 9) 300 11 _ _ rfl ?_
            refine xR_call rfl rfl rfl rfl ⟨9000, xx_b_ok cl_p⟩ ?_
            exact xR_cl (f := 3000) (by decide +kernel)) (by decide +kernel) (by
            rw [hx]
            exact xR_cl (f := 9000) (by decide +kernel))⟩
      | j + 3, hj, _ => omega
    · exact ⟨_, _, _, by decide, by decide, lw_13 xs (v := -1) (c1 := 0) (s1 := 0) (c2 := 0) (s2 := 0) (by
          refine xR_u (stop := 2) 3000 11 _ _ rfl ?_
          apply xR_call (d := 10) rfl rfl rfl rfl
          · refine xR_u (stop := 1) 3000 10 _ _ rfl ?_
            refine xR_if (x := xs 1) rfl (fun z => absurd (xz_lt1 (b := 0) (by decide) z) (by omega)) (fun _ => ?_)
            refine xR_u (stop := 9) 3000 10 _ _ rfl ?_
            refine xR_ic (x := xs 1) (y := (3 : Int32)) rfl (fun _ => ?_) (fun z => absurd (xz_ge0 (b := 3) (by decide) z) (by omega))
            exact ⟨3000, rfl⟩
          exact ⟨3000, rfl⟩) (by rfl) (by
          refine xR_u (stop := 7) 3000 11 _ _ rfl ?_
          apply xR_call (d := 10) rfl rfl rfl rfl
          · refine xR_u (stop := 1) 3000 10 _ _ rfl ?_
            refine xR_if (x := xs 1) rfl (fun z => absurd (xz_lt1 (b := 0) (by decide) z) (by omega)) (fun _ => ?_)
            refine xR_u (stop := 9) 3000 10 _ _ rfl ?_
            refine xR_ic (x := xs 1) (y := (3 : Int32)) rfl (fun _ => ?_) (fun z => absurd (xz_ge0 (b := 3) (by decide) z) (by omega))
            exact ⟨3000, rfl⟩
          exact ⟨3000, rfl⟩)⟩
set_option maxRecDepth 100000 in
set_option maxHeartbeats 8000000 in
theorem op_12 (xs : Nat → Int32) : lw_C 594 xs := by
  by_cases h1 : (xs 1).toInt < 0
  · exact ⟨_, _, _, by decide, by decide, lw_12 xs (v := -1) (c1 := 0) (s1 := 0) (c2 := 0) (s2 := 0) (by
        refine xR_u (stop := 1) 3000 11 _ _ rfl ?_
        refine xR_if (x := xs 1) rfl (fun _ => ?_) (fun z => absurd (xz_lt0 (b := 0) (by decide) z) (by omega))
        exact ⟨3000, rfl⟩) (by rfl) (by
        refine xR_u (stop := 9) 3000 11 _ _ rfl ?_
        apply xR_call (d := 10) rfl rfl rfl rfl
        · refine xR_u (stop := 2) 3000 10 _ _ rfl ?_
          refine xR_ic (x := xs 1) (y := (0 : Int32)) rfl (fun _ => ?_) (fun z => absurd (xz_lt0 (b := 0) (by decide) z) (by omega))
          exact ⟨3000, rfl⟩
        exact ⟨3000, rfl⟩)⟩
  · by_cases h2 : (xs 1).toInt < 11
    · obtain ⟨j, hj, hx⟩ := vp_in_of (x := xs 1) (n := 11) (vp_in_iff.mpr ⟨by omega, by omega⟩) (by decide)
      match j, hj, hx with
      | 0, _, hx =>
        have hx : xs 1 = 0 := hx
        exact ⟨_, _, _, by decide, by decide, lw_12 xs (v := (0)) (c1 := 0) (s1 := 0) (c2 := 0) (s2 := 0) (by
            rw [hx]
            refine xR_u (stop := 17) 300 11 _ _ rfl ?_
            refine xR_call rfl rfl rfl rfl ⟨9000, xx_b_ok cl_p⟩ ?_
            exact xR_cl (f := 3000) (by decide +kernel)) (by decide +kernel) (by
            rw [hx]
            exact xR_cl (f := 9000) (by decide +kernel))⟩
      | 1, _, hx =>
        have hx : xs 1 = 1 := hx
        exact ⟨_, _, _, by decide, by decide, lw_12 xs (v := (1)) (c1 := 0) (s1 := 0) (c2 := 0) (s2 := 0) (by
            rw [hx]
            refine xR_u (stop := 17) 300 11 _ _ rfl ?_
            refine xR_call rfl rfl rfl rfl ⟨9000, xx_b_ok cl_p⟩ ?_
            exact xR_cl (f := 3000) (by decide +kernel)) (by decide +kernel) (by
            rw [hx]
            exact xR_cl (f := 9000) (by decide +kernel))⟩
      | 2, _, hx =>
        have hx : xs 1 = 2 := hx
        exact ⟨_, _, _, by decide, by decide, lw_12 xs (v := (8)) (c1 := 0) (s1 := 0) (c2 := 0) (s2 := 0) (by
            rw [hx]
            refine xR_u (stop := 17) 300 11 _ _ rfl ?_
            refine xR_call rfl rfl rfl rfl ⟨9000, xx_b_ok cl_p⟩ ?_
            exact xR_cl (f := 3000) (by decide +kernel)) (by decide +kernel) (by
            rw [hx]
            exact xR_cl (f := 9000) (by decide +kernel))⟩
      | 3, _, hx =>
        have hx : xs 1 = 3 := hx
        exact ⟨_, _, _, by decide, by decide, lw_12 xs (v := (27)) (c1 := 0) (s1 := 0) (c2 := 0) (s2 := 0) (by
            rw [hx]
            refine xR_u (stop := 17) 300 11 _ _ rfl ?_
            refine xR_call rfl rfl rfl rfl ⟨9000, xx_b_ok cl_p⟩ ?_
            exact xR_cl (f := 3000) (by decide +kernel)) (by decide +kernel) (by
            rw [hx]
            exact xR_cl (f := 9000) (by decide +kernel))⟩
      | 4, _, hx =>
        have hx : xs 1 = 4 := hx
        exact ⟨_, _, _, by decide, by decide, lw_12 xs (v := (64)) (c1 := 0) (s1 := 0) (c2 := 0) (s2 := 0) (by
            rw [hx]
            refine xR_u (stop := 17) 300 11 _ _ rfl ?_
            refine xR_call rfl rfl rfl rfl ⟨9000, xx_b_ok cl_p⟩ ?_
            exact xR_cl (f := 3000) (by decide +kernel)) (by decide +kernel) (by
            rw [hx]
            exact xR_cl (f := 9000) (by decide +kernel))⟩
      | 5, _, hx =>
        have hx : xs 1 = 5 := hx
        exact ⟨_, _, _, by decide, by decide, lw_12 xs (v := (125)) (c1 := 0) (s1 := 0) (c2 := 0) (s2 := 0) (by
            rw [hx]
            refine xR_u (stop := 17) 300 11 _ _ rfl ?_
            refine xR_call rfl rfl rfl rfl ⟨9000, xx_b_ok cl_p⟩ ?_
            exact xR_cl (f := 3000) (by decide +kernel)) (by decide +kernel) (by
            rw [hx]
            exact xR_cl (f := 9000) (by decide +kernel))⟩
      | 6, _, hx =>
        have hx : xs 1 = 6 := hx
        exact ⟨_, _, _, by decide, by decide, lw_12 xs (v := (216)) (c1 := 0) (s1 := 0) (c2 := 0) (s2 := 0) (by
            rw [hx]
            refine xR_u (stop := 17) 300 11 _ _ rfl ?_
            refine xR_call rfl rfl rfl rfl ⟨9000, xx_b_ok cl_p⟩ ?_
            exact xR_cl (f := 3000) (by decide +kernel)) (by decide +kernel) (by
            rw [hx]
            exact xR_cl (f := 9000) (by decide +kernel))⟩
      | 7, _, hx =>
        have hx : xs 1 = 7 := hx
        exact ⟨_, _, _, by decide, by decide, lw_12 xs (v := (343)) (c1 := 0) (s1 := 0) (c2 := 0) (s2 := 0) (by
            rw [hx]
            refine xR_u (stop := 17) 300 11 _ _ rfl ?_
            refine xR_call rfl rfl rfl rfl ⟨9000, xx_b_ok cl_p⟩ ?_
            exact xR_cl (f := 3000) (by decide +kernel)) (by decide +kernel) (by
            rw [hx]
            exact xR_cl (f := 9000) (by decide +kernel))⟩
      | 8, _, hx =>
        have hx : xs 1 = 8 := hx
        exact ⟨_, _, _, by decide, by decide, lw_12 xs (v := (512)) (c1 := 0) (s1 := 0) (c2 := 0) (s2 := 0) (by
            rw [hx]
            refine xR_u (stop := 17) 300 11 _ _ rfl ?_
            refine xR_call rfl rfl rfl rfl ⟨9000, xx_b_ok cl_p⟩ ?_
            exact xR_cl (f := 3000) (by decide +kernel)) (by decide +kernel) (by
            rw [hx]
            exact xR_cl (f := 9000) (by decide +kernel))⟩
      | 9, _, hx =>
        have hx : xs 1 = 9 := hx
        exact ⟨_, _, _, by decide, by decide, lw_12 xs (v := (729)) (c1 := 0) (s1 := 0) (c2 := 0) (s2 := 0) (by
            rw [hx]
            refine xR_u (stop := 17) 300 11 _ _ rfl ?_
            refine xR_call rfl rfl rfl rfl ⟨9000, xx_b_ok cl_p⟩ ?_
            exact xR_cl (f := 3000) (by decide +kernel)) (by decide +kernel) (by
            rw [hx]
            exact xR_cl (f := 9000) (by decide +kernel))⟩
      | 10, _, hx =>
        have hx : xs 1 = 10 := hx
        exact ⟨_, _, _, by decide, by decide, lw_12 xs (v := (1000)) (c1 := 0) (s1 := 0) (c2 := 0) (s2 := 0) (by
            rw [hx]
            refine xR_u (stop := 17) 300 11 _ _ rfl ?_
            refine xR_call rfl rfl rfl rfl ⟨9000, xx_b_ok cl_p⟩ ?_
            exact xR_cl (f := 3000) (by decide +kernel)) (by decide +kernel) (by
            rw [hx]
            exact xR_cl (f := 9000) (by decide +kernel))⟩
      | j + 11, hj, _ => omega
    · exact ⟨_, _, _, by decide, by decide, lw_12 xs (v := -1) (c1 := 0) (s1 := 0) (c2 := 0) (s2 := 0) (by
          refine xR_u (stop := 1) 3000 11 _ _ rfl ?_
          refine xR_if (x := xs 1) rfl (fun z => absurd (xz_lt1 (b := 0) (by decide) z) (by omega)) (fun _ => ?_)
          refine xR_u (stop := 7) 3000 11 _ _ rfl ?_
          refine xR_ic (x := xs 1) (y := (10 : Int32)) rfl (fun z => absurd (xz_le1 (b := 10) (by decide) z) (by omega)) (fun _ => ?_)
          exact ⟨3000, rfl⟩) (by rfl) (by
          refine xR_u (stop := 9) 3000 11 _ _ rfl ?_
          apply xR_call (d := 10) rfl rfl rfl rfl
          · refine xR_u (stop := 2) 3000 10 _ _ rfl ?_
            refine xR_ic (x := xs 1) (y := (0 : Int32)) rfl (fun z => absurd (xz_lt1 (b := 0) (by decide) z) (by omega)) (fun _ => ?_)
            refine xR_u (stop := 7) 3000 10 _ _ rfl ?_
            refine xR_ic (x := xs 1) (y := (10 : Int32)) rfl (fun _ => ?_) (fun z => absurd (xz_gt0 (b := 10) (by decide) z) (by omega))
            exact ⟨3000, rfl⟩
          exact ⟨3000, rfl⟩)⟩
end XCL2
