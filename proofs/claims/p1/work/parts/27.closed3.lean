section XCL3
set_option maxRecDepth 100000 in
set_option maxHeartbeats 8000000 in
theorem op_9 (xs : Nat → Int32) : lw_C 453 xs := by
  by_cases h1 : (xs 1).toInt < 0
  · exact ⟨_, _, _, by decide, by decide, lw_9 xs (v := -2) (c1 := 0) (s1 := 0) (c2 := 0) (s2 := 0) (by
        refine xR_u (stop := 2) 3000 11 _ _ rfl ?_
        apply xR_call (d := 10) rfl rfl rfl rfl
        · refine xR_u (stop := 1) 3000 10 _ _ rfl ?_
          refine xR_if (x := xs 1) rfl (fun _ => ?_) (fun z => absurd (xz_lt0 (b := 0) (by decide) z) (by omega))
          exact ⟨3000, rfl⟩
        exact ⟨3000, rfl⟩) (by rfl) (by
        refine xR_u (stop := 7) 3000 11 _ _ rfl ?_
        apply xR_call (d := 10) rfl rfl rfl rfl
        · refine xR_u (stop := 1) 3000 10 _ _ rfl ?_
          refine xR_if (x := xs 1) rfl (fun _ => ?_) (fun z => absurd (xz_lt0 (b := 0) (by decide) z) (by omega))
          exact ⟨3000, rfl⟩
        exact ⟨3000, rfl⟩)⟩
  · by_cases h2 : (xs 1).toInt < 3
    · by_cases h3 : (xs 2).toInt < 0
      · exact ⟨_, _, _, by decide, by decide, lw_9 xs (v := -2) (c1 := 0) (s1 := 0) (c2 := 0) (s2 := 0) (by
            refine xR_u (stop := 2) 3000 11 _ _ rfl ?_
            apply xR_call (d := 10) rfl rfl rfl rfl
            · refine xR_u (stop := 1) 3000 10 _ _ rfl ?_
              refine xR_if (x := xs 1) rfl (fun z => absurd (xz_lt1 (b := 0) (by decide) z) (by omega)) (fun _ => ?_)
              refine xR_u (stop := 9) 3000 10 _ _ rfl ?_
              refine xR_ic (x := xs 1) (y := (3 : Int32)) rfl (fun z => absurd (xz_ge1 (b := 3) (by decide) z) (by omega)) (fun _ => ?_)
              exact ⟨3000, rfl⟩
            refine xR_u (stop := 10) 3000 11 _ _ rfl ?_
            apply xR_call (d := 10) rfl rfl rfl rfl
            · refine xR_u (stop := 1) 3000 10 _ _ rfl ?_
              refine xR_if (x := xs 2) rfl (fun _ => ?_) (fun z => absurd (xz_lt0 (b := 0) (by decide) z) (by omega))
              exact ⟨3000, rfl⟩
            exact ⟨3000, rfl⟩) (by rfl) (by
            refine xR_u (stop := 7) 3000 11 _ _ rfl ?_
            apply xR_call (d := 10) rfl rfl rfl rfl
            · refine xR_u (stop := 1) 3000 10 _ _ rfl ?_
              refine xR_if (x := xs 1) rfl (fun z => absurd (xz_lt1 (b := 0) (by decide) z) (by omega)) (fun _ => ?_)
              refine xR_u (stop := 9) 3000 10 _ _ rfl ?_
              refine xR_ic (x := xs 1) (y := (3 : Int32)) rfl (fun z => absurd (xz_ge1 (b := 3) (by decide) z) (by omega)) (fun _ => ?_)
              exact ⟨3000, rfl⟩
            refine xR_u (stop := 15) 3000 11 _ _ rfl ?_
            apply xR_call (d := 10) rfl rfl rfl rfl
            · refine xR_u (stop := 1) 3000 10 _ _ rfl ?_
              refine xR_if (x := xs 2) rfl (fun _ => ?_) (fun z => absurd (xz_lt0 (b := 0) (by decide) z) (by omega))
              exact ⟨3000, rfl⟩
            exact ⟨3000, rfl⟩)⟩
      · by_cases h4 : (xs 2).toInt < 3
        · obtain ⟨j, hj, hx⟩ := vp_in_of (x := xs 1) (n := 3) (vp_in_iff.mpr ⟨by omega, by omega⟩) (by decide)
          match j, hj, hx with
          | 0, _, hx =>
            have hx : xs 1 = 0 := hx
            obtain ⟨k, hk, hy⟩ := vp_in_of (x := xs 2) (n := 3) (vp_in_iff.mpr ⟨by omega, by omega⟩) (by decide)
            match k, hk, hy with
            | 0, _, hy =>
              have hy : xs 2 = 0 := hy
              exact ⟨_, _, _, by decide, by decide, lw_9 xs (v := (0)) (c1 := 0) (s1 := 0) (c2 := 0) (s2 := 0) (by
                  rw [hx]; rw [hy]
                  refine xR_u (stop := 20) 300 11 _ _ rfl ?_
                  refine xR_call rfl rfl rfl rfl ⟨9000, xx_b_ok cl_p⟩ ?_
                  exact xR_cl (f := 3000) (by decide +kernel)) (by decide +kernel) (by
                  rw [hx]; rw [hy]
                  exact xR_cl (f := 9000) (by decide +kernel))⟩
            | 1, _, hy =>
              have hy : xs 2 = 1 := hy
              exact ⟨_, _, _, by decide, by decide, lw_9 xs (v := (0)) (c1 := 0) (s1 := 0) (c2 := 0) (s2 := 0) (by
                  rw [hx]; rw [hy]
                  refine xR_u (stop := 20) 300 11 _ _ rfl ?_
                  refine xR_call rfl rfl rfl rfl ⟨9000, xx_b_ok cl_p⟩ ?_
                  exact xR_cl (f := 3000) (by decide +kernel)) (by decide +kernel) (by
                  rw [hx]; rw [hy]
                  exact xR_cl (f := 9000) (by decide +kernel))⟩
            | 2, _, hy =>
              have hy : xs 2 = 2 := hy
              exact ⟨_, _, _, by decide, by decide, lw_9 xs (v := (0)) (c1 := 0) (s1 := 0) (c2 := 0) (s2 := 0) (by
                  rw [hx]; rw [hy]
                  refine xR_u (stop := 20) 300 11 _ _ rfl ?_
                  refine xR_call rfl rfl rfl rfl ⟨9000, xx_b_ok cl_p⟩ ?_
                  exact xR_cl (f := 3000) (by decide +kernel)) (by decide +kernel) (by
                  rw [hx]; rw [hy]
                  exact xR_cl (f := 9000) (by decide +kernel))⟩
            | k + 3, hk, _ => omega
          | 1, _, hx =>
            have hx : xs 1 = 1 := hx
            obtain ⟨k, hk, hy⟩ := vp_in_of (x := xs 2) (n := 3) (vp_in_iff.mpr ⟨by omega, by omega⟩) (by decide)
            match k, hk, hy with
            | 0, _, hy =>
              have hy : xs 2 = 0 := hy
              exact ⟨_, _, _, by decide, by decide, lw_9 xs (v := (0)) (c1 := 0) (s1 := 0) (c2 := 0) (s2 := 0) (by
                  rw [hx]; rw [hy]
                  refine xR_u (stop := 20) 300 11 _ _ rfl ?_
                  refine xR_call rfl rfl rfl rfl ⟨9000, xx_b_ok cl_p⟩ ?_
                  exact xR_cl (f := 3000) (by decide +kernel)) (by decide +kernel) (by
                  rw [hx]; rw [hy]
                  exact xR_cl (f := 9000) (by decide +kernel))⟩
            | 1, _, hy =>
              have hy : xs 2 = 1 := hy
              exact ⟨_, _, _, by decide, by decide, lw_9 xs (v := (0)) (c1 := 0) (s1 := 0) (c2 := 0) (s2 := 0) (by
                  rw [hx]; rw [hy]
                  refine xR_u (stop := 20) 300 11 _ _ rfl ?_
                  refine xR_call rfl rfl rfl rfl ⟨9000, xx_b_ok cl_p⟩ ?_
                  exact xR_cl (f := 3000) (by decide +kernel)) (by decide +kernel) (by
                  rw [hx]; rw [hy]
                  exact xR_cl (f := 9000) (by decide +kernel))⟩
            | 2, _, hy =>
              have hy : xs 2 = 2 := hy
              exact ⟨_, _, _, by decide, by decide, lw_9 xs (v := (0)) (c1 := 0) (s1 := 0) (c2 := 0) (s2 := 0) (by
                  rw [hx]; rw [hy]
                  refine xR_u (stop := 20) 300 11 _ _ rfl ?_
                  refine xR_call rfl rfl rfl rfl ⟨9000, xx_b_ok cl_p⟩ ?_
                  exact xR_cl (f := 3000) (by decide +kernel)) (by decide +kernel) (by
                  rw [hx]; rw [hy]
                  exact xR_cl (f := 9000) (by decide +kernel))⟩
            | k + 3, hk, _ => omega
          | 2, _, hx =>
            have hx : xs 1 = 2 := hx
            obtain ⟨k, hk, hy⟩ := vp_in_of (x := xs 2) (n := 3) (vp_in_iff.mpr ⟨by omega, by omega⟩) (by decide)
            match k, hk, hy with
            | 0, _, hy =>
              have hy : xs 2 = 0 := hy
              exact ⟨_, _, _, by decide, by decide, lw_9 xs (v := (0)) (c1 := 0) (s1 := 0) (c2 := 0) (s2 := 0) (by
                  rw [hx]; rw [hy]
                  refine xR_u (stop := 20) 300 11 _ _ rfl ?_
                  refine xR_call rfl rfl rfl rfl ⟨9000, xx_b_ok cl_p⟩ ?_
                  exact xR_cl (f := 3000) (by decide +kernel)) (by decide +kernel) (by
                  rw [hx]; rw [hy]
                  exact xR_cl (f := 9000) (by decide +kernel))⟩
            | 1, _, hy =>
              have hy : xs 2 = 1 := hy
              exact ⟨_, _, _, by decide, by decide, lw_9 xs (v := (0)) (c1 := 0) (s1 := 0) (c2 := 0) (s2 := 0) (by
                  rw [hx]; rw [hy]
                  refine xR_u (stop := 20) 300 11 _ _ rfl ?_
                  refine xR_call rfl rfl rfl rfl ⟨9000, xx_b_ok cl_p⟩ ?_
                  exact xR_cl (f := 3000) (by decide +kernel)) (by decide +kernel) (by
                  rw [hx]; rw [hy]
                  exact xR_cl (f := 9000) (by decide +kernel))⟩
            | 2, _, hy =>
              have hy : xs 2 = 2 := hy
              exact ⟨_, _, _, by decide, by decide, lw_9 xs (v := (0)) (c1 := 0) (s1 := 0) (c2 := 0) (s2 := 0) (by
                  rw [hx]; rw [hy]
                  refine xR_u (stop := 20) 300 11 _ _ rfl ?_
                  refine xR_call rfl rfl rfl rfl ⟨9000, xx_b_ok cl_p⟩ ?_
                  exact xR_cl (f := 3000) (by decide +kernel)) (by decide +kernel) (by
                  rw [hx]; rw [hy]
                  exact xR_cl (f := 9000) (by decide +kernel))⟩
            | k + 3, hk, _ => omega
          | j + 3, hj, _ => omega
        · exact ⟨_, _, _, by decide, by decide, lw_9 xs (v := -2) (c1 := 0) (s1 := 0) (c2 := 0) (s2 := 0) (by
              refine xR_u (stop := 2) 3000 11 _ _ rfl ?_
              apply xR_call (d := 10) rfl rfl rfl rfl
              · refine xR_u (stop := 1) 3000 10 _ _ rfl ?_
                refine xR_if (x := xs 1) rfl (fun z => absurd (xz_lt1 (b := 0) (by decide) z) (by omega)) (fun _ => ?_)
                refine xR_u (stop := 9) 3000 10 _ _ rfl ?_
                refine xR_ic (x := xs 1) (y := (3 : Int32)) rfl (fun z => absurd (xz_ge1 (b := 3) (by decide) z) (by omega)) (fun _ => ?_)
                exact ⟨3000, rfl⟩
              refine xR_u (stop := 10) 3000 11 _ _ rfl ?_
              apply xR_call (d := 10) rfl rfl rfl rfl
              · refine xR_u (stop := 1) 3000 10 _ _ rfl ?_
                refine xR_if (x := xs 2) rfl (fun z => absurd (xz_lt1 (b := 0) (by decide) z) (by omega)) (fun _ => ?_)
                refine xR_u (stop := 9) 3000 10 _ _ rfl ?_
                refine xR_ic (x := xs 2) (y := (3 : Int32)) rfl (fun _ => ?_) (fun z => absurd (xz_ge0 (b := 3) (by decide) z) (by omega))
                exact ⟨3000, rfl⟩
              exact ⟨3000, rfl⟩) (by rfl) (by
              refine xR_u (stop := 7) 3000 11 _ _ rfl ?_
              apply xR_call (d := 10) rfl rfl rfl rfl
              · refine xR_u (stop := 1) 3000 10 _ _ rfl ?_
                refine xR_if (x := xs 1) rfl (fun z => absurd (xz_lt1 (b := 0) (by decide) z) (by omega)) (fun _ => ?_)
                refine xR_u (stop := 9) 3000 10 _ _ rfl ?_
                refine xR_ic (x := xs 1) (y := (3 : Int32)) rfl (fun z => absurd (xz_ge1 (b := 3) (by decide) z) (by omega)) (fun _ => ?_)
                exact ⟨3000, rfl⟩
              refine xR_u (stop := 15) 3000 11 _ _ rfl ?_
              apply xR_call (d := 10) rfl rfl rfl rfl
              · refine xR_u (stop := 1) 3000 10 _ _ rfl ?_
                refine xR_if (x := xs 2) rfl (fun z => absurd (xz_lt1 (b := 0) (by decide) z) (by omega)) (fun _ => ?_)
                refine xR_u (stop := 9) 3000 10 _ _ rfl ?_
                refine xR_ic (x := xs 2) (y := (3 : Int32)) rfl (fun _ => ?_) (fun z => absurd (xz_ge0 (b := 3) (by decide) z) (by omega))
                exact ⟨3000, rfl⟩
              exact ⟨3000, rfl⟩)⟩
    · exact ⟨_, _, _, by decide, by decide, lw_9 xs (v := -2) (c1 := 0) (s1 := 0) (c2 := 0) (s2 := 0) (by
          refine xR_u (stop := 2) 3000 11 _ _ rfl ?_
          apply xR_call (d := 10) rfl rfl rfl rfl
          · refine xR_u (stop := 1) 3000 10 _ _ rfl ?_
            refine xR_if (x := xs 1) rfl (fun z => absurd (xz_lt1 (b := 0) (by decide) z) (by omega)) (fun _ => ?_)
            refine xR_u (stop := 9) 3000 10 _ _ rfl ?_
            refine xR_ic (x := xs 1) (y := (3 : Int32)) rfl (fun _ => ?_) (fun z => absurd (xz_ge0 (b := 3) (by decide) z) (by omega))
            exact ⟨3000, rfl⟩
          exact ⟨3000, rfl⟩) (by rfl) (by
          refine xR_u (stop := 7) 3000 11 _ _ rfl ?_
          apply xR_call (d := 10) rfl rfl rfl rfl
          · refine xR_u (stop := 1) 3000 10 _ _ rfl ?_
            refine xR_if (x := xs 1) rfl (fun z => absurd (xz_lt1 (b := 0) (by decide) z) (by omega)) (fun _ => ?_)
            refine xR_u (stop := 9) 3000 10 _ _ rfl ?_
            refine xR_ic (x := xs 1) (y := (3 : Int32)) rfl (fun _ => ?_) (fun z => absurd (xz_ge0 (b := 3) (by decide) z) (by omega))
            exact ⟨3000, rfl⟩
          exact ⟨3000, rfl⟩)⟩
set_option maxRecDepth 100000 in
set_option maxHeartbeats 8000000 in
theorem op_14 (xs : Nat → Int32) : lw_C 645 xs := by
  exact ⟨_, _, _, by decide, by decide, lw_14 xs (v := (3)) (c1 := 0) (s1 := 0) (c2 := 0) (s2 := 0) (by
      exact xR_cl (f := 12000) (by decide +kernel)) (by decide +kernel) (by
      exact xR_cl (f := 12000) (by decide +kernel))⟩
end XCL3
