section XCL6
set_option maxRecDepth 100000 in
set_option maxHeartbeats 8000000 in
theorem op_6 (xs : Nat → Int32) : lw_C 354 xs := by
  by_cases h1 : (xs 1).toInt < 0
  · exact ⟨_, _, _, by decide, by decide, lw_6 xs (v := -1) (c1 := 0) (s1 := 0) (c2 := 0) (s2 := 0) (by
        refine xR_u (stop := 2) 3000 11 _ _ rfl ?_
        apply xR_call (d := 10) rfl rfl rfl rfl
        · refine xR_u (stop := 1) 3000 10 _ _ rfl ?_
          refine xR_if (x := xs 1) rfl (fun _ => ?_) (fun z => absurd (xz_lt0 (b := 0) (by decide) z) (by omega))
          exact ⟨3000, rfl⟩
        exact ⟨3000, rfl⟩) (by rfl) (by
        refine xR_u (stop := 7) 3000 11 _ _ rfl ?_
        apply xR_call (d := 10) rfl rfl rfl rfl
        · refine xR_u (stop := 1) 3000 10 _ _ rfl ?_
          refine xR_if (x := xs 1) rfl (fun _ => ?_) (fun z => absurd (xz_lt0 (b := 0) (by decide) z) (by omega))
          exact ⟨3000, rfl⟩
        exact ⟨3000, rfl⟩)⟩
  · by_cases h2 : (xs 1).toInt < 8
    · obtain ⟨j, hj, hx⟩ := vp_in_of (x := xs 1) (n := 8) (vp_in_iff.mpr ⟨by omega, by omega⟩) (by decide)
      match j, hj, hx with
      | 0, _, hx =>
        have hx : xs 1 = 0 := hx
        by_cases h3 : (xs 2).toInt < 0
        · exact ⟨_, _, _, by decide, by decide, lw_6 xs (v := -1) (c1 := 0) (s1 := 0) (c2 := 0) (s2 := 0) (by
              rw [hx]
              refine xR_u (stop := 9) 3000 11 _ _ rfl ?_
              refine xR_if (x := xs 2) rfl (fun _ => ?_) (fun z => absurd (xz_lt0 (b := 0) (by decide) z) (by omega))
              exact ⟨3000, rfl⟩) (by rfl) (by
              rw [hx]
              refine xR_u (stop := 18) 3000 11 _ _ rfl ?_
              apply xR_call (d := 10) rfl rfl rfl rfl
              · refine xR_u (stop := 2) 3000 10 _ _ rfl ?_
                refine xR_ic (x := xs 2) (y := (0 : Int32)) rfl (fun _ => ?_) (fun z => absurd (xz_lt0 (b := 0) (by decide) z) (by omega))
                exact ⟨3000, rfl⟩
              exact ⟨3000, rfl⟩)⟩
        · by_cases h4 : (xs 2).toInt ≤ 999
          · exact ⟨_, _, _, by decide, by decide, lw_6 xs (v := 0) (c1 := 0) (s1 := 0) (c2 := 0) (s2 := 0) (by
                rw [hx]
                refine xR_u (stop := 9) 3000 11 _ _ rfl ?_
                refine xR_if (x := xs 2) rfl (fun z => absurd (xz_lt1 (b := 0) (by decide) z) (by omega)) (fun _ => ?_)
                refine xR_u (stop := 16) 3000 11 _ _ rfl ?_
                refine xR_ic (x := xs 2) (y := (999 : Int32)) rfl (fun _ => ?_) (fun z => absurd (xz_le0 (b := 999) (by decide) z) (by omega))
                exact ⟨3000, rfl⟩) (by rfl) (by
                rw [hx]
                refine xR_u (stop := 18) 3000 11 _ _ rfl ?_
                apply xR_call (d := 10) rfl rfl rfl rfl
                · refine xR_u (stop := 2) 3000 10 _ _ rfl ?_
                  refine xR_ic (x := xs 2) (y := (0 : Int32)) rfl (fun z => absurd (xz_lt1 (b := 0) (by decide) z) (by omega)) (fun _ => ?_)
                  refine xR_u (stop := 7) 3000 10 _ _ rfl ?_
                  refine xR_ic (x := xs 2) (y := (999 : Int32)) rfl (fun z => absurd (xz_gt1 (b := 999) (by decide) z) (by omega)) (fun _ => ?_)
                  exact ⟨3000, rfl⟩
                exact ⟨3000, rfl⟩)⟩
          · exact ⟨_, _, _, by decide, by decide, lw_6 xs (v := -1) (c1 := 0) (s1 := 0) (c2 := 0) (s2 := 0) (by
                rw [hx]
                refine xR_u (stop := 9) 3000 11 _ _ rfl ?_
                refine xR_if (x := xs 2) rfl (fun z => absurd (xz_lt1 (b := 0) (by decide) z) (by omega)) (fun _ => ?_)
                refine xR_u (stop := 16) 3000 11 _ _ rfl ?_
                refine xR_ic (x := xs 2) (y := (999 : Int32)) rfl (fun z => absurd (xz_le1 (b := 999) (by decide) z) (by omega)) (fun _ => ?_)
                exact ⟨3000, rfl⟩) (by rfl) (by
                rw [hx]
                refine xR_u (stop := 18) 3000 11 _ _ rfl ?_
                apply xR_call (d := 10) rfl rfl rfl rfl
                · refine xR_u (stop := 2) 3000 10 _ _ rfl ?_
                  refine xR_ic (x := xs 2) (y := (0 : Int32)) rfl (fun z => absurd (xz_lt1 (b := 0) (by decide) z) (by omega)) (fun _ => ?_)
                  refine xR_u (stop := 7) 3000 10 _ _ rfl ?_
                  refine xR_ic (x := xs 2) (y := (999 : Int32)) rfl (fun _ => ?_) (fun z => absurd (xz_gt0 (b := 999) (by decide) z) (by omega))
                  exact ⟨3000, rfl⟩
                exact ⟨3000, rfl⟩)⟩
      | 1, _, hx =>
        have hx : xs 1 = 1 := hx
        by_cases h3 : (xs 2).toInt < 0
        · exact ⟨_, _, _, by decide, by decide, lw_6 xs (v := -1) (c1 := 0) (s1 := 0) (c2 := 0) (s2 := 0) (by
              rw [hx]
              refine xR_u (stop := 9) 3000 11 _ _ rfl ?_
              refine xR_if (x := xs 2) rfl (fun _ => ?_) (fun z => absurd (xz_lt0 (b := 0) (by decide) z) (by omega))
              exact ⟨3000, rfl⟩) (by rfl) (by
              rw [hx]
              refine xR_u (stop := 18) 3000 11 _ _ rfl ?_
              apply xR_call (d := 10) rfl rfl rfl rfl
              · refine xR_u (stop := 2) 3000 10 _ _ rfl ?_
                refine xR_ic (x := xs 2) (y := (0 : Int32)) rfl (fun _ => ?_) (fun z => absurd (xz_lt0 (b := 0) (by decide) z) (by omega))
                exact ⟨3000, rfl⟩
              exact ⟨3000, rfl⟩)⟩
        · by_cases h4 : (xs 2).toInt ≤ 999
          · exact ⟨_, _, _, by decide, by decide, lw_6 xs (v := 0) (c1 := 0) (s1 := 0) (c2 := 0) (s2 := 0) (by
                rw [hx]
                refine xR_u (stop := 9) 3000 11 _ _ rfl ?_
                refine xR_if (x := xs 2) rfl (fun z => absurd (xz_lt1 (b := 0) (by decide) z) (by omega)) (fun _ => ?_)
                refine xR_u (stop := 16) 3000 11 _ _ rfl ?_
                refine xR_ic (x := xs 2) (y := (999 : Int32)) rfl (fun _ => ?_) (fun z => absurd (xz_le0 (b := 999) (by decide) z) (by omega))
                exact ⟨3000, rfl⟩) (by rfl) (by
                rw [hx]
                refine xR_u (stop := 18) 3000 11 _ _ rfl ?_
                apply xR_call (d := 10) rfl rfl rfl rfl
                · refine xR_u (stop := 2) 3000 10 _ _ rfl ?_
                  refine xR_ic (x := xs 2) (y := (0 : Int32)) rfl (fun z => absurd (xz_lt1 (b := 0) (by decide) z) (by omega)) (fun _ => ?_)
                  refine xR_u (stop := 7) 3000 10 _ _ rfl ?_
                  refine xR_ic (x := xs 2) (y := (999 : Int32)) rfl (fun z => absurd (xz_gt1 (b := 999) (by decide) z) (by omega)) (fun _ => ?_)
                  exact ⟨3000, rfl⟩
                exact ⟨3000, rfl⟩)⟩
          · exact ⟨_, _, _, by decide, by decide, lw_6 xs (v := -1) (c1 := 0) (s1 := 0) (c2 := 0) (s2 := 0) (by
                rw [hx]
                refine xR_u (stop := 9) 3000 11 _ _ rfl ?_
                refine xR_if (x := xs 2) rfl (fun z => absurd (xz_lt1 (b := 0) (by decide) z) (by omega)) (fun _ => ?_)
                refine xR_u (stop := 16) 3000 11 _ _ rfl ?_
                refine xR_ic (x := xs 2) (y := (999 : Int32)) rfl (fun z => absurd (xz_le1 (b := 999) (by decide) z) (by omega)) (fun _ => ?_)
                exact ⟨3000, rfl⟩) (by rfl) (by
                rw [hx]
                refine xR_u (stop := 18) 3000 11 _ _ rfl ?_
                apply xR_call (d := 10) rfl rfl rfl rfl
                · refine xR_u (stop := 2) 3000 10 _ _ rfl ?_
                  refine xR_ic (x := xs 2) (y := (0 : Int32)) rfl (fun z => absurd (xz_lt1 (b := 0) (by decide) z) (by omega)) (fun _ => ?_)
                  refine xR_u (stop := 7) 3000 10 _ _ rfl ?_
                  refine xR_ic (x := xs 2) (y := (999 : Int32)) rfl (fun _ => ?_) (fun z => absurd (xz_gt0 (b := 999) (by decide) z) (by omega))
                  exact ⟨3000, rfl⟩
                exact ⟨3000, rfl⟩)⟩
      | 2, _, hx =>
        have hx : xs 1 = 2 := hx
        by_cases h3 : (xs 2).toInt < 0
        · exact ⟨_, _, _, by decide, by decide, lw_6 xs (v := -1) (c1 := 0) (s1 := 0) (c2 := 0) (s2 := 0) (by
              rw [hx]
              refine xR_u (stop := 9) 3000 11 _ _ rfl ?_
              refine xR_if (x := xs 2) rfl (fun _ => ?_) (fun z => absurd (xz_lt0 (b := 0) (by decide) z) (by omega))
              exact ⟨3000, rfl⟩) (by rfl) (by
              rw [hx]
              refine xR_u (stop := 18) 3000 11 _ _ rfl ?_
              apply xR_call (d := 10) rfl rfl rfl rfl
              · refine xR_u (stop := 2) 3000 10 _ _ rfl ?_
                refine xR_ic (x := xs 2) (y := (0 : Int32)) rfl (fun _ => ?_) (fun z => absurd (xz_lt0 (b := 0) (by decide) z) (by omega))
                exact ⟨3000, rfl⟩
              exact ⟨3000, rfl⟩)⟩
        · by_cases h4 : (xs 2).toInt ≤ 999
          · exact ⟨_, _, _, by decide, by decide, lw_6 xs (v := 0) (c1 := 0) (s1 := 0) (c2 := 0) (s2 := 0) (by
                rw [hx]
                refine xR_u (stop := 9) 3000 11 _ _ rfl ?_
                refine xR_if (x := xs 2) rfl (fun z => absurd (xz_lt1 (b := 0) (by decide) z) (by omega)) (fun _ => ?_)
                refine xR_u (stop := 16) 3000 11 _ _ rfl ?_
                refine xR_ic (x := xs 2) (y := (999 : Int32)) rfl (fun _ => ?_) (fun z => absurd (xz_le0 (b := 999) (by decide) z) (by omega))
                exact ⟨3000, rfl⟩) (by rfl) (by
                rw [hx]
                refine xR_u (stop := 18) 3000 11 _ _ rfl ?_
                apply xR_call (d := 10) rfl rfl rfl rfl
                · refine xR_u (stop := 2) 3000 10 _ _ rfl ?_
                  refine xR_ic (x := xs 2) (y := (0 : Int32)) rfl (fun z => absurd (xz_lt1 (b := 0) (by decide) z) (by omega)) (fun _ => ?_)
                  refine xR_u (stop := 7) 3000 10 _ _ rfl ?_
                  refine xR_ic (x := xs 2) (y := (999 : Int32)) rfl (fun z => absurd (xz_gt1 (b := 999) (by decide) z) (by omega)) (fun _ => ?_)
                  exact ⟨3000, rfl⟩
                exact ⟨3000, rfl⟩)⟩
          · exact ⟨_, _, _, by decide, by decide, lw_6 xs (v := -1) (c1 := 0) (s1 := 0) (c2 := 0) (s2 := 0) (by
                rw [hx]
                refine xR_u (stop := 9) 3000 11 _ _ rfl ?_
                refine xR_if (x := xs 2) rfl (fun z => absurd (xz_lt1 (b := 0) (by decide) z) (by omega)) (fun _ => ?_)
                refine xR_u (stop := 16) 3000 11 _ _ rfl ?_
                refine xR_ic (x := xs 2) (y := (999 : Int32)) rfl (fun z => absurd (xz_le1 (b := 999) (by decide) z) (by omega)) (fun _ => ?_)
                exact ⟨3000, rfl⟩) (by rfl) (by
                rw [hx]
                refine xR_u (stop := 18) 3000 11 _ _ rfl ?_
                apply xR_call (d := 10) rfl rfl rfl rfl
                · refine xR_u (stop := 2) 3000 10 _ _ rfl ?_
                  refine xR_ic (x := xs 2) (y := (0 : Int32)) rfl (fun z => absurd (xz_lt1 (b := 0) (by decide) z) (by omega)) (fun _ => ?_)
                  refine xR_u (stop := 7) 3000 10 _ _ rfl ?_
                  refine xR_ic (x := xs 2) (y := (999 : Int32)) rfl (fun _ => ?_) (fun z => absurd (xz_gt0 (b := 999) (by decide) z) (by omega))
                  exact ⟨3000, rfl⟩
                exact ⟨3000, rfl⟩)⟩
      | 3, _, hx =>
        have hx : xs 1 = 3 := hx
        by_cases h3 : (xs 2).toInt < 0
        · exact ⟨_, _, _, by decide, by decide, lw_6 xs (v := -1) (c1 := 0) (s1 := 0) (c2 := 0) (s2 := 0) (by
              rw [hx]
              refine xR_u (stop := 9) 3000 11 _ _ rfl ?_
              refine xR_if (x := xs 2) rfl (fun _ => ?_) (fun z => absurd (xz_lt0 (b := 0) (by decide) z) (by omega))
              exact ⟨3000, rfl⟩) (by rfl) (by
              rw [hx]
              refine xR_u (stop := 18) 3000 11 _ _ rfl ?_
              apply xR_call (d := 10) rfl rfl rfl rfl
              · refine xR_u (stop := 2) 3000 10 _ _ rfl ?_
                refine xR_ic (x := xs 2) (y := (0 : Int32)) rfl (fun _ => ?_) (fun z => absurd (xz_lt0 (b := 0) (by decide) z) (by omega))
                exact ⟨3000, rfl⟩
              exact ⟨3000, rfl⟩)⟩
        · by_cases h4 : (xs 2).toInt ≤ 999
          · exact ⟨_, _, _, by decide, by decide, lw_6 xs (v := 0) (c1 := 0) (s1 := 0) (c2 := 0) (s2 := 0) (by
                rw [hx]
                refine xR_u (stop := 9) 3000 11 _ _ rfl ?_
                refine xR_if (x := xs 2) rfl (fun z => absurd (xz_lt1 (b := 0) (by decide) z) (by omega)) (fun _ => ?_)
                refine xR_u (stop := 16) 3000 11 _ _ rfl ?_
                refine xR_ic (x := xs 2) (y := (999 : Int32)) rfl (fun _ => ?_) (fun z => absurd (xz_le0 (b := 999) (by decide) z) (by omega))
                exact ⟨3000, rfl⟩) (by rfl) (by
                rw [hx]
                refine xR_u (stop := 18) 3000 11 _ _ rfl ?_
                apply xR_call (d := 10) rfl rfl rfl rfl
                · refine xR_u (stop := 2) 3000 10 _ _ rfl ?_
                  refine xR_ic (x := xs 2) (y := (0 : Int32)) rfl (fun z => absurd (xz_lt1 (b := 0) (by decide) z) (by omega)) (fun _ => ?_)
                  refine xR_u (stop := 7) 3000 10 _ _ rfl ?_
                  refine xR_ic (x := xs 2) (y := (999 : Int32)) rfl (fun z => absurd (xz_gt1 (b := 999) (by decide) z) (by omega)) (fun _ => ?_)
                  exact ⟨3000, rfl⟩
                exact ⟨3000, rfl⟩)⟩
          · exact ⟨_, _, _, by decide, by decide, lw_6 xs (v := -1) (c1 := 0) (s1 := 0) (c2 := 0) (s2 := 0) (by
                rw [hx]
                refine xR_u (stop := 9) 3000 11 _ _ rfl ?_
                refine xR_if (x := xs 2) rfl (fun z => absurd (xz_lt1 (b := 0) (by decide) z) (by omega)) (fun _ => ?_)
                refine xR_u (stop := 16) 3000 11 _ _ rfl ?_
                refine xR_ic (x := xs 2) (y := (999 : Int32)) rfl (fun z => absurd (xz_le1 (b := 999) (by decide) z) (by omega)) (fun _ => ?_)
                exact ⟨3000, rfl⟩) (by rfl) (by
                rw [hx]
                refine xR_u (stop := 18) 3000 11 _ _ rfl ?_
                apply xR_call (d := 10) rfl rfl rfl rfl
                · refine xR_u (stop := 2) 3000 10 _ _ rfl ?_
                  refine xR_ic (x := xs 2) (y := (0 : Int32)) rfl (fun z => absurd (xz_lt1 (b := 0) (by decide) z) (by omega)) (fun _ => ?_)
                  refine xR_u (stop := 7) 3000 10 _ _ rfl ?_
                  refine xR_ic (x := xs 2) (y := (999 : Int32)) rfl (fun _ => ?_) (fun z => absurd (xz_gt0 (b := 999) (by decide) z) (by omega))
                  exact ⟨3000, rfl⟩
                exact ⟨3000, rfl⟩)⟩
      | 4, _, hx =>
        have hx : xs 1 = 4 := hx
        by_cases h3 : (xs 2).toInt < 0
        · exact ⟨_, _, _, by decide, by decide, lw_6 xs (v := -1) (c1 := 0) (s1 := 0) (c2 := 0) (s2 := 0) (by
              rw [hx]
              refine xR_u (stop := 9) 3000 11 _ _ rfl ?_
              refine xR_if (x := xs 2) rfl (fun _ => ?_) (fun z => absurd (xz_lt0 (b := 0) (by decide) z) (by omega))
              exact ⟨3000, rfl⟩) (by rfl) (by
              rw [hx]
              refine xR_u (stop := 18) 3000 11 _ _ rfl ?_
              apply xR_call (d := 10) rfl rfl rfl rfl
              · refine xR_u (stop := 2) 3000 10 _ _ rfl ?_
                refine xR_ic (x := xs 2) (y := (0 : Int32)) rfl (fun _ => ?_) (fun z => absurd (xz_lt0 (b := 0) (by decide) z) (by omega))
                exact ⟨3000, rfl⟩
              exact ⟨3000, rfl⟩)⟩
        · by_cases h4 : (xs 2).toInt ≤ 999
          · exact ⟨_, _, _, by decide, by decide, lw_6 xs (v := 0) (c1 := 0) (s1 := 0) (c2 := 0) (s2 := 0) (by
                rw [hx]
                refine xR_u (stop := 9) 3000 11 _ _ rfl ?_
                refine xR_if (x := xs 2) rfl (fun z => absurd (xz_lt1 (b := 0) (by decide) z) (by omega)) (fun _ => ?_)
                refine xR_u (stop := 16) 3000 11 _ _ rfl ?_
                refine xR_ic (x := xs 2) (y := (999 : Int32)) rfl (fun _ => ?_) (fun z => absurd (xz_le0 (b := 999) (by decide) z) (by omega))
                exact ⟨3000, rfl⟩) (by rfl) (by
                rw [hx]
                refine xR_u (stop := 18) 3000 11 _ _ rfl ?_
                apply xR_call (d := 10) rfl rfl rfl rfl
                · refine xR_u (stop := 2) 3000 10 _ _ rfl ?_
                  refine xR_ic (x := xs 2) (y := (0 : Int32)) rfl (fun z => absurd (xz_lt1 (b := 0) (by decide) z) (by omega)) (fun _ => ?_)
                  refine xR_u (stop := 7) 3000 10 _ _ rfl ?_
                  refine xR_ic (x := xs 2) (y := (999 : Int32)) rfl (fun z => absurd (xz_gt1 (b := 999) (by decide) z) (by omega)) (fun _ => ?_)
                  exact ⟨3000, rfl⟩
                exact ⟨3000, rfl⟩)⟩
          · exact ⟨_, _, _, by decide, by decide, lw_6 xs (v := -1) (c1 := 0) (s1 := 0) (c2 := 0) (s2 := 0) (by
                rw [hx]
                refine xR_u (stop := 9) 3000 11 _ _ rfl ?_
                refine xR_if (x := xs 2) rfl (fun z => absurd (xz_lt1 (b := 0) (by decide) z) (by omega)) (fun _ => ?_)
                refine xR_u (stop := 16) 3000 11 _ _ rfl ?_
                refine xR_ic (x := xs 2) (y := (999 : Int32)) rfl (fun z => absurd (xz_le1 (b := 999) (by decide) z) (by omega)) (fun _ => ?_)
                exact ⟨3000, rfl⟩) (by rfl) (by
                rw [hx]
                refine xR_u (stop := 18) 3000 11 _ _ rfl ?_
                apply xR_call (d := 10) rfl rfl rfl rfl
                · refine xR_u (stop := 2) 3000 10 _ _ rfl ?_
                  refine xR_ic (x := xs 2) (y := (0 : Int32)) rfl (fun z => absurd (xz_lt1 (b := 0) (by decide) z) (by omega)) (fun _ => ?_)
                  refine xR_u (stop := 7) 3000 10 _ _ rfl ?_
                  refine xR_ic (x := xs 2) (y := (999 : Int32)) rfl (fun _ => ?_) (fun z => absurd (xz_gt0 (b := 999) (by decide) z) (by omega))
                  exact ⟨3000, rfl⟩
                exact ⟨3000, rfl⟩)⟩
      | 5, _, hx =>
        have hx : xs 1 = 5 := hx
        by_cases h3 : (xs 2).toInt < 0
        · exact ⟨_, _, _, by decide, by decide, lw_6 xs (v := -1) (c1 := 0) (s1 := 0) (c2 := 0) (s2 := 0) (by
              rw [hx]
              refine xR_u (stop := 9) 3000 11 _ _ rfl ?_
              refine xR_if (x := xs 2) rfl (fun _ => ?_) (fun z => absurd (xz_lt0 (b := 0) (by decide) z) (by omega))
              exact ⟨3000, rfl⟩) (by rfl) (by
              rw [hx]
              refine xR_u (stop := 18) 3000 11 _ _ rfl ?_
              apply xR_call (d := 10) rfl rfl rfl rfl
              · refine xR_u (stop := 2) 3000 10 _ _ rfl ?_
                refine xR_ic (x := xs 2) (y := (0 : Int32)) rfl (fun _ => ?_) (fun z => absurd (xz_lt0 (b := 0) (by decide) z) (by omega))
                exact ⟨3000, rfl⟩
              exact ⟨3000, rfl⟩)⟩
        · by_cases h4 : (xs 2).toInt ≤ 999
          · exact ⟨_, _, _, by decide, by decide, lw_6 xs (v := 0) (c1 := 0) (s1 := 0) (c2 := 0) (s2 := 0) (by
                rw [hx]
                refine xR_u (stop := 9) 3000 11 _ _ rfl ?_
                refine xR_if (x := xs 2) rfl (fun z => absurd (xz_lt1 (b := 0) (by decide) z) (by omega)) (fun _ => ?_)
                refine xR_u (stop := 16) 3000 11 _ _ rfl ?_
                refine xR_ic (x := xs 2) (y := (999 : Int32)) rfl (fun _ => ?_) (fun z => absurd (xz_le0 (b := 999) (by decide) z) (by omega))
                exact ⟨3000, rfl⟩) (by rfl) (by
                rw [hx]
                refine xR_u (stop := 18) 3000 11 _ _ rfl ?_
                apply xR_call (d := 10) rfl rfl rfl rfl
                · refine xR_u (stop := 2) 3000 10 _ _ rfl ?_
                  refine xR_ic (x := xs 2) (y := (0 : Int32)) rfl (fun z => absurd (xz_lt1 (b := 0) (by decide) z) (by omega)) (fun _ => ?_)
                  refine xR_u (stop := 7) 3000 10 _ _ rfl ?_
                  refine xR_ic (x := xs 2) (y := (999 : Int32)) rfl (fun z => absurd (xz_gt1 (b := 999) (by decide) z) (by omega)) (fun _ => ?_)
                  exact ⟨3000, rfl⟩
                exact ⟨3000, rfl⟩)⟩
          · exact ⟨_, _, _, by decide, by decide, lw_6 xs (v := -1) (c1 := 0) (s1 := 0) (c2 := 0) (s2 := 0) (by
                rw [hx]
                refine xR_u (stop := 9) 3000 11 _ _ rfl ?_
                refine xR_if (x := xs 2) rfl (fun z => absurd (xz_lt1 (b := 0) (by decide) z) (by omega)) (fun _ => ?_)
                refine xR_u (stop := 16) 3000 11 _ _ rfl ?_
                refine xR_ic (x := xs 2) (y := (999 : Int32)) rfl (fun z => absurd (xz_le1 (b := 999) (by decide) z) (by omega)) (fun _ => ?_)
                exact ⟨3000, rfl⟩) (by rfl) (by
                rw [hx]
                refine xR_u (stop := 18) 3000 11 _ _ rfl ?_
                apply xR_call (d := 10) rfl rfl rfl rfl
                · refine xR_u (stop := 2) 3000 10 _ _ rfl ?_
                  refine xR_ic (x := xs 2) (y := (0 : Int32)) rfl (fun z => absurd (xz_lt1 (b := 0) (by decide) z) (by omega)) (fun _ => ?_)
                  refine xR_u (stop := 7) 3000 10 _ _ rfl ?_
                  refine xR_ic (x := xs 2) (y := (999 : Int32)) rfl (fun _ => ?_) (fun z => absurd (xz_gt0 (b := 999) (by decide) z) (by omega))
                  exact ⟨3000, rfl⟩
                exact ⟨3000, rfl⟩)⟩
      | 6, _, hx =>
        have hx : xs 1 = 6 := hx
        by_cases h3 : (xs 2).toInt < 0
        · exact ⟨_, _, _, by decide, by decide, lw_6 xs (v := -1) (c1 := 0) (s1 := 0) (c2 := 0) (s2 := 0) (by
              rw [hx]
              refine xR_u (stop := 9) 3000 11 _ _ rfl ?_
              refine xR_if (x := xs 2) rfl (fun _ => ?_) (fun z => absurd (xz_lt0 (b := 0) (by decide) z) (by omega))
              exact ⟨3000, rfl⟩) (by rfl) (by
              rw [hx]
              refine xR_u (stop := 18) 3000 11 _ _ rfl ?_
              apply xR_call (d := 10) rfl rfl rfl rfl
              · refine xR_u (stop := 2) 3000 10 _ _ rfl ?_
                refine xR_ic (x := xs 2) (y := (0 : Int32)) rfl (fun _ => ?_) (fun z => absurd (xz_lt0 (b := 0) (by decide) z) (by omega))
                exact ⟨3000, rfl⟩
              exact ⟨3000, rfl⟩)⟩
        · by_cases h4 : (xs 2).toInt ≤ 999
          · exact ⟨_, _, _, by decide, by decide, lw_6 xs (v := 0) (c1 := 0) (s1 := 0) (c2 := 0) (s2 := 0) (by
                rw [hx]
                refine xR_u (stop := 9) 3000 11 _ _ rfl ?_
                refine xR_if (x := xs 2) rfl (fun z => absurd (xz_lt1 (b := 0) (by decide) z) (by omega)) (fun _ => ?_)
                refine xR_u (stop := 16) 3000 11 _ _ rfl ?_
                refine xR_ic (x := xs 2) (y := (999 : Int32)) rfl (fun _ => ?_) (fun z => absurd (xz_le0 (b := 999) (by decide) z) (by omega))
                exact ⟨3000, rfl⟩) (by rfl) (by
                rw [hx]
                refine xR_u (stop := 18) 3000 11 _ _ rfl ?_
                apply xR_call (d := 10) rfl rfl rfl rfl
                · refine xR_u (stop := 2) 3000 10 _ _ rfl ?_
                  refine xR_ic (x := xs 2) (y := (0 : Int32)) rfl (fun z => absurd (xz_lt1 (b := 0) (by decide) z) (by omega)) (fun _ => ?_)
                  refine xR_u (stop := 7) 3000 10 _ _ rfl ?_
                  refine xR_ic (x := xs 2) (y := (999 : Int32)) rfl (fun z => absurd (xz_gt1 (b := 999) (by decide) z) (by omega)) (fun _ => ?_)
                  exact ⟨3000, rfl⟩
                exact ⟨3000, rfl⟩)⟩
          · exact ⟨_, _, _, by decide, by decide, lw_6 xs (v := -1) (c1 := 0) (s1 := 0) (c2 := 0) (s2 := 0) (by
                rw [hx]
                refine xR_u (stop := 9) 3000 11 _ _ rfl ?_
                refine xR_if (x := xs 2) rfl (fun z => absurd (xz_lt1 (b := 0) (by decide) z) (by omega)) (fun _ => ?_)
                refine xR_u (stop := 16) 3000 11 _ _ rfl ?_
                refine xR_ic (x := xs 2) (y := (999 : Int32)) rfl (fun z => absurd (xz_le1 (b := 999) (by decide) z) (by omega)) (fun _ => ?_)
                exact ⟨3000, rfl⟩) (by rfl) (by
                rw [hx]
                refine xR_u (stop := 18) 3000 11 _ _ rfl ?_
                apply xR_call (d := 10) rfl rfl rfl rfl
                · refine xR_u (stop := 2) 3000 10 _ _ rfl ?_
                  refine xR_ic (x := xs 2) (y := (0 : Int32)) rfl (fun z => absurd (xz_lt1 (b := 0) (by decide) z) (by omega)) (fun _ => ?_)
                  refine xR_u (stop := 7) 3000 10 _ _ rfl ?_
                  refine xR_ic (x := xs 2) (y := (999 : Int32)) rfl (fun _ => ?_) (fun z => absurd (xz_gt0 (b := 999) (by decide) z) (by omega))
                  exact ⟨3000, rfl⟩
                exact ⟨3000, rfl⟩)⟩
      | 7, _, hx =>
        have hx : xs 1 = 7 := hx
        by_cases h3 : (xs 2).toInt < 0
        · exact ⟨_, _, _, by decide, by decide, lw_6 xs (v := -1) (c1 := 0) (s1 := 0) (c2 := 0) (s2 := 0) (by
              rw [hx]
              refine xR_u (stop := 9) 3000 11 _ _ rfl ?_
              refine xR_if (x := xs 2) rfl (fun _ => ?_) (fun z => absurd (xz_lt0 (b := 0) (by decide) z) (by omega))
              exact ⟨3000, rfl⟩) (by rfl) (by
              rw [hx]
              refine xR_u (stop := 18) 3000 11 _ _ rfl ?_
              apply xR_call (d := 10) rfl rfl rfl rfl
              · refine xR_u (stop := 2) 3000 10 _ _ rfl ?_
                refine xR_ic (x := xs 2) (y := (0 : Int32)) rfl (fun _ => ?_) (fun z => absurd (xz_lt0 (b := 0) (by decide) z) (by omega))
                exact ⟨3000, rfl⟩
              exact ⟨3000, rfl⟩)⟩
        · by_cases h4 : (xs 2).toInt ≤ 999
          · exact ⟨_, _, _, by decide, by decide, lw_6 xs (v := 1) (c1 := 0) (s1 := 0) (c2 := 0) (s2 := 0) (by
                rw [hx]
                refine xR_u (stop := 9) 3000 11 _ _ rfl ?_
                refine xR_if (x := xs 2) rfl (fun z => absurd (xz_lt1 (b := 0) (by decide) z) (by omega)) (fun _ => ?_)
                refine xR_u (stop := 16) 3000 11 _ _ rfl ?_
                refine xR_ic (x := xs 2) (y := (999 : Int32)) rfl (fun _ => ?_) (fun z => absurd (xz_le0 (b := 999) (by decide) z) (by omega))
                exact ⟨3000, rfl⟩) (by rfl) (by
                rw [hx]
                refine xR_u (stop := 18) 3000 11 _ _ rfl ?_
                apply xR_call (d := 10) rfl rfl rfl rfl
                · refine xR_u (stop := 2) 3000 10 _ _ rfl ?_
                  refine xR_ic (x := xs 2) (y := (0 : Int32)) rfl (fun z => absurd (xz_lt1 (b := 0) (by decide) z) (by omega)) (fun _ => ?_)
                  refine xR_u (stop := 7) 3000 10 _ _ rfl ?_
                  refine xR_ic (x := xs 2) (y := (999 : Int32)) rfl (fun z => absurd (xz_gt1 (b := 999) (by decide) z) (by omega)) (fun _ => ?_)
                  exact ⟨3000, rfl⟩
                exact ⟨3000, rfl⟩)⟩
          · exact ⟨_, _, _, by decide, by decide, lw_6 xs (v := -1) (c1 := 0) (s1 := 0) (c2 := 0) (s2 := 0) (by
                rw [hx]
                refine xR_u (stop := 9) 3000 11 _ _ rfl ?_
                refine xR_if (x := xs 2) rfl (fun z => absurd (xz_lt1 (b := 0) (by decide) z) (by omega)) (fun _ => ?_)
                refine xR_u (stop := 16) 3000 11 _ _ rfl ?_
                refine xR_ic (x := xs 2) (y := (999 : Int32)) rfl (fun z => absurd (xz_le1 (b := 999) (by decide) z) (by omega)) (fun _ => ?_)
                exact ⟨3000, rfl⟩) (by rfl) (by
                rw [hx]
                refine xR_u (stop := 18) 3000 11 _ _ rfl ?_
                apply xR_call (d := 10) rfl rfl rfl rfl
                · refine xR_u (stop := 2) 3000 10 _ _ rfl ?_
                  refine xR_ic (x := xs 2) (y := (0 : Int32)) rfl (fun z => absurd (xz_lt1 (b := 0) (by decide) z) (by omega)) (fun _ => ?_)
                  refine xR_u (stop := 7) 3000 10 _ _ rfl ?_
                  refine xR_ic (x := xs 2) (y := (999 : Int32)) rfl (fun _ => ?_) (fun z => absurd (xz_gt0 (b := 999) (by decide) z) (by omega))
                  exact ⟨3000, rfl⟩
                exact ⟨3000, rfl⟩)⟩
      | j + 8, hj, _ => omega
    · exact ⟨_, _, _, by decide, by decide, lw_6 xs (v := -1) (c1 := 0) (s1 := 0) (c2 := 0) (s2 := 0) (by
          refine xR_u (stop := 2) 3000 11 _ _ rfl ?_
          apply xR_call (d := 10) rfl rfl rfl rfl
          · refine xR_u (stop := 1) 3000 10 _ _ rfl ?_
            refine xR_if (x := xs 1) rfl (fun z => absurd (xz_lt1 (b := 0) (by decide) z) (by omega)) (fun _ => ?_)
            refine xR_u (stop := 11) 3000 10 _ _ rfl ?_
            refine xR_ic (x := xs 1) (y := (8 : Int32)) rfl (fun _ => ?_) (fun z => absurd (xz_ge0 (b := 8) (by decide) z) (by omega))
            exact ⟨3000, rfl⟩
          exact ⟨3000, rfl⟩) (by rfl) (by
          refine xR_u (stop := 7) 3000 11 _ _ rfl ?_
          apply xR_call (d := 10) rfl rfl rfl rfl
          · refine xR_u (stop := 1) 3000 10 _ _ rfl ?_
            refine xR_if (x := xs 1) rfl (fun z => absurd (xz_lt1 (b := 0) (by decide) z) (by omega)) (fun _ => ?_)
            refine xR_u (stop := 11) 3000 10 _ _ rfl ?_
            refine xR_ic (x := xs 1) (y := (8 : Int32)) rfl (fun _ => ?_) (fun z => absurd (xz_ge0 (b := 8) (by decide) z) (by omega))
            exact ⟨3000, rfl⟩
          exact ⟨3000, rfl⟩)⟩
theorem lw_20_0 (xs : Nat → Int32) (hb : (xs 1).toInt = 0) {v : Int32} {h1 h2 : xh_H} {c1 s1 c2 s2 : Nat} (r1 : xR none 11 xi_X9_leads xmi_X9_leads (0, lv_args 0 [.ref 0, .int 0], [], xf_h, 0, 0) (some (.int v), h1, c1, s1)) (hs : h1.1[39]? = some (0, 10)) (r2 : xR none 11 xi_X10_leads xmi_X10_leads (0, lv_args 0 [.ref 39, .int 0], [], h1, 0, 0) (some (.int v), h2, c2, s2)) : xR (some (6, xs)) 12 xi_L_law xmi_L_law (771, xf_lv, [], xf_h, 72, 274345) (some (.int 1), h2, 72 + c1 + c2, 274345 + s1 + s2) := by
  refine xR_u (stop := 778) 40 12 _ _ rfl ?_
  refine xR_if (x := xs 1) rfl (fun _ => ?_) (fun z => absurd (xz_eq0 (b := 0) (by decide) z) (by omega))
  refine xR_u (stop := 786) 40 12 _ _ rfl ?_
  refine xR_call rfl rfl rfl rfl r1 ?_
  refine xR_u (stop := 796) 40 12 _ _ rfl ?_
  refine xR_if (x := xs 1) rfl (fun _ => ?_) (fun z => absurd (xz_eq0 (b := 0) (by decide) z) (by omega))
  refine xR_u (stop := 804) 40 12 _ _ rfl ?_
  refine xR_cv [.int 0] [.int v] rfl rfl rfl hs rfl r2 ?_
  refine xR_ic rfl (fun _ => lw_end xs h2 _ _) (fun z => ?_)
  simp [xe_c] at z
theorem lw_20_1 (xs : Nat → Int32) (hb : ¬ (xs 1).toInt = 0) {v : Int32} {h1 h2 : xh_H} {c1 s1 c2 s2 : Nat} (r1 : xR none 11 xi_X9_leads xmi_X9_leads (0, lv_args 0 [.ref 0, .int 1], [], xf_h, 0, 0) (some (.int v), h1, c1, s1)) (hs : h1.1[39]? = some (0, 10)) (r2 : xR none 11 xi_X10_leads xmi_X10_leads (0, lv_args 0 [.ref 39, .int 1], [], h1, 0, 0) (some (.int v), h2, c2, s2)) : xR (some (6, xs)) 12 xi_L_law xmi_L_law (771, xf_lv, [], xf_h, 72, 274345) (some (.int 1), h2, 72 + c1 + c2, 274345 + s1 + s2) := by
  refine xR_u (stop := 778) 40 12 _ _ rfl ?_
  refine xR_if (x := xs 1) rfl (fun z => absurd (xz_eq1 (b := 0) (by decide) z) (by omega)) (fun _ => ?_)
  refine xR_u (stop := 786) 40 12 _ _ rfl ?_
  refine xR_call rfl rfl rfl rfl r1 ?_
  refine xR_u (stop := 796) 40 12 _ _ rfl ?_
  refine xR_if (x := xs 1) rfl (fun z => absurd (xz_eq1 (b := 0) (by decide) z) (by omega)) (fun _ => ?_)
  refine xR_u (stop := 804) 40 12 _ _ rfl ?_
  refine xR_cv [.int 1] [.int v] rfl rfl rfl hs rfl r2 ?_
  refine xR_ic rfl (fun _ => lw_end xs h2 _ _) (fun z => ?_)
  simp [xe_c] at z
theorem lw_23_0 (xs : Nat → Int32) (hb : (xs 2).toInt = 0) {v : Int32} {h1 h2 : xh_H} {c1 s1 c2 s2 : Nat} (r1 : xR none 11 xi_X9_vote xmi_X9_vote (0, lv_args 0 [.ref 0, .int (xs 1), .int 0], [], xf_h, 0, 0) (some (.int v), h1, c1, s1)) (hs : h1.1[39]? = some (0, 10)) (r2 : xR none 11 xi_X10_vote xmi_X10_vote (0, lv_args 0 [.ref 39, .int (xs 1), .int 0], [], h1, 0, 0) (some (.int v), h2, c2, s2)) : xR (some (6, xs)) 12 xi_L_law xmi_L_law (862, xf_lv, [], xf_h, 72, 274345) (some (.int 1), h2, 72 + c1 + c2, 274345 + s1 + s2) := by
  refine xR_u (stop := 875) 40 12 _ _ rfl ?_
  refine xR_if (x := xs 2) rfl (fun _ => ?_) (fun z => absurd (xz_eq0 (b := 0) (by decide) z) (by omega))
  refine xR_u (stop := 883) 40 12 _ _ rfl ?_
  refine xR_call rfl rfl rfl rfl r1 ?_
  refine xR_u (stop := 899) 40 12 _ _ rfl ?_
  refine xR_if (x := xs 2) rfl (fun _ => ?_) (fun z => absurd (xz_eq0 (b := 0) (by decide) z) (by omega))
  refine xR_u (stop := 907) 40 12 _ _ rfl ?_
  refine xR_cv [.int (xs 1), .int 0] [.int v] rfl rfl rfl hs rfl r2 ?_
  refine xR_ic rfl (fun _ => lw_end xs h2 _ _) (fun z => ?_)
  simp [xe_c] at z
theorem lw_23_1 (xs : Nat → Int32) (hb : ¬ (xs 2).toInt = 0) {v : Int32} {h1 h2 : xh_H} {c1 s1 c2 s2 : Nat} (r1 : xR none 11 xi_X9_vote xmi_X9_vote (0, lv_args 0 [.ref 0, .int (xs 1), .int 1], [], xf_h, 0, 0) (some (.int v), h1, c1, s1)) (hs : h1.1[39]? = some (0, 10)) (r2 : xR none 11 xi_X10_vote xmi_X10_vote (0, lv_args 0 [.ref 39, .int (xs 1), .int 1], [], h1, 0, 0) (some (.int v), h2, c2, s2)) : xR (some (6, xs)) 12 xi_L_law xmi_L_law (862, xf_lv, [], xf_h, 72, 274345) (some (.int 1), h2, 72 + c1 + c2, 274345 + s1 + s2) := by
  refine xR_u (stop := 875) 40 12 _ _ rfl ?_
  refine xR_if (x := xs 2) rfl (fun z => absurd (xz_eq1 (b := 0) (by decide) z) (by omega)) (fun _ => ?_)
  refine xR_u (stop := 883) 40 12 _ _ rfl ?_
  refine xR_call rfl rfl rfl rfl r1 ?_
  refine xR_u (stop := 899) 40 12 _ _ rfl ?_
  refine xR_if (x := xs 2) rfl (fun z => absurd (xz_eq1 (b := 0) (by decide) z) (by omega)) (fun _ => ?_)
  refine xR_u (stop := 907) 40 12 _ _ rfl ?_
  refine xR_cv [.int (xs 1), .int 1] [.int v] rfl rfl rfl hs rfl r2 ?_
  refine xR_ic rfl (fun _ => lw_end xs h2 _ _) (fun z => ?_)
  simp [xe_c] at z
set_option maxRecDepth 100000 in
set_option maxHeartbeats 8000000 in
theorem op_20 (xs : Nat → Int32) : lw_C 771 xs := by
  by_cases hb : (xs 1).toInt = 0
  · exact ⟨_, _, _, by decide, by decide, lw_20_0 xs hb (v := -1) (c1 := 0) (s1 := 0) (c2 := 0) (s2 := 0) (by
        exact ⟨3000, rfl⟩) (by rfl) (by
        exact ⟨3000, rfl⟩)⟩
  · exact ⟨_, _, _, by decide, by decide, lw_20_1 xs hb (v := -1) (c1 := 0) (s1 := 0) (c2 := 0) (s2 := 0) (by
        exact ⟨3000, rfl⟩) (by rfl) (by
        exact ⟨3000, rfl⟩)⟩
end XCL6
