section XRZ
set_option maxRecDepth 100000 in
set_option maxHeartbeats 8000000 in
theorem op_21 (xs : Nat → Int32) : lw_C 812 xs := by
  by_cases h1 : (xs 1).toInt < 0
  · exact ⟨_, _, _, by decide, by decide, lw_21 xs (v := -1) (c1 := 0) (s1 := 0) (c2 := 0) (s2 := 0) (by
      refine xR_u (stop := 1) 3000 11 _ _ rfl ?_
      apply xR_call (d := 10) rfl rfl rfl rfl
      · refine xR_u (stop := 1) 3000 10 _ _ rfl ?_
        refine xR_if (x := xs 1) rfl (fun _ => ?_) (fun z => absurd (xz_lt0 (b := 0) (by decide) z) (by omega))
        exact ⟨3000, rfl⟩
      exact ⟨3000, rfl⟩) (by rfl) (by
      refine xR_u (stop := 6) 3000 11 _ _ rfl ?_
      apply xR_call (d := 10) rfl rfl rfl rfl
      · refine xR_u (stop := 1) 3000 10 _ _ rfl ?_
        refine xR_if (x := xs 1) rfl (fun _ => ?_) (fun z => absurd (xz_lt0 (b := 0) (by decide) z) (by omega))
        exact ⟨3000, rfl⟩
      exact ⟨3000, rfl⟩)⟩
  by_cases h2 : 7 ≤ (xs 1).toInt
  · exact ⟨_, _, _, by decide, by decide, lw_21 xs (v := -1) (c1 := 0) (s1 := 0) (c2 := 0) (s2 := 0) (by
      refine xR_u (stop := 1) 3000 11 _ _ rfl ?_
      apply xR_call (d := 10) rfl rfl rfl rfl
      · refine xR_u (stop := 1) 3000 10 _ _ rfl ?_
        refine xR_if (x := xs 1) rfl (fun z => absurd (xz_lt1 (b := 0) (by decide) z) (by omega)) (fun _ => ?_)
        refine xR_u (stop := 7) 3000 10 _ _ rfl ?_
        refine xR_ic (x := xs 1) (y := (7 : Int32)) rfl (fun _ => ?_) (fun z => absurd (xz_ge0 (b := 7) (by decide) z) (by omega))
        exact ⟨3000, rfl⟩
      exact ⟨3000, rfl⟩) (by rfl) (by
      refine xR_u (stop := 6) 3000 11 _ _ rfl ?_
      apply xR_call (d := 10) rfl rfl rfl rfl
      · refine xR_u (stop := 1) 3000 10 _ _ rfl ?_
        refine xR_if (x := xs 1) rfl (fun z => absurd (xz_lt1 (b := 0) (by decide) z) (by omega)) (fun _ => ?_)
        refine xR_u (stop := 7) 3000 10 _ _ rfl ?_
        refine xR_ic (x := xs 1) (y := (7 : Int32)) rfl (fun _ => ?_) (fun z => absurd (xz_ge0 (b := 7) (by decide) z) (by omega))
        exact ⟨3000, rfl⟩
      exact ⟨3000, rfl⟩)⟩
  obtain ⟨j, hj, hx⟩ := vp_in_of (x := xs 1) (n := 7) (vp_in_iff.mpr ⟨by omega, by omega⟩) (by decide)
  match j, hj, hx with
  | 0, _, hx =>
    have hx : xs 1 = 0 := hx
    obtain ⟨r2, od2, hr⟩ := mr_0
    exact ⟨_, _, _, by decide, by decide, lw_21 xs (v := 5040) (c1 := 0) (s1 := 0) (c2 := 0) (s2 := 0) (by rw [hx]; exact cr_0) (by rfl) (by rw [hx]; exact hr)⟩
  | 1, _, hx =>
    have hx : xs 1 = 1 := hx
    obtain ⟨od2, hr⟩ := mr_1
    exact ⟨_, _, _, by decide, by decide, lw_21 xs (v := 0) (c1 := 0) (s1 := 0) (c2 := 0) (s2 := 0) (by rw [hx]; exact cr_1) (by rfl) (by rw [hx]; exact hr)⟩
  | 2, _, hx =>
    have hx : xs 1 = 2 := hx
    obtain ⟨od2, hr⟩ := mr_2
    exact ⟨_, _, _, by decide, by decide, lw_21 xs (v := 0) (c1 := 0) (s1 := 0) (c2 := 0) (s2 := 0) (by rw [hx]; exact cr_2) (by rfl) (by rw [hx]; exact hr)⟩
  | 3, _, hx =>
    have hx : xs 1 = 3 := hx
    obtain ⟨od2, hr⟩ := mr_3
    exact ⟨_, _, _, by decide, by decide, lw_21 xs (v := 0) (c1 := 0) (s1 := 0) (c2 := 0) (s2 := 0) (by rw [hx]; exact cr_3) (by rfl) (by rw [hx]; exact hr)⟩
  | 4, _, hx =>
    have hx : xs 1 = 4 := hx
    obtain ⟨od2, hr⟩ := mr_4
    exact ⟨_, _, _, by decide, by decide, lw_21 xs (v := 0) (c1 := 0) (s1 := 0) (c2 := 0) (s2 := 0) (by rw [hx]; exact cr_4) (by rfl) (by rw [hx]; exact hr)⟩
  | 5, _, hx =>
    have hx : xs 1 = 5 := hx
    obtain ⟨od2, hr⟩ := mr_5
    exact ⟨_, _, _, by decide, by decide, lw_21 xs (v := 0) (c1 := 0) (s1 := 0) (c2 := 0) (s2 := 0) (by rw [hx]; exact cr_5) (by rfl) (by rw [hx]; exact hr)⟩
  | 6, _, hx =>
    have hx : xs 1 = 6 := hx
    obtain ⟨od2, hr⟩ := mr_6
    exact ⟨_, _, _, by decide, by decide, lw_21 xs (v := 0) (c1 := 0) (s1 := 0) (c2 := 0) (s2 := 0) (by rw [hx]; exact cr_6) (by rfl) (by rw [hx]; exact hr)⟩
end XRZ
