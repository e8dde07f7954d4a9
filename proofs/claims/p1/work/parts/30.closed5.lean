section XCL5
theorem xR_swo {scr : Option (Nat × (Nat → Int32))} {d mid : Nat} {mi : xm_M} {pc : Nat} {lv : List (Nat × Value)} {q : List Value} {h : xh_H} {c s : Nat} {o : Option Value × xh_H × Nat × Nat} {dflt lo hi : Int} {offs : Array Int} {len a b K i : Nat} {x : Int32} (tgt : Nat) (hr : xC mid pc = some (.tableswitch dflt lo hi offs, len, a, b, K, i)) (hx : x.toInt < lo ∨ hi < x.toInt) (ht : (pc : Int) + dflt = (tgt : Int)) (k : xR scr d mid mi (tgt, lv, q, h, c, s) o) : xR scr d mid mi (pc, lv, .int x :: q, h, c, s) o := by
  have hb : (decide (x.toInt < lo) || decide (hi < x.toInt)) = true := by simpa using hx
  have h0 : decide (0 ≤ (pc : Int) + dflt) = true := by rw [ht]; simp
  have h1 : ((pc : Int) + dflt).toNat = tgt := by rw [ht]; simp
  refine xR_step hr rfl (o1 := (tgt, lv, q, h, c, s)) ?_ k
  simp only [xe_2, xe_1, xp_i, hb, cond_true, h0, h1]
set_option maxRecDepth 100000 in
set_option maxHeartbeats 8000000 in
theorem op_27 (xs : Nat → Int32) : lw_C 1002 xs := by
  by_cases h1 : (xs 1).toInt < 0
  · exact ⟨_, _, _, by decide, by decide, lw_27 xs (v := (-1)) (c1 := 0) (s1 := 0) (c2 := 0) (s2 := 0) (by
        refine xR_u (stop := 1) 300 11 _ _ rfl ?_
        refine xR_swo (x := xs 1) 67 rfl (Or.inl h1) (by decide) ?_
        exact ⟨300, rfl⟩) (by rfl) (by
        refine xR_u (stop := 6) 300 11 _ _ rfl ?_
        refine xR_swo (x := xs 1) 65 rfl (Or.inl h1) (by decide) ?_
        exact ⟨300, rfl⟩)⟩
  · by_cases h2 : (xs 1).toInt < 5
    · obtain ⟨j, hj, hx⟩ := vp_in_of (x := xs 1) (n := 5) (vp_in_iff.mpr ⟨by omega, by omega⟩) (by decide)
      match j, hj, hx with
      | 0, _, hx =>
        have hx : xs 1 = 0 := hx
        exact ⟨_, _, _, by decide, by decide, lw_27 xs (v := (0)) (c1 := 0) (s1 := 0) (c2 := 0) (s2 := 0) (by
            rw [hx]
            exact xR_cl (f := 30) (by decide +kernel)) (by decide +kernel) (by
            rw [hx]
            exact xR_cl (f := 30) (by decide +kernel))⟩
      | 1, _, hx =>
        have hx : xs 1 = 1 := hx
        exact ⟨_, _, _, by decide, by decide, lw_27 xs (v := (3)) (c1 := 0) (s1 := 0) (c2 := 0) (s2 := 0) (by
            rw [hx]
            exact xR_cl (f := 30) (by decide +kernel)) (by decide +kernel) (by
            rw [hx]
            exact xR_cl (f := 30) (by decide +kernel))⟩
      | 2, _, hx =>
        have hx : xs 1 = 2 := hx
        exact ⟨_, _, _, by decide, by decide, lw_27 xs (v := (0)) (c1 := 0) (s1 := 0) (c2 := 0) (s2 := 0) (by
            rw [hx]
            exact xR_cl (f := 30) (by decide +kernel)) (by decide +kernel) (by
            rw [hx]
            exact xR_cl (f := 30) (by decide +kernel))⟩
      | 3, _, hx =>
        have hx : xs 1 = 3 := hx
        exact ⟨_, _, _, by decide, by decide, lw_27 xs (v := (0)) (c1 := 0) (s1 := 0) (c2 := 0) (s2 := 0) (by
            rw [hx]
            exact xR_cl (f := 30) (by decide +kernel)) (by decide +kernel) (by
            rw [hx]
            exact xR_cl (f := 30) (by decide +kernel))⟩
      | 4, _, hx =>
        have hx : xs 1 = 4 := hx
        exact ⟨_, _, _, by decide, by decide, lw_27 xs (v := (0)) (c1 := 0) (s1 := 0) (c2 := 0) (s2 := 0) (by
            rw [hx]
            exact xR_cl (f := 30) (by decide +kernel)) (by decide +kernel) (by
            rw [hx]
            exact xR_cl (f := 30) (by decide +kernel))⟩
      | j + 5, hj, _ => omega
    · exact ⟨_, _, _, by decide, by decide, lw_27 xs (v := (-1)) (c1 := 0) (s1 := 0) (c2 := 0) (s2 := 0) (by
          refine xR_u (stop := 1) 300 11 _ _ rfl ?_
          refine xR_swo (x := xs 1) 67 rfl (Or.inr (by omega)) (by decide) ?_
          exact ⟨300, rfl⟩) (by rfl) (by
          refine xR_u (stop := 6) 300 11 _ _ rfl ?_
          refine xR_swo (x := xs 1) 65 rfl (Or.inr (by omega)) (by decide) ?_
          exact ⟨300, rfl⟩)⟩
set_option maxRecDepth 100000 in
theorem cl_pl0 : xx_b (xe_x xM xC none 900 10 xi_X10_lay xmi_X10_lay (0, lv_args 0 [.ref 39], [], xh_ui xf_p 39 0 (Int32.ofInt 0), 0, 0)) (none, xf_pl, 0, 0) = true := by decide +kernel
set_option maxRecDepth 100000 in
set_option maxHeartbeats 8000000 in
theorem op_7 (xs : Nat → Int32) : lw_C 391 xs := by
  by_cases h1 : (xs 1).toInt < 0
  · exact ⟨_, _, _, by decide, by decide, lw_7 xs (v := (-1)) (c1 := 0) (s1 := 0) (c2 := 0) (s2 := 0) (by
        refine xR_u (stop := 1) 300 11 _ _ rfl ?_
        refine xR_call rfl rfl rfl rfl ⟨9000, xx_b_ok cl_p⟩ ?_
        refine xR_u (stop := 6) 300 11 _ _ rfl ?_
        refine xR_swo (x := xs 1) 122 rfl (Or.inl h1) (by decide) ?_
        exact ⟨300, rfl⟩) (by rfl) (by
        refine xR_u (stop := 6) 300 11 _ _ rfl ?_
        refine xR_call rfl rfl rfl rfl ⟨900, xx_b_ok cl_pl0⟩ ?_
        refine xR_u (stop := 12) 300 11 _ _ rfl ?_
        refine xR_swo (x := xs 1) 153 rfl (Or.inl h1) (by decide) ?_
        exact ⟨300, rfl⟩)⟩
  · by_cases h2 : (xs 1).toInt < 8
    · obtain ⟨j, hj, hx⟩ := vp_in_of (x := xs 1) (n := 8) (vp_in_iff.mpr ⟨by omega, by omega⟩) (by decide)
      match j, hj, hx with
      | 0, _, hx =>
        have hx : xs 1 = 0 := hx
        exact ⟨_, _, _, by decide, by decide, lw_7 xs (v := (1)) (c1 := 0) (s1 := 0) (c2 := 0) (s2 := 0) (by
            rw [hx]
            refine xR_u (stop := 1) 300 11 _ _ rfl ?_
            refine xR_call rfl rfl rfl rfl ⟨9000, xx_b_ok cl_p⟩ ?_
            exact xR_cl (f := 3000) (by decide +kernel)) (by decide +kernel) (by
            rw [hx]
            exact xR_cl (f := 9000) (by decide +kernel))⟩
      | 1, _, hx =>
        have hx : xs 1 = 1 := hx
        exact ⟨_, _, _, by decide, by decide, lw_7 xs (v := (1)) (c1 := 0) (s1 := 0) (c2 := 0) (s2 := 0) (by
            rw [hx]
            refine xR_u (stop := 1) 300 11 _ _ rfl ?_
            refine xR_call rfl rfl rfl rfl ⟨9000, xx_b_ok cl_p⟩ ?_
            exact xR_cl (f := 3000) (by decide +kernel)) (by decide +kernel) (by
            rw [hx]
            exact xR_cl (f := 9000) (by decide +kernel))⟩
      | 2, _, hx =>
        have hx : xs 1 = 2 := hx
        exact ⟨_, _, _, by decide, by decide, lw_7 xs (v := (3)) (c1 := 0) (s1 := 0) (c2 := 0) (s2 := 0) (by
            rw [hx]
            refine xR_u (stop := 1) 300 11 _ _ rfl ?_
            refine xR_call rfl rfl rfl rfl ⟨9000, xx_b_ok cl_p⟩ ?_
            exact xR_cl (f := 3000) (by decide +kernel)) (by decide +kernel) (by
            rw [hx]
            exact xR_cl (f := 9000) (by decide +kernel))⟩
      | 3, _, hx =>
        have hx : xs 1 = 3 := hx
        exact ⟨_, _, _, by decide, by decide, lw_7 xs (v := (3)) (c1 := 0) (s1 := 0) (c2 := 0) (s2 := 0) (by
            rw [hx]
            refine xR_u (stop := 1) 300 11 _ _ rfl ?_
            refine xR_call rfl rfl rfl rfl ⟨9000, xx_b_ok cl_p⟩ ?_
            exact xR_cl (f := 3000) (by decide +kernel)) (by decide +kernel) (by
            rw [hx]
            exact xR_cl (f := 9000) (by decide +kernel))⟩
      | 4, _, hx =>
        have hx : xs 1 = 4 := hx
        exact ⟨_, _, _, by decide, by decide, lw_7 xs (v := (0)) (c1 := 0) (s1 := 0) (c2 := 0) (s2 := 0) (by
            rw [hx]
            refine xR_u (stop := 1) 300 11 _ _ rfl ?_
            refine xR_call rfl rfl rfl rfl ⟨9000, xx_b_ok cl_p⟩ ?_
            exact xR_cl (f := 3000) (by decide +kernel)) (by decide +kernel) (by
            rw [hx]
            exact xR_cl (f := 9000) (by decide +kernel))⟩
      | 5, _, hx =>
        have hx : xs 1 = 5 := hx
        exact ⟨_, _, _, by decide, by decide, lw_7 xs (v := (1)) (c1 := 0) (s1 := 0) (c2 := 0) (s2 := 0) (by
            rw [hx]
            refine xR_u (stop := 1) 300 11 _ _ rfl ?_
            refine xR_call rfl rfl rfl rfl ⟨9000, xx_b_ok cl_p⟩ ?_
            exact xR_cl (f := 3000) (by decide +kernel)) (by decide +kernel) (by
            rw [hx]
            exact xR_cl (f := 9000) (by decide +kernel))⟩
      | 6, _, hx =>
        have hx : xs 1 = 6 := hx
        exact ⟨_, _, _, by decide, by decide, lw_7 xs (v := (0)) (c1 := 0) (s1 := 0) (c2 := 0) (s2 := 0) (by
            rw [hx]
            refine xR_u (stop := 1) 300 11 _ _ rfl ?_
            refine xR_call rfl rfl rfl rfl ⟨9000, xx_b_ok cl_p⟩ ?_
            exact xR_cl (f := 3000) (by decide +kernel)) (by decide +kernel) (by
            rw [hx]
            exact xR_cl (f := 9000) (by decide +kernel))⟩
      | 7, _, hx =>
        have hx : xs 1 = 7 := hx
        exact ⟨_, _, _, by decide, by decide, lw_7 xs (v := (1)) (c1 := 0) (s1 := 0) (c2 := 0) (s2 := 0) (by
            rw [hx]
            refine xR_u (stop := 1) 300 11 _ _ rfl ?_
            refine xR_call rfl rfl rfl rfl ⟨9000, xx_b_ok cl_p⟩ ?_
            exact xR_cl (f := 3000) (by decide +kernel)) (by decide +kernel) (by
            rw [hx]
            exact xR_cl (f := 9000) (by decide +kernel))⟩
      | j + 8, hj, _ => omega
    · exact ⟨_, _, _, by decide, by decide, lw_7 xs (v := (-1)) (c1 := 0) (s1 := 0) (c2 := 0) (s2 := 0) (by
          refine xR_u (stop := 1) 300 11 _ _ rfl ?_
          refine xR_call rfl rfl rfl rfl ⟨9000, xx_b_ok cl_p⟩ ?_
          refine xR_u (stop := 6) 300 11 _ _ rfl ?_
          refine xR_swo (x := xs 1) 122 rfl (Or.inr (by omega)) (by decide) ?_
          exact ⟨300, rfl⟩) (by rfl) (by
          refine xR_u (stop := 6) 300 11 _ _ rfl ?_
          refine xR_call rfl rfl rfl rfl ⟨900, xx_b_ok cl_pl0⟩ ?_
          refine xR_u (stop := 12) 300 11 _ _ rfl ?_
          refine xR_swo (x := xs 1) 153 rfl (Or.inr (by omega)) (by decide) ?_
          exact ⟨300, rfl⟩)⟩
set_option maxRecDepth 100000 in
set_option maxHeartbeats 8000000 in
theorem op_22 (xs : Nat → Int32) : lw_C 837 xs := by
  by_cases h1 : (xs 1).toInt < 0
  · exact ⟨_, _, _, by decide, by decide, lw_22 xs (v := -1) (c1 := 0) (s1 := 0) (c2 := 0) (s2 := 0) (by
        refine xR_u (stop := 1) 3000 11 _ _ rfl ?_
        apply xR_call (d := 10) rfl rfl rfl rfl
        · refine xR_u (stop := 1) 3000 10 _ _ rfl ?_
          refine xR_if (x := xs 1) rfl (fun _ => ?_) (fun z => absurd (xz_lt0 (b := 0) (by decide) z) (by omega))
          exact ⟨3000, rfl⟩
        exact ⟨3000, rfl⟩) (by rfl) (by
        exact ⟨3000, rfl⟩)⟩
  · by_cases h2 : (xs 1).toInt < 7
    · obtain ⟨j, hj, hx⟩ := vp_in_of (x := xs 1) (n := 7) (vp_in_iff.mpr ⟨by omega, by omega⟩) (by decide)
      match j, hj, hx with
      | 0, _, hx =>
        have hx : xs 1 = 0 := hx
        exact ⟨_, _, _, by decide, by decide, lw_22 xs (v := (-1)) (c1 := 0) (s1 := 0) (c2 := 0) (s2 := 0) (by
            rw [hx]
            exact xR_cl (f := 60) (by decide +kernel)) (by decide +kernel) (by
            rw [hx]
            exact xR_cl (f := 60) (by decide +kernel))⟩
      | 1, _, hx =>
        have hx : xs 1 = 1 := hx
        exact ⟨_, _, _, by decide, by decide, lw_22 xs (v := (-1)) (c1 := 0) (s1 := 0) (c2 := 0) (s2 := 0) (by
            rw [hx]
            exact xR_cl (f := 60) (by decide +kernel)) (by decide +kernel) (by
            rw [hx]
            exact xR_cl (f := 60) (by decide +kernel))⟩
      | 2, _, hx =>
        have hx : xs 1 = 2 := hx
        exact ⟨_, _, _, by decide, by decide, lw_22 xs (v := (-1)) (c1 := 0) (s1 := 0) (c2 := 0) (s2 := 0) (by
            rw [hx]
            exact xR_cl (f := 60) (by decide +kernel)) (by decide +kernel) (by
            rw [hx]
            exact xR_cl (f := 60) (by decide +kernel))⟩
      | 3, _, hx =>
        have hx : xs 1 = 3 := hx
        exact ⟨_, _, _, by decide, by decide, lw_22 xs (v := (-1)) (c1 := 0) (s1 := 0) (c2 := 0) (s2 := 0) (by
            rw [hx]
            exact xR_cl (f := 60) (by decide +kernel)) (by decide +kernel) (by
            rw [hx]
            exact xR_cl (f := 60) (by decide +kernel))⟩
      | 4, _, hx =>
        have hx : xs 1 = 4 := hx
        exact ⟨_, _, _, by decide, by decide, lw_22 xs (v := (-1)) (c1 := 0) (s1 := 0) (c2 := 0) (s2 := 0) (by
            rw [hx]
            exact xR_cl (f := 60) (by decide +kernel)) (by decide +kernel) (by
            rw [hx]
            exact xR_cl (f := 60) (by decide +kernel))⟩
      | 5, _, hx =>
        have hx : xs 1 = 5 := hx
        exact ⟨_, _, _, by decide, by decide, lw_22 xs (v := (-1)) (c1 := 0) (s1 := 0) (c2 := 0) (s2 := 0) (by
            rw [hx]
            exact xR_cl (f := 60) (by decide +kernel)) (by decide +kernel) (by
            rw [hx]
            exact xR_cl (f := 60) (by decide +kernel))⟩
      | 6, _, hx =>
        have hx : xs 1 = 6 := hx
        exact ⟨_, _, _, by decide, by decide, lw_22 xs (v := (-1)) (c1 := 0) (s1 := 0) (c2 := 0) (s2 := 0) (by
            rw [hx]
            exact xR_cl (f := 60) (by decide +kernel)) (by decide +kernel) (by
            rw [hx]
            exact xR_cl (f := 60) (by decide +kernel))⟩
      | j + 7, hj, _ => omega
    · exact ⟨_, _, _, by decide, by decide, lw_22 xs (v := -1) (c1 := 0) (s1 := 0) (c2 := 0) (s2 := 0) (by
          refine xR_u (stop := 1) 3000 11 _ _ rfl ?_
          apply xR_call (d := 10) rfl rfl rfl rfl
          · refine xR_u (stop := 1) 3000 10 _ _ rfl ?_
            refine xR_if (x := xs 1) rfl (fun z => absurd (xz_lt1 (b := 0) (by decide) z) (by omega)) (fun _ => ?_)
            refine xR_u (stop := 7) 3000 10 _ _ rfl ?_
            refine xR_ic (x := xs 1) (y := (7 : Int32)) rfl (fun _ => ?_) (fun z => absurd (xz_ge0 (b := 7) (by decide) z) (by omega))
            exact ⟨3000, rfl⟩
          exact ⟨3000, rfl⟩) (by rfl) (by
          exact ⟨3000, rfl⟩)⟩
set_option maxRecDepth 100000 in
set_option maxHeartbeats 8000000 in
theorem op_15 (xs : Nat → Int32) : lw_C 658 xs := by
  by_cases h0 : (xs 1).toInt = 12
  · have hx : xs 1 = 12 := by rw [← Int32.toInt_inj, h0]; rfl
    exact ⟨_, _, _, by decide, by decide, lw_15 xs (v := (-1)) (c1 := 0) (s1 := 0) (c2 := 0) (s2 := 0) (by
        rw [hx]
        exact xR_cl (f := 60) (by decide +kernel)) (by decide +kernel) (by
        rw [hx]
        exact xR_cl (f := 60) (by decide +kernel))⟩
  · by_cases h1 : (xs 1).toInt < 0
    · exact ⟨_, _, _, by decide, by decide, lw_15 xs (v := -1) (c1 := 0) (s1 := 0) (c2 := 0) (s2 := 0) (by
          refine xR_u (stop := 3) 3000 11 _ _ rfl ?_
          refine xR_ic (x := xs 1) (y := (12 : Int32)) rfl (fun _ => ?_) (fun z => absurd (xz_ne0 (b := 12) (by decide) z) (by omega))
          refine xR_u (stop := 16) 3000 11 _ _ rfl ?_
          apply xR_call (d := 10) rfl rfl rfl rfl
          · refine xR_u (stop := 1) 3000 10 _ _ rfl ?_
            refine xR_if (x := xs 1) rfl (fun _ => ?_) (fun z => absurd (xz_lt0 (b := 0) (by decide) z) (by omega))
            exact ⟨3000, rfl⟩
          exact ⟨3000, rfl⟩) (by rfl) (by
          exact ⟨3000, rfl⟩)⟩
    · by_cases h2 : (xs 1).toInt < 3
      · obtain ⟨j, hj, hx⟩ := vp_in_of (x := xs 1) (n := 3) (vp_in_iff.mpr ⟨by omega, by omega⟩) (by decide)
        match j, hj, hx with
        | 0, _, hx =>
          have hx : xs 1 = 0 := hx
          exact ⟨_, _, _, by decide, by decide, lw_15 xs (v := (-1)) (c1 := 0) (s1 := 0) (c2 := 0) (s2 := 0) (by
              rw [hx]
              exact xR_cl (f := 60) (by decide +kernel)) (by decide +kernel) (by
              rw [hx]
              exact xR_cl (f := 60) (by decide +kernel))⟩
        | 1, _, hx =>
          have hx : xs 1 = 1 := hx
          exact ⟨_, _, _, by decide, by decide, lw_15 xs (v := (-1)) (c1 := 0) (s1 := 0) (c2 := 0) (s2 := 0) (by
              rw [hx]
              exact xR_cl (f := 60) (by decide +kernel)) (by decide +kernel) (by
              rw [hx]
              exact xR_cl (f := 60) (by decide +kernel))⟩
        | 2, _, hx =>
          have hx : xs 1 = 2 := hx
          exact ⟨_, _, _, by decide, by decide, lw_15 xs (v := (-1)) (c1 := 0) (s1 := 0) (c2 := 0) (s2 := 0) (by
              rw [hx]
              exact xR_cl (f := 60) (by decide +kernel)) (by decide +kernel) (by
              rw [hx]
              exact xR_cl (f := 60) (by decide +kernel))⟩
        | j + 3, hj, _ => omega
      · exact ⟨_, _, _, by decide, by decide, lw_15 xs (v := -1) (c1 := 0) (s1 := 0) (c2 := 0) (s2 := 0) (by
            refine xR_u (stop := 3) 3000 11 _ _ rfl ?_
            refine xR_ic (x := xs 1) (y := (12 : Int32)) rfl (fun _ => ?_) (fun z => absurd (xz_ne0 (b := 12) (by decide) z) (by omega))
            refine xR_u (stop := 16) 3000 11 _ _ rfl ?_
            apply xR_call (d := 10) rfl rfl rfl rfl
            · refine xR_u (stop := 1) 3000 10 _ _ rfl ?_
              refine xR_if (x := xs 1) rfl (fun z => absurd (xz_lt1 (b := 0) (by decide) z) (by omega)) (fun _ => ?_)
              refine xR_u (stop := 9) 3000 10 _ _ rfl ?_
              refine xR_ic (x := xs 1) (y := (3 : Int32)) rfl (fun _ => ?_) (fun z => absurd (xz_ge0 (b := 3) (by decide) z) (by omega))
              exact ⟨3000, rfl⟩
            exact ⟨3000, rfl⟩) (by rfl) (by
            exact ⟨3000, rfl⟩)⟩
set_option maxRecDepth 100000 in
set_option maxHeartbeats 8000000 in
theorem op_3 (xs : Nat → Int32) : lw_C 291 xs := by
  by_cases h1 : (xs 1).toInt < 1
  · exact ⟨_, _, _, by decide, by decide, lw_3 xs (v := 0) (c1 := 0) (s1 := 0) (c2 := 0) (s2 := 0) (by
        refine xR_u (stop := 39) 3000 11 _ _ rfl ?_
        refine xR_ic (x := xs 1) (y := (1 : Int32)) rfl (fun _ => ?_) (fun z => absurd (xz_lt0 (b := 1) (by decide) z) (by omega))
        exact ⟨3000, rfl⟩) (by rfl) (by
        refine xR_u (stop := 9) 3000 11 _ _ rfl ?_
        apply xR_call (d := 10) rfl rfl rfl rfl
        · refine xR_u (stop := 2) 3000 10 _ _ rfl ?_
          refine xR_ic (x := xs 1) (y := (1 : Int32)) rfl (fun _ => ?_) (fun z => absurd (xz_lt0 (b := 1) (by decide) z) (by omega))
          exact ⟨3000, rfl⟩
        exact ⟨3000, rfl⟩)⟩
  · by_cases h2 : (xs 1).toInt < 13
    · obtain ⟨j, hj, hx⟩ := vp_in_of (x := xs 1) (n := 13) (vp_in_iff.mpr ⟨by omega, by omega⟩) (by decide)
      match j, hj, hx with
      | 0, _, hx =>
        have hx : xs 1 = 0 := hx
        rw [hx] at h1; exact absurd (by decide) h1
      | 1, _, hx =>
        have hx : xs 1 = 1 := hx
        exact ⟨_, _, _, by decide, by decide, lw_3 xs (v := (1)) (c1 := 0) (s1 := 0) (c2 := 0) (s2 := 0) (by
            rw [hx]
            exact xR_cl (f := 900) (by decide +kernel)) (by decide +kernel) (by
            rw [hx]
            exact xR_cl (f := 60) (by decide +kernel))⟩
      | 2, _, hx =>
        have hx : xs 1 = 2 := hx
        exact ⟨_, _, _, by decide, by decide, lw_3 xs (v := (1)) (c1 := 0) (s1 := 0) (c2 := 0) (s2 := 0) (by
            rw [hx]
            exact xR_cl (f := 900) (by decide +kernel)) (by decide +kernel) (by
            rw [hx]
            exact xR_cl (f := 60) (by decide +kernel))⟩
      | 3, _, hx =>
        have hx : xs 1 = 3 := hx
        exact ⟨_, _, _, by decide, by decide, lw_3 xs (v := (1)) (c1 := 0) (s1 := 0) (c2 := 0) (s2 := 0) (by
            rw [hx]
            exact xR_cl (f := 900) (by decide +kernel)) (by decide +kernel) (by
            rw [hx]
            exact xR_cl (f := 60) (by decide +kernel))⟩
      | 4, _, hx =>
        have hx : xs 1 = 4 := hx
        exact ⟨_, _, _, by decide, by decide, lw_3 xs (v := (1)) (c1 := 0) (s1 := 0) (c2 := 0) (s2 := 0) (by
            rw [hx]
            exact xR_cl (f := 900) (by decide +kernel)) (by decide +kernel) (by
            rw [hx]
            exact xR_cl (f := 60) (by decide +kernel))⟩
      | 5, _, hx =>
        have hx : xs 1 = 5 := hx
        exact ⟨_, _, _, by decide, by decide, lw_3 xs (v := (1)) (c1 := 0) (s1 := 0) (c2 := 0) (s2 := 0) (by
            rw [hx]
            exact xR_cl (f := 900) (by decide +kernel)) (by decide +kernel) (by
            rw [hx]
            exact xR_cl (f := 60) (by decide +kernel))⟩
      | 6, _, hx =>
        have hx : xs 1 = 6 := hx
        exact ⟨_, _, _, by decide, by decide, lw_3 xs (v := (1)) (c1 := 0) (s1 := 0) (c2 := 0) (s2 := 0) (by
            rw [hx]
            exact xR_cl (f := 900) (by decide +kernel)) (by decide +kernel) (by
            rw [hx]
            exact xR_cl (f := 60) (by decide +kernel))⟩
      | 7, _, hx =>
        have hx : xs 1 = 7 := hx
        exact ⟨_, _, _, by decide, by decide, lw_3 xs (v := (1)) (c1 := 0) (s1 := 0) (c2 := 0) (s2 := 0) (by
            rw [hx]
            exact xR_cl (f := 900) (by decide +kernel)) (by decide +kernel) (by
            rw [hx]
            exact xR_cl (f := 60) (by decide +kernel))⟩
      | 8, _, hx =>
        have hx : xs 1 = 8 := hx
        exact ⟨_, _, _, by decide, by decide, lw_3 xs (v := (1)) (c1 := 0) (s1 := 0) (c2 := 0) (s2 := 0) (by
            rw [hx]
            exact xR_cl (f := 900) (by decide +kernel)) (by decide +kernel) (by
            rw [hx]
            exact xR_cl (f := 60) (by decide +kernel))⟩
      | 9, _, hx =>
        have hx : xs 1 = 9 := hx
        exact ⟨_, _, _, by decide, by decide, lw_3 xs (v := (1)) (c1 := 0) (s1 := 0) (c2 := 0) (s2 := 0) (by
            rw [hx]
            exact xR_cl (f := 900) (by decide +kernel)) (by decide +kernel) (by
            rw [hx]
            exact xR_cl (f := 60) (by decide +kernel))⟩
      | 10, _, hx =>
        have hx : xs 1 = 10 := hx
        exact ⟨_, _, _, by decide, by decide, lw_3 xs (v := (1)) (c1 := 0) (s1 := 0) (c2 := 0) (s2 := 0) (by
            rw [hx]
            exact xR_cl (f := 900) (by decide +kernel)) (by decide +kernel) (by
            rw [hx]
            exact xR_cl (f := 60) (by decide +kernel))⟩
      | 11, _, hx =>
        have hx : xs 1 = 11 := hx
        exact ⟨_, _, _, by decide, by decide, lw_3 xs (v := (1)) (c1 := 0) (s1 := 0) (c2 := 0) (s2 := 0) (by
            rw [hx]
            exact xR_cl (f := 900) (by decide +kernel)) (by decide +kernel) (by
            rw [hx]
            exact xR_cl (f := 60) (by decide +kernel))⟩
      | 12, _, hx =>
        have hx : xs 1 = 12 := hx
        exact ⟨_, _, _, by decide, by decide, lw_3 xs (v := (1)) (c1 := 0) (s1 := 0) (c2 := 0) (s2 := 0) (by
            rw [hx]
            exact xR_cl (f := 900) (by decide +kernel)) (by decide +kernel) (by
            rw [hx]
            exact xR_cl (f := 60) (by decide +kernel))⟩
      | j + 13, hj, _ => omega
    · exact ⟨_, _, _, by decide, by decide, lw_3 xs (v := 0) (c1 := 0) (s1 := 0) (c2 := 0) (s2 := 0) (by
          refine xR_u (stop := 39) 3000 11 _ _ rfl ?_
          refine xR_ic (x := xs 1) (y := (1 : Int32)) rfl (fun z => absurd (xz_lt1 (b := 1) (by decide) z) (by omega)) (fun _ => ?_)
          refine xR_u (stop := 45) 3000 11 _ _ rfl ?_
          refine xR_ic (x := xs 1) (y := (12 : Int32)) rfl (fun z => absurd (xz_le1 (b := 12) (by decide) z) (by omega)) (fun _ => ?_)
          exact ⟨3000, rfl⟩) (by rfl) (by
          refine xR_u (stop := 9) 3000 11 _ _ rfl ?_
          apply xR_call (d := 10) rfl rfl rfl rfl
          · refine xR_u (stop := 2) 3000 10 _ _ rfl ?_
            refine xR_ic (x := xs 1) (y := (1 : Int32)) rfl (fun z => absurd (xz_lt1 (b := 1) (by decide) z) (by omega)) (fun _ => ?_)
            refine xR_u (stop := 7) 3000 10 _ _ rfl ?_
            refine xR_ic (x := xs 1) (y := (12 : Int32)) rfl (fun _ => ?_) (fun z => absurd (xz_gt0 (b := 12) (by decide) z) (by omega))
            exact ⟨3000, rfl⟩
          exact ⟨3000, rfl⟩)⟩
end XCL5
