section XO1
theorem xz_lt1 {x y : Int32} {b : Int} (hy : y.toInt = b) (z : xe_c .lt x y = true) : x.toInt < b := by
  have z := of_decide_eq_true (show decide _ = true from z)
  rw [Int32.lt_iff_toInt_lt, hy] at z
  exact z
theorem xz_lt0 {x y : Int32} {b : Int} (hy : y.toInt = b) (z : xe_c .lt x y = false) : ¬ x.toInt < b := by
  have z := of_decide_eq_false (show decide _ = false from z)
  rw [Int32.lt_iff_toInt_lt, hy] at z
  exact z
theorem xz_ge1 {x y : Int32} {b : Int} (hy : y.toInt = b) (z : xe_c .ge x y = true) : b ≤ x.toInt := by
  have z := of_decide_eq_true (show decide _ = true from z)
  rw [Int32.le_iff_toInt_le, hy] at z
  exact z
theorem xz_ge0 {x y : Int32} {b : Int} (hy : y.toInt = b) (z : xe_c .ge x y = false) : ¬ b ≤ x.toInt := by
  have z := of_decide_eq_false (show decide _ = false from z)
  rw [Int32.le_iff_toInt_le, hy] at z
  exact z
theorem xz_gt1 {x y : Int32} {b : Int} (hy : y.toInt = b) (z : xe_c .gt x y = true) : b < x.toInt := by
  have z := of_decide_eq_true (show decide _ = true from z)
  rw [Int32.lt_iff_toInt_lt, hy] at z
  exact z
theorem xz_gt0 {x y : Int32} {b : Int} (hy : y.toInt = b) (z : xe_c .gt x y = false) : ¬ b < x.toInt := by
  have z := of_decide_eq_false (show decide _ = false from z)
  rw [Int32.lt_iff_toInt_lt, hy] at z
  exact z
theorem xz_le1 {x y : Int32} {b : Int} (hy : y.toInt = b) (z : xe_c .le x y = true) : x.toInt ≤ b := by
  have z := of_decide_eq_true (show decide _ = true from z)
  rw [Int32.le_iff_toInt_le, hy] at z
  exact z
theorem xz_le0 {x y : Int32} {b : Int} (hy : y.toInt = b) (z : xe_c .le x y = false) : ¬ x.toInt ≤ b := by
  have z := of_decide_eq_false (show decide _ = false from z)
  rw [Int32.le_iff_toInt_le, hy] at z
  exact z
theorem xz_eq1 {x y : Int32} {b : Int} (hy : y.toInt = b) (z : xe_c .eq x y = true) : x.toInt = b := by
  have z := of_decide_eq_true (show decide _ = true from z)
  rw [← Int32.toInt_inj, hy] at z
  exact z
theorem xz_eq0 {x y : Int32} {b : Int} (hy : y.toInt = b) (z : xe_c .eq x y = false) : ¬ x.toInt = b := by
  have z := of_decide_eq_false (show decide _ = false from z)
  rw [← Int32.toInt_inj, hy] at z
  exact z
theorem xz_ne1 {x y : Int32} {b : Int} (hy : y.toInt = b) (z : xe_c .ne x y = true) : ¬ x.toInt = b := by
  have z : (!decide (x = y)) = true := z
  have z : ¬ x = y := by simpa using z
  rw [← Int32.toInt_inj, hy] at z
  exact z
theorem xz_ne0 {x y : Int32} {b : Int} (hy : y.toInt = b) (z : xe_c .ne x y = false) : ¬ ¬ x.toInt = b := by
  have z : (!decide (x = y)) = false := z
  have z : x = y := by simpa using z
  rw [z, hy]
  exact fun h => h rfl
set_option maxRecDepth 100000 in
set_option maxHeartbeats 8000000 in
theorem op_1 (xs : Nat → Int32) : lw_C 241 xs := by
  by_cases h1 : (xs 1).toInt < 0
  · exact ⟨_, _, _, by decide, by decide, lw_1 xs (v := 0) (c1 := 0) (s1 := 0) (c2 := 0) (s2 := 0) (by
        refine xR_u (stop := 1) 3000 11 _ _ rfl ?_
        refine xR_if (x := xs 1) rfl (fun _ => ?_) (fun z => absurd (xz_lt0 (b := 0) (by decide) z) (by omega))
        exact ⟨3000, rfl⟩) (by rfl) (by
        refine xR_u (stop := 6) 3000 11 _ _ rfl ?_
        refine xR_if (x := xs 1) rfl (fun _ => ?_) (fun z => absurd (xz_lt0 (b := 0) (by decide) z) (by omega))
        exact ⟨3000, rfl⟩)⟩
  · by_cases h2 : (xs 1).toInt ≤ 0
    · exact ⟨_, _, _, by decide, by decide, lw_1 xs (v := 1) (c1 := 0) (s1 := 0) (c2 := 0) (s2 := 0) (by
          refine xR_u (stop := 1) 3000 11 _ _ rfl ?_
          refine xR_if (x := xs 1) rfl (fun z => absurd (xz_lt1 (b := 0) (by decide) z) (by omega)) (fun _ => ?_)
          refine xR_u (stop := 12) 3000 11 _ _ rfl ?_
          refine xR_ic (x := xs 1) (y := (0 : Int32)) rfl (fun _ => ?_) (fun z => absurd (xz_le0 (b := 0) (by decide) z) (by omega))
          exact ⟨3000, rfl⟩) (by rfl) (by
          refine xR_u (stop := 6) 3000 11 _ _ rfl ?_
          refine xR_if (x := xs 1) rfl (fun z => absurd (xz_lt1 (b := 0) (by decide) z) (by omega)) (fun _ => ?_)
          refine xR_u (stop := 14) 3000 11 _ _ rfl ?_
          refine xR_ic (x := xs 1) (y := (0 : Int32)) rfl (fun _ => ?_) (fun z => absurd (xz_le0 (b := 0) (by decide) z) (by omega))
          exact ⟨3000, rfl⟩)⟩
    · exact ⟨_, _, _, by decide, by decide, lw_1 xs (v := 0) (c1 := 0) (s1 := 0) (c2 := 0) (s2 := 0) (by
          refine xR_u (stop := 1) 3000 11 _ _ rfl ?_
          refine xR_if (x := xs 1) rfl (fun z => absurd (xz_lt1 (b := 0) (by decide) z) (by omega)) (fun _ => ?_)
          refine xR_u (stop := 12) 3000 11 _ _ rfl ?_
          refine xR_ic (x := xs 1) (y := (0 : Int32)) rfl (fun z => absurd (xz_le1 (b := 0) (by decide) z) (by omega)) (fun _ => ?_)
          exact ⟨3000, rfl⟩) (by rfl) (by
          refine xR_u (stop := 6) 3000 11 _ _ rfl ?_
          refine xR_if (x := xs 1) rfl (fun z => absurd (xz_lt1 (b := 0) (by decide) z) (by omega)) (fun _ => ?_)
          refine xR_u (stop := 14) 3000 11 _ _ rfl ?_
          refine xR_ic (x := xs 1) (y := (0 : Int32)) rfl (fun z => absurd (xz_le1 (b := 0) (by decide) z) (by omega)) (fun _ => ?_)
          exact ⟨3000, rfl⟩)⟩
set_option maxRecDepth 100000 in
set_option maxHeartbeats 8000000 in
theorem op_2 (xs : Nat → Int32) : lw_C 266 xs := by
  have hz : ((0 : Int32) + xs 1).toInt = (xs 1).toInt := by rw [Int32.zero_add]
  by_cases h1 : (xs 1).toInt < 0
  · exact ⟨_, _, _, by decide, by decide, lw_2 xs (v := -1) (c1 := 0) (s1 := 0) (c2 := 0) (s2 := 0) (by
        refine xR_u (stop := 1) 3000 11 _ _ rfl ?_
        refine xR_if (x := xs 1) rfl (fun _ => ?_) (fun z => absurd (xz_lt0 (b := 0) (by decide) z) (by omega))
        exact ⟨3000, rfl⟩) (by rfl) (by
        refine xR_u (stop := 10) 3000 11 _ _ rfl ?_
        apply xR_call (d := 10) rfl rfl rfl rfl
        · refine xR_u (stop := 2) 3000 10 _ _ rfl ?_
          refine xR_ic (x := xs 1) (y := (0 : Int32)) rfl (fun _ => ?_) (fun z => absurd (xz_lt0 (b := 0) (by decide) z) (by omega))
          exact ⟨3000, rfl⟩
        exact ⟨3000, rfl⟩)⟩
  · by_cases h2 : (xs 1).toInt ≤ 999
    · exact ⟨_, _, _, by decide, by decide, lw_2 xs (v := (0 : Int32) + xs 1) (c1 := 0) (s1 := 0) (c2 := 0) (s2 := 0) (by
          refine xR_u (stop := 1) 3000 11 _ _ rfl ?_
          refine xR_if (x := xs 1) rfl (fun z => absurd (xz_lt1 (b := 0) (by decide) z) (by omega)) (fun _ => ?_)
          refine xR_u (stop := 8) 3000 11 _ _ rfl ?_
          refine xR_ic (x := xs 1) (y := (999 : Int32)) rfl (fun z => absurd (xz_gt1 (b := 999) (by decide) z) (by omega)) (fun _ => ?_)
          refine xR_u (stop := 20) 3000 11 _ _ rfl ?_
          refine xR_ic (x := ((0 : Int32) + xs 1)) (y := (999 : Int32)) rfl (fun _ => ?_) (fun z => absurd (xz_le0 (b := 999) (by decide) z) (by omega))
          exact ⟨3000, rfl⟩) (by rfl) (by
          refine xR_u (stop := 10) 3000 11 _ _ rfl ?_
          apply xR_call (d := 10) rfl rfl rfl rfl
          · refine xR_u (stop := 2) 3000 10 _ _ rfl ?_
            refine xR_ic (x := xs 1) (y := (0 : Int32)) rfl (fun z => absurd (xz_lt1 (b := 0) (by decide) z) (by omega)) (fun _ => ?_)
            refine xR_u (stop := 7) 3000 10 _ _ rfl ?_
            refine xR_ic (x := xs 1) (y := (999 : Int32)) rfl (fun z => absurd (xz_gt1 (b := 999) (by decide) z) (by omega)) (fun _ => ?_)
            exact ⟨3000, rfl⟩
          refine xR_u (stop := 25) 3000 11 _ _ rfl ?_
          refine xR_ic (x := ((0 : Int32) + xs 1)) (y := (999 : Int32)) rfl (fun _ => ?_) (fun z => absurd (xz_le0 (b := 999) (by decide) z) (by omega))
          exact ⟨3000, rfl⟩)⟩
    · exact ⟨_, _, _, by decide, by decide, lw_2 xs (v := -1) (c1 := 0) (s1 := 0) (c2 := 0) (s2 := 0) (by
          refine xR_u (stop := 1) 3000 11 _ _ rfl ?_
          refine xR_if (x := xs 1) rfl (fun z => absurd (xz_lt1 (b := 0) (by decide) z) (by omega)) (fun _ => ?_)
          refine xR_u (stop := 8) 3000 11 _ _ rfl ?_
          refine xR_ic (x := xs 1) (y := (999 : Int32)) rfl (fun _ => ?_) (fun z => absurd (xz_gt0 (b := 999) (by decide) z) (by omega))
          exact ⟨3000, rfl⟩) (by rfl) (by
          refine xR_u (stop := 10) 3000 11 _ _ rfl ?_
          apply xR_call (d := 10) rfl rfl rfl rfl
          · refine xR_u (stop := 2) 3000 10 _ _ rfl ?_
            refine xR_ic (x := xs 1) (y := (0 : Int32)) rfl (fun z => absurd (xz_lt1 (b := 0) (by decide) z) (by omega)) (fun _ => ?_)
            refine xR_u (stop := 7) 3000 10 _ _ rfl ?_
            refine xR_ic (x := xs 1) (y := (999 : Int32)) rfl (fun _ => ?_) (fun z => absurd (xz_gt0 (b := 999) (by decide) z) (by omega))
            exact ⟨3000, rfl⟩
          exact ⟨3000, rfl⟩)⟩
set_option maxRecDepth 100000 in
set_option maxHeartbeats 8000000 in
theorem op_4 (xs : Nat → Int32) : lw_C 316 xs := by
  by_cases h1 : (xs 1).toInt < 0
  · exact ⟨_, _, _, by decide, by decide, lw_4 xs (v := -1000) (c1 := 0) (s1 := 0) (c2 := 0) (s2 := 0) (by
        refine xR_u (stop := 14) 3000 11 _ _ rfl ?_
        refine xR_ic (x := xs 1) (y := (0 : Int32)) rfl (fun _ => ?_) (fun z => absurd (xz_lt0 (b := 0) (by decide) z) (by omega))
        exact ⟨3000, rfl⟩) (by rfl) (by
        refine xR_u (stop := 30) 3000 11 _ _ rfl ?_
        apply xR_call (d := 10) rfl rfl rfl rfl
        · refine xR_u (stop := 2) 3000 10 _ _ rfl ?_
          refine xR_ic (x := xs 1) (y := (0 : Int32)) rfl (fun _ => ?_) (fun z => absurd (xz_lt0 (b := 0) (by decide) z) (by omega))
          exact ⟨3000, rfl⟩
        exact ⟨3000, rfl⟩)⟩
  · by_cases h2 : (xs 1).toInt ≤ 999
    · exact ⟨_, _, _, by decide, by decide, lw_4 xs (v := -1) (c1 := 0) (s1 := 0) (c2 := 0) (s2 := 0) (by
          refine xR_u (stop := 14) 3000 11 _ _ rfl ?_
          refine xR_ic (x := xs 1) (y := (0 : Int32)) rfl (fun z => absurd (xz_lt1 (b := 0) (by decide) z) (by omega)) (fun _ => ?_)
          refine xR_u (stop := 21) 3000 11 _ _ rfl ?_
          refine xR_ic (x := xs 1) (y := (999 : Int32)) rfl (fun _ => ?_) (fun z => absurd (xz_le0 (b := 999) (by decide) z) (by omega))
          exact ⟨3000, rfl⟩) (by rfl) (by
          refine xR_u (stop := 30) 3000 11 _ _ rfl ?_
          apply xR_call (d := 10) rfl rfl rfl rfl
          · refine xR_u (stop := 2) 3000 10 _ _ rfl ?_
            refine xR_ic (x := xs 1) (y := (0 : Int32)) rfl (fun z => absurd (xz_lt1 (b := 0) (by decide) z) (by omega)) (fun _ => ?_)
            refine xR_u (stop := 7) 3000 10 _ _ rfl ?_
            refine xR_ic (x := xs 1) (y := (999 : Int32)) rfl (fun z => absurd (xz_gt1 (b := 999) (by decide) z) (by omega)) (fun _ => ?_)
            exact ⟨3000, rfl⟩
          exact ⟨3000, rfl⟩)⟩
    · exact ⟨_, _, _, by decide, by decide, lw_4 xs (v := -1000) (c1 := 0) (s1 := 0) (c2 := 0) (s2 := 0) (by
          refine xR_u (stop := 14) 3000 11 _ _ rfl ?_
          refine xR_ic (x := xs 1) (y := (0 : Int32)) rfl (fun z => absurd (xz_lt1 (b := 0) (by decide) z) (by omega)) (fun _ => ?_)
          refine xR_u (stop := 21) 3000 11 _ _ rfl ?_
          refine xR_ic (x := xs 1) (y := (999 : Int32)) rfl (fun z => absurd (xz_le1 (b := 999) (by decide) z) (by omega)) (fun _ => ?_)
          exact ⟨3000, rfl⟩) (by rfl) (by
          refine xR_u (stop := 30) 3000 11 _ _ rfl ?_
          apply xR_call (d := 10) rfl rfl rfl rfl
          · refine xR_u (stop := 2) 3000 10 _ _ rfl ?_
            refine xR_ic (x := xs 1) (y := (0 : Int32)) rfl (fun z => absurd (xz_lt1 (b := 0) (by decide) z) (by omega)) (fun _ => ?_)
            refine xR_u (stop := 7) 3000 10 _ _ rfl ?_
            refine xR_ic (x := xs 1) (y := (999 : Int32)) rfl (fun _ => ?_) (fun z => absurd (xz_gt0 (b := 999) (by decide) z) (by omega))
            exact ⟨3000, rfl⟩
          exact ⟨3000, rfl⟩)⟩
set_option maxRecDepth 100000 in
set_option maxHeartbeats 8000000 in
theorem op_24 (xs : Nat → Int32) : lw_C 915 xs := by
  exact ⟨_, _, _, by decide, by decide, lw_24 xs (v := -1) (c1 := 0) (s1 := 0) (c2 := 0) (s2 := 0) (by
      exact ⟨3000, rfl⟩) (by rfl) (by
      exact ⟨3000, rfl⟩)⟩
set_option maxRecDepth 100000 in
set_option maxHeartbeats 8000000 in
theorem op_16 (xs : Nat → Int32) : lw_C 683 xs := by
  by_cases h1 : (xs 1).toInt < 0
  · exact ⟨_, _, _, by decide, by decide, lw_16 xs (v := 0) (c1 := 0) (s1 := 0) (c2 := 0) (s2 := 0) (by
        refine xR_u (stop := 2) 3000 11 _ _ rfl ?_
        apply xR_call (d := 10) rfl rfl rfl rfl
        · refine xR_u (stop := 1) 3000 10 _ _ rfl ?_
          refine xR_if (x := xs 1) rfl (fun _ => ?_) (fun z => absurd (xz_lt0 (b := 0) (by decide) z) (by omega))
          exact ⟨3000, rfl⟩
        exact ⟨3000, rfl⟩) (by rfl) (by
        refine xR_u (stop := 12) 3000 11 _ _ rfl ?_
        apply xR_call (d := 10) rfl rfl rfl rfl
        · refine xR_u (stop := 1) 3000 10 _ _ rfl ?_
          refine xR_if (x := xs 1) rfl (fun _ => ?_) (fun z => absurd (xz_lt0 (b := 0) (by decide) z) (by omega))
          exact ⟨3000, rfl⟩
        exact ⟨3000, rfl⟩)⟩
  · by_cases h2 : (xs 1).toInt < 3
    · exact ⟨_, _, _, by decide, by decide, lw_16 xs (v := 0) (c1 := 0) (s1 := 0) (c2 := 0) (s2 := 0) (by
          refine xR_u (stop := 2) 3000 11 _ _ rfl ?_
          apply xR_call (d := 10) rfl rfl rfl rfl
          · refine xR_u (stop := 1) 3000 10 _ _ rfl ?_
            refine xR_if (x := xs 1) rfl (fun z => absurd (xz_lt1 (b := 0) (by decide) z) (by omega)) (fun _ => ?_)
            refine xR_u (stop := 9) 3000 10 _ _ rfl ?_
            refine xR_ic (x := xs 1) (y := (3 : Int32)) rfl (fun z => absurd (xz_ge1 (b := 3) (by decide) z) (by omega)) (fun _ => ?_)
            exact ⟨3000, rfl⟩
          exact ⟨3000, rfl⟩) (by rfl) (by
          refine xR_u (stop := 12) 3000 11 _ _ rfl ?_
          apply xR_call (d := 10) rfl rfl rfl rfl
          · refine xR_u (stop := 1) 3000 10 _ _ rfl ?_
            refine xR_if (x := xs 1) rfl (fun z => absurd (xz_lt1 (b := 0) (by decide) z) (by omega)) (fun _ => ?_)
            refine xR_u (stop := 9) 3000 10 _ _ rfl ?_
            refine xR_ic (x := xs 1) (y := (3 : Int32)) rfl (fun z => absurd (xz_ge1 (b := 3) (by decide) z) (by omega)) (fun _ => ?_)
            exact ⟨3000, rfl⟩
          exact ⟨3000, rfl⟩)⟩
    · exact ⟨_, _, _, by decide, by decide, lw_16 xs (v := 0) (c1 := 0) (s1 := 0) (c2 := 0) (s2 := 0) (by
          refine xR_u (stop := 2) 3000 11 _ _ rfl ?_
          apply xR_call (d := 10) rfl rfl rfl rfl
          · refine xR_u (stop := 1) 3000 10 _ _ rfl ?_
            refine xR_if (x := xs 1) rfl (fun z => absurd (xz_lt1 (b := 0) (by decide) z) (by omega)) (fun _ => ?_)
            refine xR_u (stop := 9) 3000 10 _ _ rfl ?_
            refine xR_ic (x := xs 1) (y := (3 : Int32)) rfl (fun _ => ?_) (fun z => absurd (xz_ge0 (b := 3) (by decide) z) (by omega))
            exact ⟨3000, rfl⟩
          exact ⟨3000, rfl⟩) (by rfl) (by
          refine xR_u (stop := 12) 3000 11 _ _ rfl ?_
          apply xR_call (d := 10) rfl rfl rfl rfl
          · refine xR_u (stop := 1) 3000 10 _ _ rfl ?_
            refine xR_if (x := xs 1) rfl (fun z => absurd (xz_lt1 (b := 0) (by decide) z) (by omega)) (fun _ => ?_)
            refine xR_u (stop := 9) 3000 10 _ _ rfl ?_
            refine xR_ic (x := xs 1) (y := (3 : Int32)) rfl (fun _ => ?_) (fun z => absurd (xz_ge0 (b := 3) (by decide) z) (by omega))
            exact ⟨3000, rfl⟩
          exact ⟨3000, rfl⟩)⟩
set_option maxRecDepth 100000 in
set_option maxHeartbeats 8000000 in
theorem op_25 (xs : Nat → Int32) : lw_C 940 xs := by
  by_cases h1 : (xs 1).toInt < 0
  · exact ⟨_, _, _, by decide, by decide, lw_25 xs (v := -1) (c1 := 0) (s1 := 0) (c2 := 0) (s2 := 0) (by
        refine xR_u (stop := 2) 3000 11 _ _ rfl ?_
        apply xR_call (d := 10) rfl rfl rfl rfl
        · refine xR_u (stop := 1) 3000 10 _ _ rfl ?_
          refine xR_if (x := xs 1) rfl (fun _ => ?_) (fun z => absurd (xz_lt0 (b := 0) (by decide) z) (by omega))
          exact ⟨3000, rfl⟩
        exact ⟨3000, rfl⟩) (by rfl) (by
        refine xR_u (stop := 7) 3000 11 _ _ rfl ?_
        apply xR_call (d := 10) rfl rfl rfl rfl
        · refine xR_u (stop := 1) 3000 10 _ _ rfl ?_
          refine xR_if (x := xs 1) rfl (fun _ => ?_) (fun z => absurd (xz_lt0 (b := 0) (by decide) z) (by omega))
          exact ⟨3000, rfl⟩
        exact ⟨3000, rfl⟩)⟩
  · by_cases h2 : (xs 1).toInt < 8
    · exact ⟨_, _, _, by decide, by decide, lw_25 xs (v := 2) (c1 := 0) (s1 := 0) (c2 := 0) (s2 := 0) (by
          refine xR_u (stop := 2) 3000 11 _ _ rfl ?_
          apply xR_call (d := 10) rfl rfl rfl rfl
          · refine xR_u (stop := 1) 3000 10 _ _ rfl ?_
            refine xR_if (x := xs 1) rfl (fun z => absurd (xz_lt1 (b := 0) (by decide) z) (by omega)) (fun _ => ?_)
            refine xR_u (stop := 11) 3000 10 _ _ rfl ?_
            refine xR_ic (x := xs 1) (y := (8 : Int32)) rfl (fun z => absurd (xz_ge1 (b := 8) (by decide) z) (by omega)) (fun _ => ?_)
            exact ⟨3000, rfl⟩
          exact ⟨3000, rfl⟩) (by rfl) (by
          refine xR_u (stop := 7) 3000 11 _ _ rfl ?_
          apply xR_call (d := 10) rfl rfl rfl rfl
          · refine xR_u (stop := 1) 3000 10 _ _ rfl ?_
            refine xR_if (x := xs 1) rfl (fun z => absurd (xz_lt1 (b := 0) (by decide) z) (by omega)) (fun _ => ?_)
            refine xR_u (stop := 11) 3000 10 _ _ rfl ?_
            refine xR_ic (x := xs 1) (y := (8 : Int32)) rfl (fun z => absurd (xz_ge1 (b := 8) (by decide) z) (by omega)) (fun _ => ?_)
            exact ⟨3000, rfl⟩
          exact ⟨3000, rfl⟩)⟩
    · exact ⟨_, _, _, by decide, by decide, lw_25 xs (v := -1) (c1 := 0) (s1 := 0) (c2 := 0) (s2 := 0) (by
          refine xR_u (stop := 2) 3000 11 _ _ rfl ?_
          apply xR_call (d := 10) rfl rfl rfl rfl
          · refine xR_u (stop := 1) 3000 10 _ _ rfl ?_
            refine xR_if (x := xs 1) rfl (fun z => absurd (xz_lt1 (b := 0) (by decide) z) (by omega)) (fun _ => ?_)
            refine xR_u (stop := 11) 3000 10 _ _ rfl ?_
            refine xR_ic (x := xs 1) (y := (8 : Int32)) rfl (fun _ => ?_) (fun z => absurd (xz_ge0 (b := 8) (by decide) z) (by omega))
            exact ⟨3000, rfl⟩
          exact ⟨3000, rfl⟩) (by rfl) (by
          refine xR_u (stop := 7) 3000 11 _ _ rfl ?_
          apply xR_call (d := 10) rfl rfl rfl rfl
          · refine xR_u (stop := 1) 3000 10 _ _ rfl ?_
            refine xR_if (x := xs 1) rfl (fun z => absurd (xz_lt1 (b := 0) (by decide) z) (by omega)) (fun _ => ?_)
            refine xR_u (stop := 11) 3000 10 _ _ rfl ?_
            refine xR_ic (x := xs 1) (y := (8 : Int32)) rfl (fun _ => ?_) (fun z => absurd (xz_ge0 (b := 8) (by decide) z) (by omega))
            exact ⟨3000, rfl⟩
          exact ⟨3000, rfl⟩)⟩
end XO1
