section XCL4
set_option maxRecDepth 100000 in
set_option maxHeartbeats 8000000 in
theorem op_18 (xs : Nat → Int32) : lw_C 745 xs := by
  exact ⟨_, _, _, by decide, by decide, lw_18 xs (v := (1)) (c1 := 0) (s1 := 0) (c2 := 0) (s2 := 0) (by
      exact xR_cl (f := 9000) (by decide +kernel)) (by decide +kernel) (by
      exact xR_cl (f := 15000) (by decide +kernel))⟩
set_option maxRecDepth 100000 in
set_option maxHeartbeats 8000000 in
theorem op_19 (xs : Nat → Int32) : lw_C 758 xs := by
  exact ⟨_, _, _, by decide, by decide, lw_19 xs (v := (1)) (c1 := 0) (s1 := 0) (c2 := 0) (s2 := 0) (by
      exact xR_cl (f := 12000) (by decide +kernel)) (by decide +kernel) (by
      exact xR_cl (f := 16000) (by decide +kernel))⟩
end XCL4
