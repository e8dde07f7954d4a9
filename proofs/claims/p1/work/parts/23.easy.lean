section XEZ
/-- what is to be shown of a case -/
def lw_C (pc : Nat) (xs : Nat → Int32) : Prop := ∃ (h' : xh_H) (c' s' : Nat), c' ≤ 600002 ∧ s' ≤ 7302232 ∧ xR (some (6, xs)) 12 xi_L_law xmi_L_law (pc, xf_lv, [], xf_h, 72, 274345) (some (.int 1), h', c', s')
set_option maxRecDepth 100000 in
set_option maxHeartbeats 4000000 in
theorem op_5 (xs : Nat → Int32) : lw_C 341 xs := ⟨_, _, _, by decide, by decide, lw_5 xs (v := 0) (c1 := 0) (s1 := 0) (c2 := 0) (s2 := 0) ⟨20, rfl⟩ rfl ⟨20, rfl⟩⟩
end XEZ
