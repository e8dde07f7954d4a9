section XK
def xk_all (C : String) (T : u_T) (N : Nat) (pl : List (Nat × Nat)) : Bool := (List.range N).all (fun k => match pl[k]? with
  | some q => xw_b q.1 q.2 (u_lay C T k)
  | none => false)
theorem xk_in {C : String} {T : u_T} {N : Nat} {pl : List (Nat × Nat)} (h : xk_all C T N pl = true) : ∀ w ∈ u_ws C T N, w ∈ xG := by
  intro w hw
  obtain ⟨k, hk, rfl⟩ := List.mem_map.mp hw
  have h1 := List.all_eq_true.mp h k hk
  cases hq : pl[k]? with
  | none => simp [hq] at h1
  | some q => simp [hq] at h1; exact xw_in h1
def xk_t (t : FieldType) : Bool := match t with
  | .object _ => true
  | .array _ => true
  | .int => true
  | .boolean => true
  | .long => true
  | _ => false
theorem xk_tv {t : FieldType} (h : xk_t t = true) : (∃ q, t = .object q) ∨ (∃ q, t = .array q) ∨ t = .int ∨ t = .boolean ∨ t = .long := by
  cases t <;> simp_all [xk_t]
set_option maxRecDepth 20000 in
theorem xk_0 : xk_all RX0 TX0 7 [(2, 47), (2, 49), (2, 51), (2, 53), (2, 55), (2, 57), (2, 59)] = true := by decide +kernel
theorem xk_i0 : Cond.instantiable RX0 7 ∈ xG := xw_in (K := 2) (i := 33) (by decide +kernel)
theorem xk_n0 : Cond.initialized RX0 ∈ xG := xw_in (K := 1) (i := 9) (by decide +kernel)
theorem xk_k0 : ∀ k, k < 7 → xk_t (tyX0 k) = true := by decide +kernel
set_option maxRecDepth 20000 in
theorem xk_1 : xk_all RX1 TX1 4 [(2, 76), (2, 78), (2, 80), (2, 82)] = true := by decide +kernel
theorem xk_i1 : Cond.instantiable RX1 4 ∈ xG := xw_in (K := 2) (i := 63) (by decide +kernel)
theorem xk_n1 : Cond.initialized RX1 ∈ xG := xw_in (K := 1) (i := 10) (by decide +kernel)
theorem xk_k1 : ∀ k, k < 4 → xk_t (tyX1 k) = true := by decide +kernel
set_option maxRecDepth 20000 in
theorem xk_2 : xk_all RX2 TX2 13 [(1, 188), (1, 190), (1, 192), (1, 194), (1, 196), (1, 198), (1, 200), (1, 202), (1, 204), (1, 206), (1, 208), (1, 210), (1, 212)] = true := by decide +kernel
theorem xk_i2 : Cond.instantiable RX2 13 ∈ xG := xw_in (K := 1) (i := 157) (by decide +kernel)
theorem xk_n2 : Cond.initialized RX2 ∈ xG := xw_in (K := 1) (i := 7) (by decide +kernel)
theorem xk_k2 : ∀ k, k < 13 → xk_t (tyX2 k) = true := by decide +kernel
set_option maxRecDepth 20000 in
theorem xk_3 : xk_all RX3 TX3 4 [(1, 63), (1, 65), (1, 67), (1, 69)] = true := by decide +kernel
theorem xk_i3 : Cond.instantiable RX3 4 ∈ xG := xw_in (K := 1) (i := 54) (by decide +kernel)
theorem xk_n3 : Cond.initialized RX3 ∈ xG := xw_in (K := 1) (i := 4) (by decide +kernel)
theorem xk_k3 : ∀ k, k < 4 → xk_t (tyX3 k) = true := by decide +kernel
set_option maxRecDepth 20000 in
theorem xk_4 : xk_all RX4 TX4 10 [(1, 119), (1, 121), (1, 123), (1, 125), (1, 127), (1, 129), (1, 131), (1, 133), (1, 135), (1, 137)] = true := by decide +kernel
theorem xk_i4 : Cond.instantiable RX4 10 ∈ xG := xw_in (K := 1) (i := 48) (by decide +kernel)
theorem xk_n4 : Cond.initialized RX4 ∈ xG := xw_in (K := 1) (i := 3) (by decide +kernel)
theorem xk_k4 : ∀ k, k < 10 → xk_t (tyX4 k) = true := by decide +kernel
set_option maxRecDepth 20000 in
theorem xk_5 : xk_all RX5 TX5 16 [(1, 239), (2, 1), (2, 3), (2, 5), (2, 7), (2, 9), (2, 11), (2, 13), (2, 15), (2, 17), (2, 19), (2, 21), (2, 23), (2, 25), (2, 27), (2, 29)] = true := by decide +kernel
theorem xk_i5 : Cond.instantiable RX5 16 ∈ xG := xw_in (K := 1) (i := 216) (by decide +kernel)
theorem xk_n5 : Cond.initialized RX5 ∈ xG := xw_in (K := 1) (i := 8) (by decide +kernel)
theorem xk_k5 : ∀ k, k < 16 → xk_t (tyX5 k) = true := by decide +kernel
set_option maxRecDepth 20000 in
theorem xk_6 : xk_all RX6 TX6 7 [(1, 90), (1, 92), (1, 94), (1, 96), (1, 98), (1, 100), (1, 102)] = true := by decide +kernel
theorem xk_i6 : Cond.instantiable RX6 7 ∈ xG := xw_in (K := 1) (i := 74) (by decide +kernel)
theorem xk_n6 : Cond.initialized RX6 ∈ xG := xw_in (K := 1) (i := 5) (by decide +kernel)
theorem xk_k6 : ∀ k, k < 7 → xk_t (tyX6 k) = true := by decide +kernel
set_option maxRecDepth 20000 in
theorem xk_7 : xk_all RX7 TX7 2 [(1, 149), (1, 151)] = true := by decide +kernel
theorem xk_i7 : Cond.instantiable RX7 2 ∈ xG := xw_in (K := 1) (i := 141) (by decide +kernel)
theorem xk_n7 : Cond.initialized RX7 ∈ xG := xw_in (K := 1) (i := 6) (by decide +kernel)
theorem xk_k7 : ∀ k, k < 2 → xk_t (tyX7 k) = true := by decide +kernel
set_option maxRecDepth 20000 in
theorem xk_8 : xk_all RX8 TX8 2 [(1, 41), (1, 43)] = true := by decide +kernel
theorem xk_i8 : Cond.instantiable RX8 2 ∈ xG := xw_in (K := 1) (i := 31) (by decide +kernel)
theorem xk_n8 : Cond.initialized RX8 ∈ xG := xw_in (K := 1) (i := 2) (by decide +kernel)
theorem xk_k8 : ∀ k, k < 2 → xk_t (tyX8 k) = true := by decide +kernel
set_option maxRecDepth 20000 in
theorem xk_9 : xk_all RX9 TX9 12 [(2, 106), (2, 108), (2, 110), (2, 112), (2, 114), (2, 116), (2, 118), (2, 120), (2, 122), (2, 124), (2, 126), (2, 128)] = true := by decide +kernel
theorem xk_i9 : Cond.instantiable RX9 12 ∈ xG := xw_in (K := 1) (i := 23) (by decide +kernel)
theorem xk_n9 : Cond.initialized RX9 ∈ xG := xw_in (K := 1) (i := 1) (by decide +kernel)
theorem xk_k9 : ∀ k, k < 12 → xk_t (tyX9 k) = true := by decide +kernel
set_option maxRecDepth 20000 in
theorem xk_10 : xk_all RX10 TX10 64 [(5, 150), (5, 152), (5, 154), (5, 156), (5, 158), (5, 160), (5, 162), (5, 164), (5, 166), (5, 168), (5, 170), (5, 172), (5, 174), (5, 176), (5, 178), (5, 180), (5, 182), (5, 184), (5, 186), (5, 188), (5, 190), (5, 192), (5, 194), (5, 196), (5, 198), (5, 200), (5, 202), (5, 204), (5, 206), (5, 208), (5, 210), (5, 212), (5, 214), (5, 216), (5, 218), (5, 220), (5, 222), (5, 224), (5, 226), (5, 228), (5, 230), (5, 232), (5, 234), (5, 236), (5, 238), (6, 0), (6, 2), (6, 4), (6, 6), (6, 8), (6, 10), (6, 12), (6, 14), (6, 16), (6, 18), (6, 20), (6, 22), (6, 24), (6, 26), (6, 28), (6, 30), (6, 32), (6, 34), (6, 36)] = true := by decide +kernel
theorem xk_i10 : Cond.instantiable RX10 64 ∈ xG := xw_in (K := 5) (i := 78) (by decide +kernel)
theorem xk_n10 : Cond.initialized RX10 ∈ xG := xw_in (K := 1) (i := 11) (by decide +kernel)
theorem xk_k10 : ∀ k, k < 64 → xk_t (tyX10 k) = true := by decide +kernel
theorem xk_ok : ∀ (ci : Nat) (C : String) (T : u_T) (N : Nat), vwCl[ci]? = some (C, T, N) → N = xh_N ci ∧ (∀ w ∈ u_ws C T N, w ∈ xG) ∧ (∀ k, k < N → parseFieldDescriptor (T k).2.2.1 = some (xh_ty ci k)) ∧ (∀ a, a < N → ∀ b, b < N → a ≠ b → (T a).2.1 ≠ (T b).2.1) ∧ (∀ k, k < N → (∃ q, xh_ty ci k = .object q) ∨ (∃ q, xh_ty ci k = .array q) ∨ xh_ty ci k = .int ∨ xh_ty ci k = .boolean ∨ xh_ty ci k = .long) ∧ Cond.instantiable C N ∈ xG ∧ Cond.initialized C ∈ xG := by
  intro ci C T N h
  match ci, h with
  | 0, h => cases h; exact ⟨rfl, xk_in xk_0, tyX0_ok, nmX0, fun k hk => xk_tv (xk_k0 k hk), xk_i0, xk_n0⟩
  | 1, h => cases h; exact ⟨rfl, xk_in xk_1, tyX1_ok, nmX1, fun k hk => xk_tv (xk_k1 k hk), xk_i1, xk_n1⟩
  | 2, h => cases h; exact ⟨rfl, xk_in xk_2, tyX2_ok, nmX2, fun k hk => xk_tv (xk_k2 k hk), xk_i2, xk_n2⟩
  | 3, h => cases h; exact ⟨rfl, xk_in xk_3, tyX3_ok, nmX3, fun k hk => xk_tv (xk_k3 k hk), xk_i3, xk_n3⟩
  | 4, h => cases h; exact ⟨rfl, xk_in xk_4, tyX4_ok, nmX4, fun k hk => xk_tv (xk_k4 k hk), xk_i4, xk_n4⟩
  | 5, h => cases h; exact ⟨rfl, xk_in xk_5, tyX5_ok, nmX5, fun k hk => xk_tv (xk_k5 k hk), xk_i5, xk_n5⟩
  | 6, h => cases h; exact ⟨rfl, xk_in xk_6, tyX6_ok, nmX6, fun k hk => xk_tv (xk_k6 k hk), xk_i6, xk_n6⟩
  | 7, h => cases h; exact ⟨rfl, xk_in xk_7, tyX7_ok, nmX7, fun k hk => xk_tv (xk_k7 k hk), xk_i7, xk_n7⟩
  | 8, h => cases h; exact ⟨rfl, xk_in xk_8, tyX8_ok, nmX8, fun k hk => xk_tv (xk_k8 k hk), xk_i8, xk_n8⟩
  | 9, h => cases h; exact ⟨rfl, xk_in xk_9, tyX9_ok, nmX9, fun k hk => xk_tv (xk_k9 k hk), xk_i9, xk_n9⟩
  | 10, h => cases h; exact ⟨rfl, xk_in xk_10, tyX10_ok, nmX10, fun k hk => xk_tv (xk_k10 k hk), xk_i10, xk_n10⟩
  | k + 11, h => simp [vwCl] at h
theorem xk_aI : Cond.arrayClass .int ∈ xG := xw_in (K := 1) (i := 72) (by decide +kernel)
theorem xk_aB : Cond.arrayClass .byte ∈ xG := xw_in (K := 1) (i := 46) (by decide +kernel)
theorem xk_aZ : Cond.arrayClass .boolean ∈ xG := xw_in (K := 2) (i := 85) (by decide +kernel)
theorem xk_aJ : Cond.arrayClass .long ∈ xG := xw_in (K := 1) (i := 154) (by decide +kernel)
theorem xk_ov : Cond.arrayOver (.object RX7) ∈ lw_tbl := xtb_in (K := 1) (List.mem_of_getElem? (i := 155) (by decide +kernel))
end XK
