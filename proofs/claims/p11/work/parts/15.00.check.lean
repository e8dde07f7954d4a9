section XCK0
set_option maxRecDepth 20000 in
theorem xo_m_X0_init : xm_b xmi_X0_init (1, 9) (2, 35) (99, 0) = true := by decide +kernel
theorem xo_w_X0_init : Cond.code xmi_X0_init.2.1 xmi_X0_init.2.2.1 xmi_X0_init.2.2.2.1 xmi_X0_init.2.2.2.2.1 ∈ xG := xw_in2 (K := 2) (i := 36) rfl rfl
set_option maxRecDepth 20000 in
theorem xo_c_X0_init_0 : xc_b xmi_X0_init xc_X0_init 0 112 = true := by decide +kernel
theorem xo_r_X0_init : ∀ (pc : Nat) (r : xr_R), xcl xc_X0_init pc = some r → xr_b xmi_X0_init.1 (xm_ini xmi_X0_init) xmi_X0_init.2.2.1 pc r = true ∧ xr_c xM xmi_X0_init.1 r = true := xc_up_e (mi := xmi_X0_init) (cd := xc_X0_init) (N := 112) (xc_up_s (mi := xmi_X0_init) (cd := xc_X0_init) (lo := 0) (n := 112) xc_up_0 xo_c_X0_init_0) (by decide +kernel)
set_option maxRecDepth 20000 in
theorem xo_m_X0_isOption : xm_b xmi_X0_isOption (1, 9) (4, 113) (99, 0) = true := by decide +kernel
theorem xo_w_X0_isOption : Cond.code xmi_X0_isOption.2.1 xmi_X0_isOption.2.2.1 xmi_X0_isOption.2.2.2.1 xmi_X0_isOption.2.2.2.2.1 ∈ xG := xw_in2 (K := 4) (i := 114) rfl rfl
set_option maxRecDepth 20000 in
theorem xo_c_X0_isOption_0 : xc_b xmi_X0_isOption xc_X0_isOption 0 16 = true := by decide +kernel
theorem xo_r_X0_isOption : ∀ (pc : Nat) (r : xr_R), xcl xc_X0_isOption pc = some r → xr_b xmi_X0_isOption.1 (xm_ini xmi_X0_isOption) xmi_X0_isOption.2.2.1 pc r = true ∧ xr_c xM xmi_X0_isOption.1 r = true := xc_up_e (mi := xmi_X0_isOption) (cd := xc_X0_isOption) (N := 16) (xc_up_s (mi := xmi_X0_isOption) (cd := xc_X0_isOption) (lo := 0) (n := 16) xc_up_0 xo_c_X0_isOption_0) (by decide +kernel)
set_option maxRecDepth 20000 in
theorem xo_m_X0_isRow : xm_b xmi_X0_isRow (1, 9) (4, 108) (4, 109) = true := by decide +kernel
theorem xo_w_X0_isRow : Cond.code xmi_X0_isRow.2.1 xmi_X0_isRow.2.2.1 xmi_X0_isRow.2.2.2.1 xmi_X0_isRow.2.2.2.2.1 ∈ xG := xw_in2 (K := 4) (i := 110) rfl rfl
set_option maxRecDepth 20000 in
theorem xo_c_X0_isRow_0 : xc_b xmi_X0_isRow xc_X0_isRow 0 80 = true := by decide +kernel
theorem xo_r_X0_isRow : ∀ (pc : Nat) (r : xr_R), xcl xc_X0_isRow pc = some r → xr_b xmi_X0_isRow.1 (xm_ini xmi_X0_isRow) xmi_X0_isRow.2.2.1 pc r = true ∧ xr_c xM xmi_X0_isRow.1 r = true := xc_up_e (mi := xmi_X0_isRow) (cd := xc_X0_isRow) (N := 80) (xc_up_s (mi := xmi_X0_isRow) (cd := xc_X0_isRow) (lo := 0) (n := 80) xc_up_0 xo_c_X0_isRow_0) (by decide +kernel)
end XCK0
