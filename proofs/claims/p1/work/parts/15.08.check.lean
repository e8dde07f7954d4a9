section XCK8
set_option maxRecDepth 20000 in
theorem xo_m_X10_unfit : xm_b xmi_X10_unfit (7, 158) (1, 11) (7, 156) (7, 157) = true := by decide +kernel
set_option maxRecDepth 20000 in
theorem xo_c_X10_unfit_0 : xc_b xmi_X10_unfit xc_X10_unfit 0 80 = true := by decide +kernel
theorem xo_r_X10_unfit : ∀ (pc : Nat) (r : xr_R), xcl xc_X10_unfit pc = some r → xr_b xmi_X10_unfit.1 (xm_ini xmi_X10_unfit) xmi_X10_unfit.2.2.1 pc r = true ∧ xr_c xM xmi_X10_unfit.1 r = true := xc_up_e (mi := xmi_X10_unfit) (cd := xc_X10_unfit) (N := 80) (xc_up_s (mi := xmi_X10_unfit) (cd := xc_X10_unfit) (lo := 0) (n := 80) xc_up_0 xo_c_X10_unfit_0) (by decide +kernel)
set_option maxRecDepth 20000 in
theorem xo_m_X10_sureOf : xm_b xmi_X10_sureOf (7, 166) (1, 11) (7, 165) (0, 113) = true := by decide +kernel
set_option maxRecDepth 20000 in
theorem xo_c_X10_sureOf_0 : xc_b xmi_X10_sureOf xc_X10_sureOf 0 112 = true := by decide +kernel
set_option maxRecDepth 20000 in
theorem xo_c_X10_sureOf_112 : xc_b xmi_X10_sureOf xc_X10_sureOf 112 16 = true := by decide +kernel
theorem xo_r_X10_sureOf : ∀ (pc : Nat) (r : xr_R), xcl xc_X10_sureOf pc = some r → xr_b xmi_X10_sureOf.1 (xm_ini xmi_X10_sureOf) xmi_X10_sureOf.2.2.1 pc r = true ∧ xr_c xM xmi_X10_sureOf.1 r = true := xc_up_e (mi := xmi_X10_sureOf) (cd := xc_X10_sureOf) (N := 128) (xc_up_s (mi := xmi_X10_sureOf) (cd := xc_X10_sureOf) (lo := 112) (n := 16) (xc_up_s (mi := xmi_X10_sureOf) (cd := xc_X10_sureOf) (lo := 0) (n := 112) xc_up_0 xo_c_X10_sureOf_0) xo_c_X10_sureOf_112) (by decide +kernel)
set_option maxRecDepth 20000 in
theorem xo_m_X10_sure : xm_b xmi_X10_sure (7, 162) (1, 11) (7, 160) (7, 161) = true := by decide +kernel
set_option maxRecDepth 20000 in
theorem xo_c_X10_sure_0 : xc_b xmi_X10_sure xc_X10_sure 0 32 = true := by decide +kernel
theorem xo_r_X10_sure : ∀ (pc : Nat) (r : xr_R), xcl xc_X10_sure pc = some r → xr_b xmi_X10_sure.1 (xm_ini xmi_X10_sure) xmi_X10_sure.2.2.1 pc r = true ∧ xr_c xM xmi_X10_sure.1 r = true := xc_up_e (mi := xmi_X10_sure) (cd := xc_X10_sure) (N := 32) (xc_up_s (mi := xmi_X10_sure) (cd := xc_X10_sure) (lo := 0) (n := 32) xc_up_0 xo_c_X10_sure_0) (by decide +kernel)
set_option maxRecDepth 20000 in
theorem xo_m_X10_open : xm_b xmi_X10_open (7, 170) (1, 11) (7, 168) (7, 169) = true := by decide +kernel
set_option maxRecDepth 20000 in
theorem xo_c_X10_open_0 : xc_b xmi_X10_open xc_X10_open 0 48 = true := by decide +kernel
theorem xo_r_X10_open : ∀ (pc : Nat) (r : xr_R), xcl xc_X10_open pc = some r → xr_b xmi_X10_open.1 (xm_ini xmi_X10_open) xmi_X10_open.2.2.1 pc r = true ∧ xr_c xM xmi_X10_open.1 r = true := xc_up_e (mi := xmi_X10_open) (cd := xc_X10_open) (N := 48) (xc_up_s (mi := xmi_X10_open) (cd := xc_X10_open) (lo := 0) (n := 48) xc_up_0 xo_c_X10_open_0) (by decide +kernel)
set_option maxRecDepth 20000 in
theorem xo_m_X10_count : xm_b xmi_X10_count (7, 174) (1, 11) (7, 172) (7, 173) = true := by decide +kernel
set_option maxRecDepth 20000 in
theorem xo_c_X10_count_0 : xc_b xmi_X10_count xc_X10_count 0 80 = true := by decide +kernel
theorem xo_r_X10_count : ∀ (pc : Nat) (r : xr_R), xcl xc_X10_count pc = some r → xr_b xmi_X10_count.1 (xm_ini xmi_X10_count) xmi_X10_count.2.2.1 pc r = true ∧ xr_c xM xmi_X10_count.1 r = true := xc_up_e (mi := xmi_X10_count) (cd := xc_X10_count) (N := 80) (xc_up_s (mi := xmi_X10_count) (cd := xc_X10_count) (lo := 0) (n := 80) xc_up_0 xo_c_X10_count_0) (by decide +kernel)
set_option maxRecDepth 20000 in
theorem xo_m_J6_bitCount_0f7a4 : xm_b xmi_J6_bitCount_0f7a4 (3, 185) (1, 17) (3, 184) (99, 0) = true := by decide +kernel
set_option maxRecDepth 20000 in
theorem xo_c_J6_bitCount_0f7a4_0 : xc_b xmi_J6_bitCount_0f7a4 xc_J6_bitCount_0f7a4 0 64 = true := by decide +kernel
theorem xo_r_J6_bitCount_0f7a4 : ∀ (pc : Nat) (r : xr_R), xcl xc_J6_bitCount_0f7a4 pc = some r → xr_b xmi_J6_bitCount_0f7a4.1 (xm_ini xmi_J6_bitCount_0f7a4) xmi_J6_bitCount_0f7a4.2.2.1 pc r = true ∧ xr_c xM xmi_J6_bitCount_0f7a4.1 r = true := xc_up_e (mi := xmi_J6_bitCount_0f7a4) (cd := xc_J6_bitCount_0f7a4) (N := 64) (xc_up_s (mi := xmi_J6_bitCount_0f7a4) (cd := xc_J6_bitCount_0f7a4) (lo := 0) (n := 64) xc_up_0 xo_c_J6_bitCount_0f7a4_0) (by decide +kernel)
set_option maxRecDepth 20000 in
theorem xo_m_J9_min_7cf53 : xm_b xmi_J9_min_7cf53 (2, 173) (1, 12) (2, 172) (99, 0) = true := by decide +kernel
set_option maxRecDepth 20000 in
theorem xo_c_J9_min_7cf53_0 : xc_b xmi_J9_min_7cf53 xc_J9_min_7cf53 0 16 = true := by decide +kernel
theorem xo_r_J9_min_7cf53 : ∀ (pc : Nat) (r : xr_R), xcl xc_J9_min_7cf53 pc = some r → xr_b xmi_J9_min_7cf53.1 (xm_ini xmi_J9_min_7cf53) xmi_J9_min_7cf53.2.2.1 pc r = true ∧ xr_c xM xmi_J9_min_7cf53.1 r = true := xc_up_e (mi := xmi_J9_min_7cf53) (cd := xc_J9_min_7cf53) (N := 16) (xc_up_s (mi := xmi_J9_min_7cf53) (cd := xc_J9_min_7cf53) (lo := 0) (n := 16) xc_up_0 xo_c_J9_min_7cf53_0) (by decide +kernel)
set_option maxRecDepth 20000 in
theorem xo_c_L_law_0 : xc_b xmi_L_law xc_L_law 0 112 = true := by decide +kernel
set_option maxRecDepth 20000 in
theorem xo_c_L_law_112 : xc_b xmi_L_law xc_L_law 112 112 = true := by decide +kernel
set_option maxRecDepth 20000 in
theorem xo_c_L_law_224 : xc_b xmi_L_law xc_L_law 224 112 = true := by decide +kernel
set_option maxRecDepth 20000 in
theorem xo_c_L_law_336 : xc_b xmi_L_law xc_L_law 336 112 = true := by decide +kernel
set_option maxRecDepth 20000 in
theorem xo_c_L_law_448 : xc_b xmi_L_law xc_L_law 448 112 = true := by decide +kernel
set_option maxRecDepth 20000 in
theorem xo_c_L_law_560 : xc_b xmi_L_law xc_L_law 560 112 = true := by decide +kernel
set_option maxRecDepth 20000 in
theorem xo_c_L_law_672 : xc_b xmi_L_law xc_L_law 672 112 = true := by decide +kernel
set_option maxRecDepth 20000 in
theorem xo_c_L_law_784 : xc_b xmi_L_law xc_L_law 784 112 = true := by decide +kernel
set_option maxRecDepth 20000 in
theorem xo_c_L_law_896 : xc_b xmi_L_law xc_L_law 896 112 = true := by decide +kernel
set_option maxRecDepth 20000 in
theorem xo_c_L_law_1008 : xc_b xmi_L_law xc_L_law 1008 32 = true := by decide +kernel
theorem xo_r_L_law : ∀ (pc : Nat) (r : xr_R), xcl xc_L_law pc = some r → xr_b xmi_L_law.1 (xm_ini xmi_L_law) xmi_L_law.2.2.1 pc r = true ∧ xr_c xM xmi_L_law.1 r = true := xc_up_e (mi := xmi_L_law) (cd := xc_L_law) (N := 1040) (xc_up_s (mi := xmi_L_law) (cd := xc_L_law) (lo := 1008) (n := 32) (xc_up_s (mi := xmi_L_law) (cd := xc_L_law) (lo := 896) (n := 112) (xc_up_s (mi := xmi_L_law) (cd := xc_L_law) (lo := 784) (n := 112) (xc_up_s (mi := xmi_L_law) (cd := xc_L_law) (lo := 672) (n := 112) (xc_up_s (mi := xmi_L_law) (cd := xc_L_law) (lo := 560) (n := 112) (xc_up_s (mi := xmi_L_law) (cd := xc_L_law) (lo := 448) (n := 112) (xc_up_s (mi := xmi_L_law) (cd := xc_L_law) (lo := 336) (n := 112) (xc_up_s (mi := xmi_L_law) (cd := xc_L_law) (lo := 224) (n := 112) (xc_up_s (mi := xmi_L_law) (cd := xc_L_law) (lo := 112) (n := 112) (xc_up_s (mi := xmi_L_law) (cd := xc_L_law) (lo := 0) (n := 112) xc_up_0 xo_c_L_law_0) xo_c_L_law_112) xo_c_L_law_224) xo_c_L_law_336) xo_c_L_law_448) xo_c_L_law_560) xo_c_L_law_672) xo_c_L_law_784) xo_c_L_law_896) xo_c_L_law_1008) (by decide +kernel)
end XCK8
