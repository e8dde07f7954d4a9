section XCK2
set_option maxRecDepth 20000 in
theorem xo_m_X2_isStrong : xm_b xmi_X2_isStrong (1, 7) (3, 220) (3, 221) = true := by decide +kernel
theorem xo_w_X2_isStrong : Cond.code xmi_X2_isStrong.2.1 xmi_X2_isStrong.2.2.1 xmi_X2_isStrong.2.2.2.1 xmi_X2_isStrong.2.2.2.2.1 ∈ xG := xw_in2 (K := 3) (i := 222) rfl rfl
set_option maxRecDepth 20000 in
theorem xo_c_X2_isStrong_0 : xc_b xmi_X2_isStrong xc_X2_isStrong 0 64 = true := by decide +kernel
theorem xo_r_X2_isStrong : ∀ (pc : Nat) (r : xr_R), xcl xc_X2_isStrong pc = some r → xr_b xmi_X2_isStrong.1 (xm_ini xmi_X2_isStrong) xmi_X2_isStrong.2.2.1 pc r = true ∧ xr_c xM xmi_X2_isStrong.1 r = true := xc_up_e (mi := xmi_X2_isStrong) (cd := xc_X2_isStrong) (N := 64) (xc_up_s (mi := xmi_X2_isStrong) (cd := xc_X2_isStrong) (lo := 0) (n := 64) xc_up_0 xo_c_X2_isStrong_0) (by decide +kernel)
set_option maxRecDepth 20000 in
theorem xo_m_X2_isLined : xm_b xmi_X2_isLined (1, 7) (3, 224) (3, 225) = true := by decide +kernel
theorem xo_w_X2_isLined : Cond.code xmi_X2_isLined.2.1 xmi_X2_isLined.2.2.1 xmi_X2_isLined.2.2.2.1 xmi_X2_isLined.2.2.2.2.1 ∈ xG := xw_in2 (K := 3) (i := 226) rfl rfl
set_option maxRecDepth 20000 in
theorem xo_c_X2_isLined_0 : xc_b xmi_X2_isLined xc_X2_isLined 0 48 = true := by decide +kernel
theorem xo_r_X2_isLined : ∀ (pc : Nat) (r : xr_R), xcl xc_X2_isLined pc = some r → xr_b xmi_X2_isLined.1 (xm_ini xmi_X2_isLined) xmi_X2_isLined.2.2.1 pc r = true ∧ xr_c xM xmi_X2_isLined.1 r = true := xc_up_e (mi := xmi_X2_isLined) (cd := xc_X2_isLined) (N := 48) (xc_up_s (mi := xmi_X2_isLined) (cd := xc_X2_isLined) (lo := 0) (n := 48) xc_up_0 xo_c_X2_isLined_0) (by decide +kernel)
set_option maxRecDepth 20000 in
theorem xo_m_X2_compare : xm_b xmi_X2_compare (1, 7) (3, 228) (3, 229) = true := by decide +kernel
theorem xo_w_X2_compare : Cond.code xmi_X2_compare.2.1 xmi_X2_compare.2.2.1 xmi_X2_compare.2.2.2.1 xmi_X2_compare.2.2.2.2.1 ∈ xG := xw_in2 (K := 3) (i := 230) rfl rfl
set_option maxRecDepth 20000 in
theorem xo_c_X2_compare_0 : xc_b xmi_X2_compare xc_X2_compare 0 80 = true := by decide +kernel
theorem xo_r_X2_compare : ∀ (pc : Nat) (r : xr_R), xcl xc_X2_compare pc = some r → xr_b xmi_X2_compare.1 (xm_ini xmi_X2_compare) xmi_X2_compare.2.2.1 pc r = true ∧ xr_c xM xmi_X2_compare.1 r = true := xc_up_e (mi := xmi_X2_compare) (cd := xc_X2_compare) (N := 80) (xc_up_s (mi := xmi_X2_compare) (cd := xc_X2_compare) (lo := 0) (n := 80) xc_up_0 xo_c_X2_compare_0) (by decide +kernel)
set_option maxRecDepth 20000 in
theorem xo_m_X2_compareAll : xm_b xmi_X2_compareAll (1, 7) (3, 204) (0, 30) = true := by decide +kernel
theorem xo_w_X2_compareAll : Cond.code xmi_X2_compareAll.2.1 xmi_X2_compareAll.2.2.1 xmi_X2_compareAll.2.2.2.1 xmi_X2_compareAll.2.2.2.2.1 ∈ xG := xw_in2 (K := 3) (i := 205) rfl rfl
set_option maxRecDepth 20000 in
theorem xo_c_X2_compareAll_0 : xc_b xmi_X2_compareAll xc_X2_compareAll 0 64 = true := by decide +kernel
theorem xo_r_X2_compareAll : ∀ (pc : Nat) (r : xr_R), xcl xc_X2_compareAll pc = some r → xr_b xmi_X2_compareAll.1 (xm_ini xmi_X2_compareAll) xmi_X2_compareAll.2.2.1 pc r = true ∧ xr_c xM xmi_X2_compareAll.1 r = true := xc_up_e (mi := xmi_X2_compareAll) (cd := xc_X2_compareAll) (N := 64) (xc_up_s (mi := xmi_X2_compareAll) (cd := xc_X2_compareAll) (lo := 0) (n := 64) xc_up_0 xo_c_X2_compareAll_0) (by decide +kernel)
set_option maxRecDepth 20000 in
theorem xo_m_X2_isAtLeast : xm_b xmi_X2_isAtLeast (1, 7) (3, 208) (0, 31) = true := by decide +kernel
theorem xo_w_X2_isAtLeast : Cond.code xmi_X2_isAtLeast.2.1 xmi_X2_isAtLeast.2.2.1 xmi_X2_isAtLeast.2.2.2.1 xmi_X2_isAtLeast.2.2.2.2.1 ∈ xG := xw_in2 (K := 3) (i := 209) rfl rfl
set_option maxRecDepth 20000 in
theorem xo_c_X2_isAtLeast_0 : xc_b xmi_X2_isAtLeast xc_X2_isAtLeast 0 80 = true := by decide +kernel
theorem xo_r_X2_isAtLeast : ∀ (pc : Nat) (r : xr_R), xcl xc_X2_isAtLeast pc = some r → xr_b xmi_X2_isAtLeast.1 (xm_ini xmi_X2_isAtLeast) xmi_X2_isAtLeast.2.2.1 pc r = true ∧ xr_c xM xmi_X2_isAtLeast.1 r = true := xc_up_e (mi := xmi_X2_isAtLeast) (cd := xc_X2_isAtLeast) (N := 80) (xc_up_s (mi := xmi_X2_isAtLeast) (cd := xc_X2_isAtLeast) (lo := 0) (n := 80) xc_up_0 xo_c_X2_isAtLeast_0) (by decide +kernel)
set_option maxRecDepth 20000 in
theorem xo_m_X2_upperShare : xm_b xmi_X2_upperShare (1, 7) (5, 56) (5, 57) = true := by decide +kernel
theorem xo_w_X2_upperShare : Cond.code xmi_X2_upperShare.2.1 xmi_X2_upperShare.2.2.1 xmi_X2_upperShare.2.2.2.1 xmi_X2_upperShare.2.2.2.2.1 ∈ xG := xw_in2 (K := 5) (i := 58) rfl rfl
set_option maxRecDepth 20000 in
theorem xo_c_X2_upperShare_0 : xc_b xmi_X2_upperShare xc_X2_upperShare 0 32 = true := by decide +kernel
theorem xo_r_X2_upperShare : ∀ (pc : Nat) (r : xr_R), xcl xc_X2_upperShare pc = some r → xr_b xmi_X2_upperShare.1 (xm_ini xmi_X2_upperShare) xmi_X2_upperShare.2.2.1 pc r = true ∧ xr_c xM xmi_X2_upperShare.1 r = true := xc_up_e (mi := xmi_X2_upperShare) (cd := xc_X2_upperShare) (N := 32) (xc_up_s (mi := xmi_X2_upperShare) (cd := xc_X2_upperShare) (lo := 0) (n := 32) xc_up_0 xo_c_X2_upperShare_0) (by decide +kernel)
set_option maxRecDepth 20000 in
theorem xo_m_X2_lowerShare : xm_b xmi_X2_lowerShare (1, 7) (5, 71) (5, 72) = true := by decide +kernel
theorem xo_w_X2_lowerShare : Cond.code xmi_X2_lowerShare.2.1 xmi_X2_lowerShare.2.2.1 xmi_X2_lowerShare.2.2.2.1 xmi_X2_lowerShare.2.2.2.2.1 ∈ xG := xw_in2 (K := 5) (i := 73) rfl rfl
set_option maxRecDepth 20000 in
theorem xo_c_X2_lowerShare_0 : xc_b xmi_X2_lowerShare xc_X2_lowerShare 0 64 = true := by decide +kernel
theorem xo_r_X2_lowerShare : ∀ (pc : Nat) (r : xr_R), xcl xc_X2_lowerShare pc = some r → xr_b xmi_X2_lowerShare.1 (xm_ini xmi_X2_lowerShare) xmi_X2_lowerShare.2.2.1 pc r = true ∧ xr_c xM xmi_X2_lowerShare.1 r = true := xc_up_e (mi := xmi_X2_lowerShare) (cd := xc_X2_lowerShare) (N := 64) (xc_up_s (mi := xmi_X2_lowerShare) (cd := xc_X2_lowerShare) (lo := 0) (n := 64) xc_up_0 xo_c_X2_lowerShare_0) (by decide +kernel)
set_option maxRecDepth 20000 in
theorem xo_m_X2_ordersOf : xm_b xmi_X2_ordersOf (1, 7) (5, 61) (0, 55) = true := by decide +kernel
theorem xo_w_X2_ordersOf : Cond.code xmi_X2_ordersOf.2.1 xmi_X2_ordersOf.2.2.1 xmi_X2_ordersOf.2.2.2.1 xmi_X2_ordersOf.2.2.2.2.1 ∈ xG := xw_in2 (K := 5) (i := 62) rfl rfl
set_option maxRecDepth 20000 in
theorem xo_c_X2_ordersOf_0 : xc_b xmi_X2_ordersOf xc_X2_ordersOf 0 64 = true := by decide +kernel
theorem xo_r_X2_ordersOf : ∀ (pc : Nat) (r : xr_R), xcl xc_X2_ordersOf pc = some r → xr_b xmi_X2_ordersOf.1 (xm_ini xmi_X2_ordersOf) xmi_X2_ordersOf.2.2.1 pc r = true ∧ xr_c xM xmi_X2_ordersOf.1 r = true := xc_up_e (mi := xmi_X2_ordersOf) (cd := xc_X2_ordersOf) (N := 64) (xc_up_s (mi := xmi_X2_ordersOf) (cd := xc_X2_ordersOf) (lo := 0) (n := 64) xc_up_0 xo_c_X2_ordersOf_0) (by decide +kernel)
set_option maxRecDepth 20000 in
theorem xo_m_X2_partsOf : xm_b xmi_X2_partsOf (1, 7) (5, 67) (0, 56) = true := by decide +kernel
theorem xo_w_X2_partsOf : Cond.code xmi_X2_partsOf.2.1 xmi_X2_partsOf.2.2.1 xmi_X2_partsOf.2.2.2.1 xmi_X2_partsOf.2.2.2.2.1 ∈ xG := xw_in2 (K := 5) (i := 68) rfl rfl
set_option maxRecDepth 20000 in
theorem xo_c_X2_partsOf_0 : xc_b xmi_X2_partsOf xc_X2_partsOf 0 64 = true := by decide +kernel
theorem xo_r_X2_partsOf : ∀ (pc : Nat) (r : xr_R), xcl xc_X2_partsOf pc = some r → xr_b xmi_X2_partsOf.1 (xm_ini xmi_X2_partsOf) xmi_X2_partsOf.2.2.1 pc r = true ∧ xr_c xM xmi_X2_partsOf.1 r = true := xc_up_e (mi := xmi_X2_partsOf) (cd := xc_X2_partsOf) (N := 64) (xc_up_s (mi := xmi_X2_partsOf) (cd := xc_X2_partsOf) (lo := 0) (n := 64) xc_up_0 xo_c_X2_partsOf_0) (by decide +kernel)
set_option maxRecDepth 20000 in
theorem xo_m_X2_chanceOf : xm_b xmi_X2_chanceOf (1, 7) (4, 14) (4, 15) = true := by decide +kernel
theorem xo_w_X2_chanceOf : Cond.code xmi_X2_chanceOf.2.1 xmi_X2_chanceOf.2.2.1 xmi_X2_chanceOf.2.2.2.1 xmi_X2_chanceOf.2.2.2.2.1 ∈ xG := xw_in2 (K := 4) (i := 16) rfl rfl
set_option maxRecDepth 20000 in
theorem xo_c_X2_chanceOf_0 : xc_b xmi_X2_chanceOf xc_X2_chanceOf 0 112 = true := by decide +kernel
set_option maxRecDepth 20000 in
theorem xo_c_X2_chanceOf_112 : xc_b xmi_X2_chanceOf xc_X2_chanceOf 112 16 = true := by decide +kernel
theorem xo_r_X2_chanceOf : ∀ (pc : Nat) (r : xr_R), xcl xc_X2_chanceOf pc = some r → xr_b xmi_X2_chanceOf.1 (xm_ini xmi_X2_chanceOf) xmi_X2_chanceOf.2.2.1 pc r = true ∧ xr_c xM xmi_X2_chanceOf.1 r = true := xc_up_e (mi := xmi_X2_chanceOf) (cd := xc_X2_chanceOf) (N := 128) (xc_up_s (mi := xmi_X2_chanceOf) (cd := xc_X2_chanceOf) (lo := 112) (n := 16) (xc_up_s (mi := xmi_X2_chanceOf) (cd := xc_X2_chanceOf) (lo := 0) (n := 112) xc_up_0 xo_c_X2_chanceOf_0) xo_c_X2_chanceOf_112) (by decide +kernel)
set_option maxRecDepth 20000 in
theorem xo_m_X2_power : xm_b xmi_X2_power (1, 7) (4, 18) (99, 0) = true := by decide +kernel
theorem xo_w_X2_power : Cond.code xmi_X2_power.2.1 xmi_X2_power.2.2.1 xmi_X2_power.2.2.2.1 xmi_X2_power.2.2.2.2.1 ∈ xG := xw_in2 (K := 4) (i := 19) rfl rfl
set_option maxRecDepth 20000 in
theorem xo_c_X2_power_0 : xc_b xmi_X2_power xc_X2_power 0 32 = true := by decide +kernel
theorem xo_r_X2_power : ∀ (pc : Nat) (r : xr_R), xcl xc_X2_power pc = some r → xr_b xmi_X2_power.1 (xm_ini xmi_X2_power) xmi_X2_power.2.2.1 pc r = true ∧ xr_c xM xmi_X2_power.1 r = true := xc_up_e (mi := xmi_X2_power) (cd := xc_X2_power) (N := 32) (xc_up_s (mi := xmi_X2_power) (cd := xc_X2_power) (lo := 0) (n := 32) xc_up_0 xo_c_X2_power_0) (by decide +kernel)
set_option maxRecDepth 20000 in
theorem xo_m_X2_allyOf : xm_b xmi_X2_allyOf (1, 7) (4, 25) (4, 26) = true := by decide +kernel
theorem xo_w_X2_allyOf : Cond.code xmi_X2_allyOf.2.1 xmi_X2_allyOf.2.2.1 xmi_X2_allyOf.2.2.2.1 xmi_X2_allyOf.2.2.2.2.1 ∈ xG := xw_in2 (K := 4) (i := 27) rfl rfl
set_option maxRecDepth 20000 in
theorem xo_c_X2_allyOf_0 : xc_b xmi_X2_allyOf xc_X2_allyOf 0 64 = true := by decide +kernel
theorem xo_r_X2_allyOf : ∀ (pc : Nat) (r : xr_R), xcl xc_X2_allyOf pc = some r → xr_b xmi_X2_allyOf.1 (xm_ini xmi_X2_allyOf) xmi_X2_allyOf.2.2.1 pc r = true ∧ xr_c xM xmi_X2_allyOf.1 r = true := xc_up_e (mi := xmi_X2_allyOf) (cd := xc_X2_allyOf) (N := 64) (xc_up_s (mi := xmi_X2_allyOf) (cd := xc_X2_allyOf) (lo := 0) (n := 64) xc_up_0 xo_c_X2_allyOf_0) (by decide +kernel)
set_option maxRecDepth 20000 in
theorem xo_m_X2_countTogether : xm_b xmi_X2_countTogether (1, 7) (4, 30) (0, 33) = true := by decide +kernel
theorem xo_w_X2_countTogether : Cond.code xmi_X2_countTogether.2.1 xmi_X2_countTogether.2.2.1 xmi_X2_countTogether.2.2.2.1 xmi_X2_countTogether.2.2.2.2.1 ∈ xG := xw_in2 (K := 4) (i := 31) rfl rfl
set_option maxRecDepth 20000 in
theorem xo_c_X2_countTogether_0 : xc_b xmi_X2_countTogether xc_X2_countTogether 0 96 = true := by decide +kernel
theorem xo_r_X2_countTogether : ∀ (pc : Nat) (r : xr_R), xcl xc_X2_countTogether pc = some r → xr_b xmi_X2_countTogether.1 (xm_ini xmi_X2_countTogether) xmi_X2_countTogether.2.2.1 pc r = true ∧ xr_c xM xmi_X2_countTogether.1 r = true := xc_up_e (mi := xmi_X2_countTogether) (cd := xc_X2_countTogether) (N := 96) (xc_up_s (mi := xmi_X2_countTogether) (cd := xc_X2_countTogether) (lo := 0) (n := 96) xc_up_0 xo_c_X2_countTogether_0) (by decide +kernel)
set_option maxRecDepth 20000 in
theorem xo_m_X3_init : xm_b xmi_X3_init (1, 4) (1, 56) (99, 0) = true := by decide +kernel
theorem xo_w_X3_init : Cond.code xmi_X3_init.2.1 xmi_X3_init.2.2.1 xmi_X3_init.2.2.2.1 xmi_X3_init.2.2.2.2.1 ∈ xG := xw_in2 (K := 1) (i := 57) rfl rfl
set_option maxRecDepth 20000 in
theorem xo_c_X3_init_0 : xc_b xmi_X3_init xc_X3_init 0 48 = true := by decide +kernel
theorem xo_r_X3_init : ∀ (pc : Nat) (r : xr_R), xcl xc_X3_init pc = some r → xr_b xmi_X3_init.1 (xm_ini xmi_X3_init) xmi_X3_init.2.2.1 pc r = true ∧ xr_c xM xmi_X3_init.1 r = true := xc_up_e (mi := xmi_X3_init) (cd := xc_X3_init) (N := 48) (xc_up_s (mi := xmi_X3_init) (cd := xc_X3_init) (lo := 0) (n := 48) xc_up_0 xo_c_X3_init_0) (by decide +kernel)
set_option maxRecDepth 20000 in
theorem xo_m_X3_clear : xm_b xmi_X3_clear (1, 4) (2, 164) (2, 165) = true := by decide +kernel
theorem xo_w_X3_clear : Cond.code xmi_X3_clear.2.1 xmi_X3_clear.2.2.1 xmi_X3_clear.2.2.2.1 xmi_X3_clear.2.2.2.2.1 ∈ xG := xw_in2 (K := 2) (i := 166) rfl rfl
set_option maxRecDepth 20000 in
theorem xo_c_X3_clear_0 : xc_b xmi_X3_clear xc_X3_clear 0 16 = true := by decide +kernel
theorem xo_r_X3_clear : ∀ (pc : Nat) (r : xr_R), xcl xc_X3_clear pc = some r → xr_b xmi_X3_clear.1 (xm_ini xmi_X3_clear) xmi_X3_clear.2.2.1 pc r = true ∧ xr_c xM xmi_X3_clear.1 r = true := xc_up_e (mi := xmi_X3_clear) (cd := xc_X3_clear) (N := 16) (xc_up_s (mi := xmi_X3_clear) (cd := xc_X3_clear) (lo := 0) (n := 16) xc_up_0 xo_c_X3_clear_0) (by decide +kernel)
set_option maxRecDepth 20000 in
theorem xo_m_X3_add : xm_b xmi_X3_add (1, 4) (3, 76) (3, 77) = true := by decide +kernel
theorem xo_w_X3_add : Cond.code xmi_X3_add.2.1 xmi_X3_add.2.2.1 xmi_X3_add.2.2.2.1 xmi_X3_add.2.2.2.2.1 ∈ xG := xw_in2 (K := 3) (i := 78) rfl rfl
set_option maxRecDepth 20000 in
theorem xo_c_X3_add_0 : xc_b xmi_X3_add xc_X3_add 0 48 = true := by decide +kernel
theorem xo_r_X3_add : ∀ (pc : Nat) (r : xr_R), xcl xc_X3_add pc = some r → xr_b xmi_X3_add.1 (xm_ini xmi_X3_add) xmi_X3_add.2.2.1 pc r = true ∧ xr_c xM xmi_X3_add.1 r = true := xc_up_e (mi := xmi_X3_add) (cd := xc_X3_add) (N := 48) (xc_up_s (mi := xmi_X3_add) (cd := xc_X3_add) (lo := 0) (n := 48) xc_up_0 xo_c_X3_add_0) (by decide +kernel)
set_option maxRecDepth 20000 in
theorem xo_m_X3_fill : xm_b xmi_X3_fill (1, 4) (3, 111) (3, 112) = true := by decide +kernel
theorem xo_w_X3_fill : Cond.code xmi_X3_fill.2.1 xmi_X3_fill.2.2.1 xmi_X3_fill.2.2.2.1 xmi_X3_fill.2.2.2.2.1 ∈ xG := xw_in2 (K := 3) (i := 113) rfl rfl
set_option maxRecDepth 20000 in
theorem xo_c_X3_fill_0 : xc_b xmi_X3_fill xc_X3_fill 0 32 = true := by decide +kernel
theorem xo_r_X3_fill : ∀ (pc : Nat) (r : xr_R), xcl xc_X3_fill pc = some r → xr_b xmi_X3_fill.1 (xm_ini xmi_X3_fill) xmi_X3_fill.2.2.1 pc r = true ∧ xr_c xM xmi_X3_fill.1 r = true := xc_up_e (mi := xmi_X3_fill) (cd := xc_X3_fill) (N := 32) (xc_up_s (mi := xmi_X3_fill) (cd := xc_X3_fill) (lo := 0) (n := 32) xc_up_0 xo_c_X3_fill_0) (by decide +kernel)
set_option maxRecDepth 20000 in
theorem xo_m_X3_run : xm_b xmi_X3_run (1, 4) (3, 116) (0, 17) = true := by decide +kernel
theorem xo_w_X3_run : Cond.code xmi_X3_run.2.1 xmi_X3_run.2.2.1 xmi_X3_run.2.2.2.1 xmi_X3_run.2.2.2.2.1 ∈ xG := xw_in2 (K := 3) (i := 117) rfl rfl
set_option maxRecDepth 20000 in
theorem xo_c_X3_run_0 : xc_b xmi_X3_run xc_X3_run 0 112 = true := by decide +kernel
set_option maxRecDepth 20000 in
theorem xo_c_X3_run_112 : xc_b xmi_X3_run xc_X3_run 112 80 = true := by decide +kernel
theorem xo_r_X3_run : ∀ (pc : Nat) (r : xr_R), xcl xc_X3_run pc = some r → xr_b xmi_X3_run.1 (xm_ini xmi_X3_run) xmi_X3_run.2.2.1 pc r = true ∧ xr_c xM xmi_X3_run.1 r = true := xc_up_e (mi := xmi_X3_run) (cd := xc_X3_run) (N := 192) (xc_up_s (mi := xmi_X3_run) (cd := xc_X3_run) (lo := 112) (n := 80) (xc_up_s (mi := xmi_X3_run) (cd := xc_X3_run) (lo := 0) (n := 112) xc_up_0 xo_c_X3_run_0) xo_c_X3_run_112) (by decide +kernel)
set_option maxRecDepth 20000 in
theorem xo_m_X3_join : xm_b xmi_X3_join (1, 4) (3, 131) (99, 0) = true := by decide +kernel
theorem xo_w_X3_join : Cond.code xmi_X3_join.2.1 xmi_X3_join.2.2.1 xmi_X3_join.2.2.2.1 xmi_X3_join.2.2.2.2.1 ∈ xG := xw_in2 (K := 3) (i := 132) rfl rfl
set_option maxRecDepth 20000 in
theorem xo_c_X3_join_0 : xc_b xmi_X3_join xc_X3_join 0 32 = true := by decide +kernel
theorem xo_r_X3_join : ∀ (pc : Nat) (r : xr_R), xcl xc_X3_join pc = some r → xr_b xmi_X3_join.1 (xm_ini xmi_X3_join) xmi_X3_join.2.2.1 pc r = true ∧ xr_c xM xmi_X3_join.1 r = true := xc_up_e (mi := xmi_X3_join) (cd := xc_X3_join) (N := 32) (xc_up_s (mi := xmi_X3_join) (cd := xc_X3_join) (lo := 0) (n := 32) xc_up_0 xo_c_X3_join_0) (by decide +kernel)
set_option maxRecDepth 20000 in
theorem xo_m_X3_push : xm_b xmi_X3_push (1, 4) (3, 120) (0, 18) = true := by decide +kernel
theorem xo_w_X3_push : Cond.code xmi_X3_push.2.1 xmi_X3_push.2.2.1 xmi_X3_push.2.2.2.1 xmi_X3_push.2.2.2.2.1 ∈ xG := xw_in2 (K := 3) (i := 121) rfl rfl
set_option maxRecDepth 20000 in
theorem xo_c_X3_push_0 : xc_b xmi_X3_push xc_X3_push 0 32 = true := by decide +kernel
theorem xo_r_X3_push : ∀ (pc : Nat) (r : xr_R), xcl xc_X3_push pc = some r → xr_b xmi_X3_push.1 (xm_ini xmi_X3_push) xmi_X3_push.2.2.1 pc r = true ∧ xr_c xM xmi_X3_push.1 r = true := xc_up_e (mi := xmi_X3_push) (cd := xc_X3_push) (N := 32) (xc_up_s (mi := xmi_X3_push) (cd := xc_X3_push) (lo := 0) (n := 32) xc_up_0 xo_c_X3_push_0) (by decide +kernel)
set_option maxRecDepth 20000 in
theorem xo_m_X3_peek : xm_b xmi_X3_peek (1, 4) (3, 124) (0, 19) = true := by decide +kernel
theorem xo_w_X3_peek : Cond.code xmi_X3_peek.2.1 xmi_X3_peek.2.2.1 xmi_X3_peek.2.2.2.1 xmi_X3_peek.2.2.2.2.1 ∈ xG := xw_in2 (K := 3) (i := 125) rfl rfl
set_option maxRecDepth 20000 in
theorem xo_c_X3_peek_0 : xc_b xmi_X3_peek xc_X3_peek 0 32 = true := by decide +kernel
theorem xo_r_X3_peek : ∀ (pc : Nat) (r : xr_R), xcl xc_X3_peek pc = some r → xr_b xmi_X3_peek.1 (xm_ini xmi_X3_peek) xmi_X3_peek.2.2.1 pc r = true ∧ xr_c xM xmi_X3_peek.1 r = true := xc_up_e (mi := xmi_X3_peek) (cd := xc_X3_peek) (N := 32) (xc_up_s (mi := xmi_X3_peek) (cd := xc_X3_peek) (lo := 0) (n := 32) xc_up_0 xo_c_X3_peek_0) (by decide +kernel)
set_option maxRecDepth 20000 in
theorem xo_m_X3_replace : xm_b xmi_X3_replace (1, 4) (3, 128) (0, 20) = true := by decide +kernel
theorem xo_w_X3_replace : Cond.code xmi_X3_replace.2.1 xmi_X3_replace.2.2.1 xmi_X3_replace.2.2.2.1 xmi_X3_replace.2.2.2.2.1 ∈ xG := xw_in2 (K := 3) (i := 129) rfl rfl
set_option maxRecDepth 20000 in
theorem xo_c_X3_replace_0 : xc_b xmi_X3_replace xc_X3_replace 0 32 = true := by decide +kernel
theorem xo_r_X3_replace : ∀ (pc : Nat) (r : xr_R), xcl xc_X3_replace pc = some r → xr_b xmi_X3_replace.1 (xm_ini xmi_X3_replace) xmi_X3_replace.2.2.1 pc r = true ∧ xr_c xM xmi_X3_replace.1 r = true := xc_up_e (mi := xmi_X3_replace) (cd := xc_X3_replace) (N := 32) (xc_up_s (mi := xmi_X3_replace) (cd := xc_X3_replace) (lo := 0) (n := 32) xc_up_0 xo_c_X3_replace_0) (by decide +kernel)
set_option maxRecDepth 20000 in
theorem xo_m_X4_init : xm_b xmi_X4_init (1, 3) (1, 50) (99, 0) = true := by decide +kernel
theorem xo_w_X4_init : Cond.code xmi_X4_init.2.1 xmi_X4_init.2.2.1 xmi_X4_init.2.2.2.1 xmi_X4_init.2.2.2.2.1 ∈ xG := xw_in2 (K := 1) (i := 51) rfl rfl
set_option maxRecDepth 20000 in
theorem xo_c_X4_init_0 : xc_b xmi_X4_init xc_X4_init 0 48 = true := by decide +kernel
theorem xo_r_X4_init : ∀ (pc : Nat) (r : xr_R), xcl xc_X4_init pc = some r → xr_b xmi_X4_init.1 (xm_ini xmi_X4_init) xmi_X4_init.2.2.1 pc r = true ∧ xr_c xM xmi_X4_init.1 r = true := xc_up_e (mi := xmi_X4_init) (cd := xc_X4_init) (N := 48) (xc_up_s (mi := xmi_X4_init) (cd := xc_X4_init) (lo := 0) (n := 48) xc_up_0 xo_c_X4_init_0) (by decide +kernel)
set_option maxRecDepth 20000 in
theorem xo_m_X4_read : xm_b xmi_X4_read (1, 3) (2, 160) (2, 161) = true := by decide +kernel
theorem xo_w_X4_read : Cond.code xmi_X4_read.2.1 xmi_X4_read.2.2.1 xmi_X4_read.2.2.2.1 xmi_X4_read.2.2.2.2.1 ∈ xG := xw_in2 (K := 2) (i := 162) rfl rfl
set_option maxRecDepth 20000 in
theorem xo_c_X4_read_0 : xc_b xmi_X4_read xc_X4_read 0 112 = true := by decide +kernel
set_option maxRecDepth 20000 in
theorem xo_c_X4_read_112 : xc_b xmi_X4_read xc_X4_read 112 16 = true := by decide +kernel
theorem xo_r_X4_read : ∀ (pc : Nat) (r : xr_R), xcl xc_X4_read pc = some r → xr_b xmi_X4_read.1 (xm_ini xmi_X4_read) xmi_X4_read.2.2.1 pc r = true ∧ xr_c xM xmi_X4_read.1 r = true := xc_up_e (mi := xmi_X4_read) (cd := xc_X4_read) (N := 128) (xc_up_s (mi := xmi_X4_read) (cd := xc_X4_read) (lo := 112) (n := 16) (xc_up_s (mi := xmi_X4_read) (cd := xc_X4_read) (lo := 0) (n := 112) xc_up_0 xo_c_X4_read_0) xo_c_X4_read_112) (by decide +kernel)
set_option maxRecDepth 20000 in
theorem xo_m_X4_fail : xm_b xmi_X4_fail (1, 3) (3, 32) (0, 3) = true := by decide +kernel
theorem xo_w_X4_fail : Cond.code xmi_X4_fail.2.1 xmi_X4_fail.2.2.1 xmi_X4_fail.2.2.2.1 xmi_X4_fail.2.2.2.2.1 ∈ xG := xw_in2 (K := 3) (i := 33) rfl rfl
set_option maxRecDepth 20000 in
theorem xo_c_X4_fail_0 : xc_b xmi_X4_fail xc_X4_fail 0 16 = true := by decide +kernel
theorem xo_r_X4_fail : ∀ (pc : Nat) (r : xr_R), xcl xc_X4_fail pc = some r → xr_b xmi_X4_fail.1 (xm_ini xmi_X4_fail) xmi_X4_fail.2.2.1 pc r = true ∧ xr_c xM xmi_X4_fail.1 r = true := xc_up_e (mi := xmi_X4_fail) (cd := xc_X4_fail) (N := 16) (xc_up_s (mi := xmi_X4_fail) (cd := xc_X4_fail) (lo := 0) (n := 16) xc_up_0 xo_c_X4_fail_0) (by decide +kernel)
set_option maxRecDepth 20000 in
theorem xo_m_X4_takeWord : xm_b xmi_X4_takeWord (1, 3) (3, 69) (0, 11) = true := by decide +kernel
theorem xo_w_X4_takeWord : Cond.code xmi_X4_takeWord.2.1 xmi_X4_takeWord.2.2.1 xmi_X4_takeWord.2.2.2.1 xmi_X4_takeWord.2.2.2.2.1 ∈ xG := xw_in2 (K := 3) (i := 70) rfl rfl
set_option maxRecDepth 20000 in
theorem xo_c_X4_takeWord_0 : xc_b xmi_X4_takeWord xc_X4_takeWord 0 48 = true := by decide +kernel
theorem xo_r_X4_takeWord : ∀ (pc : Nat) (r : xr_R), xcl xc_X4_takeWord pc = some r → xr_b xmi_X4_takeWord.1 (xm_ini xmi_X4_takeWord) xmi_X4_takeWord.2.2.1 pc r = true ∧ xr_c xM xmi_X4_takeWord.1 r = true := xc_up_e (mi := xmi_X4_takeWord) (cd := xc_X4_takeWord) (N := 48) (xc_up_s (mi := xmi_X4_takeWord) (cd := xc_X4_takeWord) (lo := 0) (n := 48) xc_up_0 xo_c_X4_takeWord_0) (by decide +kernel)
set_option maxRecDepth 20000 in
theorem xo_m_X4_takeSign : xm_b xmi_X4_takeSign (1, 3) (3, 44) (0, 5) = true := by decide +kernel
theorem xo_w_X4_takeSign : Cond.code xmi_X4_takeSign.2.1 xmi_X4_takeSign.2.2.1 xmi_X4_takeSign.2.2.2.1 xmi_X4_takeSign.2.2.2.2.1 ∈ xG := xw_in2 (K := 3) (i := 45) rfl rfl
set_option maxRecDepth 20000 in
theorem xo_c_X4_takeSign_0 : xc_b xmi_X4_takeSign xc_X4_takeSign 0 48 = true := by decide +kernel
theorem xo_r_X4_takeSign : ∀ (pc : Nat) (r : xr_R), xcl xc_X4_takeSign pc = some r → xr_b xmi_X4_takeSign.1 (xm_ini xmi_X4_takeSign) xmi_X4_takeSign.2.2.1 pc r = true ∧ xr_c xM xmi_X4_takeSign.1 r = true := xc_up_e (mi := xmi_X4_takeSign) (cd := xc_X4_takeSign) (N := 48) (xc_up_s (mi := xmi_X4_takeSign) (cd := xc_X4_takeSign) (lo := 0) (n := 48) xc_up_0 xo_c_X4_takeSign_0) (by decide +kernel)
set_option maxRecDepth 20000 in
theorem xo_m_X4_takeEnd : xm_b xmi_X4_takeEnd (1, 3) (3, 104) (0, 16) = true := by decide +kernel
theorem xo_w_X4_takeEnd : Cond.code xmi_X4_takeEnd.2.1 xmi_X4_takeEnd.2.2.1 xmi_X4_takeEnd.2.2.2.1 xmi_X4_takeEnd.2.2.2.2.1 ∈ xG := xw_in2 (K := 3) (i := 105) rfl rfl
set_option maxRecDepth 20000 in
theorem xo_c_X4_takeEnd_0 : xc_b xmi_X4_takeEnd xc_X4_takeEnd 0 64 = true := by decide +kernel
theorem xo_r_X4_takeEnd : ∀ (pc : Nat) (r : xr_R), xcl xc_X4_takeEnd pc = some r → xr_b xmi_X4_takeEnd.1 (xm_ini xmi_X4_takeEnd) xmi_X4_takeEnd.2.2.1 pc r = true ∧ xr_c xM xmi_X4_takeEnd.1 r = true := xc_up_e (mi := xmi_X4_takeEnd) (cd := xc_X4_takeEnd) (N := 64) (xc_up_s (mi := xmi_X4_takeEnd) (cd := xc_X4_takeEnd) (lo := 0) (n := 64) xc_up_0 xo_c_X4_takeEnd_0) (by decide +kernel)
set_option maxRecDepth 20000 in
theorem xo_m_X4_takeOpening : xm_b xmi_X4_takeOpening (1, 3) (3, 73) (0, 12) = true := by decide +kernel
theorem xo_w_X4_takeOpening : Cond.code xmi_X4_takeOpening.2.1 xmi_X4_takeOpening.2.2.1 xmi_X4_takeOpening.2.2.2.1 xmi_X4_takeOpening.2.2.2.2.1 ∈ xG := xw_in2 (K := 3) (i := 74) rfl rfl
set_option maxRecDepth 20000 in
theorem xo_c_X4_takeOpening_0 : xc_b xmi_X4_takeOpening xc_X4_takeOpening 0 80 = true := by decide +kernel
theorem xo_r_X4_takeOpening : ∀ (pc : Nat) (r : xr_R), xcl xc_X4_takeOpening pc = some r → xr_b xmi_X4_takeOpening.1 (xm_ini xmi_X4_takeOpening) xmi_X4_takeOpening.2.2.1 pc r = true ∧ xr_c xM xmi_X4_takeOpening.1 r = true := xc_up_e (mi := xmi_X4_takeOpening) (cd := xc_X4_takeOpening) (N := 80) (xc_up_s (mi := xmi_X4_takeOpening) (cd := xc_X4_takeOpening) (lo := 0) (n := 80) xc_up_0 xo_c_X4_takeOpening_0) (by decide +kernel)
set_option maxRecDepth 20000 in
theorem xo_m_X4_readBody : xm_b xmi_X4_readBody (1, 3) (3, 13) (0, 1) = true := by decide +kernel
theorem xo_w_X4_readBody : Cond.code xmi_X4_readBody.2.1 xmi_X4_readBody.2.2.1 xmi_X4_readBody.2.2.2.1 xmi_X4_readBody.2.2.2.2.1 ∈ xG := xw_in2 (K := 3) (i := 14) rfl rfl
set_option maxRecDepth 20000 in
theorem xo_c_X4_readBody_0 : xc_b xmi_X4_readBody xc_X4_readBody 0 112 = true := by decide +kernel
theorem xo_r_X4_readBody : ∀ (pc : Nat) (r : xr_R), xcl xc_X4_readBody pc = some r → xr_b xmi_X4_readBody.1 (xm_ini xmi_X4_readBody) xmi_X4_readBody.2.2.1 pc r = true ∧ xr_c xM xmi_X4_readBody.1 r = true := xc_up_e (mi := xmi_X4_readBody) (cd := xc_X4_readBody) (N := 112) (xc_up_s (mi := xmi_X4_readBody) (cd := xc_X4_readBody) (lo := 0) (n := 112) xc_up_0 xo_c_X4_readBody_0) (by decide +kernel)
set_option maxRecDepth 20000 in
theorem xo_m_X4_takeNewName : xm_b xmi_X4_takeNewName (1, 3) (3, 18) (0, 2) = true := by decide +kernel
theorem xo_w_X4_takeNewName : Cond.code xmi_X4_takeNewName.2.1 xmi_X4_takeNewName.2.2.1 xmi_X4_takeNewName.2.2.2.1 xmi_X4_takeNewName.2.2.2.2.1 ∈ xG := xw_in2 (K := 3) (i := 19) rfl rfl
set_option maxRecDepth 20000 in
theorem xo_c_X4_takeNewName_0 : xc_b xmi_X4_takeNewName xc_X4_takeNewName 0 80 = true := by decide +kernel
theorem xo_r_X4_takeNewName : ∀ (pc : Nat) (r : xr_R), xcl xc_X4_takeNewName pc = some r → xr_b xmi_X4_takeNewName.1 (xm_ini xmi_X4_takeNewName) xmi_X4_takeNewName.2.2.1 pc r = true ∧ xr_c xM xmi_X4_takeNewName.1 r = true := xc_up_e (mi := xmi_X4_takeNewName) (cd := xc_X4_takeNewName) (N := 80) (xc_up_s (mi := xmi_X4_takeNewName) (cd := xc_X4_takeNewName) (lo := 0) (n := 80) xc_up_0 xo_c_X4_takeNewName_0) (by decide +kernel)
set_option maxRecDepth 20000 in
theorem xo_m_X4_toldName : xm_b xmi_X4_toldName (1, 3) (3, 36) (0, 4) = true := by decide +kernel
theorem xo_w_X4_toldName : Cond.code xmi_X4_toldName.2.1 xmi_X4_toldName.2.2.1 xmi_X4_toldName.2.2.2.1 xmi_X4_toldName.2.2.2.2.1 ∈ xG := xw_in2 (K := 3) (i := 37) rfl rfl
set_option maxRecDepth 20000 in
theorem xo_c_X4_toldName_0 : xc_b xmi_X4_toldName xc_X4_toldName 0 48 = true := by decide +kernel
theorem xo_r_X4_toldName : ∀ (pc : Nat) (r : xr_R), xcl xc_X4_toldName pc = some r → xr_b xmi_X4_toldName.1 (xm_ini xmi_X4_toldName) xmi_X4_toldName.2.2.1 pc r = true ∧ xr_c xM xmi_X4_toldName.1 r = true := xc_up_e (mi := xmi_X4_toldName) (cd := xc_X4_toldName) (N := 48) (xc_up_s (mi := xmi_X4_toldName) (cd := xc_X4_toldName) (lo := 0) (n := 48) xc_up_0 xo_c_X4_toldName_0) (by decide +kernel)
set_option maxRecDepth 20000 in
theorem xo_m_X4_readRule : xm_b xmi_X4_readRule (1, 3) (3, 48) (0, 6) = true := by decide +kernel
theorem xo_w_X4_readRule : Cond.code xmi_X4_readRule.2.1 xmi_X4_readRule.2.2.1 xmi_X4_readRule.2.2.2.1 xmi_X4_readRule.2.2.2.2.1 ∈ xG := xw_in2 (K := 3) (i := 49) rfl rfl
set_option maxRecDepth 20000 in
theorem xo_c_X4_readRule_0 : xc_b xmi_X4_readRule xc_X4_readRule 0 64 = true := by decide +kernel
theorem xo_r_X4_readRule : ∀ (pc : Nat) (r : xr_R), xcl xc_X4_readRule pc = some r → xr_b xmi_X4_readRule.1 (xm_ini xmi_X4_readRule) xmi_X4_readRule.2.2.1 pc r = true ∧ xr_c xM xmi_X4_readRule.1 r = true := xc_up_e (mi := xmi_X4_readRule) (cd := xc_X4_readRule) (N := 64) (xc_up_s (mi := xmi_X4_readRule) (cd := xc_X4_readRule) (lo := 0) (n := 64) xc_up_0 xo_c_X4_readRule_0) (by decide +kernel)
end XCK2
