section XCK9
set_option maxRecDepth 20000 in
theorem xo_m_X10_rows : xm_b xmi_X10_rows (1, 11) (7, 136) (7, 137) = true := by decide +kernel
theorem xo_w_X10_rows : Cond.code xmi_X10_rows.2.1 xmi_X10_rows.2.2.1 xmi_X10_rows.2.2.2.1 xmi_X10_rows.2.2.2.2.1 ∈ xG := xw_in2 (K := 7) (i := 138) rfl rfl
set_option maxRecDepth 20000 in
theorem xo_c_X10_rows_0 : xc_b xmi_X10_rows xc_X10_rows 0 112 = true := by decide +kernel
theorem xo_r_X10_rows : ∀ (pc : Nat) (r : xr_R), xcl xc_X10_rows pc = some r → xr_b xmi_X10_rows.1 (xm_ini xmi_X10_rows) xmi_X10_rows.2.2.1 pc r = true ∧ xr_c xM xmi_X10_rows.1 r = true := xc_up_e (mi := xmi_X10_rows) (cd := xc_X10_rows) (N := 112) (xc_up_s (mi := xmi_X10_rows) (cd := xc_X10_rows) (lo := 0) (n := 112) xc_up_0 xo_c_X10_rows_0) (by decide +kernel)
set_option maxRecDepth 20000 in
theorem xo_m_X10_goOn : xm_b xmi_X10_goOn (1, 11) (7, 141) (0, 112) = true := by decide +kernel
theorem xo_w_X10_goOn : Cond.code xmi_X10_goOn.2.1 xmi_X10_goOn.2.2.1 xmi_X10_goOn.2.2.2.1 xmi_X10_goOn.2.2.2.2.1 ∈ xG := xw_in2 (K := 7) (i := 142) rfl rfl
set_option maxRecDepth 20000 in
theorem xo_c_X10_goOn_0 : xc_b xmi_X10_goOn xc_X10_goOn 0 112 = true := by decide +kernel
set_option maxRecDepth 20000 in
theorem xo_c_X10_goOn_112 : xc_b xmi_X10_goOn xc_X10_goOn 112 32 = true := by decide +kernel
theorem xo_r_X10_goOn : ∀ (pc : Nat) (r : xr_R), xcl xc_X10_goOn pc = some r → xr_b xmi_X10_goOn.1 (xm_ini xmi_X10_goOn) xmi_X10_goOn.2.2.1 pc r = true ∧ xr_c xM xmi_X10_goOn.1 r = true := xc_up_e (mi := xmi_X10_goOn) (cd := xc_X10_goOn) (N := 144) (xc_up_s (mi := xmi_X10_goOn) (cd := xc_X10_goOn) (lo := 112) (n := 32) (xc_up_s (mi := xmi_X10_goOn) (cd := xc_X10_goOn) (lo := 0) (n := 112) xc_up_0 xo_c_X10_goOn_0) xo_c_X10_goOn_112) (by decide +kernel)
set_option maxRecDepth 20000 in
theorem xo_m_X10_rowAt : xm_b xmi_X10_rowAt (1, 11) (7, 144) (7, 145) = true := by decide +kernel
theorem xo_w_X10_rowAt : Cond.code xmi_X10_rowAt.2.1 xmi_X10_rowAt.2.2.1 xmi_X10_rowAt.2.2.2.1 xmi_X10_rowAt.2.2.2.2.1 ∈ xG := xw_in2 (K := 7) (i := 146) rfl rfl
set_option maxRecDepth 20000 in
theorem xo_c_X10_rowAt_0 : xc_b xmi_X10_rowAt xc_X10_rowAt 0 32 = true := by decide +kernel
theorem xo_r_X10_rowAt : ∀ (pc : Nat) (r : xr_R), xcl xc_X10_rowAt pc = some r → xr_b xmi_X10_rowAt.1 (xm_ini xmi_X10_rowAt) xmi_X10_rowAt.2.2.1 pc r = true ∧ xr_c xM xmi_X10_rowAt.1 r = true := xc_up_e (mi := xmi_X10_rowAt) (cd := xc_X10_rowAt) (N := 32) (xc_up_s (mi := xmi_X10_rowAt) (cd := xc_X10_rowAt) (lo := 0) (n := 32) xc_up_0 xo_c_X10_rowAt_0) (by decide +kernel)
set_option maxRecDepth 20000 in
theorem xo_m_X10_vote : xm_b xmi_X10_vote (1, 11) (7, 148) (7, 149) = true := by decide +kernel
theorem xo_w_X10_vote : Cond.code xmi_X10_vote.2.1 xmi_X10_vote.2.2.1 xmi_X10_vote.2.2.2.1 xmi_X10_vote.2.2.2.2.1 ∈ xG := xw_in2 (K := 7) (i := 150) rfl rfl
set_option maxRecDepth 20000 in
theorem xo_c_X10_vote_0 : xc_b xmi_X10_vote xc_X10_vote 0 80 = true := by decide +kernel
theorem xo_r_X10_vote : ∀ (pc : Nat) (r : xr_R), xcl xc_X10_vote pc = some r → xr_b xmi_X10_vote.1 (xm_ini xmi_X10_vote) xmi_X10_vote.2.2.1 pc r = true ∧ xr_c xM xmi_X10_vote.1 r = true := xc_up_e (mi := xmi_X10_vote) (cd := xc_X10_vote) (N := 80) (xc_up_s (mi := xmi_X10_vote) (cd := xc_X10_vote) (lo := 0) (n := 80) xc_up_0 xo_c_X10_vote_0) (by decide +kernel)
set_option maxRecDepth 20000 in
theorem xo_m_X10_unfit : xm_b xmi_X10_unfit (1, 11) (7, 152) (7, 153) = true := by decide +kernel
theorem xo_w_X10_unfit : Cond.code xmi_X10_unfit.2.1 xmi_X10_unfit.2.2.1 xmi_X10_unfit.2.2.2.1 xmi_X10_unfit.2.2.2.2.1 ∈ xG := xw_in2 (K := 7) (i := 154) rfl rfl
set_option maxRecDepth 20000 in
theorem xo_c_X10_unfit_0 : xc_b xmi_X10_unfit xc_X10_unfit 0 80 = true := by decide +kernel
theorem xo_r_X10_unfit : ∀ (pc : Nat) (r : xr_R), xcl xc_X10_unfit pc = some r → xr_b xmi_X10_unfit.1 (xm_ini xmi_X10_unfit) xmi_X10_unfit.2.2.1 pc r = true ∧ xr_c xM xmi_X10_unfit.1 r = true := xc_up_e (mi := xmi_X10_unfit) (cd := xc_X10_unfit) (N := 80) (xc_up_s (mi := xmi_X10_unfit) (cd := xc_X10_unfit) (lo := 0) (n := 80) xc_up_0 xo_c_X10_unfit_0) (by decide +kernel)
set_option maxRecDepth 20000 in
theorem xo_m_X10_sureOf : xm_b xmi_X10_sureOf (1, 11) (7, 161) (0, 113) = true := by decide +kernel
theorem xo_w_X10_sureOf : Cond.code xmi_X10_sureOf.2.1 xmi_X10_sureOf.2.2.1 xmi_X10_sureOf.2.2.2.1 xmi_X10_sureOf.2.2.2.2.1 ∈ xG := xw_in2 (K := 7) (i := 162) rfl rfl
set_option maxRecDepth 20000 in
theorem xo_c_X10_sureOf_0 : xc_b xmi_X10_sureOf xc_X10_sureOf 0 112 = true := by decide +kernel
set_option maxRecDepth 20000 in
theorem xo_c_X10_sureOf_112 : xc_b xmi_X10_sureOf xc_X10_sureOf 112 16 = true := by decide +kernel
theorem xo_r_X10_sureOf : ∀ (pc : Nat) (r : xr_R), xcl xc_X10_sureOf pc = some r → xr_b xmi_X10_sureOf.1 (xm_ini xmi_X10_sureOf) xmi_X10_sureOf.2.2.1 pc r = true ∧ xr_c xM xmi_X10_sureOf.1 r = true := xc_up_e (mi := xmi_X10_sureOf) (cd := xc_X10_sureOf) (N := 128) (xc_up_s (mi := xmi_X10_sureOf) (cd := xc_X10_sureOf) (lo := 112) (n := 16) (xc_up_s (mi := xmi_X10_sureOf) (cd := xc_X10_sureOf) (lo := 0) (n := 112) xc_up_0 xo_c_X10_sureOf_0) xo_c_X10_sureOf_112) (by decide +kernel)
set_option maxRecDepth 20000 in
theorem xo_m_X10_sure : xm_b xmi_X10_sure (1, 11) (7, 156) (7, 157) = true := by decide +kernel
theorem xo_w_X10_sure : Cond.code xmi_X10_sure.2.1 xmi_X10_sure.2.2.1 xmi_X10_sure.2.2.2.1 xmi_X10_sure.2.2.2.2.1 ∈ xG := xw_in2 (K := 7) (i := 158) rfl rfl
set_option maxRecDepth 20000 in
theorem xo_c_X10_sure_0 : xc_b xmi_X10_sure xc_X10_sure 0 32 = true := by decide +kernel
theorem xo_r_X10_sure : ∀ (pc : Nat) (r : xr_R), xcl xc_X10_sure pc = some r → xr_b xmi_X10_sure.1 (xm_ini xmi_X10_sure) xmi_X10_sure.2.2.1 pc r = true ∧ xr_c xM xmi_X10_sure.1 r = true := xc_up_e (mi := xmi_X10_sure) (cd := xc_X10_sure) (N := 32) (xc_up_s (mi := xmi_X10_sure) (cd := xc_X10_sure) (lo := 0) (n := 32) xc_up_0 xo_c_X10_sure_0) (by decide +kernel)
set_option maxRecDepth 20000 in
theorem xo_m_X10_open : xm_b xmi_X10_open (1, 11) (7, 164) (7, 165) = true := by decide +kernel
theorem xo_w_X10_open : Cond.code xmi_X10_open.2.1 xmi_X10_open.2.2.1 xmi_X10_open.2.2.2.1 xmi_X10_open.2.2.2.2.1 ∈ xG := xw_in2 (K := 7) (i := 166) rfl rfl
set_option maxRecDepth 20000 in
theorem xo_c_X10_open_0 : xc_b xmi_X10_open xc_X10_open 0 48 = true := by decide +kernel
theorem xo_r_X10_open : ∀ (pc : Nat) (r : xr_R), xcl xc_X10_open pc = some r → xr_b xmi_X10_open.1 (xm_ini xmi_X10_open) xmi_X10_open.2.2.1 pc r = true ∧ xr_c xM xmi_X10_open.1 r = true := xc_up_e (mi := xmi_X10_open) (cd := xc_X10_open) (N := 48) (xc_up_s (mi := xmi_X10_open) (cd := xc_X10_open) (lo := 0) (n := 48) xc_up_0 xo_c_X10_open_0) (by decide +kernel)
set_option maxRecDepth 20000 in
theorem xo_m_X10_count : xm_b xmi_X10_count (1, 11) (7, 168) (7, 169) = true := by decide +kernel
theorem xo_w_X10_count : Cond.code xmi_X10_count.2.1 xmi_X10_count.2.2.1 xmi_X10_count.2.2.2.1 xmi_X10_count.2.2.2.2.1 ∈ xG := xw_in2 (K := 7) (i := 170) rfl rfl
set_option maxRecDepth 20000 in
theorem xo_c_X10_count_0 : xc_b xmi_X10_count xc_X10_count 0 80 = true := by decide +kernel
theorem xo_r_X10_count : ∀ (pc : Nat) (r : xr_R), xcl xc_X10_count pc = some r → xr_b xmi_X10_count.1 (xm_ini xmi_X10_count) xmi_X10_count.2.2.1 pc r = true ∧ xr_c xM xmi_X10_count.1 r = true := xc_up_e (mi := xmi_X10_count) (cd := xc_X10_count) (N := 80) (xc_up_s (mi := xmi_X10_count) (cd := xc_X10_count) (lo := 0) (n := 80) xc_up_0 xo_c_X10_count_0) (by decide +kernel)
set_option maxRecDepth 20000 in
theorem xo_m_J6_bitCount_0f7a4 : xm_b xmi_J6_bitCount_0f7a4 (1, 17) (3, 184) (99, 0) = true := by decide +kernel
theorem xo_w_J6_bitCount_0f7a4 : Cond.code xmi_J6_bitCount_0f7a4.2.1 xmi_J6_bitCount_0f7a4.2.2.1 xmi_J6_bitCount_0f7a4.2.2.2.1 xmi_J6_bitCount_0f7a4.2.2.2.2.1 ∈ xG := xw_in2 (K := 3) (i := 185) rfl rfl
set_option maxRecDepth 20000 in
theorem xo_c_J6_bitCount_0f7a4_0 : xc_b xmi_J6_bitCount_0f7a4 xc_J6_bitCount_0f7a4 0 64 = true := by decide +kernel
theorem xo_r_J6_bitCount_0f7a4 : ∀ (pc : Nat) (r : xr_R), xcl xc_J6_bitCount_0f7a4 pc = some r → xr_b xmi_J6_bitCount_0f7a4.1 (xm_ini xmi_J6_bitCount_0f7a4) xmi_J6_bitCount_0f7a4.2.2.1 pc r = true ∧ xr_c xM xmi_J6_bitCount_0f7a4.1 r = true := xc_up_e (mi := xmi_J6_bitCount_0f7a4) (cd := xc_J6_bitCount_0f7a4) (N := 64) (xc_up_s (mi := xmi_J6_bitCount_0f7a4) (cd := xc_J6_bitCount_0f7a4) (lo := 0) (n := 64) xc_up_0 xo_c_J6_bitCount_0f7a4_0) (by decide +kernel)
set_option maxRecDepth 20000 in
theorem xo_c_L_law_0 : xc_b xmi_L_law xc_L_law 0 48 = true := by decide +kernel
set_option maxRecDepth 20000 in
theorem xo_c_L_law_48 : xc_b xmi_L_law xc_L_law 48 48 = true := by decide +kernel
set_option maxRecDepth 20000 in
theorem xo_c_L_law_96 : xc_b xmi_L_law xc_L_law 96 48 = true := by decide +kernel
set_option maxRecDepth 20000 in
theorem xo_c_L_law_144 : xc_b xmi_L_law xc_L_law 144 48 = true := by decide +kernel
set_option maxRecDepth 20000 in
theorem xo_c_L_law_192 : xc_b xmi_L_law xc_L_law 192 48 = true := by decide +kernel
set_option maxRecDepth 20000 in
theorem xo_c_L_law_240 : xc_b xmi_L_law xc_L_law 240 48 = true := by decide +kernel
set_option maxRecDepth 20000 in
theorem xo_c_L_law_288 : xc_b xmi_L_law xc_L_law 288 48 = true := by decide +kernel
set_option maxRecDepth 20000 in
theorem xo_c_L_law_336 : xc_b xmi_L_law xc_L_law 336 48 = true := by decide +kernel
set_option maxRecDepth 20000 in
theorem xo_c_L_law_384 : xc_b xmi_L_law xc_L_law 384 48 = true := by decide +kernel
set_option maxRecDepth 20000 in
theorem xo_c_L_law_432 : xc_b xmi_L_law xc_L_law 432 48 = true := by decide +kernel
set_option maxRecDepth 20000 in
theorem xo_c_L_law_480 : xc_b xmi_L_law xc_L_law 480 48 = true := by decide +kernel
set_option maxRecDepth 20000 in
theorem xo_c_L_law_528 : xc_b xmi_L_law xc_L_law 528 48 = true := by decide +kernel
set_option maxRecDepth 20000 in
theorem xo_c_L_law_576 : xc_b xmi_L_law xc_L_law 576 48 = true := by decide +kernel
set_option maxRecDepth 20000 in
theorem xo_c_L_law_624 : xc_b xmi_L_law xc_L_law 624 48 = true := by decide +kernel
set_option maxRecDepth 20000 in
theorem xo_c_L_law_672 : xc_b xmi_L_law xc_L_law 672 48 = true := by decide +kernel
set_option maxRecDepth 20000 in
theorem xo_c_L_law_720 : xc_b xmi_L_law xc_L_law 720 48 = true := by decide +kernel
set_option maxRecDepth 20000 in
theorem xo_c_L_law_768 : xc_b xmi_L_law xc_L_law 768 48 = true := by decide +kernel
set_option maxRecDepth 20000 in
theorem xo_c_L_law_816 : xc_b xmi_L_law xc_L_law 816 48 = true := by decide +kernel
set_option maxRecDepth 20000 in
theorem xo_c_L_law_864 : xc_b xmi_L_law xc_L_law 864 48 = true := by decide +kernel
set_option maxRecDepth 20000 in
theorem xo_c_L_law_912 : xc_b xmi_L_law xc_L_law 912 48 = true := by decide +kernel
set_option maxRecDepth 20000 in
theorem xo_c_L_law_960 : xc_b xmi_L_law xc_L_law 960 48 = true := by decide +kernel
theorem xo_r_L_law : ∀ (pc : Nat) (r : xr_R), xcl xc_L_law pc = some r → xr_b xmi_L_law.1 (xm_ini xmi_L_law) xmi_L_law.2.2.1 pc r = true ∧ xr_c xM xmi_L_law.1 r = true := xc_up_e (mi := xmi_L_law) (cd := xc_L_law) (N := 1008) (xc_up_s (mi := xmi_L_law) (cd := xc_L_law) (lo := 960) (n := 48) (xc_up_s (mi := xmi_L_law) (cd := xc_L_law) (lo := 912) (n := 48) (xc_up_s (mi := xmi_L_law) (cd := xc_L_law) (lo := 864) (n := 48) (xc_up_s (mi := xmi_L_law) (cd := xc_L_law) (lo := 816) (n := 48) (xc_up_s (mi := xmi_L_law) (cd := xc_L_law) (lo := 768) (n := 48) (xc_up_s (mi := xmi_L_law) (cd := xc_L_law) (lo := 720) (n := 48) (xc_up_s (mi := xmi_L_law) (cd := xc_L_law) (lo := 672) (n := 48) (xc_up_s (mi := xmi_L_law) (cd := xc_L_law) (lo := 624) (n := 48) (xc_up_s (mi := xmi_L_law) (cd := xc_L_law) (lo := 576) (n := 48) (xc_up_s (mi := xmi_L_law) (cd := xc_L_law) (lo := 528) (n := 48) (xc_up_s (mi := xmi_L_law) (cd := xc_L_law) (lo := 480) (n := 48) (xc_up_s (mi := xmi_L_law) (cd := xc_L_law) (lo := 432) (n := 48) (xc_up_s (mi := xmi_L_law) (cd := xc_L_law) (lo := 384) (n := 48) (xc_up_s (mi := xmi_L_law) (cd := xc_L_law) (lo := 336) (n := 48) (xc_up_s (mi := xmi_L_law) (cd := xc_L_law) (lo := 288) (n := 48) (xc_up_s (mi := xmi_L_law) (cd := xc_L_law) (lo := 240) (n := 48) (xc_up_s (mi := xmi_L_law) (cd := xc_L_law) (lo := 192) (n := 48) (xc_up_s (mi := xmi_L_law) (cd := xc_L_law) (lo := 144) (n := 48) (xc_up_s (mi := xmi_L_law) (cd := xc_L_law) (lo := 96) (n := 48) (xc_up_s (mi := xmi_L_law) (cd := xc_L_law) (lo := 48) (n := 48) (xc_up_s (mi := xmi_L_law) (cd := xc_L_law) (lo := 0) (n := 48) xc_up_0 xo_c_L_law_0) xo_c_L_law_48) xo_c_L_law_96) xo_c_L_law_144) xo_c_L_law_192) xo_c_L_law_240) xo_c_L_law_288) xo_c_L_law_336) xo_c_L_law_384) xo_c_L_law_432) xo_c_L_law_480) xo_c_L_law_528) xo_c_L_law_576) xo_c_L_law_624) xo_c_L_law_672) xo_c_L_law_720) xo_c_L_law_768) xo_c_L_law_816) xo_c_L_law_864) xo_c_L_law_912) xo_c_L_law_960) (by decide +kernel)
end XCK9
