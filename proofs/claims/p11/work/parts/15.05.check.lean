section XCK5
set_option maxRecDepth 20000 in
theorem xo_m_X9_rows : xm_b xmi_X9_rows (1, 1) (4, 175) (4, 176) = true := by decide +kernel
theorem xo_w_X9_rows : Cond.code xmi_X9_rows.2.1 xmi_X9_rows.2.2.1 xmi_X9_rows.2.2.2.1 xmi_X9_rows.2.2.2.2.1 ∈ xG := xw_in2 (K := 4) (i := 177) rfl rfl
set_option maxRecDepth 20000 in
theorem xo_c_X9_rows_0 : xc_b xmi_X9_rows xc_X9_rows 0 48 = true := by decide +kernel
theorem xo_r_X9_rows : ∀ (pc : Nat) (r : xr_R), xcl xc_X9_rows pc = some r → xr_b xmi_X9_rows.1 (xm_ini xmi_X9_rows) xmi_X9_rows.2.2.1 pc r = true ∧ xr_c xM xmi_X9_rows.1 r = true := xc_up_e (mi := xmi_X9_rows) (cd := xc_X9_rows) (N := 48) (xc_up_s (mi := xmi_X9_rows) (cd := xc_X9_rows) (lo := 0) (n := 48) xc_up_0 xo_c_X9_rows_0) (by decide +kernel)
set_option maxRecDepth 20000 in
theorem xo_m_X9_rowAt : xm_b xmi_X9_rowAt (1, 1) (4, 195) (4, 196) = true := by decide +kernel
theorem xo_w_X9_rowAt : Cond.code xmi_X9_rowAt.2.1 xmi_X9_rowAt.2.2.1 xmi_X9_rowAt.2.2.2.1 xmi_X9_rowAt.2.2.2.2.1 ∈ xG := xw_in2 (K := 4) (i := 197) rfl rfl
set_option maxRecDepth 20000 in
theorem xo_c_X9_rowAt_0 : xc_b xmi_X9_rowAt xc_X9_rowAt 0 32 = true := by decide +kernel
theorem xo_r_X9_rowAt : ∀ (pc : Nat) (r : xr_R), xcl xc_X9_rowAt pc = some r → xr_b xmi_X9_rowAt.1 (xm_ini xmi_X9_rowAt) xmi_X9_rowAt.2.2.1 pc r = true ∧ xr_c xM xmi_X9_rowAt.1 r = true := xc_up_e (mi := xmi_X9_rowAt) (cd := xc_X9_rowAt) (N := 32) (xc_up_s (mi := xmi_X9_rowAt) (cd := xc_X9_rowAt) (lo := 0) (n := 32) xc_up_0 xo_c_X9_rowAt_0) (by decide +kernel)
set_option maxRecDepth 20000 in
theorem xo_m_X9_vote : xm_b xmi_X9_vote (1, 1) (4, 199) (4, 200) = true := by decide +kernel
theorem xo_w_X9_vote : Cond.code xmi_X9_vote.2.1 xmi_X9_vote.2.2.1 xmi_X9_vote.2.2.2.1 xmi_X9_vote.2.2.2.2.1 ∈ xG := xw_in2 (K := 4) (i := 201) rfl rfl
set_option maxRecDepth 20000 in
theorem xo_c_X9_vote_0 : xc_b xmi_X9_vote xc_X9_vote 0 32 = true := by decide +kernel
theorem xo_r_X9_vote : ∀ (pc : Nat) (r : xr_R), xcl xc_X9_vote pc = some r → xr_b xmi_X9_vote.1 (xm_ini xmi_X9_vote) xmi_X9_vote.2.2.1 pc r = true ∧ xr_c xM xmi_X9_vote.1 r = true := xc_up_e (mi := xmi_X9_vote) (cd := xc_X9_vote) (N := 32) (xc_up_s (mi := xmi_X9_vote) (cd := xc_X9_vote) (lo := 0) (n := 32) xc_up_0 xo_c_X9_vote_0) (by decide +kernel)
set_option maxRecDepth 20000 in
theorem xo_m_X9_unfit : xm_b xmi_X9_unfit (1, 1) (4, 207) (4, 208) = true := by decide +kernel
theorem xo_w_X9_unfit : Cond.code xmi_X9_unfit.2.1 xmi_X9_unfit.2.2.1 xmi_X9_unfit.2.2.2.1 xmi_X9_unfit.2.2.2.2.1 ∈ xG := xw_in2 (K := 4) (i := 209) rfl rfl
set_option maxRecDepth 20000 in
theorem xo_c_X9_unfit_0 : xc_b xmi_X9_unfit xc_X9_unfit 0 80 = true := by decide +kernel
theorem xo_r_X9_unfit : ∀ (pc : Nat) (r : xr_R), xcl xc_X9_unfit pc = some r → xr_b xmi_X9_unfit.1 (xm_ini xmi_X9_unfit) xmi_X9_unfit.2.2.1 pc r = true ∧ xr_c xM xmi_X9_unfit.1 r = true := xc_up_e (mi := xmi_X9_unfit) (cd := xc_X9_unfit) (N := 80) (xc_up_s (mi := xmi_X9_unfit) (cd := xc_X9_unfit) (lo := 0) (n := 80) xc_up_0 xo_c_X9_unfit_0) (by decide +kernel)
set_option maxRecDepth 20000 in
theorem xo_m_X9_sure : xm_b xmi_X9_sure (1, 1) (4, 211) (4, 212) = true := by decide +kernel
theorem xo_w_X9_sure : Cond.code xmi_X9_sure.2.1 xmi_X9_sure.2.2.1 xmi_X9_sure.2.2.2.1 xmi_X9_sure.2.2.2.2.1 ∈ xG := xw_in2 (K := 4) (i := 213) rfl rfl
set_option maxRecDepth 20000 in
theorem xo_c_X9_sure_0 : xc_b xmi_X9_sure xc_X9_sure 0 32 = true := by decide +kernel
theorem xo_r_X9_sure : ∀ (pc : Nat) (r : xr_R), xcl xc_X9_sure pc = some r → xr_b xmi_X9_sure.1 (xm_ini xmi_X9_sure) xmi_X9_sure.2.2.1 pc r = true ∧ xr_c xM xmi_X9_sure.1 r = true := xc_up_e (mi := xmi_X9_sure) (cd := xc_X9_sure) (N := 32) (xc_up_s (mi := xmi_X9_sure) (cd := xc_X9_sure) (lo := 0) (n := 32) xc_up_0 xo_c_X9_sure_0) (by decide +kernel)
set_option maxRecDepth 20000 in
theorem xo_m_X9_open : xm_b xmi_X9_open (1, 1) (4, 219) (4, 220) = true := by decide +kernel
theorem xo_w_X9_open : Cond.code xmi_X9_open.2.1 xmi_X9_open.2.2.1 xmi_X9_open.2.2.2.1 xmi_X9_open.2.2.2.2.1 ∈ xG := xw_in2 (K := 4) (i := 221) rfl rfl
set_option maxRecDepth 20000 in
theorem xo_c_X9_open_0 : xc_b xmi_X9_open xc_X9_open 0 48 = true := by decide +kernel
theorem xo_r_X9_open : ∀ (pc : Nat) (r : xr_R), xcl xc_X9_open pc = some r → xr_b xmi_X9_open.1 (xm_ini xmi_X9_open) xmi_X9_open.2.2.1 pc r = true ∧ xr_c xM xmi_X9_open.1 r = true := xc_up_e (mi := xmi_X9_open) (cd := xc_X9_open) (N := 48) (xc_up_s (mi := xmi_X9_open) (cd := xc_X9_open) (lo := 0) (n := 48) xc_up_0 xo_c_X9_open_0) (by decide +kernel)
set_option maxRecDepth 20000 in
theorem xo_m_X9_count : xm_b xmi_X9_count (1, 1) (4, 223) (4, 224) = true := by decide +kernel
theorem xo_w_X9_count : Cond.code xmi_X9_count.2.1 xmi_X9_count.2.2.1 xmi_X9_count.2.2.2.1 xmi_X9_count.2.2.2.2.1 ∈ xG := xw_in2 (K := 4) (i := 225) rfl rfl
set_option maxRecDepth 20000 in
theorem xo_c_X9_count_0 : xc_b xmi_X9_count xc_X9_count 0 80 = true := by decide +kernel
theorem xo_r_X9_count : ∀ (pc : Nat) (r : xr_R), xcl xc_X9_count pc = some r → xr_b xmi_X9_count.1 (xm_ini xmi_X9_count) xmi_X9_count.2.2.1 pc r = true ∧ xr_c xM xmi_X9_count.1 r = true := xc_up_e (mi := xmi_X9_count) (cd := xc_X9_count) (N := 80) (xc_up_s (mi := xmi_X9_count) (cd := xc_X9_count) (lo := 0) (n := 80) xc_up_0 xo_c_X9_count_0) (by decide +kernel)
set_option maxRecDepth 20000 in
theorem xo_m_X9_isMember : xm_b xmi_X9_isMember (1, 1) (4, 1) (0, 32) = true := by decide +kernel
theorem xo_w_X9_isMember : Cond.code xmi_X9_isMember.2.1 xmi_X9_isMember.2.2.1 xmi_X9_isMember.2.2.2.1 xmi_X9_isMember.2.2.2.2.1 ∈ xG := xw_in2 (K := 4) (i := 2) rfl rfl
set_option maxRecDepth 20000 in
theorem xo_c_X9_isMember_0 : xc_b xmi_X9_isMember xc_X9_isMember 0 32 = true := by decide +kernel
theorem xo_r_X9_isMember : ∀ (pc : Nat) (r : xr_R), xcl xc_X9_isMember pc = some r → xr_b xmi_X9_isMember.1 (xm_ini xmi_X9_isMember) xmi_X9_isMember.2.2.1 pc r = true ∧ xr_c xM xmi_X9_isMember.1 r = true := xc_up_e (mi := xmi_X9_isMember) (cd := xc_X9_isMember) (N := 32) (xc_up_s (mi := xmi_X9_isMember) (cd := xc_X9_isMember) (lo := 0) (n := 32) xc_up_0 xo_c_X9_isMember_0) (by decide +kernel)
set_option maxRecDepth 20000 in
theorem xo_m_X9_isSet : xm_b xmi_X9_isSet (1, 1) (3, 144) (0, 21) = true := by decide +kernel
theorem xo_w_X9_isSet : Cond.code xmi_X9_isSet.2.1 xmi_X9_isSet.2.2.1 xmi_X9_isSet.2.2.2.1 xmi_X9_isSet.2.2.2.2.1 ∈ xG := xw_in2 (K := 3) (i := 145) rfl rfl
set_option maxRecDepth 20000 in
theorem xo_c_X9_isSet_0 : xc_b xmi_X9_isSet xc_X9_isSet 0 32 = true := by decide +kernel
theorem xo_r_X9_isSet : ∀ (pc : Nat) (r : xr_R), xcl xc_X9_isSet pc = some r → xr_b xmi_X9_isSet.1 (xm_ini xmi_X9_isSet) xmi_X9_isSet.2.2.1 pc r = true ∧ xr_c xM xmi_X9_isSet.1 r = true := xc_up_e (mi := xmi_X9_isSet) (cd := xc_X9_isSet) (N := 32) (xc_up_s (mi := xmi_X9_isSet) (cd := xc_X9_isSet) (lo := 0) (n := 32) xc_up_0 xo_c_X9_isSet_0) (by decide +kernel)
set_option maxRecDepth 20000 in
theorem xo_m_X9_inForce : xm_b xmi_X9_inForce (1, 1) (3, 148) (0, 22) = true := by decide +kernel
theorem xo_w_X9_inForce : Cond.code xmi_X9_inForce.2.1 xmi_X9_inForce.2.2.1 xmi_X9_inForce.2.2.2.1 xmi_X9_inForce.2.2.2.2.1 ∈ xG := xw_in2 (K := 3) (i := 149) rfl rfl
set_option maxRecDepth 20000 in
theorem xo_c_X9_inForce_0 : xc_b xmi_X9_inForce xc_X9_inForce 0 64 = true := by decide +kernel
theorem xo_r_X9_inForce : ∀ (pc : Nat) (r : xr_R), xcl xc_X9_inForce pc = some r → xr_b xmi_X9_inForce.1 (xm_ini xmi_X9_inForce) xmi_X9_inForce.2.2.1 pc r = true ∧ xr_c xM xmi_X9_inForce.1 r = true := xc_up_e (mi := xmi_X9_inForce) (cd := xc_X9_inForce) (N := 64) (xc_up_s (mi := xmi_X9_inForce) (cd := xc_X9_inForce) (lo := 0) (n := 64) xc_up_0 xo_c_X9_inForce_0) (by decide +kernel)
set_option maxRecDepth 20000 in
theorem xo_m_X9_powersToday : xm_b xmi_X9_powersToday (1, 1) (3, 160) (0, 23) = true := by decide +kernel
theorem xo_w_X9_powersToday : Cond.code xmi_X9_powersToday.2.1 xmi_X9_powersToday.2.2.1 xmi_X9_powersToday.2.2.2.1 xmi_X9_powersToday.2.2.2.2.1 ∈ xG := xw_in2 (K := 3) (i := 161) rfl rfl
set_option maxRecDepth 20000 in
theorem xo_c_X9_powersToday_0 : xc_b xmi_X9_powersToday xc_X9_powersToday 0 32 = true := by decide +kernel
theorem xo_r_X9_powersToday : ∀ (pc : Nat) (r : xr_R), xcl xc_X9_powersToday pc = some r → xr_b xmi_X9_powersToday.1 (xm_ini xmi_X9_powersToday) xmi_X9_powersToday.2.2.1 pc r = true ∧ xr_c xM xmi_X9_powersToday.1 r = true := xc_up_e (mi := xmi_X9_powersToday) (cd := xc_X9_powersToday) (N := 32) (xc_up_s (mi := xmi_X9_powersToday) (cd := xc_X9_powersToday) (lo := 0) (n := 32) xc_up_0 xo_c_X9_powersToday_0) (by decide +kernel)
set_option maxRecDepth 20000 in
theorem xo_m_X9_commonDivisor : xm_b xmi_X9_commonDivisor (1, 1) (5, 75) (99, 0) = true := by decide +kernel
theorem xo_w_X9_commonDivisor : Cond.code xmi_X9_commonDivisor.2.1 xmi_X9_commonDivisor.2.2.1 xmi_X9_commonDivisor.2.2.2.1 xmi_X9_commonDivisor.2.2.2.2.1 ∈ xG := xw_in2 (K := 5) (i := 76) rfl rfl
set_option maxRecDepth 20000 in
theorem xo_c_X9_commonDivisor_0 : xc_b xmi_X9_commonDivisor xc_X9_commonDivisor 0 48 = true := by decide +kernel
theorem xo_r_X9_commonDivisor : ∀ (pc : Nat) (r : xr_R), xcl xc_X9_commonDivisor pc = some r → xr_b xmi_X9_commonDivisor.1 (xm_ini xmi_X9_commonDivisor) xmi_X9_commonDivisor.2.2.1 pc r = true ∧ xr_c xM xmi_X9_commonDivisor.1 r = true := xc_up_e (mi := xmi_X9_commonDivisor) (cd := xc_X9_commonDivisor) (N := 48) (xc_up_s (mi := xmi_X9_commonDivisor) (cd := xc_X9_commonDivisor) (lo := 0) (n := 48) xc_up_0 xo_c_X9_commonDivisor_0) (by decide +kernel)
set_option maxRecDepth 20000 in
theorem xo_m_X10_init : xm_b xmi_X10_init (1, 11) (5, 80) (99, 0) = true := by decide +kernel
theorem xo_w_X10_init : Cond.code xmi_X10_init.2.1 xmi_X10_init.2.2.1 xmi_X10_init.2.2.2.1 xmi_X10_init.2.2.2.2.1 ∈ xG := xw_in2 (K := 5) (i := 81) rfl rfl
set_option maxRecDepth 20000 in
theorem xo_c_X10_init_0 : xc_b xmi_X10_init xc_X10_init 0 48 = true := by decide +kernel
set_option maxRecDepth 20000 in
theorem xo_c_X10_init_48 : xc_b xmi_X10_init xc_X10_init 48 48 = true := by decide +kernel
set_option maxRecDepth 20000 in
theorem xo_c_X10_init_96 : xc_b xmi_X10_init xc_X10_init 96 48 = true := by decide +kernel
set_option maxRecDepth 20000 in
theorem xo_c_X10_init_144 : xc_b xmi_X10_init xc_X10_init 144 48 = true := by decide +kernel
set_option maxRecDepth 20000 in
theorem xo_c_X10_init_192 : xc_b xmi_X10_init xc_X10_init 192 48 = true := by decide +kernel
set_option maxRecDepth 20000 in
theorem xo_c_X10_init_240 : xc_b xmi_X10_init xc_X10_init 240 48 = true := by decide +kernel
set_option maxRecDepth 20000 in
theorem xo_c_X10_init_288 : xc_b xmi_X10_init xc_X10_init 288 48 = true := by decide +kernel
set_option maxRecDepth 20000 in
theorem xo_c_X10_init_336 : xc_b xmi_X10_init xc_X10_init 336 48 = true := by decide +kernel
set_option maxRecDepth 20000 in
theorem xo_c_X10_init_384 : xc_b xmi_X10_init xc_X10_init 384 48 = true := by decide +kernel
set_option maxRecDepth 20000 in
theorem xo_c_X10_init_432 : xc_b xmi_X10_init xc_X10_init 432 48 = true := by decide +kernel
set_option maxRecDepth 20000 in
theorem xo_c_X10_init_480 : xc_b xmi_X10_init xc_X10_init 480 48 = true := by decide +kernel
set_option maxRecDepth 20000 in
theorem xo_c_X10_init_528 : xc_b xmi_X10_init xc_X10_init 528 48 = true := by decide +kernel
set_option maxRecDepth 20000 in
theorem xo_c_X10_init_576 : xc_b xmi_X10_init xc_X10_init 576 48 = true := by decide +kernel
set_option maxRecDepth 20000 in
theorem xo_c_X10_init_624 : xc_b xmi_X10_init xc_X10_init 624 48 = true := by decide +kernel
set_option maxRecDepth 20000 in
theorem xo_c_X10_init_672 : xc_b xmi_X10_init xc_X10_init 672 32 = true := by decide +kernel
theorem xo_r_X10_init : ∀ (pc : Nat) (r : xr_R), xcl xc_X10_init pc = some r → xr_b xmi_X10_init.1 (xm_ini xmi_X10_init) xmi_X10_init.2.2.1 pc r = true ∧ xr_c xM xmi_X10_init.1 r = true := xc_up_e (mi := xmi_X10_init) (cd := xc_X10_init) (N := 704) (xc_up_s (mi := xmi_X10_init) (cd := xc_X10_init) (lo := 672) (n := 32) (xc_up_s (mi := xmi_X10_init) (cd := xc_X10_init) (lo := 624) (n := 48) (xc_up_s (mi := xmi_X10_init) (cd := xc_X10_init) (lo := 576) (n := 48) (xc_up_s (mi := xmi_X10_init) (cd := xc_X10_init) (lo := 528) (n := 48) (xc_up_s (mi := xmi_X10_init) (cd := xc_X10_init) (lo := 480) (n := 48) (xc_up_s (mi := xmi_X10_init) (cd := xc_X10_init) (lo := 432) (n := 48) (xc_up_s (mi := xmi_X10_init) (cd := xc_X10_init) (lo := 384) (n := 48) (xc_up_s (mi := xmi_X10_init) (cd := xc_X10_init) (lo := 336) (n := 48) (xc_up_s (mi := xmi_X10_init) (cd := xc_X10_init) (lo := 288) (n := 48) (xc_up_s (mi := xmi_X10_init) (cd := xc_X10_init) (lo := 240) (n := 48) (xc_up_s (mi := xmi_X10_init) (cd := xc_X10_init) (lo := 192) (n := 48) (xc_up_s (mi := xmi_X10_init) (cd := xc_X10_init) (lo := 144) (n := 48) (xc_up_s (mi := xmi_X10_init) (cd := xc_X10_init) (lo := 96) (n := 48) (xc_up_s (mi := xmi_X10_init) (cd := xc_X10_init) (lo := 48) (n := 48) (xc_up_s (mi := xmi_X10_init) (cd := xc_X10_init) (lo := 0) (n := 48) xc_up_0 xo_c_X10_init_0) xo_c_X10_init_48) xo_c_X10_init_96) xo_c_X10_init_144) xo_c_X10_init_192) xo_c_X10_init_240) xo_c_X10_init_288) xo_c_X10_init_336) xo_c_X10_init_384) xo_c_X10_init_432) xo_c_X10_init_480) xo_c_X10_init_528) xo_c_X10_init_576) xo_c_X10_init_624) xo_c_X10_init_672) (by decide +kernel)
set_option maxRecDepth 20000 in
theorem xo_m_X10_refuse : xm_b xmi_X10_refuse (1, 11) (7, 29) (0, 97) = true := by decide +kernel
theorem xo_w_X10_refuse : Cond.code xmi_X10_refuse.2.1 xmi_X10_refuse.2.2.1 xmi_X10_refuse.2.2.2.1 xmi_X10_refuse.2.2.2.2.1 ∈ xG := xw_in2 (K := 7) (i := 30) rfl rfl
set_option maxRecDepth 20000 in
theorem xo_c_X10_refuse_0 : xc_b xmi_X10_refuse xc_X10_refuse 0 16 = true := by decide +kernel
theorem xo_r_X10_refuse : ∀ (pc : Nat) (r : xr_R), xcl xc_X10_refuse pc = some r → xr_b xmi_X10_refuse.1 (xm_ini xmi_X10_refuse) xmi_X10_refuse.2.2.1 pc r = true ∧ xr_c xM xmi_X10_refuse.1 r = true := xc_up_e (mi := xmi_X10_refuse) (cd := xc_X10_refuse) (N := 16) (xc_up_s (mi := xmi_X10_refuse) (cd := xc_X10_refuse) (lo := 0) (n := 16) xc_up_0 xo_c_X10_refuse_0) (by decide +kernel)
set_option maxRecDepth 20000 in
theorem xo_m_X10_come : xm_b xmi_X10_come (1, 11) (6, 45) (0, 57) = true := by decide +kernel
theorem xo_w_X10_come : Cond.code xmi_X10_come.2.1 xmi_X10_come.2.2.1 xmi_X10_come.2.2.2.1 xmi_X10_come.2.2.2.2.1 ∈ xG := xw_in2 (K := 6) (i := 46) rfl rfl
set_option maxRecDepth 20000 in
theorem xo_c_X10_come_0 : xc_b xmi_X10_come xc_X10_come 0 48 = true := by decide +kernel
theorem xo_r_X10_come : ∀ (pc : Nat) (r : xr_R), xcl xc_X10_come pc = some r → xr_b xmi_X10_come.1 (xm_ini xmi_X10_come) xmi_X10_come.2.2.1 pc r = true ∧ xr_c xM xmi_X10_come.1 r = true := xc_up_e (mi := xmi_X10_come) (cd := xc_X10_come) (N := 48) (xc_up_s (mi := xmi_X10_come) (cd := xc_X10_come) (lo := 0) (n := 48) xc_up_0 xo_c_X10_come_0) (by decide +kernel)
set_option maxRecDepth 20000 in
theorem xo_m_X10_feed : xm_b xmi_X10_feed (1, 11) (6, 40) (6, 41) = true := by decide +kernel
theorem xo_w_X10_feed : Cond.code xmi_X10_feed.2.1 xmi_X10_feed.2.2.1 xmi_X10_feed.2.2.2.1 xmi_X10_feed.2.2.2.2.1 ∈ xG := xw_in2 (K := 6) (i := 42) rfl rfl
set_option maxRecDepth 20000 in
theorem xo_c_X10_feed_0 : xc_b xmi_X10_feed xc_X10_feed 0 64 = true := by decide +kernel
theorem xo_r_X10_feed : ∀ (pc : Nat) (r : xr_R), xcl xc_X10_feed pc = some r → xr_b xmi_X10_feed.1 (xm_ini xmi_X10_feed) xmi_X10_feed.2.2.1 pc r = true ∧ xr_c xM xmi_X10_feed.1 r = true := xc_up_e (mi := xmi_X10_feed) (cd := xc_X10_feed) (N := 64) (xc_up_s (mi := xmi_X10_feed) (cd := xc_X10_feed) (lo := 0) (n := 64) xc_up_0 xo_c_X10_feed_0) (by decide +kernel)
set_option maxRecDepth 20000 in
theorem xo_m_X10_end : xm_b xmi_X10_end (1, 11) (6, 48) (6, 49) = true := by decide +kernel
theorem xo_w_X10_end : Cond.code xmi_X10_end.2.1 xmi_X10_end.2.2.1 xmi_X10_end.2.2.2.1 xmi_X10_end.2.2.2.2.1 ∈ xG := xw_in2 (K := 6) (i := 50) rfl rfl
set_option maxRecDepth 20000 in
theorem xo_c_X10_end_0 : xc_b xmi_X10_end xc_X10_end 0 32 = true := by decide +kernel
theorem xo_r_X10_end : ∀ (pc : Nat) (r : xr_R), xcl xc_X10_end pc = some r → xr_b xmi_X10_end.1 (xm_ini xmi_X10_end) xmi_X10_end.2.2.1 pc r = true ∧ xr_c xM xmi_X10_end.1 r = true := xc_up_e (mi := xmi_X10_end) (cd := xc_X10_end) (N := 32) (xc_up_s (mi := xmi_X10_end) (cd := xc_X10_end) (lo := 0) (n := 32) xc_up_0 xo_c_X10_end_0) (by decide +kernel)
set_option maxRecDepth 20000 in
theorem xo_m_X10_take : xm_b xmi_X10_take (1, 11) (6, 68) (0, 58) = true := by decide +kernel
theorem xo_w_X10_take : Cond.code xmi_X10_take.2.1 xmi_X10_take.2.2.1 xmi_X10_take.2.2.2.1 xmi_X10_take.2.2.2.2.1 ∈ xG := xw_in2 (K := 6) (i := 69) rfl rfl
set_option maxRecDepth 20000 in
theorem xo_c_X10_take_0 : xc_b xmi_X10_take xc_X10_take 0 16 = true := by decide +kernel
theorem xo_r_X10_take : ∀ (pc : Nat) (r : xr_R), xcl xc_X10_take pc = some r → xr_b xmi_X10_take.1 (xm_ini xmi_X10_take) xmi_X10_take.2.2.1 pc r = true ∧ xr_c xM xmi_X10_take.1 r = true := xc_up_e (mi := xmi_X10_take) (cd := xc_X10_take) (N := 16) (xc_up_s (mi := xmi_X10_take) (cd := xc_X10_take) (lo := 0) (n := 16) xc_up_0 xo_c_X10_take_0) (by decide +kernel)
set_option maxRecDepth 20000 in
theorem xo_m_X10_isIn : xm_b xmi_X10_isIn (1, 11) (6, 56) (99, 0) = true := by decide +kernel
theorem xo_w_X10_isIn : Cond.code xmi_X10_isIn.2.1 xmi_X10_isIn.2.2.1 xmi_X10_isIn.2.2.2.1 xmi_X10_isIn.2.2.2.2.1 ∈ xG := xw_in2 (K := 6) (i := 57) rfl rfl
set_option maxRecDepth 20000 in
theorem xo_c_X10_isIn_0 : xc_b xmi_X10_isIn xc_X10_isIn 0 16 = true := by decide +kernel
theorem xo_r_X10_isIn : ∀ (pc : Nat) (r : xr_R), xcl xc_X10_isIn pc = some r → xr_b xmi_X10_isIn.1 (xm_ini xmi_X10_isIn) xmi_X10_isIn.2.2.1 pc r = true ∧ xr_c xM xmi_X10_isIn.1 r = true := xc_up_e (mi := xmi_X10_isIn) (cd := xc_X10_isIn) (N := 16) (xc_up_s (mi := xmi_X10_isIn) (cd := xc_X10_isIn) (lo := 0) (n := 16) xc_up_0 xo_c_X10_isIn_0) (by decide +kernel)
set_option maxRecDepth 20000 in
theorem xo_m_X10_next : xm_b xmi_X10_next (1, 11) (6, 52) (6, 53) = true := by decide +kernel
theorem xo_w_X10_next : Cond.code xmi_X10_next.2.1 xmi_X10_next.2.2.1 xmi_X10_next.2.2.2.1 xmi_X10_next.2.2.2.2.1 ∈ xG := xw_in2 (K := 6) (i := 54) rfl rfl
set_option maxRecDepth 20000 in
theorem xo_c_X10_next_0 : xc_b xmi_X10_next xc_X10_next 0 48 = true := by decide +kernel
theorem xo_r_X10_next : ∀ (pc : Nat) (r : xr_R), xcl xc_X10_next pc = some r → xr_b xmi_X10_next.1 (xm_ini xmi_X10_next) xmi_X10_next.2.2.1 pc r = true ∧ xr_c xM xmi_X10_next.1 r = true := xc_up_e (mi := xmi_X10_next) (cd := xc_X10_next) (N := 48) (xc_up_s (mi := xmi_X10_next) (cd := xc_X10_next) (lo := 0) (n := 48) xc_up_0 xo_c_X10_next_0) (by decide +kernel)
set_option maxRecDepth 20000 in
theorem xo_m_X10_members : xm_b xmi_X10_members (1, 11) (6, 59) (6, 60) = true := by decide +kernel
theorem xo_w_X10_members : Cond.code xmi_X10_members.2.1 xmi_X10_members.2.2.1 xmi_X10_members.2.2.2.1 xmi_X10_members.2.2.2.2.1 ∈ xG := xw_in2 (K := 6) (i := 61) rfl rfl
set_option maxRecDepth 20000 in
theorem xo_c_X10_members_0 : xc_b xmi_X10_members xc_X10_members 0 48 = true := by decide +kernel
theorem xo_r_X10_members : ∀ (pc : Nat) (r : xr_R), xcl xc_X10_members pc = some r → xr_b xmi_X10_members.1 (xm_ini xmi_X10_members) xmi_X10_members.2.2.1 pc r = true ∧ xr_c xM xmi_X10_members.1 r = true := xc_up_e (mi := xmi_X10_members) (cd := xc_X10_members) (N := 48) (xc_up_s (mi := xmi_X10_members) (cd := xc_X10_members) (lo := 0) (n := 48) xc_up_0 xo_c_X10_members_0) (by decide +kernel)
set_option maxRecDepth 20000 in
theorem xo_m_X10_isMember : xm_b xmi_X10_isMember (1, 11) (6, 158) (0, 77) = true := by decide +kernel
theorem xo_w_X10_isMember : Cond.code xmi_X10_isMember.2.1 xmi_X10_isMember.2.2.1 xmi_X10_isMember.2.2.2.1 xmi_X10_isMember.2.2.2.2.1 ∈ xG := xw_in2 (K := 6) (i := 159) rfl rfl
set_option maxRecDepth 20000 in
theorem xo_c_X10_isMember_0 : xc_b xmi_X10_isMember xc_X10_isMember 0 32 = true := by decide +kernel
theorem xo_r_X10_isMember : ∀ (pc : Nat) (r : xr_R), xcl xc_X10_isMember pc = some r → xr_b xmi_X10_isMember.1 (xm_ini xmi_X10_isMember) xmi_X10_isMember.2.2.1 pc r = true ∧ xr_c xM xmi_X10_isMember.1 r = true := xc_up_e (mi := xmi_X10_isMember) (cd := xc_X10_isMember) (N := 32) (xc_up_s (mi := xmi_X10_isMember) (cd := xc_X10_isMember) (lo := 0) (n := 32) xc_up_0 xo_c_X10_isMember_0) (by decide +kernel)
set_option maxRecDepth 20000 in
theorem xo_m_X10_isSet : xm_b xmi_X10_isSet (1, 11) (6, 186) (0, 82) = true := by decide +kernel
theorem xo_w_X10_isSet : Cond.code xmi_X10_isSet.2.1 xmi_X10_isSet.2.2.1 xmi_X10_isSet.2.2.2.1 xmi_X10_isSet.2.2.2.2.1 ∈ xG := xw_in2 (K := 6) (i := 187) rfl rfl
set_option maxRecDepth 20000 in
theorem xo_c_X10_isSet_0 : xc_b xmi_X10_isSet xc_X10_isSet 0 32 = true := by decide +kernel
theorem xo_r_X10_isSet : ∀ (pc : Nat) (r : xr_R), xcl xc_X10_isSet pc = some r → xr_b xmi_X10_isSet.1 (xm_ini xmi_X10_isSet) xmi_X10_isSet.2.2.1 pc r = true ∧ xr_c xM xmi_X10_isSet.1 r = true := xc_up_e (mi := xmi_X10_isSet) (cd := xc_X10_isSet) (N := 32) (xc_up_s (mi := xmi_X10_isSet) (cd := xc_X10_isSet) (lo := 0) (n := 32) xc_up_0 xo_c_X10_isSet_0) (by decide +kernel)
set_option maxRecDepth 20000 in
theorem xo_m_X10_sizeOf : xm_b xmi_X10_sizeOf (1, 11) (6, 229) (99, 0) = true := by decide +kernel
theorem xo_w_X10_sizeOf : Cond.code xmi_X10_sizeOf.2.1 xmi_X10_sizeOf.2.2.1 xmi_X10_sizeOf.2.2.2.1 xmi_X10_sizeOf.2.2.2.2.1 ∈ xG := xw_in2 (K := 6) (i := 230) rfl rfl
set_option maxRecDepth 20000 in
theorem xo_c_X10_sizeOf_0 : xc_b xmi_X10_sizeOf xc_X10_sizeOf 0 32 = true := by decide +kernel
theorem xo_r_X10_sizeOf : ∀ (pc : Nat) (r : xr_R), xcl xc_X10_sizeOf pc = some r → xr_b xmi_X10_sizeOf.1 (xm_ini xmi_X10_sizeOf) xmi_X10_sizeOf.2.2.1 pc r = true ∧ xr_c xM xmi_X10_sizeOf.1 r = true := xc_up_e (mi := xmi_X10_sizeOf) (cd := xc_X10_sizeOf) (N := 32) (xc_up_s (mi := xmi_X10_sizeOf) (cd := xc_X10_sizeOf) (lo := 0) (n := 32) xc_up_0 xo_c_X10_sizeOf_0) (by decide +kernel)
set_option maxRecDepth 20000 in
theorem xo_m_X10_byteAt : xm_b xmi_X10_byteAt (1, 11) (6, 85) (0, 60) = true := by decide +kernel
theorem xo_w_X10_byteAt : Cond.code xmi_X10_byteAt.2.1 xmi_X10_byteAt.2.2.1 xmi_X10_byteAt.2.2.2.1 xmi_X10_byteAt.2.2.2.2.1 ∈ xG := xw_in2 (K := 6) (i := 86) rfl rfl
set_option maxRecDepth 20000 in
theorem xo_c_X10_byteAt_0 : xc_b xmi_X10_byteAt xc_X10_byteAt 0 32 = true := by decide +kernel
theorem xo_r_X10_byteAt : ∀ (pc : Nat) (r : xr_R), xcl xc_X10_byteAt pc = some r → xr_b xmi_X10_byteAt.1 (xm_ini xmi_X10_byteAt) xmi_X10_byteAt.2.2.1 pc r = true ∧ xr_c xM xmi_X10_byteAt.1 r = true := xc_up_e (mi := xmi_X10_byteAt) (cd := xc_X10_byteAt) (N := 32) (xc_up_s (mi := xmi_X10_byteAt) (cd := xc_X10_byteAt) (lo := 0) (n := 32) xc_up_0 xo_c_X10_byteAt_0) (by decide +kernel)
set_option maxRecDepth 20000 in
theorem xo_m_X10_isDigit : xm_b xmi_X10_isDigit (1, 11) (6, 78) (99, 0) = true := by decide +kernel
theorem xo_w_X10_isDigit : Cond.code xmi_X10_isDigit.2.1 xmi_X10_isDigit.2.2.1 xmi_X10_isDigit.2.2.2.1 xmi_X10_isDigit.2.2.2.2.1 ∈ xG := xw_in2 (K := 6) (i := 79) rfl rfl
set_option maxRecDepth 20000 in
theorem xo_c_X10_isDigit_0 : xc_b xmi_X10_isDigit xc_X10_isDigit 0 32 = true := by decide +kernel
theorem xo_r_X10_isDigit : ∀ (pc : Nat) (r : xr_R), xcl xc_X10_isDigit pc = some r → xr_b xmi_X10_isDigit.1 (xm_ini xmi_X10_isDigit) xmi_X10_isDigit.2.2.1 pc r = true ∧ xr_c xM xmi_X10_isDigit.1 r = true := xc_up_e (mi := xmi_X10_isDigit) (cd := xc_X10_isDigit) (N := 32) (xc_up_s (mi := xmi_X10_isDigit) (cd := xc_X10_isDigit) (lo := 0) (n := 32) xc_up_0 xo_c_X10_isDigit_0) (by decide +kernel)
set_option maxRecDepth 20000 in
theorem xo_m_X10_isLetter : xm_b xmi_X10_isLetter (1, 11) (6, 75) (99, 0) = true := by decide +kernel
theorem xo_w_X10_isLetter : Cond.code xmi_X10_isLetter.2.1 xmi_X10_isLetter.2.2.1 xmi_X10_isLetter.2.2.2.1 xmi_X10_isLetter.2.2.2.2.1 ∈ xG := xw_in2 (K := 6) (i := 76) rfl rfl
set_option maxRecDepth 20000 in
theorem xo_c_X10_isLetter_0 : xc_b xmi_X10_isLetter xc_X10_isLetter 0 32 = true := by decide +kernel
theorem xo_r_X10_isLetter : ∀ (pc : Nat) (r : xr_R), xcl xc_X10_isLetter pc = some r → xr_b xmi_X10_isLetter.1 (xm_ini xmi_X10_isLetter) xmi_X10_isLetter.2.2.1 pc r = true ∧ xr_c xM xmi_X10_isLetter.1 r = true := xc_up_e (mi := xmi_X10_isLetter) (cd := xc_X10_isLetter) (N := 32) (xc_up_s (mi := xmi_X10_isLetter) (cd := xc_X10_isLetter) (lo := 0) (n := 32) xc_up_0 xo_c_X10_isLetter_0) (by decide +kernel)
set_option maxRecDepth 20000 in
theorem xo_m_X10_isMark : xm_b xmi_X10_isMark (1, 11) (6, 81) (99, 0) = true := by decide +kernel
theorem xo_w_X10_isMark : Cond.code xmi_X10_isMark.2.1 xmi_X10_isMark.2.2.1 xmi_X10_isMark.2.2.2.1 xmi_X10_isMark.2.2.2.2.1 ∈ xG := xw_in2 (K := 6) (i := 82) rfl rfl
set_option maxRecDepth 20000 in
theorem xo_c_X10_isMark_0 : xc_b xmi_X10_isMark xc_X10_isMark 0 48 = true := by decide +kernel
theorem xo_r_X10_isMark : ∀ (pc : Nat) (r : xr_R), xcl xc_X10_isMark pc = some r → xr_b xmi_X10_isMark.1 (xm_ini xmi_X10_isMark) xmi_X10_isMark.2.2.1 pc r = true ∧ xr_c xM xmi_X10_isMark.1 r = true := xc_up_e (mi := xmi_X10_isMark) (cd := xc_X10_isMark) (N := 48) (xc_up_s (mi := xmi_X10_isMark) (cd := xc_X10_isMark) (lo := 0) (n := 48) xc_up_0 xo_c_X10_isMark_0) (by decide +kernel)
set_option maxRecDepth 20000 in
theorem xo_m_X10_go : xm_b xmi_X10_go (1, 11) (6, 72) (0, 59) = true := by decide +kernel
theorem xo_w_X10_go : Cond.code xmi_X10_go.2.1 xmi_X10_go.2.2.1 xmi_X10_go.2.2.2.1 xmi_X10_go.2.2.2.2.1 ∈ xG := xw_in2 (K := 6) (i := 73) rfl rfl
set_option maxRecDepth 20000 in
theorem xo_c_X10_go_0 : xc_b xmi_X10_go xc_X10_go 0 112 = true := by decide +kernel
set_option maxRecDepth 20000 in
theorem xo_c_X10_go_112 : xc_b xmi_X10_go xc_X10_go 112 112 = true := by decide +kernel
set_option maxRecDepth 20000 in
theorem xo_c_X10_go_224 : xc_b xmi_X10_go xc_X10_go 224 112 = true := by decide +kernel
set_option maxRecDepth 20000 in
theorem xo_c_X10_go_336 : xc_b xmi_X10_go xc_X10_go 336 48 = true := by decide +kernel
theorem xo_r_X10_go : ∀ (pc : Nat) (r : xr_R), xcl xc_X10_go pc = some r → xr_b xmi_X10_go.1 (xm_ini xmi_X10_go) xmi_X10_go.2.2.1 pc r = true ∧ xr_c xM xmi_X10_go.1 r = true := xc_up_e (mi := xmi_X10_go) (cd := xc_X10_go) (N := 384) (xc_up_s (mi := xmi_X10_go) (cd := xc_X10_go) (lo := 336) (n := 48) (xc_up_s (mi := xmi_X10_go) (cd := xc_X10_go) (lo := 224) (n := 112) (xc_up_s (mi := xmi_X10_go) (cd := xc_X10_go) (lo := 112) (n := 112) (xc_up_s (mi := xmi_X10_go) (cd := xc_X10_go) (lo := 0) (n := 112) xc_up_0 xo_c_X10_go_0) xo_c_X10_go_112) xo_c_X10_go_224) xo_c_X10_go_336) (by decide +kernel)
end XCK5
