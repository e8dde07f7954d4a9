section XCK1
set_option maxRecDepth 20000 in
theorem xo_m_X0_order : xm_b xmi_X0_order (1, 9) (4, 116) (4, 117) = true := by decide +kernel
theorem xo_w_X0_order : Cond.code xmi_X0_order.2.1 xmi_X0_order.2.2.1 xmi_X0_order.2.2.2.1 xmi_X0_order.2.2.2.2.1 ∈ xG := xw_in2 (K := 4) (i := 118) rfl rfl
set_option maxRecDepth 20000 in
theorem xo_c_X0_order_0 : xc_b xmi_X0_order xc_X0_order 0 48 = true := by decide +kernel
theorem xo_r_X0_order : ∀ (pc : Nat) (r : xr_R), xcl xc_X0_order pc = some r → xr_b xmi_X0_order.1 (xm_ini xmi_X0_order) xmi_X0_order.2.2.1 pc r = true ∧ xr_c xM xmi_X0_order.1 r = true := xc_up_e (mi := xmi_X0_order) (cd := xc_X0_order) (N := 48) (xc_up_s (mi := xmi_X0_order) (cd := xc_X0_order) (lo := 0) (n := 48) xc_up_0 xo_c_X0_order_0) (by decide +kernel)
set_option maxRecDepth 20000 in
theorem xo_m_X0_whoPrefer : xm_b xmi_X0_whoPrefer (1, 9) (4, 125) (4, 126) = true := by decide +kernel
theorem xo_w_X0_whoPrefer : Cond.code xmi_X0_whoPrefer.2.1 xmi_X0_whoPrefer.2.2.1 xmi_X0_whoPrefer.2.2.2.1 xmi_X0_whoPrefer.2.2.2.2.1 ∈ xG := xw_in2 (K := 4) (i := 127) rfl rfl
set_option maxRecDepth 20000 in
theorem xo_c_X0_whoPrefer_0 : xc_b xmi_X0_whoPrefer xc_X0_whoPrefer 0 64 = true := by decide +kernel
theorem xo_r_X0_whoPrefer : ∀ (pc : Nat) (r : xr_R), xcl xc_X0_whoPrefer pc = some r → xr_b xmi_X0_whoPrefer.1 (xm_ini xmi_X0_whoPrefer) xmi_X0_whoPrefer.2.2.1 pc r = true ∧ xr_c xM xmi_X0_whoPrefer.1 r = true := xc_up_e (mi := xmi_X0_whoPrefer) (cd := xc_X0_whoPrefer) (N := 64) (xc_up_s (mi := xmi_X0_whoPrefer) (cd := xc_X0_whoPrefer) (lo := 0) (n := 64) xc_up_0 xo_c_X0_whoPrefer_0) (by decide +kernel)
set_option maxRecDepth 20000 in
theorem xo_m_X0_match : xm_b xmi_X0_match (1, 9) (4, 133) (4, 134) = true := by decide +kernel
theorem xo_w_X0_match : Cond.code xmi_X0_match.2.1 xmi_X0_match.2.2.1 xmi_X0_match.2.2.2.1 xmi_X0_match.2.2.2.2.1 ∈ xG := xw_in2 (K := 4) (i := 135) rfl rfl
set_option maxRecDepth 20000 in
theorem xo_c_X0_match_0 : xc_b xmi_X0_match xc_X0_match 0 80 = true := by decide +kernel
theorem xo_r_X0_match : ∀ (pc : Nat) (r : xr_R), xcl xc_X0_match pc = some r → xr_b xmi_X0_match.1 (xm_ini xmi_X0_match) xmi_X0_match.2.2.1 pc r = true ∧ xr_c xM xmi_X0_match.1 r = true := xc_up_e (mi := xmi_X0_match) (cd := xc_X0_match) (N := 80) (xc_up_s (mi := xmi_X0_match) (cd := xc_X0_match) (lo := 0) (n := 80) xc_up_0 xo_c_X0_match_0) (by decide +kernel)
set_option maxRecDepth 20000 in
theorem xo_m_X0_wins : xm_b xmi_X0_wins (1, 9) (4, 156) (0, 49) = true := by decide +kernel
theorem xo_w_X0_wins : Cond.code xmi_X0_wins.2.1 xmi_X0_wins.2.2.1 xmi_X0_wins.2.2.2.1 xmi_X0_wins.2.2.2.2.1 ∈ xG := xw_in2 (K := 4) (i := 157) rfl rfl
set_option maxRecDepth 20000 in
theorem xo_c_X0_wins_0 : xc_b xmi_X0_wins xc_X0_wins 0 32 = true := by decide +kernel
theorem xo_r_X0_wins : ∀ (pc : Nat) (r : xr_R), xcl xc_X0_wins pc = some r → xr_b xmi_X0_wins.1 (xm_ini xmi_X0_wins) xmi_X0_wins.2.2.1 pc r = true ∧ xr_c xM xmi_X0_wins.1 r = true := xc_up_e (mi := xmi_X0_wins) (cd := xc_X0_wins) (N := 32) (xc_up_s (mi := xmi_X0_wins) (cd := xc_X0_wins) (lo := 0) (n := 32) xc_up_0 xo_c_X0_wins_0) (by decide +kernel)
set_option maxRecDepth 20000 in
theorem xo_m_X0_unbeaten : xm_b xmi_X0_unbeaten (1, 9) (4, 139) (4, 140) = true := by decide +kernel
theorem xo_w_X0_unbeaten : Cond.code xmi_X0_unbeaten.2.1 xmi_X0_unbeaten.2.2.1 xmi_X0_unbeaten.2.2.2.1 xmi_X0_unbeaten.2.2.2.2.1 ∈ xG := xw_in2 (K := 4) (i := 141) rfl rfl
set_option maxRecDepth 20000 in
theorem xo_c_X0_unbeaten_0 : xc_b xmi_X0_unbeaten xc_X0_unbeaten 0 32 = true := by decide +kernel
theorem xo_r_X0_unbeaten : ∀ (pc : Nat) (r : xr_R), xcl xc_X0_unbeaten pc = some r → xr_b xmi_X0_unbeaten.1 (xm_ini xmi_X0_unbeaten) xmi_X0_unbeaten.2.2.1 pc r = true ∧ xr_c xM xmi_X0_unbeaten.1 r = true := xc_up_e (mi := xmi_X0_unbeaten) (cd := xc_X0_unbeaten) (N := 32) (xc_up_s (mi := xmi_X0_unbeaten) (cd := xc_X0_unbeaten) (lo := 0) (n := 32) xc_up_0 xo_c_X0_unbeaten_0) (by decide +kernel)
set_option maxRecDepth 20000 in
theorem xo_m_X0_best : xm_b xmi_X0_best (1, 9) (4, 147) (4, 148) = true := by decide +kernel
theorem xo_w_X0_best : Cond.code xmi_X0_best.2.1 xmi_X0_best.2.2.1 xmi_X0_best.2.2.2.1 xmi_X0_best.2.2.2.2.1 ∈ xG := xw_in2 (K := 4) (i := 149) rfl rfl
set_option maxRecDepth 20000 in
theorem xo_c_X0_best_0 : xc_b xmi_X0_best xc_X0_best 0 80 = true := by decide +kernel
theorem xo_r_X0_best : ∀ (pc : Nat) (r : xr_R), xcl xc_X0_best pc = some r → xr_b xmi_X0_best.1 (xm_ini xmi_X0_best) xmi_X0_best.2.2.1 pc r = true ∧ xr_c xM xmi_X0_best.1 r = true := xc_up_e (mi := xmi_X0_best) (cd := xc_X0_best) (N := 80) (xc_up_s (mi := xmi_X0_best) (cd := xc_X0_best) (lo := 0) (n := 80) xc_up_0 xo_c_X0_best_0) (by decide +kernel)
set_option maxRecDepth 20000 in
theorem xo_m_X0_findReach : xm_b xmi_X0_findReach (1, 9) (4, 152) (0, 48) = true := by decide +kernel
theorem xo_w_X0_findReach : Cond.code xmi_X0_findReach.2.1 xmi_X0_findReach.2.2.1 xmi_X0_findReach.2.2.2.1 xmi_X0_findReach.2.2.2.2.1 ∈ xG := xw_in2 (K := 4) (i := 153) rfl rfl
set_option maxRecDepth 20000 in
theorem xo_c_X0_findReach_0 : xc_b xmi_X0_findReach xc_X0_findReach 0 112 = true := by decide +kernel
set_option maxRecDepth 20000 in
theorem xo_c_X0_findReach_112 : xc_b xmi_X0_findReach xc_X0_findReach 112 16 = true := by decide +kernel
theorem xo_r_X0_findReach : ∀ (pc : Nat) (r : xr_R), xcl xc_X0_findReach pc = some r → xr_b xmi_X0_findReach.1 (xm_ini xmi_X0_findReach) xmi_X0_findReach.2.2.1 pc r = true ∧ xr_c xM xmi_X0_findReach.1 r = true := xc_up_e (mi := xmi_X0_findReach) (cd := xc_X0_findReach) (N := 128) (xc_up_s (mi := xmi_X0_findReach) (cd := xc_X0_findReach) (lo := 112) (n := 16) (xc_up_s (mi := xmi_X0_findReach) (cd := xc_X0_findReach) (lo := 0) (n := 112) xc_up_0 xo_c_X0_findReach_0) xo_c_X0_findReach_112) (by decide +kernel)
set_option maxRecDepth 20000 in
theorem xo_m_X0_stands : xm_b xmi_X0_stands (1, 9) (4, 168) (0, 50) = true := by decide +kernel
theorem xo_w_X0_stands : Cond.code xmi_X0_stands.2.1 xmi_X0_stands.2.2.1 xmi_X0_stands.2.2.2.1 xmi_X0_stands.2.2.2.2.1 ∈ xG := xw_in2 (K := 4) (i := 169) rfl rfl
set_option maxRecDepth 20000 in
theorem xo_c_X0_stands_0 : xc_b xmi_X0_stands xc_X0_stands 0 16 = true := by decide +kernel
theorem xo_r_X0_stands : ∀ (pc : Nat) (r : xr_R), xcl xc_X0_stands pc = some r → xr_b xmi_X0_stands.1 (xm_ini xmi_X0_stands) xmi_X0_stands.2.2.1 pc r = true ∧ xr_c xM xmi_X0_stands.1 r = true := xc_up_e (mi := xmi_X0_stands) (cd := xc_X0_stands) (N := 16) (xc_up_s (mi := xmi_X0_stands) (cd := xc_X0_stands) (lo := 0) (n := 16) xc_up_0 xo_c_X0_stands_0) (by decide +kernel)
set_option maxRecDepth 20000 in
theorem xo_m_X0_follow : xm_b xmi_X0_follow (1, 9) (4, 171) (4, 172) = true := by decide +kernel
theorem xo_w_X0_follow : Cond.code xmi_X0_follow.2.1 xmi_X0_follow.2.2.1 xmi_X0_follow.2.2.2.1 xmi_X0_follow.2.2.2.2.1 ∈ xG := xw_in2 (K := 4) (i := 173) rfl rfl
set_option maxRecDepth 20000 in
theorem xo_c_X0_follow_0 : xc_b xmi_X0_follow xc_X0_follow 0 48 = true := by decide +kernel
theorem xo_r_X0_follow : ∀ (pc : Nat) (r : xr_R), xcl xc_X0_follow pc = some r → xr_b xmi_X0_follow.1 (xm_ini xmi_X0_follow) xmi_X0_follow.2.2.1 pc r = true ∧ xr_c xM xmi_X0_follow.1 r = true := xc_up_e (mi := xmi_X0_follow) (cd := xc_X0_follow) (N := 48) (xc_up_s (mi := xmi_X0_follow) (cd := xc_X0_follow) (lo := 0) (n := 48) xc_up_0 xo_c_X0_follow_0) (by decide +kernel)
set_option maxRecDepth 20000 in
theorem xo_m_X0_foresee : xm_b xmi_X0_foresee (1, 9) (4, 163) (4, 164) = true := by decide +kernel
theorem xo_w_X0_foresee : Cond.code xmi_X0_foresee.2.1 xmi_X0_foresee.2.2.1 xmi_X0_foresee.2.2.2.1 xmi_X0_foresee.2.2.2.2.1 ∈ xG := xw_in2 (K := 4) (i := 165) rfl rfl
set_option maxRecDepth 20000 in
theorem xo_c_X0_foresee_0 : xc_b xmi_X0_foresee xc_X0_foresee 0 112 = true := by decide +kernel
theorem xo_r_X0_foresee : ∀ (pc : Nat) (r : xr_R), xcl xc_X0_foresee pc = some r → xr_b xmi_X0_foresee.1 (xm_ini xmi_X0_foresee) xmi_X0_foresee.2.2.1 pc r = true ∧ xr_c xM xmi_X0_foresee.1 r = true := xc_up_e (mi := xmi_X0_foresee) (cd := xc_X0_foresee) (N := 112) (xc_up_s (mi := xmi_X0_foresee) (cd := xc_X0_foresee) (lo := 0) (n := 112) xc_up_0 xo_c_X0_foresee_0) (by decide +kernel)
set_option maxRecDepth 20000 in
theorem xo_m_X0_countRows : xm_b xmi_X0_countRows (1, 9) (4, 179) (4, 180) = true := by decide +kernel
theorem xo_w_X0_countRows : Cond.code xmi_X0_countRows.2.1 xmi_X0_countRows.2.2.1 xmi_X0_countRows.2.2.2.1 xmi_X0_countRows.2.2.2.2.1 ∈ xG := xw_in2 (K := 4) (i := 181) rfl rfl
set_option maxRecDepth 20000 in
theorem xo_c_X0_countRows_0 : xc_b xmi_X0_countRows xc_X0_countRows 0 48 = true := by decide +kernel
theorem xo_r_X0_countRows : ∀ (pc : Nat) (r : xr_R), xcl xc_X0_countRows pc = some r → xr_b xmi_X0_countRows.1 (xm_ini xmi_X0_countRows) xmi_X0_countRows.2.2.1 pc r = true ∧ xr_c xM xmi_X0_countRows.1 r = true := xc_up_e (mi := xmi_X0_countRows) (cd := xc_X0_countRows) (N := 48) (xc_up_s (mi := xmi_X0_countRows) (cd := xc_X0_countRows) (lo := 0) (n := 48) xc_up_0 xo_c_X0_countRows_0) (by decide +kernel)
set_option maxRecDepth 20000 in
theorem xo_m_X0_waysFrom : xm_b xmi_X0_waysFrom (1, 9) (4, 188) (0, 52) = true := by decide +kernel
theorem xo_w_X0_waysFrom : Cond.code xmi_X0_waysFrom.2.1 xmi_X0_waysFrom.2.2.1 xmi_X0_waysFrom.2.2.2.1 xmi_X0_waysFrom.2.2.2.2.1 ∈ xG := xw_in2 (K := 4) (i := 189) rfl rfl
set_option maxRecDepth 20000 in
theorem xo_c_X0_waysFrom_0 : xc_b xmi_X0_waysFrom xc_X0_waysFrom 0 16 = true := by decide +kernel
theorem xo_r_X0_waysFrom : ∀ (pc : Nat) (r : xr_R), xcl xc_X0_waysFrom pc = some r → xr_b xmi_X0_waysFrom.1 (xm_ini xmi_X0_waysFrom) xmi_X0_waysFrom.2.2.1 pc r = true ∧ xr_c xM xmi_X0_waysFrom.1 r = true := xc_up_e (mi := xmi_X0_waysFrom) (cd := xc_X0_waysFrom) (N := 16) (xc_up_s (mi := xmi_X0_waysFrom) (cd := xc_X0_waysFrom) (lo := 0) (n := 16) xc_up_0 xo_c_X0_waysFrom_0) (by decide +kernel)
set_option maxRecDepth 20000 in
theorem xo_m_X0_countWays : xm_b xmi_X0_countWays (1, 9) (4, 184) (0, 51) = true := by decide +kernel
theorem xo_w_X0_countWays : Cond.code xmi_X0_countWays.2.1 xmi_X0_countWays.2.2.1 xmi_X0_countWays.2.2.2.1 xmi_X0_countWays.2.2.2.2.1 ∈ xG := xw_in2 (K := 4) (i := 185) rfl rfl
set_option maxRecDepth 20000 in
theorem xo_c_X0_countWays_0 : xc_b xmi_X0_countWays xc_X0_countWays 0 112 = true := by decide +kernel
set_option maxRecDepth 20000 in
theorem xo_c_X0_countWays_112 : xc_b xmi_X0_countWays xc_X0_countWays 112 16 = true := by decide +kernel
theorem xo_r_X0_countWays : ∀ (pc : Nat) (r : xr_R), xcl xc_X0_countWays pc = some r → xr_b xmi_X0_countWays.1 (xm_ini xmi_X0_countWays) xmi_X0_countWays.2.2.1 pc r = true ∧ xr_c xM xmi_X0_countWays.1 r = true := xc_up_e (mi := xmi_X0_countWays) (cd := xc_X0_countWays) (N := 128) (xc_up_s (mi := xmi_X0_countWays) (cd := xc_X0_countWays) (lo := 112) (n := 16) (xc_up_s (mi := xmi_X0_countWays) (cd := xc_X0_countWays) (lo := 0) (n := 112) xc_up_0 xo_c_X0_countWays_0) xo_c_X0_countWays_112) (by decide +kernel)
set_option maxRecDepth 20000 in
theorem xo_m_X0_findFirstRow : xm_b xmi_X0_findFirstRow (1, 9) (4, 192) (0, 53) = true := by decide +kernel
theorem xo_w_X0_findFirstRow : Cond.code xmi_X0_findFirstRow.2.1 xmi_X0_findFirstRow.2.2.1 xmi_X0_findFirstRow.2.2.2.1 xmi_X0_findFirstRow.2.2.2.2.1 ∈ xG := xw_in2 (K := 4) (i := 193) rfl rfl
set_option maxRecDepth 20000 in
theorem xo_c_X0_findFirstRow_0 : xc_b xmi_X0_findFirstRow xc_X0_findFirstRow 0 112 = true := by decide +kernel
theorem xo_r_X0_findFirstRow : ∀ (pc : Nat) (r : xr_R), xcl xc_X0_findFirstRow pc = some r → xr_b xmi_X0_findFirstRow.1 (xm_ini xmi_X0_findFirstRow) xmi_X0_findFirstRow.2.2.1 pc r = true ∧ xr_c xM xmi_X0_findFirstRow.1 r = true := xc_up_e (mi := xmi_X0_findFirstRow) (cd := xc_X0_findFirstRow) (N := 112) (xc_up_s (mi := xmi_X0_findFirstRow) (cd := xc_X0_findFirstRow) (lo := 0) (n := 112) xc_up_0 xo_c_X0_findFirstRow_0) (by decide +kernel)
set_option maxRecDepth 20000 in
theorem xo_m_X1_init : xm_b xmi_X1_init (1, 10) (2, 65) (99, 0) = true := by decide +kernel
theorem xo_w_X1_init : Cond.code xmi_X1_init.2.1 xmi_X1_init.2.2.1 xmi_X1_init.2.2.2.1 xmi_X1_init.2.2.2.2.1 ∈ xG := xw_in2 (K := 2) (i := 66) rfl rfl
set_option maxRecDepth 20000 in
theorem xo_c_X1_init_0 : xc_b xmi_X1_init xc_X1_init 0 48 = true := by decide +kernel
theorem xo_r_X1_init : ∀ (pc : Nat) (r : xr_R), xcl xc_X1_init pc = some r → xr_b xmi_X1_init.1 (xm_ini xmi_X1_init) xmi_X1_init.2.2.1 pc r = true ∧ xr_c xM xmi_X1_init.1 r = true := xc_up_e (mi := xmi_X1_init) (cd := xc_X1_init) (N := 48) (xc_up_s (mi := xmi_X1_init) (cd := xc_X1_init) (lo := 0) (n := 48) xc_up_0 xo_c_X1_init_0) (by decide +kernel)
set_option maxRecDepth 20000 in
theorem xo_m_X1_add : xm_b xmi_X1_add (1, 10) (4, 203) (4, 204) = true := by decide +kernel
theorem xo_w_X1_add : Cond.code xmi_X1_add.2.1 xmi_X1_add.2.2.1 xmi_X1_add.2.2.2.1 xmi_X1_add.2.2.2.2.1 ∈ xG := xw_in2 (K := 4) (i := 205) rfl rfl
set_option maxRecDepth 20000 in
theorem xo_c_X1_add_0 : xc_b xmi_X1_add xc_X1_add 0 64 = true := by decide +kernel
theorem xo_r_X1_add : ∀ (pc : Nat) (r : xr_R), xcl xc_X1_add pc = some r → xr_b xmi_X1_add.1 (xm_ini xmi_X1_add) xmi_X1_add.2.2.1 pc r = true ∧ xr_c xM xmi_X1_add.1 r = true := xc_up_e (mi := xmi_X1_add) (cd := xc_X1_add) (N := 64) (xc_up_s (mi := xmi_X1_add) (cd := xc_X1_add) (lo := 0) (n := 64) xc_up_0 xo_c_X1_add_0) (by decide +kernel)
set_option maxRecDepth 20000 in
theorem xo_m_X1_judge : xm_b xmi_X1_judge (1, 10) (4, 215) (4, 216) = true := by decide +kernel
theorem xo_w_X1_judge : Cond.code xmi_X1_judge.2.1 xmi_X1_judge.2.2.1 xmi_X1_judge.2.2.2.1 xmi_X1_judge.2.2.2.2.1 ∈ xG := xw_in2 (K := 4) (i := 217) rfl rfl
set_option maxRecDepth 20000 in
theorem xo_c_X1_judge_0 : xc_b xmi_X1_judge xc_X1_judge 0 112 = true := by decide +kernel
set_option maxRecDepth 20000 in
theorem xo_c_X1_judge_112 : xc_b xmi_X1_judge xc_X1_judge 112 16 = true := by decide +kernel
theorem xo_r_X1_judge : ∀ (pc : Nat) (r : xr_R), xcl xc_X1_judge pc = some r → xr_b xmi_X1_judge.1 (xm_ini xmi_X1_judge) xmi_X1_judge.2.2.1 pc r = true ∧ xr_c xM xmi_X1_judge.1 r = true := xc_up_e (mi := xmi_X1_judge) (cd := xc_X1_judge) (N := 128) (xc_up_s (mi := xmi_X1_judge) (cd := xc_X1_judge) (lo := 112) (n := 16) (xc_up_s (mi := xmi_X1_judge) (cd := xc_X1_judge) (lo := 0) (n := 112) xc_up_0 xo_c_X1_judge_0) xo_c_X1_judge_112) (by decide +kernel)
set_option maxRecDepth 20000 in
theorem xo_m_X2_init : xm_b xmi_X2_init (1, 7) (1, 159) (99, 0) = true := by decide +kernel
theorem xo_w_X2_init : Cond.code xmi_X2_init.2.1 xmi_X2_init.2.2.1 xmi_X2_init.2.2.2.1 xmi_X2_init.2.2.2.2.1 ∈ xG := xw_in2 (K := 1) (i := 160) rfl rfl
set_option maxRecDepth 20000 in
theorem xo_c_X2_init_0 : xc_b xmi_X2_init xc_X2_init 0 80 = true := by decide +kernel
theorem xo_r_X2_init : ∀ (pc : Nat) (r : xr_R), xcl xc_X2_init pc = some r → xr_b xmi_X2_init.1 (xm_ini xmi_X2_init) xmi_X2_init.2.2.1 pc r = true ∧ xr_c xM xmi_X2_init.1 r = true := xc_up_e (mi := xmi_X2_init) (cd := xc_X2_init) (N := 80) (xc_up_s (mi := xmi_X2_init) (cd := xc_X2_init) (lo := 0) (n := 80) xc_up_0 xo_c_X2_init_0) (by decide +kernel)
set_option maxRecDepth 20000 in
theorem xo_m_X2_isOf : xm_b xmi_X2_isOf (1, 7) (3, 167) (3, 168) = true := by decide +kernel
theorem xo_w_X2_isOf : Cond.code xmi_X2_isOf.2.1 xmi_X2_isOf.2.2.1 xmi_X2_isOf.2.2.2.1 xmi_X2_isOf.2.2.2.2.1 ∈ xG := xw_in2 (K := 3) (i := 169) rfl rfl
set_option maxRecDepth 20000 in
theorem xo_c_X2_isOf_0 : xc_b xmi_X2_isOf xc_X2_isOf 0 32 = true := by decide +kernel
theorem xo_r_X2_isOf : ∀ (pc : Nat) (r : xr_R), xcl xc_X2_isOf pc = some r → xr_b xmi_X2_isOf.1 (xm_ini xmi_X2_isOf) xmi_X2_isOf.2.2.1 pc r = true ∧ xr_c xM xmi_X2_isOf.1 r = true := xc_up_e (mi := xmi_X2_isOf) (cd := xc_X2_isOf) (N := 32) (xc_up_s (mi := xmi_X2_isOf) (cd := xc_X2_isOf) (lo := 0) (n := 32) xc_up_0 xo_c_X2_isOf_0) (by decide +kernel)
set_option maxRecDepth 20000 in
theorem xo_m_X2_study : xm_b xmi_X2_study (1, 7) (3, 163) (3, 164) = true := by decide +kernel
theorem xo_w_X2_study : Cond.code xmi_X2_study.2.1 xmi_X2_study.2.2.1 xmi_X2_study.2.2.2.1 xmi_X2_study.2.2.2.2.1 ∈ xG := xw_in2 (K := 3) (i := 165) rfl rfl
set_option maxRecDepth 20000 in
theorem xo_c_X2_study_0 : xc_b xmi_X2_study xc_X2_study 0 96 = true := by decide +kernel
theorem xo_r_X2_study : ∀ (pc : Nat) (r : xr_R), xcl xc_X2_study pc = some r → xr_b xmi_X2_study.1 (xm_ini xmi_X2_study) xmi_X2_study.2.2.1 pc r = true ∧ xr_c xM xmi_X2_study.1 r = true := xc_up_e (mi := xmi_X2_study) (cd := xc_X2_study) (N := 96) (xc_up_s (mi := xmi_X2_study) (cd := xc_X2_study) (lo := 0) (n := 96) xc_up_0 xo_c_X2_study_0) (by decide +kernel)
set_option maxRecDepth 20000 in
theorem xo_m_X2_list : xm_b xmi_X2_list (1, 7) (3, 172) (0, 24) = true := by decide +kernel
theorem xo_w_X2_list : Cond.code xmi_X2_list.2.1 xmi_X2_list.2.2.1 xmi_X2_list.2.2.2.1 xmi_X2_list.2.2.2.2.1 ∈ xG := xw_in2 (K := 3) (i := 173) rfl rfl
set_option maxRecDepth 20000 in
theorem xo_c_X2_list_0 : xc_b xmi_X2_list xc_X2_list 0 112 = true := by decide +kernel
set_option maxRecDepth 20000 in
theorem xo_c_X2_list_112 : xc_b xmi_X2_list xc_X2_list 112 64 = true := by decide +kernel
theorem xo_r_X2_list : ∀ (pc : Nat) (r : xr_R), xcl xc_X2_list pc = some r → xr_b xmi_X2_list.1 (xm_ini xmi_X2_list) xmi_X2_list.2.2.1 pc r = true ∧ xr_c xM xmi_X2_list.1 r = true := xc_up_e (mi := xmi_X2_list) (cd := xc_X2_list) (N := 176) (xc_up_s (mi := xmi_X2_list) (cd := xc_X2_list) (lo := 112) (n := 64) (xc_up_s (mi := xmi_X2_list) (cd := xc_X2_list) (lo := 0) (n := 112) xc_up_0 xo_c_X2_list_0) xo_c_X2_list_112) (by decide +kernel)
set_option maxRecDepth 20000 in
theorem xo_m_X2_isMinimal : xm_b xmi_X2_isMinimal (1, 7) (3, 176) (0, 25) = true := by decide +kernel
theorem xo_w_X2_isMinimal : Cond.code xmi_X2_isMinimal.2.1 xmi_X2_isMinimal.2.2.1 xmi_X2_isMinimal.2.2.2.1 xmi_X2_isMinimal.2.2.2.2.1 ∈ xG := xw_in2 (K := 3) (i := 177) rfl rfl
set_option maxRecDepth 20000 in
theorem xo_c_X2_isMinimal_0 : xc_b xmi_X2_isMinimal xc_X2_isMinimal 0 64 = true := by decide +kernel
theorem xo_r_X2_isMinimal : ∀ (pc : Nat) (r : xr_R), xcl xc_X2_isMinimal pc = some r → xr_b xmi_X2_isMinimal.1 (xm_ini xmi_X2_isMinimal) xmi_X2_isMinimal.2.2.1 pc r = true ∧ xr_c xM xmi_X2_isMinimal.1 r = true := xc_up_e (mi := xmi_X2_isMinimal) (cd := xc_X2_isMinimal) (N := 64) (xc_up_s (mi := xmi_X2_isMinimal) (cd := xc_X2_isMinimal) (lo := 0) (n := 64) xc_up_0 xo_c_X2_isMinimal_0) (by decide +kernel)
set_option maxRecDepth 20000 in
theorem xo_m_X2_does : xm_b xmi_X2_does (1, 7) (3, 180) (0, 26) = true := by decide +kernel
theorem xo_w_X2_does : Cond.code xmi_X2_does.2.1 xmi_X2_does.2.2.1 xmi_X2_does.2.2.2.1 xmi_X2_does.2.2.2.2.1 ∈ xG := xw_in2 (K := 3) (i := 181) rfl rfl
set_option maxRecDepth 20000 in
theorem xo_c_X2_does_0 : xc_b xmi_X2_does xc_X2_does 0 48 = true := by decide +kernel
theorem xo_r_X2_does : ∀ (pc : Nat) (r : xr_R), xcl xc_X2_does pc = some r → xr_b xmi_X2_does.1 (xm_ini xmi_X2_does) xmi_X2_does.2.2.1 pc r = true ∧ xr_c xM xmi_X2_does.1 r = true := xc_up_e (mi := xmi_X2_does) (cd := xc_X2_does) (N := 48) (xc_up_s (mi := xmi_X2_does) (cd := xc_X2_does) (lo := 0) (n := 48) xc_up_0 xo_c_X2_does_0) (by decide +kernel)
set_option maxRecDepth 20000 in
theorem xo_m_X2_markNeeded : xm_b xmi_X2_markNeeded (1, 7) (3, 192) (0, 27) = true := by decide +kernel
theorem xo_w_X2_markNeeded : Cond.code xmi_X2_markNeeded.2.1 xmi_X2_markNeeded.2.2.1 xmi_X2_markNeeded.2.2.2.1 xmi_X2_markNeeded.2.2.2.2.1 ∈ xG := xw_in2 (K := 3) (i := 193) rfl rfl
set_option maxRecDepth 20000 in
theorem xo_c_X2_markNeeded_0 : xc_b xmi_X2_markNeeded xc_X2_markNeeded 0 80 = true := by decide +kernel
theorem xo_r_X2_markNeeded : ∀ (pc : Nat) (r : xr_R), xcl xc_X2_markNeeded pc = some r → xr_b xmi_X2_markNeeded.1 (xm_ini xmi_X2_markNeeded) xmi_X2_markNeeded.2.2.1 pc r = true ∧ xr_c xM xmi_X2_markNeeded.1 r = true := xc_up_e (mi := xmi_X2_markNeeded) (cd := xc_X2_markNeeded) (N := 80) (xc_up_s (mi := xmi_X2_markNeeded) (cd := xc_X2_markNeeded) (lo := 0) (n := 80) xc_up_0 xo_c_X2_markNeeded_0) (by decide +kernel)
set_option maxRecDepth 20000 in
theorem xo_m_X2_turnsBy : xm_b xmi_X2_turnsBy (1, 7) (3, 200) (0, 29) = true := by decide +kernel
theorem xo_w_X2_turnsBy : Cond.code xmi_X2_turnsBy.2.1 xmi_X2_turnsBy.2.2.1 xmi_X2_turnsBy.2.2.2.1 xmi_X2_turnsBy.2.2.2.2.1 ∈ xG := xw_in2 (K := 3) (i := 201) rfl rfl
set_option maxRecDepth 20000 in
theorem xo_c_X2_turnsBy_0 : xc_b xmi_X2_turnsBy xc_X2_turnsBy 0 48 = true := by decide +kernel
theorem xo_r_X2_turnsBy : ∀ (pc : Nat) (r : xr_R), xcl xc_X2_turnsBy pc = some r → xr_b xmi_X2_turnsBy.1 (xm_ini xmi_X2_turnsBy) xmi_X2_turnsBy.2.2.1 pc r = true ∧ xr_c xM xmi_X2_turnsBy.1 r = true := xc_up_e (mi := xmi_X2_turnsBy) (cd := xc_X2_turnsBy) (N := 48) (xc_up_s (mi := xmi_X2_turnsBy) (cd := xc_X2_turnsBy) (lo := 0) (n := 48) xc_up_0 xo_c_X2_turnsBy_0) (by decide +kernel)
set_option maxRecDepth 20000 in
theorem xo_m_X2_countSwings : xm_b xmi_X2_countSwings (1, 7) (3, 196) (0, 28) = true := by decide +kernel
theorem xo_w_X2_countSwings : Cond.code xmi_X2_countSwings.2.1 xmi_X2_countSwings.2.2.1 xmi_X2_countSwings.2.2.2.1 xmi_X2_countSwings.2.2.2.2.1 ∈ xG := xw_in2 (K := 3) (i := 197) rfl rfl
set_option maxRecDepth 20000 in
theorem xo_c_X2_countSwings_0 : xc_b xmi_X2_countSwings xc_X2_countSwings 0 32 = true := by decide +kernel
theorem xo_r_X2_countSwings : ∀ (pc : Nat) (r : xr_R), xcl xc_X2_countSwings pc = some r → xr_b xmi_X2_countSwings.1 (xm_ini xmi_X2_countSwings) xmi_X2_countSwings.2.2.1 pc r = true ∧ xr_c xM xmi_X2_countSwings.1 r = true := xc_up_e (mi := xmi_X2_countSwings) (cd := xc_X2_countSwings) (N := 32) (xc_up_s (mi := xmi_X2_countSwings) (cd := xc_X2_countSwings) (lo := 0) (n := 32) xc_up_0 xo_c_X2_countSwings_0) (by decide +kernel)
set_option maxRecDepth 20000 in
theorem xo_m_X2_countCarrying : xm_b xmi_X2_countCarrying (1, 7) (3, 211) (3, 212) = true := by decide +kernel
theorem xo_w_X2_countCarrying : Cond.code xmi_X2_countCarrying.2.1 xmi_X2_countCarrying.2.2.1 xmi_X2_countCarrying.2.2.2.1 xmi_X2_countCarrying.2.2.2.2.1 ∈ xG := xw_in2 (K := 3) (i := 213) rfl rfl
set_option maxRecDepth 20000 in
theorem xo_c_X2_countCarrying_0 : xc_b xmi_X2_countCarrying xc_X2_countCarrying 0 48 = true := by decide +kernel
theorem xo_r_X2_countCarrying : ∀ (pc : Nat) (r : xr_R), xcl xc_X2_countCarrying pc = some r → xr_b xmi_X2_countCarrying.1 (xm_ini xmi_X2_countCarrying) xmi_X2_countCarrying.2.2.1 pc r = true ∧ xr_c xM xmi_X2_countCarrying.1 r = true := xc_up_e (mi := xmi_X2_countCarrying) (cd := xc_X2_countCarrying) (N := 48) (xc_up_s (mi := xmi_X2_countCarrying) (cd := xc_X2_countCarrying) (lo := 0) (n := 48) xc_up_0 xo_c_X2_countCarrying_0) (by decide +kernel)
set_option maxRecDepth 20000 in
theorem xo_m_X2_isProper : xm_b xmi_X2_isProper (1, 7) (3, 216) (3, 217) = true := by decide +kernel
theorem xo_w_X2_isProper : Cond.code xmi_X2_isProper.2.1 xmi_X2_isProper.2.2.1 xmi_X2_isProper.2.2.2.1 xmi_X2_isProper.2.2.2.2.1 ∈ xG := xw_in2 (K := 3) (i := 218) rfl rfl
set_option maxRecDepth 20000 in
theorem xo_c_X2_isProper_0 : xc_b xmi_X2_isProper xc_X2_isProper 0 64 = true := by decide +kernel
theorem xo_r_X2_isProper : ∀ (pc : Nat) (r : xr_R), xcl xc_X2_isProper pc = some r → xr_b xmi_X2_isProper.1 (xm_ini xmi_X2_isProper) xmi_X2_isProper.2.2.1 pc r = true ∧ xr_c xM xmi_X2_isProper.1 r = true := xc_up_e (mi := xmi_X2_isProper) (cd := xc_X2_isProper) (N := 64) (xc_up_s (mi := xmi_X2_isProper) (cd := xc_X2_isProper) (lo := 0) (n := 64) xc_up_0 xo_c_X2_isProper_0) (by decide +kernel)
end XCK1
