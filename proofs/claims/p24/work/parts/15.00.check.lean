section XCK0
set_option maxRecDepth 20000 in
theorem xo_m_X0_init : xm_b xmi_X0_init (1, 9) (2, 35) (99, 0) = true := by decide +kernel
theorem xo_w_X0_init : Cond.code xmi_X0_init.2.1 xmi_X0_init.2.2.1 xmi_X0_init.2.2.2.1 xmi_X0_init.2.2.2.2.1 ∈ xG := xw_in2 (K := 2) (i := 36) rfl rfl
set_option maxRecDepth 20000 in
theorem xo_c_X0_init_0 : xc_b xmi_X0_init xc_X0_init 0 112 = true := by decide +kernel
theorem xo_r_X0_init : ∀ (pc : Nat) (r : xr_R), xcl xc_X0_init pc = some r → xr_b xmi_X0_init.1 (xm_ini xmi_X0_init) xmi_X0_init.2.2.1 pc r = true ∧ xr_c xM xmi_X0_init.1 r = true := xc_up_e (mi := xmi_X0_init) (cd := xc_X0_init) (N := 112) (xc_up_s (mi := xmi_X0_init) (cd := xc_X0_init) (lo := 0) (n := 112) xc_up_0 xo_c_X0_init_0) (by decide +kernel)
set_option maxRecDepth 20000 in
theorem xo_m_X0_isOption : xm_b xmi_X0_isOption (1, 9) (4, 113) (99, 0) = true := by decide +kernel
theorem xo_w_X0_isOption : Cond.code xmi_X0_isOption.2.1 xmi_X0_isOption.2.2.1 xmi_X0_isOption.2.2.2.1 xmi_X0_isOption.2.2.2.2.1 ∈ xG := xw_in2 (K := 4) (i := 114) rfl rfl
set_option maxRecDepth 20000 in
theorem xo_c_X0_isOption_0 : xc_b xmi_X0_isOption xc_X0_isOption 0 16 = true := by decide +kernel
theorem xo_r_X0_isOption : ∀ (pc : Nat) (r : xr_R), xcl xc_X0_isOption pc = some r → xr_b xmi_X0_isOption.1 (xm_ini xmi_X0_isOption) xmi_X0_isOption.2.2.1 pc r = true ∧ xr_c xM xmi_X0_isOption.1 r = true := xc_up_e (mi := xmi_X0_isOption) (cd := xc_X0_isOption) (N := 16) (xc_up_s (mi := xmi_X0_isOption) (cd := xc_X0_isOption) (lo := 0) (n := 16) xc_up_0 xo_c_X0_isOption_0) (by decide +kernel)
set_option maxRecDepth 20000 in
theorem xo_m_X0_isRow : xm_b xmi_X0_isRow (1, 9) (4, 108) (4, 109) = true := by decide +kernel
theorem xo_w_X0_isRow : Cond.code xmi_X0_isRow.2.1 xmi_X0_isRow.2.2.1 xmi_X0_isRow.2.2.2.1 xmi_X0_isRow.2.2.2.2.1 ∈ xG := xw_in2 (K := 4) (i := 110) rfl rfl
set_option maxRecDepth 20000 in
theorem xo_c_X0_isRow_0 : xc_b xmi_X0_isRow xc_X0_isRow 0 80 = true := by decide +kernel
theorem xo_r_X0_isRow : ∀ (pc : Nat) (r : xr_R), xcl xc_X0_isRow pc = some r → xr_b xmi_X0_isRow.1 (xm_ini xmi_X0_isRow) xmi_X0_isRow.2.2.1 pc r = true ∧ xr_c xM xmi_X0_isRow.1 r = true := xc_up_e (mi := xmi_X0_isRow) (cd := xc_X0_isRow) (N := 80) (xc_up_s (mi := xmi_X0_isRow) (cd := xc_X0_isRow) (lo := 0) (n := 80) xc_up_0 xo_c_X0_isRow_0) (by decide +kernel)
set_option maxRecDepth 20000 in
theorem xo_m_X0_order : xm_b xmi_X0_order (1, 9) (4, 116) (4, 117) = true := by decide +kernel
theorem xo_w_X0_order : Cond.code xmi_X0_order.2.1 xmi_X0_order.2.2.1 xmi_X0_order.2.2.2.1 xmi_X0_order.2.2.2.2.1 ∈ xG := xw_in2 (K := 4) (i := 118) rfl rfl
set_option maxRecDepth 20000 in
theorem xo_c_X0_order_0 : xc_b xmi_X0_order xc_X0_order 0 48 = true := by decide +kernel
theorem xo_r_X0_order : ∀ (pc : Nat) (r : xr_R), xcl xc_X0_order pc = some r → xr_b xmi_X0_order.1 (xm_ini xmi_X0_order) xmi_X0_order.2.2.1 pc r = true ∧ xr_c xM xmi_X0_order.1 r = true := xc_up_e (mi := xmi_X0_order) (cd := xc_X0_order) (N := 48) (xc_up_s (mi := xmi_X0_order) (cd := xc_X0_order) (lo := 0) (n := 48) xc_up_0 xo_c_X0_order_0) (by decide +kernel)
set_option maxRecDepth 20000 in
theorem xo_m_X0_whoPrefer : xm_b xmi_X0_whoPrefer (1, 9) (4, 125) (4, 126) = true := by decide +kernel
theorem xo_w_X0_whoPrefer : Cond.code xmi_X0_whoPrefer.2.1 xmi_X0_whoPrefer.2.2.1 xmi_X0_whoPrefer.2.2.2.1 xmi_X0_whoPrefer.2.2.2.2.1 ∈ xG := xw_in2 (K := 4) (i := 127) rfl rfl
set_option maxRecDepth 20000 in
theorem xo_c_X0_whoPrefer_0 : xc_b xmi_X0_whoPrefer xc_X0_whoPrefer 0 64 = true := by decide +kernel
theorem xo_r_X0_whoPrefer : ∀ (pc : Nat) (r : xr_R), xcl xc_X0_whoPrefer pc = some r → xr_b xmi_X0_whoPrefer.1 (xm_ini xmi_X0_whoPrefer) xmi_X0_whoPrefer.2.2.1 pc r = true ∧ xr_c xM xmi_X0_whoPrefer.1 r = true := xc_up_e (mi := xmi_X0_whoPrefer) (cd := xc_X0_whoPrefer) (N := 64) (xc_up_s (mi := xmi_X0_whoPrefer) (cd := xc_X0_whoPrefer) (lo := 0) (n := 64) xc_up_0 xo_c_X0_whoPrefer_0) (by decide +kernel)
set_option maxRecDepth 20000 in
theorem xo_m_X0_match : xm_b xmi_X0_match (1, 9) (4, 133) (4, 134) = true := by decide +kernel
theorem xo_w_X0_match : Cond.code xmi_X0_match.2.1 xmi_X0_match.2.2.1 xmi_X0_match.2.2.2.1 xmi_X0_match.2.2.2.2.1 ∈ xG := xw_in2 (K := 4) (i := 135) rfl rfl
set_option maxRecDepth 20000 in
theorem xo_c_X0_match_0 : xc_b xmi_X0_match xc_X0_match 0 80 = true := by decide +kernel
theorem xo_r_X0_match : ∀ (pc : Nat) (r : xr_R), xcl xc_X0_match pc = some r → xr_b xmi_X0_match.1 (xm_ini xmi_X0_match) xmi_X0_match.2.2.1 pc r = true ∧ xr_c xM xmi_X0_match.1 r = true := xc_up_e (mi := xmi_X0_match) (cd := xc_X0_match) (N := 80) (xc_up_s (mi := xmi_X0_match) (cd := xc_X0_match) (lo := 0) (n := 80) xc_up_0 xo_c_X0_match_0) (by decide +kernel)
set_option maxRecDepth 20000 in
theorem xo_m_X0_wins : xm_b xmi_X0_wins (1, 9) (4, 156) (0, 49) = true := by decide +kernel
theorem xo_w_X0_wins : Cond.code xmi_X0_wins.2.1 xmi_X0_wins.2.2.1 xmi_X0_wins.2.2.2.1 xmi_X0_wins.2.2.2.2.1 ∈ xG := xw_in2 (K := 4) (i := 157) rfl rfl
set_option maxRecDepth 20000 in
theorem xo_c_X0_wins_0 : xc_b xmi_X0_wins xc_X0_wins 0 32 = true := by decide +kernel
theorem xo_r_X0_wins : ∀ (pc : Nat) (r : xr_R), xcl xc_X0_wins pc = some r → xr_b xmi_X0_wins.1 (xm_ini xmi_X0_wins) xmi_X0_wins.2.2.1 pc r = true ∧ xr_c xM xmi_X0_wins.1 r = true := xc_up_e (mi := xmi_X0_wins) (cd := xc_X0_wins) (N := 32) (xc_up_s (mi := xmi_X0_wins) (cd := xc_X0_wins) (lo := 0) (n := 32) xc_up_0 xo_c_X0_wins_0) (by decide +kernel)
set_option maxRecDepth 20000 in
theorem xo_m_X0_unbeaten : xm_b xmi_X0_unbeaten (1, 9) (4, 139) (4, 140) = true := by decide +kernel
theorem xo_w_X0_unbeaten : Cond.code xmi_X0_unbeaten.2.1 xmi_X0_unbeaten.2.2.1 xmi_X0_unbeaten.2.2.2.1 xmi_X0_unbeaten.2.2.2.2.1 ∈ xG := xw_in2 (K := 4) (i := 141) rfl rfl
set_option maxRecDepth 20000 in
theorem xo_c_X0_unbeaten_0 : xc_b xmi_X0_unbeaten xc_X0_unbeaten 0 32 = true := by decide +kernel
theorem xo_r_X0_unbeaten : ∀ (pc : Nat) (r : xr_R), xcl xc_X0_unbeaten pc = some r → xr_b xmi_X0_unbeaten.1 (xm_ini xmi_X0_unbeaten) xmi_X0_unbeaten.2.2.1 pc r = true ∧ xr_c xM xmi_X0_unbeaten.1 r = true := xc_up_e (mi := xmi_X0_unbeaten) (cd := xc_X0_unbeaten) (N := 32) (xc_up_s (mi := xmi_X0_unbeaten) (cd := xc_X0_unbeaten) (lo := 0) (n := 32) xc_up_0 xo_c_X0_unbeaten_0) (by decide +kernel)
set_option maxRecDepth 20000 in
theorem xo_m_X0_best : xm_b xmi_X0_best (1, 9) (4, 147) (4, 148) = true := by decide +kernel
theorem xo_w_X0_best : Cond.code xmi_X0_best.2.1 xmi_X0_best.2.2.1 xmi_X0_best.2.2.2.1 xmi_X0_best.2.2.2.2.1 ∈ xG := xw_in2 (K := 4) (i := 149) rfl rfl
set_option maxRecDepth 20000 in
theorem xo_c_X0_best_0 : xc_b xmi_X0_best xc_X0_best 0 80 = true := by decide +kernel
theorem xo_r_X0_best : ∀ (pc : Nat) (r : xr_R), xcl xc_X0_best pc = some r → xr_b xmi_X0_best.1 (xm_ini xmi_X0_best) xmi_X0_best.2.2.1 pc r = true ∧ xr_c xM xmi_X0_best.1 r = true := xc_up_e (mi := xmi_X0_best) (cd := xc_X0_best) (N := 80) (xc_up_s (mi := xmi_X0_best) (cd := xc_X0_best) (lo := 0) (n := 80) xc_up_0 xo_c_X0_best_0) (by decide +kernel)
set_option maxRecDepth 20000 in
theorem xo_m_X0_findReach : xm_b xmi_X0_findReach (1, 9) (4, 152) (0, 48) = true := by decide +kernel
theorem xo_w_X0_findReach : Cond.code xmi_X0_findReach.2.1 xmi_X0_findReach.2.2.1 xmi_X0_findReach.2.2.2.1 xmi_X0_findReach.2.2.2.2.1 ∈ xG := xw_in2 (K := 4) (i := 153) rfl rfl
set_option maxRecDepth 20000 in
theorem xo_c_X0_findReach_0 : xc_b xmi_X0_findReach xc_X0_findReach 0 112 = true := by decide +kernel
set_option maxRecDepth 20000 in
theorem xo_c_X0_findReach_112 : xc_b xmi_X0_findReach xc_X0_findReach 112 16 = true := by decide +kernel
theorem xo_r_X0_findReach : ∀ (pc : Nat) (r : xr_R), xcl xc_X0_findReach pc = some r → xr_b xmi_X0_findReach.1 (xm_ini xmi_X0_findReach) xmi_X0_findReach.2.2.1 pc r = true ∧ xr_c xM xmi_X0_findReach.1 r = true := xc_up_e (mi := xmi_X0_findReach) (cd := xc_X0_findReach) (N := 128) (xc_up_s (mi := xmi_X0_findReach) (cd := xc_X0_findReach) (lo := 112) (n := 16) (xc_up_s (mi := xmi_X0_findReach) (cd := xc_X0_findReach) (lo := 0) (n := 112) xc_up_0 xo_c_X0_findReach_0) xo_c_X0_findReach_112) (by decide +kernel)
set_option maxRecDepth 20000 in
theorem xo_m_X0_stands : xm_b xmi_X0_stands (1, 9) (4, 168) (0, 50) = true := by decide +kernel
theorem xo_w_X0_stands : Cond.code xmi_X0_stands.2.1 xmi_X0_stands.2.2.1 xmi_X0_stands.2.2.2.1 xmi_X0_stands.2.2.2.2.1 ∈ xG := xw_in2 (K := 4) (i := 169) rfl rfl
set_option maxRecDepth 20000 in
theorem xo_c_X0_stands_0 : xc_b xmi_X0_stands xc_X0_stands 0 16 = true := by decide +kernel
theorem xo_r_X0_stands : ∀ (pc : Nat) (r : xr_R), xcl xc_X0_stands pc = some r → xr_b xmi_X0_stands.1 (xm_ini xmi_X0_stands) xmi_X0_stands.2.2.1 pc r = true ∧ xr_c xM xmi_X0_stands.1 r = true := xc_up_e (mi := xmi_X0_stands) (cd := xc_X0_stands) (N := 16) (xc_up_s (mi := xmi_X0_stands) (cd := xc_X0_stands) (lo := 0) (n := 16) xc_up_0 xo_c_X0_stands_0) (by decide +kernel)
set_option maxRecDepth 20000 in
theorem xo_m_X0_follow : xm_b xmi_X0_follow (1, 9) (4, 171) (4, 172) = true := by decide +kernel
theorem xo_w_X0_follow : Cond.code xmi_X0_follow.2.1 xmi_X0_follow.2.2.1 xmi_X0_follow.2.2.2.1 xmi_X0_follow.2.2.2.2.1 ∈ xG := xw_in2 (K := 4) (i := 173) rfl rfl
set_option maxRecDepth 20000 in
theorem xo_c_X0_follow_0 : xc_b xmi_X0_follow xc_X0_follow 0 48 = true := by decide +kernel
theorem xo_r_X0_follow : ∀ (pc : Nat) (r : xr_R), xcl xc_X0_follow pc = some r → xr_b xmi_X0_follow.1 (xm_ini xmi_X0_follow) xmi_X0_follow.2.2.1 pc r = true ∧ xr_c xM xmi_X0_follow.1 r = true := xc_up_e (mi := xmi_X0_follow) (cd := xc_X0_follow) (N := 48) (xc_up_s (mi := xmi_X0_follow) (cd := xc_X0_follow) (lo := 0) (n := 48) xc_up_0 xo_c_X0_follow_0) (by decide +kernel)
set_option maxRecDepth 20000 in
theorem xo_m_X0_foresee : xm_b xmi_X0_foresee (1, 9) (4, 163) (4, 164) = true := by decide +kernel
theorem xo_w_X0_foresee : Cond.code xmi_X0_foresee.2.1 xmi_X0_foresee.2.2.1 xmi_X0_foresee.2.2.2.1 xmi_X0_foresee.2.2.2.2.1 ∈ xG := xw_in2 (K := 4) (i := 165) rfl rfl
set_option maxRecDepth 20000 in
theorem xo_c_X0_foresee_0 : xc_b xmi_X0_foresee xc_X0_foresee 0 112 = true := by decide +kernel
theorem xo_r_X0_foresee : ∀ (pc : Nat) (r : xr_R), xcl xc_X0_foresee pc = some r → xr_b xmi_X0_foresee.1 (xm_ini xmi_X0_foresee) xmi_X0_foresee.2.2.1 pc r = true ∧ xr_c xM xmi_X0_foresee.1 r = true := xc_up_e (mi := xmi_X0_foresee) (cd := xc_X0_foresee) (N := 112) (xc_up_s (mi := xmi_X0_foresee) (cd := xc_X0_foresee) (lo := 0) (n := 112) xc_up_0 xo_c_X0_foresee_0) (by decide +kernel)
set_option maxRecDepth 20000 in
theorem xo_m_X0_countRows : xm_b xmi_X0_countRows (1, 9) (4, 179) (4, 180) = true := by decide +kernel
theorem xo_w_X0_countRows : Cond.code xmi_X0_countRows.2.1 xmi_X0_countRows.2.2.1 xmi_X0_countRows.2.2.2.1 xmi_X0_countRows.2.2.2.2.1 ∈ xG := xw_in2 (K := 4) (i := 181) rfl rfl
set_option maxRecDepth 20000 in
theorem xo_c_X0_countRows_0 : xc_b xmi_X0_countRows xc_X0_countRows 0 48 = true := by decide +kernel
theorem xo_r_X0_countRows : ∀ (pc : Nat) (r : xr_R), xcl xc_X0_countRows pc = some r → xr_b xmi_X0_countRows.1 (xm_ini xmi_X0_countRows) xmi_X0_countRows.2.2.1 pc r = true ∧ xr_c xM xmi_X0_countRows.1 r = true := xc_up_e (mi := xmi_X0_countRows) (cd := xc_X0_countRows) (N := 48) (xc_up_s (mi := xmi_X0_countRows) (cd := xc_X0_countRows) (lo := 0) (n := 48) xc_up_0 xo_c_X0_countRows_0) (by decide +kernel)
set_option maxRecDepth 20000 in
theorem xo_m_X0_waysFrom : xm_b xmi_X0_waysFrom (1, 9) (4, 188) (0, 52) = true := by decide +kernel
theorem xo_w_X0_waysFrom : Cond.code xmi_X0_waysFrom.2.1 xmi_X0_waysFrom.2.2.1 xmi_X0_waysFrom.2.2.2.1 xmi_X0_waysFrom.2.2.2.2.1 ∈ xG := xw_in2 (K := 4) (i := 189) rfl rfl
set_option maxRecDepth 20000 in
theorem xo_c_X0_waysFrom_0 : xc_b xmi_X0_waysFrom xc_X0_waysFrom 0 16 = true := by decide +kernel
theorem xo_r_X0_waysFrom : ∀ (pc : Nat) (r : xr_R), xcl xc_X0_waysFrom pc = some r → xr_b xmi_X0_waysFrom.1 (xm_ini xmi_X0_waysFrom) xmi_X0_waysFrom.2.2.1 pc r = true ∧ xr_c xM xmi_X0_waysFrom.1 r = true := xc_up_e (mi := xmi_X0_waysFrom) (cd := xc_X0_waysFrom) (N := 16) (xc_up_s (mi := xmi_X0_waysFrom) (cd := xc_X0_waysFrom) (lo := 0) (n := 16) xc_up_0 xo_c_X0_waysFrom_0) (by decide +kernel)
set_option maxRecDepth 20000 in
theorem xo_m_X0_countWays : xm_b xmi_X0_countWays (1, 9) (4, 184) (0, 51) = true := by decide +kernel
theorem xo_w_X0_countWays : Cond.code xmi_X0_countWays.2.1 xmi_X0_countWays.2.2.1 xmi_X0_countWays.2.2.2.1 xmi_X0_countWays.2.2.2.2.1 ∈ xG := xw_in2 (K := 4) (i := 185) rfl rfl
set_option maxRecDepth 20000 in
theorem xo_c_X0_countWays_0 : xc_b xmi_X0_countWays xc_X0_countWays 0 112 = true := by decide +kernel
set_option maxRecDepth 20000 in
theorem xo_c_X0_countWays_112 : xc_b xmi_X0_countWays xc_X0_countWays 112 16 = true := by decide +kernel
theorem xo_r_X0_countWays : ∀ (pc : Nat) (r : xr_R), xcl xc_X0_countWays pc = some r → xr_b xmi_X0_countWays.1 (xm_ini xmi_X0_countWays) xmi_X0_countWays.2.2.1 pc r = true ∧ xr_c xM xmi_X0_countWays.1 r = true := xc_up_e (mi := xmi_X0_countWays) (cd := xc_X0_countWays) (N := 128) (xc_up_s (mi := xmi_X0_countWays) (cd := xc_X0_countWays) (lo := 112) (n := 16) (xc_up_s (mi := xmi_X0_countWays) (cd := xc_X0_countWays) (lo := 0) (n := 112) xc_up_0 xo_c_X0_countWays_0) xo_c_X0_countWays_112) (by decide +kernel)
set_option maxRecDepth 20000 in
theorem xo_m_X0_findFirstRow : xm_b xmi_X0_findFirstRow (1, 9) (4, 192) (0, 53) = true := by decide +kernel
theorem xo_w_X0_findFirstRow : Cond.code xmi_X0_findFirstRow.2.1 xmi_X0_findFirstRow.2.2.1 xmi_X0_findFirstRow.2.2.2.1 xmi_X0_findFirstRow.2.2.2.2.1 ∈ xG := xw_in2 (K := 4) (i := 193) rfl rfl
set_option maxRecDepth 20000 in
theorem xo_c_X0_findFirstRow_0 : xc_b xmi_X0_findFirstRow xc_X0_findFirstRow 0 112 = true := by decide +kernel
theorem xo_r_X0_findFirstRow : ∀ (pc : Nat) (r : xr_R), xcl xc_X0_findFirstRow pc = some r → xr_b xmi_X0_findFirstRow.1 (xm_ini xmi_X0_findFirstRow) xmi_X0_findFirstRow.2.2.1 pc r = true ∧ xr_c xM xmi_X0_findFirstRow.1 r = true := xc_up_e (mi := xmi_X0_findFirstRow) (cd := xc_X0_findFirstRow) (N := 112) (xc_up_s (mi := xmi_X0_findFirstRow) (cd := xc_X0_findFirstRow) (lo := 0) (n := 112) xc_up_0 xo_c_X0_findFirstRow_0) (by decide +kernel)
set_option maxRecDepth 20000 in
theorem xo_m_X1_init : xm_b xmi_X1_init (1, 10) (2, 65) (99, 0) = true := by decide +kernel
theorem xo_w_X1_init : Cond.code xmi_X1_init.2.1 xmi_X1_init.2.2.1 xmi_X1_init.2.2.2.1 xmi_X1_init.2.2.2.2.1 ∈ xG := xw_in2 (K := 2) (i := 66) rfl rfl
set_option maxRecDepth 20000 in
theorem xo_c_X1_init_0 : xc_b xmi_X1_init xc_X1_init 0 48 = true := by decide +kernel
theorem xo_r_X1_init : ∀ (pc : Nat) (r : xr_R), xcl xc_X1_init pc = some r → xr_b xmi_X1_init.1 (xm_ini xmi_X1_init) xmi_X1_init.2.2.1 pc r = true ∧ xr_c xM xmi_X1_init.1 r = true := xc_up_e (mi := xmi_X1_init) (cd := xc_X1_init) (N := 48) (xc_up_s (mi := xmi_X1_init) (cd := xc_X1_init) (lo := 0) (n := 48) xc_up_0 xo_c_X1_init_0) (by decide +kernel)
set_option maxRecDepth 20000 in
theorem xo_m_X1_add : xm_b xmi_X1_add (1, 10) (4, 203) (4, 204) = true := by decide +kernel
theorem xo_w_X1_add : Cond.code xmi_X1_add.2.1 xmi_X1_add.2.2.1 xmi_X1_add.2.2.2.1 xmi_X1_add.2.2.2.2.1 ∈ xG := xw_in2 (K := 4) (i := 205) rfl rfl
set_option maxRecDepth 20000 in
theorem xo_c_X1_add_0 : xc_b xmi_X1_add xc_X1_add 0 64 = true := by decide +kernel
theorem xo_r_X1_add : ∀ (pc : Nat) (r : xr_R), xcl xc_X1_add pc = some r → xr_b xmi_X1_add.1 (xm_ini xmi_X1_add) xmi_X1_add.2.2.1 pc r = true ∧ xr_c xM xmi_X1_add.1 r = true := xc_up_e (mi := xmi_X1_add) (cd := xc_X1_add) (N := 64) (xc_up_s (mi := xmi_X1_add) (cd := xc_X1_add) (lo := 0) (n := 64) xc_up_0 xo_c_X1_add_0) (by decide +kernel)
set_option maxRecDepth 20000 in
theorem xo_m_X1_judge : xm_b xmi_X1_judge (1, 10) (4, 215) (4, 216) = true := by decide +kernel
theorem xo_w_X1_judge : Cond.code xmi_X1_judge.2.1 xmi_X1_judge.2.2.1 xmi_X1_judge.2.2.2.1 xmi_X1_judge.2.2.2.2.1 ∈ xG := xw_in2 (K := 4) (i := 217) rfl rfl
set_option maxRecDepth 20000 in
theorem xo_c_X1_judge_0 : xc_b xmi_X1_judge xc_X1_judge 0 112 = true := by decide +kernel
set_option maxRecDepth 20000 in
theorem xo_c_X1_judge_112 : xc_b xmi_X1_judge xc_X1_judge 112 16 = true := by decide +kernel
theorem xo_r_X1_judge : ∀ (pc : Nat) (r : xr_R), xcl xc_X1_judge pc = some r → xr_b xmi_X1_judge.1 (xm_ini xmi_X1_judge) xmi_X1_judge.2.2.1 pc r = true ∧ xr_c xM xmi_X1_judge.1 r = true := xc_up_e (mi := xmi_X1_judge) (cd := xc_X1_judge) (N := 128) (xc_up_s (mi := xmi_X1_judge) (cd := xc_X1_judge) (lo := 112) (n := 16) (xc_up_s (mi := xmi_X1_judge) (cd := xc_X1_judge) (lo := 0) (n := 112) xc_up_0 xo_c_X1_judge_0) xo_c_X1_judge_112) (by decide +kernel)
set_option maxRecDepth 20000 in
theorem xo_m_X2_init : xm_b xmi_X2_init (1, 7) (1, 159) (99, 0) = true := by decide +kernel
theorem xo_w_X2_init : Cond.code xmi_X2_init.2.1 xmi_X2_init.2.2.1 xmi_X2_init.2.2.2.1 xmi_X2_init.2.2.2.2.1 ∈ xG := xw_in2 (K := 1) (i := 160) rfl rfl
set_option maxRecDepth 20000 in
theorem xo_c_X2_init_0 : xc_b xmi_X2_init xc_X2_init 0 80 = true := by decide +kernel
theorem xo_r_X2_init : ∀ (pc : Nat) (r : xr_R), xcl xc_X2_init pc = some r → xr_b xmi_X2_init.1 (xm_ini xmi_X2_init) xmi_X2_init.2.2.1 pc r = true ∧ xr_c xM xmi_X2_init.1 r = true := xc_up_e (mi := xmi_X2_init) (cd := xc_X2_init) (N := 80) (xc_up_s (mi := xmi_X2_init) (cd := xc_X2_init) (lo := 0) (n := 80) xc_up_0 xo_c_X2_init_0) (by decide +kernel)
set_option maxRecDepth 20000 in
theorem xo_m_X2_isOf : xm_b xmi_X2_isOf (1, 7) (3, 167) (3, 168) = true := by decide +kernel
theorem xo_w_X2_isOf : Cond.code xmi_X2_isOf.2.1 xmi_X2_isOf.2.2.1 xmi_X2_isOf.2.2.2.1 xmi_X2_isOf.2.2.2.2.1 ∈ xG := xw_in2 (K := 3) (i := 169) rfl rfl
set_option maxRecDepth 20000 in
theorem xo_c_X2_isOf_0 : xc_b xmi_X2_isOf xc_X2_isOf 0 32 = true := by decide +kernel
theorem xo_r_X2_isOf : ∀ (pc : Nat) (r : xr_R), xcl xc_X2_isOf pc = some r → xr_b xmi_X2_isOf.1 (xm_ini xmi_X2_isOf) xmi_X2_isOf.2.2.1 pc r = true ∧ xr_c xM xmi_X2_isOf.1 r = true := xc_up_e (mi := xmi_X2_isOf) (cd := xc_X2_isOf) (N := 32) (xc_up_s (mi := xmi_X2_isOf) (cd := xc_X2_isOf) (lo := 0) (n := 32) xc_up_0 xo_c_X2_isOf_0) (by decide +kernel)
set_option maxRecDepth 20000 in
theorem xo_m_X2_study : xm_b xmi_X2_study (1, 7) (3, 163) (3, 164) = true := by decide +kernel
theorem xo_w_X2_study : Cond.code xmi_X2_study.2.1 xmi_X2_study.2.2.1 xmi_X2_study.2.2.2.1 xmi_X2_study.2.2.2.2.1 ∈ xG := xw_in2 (K := 3) (i := 165) rfl rfl
set_option maxRecDepth 20000 in
theorem xo_c_X2_study_0 : xc_b xmi_X2_study xc_X2_study 0 96 = true := by decide +kernel
theorem xo_r_X2_study : ∀ (pc : Nat) (r : xr_R), xcl xc_X2_study pc = some r → xr_b xmi_X2_study.1 (xm_ini xmi_X2_study) xmi_X2_study.2.2.1 pc r = true ∧ xr_c xM xmi_X2_study.1 r = true := xc_up_e (mi := xmi_X2_study) (cd := xc_X2_study) (N := 96) (xc_up_s (mi := xmi_X2_study) (cd := xc_X2_study) (lo := 0) (n := 96) xc_up_0 xo_c_X2_study_0) (by decide +kernel)
set_option maxRecDepth 20000 in
theorem xo_m_X2_list : xm_b xmi_X2_list (1, 7) (3, 172) (0, 24) = true := by decide +kernel
theorem xo_w_X2_list : Cond.code xmi_X2_list.2.1 xmi_X2_list.2.2.1 xmi_X2_list.2.2.2.1 xmi_X2_list.2.2.2.2.1 ∈ xG := xw_in2 (K := 3) (i := 173) rfl rfl
set_option maxRecDepth 20000 in
theorem xo_c_X2_list_0 : xc_b xmi_X2_list xc_X2_list 0 112 = true := by decide +kernel
set_option maxRecDepth 20000 in
theorem xo_c_X2_list_112 : xc_b xmi_X2_list xc_X2_list 112 64 = true := by decide +kernel
theorem xo_r_X2_list : ∀ (pc : Nat) (r : xr_R), xcl xc_X2_list pc = some r → xr_b xmi_X2_list.1 (xm_ini xmi_X2_list) xmi_X2_list.2.2.1 pc r = true ∧ xr_c xM xmi_X2_list.1 r = true := xc_up_e (mi := xmi_X2_list) (cd := xc_X2_list) (N := 176) (xc_up_s (mi := xmi_X2_list) (cd := xc_X2_list) (lo := 112) (n := 64) (xc_up_s (mi := xmi_X2_list) (cd := xc_X2_list) (lo := 0) (n := 112) xc_up_0 xo_c_X2_list_0) xo_c_X2_list_112) (by decide +kernel)
set_option maxRecDepth 20000 in
theorem xo_m_X2_isMinimal : xm_b xmi_X2_isMinimal (1, 7) (3, 176) (0, 25) = true := by decide +kernel
theorem xo_w_X2_isMinimal : Cond.code xmi_X2_isMinimal.2.1 xmi_X2_isMinimal.2.2.1 xmi_X2_isMinimal.2.2.2.1 xmi_X2_isMinimal.2.2.2.2.1 ∈ xG := xw_in2 (K := 3) (i := 177) rfl rfl
set_option maxRecDepth 20000 in
theorem xo_c_X2_isMinimal_0 : xc_b xmi_X2_isMinimal xc_X2_isMinimal 0 64 = true := by decide +kernel
theorem xo_r_X2_isMinimal : ∀ (pc : Nat) (r : xr_R), xcl xc_X2_isMinimal pc = some r → xr_b xmi_X2_isMinimal.1 (xm_ini xmi_X2_isMinimal) xmi_X2_isMinimal.2.2.1 pc r = true ∧ xr_c xM xmi_X2_isMinimal.1 r = true := xc_up_e (mi := xmi_X2_isMinimal) (cd := xc_X2_isMinimal) (N := 64) (xc_up_s (mi := xmi_X2_isMinimal) (cd := xc_X2_isMinimal) (lo := 0) (n := 64) xc_up_0 xo_c_X2_isMinimal_0) (by decide +kernel)
set_option maxRecDepth 20000 in
theorem xo_m_X2_does : xm_b xmi_X2_does (1, 7) (3, 180) (0, 26) = true := by decide +kernel
theorem xo_w_X2_does : Cond.code xmi_X2_does.2.1 xmi_X2_does.2.2.1 xmi_X2_does.2.2.2.1 xmi_X2_does.2.2.2.2.1 ∈ xG := xw_in2 (K := 3) (i := 181) rfl rfl
set_option maxRecDepth 20000 in
theorem xo_c_X2_does_0 : xc_b xmi_X2_does xc_X2_does 0 48 = true := by decide +kernel
theorem xo_r_X2_does : ∀ (pc : Nat) (r : xr_R), xcl xc_X2_does pc = some r → xr_b xmi_X2_does.1 (xm_ini xmi_X2_does) xmi_X2_does.2.2.1 pc r = true ∧ xr_c xM xmi_X2_does.1 r = true := xc_up_e (mi := xmi_X2_does) (cd := xc_X2_does) (N := 48) (xc_up_s (mi := xmi_X2_does) (cd := xc_X2_does) (lo := 0) (n := 48) xc_up_0 xo_c_X2_does_0) (by decide +kernel)
set_option maxRecDepth 20000 in
theorem xo_m_X2_markNeeded : xm_b xmi_X2_markNeeded (1, 7) (3, 192) (0, 27) = true := by decide +kernel
theorem xo_w_X2_markNeeded : Cond.code xmi_X2_markNeeded.2.1 xmi_X2_markNeeded.2.2.1 xmi_X2_markNeeded.2.2.2.1 xmi_X2_markNeeded.2.2.2.2.1 ∈ xG := xw_in2 (K := 3) (i := 193) rfl rfl
set_option maxRecDepth 20000 in
theorem xo_c_X2_markNeeded_0 : xc_b xmi_X2_markNeeded xc_X2_markNeeded 0 80 = true := by decide +kernel
theorem xo_r_X2_markNeeded : ∀ (pc : Nat) (r : xr_R), xcl xc_X2_markNeeded pc = some r → xr_b xmi_X2_markNeeded.1 (xm_ini xmi_X2_markNeeded) xmi_X2_markNeeded.2.2.1 pc r = true ∧ xr_c xM xmi_X2_markNeeded.1 r = true := xc_up_e (mi := xmi_X2_markNeeded) (cd := xc_X2_markNeeded) (N := 80) (xc_up_s (mi := xmi_X2_markNeeded) (cd := xc_X2_markNeeded) (lo := 0) (n := 80) xc_up_0 xo_c_X2_markNeeded_0) (by decide +kernel)
set_option maxRecDepth 20000 in
theorem xo_m_X2_turnsBy : xm_b xmi_X2_turnsBy (1, 7) (3, 200) (0, 29) = true := by decide +kernel
theorem xo_w_X2_turnsBy : Cond.code xmi_X2_turnsBy.2.1 xmi_X2_turnsBy.2.2.1 xmi_X2_turnsBy.2.2.2.1 xmi_X2_turnsBy.2.2.2.2.1 ∈ xG := xw_in2 (K := 3) (i := 201) rfl rfl
set_option maxRecDepth 20000 in
theorem xo_c_X2_turnsBy_0 : xc_b xmi_X2_turnsBy xc_X2_turnsBy 0 48 = true := by decide +kernel
theorem xo_r_X2_turnsBy : ∀ (pc : Nat) (r : xr_R), xcl xc_X2_turnsBy pc = some r → xr_b xmi_X2_turnsBy.1 (xm_ini xmi_X2_turnsBy) xmi_X2_turnsBy.2.2.1 pc r = true ∧ xr_c xM xmi_X2_turnsBy.1 r = true := xc_up_e (mi := xmi_X2_turnsBy) (cd := xc_X2_turnsBy) (N := 48) (xc_up_s (mi := xmi_X2_turnsBy) (cd := xc_X2_turnsBy) (lo := 0) (n := 48) xc_up_0 xo_c_X2_turnsBy_0) (by decide +kernel)
set_option maxRecDepth 20000 in
theorem xo_m_X2_countSwings : xm_b xmi_X2_countSwings (1, 7) (3, 196) (0, 28) = true := by decide +kernel
theorem xo_w_X2_countSwings : Cond.code xmi_X2_countSwings.2.1 xmi_X2_countSwings.2.2.1 xmi_X2_countSwings.2.2.2.1 xmi_X2_countSwings.2.2.2.2.1 ∈ xG := xw_in2 (K := 3) (i := 197) rfl rfl
set_option maxRecDepth 20000 in
theorem xo_c_X2_countSwings_0 : xc_b xmi_X2_countSwings xc_X2_countSwings 0 32 = true := by decide +kernel
theorem xo_r_X2_countSwings : ∀ (pc : Nat) (r : xr_R), xcl xc_X2_countSwings pc = some r → xr_b xmi_X2_countSwings.1 (xm_ini xmi_X2_countSwings) xmi_X2_countSwings.2.2.1 pc r = true ∧ xr_c xM xmi_X2_countSwings.1 r = true := xc_up_e (mi := xmi_X2_countSwings) (cd := xc_X2_countSwings) (N := 32) (xc_up_s (mi := xmi_X2_countSwings) (cd := xc_X2_countSwings) (lo := 0) (n := 32) xc_up_0 xo_c_X2_countSwings_0) (by decide +kernel)
set_option maxRecDepth 20000 in
theorem xo_m_X2_countCarrying : xm_b xmi_X2_countCarrying (1, 7) (3, 211) (3, 212) = true := by decide +kernel
theorem xo_w_X2_countCarrying : Cond.code xmi_X2_countCarrying.2.1 xmi_X2_countCarrying.2.2.1 xmi_X2_countCarrying.2.2.2.1 xmi_X2_countCarrying.2.2.2.2.1 ∈ xG := xw_in2 (K := 3) (i := 213) rfl rfl
set_option maxRecDepth 20000 in
theorem xo_c_X2_countCarrying_0 : xc_b xmi_X2_countCarrying xc_X2_countCarrying 0 48 = true := by decide +kernel
theorem xo_r_X2_countCarrying : ∀ (pc : Nat) (r : xr_R), xcl xc_X2_countCarrying pc = some r → xr_b xmi_X2_countCarrying.1 (xm_ini xmi_X2_countCarrying) xmi_X2_countCarrying.2.2.1 pc r = true ∧ xr_c xM xmi_X2_countCarrying.1 r = true := xc_up_e (mi := xmi_X2_countCarrying) (cd := xc_X2_countCarrying) (N := 48) (xc_up_s (mi := xmi_X2_countCarrying) (cd := xc_X2_countCarrying) (lo := 0) (n := 48) xc_up_0 xo_c_X2_countCarrying_0) (by decide +kernel)
set_option maxRecDepth 20000 in
theorem xo_m_X2_isProper : xm_b xmi_X2_isProper (1, 7) (3, 216) (3, 217) = true := by decide +kernel
theorem xo_w_X2_isProper : Cond.code xmi_X2_isProper.2.1 xmi_X2_isProper.2.2.1 xmi_X2_isProper.2.2.2.1 xmi_X2_isProper.2.2.2.2.1 ∈ xG := xw_in2 (K := 3) (i := 218) rfl rfl
set_option maxRecDepth 20000 in
theorem xo_c_X2_isProper_0 : xc_b xmi_X2_isProper xc_X2_isProper 0 64 = true := by decide +kernel
theorem xo_r_X2_isProper : ∀ (pc : Nat) (r : xr_R), xcl xc_X2_isProper pc = some r → xr_b xmi_X2_isProper.1 (xm_ini xmi_X2_isProper) xmi_X2_isProper.2.2.1 pc r = true ∧ xr_c xM xmi_X2_isProper.1 r = true := xc_up_e (mi := xmi_X2_isProper) (cd := xc_X2_isProper) (N := 64) (xc_up_s (mi := xmi_X2_isProper) (cd := xc_X2_isProper) (lo := 0) (n := 64) xc_up_0 xo_c_X2_isProper_0) (by decide +kernel)
set_option maxRecDepth 20000 in
theorem xo_m_X2_isStrong : xm_b xmi_X2_isStrong (1, 7) (3, 220) (3, 221) = true := by decide +kernel
theorem xo_w_X2_isStrong : Cond.code xmi_X2_isStrong.2.1 xmi_X2_isStrong.2.2.1 xmi_X2_isStrong.2.2.2.1 xmi_X2_isStrong.2.2.2.2.1 ∈ xG := xw_in2 (K := 3) (i := 222) rfl rfl
set_option maxRecDepth 20000 in
theorem xo_c_X2_isStrong_0 : xc_b xmi_X2_isStrong xc_X2_isStrong 0 64 = true := by decide +kernel
theorem xo_r_X2_isStrong : ∀ (pc : Nat) (r : xr_R), xcl xc_X2_isStrong pc = some r → xr_b xmi_X2_isStrong.1 (xm_ini xmi_X2_isStrong) xmi_X2_isStrong.2.2.1 pc r = true ∧ xr_c xM xmi_X2_isStrong.1 r = true := xc_up_e (mi := xmi_X2_isStrong) (cd := xc_X2_isStrong) (N := 64) (xc_up_s (mi := xmi_X2_isStrong) (cd := xc_X2_isStrong) (lo := 0) (n := 64) xc_up_0 xo_c_X2_isStrong_0) (by decide +kernel)
set_option maxRecDepth 20000 in
theorem xo_m_X2_isLined : xm_b xmi_X2_isLined (1, 7) (3, 224) (3, 225) = true := by decide +kernel
theorem xo_w_X2_isLined : Cond.code xmi_X2_isLined.2.1 xmi_X2_isLined.2.2.1 xmi_X2_isLined.2.2.2.1 xmi_X2_isLined.2.2.2.2.1 ∈ xG := xw_in2 (K := 3) (i := 226) rfl rfl
set_option maxRecDepth 20000 in
theorem xo_c_X2_isLined_0 : xc_b xmi_X2_isLined xc_X2_isLined 0 48 = true := by decide +kernel
theorem xo_r_X2_isLined : ∀ (pc : Nat) (r : xr_R), xcl xc_X2_isLined pc = some r → xr_b xmi_X2_isLined.1 (xm_ini xmi_X2_isLined) xmi_X2_isLined.2.2.1 pc r = true ∧ xr_c xM xmi_X2_isLined.1 r = true := xc_up_e (mi := xmi_X2_isLined) (cd := xc_X2_isLined) (N := 48) (xc_up_s (mi := xmi_X2_isLined) (cd := xc_X2_isLined) (lo := 0) (n := 48) xc_up_0 xo_c_X2_isLined_0) (by decide +kernel)
set_option maxRecDepth 20000 in
theorem xo_m_X2_compare : xm_b xmi_X2_compare (1, 7) (3, 228) (3, 229) = true := by decide +kernel
theorem xo_w_X2_compare : Cond.code xmi_X2_compare.2.1 xmi_X2_compare.2.2.1 xmi_X2_compare.2.2.2.1 xmi_X2_compare.2.2.2.2.1 ∈ xG := xw_in2 (K := 3) (i := 230) rfl rfl
set_option maxRecDepth 20000 in
theorem xo_c_X2_compare_0 : xc_b xmi_X2_compare xc_X2_compare 0 80 = true := by decide +kernel
theorem xo_r_X2_compare : ∀ (pc : Nat) (r : xr_R), xcl xc_X2_compare pc = some r → xr_b xmi_X2_compare.1 (xm_ini xmi_X2_compare) xmi_X2_compare.2.2.1 pc r = true ∧ xr_c xM xmi_X2_compare.1 r = true := xc_up_e (mi := xmi_X2_compare) (cd := xc_X2_compare) (N := 80) (xc_up_s (mi := xmi_X2_compare) (cd := xc_X2_compare) (lo := 0) (n := 80) xc_up_0 xo_c_X2_compare_0) (by decide +kernel)
set_option maxRecDepth 20000 in
theorem xo_m_X2_compareAll : xm_b xmi_X2_compareAll (1, 7) (3, 204) (0, 30) = true := by decide +kernel
theorem xo_w_X2_compareAll : Cond.code xmi_X2_compareAll.2.1 xmi_X2_compareAll.2.2.1 xmi_X2_compareAll.2.2.2.1 xmi_X2_compareAll.2.2.2.2.1 ∈ xG := xw_in2 (K := 3) (i := 205) rfl rfl
set_option maxRecDepth 20000 in
theorem xo_c_X2_compareAll_0 : xc_b xmi_X2_compareAll xc_X2_compareAll 0 64 = true := by decide +kernel
theorem xo_r_X2_compareAll : ∀ (pc : Nat) (r : xr_R), xcl xc_X2_compareAll pc = some r → xr_b xmi_X2_compareAll.1 (xm_ini xmi_X2_compareAll) xmi_X2_compareAll.2.2.1 pc r = true ∧ xr_c xM xmi_X2_compareAll.1 r = true := xc_up_e (mi := xmi_X2_compareAll) (cd := xc_X2_compareAll) (N := 64) (xc_up_s (mi := xmi_X2_compareAll) (cd := xc_X2_compareAll) (lo := 0) (n := 64) xc_up_0 xo_c_X2_compareAll_0) (by decide +kernel)
set_option maxRecDepth 20000 in
theorem xo_m_X2_isAtLeast : xm_b xmi_X2_isAtLeast (1, 7) (3, 208) (0, 31) = true := by decide +kernel
theorem xo_w_X2_isAtLeast : Cond.code xmi_X2_isAtLeast.2.1 xmi_X2_isAtLeast.2.2.1 xmi_X2_isAtLeast.2.2.2.1 xmi_X2_isAtLeast.2.2.2.2.1 ∈ xG := xw_in2 (K := 3) (i := 209) rfl rfl
set_option maxRecDepth 20000 in
theorem xo_c_X2_isAtLeast_0 : xc_b xmi_X2_isAtLeast xc_X2_isAtLeast 0 80 = true := by decide +kernel
theorem xo_r_X2_isAtLeast : ∀ (pc : Nat) (r : xr_R), xcl xc_X2_isAtLeast pc = some r → xr_b xmi_X2_isAtLeast.1 (xm_ini xmi_X2_isAtLeast) xmi_X2_isAtLeast.2.2.1 pc r = true ∧ xr_c xM xmi_X2_isAtLeast.1 r = true := xc_up_e (mi := xmi_X2_isAtLeast) (cd := xc_X2_isAtLeast) (N := 80) (xc_up_s (mi := xmi_X2_isAtLeast) (cd := xc_X2_isAtLeast) (lo := 0) (n := 80) xc_up_0 xo_c_X2_isAtLeast_0) (by decide +kernel)
set_option maxRecDepth 20000 in
theorem xo_m_X2_upperShare : xm_b xmi_X2_upperShare (1, 7) (5, 56) (5, 57) = true := by decide +kernel
theorem xo_w_X2_upperShare : Cond.code xmi_X2_upperShare.2.1 xmi_X2_upperShare.2.2.1 xmi_X2_upperShare.2.2.2.1 xmi_X2_upperShare.2.2.2.2.1 ∈ xG := xw_in2 (K := 5) (i := 58) rfl rfl
set_option maxRecDepth 20000 in
theorem xo_c_X2_upperShare_0 : xc_b xmi_X2_upperShare xc_X2_upperShare 0 32 = true := by decide +kernel
theorem xo_r_X2_upperShare : ∀ (pc : Nat) (r : xr_R), xcl xc_X2_upperShare pc = some r → xr_b xmi_X2_upperShare.1 (xm_ini xmi_X2_upperShare) xmi_X2_upperShare.2.2.1 pc r = true ∧ xr_c xM xmi_X2_upperShare.1 r = true := xc_up_e (mi := xmi_X2_upperShare) (cd := xc_X2_upperShare) (N := 32) (xc_up_s (mi := xmi_X2_upperShare) (cd := xc_X2_upperShare) (lo := 0) (n := 32) xc_up_0 xo_c_X2_upperShare_0) (by decide +kernel)
set_option maxRecDepth 20000 in
theorem xo_m_X2_lowerShare : xm_b xmi_X2_lowerShare (1, 7) (5, 71) (5, 72) = true := by decide +kernel
theorem xo_w_X2_lowerShare : Cond.code xmi_X2_lowerShare.2.1 xmi_X2_lowerShare.2.2.1 xmi_X2_lowerShare.2.2.2.1 xmi_X2_lowerShare.2.2.2.2.1 ∈ xG := xw_in2 (K := 5) (i := 73) rfl rfl
set_option maxRecDepth 20000 in
theorem xo_c_X2_lowerShare_0 : xc_b xmi_X2_lowerShare xc_X2_lowerShare 0 64 = true := by decide +kernel
theorem xo_r_X2_lowerShare : ∀ (pc : Nat) (r : xr_R), xcl xc_X2_lowerShare pc = some r → xr_b xmi_X2_lowerShare.1 (xm_ini xmi_X2_lowerShare) xmi_X2_lowerShare.2.2.1 pc r = true ∧ xr_c xM xmi_X2_lowerShare.1 r = true := xc_up_e (mi := xmi_X2_lowerShare) (cd := xc_X2_lowerShare) (N := 64) (xc_up_s (mi := xmi_X2_lowerShare) (cd := xc_X2_lowerShare) (lo := 0) (n := 64) xc_up_0 xo_c_X2_lowerShare_0) (by decide +kernel)
set_option maxRecDepth 20000 in
theorem xo_m_X2_ordersOf : xm_b xmi_X2_ordersOf (1, 7) (5, 61) (0, 55) = true := by decide +kernel
theorem xo_w_X2_ordersOf : Cond.code xmi_X2_ordersOf.2.1 xmi_X2_ordersOf.2.2.1 xmi_X2_ordersOf.2.2.2.1 xmi_X2_ordersOf.2.2.2.2.1 ∈ xG := xw_in2 (K := 5) (i := 62) rfl rfl
set_option maxRecDepth 20000 in
theorem xo_c_X2_ordersOf_0 : xc_b xmi_X2_ordersOf xc_X2_ordersOf 0 64 = true := by decide +kernel
theorem xo_r_X2_ordersOf : ∀ (pc : Nat) (r : xr_R), xcl xc_X2_ordersOf pc = some r → xr_b xmi_X2_ordersOf.1 (xm_ini xmi_X2_ordersOf) xmi_X2_ordersOf.2.2.1 pc r = true ∧ xr_c xM xmi_X2_ordersOf.1 r = true := xc_up_e (mi := xmi_X2_ordersOf) (cd := xc_X2_ordersOf) (N := 64) (xc_up_s (mi := xmi_X2_ordersOf) (cd := xc_X2_ordersOf) (lo := 0) (n := 64) xc_up_0 xo_c_X2_ordersOf_0) (by decide +kernel)
set_option maxRecDepth 20000 in
theorem xo_m_X2_partsOf : xm_b xmi_X2_partsOf (1, 7) (5, 67) (0, 56) = true := by decide +kernel
theorem xo_w_X2_partsOf : Cond.code xmi_X2_partsOf.2.1 xmi_X2_partsOf.2.2.1 xmi_X2_partsOf.2.2.2.1 xmi_X2_partsOf.2.2.2.2.1 ∈ xG := xw_in2 (K := 5) (i := 68) rfl rfl
set_option maxRecDepth 20000 in
theorem xo_c_X2_partsOf_0 : xc_b xmi_X2_partsOf xc_X2_partsOf 0 64 = true := by decide +kernel
theorem xo_r_X2_partsOf : ∀ (pc : Nat) (r : xr_R), xcl xc_X2_partsOf pc = some r → xr_b xmi_X2_partsOf.1 (xm_ini xmi_X2_partsOf) xmi_X2_partsOf.2.2.1 pc r = true ∧ xr_c xM xmi_X2_partsOf.1 r = true := xc_up_e (mi := xmi_X2_partsOf) (cd := xc_X2_partsOf) (N := 64) (xc_up_s (mi := xmi_X2_partsOf) (cd := xc_X2_partsOf) (lo := 0) (n := 64) xc_up_0 xo_c_X2_partsOf_0) (by decide +kernel)
set_option maxRecDepth 20000 in
theorem xo_m_X2_chanceOf : xm_b xmi_X2_chanceOf (1, 7) (4, 14) (4, 15) = true := by decide +kernel
theorem xo_w_X2_chanceOf : Cond.code xmi_X2_chanceOf.2.1 xmi_X2_chanceOf.2.2.1 xmi_X2_chanceOf.2.2.2.1 xmi_X2_chanceOf.2.2.2.2.1 ∈ xG := xw_in2 (K := 4) (i := 16) rfl rfl
set_option maxRecDepth 20000 in
theorem xo_c_X2_chanceOf_0 : xc_b xmi_X2_chanceOf xc_X2_chanceOf 0 112 = true := by decide +kernel
set_option maxRecDepth 20000 in
theorem xo_c_X2_chanceOf_112 : xc_b xmi_X2_chanceOf xc_X2_chanceOf 112 16 = true := by decide +kernel
theorem xo_r_X2_chanceOf : ∀ (pc : Nat) (r : xr_R), xcl xc_X2_chanceOf pc = some r → xr_b xmi_X2_chanceOf.1 (xm_ini xmi_X2_chanceOf) xmi_X2_chanceOf.2.2.1 pc r = true ∧ xr_c xM xmi_X2_chanceOf.1 r = true := xc_up_e (mi := xmi_X2_chanceOf) (cd := xc_X2_chanceOf) (N := 128) (xc_up_s (mi := xmi_X2_chanceOf) (cd := xc_X2_chanceOf) (lo := 112) (n := 16) (xc_up_s (mi := xmi_X2_chanceOf) (cd := xc_X2_chanceOf) (lo := 0) (n := 112) xc_up_0 xo_c_X2_chanceOf_0) xo_c_X2_chanceOf_112) (by decide +kernel)
set_option maxRecDepth 20000 in
theorem xo_m_X2_power : xm_b xmi_X2_power (1, 7) (4, 18) (99, 0) = true := by decide +kernel
theorem xo_w_X2_power : Cond.code xmi_X2_power.2.1 xmi_X2_power.2.2.1 xmi_X2_power.2.2.2.1 xmi_X2_power.2.2.2.2.1 ∈ xG := xw_in2 (K := 4) (i := 19) rfl rfl
set_option maxRecDepth 20000 in
theorem xo_c_X2_power_0 : xc_b xmi_X2_power xc_X2_power 0 32 = true := by decide +kernel
theorem xo_r_X2_power : ∀ (pc : Nat) (r : xr_R), xcl xc_X2_power pc = some r → xr_b xmi_X2_power.1 (xm_ini xmi_X2_power) xmi_X2_power.2.2.1 pc r = true ∧ xr_c xM xmi_X2_power.1 r = true := xc_up_e (mi := xmi_X2_power) (cd := xc_X2_power) (N := 32) (xc_up_s (mi := xmi_X2_power) (cd := xc_X2_power) (lo := 0) (n := 32) xc_up_0 xo_c_X2_power_0) (by decide +kernel)
set_option maxRecDepth 20000 in
theorem xo_m_X2_allyOf : xm_b xmi_X2_allyOf (1, 7) (4, 25) (4, 26) = true := by decide +kernel
theorem xo_w_X2_allyOf : Cond.code xmi_X2_allyOf.2.1 xmi_X2_allyOf.2.2.1 xmi_X2_allyOf.2.2.2.1 xmi_X2_allyOf.2.2.2.2.1 ∈ xG := xw_in2 (K := 4) (i := 27) rfl rfl
set_option maxRecDepth 20000 in
theorem xo_c_X2_allyOf_0 : xc_b xmi_X2_allyOf xc_X2_allyOf 0 64 = true := by decide +kernel
theorem xo_r_X2_allyOf : ∀ (pc : Nat) (r : xr_R), xcl xc_X2_allyOf pc = some r → xr_b xmi_X2_allyOf.1 (xm_ini xmi_X2_allyOf) xmi_X2_allyOf.2.2.1 pc r = true ∧ xr_c xM xmi_X2_allyOf.1 r = true := xc_up_e (mi := xmi_X2_allyOf) (cd := xc_X2_allyOf) (N := 64) (xc_up_s (mi := xmi_X2_allyOf) (cd := xc_X2_allyOf) (lo := 0) (n := 64) xc_up_0 xo_c_X2_allyOf_0) (by decide +kernel)
set_option maxRecDepth 20000 in
theorem xo_m_X2_countTogether : xm_b xmi_X2_countTogether (1, 7) (4, 30) (0, 33) = true := by decide +kernel
theorem xo_w_X2_countTogether : Cond.code xmi_X2_countTogether.2.1 xmi_X2_countTogether.2.2.1 xmi_X2_countTogether.2.2.2.1 xmi_X2_countTogether.2.2.2.2.1 ∈ xG := xw_in2 (K := 4) (i := 31) rfl rfl
set_option maxRecDepth 20000 in
theorem xo_c_X2_countTogether_0 : xc_b xmi_X2_countTogether xc_X2_countTogether 0 96 = true := by decide +kernel
theorem xo_r_X2_countTogether : ∀ (pc : Nat) (r : xr_R), xcl xc_X2_countTogether pc = some r → xr_b xmi_X2_countTogether.1 (xm_ini xmi_X2_countTogether) xmi_X2_countTogether.2.2.1 pc r = true ∧ xr_c xM xmi_X2_countTogether.1 r = true := xc_up_e (mi := xmi_X2_countTogether) (cd := xc_X2_countTogether) (N := 96) (xc_up_s (mi := xmi_X2_countTogether) (cd := xc_X2_countTogether) (lo := 0) (n := 96) xc_up_0 xo_c_X2_countTogether_0) (by decide +kernel)
set_option maxRecDepth 20000 in
theorem xo_m_X3_init : xm_b xmi_X3_init (1, 4) (1, 56) (99, 0) = true := by decide +kernel
theorem xo_w_X3_init : Cond.code xmi_X3_init.2.1 xmi_X3_init.2.2.1 xmi_X3_init.2.2.2.1 xmi_X3_init.2.2.2.2.1 ∈ xG := xw_in2 (K := 1) (i := 57) rfl rfl
set_option maxRecDepth 20000 in
theorem xo_c_X3_init_0 : xc_b xmi_X3_init xc_X3_init 0 48 = true := by decide +kernel
theorem xo_r_X3_init : ∀ (pc : Nat) (r : xr_R), xcl xc_X3_init pc = some r → xr_b xmi_X3_init.1 (xm_ini xmi_X3_init) xmi_X3_init.2.2.1 pc r = true ∧ xr_c xM xmi_X3_init.1 r = true := xc_up_e (mi := xmi_X3_init) (cd := xc_X3_init) (N := 48) (xc_up_s (mi := xmi_X3_init) (cd := xc_X3_init) (lo := 0) (n := 48) xc_up_0 xo_c_X3_init_0) (by decide +kernel)
set_option maxRecDepth 20000 in
theorem xo_m_X3_clear : xm_b xmi_X3_clear (1, 4) (2, 164) (2, 165) = true := by decide +kernel
theorem xo_w_X3_clear : Cond.code xmi_X3_clear.2.1 xmi_X3_clear.2.2.1 xmi_X3_clear.2.2.2.1 xmi_X3_clear.2.2.2.2.1 ∈ xG := xw_in2 (K := 2) (i := 166) rfl rfl
set_option maxRecDepth 20000 in
theorem xo_c_X3_clear_0 : xc_b xmi_X3_clear xc_X3_clear 0 16 = true := by decide +kernel
theorem xo_r_X3_clear : ∀ (pc : Nat) (r : xr_R), xcl xc_X3_clear pc = some r → xr_b xmi_X3_clear.1 (xm_ini xmi_X3_clear) xmi_X3_clear.2.2.1 pc r = true ∧ xr_c xM xmi_X3_clear.1 r = true := xc_up_e (mi := xmi_X3_clear) (cd := xc_X3_clear) (N := 16) (xc_up_s (mi := xmi_X3_clear) (cd := xc_X3_clear) (lo := 0) (n := 16) xc_up_0 xo_c_X3_clear_0) (by decide +kernel)
set_option maxRecDepth 20000 in
theorem xo_m_X3_add : xm_b xmi_X3_add (1, 4) (3, 76) (3, 77) = true := by decide +kernel
theorem xo_w_X3_add : Cond.code xmi_X3_add.2.1 xmi_X3_add.2.2.1 xmi_X3_add.2.2.2.1 xmi_X3_add.2.2.2.2.1 ∈ xG := xw_in2 (K := 3) (i := 78) rfl rfl
set_option maxRecDepth 20000 in
theorem xo_c_X3_add_0 : xc_b xmi_X3_add xc_X3_add 0 48 = true := by decide +kernel
theorem xo_r_X3_add : ∀ (pc : Nat) (r : xr_R), xcl xc_X3_add pc = some r → xr_b xmi_X3_add.1 (xm_ini xmi_X3_add) xmi_X3_add.2.2.1 pc r = true ∧ xr_c xM xmi_X3_add.1 r = true := xc_up_e (mi := xmi_X3_add) (cd := xc_X3_add) (N := 48) (xc_up_s (mi := xmi_X3_add) (cd := xc_X3_add) (lo := 0) (n := 48) xc_up_0 xo_c_X3_add_0) (by decide +kernel)
set_option maxRecDepth 20000 in
theorem xo_m_X3_fill : xm_b xmi_X3_fill (1, 4) (3, 111) (3, 112) = true := by decide +kernel
theorem xo_w_X3_fill : Cond.code xmi_X3_fill.2.1 xmi_X3_fill.2.2.1 xmi_X3_fill.2.2.2.1 xmi_X3_fill.2.2.2.2.1 ∈ xG := xw_in2 (K := 3) (i := 113) rfl rfl
set_option maxRecDepth 20000 in
theorem xo_c_X3_fill_0 : xc_b xmi_X3_fill xc_X3_fill 0 32 = true := by decide +kernel
theorem xo_r_X3_fill : ∀ (pc : Nat) (r : xr_R), xcl xc_X3_fill pc = some r → xr_b xmi_X3_fill.1 (xm_ini xmi_X3_fill) xmi_X3_fill.2.2.1 pc r = true ∧ xr_c xM xmi_X3_fill.1 r = true := xc_up_e (mi := xmi_X3_fill) (cd := xc_X3_fill) (N := 32) (xc_up_s (mi := xmi_X3_fill) (cd := xc_X3_fill) (lo := 0) (n := 32) xc_up_0 xo_c_X3_fill_0) (by decide +kernel)
set_option maxRecDepth 20000 in
theorem xo_m_X3_run : xm_b xmi_X3_run (1, 4) (3, 116) (0, 17) = true := by decide +kernel
theorem xo_w_X3_run : Cond.code xmi_X3_run.2.1 xmi_X3_run.2.2.1 xmi_X3_run.2.2.2.1 xmi_X3_run.2.2.2.2.1 ∈ xG := xw_in2 (K := 3) (i := 117) rfl rfl
set_option maxRecDepth 20000 in
theorem xo_c_X3_run_0 : xc_b xmi_X3_run xc_X3_run 0 112 = true := by decide +kernel
set_option maxRecDepth 20000 in
theorem xo_c_X3_run_112 : xc_b xmi_X3_run xc_X3_run 112 80 = true := by decide +kernel
theorem xo_r_X3_run : ∀ (pc : Nat) (r : xr_R), xcl xc_X3_run pc = some r → xr_b xmi_X3_run.1 (xm_ini xmi_X3_run) xmi_X3_run.2.2.1 pc r = true ∧ xr_c xM xmi_X3_run.1 r = true := xc_up_e (mi := xmi_X3_run) (cd := xc_X3_run) (N := 192) (xc_up_s (mi := xmi_X3_run) (cd := xc_X3_run) (lo := 112) (n := 80) (xc_up_s (mi := xmi_X3_run) (cd := xc_X3_run) (lo := 0) (n := 112) xc_up_0 xo_c_X3_run_0) xo_c_X3_run_112) (by decide +kernel)
set_option maxRecDepth 20000 in
theorem xo_m_X3_join : xm_b xmi_X3_join (1, 4) (3, 131) (99, 0) = true := by decide +kernel
theorem xo_w_X3_join : Cond.code xmi_X3_join.2.1 xmi_X3_join.2.2.1 xmi_X3_join.2.2.2.1 xmi_X3_join.2.2.2.2.1 ∈ xG := xw_in2 (K := 3) (i := 132) rfl rfl
set_option maxRecDepth 20000 in
theorem xo_c_X3_join_0 : xc_b xmi_X3_join xc_X3_join 0 32 = true := by decide +kernel
theorem xo_r_X3_join : ∀ (pc : Nat) (r : xr_R), xcl xc_X3_join pc = some r → xr_b xmi_X3_join.1 (xm_ini xmi_X3_join) xmi_X3_join.2.2.1 pc r = true ∧ xr_c xM xmi_X3_join.1 r = true := xc_up_e (mi := xmi_X3_join) (cd := xc_X3_join) (N := 32) (xc_up_s (mi := xmi_X3_join) (cd := xc_X3_join) (lo := 0) (n := 32) xc_up_0 xo_c_X3_join_0) (by decide +kernel)
set_option maxRecDepth 20000 in
theorem xo_m_X3_push : xm_b xmi_X3_push (1, 4) (3, 120) (0, 18) = true := by decide +kernel
theorem xo_w_X3_push : Cond.code xmi_X3_push.2.1 xmi_X3_push.2.2.1 xmi_X3_push.2.2.2.1 xmi_X3_push.2.2.2.2.1 ∈ xG := xw_in2 (K := 3) (i := 121) rfl rfl
set_option maxRecDepth 20000 in
theorem xo_c_X3_push_0 : xc_b xmi_X3_push xc_X3_push 0 32 = true := by decide +kernel
theorem xo_r_X3_push : ∀ (pc : Nat) (r : xr_R), xcl xc_X3_push pc = some r → xr_b xmi_X3_push.1 (xm_ini xmi_X3_push) xmi_X3_push.2.2.1 pc r = true ∧ xr_c xM xmi_X3_push.1 r = true := xc_up_e (mi := xmi_X3_push) (cd := xc_X3_push) (N := 32) (xc_up_s (mi := xmi_X3_push) (cd := xc_X3_push) (lo := 0) (n := 32) xc_up_0 xo_c_X3_push_0) (by decide +kernel)
set_option maxRecDepth 20000 in
theorem xo_m_X3_peek : xm_b xmi_X3_peek (1, 4) (3, 124) (0, 19) = true := by decide +kernel
theorem xo_w_X3_peek : Cond.code xmi_X3_peek.2.1 xmi_X3_peek.2.2.1 xmi_X3_peek.2.2.2.1 xmi_X3_peek.2.2.2.2.1 ∈ xG := xw_in2 (K := 3) (i := 125) rfl rfl
set_option maxRecDepth 20000 in
theorem xo_c_X3_peek_0 : xc_b xmi_X3_peek xc_X3_peek 0 32 = true := by decide +kernel
theorem xo_r_X3_peek : ∀ (pc : Nat) (r : xr_R), xcl xc_X3_peek pc = some r → xr_b xmi_X3_peek.1 (xm_ini xmi_X3_peek) xmi_X3_peek.2.2.1 pc r = true ∧ xr_c xM xmi_X3_peek.1 r = true := xc_up_e (mi := xmi_X3_peek) (cd := xc_X3_peek) (N := 32) (xc_up_s (mi := xmi_X3_peek) (cd := xc_X3_peek) (lo := 0) (n := 32) xc_up_0 xo_c_X3_peek_0) (by decide +kernel)
set_option maxRecDepth 20000 in
theorem xo_m_X3_replace : xm_b xmi_X3_replace (1, 4) (3, 128) (0, 20) = true := by decide +kernel
theorem xo_w_X3_replace : Cond.code xmi_X3_replace.2.1 xmi_X3_replace.2.2.1 xmi_X3_replace.2.2.2.1 xmi_X3_replace.2.2.2.2.1 ∈ xG := xw_in2 (K := 3) (i := 129) rfl rfl
set_option maxRecDepth 20000 in
theorem xo_c_X3_replace_0 : xc_b xmi_X3_replace xc_X3_replace 0 32 = true := by decide +kernel
theorem xo_r_X3_replace : ∀ (pc : Nat) (r : xr_R), xcl xc_X3_replace pc = some r → xr_b xmi_X3_replace.1 (xm_ini xmi_X3_replace) xmi_X3_replace.2.2.1 pc r = true ∧ xr_c xM xmi_X3_replace.1 r = true := xc_up_e (mi := xmi_X3_replace) (cd := xc_X3_replace) (N := 32) (xc_up_s (mi := xmi_X3_replace) (cd := xc_X3_replace) (lo := 0) (n := 32) xc_up_0 xo_c_X3_replace_0) (by decide +kernel)
set_option maxRecDepth 20000 in
theorem xo_m_X4_init : xm_b xmi_X4_init (1, 3) (1, 50) (99, 0) = true := by decide +kernel
theorem xo_w_X4_init : Cond.code xmi_X4_init.2.1 xmi_X4_init.2.2.1 xmi_X4_init.2.2.2.1 xmi_X4_init.2.2.2.2.1 ∈ xG := xw_in2 (K := 1) (i := 51) rfl rfl
set_option maxRecDepth 20000 in
theorem xo_c_X4_init_0 : xc_b xmi_X4_init xc_X4_init 0 48 = true := by decide +kernel
theorem xo_r_X4_init : ∀ (pc : Nat) (r : xr_R), xcl xc_X4_init pc = some r → xr_b xmi_X4_init.1 (xm_ini xmi_X4_init) xmi_X4_init.2.2.1 pc r = true ∧ xr_c xM xmi_X4_init.1 r = true := xc_up_e (mi := xmi_X4_init) (cd := xc_X4_init) (N := 48) (xc_up_s (mi := xmi_X4_init) (cd := xc_X4_init) (lo := 0) (n := 48) xc_up_0 xo_c_X4_init_0) (by decide +kernel)
set_option maxRecDepth 20000 in
theorem xo_m_X4_read : xm_b xmi_X4_read (1, 3) (2, 160) (2, 161) = true := by decide +kernel
theorem xo_w_X4_read : Cond.code xmi_X4_read.2.1 xmi_X4_read.2.2.1 xmi_X4_read.2.2.2.1 xmi_X4_read.2.2.2.2.1 ∈ xG := xw_in2 (K := 2) (i := 162) rfl rfl
set_option maxRecDepth 20000 in
theorem xo_c_X4_read_0 : xc_b xmi_X4_read xc_X4_read 0 112 = true := by decide +kernel
set_option maxRecDepth 20000 in
theorem xo_c_X4_read_112 : xc_b xmi_X4_read xc_X4_read 112 16 = true := by decide +kernel
theorem xo_r_X4_read : ∀ (pc : Nat) (r : xr_R), xcl xc_X4_read pc = some r → xr_b xmi_X4_read.1 (xm_ini xmi_X4_read) xmi_X4_read.2.2.1 pc r = true ∧ xr_c xM xmi_X4_read.1 r = true := xc_up_e (mi := xmi_X4_read) (cd := xc_X4_read) (N := 128) (xc_up_s (mi := xmi_X4_read) (cd := xc_X4_read) (lo := 112) (n := 16) (xc_up_s (mi := xmi_X4_read) (cd := xc_X4_read) (lo := 0) (n := 112) xc_up_0 xo_c_X4_read_0) xo_c_X4_read_112) (by decide +kernel)
set_option maxRecDepth 20000 in
theorem xo_m_X4_fail : xm_b xmi_X4_fail (1, 3) (3, 32) (0, 3) = true := by decide +kernel
theorem xo_w_X4_fail : Cond.code xmi_X4_fail.2.1 xmi_X4_fail.2.2.1 xmi_X4_fail.2.2.2.1 xmi_X4_fail.2.2.2.2.1 ∈ xG := xw_in2 (K := 3) (i := 33) rfl rfl
set_option maxRecDepth 20000 in
theorem xo_c_X4_fail_0 : xc_b xmi_X4_fail xc_X4_fail 0 16 = true := by decide +kernel
theorem xo_r_X4_fail : ∀ (pc : Nat) (r : xr_R), xcl xc_X4_fail pc = some r → xr_b xmi_X4_fail.1 (xm_ini xmi_X4_fail) xmi_X4_fail.2.2.1 pc r = true ∧ xr_c xM xmi_X4_fail.1 r = true := xc_up_e (mi := xmi_X4_fail) (cd := xc_X4_fail) (N := 16) (xc_up_s (mi := xmi_X4_fail) (cd := xc_X4_fail) (lo := 0) (n := 16) xc_up_0 xo_c_X4_fail_0) (by decide +kernel)
set_option maxRecDepth 20000 in
theorem xo_m_X4_takeWord : xm_b xmi_X4_takeWord (1, 3) (3, 69) (0, 11) = true := by decide +kernel
theorem xo_w_X4_takeWord : Cond.code xmi_X4_takeWord.2.1 xmi_X4_takeWord.2.2.1 xmi_X4_takeWord.2.2.2.1 xmi_X4_takeWord.2.2.2.2.1 ∈ xG := xw_in2 (K := 3) (i := 70) rfl rfl
set_option maxRecDepth 20000 in
theorem xo_c_X4_takeWord_0 : xc_b xmi_X4_takeWord xc_X4_takeWord 0 48 = true := by decide +kernel
theorem xo_r_X4_takeWord : ∀ (pc : Nat) (r : xr_R), xcl xc_X4_takeWord pc = some r → xr_b xmi_X4_takeWord.1 (xm_ini xmi_X4_takeWord) xmi_X4_takeWord.2.2.1 pc r = true ∧ xr_c xM xmi_X4_takeWord.1 r = true := xc_up_e (mi := xmi_X4_takeWord) (cd := xc_X4_takeWord) (N := 48) (xc_up_s (mi := xmi_X4_takeWord) (cd := xc_X4_takeWord) (lo := 0) (n := 48) xc_up_0 xo_c_X4_takeWord_0) (by decide +kernel)
set_option maxRecDepth 20000 in
theorem xo_m_X4_takeSign : xm_b xmi_X4_takeSign (1, 3) (3, 44) (0, 5) = true := by decide +kernel
theorem xo_w_X4_takeSign : Cond.code xmi_X4_takeSign.2.1 xmi_X4_takeSign.2.2.1 xmi_X4_takeSign.2.2.2.1 xmi_X4_takeSign.2.2.2.2.1 ∈ xG := xw_in2 (K := 3) (i := 45) rfl rfl
set_option maxRecDepth 20000 in
theorem xo_c_X4_takeSign_0 : xc_b xmi_X4_takeSign xc_X4_takeSign 0 48 = true := by decide +kernel
theorem xo_r_X4_takeSign : ∀ (pc : Nat) (r : xr_R), xcl xc_X4_takeSign pc = some r → xr_b xmi_X4_takeSign.1 (xm_ini xmi_X4_takeSign) xmi_X4_takeSign.2.2.1 pc r = true ∧ xr_c xM xmi_X4_takeSign.1 r = true := xc_up_e (mi := xmi_X4_takeSign) (cd := xc_X4_takeSign) (N := 48) (xc_up_s (mi := xmi_X4_takeSign) (cd := xc_X4_takeSign) (lo := 0) (n := 48) xc_up_0 xo_c_X4_takeSign_0) (by decide +kernel)
set_option maxRecDepth 20000 in
theorem xo_m_X4_takeEnd : xm_b xmi_X4_takeEnd (1, 3) (3, 104) (0, 16) = true := by decide +kernel
theorem xo_w_X4_takeEnd : Cond.code xmi_X4_takeEnd.2.1 xmi_X4_takeEnd.2.2.1 xmi_X4_takeEnd.2.2.2.1 xmi_X4_takeEnd.2.2.2.2.1 ∈ xG := xw_in2 (K := 3) (i := 105) rfl rfl
set_option maxRecDepth 20000 in
theorem xo_c_X4_takeEnd_0 : xc_b xmi_X4_takeEnd xc_X4_takeEnd 0 64 = true := by decide +kernel
theorem xo_r_X4_takeEnd : ∀ (pc : Nat) (r : xr_R), xcl xc_X4_takeEnd pc = some r → xr_b xmi_X4_takeEnd.1 (xm_ini xmi_X4_takeEnd) xmi_X4_takeEnd.2.2.1 pc r = true ∧ xr_c xM xmi_X4_takeEnd.1 r = true := xc_up_e (mi := xmi_X4_takeEnd) (cd := xc_X4_takeEnd) (N := 64) (xc_up_s (mi := xmi_X4_takeEnd) (cd := xc_X4_takeEnd) (lo := 0) (n := 64) xc_up_0 xo_c_X4_takeEnd_0) (by decide +kernel)
set_option maxRecDepth 20000 in
theorem xo_m_X4_takeOpening : xm_b xmi_X4_takeOpening (1, 3) (3, 73) (0, 12) = true := by decide +kernel
theorem xo_w_X4_takeOpening : Cond.code xmi_X4_takeOpening.2.1 xmi_X4_takeOpening.2.2.1 xmi_X4_takeOpening.2.2.2.1 xmi_X4_takeOpening.2.2.2.2.1 ∈ xG := xw_in2 (K := 3) (i := 74) rfl rfl
set_option maxRecDepth 20000 in
theorem xo_c_X4_takeOpening_0 : xc_b xmi_X4_takeOpening xc_X4_takeOpening 0 80 = true := by decide +kernel
theorem xo_r_X4_takeOpening : ∀ (pc : Nat) (r : xr_R), xcl xc_X4_takeOpening pc = some r → xr_b xmi_X4_takeOpening.1 (xm_ini xmi_X4_takeOpening) xmi_X4_takeOpening.2.2.1 pc r = true ∧ xr_c xM xmi_X4_takeOpening.1 r = true := xc_up_e (mi := xmi_X4_takeOpening) (cd := xc_X4_takeOpening) (N := 80) (xc_up_s (mi := xmi_X4_takeOpening) (cd := xc_X4_takeOpening) (lo := 0) (n := 80) xc_up_0 xo_c_X4_takeOpening_0) (by decide +kernel)
set_option maxRecDepth 20000 in
theorem xo_m_X4_readBody : xm_b xmi_X4_readBody (1, 3) (3, 13) (0, 1) = true := by decide +kernel
theorem xo_w_X4_readBody : Cond.code xmi_X4_readBody.2.1 xmi_X4_readBody.2.2.1 xmi_X4_readBody.2.2.2.1 xmi_X4_readBody.2.2.2.2.1 ∈ xG := xw_in2 (K := 3) (i := 14) rfl rfl
set_option maxRecDepth 20000 in
theorem xo_c_X4_readBody_0 : xc_b xmi_X4_readBody xc_X4_readBody 0 112 = true := by decide +kernel
theorem xo_r_X4_readBody : ∀ (pc : Nat) (r : xr_R), xcl xc_X4_readBody pc = some r → xr_b xmi_X4_readBody.1 (xm_ini xmi_X4_readBody) xmi_X4_readBody.2.2.1 pc r = true ∧ xr_c xM xmi_X4_readBody.1 r = true := xc_up_e (mi := xmi_X4_readBody) (cd := xc_X4_readBody) (N := 112) (xc_up_s (mi := xmi_X4_readBody) (cd := xc_X4_readBody) (lo := 0) (n := 112) xc_up_0 xo_c_X4_readBody_0) (by decide +kernel)
set_option maxRecDepth 20000 in
theorem xo_m_X4_takeNewName : xm_b xmi_X4_takeNewName (1, 3) (3, 18) (0, 2) = true := by decide +kernel
theorem xo_w_X4_takeNewName : Cond.code xmi_X4_takeNewName.2.1 xmi_X4_takeNewName.2.2.1 xmi_X4_takeNewName.2.2.2.1 xmi_X4_takeNewName.2.2.2.2.1 ∈ xG := xw_in2 (K := 3) (i := 19) rfl rfl
set_option maxRecDepth 20000 in
theorem xo_c_X4_takeNewName_0 : xc_b xmi_X4_takeNewName xc_X4_takeNewName 0 80 = true := by decide +kernel
theorem xo_r_X4_takeNewName : ∀ (pc : Nat) (r : xr_R), xcl xc_X4_takeNewName pc = some r → xr_b xmi_X4_takeNewName.1 (xm_ini xmi_X4_takeNewName) xmi_X4_takeNewName.2.2.1 pc r = true ∧ xr_c xM xmi_X4_takeNewName.1 r = true := xc_up_e (mi := xmi_X4_takeNewName) (cd := xc_X4_takeNewName) (N := 80) (xc_up_s (mi := xmi_X4_takeNewName) (cd := xc_X4_takeNewName) (lo := 0) (n := 80) xc_up_0 xo_c_X4_takeNewName_0) (by decide +kernel)
set_option maxRecDepth 20000 in
theorem xo_m_X4_toldName : xm_b xmi_X4_toldName (1, 3) (3, 36) (0, 4) = true := by decide +kernel
theorem xo_w_X4_toldName : Cond.code xmi_X4_toldName.2.1 xmi_X4_toldName.2.2.1 xmi_X4_toldName.2.2.2.1 xmi_X4_toldName.2.2.2.2.1 ∈ xG := xw_in2 (K := 3) (i := 37) rfl rfl
set_option maxRecDepth 20000 in
theorem xo_c_X4_toldName_0 : xc_b xmi_X4_toldName xc_X4_toldName 0 48 = true := by decide +kernel
theorem xo_r_X4_toldName : ∀ (pc : Nat) (r : xr_R), xcl xc_X4_toldName pc = some r → xr_b xmi_X4_toldName.1 (xm_ini xmi_X4_toldName) xmi_X4_toldName.2.2.1 pc r = true ∧ xr_c xM xmi_X4_toldName.1 r = true := xc_up_e (mi := xmi_X4_toldName) (cd := xc_X4_toldName) (N := 48) (xc_up_s (mi := xmi_X4_toldName) (cd := xc_X4_toldName) (lo := 0) (n := 48) xc_up_0 xo_c_X4_toldName_0) (by decide +kernel)
set_option maxRecDepth 20000 in
theorem xo_m_X4_readRule : xm_b xmi_X4_readRule (1, 3) (3, 48) (0, 6) = true := by decide +kernel
theorem xo_w_X4_readRule : Cond.code xmi_X4_readRule.2.1 xmi_X4_readRule.2.2.1 xmi_X4_readRule.2.2.2.1 xmi_X4_readRule.2.2.2.2.1 ∈ xG := xw_in2 (K := 3) (i := 49) rfl rfl
set_option maxRecDepth 20000 in
theorem xo_c_X4_readRule_0 : xc_b xmi_X4_readRule xc_X4_readRule 0 64 = true := by decide +kernel
theorem xo_r_X4_readRule : ∀ (pc : Nat) (r : xr_R), xcl xc_X4_readRule pc = some r → xr_b xmi_X4_readRule.1 (xm_ini xmi_X4_readRule) xmi_X4_readRule.2.2.1 pc r = true ∧ xr_c xM xmi_X4_readRule.1 r = true := xc_up_e (mi := xmi_X4_readRule) (cd := xc_X4_readRule) (N := 64) (xc_up_s (mi := xmi_X4_readRule) (cd := xc_X4_readRule) (lo := 0) (n := 64) xc_up_0 xo_c_X4_readRule_0) (by decide +kernel)
set_option maxRecDepth 20000 in
theorem xo_m_X4_readAll : xm_b xmi_X4_readAll (1, 3) (3, 52) (0, 7) = true := by decide +kernel
theorem xo_w_X4_readAll : Cond.code xmi_X4_readAll.2.1 xmi_X4_readAll.2.2.1 xmi_X4_readAll.2.2.2.1 xmi_X4_readAll.2.2.2.2.1 ∈ xG := xw_in2 (K := 3) (i := 53) rfl rfl
set_option maxRecDepth 20000 in
theorem xo_c_X4_readAll_0 : xc_b xmi_X4_readAll xc_X4_readAll 0 64 = true := by decide +kernel
theorem xo_r_X4_readAll : ∀ (pc : Nat) (r : xr_R), xcl xc_X4_readAll pc = some r → xr_b xmi_X4_readAll.1 (xm_ini xmi_X4_readAll) xmi_X4_readAll.2.2.1 pc r = true ∧ xr_c xM xmi_X4_readAll.1 r = true := xc_up_e (mi := xmi_X4_readAll) (cd := xc_X4_readAll) (N := 64) (xc_up_s (mi := xmi_X4_readAll) (cd := xc_X4_readAll) (lo := 0) (n := 64) xc_up_0 xo_c_X4_readAll_0) (by decide +kernel)
set_option maxRecDepth 20000 in
theorem xo_m_X4_readOne : xm_b xmi_X4_readOne (1, 3) (3, 56) (0, 8) = true := by decide +kernel
theorem xo_w_X4_readOne : Cond.code xmi_X4_readOne.2.1 xmi_X4_readOne.2.2.1 xmi_X4_readOne.2.2.2.1 xmi_X4_readOne.2.2.2.2.1 ∈ xG := xw_in2 (K := 3) (i := 57) rfl rfl
set_option maxRecDepth 20000 in
theorem xo_c_X4_readOne_0 : xc_b xmi_X4_readOne xc_X4_readOne 0 112 = true := by decide +kernel
set_option maxRecDepth 20000 in
theorem xo_c_X4_readOne_112 : xc_b xmi_X4_readOne xc_X4_readOne 112 48 = true := by decide +kernel
theorem xo_r_X4_readOne : ∀ (pc : Nat) (r : xr_R), xcl xc_X4_readOne pc = some r → xr_b xmi_X4_readOne.1 (xm_ini xmi_X4_readOne) xmi_X4_readOne.2.2.1 pc r = true ∧ xr_c xM xmi_X4_readOne.1 r = true := xc_up_e (mi := xmi_X4_readOne) (cd := xc_X4_readOne) (N := 160) (xc_up_s (mi := xmi_X4_readOne) (cd := xc_X4_readOne) (lo := 112) (n := 48) (xc_up_s (mi := xmi_X4_readOne) (cd := xc_X4_readOne) (lo := 0) (n := 112) xc_up_0 xo_c_X4_readOne_0) xo_c_X4_readOne_112) (by decide +kernel)
set_option maxRecDepth 20000 in
theorem xo_m_X4_noteMember : xm_b xmi_X4_noteMember (1, 3) (3, 89) (0, 14) = true := by decide +kernel
theorem xo_w_X4_noteMember : Cond.code xmi_X4_noteMember.2.1 xmi_X4_noteMember.2.2.1 xmi_X4_noteMember.2.2.2.1 xmi_X4_noteMember.2.2.2.2.1 ∈ xG := xw_in2 (K := 3) (i := 90) rfl rfl
set_option maxRecDepth 20000 in
theorem xo_c_X4_noteMember_0 : xc_b xmi_X4_noteMember xc_X4_noteMember 0 48 = true := by decide +kernel
theorem xo_r_X4_noteMember : ∀ (pc : Nat) (r : xr_R), xcl xc_X4_noteMember pc = some r → xr_b xmi_X4_noteMember.1 (xm_ini xmi_X4_noteMember) xmi_X4_noteMember.2.2.1 pc r = true ∧ xr_c xM xmi_X4_noteMember.1 r = true := xc_up_e (mi := xmi_X4_noteMember) (cd := xc_X4_noteMember) (N := 48) (xc_up_s (mi := xmi_X4_noteMember) (cd := xc_X4_noteMember) (lo := 0) (n := 48) xc_up_0 xo_c_X4_noteMember_0) (by decide +kernel)
set_option maxRecDepth 20000 in
theorem xo_m_X4_noteName : xm_b xmi_X4_noteName (1, 3) (3, 97) (0, 15) = true := by decide +kernel
theorem xo_w_X4_noteName : Cond.code xmi_X4_noteName.2.1 xmi_X4_noteName.2.2.1 xmi_X4_noteName.2.2.2.1 xmi_X4_noteName.2.2.2.2.1 ∈ xG := xw_in2 (K := 3) (i := 98) rfl rfl
set_option maxRecDepth 20000 in
theorem xo_c_X4_noteName_0 : xc_b xmi_X4_noteName xc_X4_noteName 0 64 = true := by decide +kernel
theorem xo_r_X4_noteName : ∀ (pc : Nat) (r : xr_R), xcl xc_X4_noteName pc = some r → xr_b xmi_X4_noteName.1 (xm_ini xmi_X4_noteName) xmi_X4_noteName.2.2.1 pc r = true ∧ xr_c xM xmi_X4_noteName.1 r = true := xc_up_e (mi := xmi_X4_noteName) (cd := xc_X4_noteName) (N := 64) (xc_up_s (mi := xmi_X4_noteName) (cd := xc_X4_noteName) (lo := 0) (n := 64) xc_up_0 xo_c_X4_noteName_0) (by decide +kernel)
set_option maxRecDepth 20000 in
theorem xo_m_X4_countOne : xm_b xmi_X4_countOne (1, 3) (3, 64) (0, 10) = true := by decide +kernel
theorem xo_w_X4_countOne : Cond.code xmi_X4_countOne.2.1 xmi_X4_countOne.2.2.1 xmi_X4_countOne.2.2.2.1 xmi_X4_countOne.2.2.2.2.1 ∈ xG := xw_in2 (K := 3) (i := 65) rfl rfl
set_option maxRecDepth 20000 in
theorem xo_c_X4_countOne_0 : xc_b xmi_X4_countOne xc_X4_countOne 0 48 = true := by decide +kernel
theorem xo_r_X4_countOne : ∀ (pc : Nat) (r : xr_R), xcl xc_X4_countOne pc = some r → xr_b xmi_X4_countOne.1 (xm_ini xmi_X4_countOne) xmi_X4_countOne.2.2.1 pc r = true ∧ xr_c xM xmi_X4_countOne.1 r = true := xc_up_e (mi := xmi_X4_countOne) (cd := xc_X4_countOne) (N := 48) (xc_up_s (mi := xmi_X4_countOne) (cd := xc_X4_countOne) (lo := 0) (n := 48) xc_up_0 xo_c_X4_countOne_0) (by decide +kernel)
set_option maxRecDepth 20000 in
theorem xo_m_X4_readQuota : xm_b xmi_X4_readQuota (1, 3) (3, 60) (0, 9) = true := by decide +kernel
theorem xo_w_X4_readQuota : Cond.code xmi_X4_readQuota.2.1 xmi_X4_readQuota.2.2.1 xmi_X4_readQuota.2.2.2.1 xmi_X4_readQuota.2.2.2.2.1 ∈ xG := xw_in2 (K := 3) (i := 61) rfl rfl
set_option maxRecDepth 20000 in
theorem xo_c_X4_readQuota_0 : xc_b xmi_X4_readQuota xc_X4_readQuota 0 112 = true := by decide +kernel
set_option maxRecDepth 20000 in
theorem xo_c_X4_readQuota_112 : xc_b xmi_X4_readQuota xc_X4_readQuota 112 32 = true := by decide +kernel
theorem xo_r_X4_readQuota : ∀ (pc : Nat) (r : xr_R), xcl xc_X4_readQuota pc = some r → xr_b xmi_X4_readQuota.1 (xm_ini xmi_X4_readQuota) xmi_X4_readQuota.2.2.1 pc r = true ∧ xr_c xM xmi_X4_readQuota.1 r = true := xc_up_e (mi := xmi_X4_readQuota) (cd := xc_X4_readQuota) (N := 144) (xc_up_s (mi := xmi_X4_readQuota) (cd := xc_X4_readQuota) (lo := 112) (n := 32) (xc_up_s (mi := xmi_X4_readQuota) (cd := xc_X4_readQuota) (lo := 0) (n := 112) xc_up_0 xo_c_X4_readQuota_0) xo_c_X4_readQuota_112) (by decide +kernel)
set_option maxRecDepth 20000 in
theorem xo_m_X4_readItem : xm_b xmi_X4_readItem (1, 3) (3, 81) (0, 13) = true := by decide +kernel
theorem xo_w_X4_readItem : Cond.code xmi_X4_readItem.2.1 xmi_X4_readItem.2.2.1 xmi_X4_readItem.2.2.2.1 xmi_X4_readItem.2.2.2.2.1 ∈ xG := xw_in2 (K := 3) (i := 82) rfl rfl
set_option maxRecDepth 20000 in
theorem xo_c_X4_readItem_0 : xc_b xmi_X4_readItem xc_X4_readItem 0 112 = true := by decide +kernel
set_option maxRecDepth 20000 in
theorem xo_c_X4_readItem_112 : xc_b xmi_X4_readItem xc_X4_readItem 112 16 = true := by decide +kernel
theorem xo_r_X4_readItem : ∀ (pc : Nat) (r : xr_R), xcl xc_X4_readItem pc = some r → xr_b xmi_X4_readItem.1 (xm_ini xmi_X4_readItem) xmi_X4_readItem.2.2.1 pc r = true ∧ xr_c xM xmi_X4_readItem.1 r = true := xc_up_e (mi := xmi_X4_readItem) (cd := xc_X4_readItem) (N := 128) (xc_up_s (mi := xmi_X4_readItem) (cd := xc_X4_readItem) (lo := 112) (n := 16) (xc_up_s (mi := xmi_X4_readItem) (cd := xc_X4_readItem) (lo := 0) (n := 112) xc_up_0 xo_c_X4_readItem_0) xo_c_X4_readItem_112) (by decide +kernel)
set_option maxRecDepth 20000 in
theorem xo_m_X5_init : xm_b xmi_X5_init (1, 8) (1, 218) (99, 0) = true := by decide +kernel
theorem xo_w_X5_init : Cond.code xmi_X5_init.2.1 xmi_X5_init.2.2.1 xmi_X5_init.2.2.2.1 xmi_X5_init.2.2.2.2.1 ∈ xG := xw_in2 (K := 1) (i := 219) rfl rfl
set_option maxRecDepth 20000 in
theorem xo_c_X5_init_0 : xc_b xmi_X5_init xc_X5_init 0 112 = true := by decide +kernel
theorem xo_r_X5_init : ∀ (pc : Nat) (r : xr_R), xcl xc_X5_init pc = some r → xr_b xmi_X5_init.1 (xm_ini xmi_X5_init) xmi_X5_init.2.2.1 pc r = true ∧ xr_c xM xmi_X5_init.1 r = true := xc_up_e (mi := xmi_X5_init) (cd := xc_X5_init) (N := 112) (xc_up_s (mi := xmi_X5_init) (cd := xc_X5_init) (lo := 0) (n := 112) xc_up_0 xo_c_X5_init_0) (by decide +kernel)
set_option maxRecDepth 20000 in
theorem xo_m_X5_look : xm_b xmi_X5_look (1, 8) (4, 37) (4, 38) = true := by decide +kernel
theorem xo_w_X5_look : Cond.code xmi_X5_look.2.1 xmi_X5_look.2.2.1 xmi_X5_look.2.2.2.1 xmi_X5_look.2.2.2.2.1 ∈ xG := xw_in2 (K := 4) (i := 39) rfl rfl
set_option maxRecDepth 20000 in
theorem xo_c_X5_look_0 : xc_b xmi_X5_look xc_X5_look 0 64 = true := by decide +kernel
theorem xo_r_X5_look : ∀ (pc : Nat) (r : xr_R), xcl xc_X5_look pc = some r → xr_b xmi_X5_look.1 (xm_ini xmi_X5_look) xmi_X5_look.2.2.1 pc r = true ∧ xr_c xM xmi_X5_look.1 r = true := xc_up_e (mi := xmi_X5_look) (cd := xc_X5_look) (N := 64) (xc_up_s (mi := xmi_X5_look) (cd := xc_X5_look) (lo := 0) (n := 64) xc_up_0 xo_c_X5_look_0) (by decide +kernel)
set_option maxRecDepth 20000 in
theorem xo_m_X5_search : xm_b xmi_X5_search (1, 8) (4, 43) (0, 34) = true := by decide +kernel
theorem xo_w_X5_search : Cond.code xmi_X5_search.2.1 xmi_X5_search.2.2.1 xmi_X5_search.2.2.2.1 xmi_X5_search.2.2.2.2.1 ∈ xG := xw_in2 (K := 4) (i := 44) rfl rfl
set_option maxRecDepth 20000 in
theorem xo_c_X5_search_0 : xc_b xmi_X5_search xc_X5_search 0 112 = true := by decide +kernel
set_option maxRecDepth 20000 in
theorem xo_c_X5_search_112 : xc_b xmi_X5_search xc_X5_search 112 32 = true := by decide +kernel
theorem xo_r_X5_search : ∀ (pc : Nat) (r : xr_R), xcl xc_X5_search pc = some r → xr_b xmi_X5_search.1 (xm_ini xmi_X5_search) xmi_X5_search.2.2.1 pc r = true ∧ xr_c xM xmi_X5_search.1 r = true := xc_up_e (mi := xmi_X5_search) (cd := xc_X5_search) (N := 144) (xc_up_s (mi := xmi_X5_search) (cd := xc_X5_search) (lo := 112) (n := 32) (xc_up_s (mi := xmi_X5_search) (cd := xc_X5_search) (lo := 0) (n := 112) xc_up_0 xo_c_X5_search_0) xo_c_X5_search_112) (by decide +kernel)
set_option maxRecDepth 20000 in
theorem xo_m_X5_findClasses : xm_b xmi_X5_findClasses (1, 8) (4, 48) (0, 35) = true := by decide +kernel
theorem xo_w_X5_findClasses : Cond.code xmi_X5_findClasses.2.1 xmi_X5_findClasses.2.2.1 xmi_X5_findClasses.2.2.2.1 xmi_X5_findClasses.2.2.2.2.1 ∈ xG := xw_in2 (K := 4) (i := 49) rfl rfl
set_option maxRecDepth 20000 in
theorem xo_c_X5_findClasses_0 : xc_b xmi_X5_findClasses xc_X5_findClasses 0 112 = true := by decide +kernel
set_option maxRecDepth 20000 in
theorem xo_c_X5_findClasses_112 : xc_b xmi_X5_findClasses xc_X5_findClasses 112 16 = true := by decide +kernel
theorem xo_r_X5_findClasses : ∀ (pc : Nat) (r : xr_R), xcl xc_X5_findClasses pc = some r → xr_b xmi_X5_findClasses.1 (xm_ini xmi_X5_findClasses) xmi_X5_findClasses.2.2.1 pc r = true ∧ xr_c xM xmi_X5_findClasses.1 r = true := xc_up_e (mi := xmi_X5_findClasses) (cd := xc_X5_findClasses) (N := 128) (xc_up_s (mi := xmi_X5_findClasses) (cd := xc_X5_findClasses) (lo := 112) (n := 16) (xc_up_s (mi := xmi_X5_findClasses) (cd := xc_X5_findClasses) (lo := 0) (n := 112) xc_up_0 xo_c_X5_findClasses_0) xo_c_X5_findClasses_112) (by decide +kernel)
set_option maxRecDepth 20000 in
theorem xo_m_X5_isFirst : xm_b xmi_X5_isFirst (1, 8) (4, 52) (0, 36) = true := by decide +kernel
theorem xo_w_X5_isFirst : Cond.code xmi_X5_isFirst.2.1 xmi_X5_isFirst.2.2.1 xmi_X5_isFirst.2.2.2.1 xmi_X5_isFirst.2.2.2.2.1 ∈ xG := xw_in2 (K := 4) (i := 53) rfl rfl
set_option maxRecDepth 20000 in
theorem xo_c_X5_isFirst_0 : xc_b xmi_X5_isFirst xc_X5_isFirst 0 32 = true := by decide +kernel
theorem xo_r_X5_isFirst : ∀ (pc : Nat) (r : xr_R), xcl xc_X5_isFirst pc = some r → xr_b xmi_X5_isFirst.1 (xm_ini xmi_X5_isFirst) xmi_X5_isFirst.2.2.1 pc r = true ∧ xr_c xM xmi_X5_isFirst.1 r = true := xc_up_e (mi := xmi_X5_isFirst) (cd := xc_X5_isFirst) (N := 32) (xc_up_s (mi := xmi_X5_isFirst) (cd := xc_X5_isFirst) (lo := 0) (n := 32) xc_up_0 xo_c_X5_isFirst_0) (by decide +kernel)
set_option maxRecDepth 20000 in
theorem xo_m_X5_strengthOf : xm_b xmi_X5_strengthOf (1, 8) (4, 57) (0, 37) = true := by decide +kernel
theorem xo_w_X5_strengthOf : Cond.code xmi_X5_strengthOf.2.1 xmi_X5_strengthOf.2.2.1 xmi_X5_strengthOf.2.2.2.1 xmi_X5_strengthOf.2.2.2.2.1 ∈ xG := xw_in2 (K := 4) (i := 58) rfl rfl
set_option maxRecDepth 20000 in
theorem xo_c_X5_strengthOf_0 : xc_b xmi_X5_strengthOf xc_X5_strengthOf 0 48 = true := by decide +kernel
theorem xo_r_X5_strengthOf : ∀ (pc : Nat) (r : xr_R), xcl xc_X5_strengthOf pc = some r → xr_b xmi_X5_strengthOf.1 (xm_ini xmi_X5_strengthOf) xmi_X5_strengthOf.2.2.1 pc r = true ∧ xr_c xM xmi_X5_strengthOf.1 r = true := xc_up_e (mi := xmi_X5_strengthOf) (cd := xc_X5_strengthOf) (N := 48) (xc_up_s (mi := xmi_X5_strengthOf) (cd := xc_X5_strengthOf) (lo := 0) (n := 48) xc_up_0 xo_c_X5_strengthOf_0) (by decide +kernel)
set_option maxRecDepth 20000 in
theorem xo_m_X5_place : xm_b xmi_X5_place (1, 8) (4, 61) (0, 38) = true := by decide +kernel
theorem xo_w_X5_place : Cond.code xmi_X5_place.2.1 xmi_X5_place.2.2.1 xmi_X5_place.2.2.2.1 xmi_X5_place.2.2.2.2.1 ∈ xG := xw_in2 (K := 4) (i := 62) rfl rfl
set_option maxRecDepth 20000 in
theorem xo_c_X5_place_0 : xc_b xmi_X5_place xc_X5_place 0 112 = true := by decide +kernel
set_option maxRecDepth 20000 in
theorem xo_c_X5_place_112 : xc_b xmi_X5_place xc_X5_place 112 16 = true := by decide +kernel
theorem xo_r_X5_place : ∀ (pc : Nat) (r : xr_R), xcl xc_X5_place pc = some r → xr_b xmi_X5_place.1 (xm_ini xmi_X5_place) xmi_X5_place.2.2.1 pc r = true ∧ xr_c xM xmi_X5_place.1 r = true := xc_up_e (mi := xmi_X5_place) (cd := xc_X5_place) (N := 128) (xc_up_s (mi := xmi_X5_place) (cd := xc_X5_place) (lo := 112) (n := 16) (xc_up_s (mi := xmi_X5_place) (cd := xc_X5_place) (lo := 0) (n := 112) xc_up_0 xo_c_X5_place_0) xo_c_X5_place_112) (by decide +kernel)
set_option maxRecDepth 20000 in
theorem xo_m_X5_lowest : xm_b xmi_X5_lowest (1, 8) (4, 85) (0, 44) = true := by decide +kernel
theorem xo_w_X5_lowest : Cond.code xmi_X5_lowest.2.1 xmi_X5_lowest.2.2.1 xmi_X5_lowest.2.2.2.1 xmi_X5_lowest.2.2.2.2.1 ∈ xG := xw_in2 (K := 4) (i := 86) rfl rfl
set_option maxRecDepth 20000 in
theorem xo_c_X5_lowest_0 : xc_b xmi_X5_lowest xc_X5_lowest 0 48 = true := by decide +kernel
theorem xo_r_X5_lowest : ∀ (pc : Nat) (r : xr_R), xcl xc_X5_lowest pc = some r → xr_b xmi_X5_lowest.1 (xm_ini xmi_X5_lowest) xmi_X5_lowest.2.2.1 pc r = true ∧ xr_c xM xmi_X5_lowest.1 r = true := xc_up_e (mi := xmi_X5_lowest) (cd := xc_X5_lowest) (N := 48) (xc_up_s (mi := xmi_X5_lowest) (cd := xc_X5_lowest) (lo := 0) (n := 48) xc_up_0 xo_c_X5_lowest_0) (by decide +kernel)
set_option maxRecDepth 20000 in
theorem xo_m_X5_highest : xm_b xmi_X5_highest (1, 8) (4, 89) (0, 45) = true := by decide +kernel
theorem xo_w_X5_highest : Cond.code xmi_X5_highest.2.1 xmi_X5_highest.2.2.1 xmi_X5_highest.2.2.2.1 xmi_X5_highest.2.2.2.2.1 ∈ xG := xw_in2 (K := 4) (i := 90) rfl rfl
set_option maxRecDepth 20000 in
theorem xo_c_X5_highest_0 : xc_b xmi_X5_highest xc_X5_highest 0 48 = true := by decide +kernel
theorem xo_r_X5_highest : ∀ (pc : Nat) (r : xr_R), xcl xc_X5_highest pc = some r → xr_b xmi_X5_highest.1 (xm_ini xmi_X5_highest) xmi_X5_highest.2.2.1 pc r = true ∧ xr_c xM xmi_X5_highest.1 r = true := xc_up_e (mi := xmi_X5_highest) (cd := xc_X5_highest) (N := 48) (xc_up_s (mi := xmi_X5_highest) (cd := xc_X5_highest) (lo := 0) (n := 48) xc_up_0 xo_c_X5_highest_0) (by decide +kernel)
set_option maxRecDepth 20000 in
theorem xo_m_X5_leastRest : xm_b xmi_X5_leastRest (1, 8) (4, 93) (0, 46) = true := by decide +kernel
theorem xo_w_X5_leastRest : Cond.code xmi_X5_leastRest.2.1 xmi_X5_leastRest.2.2.1 xmi_X5_leastRest.2.2.2.1 xmi_X5_leastRest.2.2.2.2.1 ∈ xG := xw_in2 (K := 4) (i := 94) rfl rfl
set_option maxRecDepth 20000 in
theorem xo_c_X5_leastRest_0 : xc_b xmi_X5_leastRest xc_X5_leastRest 0 64 = true := by decide +kernel
theorem xo_r_X5_leastRest : ∀ (pc : Nat) (r : xr_R), xcl xc_X5_leastRest pc = some r → xr_b xmi_X5_leastRest.1 (xm_ini xmi_X5_leastRest) xmi_X5_leastRest.2.2.1 pc r = true ∧ xr_c xM xmi_X5_leastRest.1 r = true := xc_up_e (mi := xmi_X5_leastRest) (cd := xc_X5_leastRest) (N := 64) (xc_up_s (mi := xmi_X5_leastRest) (cd := xc_X5_leastRest) (lo := 0) (n := 64) xc_up_0 xo_c_X5_leastRest_0) (by decide +kernel)
set_option maxRecDepth 20000 in
theorem xo_m_X5_mostRest : xm_b xmi_X5_mostRest (1, 8) (4, 97) (0, 47) = true := by decide +kernel
theorem xo_w_X5_mostRest : Cond.code xmi_X5_mostRest.2.1 xmi_X5_mostRest.2.2.1 xmi_X5_mostRest.2.2.2.1 xmi_X5_mostRest.2.2.2.2.1 ∈ xG := xw_in2 (K := 4) (i := 98) rfl rfl
set_option maxRecDepth 20000 in
theorem xo_c_X5_mostRest_0 : xc_b xmi_X5_mostRest xc_X5_mostRest 0 80 = true := by decide +kernel
theorem xo_r_X5_mostRest : ∀ (pc : Nat) (r : xr_R), xcl xc_X5_mostRest pc = some r → xr_b xmi_X5_mostRest.1 (xm_ini xmi_X5_mostRest) xmi_X5_mostRest.2.2.1 pc r = true ∧ xr_c xM xmi_X5_mostRest.1 r = true := xc_up_e (mi := xmi_X5_mostRest) (cd := xc_X5_mostRest) (N := 80) (xc_up_s (mi := xmi_X5_mostRest) (cd := xc_X5_mostRest) (lo := 0) (n := 80) xc_up_0 xo_c_X5_mostRest_0) (by decide +kernel)
set_option maxRecDepth 20000 in
theorem xo_m_X5_tryRow : xm_b xmi_X5_tryRow (1, 8) (4, 65) (0, 39) = true := by decide +kernel
theorem xo_w_X5_tryRow : Cond.code xmi_X5_tryRow.2.1 xmi_X5_tryRow.2.2.1 xmi_X5_tryRow.2.2.2.1 xmi_X5_tryRow.2.2.2.2.1 ∈ xG := xw_in2 (K := 4) (i := 66) rfl rfl
set_option maxRecDepth 20000 in
theorem xo_c_X5_tryRow_0 : xc_b xmi_X5_tryRow xc_X5_tryRow 0 96 = true := by decide +kernel
theorem xo_r_X5_tryRow : ∀ (pc : Nat) (r : xr_R), xcl xc_X5_tryRow pc = some r → xr_b xmi_X5_tryRow.1 (xm_ini xmi_X5_tryRow) xmi_X5_tryRow.2.2.1 pc r = true ∧ xr_c xM xmi_X5_tryRow.1 r = true := xc_up_e (mi := xmi_X5_tryRow) (cd := xc_X5_tryRow) (N := 96) (xc_up_s (mi := xmi_X5_tryRow) (cd := xc_X5_tryRow) (lo := 0) (n := 96) xc_up_0 xo_c_X5_tryRow_0) (by decide +kernel)
set_option maxRecDepth 20000 in
theorem xo_m_X5_doesTheSame : xm_b xmi_X5_doesTheSame (1, 8) (4, 69) (0, 40) = true := by decide +kernel
theorem xo_w_X5_doesTheSame : Cond.code xmi_X5_doesTheSame.2.1 xmi_X5_doesTheSame.2.2.1 xmi_X5_doesTheSame.2.2.2.1 xmi_X5_doesTheSame.2.2.2.2.1 ∈ xG := xw_in2 (K := 4) (i := 70) rfl rfl
set_option maxRecDepth 20000 in
theorem xo_c_X5_doesTheSame_0 : xc_b xmi_X5_doesTheSame xc_X5_doesTheSame 0 112 = true := by decide +kernel
theorem xo_r_X5_doesTheSame : ∀ (pc : Nat) (r : xr_R), xcl xc_X5_doesTheSame pc = some r → xr_b xmi_X5_doesTheSame.1 (xm_ini xmi_X5_doesTheSame) xmi_X5_doesTheSame.2.2.1 pc r = true ∧ xr_c xM xmi_X5_doesTheSame.1 r = true := xc_up_e (mi := xmi_X5_doesTheSame) (cd := xc_X5_doesTheSame) (N := 112) (xc_up_s (mi := xmi_X5_doesTheSame) (cd := xc_X5_doesTheSame) (lo := 0) (n := 112) xc_up_0 xo_c_X5_doesTheSame_0) (by decide +kernel)
set_option maxRecDepth 20000 in
theorem xo_m_X5_lightest : xm_b xmi_X5_lightest (1, 8) (4, 77) (0, 42) = true := by decide +kernel
theorem xo_w_X5_lightest : Cond.code xmi_X5_lightest.2.1 xmi_X5_lightest.2.2.1 xmi_X5_lightest.2.2.2.1 xmi_X5_lightest.2.2.2.2.1 ∈ xG := xw_in2 (K := 4) (i := 78) rfl rfl
set_option maxRecDepth 20000 in
theorem xo_c_X5_lightest_0 : xc_b xmi_X5_lightest xc_X5_lightest 0 64 = true := by decide +kernel
theorem xo_r_X5_lightest : ∀ (pc : Nat) (r : xr_R), xcl xc_X5_lightest pc = some r → xr_b xmi_X5_lightest.1 (xm_ini xmi_X5_lightest) xmi_X5_lightest.2.2.1 pc r = true ∧ xr_c xM xmi_X5_lightest.1 r = true := xc_up_e (mi := xmi_X5_lightest) (cd := xc_X5_lightest) (N := 64) (xc_up_s (mi := xmi_X5_lightest) (cd := xc_X5_lightest) (lo := 0) (n := 64) xc_up_0 xo_c_X5_lightest_0) (by decide +kernel)
set_option maxRecDepth 20000 in
theorem xo_m_X5_weightOf : xm_b xmi_X5_weightOf (1, 8) (4, 73) (0, 41) = true := by decide +kernel
theorem xo_w_X5_weightOf : Cond.code xmi_X5_weightOf.2.1 xmi_X5_weightOf.2.2.1 xmi_X5_weightOf.2.2.2.1 xmi_X5_weightOf.2.2.2.2.1 ∈ xG := xw_in2 (K := 4) (i := 74) rfl rfl
set_option maxRecDepth 20000 in
theorem xo_c_X5_weightOf_0 : xc_b xmi_X5_weightOf xc_X5_weightOf 0 48 = true := by decide +kernel
theorem xo_r_X5_weightOf : ∀ (pc : Nat) (r : xr_R), xcl xc_X5_weightOf pc = some r → xr_b xmi_X5_weightOf.1 (xm_ini xmi_X5_weightOf) xmi_X5_weightOf.2.2.1 pc r = true ∧ xr_c xM xmi_X5_weightOf.1 r = true := xc_up_e (mi := xmi_X5_weightOf) (cd := xc_X5_weightOf) (N := 48) (xc_up_s (mi := xmi_X5_weightOf) (cd := xc_X5_weightOf) (lo := 0) (n := 48) xc_up_0 xo_c_X5_weightOf_0) (by decide +kernel)
set_option maxRecDepth 20000 in
theorem xo_m_X5_tell : xm_b xmi_X5_tell (1, 8) (4, 81) (0, 43) = true := by decide +kernel
theorem xo_w_X5_tell : Cond.code xmi_X5_tell.2.1 xmi_X5_tell.2.2.1 xmi_X5_tell.2.2.2.1 xmi_X5_tell.2.2.2.2.1 ∈ xG := xw_in2 (K := 4) (i := 82) rfl rfl
set_option maxRecDepth 20000 in
theorem xo_c_X5_tell_0 : xc_b xmi_X5_tell xc_X5_tell 0 64 = true := by decide +kernel
theorem xo_r_X5_tell : ∀ (pc : Nat) (r : xr_R), xcl xc_X5_tell pc = some r → xr_b xmi_X5_tell.1 (xm_ini xmi_X5_tell) xmi_X5_tell.2.2.1 pc r = true ∧ xr_c xM xmi_X5_tell.1 r = true := xc_up_e (mi := xmi_X5_tell) (cd := xc_X5_tell) (N := 64) (xc_up_s (mi := xmi_X5_tell) (cd := xc_X5_tell) (lo := 0) (n := 64) xc_up_0 xo_c_X5_tell_0) (by decide +kernel)
set_option maxRecDepth 20000 in
theorem xo_m_X6_init : xm_b xmi_X6_init (1, 5) (1, 76) (99, 0) = true := by decide +kernel
theorem xo_w_X6_init : Cond.code xmi_X6_init.2.1 xmi_X6_init.2.2.1 xmi_X6_init.2.2.2.1 xmi_X6_init.2.2.2.2.1 ∈ xG := xw_in2 (K := 1) (i := 77) rfl rfl
set_option maxRecDepth 20000 in
theorem xo_c_X6_init_0 : xc_b xmi_X6_init xc_X6_init 0 16 = true := by decide +kernel
theorem xo_r_X6_init : ∀ (pc : Nat) (r : xr_R), xcl xc_X6_init pc = some r → xr_b xmi_X6_init.1 (xm_ini xmi_X6_init) xmi_X6_init.2.2.1 pc r = true ∧ xr_c xM xmi_X6_init.1 r = true := xc_up_e (mi := xmi_X6_init) (cd := xc_X6_init) (N := 16) (xc_up_s (mi := xmi_X6_init) (cd := xc_X6_init) (lo := 0) (n := 16) xc_up_0 xo_c_X6_init_0) (by decide +kernel)
set_option maxRecDepth 20000 in
theorem xo_m_X6_begin : xm_b xmi_X6_begin (1, 5) (2, 168) (2, 169) = true := by decide +kernel
theorem xo_w_X6_begin : Cond.code xmi_X6_begin.2.1 xmi_X6_begin.2.2.1 xmi_X6_begin.2.2.2.1 xmi_X6_begin.2.2.2.2.1 ∈ xG := xw_in2 (K := 2) (i := 170) rfl rfl
set_option maxRecDepth 20000 in
theorem xo_c_X6_begin_0 : xc_b xmi_X6_begin xc_X6_begin 0 32 = true := by decide +kernel
theorem xo_r_X6_begin : ∀ (pc : Nat) (r : xr_R), xcl xc_X6_begin pc = some r → xr_b xmi_X6_begin.1 (xm_ini xmi_X6_begin) xmi_X6_begin.2.2.1 pc r = true ∧ xr_c xM xmi_X6_begin.1 r = true := xc_up_e (mi := xmi_X6_begin) (cd := xc_X6_begin) (N := 32) (xc_up_s (mi := xmi_X6_begin) (cd := xc_X6_begin) (lo := 0) (n := 32) xc_up_0 xo_c_X6_begin_0) (by decide +kernel)
set_option maxRecDepth 20000 in
theorem xo_m_X6_isCut : xm_b xmi_X6_isCut (1, 5) (3, 107) (3, 108) = true := by decide +kernel
theorem xo_w_X6_isCut : Cond.code xmi_X6_isCut.2.1 xmi_X6_isCut.2.2.1 xmi_X6_isCut.2.2.2.1 xmi_X6_isCut.2.2.2.2.1 ∈ xG := xw_in2 (K := 3) (i := 109) rfl rfl
set_option maxRecDepth 20000 in
theorem xo_c_X6_isCut_0 : xc_b xmi_X6_isCut xc_X6_isCut 0 32 = true := by decide +kernel
theorem xo_r_X6_isCut : ∀ (pc : Nat) (r : xr_R), xcl xc_X6_isCut pc = some r → xr_b xmi_X6_isCut.1 (xm_ini xmi_X6_isCut) xmi_X6_isCut.2.2.1 pc r = true ∧ xr_c xM xmi_X6_isCut.1 r = true := xc_up_e (mi := xmi_X6_isCut) (cd := xc_X6_isCut) (N := 32) (xc_up_s (mi := xmi_X6_isCut) (cd := xc_X6_isCut) (lo := 0) (n := 32) xc_up_0 xo_c_X6_isCut_0) (by decide +kernel)
set_option maxRecDepth 20000 in
theorem xo_m_X6_advance : xm_b xmi_X6_advance (1, 5) (2, 175) (2, 176) = true := by decide +kernel
theorem xo_w_X6_advance : Cond.code xmi_X6_advance.2.1 xmi_X6_advance.2.2.1 xmi_X6_advance.2.2.2.1 xmi_X6_advance.2.2.2.2.1 ∈ xG := xw_in2 (K := 2) (i := 177) rfl rfl
set_option maxRecDepth 20000 in
theorem xo_c_X6_advance_0 : xc_b xmi_X6_advance xc_X6_advance 0 112 = true := by decide +kernel
set_option maxRecDepth 20000 in
theorem xo_c_X6_advance_112 : xc_b xmi_X6_advance xc_X6_advance 112 64 = true := by decide +kernel
theorem xo_r_X6_advance : ∀ (pc : Nat) (r : xr_R), xcl xc_X6_advance pc = some r → xr_b xmi_X6_advance.1 (xm_ini xmi_X6_advance) xmi_X6_advance.2.2.1 pc r = true ∧ xr_c xM xmi_X6_advance.1 r = true := xc_up_e (mi := xmi_X6_advance) (cd := xc_X6_advance) (N := 176) (xc_up_s (mi := xmi_X6_advance) (cd := xc_X6_advance) (lo := 112) (n := 64) (xc_up_s (mi := xmi_X6_advance) (cd := xc_X6_advance) (lo := 0) (n := 112) xc_up_0 xo_c_X6_advance_0) xo_c_X6_advance_112) (by decide +kernel)
set_option maxRecDepth 20000 in
theorem xo_m_X6_takeRun : xm_b xmi_X6_takeRun (1, 5) (2, 193) (0, 0) = true := by decide +kernel
theorem xo_w_X6_takeRun : Cond.code xmi_X6_takeRun.2.1 xmi_X6_takeRun.2.2.1 xmi_X6_takeRun.2.2.2.1 xmi_X6_takeRun.2.2.2.2.1 ∈ xG := xw_in2 (K := 2) (i := 194) rfl rfl
set_option maxRecDepth 20000 in
theorem xo_c_X6_takeRun_0 : xc_b xmi_X6_takeRun xc_X6_takeRun 0 112 = true := by decide +kernel
set_option maxRecDepth 20000 in
theorem xo_c_X6_takeRun_112 : xc_b xmi_X6_takeRun xc_X6_takeRun 112 32 = true := by decide +kernel
theorem xo_r_X6_takeRun : ∀ (pc : Nat) (r : xr_R), xcl xc_X6_takeRun pc = some r → xr_b xmi_X6_takeRun.1 (xm_ini xmi_X6_takeRun) xmi_X6_takeRun.2.2.1 pc r = true ∧ xr_c xM xmi_X6_takeRun.1 r = true := xc_up_e (mi := xmi_X6_takeRun) (cd := xc_X6_takeRun) (N := 144) (xc_up_s (mi := xmi_X6_takeRun) (cd := xc_X6_takeRun) (lo := 112) (n := 32) (xc_up_s (mi := xmi_X6_takeRun) (cd := xc_X6_takeRun) (lo := 0) (n := 112) xc_up_0 xo_c_X6_takeRun_0) xo_c_X6_takeRun_112) (by decide +kernel)
set_option maxRecDepth 20000 in
theorem xo_m_X6_isWord : xm_b xmi_X6_isWord (1, 5) (2, 200) (2, 201) = true := by decide +kernel
theorem xo_w_X6_isWord : Cond.code xmi_X6_isWord.2.1 xmi_X6_isWord.2.2.1 xmi_X6_isWord.2.2.2.1 xmi_X6_isWord.2.2.2.2.1 ∈ xG := xw_in2 (K := 2) (i := 202) rfl rfl
set_option maxRecDepth 20000 in
theorem xo_c_X6_isWord_0 : xc_b xmi_X6_isWord xc_X6_isWord 0 80 = true := by decide +kernel
theorem xo_r_X6_isWord : ∀ (pc : Nat) (r : xr_R), xcl xc_X6_isWord pc = some r → xr_b xmi_X6_isWord.1 (xm_ini xmi_X6_isWord) xmi_X6_isWord.2.2.1 pc r = true ∧ xr_c xM xmi_X6_isWord.1 r = true := xc_up_e (mi := xmi_X6_isWord) (cd := xc_X6_isWord) (N := 80) (xc_up_s (mi := xmi_X6_isWord) (cd := xc_X6_isWord) (lo := 0) (n := 80) xc_up_0 xo_c_X6_isWord_0) (by decide +kernel)
set_option maxRecDepth 20000 in
theorem xo_m_X6_isName : xm_b xmi_X6_isName (1, 5) (3, 21) (3, 22) = true := by decide +kernel
theorem xo_w_X6_isName : Cond.code xmi_X6_isName.2.1 xmi_X6_isName.2.2.1 xmi_X6_isName.2.2.2.1 xmi_X6_isName.2.2.2.2.1 ∈ xG := xw_in2 (K := 3) (i := 23) rfl rfl
set_option maxRecDepth 20000 in
theorem xo_c_X6_isName_0 : xc_b xmi_X6_isName xc_X6_isName 0 96 = true := by decide +kernel
theorem xo_r_X6_isName : ∀ (pc : Nat) (r : xr_R), xcl xc_X6_isName pc = some r → xr_b xmi_X6_isName.1 (xm_ini xmi_X6_isName) xmi_X6_isName.2.2.1 pc r = true ∧ xr_c xM xmi_X6_isName.1 r = true := xc_up_e (mi := xmi_X6_isName) (cd := xc_X6_isName) (N := 96) (xc_up_s (mi := xmi_X6_isName) (cd := xc_X6_isName) (lo := 0) (n := 96) xc_up_0 xo_c_X6_isName_0) (by decide +kernel)
set_option maxRecDepth 20000 in
theorem xo_m_X6_isLone : xm_b xmi_X6_isLone (1, 5) (3, 84) (3, 85) = true := by decide +kernel
theorem xo_w_X6_isLone : Cond.code xmi_X6_isLone.2.1 xmi_X6_isLone.2.2.1 xmi_X6_isLone.2.2.2.1 xmi_X6_isLone.2.2.2.2.1 ∈ xG := xw_in2 (K := 3) (i := 86) rfl rfl
set_option maxRecDepth 20000 in
theorem xo_c_X6_isLone_0 : xc_b xmi_X6_isLone xc_X6_isLone 0 32 = true := by decide +kernel
theorem xo_r_X6_isLone : ∀ (pc : Nat) (r : xr_R), xcl xc_X6_isLone pc = some r → xr_b xmi_X6_isLone.1 (xm_ini xmi_X6_isLone) xmi_X6_isLone.2.2.1 pc r = true ∧ xr_c xM xmi_X6_isLone.1 r = true := xc_up_e (mi := xmi_X6_isLone) (cd := xc_X6_isLone) (N := 32) (xc_up_s (mi := xmi_X6_isLone) (cd := xc_X6_isLone) (lo := 0) (n := 32) xc_up_0 xo_c_X6_isLone_0) (by decide +kernel)
set_option maxRecDepth 20000 in
theorem xo_m_X6_letter : xm_b xmi_X6_letter (1, 5) (3, 92) (3, 93) = true := by decide +kernel
theorem xo_w_X6_letter : Cond.code xmi_X6_letter.2.1 xmi_X6_letter.2.2.1 xmi_X6_letter.2.2.2.1 xmi_X6_letter.2.2.2.2.1 ∈ xG := xw_in2 (K := 3) (i := 94) rfl rfl
set_option maxRecDepth 20000 in
theorem xo_c_X6_letter_0 : xc_b xmi_X6_letter xc_X6_letter 0 16 = true := by decide +kernel
theorem xo_r_X6_letter : ∀ (pc : Nat) (r : xr_R), xcl xc_X6_letter pc = some r → xr_b xmi_X6_letter.1 (xm_ini xmi_X6_letter) xmi_X6_letter.2.2.1 pc r = true ∧ xr_c xM xmi_X6_letter.1 r = true := xc_up_e (mi := xmi_X6_letter) (cd := xc_X6_letter) (N := 16) (xc_up_s (mi := xmi_X6_letter) (cd := xc_X6_letter) (lo := 0) (n := 16) xc_up_0 xo_c_X6_letter_0) (by decide +kernel)
set_option maxRecDepth 20000 in
theorem xo_m_X6_isLike : xm_b xmi_X6_isLike (1, 5) (3, 39) (3, 40) = true := by decide +kernel
theorem xo_w_X6_isLike : Cond.code xmi_X6_isLike.2.1 xmi_X6_isLike.2.2.1 xmi_X6_isLike.2.2.2.1 xmi_X6_isLike.2.2.2.2.1 ∈ xG := xw_in2 (K := 3) (i := 41) rfl rfl
set_option maxRecDepth 20000 in
theorem xo_c_X6_isLike_0 : xc_b xmi_X6_isLike xc_X6_isLike 0 64 = true := by decide +kernel
theorem xo_r_X6_isLike : ∀ (pc : Nat) (r : xr_R), xcl xc_X6_isLike pc = some r → xr_b xmi_X6_isLike.1 (xm_ini xmi_X6_isLike) xmi_X6_isLike.2.2.1 pc r = true ∧ xr_c xM xmi_X6_isLike.1 r = true := xc_up_e (mi := xmi_X6_isLike) (cd := xc_X6_isLike) (N := 64) (xc_up_s (mi := xmi_X6_isLike) (cd := xc_X6_isLike) (lo := 0) (n := 64) xc_up_0 xo_c_X6_isLike_0) (by decide +kernel)
set_option maxRecDepth 20000 in
theorem xo_m_X6_isBlank : xm_b xmi_X6_isBlank (1, 5) (2, 183) (99, 0) = true := by decide +kernel
theorem xo_w_X6_isBlank : Cond.code xmi_X6_isBlank.2.1 xmi_X6_isBlank.2.2.1 xmi_X6_isBlank.2.2.2.1 xmi_X6_isBlank.2.2.2.2.1 ∈ xG := xw_in2 (K := 2) (i := 184) rfl rfl
set_option maxRecDepth 20000 in
theorem xo_c_X6_isBlank_0 : xc_b xmi_X6_isBlank xc_X6_isBlank 0 32 = true := by decide +kernel
theorem xo_r_X6_isBlank : ∀ (pc : Nat) (r : xr_R), xcl xc_X6_isBlank pc = some r → xr_b xmi_X6_isBlank.1 (xm_ini xmi_X6_isBlank) xmi_X6_isBlank.2.2.1 pc r = true ∧ xr_c xM xmi_X6_isBlank.1 r = true := xc_up_e (mi := xmi_X6_isBlank) (cd := xc_X6_isBlank) (N := 32) (xc_up_s (mi := xmi_X6_isBlank) (cd := xc_X6_isBlank) (lo := 0) (n := 32) xc_up_0 xo_c_X6_isBlank_0) (by decide +kernel)
set_option maxRecDepth 20000 in
theorem xo_m_X6_isLetter : xm_b xmi_X6_isLetter (1, 5) (2, 186) (99, 0) = true := by decide +kernel
theorem xo_w_X6_isLetter : Cond.code xmi_X6_isLetter.2.1 xmi_X6_isLetter.2.2.1 xmi_X6_isLetter.2.2.2.1 xmi_X6_isLetter.2.2.2.2.1 ∈ xG := xw_in2 (K := 2) (i := 187) rfl rfl
set_option maxRecDepth 20000 in
theorem xo_c_X6_isLetter_0 : xc_b xmi_X6_isLetter xc_X6_isLetter 0 32 = true := by decide +kernel
theorem xo_r_X6_isLetter : ∀ (pc : Nat) (r : xr_R), xcl xc_X6_isLetter pc = some r → xr_b xmi_X6_isLetter.1 (xm_ini xmi_X6_isLetter) xmi_X6_isLetter.2.2.1 pc r = true ∧ xr_c xM xmi_X6_isLetter.1 r = true := xc_up_e (mi := xmi_X6_isLetter) (cd := xc_X6_isLetter) (N := 32) (xc_up_s (mi := xmi_X6_isLetter) (cd := xc_X6_isLetter) (lo := 0) (n := 32) xc_up_0 xo_c_X6_isLetter_0) (by decide +kernel)
set_option maxRecDepth 20000 in
theorem xo_m_X6_isDigit : xm_b xmi_X6_isDigit (1, 5) (2, 189) (99, 0) = true := by decide +kernel
theorem xo_w_X6_isDigit : Cond.code xmi_X6_isDigit.2.1 xmi_X6_isDigit.2.2.1 xmi_X6_isDigit.2.2.2.1 xmi_X6_isDigit.2.2.2.2.1 ∈ xG := xw_in2 (K := 2) (i := 190) rfl rfl
set_option maxRecDepth 20000 in
theorem xo_c_X6_isDigit_0 : xc_b xmi_X6_isDigit xc_X6_isDigit 0 32 = true := by decide +kernel
theorem xo_r_X6_isDigit : ∀ (pc : Nat) (r : xr_R), xcl xc_X6_isDigit pc = some r → xr_b xmi_X6_isDigit.1 (xm_ini xmi_X6_isDigit) xmi_X6_isDigit.2.2.1 pc r = true ∧ xr_c xM xmi_X6_isDigit.1 r = true := xc_up_e (mi := xmi_X6_isDigit) (cd := xc_X6_isDigit) (N := 32) (xc_up_s (mi := xmi_X6_isDigit) (cd := xc_X6_isDigit) (lo := 0) (n := 32) xc_up_0 xo_c_X6_isDigit_0) (by decide +kernel)
set_option maxRecDepth 20000 in
theorem xo_m_X6_isSign : xm_b xmi_X6_isSign (1, 5) (2, 196) (99, 0) = true := by decide +kernel
theorem xo_w_X6_isSign : Cond.code xmi_X6_isSign.2.1 xmi_X6_isSign.2.2.1 xmi_X6_isSign.2.2.2.1 xmi_X6_isSign.2.2.2.2.1 ∈ xG := xw_in2 (K := 2) (i := 197) rfl rfl
set_option maxRecDepth 20000 in
theorem xo_c_X6_isSign_0 : xc_b xmi_X6_isSign xc_X6_isSign 0 48 = true := by decide +kernel
theorem xo_r_X6_isSign : ∀ (pc : Nat) (r : xr_R), xcl xc_X6_isSign pc = some r → xr_b xmi_X6_isSign.1 (xm_ini xmi_X6_isSign) xmi_X6_isSign.2.2.1 pc r = true ∧ xr_c xM xmi_X6_isSign.1 r = true := xc_up_e (mi := xmi_X6_isSign) (cd := xc_X6_isSign) (N := 48) (xc_up_s (mi := xmi_X6_isSign) (cd := xc_X6_isSign) (lo := 0) (n := 48) xc_up_0 xo_c_X6_isSign_0) (by decide +kernel)
set_option maxRecDepth 20000 in
theorem xo_m_X7_init : xm_b xmi_X7_init (1, 6) (1, 143) (99, 0) = true := by decide +kernel
theorem xo_w_X7_init : Cond.code xmi_X7_init.2.1 xmi_X7_init.2.2.1 xmi_X7_init.2.2.2.1 xmi_X7_init.2.2.2.2.1 ∈ xG := xw_in2 (K := 1) (i := 144) rfl rfl
set_option maxRecDepth 20000 in
theorem xo_c_X7_init_0 : xc_b xmi_X7_init xc_X7_init 0 32 = true := by decide +kernel
theorem xo_r_X7_init : ∀ (pc : Nat) (r : xr_R), xcl xc_X7_init pc = some r → xr_b xmi_X7_init.1 (xm_ini xmi_X7_init) xmi_X7_init.2.2.1 pc r = true ∧ xr_c xM xmi_X7_init.1 r = true := xc_up_e (mi := xmi_X7_init) (cd := xc_X7_init) (N := 32) (xc_up_s (mi := xmi_X7_init) (cd := xc_X7_init) (lo := 0) (n := 32) xc_up_0 xo_c_X7_init_0) (by decide +kernel)
set_option maxRecDepth 20000 in
theorem xo_m_X7_holds : xm_b xmi_X7_holds (1, 6) (3, 151) (3, 152) = true := by decide +kernel
theorem xo_w_X7_holds : Cond.code xmi_X7_holds.2.1 xmi_X7_holds.2.2.1 xmi_X7_holds.2.2.2.1 xmi_X7_holds.2.2.2.2.1 ∈ xG := xw_in2 (K := 3) (i := 153) rfl rfl
set_option maxRecDepth 20000 in
theorem xo_c_X7_holds_0 : xc_b xmi_X7_holds xc_X7_holds 0 48 = true := by decide +kernel
theorem xo_r_X7_holds : ∀ (pc : Nat) (r : xr_R), xcl xc_X7_holds pc = some r → xr_b xmi_X7_holds.1 (xm_ini xmi_X7_holds) xmi_X7_holds.2.2.1 pc r = true ∧ xr_c xM xmi_X7_holds.1 r = true := xc_up_e (mi := xmi_X7_holds) (cd := xc_X7_holds) (N := 48) (xc_up_s (mi := xmi_X7_holds) (cd := xc_X7_holds) (lo := 0) (n := 48) xc_up_0 xo_c_X7_holds_0) (by decide +kernel)
set_option maxRecDepth 20000 in
theorem xo_m_X7_add : xm_b xmi_X7_add (1, 6) (2, 91) (2, 92) = true := by decide +kernel
theorem xo_w_X7_add : Cond.code xmi_X7_add.2.1 xmi_X7_add.2.2.1 xmi_X7_add.2.2.2.1 xmi_X7_add.2.2.2.2.1 ∈ xG := xw_in2 (K := 2) (i := 93) rfl rfl
set_option maxRecDepth 20000 in
theorem xo_c_X7_add_0 : xc_b xmi_X7_add xc_X7_add 0 32 = true := by decide +kernel
theorem xo_r_X7_add : ∀ (pc : Nat) (r : xr_R), xcl xc_X7_add pc = some r → xr_b xmi_X7_add.1 (xm_ini xmi_X7_add) xmi_X7_add.2.2.1 pc r = true ∧ xr_c xM xmi_X7_add.1 r = true := xc_up_e (mi := xmi_X7_add) (cd := xc_X7_add) (N := 32) (xc_up_s (mi := xmi_X7_add) (cd := xc_X7_add) (lo := 0) (n := 32) xc_up_0 xo_c_X7_add_0) (by decide +kernel)
end XCK0
