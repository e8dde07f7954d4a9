section XCK4
set_option maxRecDepth 20000 in
theorem xo_m_X9_members : xm_b xmi_X9_members (2, 154) (1, 1) (2, 152) (2, 153) = true := by decide +kernel
set_option maxRecDepth 20000 in
theorem xo_c_X9_members_0 : xc_b xmi_X9_members xc_X9_members 0 80 = true := by decide +kernel
theorem xo_r_X9_members : ∀ (pc : Nat) (r : xr_R), xcl xc_X9_members pc = some r → xr_b xmi_X9_members.1 (xm_ini xmi_X9_members) xmi_X9_members.2.2.1 pc r = true ∧ xr_c xM xmi_X9_members.1 r = true := xc_up_e (mi := xmi_X9_members) (cd := xc_X9_members) (N := 80) (xc_up_s (mi := xmi_X9_members) (cd := xc_X9_members) (lo := 0) (n := 80) xc_up_0 xo_c_X9_members_0) (by decide +kernel)
set_option maxRecDepth 20000 in
theorem xo_m_X9_statute : xm_b xmi_X9_statute (2, 158) (1, 1) (2, 156) (2, 157) = true := by decide +kernel
set_option maxRecDepth 20000 in
theorem xo_c_X9_statute_0 : xc_b xmi_X9_statute xc_X9_statute 0 112 = true := by decide +kernel
set_option maxRecDepth 20000 in
theorem xo_c_X9_statute_112 : xc_b xmi_X9_statute xc_X9_statute 112 32 = true := by decide +kernel
theorem xo_r_X9_statute : ∀ (pc : Nat) (r : xr_R), xcl xc_X9_statute pc = some r → xr_b xmi_X9_statute.1 (xm_ini xmi_X9_statute) xmi_X9_statute.2.2.1 pc r = true ∧ xr_c xM xmi_X9_statute.1 r = true := xc_up_e (mi := xmi_X9_statute) (cd := xc_X9_statute) (N := 144) (xc_up_s (mi := xmi_X9_statute) (cd := xc_X9_statute) (lo := 112) (n := 32) (xc_up_s (mi := xmi_X9_statute) (cd := xc_X9_statute) (lo := 0) (n := 112) xc_up_0 xo_c_X9_statute_0) xo_c_X9_statute_112) (by decide +kernel)
set_option maxRecDepth 20000 in
theorem xo_m_X9_fault : xm_b xmi_X9_fault (3, 137) (1, 1) (3, 135) (3, 136) = true := by decide +kernel
set_option maxRecDepth 20000 in
theorem xo_c_X9_fault_0 : xc_b xmi_X9_fault xc_X9_fault 0 16 = true := by decide +kernel
theorem xo_r_X9_fault : ∀ (pc : Nat) (r : xr_R), xcl xc_X9_fault pc = some r → xr_b xmi_X9_fault.1 (xm_ini xmi_X9_fault) xmi_X9_fault.2.2.1 pc r = true ∧ xr_c xM xmi_X9_fault.1 r = true := xc_up_e (mi := xmi_X9_fault) (cd := xc_X9_fault) (N := 16) (xc_up_s (mi := xmi_X9_fault) (cd := xc_X9_fault) (lo := 0) (n := 16) xc_up_0 xo_c_X9_fault_0) (by decide +kernel)
set_option maxRecDepth 20000 in
theorem xo_m_X9_carries : xm_b xmi_X9_carries (3, 141) (1, 1) (3, 139) (3, 140) = true := by decide +kernel
set_option maxRecDepth 20000 in
theorem xo_c_X9_carries_0 : xc_b xmi_X9_carries xc_X9_carries 0 48 = true := by decide +kernel
theorem xo_r_X9_carries : ∀ (pc : Nat) (r : xr_R), xcl xc_X9_carries pc = some r → xr_b xmi_X9_carries.1 (xm_ini xmi_X9_carries) xmi_X9_carries.2.2.1 pc r = true ∧ xr_c xM xmi_X9_carries.1 r = true := xc_up_e (mi := xmi_X9_carries) (cd := xc_X9_carries) (N := 48) (xc_up_s (mi := xmi_X9_carries) (cd := xc_X9_carries) (lo := 0) (n := 48) xc_up_0 xo_c_X9_carries_0) (by decide +kernel)
set_option maxRecDepth 20000 in
theorem xo_m_X9_many : xm_b xmi_X9_many (3, 157) (1, 1) (3, 155) (3, 156) = true := by decide +kernel
set_option maxRecDepth 20000 in
theorem xo_c_X9_many_0 : xc_b xmi_X9_many xc_X9_many 0 112 = true := by decide +kernel
set_option maxRecDepth 20000 in
theorem xo_c_X9_many_112 : xc_b xmi_X9_many xc_X9_many 112 16 = true := by decide +kernel
theorem xo_r_X9_many : ∀ (pc : Nat) (r : xr_R), xcl xc_X9_many pc = some r → xr_b xmi_X9_many.1 (xm_ini xmi_X9_many) xmi_X9_many.2.2.1 pc r = true ∧ xr_c xM xmi_X9_many.1 r = true := xc_up_e (mi := xmi_X9_many) (cd := xc_X9_many) (N := 128) (xc_up_s (mi := xmi_X9_many) (cd := xc_X9_many) (lo := 112) (n := 16) (xc_up_s (mi := xmi_X9_many) (cd := xc_X9_many) (lo := 0) (n := 112) xc_up_0 xo_c_X9_many_0) xo_c_X9_many_112) (by decide +kernel)
set_option maxRecDepth 20000 in
theorem xo_m_X9_setAt : xm_b xmi_X9_setAt (3, 234) (1, 1) (3, 232) (3, 233) = true := by decide +kernel
set_option maxRecDepth 20000 in
theorem xo_c_X9_setAt_0 : xc_b xmi_X9_setAt xc_X9_setAt 0 112 = true := by decide +kernel
theorem xo_r_X9_setAt : ∀ (pc : Nat) (r : xr_R), xcl xc_X9_setAt pc = some r → xr_b xmi_X9_setAt.1 (xm_ini xmi_X9_setAt) xmi_X9_setAt.2.2.1 pc r = true ∧ xr_c xM xmi_X9_setAt.1 r = true := xc_up_e (mi := xmi_X9_setAt) (cd := xc_X9_setAt) (N := 112) (xc_up_s (mi := xmi_X9_setAt) (cd := xc_X9_setAt) (lo := 0) (n := 112) xc_up_0 xo_c_X9_setAt_0) (by decide +kernel)
set_option maxRecDepth 20000 in
theorem xo_m_X9_stronger : xm_b xmi_X9_stronger (3, 238) (1, 1) (3, 236) (3, 237) = true := by decide +kernel
set_option maxRecDepth 20000 in
theorem xo_c_X9_stronger_0 : xc_b xmi_X9_stronger xc_X9_stronger 0 32 = true := by decide +kernel
theorem xo_r_X9_stronger : ∀ (pc : Nat) (r : xr_R), xcl xc_X9_stronger pc = some r → xr_b xmi_X9_stronger.1 (xm_ini xmi_X9_stronger) xmi_X9_stronger.2.2.1 pc r = true ∧ xr_c xM xmi_X9_stronger.1 r = true := xc_up_e (mi := xmi_X9_stronger) (cd := xc_X9_stronger) (N := 32) (xc_up_s (mi := xmi_X9_stronger) (cd := xc_X9_stronger) (lo := 0) (n := 32) xc_up_0 xo_c_X9_stronger_0) (by decide +kernel)
set_option maxRecDepth 20000 in
theorem xo_m_X9_turns : xm_b xmi_X9_turns (4, 7) (1, 1) (4, 5) (4, 6) = true := by decide +kernel
set_option maxRecDepth 20000 in
theorem xo_c_X9_turns_0 : xc_b xmi_X9_turns xc_X9_turns 0 32 = true := by decide +kernel
theorem xo_r_X9_turns : ∀ (pc : Nat) (r : xr_R), xcl xc_X9_turns pc = some r → xr_b xmi_X9_turns.1 (xm_ini xmi_X9_turns) xmi_X9_turns.2.2.1 pc r = true ∧ xr_c xM xmi_X9_turns.1 r = true := xc_up_e (mi := xmi_X9_turns) (cd := xc_X9_turns) (N := 32) (xc_up_s (mi := xmi_X9_turns) (cd := xc_X9_turns) (lo := 0) (n := 32) xc_up_0 xo_c_X9_turns_0) (by decide +kernel)
set_option maxRecDepth 20000 in
theorem xo_m_X9_share : xm_b xmi_X9_share (4, 233) (1, 1) (4, 231) (4, 232) = true := by decide +kernel
set_option maxRecDepth 20000 in
theorem xo_c_X9_share_0 : xc_b xmi_X9_share xc_X9_share 0 112 = true := by decide +kernel
theorem xo_r_X9_share : ∀ (pc : Nat) (r : xr_R), xcl xc_X9_share pc = some r → xr_b xmi_X9_share.1 (xm_ini xmi_X9_share) xmi_X9_share.2.2.1 pc r = true ∧ xr_c xM xmi_X9_share.1 r = true := xc_up_e (mi := xmi_X9_share) (cd := xc_X9_share) (N := 112) (xc_up_s (mi := xmi_X9_share) (cd := xc_X9_share) (lo := 0) (n := 112) xc_up_0 xo_c_X9_share_0) (by decide +kernel)
set_option maxRecDepth 20000 in
theorem xo_m_X9_chance : xm_b xmi_X9_chance (4, 11) (1, 1) (4, 9) (4, 10) = true := by decide +kernel
set_option maxRecDepth 20000 in
theorem xo_c_X9_chance_0 : xc_b xmi_X9_chance xc_X9_chance 0 32 = true := by decide +kernel
theorem xo_r_X9_chance : ∀ (pc : Nat) (r : xr_R), xcl xc_X9_chance pc = some r → xr_b xmi_X9_chance.1 (xm_ini xmi_X9_chance) xmi_X9_chance.2.2.1 pc r = true ∧ xr_c xM xmi_X9_chance.1 r = true := xc_up_e (mi := xmi_X9_chance) (cd := xc_X9_chance) (N := 32) (xc_up_s (mi := xmi_X9_chance) (cd := xc_X9_chance) (lo := 0) (n := 32) xc_up_0 xo_c_X9_chance_0) (by decide +kernel)
set_option maxRecDepth 20000 in
theorem xo_m_X9_ally : xm_b xmi_X9_ally (4, 23) (1, 1) (4, 21) (4, 22) = true := by decide +kernel
set_option maxRecDepth 20000 in
theorem xo_c_X9_ally_0 : xc_b xmi_X9_ally xc_X9_ally 0 32 = true := by decide +kernel
theorem xo_r_X9_ally : ∀ (pc : Nat) (r : xr_R), xcl xc_X9_ally pc = some r → xr_b xmi_X9_ally.1 (xm_ini xmi_X9_ally) xmi_X9_ally.2.2.1 pc r = true ∧ xr_c xM xmi_X9_ally.1 r = true := xc_up_e (mi := xmi_X9_ally) (cd := xc_X9_ally) (N := 32) (xc_up_s (mi := xmi_X9_ally) (cd := xc_X9_ally) (lo := 0) (n := 32) xc_up_0 xo_c_X9_ally_0) (by decide +kernel)
set_option maxRecDepth 20000 in
theorem xo_m_X9_weigh : xm_b xmi_X9_weigh (4, 35) (1, 1) (4, 33) (4, 34) = true := by decide +kernel
set_option maxRecDepth 20000 in
theorem xo_c_X9_weigh_0 : xc_b xmi_X9_weigh xc_X9_weigh 0 16 = true := by decide +kernel
theorem xo_r_X9_weigh : ∀ (pc : Nat) (r : xr_R), xcl xc_X9_weigh pc = some r → xr_b xmi_X9_weigh.1 (xm_ini xmi_X9_weigh) xmi_X9_weigh.2.2.1 pc r = true ∧ xr_c xM xmi_X9_weigh.1 r = true := xc_up_e (mi := xmi_X9_weigh) (cd := xc_X9_weigh) (N := 16) (xc_up_s (mi := xmi_X9_weigh) (cd := xc_X9_weigh) (lo := 0) (n := 16) xc_up_0 xo_c_X9_weigh_0) (by decide +kernel)
set_option maxRecDepth 20000 in
theorem xo_m_X9_weight : xm_b xmi_X9_weight (4, 102) (1, 1) (4, 100) (4, 101) = true := by decide +kernel
set_option maxRecDepth 20000 in
theorem xo_c_X9_weight_0 : xc_b xmi_X9_weight xc_X9_weight 0 48 = true := by decide +kernel
theorem xo_r_X9_weight : ∀ (pc : Nat) (r : xr_R), xcl xc_X9_weight pc = some r → xr_b xmi_X9_weight.1 (xm_ini xmi_X9_weight) xmi_X9_weight.2.2.1 pc r = true ∧ xr_c xM xmi_X9_weight.1 r = true := xc_up_e (mi := xmi_X9_weight) (cd := xc_X9_weight) (N := 48) (xc_up_s (mi := xmi_X9_weight) (cd := xc_X9_weight) (lo := 0) (n := 48) xc_up_0 xo_c_X9_weight_0) (by decide +kernel)
set_option maxRecDepth 20000 in
theorem xo_m_X9_rank : xm_b xmi_X9_rank (4, 106) (1, 1) (4, 104) (4, 105) = true := by decide +kernel
set_option maxRecDepth 20000 in
theorem xo_c_X9_rank_0 : xc_b xmi_X9_rank xc_X9_rank 0 80 = true := by decide +kernel
theorem xo_r_X9_rank : ∀ (pc : Nat) (r : xr_R), xcl xc_X9_rank pc = some r → xr_b xmi_X9_rank.1 (xm_ini xmi_X9_rank) xmi_X9_rank.2.2.1 pc r = true ∧ xr_c xM xmi_X9_rank.1 r = true := xc_up_e (mi := xmi_X9_rank) (cd := xc_X9_rank) (N := 80) (xc_up_s (mi := xmi_X9_rank) (cd := xc_X9_rank) (lo := 0) (n := 80) xc_up_0 xo_c_X9_rank_0) (by decide +kernel)
set_option maxRecDepth 20000 in
theorem xo_m_X9_beats : xm_b xmi_X9_beats (4, 122) (1, 1) (4, 120) (4, 121) = true := by decide +kernel
set_option maxRecDepth 20000 in
theorem xo_c_X9_beats_0 : xc_b xmi_X9_beats xc_X9_beats 0 64 = true := by decide +kernel
theorem xo_r_X9_beats : ∀ (pc : Nat) (r : xr_R), xcl xc_X9_beats pc = some r → xr_b xmi_X9_beats.1 (xm_ini xmi_X9_beats) xmi_X9_beats.2.2.1 pc r = true ∧ xr_c xM xmi_X9_beats.1 r = true := xc_up_e (mi := xmi_X9_beats) (cd := xc_X9_beats) (N := 64) (xc_up_s (mi := xmi_X9_beats) (cd := xc_X9_beats) (lo := 0) (n := 64) xc_up_0 xo_c_X9_beats_0) (by decide +kernel)
set_option maxRecDepth 20000 in
theorem xo_m_X9_free : xm_b xmi_X9_free (4, 131) (1, 1) (4, 129) (4, 130) = true := by decide +kernel
set_option maxRecDepth 20000 in
theorem xo_c_X9_free_0 : xc_b xmi_X9_free xc_X9_free 0 32 = true := by decide +kernel
theorem xo_r_X9_free : ∀ (pc : Nat) (r : xr_R), xcl xc_X9_free pc = some r → xr_b xmi_X9_free.1 (xm_ini xmi_X9_free) xmi_X9_free.2.2.1 pc r = true ∧ xr_c xM xmi_X9_free.1 r = true := xc_up_e (mi := xmi_X9_free) (cd := xc_X9_free) (N := 32) (xc_up_s (mi := xmi_X9_free) (cd := xc_X9_free) (lo := 0) (n := 32) xc_up_0 xo_c_X9_free_0) (by decide +kernel)
set_option maxRecDepth 20000 in
theorem xo_m_X9_top : xm_b xmi_X9_top (4, 145) (1, 1) (4, 143) (4, 144) = true := by decide +kernel
set_option maxRecDepth 20000 in
theorem xo_c_X9_top_0 : xc_b xmi_X9_top xc_X9_top 0 32 = true := by decide +kernel
theorem xo_r_X9_top : ∀ (pc : Nat) (r : xr_R), xcl xc_X9_top pc = some r → xr_b xmi_X9_top.1 (xm_ini xmi_X9_top) xmi_X9_top.2.2.1 pc r = true ∧ xr_c xM xmi_X9_top.1 r = true := xc_up_e (mi := xmi_X9_top) (cd := xc_X9_top) (N := 32) (xc_up_s (mi := xmi_X9_top) (cd := xc_X9_top) (lo := 0) (n := 32) xc_up_0 xo_c_X9_top_0) (by decide +kernel)
set_option maxRecDepth 20000 in
theorem xo_m_X9_leads : xm_b xmi_X9_leads (4, 161) (1, 1) (4, 159) (4, 160) = true := by decide +kernel
set_option maxRecDepth 20000 in
theorem xo_c_X9_leads_0 : xc_b xmi_X9_leads xc_X9_leads 0 80 = true := by decide +kernel
theorem xo_r_X9_leads : ∀ (pc : Nat) (r : xr_R), xcl xc_X9_leads pc = some r → xr_b xmi_X9_leads.1 (xm_ini xmi_X9_leads) xmi_X9_leads.2.2.1 pc r = true ∧ xr_c xM xmi_X9_leads.1 r = true := xc_up_e (mi := xmi_X9_leads) (cd := xc_X9_leads) (N := 80) (xc_up_s (mi := xmi_X9_leads) (cd := xc_X9_leads) (lo := 0) (n := 80) xc_up_0 xo_c_X9_leads_0) (by decide +kernel)
set_option maxRecDepth 20000 in
theorem xo_m_X9_rows : xm_b xmi_X9_rows (4, 177) (1, 1) (4, 175) (4, 176) = true := by decide +kernel
set_option maxRecDepth 20000 in
theorem xo_c_X9_rows_0 : xc_b xmi_X9_rows xc_X9_rows 0 48 = true := by decide +kernel
theorem xo_r_X9_rows : ∀ (pc : Nat) (r : xr_R), xcl xc_X9_rows pc = some r → xr_b xmi_X9_rows.1 (xm_ini xmi_X9_rows) xmi_X9_rows.2.2.1 pc r = true ∧ xr_c xM xmi_X9_rows.1 r = true := xc_up_e (mi := xmi_X9_rows) (cd := xc_X9_rows) (N := 48) (xc_up_s (mi := xmi_X9_rows) (cd := xc_X9_rows) (lo := 0) (n := 48) xc_up_0 xo_c_X9_rows_0) (by decide +kernel)
set_option maxRecDepth 20000 in
theorem xo_m_X9_rowAt : xm_b xmi_X9_rowAt (4, 197) (1, 1) (4, 195) (4, 196) = true := by decide +kernel
set_option maxRecDepth 20000 in
theorem xo_c_X9_rowAt_0 : xc_b xmi_X9_rowAt xc_X9_rowAt 0 32 = true := by decide +kernel
theorem xo_r_X9_rowAt : ∀ (pc : Nat) (r : xr_R), xcl xc_X9_rowAt pc = some r → xr_b xmi_X9_rowAt.1 (xm_ini xmi_X9_rowAt) xmi_X9_rowAt.2.2.1 pc r = true ∧ xr_c xM xmi_X9_rowAt.1 r = true := xc_up_e (mi := xmi_X9_rowAt) (cd := xc_X9_rowAt) (N := 32) (xc_up_s (mi := xmi_X9_rowAt) (cd := xc_X9_rowAt) (lo := 0) (n := 32) xc_up_0 xo_c_X9_rowAt_0) (by decide +kernel)
set_option maxRecDepth 20000 in
theorem xo_m_X9_vote : xm_b xmi_X9_vote (4, 201) (1, 1) (4, 199) (4, 200) = true := by decide +kernel
set_option maxRecDepth 20000 in
theorem xo_c_X9_vote_0 : xc_b xmi_X9_vote xc_X9_vote 0 32 = true := by decide +kernel
theorem xo_r_X9_vote : ∀ (pc : Nat) (r : xr_R), xcl xc_X9_vote pc = some r → xr_b xmi_X9_vote.1 (xm_ini xmi_X9_vote) xmi_X9_vote.2.2.1 pc r = true ∧ xr_c xM xmi_X9_vote.1 r = true := xc_up_e (mi := xmi_X9_vote) (cd := xc_X9_vote) (N := 32) (xc_up_s (mi := xmi_X9_vote) (cd := xc_X9_vote) (lo := 0) (n := 32) xc_up_0 xo_c_X9_vote_0) (by decide +kernel)
set_option maxRecDepth 20000 in
theorem xo_m_X9_unfit : xm_b xmi_X9_unfit (4, 209) (1, 1) (4, 207) (4, 208) = true := by decide +kernel
set_option maxRecDepth 20000 in
theorem xo_c_X9_unfit_0 : xc_b xmi_X9_unfit xc_X9_unfit 0 80 = true := by decide +kernel
theorem xo_r_X9_unfit : ∀ (pc : Nat) (r : xr_R), xcl xc_X9_unfit pc = some r → xr_b xmi_X9_unfit.1 (xm_ini xmi_X9_unfit) xmi_X9_unfit.2.2.1 pc r = true ∧ xr_c xM xmi_X9_unfit.1 r = true := xc_up_e (mi := xmi_X9_unfit) (cd := xc_X9_unfit) (N := 80) (xc_up_s (mi := xmi_X9_unfit) (cd := xc_X9_unfit) (lo := 0) (n := 80) xc_up_0 xo_c_X9_unfit_0) (by decide +kernel)
set_option maxRecDepth 20000 in
theorem xo_m_X9_sure : xm_b xmi_X9_sure (4, 213) (1, 1) (4, 211) (4, 212) = true := by decide +kernel
set_option maxRecDepth 20000 in
theorem xo_c_X9_sure_0 : xc_b xmi_X9_sure xc_X9_sure 0 32 = true := by decide +kernel
theorem xo_r_X9_sure : ∀ (pc : Nat) (r : xr_R), xcl xc_X9_sure pc = some r → xr_b xmi_X9_sure.1 (xm_ini xmi_X9_sure) xmi_X9_sure.2.2.1 pc r = true ∧ xr_c xM xmi_X9_sure.1 r = true := xc_up_e (mi := xmi_X9_sure) (cd := xc_X9_sure) (N := 32) (xc_up_s (mi := xmi_X9_sure) (cd := xc_X9_sure) (lo := 0) (n := 32) xc_up_0 xo_c_X9_sure_0) (by decide +kernel)
set_option maxRecDepth 20000 in
theorem xo_m_X9_open : xm_b xmi_X9_open (4, 221) (1, 1) (4, 219) (4, 220) = true := by decide +kernel
set_option maxRecDepth 20000 in
theorem xo_c_X9_open_0 : xc_b xmi_X9_open xc_X9_open 0 48 = true := by decide +kernel
theorem xo_r_X9_open : ∀ (pc : Nat) (r : xr_R), xcl xc_X9_open pc = some r → xr_b xmi_X9_open.1 (xm_ini xmi_X9_open) xmi_X9_open.2.2.1 pc r = true ∧ xr_c xM xmi_X9_open.1 r = true := xc_up_e (mi := xmi_X9_open) (cd := xc_X9_open) (N := 48) (xc_up_s (mi := xmi_X9_open) (cd := xc_X9_open) (lo := 0) (n := 48) xc_up_0 xo_c_X9_open_0) (by decide +kernel)
set_option maxRecDepth 20000 in
theorem xo_m_X9_count : xm_b xmi_X9_count (4, 225) (1, 1) (4, 223) (4, 224) = true := by decide +kernel
set_option maxRecDepth 20000 in
theorem xo_c_X9_count_0 : xc_b xmi_X9_count xc_X9_count 0 80 = true := by decide +kernel
theorem xo_r_X9_count : ∀ (pc : Nat) (r : xr_R), xcl xc_X9_count pc = some r → xr_b xmi_X9_count.1 (xm_ini xmi_X9_count) xmi_X9_count.2.2.1 pc r = true ∧ xr_c xM xmi_X9_count.1 r = true := xc_up_e (mi := xmi_X9_count) (cd := xc_X9_count) (N := 80) (xc_up_s (mi := xmi_X9_count) (cd := xc_X9_count) (lo := 0) (n := 80) xc_up_0 xo_c_X9_count_0) (by decide +kernel)
set_option maxRecDepth 20000 in
theorem xo_m_X9_isMember : xm_b xmi_X9_isMember (4, 2) (1, 1) (4, 1) (0, 32) = true := by decide +kernel
set_option maxRecDepth 20000 in
theorem xo_c_X9_isMember_0 : xc_b xmi_X9_isMember xc_X9_isMember 0 32 = true := by decide +kernel
theorem xo_r_X9_isMember : ∀ (pc : Nat) (r : xr_R), xcl xc_X9_isMember pc = some r → xr_b xmi_X9_isMember.1 (xm_ini xmi_X9_isMember) xmi_X9_isMember.2.2.1 pc r = true ∧ xr_c xM xmi_X9_isMember.1 r = true := xc_up_e (mi := xmi_X9_isMember) (cd := xc_X9_isMember) (N := 32) (xc_up_s (mi := xmi_X9_isMember) (cd := xc_X9_isMember) (lo := 0) (n := 32) xc_up_0 xo_c_X9_isMember_0) (by decide +kernel)
set_option maxRecDepth 20000 in
theorem xo_m_X9_isSet : xm_b xmi_X9_isSet (3, 145) (1, 1) (3, 144) (0, 21) = true := by decide +kernel
set_option maxRecDepth 20000 in
theorem xo_c_X9_isSet_0 : xc_b xmi_X9_isSet xc_X9_isSet 0 32 = true := by decide +kernel
theorem xo_r_X9_isSet : ∀ (pc : Nat) (r : xr_R), xcl xc_X9_isSet pc = some r → xr_b xmi_X9_isSet.1 (xm_ini xmi_X9_isSet) xmi_X9_isSet.2.2.1 pc r = true ∧ xr_c xM xmi_X9_isSet.1 r = true := xc_up_e (mi := xmi_X9_isSet) (cd := xc_X9_isSet) (N := 32) (xc_up_s (mi := xmi_X9_isSet) (cd := xc_X9_isSet) (lo := 0) (n := 32) xc_up_0 xo_c_X9_isSet_0) (by decide +kernel)
set_option maxRecDepth 20000 in
theorem xo_m_X9_inForce : xm_b xmi_X9_inForce (3, 149) (1, 1) (3, 148) (0, 22) = true := by decide +kernel
set_option maxRecDepth 20000 in
theorem xo_c_X9_inForce_0 : xc_b xmi_X9_inForce xc_X9_inForce 0 64 = true := by decide +kernel
theorem xo_r_X9_inForce : ∀ (pc : Nat) (r : xr_R), xcl xc_X9_inForce pc = some r → xr_b xmi_X9_inForce.1 (xm_ini xmi_X9_inForce) xmi_X9_inForce.2.2.1 pc r = true ∧ xr_c xM xmi_X9_inForce.1 r = true := xc_up_e (mi := xmi_X9_inForce) (cd := xc_X9_inForce) (N := 64) (xc_up_s (mi := xmi_X9_inForce) (cd := xc_X9_inForce) (lo := 0) (n := 64) xc_up_0 xo_c_X9_inForce_0) (by decide +kernel)
set_option maxRecDepth 20000 in
theorem xo_m_X9_powersToday : xm_b xmi_X9_powersToday (3, 161) (1, 1) (3, 160) (0, 23) = true := by decide +kernel
set_option maxRecDepth 20000 in
theorem xo_c_X9_powersToday_0 : xc_b xmi_X9_powersToday xc_X9_powersToday 0 32 = true := by decide +kernel
theorem xo_r_X9_powersToday : ∀ (pc : Nat) (r : xr_R), xcl xc_X9_powersToday pc = some r → xr_b xmi_X9_powersToday.1 (xm_ini xmi_X9_powersToday) xmi_X9_powersToday.2.2.1 pc r = true ∧ xr_c xM xmi_X9_powersToday.1 r = true := xc_up_e (mi := xmi_X9_powersToday) (cd := xc_X9_powersToday) (N := 32) (xc_up_s (mi := xmi_X9_powersToday) (cd := xc_X9_powersToday) (lo := 0) (n := 32) xc_up_0 xo_c_X9_powersToday_0) (by decide +kernel)
set_option maxRecDepth 20000 in
theorem xo_m_X9_commonDivisor : xm_b xmi_X9_commonDivisor (5, 76) (1, 1) (5, 75) (99, 0) = true := by decide +kernel
set_option maxRecDepth 20000 in
theorem xo_c_X9_commonDivisor_0 : xc_b xmi_X9_commonDivisor xc_X9_commonDivisor 0 48 = true := by decide +kernel
theorem xo_r_X9_commonDivisor : ∀ (pc : Nat) (r : xr_R), xcl xc_X9_commonDivisor pc = some r → xr_b xmi_X9_commonDivisor.1 (xm_ini xmi_X9_commonDivisor) xmi_X9_commonDivisor.2.2.1 pc r = true ∧ xr_c xM xmi_X9_commonDivisor.1 r = true := xc_up_e (mi := xmi_X9_commonDivisor) (cd := xc_X9_commonDivisor) (N := 48) (xc_up_s (mi := xmi_X9_commonDivisor) (cd := xc_X9_commonDivisor) (lo := 0) (n := 48) xc_up_0 xo_c_X9_commonDivisor_0) (by decide +kernel)
set_option maxRecDepth 20000 in
theorem xo_m_X10_init : xm_b xmi_X10_init (5, 81) (1, 11) (5, 80) (99, 0) = true := by decide +kernel
set_option maxRecDepth 20000 in
theorem xo_c_X10_init_0 : xc_b xmi_X10_init xc_X10_init 0 112 = true := by decide +kernel
set_option maxRecDepth 20000 in
theorem xo_c_X10_init_112 : xc_b xmi_X10_init xc_X10_init 112 112 = true := by decide +kernel
set_option maxRecDepth 20000 in
theorem xo_c_X10_init_224 : xc_b xmi_X10_init xc_X10_init 224 112 = true := by decide +kernel
set_option maxRecDepth 20000 in
theorem xo_c_X10_init_336 : xc_b xmi_X10_init xc_X10_init 336 112 = true := by decide +kernel
set_option maxRecDepth 20000 in
theorem xo_c_X10_init_448 : xc_b xmi_X10_init xc_X10_init 448 112 = true := by decide +kernel
set_option maxRecDepth 20000 in
theorem xo_c_X10_init_560 : xc_b xmi_X10_init xc_X10_init 560 112 = true := by decide +kernel
set_option maxRecDepth 20000 in
theorem xo_c_X10_init_672 : xc_b xmi_X10_init xc_X10_init 672 32 = true := by decide +kernel
theorem xo_r_X10_init : ∀ (pc : Nat) (r : xr_R), xcl xc_X10_init pc = some r → xr_b xmi_X10_init.1 (xm_ini xmi_X10_init) xmi_X10_init.2.2.1 pc r = true ∧ xr_c xM xmi_X10_init.1 r = true := xc_up_e (mi := xmi_X10_init) (cd := xc_X10_init) (N := 704) (xc_up_s (mi := xmi_X10_init) (cd := xc_X10_init) (lo := 672) (n := 32) (xc_up_s (mi := xmi_X10_init) (cd := xc_X10_init) (lo := 560) (n := 112) (xc_up_s (mi := xmi_X10_init) (cd := xc_X10_init) (lo := 448) (n := 112) (xc_up_s (mi := xmi_X10_init) (cd := xc_X10_init) (lo := 336) (n := 112) (xc_up_s (mi := xmi_X10_init) (cd := xc_X10_init) (lo := 224) (n := 112) (xc_up_s (mi := xmi_X10_init) (cd := xc_X10_init) (lo := 112) (n := 112) (xc_up_s (mi := xmi_X10_init) (cd := xc_X10_init) (lo := 0) (n := 112) xc_up_0 xo_c_X10_init_0) xo_c_X10_init_112) xo_c_X10_init_224) xo_c_X10_init_336) xo_c_X10_init_448) xo_c_X10_init_560) xo_c_X10_init_672) (by decide +kernel)
set_option maxRecDepth 20000 in
theorem xo_m_X10_thrown : xm_b xmi_X10_thrown (6, 42) (1, 11) (6, 40) (6, 41) = true := by decide +kernel
set_option maxRecDepth 20000 in
theorem xo_c_X10_thrown_0 : xc_b xmi_X10_thrown xc_X10_thrown 0 16 = true := by decide +kernel
theorem xo_r_X10_thrown : ∀ (pc : Nat) (r : xr_R), xcl xc_X10_thrown pc = some r → xr_b xmi_X10_thrown.1 (xm_ini xmi_X10_thrown) xmi_X10_thrown.2.2.1 pc r = true ∧ xr_c xM xmi_X10_thrown.1 r = true := xc_up_e (mi := xmi_X10_thrown) (cd := xc_X10_thrown) (N := 16) (xc_up_s (mi := xmi_X10_thrown) (cd := xc_X10_thrown) (lo := 0) (n := 16) xc_up_0 xo_c_X10_thrown_0) (by decide +kernel)
set_option maxRecDepth 20000 in
theorem xo_m_X10_refuse : xm_b xmi_X10_refuse (7, 34) (1, 11) (7, 33) (0, 97) = true := by decide +kernel
set_option maxRecDepth 20000 in
theorem xo_c_X10_refuse_0 : xc_b xmi_X10_refuse xc_X10_refuse 0 16 = true := by decide +kernel
theorem xo_r_X10_refuse : ∀ (pc : Nat) (r : xr_R), xcl xc_X10_refuse pc = some r → xr_b xmi_X10_refuse.1 (xm_ini xmi_X10_refuse) xmi_X10_refuse.2.2.1 pc r = true ∧ xr_c xM xmi_X10_refuse.1 r = true := xc_up_e (mi := xmi_X10_refuse) (cd := xc_X10_refuse) (N := 16) (xc_up_s (mi := xmi_X10_refuse) (cd := xc_X10_refuse) (lo := 0) (n := 16) xc_up_0 xo_c_X10_refuse_0) (by decide +kernel)
set_option maxRecDepth 20000 in
theorem xo_m_X10_come : xm_b xmi_X10_come (6, 50) (1, 11) (6, 49) (0, 57) = true := by decide +kernel
set_option maxRecDepth 20000 in
theorem xo_c_X10_come_0 : xc_b xmi_X10_come xc_X10_come 0 48 = true := by decide +kernel
theorem xo_r_X10_come : ∀ (pc : Nat) (r : xr_R), xcl xc_X10_come pc = some r → xr_b xmi_X10_come.1 (xm_ini xmi_X10_come) xmi_X10_come.2.2.1 pc r = true ∧ xr_c xM xmi_X10_come.1 r = true := xc_up_e (mi := xmi_X10_come) (cd := xc_X10_come) (N := 48) (xc_up_s (mi := xmi_X10_come) (cd := xc_X10_come) (lo := 0) (n := 48) xc_up_0 xo_c_X10_come_0) (by decide +kernel)
end XCK4
