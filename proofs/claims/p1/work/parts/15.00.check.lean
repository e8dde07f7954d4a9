section XCK0
set_option maxRecDepth 20000 in
theorem xo_m_X0_init : xm_b (RX0, yX0_init, cX0_init, 2, none, 2, 0, 0) (2, 36) (1, 9) (2, 35) (99, 0) = true := by decide +kernel
set_option maxRecDepth 20000 in
theorem xo_c_X0_init_0 : xc_b (RX0, yX0_init, cX0_init, 2, none, 2, 0, 0) xc_X0_init 0 112 = true := by decide +kernel
set_option maxRecDepth 20000 in
theorem xo_m_X0_isOption : xm_b (RX0, yX0_isOption, cX0_isOption, 1, (some (.boolean)), 1, 1, 0) (4, 114) (1, 9) (4, 113) (99, 0) = true := by decide +kernel
set_option maxRecDepth 20000 in
theorem xo_c_X0_isOption_0 : xc_b (RX0, yX0_isOption, cX0_isOption, 1, (some (.boolean)), 1, 1, 0) xc_X0_isOption 0 16 = true := by decide +kernel
set_option maxRecDepth 20000 in
theorem xo_m_X0_isRow : xm_b (RX0, yX0_isRow, cX0_isRow, 5, (some (.boolean)), 0, 1, 0) (4, 110) (1, 9) (4, 108) (4, 109) = true := by decide +kernel
set_option maxRecDepth 20000 in
theorem xo_c_X0_isRow_0 : xc_b (RX0, yX0_isRow, cX0_isRow, 5, (some (.boolean)), 0, 1, 0) xc_X0_isRow 0 80 = true := by decide +kernel
set_option maxRecDepth 20000 in
theorem xo_m_X0_order : xm_b (RX0, yX0_order, cX0_order, 5, none, 0, 2, 0) (4, 118) (1, 9) (4, 116) (4, 117) = true := by decide +kernel
set_option maxRecDepth 20000 in
theorem xo_c_X0_order_0 : xc_b (RX0, yX0_order, cX0_order, 5, none, 0, 2, 0) xc_X0_order 0 48 = true := by decide +kernel
set_option maxRecDepth 20000 in
theorem xo_m_X0_whoPrefer : xm_b (RX0, yX0_whoPrefer, cX0_whoPrefer, 6, (some (.int)), 0, 3, 0) (4, 127) (1, 9) (4, 125) (4, 126) = true := by decide +kernel
set_option maxRecDepth 20000 in
theorem xo_c_X0_whoPrefer_0 : xc_b (RX0, yX0_whoPrefer, cX0_whoPrefer, 6, (some (.int)), 0, 3, 0) xc_X0_whoPrefer 0 64 = true := by decide +kernel
set_option maxRecDepth 20000 in
theorem xo_m_X0_match : xm_b (RX0, yX0_match, cX0_match, 5, none, 0, 2, 0) (4, 135) (1, 9) (4, 133) (4, 134) = true := by decide +kernel
set_option maxRecDepth 20000 in
theorem xo_c_X0_match_0 : xc_b (RX0, yX0_match, cX0_match, 5, none, 0, 2, 0) xc_X0_match 0 80 = true := by decide +kernel
set_option maxRecDepth 20000 in
theorem xo_m_X0_wins : xm_b (RX0, yX0_wins, cX0_wins, 3, (some (.boolean)), 0, 2, 0) (4, 157) (1, 9) (4, 156) (0, 49) = true := by decide +kernel
set_option maxRecDepth 20000 in
theorem xo_c_X0_wins_0 : xc_b (RX0, yX0_wins, cX0_wins, 3, (some (.boolean)), 0, 2, 0) xc_X0_wins 0 32 = true := by decide +kernel
set_option maxRecDepth 20000 in
theorem xo_m_X0_unbeaten : xm_b (RX0, yX0_unbeaten, cX0_unbeaten, 3, (some (.int)), 0, 0, 0) (4, 141) (1, 9) (4, 139) (4, 140) = true := by decide +kernel
set_option maxRecDepth 20000 in
theorem xo_c_X0_unbeaten_0 : xc_b (RX0, yX0_unbeaten, cX0_unbeaten, 3, (some (.int)), 0, 0, 0) xc_X0_unbeaten 0 32 = true := by decide +kernel
set_option maxRecDepth 20000 in
theorem xo_m_X0_best : xm_b (RX0, yX0_best, cX0_best, 5, (some (.int)), 0, 0, 0) (4, 149) (1, 9) (4, 147) (4, 148) = true := by decide +kernel
set_option maxRecDepth 20000 in
theorem xo_c_X0_best_0 : xc_b (RX0, yX0_best, cX0_best, 5, (some (.int)), 0, 0, 0) xc_X0_best 0 80 = true := by decide +kernel
set_option maxRecDepth 20000 in
theorem xo_m_X0_findReach : xm_b (RX0, yX0_findReach, cX0_findReach, 3, none, 0, 0, 0) (4, 153) (1, 9) (4, 152) (0, 48) = true := by decide +kernel
set_option maxRecDepth 20000 in
theorem xo_c_X0_findReach_0 : xc_b (RX0, yX0_findReach, cX0_findReach, 3, none, 0, 0, 0) xc_X0_findReach 0 112 = true := by decide +kernel
set_option maxRecDepth 20000 in
theorem xo_c_X0_findReach_112 : xc_b (RX0, yX0_findReach, cX0_findReach, 3, none, 0, 0, 0) xc_X0_findReach 112 16 = true := by decide +kernel
set_option maxRecDepth 20000 in
theorem xo_m_X0_stands : xm_b (RX0, yX0_stands, cX0_stands, 3, (some (.int)), 0, 2, 0) (4, 169) (1, 9) (4, 168) (0, 50) = true := by decide +kernel
set_option maxRecDepth 20000 in
theorem xo_c_X0_stands_0 : xc_b (RX0, yX0_stands, cX0_stands, 3, (some (.int)), 0, 2, 0) xc_X0_stands 0 16 = true := by decide +kernel
set_option maxRecDepth 20000 in
theorem xo_m_X0_follow : xm_b (RX0, yX0_follow, cX0_follow, 4, (some (.int)), 0, 1, 0) (4, 173) (1, 9) (4, 171) (4, 172) = true := by decide +kernel
set_option maxRecDepth 20000 in
theorem xo_c_X0_follow_0 : xc_b (RX0, yX0_follow, cX0_follow, 4, (some (.int)), 0, 1, 0) xc_X0_follow 0 48 = true := by decide +kernel
set_option maxRecDepth 20000 in
theorem xo_m_X0_foresee : xm_b (RX0, yX0_foresee, cX0_foresee, 6, (some (.int)), 0, 1, 0) (4, 165) (1, 9) (4, 163) (4, 164) = true := by decide +kernel
set_option maxRecDepth 20000 in
theorem xo_c_X0_foresee_0 : xc_b (RX0, yX0_foresee, cX0_foresee, 6, (some (.int)), 0, 1, 0) xc_X0_foresee 0 112 = true := by decide +kernel
set_option maxRecDepth 20000 in
theorem xo_m_X0_countRows : xm_b (RX0, yX0_countRows, cX0_countRows, 4, (some (.int)), 0, 1, 0) (4, 181) (1, 9) (4, 179) (4, 180) = true := by decide +kernel
set_option maxRecDepth 20000 in
theorem xo_c_X0_countRows_0 : xc_b (RX0, yX0_countRows, cX0_countRows, 4, (some (.int)), 0, 1, 0) xc_X0_countRows 0 48 = true := by decide +kernel
set_option maxRecDepth 20000 in
theorem xo_m_X0_waysFrom : xm_b (RX0, yX0_waysFrom, cX0_waysFrom, 3, (some (.int)), 0, 2, 0) (4, 189) (1, 9) (4, 188) (0, 52) = true := by decide +kernel
set_option maxRecDepth 20000 in
theorem xo_c_X0_waysFrom_0 : xc_b (RX0, yX0_waysFrom, cX0_waysFrom, 3, (some (.int)), 0, 2, 0) xc_X0_waysFrom 0 16 = true := by decide +kernel
set_option maxRecDepth 20000 in
theorem xo_m_X0_countWays : xm_b (RX0, yX0_countWays, cX0_countWays, 6, none, 0, 1, 0) (4, 185) (1, 9) (4, 184) (0, 51) = true := by decide +kernel
set_option maxRecDepth 20000 in
theorem xo_c_X0_countWays_0 : xc_b (RX0, yX0_countWays, cX0_countWays, 6, none, 0, 1, 0) xc_X0_countWays 0 112 = true := by decide +kernel
set_option maxRecDepth 20000 in
theorem xo_c_X0_countWays_112 : xc_b (RX0, yX0_countWays, cX0_countWays, 6, none, 0, 1, 0) xc_X0_countWays 112 16 = true := by decide +kernel
set_option maxRecDepth 20000 in
theorem xo_m_X0_findFirstRow : xm_b (RX0, yX0_findFirstRow, cX0_findFirstRow, 6, none, 0, 0, 0) (4, 193) (1, 9) (4, 192) (0, 53) = true := by decide +kernel
set_option maxRecDepth 20000 in
theorem xo_c_X0_findFirstRow_0 : xc_b (RX0, yX0_findFirstRow, cX0_findFirstRow, 6, none, 0, 0, 0) xc_X0_findFirstRow 0 112 = true := by decide +kernel
set_option maxRecDepth 20000 in
theorem xo_m_X1_init : xm_b (RX1, yX1_init, cX1_init, 1, none, 2, 0, 1) (2, 66) (1, 10) (2, 65) (99, 0) = true := by decide +kernel
set_option maxRecDepth 20000 in
theorem xo_c_X1_init_0 : xc_b (RX1, yX1_init, cX1_init, 1, none, 2, 0, 1) xc_X1_init 0 48 = true := by decide +kernel
set_option maxRecDepth 20000 in
theorem xo_m_X1_add : xm_b (RX1, yX1_add, cX1_add, 4, (some (.int)), 0, 3, 1) (4, 205) (1, 10) (4, 203) (4, 204) = true := by decide +kernel
set_option maxRecDepth 20000 in
theorem xo_c_X1_add_0 : xc_b (RX1, yX1_add, cX1_add, 4, (some (.int)), 0, 3, 1) xc_X1_add 0 64 = true := by decide +kernel
set_option maxRecDepth 20000 in
theorem xo_m_X1_judge : xm_b (RX1, yX1_judge, cX1_judge, 6, (some (.int)), 0, 2, 1) (4, 217) (1, 10) (4, 215) (4, 216) = true := by decide +kernel
set_option maxRecDepth 20000 in
theorem xo_c_X1_judge_0 : xc_b (RX1, yX1_judge, cX1_judge, 6, (some (.int)), 0, 2, 1) xc_X1_judge 0 112 = true := by decide +kernel
set_option maxRecDepth 20000 in
theorem xo_c_X1_judge_112 : xc_b (RX1, yX1_judge, cX1_judge, 6, (some (.int)), 0, 2, 1) xc_X1_judge 112 16 = true := by decide +kernel
set_option maxRecDepth 20000 in
theorem xo_m_X2_init : xm_b (RX2, yX2_init, cX2_init, 2, none, 2, 1, 2) (1, 160) (1, 7) (1, 159) (99, 0) = true := by decide +kernel
set_option maxRecDepth 20000 in
theorem xo_c_X2_init_0 : xc_b (RX2, yX2_init, cX2_init, 2, none, 2, 1, 2) xc_X2_init 0 80 = true := by decide +kernel
set_option maxRecDepth 20000 in
theorem xo_m_X2_isOf : xm_b (RX2, yX2_isOf, cX2_isOf, 3, (some (.boolean)), 0, 2, 2) (3, 169) (1, 7) (3, 167) (3, 168) = true := by decide +kernel
set_option maxRecDepth 20000 in
theorem xo_c_X2_isOf_0 : xc_b (RX2, yX2_isOf, cX2_isOf, 3, (some (.boolean)), 0, 2, 2) xc_X2_isOf 0 32 = true := by decide +kernel
set_option maxRecDepth 20000 in
theorem xo_m_X2_study : xm_b (RX2, yX2_study, cX2_study, 4, none, 0, 2, 2) (3, 165) (1, 7) (3, 163) (3, 164) = true := by decide +kernel
set_option maxRecDepth 20000 in
theorem xo_c_X2_study_0 : xc_b (RX2, yX2_study, cX2_study, 4, none, 0, 2, 2) xc_X2_study 0 96 = true := by decide +kernel
set_option maxRecDepth 20000 in
theorem xo_m_X2_list : xm_b (RX2, yX2_list, cX2_list, 6, (some (.int)), 0, 2, 2) (3, 173) (1, 7) (3, 172) (0, 24) = true := by decide +kernel
set_option maxRecDepth 20000 in
theorem xo_c_X2_list_0 : xc_b (RX2, yX2_list, cX2_list, 6, (some (.int)), 0, 2, 2) xc_X2_list 0 112 = true := by decide +kernel
set_option maxRecDepth 20000 in
theorem xo_c_X2_list_112 : xc_b (RX2, yX2_list, cX2_list, 6, (some (.int)), 0, 2, 2) xc_X2_list 112 64 = true := by decide +kernel
set_option maxRecDepth 20000 in
theorem xo_m_X2_isMinimal : xm_b (RX2, yX2_isMinimal, cX2_isMinimal, 4, (some (.boolean)), 0, 2, 2) (3, 177) (1, 7) (3, 176) (0, 25) = true := by decide +kernel
set_option maxRecDepth 20000 in
theorem xo_c_X2_isMinimal_0 : xc_b (RX2, yX2_isMinimal, cX2_isMinimal, 4, (some (.boolean)), 0, 2, 2) xc_X2_isMinimal 0 64 = true := by decide +kernel
set_option maxRecDepth 20000 in
theorem xo_m_X2_does : xm_b (RX2, yX2_does, cX2_does, 3, (some (.boolean)), 0, 2, 2) (3, 181) (1, 7) (3, 180) (0, 26) = true := by decide +kernel
set_option maxRecDepth 20000 in
theorem xo_c_X2_does_0 : xc_b (RX2, yX2_does, cX2_does, 3, (some (.boolean)), 0, 2, 2) xc_X2_does 0 48 = true := by decide +kernel
set_option maxRecDepth 20000 in
theorem xo_m_X2_markNeeded : xm_b (RX2, yX2_markNeeded, cX2_markNeeded, 2, none, 0, 0, 2) (3, 193) (1, 7) (3, 192) (0, 27) = true := by decide +kernel
set_option maxRecDepth 20000 in
theorem xo_c_X2_markNeeded_0 : xc_b (RX2, yX2_markNeeded, cX2_markNeeded, 2, none, 0, 0, 2) xc_X2_markNeeded 0 80 = true := by decide +kernel
set_option maxRecDepth 20000 in
theorem xo_m_X2_turnsBy : xm_b (RX2, yX2_turnsBy, cX2_turnsBy, 3, (some (.boolean)), 0, 2, 2) (3, 201) (1, 7) (3, 200) (0, 29) = true := by decide +kernel
set_option maxRecDepth 20000 in
theorem xo_c_X2_turnsBy_0 : xc_b (RX2, yX2_turnsBy, cX2_turnsBy, 3, (some (.boolean)), 0, 2, 2) xc_X2_turnsBy 0 48 = true := by decide +kernel
set_option maxRecDepth 20000 in
theorem xo_m_X2_countSwings : xm_b (RX2, yX2_countSwings, cX2_countSwings, 4, (some (.int)), 0, 1, 2) (3, 197) (1, 7) (3, 196) (0, 28) = true := by decide +kernel
set_option maxRecDepth 20000 in
theorem xo_c_X2_countSwings_0 : xc_b (RX2, yX2_countSwings, cX2_countSwings, 4, (some (.int)), 0, 1, 2) xc_X2_countSwings 0 32 = true := by decide +kernel
set_option maxRecDepth 20000 in
theorem xo_m_X2_countCarrying : xm_b (RX2, yX2_countCarrying, cX2_countCarrying, 3, (some (.int)), 0, 0, 2) (3, 213) (1, 7) (3, 211) (3, 212) = true := by decide +kernel
set_option maxRecDepth 20000 in
theorem xo_c_X2_countCarrying_0 : xc_b (RX2, yX2_countCarrying, cX2_countCarrying, 3, (some (.int)), 0, 0, 2) xc_X2_countCarrying 0 48 = true := by decide +kernel
set_option maxRecDepth 20000 in
theorem xo_m_X2_isProper : xm_b (RX2, yX2_isProper, cX2_isProper, 2, (some (.boolean)), 0, 0, 2) (3, 218) (1, 7) (3, 216) (3, 217) = true := by decide +kernel
set_option maxRecDepth 20000 in
theorem xo_c_X2_isProper_0 : xc_b (RX2, yX2_isProper, cX2_isProper, 2, (some (.boolean)), 0, 0, 2) xc_X2_isProper 0 64 = true := by decide +kernel
set_option maxRecDepth 20000 in
theorem xo_m_X2_isStrong : xm_b (RX2, yX2_isStrong, cX2_isStrong, 2, (some (.boolean)), 0, 0, 2) (3, 222) (1, 7) (3, 220) (3, 221) = true := by decide +kernel
set_option maxRecDepth 20000 in
theorem xo_c_X2_isStrong_0 : xc_b (RX2, yX2_isStrong, cX2_isStrong, 2, (some (.boolean)), 0, 0, 2) xc_X2_isStrong 0 64 = true := by decide +kernel
set_option maxRecDepth 20000 in
theorem xo_m_X2_isLined : xm_b (RX2, yX2_isLined, cX2_isLined, 3, (some (.boolean)), 0, 0, 2) (3, 226) (1, 7) (3, 224) (3, 225) = true := by decide +kernel
set_option maxRecDepth 20000 in
theorem xo_c_X2_isLined_0 : xc_b (RX2, yX2_isLined, cX2_isLined, 3, (some (.boolean)), 0, 0, 2) xc_X2_isLined 0 48 = true := by decide +kernel
set_option maxRecDepth 20000 in
theorem xo_m_X2_compare : xm_b (RX2, yX2_compare, cX2_compare, 5, (some (.int)), 0, 2, 2) (3, 230) (1, 7) (3, 228) (3, 229) = true := by decide +kernel
set_option maxRecDepth 20000 in
theorem xo_c_X2_compare_0 : xc_b (RX2, yX2_compare, cX2_compare, 5, (some (.int)), 0, 2, 2) xc_X2_compare 0 80 = true := by decide +kernel
end XCK0
