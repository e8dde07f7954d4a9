section XPR
theorem xo_row0 : ∀ (j : Nat) (mi : xm_M), xm_r0[j]? = some mi → (mi.2.2.2.2.2.1 ≠ 3 → xm_ok mi) ∧ ∀ (pc : Nat) (r : xr_R), xcl (xc_r0.getD j []) pc = some r → xr_b mi.1 (xm_ini mi) mi.2.2.1 pc r = true ∧ xr_c xM mi.1 r = true := by
  intro j mi h
  match j, h with
  | 0, h => cases h; exact ⟨fun _ => xm_b_ok xo_m_X0_init xo_w_X0_init, xo_r_X0_init⟩
  | 1, h => cases h; exact ⟨fun _ => xm_b_ok xo_m_X0_isOption xo_w_X0_isOption, xo_r_X0_isOption⟩
  | 2, h => cases h; exact ⟨fun _ => xm_b_ok xo_m_X0_isRow xo_w_X0_isRow, xo_r_X0_isRow⟩
  | 3, h => cases h; exact ⟨fun _ => xm_b_ok xo_m_X0_order xo_w_X0_order, xo_r_X0_order⟩
  | 4, h => cases h; exact ⟨fun _ => xm_b_ok xo_m_X0_whoPrefer xo_w_X0_whoPrefer, xo_r_X0_whoPrefer⟩
  | 5, h => cases h; exact ⟨fun _ => xm_b_ok xo_m_X0_match xo_w_X0_match, xo_r_X0_match⟩
  | 6, h => cases h; exact ⟨fun _ => xm_b_ok xo_m_X0_wins xo_w_X0_wins, xo_r_X0_wins⟩
  | 7, h => cases h; exact ⟨fun _ => xm_b_ok xo_m_X0_unbeaten xo_w_X0_unbeaten, xo_r_X0_unbeaten⟩
  | 8, h => cases h; exact ⟨fun _ => xm_b_ok xo_m_X0_best xo_w_X0_best, xo_r_X0_best⟩
  | 9, h => cases h; exact ⟨fun _ => xm_b_ok xo_m_X0_findReach xo_w_X0_findReach, xo_r_X0_findReach⟩
  | 10, h => cases h; exact ⟨fun _ => xm_b_ok xo_m_X0_stands xo_w_X0_stands, xo_r_X0_stands⟩
  | 11, h => cases h; exact ⟨fun _ => xm_b_ok xo_m_X0_follow xo_w_X0_follow, xo_r_X0_follow⟩
  | 12, h => cases h; exact ⟨fun _ => xm_b_ok xo_m_X0_foresee xo_w_X0_foresee, xo_r_X0_foresee⟩
  | 13, h => cases h; exact ⟨fun _ => xm_b_ok xo_m_X0_countRows xo_w_X0_countRows, xo_r_X0_countRows⟩
  | 14, h => cases h; exact ⟨fun _ => xm_b_ok xo_m_X0_waysFrom xo_w_X0_waysFrom, xo_r_X0_waysFrom⟩
  | 15, h => cases h; exact ⟨fun _ => xm_b_ok xo_m_X0_countWays xo_w_X0_countWays, xo_r_X0_countWays⟩
  | j + 16, h => simp [xm_r0] at h
theorem xo_row1 : ∀ (j : Nat) (mi : xm_M), xm_r1[j]? = some mi → (mi.2.2.2.2.2.1 ≠ 3 → xm_ok mi) ∧ ∀ (pc : Nat) (r : xr_R), xcl (xc_r1.getD j []) pc = some r → xr_b mi.1 (xm_ini mi) mi.2.2.1 pc r = true ∧ xr_c xM mi.1 r = true := by
  intro j mi h
  match j, h with
  | 0, h => cases h; exact ⟨fun _ => xm_b_ok xo_m_X0_findFirstRow xo_w_X0_findFirstRow, xo_r_X0_findFirstRow⟩
  | 1, h => cases h; exact ⟨fun _ => xm_b_ok xo_m_X1_init xo_w_X1_init, xo_r_X1_init⟩
  | 2, h => cases h; exact ⟨fun _ => xm_b_ok xo_m_X1_add xo_w_X1_add, xo_r_X1_add⟩
  | 3, h => cases h; exact ⟨fun _ => xm_b_ok xo_m_X1_judge xo_w_X1_judge, xo_r_X1_judge⟩
  | 4, h => cases h; exact ⟨fun _ => xm_b_ok xo_m_X2_init xo_w_X2_init, xo_r_X2_init⟩
  | 5, h => cases h; exact ⟨fun _ => xm_b_ok xo_m_X2_isOf xo_w_X2_isOf, xo_r_X2_isOf⟩
  | 6, h => cases h; exact ⟨fun _ => xm_b_ok xo_m_X2_study xo_w_X2_study, xo_r_X2_study⟩
  | 7, h => cases h; exact ⟨fun _ => xm_b_ok xo_m_X2_list xo_w_X2_list, xo_r_X2_list⟩
  | 8, h => cases h; exact ⟨fun _ => xm_b_ok xo_m_X2_isMinimal xo_w_X2_isMinimal, xo_r_X2_isMinimal⟩
  | 9, h => cases h; exact ⟨fun _ => xm_b_ok xo_m_X2_does xo_w_X2_does, xo_r_X2_does⟩
  | 10, h => cases h; exact ⟨fun _ => xm_b_ok xo_m_X2_markNeeded xo_w_X2_markNeeded, xo_r_X2_markNeeded⟩
  | 11, h => cases h; exact ⟨fun _ => xm_b_ok xo_m_X2_turnsBy xo_w_X2_turnsBy, xo_r_X2_turnsBy⟩
  | 12, h => cases h; exact ⟨fun _ => xm_b_ok xo_m_X2_countSwings xo_w_X2_countSwings, xo_r_X2_countSwings⟩
  | 13, h => cases h; exact ⟨fun _ => xm_b_ok xo_m_X2_countCarrying xo_w_X2_countCarrying, xo_r_X2_countCarrying⟩
  | 14, h => cases h; exact ⟨fun _ => xm_b_ok xo_m_X2_isProper xo_w_X2_isProper, xo_r_X2_isProper⟩
  | 15, h => cases h; exact ⟨fun _ => xm_b_ok xo_m_X2_isStrong xo_w_X2_isStrong, xo_r_X2_isStrong⟩
  | j + 16, h => simp [xm_r1] at h
theorem xo_row2 : ∀ (j : Nat) (mi : xm_M), xm_r2[j]? = some mi → (mi.2.2.2.2.2.1 ≠ 3 → xm_ok mi) ∧ ∀ (pc : Nat) (r : xr_R), xcl (xc_r2.getD j []) pc = some r → xr_b mi.1 (xm_ini mi) mi.2.2.1 pc r = true ∧ xr_c xM mi.1 r = true := by
  intro j mi h
  match j, h with
  | 0, h => cases h; exact ⟨fun _ => xm_b_ok xo_m_X2_isLined xo_w_X2_isLined, xo_r_X2_isLined⟩
  | 1, h => cases h; exact ⟨fun _ => xm_b_ok xo_m_X2_compare xo_w_X2_compare, xo_r_X2_compare⟩
  | 2, h => cases h; exact ⟨fun _ => xm_b_ok xo_m_X2_compareAll xo_w_X2_compareAll, xo_r_X2_compareAll⟩
  | 3, h => cases h; exact ⟨fun _ => xm_b_ok xo_m_X2_isAtLeast xo_w_X2_isAtLeast, xo_r_X2_isAtLeast⟩
  | 4, h => cases h; exact ⟨fun _ => xm_b_ok xo_m_X2_upperShare xo_w_X2_upperShare, xo_r_X2_upperShare⟩
  | 5, h => cases h; exact ⟨fun _ => xm_b_ok xo_m_X2_lowerShare xo_w_X2_lowerShare, xo_r_X2_lowerShare⟩
  | 6, h => cases h; exact ⟨fun _ => xm_b_ok xo_m_X2_ordersOf xo_w_X2_ordersOf, xo_r_X2_ordersOf⟩
  | 7, h => cases h; exact ⟨fun _ => xm_b_ok xo_m_X2_partsOf xo_w_X2_partsOf, xo_r_X2_partsOf⟩
  | 8, h => cases h; exact ⟨fun _ => xm_b_ok xo_m_X2_chanceOf xo_w_X2_chanceOf, xo_r_X2_chanceOf⟩
  | 9, h => cases h; exact ⟨fun _ => xm_b_ok xo_m_X2_power xo_w_X2_power, xo_r_X2_power⟩
  | 10, h => cases h; exact ⟨fun _ => xm_b_ok xo_m_X2_allyOf xo_w_X2_allyOf, xo_r_X2_allyOf⟩
  | 11, h => cases h; exact ⟨fun _ => xm_b_ok xo_m_X2_countTogether xo_w_X2_countTogether, xo_r_X2_countTogether⟩
  | 12, h => cases h; exact ⟨fun _ => xm_b_ok xo_m_X3_init xo_w_X3_init, xo_r_X3_init⟩
  | 13, h => cases h; exact ⟨fun _ => xm_b_ok xo_m_X3_clear xo_w_X3_clear, xo_r_X3_clear⟩
  | 14, h => cases h; exact ⟨fun _ => xm_b_ok xo_m_X3_add xo_w_X3_add, xo_r_X3_add⟩
  | 15, h => cases h; exact ⟨fun _ => xm_b_ok xo_m_X3_fill xo_w_X3_fill, xo_r_X3_fill⟩
  | j + 16, h => simp [xm_r2] at h
theorem xo_row3 : ∀ (j : Nat) (mi : xm_M), xm_r3[j]? = some mi → (mi.2.2.2.2.2.1 ≠ 3 → xm_ok mi) ∧ ∀ (pc : Nat) (r : xr_R), xcl (xc_r3.getD j []) pc = some r → xr_b mi.1 (xm_ini mi) mi.2.2.1 pc r = true ∧ xr_c xM mi.1 r = true := by
  intro j mi h
  match j, h with
  | 0, h => cases h; exact ⟨fun _ => xm_b_ok xo_m_X3_run xo_w_X3_run, xo_r_X3_run⟩
  | 1, h => cases h; exact ⟨fun _ => xm_b_ok xo_m_X3_join xo_w_X3_join, xo_r_X3_join⟩
  | 2, h => cases h; exact ⟨fun _ => xm_b_ok xo_m_X3_push xo_w_X3_push, xo_r_X3_push⟩
  | 3, h => cases h; exact ⟨fun _ => xm_b_ok xo_m_X3_peek xo_w_X3_peek, xo_r_X3_peek⟩
  | 4, h => cases h; exact ⟨fun _ => xm_b_ok xo_m_X3_replace xo_w_X3_replace, xo_r_X3_replace⟩
  | 5, h => cases h; exact ⟨fun _ => xm_b_ok xo_m_X4_init xo_w_X4_init, xo_r_X4_init⟩
  | 6, h => cases h; exact ⟨fun _ => xm_b_ok xo_m_X4_read xo_w_X4_read, xo_r_X4_read⟩
  | 7, h => cases h; exact ⟨fun _ => xm_b_ok xo_m_X4_fail xo_w_X4_fail, xo_r_X4_fail⟩
  | 8, h => cases h; exact ⟨fun _ => xm_b_ok xo_m_X4_takeWord xo_w_X4_takeWord, xo_r_X4_takeWord⟩
  | 9, h => cases h; exact ⟨fun _ => xm_b_ok xo_m_X4_takeSign xo_w_X4_takeSign, xo_r_X4_takeSign⟩
  | 10, h => cases h; exact ⟨fun _ => xm_b_ok xo_m_X4_takeEnd xo_w_X4_takeEnd, xo_r_X4_takeEnd⟩
  | 11, h => cases h; exact ⟨fun _ => xm_b_ok xo_m_X4_takeOpening xo_w_X4_takeOpening, xo_r_X4_takeOpening⟩
  | 12, h => cases h; exact ⟨fun _ => xm_b_ok xo_m_X4_readBody xo_w_X4_readBody, xo_r_X4_readBody⟩
  | 13, h => cases h; exact ⟨fun _ => xm_b_ok xo_m_X4_takeNewName xo_w_X4_takeNewName, xo_r_X4_takeNewName⟩
  | 14, h => cases h; exact ⟨fun _ => xm_b_ok xo_m_X4_toldName xo_w_X4_toldName, xo_r_X4_toldName⟩
  | 15, h => cases h; exact ⟨fun _ => xm_b_ok xo_m_X4_readRule xo_w_X4_readRule, xo_r_X4_readRule⟩
  | j + 16, h => simp [xm_r3] at h
theorem xo_row4 : ∀ (j : Nat) (mi : xm_M), xm_r4[j]? = some mi → (mi.2.2.2.2.2.1 ≠ 3 → xm_ok mi) ∧ ∀ (pc : Nat) (r : xr_R), xcl (xc_r4.getD j []) pc = some r → xr_b mi.1 (xm_ini mi) mi.2.2.1 pc r = true ∧ xr_c xM mi.1 r = true := by
  intro j mi h
  match j, h with
  | 0, h => cases h; exact ⟨fun _ => xm_b_ok xo_m_X4_readAll xo_w_X4_readAll, xo_r_X4_readAll⟩
  | 1, h => cases h; exact ⟨fun _ => xm_b_ok xo_m_X4_readOne xo_w_X4_readOne, xo_r_X4_readOne⟩
  | 2, h => cases h; exact ⟨fun _ => xm_b_ok xo_m_X4_noteMember xo_w_X4_noteMember, xo_r_X4_noteMember⟩
  | 3, h => cases h; exact ⟨fun _ => xm_b_ok xo_m_X4_noteName xo_w_X4_noteName, xo_r_X4_noteName⟩
  | 4, h => cases h; exact ⟨fun _ => xm_b_ok xo_m_X4_countOne xo_w_X4_countOne, xo_r_X4_countOne⟩
  | 5, h => cases h; exact ⟨fun _ => xm_b_ok xo_m_X4_readQuota xo_w_X4_readQuota, xo_r_X4_readQuota⟩
  | 6, h => cases h; exact ⟨fun _ => xm_b_ok xo_m_X4_readItem xo_w_X4_readItem, xo_r_X4_readItem⟩
  | 7, h => cases h; exact ⟨fun _ => xm_b_ok xo_m_X5_init xo_w_X5_init, xo_r_X5_init⟩
  | 8, h => cases h; exact ⟨fun _ => xm_b_ok xo_m_X5_look xo_w_X5_look, xo_r_X5_look⟩
  | 9, h => cases h; exact ⟨fun _ => xm_b_ok xo_m_X5_search xo_w_X5_search, xo_r_X5_search⟩
  | 10, h => cases h; exact ⟨fun _ => xm_b_ok xo_m_X5_findClasses xo_w_X5_findClasses, xo_r_X5_findClasses⟩
  | 11, h => cases h; exact ⟨fun _ => xm_b_ok xo_m_X5_isFirst xo_w_X5_isFirst, xo_r_X5_isFirst⟩
  | 12, h => cases h; exact ⟨fun _ => xm_b_ok xo_m_X5_strengthOf xo_w_X5_strengthOf, xo_r_X5_strengthOf⟩
  | 13, h => cases h; exact ⟨fun _ => xm_b_ok xo_m_X5_place xo_w_X5_place, xo_r_X5_place⟩
  | 14, h => cases h; exact ⟨fun _ => xm_b_ok xo_m_X5_lowest xo_w_X5_lowest, xo_r_X5_lowest⟩
  | 15, h => cases h; exact ⟨fun _ => xm_b_ok xo_m_X5_highest xo_w_X5_highest, xo_r_X5_highest⟩
  | j + 16, h => simp [xm_r4] at h
theorem xo_row5 : ∀ (j : Nat) (mi : xm_M), xm_r5[j]? = some mi → (mi.2.2.2.2.2.1 ≠ 3 → xm_ok mi) ∧ ∀ (pc : Nat) (r : xr_R), xcl (xc_r5.getD j []) pc = some r → xr_b mi.1 (xm_ini mi) mi.2.2.1 pc r = true ∧ xr_c xM mi.1 r = true := by
  intro j mi h
  match j, h with
  | 0, h => cases h; exact ⟨fun _ => xm_b_ok xo_m_X5_leastRest xo_w_X5_leastRest, xo_r_X5_leastRest⟩
  | 1, h => cases h; exact ⟨fun _ => xm_b_ok xo_m_X5_mostRest xo_w_X5_mostRest, xo_r_X5_mostRest⟩
  | 2, h => cases h; exact ⟨fun _ => xm_b_ok xo_m_X5_tryRow xo_w_X5_tryRow, xo_r_X5_tryRow⟩
  | 3, h => cases h; exact ⟨fun _ => xm_b_ok xo_m_X5_doesTheSame xo_w_X5_doesTheSame, xo_r_X5_doesTheSame⟩
  | 4, h => cases h; exact ⟨fun _ => xm_b_ok xo_m_X5_lightest xo_w_X5_lightest, xo_r_X5_lightest⟩
  | 5, h => cases h; exact ⟨fun _ => xm_b_ok xo_m_X5_weightOf xo_w_X5_weightOf, xo_r_X5_weightOf⟩
  | 6, h => cases h; exact ⟨fun _ => xm_b_ok xo_m_X5_tell xo_w_X5_tell, xo_r_X5_tell⟩
  | 7, h => cases h; exact ⟨fun _ => xm_b_ok xo_m_X6_init xo_w_X6_init, xo_r_X6_init⟩
  | 8, h => cases h; exact ⟨fun _ => xm_b_ok xo_m_X6_begin xo_w_X6_begin, xo_r_X6_begin⟩
  | 9, h => cases h; exact ⟨fun _ => xm_b_ok xo_m_X6_isCut xo_w_X6_isCut, xo_r_X6_isCut⟩
  | 10, h => cases h; exact ⟨fun _ => xm_b_ok xo_m_X6_advance xo_w_X6_advance, xo_r_X6_advance⟩
  | 11, h => cases h; exact ⟨fun _ => xm_b_ok xo_m_X6_takeRun xo_w_X6_takeRun, xo_r_X6_takeRun⟩
  | 12, h => cases h; exact ⟨fun _ => xm_b_ok xo_m_X6_isWord xo_w_X6_isWord, xo_r_X6_isWord⟩
  | 13, h => cases h; exact ⟨fun _ => xm_b_ok xo_m_X6_isName xo_w_X6_isName, xo_r_X6_isName⟩
  | 14, h => cases h; exact ⟨fun _ => xm_b_ok xo_m_X6_isLone xo_w_X6_isLone, xo_r_X6_isLone⟩
  | 15, h => cases h; exact ⟨fun _ => xm_b_ok xo_m_X6_letter xo_w_X6_letter, xo_r_X6_letter⟩
  | j + 16, h => simp [xm_r5] at h
theorem xo_row6 : ∀ (j : Nat) (mi : xm_M), xm_r6[j]? = some mi → (mi.2.2.2.2.2.1 ≠ 3 → xm_ok mi) ∧ ∀ (pc : Nat) (r : xr_R), xcl (xc_r6.getD j []) pc = some r → xr_b mi.1 (xm_ini mi) mi.2.2.1 pc r = true ∧ xr_c xM mi.1 r = true := by
  intro j mi h
  match j, h with
  | 0, h => cases h; exact ⟨fun _ => xm_b_ok xo_m_X6_isLike xo_w_X6_isLike, xo_r_X6_isLike⟩
  | 1, h => cases h; exact ⟨fun _ => xm_b_ok xo_m_X6_isBlank xo_w_X6_isBlank, xo_r_X6_isBlank⟩
  | 2, h => cases h; exact ⟨fun _ => xm_b_ok xo_m_X6_isLetter xo_w_X6_isLetter, xo_r_X6_isLetter⟩
  | 3, h => cases h; exact ⟨fun _ => xm_b_ok xo_m_X6_isDigit xo_w_X6_isDigit, xo_r_X6_isDigit⟩
  | 4, h => cases h; exact ⟨fun _ => xm_b_ok xo_m_X6_isSign xo_w_X6_isSign, xo_r_X6_isSign⟩
  | 5, h => cases h; exact ⟨fun _ => xm_b_ok xo_m_X7_init xo_w_X7_init, xo_r_X7_init⟩
  | 6, h => cases h; exact ⟨fun _ => xm_b_ok xo_m_X7_holds xo_w_X7_holds, xo_r_X7_holds⟩
  | 7, h => cases h; exact ⟨fun _ => xm_b_ok xo_m_X7_add xo_w_X7_add, xo_r_X7_add⟩
  | 8, h => cases h; exact ⟨fun _ => xm_b_ok xo_m_X7_needAll xo_w_X7_needAll, xo_r_X7_needAll⟩
  | 9, h => cases h; exact ⟨fun _ => xm_b_ok xo_m_X8_init xo_w_X8_init, xo_r_X8_init⟩
  | 10, h => cases h; exact ⟨fun _ => xm_b_ok xo_m_X8_hasRoom xo_w_X8_hasRoom, xo_r_X8_hasRoom⟩
  | 11, h => cases h; exact ⟨fun _ => xm_b_ok xo_m_X8_put xo_w_X8_put, xo_r_X8_put⟩
  | 12, h => cases h; exact ⟨fun _ => xm_b_ok xo_m_X8_at xo_w_X8_at, xo_r_X8_at⟩
  | 13, h => cases h; exact ⟨fun _ => xm_b_ok xo_m_X9_init xo_w_X9_init, xo_r_X9_init⟩
  | 14, h => cases h; exact ⟨fun _ => xm_b_ok xo_m_X9_feed xo_w_X9_feed, xo_r_X9_feed⟩
  | 15, h => cases h; exact ⟨fun _ => xm_b_ok xo_m_X9_end xo_w_X9_end, xo_r_X9_end⟩
  | j + 16, h => simp [xm_r6] at h
theorem xo_row7 : ∀ (j : Nat) (mi : xm_M), xm_r7[j]? = some mi → (mi.2.2.2.2.2.1 ≠ 3 → xm_ok mi) ∧ ∀ (pc : Nat) (r : xr_R), xcl (xc_r7.getD j []) pc = some r → xr_b mi.1 (xm_ini mi) mi.2.2.1 pc r = true ∧ xr_c xM mi.1 r = true := by
  intro j mi h
  match j, h with
  | 0, h => cases h; exact ⟨fun _ => xm_b_ok xo_m_X9_next xo_w_X9_next, xo_r_X9_next⟩
  | 1, h => cases h; exact ⟨fun _ => xm_b_ok xo_m_X9_members xo_w_X9_members, xo_r_X9_members⟩
  | 2, h => cases h; exact ⟨fun _ => xm_b_ok xo_m_X9_statute xo_w_X9_statute, xo_r_X9_statute⟩
  | 3, h => cases h; exact ⟨fun _ => xm_b_ok xo_m_X9_fault xo_w_X9_fault, xo_r_X9_fault⟩
  | 4, h => cases h; exact ⟨fun _ => xm_b_ok xo_m_X9_carries xo_w_X9_carries, xo_r_X9_carries⟩
  | 5, h => cases h; exact ⟨fun _ => xm_b_ok xo_m_X9_many xo_w_X9_many, xo_r_X9_many⟩
  | 6, h => cases h; exact ⟨fun _ => xm_b_ok xo_m_X9_setAt xo_w_X9_setAt, xo_r_X9_setAt⟩
  | 7, h => cases h; exact ⟨fun _ => xm_b_ok xo_m_X9_stronger xo_w_X9_stronger, xo_r_X9_stronger⟩
  | 8, h => cases h; exact ⟨fun _ => xm_b_ok xo_m_X9_turns xo_w_X9_turns, xo_r_X9_turns⟩
  | 9, h => cases h; exact ⟨fun _ => xm_b_ok xo_m_X9_share xo_w_X9_share, xo_r_X9_share⟩
  | 10, h => cases h; exact ⟨fun _ => xm_b_ok xo_m_X9_chance xo_w_X9_chance, xo_r_X9_chance⟩
  | 11, h => cases h; exact ⟨fun _ => xm_b_ok xo_m_X9_ally xo_w_X9_ally, xo_r_X9_ally⟩
  | 12, h => cases h; exact ⟨fun _ => xm_b_ok xo_m_X9_weigh xo_w_X9_weigh, xo_r_X9_weigh⟩
  | 13, h => cases h; exact ⟨fun _ => xm_b_ok xo_m_X9_weight xo_w_X9_weight, xo_r_X9_weight⟩
  | 14, h => cases h; exact ⟨fun _ => xm_b_ok xo_m_X9_rank xo_w_X9_rank, xo_r_X9_rank⟩
  | 15, h => cases h; exact ⟨fun _ => xm_b_ok xo_m_X9_beats xo_w_X9_beats, xo_r_X9_beats⟩
  | j + 16, h => simp [xm_r7] at h
theorem xo_row8 : ∀ (j : Nat) (mi : xm_M), xm_r8[j]? = some mi → (mi.2.2.2.2.2.1 ≠ 3 → xm_ok mi) ∧ ∀ (pc : Nat) (r : xr_R), xcl (xc_r8.getD j []) pc = some r → xr_b mi.1 (xm_ini mi) mi.2.2.1 pc r = true ∧ xr_c xM mi.1 r = true := by
  intro j mi h
  match j, h with
  | 0, h => cases h; exact ⟨fun _ => xm_b_ok xo_m_X9_free xo_w_X9_free, xo_r_X9_free⟩
  | 1, h => cases h; exact ⟨fun _ => xm_b_ok xo_m_X9_top xo_w_X9_top, xo_r_X9_top⟩
  | 2, h => cases h; exact ⟨fun _ => xm_b_ok xo_m_X9_leads xo_w_X9_leads, xo_r_X9_leads⟩
  | 3, h => cases h; exact ⟨fun _ => xm_b_ok xo_m_X9_rows xo_w_X9_rows, xo_r_X9_rows⟩
  | 4, h => cases h; exact ⟨fun _ => xm_b_ok xo_m_X9_rowAt xo_w_X9_rowAt, xo_r_X9_rowAt⟩
  | 5, h => cases h; exact ⟨fun _ => xm_b_ok xo_m_X9_vote xo_w_X9_vote, xo_r_X9_vote⟩
  | 6, h => cases h; exact ⟨fun _ => xm_b_ok xo_m_X9_unfit xo_w_X9_unfit, xo_r_X9_unfit⟩
  | 7, h => cases h; exact ⟨fun _ => xm_b_ok xo_m_X9_sure xo_w_X9_sure, xo_r_X9_sure⟩
  | 8, h => cases h; exact ⟨fun _ => xm_b_ok xo_m_X9_open xo_w_X9_open, xo_r_X9_open⟩
  | 9, h => cases h; exact ⟨fun _ => xm_b_ok xo_m_X9_count xo_w_X9_count, xo_r_X9_count⟩
  | 10, h => cases h; exact ⟨fun _ => xm_b_ok xo_m_X9_isMember xo_w_X9_isMember, xo_r_X9_isMember⟩
  | 11, h => cases h; exact ⟨fun _ => xm_b_ok xo_m_X9_isSet xo_w_X9_isSet, xo_r_X9_isSet⟩
  | 12, h => cases h; exact ⟨fun _ => xm_b_ok xo_m_X9_inForce xo_w_X9_inForce, xo_r_X9_inForce⟩
  | 13, h => cases h; exact ⟨fun _ => xm_b_ok xo_m_X9_powersToday xo_w_X9_powersToday, xo_r_X9_powersToday⟩
  | 14, h => cases h; exact ⟨fun _ => xm_b_ok xo_m_X9_commonDivisor xo_w_X9_commonDivisor, xo_r_X9_commonDivisor⟩
  | 15, h => cases h; exact ⟨fun _ => xm_b_ok xo_m_X10_init xo_w_X10_init, xo_r_X10_init⟩
  | j + 16, h => simp [xm_r8] at h
theorem xo_row9 : ∀ (j : Nat) (mi : xm_M), xm_r9[j]? = some mi → (mi.2.2.2.2.2.1 ≠ 3 → xm_ok mi) ∧ ∀ (pc : Nat) (r : xr_R), xcl (xc_r9.getD j []) pc = some r → xr_b mi.1 (xm_ini mi) mi.2.2.1 pc r = true ∧ xr_c xM mi.1 r = true := by
  intro j mi h
  match j, h with
  | 0, h => cases h; exact ⟨fun _ => xm_b_ok xo_m_X10_refuse xo_w_X10_refuse, xo_r_X10_refuse⟩
  | 1, h => cases h; exact ⟨fun _ => xm_b_ok xo_m_X10_come xo_w_X10_come, xo_r_X10_come⟩
  | 2, h => cases h; exact ⟨fun _ => xm_b_ok xo_m_X10_feed xo_w_X10_feed, xo_r_X10_feed⟩
  | 3, h => cases h; exact ⟨fun _ => xm_b_ok xo_m_X10_end xo_w_X10_end, xo_r_X10_end⟩
  | 4, h => cases h; exact ⟨fun _ => xm_b_ok xo_m_X10_take xo_w_X10_take, xo_r_X10_take⟩
  | 5, h => cases h; exact ⟨fun _ => xm_b_ok xo_m_X10_isIn xo_w_X10_isIn, xo_r_X10_isIn⟩
  | 6, h => cases h; exact ⟨fun _ => xm_b_ok xo_m_X10_next xo_w_X10_next, xo_r_X10_next⟩
  | 7, h => cases h; exact ⟨fun _ => xm_b_ok xo_m_X10_members xo_w_X10_members, xo_r_X10_members⟩
  | 8, h => cases h; exact ⟨fun _ => xm_b_ok xo_m_X10_isMember xo_w_X10_isMember, xo_r_X10_isMember⟩
  | 9, h => cases h; exact ⟨fun _ => xm_b_ok xo_m_X10_isSet xo_w_X10_isSet, xo_r_X10_isSet⟩
  | 10, h => cases h; exact ⟨fun _ => xm_b_ok xo_m_X10_sizeOf xo_w_X10_sizeOf, xo_r_X10_sizeOf⟩
  | 11, h => cases h; exact ⟨fun _ => xm_b_ok xo_m_X10_byteAt xo_w_X10_byteAt, xo_r_X10_byteAt⟩
  | 12, h => cases h; exact ⟨fun _ => xm_b_ok xo_m_X10_isDigit xo_w_X10_isDigit, xo_r_X10_isDigit⟩
  | 13, h => cases h; exact ⟨fun _ => xm_b_ok xo_m_X10_isLetter xo_w_X10_isLetter, xo_r_X10_isLetter⟩
  | 14, h => cases h; exact ⟨fun _ => xm_b_ok xo_m_X10_isMark xo_w_X10_isMark, xo_r_X10_isMark⟩
  | 15, h => cases h; exact ⟨fun _ => xm_b_ok xo_m_X10_go xo_w_X10_go, xo_r_X10_go⟩
  | j + 16, h => simp [xm_r9] at h
theorem xo_row10 : ∀ (j : Nat) (mi : xm_M), xm_r10[j]? = some mi → (mi.2.2.2.2.2.1 ≠ 3 → xm_ok mi) ∧ ∀ (pc : Nat) (r : xr_R), xcl (xc_r10.getD j []) pc = some r → xr_b mi.1 (xm_ini mi) mi.2.2.1 pc r = true ∧ xr_c xM mi.1 r = true := by
  intro j mi h
  match j, h with
  | 0, h => cases h; exact ⟨fun _ => xm_b_ok xo_m_X10_spelt xo_w_X10_spelt, xo_r_X10_spelt⟩
  | 1, h => cases h; exact ⟨fun _ => xm_b_ok xo_m_X10_isKey xo_w_X10_isKey, xo_r_X10_isKey⟩
  | 2, h => cases h; exact ⟨fun _ => xm_b_ok xo_m_X10_isBody xo_w_X10_isBody, xo_r_X10_isBody⟩
  | 3, h => cases h; exact ⟨fun _ => xm_b_ok xo_m_X10_isCarry xo_w_X10_isCarry, xo_r_X10_isCarry⟩
  | 4, h => cases h; exact ⟨fun _ => xm_b_ok xo_m_X10_isAnd xo_w_X10_isAnd, xo_r_X10_isAnd⟩
  | 5, h => cases h; exact ⟨fun _ => xm_b_ok xo_m_X10_isOr xo_w_X10_isOr, xo_r_X10_isOr⟩
  | 6, h => cases h; exact ⟨fun _ => xm_b_ok xo_m_X10_isOf xo_w_X10_isOf, xo_r_X10_isOf⟩
  | 7, h => cases h; exact ⟨fun _ => xm_b_ok xo_m_X10_isName xo_w_X10_isName, xo_r_X10_isName⟩
  | 8, h => cases h; exact ⟨fun _ => xm_b_ok xo_m_X10_isSign xo_w_X10_isSign, xo_r_X10_isSign⟩
  | 9, h => cases h; exact ⟨fun _ => xm_b_ok xo_m_X10_bad xo_w_X10_bad, xo_r_X10_bad⟩
  | 10, h => cases h; exact ⟨fun _ => xm_b_ok xo_m_X10_badAt xo_w_X10_badAt, xo_r_X10_badAt⟩
  | 11, h => cases h; exact ⟨fun _ => xm_b_ok xo_m_X10_openRule xo_w_X10_openRule, xo_r_X10_openRule⟩
  | 12, h => cases h; exact ⟨fun _ => xm_b_ok xo_m_X10_openList xo_w_X10_openList, xo_r_X10_openList⟩
  | 13, h => cases h; exact ⟨fun _ => xm_b_ok xo_m_X10_begin xo_w_X10_begin, xo_r_X10_begin⟩
  | 14, h => cases h; exact ⟨fun _ => xm_b_ok xo_m_X10_beginItem xo_w_X10_beginItem, xo_r_X10_beginItem⟩
  | 15, h => cases h; exact ⟨fun _ => xm_b_ok xo_m_X10_beginList xo_w_X10_beginList, xo_r_X10_beginList⟩
  | j + 16, h => simp [xm_r10] at h
theorem xo_row11 : ∀ (j : Nat) (mi : xm_M), xm_r11[j]? = some mi → (mi.2.2.2.2.2.1 ≠ 3 → xm_ok mi) ∧ ∀ (pc : Nat) (r : xr_R), xcl (xc_r11.getD j []) pc = some r → xr_b mi.1 (xm_ini mi) mi.2.2.1 pc r = true ∧ xr_c xM mi.1 r = true := by
  intro j mi h
  match j, h with
  | 0, h => cases h; exact ⟨fun _ => xm_b_ok xo_m_X10_nameAtHand xo_w_X10_nameAtHand, xo_r_X10_nameAtHand⟩
  | 1, h => cases h; exact ⟨fun _ => xm_b_ok xo_m_X10_beginOne xo_w_X10_beginOne, xo_r_X10_beginOne⟩
  | 2, h => cases h; exact ⟨fun _ => xm_b_ok xo_m_X10_end_ xo_w_X10_end_, xo_r_X10_end_⟩
  | 3, h => cases h; exact ⟨fun _ => xm_b_ok xo_m_X10_readRule xo_w_X10_readRule, xo_r_X10_readRule⟩
  | 4, h => cases h; exact ⟨fun _ => xm_b_ok xo_m_X10_readBody xo_w_X10_readBody, xo_r_X10_readBody⟩
  | 5, h => cases h; exact ⟨fun _ => xm_b_ok xo_m_X10_statute xo_w_X10_statute, xo_r_X10_statute⟩
  | 6, h => cases h; exact ⟨fun _ => xm_b_ok xo_m_X10_fault xo_w_X10_fault, xo_r_X10_fault⟩
  | 7, h => cases h; exact ⟨fun _ => xm_b_ok xo_m_X10_inForce xo_w_X10_inForce, xo_r_X10_inForce⟩
  | 8, h => cases h; exact ⟨fun _ => xm_b_ok xo_m_X10_carriesBy xo_w_X10_carriesBy, xo_r_X10_carriesBy⟩
  | 9, h => cases h; exact ⟨fun _ => xm_b_ok xo_m_X10_carries xo_w_X10_carries, xo_r_X10_carries⟩
  | 10, h => cases h; exact ⟨fun _ => xm_b_ok xo_m_X10_lay xo_w_X10_lay, xo_r_X10_lay⟩
  | 11, h => cases h; exact ⟨fun _ => xm_b_ok xo_m_X10_isLeast xo_w_X10_isLeast, xo_r_X10_isLeast⟩
  | 12, h => cases h; exact ⟨fun _ => xm_b_ok xo_m_X10_hinders xo_w_X10_hinders, xo_r_X10_hinders⟩
  | 13, h => cases h; exact ⟨fun _ => xm_b_ok xo_m_X10_isLeastHinder xo_w_X10_isLeastHinder, xo_r_X10_isLeastHinder⟩
  | 14, h => cases h; exact ⟨fun _ => xm_b_ok xo_m_X10_isOfKind xo_w_X10_isOfKind, xo_r_X10_isOfKind⟩
  | 15, h => cases h; exact ⟨fun _ => xm_b_ok xo_m_X10_countOf xo_w_X10_countOf, xo_r_X10_countOf⟩
  | j + 16, h => simp [xm_r11] at h
theorem xo_row12 : ∀ (j : Nat) (mi : xm_M), xm_r12[j]? = some mi → (mi.2.2.2.2.2.1 ≠ 3 → xm_ok mi) ∧ ∀ (pc : Nat) (r : xr_R), xcl (xc_r12.getD j []) pc = some r → xr_b mi.1 (xm_ini mi) mi.2.2.1 pc r = true ∧ xr_c xM mi.1 r = true := by
  intro j mi h
  match j, h with
  | 0, h => cases h; exact ⟨fun _ => xm_b_ok xo_m_X10_whoIs xo_w_X10_whoIs, xo_r_X10_whoIs⟩
  | 1, h => cases h; exact ⟨fun _ => xm_b_ok xo_m_X10_isProper xo_w_X10_isProper, xo_r_X10_isProper⟩
  | 2, h => cases h; exact ⟨fun _ => xm_b_ok xo_m_X10_isStrong xo_w_X10_isStrong, xo_r_X10_isStrong⟩
  | 3, h => cases h; exact ⟨fun _ => xm_b_ok xo_m_X10_held xo_w_X10_held, xo_r_X10_held⟩
  | 4, h => cases h; exact ⟨fun _ => xm_b_ok xo_m_X10_isLined xo_w_X10_isLined, xo_r_X10_isLined⟩
  | 5, h => cases h; exact ⟨fun _ => xm_b_ok xo_m_X10_many xo_w_X10_many, xo_r_X10_many⟩
  | 6, h => cases h; exact ⟨fun _ => xm_b_ok xo_m_X10_setAt xo_w_X10_setAt, xo_r_X10_setAt⟩
  | 7, h => cases h; exact ⟨fun _ => xm_b_ok xo_m_X10_stronger xo_w_X10_stronger, xo_r_X10_stronger⟩
  | 8, h => cases h; exact ⟨fun _ => xm_b_ok xo_m_X10_turnsOf xo_w_X10_turnsOf, xo_r_X10_turnsOf⟩
  | 9, h => cases h; exact ⟨fun _ => xm_b_ok xo_m_X10_turns xo_w_X10_turns, xo_r_X10_turns⟩
  | 10, h => cases h; exact ⟨fun _ => xm_b_ok xo_m_X10_lessen xo_w_X10_lessen, xo_r_X10_lessen⟩
  | 11, h => cases h; exact ⟨fun _ => xm_b_ok xo_m_X10_orders xo_w_X10_orders, xo_r_X10_orders⟩
  | 12, h => cases h; exact ⟨fun _ => xm_b_ok xo_m_X10_shareOfSets xo_w_X10_shareOfSets, xo_r_X10_shareOfSets⟩
  | 13, h => cases h; exact ⟨fun _ => xm_b_ok xo_m_X10_shareOfOrders xo_w_X10_shareOfOrders, xo_r_X10_shareOfOrders⟩
  | 14, h => cases h; exact ⟨fun _ => xm_b_ok xo_m_X10_shareOfLeast xo_w_X10_shareOfLeast, xo_r_X10_shareOfLeast⟩
  | 15, h => cases h; exact ⟨fun _ => xm_b_ok xo_m_X10_share xo_w_X10_share, xo_r_X10_share⟩
  | j + 16, h => simp [xm_r12] at h
theorem xo_row13 : ∀ (j : Nat) (mi : xm_M), xm_r13[j]? = some mi → (mi.2.2.2.2.2.1 ≠ 3 → xm_ok mi) ∧ ∀ (pc : Nat) (r : xr_R), xcl (xc_r13.getD j []) pc = some r → xr_b mi.1 (xm_ini mi) mi.2.2.1 pc r = true ∧ xr_c xM mi.1 r = true := by
  intro j mi h
  match j, h with
  | 0, h => cases h; exact ⟨fun _ => xm_b_ok xo_m_X10_power xo_w_X10_power, xo_r_X10_power⟩
  | 1, h => cases h; exact ⟨fun _ => xm_b_ok xo_m_X10_chance xo_w_X10_chance, xo_r_X10_chance⟩
  | 2, h => cases h; exact ⟨fun _ => xm_b_ok xo_m_X10_ally xo_w_X10_ally, xo_r_X10_ally⟩
  | 3, h => cases h; exact ⟨fun _ => xm_b_ok xo_m_X10_findSorts xo_w_X10_findSorts, xo_r_X10_findSorts⟩
  | 4, h => cases h; exact ⟨fun _ => xm_b_ok xo_m_X10_findEnds xo_w_X10_findEnds, xo_r_X10_findEnds⟩
  | 5, h => cases h; exact ⟨fun _ => xm_b_ok xo_m_X10_sumOf xo_w_X10_sumOf, xo_r_X10_sumOf⟩
  | 6, h => cases h; exact ⟨fun _ => xm_b_ok xo_m_X10_isRight xo_w_X10_isRight, xo_r_X10_isRight⟩
  | 7, h => cases h; exact ⟨fun _ => xm_b_ok xo_m_X10_mayBe xo_w_X10_mayBe, xo_r_X10_mayBe⟩
  | 8, h => cases h; exact ⟨fun _ => xm_b_ok xo_m_X10_trySum xo_w_X10_trySum, xo_r_X10_trySum⟩
  | 9, h => cases h; exact ⟨fun _ => xm_b_ok xo_m_X10_weigh xo_w_X10_weigh, xo_r_X10_weigh⟩
  | 10, h => cases h; exact ⟨fun _ => xm_b_ok xo_m_X10_weight xo_w_X10_weight, xo_r_X10_weight⟩
  | 11, h => cases h; exact ⟨fun _ => xm_b_ok xo_m_X10_areOptions xo_w_X10_areOptions, xo_r_X10_areOptions⟩
  | 12, h => cases h; exact ⟨fun _ => xm_b_ok xo_m_X10_rank xo_w_X10_rank, xo_r_X10_rank⟩
  | 13, h => cases h; exact ⟨fun _ => xm_b_ok xo_m_X10_beatsOf xo_w_X10_beatsOf, xo_r_X10_beatsOf⟩
  | 14, h => cases h; exact ⟨fun _ => xm_b_ok xo_m_X10_layOptions xo_w_X10_layOptions, xo_r_X10_layOptions⟩
  | 15, h => cases h; exact ⟨fun _ => xm_b_ok xo_m_X10_isOption xo_w_X10_isOption, xo_r_X10_isOption⟩
  | j + 16, h => simp [xm_r13] at h
theorem xo_row14 : ∀ (j : Nat) (mi : xm_M), xm_r14[j]? = some mi → (mi.2.2.2.2.2.1 ≠ 3 → xm_ok mi) ∧ ∀ (pc : Nat) (r : xr_R), xcl (xc_r14.getD j []) pc = some r → xr_b mi.1 (xm_ini mi) mi.2.2.1 pc r = true ∧ xr_c xM mi.1 r = true := by
  intro j mi h
  match j, h with
  | 0, h => cases h; exact ⟨fun _ => xm_b_ok xo_m_X10_beats xo_w_X10_beats, xo_r_X10_beats⟩
  | 1, h => cases h; exact ⟨fun _ => xm_b_ok xo_m_X10_free xo_w_X10_free, xo_r_X10_free⟩
  | 2, h => cases h; exact ⟨fun _ => xm_b_ok xo_m_X10_top xo_w_X10_top, xo_r_X10_top⟩
  | 3, h => cases h; exact ⟨fun _ => xm_b_ok xo_m_X10_leads xo_w_X10_leads, xo_r_X10_leads⟩
  | 4, h => cases h; exact ⟨fun _ => xm_b_ok xo_m_X10_endOf xo_w_X10_endOf, xo_r_X10_endOf⟩
  | 5, h => cases h; exact ⟨fun _ => xm_b_ok xo_m_X10_rows xo_w_X10_rows, xo_r_X10_rows⟩
  | 6, h => cases h; exact ⟨fun _ => xm_b_ok xo_m_X10_goOn xo_w_X10_goOn, xo_r_X10_goOn⟩
  | 7, h => cases h; exact ⟨fun _ => xm_b_ok xo_m_X10_rowAt xo_w_X10_rowAt, xo_r_X10_rowAt⟩
  | 8, h => cases h; exact ⟨fun _ => xm_b_ok xo_m_X10_vote xo_w_X10_vote, xo_r_X10_vote⟩
  | 9, h => cases h; exact ⟨fun _ => xm_b_ok xo_m_X10_unfit xo_w_X10_unfit, xo_r_X10_unfit⟩
  | 10, h => cases h; exact ⟨fun _ => xm_b_ok xo_m_X10_sureOf xo_w_X10_sureOf, xo_r_X10_sureOf⟩
  | 11, h => cases h; exact ⟨fun _ => xm_b_ok xo_m_X10_sure xo_w_X10_sure, xo_r_X10_sure⟩
  | 12, h => cases h; exact ⟨fun _ => xm_b_ok xo_m_X10_open xo_w_X10_open, xo_r_X10_open⟩
  | 13, h => cases h; exact ⟨fun _ => xm_b_ok xo_m_X10_count xo_w_X10_count, xo_r_X10_count⟩
  | 14, h => cases h; exact ⟨fun _ => xm_b_ok xo_m_J6_bitCount_0f7a4 xo_w_J6_bitCount_0f7a4, xo_r_J6_bitCount_0f7a4⟩
  | 15, h => cases h; exact ⟨fun z => absurd rfl z, xo_r_L_law⟩
  | j + 16, h => simp [xm_r14] at h
theorem xo_tab : ∀ (q j : Nat) (mi : xm_M), (xm_t.getD q [])[j]? = some mi → (mi.2.2.2.2.2.1 ≠ 3 → xm_ok mi) ∧ ∀ (pc : Nat) (r : xr_R), xcl ((xc_t.getD q []).getD j []) pc = some r → xr_b mi.1 (xm_ini mi) mi.2.2.1 pc r = true ∧ xr_c xM mi.1 r = true := by
  intro q j mi h
  match q, h with
  | 0, h => exact xo_row0 j mi h
  | 1, h => exact xo_row1 j mi h
  | 2, h => exact xo_row2 j mi h
  | 3, h => exact xo_row3 j mi h
  | 4, h => exact xo_row4 j mi h
  | 5, h => exact xo_row5 j mi h
  | 6, h => exact xo_row6 j mi h
  | 7, h => exact xo_row7 j mi h
  | 8, h => exact xo_row8 j mi h
  | 9, h => exact xo_row9 j mi h
  | 10, h => exact xo_row10 j mi h
  | 11, h => exact xo_row11 j mi h
  | 12, h => exact xo_row12 j mi h
  | 13, h => exact xo_row13 j mi h
  | 14, h => exact xo_row14 j mi h
  | q + 15, h => simp [xm_t] at h
/-- THE PROGRAM'S TABLES HOLD -/
theorem xP : xP_ok xM xC := ⟨fun mid mi h => xo_tab (mid / 16) (mid % 16) mi h, ⟨xw_in (K := 1) (i := 28) (by decide +kernel), xw_in (K := 1) (i := 29) (by decide +kernel)⟩, xw_in (K := 2) (i := 172) (by decide +kernel), xw_in (K := 1) (i := 12) (by decide +kernel), xw_in (K := 2) (i := 173) (by decide +kernel)⟩
/-- EVERY RUN OF THE PROGRAM -/
theorem xS (f : Nat) : xS_ok xM xC f := xS_all xP f
end XPR
