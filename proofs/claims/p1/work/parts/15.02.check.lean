section XCK2
set_option maxRecDepth 20000 in
theorem xo_m_X2_lowerShare : xm_b xmi_X2_lowerShare (5, 73) (1, 7) (5, 71) (5, 72) = true := by decide +kernel
set_option maxRecDepth 20000 in
theorem xo_c_X2_lowerShare_0 : xc_b xmi_X2_lowerShare xc_X2_lowerShare 0 64 = true := by decide +kernel
theorem xo_r_X2_lowerShare : ∀ (pc : Nat) (r : xr_R), xcl xc_X2_lowerShare pc = some r → xr_b xmi_X2_lowerShare.1 (xm_ini xmi_X2_lowerShare) xmi_X2_lowerShare.2.2.1 pc r = true ∧ xr_c xM xmi_X2_lowerShare.1 r = true := xc_up_e (mi := xmi_X2_lowerShare) (cd := xc_X2_lowerShare) (N := 64) (xc_up_s (mi := xmi_X2_lowerShare) (cd := xc_X2_lowerShare) (lo := 0) (n := 64) xc_up_0 xo_c_X2_lowerShare_0) (by decide +kernel)
set_option maxRecDepth 20000 in
theorem xo_m_X2_ordersOf : xm_b xmi_X2_ordersOf (5, 62) (1, 7) (5, 61) (0, 55) = true := by decide +kernel
set_option maxRecDepth 20000 in
theorem xo_c_X2_ordersOf_0 : xc_b xmi_X2_ordersOf xc_X2_ordersOf 0 64 = true := by decide +kernel
theorem xo_r_X2_ordersOf : ∀ (pc : Nat) (r : xr_R), xcl xc_X2_ordersOf pc = some r → xr_b xmi_X2_ordersOf.1 (xm_ini xmi_X2_ordersOf) xmi_X2_ordersOf.2.2.1 pc r = true ∧ xr_c xM xmi_X2_ordersOf.1 r = true := xc_up_e (mi := xmi_X2_ordersOf) (cd := xc_X2_ordersOf) (N := 64) (xc_up_s (mi := xmi_X2_ordersOf) (cd := xc_X2_ordersOf) (lo := 0) (n := 64) xc_up_0 xo_c_X2_ordersOf_0) (by decide +kernel)
set_option maxRecDepth 20000 in
theorem xo_m_X2_partsOf : xm_b xmi_X2_partsOf (5, 68) (1, 7) (5, 67) (0, 56) = true := by decide +kernel
set_option maxRecDepth 20000 in
theorem xo_c_X2_partsOf_0 : xc_b xmi_X2_partsOf xc_X2_partsOf 0 64 = true := by decide +kernel
theorem xo_r_X2_partsOf : ∀ (pc : Nat) (r : xr_R), xcl xc_X2_partsOf pc = some r → xr_b xmi_X2_partsOf.1 (xm_ini xmi_X2_partsOf) xmi_X2_partsOf.2.2.1 pc r = true ∧ xr_c xM xmi_X2_partsOf.1 r = true := xc_up_e (mi := xmi_X2_partsOf) (cd := xc_X2_partsOf) (N := 64) (xc_up_s (mi := xmi_X2_partsOf) (cd := xc_X2_partsOf) (lo := 0) (n := 64) xc_up_0 xo_c_X2_partsOf_0) (by decide +kernel)
set_option maxRecDepth 20000 in
theorem xo_m_X2_chanceOf : xm_b xmi_X2_chanceOf (4, 16) (1, 7) (4, 14) (4, 15) = true := by decide +kernel
set_option maxRecDepth 20000 in
theorem xo_c_X2_chanceOf_0 : xc_b xmi_X2_chanceOf xc_X2_chanceOf 0 112 = true := by decide +kernel
set_option maxRecDepth 20000 in
theorem xo_c_X2_chanceOf_112 : xc_b xmi_X2_chanceOf xc_X2_chanceOf 112 16 = true := by decide +kernel
theorem xo_r_X2_chanceOf : ∀ (pc : Nat) (r : xr_R), xcl xc_X2_chanceOf pc = some r → xr_b xmi_X2_chanceOf.1 (xm_ini xmi_X2_chanceOf) xmi_X2_chanceOf.2.2.1 pc r = true ∧ xr_c xM xmi_X2_chanceOf.1 r = true := xc_up_e (mi := xmi_X2_chanceOf) (cd := xc_X2_chanceOf) (N := 128) (xc_up_s (mi := xmi_X2_chanceOf) (cd := xc_X2_chanceOf) (lo := 112) (n := 16) (xc_up_s (mi := xmi_X2_chanceOf) (cd := xc_X2_chanceOf) (lo := 0) (n := 112) xc_up_0 xo_c_X2_chanceOf_0) xo_c_X2_chanceOf_112) (by decide +kernel)
set_option maxRecDepth 20000 in
theorem xo_m_X2_power : xm_b xmi_X2_power (4, 19) (1, 7) (4, 18) (99, 0) = true := by decide +kernel
set_option maxRecDepth 20000 in
theorem xo_c_X2_power_0 : xc_b xmi_X2_power xc_X2_power 0 32 = true := by decide +kernel
theorem xo_r_X2_power : ∀ (pc : Nat) (r : xr_R), xcl xc_X2_power pc = some r → xr_b xmi_X2_power.1 (xm_ini xmi_X2_power) xmi_X2_power.2.2.1 pc r = true ∧ xr_c xM xmi_X2_power.1 r = true := xc_up_e (mi := xmi_X2_power) (cd := xc_X2_power) (N := 32) (xc_up_s (mi := xmi_X2_power) (cd := xc_X2_power) (lo := 0) (n := 32) xc_up_0 xo_c_X2_power_0) (by decide +kernel)
set_option maxRecDepth 20000 in
theorem xo_m_X2_allyOf : xm_b xmi_X2_allyOf (4, 27) (1, 7) (4, 25) (4, 26) = true := by decide +kernel
set_option maxRecDepth 20000 in
theorem xo_c_X2_allyOf_0 : xc_b xmi_X2_allyOf xc_X2_allyOf 0 64 = true := by decide +kernel
theorem xo_r_X2_allyOf : ∀ (pc : Nat) (r : xr_R), xcl xc_X2_allyOf pc = some r → xr_b xmi_X2_allyOf.1 (xm_ini xmi_X2_allyOf) xmi_X2_allyOf.2.2.1 pc r = true ∧ xr_c xM xmi_X2_allyOf.1 r = true := xc_up_e (mi := xmi_X2_allyOf) (cd := xc_X2_allyOf) (N := 64) (xc_up_s (mi := xmi_X2_allyOf) (cd := xc_X2_allyOf) (lo := 0) (n := 64) xc_up_0 xo_c_X2_allyOf_0) (by decide +kernel)
set_option maxRecDepth 20000 in
theorem xo_m_X2_countTogether : xm_b xmi_X2_countTogether (4, 31) (1, 7) (4, 30) (0, 33) = true := by decide +kernel
set_option maxRecDepth 20000 in
theorem xo_c_X2_countTogether_0 : xc_b xmi_X2_countTogether xc_X2_countTogether 0 96 = true := by decide +kernel
theorem xo_r_X2_countTogether : ∀ (pc : Nat) (r : xr_R), xcl xc_X2_countTogether pc = some r → xr_b xmi_X2_countTogether.1 (xm_ini xmi_X2_countTogether) xmi_X2_countTogether.2.2.1 pc r = true ∧ xr_c xM xmi_X2_countTogether.1 r = true := xc_up_e (mi := xmi_X2_countTogether) (cd := xc_X2_countTogether) (N := 96) (xc_up_s (mi := xmi_X2_countTogether) (cd := xc_X2_countTogether) (lo := 0) (n := 96) xc_up_0 xo_c_X2_countTogether_0) (by decide +kernel)
set_option maxRecDepth 20000 in
theorem xo_m_X3_init : xm_b xmi_X3_init (1, 57) (1, 4) (1, 56) (99, 0) = true := by decide +kernel
set_option maxRecDepth 20000 in
theorem xo_c_X3_init_0 : xc_b xmi_X3_init xc_X3_init 0 48 = true := by decide +kernel
theorem xo_r_X3_init : ∀ (pc : Nat) (r : xr_R), xcl xc_X3_init pc = some r → xr_b xmi_X3_init.1 (xm_ini xmi_X3_init) xmi_X3_init.2.2.1 pc r = true ∧ xr_c xM xmi_X3_init.1 r = true := xc_up_e (mi := xmi_X3_init) (cd := xc_X3_init) (N := 48) (xc_up_s (mi := xmi_X3_init) (cd := xc_X3_init) (lo := 0) (n := 48) xc_up_0 xo_c_X3_init_0) (by decide +kernel)
set_option maxRecDepth 20000 in
theorem xo_m_X3_clear : xm_b xmi_X3_clear (2, 166) (1, 4) (2, 164) (2, 165) = true := by decide +kernel
set_option maxRecDepth 20000 in
theorem xo_c_X3_clear_0 : xc_b xmi_X3_clear xc_X3_clear 0 16 = true := by decide +kernel
theorem xo_r_X3_clear : ∀ (pc : Nat) (r : xr_R), xcl xc_X3_clear pc = some r → xr_b xmi_X3_clear.1 (xm_ini xmi_X3_clear) xmi_X3_clear.2.2.1 pc r = true ∧ xr_c xM xmi_X3_clear.1 r = true := xc_up_e (mi := xmi_X3_clear) (cd := xc_X3_clear) (N := 16) (xc_up_s (mi := xmi_X3_clear) (cd := xc_X3_clear) (lo := 0) (n := 16) xc_up_0 xo_c_X3_clear_0) (by decide +kernel)
set_option maxRecDepth 20000 in
theorem xo_m_X3_add : xm_b xmi_X3_add (3, 78) (1, 4) (3, 76) (3, 77) = true := by decide +kernel
set_option maxRecDepth 20000 in
theorem xo_c_X3_add_0 : xc_b xmi_X3_add xc_X3_add 0 48 = true := by decide +kernel
theorem xo_r_X3_add : ∀ (pc : Nat) (r : xr_R), xcl xc_X3_add pc = some r → xr_b xmi_X3_add.1 (xm_ini xmi_X3_add) xmi_X3_add.2.2.1 pc r = true ∧ xr_c xM xmi_X3_add.1 r = true := xc_up_e (mi := xmi_X3_add) (cd := xc_X3_add) (N := 48) (xc_up_s (mi := xmi_X3_add) (cd := xc_X3_add) (lo := 0) (n := 48) xc_up_0 xo_c_X3_add_0) (by decide +kernel)
set_option maxRecDepth 20000 in
theorem xo_m_X3_fill : xm_b xmi_X3_fill (3, 113) (1, 4) (3, 111) (3, 112) = true := by decide +kernel
set_option maxRecDepth 20000 in
theorem xo_c_X3_fill_0 : xc_b xmi_X3_fill xc_X3_fill 0 32 = true := by decide +kernel
theorem xo_r_X3_fill : ∀ (pc : Nat) (r : xr_R), xcl xc_X3_fill pc = some r → xr_b xmi_X3_fill.1 (xm_ini xmi_X3_fill) xmi_X3_fill.2.2.1 pc r = true ∧ xr_c xM xmi_X3_fill.1 r = true := xc_up_e (mi := xmi_X3_fill) (cd := xc_X3_fill) (N := 32) (xc_up_s (mi := xmi_X3_fill) (cd := xc_X3_fill) (lo := 0) (n := 32) xc_up_0 xo_c_X3_fill_0) (by decide +kernel)
set_option maxRecDepth 20000 in
theorem xo_m_X3_run : xm_b xmi_X3_run (3, 117) (1, 4) (3, 116) (0, 17) = true := by decide +kernel
set_option maxRecDepth 20000 in
theorem xo_c_X3_run_0 : xc_b xmi_X3_run xc_X3_run 0 112 = true := by decide +kernel
set_option maxRecDepth 20000 in
theorem xo_c_X3_run_112 : xc_b xmi_X3_run xc_X3_run 112 80 = true := by decide +kernel
theorem xo_r_X3_run : ∀ (pc : Nat) (r : xr_R), xcl xc_X3_run pc = some r → xr_b xmi_X3_run.1 (xm_ini xmi_X3_run) xmi_X3_run.2.2.1 pc r = true ∧ xr_c xM xmi_X3_run.1 r = true := xc_up_e (mi := xmi_X3_run) (cd := xc_X3_run) (N := 192) (xc_up_s (mi := xmi_X3_run) (cd := xc_X3_run) (lo := 112) (n := 80) (xc_up_s (mi := xmi_X3_run) (cd := xc_X3_run) (lo := 0) (n := 112) xc_up_0 xo_c_X3_run_0) xo_c_X3_run_112) (by decide +kernel)
set_option maxRecDepth 20000 in
theorem xo_m_X3_join : xm_b xmi_X3_join (3, 132) (1, 4) (3, 131) (99, 0) = true := by decide +kernel
set_option maxRecDepth 20000 in
theorem xo_c_X3_join_0 : xc_b xmi_X3_join xc_X3_join 0 32 = true := by decide +kernel
theorem xo_r_X3_join : ∀ (pc : Nat) (r : xr_R), xcl xc_X3_join pc = some r → xr_b xmi_X3_join.1 (xm_ini xmi_X3_join) xmi_X3_join.2.2.1 pc r = true ∧ xr_c xM xmi_X3_join.1 r = true := xc_up_e (mi := xmi_X3_join) (cd := xc_X3_join) (N := 32) (xc_up_s (mi := xmi_X3_join) (cd := xc_X3_join) (lo := 0) (n := 32) xc_up_0 xo_c_X3_join_0) (by decide +kernel)
set_option maxRecDepth 20000 in
theorem xo_m_X3_push : xm_b xmi_X3_push (3, 121) (1, 4) (3, 120) (0, 18) = true := by decide +kernel
set_option maxRecDepth 20000 in
theorem xo_c_X3_push_0 : xc_b xmi_X3_push xc_X3_push 0 32 = true := by decide +kernel
theorem xo_r_X3_push : ∀ (pc : Nat) (r : xr_R), xcl xc_X3_push pc = some r → xr_b xmi_X3_push.1 (xm_ini xmi_X3_push) xmi_X3_push.2.2.1 pc r = true ∧ xr_c xM xmi_X3_push.1 r = true := xc_up_e (mi := xmi_X3_push) (cd := xc_X3_push) (N := 32) (xc_up_s (mi := xmi_X3_push) (cd := xc_X3_push) (lo := 0) (n := 32) xc_up_0 xo_c_X3_push_0) (by decide +kernel)
set_option maxRecDepth 20000 in
theorem xo_m_X3_peek : xm_b xmi_X3_peek (3, 125) (1, 4) (3, 124) (0, 19) = true := by decide +kernel
set_option maxRecDepth 20000 in
theorem xo_c_X3_peek_0 : xc_b xmi_X3_peek xc_X3_peek 0 32 = true := by decide +kernel
theorem xo_r_X3_peek : ∀ (pc : Nat) (r : xr_R), xcl xc_X3_peek pc = some r → xr_b xmi_X3_peek.1 (xm_ini xmi_X3_peek) xmi_X3_peek.2.2.1 pc r = true ∧ xr_c xM xmi_X3_peek.1 r = true := xc_up_e (mi := xmi_X3_peek) (cd := xc_X3_peek) (N := 32) (xc_up_s (mi := xmi_X3_peek) (cd := xc_X3_peek) (lo := 0) (n := 32) xc_up_0 xo_c_X3_peek_0) (by decide +kernel)
set_option maxRecDepth 20000 in
theorem xo_m_X3_replace : xm_b xmi_X3_replace (3, 129) (1, 4) (3, 128) (0, 20) = true := by decide +kernel
set_option maxRecDepth 20000 in
theorem xo_c_X3_replace_0 : xc_b xmi_X3_replace xc_X3_replace 0 32 = true := by decide +kernel
theorem xo_r_X3_replace : ∀ (pc : Nat) (r : xr_R), xcl xc_X3_replace pc = some r → xr_b xmi_X3_replace.1 (xm_ini xmi_X3_replace) xmi_X3_replace.2.2.1 pc r = true ∧ xr_c xM xmi_X3_replace.1 r = true := xc_up_e (mi := xmi_X3_replace) (cd := xc_X3_replace) (N := 32) (xc_up_s (mi := xmi_X3_replace) (cd := xc_X3_replace) (lo := 0) (n := 32) xc_up_0 xo_c_X3_replace_0) (by decide +kernel)
set_option maxRecDepth 20000 in
theorem xo_m_X4_init : xm_b xmi_X4_init (1, 51) (1, 3) (1, 50) (99, 0) = true := by decide +kernel
set_option maxRecDepth 20000 in
theorem xo_c_X4_init_0 : xc_b xmi_X4_init xc_X4_init 0 48 = true := by decide +kernel
theorem xo_r_X4_init : ∀ (pc : Nat) (r : xr_R), xcl xc_X4_init pc = some r → xr_b xmi_X4_init.1 (xm_ini xmi_X4_init) xmi_X4_init.2.2.1 pc r = true ∧ xr_c xM xmi_X4_init.1 r = true := xc_up_e (mi := xmi_X4_init) (cd := xc_X4_init) (N := 48) (xc_up_s (mi := xmi_X4_init) (cd := xc_X4_init) (lo := 0) (n := 48) xc_up_0 xo_c_X4_init_0) (by decide +kernel)
set_option maxRecDepth 20000 in
theorem xo_m_X4_read : xm_b xmi_X4_read (2, 162) (1, 3) (2, 160) (2, 161) = true := by decide +kernel
set_option maxRecDepth 20000 in
theorem xo_c_X4_read_0 : xc_b xmi_X4_read xc_X4_read 0 112 = true := by decide +kernel
set_option maxRecDepth 20000 in
theorem xo_c_X4_read_112 : xc_b xmi_X4_read xc_X4_read 112 16 = true := by decide +kernel
theorem xo_r_X4_read : ∀ (pc : Nat) (r : xr_R), xcl xc_X4_read pc = some r → xr_b xmi_X4_read.1 (xm_ini xmi_X4_read) xmi_X4_read.2.2.1 pc r = true ∧ xr_c xM xmi_X4_read.1 r = true := xc_up_e (mi := xmi_X4_read) (cd := xc_X4_read) (N := 128) (xc_up_s (mi := xmi_X4_read) (cd := xc_X4_read) (lo := 112) (n := 16) (xc_up_s (mi := xmi_X4_read) (cd := xc_X4_read) (lo := 0) (n := 112) xc_up_0 xo_c_X4_read_0) xo_c_X4_read_112) (by decide +kernel)
set_option maxRecDepth 20000 in
theorem xo_m_X4_fail : xm_b xmi_X4_fail (3, 33) (1, 3) (3, 32) (0, 3) = true := by decide +kernel
set_option maxRecDepth 20000 in
theorem xo_c_X4_fail_0 : xc_b xmi_X4_fail xc_X4_fail 0 16 = true := by decide +kernel
theorem xo_r_X4_fail : ∀ (pc : Nat) (r : xr_R), xcl xc_X4_fail pc = some r → xr_b xmi_X4_fail.1 (xm_ini xmi_X4_fail) xmi_X4_fail.2.2.1 pc r = true ∧ xr_c xM xmi_X4_fail.1 r = true := xc_up_e (mi := xmi_X4_fail) (cd := xc_X4_fail) (N := 16) (xc_up_s (mi := xmi_X4_fail) (cd := xc_X4_fail) (lo := 0) (n := 16) xc_up_0 xo_c_X4_fail_0) (by decide +kernel)
set_option maxRecDepth 20000 in
theorem xo_m_X4_takeWord : xm_b xmi_X4_takeWord (3, 70) (1, 3) (3, 69) (0, 11) = true := by decide +kernel
set_option maxRecDepth 20000 in
theorem xo_c_X4_takeWord_0 : xc_b xmi_X4_takeWord xc_X4_takeWord 0 48 = true := by decide +kernel
theorem xo_r_X4_takeWord : ∀ (pc : Nat) (r : xr_R), xcl xc_X4_takeWord pc = some r → xr_b xmi_X4_takeWord.1 (xm_ini xmi_X4_takeWord) xmi_X4_takeWord.2.2.1 pc r = true ∧ xr_c xM xmi_X4_takeWord.1 r = true := xc_up_e (mi := xmi_X4_takeWord) (cd := xc_X4_takeWord) (N := 48) (xc_up_s (mi := xmi_X4_takeWord) (cd := xc_X4_takeWord) (lo := 0) (n := 48) xc_up_0 xo_c_X4_takeWord_0) (by decide +kernel)
set_option maxRecDepth 20000 in
theorem xo_m_X4_takeSign : xm_b xmi_X4_takeSign (3, 45) (1, 3) (3, 44) (0, 5) = true := by decide +kernel
set_option maxRecDepth 20000 in
theorem xo_c_X4_takeSign_0 : xc_b xmi_X4_takeSign xc_X4_takeSign 0 48 = true := by decide +kernel
theorem xo_r_X4_takeSign : ∀ (pc : Nat) (r : xr_R), xcl xc_X4_takeSign pc = some r → xr_b xmi_X4_takeSign.1 (xm_ini xmi_X4_takeSign) xmi_X4_takeSign.2.2.1 pc r = true ∧ xr_c xM xmi_X4_takeSign.1 r = true := xc_up_e (mi := xmi_X4_takeSign) (cd := xc_X4_takeSign) (N := 48) (xc_up_s (mi := xmi_X4_takeSign) (cd := xc_X4_takeSign) (lo := 0) (n := 48) xc_up_0 xo_c_X4_takeSign_0) (by decide +kernel)
set_option maxRecDepth 20000 in
theorem xo_m_X4_takeEnd : xm_b xmi_X4_takeEnd (3, 105) (1, 3) (3, 104) (0, 16) = true := by decide +kernel
set_option maxRecDepth 20000 in
theorem xo_c_X4_takeEnd_0 : xc_b xmi_X4_takeEnd xc_X4_takeEnd 0 64 = true := by decide +kernel
theorem xo_r_X4_takeEnd : ∀ (pc : Nat) (r : xr_R), xcl xc_X4_takeEnd pc = some r → xr_b xmi_X4_takeEnd.1 (xm_ini xmi_X4_takeEnd) xmi_X4_takeEnd.2.2.1 pc r = true ∧ xr_c xM xmi_X4_takeEnd.1 r = true := xc_up_e (mi := xmi_X4_takeEnd) (cd := xc_X4_takeEnd) (N := 64) (xc_up_s (mi := xmi_X4_takeEnd) (cd := xc_X4_takeEnd) (lo := 0) (n := 64) xc_up_0 xo_c_X4_takeEnd_0) (by decide +kernel)
set_option maxRecDepth 20000 in
theorem xo_m_X4_takeOpening : xm_b xmi_X4_takeOpening (3, 74) (1, 3) (3, 73) (0, 12) = true := by decide +kernel
set_option maxRecDepth 20000 in
theorem xo_c_X4_takeOpening_0 : xc_b xmi_X4_takeOpening xc_X4_takeOpening 0 80 = true := by decide +kernel
theorem xo_r_X4_takeOpening : ∀ (pc : Nat) (r : xr_R), xcl xc_X4_takeOpening pc = some r → xr_b xmi_X4_takeOpening.1 (xm_ini xmi_X4_takeOpening) xmi_X4_takeOpening.2.2.1 pc r = true ∧ xr_c xM xmi_X4_takeOpening.1 r = true := xc_up_e (mi := xmi_X4_takeOpening) (cd := xc_X4_takeOpening) (N := 80) (xc_up_s (mi := xmi_X4_takeOpening) (cd := xc_X4_takeOpening) (lo := 0) (n := 80) xc_up_0 xo_c_X4_takeOpening_0) (by decide +kernel)
set_option maxRecDepth 20000 in
theorem xo_m_X4_readBody : xm_b xmi_X4_readBody (3, 14) (1, 3) (3, 13) (0, 1) = true := by decide +kernel
set_option maxRecDepth 20000 in
theorem xo_c_X4_readBody_0 : xc_b xmi_X4_readBody xc_X4_readBody 0 112 = true := by decide +kernel
theorem xo_r_X4_readBody : ∀ (pc : Nat) (r : xr_R), xcl xc_X4_readBody pc = some r → xr_b xmi_X4_readBody.1 (xm_ini xmi_X4_readBody) xmi_X4_readBody.2.2.1 pc r = true ∧ xr_c xM xmi_X4_readBody.1 r = true := xc_up_e (mi := xmi_X4_readBody) (cd := xc_X4_readBody) (N := 112) (xc_up_s (mi := xmi_X4_readBody) (cd := xc_X4_readBody) (lo := 0) (n := 112) xc_up_0 xo_c_X4_readBody_0) (by decide +kernel)
set_option maxRecDepth 20000 in
theorem xo_m_X4_takeNewName : xm_b xmi_X4_takeNewName (3, 19) (1, 3) (3, 18) (0, 2) = true := by decide +kernel
set_option maxRecDepth 20000 in
theorem xo_c_X4_takeNewName_0 : xc_b xmi_X4_takeNewName xc_X4_takeNewName 0 80 = true := by decide +kernel
theorem xo_r_X4_takeNewName : ∀ (pc : Nat) (r : xr_R), xcl xc_X4_takeNewName pc = some r → xr_b xmi_X4_takeNewName.1 (xm_ini xmi_X4_takeNewName) xmi_X4_takeNewName.2.2.1 pc r = true ∧ xr_c xM xmi_X4_takeNewName.1 r = true := xc_up_e (mi := xmi_X4_takeNewName) (cd := xc_X4_takeNewName) (N := 80) (xc_up_s (mi := xmi_X4_takeNewName) (cd := xc_X4_takeNewName) (lo := 0) (n := 80) xc_up_0 xo_c_X4_takeNewName_0) (by decide +kernel)
set_option maxRecDepth 20000 in
theorem xo_m_X4_toldName : xm_b xmi_X4_toldName (3, 37) (1, 3) (3, 36) (0, 4) = true := by decide +kernel
set_option maxRecDepth 20000 in
theorem xo_c_X4_toldName_0 : xc_b xmi_X4_toldName xc_X4_toldName 0 48 = true := by decide +kernel
theorem xo_r_X4_toldName : ∀ (pc : Nat) (r : xr_R), xcl xc_X4_toldName pc = some r → xr_b xmi_X4_toldName.1 (xm_ini xmi_X4_toldName) xmi_X4_toldName.2.2.1 pc r = true ∧ xr_c xM xmi_X4_toldName.1 r = true := xc_up_e (mi := xmi_X4_toldName) (cd := xc_X4_toldName) (N := 48) (xc_up_s (mi := xmi_X4_toldName) (cd := xc_X4_toldName) (lo := 0) (n := 48) xc_up_0 xo_c_X4_toldName_0) (by decide +kernel)
set_option maxRecDepth 20000 in
theorem xo_m_X4_readRule : xm_b xmi_X4_readRule (3, 49) (1, 3) (3, 48) (0, 6) = true := by decide +kernel
set_option maxRecDepth 20000 in
theorem xo_c_X4_readRule_0 : xc_b xmi_X4_readRule xc_X4_readRule 0 64 = true := by decide +kernel
theorem xo_r_X4_readRule : ∀ (pc : Nat) (r : xr_R), xcl xc_X4_readRule pc = some r → xr_b xmi_X4_readRule.1 (xm_ini xmi_X4_readRule) xmi_X4_readRule.2.2.1 pc r = true ∧ xr_c xM xmi_X4_readRule.1 r = true := xc_up_e (mi := xmi_X4_readRule) (cd := xc_X4_readRule) (N := 64) (xc_up_s (mi := xmi_X4_readRule) (cd := xc_X4_readRule) (lo := 0) (n := 64) xc_up_0 xo_c_X4_readRule_0) (by decide +kernel)
set_option maxRecDepth 20000 in
theorem xo_m_X4_readAll : xm_b xmi_X4_readAll (3, 53) (1, 3) (3, 52) (0, 7) = true := by decide +kernel
set_option maxRecDepth 20000 in
theorem xo_c_X4_readAll_0 : xc_b xmi_X4_readAll xc_X4_readAll 0 64 = true := by decide +kernel
theorem xo_r_X4_readAll : ∀ (pc : Nat) (r : xr_R), xcl xc_X4_readAll pc = some r → xr_b xmi_X4_readAll.1 (xm_ini xmi_X4_readAll) xmi_X4_readAll.2.2.1 pc r = true ∧ xr_c xM xmi_X4_readAll.1 r = true := xc_up_e (mi := xmi_X4_readAll) (cd := xc_X4_readAll) (N := 64) (xc_up_s (mi := xmi_X4_readAll) (cd := xc_X4_readAll) (lo := 0) (n := 64) xc_up_0 xo_c_X4_readAll_0) (by decide +kernel)
set_option maxRecDepth 20000 in
theorem xo_m_X4_readOne : xm_b xmi_X4_readOne (3, 57) (1, 3) (3, 56) (0, 8) = true := by decide +kernel
set_option maxRecDepth 20000 in
theorem xo_c_X4_readOne_0 : xc_b xmi_X4_readOne xc_X4_readOne 0 112 = true := by decide +kernel
set_option maxRecDepth 20000 in
theorem xo_c_X4_readOne_112 : xc_b xmi_X4_readOne xc_X4_readOne 112 48 = true := by decide +kernel
theorem xo_r_X4_readOne : ∀ (pc : Nat) (r : xr_R), xcl xc_X4_readOne pc = some r → xr_b xmi_X4_readOne.1 (xm_ini xmi_X4_readOne) xmi_X4_readOne.2.2.1 pc r = true ∧ xr_c xM xmi_X4_readOne.1 r = true := xc_up_e (mi := xmi_X4_readOne) (cd := xc_X4_readOne) (N := 160) (xc_up_s (mi := xmi_X4_readOne) (cd := xc_X4_readOne) (lo := 112) (n := 48) (xc_up_s (mi := xmi_X4_readOne) (cd := xc_X4_readOne) (lo := 0) (n := 112) xc_up_0 xo_c_X4_readOne_0) xo_c_X4_readOne_112) (by decide +kernel)
set_option maxRecDepth 20000 in
theorem xo_m_X4_noteMember : xm_b xmi_X4_noteMember (3, 90) (1, 3) (3, 89) (0, 14) = true := by decide +kernel
set_option maxRecDepth 20000 in
theorem xo_c_X4_noteMember_0 : xc_b xmi_X4_noteMember xc_X4_noteMember 0 48 = true := by decide +kernel
theorem xo_r_X4_noteMember : ∀ (pc : Nat) (r : xr_R), xcl xc_X4_noteMember pc = some r → xr_b xmi_X4_noteMember.1 (xm_ini xmi_X4_noteMember) xmi_X4_noteMember.2.2.1 pc r = true ∧ xr_c xM xmi_X4_noteMember.1 r = true := xc_up_e (mi := xmi_X4_noteMember) (cd := xc_X4_noteMember) (N := 48) (xc_up_s (mi := xmi_X4_noteMember) (cd := xc_X4_noteMember) (lo := 0) (n := 48) xc_up_0 xo_c_X4_noteMember_0) (by decide +kernel)
set_option maxRecDepth 20000 in
theorem xo_m_X4_noteName : xm_b xmi_X4_noteName (3, 98) (1, 3) (3, 97) (0, 15) = true := by decide +kernel
set_option maxRecDepth 20000 in
theorem xo_c_X4_noteName_0 : xc_b xmi_X4_noteName xc_X4_noteName 0 64 = true := by decide +kernel
theorem xo_r_X4_noteName : ∀ (pc : Nat) (r : xr_R), xcl xc_X4_noteName pc = some r → xr_b xmi_X4_noteName.1 (xm_ini xmi_X4_noteName) xmi_X4_noteName.2.2.1 pc r = true ∧ xr_c xM xmi_X4_noteName.1 r = true := xc_up_e (mi := xmi_X4_noteName) (cd := xc_X4_noteName) (N := 64) (xc_up_s (mi := xmi_X4_noteName) (cd := xc_X4_noteName) (lo := 0) (n := 64) xc_up_0 xo_c_X4_noteName_0) (by decide +kernel)
set_option maxRecDepth 20000 in
theorem xo_m_X4_countOne : xm_b xmi_X4_countOne (3, 65) (1, 3) (3, 64) (0, 10) = true := by decide +kernel
set_option maxRecDepth 20000 in
theorem xo_c_X4_countOne_0 : xc_b xmi_X4_countOne xc_X4_countOne 0 48 = true := by decide +kernel
theorem xo_r_X4_countOne : ∀ (pc : Nat) (r : xr_R), xcl xc_X4_countOne pc = some r → xr_b xmi_X4_countOne.1 (xm_ini xmi_X4_countOne) xmi_X4_countOne.2.2.1 pc r = true ∧ xr_c xM xmi_X4_countOne.1 r = true := xc_up_e (mi := xmi_X4_countOne) (cd := xc_X4_countOne) (N := 48) (xc_up_s (mi := xmi_X4_countOne) (cd := xc_X4_countOne) (lo := 0) (n := 48) xc_up_0 xo_c_X4_countOne_0) (by decide +kernel)
set_option maxRecDepth 20000 in
theorem xo_m_X4_readQuota : xm_b xmi_X4_readQuota (3, 61) (1, 3) (3, 60) (0, 9) = true := by decide +kernel
set_option maxRecDepth 20000 in
theorem xo_c_X4_readQuota_0 : xc_b xmi_X4_readQuota xc_X4_readQuota 0 112 = true := by decide +kernel
set_option maxRecDepth 20000 in
theorem xo_c_X4_readQuota_112 : xc_b xmi_X4_readQuota xc_X4_readQuota 112 32 = true := by decide +kernel
theorem xo_r_X4_readQuota : ∀ (pc : Nat) (r : xr_R), xcl xc_X4_readQuota pc = some r → xr_b xmi_X4_readQuota.1 (xm_ini xmi_X4_readQuota) xmi_X4_readQuota.2.2.1 pc r = true ∧ xr_c xM xmi_X4_readQuota.1 r = true := xc_up_e (mi := xmi_X4_readQuota) (cd := xc_X4_readQuota) (N := 144) (xc_up_s (mi := xmi_X4_readQuota) (cd := xc_X4_readQuota) (lo := 112) (n := 32) (xc_up_s (mi := xmi_X4_readQuota) (cd := xc_X4_readQuota) (lo := 0) (n := 112) xc_up_0 xo_c_X4_readQuota_0) xo_c_X4_readQuota_112) (by decide +kernel)
set_option maxRecDepth 20000 in
theorem xo_m_X4_readItem : xm_b xmi_X4_readItem (3, 82) (1, 3) (3, 81) (0, 13) = true := by decide +kernel
set_option maxRecDepth 20000 in
theorem xo_c_X4_readItem_0 : xc_b xmi_X4_readItem xc_X4_readItem 0 112 = true := by decide +kernel
set_option maxRecDepth 20000 in
theorem xo_c_X4_readItem_112 : xc_b xmi_X4_readItem xc_X4_readItem 112 16 = true := by decide +kernel
theorem xo_r_X4_readItem : ∀ (pc : Nat) (r : xr_R), xcl xc_X4_readItem pc = some r → xr_b xmi_X4_readItem.1 (xm_ini xmi_X4_readItem) xmi_X4_readItem.2.2.1 pc r = true ∧ xr_c xM xmi_X4_readItem.1 r = true := xc_up_e (mi := xmi_X4_readItem) (cd := xc_X4_readItem) (N := 128) (xc_up_s (mi := xmi_X4_readItem) (cd := xc_X4_readItem) (lo := 112) (n := 16) (xc_up_s (mi := xmi_X4_readItem) (cd := xc_X4_readItem) (lo := 0) (n := 112) xc_up_0 xo_c_X4_readItem_0) xo_c_X4_readItem_112) (by decide +kernel)
set_option maxRecDepth 20000 in
theorem xo_m_X5_init : xm_b xmi_X5_init (1, 219) (1, 8) (1, 218) (99, 0) = true := by decide +kernel
set_option maxRecDepth 20000 in
theorem xo_c_X5_init_0 : xc_b xmi_X5_init xc_X5_init 0 112 = true := by decide +kernel
theorem xo_r_X5_init : ∀ (pc : Nat) (r : xr_R), xcl xc_X5_init pc = some r → xr_b xmi_X5_init.1 (xm_ini xmi_X5_init) xmi_X5_init.2.2.1 pc r = true ∧ xr_c xM xmi_X5_init.1 r = true := xc_up_e (mi := xmi_X5_init) (cd := xc_X5_init) (N := 112) (xc_up_s (mi := xmi_X5_init) (cd := xc_X5_init) (lo := 0) (n := 112) xc_up_0 xo_c_X5_init_0) (by decide +kernel)
set_option maxRecDepth 20000 in
theorem xo_m_X5_look : xm_b xmi_X5_look (4, 39) (1, 8) (4, 37) (4, 38) = true := by decide +kernel
set_option maxRecDepth 20000 in
theorem xo_c_X5_look_0 : xc_b xmi_X5_look xc_X5_look 0 64 = true := by decide +kernel
theorem xo_r_X5_look : ∀ (pc : Nat) (r : xr_R), xcl xc_X5_look pc = some r → xr_b xmi_X5_look.1 (xm_ini xmi_X5_look) xmi_X5_look.2.2.1 pc r = true ∧ xr_c xM xmi_X5_look.1 r = true := xc_up_e (mi := xmi_X5_look) (cd := xc_X5_look) (N := 64) (xc_up_s (mi := xmi_X5_look) (cd := xc_X5_look) (lo := 0) (n := 64) xc_up_0 xo_c_X5_look_0) (by decide +kernel)
end XCK2
