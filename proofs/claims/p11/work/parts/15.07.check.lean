section XCK7
set_option maxRecDepth 20000 in
theorem xo_m_X10_inForce : xm_b xmi_X10_inForce (1, 11) (6, 190) (0, 83) = true := by decide +kernel
theorem xo_w_X10_inForce : Cond.code xmi_X10_inForce.2.1 xmi_X10_inForce.2.2.1 xmi_X10_inForce.2.2.2.1 xmi_X10_inForce.2.2.2.2.1 ∈ xG := xw_in2 (K := 6) (i := 191) rfl rfl
set_option maxRecDepth 20000 in
theorem xo_c_X10_inForce_0 : xc_b xmi_X10_inForce xc_X10_inForce 0 80 = true := by decide +kernel
theorem xo_r_X10_inForce : ∀ (pc : Nat) (r : xr_R), xcl xc_X10_inForce pc = some r → xr_b xmi_X10_inForce.1 (xm_ini xmi_X10_inForce) xmi_X10_inForce.2.2.1 pc r = true ∧ xr_c xM xmi_X10_inForce.1 r = true := xc_up_e (mi := xmi_X10_inForce) (cd := xc_X10_inForce) (N := 80) (xc_up_s (mi := xmi_X10_inForce) (cd := xc_X10_inForce) (lo := 0) (n := 80) xc_up_0 xo_c_X10_inForce_0) (by decide +kernel)
set_option maxRecDepth 20000 in
theorem xo_m_X10_carriesBy : xm_b xmi_X10_carriesBy (1, 11) (6, 194) (0, 84) = true := by decide +kernel
theorem xo_w_X10_carriesBy : Cond.code xmi_X10_carriesBy.2.1 xmi_X10_carriesBy.2.2.1 xmi_X10_carriesBy.2.2.2.1 xmi_X10_carriesBy.2.2.2.2.1 ∈ xG := xw_in2 (K := 6) (i := 195) rfl rfl
set_option maxRecDepth 20000 in
theorem xo_c_X10_carriesBy_0 : xc_b xmi_X10_carriesBy xc_X10_carriesBy 0 48 = true := by decide +kernel
theorem xo_r_X10_carriesBy : ∀ (pc : Nat) (r : xr_R), xcl xc_X10_carriesBy pc = some r → xr_b xmi_X10_carriesBy.1 (xm_ini xmi_X10_carriesBy) xmi_X10_carriesBy.2.2.1 pc r = true ∧ xr_c xM xmi_X10_carriesBy.1 r = true := xc_up_e (mi := xmi_X10_carriesBy) (cd := xc_X10_carriesBy) (N := 48) (xc_up_s (mi := xmi_X10_carriesBy) (cd := xc_X10_carriesBy) (lo := 0) (n := 48) xc_up_0 xo_c_X10_carriesBy_0) (by decide +kernel)
set_option maxRecDepth 20000 in
theorem xo_m_X10_carries : xm_b xmi_X10_carries (1, 11) (6, 181) (6, 182) = true := by decide +kernel
theorem xo_w_X10_carries : Cond.code xmi_X10_carries.2.1 xmi_X10_carries.2.2.1 xmi_X10_carries.2.2.2.1 xmi_X10_carries.2.2.2.2.1 ∈ xG := xw_in2 (K := 6) (i := 183) rfl rfl
set_option maxRecDepth 20000 in
theorem xo_c_X10_carries_0 : xc_b xmi_X10_carries xc_X10_carries 0 48 = true := by decide +kernel
theorem xo_r_X10_carries : ∀ (pc : Nat) (r : xr_R), xcl xc_X10_carries pc = some r → xr_b xmi_X10_carries.1 (xm_ini xmi_X10_carries) xmi_X10_carries.2.2.1 pc r = true ∧ xr_c xM xmi_X10_carries.1 r = true := xc_up_e (mi := xmi_X10_carries) (cd := xc_X10_carries) (N := 48) (xc_up_s (mi := xmi_X10_carries) (cd := xc_X10_carries) (lo := 0) (n := 48) xc_up_0 xo_c_X10_carries_0) (by decide +kernel)
set_option maxRecDepth 20000 in
theorem xo_m_X10_lay : xm_b xmi_X10_lay (1, 11) (6, 202) (0, 85) = true := by decide +kernel
theorem xo_w_X10_lay : Cond.code xmi_X10_lay.2.1 xmi_X10_lay.2.2.1 xmi_X10_lay.2.2.2.1 xmi_X10_lay.2.2.2.2.1 ∈ xG := xw_in2 (K := 6) (i := 203) rfl rfl
set_option maxRecDepth 20000 in
theorem xo_c_X10_lay_0 : xc_b xmi_X10_lay xc_X10_lay 0 64 = true := by decide +kernel
theorem xo_r_X10_lay : ∀ (pc : Nat) (r : xr_R), xcl xc_X10_lay pc = some r → xr_b xmi_X10_lay.1 (xm_ini xmi_X10_lay) xmi_X10_lay.2.2.1 pc r = true ∧ xr_c xM xmi_X10_lay.1 r = true := xc_up_e (mi := xmi_X10_lay) (cd := xc_X10_lay) (N := 64) (xc_up_s (mi := xmi_X10_lay) (cd := xc_X10_lay) (lo := 0) (n := 64) xc_up_0 xo_c_X10_lay_0) (by decide +kernel)
set_option maxRecDepth 20000 in
theorem xo_m_X10_isLeast : xm_b xmi_X10_isLeast (1, 11) (6, 214) (0, 88) = true := by decide +kernel
theorem xo_w_X10_isLeast : Cond.code xmi_X10_isLeast.2.1 xmi_X10_isLeast.2.2.1 xmi_X10_isLeast.2.2.2.1 xmi_X10_isLeast.2.2.2.2.1 ∈ xG := xw_in2 (K := 6) (i := 215) rfl rfl
set_option maxRecDepth 20000 in
theorem xo_c_X10_isLeast_0 : xc_b xmi_X10_isLeast xc_X10_isLeast 0 64 = true := by decide +kernel
theorem xo_r_X10_isLeast : ∀ (pc : Nat) (r : xr_R), xcl xc_X10_isLeast pc = some r → xr_b xmi_X10_isLeast.1 (xm_ini xmi_X10_isLeast) xmi_X10_isLeast.2.2.1 pc r = true ∧ xr_c xM xmi_X10_isLeast.1 r = true := xc_up_e (mi := xmi_X10_isLeast) (cd := xc_X10_isLeast) (N := 64) (xc_up_s (mi := xmi_X10_isLeast) (cd := xc_X10_isLeast) (lo := 0) (n := 64) xc_up_0 xo_c_X10_isLeast_0) (by decide +kernel)
set_option maxRecDepth 20000 in
theorem xo_m_X10_hinders : xm_b xmi_X10_hinders (1, 11) (6, 222) (0, 90) = true := by decide +kernel
theorem xo_w_X10_hinders : Cond.code xmi_X10_hinders.2.1 xmi_X10_hinders.2.2.1 xmi_X10_hinders.2.2.2.1 xmi_X10_hinders.2.2.2.2.1 ∈ xG := xw_in2 (K := 6) (i := 223) rfl rfl
set_option maxRecDepth 20000 in
theorem xo_c_X10_hinders_0 : xc_b xmi_X10_hinders xc_X10_hinders 0 32 = true := by decide +kernel
theorem xo_r_X10_hinders : ∀ (pc : Nat) (r : xr_R), xcl xc_X10_hinders pc = some r → xr_b xmi_X10_hinders.1 (xm_ini xmi_X10_hinders) xmi_X10_hinders.2.2.1 pc r = true ∧ xr_c xM xmi_X10_hinders.1 r = true := xc_up_e (mi := xmi_X10_hinders) (cd := xc_X10_hinders) (N := 32) (xc_up_s (mi := xmi_X10_hinders) (cd := xc_X10_hinders) (lo := 0) (n := 32) xc_up_0 xo_c_X10_hinders_0) (by decide +kernel)
set_option maxRecDepth 20000 in
theorem xo_m_X10_isLeastHinder : xm_b xmi_X10_isLeastHinder (1, 11) (6, 218) (0, 89) = true := by decide +kernel
theorem xo_w_X10_isLeastHinder : Cond.code xmi_X10_isLeastHinder.2.1 xmi_X10_isLeastHinder.2.2.1 xmi_X10_isLeastHinder.2.2.2.1 xmi_X10_isLeastHinder.2.2.2.2.1 ∈ xG := xw_in2 (K := 6) (i := 219) rfl rfl
set_option maxRecDepth 20000 in
theorem xo_c_X10_isLeastHinder_0 : xc_b xmi_X10_isLeastHinder xc_X10_isLeastHinder 0 64 = true := by decide +kernel
theorem xo_r_X10_isLeastHinder : ∀ (pc : Nat) (r : xr_R), xcl xc_X10_isLeastHinder pc = some r → xr_b xmi_X10_isLeastHinder.1 (xm_ini xmi_X10_isLeastHinder) xmi_X10_isLeastHinder.2.2.1 pc r = true ∧ xr_c xM xmi_X10_isLeastHinder.1 r = true := xc_up_e (mi := xmi_X10_isLeastHinder) (cd := xc_X10_isLeastHinder) (N := 64) (xc_up_s (mi := xmi_X10_isLeastHinder) (cd := xc_X10_isLeastHinder) (lo := 0) (n := 64) xc_up_0 xo_c_X10_isLeastHinder_0) (by decide +kernel)
set_option maxRecDepth 20000 in
theorem xo_m_X10_isOfKind : xm_b xmi_X10_isOfKind (1, 11) (6, 210) (0, 87) = true := by decide +kernel
theorem xo_w_X10_isOfKind : Cond.code xmi_X10_isOfKind.2.1 xmi_X10_isOfKind.2.2.1 xmi_X10_isOfKind.2.2.2.1 xmi_X10_isOfKind.2.2.2.2.1 ∈ xG := xw_in2 (K := 6) (i := 211) rfl rfl
set_option maxRecDepth 20000 in
theorem xo_c_X10_isOfKind_0 : xc_b xmi_X10_isOfKind xc_X10_isOfKind 0 32 = true := by decide +kernel
theorem xo_r_X10_isOfKind : ∀ (pc : Nat) (r : xr_R), xcl xc_X10_isOfKind pc = some r → xr_b xmi_X10_isOfKind.1 (xm_ini xmi_X10_isOfKind) xmi_X10_isOfKind.2.2.1 pc r = true ∧ xr_c xM xmi_X10_isOfKind.1 r = true := xc_up_e (mi := xmi_X10_isOfKind) (cd := xc_X10_isOfKind) (N := 32) (xc_up_s (mi := xmi_X10_isOfKind) (cd := xc_X10_isOfKind) (lo := 0) (n := 32) xc_up_0 xo_c_X10_isOfKind_0) (by decide +kernel)
set_option maxRecDepth 20000 in
theorem xo_m_X10_countOf : xm_b xmi_X10_countOf (1, 11) (6, 206) (0, 86) = true := by decide +kernel
theorem xo_w_X10_countOf : Cond.code xmi_X10_countOf.2.1 xmi_X10_countOf.2.2.1 xmi_X10_countOf.2.2.2.1 xmi_X10_countOf.2.2.2.2.1 ∈ xG := xw_in2 (K := 6) (i := 207) rfl rfl
set_option maxRecDepth 20000 in
theorem xo_c_X10_countOf_0 : xc_b xmi_X10_countOf xc_X10_countOf 0 32 = true := by decide +kernel
theorem xo_r_X10_countOf : ∀ (pc : Nat) (r : xr_R), xcl xc_X10_countOf pc = some r → xr_b xmi_X10_countOf.1 (xm_ini xmi_X10_countOf) xmi_X10_countOf.2.2.1 pc r = true ∧ xr_c xM xmi_X10_countOf.1 r = true := xc_up_e (mi := xmi_X10_countOf) (cd := xc_X10_countOf) (N := 32) (xc_up_s (mi := xmi_X10_countOf) (cd := xc_X10_countOf) (lo := 0) (n := 32) xc_up_0 xo_c_X10_countOf_0) (by decide +kernel)
set_option maxRecDepth 20000 in
theorem xo_m_X10_whoIs : xm_b xmi_X10_whoIs (1, 11) (6, 226) (0, 91) = true := by decide +kernel
theorem xo_w_X10_whoIs : Cond.code xmi_X10_whoIs.2.1 xmi_X10_whoIs.2.2.1 xmi_X10_whoIs.2.2.2.1 xmi_X10_whoIs.2.2.2.2.1 ∈ xG := xw_in2 (K := 6) (i := 227) rfl rfl
set_option maxRecDepth 20000 in
theorem xo_c_X10_whoIs_0 : xc_b xmi_X10_whoIs xc_X10_whoIs 0 96 = true := by decide +kernel
theorem xo_r_X10_whoIs : ∀ (pc : Nat) (r : xr_R), xcl xc_X10_whoIs pc = some r → xr_b xmi_X10_whoIs.1 (xm_ini xmi_X10_whoIs) xmi_X10_whoIs.2.2.1 pc r = true ∧ xr_c xM xmi_X10_whoIs.1 r = true := xc_up_e (mi := xmi_X10_whoIs) (cd := xc_X10_whoIs) (N := 96) (xc_up_s (mi := xmi_X10_whoIs) (cd := xc_X10_whoIs) (lo := 0) (n := 96) xc_up_0 xo_c_X10_whoIs_0) (by decide +kernel)
set_option maxRecDepth 20000 in
theorem xo_m_X10_isProper : xm_b xmi_X10_isProper (1, 11) (6, 233) (0, 92) = true := by decide +kernel
theorem xo_w_X10_isProper : Cond.code xmi_X10_isProper.2.1 xmi_X10_isProper.2.2.1 xmi_X10_isProper.2.2.2.1 xmi_X10_isProper.2.2.2.2.1 ∈ xG := xw_in2 (K := 6) (i := 234) rfl rfl
set_option maxRecDepth 20000 in
theorem xo_c_X10_isProper_0 : xc_b xmi_X10_isProper xc_X10_isProper 0 48 = true := by decide +kernel
theorem xo_r_X10_isProper : ∀ (pc : Nat) (r : xr_R), xcl xc_X10_isProper pc = some r → xr_b xmi_X10_isProper.1 (xm_ini xmi_X10_isProper) xmi_X10_isProper.2.2.1 pc r = true ∧ xr_c xM xmi_X10_isProper.1 r = true := xc_up_e (mi := xmi_X10_isProper) (cd := xc_X10_isProper) (N := 48) (xc_up_s (mi := xmi_X10_isProper) (cd := xc_X10_isProper) (lo := 0) (n := 48) xc_up_0 xo_c_X10_isProper_0) (by decide +kernel)
set_option maxRecDepth 20000 in
theorem xo_m_X10_isStrong : xm_b xmi_X10_isStrong (1, 11) (6, 237) (0, 93) = true := by decide +kernel
theorem xo_w_X10_isStrong : Cond.code xmi_X10_isStrong.2.1 xmi_X10_isStrong.2.2.1 xmi_X10_isStrong.2.2.2.1 xmi_X10_isStrong.2.2.2.2.1 ∈ xG := xw_in2 (K := 6) (i := 238) rfl rfl
set_option maxRecDepth 20000 in
theorem xo_c_X10_isStrong_0 : xc_b xmi_X10_isStrong xc_X10_isStrong 0 48 = true := by decide +kernel
theorem xo_r_X10_isStrong : ∀ (pc : Nat) (r : xr_R), xcl xc_X10_isStrong pc = some r → xr_b xmi_X10_isStrong.1 (xm_ini xmi_X10_isStrong) xmi_X10_isStrong.2.2.1 pc r = true ∧ xr_c xM xmi_X10_isStrong.1 r = true := xc_up_e (mi := xmi_X10_isStrong) (cd := xc_X10_isStrong) (N := 48) (xc_up_s (mi := xmi_X10_isStrong) (cd := xc_X10_isStrong) (lo := 0) (n := 48) xc_up_0 xo_c_X10_isStrong_0) (by decide +kernel)
set_option maxRecDepth 20000 in
theorem xo_m_X10_held : xm_b xmi_X10_held (1, 11) (7, 5) (0, 95) = true := by decide +kernel
theorem xo_w_X10_held : Cond.code xmi_X10_held.2.1 xmi_X10_held.2.2.1 xmi_X10_held.2.2.2.1 xmi_X10_held.2.2.2.2.1 ∈ xG := xw_in2 (K := 7) (i := 6) rfl rfl
set_option maxRecDepth 20000 in
theorem xo_c_X10_held_0 : xc_b xmi_X10_held xc_X10_held 0 112 = true := by decide +kernel
theorem xo_r_X10_held : ∀ (pc : Nat) (r : xr_R), xcl xc_X10_held pc = some r → xr_b xmi_X10_held.1 (xm_ini xmi_X10_held) xmi_X10_held.2.2.1 pc r = true ∧ xr_c xM xmi_X10_held.1 r = true := xc_up_e (mi := xmi_X10_held) (cd := xc_X10_held) (N := 112) (xc_up_s (mi := xmi_X10_held) (cd := xc_X10_held) (lo := 0) (n := 112) xc_up_0 xo_c_X10_held_0) (by decide +kernel)
set_option maxRecDepth 20000 in
theorem xo_m_X10_isLined : xm_b xmi_X10_isLined (1, 11) (7, 1) (0, 94) = true := by decide +kernel
theorem xo_w_X10_isLined : Cond.code xmi_X10_isLined.2.1 xmi_X10_isLined.2.2.1 xmi_X10_isLined.2.2.2.1 xmi_X10_isLined.2.2.2.2.1 ∈ xG := xw_in2 (K := 7) (i := 2) rfl rfl
set_option maxRecDepth 20000 in
theorem xo_c_X10_isLined_0 : xc_b xmi_X10_isLined xc_X10_isLined 0 48 = true := by decide +kernel
theorem xo_r_X10_isLined : ∀ (pc : Nat) (r : xr_R), xcl xc_X10_isLined pc = some r → xr_b xmi_X10_isLined.1 (xm_ini xmi_X10_isLined) xmi_X10_isLined.2.2.1 pc r = true ∧ xr_c xM xmi_X10_isLined.1 r = true := xc_up_e (mi := xmi_X10_isLined) (cd := xc_X10_isLined) (N := 48) (xc_up_s (mi := xmi_X10_isLined) (cd := xc_X10_isLined) (lo := 0) (n := 48) xc_up_0 xo_c_X10_isLined_0) (by decide +kernel)
set_option maxRecDepth 20000 in
theorem xo_m_X10_many : xm_b xmi_X10_many (1, 11) (6, 197) (6, 198) = true := by decide +kernel
theorem xo_w_X10_many : Cond.code xmi_X10_many.2.1 xmi_X10_many.2.2.1 xmi_X10_many.2.2.2.1 xmi_X10_many.2.2.2.2.1 ∈ xG := xw_in2 (K := 6) (i := 199) rfl rfl
set_option maxRecDepth 20000 in
theorem xo_c_X10_many_0 : xc_b xmi_X10_many xc_X10_many 0 112 = true := by decide +kernel
set_option maxRecDepth 20000 in
theorem xo_c_X10_many_112 : xc_b xmi_X10_many xc_X10_many 112 48 = true := by decide +kernel
theorem xo_r_X10_many : ∀ (pc : Nat) (r : xr_R), xcl xc_X10_many pc = some r → xr_b xmi_X10_many.1 (xm_ini xmi_X10_many) xmi_X10_many.2.2.1 pc r = true ∧ xr_c xM xmi_X10_many.1 r = true := xc_up_e (mi := xmi_X10_many) (cd := xc_X10_many) (N := 160) (xc_up_s (mi := xmi_X10_many) (cd := xc_X10_many) (lo := 112) (n := 48) (xc_up_s (mi := xmi_X10_many) (cd := xc_X10_many) (lo := 0) (n := 112) xc_up_0 xo_c_X10_many_0) xo_c_X10_many_112) (by decide +kernel)
set_option maxRecDepth 20000 in
theorem xo_m_X10_setAt : xm_b xmi_X10_setAt (1, 11) (7, 8) (7, 9) = true := by decide +kernel
theorem xo_w_X10_setAt : Cond.code xmi_X10_setAt.2.1 xmi_X10_setAt.2.2.1 xmi_X10_setAt.2.2.2.1 xmi_X10_setAt.2.2.2.2.1 ∈ xG := xw_in2 (K := 7) (i := 10) rfl rfl
set_option maxRecDepth 20000 in
theorem xo_c_X10_setAt_0 : xc_b xmi_X10_setAt xc_X10_setAt 0 112 = true := by decide +kernel
set_option maxRecDepth 20000 in
theorem xo_c_X10_setAt_112 : xc_b xmi_X10_setAt xc_X10_setAt 112 16 = true := by decide +kernel
theorem xo_r_X10_setAt : ∀ (pc : Nat) (r : xr_R), xcl xc_X10_setAt pc = some r → xr_b xmi_X10_setAt.1 (xm_ini xmi_X10_setAt) xmi_X10_setAt.2.2.1 pc r = true ∧ xr_c xM xmi_X10_setAt.1 r = true := xc_up_e (mi := xmi_X10_setAt) (cd := xc_X10_setAt) (N := 128) (xc_up_s (mi := xmi_X10_setAt) (cd := xc_X10_setAt) (lo := 112) (n := 16) (xc_up_s (mi := xmi_X10_setAt) (cd := xc_X10_setAt) (lo := 0) (n := 112) xc_up_0 xo_c_X10_setAt_0) xo_c_X10_setAt_112) (by decide +kernel)
set_option maxRecDepth 20000 in
theorem xo_m_X10_stronger : xm_b xmi_X10_stronger (1, 11) (7, 12) (7, 13) = true := by decide +kernel
theorem xo_w_X10_stronger : Cond.code xmi_X10_stronger.2.1 xmi_X10_stronger.2.2.1 xmi_X10_stronger.2.2.2.1 xmi_X10_stronger.2.2.2.2.1 ∈ xG := xw_in2 (K := 7) (i := 14) rfl rfl
set_option maxRecDepth 20000 in
theorem xo_c_X10_stronger_0 : xc_b xmi_X10_stronger xc_X10_stronger 0 80 = true := by decide +kernel
theorem xo_r_X10_stronger : ∀ (pc : Nat) (r : xr_R), xcl xc_X10_stronger pc = some r → xr_b xmi_X10_stronger.1 (xm_ini xmi_X10_stronger) xmi_X10_stronger.2.2.1 pc r = true ∧ xr_c xM xmi_X10_stronger.1 r = true := xc_up_e (mi := xmi_X10_stronger) (cd := xc_X10_stronger) (N := 80) (xc_up_s (mi := xmi_X10_stronger) (cd := xc_X10_stronger) (lo := 0) (n := 80) xc_up_0 xo_c_X10_stronger_0) (by decide +kernel)
set_option maxRecDepth 20000 in
theorem xo_m_X10_turnsOf : xm_b xmi_X10_turnsOf (1, 11) (7, 21) (0, 96) = true := by decide +kernel
theorem xo_w_X10_turnsOf : Cond.code xmi_X10_turnsOf.2.1 xmi_X10_turnsOf.2.2.1 xmi_X10_turnsOf.2.2.2.1 xmi_X10_turnsOf.2.2.2.2.1 ∈ xG := xw_in2 (K := 7) (i := 22) rfl rfl
set_option maxRecDepth 20000 in
theorem xo_c_X10_turnsOf_0 : xc_b xmi_X10_turnsOf xc_X10_turnsOf 0 64 = true := by decide +kernel
theorem xo_r_X10_turnsOf : ∀ (pc : Nat) (r : xr_R), xcl xc_X10_turnsOf pc = some r → xr_b xmi_X10_turnsOf.1 (xm_ini xmi_X10_turnsOf) xmi_X10_turnsOf.2.2.1 pc r = true ∧ xr_c xM xmi_X10_turnsOf.1 r = true := xc_up_e (mi := xmi_X10_turnsOf) (cd := xc_X10_turnsOf) (N := 64) (xc_up_s (mi := xmi_X10_turnsOf) (cd := xc_X10_turnsOf) (lo := 0) (n := 64) xc_up_0 xo_c_X10_turnsOf_0) (by decide +kernel)
set_option maxRecDepth 20000 in
theorem xo_m_X10_turns : xm_b xmi_X10_turns (1, 11) (7, 16) (7, 17) = true := by decide +kernel
theorem xo_w_X10_turns : Cond.code xmi_X10_turns.2.1 xmi_X10_turns.2.2.1 xmi_X10_turns.2.2.2.1 xmi_X10_turns.2.2.2.2.1 ∈ xG := xw_in2 (K := 7) (i := 18) rfl rfl
set_option maxRecDepth 20000 in
theorem xo_c_X10_turns_0 : xc_b xmi_X10_turns xc_X10_turns 0 32 = true := by decide +kernel
theorem xo_r_X10_turns : ∀ (pc : Nat) (r : xr_R), xcl xc_X10_turns pc = some r → xr_b xmi_X10_turns.1 (xm_ini xmi_X10_turns) xmi_X10_turns.2.2.1 pc r = true ∧ xr_c xM xmi_X10_turns.1 r = true := xc_up_e (mi := xmi_X10_turns) (cd := xc_X10_turns) (N := 32) (xc_up_s (mi := xmi_X10_turns) (cd := xc_X10_turns) (lo := 0) (n := 32) xc_up_0 xo_c_X10_turns_0) (by decide +kernel)
set_option maxRecDepth 20000 in
theorem xo_m_X10_lessen : xm_b xmi_X10_lessen (1, 11) (7, 37) (0, 99) = true := by decide +kernel
theorem xo_w_X10_lessen : Cond.code xmi_X10_lessen.2.1 xmi_X10_lessen.2.2.1 xmi_X10_lessen.2.2.2.1 xmi_X10_lessen.2.2.2.2.1 ∈ xG := xw_in2 (K := 7) (i := 38) rfl rfl
set_option maxRecDepth 20000 in
theorem xo_c_X10_lessen_0 : xc_b xmi_X10_lessen xc_X10_lessen 0 80 = true := by decide +kernel
theorem xo_r_X10_lessen : ∀ (pc : Nat) (r : xr_R), xcl xc_X10_lessen pc = some r → xr_b xmi_X10_lessen.1 (xm_ini xmi_X10_lessen) xmi_X10_lessen.2.2.1 pc r = true ∧ xr_c xM xmi_X10_lessen.1 r = true := xc_up_e (mi := xmi_X10_lessen) (cd := xc_X10_lessen) (N := 80) (xc_up_s (mi := xmi_X10_lessen) (cd := xc_X10_lessen) (lo := 0) (n := 80) xc_up_0 xo_c_X10_lessen_0) (by decide +kernel)
set_option maxRecDepth 20000 in
theorem xo_m_X10_orders : xm_b xmi_X10_orders (1, 11) (7, 44) (99, 0) = true := by decide +kernel
theorem xo_w_X10_orders : Cond.code xmi_X10_orders.2.1 xmi_X10_orders.2.2.1 xmi_X10_orders.2.2.2.1 xmi_X10_orders.2.2.2.2.1 ∈ xG := xw_in2 (K := 7) (i := 45) rfl rfl
set_option maxRecDepth 20000 in
theorem xo_c_X10_orders_0 : xc_b xmi_X10_orders xc_X10_orders 0 32 = true := by decide +kernel
theorem xo_r_X10_orders : ∀ (pc : Nat) (r : xr_R), xcl xc_X10_orders pc = some r → xr_b xmi_X10_orders.1 (xm_ini xmi_X10_orders) xmi_X10_orders.2.2.1 pc r = true ∧ xr_c xM xmi_X10_orders.1 r = true := xc_up_e (mi := xmi_X10_orders) (cd := xc_X10_orders) (N := 32) (xc_up_s (mi := xmi_X10_orders) (cd := xc_X10_orders) (lo := 0) (n := 32) xc_up_0 xo_c_X10_orders_0) (by decide +kernel)
set_option maxRecDepth 20000 in
theorem xo_m_X10_shareOfSets : xm_b xmi_X10_shareOfSets (1, 11) (7, 33) (0, 98) = true := by decide +kernel
theorem xo_w_X10_shareOfSets : Cond.code xmi_X10_shareOfSets.2.1 xmi_X10_shareOfSets.2.2.1 xmi_X10_shareOfSets.2.2.2.1 xmi_X10_shareOfSets.2.2.2.2.1 ∈ xG := xw_in2 (K := 7) (i := 34) rfl rfl
set_option maxRecDepth 20000 in
theorem xo_c_X10_shareOfSets_0 : xc_b xmi_X10_shareOfSets xc_X10_shareOfSets 0 64 = true := by decide +kernel
theorem xo_r_X10_shareOfSets : ∀ (pc : Nat) (r : xr_R), xcl xc_X10_shareOfSets pc = some r → xr_b xmi_X10_shareOfSets.1 (xm_ini xmi_X10_shareOfSets) xmi_X10_shareOfSets.2.2.1 pc r = true ∧ xr_c xM xmi_X10_shareOfSets.1 r = true := xc_up_e (mi := xmi_X10_shareOfSets) (cd := xc_X10_shareOfSets) (N := 64) (xc_up_s (mi := xmi_X10_shareOfSets) (cd := xc_X10_shareOfSets) (lo := 0) (n := 64) xc_up_0 xo_c_X10_shareOfSets_0) (by decide +kernel)
set_option maxRecDepth 20000 in
theorem xo_m_X10_shareOfOrders : xm_b xmi_X10_shareOfOrders (1, 11) (7, 41) (0, 100) = true := by decide +kernel
theorem xo_w_X10_shareOfOrders : Cond.code xmi_X10_shareOfOrders.2.1 xmi_X10_shareOfOrders.2.2.1 xmi_X10_shareOfOrders.2.2.2.1 xmi_X10_shareOfOrders.2.2.2.2.1 ∈ xG := xw_in2 (K := 7) (i := 42) rfl rfl
set_option maxRecDepth 20000 in
theorem xo_c_X10_shareOfOrders_0 : xc_b xmi_X10_shareOfOrders xc_X10_shareOfOrders 0 96 = true := by decide +kernel
theorem xo_r_X10_shareOfOrders : ∀ (pc : Nat) (r : xr_R), xcl xc_X10_shareOfOrders pc = some r → xr_b xmi_X10_shareOfOrders.1 (xm_ini xmi_X10_shareOfOrders) xmi_X10_shareOfOrders.2.2.1 pc r = true ∧ xr_c xM xmi_X10_shareOfOrders.1 r = true := xc_up_e (mi := xmi_X10_shareOfOrders) (cd := xc_X10_shareOfOrders) (N := 96) (xc_up_s (mi := xmi_X10_shareOfOrders) (cd := xc_X10_shareOfOrders) (lo := 0) (n := 96) xc_up_0 xo_c_X10_shareOfOrders_0) (by decide +kernel)
set_option maxRecDepth 20000 in
theorem xo_m_X10_shareOfLeast : xm_b xmi_X10_shareOfLeast (1, 11) (7, 48) (0, 101) = true := by decide +kernel
theorem xo_w_X10_shareOfLeast : Cond.code xmi_X10_shareOfLeast.2.1 xmi_X10_shareOfLeast.2.2.1 xmi_X10_shareOfLeast.2.2.2.1 xmi_X10_shareOfLeast.2.2.2.2.1 ∈ xG := xw_in2 (K := 7) (i := 49) rfl rfl
set_option maxRecDepth 20000 in
theorem xo_c_X10_shareOfLeast_0 : xc_b xmi_X10_shareOfLeast xc_X10_shareOfLeast 0 96 = true := by decide +kernel
theorem xo_r_X10_shareOfLeast : ∀ (pc : Nat) (r : xr_R), xcl xc_X10_shareOfLeast pc = some r → xr_b xmi_X10_shareOfLeast.1 (xm_ini xmi_X10_shareOfLeast) xmi_X10_shareOfLeast.2.2.1 pc r = true ∧ xr_c xM xmi_X10_shareOfLeast.1 r = true := xc_up_e (mi := xmi_X10_shareOfLeast) (cd := xc_X10_shareOfLeast) (N := 96) (xc_up_s (mi := xmi_X10_shareOfLeast) (cd := xc_X10_shareOfLeast) (lo := 0) (n := 96) xc_up_0 xo_c_X10_shareOfLeast_0) (by decide +kernel)
set_option maxRecDepth 20000 in
theorem xo_m_X10_share : xm_b xmi_X10_share (1, 11) (7, 24) (7, 25) = true := by decide +kernel
theorem xo_w_X10_share : Cond.code xmi_X10_share.2.1 xmi_X10_share.2.2.1 xmi_X10_share.2.2.2.1 xmi_X10_share.2.2.2.2.1 ∈ xG := xw_in2 (K := 7) (i := 26) rfl rfl
set_option maxRecDepth 20000 in
theorem xo_c_X10_share_0 : xc_b xmi_X10_share xc_X10_share 0 96 = true := by decide +kernel
theorem xo_r_X10_share : ∀ (pc : Nat) (r : xr_R), xcl xc_X10_share pc = some r → xr_b xmi_X10_share.1 (xm_ini xmi_X10_share) xmi_X10_share.2.2.1 pc r = true ∧ xr_c xM xmi_X10_share.1 r = true := xc_up_e (mi := xmi_X10_share) (cd := xc_X10_share) (N := 96) (xc_up_s (mi := xmi_X10_share) (cd := xc_X10_share) (lo := 0) (n := 96) xc_up_0 xo_c_X10_share_0) (by decide +kernel)
set_option maxRecDepth 20000 in
theorem xo_m_X10_power : xm_b xmi_X10_power (1, 11) (7, 57) (99, 0) = true := by decide +kernel
theorem xo_w_X10_power : Cond.code xmi_X10_power.2.1 xmi_X10_power.2.2.1 xmi_X10_power.2.2.2.1 xmi_X10_power.2.2.2.2.1 ∈ xG := xw_in2 (K := 7) (i := 58) rfl rfl
set_option maxRecDepth 20000 in
theorem xo_c_X10_power_0 : xc_b xmi_X10_power xc_X10_power 0 32 = true := by decide +kernel
theorem xo_r_X10_power : ∀ (pc : Nat) (r : xr_R), xcl xc_X10_power pc = some r → xr_b xmi_X10_power.1 (xm_ini xmi_X10_power) xmi_X10_power.2.2.1 pc r = true ∧ xr_c xM xmi_X10_power.1 r = true := xc_up_e (mi := xmi_X10_power) (cd := xc_X10_power) (N := 32) (xc_up_s (mi := xmi_X10_power) (cd := xc_X10_power) (lo := 0) (n := 32) xc_up_0 xo_c_X10_power_0) (by decide +kernel)
set_option maxRecDepth 20000 in
theorem xo_m_X10_chance : xm_b xmi_X10_chance (1, 11) (7, 52) (7, 53) = true := by decide +kernel
theorem xo_w_X10_chance : Cond.code xmi_X10_chance.2.1 xmi_X10_chance.2.2.1 xmi_X10_chance.2.2.2.1 xmi_X10_chance.2.2.2.2.1 ∈ xG := xw_in2 (K := 7) (i := 54) rfl rfl
set_option maxRecDepth 20000 in
theorem xo_c_X10_chance_0 : xc_b xmi_X10_chance xc_X10_chance 0 96 = true := by decide +kernel
theorem xo_r_X10_chance : ∀ (pc : Nat) (r : xr_R), xcl xc_X10_chance pc = some r → xr_b xmi_X10_chance.1 (xm_ini xmi_X10_chance) xmi_X10_chance.2.2.1 pc r = true ∧ xr_c xM xmi_X10_chance.1 r = true := xc_up_e (mi := xmi_X10_chance) (cd := xc_X10_chance) (N := 96) (xc_up_s (mi := xmi_X10_chance) (cd := xc_X10_chance) (lo := 0) (n := 96) xc_up_0 xo_c_X10_chance_0) (by decide +kernel)
set_option maxRecDepth 20000 in
theorem xo_m_X10_ally : xm_b xmi_X10_ally (1, 11) (7, 60) (7, 61) = true := by decide +kernel
theorem xo_w_X10_ally : Cond.code xmi_X10_ally.2.1 xmi_X10_ally.2.2.1 xmi_X10_ally.2.2.2.1 xmi_X10_ally.2.2.2.2.1 ∈ xG := xw_in2 (K := 7) (i := 62) rfl rfl
set_option maxRecDepth 20000 in
theorem xo_c_X10_ally_0 : xc_b xmi_X10_ally xc_X10_ally 0 112 = true := by decide +kernel
set_option maxRecDepth 20000 in
theorem xo_c_X10_ally_112 : xc_b xmi_X10_ally xc_X10_ally 112 48 = true := by decide +kernel
theorem xo_r_X10_ally : ∀ (pc : Nat) (r : xr_R), xcl xc_X10_ally pc = some r → xr_b xmi_X10_ally.1 (xm_ini xmi_X10_ally) xmi_X10_ally.2.2.1 pc r = true ∧ xr_c xM xmi_X10_ally.1 r = true := xc_up_e (mi := xmi_X10_ally) (cd := xc_X10_ally) (N := 160) (xc_up_s (mi := xmi_X10_ally) (cd := xc_X10_ally) (lo := 112) (n := 48) (xc_up_s (mi := xmi_X10_ally) (cd := xc_X10_ally) (lo := 0) (n := 112) xc_up_0 xo_c_X10_ally_0) xo_c_X10_ally_112) (by decide +kernel)
end XCK7
