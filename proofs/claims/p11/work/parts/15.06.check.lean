section XCK6
set_option maxRecDepth 20000 in
theorem xo_m_X10_spelt : xm_b xmi_X10_spelt (1, 11) (6, 94) (99, 0) = true := by decide +kernel
theorem xo_w_X10_spelt : Cond.code xmi_X10_spelt.2.1 xmi_X10_spelt.2.2.1 xmi_X10_spelt.2.2.2.1 xmi_X10_spelt.2.2.2.2.1 ∈ xG := xw_in2 (K := 6) (i := 95) rfl rfl
set_option maxRecDepth 20000 in
theorem xo_c_X10_spelt_0 : xc_b xmi_X10_spelt xc_X10_spelt 0 96 = true := by decide +kernel
theorem xo_r_X10_spelt : ∀ (pc : Nat) (r : xr_R), xcl xc_X10_spelt pc = some r → xr_b xmi_X10_spelt.1 (xm_ini xmi_X10_spelt) xmi_X10_spelt.2.2.1 pc r = true ∧ xr_c xM xmi_X10_spelt.1 r = true := xc_up_e (mi := xmi_X10_spelt) (cd := xc_X10_spelt) (N := 96) (xc_up_s (mi := xmi_X10_spelt) (cd := xc_X10_spelt) (lo := 0) (n := 96) xc_up_0 xo_c_X10_spelt_0) (by decide +kernel)
set_option maxRecDepth 20000 in
theorem xo_m_X10_isKey : xm_b xmi_X10_isKey (1, 11) (6, 98) (0, 62) = true := by decide +kernel
theorem xo_w_X10_isKey : Cond.code xmi_X10_isKey.2.1 xmi_X10_isKey.2.2.1 xmi_X10_isKey.2.2.2.1 xmi_X10_isKey.2.2.2.2.1 ∈ xG := xw_in2 (K := 6) (i := 99) rfl rfl
set_option maxRecDepth 20000 in
theorem xo_c_X10_isKey_0 : xc_b xmi_X10_isKey xc_X10_isKey 0 32 = true := by decide +kernel
theorem xo_r_X10_isKey : ∀ (pc : Nat) (r : xr_R), xcl xc_X10_isKey pc = some r → xr_b xmi_X10_isKey.1 (xm_ini xmi_X10_isKey) xmi_X10_isKey.2.2.1 pc r = true ∧ xr_c xM xmi_X10_isKey.1 r = true := xc_up_e (mi := xmi_X10_isKey) (cd := xc_X10_isKey) (N := 32) (xc_up_s (mi := xmi_X10_isKey) (cd := xc_X10_isKey) (lo := 0) (n := 32) xc_up_0 xo_c_X10_isKey_0) (by decide +kernel)
set_option maxRecDepth 20000 in
theorem xo_m_X10_isBody : xm_b xmi_X10_isBody (1, 11) (6, 91) (0, 61) = true := by decide +kernel
theorem xo_w_X10_isBody : Cond.code xmi_X10_isBody.2.1 xmi_X10_isBody.2.2.1 xmi_X10_isBody.2.2.2.1 xmi_X10_isBody.2.2.2.2.1 ∈ xG := xw_in2 (K := 6) (i := 92) rfl rfl
set_option maxRecDepth 20000 in
theorem xo_c_X10_isBody_0 : xc_b xmi_X10_isBody xc_X10_isBody 0 32 = true := by decide +kernel
theorem xo_r_X10_isBody : ∀ (pc : Nat) (r : xr_R), xcl xc_X10_isBody pc = some r → xr_b xmi_X10_isBody.1 (xm_ini xmi_X10_isBody) xmi_X10_isBody.2.2.1 pc r = true ∧ xr_c xM xmi_X10_isBody.1 r = true := xc_up_e (mi := xmi_X10_isBody) (cd := xc_X10_isBody) (N := 32) (xc_up_s (mi := xmi_X10_isBody) (cd := xc_X10_isBody) (lo := 0) (n := 32) xc_up_0 xo_c_X10_isBody_0) (by decide +kernel)
set_option maxRecDepth 20000 in
theorem xo_m_X10_isCarry : xm_b xmi_X10_isCarry (1, 11) (6, 110) (0, 65) = true := by decide +kernel
theorem xo_w_X10_isCarry : Cond.code xmi_X10_isCarry.2.1 xmi_X10_isCarry.2.2.1 xmi_X10_isCarry.2.2.2.1 xmi_X10_isCarry.2.2.2.2.1 ∈ xG := xw_in2 (K := 6) (i := 111) rfl rfl
set_option maxRecDepth 20000 in
theorem xo_c_X10_isCarry_0 : xc_b xmi_X10_isCarry xc_X10_isCarry 0 32 = true := by decide +kernel
theorem xo_r_X10_isCarry : ∀ (pc : Nat) (r : xr_R), xcl xc_X10_isCarry pc = some r → xr_b xmi_X10_isCarry.1 (xm_ini xmi_X10_isCarry) xmi_X10_isCarry.2.2.1 pc r = true ∧ xr_c xM xmi_X10_isCarry.1 r = true := xc_up_e (mi := xmi_X10_isCarry) (cd := xc_X10_isCarry) (N := 32) (xc_up_s (mi := xmi_X10_isCarry) (cd := xc_X10_isCarry) (lo := 0) (n := 32) xc_up_0 xo_c_X10_isCarry_0) (by decide +kernel)
set_option maxRecDepth 20000 in
theorem xo_m_X10_isAnd : xm_b xmi_X10_isAnd (1, 11) (6, 114) (0, 66) = true := by decide +kernel
theorem xo_w_X10_isAnd : Cond.code xmi_X10_isAnd.2.1 xmi_X10_isAnd.2.2.1 xmi_X10_isAnd.2.2.2.1 xmi_X10_isAnd.2.2.2.2.1 ∈ xG := xw_in2 (K := 6) (i := 115) rfl rfl
set_option maxRecDepth 20000 in
theorem xo_c_X10_isAnd_0 : xc_b xmi_X10_isAnd xc_X10_isAnd 0 16 = true := by decide +kernel
theorem xo_r_X10_isAnd : ∀ (pc : Nat) (r : xr_R), xcl xc_X10_isAnd pc = some r → xr_b xmi_X10_isAnd.1 (xm_ini xmi_X10_isAnd) xmi_X10_isAnd.2.2.1 pc r = true ∧ xr_c xM xmi_X10_isAnd.1 r = true := xc_up_e (mi := xmi_X10_isAnd) (cd := xc_X10_isAnd) (N := 16) (xc_up_s (mi := xmi_X10_isAnd) (cd := xc_X10_isAnd) (lo := 0) (n := 16) xc_up_0 xo_c_X10_isAnd_0) (by decide +kernel)
set_option maxRecDepth 20000 in
theorem xo_m_X10_isOr : xm_b xmi_X10_isOr (1, 11) (6, 118) (0, 67) = true := by decide +kernel
theorem xo_w_X10_isOr : Cond.code xmi_X10_isOr.2.1 xmi_X10_isOr.2.2.1 xmi_X10_isOr.2.2.2.1 xmi_X10_isOr.2.2.2.2.1 ∈ xG := xw_in2 (K := 6) (i := 119) rfl rfl
set_option maxRecDepth 20000 in
theorem xo_c_X10_isOr_0 : xc_b xmi_X10_isOr xc_X10_isOr 0 16 = true := by decide +kernel
theorem xo_r_X10_isOr : ∀ (pc : Nat) (r : xr_R), xcl xc_X10_isOr pc = some r → xr_b xmi_X10_isOr.1 (xm_ini xmi_X10_isOr) xmi_X10_isOr.2.2.1 pc r = true ∧ xr_c xM xmi_X10_isOr.1 r = true := xc_up_e (mi := xmi_X10_isOr) (cd := xc_X10_isOr) (N := 16) (xc_up_s (mi := xmi_X10_isOr) (cd := xc_X10_isOr) (lo := 0) (n := 16) xc_up_0 xo_c_X10_isOr_0) (by decide +kernel)
set_option maxRecDepth 20000 in
theorem xo_m_X10_isOf : xm_b xmi_X10_isOf (1, 11) (6, 122) (0, 68) = true := by decide +kernel
theorem xo_w_X10_isOf : Cond.code xmi_X10_isOf.2.1 xmi_X10_isOf.2.2.1 xmi_X10_isOf.2.2.2.1 xmi_X10_isOf.2.2.2.2.1 ∈ xG := xw_in2 (K := 6) (i := 123) rfl rfl
set_option maxRecDepth 20000 in
theorem xo_c_X10_isOf_0 : xc_b xmi_X10_isOf xc_X10_isOf 0 16 = true := by decide +kernel
theorem xo_r_X10_isOf : ∀ (pc : Nat) (r : xr_R), xcl xc_X10_isOf pc = some r → xr_b xmi_X10_isOf.1 (xm_ini xmi_X10_isOf) xmi_X10_isOf.2.2.1 pc r = true ∧ xr_c xM xmi_X10_isOf.1 r = true := xc_up_e (mi := xmi_X10_isOf) (cd := xc_X10_isOf) (N := 16) (xc_up_s (mi := xmi_X10_isOf) (cd := xc_X10_isOf) (lo := 0) (n := 16) xc_up_0 xo_c_X10_isOf_0) (by decide +kernel)
set_option maxRecDepth 20000 in
theorem xo_m_X10_isName : xm_b xmi_X10_isName (1, 11) (6, 106) (0, 64) = true := by decide +kernel
theorem xo_w_X10_isName : Cond.code xmi_X10_isName.2.1 xmi_X10_isName.2.2.1 xmi_X10_isName.2.2.2.1 xmi_X10_isName.2.2.2.2.1 ∈ xG := xw_in2 (K := 6) (i := 107) rfl rfl
set_option maxRecDepth 20000 in
theorem xo_c_X10_isName_0 : xc_b xmi_X10_isName xc_X10_isName 0 64 = true := by decide +kernel
theorem xo_r_X10_isName : ∀ (pc : Nat) (r : xr_R), xcl xc_X10_isName pc = some r → xr_b xmi_X10_isName.1 (xm_ini xmi_X10_isName) xmi_X10_isName.2.2.1 pc r = true ∧ xr_c xM xmi_X10_isName.1 r = true := xc_up_e (mi := xmi_X10_isName) (cd := xc_X10_isName) (N := 64) (xc_up_s (mi := xmi_X10_isName) (cd := xc_X10_isName) (lo := 0) (n := 64) xc_up_0 xo_c_X10_isName_0) (by decide +kernel)
set_option maxRecDepth 20000 in
theorem xo_m_X10_isSign : xm_b xmi_X10_isSign (1, 11) (6, 134) (0, 71) = true := by decide +kernel
theorem xo_w_X10_isSign : Cond.code xmi_X10_isSign.2.1 xmi_X10_isSign.2.2.1 xmi_X10_isSign.2.2.2.1 xmi_X10_isSign.2.2.2.2.1 ∈ xG := xw_in2 (K := 6) (i := 135) rfl rfl
set_option maxRecDepth 20000 in
theorem xo_c_X10_isSign_0 : xc_b xmi_X10_isSign xc_X10_isSign 0 32 = true := by decide +kernel
theorem xo_r_X10_isSign : ∀ (pc : Nat) (r : xr_R), xcl xc_X10_isSign pc = some r → xr_b xmi_X10_isSign.1 (xm_ini xmi_X10_isSign) xmi_X10_isSign.2.2.1 pc r = true ∧ xr_c xM xmi_X10_isSign.1 r = true := xc_up_e (mi := xmi_X10_isSign) (cd := xc_X10_isSign) (N := 32) (xc_up_s (mi := xmi_X10_isSign) (cd := xc_X10_isSign) (lo := 0) (n := 32) xc_up_0 xo_c_X10_isSign_0) (by decide +kernel)
set_option maxRecDepth 20000 in
theorem xo_m_X10_bad : xm_b xmi_X10_bad (1, 11) (6, 126) (0, 69) = true := by decide +kernel
theorem xo_w_X10_bad : Cond.code xmi_X10_bad.2.1 xmi_X10_bad.2.2.1 xmi_X10_bad.2.2.2.1 xmi_X10_bad.2.2.2.2.1 ∈ xG := xw_in2 (K := 6) (i := 127) rfl rfl
set_option maxRecDepth 20000 in
theorem xo_c_X10_bad_0 : xc_b xmi_X10_bad xc_X10_bad 0 32 = true := by decide +kernel
theorem xo_r_X10_bad : ∀ (pc : Nat) (r : xr_R), xcl xc_X10_bad pc = some r → xr_b xmi_X10_bad.1 (xm_ini xmi_X10_bad) xmi_X10_bad.2.2.1 pc r = true ∧ xr_c xM xmi_X10_bad.1 r = true := xc_up_e (mi := xmi_X10_bad) (cd := xc_X10_bad) (N := 32) (xc_up_s (mi := xmi_X10_bad) (cd := xc_X10_bad) (lo := 0) (n := 32) xc_up_0 xo_c_X10_bad_0) (by decide +kernel)
set_option maxRecDepth 20000 in
theorem xo_m_X10_badAt : xm_b xmi_X10_badAt (1, 11) (6, 170) (0, 80) = true := by decide +kernel
theorem xo_w_X10_badAt : Cond.code xmi_X10_badAt.2.1 xmi_X10_badAt.2.2.1 xmi_X10_badAt.2.2.2.1 xmi_X10_badAt.2.2.2.2.1 ∈ xG := xw_in2 (K := 6) (i := 171) rfl rfl
set_option maxRecDepth 20000 in
theorem xo_c_X10_badAt_0 : xc_b xmi_X10_badAt xc_X10_badAt 0 16 = true := by decide +kernel
theorem xo_r_X10_badAt : ∀ (pc : Nat) (r : xr_R), xcl xc_X10_badAt pc = some r → xr_b xmi_X10_badAt.1 (xm_ini xmi_X10_badAt) xmi_X10_badAt.2.2.1 pc r = true ∧ xr_c xM xmi_X10_badAt.1 r = true := xc_up_e (mi := xmi_X10_badAt) (cd := xc_X10_badAt) (N := 16) (xc_up_s (mi := xmi_X10_badAt) (cd := xc_X10_badAt) (lo := 0) (n := 16) xc_up_0 xo_c_X10_badAt_0) (by decide +kernel)
set_option maxRecDepth 20000 in
theorem xo_m_X10_openRule : xm_b xmi_X10_openRule (1, 11) (6, 142) (0, 73) = true := by decide +kernel
theorem xo_w_X10_openRule : Cond.code xmi_X10_openRule.2.1 xmi_X10_openRule.2.2.1 xmi_X10_openRule.2.2.2.1 xmi_X10_openRule.2.2.2.2.1 ∈ xG := xw_in2 (K := 6) (i := 143) rfl rfl
set_option maxRecDepth 20000 in
theorem xo_c_X10_openRule_0 : xc_b xmi_X10_openRule xc_X10_openRule 0 80 = true := by decide +kernel
theorem xo_r_X10_openRule : ∀ (pc : Nat) (r : xr_R), xcl xc_X10_openRule pc = some r → xr_b xmi_X10_openRule.1 (xm_ini xmi_X10_openRule) xmi_X10_openRule.2.2.1 pc r = true ∧ xr_c xM xmi_X10_openRule.1 r = true := xc_up_e (mi := xmi_X10_openRule) (cd := xc_X10_openRule) (N := 80) (xc_up_s (mi := xmi_X10_openRule) (cd := xc_X10_openRule) (lo := 0) (n := 80) xc_up_0 xo_c_X10_openRule_0) (by decide +kernel)
set_option maxRecDepth 20000 in
theorem xo_m_X10_openList : xm_b xmi_X10_openList (1, 11) (6, 166) (0, 79) = true := by decide +kernel
theorem xo_w_X10_openList : Cond.code xmi_X10_openList.2.1 xmi_X10_openList.2.2.1 xmi_X10_openList.2.2.2.1 xmi_X10_openList.2.2.2.2.1 ∈ xG := xw_in2 (K := 6) (i := 167) rfl rfl
set_option maxRecDepth 20000 in
theorem xo_c_X10_openList_0 : xc_b xmi_X10_openList xc_X10_openList 0 80 = true := by decide +kernel
theorem xo_r_X10_openList : ∀ (pc : Nat) (r : xr_R), xcl xc_X10_openList pc = some r → xr_b xmi_X10_openList.1 (xm_ini xmi_X10_openList) xmi_X10_openList.2.2.1 pc r = true ∧ xr_c xM xmi_X10_openList.1 r = true := xc_up_e (mi := xmi_X10_openList) (cd := xc_X10_openList) (N := 80) (xc_up_s (mi := xmi_X10_openList) (cd := xc_X10_openList) (lo := 0) (n := 80) xc_up_0 xo_c_X10_openList_0) (by decide +kernel)
set_option maxRecDepth 20000 in
theorem xo_m_X10_begin : xm_b xmi_X10_begin (1, 11) (6, 146) (0, 74) = true := by decide +kernel
theorem xo_w_X10_begin : Cond.code xmi_X10_begin.2.1 xmi_X10_begin.2.2.1 xmi_X10_begin.2.2.2.1 xmi_X10_begin.2.2.2.2.1 ∈ xG := xw_in2 (K := 6) (i := 147) rfl rfl
set_option maxRecDepth 20000 in
theorem xo_c_X10_begin_0 : xc_b xmi_X10_begin xc_X10_begin 0 32 = true := by decide +kernel
theorem xo_r_X10_begin : ∀ (pc : Nat) (r : xr_R), xcl xc_X10_begin pc = some r → xr_b xmi_X10_begin.1 (xm_ini xmi_X10_begin) xmi_X10_begin.2.2.1 pc r = true ∧ xr_c xM xmi_X10_begin.1 r = true := xc_up_e (mi := xmi_X10_begin) (cd := xc_X10_begin) (N := 32) (xc_up_s (mi := xmi_X10_begin) (cd := xc_X10_begin) (lo := 0) (n := 32) xc_up_0 xo_c_X10_begin_0) (by decide +kernel)
set_option maxRecDepth 20000 in
theorem xo_m_X10_beginItem : xm_b xmi_X10_beginItem (1, 11) (6, 150) (0, 75) = true := by decide +kernel
theorem xo_w_X10_beginItem : Cond.code xmi_X10_beginItem.2.1 xmi_X10_beginItem.2.2.1 xmi_X10_beginItem.2.2.2.1 xmi_X10_beginItem.2.2.2.2.1 ∈ xG := xw_in2 (K := 6) (i := 151) rfl rfl
set_option maxRecDepth 20000 in
theorem xo_c_X10_beginItem_0 : xc_b xmi_X10_beginItem xc_X10_beginItem 0 112 = true := by decide +kernel
theorem xo_r_X10_beginItem : ∀ (pc : Nat) (r : xr_R), xcl xc_X10_beginItem pc = some r → xr_b xmi_X10_beginItem.1 (xm_ini xmi_X10_beginItem) xmi_X10_beginItem.2.2.1 pc r = true ∧ xr_c xM xmi_X10_beginItem.1 r = true := xc_up_e (mi := xmi_X10_beginItem) (cd := xc_X10_beginItem) (N := 112) (xc_up_s (mi := xmi_X10_beginItem) (cd := xc_X10_beginItem) (lo := 0) (n := 112) xc_up_0 xo_c_X10_beginItem_0) (by decide +kernel)
set_option maxRecDepth 20000 in
theorem xo_m_X10_beginList : xm_b xmi_X10_beginList (1, 11) (6, 162) (0, 78) = true := by decide +kernel
theorem xo_w_X10_beginList : Cond.code xmi_X10_beginList.2.1 xmi_X10_beginList.2.2.1 xmi_X10_beginList.2.2.2.1 xmi_X10_beginList.2.2.2.2.1 ∈ xG := xw_in2 (K := 6) (i := 163) rfl rfl
set_option maxRecDepth 20000 in
theorem xo_c_X10_beginList_0 : xc_b xmi_X10_beginList xc_X10_beginList 0 64 = true := by decide +kernel
theorem xo_r_X10_beginList : ∀ (pc : Nat) (r : xr_R), xcl xc_X10_beginList pc = some r → xr_b xmi_X10_beginList.1 (xm_ini xmi_X10_beginList) xmi_X10_beginList.2.2.1 pc r = true ∧ xr_c xM xmi_X10_beginList.1 r = true := xc_up_e (mi := xmi_X10_beginList) (cd := xc_X10_beginList) (N := 64) (xc_up_s (mi := xmi_X10_beginList) (cd := xc_X10_beginList) (lo := 0) (n := 64) xc_up_0 xo_c_X10_beginList_0) (by decide +kernel)
set_option maxRecDepth 20000 in
theorem xo_m_X10_nameAtHand : xm_b xmi_X10_nameAtHand (1, 11) (6, 130) (0, 70) = true := by decide +kernel
theorem xo_w_X10_nameAtHand : Cond.code xmi_X10_nameAtHand.2.1 xmi_X10_nameAtHand.2.2.1 xmi_X10_nameAtHand.2.2.2.1 xmi_X10_nameAtHand.2.2.2.2.1 ∈ xG := xw_in2 (K := 6) (i := 131) rfl rfl
set_option maxRecDepth 20000 in
theorem xo_c_X10_nameAtHand_0 : xc_b xmi_X10_nameAtHand xc_X10_nameAtHand 0 48 = true := by decide +kernel
theorem xo_r_X10_nameAtHand : ∀ (pc : Nat) (r : xr_R), xcl xc_X10_nameAtHand pc = some r → xr_b xmi_X10_nameAtHand.1 (xm_ini xmi_X10_nameAtHand) xmi_X10_nameAtHand.2.2.1 pc r = true ∧ xr_c xM xmi_X10_nameAtHand.1 r = true := xc_up_e (mi := xmi_X10_nameAtHand) (cd := xc_X10_nameAtHand) (N := 48) (xc_up_s (mi := xmi_X10_nameAtHand) (cd := xc_X10_nameAtHand) (lo := 0) (n := 48) xc_up_0 xo_c_X10_nameAtHand_0) (by decide +kernel)
set_option maxRecDepth 20000 in
theorem xo_m_X10_beginOne : xm_b xmi_X10_beginOne (1, 11) (6, 154) (0, 76) = true := by decide +kernel
theorem xo_w_X10_beginOne : Cond.code xmi_X10_beginOne.2.1 xmi_X10_beginOne.2.2.1 xmi_X10_beginOne.2.2.2.1 xmi_X10_beginOne.2.2.2.2.1 ∈ xG := xw_in2 (K := 6) (i := 155) rfl rfl
set_option maxRecDepth 20000 in
theorem xo_c_X10_beginOne_0 : xc_b xmi_X10_beginOne xc_X10_beginOne 0 112 = true := by decide +kernel
set_option maxRecDepth 20000 in
theorem xo_c_X10_beginOne_112 : xc_b xmi_X10_beginOne xc_X10_beginOne 112 112 = true := by decide +kernel
set_option maxRecDepth 20000 in
theorem xo_c_X10_beginOne_224 : xc_b xmi_X10_beginOne xc_X10_beginOne 224 80 = true := by decide +kernel
theorem xo_r_X10_beginOne : ∀ (pc : Nat) (r : xr_R), xcl xc_X10_beginOne pc = some r → xr_b xmi_X10_beginOne.1 (xm_ini xmi_X10_beginOne) xmi_X10_beginOne.2.2.1 pc r = true ∧ xr_c xM xmi_X10_beginOne.1 r = true := xc_up_e (mi := xmi_X10_beginOne) (cd := xc_X10_beginOne) (N := 304) (xc_up_s (mi := xmi_X10_beginOne) (cd := xc_X10_beginOne) (lo := 224) (n := 80) (xc_up_s (mi := xmi_X10_beginOne) (cd := xc_X10_beginOne) (lo := 112) (n := 112) (xc_up_s (mi := xmi_X10_beginOne) (cd := xc_X10_beginOne) (lo := 0) (n := 112) xc_up_0 xo_c_X10_beginOne_0) xo_c_X10_beginOne_112) xo_c_X10_beginOne_224) (by decide +kernel)
set_option maxRecDepth 20000 in
theorem xo_m_X10_end_ : xm_b xmi_X10_end_ (1, 11) (6, 174) (0, 81) = true := by decide +kernel
theorem xo_w_X10_end_ : Cond.code xmi_X10_end_.2.1 xmi_X10_end_.2.2.1 xmi_X10_end_.2.2.2.1 xmi_X10_end_.2.2.2.2.1 ∈ xG := xw_in2 (K := 6) (i := 175) rfl rfl
set_option maxRecDepth 20000 in
theorem xo_c_X10_end__0 : xc_b xmi_X10_end_ xc_X10_end_ 0 48 = true := by decide +kernel
set_option maxRecDepth 20000 in
theorem xo_c_X10_end__48 : xc_b xmi_X10_end_ xc_X10_end_ 48 48 = true := by decide +kernel
set_option maxRecDepth 20000 in
theorem xo_c_X10_end__96 : xc_b xmi_X10_end_ xc_X10_end_ 96 48 = true := by decide +kernel
set_option maxRecDepth 20000 in
theorem xo_c_X10_end__144 : xc_b xmi_X10_end_ xc_X10_end_ 144 48 = true := by decide +kernel
set_option maxRecDepth 20000 in
theorem xo_c_X10_end__192 : xc_b xmi_X10_end_ xc_X10_end_ 192 48 = true := by decide +kernel
set_option maxRecDepth 20000 in
theorem xo_c_X10_end__240 : xc_b xmi_X10_end_ xc_X10_end_ 240 48 = true := by decide +kernel
set_option maxRecDepth 20000 in
theorem xo_c_X10_end__288 : xc_b xmi_X10_end_ xc_X10_end_ 288 48 = true := by decide +kernel
set_option maxRecDepth 20000 in
theorem xo_c_X10_end__336 : xc_b xmi_X10_end_ xc_X10_end_ 336 48 = true := by decide +kernel
set_option maxRecDepth 20000 in
theorem xo_c_X10_end__384 : xc_b xmi_X10_end_ xc_X10_end_ 384 16 = true := by decide +kernel
theorem xo_r_X10_end_ : ∀ (pc : Nat) (r : xr_R), xcl xc_X10_end_ pc = some r → xr_b xmi_X10_end_.1 (xm_ini xmi_X10_end_) xmi_X10_end_.2.2.1 pc r = true ∧ xr_c xM xmi_X10_end_.1 r = true := xc_up_e (mi := xmi_X10_end_) (cd := xc_X10_end_) (N := 400) (xc_up_s (mi := xmi_X10_end_) (cd := xc_X10_end_) (lo := 384) (n := 16) (xc_up_s (mi := xmi_X10_end_) (cd := xc_X10_end_) (lo := 336) (n := 48) (xc_up_s (mi := xmi_X10_end_) (cd := xc_X10_end_) (lo := 288) (n := 48) (xc_up_s (mi := xmi_X10_end_) (cd := xc_X10_end_) (lo := 240) (n := 48) (xc_up_s (mi := xmi_X10_end_) (cd := xc_X10_end_) (lo := 192) (n := 48) (xc_up_s (mi := xmi_X10_end_) (cd := xc_X10_end_) (lo := 144) (n := 48) (xc_up_s (mi := xmi_X10_end_) (cd := xc_X10_end_) (lo := 96) (n := 48) (xc_up_s (mi := xmi_X10_end_) (cd := xc_X10_end_) (lo := 48) (n := 48) (xc_up_s (mi := xmi_X10_end_) (cd := xc_X10_end_) (lo := 0) (n := 48) xc_up_0 xo_c_X10_end__0) xo_c_X10_end__48) xo_c_X10_end__96) xo_c_X10_end__144) xo_c_X10_end__192) xo_c_X10_end__240) xo_c_X10_end__288) xo_c_X10_end__336) xo_c_X10_end__384) (by decide +kernel)
set_option maxRecDepth 20000 in
theorem xo_m_X10_readRule : xm_b xmi_X10_readRule (1, 11) (6, 138) (0, 72) = true := by decide +kernel
theorem xo_w_X10_readRule : Cond.code xmi_X10_readRule.2.1 xmi_X10_readRule.2.2.1 xmi_X10_readRule.2.2.2.1 xmi_X10_readRule.2.2.2.2.1 ∈ xG := xw_in2 (K := 6) (i := 139) rfl rfl
set_option maxRecDepth 20000 in
theorem xo_c_X10_readRule_0 : xc_b xmi_X10_readRule xc_X10_readRule 0 64 = true := by decide +kernel
theorem xo_r_X10_readRule : ∀ (pc : Nat) (r : xr_R), xcl xc_X10_readRule pc = some r → xr_b xmi_X10_readRule.1 (xm_ini xmi_X10_readRule) xmi_X10_readRule.2.2.1 pc r = true ∧ xr_c xM xmi_X10_readRule.1 r = true := xc_up_e (mi := xmi_X10_readRule) (cd := xc_X10_readRule) (N := 64) (xc_up_s (mi := xmi_X10_readRule) (cd := xc_X10_readRule) (lo := 0) (n := 64) xc_up_0 xo_c_X10_readRule_0) (by decide +kernel)
set_option maxRecDepth 20000 in
theorem xo_m_X10_readBody : xm_b xmi_X10_readBody (1, 11) (6, 102) (0, 63) = true := by decide +kernel
theorem xo_w_X10_readBody : Cond.code xmi_X10_readBody.2.1 xmi_X10_readBody.2.2.1 xmi_X10_readBody.2.2.2.1 xmi_X10_readBody.2.2.2.2.1 ∈ xG := xw_in2 (K := 6) (i := 103) rfl rfl
set_option maxRecDepth 20000 in
theorem xo_c_X10_readBody_0 : xc_b xmi_X10_readBody xc_X10_readBody 0 112 = true := by decide +kernel
set_option maxRecDepth 20000 in
theorem xo_c_X10_readBody_112 : xc_b xmi_X10_readBody xc_X10_readBody 112 32 = true := by decide +kernel
theorem xo_r_X10_readBody : ∀ (pc : Nat) (r : xr_R), xcl xc_X10_readBody pc = some r → xr_b xmi_X10_readBody.1 (xm_ini xmi_X10_readBody) xmi_X10_readBody.2.2.1 pc r = true ∧ xr_c xM xmi_X10_readBody.1 r = true := xc_up_e (mi := xmi_X10_readBody) (cd := xc_X10_readBody) (N := 144) (xc_up_s (mi := xmi_X10_readBody) (cd := xc_X10_readBody) (lo := 112) (n := 32) (xc_up_s (mi := xmi_X10_readBody) (cd := xc_X10_readBody) (lo := 0) (n := 112) xc_up_0 xo_c_X10_readBody_0) xo_c_X10_readBody_112) (by decide +kernel)
set_option maxRecDepth 20000 in
theorem xo_m_X10_statute : xm_b xmi_X10_statute (1, 11) (6, 63) (6, 64) = true := by decide +kernel
theorem xo_w_X10_statute : Cond.code xmi_X10_statute.2.1 xmi_X10_statute.2.2.1 xmi_X10_statute.2.2.2.1 xmi_X10_statute.2.2.2.2.1 ∈ xG := xw_in2 (K := 6) (i := 65) rfl rfl
set_option maxRecDepth 20000 in
theorem xo_c_X10_statute_0 : xc_b xmi_X10_statute xc_X10_statute 0 112 = true := by decide +kernel
set_option maxRecDepth 20000 in
theorem xo_c_X10_statute_112 : xc_b xmi_X10_statute xc_X10_statute 112 112 = true := by decide +kernel
theorem xo_r_X10_statute : ∀ (pc : Nat) (r : xr_R), xcl xc_X10_statute pc = some r → xr_b xmi_X10_statute.1 (xm_ini xmi_X10_statute) xmi_X10_statute.2.2.1 pc r = true ∧ xr_c xM xmi_X10_statute.1 r = true := xc_up_e (mi := xmi_X10_statute) (cd := xc_X10_statute) (N := 224) (xc_up_s (mi := xmi_X10_statute) (cd := xc_X10_statute) (lo := 112) (n := 112) (xc_up_s (mi := xmi_X10_statute) (cd := xc_X10_statute) (lo := 0) (n := 112) xc_up_0 xo_c_X10_statute_0) xo_c_X10_statute_112) (by decide +kernel)
set_option maxRecDepth 20000 in
theorem xo_m_X10_fault : xm_b xmi_X10_fault (1, 11) (6, 177) (6, 178) = true := by decide +kernel
theorem xo_w_X10_fault : Cond.code xmi_X10_fault.2.1 xmi_X10_fault.2.2.1 xmi_X10_fault.2.2.2.1 xmi_X10_fault.2.2.2.2.1 ∈ xG := xw_in2 (K := 6) (i := 179) rfl rfl
set_option maxRecDepth 20000 in
theorem xo_c_X10_fault_0 : xc_b xmi_X10_fault xc_X10_fault 0 16 = true := by decide +kernel
theorem xo_r_X10_fault : ∀ (pc : Nat) (r : xr_R), xcl xc_X10_fault pc = some r → xr_b xmi_X10_fault.1 (xm_ini xmi_X10_fault) xmi_X10_fault.2.2.1 pc r = true ∧ xr_c xM xmi_X10_fault.1 r = true := xc_up_e (mi := xmi_X10_fault) (cd := xc_X10_fault) (N := 16) (xc_up_s (mi := xmi_X10_fault) (cd := xc_X10_fault) (lo := 0) (n := 16) xc_up_0 xo_c_X10_fault_0) (by decide +kernel)
end XCK6
