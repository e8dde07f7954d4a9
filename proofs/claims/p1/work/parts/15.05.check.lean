section XCK5
set_option maxRecDepth 20000 in
theorem xo_m_X10_feed : xm_b xmi_X10_feed (6, 46) (1, 11) (6, 44) (6, 45) = true := by decide +kernel
set_option maxRecDepth 20000 in
theorem xo_c_X10_feed_0 : xc_b xmi_X10_feed xc_X10_feed 0 64 = true := by decide +kernel
theorem xo_r_X10_feed : ∀ (pc : Nat) (r : xr_R), xcl xc_X10_feed pc = some r → xr_b xmi_X10_feed.1 (xm_ini xmi_X10_feed) xmi_X10_feed.2.2.1 pc r = true ∧ xr_c xM xmi_X10_feed.1 r = true := xc_up_e (mi := xmi_X10_feed) (cd := xc_X10_feed) (N := 64) (xc_up_s (mi := xmi_X10_feed) (cd := xc_X10_feed) (lo := 0) (n := 64) xc_up_0 xo_c_X10_feed_0) (by decide +kernel)
set_option maxRecDepth 20000 in
theorem xo_m_X10_end : xm_b xmi_X10_end (6, 54) (1, 11) (6, 52) (6, 53) = true := by decide +kernel
set_option maxRecDepth 20000 in
theorem xo_c_X10_end_0 : xc_b xmi_X10_end xc_X10_end 0 32 = true := by decide +kernel
theorem xo_r_X10_end : ∀ (pc : Nat) (r : xr_R), xcl xc_X10_end pc = some r → xr_b xmi_X10_end.1 (xm_ini xmi_X10_end) xmi_X10_end.2.2.1 pc r = true ∧ xr_c xM xmi_X10_end.1 r = true := xc_up_e (mi := xmi_X10_end) (cd := xc_X10_end) (N := 32) (xc_up_s (mi := xmi_X10_end) (cd := xc_X10_end) (lo := 0) (n := 32) xc_up_0 xo_c_X10_end_0) (by decide +kernel)
set_option maxRecDepth 20000 in
theorem xo_m_X10_take : xm_b xmi_X10_take (6, 73) (1, 11) (6, 72) (0, 58) = true := by decide +kernel
set_option maxRecDepth 20000 in
theorem xo_c_X10_take_0 : xc_b xmi_X10_take xc_X10_take 0 16 = true := by decide +kernel
theorem xo_r_X10_take : ∀ (pc : Nat) (r : xr_R), xcl xc_X10_take pc = some r → xr_b xmi_X10_take.1 (xm_ini xmi_X10_take) xmi_X10_take.2.2.1 pc r = true ∧ xr_c xM xmi_X10_take.1 r = true := xc_up_e (mi := xmi_X10_take) (cd := xc_X10_take) (N := 16) (xc_up_s (mi := xmi_X10_take) (cd := xc_X10_take) (lo := 0) (n := 16) xc_up_0 xo_c_X10_take_0) (by decide +kernel)
set_option maxRecDepth 20000 in
theorem xo_m_X10_isIn : xm_b xmi_X10_isIn (6, 61) (1, 11) (6, 60) (99, 0) = true := by decide +kernel
set_option maxRecDepth 20000 in
theorem xo_c_X10_isIn_0 : xc_b xmi_X10_isIn xc_X10_isIn 0 16 = true := by decide +kernel
theorem xo_r_X10_isIn : ∀ (pc : Nat) (r : xr_R), xcl xc_X10_isIn pc = some r → xr_b xmi_X10_isIn.1 (xm_ini xmi_X10_isIn) xmi_X10_isIn.2.2.1 pc r = true ∧ xr_c xM xmi_X10_isIn.1 r = true := xc_up_e (mi := xmi_X10_isIn) (cd := xc_X10_isIn) (N := 16) (xc_up_s (mi := xmi_X10_isIn) (cd := xc_X10_isIn) (lo := 0) (n := 16) xc_up_0 xo_c_X10_isIn_0) (by decide +kernel)
set_option maxRecDepth 20000 in
theorem xo_m_X10_next : xm_b xmi_X10_next (6, 58) (1, 11) (6, 56) (6, 57) = true := by decide +kernel
set_option maxRecDepth 20000 in
theorem xo_c_X10_next_0 : xc_b xmi_X10_next xc_X10_next 0 48 = true := by decide +kernel
theorem xo_r_X10_next : ∀ (pc : Nat) (r : xr_R), xcl xc_X10_next pc = some r → xr_b xmi_X10_next.1 (xm_ini xmi_X10_next) xmi_X10_next.2.2.1 pc r = true ∧ xr_c xM xmi_X10_next.1 r = true := xc_up_e (mi := xmi_X10_next) (cd := xc_X10_next) (N := 48) (xc_up_s (mi := xmi_X10_next) (cd := xc_X10_next) (lo := 0) (n := 48) xc_up_0 xo_c_X10_next_0) (by decide +kernel)
set_option maxRecDepth 20000 in
theorem xo_m_X10_members : xm_b xmi_X10_members (6, 65) (1, 11) (6, 63) (6, 64) = true := by decide +kernel
set_option maxRecDepth 20000 in
theorem xo_c_X10_members_0 : xc_b xmi_X10_members xc_X10_members 0 48 = true := by decide +kernel
theorem xo_r_X10_members : ∀ (pc : Nat) (r : xr_R), xcl xc_X10_members pc = some r → xr_b xmi_X10_members.1 (xm_ini xmi_X10_members) xmi_X10_members.2.2.1 pc r = true ∧ xr_c xM xmi_X10_members.1 r = true := xc_up_e (mi := xmi_X10_members) (cd := xc_X10_members) (N := 48) (xc_up_s (mi := xmi_X10_members) (cd := xc_X10_members) (lo := 0) (n := 48) xc_up_0 xo_c_X10_members_0) (by decide +kernel)
set_option maxRecDepth 20000 in
theorem xo_m_X10_isMember : xm_b xmi_X10_isMember (6, 163) (1, 11) (6, 162) (0, 77) = true := by decide +kernel
set_option maxRecDepth 20000 in
theorem xo_c_X10_isMember_0 : xc_b xmi_X10_isMember xc_X10_isMember 0 32 = true := by decide +kernel
theorem xo_r_X10_isMember : ∀ (pc : Nat) (r : xr_R), xcl xc_X10_isMember pc = some r → xr_b xmi_X10_isMember.1 (xm_ini xmi_X10_isMember) xmi_X10_isMember.2.2.1 pc r = true ∧ xr_c xM xmi_X10_isMember.1 r = true := xc_up_e (mi := xmi_X10_isMember) (cd := xc_X10_isMember) (N := 32) (xc_up_s (mi := xmi_X10_isMember) (cd := xc_X10_isMember) (lo := 0) (n := 32) xc_up_0 xo_c_X10_isMember_0) (by decide +kernel)
set_option maxRecDepth 20000 in
theorem xo_m_X10_isSet : xm_b xmi_X10_isSet (6, 191) (1, 11) (6, 190) (0, 82) = true := by decide +kernel
set_option maxRecDepth 20000 in
theorem xo_c_X10_isSet_0 : xc_b xmi_X10_isSet xc_X10_isSet 0 32 = true := by decide +kernel
theorem xo_r_X10_isSet : ∀ (pc : Nat) (r : xr_R), xcl xc_X10_isSet pc = some r → xr_b xmi_X10_isSet.1 (xm_ini xmi_X10_isSet) xmi_X10_isSet.2.2.1 pc r = true ∧ xr_c xM xmi_X10_isSet.1 r = true := xc_up_e (mi := xmi_X10_isSet) (cd := xc_X10_isSet) (N := 32) (xc_up_s (mi := xmi_X10_isSet) (cd := xc_X10_isSet) (lo := 0) (n := 32) xc_up_0 xo_c_X10_isSet_0) (by decide +kernel)
set_option maxRecDepth 20000 in
theorem xo_m_X10_sizeOf : xm_b xmi_X10_sizeOf (6, 234) (1, 11) (6, 233) (99, 0) = true := by decide +kernel
set_option maxRecDepth 20000 in
theorem xo_c_X10_sizeOf_0 : xc_b xmi_X10_sizeOf xc_X10_sizeOf 0 32 = true := by decide +kernel
theorem xo_r_X10_sizeOf : ∀ (pc : Nat) (r : xr_R), xcl xc_X10_sizeOf pc = some r → xr_b xmi_X10_sizeOf.1 (xm_ini xmi_X10_sizeOf) xmi_X10_sizeOf.2.2.1 pc r = true ∧ xr_c xM xmi_X10_sizeOf.1 r = true := xc_up_e (mi := xmi_X10_sizeOf) (cd := xc_X10_sizeOf) (N := 32) (xc_up_s (mi := xmi_X10_sizeOf) (cd := xc_X10_sizeOf) (lo := 0) (n := 32) xc_up_0 xo_c_X10_sizeOf_0) (by decide +kernel)
set_option maxRecDepth 20000 in
theorem xo_m_X10_byteAt : xm_b xmi_X10_byteAt (6, 90) (1, 11) (6, 89) (0, 60) = true := by decide +kernel
set_option maxRecDepth 20000 in
theorem xo_c_X10_byteAt_0 : xc_b xmi_X10_byteAt xc_X10_byteAt 0 32 = true := by decide +kernel
theorem xo_r_X10_byteAt : ∀ (pc : Nat) (r : xr_R), xcl xc_X10_byteAt pc = some r → xr_b xmi_X10_byteAt.1 (xm_ini xmi_X10_byteAt) xmi_X10_byteAt.2.2.1 pc r = true ∧ xr_c xM xmi_X10_byteAt.1 r = true := xc_up_e (mi := xmi_X10_byteAt) (cd := xc_X10_byteAt) (N := 32) (xc_up_s (mi := xmi_X10_byteAt) (cd := xc_X10_byteAt) (lo := 0) (n := 32) xc_up_0 xo_c_X10_byteAt_0) (by decide +kernel)
set_option maxRecDepth 20000 in
theorem xo_m_X10_isDigit : xm_b xmi_X10_isDigit (6, 83) (1, 11) (6, 82) (99, 0) = true := by decide +kernel
set_option maxRecDepth 20000 in
theorem xo_c_X10_isDigit_0 : xc_b xmi_X10_isDigit xc_X10_isDigit 0 32 = true := by decide +kernel
theorem xo_r_X10_isDigit : ∀ (pc : Nat) (r : xr_R), xcl xc_X10_isDigit pc = some r → xr_b xmi_X10_isDigit.1 (xm_ini xmi_X10_isDigit) xmi_X10_isDigit.2.2.1 pc r = true ∧ xr_c xM xmi_X10_isDigit.1 r = true := xc_up_e (mi := xmi_X10_isDigit) (cd := xc_X10_isDigit) (N := 32) (xc_up_s (mi := xmi_X10_isDigit) (cd := xc_X10_isDigit) (lo := 0) (n := 32) xc_up_0 xo_c_X10_isDigit_0) (by decide +kernel)
set_option maxRecDepth 20000 in
theorem xo_m_X10_isLetter : xm_b xmi_X10_isLetter (6, 80) (1, 11) (6, 79) (99, 0) = true := by decide +kernel
set_option maxRecDepth 20000 in
theorem xo_c_X10_isLetter_0 : xc_b xmi_X10_isLetter xc_X10_isLetter 0 32 = true := by decide +kernel
theorem xo_r_X10_isLetter : ∀ (pc : Nat) (r : xr_R), xcl xc_X10_isLetter pc = some r → xr_b xmi_X10_isLetter.1 (xm_ini xmi_X10_isLetter) xmi_X10_isLetter.2.2.1 pc r = true ∧ xr_c xM xmi_X10_isLetter.1 r = true := xc_up_e (mi := xmi_X10_isLetter) (cd := xc_X10_isLetter) (N := 32) (xc_up_s (mi := xmi_X10_isLetter) (cd := xc_X10_isLetter) (lo := 0) (n := 32) xc_up_0 xo_c_X10_isLetter_0) (by decide +kernel)
set_option maxRecDepth 20000 in
theorem xo_m_X10_isMark : xm_b xmi_X10_isMark (6, 86) (1, 11) (6, 85) (99, 0) = true := by decide +kernel
set_option maxRecDepth 20000 in
theorem xo_c_X10_isMark_0 : xc_b xmi_X10_isMark xc_X10_isMark 0 48 = true := by decide +kernel
theorem xo_r_X10_isMark : ∀ (pc : Nat) (r : xr_R), xcl xc_X10_isMark pc = some r → xr_b xmi_X10_isMark.1 (xm_ini xmi_X10_isMark) xmi_X10_isMark.2.2.1 pc r = true ∧ xr_c xM xmi_X10_isMark.1 r = true := xc_up_e (mi := xmi_X10_isMark) (cd := xc_X10_isMark) (N := 48) (xc_up_s (mi := xmi_X10_isMark) (cd := xc_X10_isMark) (lo := 0) (n := 48) xc_up_0 xo_c_X10_isMark_0) (by decide +kernel)
set_option maxRecDepth 20000 in
theorem xo_m_X10_go : xm_b xmi_X10_go (6, 77) (1, 11) (6, 76) (0, 59) = true := by decide +kernel
set_option maxRecDepth 20000 in
theorem xo_c_X10_go_0 : xc_b xmi_X10_go xc_X10_go 0 112 = true := by decide +kernel
set_option maxRecDepth 20000 in
theorem xo_c_X10_go_112 : xc_b xmi_X10_go xc_X10_go 112 112 = true := by decide +kernel
set_option maxRecDepth 20000 in
theorem xo_c_X10_go_224 : xc_b xmi_X10_go xc_X10_go 224 112 = true := by decide +kernel
set_option maxRecDepth 20000 in
theorem xo_c_X10_go_336 : xc_b xmi_X10_go xc_X10_go 336 48 = true := by decide +kernel
theorem xo_r_X10_go : ∀ (pc : Nat) (r : xr_R), xcl xc_X10_go pc = some r → xr_b xmi_X10_go.1 (xm_ini xmi_X10_go) xmi_X10_go.2.2.1 pc r = true ∧ xr_c xM xmi_X10_go.1 r = true := xc_up_e (mi := xmi_X10_go) (cd := xc_X10_go) (N := 384) (xc_up_s (mi := xmi_X10_go) (cd := xc_X10_go) (lo := 336) (n := 48) (xc_up_s (mi := xmi_X10_go) (cd := xc_X10_go) (lo := 224) (n := 112) (xc_up_s (mi := xmi_X10_go) (cd := xc_X10_go) (lo := 112) (n := 112) (xc_up_s (mi := xmi_X10_go) (cd := xc_X10_go) (lo := 0) (n := 112) xc_up_0 xo_c_X10_go_0) xo_c_X10_go_112) xo_c_X10_go_224) xo_c_X10_go_336) (by decide +kernel)
set_option maxRecDepth 20000 in
theorem xo_m_X10_spelt : xm_b xmi_X10_spelt (6, 99) (1, 11) (6, 98) (99, 0) = true := by decide +kernel
set_option maxRecDepth 20000 in
theorem xo_c_X10_spelt_0 : xc_b xmi_X10_spelt xc_X10_spelt 0 96 = true := by decide +kernel
theorem xo_r_X10_spelt : ∀ (pc : Nat) (r : xr_R), xcl xc_X10_spelt pc = some r → xr_b xmi_X10_spelt.1 (xm_ini xmi_X10_spelt) xmi_X10_spelt.2.2.1 pc r = true ∧ xr_c xM xmi_X10_spelt.1 r = true := xc_up_e (mi := xmi_X10_spelt) (cd := xc_X10_spelt) (N := 96) (xc_up_s (mi := xmi_X10_spelt) (cd := xc_X10_spelt) (lo := 0) (n := 96) xc_up_0 xo_c_X10_spelt_0) (by decide +kernel)
set_option maxRecDepth 20000 in
theorem xo_m_X10_isKey : xm_b xmi_X10_isKey (6, 103) (1, 11) (6, 102) (0, 62) = true := by decide +kernel
set_option maxRecDepth 20000 in
theorem xo_c_X10_isKey_0 : xc_b xmi_X10_isKey xc_X10_isKey 0 32 = true := by decide +kernel
theorem xo_r_X10_isKey : ∀ (pc : Nat) (r : xr_R), xcl xc_X10_isKey pc = some r → xr_b xmi_X10_isKey.1 (xm_ini xmi_X10_isKey) xmi_X10_isKey.2.2.1 pc r = true ∧ xr_c xM xmi_X10_isKey.1 r = true := xc_up_e (mi := xmi_X10_isKey) (cd := xc_X10_isKey) (N := 32) (xc_up_s (mi := xmi_X10_isKey) (cd := xc_X10_isKey) (lo := 0) (n := 32) xc_up_0 xo_c_X10_isKey_0) (by decide +kernel)
set_option maxRecDepth 20000 in
theorem xo_m_X10_isBody : xm_b xmi_X10_isBody (6, 96) (1, 11) (6, 95) (0, 61) = true := by decide +kernel
set_option maxRecDepth 20000 in
theorem xo_c_X10_isBody_0 : xc_b xmi_X10_isBody xc_X10_isBody 0 32 = true := by decide +kernel
theorem xo_r_X10_isBody : ∀ (pc : Nat) (r : xr_R), xcl xc_X10_isBody pc = some r → xr_b xmi_X10_isBody.1 (xm_ini xmi_X10_isBody) xmi_X10_isBody.2.2.1 pc r = true ∧ xr_c xM xmi_X10_isBody.1 r = true := xc_up_e (mi := xmi_X10_isBody) (cd := xc_X10_isBody) (N := 32) (xc_up_s (mi := xmi_X10_isBody) (cd := xc_X10_isBody) (lo := 0) (n := 32) xc_up_0 xo_c_X10_isBody_0) (by decide +kernel)
set_option maxRecDepth 20000 in
theorem xo_m_X10_isCarry : xm_b xmi_X10_isCarry (6, 115) (1, 11) (6, 114) (0, 65) = true := by decide +kernel
set_option maxRecDepth 20000 in
theorem xo_c_X10_isCarry_0 : xc_b xmi_X10_isCarry xc_X10_isCarry 0 32 = true := by decide +kernel
theorem xo_r_X10_isCarry : ∀ (pc : Nat) (r : xr_R), xcl xc_X10_isCarry pc = some r → xr_b xmi_X10_isCarry.1 (xm_ini xmi_X10_isCarry) xmi_X10_isCarry.2.2.1 pc r = true ∧ xr_c xM xmi_X10_isCarry.1 r = true := xc_up_e (mi := xmi_X10_isCarry) (cd := xc_X10_isCarry) (N := 32) (xc_up_s (mi := xmi_X10_isCarry) (cd := xc_X10_isCarry) (lo := 0) (n := 32) xc_up_0 xo_c_X10_isCarry_0) (by decide +kernel)
set_option maxRecDepth 20000 in
theorem xo_m_X10_isAnd : xm_b xmi_X10_isAnd (6, 119) (1, 11) (6, 118) (0, 66) = true := by decide +kernel
set_option maxRecDepth 20000 in
theorem xo_c_X10_isAnd_0 : xc_b xmi_X10_isAnd xc_X10_isAnd 0 16 = true := by decide +kernel
theorem xo_r_X10_isAnd : ∀ (pc : Nat) (r : xr_R), xcl xc_X10_isAnd pc = some r → xr_b xmi_X10_isAnd.1 (xm_ini xmi_X10_isAnd) xmi_X10_isAnd.2.2.1 pc r = true ∧ xr_c xM xmi_X10_isAnd.1 r = true := xc_up_e (mi := xmi_X10_isAnd) (cd := xc_X10_isAnd) (N := 16) (xc_up_s (mi := xmi_X10_isAnd) (cd := xc_X10_isAnd) (lo := 0) (n := 16) xc_up_0 xo_c_X10_isAnd_0) (by decide +kernel)
set_option maxRecDepth 20000 in
theorem xo_m_X10_isOr : xm_b xmi_X10_isOr (6, 123) (1, 11) (6, 122) (0, 67) = true := by decide +kernel
set_option maxRecDepth 20000 in
theorem xo_c_X10_isOr_0 : xc_b xmi_X10_isOr xc_X10_isOr 0 16 = true := by decide +kernel
theorem xo_r_X10_isOr : ∀ (pc : Nat) (r : xr_R), xcl xc_X10_isOr pc = some r → xr_b xmi_X10_isOr.1 (xm_ini xmi_X10_isOr) xmi_X10_isOr.2.2.1 pc r = true ∧ xr_c xM xmi_X10_isOr.1 r = true := xc_up_e (mi := xmi_X10_isOr) (cd := xc_X10_isOr) (N := 16) (xc_up_s (mi := xmi_X10_isOr) (cd := xc_X10_isOr) (lo := 0) (n := 16) xc_up_0 xo_c_X10_isOr_0) (by decide +kernel)
set_option maxRecDepth 20000 in
theorem xo_m_X10_isOf : xm_b xmi_X10_isOf (6, 127) (1, 11) (6, 126) (0, 68) = true := by decide +kernel
set_option maxRecDepth 20000 in
theorem xo_c_X10_isOf_0 : xc_b xmi_X10_isOf xc_X10_isOf 0 16 = true := by decide +kernel
theorem xo_r_X10_isOf : ∀ (pc : Nat) (r : xr_R), xcl xc_X10_isOf pc = some r → xr_b xmi_X10_isOf.1 (xm_ini xmi_X10_isOf) xmi_X10_isOf.2.2.1 pc r = true ∧ xr_c xM xmi_X10_isOf.1 r = true := xc_up_e (mi := xmi_X10_isOf) (cd := xc_X10_isOf) (N := 16) (xc_up_s (mi := xmi_X10_isOf) (cd := xc_X10_isOf) (lo := 0) (n := 16) xc_up_0 xo_c_X10_isOf_0) (by decide +kernel)
set_option maxRecDepth 20000 in
theorem xo_m_X10_isName : xm_b xmi_X10_isName (6, 111) (1, 11) (6, 110) (0, 64) = true := by decide +kernel
set_option maxRecDepth 20000 in
theorem xo_c_X10_isName_0 : xc_b xmi_X10_isName xc_X10_isName 0 64 = true := by decide +kernel
theorem xo_r_X10_isName : ∀ (pc : Nat) (r : xr_R), xcl xc_X10_isName pc = some r → xr_b xmi_X10_isName.1 (xm_ini xmi_X10_isName) xmi_X10_isName.2.2.1 pc r = true ∧ xr_c xM xmi_X10_isName.1 r = true := xc_up_e (mi := xmi_X10_isName) (cd := xc_X10_isName) (N := 64) (xc_up_s (mi := xmi_X10_isName) (cd := xc_X10_isName) (lo := 0) (n := 64) xc_up_0 xo_c_X10_isName_0) (by decide +kernel)
set_option maxRecDepth 20000 in
theorem xo_m_X10_isSign : xm_b xmi_X10_isSign (6, 139) (1, 11) (6, 138) (0, 71) = true := by decide +kernel
set_option maxRecDepth 20000 in
theorem xo_c_X10_isSign_0 : xc_b xmi_X10_isSign xc_X10_isSign 0 32 = true := by decide +kernel
theorem xo_r_X10_isSign : ∀ (pc : Nat) (r : xr_R), xcl xc_X10_isSign pc = some r → xr_b xmi_X10_isSign.1 (xm_ini xmi_X10_isSign) xmi_X10_isSign.2.2.1 pc r = true ∧ xr_c xM xmi_X10_isSign.1 r = true := xc_up_e (mi := xmi_X10_isSign) (cd := xc_X10_isSign) (N := 32) (xc_up_s (mi := xmi_X10_isSign) (cd := xc_X10_isSign) (lo := 0) (n := 32) xc_up_0 xo_c_X10_isSign_0) (by decide +kernel)
set_option maxRecDepth 20000 in
theorem xo_m_X10_bad : xm_b xmi_X10_bad (6, 131) (1, 11) (6, 130) (0, 69) = true := by decide +kernel
set_option maxRecDepth 20000 in
theorem xo_c_X10_bad_0 : xc_b xmi_X10_bad xc_X10_bad 0 32 = true := by decide +kernel
theorem xo_r_X10_bad : ∀ (pc : Nat) (r : xr_R), xcl xc_X10_bad pc = some r → xr_b xmi_X10_bad.1 (xm_ini xmi_X10_bad) xmi_X10_bad.2.2.1 pc r = true ∧ xr_c xM xmi_X10_bad.1 r = true := xc_up_e (mi := xmi_X10_bad) (cd := xc_X10_bad) (N := 32) (xc_up_s (mi := xmi_X10_bad) (cd := xc_X10_bad) (lo := 0) (n := 32) xc_up_0 xo_c_X10_bad_0) (by decide +kernel)
set_option maxRecDepth 20000 in
theorem xo_m_X10_badAt : xm_b xmi_X10_badAt (6, 175) (1, 11) (6, 174) (0, 80) = true := by decide +kernel
set_option maxRecDepth 20000 in
theorem xo_c_X10_badAt_0 : xc_b xmi_X10_badAt xc_X10_badAt 0 16 = true := by decide +kernel
theorem xo_r_X10_badAt : ∀ (pc : Nat) (r : xr_R), xcl xc_X10_badAt pc = some r → xr_b xmi_X10_badAt.1 (xm_ini xmi_X10_badAt) xmi_X10_badAt.2.2.1 pc r = true ∧ xr_c xM xmi_X10_badAt.1 r = true := xc_up_e (mi := xmi_X10_badAt) (cd := xc_X10_badAt) (N := 16) (xc_up_s (mi := xmi_X10_badAt) (cd := xc_X10_badAt) (lo := 0) (n := 16) xc_up_0 xo_c_X10_badAt_0) (by decide +kernel)
set_option maxRecDepth 20000 in
theorem xo_m_X10_openRule : xm_b xmi_X10_openRule (6, 147) (1, 11) (6, 146) (0, 73) = true := by decide +kernel
set_option maxRecDepth 20000 in
theorem xo_c_X10_openRule_0 : xc_b xmi_X10_openRule xc_X10_openRule 0 80 = true := by decide +kernel
theorem xo_r_X10_openRule : ∀ (pc : Nat) (r : xr_R), xcl xc_X10_openRule pc = some r → xr_b xmi_X10_openRule.1 (xm_ini xmi_X10_openRule) xmi_X10_openRule.2.2.1 pc r = true ∧ xr_c xM xmi_X10_openRule.1 r = true := xc_up_e (mi := xmi_X10_openRule) (cd := xc_X10_openRule) (N := 80) (xc_up_s (mi := xmi_X10_openRule) (cd := xc_X10_openRule) (lo := 0) (n := 80) xc_up_0 xo_c_X10_openRule_0) (by decide +kernel)
set_option maxRecDepth 20000 in
theorem xo_m_X10_openList : xm_b xmi_X10_openList (6, 171) (1, 11) (6, 170) (0, 79) = true := by decide +kernel
set_option maxRecDepth 20000 in
theorem xo_c_X10_openList_0 : xc_b xmi_X10_openList xc_X10_openList 0 80 = true := by decide +kernel
theorem xo_r_X10_openList : ∀ (pc : Nat) (r : xr_R), xcl xc_X10_openList pc = some r → xr_b xmi_X10_openList.1 (xm_ini xmi_X10_openList) xmi_X10_openList.2.2.1 pc r = true ∧ xr_c xM xmi_X10_openList.1 r = true := xc_up_e (mi := xmi_X10_openList) (cd := xc_X10_openList) (N := 80) (xc_up_s (mi := xmi_X10_openList) (cd := xc_X10_openList) (lo := 0) (n := 80) xc_up_0 xo_c_X10_openList_0) (by decide +kernel)
set_option maxRecDepth 20000 in
theorem xo_m_X10_begin : xm_b xmi_X10_begin (6, 151) (1, 11) (6, 150) (0, 74) = true := by decide +kernel
set_option maxRecDepth 20000 in
theorem xo_c_X10_begin_0 : xc_b xmi_X10_begin xc_X10_begin 0 32 = true := by decide +kernel
theorem xo_r_X10_begin : ∀ (pc : Nat) (r : xr_R), xcl xc_X10_begin pc = some r → xr_b xmi_X10_begin.1 (xm_ini xmi_X10_begin) xmi_X10_begin.2.2.1 pc r = true ∧ xr_c xM xmi_X10_begin.1 r = true := xc_up_e (mi := xmi_X10_begin) (cd := xc_X10_begin) (N := 32) (xc_up_s (mi := xmi_X10_begin) (cd := xc_X10_begin) (lo := 0) (n := 32) xc_up_0 xo_c_X10_begin_0) (by decide +kernel)
set_option maxRecDepth 20000 in
theorem xo_m_X10_beginItem : xm_b xmi_X10_beginItem (6, 155) (1, 11) (6, 154) (0, 75) = true := by decide +kernel
set_option maxRecDepth 20000 in
theorem xo_c_X10_beginItem_0 : xc_b xmi_X10_beginItem xc_X10_beginItem 0 112 = true := by decide +kernel
theorem xo_r_X10_beginItem : ∀ (pc : Nat) (r : xr_R), xcl xc_X10_beginItem pc = some r → xr_b xmi_X10_beginItem.1 (xm_ini xmi_X10_beginItem) xmi_X10_beginItem.2.2.1 pc r = true ∧ xr_c xM xmi_X10_beginItem.1 r = true := xc_up_e (mi := xmi_X10_beginItem) (cd := xc_X10_beginItem) (N := 112) (xc_up_s (mi := xmi_X10_beginItem) (cd := xc_X10_beginItem) (lo := 0) (n := 112) xc_up_0 xo_c_X10_beginItem_0) (by decide +kernel)
set_option maxRecDepth 20000 in
theorem xo_m_X10_beginList : xm_b xmi_X10_beginList (6, 167) (1, 11) (6, 166) (0, 78) = true := by decide +kernel
set_option maxRecDepth 20000 in
theorem xo_c_X10_beginList_0 : xc_b xmi_X10_beginList xc_X10_beginList 0 64 = true := by decide +kernel
theorem xo_r_X10_beginList : ∀ (pc : Nat) (r : xr_R), xcl xc_X10_beginList pc = some r → xr_b xmi_X10_beginList.1 (xm_ini xmi_X10_beginList) xmi_X10_beginList.2.2.1 pc r = true ∧ xr_c xM xmi_X10_beginList.1 r = true := xc_up_e (mi := xmi_X10_beginList) (cd := xc_X10_beginList) (N := 64) (xc_up_s (mi := xmi_X10_beginList) (cd := xc_X10_beginList) (lo := 0) (n := 64) xc_up_0 xo_c_X10_beginList_0) (by decide +kernel)
set_option maxRecDepth 20000 in
theorem xo_m_X10_nameAtHand : xm_b xmi_X10_nameAtHand (6, 135) (1, 11) (6, 134) (0, 70) = true := by decide +kernel
set_option maxRecDepth 20000 in
theorem xo_c_X10_nameAtHand_0 : xc_b xmi_X10_nameAtHand xc_X10_nameAtHand 0 48 = true := by decide +kernel
theorem xo_r_X10_nameAtHand : ∀ (pc : Nat) (r : xr_R), xcl xc_X10_nameAtHand pc = some r → xr_b xmi_X10_nameAtHand.1 (xm_ini xmi_X10_nameAtHand) xmi_X10_nameAtHand.2.2.1 pc r = true ∧ xr_c xM xmi_X10_nameAtHand.1 r = true := xc_up_e (mi := xmi_X10_nameAtHand) (cd := xc_X10_nameAtHand) (N := 48) (xc_up_s (mi := xmi_X10_nameAtHand) (cd := xc_X10_nameAtHand) (lo := 0) (n := 48) xc_up_0 xo_c_X10_nameAtHand_0) (by decide +kernel)
set_option maxRecDepth 20000 in
theorem xo_m_X10_beginOne : xm_b xmi_X10_beginOne (6, 159) (1, 11) (6, 158) (0, 76) = true := by decide +kernel
set_option maxRecDepth 20000 in
theorem xo_c_X10_beginOne_0 : xc_b xmi_X10_beginOne xc_X10_beginOne 0 112 = true := by decide +kernel
set_option maxRecDepth 20000 in
theorem xo_c_X10_beginOne_112 : xc_b xmi_X10_beginOne xc_X10_beginOne 112 112 = true := by decide +kernel
set_option maxRecDepth 20000 in
theorem xo_c_X10_beginOne_224 : xc_b xmi_X10_beginOne xc_X10_beginOne 224 80 = true := by decide +kernel
theorem xo_r_X10_beginOne : ∀ (pc : Nat) (r : xr_R), xcl xc_X10_beginOne pc = some r → xr_b xmi_X10_beginOne.1 (xm_ini xmi_X10_beginOne) xmi_X10_beginOne.2.2.1 pc r = true ∧ xr_c xM xmi_X10_beginOne.1 r = true := xc_up_e (mi := xmi_X10_beginOne) (cd := xc_X10_beginOne) (N := 304) (xc_up_s (mi := xmi_X10_beginOne) (cd := xc_X10_beginOne) (lo := 224) (n := 80) (xc_up_s (mi := xmi_X10_beginOne) (cd := xc_X10_beginOne) (lo := 112) (n := 112) (xc_up_s (mi := xmi_X10_beginOne) (cd := xc_X10_beginOne) (lo := 0) (n := 112) xc_up_0 xo_c_X10_beginOne_0) xo_c_X10_beginOne_112) xo_c_X10_beginOne_224) (by decide +kernel)
set_option maxRecDepth 20000 in
theorem xo_m_X10_end_ : xm_b xmi_X10_end_ (6, 179) (1, 11) (6, 178) (0, 81) = true := by decide +kernel
set_option maxRecDepth 20000 in
theorem xo_c_X10_end__0 : xc_b xmi_X10_end_ xc_X10_end_ 0 112 = true := by decide +kernel
set_option maxRecDepth 20000 in
theorem xo_c_X10_end__112 : xc_b xmi_X10_end_ xc_X10_end_ 112 112 = true := by decide +kernel
set_option maxRecDepth 20000 in
theorem xo_c_X10_end__224 : xc_b xmi_X10_end_ xc_X10_end_ 224 112 = true := by decide +kernel
set_option maxRecDepth 20000 in
theorem xo_c_X10_end__336 : xc_b xmi_X10_end_ xc_X10_end_ 336 64 = true := by decide +kernel
theorem xo_r_X10_end_ : ∀ (pc : Nat) (r : xr_R), xcl xc_X10_end_ pc = some r → xr_b xmi_X10_end_.1 (xm_ini xmi_X10_end_) xmi_X10_end_.2.2.1 pc r = true ∧ xr_c xM xmi_X10_end_.1 r = true := xc_up_e (mi := xmi_X10_end_) (cd := xc_X10_end_) (N := 400) (xc_up_s (mi := xmi_X10_end_) (cd := xc_X10_end_) (lo := 336) (n := 64) (xc_up_s (mi := xmi_X10_end_) (cd := xc_X10_end_) (lo := 224) (n := 112) (xc_up_s (mi := xmi_X10_end_) (cd := xc_X10_end_) (lo := 112) (n := 112) (xc_up_s (mi := xmi_X10_end_) (cd := xc_X10_end_) (lo := 0) (n := 112) xc_up_0 xo_c_X10_end__0) xo_c_X10_end__112) xo_c_X10_end__224) xo_c_X10_end__336) (by decide +kernel)
set_option maxRecDepth 20000 in
theorem xo_m_X10_readRule : xm_b xmi_X10_readRule (6, 143) (1, 11) (6, 142) (0, 72) = true := by decide +kernel
set_option maxRecDepth 20000 in
theorem xo_c_X10_readRule_0 : xc_b xmi_X10_readRule xc_X10_readRule 0 64 = true := by decide +kernel
theorem xo_r_X10_readRule : ∀ (pc : Nat) (r : xr_R), xcl xc_X10_readRule pc = some r → xr_b xmi_X10_readRule.1 (xm_ini xmi_X10_readRule) xmi_X10_readRule.2.2.1 pc r = true ∧ xr_c xM xmi_X10_readRule.1 r = true := xc_up_e (mi := xmi_X10_readRule) (cd := xc_X10_readRule) (N := 64) (xc_up_s (mi := xmi_X10_readRule) (cd := xc_X10_readRule) (lo := 0) (n := 64) xc_up_0 xo_c_X10_readRule_0) (by decide +kernel)
end XCK5
