section XCK4
set_option maxRecDepth 20000 in
theorem xo_m_X6_takeRun : xm_b xmi_X6_takeRun (1, 5) (2, 193) (0, 0) = true := by decide +kernel
theorem xo_w_X6_takeRun : Cond.code xmi_X6_takeRun.2.1 xmi_X6_takeRun.2.2.1 xmi_X6_takeRun.2.2.2.1 xmi_X6_takeRun.2.2.2.2.1 ∈ xG := xw_in2 (K := 2) (i := 194) rfl rfl
set_option maxRecDepth 20000 in
theorem xo_c_X6_takeRun_0 : xc_b xmi_X6_takeRun xc_X6_takeRun 0 112 = true := by decide +kernel
set_option maxRecDepth 20000 in
theorem xo_c_X6_takeRun_112 : xc_b xmi_X6_takeRun xc_X6_takeRun 112 32 = true := by decide +kernel
theorem xo_r_X6_takeRun : ∀ (pc : Nat) (r : xr_R), xcl xc_X6_takeRun pc = some r → xr_b xmi_X6_takeRun.1 (xm_ini xmi_X6_takeRun) xmi_X6_takeRun.2.2.1 pc r = true ∧ xr_c xM xmi_X6_takeRun.1 r = true := xc_up_e (mi := xmi_X6_takeRun) (cd := xc_X6_takeRun) (N := 144) (xc_up_s (mi := xmi_X6_takeRun) (cd := xc_X6_takeRun) (lo := 112) (n := 32) (xc_up_s (mi := xmi_X6_takeRun) (cd := xc_X6_takeRun) (lo := 0) (n := 112) xc_up_0 xo_c_X6_takeRun_0) xo_c_X6_takeRun_112) (by decide +kernel)
set_option maxRecDepth 20000 in
theorem xo_m_X6_isWord : xm_b xmi_X6_isWord (1, 5) (2, 200) (2, 201) = true := by decide +kernel
theorem xo_w_X6_isWord : Cond.code xmi_X6_isWord.2.1 xmi_X6_isWord.2.2.1 xmi_X6_isWord.2.2.2.1 xmi_X6_isWord.2.2.2.2.1 ∈ xG := xw_in2 (K := 2) (i := 202) rfl rfl
set_option maxRecDepth 20000 in
theorem xo_c_X6_isWord_0 : xc_b xmi_X6_isWord xc_X6_isWord 0 80 = true := by decide +kernel
theorem xo_r_X6_isWord : ∀ (pc : Nat) (r : xr_R), xcl xc_X6_isWord pc = some r → xr_b xmi_X6_isWord.1 (xm_ini xmi_X6_isWord) xmi_X6_isWord.2.2.1 pc r = true ∧ xr_c xM xmi_X6_isWord.1 r = true := xc_up_e (mi := xmi_X6_isWord) (cd := xc_X6_isWord) (N := 80) (xc_up_s (mi := xmi_X6_isWord) (cd := xc_X6_isWord) (lo := 0) (n := 80) xc_up_0 xo_c_X6_isWord_0) (by decide +kernel)
set_option maxRecDepth 20000 in
theorem xo_m_X6_isName : xm_b xmi_X6_isName (1, 5) (3, 21) (3, 22) = true := by decide +kernel
theorem xo_w_X6_isName : Cond.code xmi_X6_isName.2.1 xmi_X6_isName.2.2.1 xmi_X6_isName.2.2.2.1 xmi_X6_isName.2.2.2.2.1 ∈ xG := xw_in2 (K := 3) (i := 23) rfl rfl
set_option maxRecDepth 20000 in
theorem xo_c_X6_isName_0 : xc_b xmi_X6_isName xc_X6_isName 0 96 = true := by decide +kernel
theorem xo_r_X6_isName : ∀ (pc : Nat) (r : xr_R), xcl xc_X6_isName pc = some r → xr_b xmi_X6_isName.1 (xm_ini xmi_X6_isName) xmi_X6_isName.2.2.1 pc r = true ∧ xr_c xM xmi_X6_isName.1 r = true := xc_up_e (mi := xmi_X6_isName) (cd := xc_X6_isName) (N := 96) (xc_up_s (mi := xmi_X6_isName) (cd := xc_X6_isName) (lo := 0) (n := 96) xc_up_0 xo_c_X6_isName_0) (by decide +kernel)
set_option maxRecDepth 20000 in
theorem xo_m_X6_isLone : xm_b xmi_X6_isLone (1, 5) (3, 84) (3, 85) = true := by decide +kernel
theorem xo_w_X6_isLone : Cond.code xmi_X6_isLone.2.1 xmi_X6_isLone.2.2.1 xmi_X6_isLone.2.2.2.1 xmi_X6_isLone.2.2.2.2.1 ∈ xG := xw_in2 (K := 3) (i := 86) rfl rfl
set_option maxRecDepth 20000 in
theorem xo_c_X6_isLone_0 : xc_b xmi_X6_isLone xc_X6_isLone 0 32 = true := by decide +kernel
theorem xo_r_X6_isLone : ∀ (pc : Nat) (r : xr_R), xcl xc_X6_isLone pc = some r → xr_b xmi_X6_isLone.1 (xm_ini xmi_X6_isLone) xmi_X6_isLone.2.2.1 pc r = true ∧ xr_c xM xmi_X6_isLone.1 r = true := xc_up_e (mi := xmi_X6_isLone) (cd := xc_X6_isLone) (N := 32) (xc_up_s (mi := xmi_X6_isLone) (cd := xc_X6_isLone) (lo := 0) (n := 32) xc_up_0 xo_c_X6_isLone_0) (by decide +kernel)
set_option maxRecDepth 20000 in
theorem xo_m_X6_letter : xm_b xmi_X6_letter (1, 5) (3, 92) (3, 93) = true := by decide +kernel
theorem xo_w_X6_letter : Cond.code xmi_X6_letter.2.1 xmi_X6_letter.2.2.1 xmi_X6_letter.2.2.2.1 xmi_X6_letter.2.2.2.2.1 ∈ xG := xw_in2 (K := 3) (i := 94) rfl rfl
set_option maxRecDepth 20000 in
theorem xo_c_X6_letter_0 : xc_b xmi_X6_letter xc_X6_letter 0 16 = true := by decide +kernel
theorem xo_r_X6_letter : ∀ (pc : Nat) (r : xr_R), xcl xc_X6_letter pc = some r → xr_b xmi_X6_letter.1 (xm_ini xmi_X6_letter) xmi_X6_letter.2.2.1 pc r = true ∧ xr_c xM xmi_X6_letter.1 r = true := xc_up_e (mi := xmi_X6_letter) (cd := xc_X6_letter) (N := 16) (xc_up_s (mi := xmi_X6_letter) (cd := xc_X6_letter) (lo := 0) (n := 16) xc_up_0 xo_c_X6_letter_0) (by decide +kernel)
set_option maxRecDepth 20000 in
theorem xo_m_X6_isLike : xm_b xmi_X6_isLike (1, 5) (3, 39) (3, 40) = true := by decide +kernel
theorem xo_w_X6_isLike : Cond.code xmi_X6_isLike.2.1 xmi_X6_isLike.2.2.1 xmi_X6_isLike.2.2.2.1 xmi_X6_isLike.2.2.2.2.1 ∈ xG := xw_in2 (K := 3) (i := 41) rfl rfl
set_option maxRecDepth 20000 in
theorem xo_c_X6_isLike_0 : xc_b xmi_X6_isLike xc_X6_isLike 0 64 = true := by decide +kernel
theorem xo_r_X6_isLike : ∀ (pc : Nat) (r : xr_R), xcl xc_X6_isLike pc = some r → xr_b xmi_X6_isLike.1 (xm_ini xmi_X6_isLike) xmi_X6_isLike.2.2.1 pc r = true ∧ xr_c xM xmi_X6_isLike.1 r = true := xc_up_e (mi := xmi_X6_isLike) (cd := xc_X6_isLike) (N := 64) (xc_up_s (mi := xmi_X6_isLike) (cd := xc_X6_isLike) (lo := 0) (n := 64) xc_up_0 xo_c_X6_isLike_0) (by decide +kernel)
set_option maxRecDepth 20000 in
theorem xo_m_X6_isBlank : xm_b xmi_X6_isBlank (1, 5) (2, 183) (99, 0) = true := by decide +kernel
theorem xo_w_X6_isBlank : Cond.code xmi_X6_isBlank.2.1 xmi_X6_isBlank.2.2.1 xmi_X6_isBlank.2.2.2.1 xmi_X6_isBlank.2.2.2.2.1 ∈ xG := xw_in2 (K := 2) (i := 184) rfl rfl
set_option maxRecDepth 20000 in
theorem xo_c_X6_isBlank_0 : xc_b xmi_X6_isBlank xc_X6_isBlank 0 32 = true := by decide +kernel
theorem xo_r_X6_isBlank : ∀ (pc : Nat) (r : xr_R), xcl xc_X6_isBlank pc = some r → xr_b xmi_X6_isBlank.1 (xm_ini xmi_X6_isBlank) xmi_X6_isBlank.2.2.1 pc r = true ∧ xr_c xM xmi_X6_isBlank.1 r = true := xc_up_e (mi := xmi_X6_isBlank) (cd := xc_X6_isBlank) (N := 32) (xc_up_s (mi := xmi_X6_isBlank) (cd := xc_X6_isBlank) (lo := 0) (n := 32) xc_up_0 xo_c_X6_isBlank_0) (by decide +kernel)
set_option maxRecDepth 20000 in
theorem xo_m_X6_isLetter : xm_b xmi_X6_isLetter (1, 5) (2, 186) (99, 0) = true := by decide +kernel
theorem xo_w_X6_isLetter : Cond.code xmi_X6_isLetter.2.1 xmi_X6_isLetter.2.2.1 xmi_X6_isLetter.2.2.2.1 xmi_X6_isLetter.2.2.2.2.1 ∈ xG := xw_in2 (K := 2) (i := 187) rfl rfl
set_option maxRecDepth 20000 in
theorem xo_c_X6_isLetter_0 : xc_b xmi_X6_isLetter xc_X6_isLetter 0 32 = true := by decide +kernel
theorem xo_r_X6_isLetter : ∀ (pc : Nat) (r : xr_R), xcl xc_X6_isLetter pc = some r → xr_b xmi_X6_isLetter.1 (xm_ini xmi_X6_isLetter) xmi_X6_isLetter.2.2.1 pc r = true ∧ xr_c xM xmi_X6_isLetter.1 r = true := xc_up_e (mi := xmi_X6_isLetter) (cd := xc_X6_isLetter) (N := 32) (xc_up_s (mi := xmi_X6_isLetter) (cd := xc_X6_isLetter) (lo := 0) (n := 32) xc_up_0 xo_c_X6_isLetter_0) (by decide +kernel)
set_option maxRecDepth 20000 in
theorem xo_m_X6_isDigit : xm_b xmi_X6_isDigit (1, 5) (2, 189) (99, 0) = true := by decide +kernel
theorem xo_w_X6_isDigit : Cond.code xmi_X6_isDigit.2.1 xmi_X6_isDigit.2.2.1 xmi_X6_isDigit.2.2.2.1 xmi_X6_isDigit.2.2.2.2.1 ∈ xG := xw_in2 (K := 2) (i := 190) rfl rfl
set_option maxRecDepth 20000 in
theorem xo_c_X6_isDigit_0 : xc_b xmi_X6_isDigit xc_X6_isDigit 0 32 = true := by decide +kernel
theorem xo_r_X6_isDigit : ∀ (pc : Nat) (r : xr_R), xcl xc_X6_isDigit pc = some r → xr_b xmi_X6_isDigit.1 (xm_ini xmi_X6_isDigit) xmi_X6_isDigit.2.2.1 pc r = true ∧ xr_c xM xmi_X6_isDigit.1 r = true := xc_up_e (mi := xmi_X6_isDigit) (cd := xc_X6_isDigit) (N := 32) (xc_up_s (mi := xmi_X6_isDigit) (cd := xc_X6_isDigit) (lo := 0) (n := 32) xc_up_0 xo_c_X6_isDigit_0) (by decide +kernel)
set_option maxRecDepth 20000 in
theorem xo_m_X6_isSign : xm_b xmi_X6_isSign (1, 5) (2, 196) (99, 0) = true := by decide +kernel
theorem xo_w_X6_isSign : Cond.code xmi_X6_isSign.2.1 xmi_X6_isSign.2.2.1 xmi_X6_isSign.2.2.2.1 xmi_X6_isSign.2.2.2.2.1 ∈ xG := xw_in2 (K := 2) (i := 197) rfl rfl
set_option maxRecDepth 20000 in
theorem xo_c_X6_isSign_0 : xc_b xmi_X6_isSign xc_X6_isSign 0 48 = true := by decide +kernel
theorem xo_r_X6_isSign : ∀ (pc : Nat) (r : xr_R), xcl xc_X6_isSign pc = some r → xr_b xmi_X6_isSign.1 (xm_ini xmi_X6_isSign) xmi_X6_isSign.2.2.1 pc r = true ∧ xr_c xM xmi_X6_isSign.1 r = true := xc_up_e (mi := xmi_X6_isSign) (cd := xc_X6_isSign) (N := 48) (xc_up_s (mi := xmi_X6_isSign) (cd := xc_X6_isSign) (lo := 0) (n := 48) xc_up_0 xo_c_X6_isSign_0) (by decide +kernel)
set_option maxRecDepth 20000 in
theorem xo_m_X7_init : xm_b xmi_X7_init (1, 6) (1, 143) (99, 0) = true := by decide +kernel
theorem xo_w_X7_init : Cond.code xmi_X7_init.2.1 xmi_X7_init.2.2.1 xmi_X7_init.2.2.2.1 xmi_X7_init.2.2.2.2.1 ∈ xG := xw_in2 (K := 1) (i := 144) rfl rfl
set_option maxRecDepth 20000 in
theorem xo_c_X7_init_0 : xc_b xmi_X7_init xc_X7_init 0 32 = true := by decide +kernel
theorem xo_r_X7_init : ∀ (pc : Nat) (r : xr_R), xcl xc_X7_init pc = some r → xr_b xmi_X7_init.1 (xm_ini xmi_X7_init) xmi_X7_init.2.2.1 pc r = true ∧ xr_c xM xmi_X7_init.1 r = true := xc_up_e (mi := xmi_X7_init) (cd := xc_X7_init) (N := 32) (xc_up_s (mi := xmi_X7_init) (cd := xc_X7_init) (lo := 0) (n := 32) xc_up_0 xo_c_X7_init_0) (by decide +kernel)
set_option maxRecDepth 20000 in
theorem xo_m_X7_holds : xm_b xmi_X7_holds (1, 6) (3, 151) (3, 152) = true := by decide +kernel
theorem xo_w_X7_holds : Cond.code xmi_X7_holds.2.1 xmi_X7_holds.2.2.1 xmi_X7_holds.2.2.2.1 xmi_X7_holds.2.2.2.2.1 ∈ xG := xw_in2 (K := 3) (i := 153) rfl rfl
set_option maxRecDepth 20000 in
theorem xo_c_X7_holds_0 : xc_b xmi_X7_holds xc_X7_holds 0 48 = true := by decide +kernel
theorem xo_r_X7_holds : ∀ (pc : Nat) (r : xr_R), xcl xc_X7_holds pc = some r → xr_b xmi_X7_holds.1 (xm_ini xmi_X7_holds) xmi_X7_holds.2.2.1 pc r = true ∧ xr_c xM xmi_X7_holds.1 r = true := xc_up_e (mi := xmi_X7_holds) (cd := xc_X7_holds) (N := 48) (xc_up_s (mi := xmi_X7_holds) (cd := xc_X7_holds) (lo := 0) (n := 48) xc_up_0 xo_c_X7_holds_0) (by decide +kernel)
set_option maxRecDepth 20000 in
theorem xo_m_X7_add : xm_b xmi_X7_add (1, 6) (2, 91) (2, 92) = true := by decide +kernel
theorem xo_w_X7_add : Cond.code xmi_X7_add.2.1 xmi_X7_add.2.2.1 xmi_X7_add.2.2.2.1 xmi_X7_add.2.2.2.2.1 ∈ xG := xw_in2 (K := 2) (i := 93) rfl rfl
set_option maxRecDepth 20000 in
theorem xo_c_X7_add_0 : xc_b xmi_X7_add xc_X7_add 0 32 = true := by decide +kernel
theorem xo_r_X7_add : ∀ (pc : Nat) (r : xr_R), xcl xc_X7_add pc = some r → xr_b xmi_X7_add.1 (xm_ini xmi_X7_add) xmi_X7_add.2.2.1 pc r = true ∧ xr_c xM xmi_X7_add.1 r = true := xc_up_e (mi := xmi_X7_add) (cd := xc_X7_add) (N := 32) (xc_up_s (mi := xmi_X7_add) (cd := xc_X7_add) (lo := 0) (n := 32) xc_up_0 xo_c_X7_add_0) (by decide +kernel)
set_option maxRecDepth 20000 in
theorem xo_m_X7_needAll : xm_b xmi_X7_needAll (1, 6) (2, 87) (2, 88) = true := by decide +kernel
theorem xo_w_X7_needAll : Cond.code xmi_X7_needAll.2.1 xmi_X7_needAll.2.2.1 xmi_X7_needAll.2.2.2.1 xmi_X7_needAll.2.2.2.2.1 ∈ xG := xw_in2 (K := 2) (i := 89) rfl rfl
set_option maxRecDepth 20000 in
theorem xo_c_X7_needAll_0 : xc_b xmi_X7_needAll xc_X7_needAll 0 32 = true := by decide +kernel
theorem xo_r_X7_needAll : ∀ (pc : Nat) (r : xr_R), xcl xc_X7_needAll pc = some r → xr_b xmi_X7_needAll.1 (xm_ini xmi_X7_needAll) xmi_X7_needAll.2.2.1 pc r = true ∧ xr_c xM xmi_X7_needAll.1 r = true := xc_up_e (mi := xmi_X7_needAll) (cd := xc_X7_needAll) (N := 32) (xc_up_s (mi := xmi_X7_needAll) (cd := xc_X7_needAll) (lo := 0) (n := 32) xc_up_0 xo_c_X7_needAll_0) (by decide +kernel)
set_option maxRecDepth 20000 in
theorem xo_m_X8_init : xm_b xmi_X8_init (1, 2) (1, 33) (99, 0) = true := by decide +kernel
theorem xo_w_X8_init : Cond.code xmi_X8_init.2.1 xmi_X8_init.2.2.1 xmi_X8_init.2.2.2.1 xmi_X8_init.2.2.2.2.1 ∈ xG := xw_in2 (K := 1) (i := 34) rfl rfl
set_option maxRecDepth 20000 in
theorem xo_c_X8_init_0 : xc_b xmi_X8_init xc_X8_init 0 32 = true := by decide +kernel
theorem xo_r_X8_init : ∀ (pc : Nat) (r : xr_R), xcl xc_X8_init pc = some r → xr_b xmi_X8_init.1 (xm_ini xmi_X8_init) xmi_X8_init.2.2.1 pc r = true ∧ xr_c xM xmi_X8_init.1 r = true := xc_up_e (mi := xmi_X8_init) (cd := xc_X8_init) (N := 32) (xc_up_s (mi := xmi_X8_init) (cd := xc_X8_init) (lo := 0) (n := 32) xc_up_0 xo_c_X8_init_0) (by decide +kernel)
set_option maxRecDepth 20000 in
theorem xo_m_X8_hasRoom : xm_b xmi_X8_hasRoom (1, 2) (2, 136) (2, 137) = true := by decide +kernel
theorem xo_w_X8_hasRoom : Cond.code xmi_X8_hasRoom.2.1 xmi_X8_hasRoom.2.2.1 xmi_X8_hasRoom.2.2.2.1 xmi_X8_hasRoom.2.2.2.2.1 ∈ xG := xw_in2 (K := 2) (i := 138) rfl rfl
set_option maxRecDepth 20000 in
theorem xo_c_X8_hasRoom_0 : xc_b xmi_X8_hasRoom xc_X8_hasRoom 0 32 = true := by decide +kernel
theorem xo_r_X8_hasRoom : ∀ (pc : Nat) (r : xr_R), xcl xc_X8_hasRoom pc = some r → xr_b xmi_X8_hasRoom.1 (xm_ini xmi_X8_hasRoom) xmi_X8_hasRoom.2.2.1 pc r = true ∧ xr_c xM xmi_X8_hasRoom.1 r = true := xc_up_e (mi := xmi_X8_hasRoom) (cd := xc_X8_hasRoom) (N := 32) (xc_up_s (mi := xmi_X8_hasRoom) (cd := xc_X8_hasRoom) (lo := 0) (n := 32) xc_up_0 xo_c_X8_hasRoom_0) (by decide +kernel)
set_option maxRecDepth 20000 in
theorem xo_m_X8_put : xm_b xmi_X8_put (1, 2) (2, 140) (2, 141) = true := by decide +kernel
theorem xo_w_X8_put : Cond.code xmi_X8_put.2.1 xmi_X8_put.2.2.1 xmi_X8_put.2.2.2.1 xmi_X8_put.2.2.2.2.1 ∈ xG := xw_in2 (K := 2) (i := 142) rfl rfl
set_option maxRecDepth 20000 in
theorem xo_c_X8_put_0 : xc_b xmi_X8_put xc_X8_put 0 48 = true := by decide +kernel
theorem xo_r_X8_put : ∀ (pc : Nat) (r : xr_R), xcl xc_X8_put pc = some r → xr_b xmi_X8_put.1 (xm_ini xmi_X8_put) xmi_X8_put.2.2.1 pc r = true ∧ xr_c xM xmi_X8_put.1 r = true := xc_up_e (mi := xmi_X8_put) (cd := xc_X8_put) (N := 48) (xc_up_s (mi := xmi_X8_put) (cd := xc_X8_put) (lo := 0) (n := 48) xc_up_0 xo_c_X8_put_0) (by decide +kernel)
set_option maxRecDepth 20000 in
theorem xo_m_X8_at : xm_b xmi_X8_at (1, 2) (2, 179) (2, 180) = true := by decide +kernel
theorem xo_w_X8_at : Cond.code xmi_X8_at.2.1 xmi_X8_at.2.2.1 xmi_X8_at.2.2.2.1 xmi_X8_at.2.2.2.2.1 ∈ xG := xw_in2 (K := 2) (i := 181) rfl rfl
set_option maxRecDepth 20000 in
theorem xo_c_X8_at_0 : xc_b xmi_X8_at xc_X8_at 0 32 = true := by decide +kernel
theorem xo_r_X8_at : ∀ (pc : Nat) (r : xr_R), xcl xc_X8_at pc = some r → xr_b xmi_X8_at.1 (xm_ini xmi_X8_at) xmi_X8_at.2.2.1 pc r = true ∧ xr_c xM xmi_X8_at.1 r = true := xc_up_e (mi := xmi_X8_at) (cd := xc_X8_at) (N := 32) (xc_up_s (mi := xmi_X8_at) (cd := xc_X8_at) (lo := 0) (n := 32) xc_up_0 xo_c_X8_at_0) (by decide +kernel)
set_option maxRecDepth 20000 in
theorem xo_m_X9_init : xm_b xmi_X9_init (1, 1) (1, 25) (99, 0) = true := by decide +kernel
theorem xo_w_X9_init : Cond.code xmi_X9_init.2.1 xmi_X9_init.2.2.1 xmi_X9_init.2.2.2.1 xmi_X9_init.2.2.2.2.1 ∈ xG := xw_in2 (K := 1) (i := 26) rfl rfl
set_option maxRecDepth 20000 in
theorem xo_c_X9_init_0 : xc_b xmi_X9_init xc_X9_init 0 112 = true := by decide +kernel
set_option maxRecDepth 20000 in
theorem xo_c_X9_init_112 : xc_b xmi_X9_init xc_X9_init 112 32 = true := by decide +kernel
theorem xo_r_X9_init : ∀ (pc : Nat) (r : xr_R), xcl xc_X9_init pc = some r → xr_b xmi_X9_init.1 (xm_ini xmi_X9_init) xmi_X9_init.2.2.1 pc r = true ∧ xr_c xM xmi_X9_init.1 r = true := xc_up_e (mi := xmi_X9_init) (cd := xc_X9_init) (N := 144) (xc_up_s (mi := xmi_X9_init) (cd := xc_X9_init) (lo := 112) (n := 32) (xc_up_s (mi := xmi_X9_init) (cd := xc_X9_init) (lo := 0) (n := 112) xc_up_0 xo_c_X9_init_0) xo_c_X9_init_112) (by decide +kernel)
set_option maxRecDepth 20000 in
theorem xo_m_X9_feed : xm_b xmi_X9_feed (1, 1) (2, 132) (2, 133) = true := by decide +kernel
theorem xo_w_X9_feed : Cond.code xmi_X9_feed.2.1 xmi_X9_feed.2.2.1 xmi_X9_feed.2.2.2.1 xmi_X9_feed.2.2.2.2.1 ∈ xG := xw_in2 (K := 2) (i := 134) rfl rfl
set_option maxRecDepth 20000 in
theorem xo_c_X9_feed_0 : xc_b xmi_X9_feed xc_X9_feed 0 64 = true := by decide +kernel
theorem xo_r_X9_feed : ∀ (pc : Nat) (r : xr_R), xcl xc_X9_feed pc = some r → xr_b xmi_X9_feed.1 (xm_ini xmi_X9_feed) xmi_X9_feed.2.2.1 pc r = true ∧ xr_c xM xmi_X9_feed.1 r = true := xc_up_e (mi := xmi_X9_feed) (cd := xc_X9_feed) (N := 64) (xc_up_s (mi := xmi_X9_feed) (cd := xc_X9_feed) (lo := 0) (n := 64) xc_up_0 xo_c_X9_feed_0) (by decide +kernel)
set_option maxRecDepth 20000 in
theorem xo_m_X9_end : xm_b xmi_X9_end (1, 1) (2, 144) (2, 145) = true := by decide +kernel
theorem xo_w_X9_end : Cond.code xmi_X9_end.2.1 xmi_X9_end.2.2.1 xmi_X9_end.2.2.2.1 xmi_X9_end.2.2.2.2.1 ∈ xG := xw_in2 (K := 2) (i := 146) rfl rfl
set_option maxRecDepth 20000 in
theorem xo_c_X9_end_0 : xc_b xmi_X9_end xc_X9_end 0 32 = true := by decide +kernel
theorem xo_r_X9_end : ∀ (pc : Nat) (r : xr_R), xcl xc_X9_end pc = some r → xr_b xmi_X9_end.1 (xm_ini xmi_X9_end) xmi_X9_end.2.2.1 pc r = true ∧ xr_c xM xmi_X9_end.1 r = true := xc_up_e (mi := xmi_X9_end) (cd := xc_X9_end) (N := 32) (xc_up_s (mi := xmi_X9_end) (cd := xc_X9_end) (lo := 0) (n := 32) xc_up_0 xo_c_X9_end_0) (by decide +kernel)
set_option maxRecDepth 20000 in
theorem xo_m_X9_next : xm_b xmi_X9_next (1, 1) (2, 148) (2, 149) = true := by decide +kernel
theorem xo_w_X9_next : Cond.code xmi_X9_next.2.1 xmi_X9_next.2.2.1 xmi_X9_next.2.2.2.1 xmi_X9_next.2.2.2.2.1 ∈ xG := xw_in2 (K := 2) (i := 150) rfl rfl
set_option maxRecDepth 20000 in
theorem xo_c_X9_next_0 : xc_b xmi_X9_next xc_X9_next 0 48 = true := by decide +kernel
theorem xo_r_X9_next : ∀ (pc : Nat) (r : xr_R), xcl xc_X9_next pc = some r → xr_b xmi_X9_next.1 (xm_ini xmi_X9_next) xmi_X9_next.2.2.1 pc r = true ∧ xr_c xM xmi_X9_next.1 r = true := xc_up_e (mi := xmi_X9_next) (cd := xc_X9_next) (N := 48) (xc_up_s (mi := xmi_X9_next) (cd := xc_X9_next) (lo := 0) (n := 48) xc_up_0 xo_c_X9_next_0) (by decide +kernel)
set_option maxRecDepth 20000 in
theorem xo_m_X9_members : xm_b xmi_X9_members (1, 1) (2, 152) (2, 153) = true := by decide +kernel
theorem xo_w_X9_members : Cond.code xmi_X9_members.2.1 xmi_X9_members.2.2.1 xmi_X9_members.2.2.2.1 xmi_X9_members.2.2.2.2.1 ∈ xG := xw_in2 (K := 2) (i := 154) rfl rfl
set_option maxRecDepth 20000 in
theorem xo_c_X9_members_0 : xc_b xmi_X9_members xc_X9_members 0 80 = true := by decide +kernel
theorem xo_r_X9_members : ∀ (pc : Nat) (r : xr_R), xcl xc_X9_members pc = some r → xr_b xmi_X9_members.1 (xm_ini xmi_X9_members) xmi_X9_members.2.2.1 pc r = true ∧ xr_c xM xmi_X9_members.1 r = true := xc_up_e (mi := xmi_X9_members) (cd := xc_X9_members) (N := 80) (xc_up_s (mi := xmi_X9_members) (cd := xc_X9_members) (lo := 0) (n := 80) xc_up_0 xo_c_X9_members_0) (by decide +kernel)
set_option maxRecDepth 20000 in
theorem xo_m_X9_statute : xm_b xmi_X9_statute (1, 1) (2, 156) (2, 157) = true := by decide +kernel
theorem xo_w_X9_statute : Cond.code xmi_X9_statute.2.1 xmi_X9_statute.2.2.1 xmi_X9_statute.2.2.2.1 xmi_X9_statute.2.2.2.2.1 ∈ xG := xw_in2 (K := 2) (i := 158) rfl rfl
set_option maxRecDepth 20000 in
theorem xo_c_X9_statute_0 : xc_b xmi_X9_statute xc_X9_statute 0 112 = true := by decide +kernel
set_option maxRecDepth 20000 in
theorem xo_c_X9_statute_112 : xc_b xmi_X9_statute xc_X9_statute 112 32 = true := by decide +kernel
theorem xo_r_X9_statute : ∀ (pc : Nat) (r : xr_R), xcl xc_X9_statute pc = some r → xr_b xmi_X9_statute.1 (xm_ini xmi_X9_statute) xmi_X9_statute.2.2.1 pc r = true ∧ xr_c xM xmi_X9_statute.1 r = true := xc_up_e (mi := xmi_X9_statute) (cd := xc_X9_statute) (N := 144) (xc_up_s (mi := xmi_X9_statute) (cd := xc_X9_statute) (lo := 112) (n := 32) (xc_up_s (mi := xmi_X9_statute) (cd := xc_X9_statute) (lo := 0) (n := 112) xc_up_0 xo_c_X9_statute_0) xo_c_X9_statute_112) (by decide +kernel)
set_option maxRecDepth 20000 in
theorem xo_m_X9_fault : xm_b xmi_X9_fault (1, 1) (3, 135) (3, 136) = true := by decide +kernel
theorem xo_w_X9_fault : Cond.code xmi_X9_fault.2.1 xmi_X9_fault.2.2.1 xmi_X9_fault.2.2.2.1 xmi_X9_fault.2.2.2.2.1 ∈ xG := xw_in2 (K := 3) (i := 137) rfl rfl
set_option maxRecDepth 20000 in
theorem xo_c_X9_fault_0 : xc_b xmi_X9_fault xc_X9_fault 0 16 = true := by decide +kernel
theorem xo_r_X9_fault : ∀ (pc : Nat) (r : xr_R), xcl xc_X9_fault pc = some r → xr_b xmi_X9_fault.1 (xm_ini xmi_X9_fault) xmi_X9_fault.2.2.1 pc r = true ∧ xr_c xM xmi_X9_fault.1 r = true := xc_up_e (mi := xmi_X9_fault) (cd := xc_X9_fault) (N := 16) (xc_up_s (mi := xmi_X9_fault) (cd := xc_X9_fault) (lo := 0) (n := 16) xc_up_0 xo_c_X9_fault_0) (by decide +kernel)
set_option maxRecDepth 20000 in
theorem xo_m_X9_carries : xm_b xmi_X9_carries (1, 1) (3, 139) (3, 140) = true := by decide +kernel
theorem xo_w_X9_carries : Cond.code xmi_X9_carries.2.1 xmi_X9_carries.2.2.1 xmi_X9_carries.2.2.2.1 xmi_X9_carries.2.2.2.2.1 ∈ xG := xw_in2 (K := 3) (i := 141) rfl rfl
set_option maxRecDepth 20000 in
theorem xo_c_X9_carries_0 : xc_b xmi_X9_carries xc_X9_carries 0 48 = true := by decide +kernel
theorem xo_r_X9_carries : ∀ (pc : Nat) (r : xr_R), xcl xc_X9_carries pc = some r → xr_b xmi_X9_carries.1 (xm_ini xmi_X9_carries) xmi_X9_carries.2.2.1 pc r = true ∧ xr_c xM xmi_X9_carries.1 r = true := xc_up_e (mi := xmi_X9_carries) (cd := xc_X9_carries) (N := 48) (xc_up_s (mi := xmi_X9_carries) (cd := xc_X9_carries) (lo := 0) (n := 48) xc_up_0 xo_c_X9_carries_0) (by decide +kernel)
set_option maxRecDepth 20000 in
theorem xo_m_X9_many : xm_b xmi_X9_many (1, 1) (3, 155) (3, 156) = true := by decide +kernel
theorem xo_w_X9_many : Cond.code xmi_X9_many.2.1 xmi_X9_many.2.2.1 xmi_X9_many.2.2.2.1 xmi_X9_many.2.2.2.2.1 ∈ xG := xw_in2 (K := 3) (i := 157) rfl rfl
set_option maxRecDepth 20000 in
theorem xo_c_X9_many_0 : xc_b xmi_X9_many xc_X9_many 0 112 = true := by decide +kernel
set_option maxRecDepth 20000 in
theorem xo_c_X9_many_112 : xc_b xmi_X9_many xc_X9_many 112 16 = true := by decide +kernel
theorem xo_r_X9_many : ∀ (pc : Nat) (r : xr_R), xcl xc_X9_many pc = some r → xr_b xmi_X9_many.1 (xm_ini xmi_X9_many) xmi_X9_many.2.2.1 pc r = true ∧ xr_c xM xmi_X9_many.1 r = true := xc_up_e (mi := xmi_X9_many) (cd := xc_X9_many) (N := 128) (xc_up_s (mi := xmi_X9_many) (cd := xc_X9_many) (lo := 112) (n := 16) (xc_up_s (mi := xmi_X9_many) (cd := xc_X9_many) (lo := 0) (n := 112) xc_up_0 xo_c_X9_many_0) xo_c_X9_many_112) (by decide +kernel)
set_option maxRecDepth 20000 in
theorem xo_m_X9_setAt : xm_b xmi_X9_setAt (1, 1) (3, 232) (3, 233) = true := by decide +kernel
theorem xo_w_X9_setAt : Cond.code xmi_X9_setAt.2.1 xmi_X9_setAt.2.2.1 xmi_X9_setAt.2.2.2.1 xmi_X9_setAt.2.2.2.2.1 ∈ xG := xw_in2 (K := 3) (i := 234) rfl rfl
set_option maxRecDepth 20000 in
theorem xo_c_X9_setAt_0 : xc_b xmi_X9_setAt xc_X9_setAt 0 112 = true := by decide +kernel
theorem xo_r_X9_setAt : ∀ (pc : Nat) (r : xr_R), xcl xc_X9_setAt pc = some r → xr_b xmi_X9_setAt.1 (xm_ini xmi_X9_setAt) xmi_X9_setAt.2.2.1 pc r = true ∧ xr_c xM xmi_X9_setAt.1 r = true := xc_up_e (mi := xmi_X9_setAt) (cd := xc_X9_setAt) (N := 112) (xc_up_s (mi := xmi_X9_setAt) (cd := xc_X9_setAt) (lo := 0) (n := 112) xc_up_0 xo_c_X9_setAt_0) (by decide +kernel)
set_option maxRecDepth 20000 in
theorem xo_m_X9_stronger : xm_b xmi_X9_stronger (1, 1) (3, 236) (3, 237) = true := by decide +kernel
theorem xo_w_X9_stronger : Cond.code xmi_X9_stronger.2.1 xmi_X9_stronger.2.2.1 xmi_X9_stronger.2.2.2.1 xmi_X9_stronger.2.2.2.2.1 ∈ xG := xw_in2 (K := 3) (i := 238) rfl rfl
set_option maxRecDepth 20000 in
theorem xo_c_X9_stronger_0 : xc_b xmi_X9_stronger xc_X9_stronger 0 32 = true := by decide +kernel
theorem xo_r_X9_stronger : ∀ (pc : Nat) (r : xr_R), xcl xc_X9_stronger pc = some r → xr_b xmi_X9_stronger.1 (xm_ini xmi_X9_stronger) xmi_X9_stronger.2.2.1 pc r = true ∧ xr_c xM xmi_X9_stronger.1 r = true := xc_up_e (mi := xmi_X9_stronger) (cd := xc_X9_stronger) (N := 32) (xc_up_s (mi := xmi_X9_stronger) (cd := xc_X9_stronger) (lo := 0) (n := 32) xc_up_0 xo_c_X9_stronger_0) (by decide +kernel)
set_option maxRecDepth 20000 in
theorem xo_m_X9_turns : xm_b xmi_X9_turns (1, 1) (4, 5) (4, 6) = true := by decide +kernel
theorem xo_w_X9_turns : Cond.code xmi_X9_turns.2.1 xmi_X9_turns.2.2.1 xmi_X9_turns.2.2.2.1 xmi_X9_turns.2.2.2.2.1 ∈ xG := xw_in2 (K := 4) (i := 7) rfl rfl
set_option maxRecDepth 20000 in
theorem xo_c_X9_turns_0 : xc_b xmi_X9_turns xc_X9_turns 0 32 = true := by decide +kernel
theorem xo_r_X9_turns : ∀ (pc : Nat) (r : xr_R), xcl xc_X9_turns pc = some r → xr_b xmi_X9_turns.1 (xm_ini xmi_X9_turns) xmi_X9_turns.2.2.1 pc r = true ∧ xr_c xM xmi_X9_turns.1 r = true := xc_up_e (mi := xmi_X9_turns) (cd := xc_X9_turns) (N := 32) (xc_up_s (mi := xmi_X9_turns) (cd := xc_X9_turns) (lo := 0) (n := 32) xc_up_0 xo_c_X9_turns_0) (by decide +kernel)
set_option maxRecDepth 20000 in
theorem xo_m_X9_share : xm_b xmi_X9_share (1, 1) (4, 231) (4, 232) = true := by decide +kernel
theorem xo_w_X9_share : Cond.code xmi_X9_share.2.1 xmi_X9_share.2.2.1 xmi_X9_share.2.2.2.1 xmi_X9_share.2.2.2.2.1 ∈ xG := xw_in2 (K := 4) (i := 233) rfl rfl
set_option maxRecDepth 20000 in
theorem xo_c_X9_share_0 : xc_b xmi_X9_share xc_X9_share 0 112 = true := by decide +kernel
theorem xo_r_X9_share : ∀ (pc : Nat) (r : xr_R), xcl xc_X9_share pc = some r → xr_b xmi_X9_share.1 (xm_ini xmi_X9_share) xmi_X9_share.2.2.1 pc r = true ∧ xr_c xM xmi_X9_share.1 r = true := xc_up_e (mi := xmi_X9_share) (cd := xc_X9_share) (N := 112) (xc_up_s (mi := xmi_X9_share) (cd := xc_X9_share) (lo := 0) (n := 112) xc_up_0 xo_c_X9_share_0) (by decide +kernel)
set_option maxRecDepth 20000 in
theorem xo_m_X9_chance : xm_b xmi_X9_chance (1, 1) (4, 9) (4, 10) = true := by decide +kernel
theorem xo_w_X9_chance : Cond.code xmi_X9_chance.2.1 xmi_X9_chance.2.2.1 xmi_X9_chance.2.2.2.1 xmi_X9_chance.2.2.2.2.1 ∈ xG := xw_in2 (K := 4) (i := 11) rfl rfl
set_option maxRecDepth 20000 in
theorem xo_c_X9_chance_0 : xc_b xmi_X9_chance xc_X9_chance 0 32 = true := by decide +kernel
theorem xo_r_X9_chance : ∀ (pc : Nat) (r : xr_R), xcl xc_X9_chance pc = some r → xr_b xmi_X9_chance.1 (xm_ini xmi_X9_chance) xmi_X9_chance.2.2.1 pc r = true ∧ xr_c xM xmi_X9_chance.1 r = true := xc_up_e (mi := xmi_X9_chance) (cd := xc_X9_chance) (N := 32) (xc_up_s (mi := xmi_X9_chance) (cd := xc_X9_chance) (lo := 0) (n := 32) xc_up_0 xo_c_X9_chance_0) (by decide +kernel)
set_option maxRecDepth 20000 in
theorem xo_m_X9_ally : xm_b xmi_X9_ally (1, 1) (4, 21) (4, 22) = true := by decide +kernel
theorem xo_w_X9_ally : Cond.code xmi_X9_ally.2.1 xmi_X9_ally.2.2.1 xmi_X9_ally.2.2.2.1 xmi_X9_ally.2.2.2.2.1 ∈ xG := xw_in2 (K := 4) (i := 23) rfl rfl
set_option maxRecDepth 20000 in
theorem xo_c_X9_ally_0 : xc_b xmi_X9_ally xc_X9_ally 0 32 = true := by decide +kernel
theorem xo_r_X9_ally : ∀ (pc : Nat) (r : xr_R), xcl xc_X9_ally pc = some r → xr_b xmi_X9_ally.1 (xm_ini xmi_X9_ally) xmi_X9_ally.2.2.1 pc r = true ∧ xr_c xM xmi_X9_ally.1 r = true := xc_up_e (mi := xmi_X9_ally) (cd := xc_X9_ally) (N := 32) (xc_up_s (mi := xmi_X9_ally) (cd := xc_X9_ally) (lo := 0) (n := 32) xc_up_0 xo_c_X9_ally_0) (by decide +kernel)
set_option maxRecDepth 20000 in
theorem xo_m_X9_weigh : xm_b xmi_X9_weigh (1, 1) (4, 33) (4, 34) = true := by decide +kernel
theorem xo_w_X9_weigh : Cond.code xmi_X9_weigh.2.1 xmi_X9_weigh.2.2.1 xmi_X9_weigh.2.2.2.1 xmi_X9_weigh.2.2.2.2.1 ∈ xG := xw_in2 (K := 4) (i := 35) rfl rfl
set_option maxRecDepth 20000 in
theorem xo_c_X9_weigh_0 : xc_b xmi_X9_weigh xc_X9_weigh 0 16 = true := by decide +kernel
theorem xo_r_X9_weigh : ∀ (pc : Nat) (r : xr_R), xcl xc_X9_weigh pc = some r → xr_b xmi_X9_weigh.1 (xm_ini xmi_X9_weigh) xmi_X9_weigh.2.2.1 pc r = true ∧ xr_c xM xmi_X9_weigh.1 r = true := xc_up_e (mi := xmi_X9_weigh) (cd := xc_X9_weigh) (N := 16) (xc_up_s (mi := xmi_X9_weigh) (cd := xc_X9_weigh) (lo := 0) (n := 16) xc_up_0 xo_c_X9_weigh_0) (by decide +kernel)
set_option maxRecDepth 20000 in
theorem xo_m_X9_weight : xm_b xmi_X9_weight (1, 1) (4, 100) (4, 101) = true := by decide +kernel
theorem xo_w_X9_weight : Cond.code xmi_X9_weight.2.1 xmi_X9_weight.2.2.1 xmi_X9_weight.2.2.2.1 xmi_X9_weight.2.2.2.2.1 ∈ xG := xw_in2 (K := 4) (i := 102) rfl rfl
set_option maxRecDepth 20000 in
theorem xo_c_X9_weight_0 : xc_b xmi_X9_weight xc_X9_weight 0 48 = true := by decide +kernel
theorem xo_r_X9_weight : ∀ (pc : Nat) (r : xr_R), xcl xc_X9_weight pc = some r → xr_b xmi_X9_weight.1 (xm_ini xmi_X9_weight) xmi_X9_weight.2.2.1 pc r = true ∧ xr_c xM xmi_X9_weight.1 r = true := xc_up_e (mi := xmi_X9_weight) (cd := xc_X9_weight) (N := 48) (xc_up_s (mi := xmi_X9_weight) (cd := xc_X9_weight) (lo := 0) (n := 48) xc_up_0 xo_c_X9_weight_0) (by decide +kernel)
set_option maxRecDepth 20000 in
theorem xo_m_X9_rank : xm_b xmi_X9_rank (1, 1) (4, 104) (4, 105) = true := by decide +kernel
theorem xo_w_X9_rank : Cond.code xmi_X9_rank.2.1 xmi_X9_rank.2.2.1 xmi_X9_rank.2.2.2.1 xmi_X9_rank.2.2.2.2.1 ∈ xG := xw_in2 (K := 4) (i := 106) rfl rfl
set_option maxRecDepth 20000 in
theorem xo_c_X9_rank_0 : xc_b xmi_X9_rank xc_X9_rank 0 80 = true := by decide +kernel
theorem xo_r_X9_rank : ∀ (pc : Nat) (r : xr_R), xcl xc_X9_rank pc = some r → xr_b xmi_X9_rank.1 (xm_ini xmi_X9_rank) xmi_X9_rank.2.2.1 pc r = true ∧ xr_c xM xmi_X9_rank.1 r = true := xc_up_e (mi := xmi_X9_rank) (cd := xc_X9_rank) (N := 80) (xc_up_s (mi := xmi_X9_rank) (cd := xc_X9_rank) (lo := 0) (n := 80) xc_up_0 xo_c_X9_rank_0) (by decide +kernel)
set_option maxRecDepth 20000 in
theorem xo_m_X9_beats : xm_b xmi_X9_beats (1, 1) (4, 120) (4, 121) = true := by decide +kernel
theorem xo_w_X9_beats : Cond.code xmi_X9_beats.2.1 xmi_X9_beats.2.2.1 xmi_X9_beats.2.2.2.1 xmi_X9_beats.2.2.2.2.1 ∈ xG := xw_in2 (K := 4) (i := 122) rfl rfl
set_option maxRecDepth 20000 in
theorem xo_c_X9_beats_0 : xc_b xmi_X9_beats xc_X9_beats 0 64 = true := by decide +kernel
theorem xo_r_X9_beats : ∀ (pc : Nat) (r : xr_R), xcl xc_X9_beats pc = some r → xr_b xmi_X9_beats.1 (xm_ini xmi_X9_beats) xmi_X9_beats.2.2.1 pc r = true ∧ xr_c xM xmi_X9_beats.1 r = true := xc_up_e (mi := xmi_X9_beats) (cd := xc_X9_beats) (N := 64) (xc_up_s (mi := xmi_X9_beats) (cd := xc_X9_beats) (lo := 0) (n := 64) xc_up_0 xo_c_X9_beats_0) (by decide +kernel)
set_option maxRecDepth 20000 in
theorem xo_m_X9_free : xm_b xmi_X9_free (1, 1) (4, 129) (4, 130) = true := by decide +kernel
theorem xo_w_X9_free : Cond.code xmi_X9_free.2.1 xmi_X9_free.2.2.1 xmi_X9_free.2.2.2.1 xmi_X9_free.2.2.2.2.1 ∈ xG := xw_in2 (K := 4) (i := 131) rfl rfl
set_option maxRecDepth 20000 in
theorem xo_c_X9_free_0 : xc_b xmi_X9_free xc_X9_free 0 32 = true := by decide +kernel
theorem xo_r_X9_free : ∀ (pc : Nat) (r : xr_R), xcl xc_X9_free pc = some r → xr_b xmi_X9_free.1 (xm_ini xmi_X9_free) xmi_X9_free.2.2.1 pc r = true ∧ xr_c xM xmi_X9_free.1 r = true := xc_up_e (mi := xmi_X9_free) (cd := xc_X9_free) (N := 32) (xc_up_s (mi := xmi_X9_free) (cd := xc_X9_free) (lo := 0) (n := 32) xc_up_0 xo_c_X9_free_0) (by decide +kernel)
set_option maxRecDepth 20000 in
theorem xo_m_X9_top : xm_b xmi_X9_top (1, 1) (4, 143) (4, 144) = true := by decide +kernel
theorem xo_w_X9_top : Cond.code xmi_X9_top.2.1 xmi_X9_top.2.2.1 xmi_X9_top.2.2.2.1 xmi_X9_top.2.2.2.2.1 ∈ xG := xw_in2 (K := 4) (i := 145) rfl rfl
set_option maxRecDepth 20000 in
theorem xo_c_X9_top_0 : xc_b xmi_X9_top xc_X9_top 0 32 = true := by decide +kernel
theorem xo_r_X9_top : ∀ (pc : Nat) (r : xr_R), xcl xc_X9_top pc = some r → xr_b xmi_X9_top.1 (xm_ini xmi_X9_top) xmi_X9_top.2.2.1 pc r = true ∧ xr_c xM xmi_X9_top.1 r = true := xc_up_e (mi := xmi_X9_top) (cd := xc_X9_top) (N := 32) (xc_up_s (mi := xmi_X9_top) (cd := xc_X9_top) (lo := 0) (n := 32) xc_up_0 xo_c_X9_top_0) (by decide +kernel)
set_option maxRecDepth 20000 in
theorem xo_m_X9_leads : xm_b xmi_X9_leads (1, 1) (4, 159) (4, 160) = true := by decide +kernel
theorem xo_w_X9_leads : Cond.code xmi_X9_leads.2.1 xmi_X9_leads.2.2.1 xmi_X9_leads.2.2.2.1 xmi_X9_leads.2.2.2.2.1 ∈ xG := xw_in2 (K := 4) (i := 161) rfl rfl
set_option maxRecDepth 20000 in
theorem xo_c_X9_leads_0 : xc_b xmi_X9_leads xc_X9_leads 0 80 = true := by decide +kernel
theorem xo_r_X9_leads : ∀ (pc : Nat) (r : xr_R), xcl xc_X9_leads pc = some r → xr_b xmi_X9_leads.1 (xm_ini xmi_X9_leads) xmi_X9_leads.2.2.1 pc r = true ∧ xr_c xM xmi_X9_leads.1 r = true := xc_up_e (mi := xmi_X9_leads) (cd := xc_X9_leads) (N := 80) (xc_up_s (mi := xmi_X9_leads) (cd := xc_X9_leads) (lo := 0) (n := 80) xc_up_0 xo_c_X9_leads_0) (by decide +kernel)
end XCK4
