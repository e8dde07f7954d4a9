section XCK3
set_option maxRecDepth 20000 in
theorem xo_m_X5_search : xm_b xmi_X5_search (4, 44) (1, 8) (4, 43) (0, 34) = true := by decide +kernel
set_option maxRecDepth 20000 in
theorem xo_c_X5_search_0 : xc_b xmi_X5_search xc_X5_search 0 112 = true := by decide +kernel
set_option maxRecDepth 20000 in
theorem xo_c_X5_search_112 : xc_b xmi_X5_search xc_X5_search 112 32 = true := by decide +kernel
theorem xo_r_X5_search : ∀ (pc : Nat) (r : xr_R), xcl xc_X5_search pc = some r → xr_b xmi_X5_search.1 (xm_ini xmi_X5_search) xmi_X5_search.2.2.1 pc r = true ∧ xr_c xM xmi_X5_search.1 r = true := xc_up_e (mi := xmi_X5_search) (cd := xc_X5_search) (N := 144) (xc_up_s (mi := xmi_X5_search) (cd := xc_X5_search) (lo := 112) (n := 32) (xc_up_s (mi := xmi_X5_search) (cd := xc_X5_search) (lo := 0) (n := 112) xc_up_0 xo_c_X5_search_0) xo_c_X5_search_112) (by decide +kernel)
set_option maxRecDepth 20000 in
theorem xo_m_X5_findClasses : xm_b xmi_X5_findClasses (4, 49) (1, 8) (4, 48) (0, 35) = true := by decide +kernel
set_option maxRecDepth 20000 in
theorem xo_c_X5_findClasses_0 : xc_b xmi_X5_findClasses xc_X5_findClasses 0 112 = true := by decide +kernel
set_option maxRecDepth 20000 in
theorem xo_c_X5_findClasses_112 : xc_b xmi_X5_findClasses xc_X5_findClasses 112 16 = true := by decide +kernel
theorem xo_r_X5_findClasses : ∀ (pc : Nat) (r : xr_R), xcl xc_X5_findClasses pc = some r → xr_b xmi_X5_findClasses.1 (xm_ini xmi_X5_findClasses) xmi_X5_findClasses.2.2.1 pc r = true ∧ xr_c xM xmi_X5_findClasses.1 r = true := xc_up_e (mi := xmi_X5_findClasses) (cd := xc_X5_findClasses) (N := 128) (xc_up_s (mi := xmi_X5_findClasses) (cd := xc_X5_findClasses) (lo := 112) (n := 16) (xc_up_s (mi := xmi_X5_findClasses) (cd := xc_X5_findClasses) (lo := 0) (n := 112) xc_up_0 xo_c_X5_findClasses_0) xo_c_X5_findClasses_112) (by decide +kernel)
set_option maxRecDepth 20000 in
theorem xo_m_X5_isFirst : xm_b xmi_X5_isFirst (4, 53) (1, 8) (4, 52) (0, 36) = true := by decide +kernel
set_option maxRecDepth 20000 in
theorem xo_c_X5_isFirst_0 : xc_b xmi_X5_isFirst xc_X5_isFirst 0 32 = true := by decide +kernel
theorem xo_r_X5_isFirst : ∀ (pc : Nat) (r : xr_R), xcl xc_X5_isFirst pc = some r → xr_b xmi_X5_isFirst.1 (xm_ini xmi_X5_isFirst) xmi_X5_isFirst.2.2.1 pc r = true ∧ xr_c xM xmi_X5_isFirst.1 r = true := xc_up_e (mi := xmi_X5_isFirst) (cd := xc_X5_isFirst) (N := 32) (xc_up_s (mi := xmi_X5_isFirst) (cd := xc_X5_isFirst) (lo := 0) (n := 32) xc_up_0 xo_c_X5_isFirst_0) (by decide +kernel)
set_option maxRecDepth 20000 in
theorem xo_m_X5_strengthOf : xm_b xmi_X5_strengthOf (4, 58) (1, 8) (4, 57) (0, 37) = true := by decide +kernel
set_option maxRecDepth 20000 in
theorem xo_c_X5_strengthOf_0 : xc_b xmi_X5_strengthOf xc_X5_strengthOf 0 48 = true := by decide +kernel
theorem xo_r_X5_strengthOf : ∀ (pc : Nat) (r : xr_R), xcl xc_X5_strengthOf pc = some r → xr_b xmi_X5_strengthOf.1 (xm_ini xmi_X5_strengthOf) xmi_X5_strengthOf.2.2.1 pc r = true ∧ xr_c xM xmi_X5_strengthOf.1 r = true := xc_up_e (mi := xmi_X5_strengthOf) (cd := xc_X5_strengthOf) (N := 48) (xc_up_s (mi := xmi_X5_strengthOf) (cd := xc_X5_strengthOf) (lo := 0) (n := 48) xc_up_0 xo_c_X5_strengthOf_0) (by decide +kernel)
set_option maxRecDepth 20000 in
theorem xo_m_X5_place : xm_b xmi_X5_place (4, 62) (1, 8) (4, 61) (0, 38) = true := by decide +kernel
set_option maxRecDepth 20000 in
theorem xo_c_X5_place_0 : xc_b xmi_X5_place xc_X5_place 0 112 = true := by decide +kernel
set_option maxRecDepth 20000 in
theorem xo_c_X5_place_112 : xc_b xmi_X5_place xc_X5_place 112 16 = true := by decide +kernel
theorem xo_r_X5_place : ∀ (pc : Nat) (r : xr_R), xcl xc_X5_place pc = some r → xr_b xmi_X5_place.1 (xm_ini xmi_X5_place) xmi_X5_place.2.2.1 pc r = true ∧ xr_c xM xmi_X5_place.1 r = true := xc_up_e (mi := xmi_X5_place) (cd := xc_X5_place) (N := 128) (xc_up_s (mi := xmi_X5_place) (cd := xc_X5_place) (lo := 112) (n := 16) (xc_up_s (mi := xmi_X5_place) (cd := xc_X5_place) (lo := 0) (n := 112) xc_up_0 xo_c_X5_place_0) xo_c_X5_place_112) (by decide +kernel)
set_option maxRecDepth 20000 in
theorem xo_m_X5_lowest : xm_b xmi_X5_lowest (4, 86) (1, 8) (4, 85) (0, 44) = true := by decide +kernel
set_option maxRecDepth 20000 in
theorem xo_c_X5_lowest_0 : xc_b xmi_X5_lowest xc_X5_lowest 0 48 = true := by decide +kernel
theorem xo_r_X5_lowest : ∀ (pc : Nat) (r : xr_R), xcl xc_X5_lowest pc = some r → xr_b xmi_X5_lowest.1 (xm_ini xmi_X5_lowest) xmi_X5_lowest.2.2.1 pc r = true ∧ xr_c xM xmi_X5_lowest.1 r = true := xc_up_e (mi := xmi_X5_lowest) (cd := xc_X5_lowest) (N := 48) (xc_up_s (mi := xmi_X5_lowest) (cd := xc_X5_lowest) (lo := 0) (n := 48) xc_up_0 xo_c_X5_lowest_0) (by decide +kernel)
set_option maxRecDepth 20000 in
theorem xo_m_X5_highest : xm_b xmi_X5_highest (4, 90) (1, 8) (4, 89) (0, 45) = true := by decide +kernel
set_option maxRecDepth 20000 in
theorem xo_c_X5_highest_0 : xc_b xmi_X5_highest xc_X5_highest 0 48 = true := by decide +kernel
theorem xo_r_X5_highest : ∀ (pc : Nat) (r : xr_R), xcl xc_X5_highest pc = some r → xr_b xmi_X5_highest.1 (xm_ini xmi_X5_highest) xmi_X5_highest.2.2.1 pc r = true ∧ xr_c xM xmi_X5_highest.1 r = true := xc_up_e (mi := xmi_X5_highest) (cd := xc_X5_highest) (N := 48) (xc_up_s (mi := xmi_X5_highest) (cd := xc_X5_highest) (lo := 0) (n := 48) xc_up_0 xo_c_X5_highest_0) (by decide +kernel)
set_option maxRecDepth 20000 in
theorem xo_m_X5_leastRest : xm_b xmi_X5_leastRest (4, 94) (1, 8) (4, 93) (0, 46) = true := by decide +kernel
set_option maxRecDepth 20000 in
theorem xo_c_X5_leastRest_0 : xc_b xmi_X5_leastRest xc_X5_leastRest 0 64 = true := by decide +kernel
theorem xo_r_X5_leastRest : ∀ (pc : Nat) (r : xr_R), xcl xc_X5_leastRest pc = some r → xr_b xmi_X5_leastRest.1 (xm_ini xmi_X5_leastRest) xmi_X5_leastRest.2.2.1 pc r = true ∧ xr_c xM xmi_X5_leastRest.1 r = true := xc_up_e (mi := xmi_X5_leastRest) (cd := xc_X5_leastRest) (N := 64) (xc_up_s (mi := xmi_X5_leastRest) (cd := xc_X5_leastRest) (lo := 0) (n := 64) xc_up_0 xo_c_X5_leastRest_0) (by decide +kernel)
set_option maxRecDepth 20000 in
theorem xo_m_X5_mostRest : xm_b xmi_X5_mostRest (4, 98) (1, 8) (4, 97) (0, 47) = true := by decide +kernel
set_option maxRecDepth 20000 in
theorem xo_c_X5_mostRest_0 : xc_b xmi_X5_mostRest xc_X5_mostRest 0 80 = true := by decide +kernel
theorem xo_r_X5_mostRest : ∀ (pc : Nat) (r : xr_R), xcl xc_X5_mostRest pc = some r → xr_b xmi_X5_mostRest.1 (xm_ini xmi_X5_mostRest) xmi_X5_mostRest.2.2.1 pc r = true ∧ xr_c xM xmi_X5_mostRest.1 r = true := xc_up_e (mi := xmi_X5_mostRest) (cd := xc_X5_mostRest) (N := 80) (xc_up_s (mi := xmi_X5_mostRest) (cd := xc_X5_mostRest) (lo := 0) (n := 80) xc_up_0 xo_c_X5_mostRest_0) (by decide +kernel)
set_option maxRecDepth 20000 in
theorem xo_m_X5_tryRow : xm_b xmi_X5_tryRow (4, 66) (1, 8) (4, 65) (0, 39) = true := by decide +kernel
set_option maxRecDepth 20000 in
theorem xo_c_X5_tryRow_0 : xc_b xmi_X5_tryRow xc_X5_tryRow 0 96 = true := by decide +kernel
theorem xo_r_X5_tryRow : ∀ (pc : Nat) (r : xr_R), xcl xc_X5_tryRow pc = some r → xr_b xmi_X5_tryRow.1 (xm_ini xmi_X5_tryRow) xmi_X5_tryRow.2.2.1 pc r = true ∧ xr_c xM xmi_X5_tryRow.1 r = true := xc_up_e (mi := xmi_X5_tryRow) (cd := xc_X5_tryRow) (N := 96) (xc_up_s (mi := xmi_X5_tryRow) (cd := xc_X5_tryRow) (lo := 0) (n := 96) xc_up_0 xo_c_X5_tryRow_0) (by decide +kernel)
set_option maxRecDepth 20000 in
theorem xo_m_X5_doesTheSame : xm_b xmi_X5_doesTheSame (4, 70) (1, 8) (4, 69) (0, 40) = true := by decide +kernel
set_option maxRecDepth 20000 in
theorem xo_c_X5_doesTheSame_0 : xc_b xmi_X5_doesTheSame xc_X5_doesTheSame 0 112 = true := by decide +kernel
theorem xo_r_X5_doesTheSame : ∀ (pc : Nat) (r : xr_R), xcl xc_X5_doesTheSame pc = some r → xr_b xmi_X5_doesTheSame.1 (xm_ini xmi_X5_doesTheSame) xmi_X5_doesTheSame.2.2.1 pc r = true ∧ xr_c xM xmi_X5_doesTheSame.1 r = true := xc_up_e (mi := xmi_X5_doesTheSame) (cd := xc_X5_doesTheSame) (N := 112) (xc_up_s (mi := xmi_X5_doesTheSame) (cd := xc_X5_doesTheSame) (lo := 0) (n := 112) xc_up_0 xo_c_X5_doesTheSame_0) (by decide +kernel)
set_option maxRecDepth 20000 in
theorem xo_m_X5_lightest : xm_b xmi_X5_lightest (4, 78) (1, 8) (4, 77) (0, 42) = true := by decide +kernel
set_option maxRecDepth 20000 in
theorem xo_c_X5_lightest_0 : xc_b xmi_X5_lightest xc_X5_lightest 0 64 = true := by decide +kernel
theorem xo_r_X5_lightest : ∀ (pc : Nat) (r : xr_R), xcl xc_X5_lightest pc = some r → xr_b xmi_X5_lightest.1 (xm_ini xmi_X5_lightest) xmi_X5_lightest.2.2.1 pc r = true ∧ xr_c xM xmi_X5_lightest.1 r = true := xc_up_e (mi := xmi_X5_lightest) (cd := xc_X5_lightest) (N := 64) (xc_up_s (mi := xmi_X5_lightest) (cd := xc_X5_lightest) (lo := 0) (n := 64) xc_up_0 xo_c_X5_lightest_0) (by decide +kernel)
set_option maxRecDepth 20000 in
theorem xo_m_X5_weightOf : xm_b xmi_X5_weightOf (4, 74) (1, 8) (4, 73) (0, 41) = true := by decide +kernel
set_option maxRecDepth 20000 in
theorem xo_c_X5_weightOf_0 : xc_b xmi_X5_weightOf xc_X5_weightOf 0 48 = true := by decide +kernel
theorem xo_r_X5_weightOf : ∀ (pc : Nat) (r : xr_R), xcl xc_X5_weightOf pc = some r → xr_b xmi_X5_weightOf.1 (xm_ini xmi_X5_weightOf) xmi_X5_weightOf.2.2.1 pc r = true ∧ xr_c xM xmi_X5_weightOf.1 r = true := xc_up_e (mi := xmi_X5_weightOf) (cd := xc_X5_weightOf) (N := 48) (xc_up_s (mi := xmi_X5_weightOf) (cd := xc_X5_weightOf) (lo := 0) (n := 48) xc_up_0 xo_c_X5_weightOf_0) (by decide +kernel)
set_option maxRecDepth 20000 in
theorem xo_m_X5_tell : xm_b xmi_X5_tell (4, 82) (1, 8) (4, 81) (0, 43) = true := by decide +kernel
set_option maxRecDepth 20000 in
theorem xo_c_X5_tell_0 : xc_b xmi_X5_tell xc_X5_tell 0 64 = true := by decide +kernel
theorem xo_r_X5_tell : ∀ (pc : Nat) (r : xr_R), xcl xc_X5_tell pc = some r → xr_b xmi_X5_tell.1 (xm_ini xmi_X5_tell) xmi_X5_tell.2.2.1 pc r = true ∧ xr_c xM xmi_X5_tell.1 r = true := xc_up_e (mi := xmi_X5_tell) (cd := xc_X5_tell) (N := 64) (xc_up_s (mi := xmi_X5_tell) (cd := xc_X5_tell) (lo := 0) (n := 64) xc_up_0 xo_c_X5_tell_0) (by decide +kernel)
set_option maxRecDepth 20000 in
theorem xo_m_X6_init : xm_b xmi_X6_init (1, 77) (1, 5) (1, 76) (99, 0) = true := by decide +kernel
set_option maxRecDepth 20000 in
theorem xo_c_X6_init_0 : xc_b xmi_X6_init xc_X6_init 0 16 = true := by decide +kernel
theorem xo_r_X6_init : ∀ (pc : Nat) (r : xr_R), xcl xc_X6_init pc = some r → xr_b xmi_X6_init.1 (xm_ini xmi_X6_init) xmi_X6_init.2.2.1 pc r = true ∧ xr_c xM xmi_X6_init.1 r = true := xc_up_e (mi := xmi_X6_init) (cd := xc_X6_init) (N := 16) (xc_up_s (mi := xmi_X6_init) (cd := xc_X6_init) (lo := 0) (n := 16) xc_up_0 xo_c_X6_init_0) (by decide +kernel)
set_option maxRecDepth 20000 in
theorem xo_m_X6_begin : xm_b xmi_X6_begin (2, 170) (1, 5) (2, 168) (2, 169) = true := by decide +kernel
set_option maxRecDepth 20000 in
theorem xo_c_X6_begin_0 : xc_b xmi_X6_begin xc_X6_begin 0 32 = true := by decide +kernel
theorem xo_r_X6_begin : ∀ (pc : Nat) (r : xr_R), xcl xc_X6_begin pc = some r → xr_b xmi_X6_begin.1 (xm_ini xmi_X6_begin) xmi_X6_begin.2.2.1 pc r = true ∧ xr_c xM xmi_X6_begin.1 r = true := xc_up_e (mi := xmi_X6_begin) (cd := xc_X6_begin) (N := 32) (xc_up_s (mi := xmi_X6_begin) (cd := xc_X6_begin) (lo := 0) (n := 32) xc_up_0 xo_c_X6_begin_0) (by decide +kernel)
set_option maxRecDepth 20000 in
theorem xo_m_X6_isCut : xm_b xmi_X6_isCut (3, 109) (1, 5) (3, 107) (3, 108) = true := by decide +kernel
set_option maxRecDepth 20000 in
theorem xo_c_X6_isCut_0 : xc_b xmi_X6_isCut xc_X6_isCut 0 32 = true := by decide +kernel
theorem xo_r_X6_isCut : ∀ (pc : Nat) (r : xr_R), xcl xc_X6_isCut pc = some r → xr_b xmi_X6_isCut.1 (xm_ini xmi_X6_isCut) xmi_X6_isCut.2.2.1 pc r = true ∧ xr_c xM xmi_X6_isCut.1 r = true := xc_up_e (mi := xmi_X6_isCut) (cd := xc_X6_isCut) (N := 32) (xc_up_s (mi := xmi_X6_isCut) (cd := xc_X6_isCut) (lo := 0) (n := 32) xc_up_0 xo_c_X6_isCut_0) (by decide +kernel)
set_option maxRecDepth 20000 in
theorem xo_m_X6_advance : xm_b xmi_X6_advance (2, 177) (1, 5) (2, 175) (2, 176) = true := by decide +kernel
set_option maxRecDepth 20000 in
theorem xo_c_X6_advance_0 : xc_b xmi_X6_advance xc_X6_advance 0 112 = true := by decide +kernel
set_option maxRecDepth 20000 in
theorem xo_c_X6_advance_112 : xc_b xmi_X6_advance xc_X6_advance 112 64 = true := by decide +kernel
theorem xo_r_X6_advance : ∀ (pc : Nat) (r : xr_R), xcl xc_X6_advance pc = some r → xr_b xmi_X6_advance.1 (xm_ini xmi_X6_advance) xmi_X6_advance.2.2.1 pc r = true ∧ xr_c xM xmi_X6_advance.1 r = true := xc_up_e (mi := xmi_X6_advance) (cd := xc_X6_advance) (N := 176) (xc_up_s (mi := xmi_X6_advance) (cd := xc_X6_advance) (lo := 112) (n := 64) (xc_up_s (mi := xmi_X6_advance) (cd := xc_X6_advance) (lo := 0) (n := 112) xc_up_0 xo_c_X6_advance_0) xo_c_X6_advance_112) (by decide +kernel)
set_option maxRecDepth 20000 in
theorem xo_m_X6_takeRun : xm_b xmi_X6_takeRun (2, 194) (1, 5) (2, 193) (0, 0) = true := by decide +kernel
set_option maxRecDepth 20000 in
theorem xo_c_X6_takeRun_0 : xc_b xmi_X6_takeRun xc_X6_takeRun 0 112 = true := by decide +kernel
set_option maxRecDepth 20000 in
theorem xo_c_X6_takeRun_112 : xc_b xmi_X6_takeRun xc_X6_takeRun 112 32 = true := by decide +kernel
theorem xo_r_X6_takeRun : ∀ (pc : Nat) (r : xr_R), xcl xc_X6_takeRun pc = some r → xr_b xmi_X6_takeRun.1 (xm_ini xmi_X6_takeRun) xmi_X6_takeRun.2.2.1 pc r = true ∧ xr_c xM xmi_X6_takeRun.1 r = true := xc_up_e (mi := xmi_X6_takeRun) (cd := xc_X6_takeRun) (N := 144) (xc_up_s (mi := xmi_X6_takeRun) (cd := xc_X6_takeRun) (lo := 112) (n := 32) (xc_up_s (mi := xmi_X6_takeRun) (cd := xc_X6_takeRun) (lo := 0) (n := 112) xc_up_0 xo_c_X6_takeRun_0) xo_c_X6_takeRun_112) (by decide +kernel)
set_option maxRecDepth 20000 in
theorem xo_m_X6_isWord : xm_b xmi_X6_isWord (2, 202) (1, 5) (2, 200) (2, 201) = true := by decide +kernel
set_option maxRecDepth 20000 in
theorem xo_c_X6_isWord_0 : xc_b xmi_X6_isWord xc_X6_isWord 0 80 = true := by decide +kernel
theorem xo_r_X6_isWord : ∀ (pc : Nat) (r : xr_R), xcl xc_X6_isWord pc = some r → xr_b xmi_X6_isWord.1 (xm_ini xmi_X6_isWord) xmi_X6_isWord.2.2.1 pc r = true ∧ xr_c xM xmi_X6_isWord.1 r = true := xc_up_e (mi := xmi_X6_isWord) (cd := xc_X6_isWord) (N := 80) (xc_up_s (mi := xmi_X6_isWord) (cd := xc_X6_isWord) (lo := 0) (n := 80) xc_up_0 xo_c_X6_isWord_0) (by decide +kernel)
set_option maxRecDepth 20000 in
theorem xo_m_X6_isName : xm_b xmi_X6_isName (3, 23) (1, 5) (3, 21) (3, 22) = true := by decide +kernel
set_option maxRecDepth 20000 in
theorem xo_c_X6_isName_0 : xc_b xmi_X6_isName xc_X6_isName 0 96 = true := by decide +kernel
theorem xo_r_X6_isName : ∀ (pc : Nat) (r : xr_R), xcl xc_X6_isName pc = some r → xr_b xmi_X6_isName.1 (xm_ini xmi_X6_isName) xmi_X6_isName.2.2.1 pc r = true ∧ xr_c xM xmi_X6_isName.1 r = true := xc_up_e (mi := xmi_X6_isName) (cd := xc_X6_isName) (N := 96) (xc_up_s (mi := xmi_X6_isName) (cd := xc_X6_isName) (lo := 0) (n := 96) xc_up_0 xo_c_X6_isName_0) (by decide +kernel)
set_option maxRecDepth 20000 in
theorem xo_m_X6_isLone : xm_b xmi_X6_isLone (3, 86) (1, 5) (3, 84) (3, 85) = true := by decide +kernel
set_option maxRecDepth 20000 in
theorem xo_c_X6_isLone_0 : xc_b xmi_X6_isLone xc_X6_isLone 0 32 = true := by decide +kernel
theorem xo_r_X6_isLone : ∀ (pc : Nat) (r : xr_R), xcl xc_X6_isLone pc = some r → xr_b xmi_X6_isLone.1 (xm_ini xmi_X6_isLone) xmi_X6_isLone.2.2.1 pc r = true ∧ xr_c xM xmi_X6_isLone.1 r = true := xc_up_e (mi := xmi_X6_isLone) (cd := xc_X6_isLone) (N := 32) (xc_up_s (mi := xmi_X6_isLone) (cd := xc_X6_isLone) (lo := 0) (n := 32) xc_up_0 xo_c_X6_isLone_0) (by decide +kernel)
set_option maxRecDepth 20000 in
theorem xo_m_X6_letter : xm_b xmi_X6_letter (3, 94) (1, 5) (3, 92) (3, 93) = true := by decide +kernel
set_option maxRecDepth 20000 in
theorem xo_c_X6_letter_0 : xc_b xmi_X6_letter xc_X6_letter 0 16 = true := by decide +kernel
theorem xo_r_X6_letter : ∀ (pc : Nat) (r : xr_R), xcl xc_X6_letter pc = some r → xr_b xmi_X6_letter.1 (xm_ini xmi_X6_letter) xmi_X6_letter.2.2.1 pc r = true ∧ xr_c xM xmi_X6_letter.1 r = true := xc_up_e (mi := xmi_X6_letter) (cd := xc_X6_letter) (N := 16) (xc_up_s (mi := xmi_X6_letter) (cd := xc_X6_letter) (lo := 0) (n := 16) xc_up_0 xo_c_X6_letter_0) (by decide +kernel)
set_option maxRecDepth 20000 in
theorem xo_m_X6_isLike : xm_b xmi_X6_isLike (3, 41) (1, 5) (3, 39) (3, 40) = true := by decide +kernel
set_option maxRecDepth 20000 in
theorem xo_c_X6_isLike_0 : xc_b xmi_X6_isLike xc_X6_isLike 0 64 = true := by decide +kernel
theorem xo_r_X6_isLike : ∀ (pc : Nat) (r : xr_R), xcl xc_X6_isLike pc = some r → xr_b xmi_X6_isLike.1 (xm_ini xmi_X6_isLike) xmi_X6_isLike.2.2.1 pc r = true ∧ xr_c xM xmi_X6_isLike.1 r = true := xc_up_e (mi := xmi_X6_isLike) (cd := xc_X6_isLike) (N := 64) (xc_up_s (mi := xmi_X6_isLike) (cd := xc_X6_isLike) (lo := 0) (n := 64) xc_up_0 xo_c_X6_isLike_0) (by decide +kernel)
set_option maxRecDepth 20000 in
theorem xo_m_X6_isBlank : xm_b xmi_X6_isBlank (2, 184) (1, 5) (2, 183) (99, 0) = true := by decide +kernel
set_option maxRecDepth 20000 in
theorem xo_c_X6_isBlank_0 : xc_b xmi_X6_isBlank xc_X6_isBlank 0 32 = true := by decide +kernel
theorem xo_r_X6_isBlank : ∀ (pc : Nat) (r : xr_R), xcl xc_X6_isBlank pc = some r → xr_b xmi_X6_isBlank.1 (xm_ini xmi_X6_isBlank) xmi_X6_isBlank.2.2.1 pc r = true ∧ xr_c xM xmi_X6_isBlank.1 r = true := xc_up_e (mi := xmi_X6_isBlank) (cd := xc_X6_isBlank) (N := 32) (xc_up_s (mi := xmi_X6_isBlank) (cd := xc_X6_isBlank) (lo := 0) (n := 32) xc_up_0 xo_c_X6_isBlank_0) (by decide +kernel)
set_option maxRecDepth 20000 in
theorem xo_m_X6_isLetter : xm_b xmi_X6_isLetter (2, 187) (1, 5) (2, 186) (99, 0) = true := by decide +kernel
set_option maxRecDepth 20000 in
theorem xo_c_X6_isLetter_0 : xc_b xmi_X6_isLetter xc_X6_isLetter 0 32 = true := by decide +kernel
theorem xo_r_X6_isLetter : ∀ (pc : Nat) (r : xr_R), xcl xc_X6_isLetter pc = some r → xr_b xmi_X6_isLetter.1 (xm_ini xmi_X6_isLetter) xmi_X6_isLetter.2.2.1 pc r = true ∧ xr_c xM xmi_X6_isLetter.1 r = true := xc_up_e (mi := xmi_X6_isLetter) (cd := xc_X6_isLetter) (N := 32) (xc_up_s (mi := xmi_X6_isLetter) (cd := xc_X6_isLetter) (lo := 0) (n := 32) xc_up_0 xo_c_X6_isLetter_0) (by decide +kernel)
set_option maxRecDepth 20000 in
theorem xo_m_X6_isDigit : xm_b xmi_X6_isDigit (2, 190) (1, 5) (2, 189) (99, 0) = true := by decide +kernel
set_option maxRecDepth 20000 in
theorem xo_c_X6_isDigit_0 : xc_b xmi_X6_isDigit xc_X6_isDigit 0 32 = true := by decide +kernel
theorem xo_r_X6_isDigit : ∀ (pc : Nat) (r : xr_R), xcl xc_X6_isDigit pc = some r → xr_b xmi_X6_isDigit.1 (xm_ini xmi_X6_isDigit) xmi_X6_isDigit.2.2.1 pc r = true ∧ xr_c xM xmi_X6_isDigit.1 r = true := xc_up_e (mi := xmi_X6_isDigit) (cd := xc_X6_isDigit) (N := 32) (xc_up_s (mi := xmi_X6_isDigit) (cd := xc_X6_isDigit) (lo := 0) (n := 32) xc_up_0 xo_c_X6_isDigit_0) (by decide +kernel)
set_option maxRecDepth 20000 in
theorem xo_m_X6_isSign : xm_b xmi_X6_isSign (2, 197) (1, 5) (2, 196) (99, 0) = true := by decide +kernel
set_option maxRecDepth 20000 in
theorem xo_c_X6_isSign_0 : xc_b xmi_X6_isSign xc_X6_isSign 0 48 = true := by decide +kernel
theorem xo_r_X6_isSign : ∀ (pc : Nat) (r : xr_R), xcl xc_X6_isSign pc = some r → xr_b xmi_X6_isSign.1 (xm_ini xmi_X6_isSign) xmi_X6_isSign.2.2.1 pc r = true ∧ xr_c xM xmi_X6_isSign.1 r = true := xc_up_e (mi := xmi_X6_isSign) (cd := xc_X6_isSign) (N := 48) (xc_up_s (mi := xmi_X6_isSign) (cd := xc_X6_isSign) (lo := 0) (n := 48) xc_up_0 xo_c_X6_isSign_0) (by decide +kernel)
set_option maxRecDepth 20000 in
theorem xo_m_X7_init : xm_b xmi_X7_init (1, 144) (1, 6) (1, 143) (99, 0) = true := by decide +kernel
set_option maxRecDepth 20000 in
theorem xo_c_X7_init_0 : xc_b xmi_X7_init xc_X7_init 0 32 = true := by decide +kernel
theorem xo_r_X7_init : ∀ (pc : Nat) (r : xr_R), xcl xc_X7_init pc = some r → xr_b xmi_X7_init.1 (xm_ini xmi_X7_init) xmi_X7_init.2.2.1 pc r = true ∧ xr_c xM xmi_X7_init.1 r = true := xc_up_e (mi := xmi_X7_init) (cd := xc_X7_init) (N := 32) (xc_up_s (mi := xmi_X7_init) (cd := xc_X7_init) (lo := 0) (n := 32) xc_up_0 xo_c_X7_init_0) (by decide +kernel)
set_option maxRecDepth 20000 in
theorem xo_m_X7_holds : xm_b xmi_X7_holds (3, 153) (1, 6) (3, 151) (3, 152) = true := by decide +kernel
set_option maxRecDepth 20000 in
theorem xo_c_X7_holds_0 : xc_b xmi_X7_holds xc_X7_holds 0 48 = true := by decide +kernel
theorem xo_r_X7_holds : ∀ (pc : Nat) (r : xr_R), xcl xc_X7_holds pc = some r → xr_b xmi_X7_holds.1 (xm_ini xmi_X7_holds) xmi_X7_holds.2.2.1 pc r = true ∧ xr_c xM xmi_X7_holds.1 r = true := xc_up_e (mi := xmi_X7_holds) (cd := xc_X7_holds) (N := 48) (xc_up_s (mi := xmi_X7_holds) (cd := xc_X7_holds) (lo := 0) (n := 48) xc_up_0 xo_c_X7_holds_0) (by decide +kernel)
set_option maxRecDepth 20000 in
theorem xo_m_X7_add : xm_b xmi_X7_add (2, 93) (1, 6) (2, 91) (2, 92) = true := by decide +kernel
set_option maxRecDepth 20000 in
theorem xo_c_X7_add_0 : xc_b xmi_X7_add xc_X7_add 0 32 = true := by decide +kernel
theorem xo_r_X7_add : ∀ (pc : Nat) (r : xr_R), xcl xc_X7_add pc = some r → xr_b xmi_X7_add.1 (xm_ini xmi_X7_add) xmi_X7_add.2.2.1 pc r = true ∧ xr_c xM xmi_X7_add.1 r = true := xc_up_e (mi := xmi_X7_add) (cd := xc_X7_add) (N := 32) (xc_up_s (mi := xmi_X7_add) (cd := xc_X7_add) (lo := 0) (n := 32) xc_up_0 xo_c_X7_add_0) (by decide +kernel)
set_option maxRecDepth 20000 in
theorem xo_m_X7_needAll : xm_b xmi_X7_needAll (2, 89) (1, 6) (2, 87) (2, 88) = true := by decide +kernel
set_option maxRecDepth 20000 in
theorem xo_c_X7_needAll_0 : xc_b xmi_X7_needAll xc_X7_needAll 0 32 = true := by decide +kernel
theorem xo_r_X7_needAll : ∀ (pc : Nat) (r : xr_R), xcl xc_X7_needAll pc = some r → xr_b xmi_X7_needAll.1 (xm_ini xmi_X7_needAll) xmi_X7_needAll.2.2.1 pc r = true ∧ xr_c xM xmi_X7_needAll.1 r = true := xc_up_e (mi := xmi_X7_needAll) (cd := xc_X7_needAll) (N := 32) (xc_up_s (mi := xmi_X7_needAll) (cd := xc_X7_needAll) (lo := 0) (n := 32) xc_up_0 xo_c_X7_needAll_0) (by decide +kernel)
set_option maxRecDepth 20000 in
theorem xo_m_X8_init : xm_b xmi_X8_init (1, 34) (1, 2) (1, 33) (99, 0) = true := by decide +kernel
set_option maxRecDepth 20000 in
theorem xo_c_X8_init_0 : xc_b xmi_X8_init xc_X8_init 0 32 = true := by decide +kernel
theorem xo_r_X8_init : ∀ (pc : Nat) (r : xr_R), xcl xc_X8_init pc = some r → xr_b xmi_X8_init.1 (xm_ini xmi_X8_init) xmi_X8_init.2.2.1 pc r = true ∧ xr_c xM xmi_X8_init.1 r = true := xc_up_e (mi := xmi_X8_init) (cd := xc_X8_init) (N := 32) (xc_up_s (mi := xmi_X8_init) (cd := xc_X8_init) (lo := 0) (n := 32) xc_up_0 xo_c_X8_init_0) (by decide +kernel)
set_option maxRecDepth 20000 in
theorem xo_m_X8_hasRoom : xm_b xmi_X8_hasRoom (2, 138) (1, 2) (2, 136) (2, 137) = true := by decide +kernel
set_option maxRecDepth 20000 in
theorem xo_c_X8_hasRoom_0 : xc_b xmi_X8_hasRoom xc_X8_hasRoom 0 32 = true := by decide +kernel
theorem xo_r_X8_hasRoom : ∀ (pc : Nat) (r : xr_R), xcl xc_X8_hasRoom pc = some r → xr_b xmi_X8_hasRoom.1 (xm_ini xmi_X8_hasRoom) xmi_X8_hasRoom.2.2.1 pc r = true ∧ xr_c xM xmi_X8_hasRoom.1 r = true := xc_up_e (mi := xmi_X8_hasRoom) (cd := xc_X8_hasRoom) (N := 32) (xc_up_s (mi := xmi_X8_hasRoom) (cd := xc_X8_hasRoom) (lo := 0) (n := 32) xc_up_0 xo_c_X8_hasRoom_0) (by decide +kernel)
set_option maxRecDepth 20000 in
theorem xo_m_X8_put : xm_b xmi_X8_put (2, 142) (1, 2) (2, 140) (2, 141) = true := by decide +kernel
set_option maxRecDepth 20000 in
theorem xo_c_X8_put_0 : xc_b xmi_X8_put xc_X8_put 0 48 = true := by decide +kernel
theorem xo_r_X8_put : ∀ (pc : Nat) (r : xr_R), xcl xc_X8_put pc = some r → xr_b xmi_X8_put.1 (xm_ini xmi_X8_put) xmi_X8_put.2.2.1 pc r = true ∧ xr_c xM xmi_X8_put.1 r = true := xc_up_e (mi := xmi_X8_put) (cd := xc_X8_put) (N := 48) (xc_up_s (mi := xmi_X8_put) (cd := xc_X8_put) (lo := 0) (n := 48) xc_up_0 xo_c_X8_put_0) (by decide +kernel)
set_option maxRecDepth 20000 in
theorem xo_m_X8_at : xm_b xmi_X8_at (2, 181) (1, 2) (2, 179) (2, 180) = true := by decide +kernel
set_option maxRecDepth 20000 in
theorem xo_c_X8_at_0 : xc_b xmi_X8_at xc_X8_at 0 32 = true := by decide +kernel
theorem xo_r_X8_at : ∀ (pc : Nat) (r : xr_R), xcl xc_X8_at pc = some r → xr_b xmi_X8_at.1 (xm_ini xmi_X8_at) xmi_X8_at.2.2.1 pc r = true ∧ xr_c xM xmi_X8_at.1 r = true := xc_up_e (mi := xmi_X8_at) (cd := xc_X8_at) (N := 32) (xc_up_s (mi := xmi_X8_at) (cd := xc_X8_at) (lo := 0) (n := 32) xc_up_0 xo_c_X8_at_0) (by decide +kernel)
set_option maxRecDepth 20000 in
theorem xo_m_X9_init : xm_b xmi_X9_init (1, 26) (1, 1) (1, 25) (99, 0) = true := by decide +kernel
set_option maxRecDepth 20000 in
theorem xo_c_X9_init_0 : xc_b xmi_X9_init xc_X9_init 0 112 = true := by decide +kernel
set_option maxRecDepth 20000 in
theorem xo_c_X9_init_112 : xc_b xmi_X9_init xc_X9_init 112 32 = true := by decide +kernel
theorem xo_r_X9_init : ∀ (pc : Nat) (r : xr_R), xcl xc_X9_init pc = some r → xr_b xmi_X9_init.1 (xm_ini xmi_X9_init) xmi_X9_init.2.2.1 pc r = true ∧ xr_c xM xmi_X9_init.1 r = true := xc_up_e (mi := xmi_X9_init) (cd := xc_X9_init) (N := 144) (xc_up_s (mi := xmi_X9_init) (cd := xc_X9_init) (lo := 112) (n := 32) (xc_up_s (mi := xmi_X9_init) (cd := xc_X9_init) (lo := 0) (n := 112) xc_up_0 xo_c_X9_init_0) xo_c_X9_init_112) (by decide +kernel)
set_option maxRecDepth 20000 in
theorem xo_m_X9_feed : xm_b xmi_X9_feed (2, 134) (1, 1) (2, 132) (2, 133) = true := by decide +kernel
set_option maxRecDepth 20000 in
theorem xo_c_X9_feed_0 : xc_b xmi_X9_feed xc_X9_feed 0 64 = true := by decide +kernel
theorem xo_r_X9_feed : ∀ (pc : Nat) (r : xr_R), xcl xc_X9_feed pc = some r → xr_b xmi_X9_feed.1 (xm_ini xmi_X9_feed) xmi_X9_feed.2.2.1 pc r = true ∧ xr_c xM xmi_X9_feed.1 r = true := xc_up_e (mi := xmi_X9_feed) (cd := xc_X9_feed) (N := 64) (xc_up_s (mi := xmi_X9_feed) (cd := xc_X9_feed) (lo := 0) (n := 64) xc_up_0 xo_c_X9_feed_0) (by decide +kernel)
set_option maxRecDepth 20000 in
theorem xo_m_X9_end : xm_b xmi_X9_end (2, 146) (1, 1) (2, 144) (2, 145) = true := by decide +kernel
set_option maxRecDepth 20000 in
theorem xo_c_X9_end_0 : xc_b xmi_X9_end xc_X9_end 0 32 = true := by decide +kernel
theorem xo_r_X9_end : ∀ (pc : Nat) (r : xr_R), xcl xc_X9_end pc = some r → xr_b xmi_X9_end.1 (xm_ini xmi_X9_end) xmi_X9_end.2.2.1 pc r = true ∧ xr_c xM xmi_X9_end.1 r = true := xc_up_e (mi := xmi_X9_end) (cd := xc_X9_end) (N := 32) (xc_up_s (mi := xmi_X9_end) (cd := xc_X9_end) (lo := 0) (n := 32) xc_up_0 xo_c_X9_end_0) (by decide +kernel)
set_option maxRecDepth 20000 in
theorem xo_m_X9_next : xm_b xmi_X9_next (2, 150) (1, 1) (2, 148) (2, 149) = true := by decide +kernel
set_option maxRecDepth 20000 in
theorem xo_c_X9_next_0 : xc_b xmi_X9_next xc_X9_next 0 48 = true := by decide +kernel
theorem xo_r_X9_next : ∀ (pc : Nat) (r : xr_R), xcl xc_X9_next pc = some r → xr_b xmi_X9_next.1 (xm_ini xmi_X9_next) xmi_X9_next.2.2.1 pc r = true ∧ xr_c xM xmi_X9_next.1 r = true := xc_up_e (mi := xmi_X9_next) (cd := xc_X9_next) (N := 48) (xc_up_s (mi := xmi_X9_next) (cd := xc_X9_next) (lo := 0) (n := 48) xc_up_0 xo_c_X9_next_0) (by decide +kernel)
end XCK3
