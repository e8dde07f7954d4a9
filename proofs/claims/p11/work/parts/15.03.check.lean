section XCK3
set_option maxRecDepth 20000 in
theorem xo_m_X4_readAll : xm_b xmi_X4_readAll (1, 3) (3, 52) (0, 7) = true := by decide +kernel
theorem xo_w_X4_readAll : Cond.code xmi_X4_readAll.2.1 xmi_X4_readAll.2.2.1 xmi_X4_readAll.2.2.2.1 xmi_X4_readAll.2.2.2.2.1 ∈ xG := xw_in2 (K := 3) (i := 53) rfl rfl
set_option maxRecDepth 20000 in
theorem xo_c_X4_readAll_0 : xc_b xmi_X4_readAll xc_X4_readAll 0 64 = true := by decide +kernel
theorem xo_r_X4_readAll : ∀ (pc : Nat) (r : xr_R), xcl xc_X4_readAll pc = some r → xr_b xmi_X4_readAll.1 (xm_ini xmi_X4_readAll) xmi_X4_readAll.2.2.1 pc r = true ∧ xr_c xM xmi_X4_readAll.1 r = true := xc_up_e (mi := xmi_X4_readAll) (cd := xc_X4_readAll) (N := 64) (xc_up_s (mi := xmi_X4_readAll) (cd := xc_X4_readAll) (lo := 0) (n := 64) xc_up_0 xo_c_X4_readAll_0) (by decide +kernel)
set_option maxRecDepth 20000 in
theorem xo_m_X4_readOne : xm_b xmi_X4_readOne (1, 3) (3, 56) (0, 8) = true := by decide +kernel
theorem xo_w_X4_readOne : Cond.code xmi_X4_readOne.2.1 xmi_X4_readOne.2.2.1 xmi_X4_readOne.2.2.2.1 xmi_X4_readOne.2.2.2.2.1 ∈ xG := xw_in2 (K := 3) (i := 57) rfl rfl
set_option maxRecDepth 20000 in
theorem xo_c_X4_readOne_0 : xc_b xmi_X4_readOne xc_X4_readOne 0 112 = true := by decide +kernel
set_option maxRecDepth 20000 in
theorem xo_c_X4_readOne_112 : xc_b xmi_X4_readOne xc_X4_readOne 112 48 = true := by decide +kernel
theorem xo_r_X4_readOne : ∀ (pc : Nat) (r : xr_R), xcl xc_X4_readOne pc = some r → xr_b xmi_X4_readOne.1 (xm_ini xmi_X4_readOne) xmi_X4_readOne.2.2.1 pc r = true ∧ xr_c xM xmi_X4_readOne.1 r = true := xc_up_e (mi := xmi_X4_readOne) (cd := xc_X4_readOne) (N := 160) (xc_up_s (mi := xmi_X4_readOne) (cd := xc_X4_readOne) (lo := 112) (n := 48) (xc_up_s (mi := xmi_X4_readOne) (cd := xc_X4_readOne) (lo := 0) (n := 112) xc_up_0 xo_c_X4_readOne_0) xo_c_X4_readOne_112) (by decide +kernel)
set_option maxRecDepth 20000 in
theorem xo_m_X4_noteMember : xm_b xmi_X4_noteMember (1, 3) (3, 89) (0, 14) = true := by decide +kernel
theorem xo_w_X4_noteMember : Cond.code xmi_X4_noteMember.2.1 xmi_X4_noteMember.2.2.1 xmi_X4_noteMember.2.2.2.1 xmi_X4_noteMember.2.2.2.2.1 ∈ xG := xw_in2 (K := 3) (i := 90) rfl rfl
set_option maxRecDepth 20000 in
theorem xo_c_X4_noteMember_0 : xc_b xmi_X4_noteMember xc_X4_noteMember 0 48 = true := by decide +kernel
theorem xo_r_X4_noteMember : ∀ (pc : Nat) (r : xr_R), xcl xc_X4_noteMember pc = some r → xr_b xmi_X4_noteMember.1 (xm_ini xmi_X4_noteMember) xmi_X4_noteMember.2.2.1 pc r = true ∧ xr_c xM xmi_X4_noteMember.1 r = true := xc_up_e (mi := xmi_X4_noteMember) (cd := xc_X4_noteMember) (N := 48) (xc_up_s (mi := xmi_X4_noteMember) (cd := xc_X4_noteMember) (lo := 0) (n := 48) xc_up_0 xo_c_X4_noteMember_0) (by decide +kernel)
set_option maxRecDepth 20000 in
theorem xo_m_X4_noteName : xm_b xmi_X4_noteName (1, 3) (3, 97) (0, 15) = true := by decide +kernel
theorem xo_w_X4_noteName : Cond.code xmi_X4_noteName.2.1 xmi_X4_noteName.2.2.1 xmi_X4_noteName.2.2.2.1 xmi_X4_noteName.2.2.2.2.1 ∈ xG := xw_in2 (K := 3) (i := 98) rfl rfl
set_option maxRecDepth 20000 in
theorem xo_c_X4_noteName_0 : xc_b xmi_X4_noteName xc_X4_noteName 0 64 = true := by decide +kernel
theorem xo_r_X4_noteName : ∀ (pc : Nat) (r : xr_R), xcl xc_X4_noteName pc = some r → xr_b xmi_X4_noteName.1 (xm_ini xmi_X4_noteName) xmi_X4_noteName.2.2.1 pc r = true ∧ xr_c xM xmi_X4_noteName.1 r = true := xc_up_e (mi := xmi_X4_noteName) (cd := xc_X4_noteName) (N := 64) (xc_up_s (mi := xmi_X4_noteName) (cd := xc_X4_noteName) (lo := 0) (n := 64) xc_up_0 xo_c_X4_noteName_0) (by decide +kernel)
set_option maxRecDepth 20000 in
theorem xo_m_X4_countOne : xm_b xmi_X4_countOne (1, 3) (3, 64) (0, 10) = true := by decide +kernel
theorem xo_w_X4_countOne : Cond.code xmi_X4_countOne.2.1 xmi_X4_countOne.2.2.1 xmi_X4_countOne.2.2.2.1 xmi_X4_countOne.2.2.2.2.1 ∈ xG := xw_in2 (K := 3) (i := 65) rfl rfl
set_option maxRecDepth 20000 in
theorem xo_c_X4_countOne_0 : xc_b xmi_X4_countOne xc_X4_countOne 0 48 = true := by decide +kernel
theorem xo_r_X4_countOne : ∀ (pc : Nat) (r : xr_R), xcl xc_X4_countOne pc = some r → xr_b xmi_X4_countOne.1 (xm_ini xmi_X4_countOne) xmi_X4_countOne.2.2.1 pc r = true ∧ xr_c xM xmi_X4_countOne.1 r = true := xc_up_e (mi := xmi_X4_countOne) (cd := xc_X4_countOne) (N := 48) (xc_up_s (mi := xmi_X4_countOne) (cd := xc_X4_countOne) (lo := 0) (n := 48) xc_up_0 xo_c_X4_countOne_0) (by decide +kernel)
set_option maxRecDepth 20000 in
theorem xo_m_X4_readQuota : xm_b xmi_X4_readQuota (1, 3) (3, 60) (0, 9) = true := by decide +kernel
theorem xo_w_X4_readQuota : Cond.code xmi_X4_readQuota.2.1 xmi_X4_readQuota.2.2.1 xmi_X4_readQuota.2.2.2.1 xmi_X4_readQuota.2.2.2.2.1 ∈ xG := xw_in2 (K := 3) (i := 61) rfl rfl
set_option maxRecDepth 20000 in
theorem xo_c_X4_readQuota_0 : xc_b xmi_X4_readQuota xc_X4_readQuota 0 112 = true := by decide +kernel
set_option maxRecDepth 20000 in
theorem xo_c_X4_readQuota_112 : xc_b xmi_X4_readQuota xc_X4_readQuota 112 32 = true := by decide +kernel
theorem xo_r_X4_readQuota : ∀ (pc : Nat) (r : xr_R), xcl xc_X4_readQuota pc = some r → xr_b xmi_X4_readQuota.1 (xm_ini xmi_X4_readQuota) xmi_X4_readQuota.2.2.1 pc r = true ∧ xr_c xM xmi_X4_readQuota.1 r = true := xc_up_e (mi := xmi_X4_readQuota) (cd := xc_X4_readQuota) (N := 144) (xc_up_s (mi := xmi_X4_readQuota) (cd := xc_X4_readQuota) (lo := 112) (n := 32) (xc_up_s (mi := xmi_X4_readQuota) (cd := xc_X4_readQuota) (lo := 0) (n := 112) xc_up_0 xo_c_X4_readQuota_0) xo_c_X4_readQuota_112) (by decide +kernel)
set_option maxRecDepth 20000 in
theorem xo_m_X4_readItem : xm_b xmi_X4_readItem (1, 3) (3, 81) (0, 13) = true := by decide +kernel
theorem xo_w_X4_readItem : Cond.code xmi_X4_readItem.2.1 xmi_X4_readItem.2.2.1 xmi_X4_readItem.2.2.2.1 xmi_X4_readItem.2.2.2.2.1 ∈ xG := xw_in2 (K := 3) (i := 82) rfl rfl
set_option maxRecDepth 20000 in
theorem xo_c_X4_readItem_0 : xc_b xmi_X4_readItem xc_X4_readItem 0 112 = true := by decide +kernel
set_option maxRecDepth 20000 in
theorem xo_c_X4_readItem_112 : xc_b xmi_X4_readItem xc_X4_readItem 112 16 = true := by decide +kernel
theorem xo_r_X4_readItem : ∀ (pc : Nat) (r : xr_R), xcl xc_X4_readItem pc = some r → xr_b xmi_X4_readItem.1 (xm_ini xmi_X4_readItem) xmi_X4_readItem.2.2.1 pc r = true ∧ xr_c xM xmi_X4_readItem.1 r = true := xc_up_e (mi := xmi_X4_readItem) (cd := xc_X4_readItem) (N := 128) (xc_up_s (mi := xmi_X4_readItem) (cd := xc_X4_readItem) (lo := 112) (n := 16) (xc_up_s (mi := xmi_X4_readItem) (cd := xc_X4_readItem) (lo := 0) (n := 112) xc_up_0 xo_c_X4_readItem_0) xo_c_X4_readItem_112) (by decide +kernel)
set_option maxRecDepth 20000 in
theorem xo_m_X5_init : xm_b xmi_X5_init (1, 8) (1, 218) (99, 0) = true := by decide +kernel
theorem xo_w_X5_init : Cond.code xmi_X5_init.2.1 xmi_X5_init.2.2.1 xmi_X5_init.2.2.2.1 xmi_X5_init.2.2.2.2.1 ∈ xG := xw_in2 (K := 1) (i := 219) rfl rfl
set_option maxRecDepth 20000 in
theorem xo_c_X5_init_0 : xc_b xmi_X5_init xc_X5_init 0 112 = true := by decide +kernel
theorem xo_r_X5_init : ∀ (pc : Nat) (r : xr_R), xcl xc_X5_init pc = some r → xr_b xmi_X5_init.1 (xm_ini xmi_X5_init) xmi_X5_init.2.2.1 pc r = true ∧ xr_c xM xmi_X5_init.1 r = true := xc_up_e (mi := xmi_X5_init) (cd := xc_X5_init) (N := 112) (xc_up_s (mi := xmi_X5_init) (cd := xc_X5_init) (lo := 0) (n := 112) xc_up_0 xo_c_X5_init_0) (by decide +kernel)
set_option maxRecDepth 20000 in
theorem xo_m_X5_look : xm_b xmi_X5_look (1, 8) (4, 37) (4, 38) = true := by decide +kernel
theorem xo_w_X5_look : Cond.code xmi_X5_look.2.1 xmi_X5_look.2.2.1 xmi_X5_look.2.2.2.1 xmi_X5_look.2.2.2.2.1 ∈ xG := xw_in2 (K := 4) (i := 39) rfl rfl
set_option maxRecDepth 20000 in
theorem xo_c_X5_look_0 : xc_b xmi_X5_look xc_X5_look 0 64 = true := by decide +kernel
theorem xo_r_X5_look : ∀ (pc : Nat) (r : xr_R), xcl xc_X5_look pc = some r → xr_b xmi_X5_look.1 (xm_ini xmi_X5_look) xmi_X5_look.2.2.1 pc r = true ∧ xr_c xM xmi_X5_look.1 r = true := xc_up_e (mi := xmi_X5_look) (cd := xc_X5_look) (N := 64) (xc_up_s (mi := xmi_X5_look) (cd := xc_X5_look) (lo := 0) (n := 64) xc_up_0 xo_c_X5_look_0) (by decide +kernel)
set_option maxRecDepth 20000 in
theorem xo_m_X5_search : xm_b xmi_X5_search (1, 8) (4, 43) (0, 34) = true := by decide +kernel
theorem xo_w_X5_search : Cond.code xmi_X5_search.2.1 xmi_X5_search.2.2.1 xmi_X5_search.2.2.2.1 xmi_X5_search.2.2.2.2.1 ∈ xG := xw_in2 (K := 4) (i := 44) rfl rfl
set_option maxRecDepth 20000 in
theorem xo_c_X5_search_0 : xc_b xmi_X5_search xc_X5_search 0 112 = true := by decide +kernel
set_option maxRecDepth 20000 in
theorem xo_c_X5_search_112 : xc_b xmi_X5_search xc_X5_search 112 32 = true := by decide +kernel
theorem xo_r_X5_search : ∀ (pc : Nat) (r : xr_R), xcl xc_X5_search pc = some r → xr_b xmi_X5_search.1 (xm_ini xmi_X5_search) xmi_X5_search.2.2.1 pc r = true ∧ xr_c xM xmi_X5_search.1 r = true := xc_up_e (mi := xmi_X5_search) (cd := xc_X5_search) (N := 144) (xc_up_s (mi := xmi_X5_search) (cd := xc_X5_search) (lo := 112) (n := 32) (xc_up_s (mi := xmi_X5_search) (cd := xc_X5_search) (lo := 0) (n := 112) xc_up_0 xo_c_X5_search_0) xo_c_X5_search_112) (by decide +kernel)
set_option maxRecDepth 20000 in
theorem xo_m_X5_findClasses : xm_b xmi_X5_findClasses (1, 8) (4, 48) (0, 35) = true := by decide +kernel
theorem xo_w_X5_findClasses : Cond.code xmi_X5_findClasses.2.1 xmi_X5_findClasses.2.2.1 xmi_X5_findClasses.2.2.2.1 xmi_X5_findClasses.2.2.2.2.1 ∈ xG := xw_in2 (K := 4) (i := 49) rfl rfl
set_option maxRecDepth 20000 in
theorem xo_c_X5_findClasses_0 : xc_b xmi_X5_findClasses xc_X5_findClasses 0 112 = true := by decide +kernel
set_option maxRecDepth 20000 in
theorem xo_c_X5_findClasses_112 : xc_b xmi_X5_findClasses xc_X5_findClasses 112 16 = true := by decide +kernel
theorem xo_r_X5_findClasses : ∀ (pc : Nat) (r : xr_R), xcl xc_X5_findClasses pc = some r → xr_b xmi_X5_findClasses.1 (xm_ini xmi_X5_findClasses) xmi_X5_findClasses.2.2.1 pc r = true ∧ xr_c xM xmi_X5_findClasses.1 r = true := xc_up_e (mi := xmi_X5_findClasses) (cd := xc_X5_findClasses) (N := 128) (xc_up_s (mi := xmi_X5_findClasses) (cd := xc_X5_findClasses) (lo := 112) (n := 16) (xc_up_s (mi := xmi_X5_findClasses) (cd := xc_X5_findClasses) (lo := 0) (n := 112) xc_up_0 xo_c_X5_findClasses_0) xo_c_X5_findClasses_112) (by decide +kernel)
set_option maxRecDepth 20000 in
theorem xo_m_X5_isFirst : xm_b xmi_X5_isFirst (1, 8) (4, 52) (0, 36) = true := by decide +kernel
theorem xo_w_X5_isFirst : Cond.code xmi_X5_isFirst.2.1 xmi_X5_isFirst.2.2.1 xmi_X5_isFirst.2.2.2.1 xmi_X5_isFirst.2.2.2.2.1 ∈ xG := xw_in2 (K := 4) (i := 53) rfl rfl
set_option maxRecDepth 20000 in
theorem xo_c_X5_isFirst_0 : xc_b xmi_X5_isFirst xc_X5_isFirst 0 32 = true := by decide +kernel
theorem xo_r_X5_isFirst : ∀ (pc : Nat) (r : xr_R), xcl xc_X5_isFirst pc = some r → xr_b xmi_X5_isFirst.1 (xm_ini xmi_X5_isFirst) xmi_X5_isFirst.2.2.1 pc r = true ∧ xr_c xM xmi_X5_isFirst.1 r = true := xc_up_e (mi := xmi_X5_isFirst) (cd := xc_X5_isFirst) (N := 32) (xc_up_s (mi := xmi_X5_isFirst) (cd := xc_X5_isFirst) (lo := 0) (n := 32) xc_up_0 xo_c_X5_isFirst_0) (by decide +kernel)
set_option maxRecDepth 20000 in
theorem xo_m_X5_strengthOf : xm_b xmi_X5_strengthOf (1, 8) (4, 57) (0, 37) = true := by decide +kernel
theorem xo_w_X5_strengthOf : Cond.code xmi_X5_strengthOf.2.1 xmi_X5_strengthOf.2.2.1 xmi_X5_strengthOf.2.2.2.1 xmi_X5_strengthOf.2.2.2.2.1 ∈ xG := xw_in2 (K := 4) (i := 58) rfl rfl
set_option maxRecDepth 20000 in
theorem xo_c_X5_strengthOf_0 : xc_b xmi_X5_strengthOf xc_X5_strengthOf 0 48 = true := by decide +kernel
theorem xo_r_X5_strengthOf : ∀ (pc : Nat) (r : xr_R), xcl xc_X5_strengthOf pc = some r → xr_b xmi_X5_strengthOf.1 (xm_ini xmi_X5_strengthOf) xmi_X5_strengthOf.2.2.1 pc r = true ∧ xr_c xM xmi_X5_strengthOf.1 r = true := xc_up_e (mi := xmi_X5_strengthOf) (cd := xc_X5_strengthOf) (N := 48) (xc_up_s (mi := xmi_X5_strengthOf) (cd := xc_X5_strengthOf) (lo := 0) (n := 48) xc_up_0 xo_c_X5_strengthOf_0) (by decide +kernel)
set_option maxRecDepth 20000 in
theorem xo_m_X5_place : xm_b xmi_X5_place (1, 8) (4, 61) (0, 38) = true := by decide +kernel
theorem xo_w_X5_place : Cond.code xmi_X5_place.2.1 xmi_X5_place.2.2.1 xmi_X5_place.2.2.2.1 xmi_X5_place.2.2.2.2.1 ∈ xG := xw_in2 (K := 4) (i := 62) rfl rfl
set_option maxRecDepth 20000 in
theorem xo_c_X5_place_0 : xc_b xmi_X5_place xc_X5_place 0 112 = true := by decide +kernel
set_option maxRecDepth 20000 in
theorem xo_c_X5_place_112 : xc_b xmi_X5_place xc_X5_place 112 16 = true := by decide +kernel
theorem xo_r_X5_place : ∀ (pc : Nat) (r : xr_R), xcl xc_X5_place pc = some r → xr_b xmi_X5_place.1 (xm_ini xmi_X5_place) xmi_X5_place.2.2.1 pc r = true ∧ xr_c xM xmi_X5_place.1 r = true := xc_up_e (mi := xmi_X5_place) (cd := xc_X5_place) (N := 128) (xc_up_s (mi := xmi_X5_place) (cd := xc_X5_place) (lo := 112) (n := 16) (xc_up_s (mi := xmi_X5_place) (cd := xc_X5_place) (lo := 0) (n := 112) xc_up_0 xo_c_X5_place_0) xo_c_X5_place_112) (by decide +kernel)
set_option maxRecDepth 20000 in
theorem xo_m_X5_lowest : xm_b xmi_X5_lowest (1, 8) (4, 85) (0, 44) = true := by decide +kernel
theorem xo_w_X5_lowest : Cond.code xmi_X5_lowest.2.1 xmi_X5_lowest.2.2.1 xmi_X5_lowest.2.2.2.1 xmi_X5_lowest.2.2.2.2.1 ∈ xG := xw_in2 (K := 4) (i := 86) rfl rfl
set_option maxRecDepth 20000 in
theorem xo_c_X5_lowest_0 : xc_b xmi_X5_lowest xc_X5_lowest 0 48 = true := by decide +kernel
theorem xo_r_X5_lowest : ∀ (pc : Nat) (r : xr_R), xcl xc_X5_lowest pc = some r → xr_b xmi_X5_lowest.1 (xm_ini xmi_X5_lowest) xmi_X5_lowest.2.2.1 pc r = true ∧ xr_c xM xmi_X5_lowest.1 r = true := xc_up_e (mi := xmi_X5_lowest) (cd := xc_X5_lowest) (N := 48) (xc_up_s (mi := xmi_X5_lowest) (cd := xc_X5_lowest) (lo := 0) (n := 48) xc_up_0 xo_c_X5_lowest_0) (by decide +kernel)
set_option maxRecDepth 20000 in
theorem xo_m_X5_highest : xm_b xmi_X5_highest (1, 8) (4, 89) (0, 45) = true := by decide +kernel
theorem xo_w_X5_highest : Cond.code xmi_X5_highest.2.1 xmi_X5_highest.2.2.1 xmi_X5_highest.2.2.2.1 xmi_X5_highest.2.2.2.2.1 ∈ xG := xw_in2 (K := 4) (i := 90) rfl rfl
set_option maxRecDepth 20000 in
theorem xo_c_X5_highest_0 : xc_b xmi_X5_highest xc_X5_highest 0 48 = true := by decide +kernel
theorem xo_r_X5_highest : ∀ (pc : Nat) (r : xr_R), xcl xc_X5_highest pc = some r → xr_b xmi_X5_highest.1 (xm_ini xmi_X5_highest) xmi_X5_highest.2.2.1 pc r = true ∧ xr_c xM xmi_X5_highest.1 r = true := xc_up_e (mi := xmi_X5_highest) (cd := xc_X5_highest) (N := 48) (xc_up_s (mi := xmi_X5_highest) (cd := xc_X5_highest) (lo := 0) (n := 48) xc_up_0 xo_c_X5_highest_0) (by decide +kernel)
set_option maxRecDepth 20000 in
theorem xo_m_X5_leastRest : xm_b xmi_X5_leastRest (1, 8) (4, 93) (0, 46) = true := by decide +kernel
theorem xo_w_X5_leastRest : Cond.code xmi_X5_leastRest.2.1 xmi_X5_leastRest.2.2.1 xmi_X5_leastRest.2.2.2.1 xmi_X5_leastRest.2.2.2.2.1 ∈ xG := xw_in2 (K := 4) (i := 94) rfl rfl
set_option maxRecDepth 20000 in
theorem xo_c_X5_leastRest_0 : xc_b xmi_X5_leastRest xc_X5_leastRest 0 64 = true := by decide +kernel
theorem xo_r_X5_leastRest : ∀ (pc : Nat) (r : xr_R), xcl xc_X5_leastRest pc = some r → xr_b xmi_X5_leastRest.1 (xm_ini xmi_X5_leastRest) xmi_X5_leastRest.2.2.1 pc r = true ∧ xr_c xM xmi_X5_leastRest.1 r = true := xc_up_e (mi := xmi_X5_leastRest) (cd := xc_X5_leastRest) (N := 64) (xc_up_s (mi := xmi_X5_leastRest) (cd := xc_X5_leastRest) (lo := 0) (n := 64) xc_up_0 xo_c_X5_leastRest_0) (by decide +kernel)
set_option maxRecDepth 20000 in
theorem xo_m_X5_mostRest : xm_b xmi_X5_mostRest (1, 8) (4, 97) (0, 47) = true := by decide +kernel
theorem xo_w_X5_mostRest : Cond.code xmi_X5_mostRest.2.1 xmi_X5_mostRest.2.2.1 xmi_X5_mostRest.2.2.2.1 xmi_X5_mostRest.2.2.2.2.1 ∈ xG := xw_in2 (K := 4) (i := 98) rfl rfl
set_option maxRecDepth 20000 in
theorem xo_c_X5_mostRest_0 : xc_b xmi_X5_mostRest xc_X5_mostRest 0 80 = true := by decide +kernel
theorem xo_r_X5_mostRest : ∀ (pc : Nat) (r : xr_R), xcl xc_X5_mostRest pc = some r → xr_b xmi_X5_mostRest.1 (xm_ini xmi_X5_mostRest) xmi_X5_mostRest.2.2.1 pc r = true ∧ xr_c xM xmi_X5_mostRest.1 r = true := xc_up_e (mi := xmi_X5_mostRest) (cd := xc_X5_mostRest) (N := 80) (xc_up_s (mi := xmi_X5_mostRest) (cd := xc_X5_mostRest) (lo := 0) (n := 80) xc_up_0 xo_c_X5_mostRest_0) (by decide +kernel)
set_option maxRecDepth 20000 in
theorem xo_m_X5_tryRow : xm_b xmi_X5_tryRow (1, 8) (4, 65) (0, 39) = true := by decide +kernel
theorem xo_w_X5_tryRow : Cond.code xmi_X5_tryRow.2.1 xmi_X5_tryRow.2.2.1 xmi_X5_tryRow.2.2.2.1 xmi_X5_tryRow.2.2.2.2.1 ∈ xG := xw_in2 (K := 4) (i := 66) rfl rfl
set_option maxRecDepth 20000 in
theorem xo_c_X5_tryRow_0 : xc_b xmi_X5_tryRow xc_X5_tryRow 0 96 = true := by decide +kernel
theorem xo_r_X5_tryRow : ∀ (pc : Nat) (r : xr_R), xcl xc_X5_tryRow pc = some r → xr_b xmi_X5_tryRow.1 (xm_ini xmi_X5_tryRow) xmi_X5_tryRow.2.2.1 pc r = true ∧ xr_c xM xmi_X5_tryRow.1 r = true := xc_up_e (mi := xmi_X5_tryRow) (cd := xc_X5_tryRow) (N := 96) (xc_up_s (mi := xmi_X5_tryRow) (cd := xc_X5_tryRow) (lo := 0) (n := 96) xc_up_0 xo_c_X5_tryRow_0) (by decide +kernel)
set_option maxRecDepth 20000 in
theorem xo_m_X5_doesTheSame : xm_b xmi_X5_doesTheSame (1, 8) (4, 69) (0, 40) = true := by decide +kernel
theorem xo_w_X5_doesTheSame : Cond.code xmi_X5_doesTheSame.2.1 xmi_X5_doesTheSame.2.2.1 xmi_X5_doesTheSame.2.2.2.1 xmi_X5_doesTheSame.2.2.2.2.1 ∈ xG := xw_in2 (K := 4) (i := 70) rfl rfl
set_option maxRecDepth 20000 in
theorem xo_c_X5_doesTheSame_0 : xc_b xmi_X5_doesTheSame xc_X5_doesTheSame 0 112 = true := by decide +kernel
theorem xo_r_X5_doesTheSame : ∀ (pc : Nat) (r : xr_R), xcl xc_X5_doesTheSame pc = some r → xr_b xmi_X5_doesTheSame.1 (xm_ini xmi_X5_doesTheSame) xmi_X5_doesTheSame.2.2.1 pc r = true ∧ xr_c xM xmi_X5_doesTheSame.1 r = true := xc_up_e (mi := xmi_X5_doesTheSame) (cd := xc_X5_doesTheSame) (N := 112) (xc_up_s (mi := xmi_X5_doesTheSame) (cd := xc_X5_doesTheSame) (lo := 0) (n := 112) xc_up_0 xo_c_X5_doesTheSame_0) (by decide +kernel)
set_option maxRecDepth 20000 in
theorem xo_m_X5_lightest : xm_b xmi_X5_lightest (1, 8) (4, 77) (0, 42) = true := by decide +kernel
theorem xo_w_X5_lightest : Cond.code xmi_X5_lightest.2.1 xmi_X5_lightest.2.2.1 xmi_X5_lightest.2.2.2.1 xmi_X5_lightest.2.2.2.2.1 ∈ xG := xw_in2 (K := 4) (i := 78) rfl rfl
set_option maxRecDepth 20000 in
theorem xo_c_X5_lightest_0 : xc_b xmi_X5_lightest xc_X5_lightest 0 64 = true := by decide +kernel
theorem xo_r_X5_lightest : ∀ (pc : Nat) (r : xr_R), xcl xc_X5_lightest pc = some r → xr_b xmi_X5_lightest.1 (xm_ini xmi_X5_lightest) xmi_X5_lightest.2.2.1 pc r = true ∧ xr_c xM xmi_X5_lightest.1 r = true := xc_up_e (mi := xmi_X5_lightest) (cd := xc_X5_lightest) (N := 64) (xc_up_s (mi := xmi_X5_lightest) (cd := xc_X5_lightest) (lo := 0) (n := 64) xc_up_0 xo_c_X5_lightest_0) (by decide +kernel)
set_option maxRecDepth 20000 in
theorem xo_m_X5_weightOf : xm_b xmi_X5_weightOf (1, 8) (4, 73) (0, 41) = true := by decide +kernel
theorem xo_w_X5_weightOf : Cond.code xmi_X5_weightOf.2.1 xmi_X5_weightOf.2.2.1 xmi_X5_weightOf.2.2.2.1 xmi_X5_weightOf.2.2.2.2.1 ∈ xG := xw_in2 (K := 4) (i := 74) rfl rfl
set_option maxRecDepth 20000 in
theorem xo_c_X5_weightOf_0 : xc_b xmi_X5_weightOf xc_X5_weightOf 0 48 = true := by decide +kernel
theorem xo_r_X5_weightOf : ∀ (pc : Nat) (r : xr_R), xcl xc_X5_weightOf pc = some r → xr_b xmi_X5_weightOf.1 (xm_ini xmi_X5_weightOf) xmi_X5_weightOf.2.2.1 pc r = true ∧ xr_c xM xmi_X5_weightOf.1 r = true := xc_up_e (mi := xmi_X5_weightOf) (cd := xc_X5_weightOf) (N := 48) (xc_up_s (mi := xmi_X5_weightOf) (cd := xc_X5_weightOf) (lo := 0) (n := 48) xc_up_0 xo_c_X5_weightOf_0) (by decide +kernel)
set_option maxRecDepth 20000 in
theorem xo_m_X5_tell : xm_b xmi_X5_tell (1, 8) (4, 81) (0, 43) = true := by decide +kernel
theorem xo_w_X5_tell : Cond.code xmi_X5_tell.2.1 xmi_X5_tell.2.2.1 xmi_X5_tell.2.2.2.1 xmi_X5_tell.2.2.2.2.1 ∈ xG := xw_in2 (K := 4) (i := 82) rfl rfl
set_option maxRecDepth 20000 in
theorem xo_c_X5_tell_0 : xc_b xmi_X5_tell xc_X5_tell 0 64 = true := by decide +kernel
theorem xo_r_X5_tell : ∀ (pc : Nat) (r : xr_R), xcl xc_X5_tell pc = some r → xr_b xmi_X5_tell.1 (xm_ini xmi_X5_tell) xmi_X5_tell.2.2.1 pc r = true ∧ xr_c xM xmi_X5_tell.1 r = true := xc_up_e (mi := xmi_X5_tell) (cd := xc_X5_tell) (N := 64) (xc_up_s (mi := xmi_X5_tell) (cd := xc_X5_tell) (lo := 0) (n := 64) xc_up_0 xo_c_X5_tell_0) (by decide +kernel)
set_option maxRecDepth 20000 in
theorem xo_m_X6_init : xm_b xmi_X6_init (1, 5) (1, 76) (99, 0) = true := by decide +kernel
theorem xo_w_X6_init : Cond.code xmi_X6_init.2.1 xmi_X6_init.2.2.1 xmi_X6_init.2.2.2.1 xmi_X6_init.2.2.2.2.1 ∈ xG := xw_in2 (K := 1) (i := 77) rfl rfl
set_option maxRecDepth 20000 in
theorem xo_c_X6_init_0 : xc_b xmi_X6_init xc_X6_init 0 16 = true := by decide +kernel
theorem xo_r_X6_init : ∀ (pc : Nat) (r : xr_R), xcl xc_X6_init pc = some r → xr_b xmi_X6_init.1 (xm_ini xmi_X6_init) xmi_X6_init.2.2.1 pc r = true ∧ xr_c xM xmi_X6_init.1 r = true := xc_up_e (mi := xmi_X6_init) (cd := xc_X6_init) (N := 16) (xc_up_s (mi := xmi_X6_init) (cd := xc_X6_init) (lo := 0) (n := 16) xc_up_0 xo_c_X6_init_0) (by decide +kernel)
set_option maxRecDepth 20000 in
theorem xo_m_X6_begin : xm_b xmi_X6_begin (1, 5) (2, 168) (2, 169) = true := by decide +kernel
theorem xo_w_X6_begin : Cond.code xmi_X6_begin.2.1 xmi_X6_begin.2.2.1 xmi_X6_begin.2.2.2.1 xmi_X6_begin.2.2.2.2.1 ∈ xG := xw_in2 (K := 2) (i := 170) rfl rfl
set_option maxRecDepth 20000 in
theorem xo_c_X6_begin_0 : xc_b xmi_X6_begin xc_X6_begin 0 32 = true := by decide +kernel
theorem xo_r_X6_begin : ∀ (pc : Nat) (r : xr_R), xcl xc_X6_begin pc = some r → xr_b xmi_X6_begin.1 (xm_ini xmi_X6_begin) xmi_X6_begin.2.2.1 pc r = true ∧ xr_c xM xmi_X6_begin.1 r = true := xc_up_e (mi := xmi_X6_begin) (cd := xc_X6_begin) (N := 32) (xc_up_s (mi := xmi_X6_begin) (cd := xc_X6_begin) (lo := 0) (n := 32) xc_up_0 xo_c_X6_begin_0) (by decide +kernel)
set_option maxRecDepth 20000 in
theorem xo_m_X6_isCut : xm_b xmi_X6_isCut (1, 5) (3, 107) (3, 108) = true := by decide +kernel
theorem xo_w_X6_isCut : Cond.code xmi_X6_isCut.2.1 xmi_X6_isCut.2.2.1 xmi_X6_isCut.2.2.2.1 xmi_X6_isCut.2.2.2.2.1 ∈ xG := xw_in2 (K := 3) (i := 109) rfl rfl
set_option maxRecDepth 20000 in
theorem xo_c_X6_isCut_0 : xc_b xmi_X6_isCut xc_X6_isCut 0 32 = true := by decide +kernel
theorem xo_r_X6_isCut : ∀ (pc : Nat) (r : xr_R), xcl xc_X6_isCut pc = some r → xr_b xmi_X6_isCut.1 (xm_ini xmi_X6_isCut) xmi_X6_isCut.2.2.1 pc r = true ∧ xr_c xM xmi_X6_isCut.1 r = true := xc_up_e (mi := xmi_X6_isCut) (cd := xc_X6_isCut) (N := 32) (xc_up_s (mi := xmi_X6_isCut) (cd := xc_X6_isCut) (lo := 0) (n := 32) xc_up_0 xo_c_X6_isCut_0) (by decide +kernel)
set_option maxRecDepth 20000 in
theorem xo_m_X6_advance : xm_b xmi_X6_advance (1, 5) (2, 175) (2, 176) = true := by decide +kernel
theorem xo_w_X6_advance : Cond.code xmi_X6_advance.2.1 xmi_X6_advance.2.2.1 xmi_X6_advance.2.2.2.1 xmi_X6_advance.2.2.2.2.1 ∈ xG := xw_in2 (K := 2) (i := 177) rfl rfl
set_option maxRecDepth 20000 in
theorem xo_c_X6_advance_0 : xc_b xmi_X6_advance xc_X6_advance 0 112 = true := by decide +kernel
set_option maxRecDepth 20000 in
theorem xo_c_X6_advance_112 : xc_b xmi_X6_advance xc_X6_advance 112 64 = true := by decide +kernel
theorem xo_r_X6_advance : ∀ (pc : Nat) (r : xr_R), xcl xc_X6_advance pc = some r → xr_b xmi_X6_advance.1 (xm_ini xmi_X6_advance) xmi_X6_advance.2.2.1 pc r = true ∧ xr_c xM xmi_X6_advance.1 r = true := xc_up_e (mi := xmi_X6_advance) (cd := xc_X6_advance) (N := 176) (xc_up_s (mi := xmi_X6_advance) (cd := xc_X6_advance) (lo := 112) (n := 64) (xc_up_s (mi := xmi_X6_advance) (cd := xc_X6_advance) (lo := 0) (n := 112) xc_up_0 xo_c_X6_advance_0) xo_c_X6_advance_112) (by decide +kernel)
end XCK3
