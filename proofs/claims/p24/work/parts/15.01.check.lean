section XCK1
set_option maxRecDepth 20000 in
theorem xo_m_X7_needAll : xm_b xmi_X7_needAll (1, 6) (2, 87) (2, 88) = true := by decide +kernel
theorem xo_w_X7_needAll : Cond.code xmi_X7_needAll.2.1 xmi_X7_needAll.2.2.1 xmi_X7_needAll.2.2.2.1 xmi_X7_needAll.2.2.2.2.1 ∈ xG := xw_in2 (K := 2) (i := 89) rfl rfl
set_option maxRecDepth 20000 in
theorem xo_c_X7_needAll_0 : xc_b xmi_X7_needAll xc_X7_needAll 0 32 = true := by decide +kernel
theorem xo_r_X7_needAll : ∀ (pc : Nat) (r : xr_R), xcl xc_X7_needAll pc = some r → xr_b xmi_X7_needAll.1 (xm_ini xmi_X7_needAll) xmi_X7_needAll.2.2.1 pc r = true ∧ xr_c xM xmi_X7_needAll.1 r = true := xc_up_e (mi := xmi_X7_needAll) (cd := xc_X7_needAll) (N := 32) (xc_up_s (mi := xmi_X7_needAll) (cd := xc_X7_needAll) (lo := 0) (n := 32) xc_up_0 xo_c_X7_needAll_0) (by decide +kernel)
set_option maxRecDepth 20000 in
theorem xo_m_X8_init : xm_b xmi_X8_init (1, 2) (1, 33) (99, 0) = true := by decide +kernel
theorem xo_w_X8_init : Cond.code xmi_X8_init.2.1 xmi_X8_init.2.2.1 xmi_X8_init.2.2.2.1 xmi_X8_init.2.2.2.2.1 ∈ xG := xw_in2 (K := 1) (i := 34) rfl rfl
set_option maxRecDepth 20000 in
theorem xo_c_X8_init_0 : xc_b xmi_X8_init xc_X8_init 0 32 = true := by decide +kernel
theorem xo_r_X8_init : ∀ (pc : Nat) (r : xr_R), xcl xc_X8_init pc = some r → xr_b xmi_X8_init.1 (xm_ini xmi_X8_init) xmi_X8_init.2.2.1 pc r = true ∧ xr_c xM xmi_X8_init.1 r = true := xc_up_e (mi := xmi_X8_init) (cd := xc_X8_init) (N := 32) (xc_up_s (mi := xmi_X8_init) (cd := xc_X8_init) (lo := 0) (n := 32) xc_up_0 xo_c_X8_init_0) (by decide +kernel)
set_option maxRecDepth 20000 in
theorem xo_m_X8_hasRoom : xm_b xmi_X8_hasRoom (1, 2) (2, 136) (2, 137) = true := by decide +kernel
theorem xo_w_X8_hasRoom : Cond.code xmi_X8_hasRoom.2.1 xmi_X8_hasRoom.2.2.1 xmi_X8_hasRoom.2.2.2.1 xmi_X8_hasRoom.2.2.2.2.1 ∈ xG := xw_in2 (K := 2) (i := 138) rfl rfl
set_option maxRecDepth 20000 in
theorem xo_c_X8_hasRoom_0 : xc_b xmi_X8_hasRoom xc_X8_hasRoom 0 32 = true := by decide +kernel
theorem xo_r_X8_hasRoom : ∀ (pc : Nat) (r : xr_R), xcl xc_X8_hasRoom pc = some r → xr_b xmi_X8_hasRoom.1 (xm_ini xmi_X8_hasRoom) xmi_X8_hasRoom.2.2.1 pc r = true ∧ xr_c xM xmi_X8_hasRoom.1 r = true := xc_up_e (mi := xmi_X8_hasRoom) (cd := xc_X8_hasRoom) (N := 32) (xc_up_s (mi := xmi_X8_hasRoom) (cd := xc_X8_hasRoom) (lo := 0) (n := 32) xc_up_0 xo_c_X8_hasRoom_0) (by decide +kernel)
set_option maxRecDepth 20000 in
theorem xo_m_X8_put : xm_b xmi_X8_put (1, 2) (2, 140) (2, 141) = true := by decide +kernel
theorem xo_w_X8_put : Cond.code xmi_X8_put.2.1 xmi_X8_put.2.2.1 xmi_X8_put.2.2.2.1 xmi_X8_put.2.2.2.2.1 ∈ xG := xw_in2 (K := 2) (i := 142) rfl rfl
set_option maxRecDepth 20000 in
theorem xo_c_X8_put_0 : xc_b xmi_X8_put xc_X8_put 0 48 = true := by decide +kernel
theorem xo_r_X8_put : ∀ (pc : Nat) (r : xr_R), xcl xc_X8_put pc = some r → xr_b xmi_X8_put.1 (xm_ini xmi_X8_put) xmi_X8_put.2.2.1 pc r = true ∧ xr_c xM xmi_X8_put.1 r = true := xc_up_e (mi := xmi_X8_put) (cd := xc_X8_put) (N := 48) (xc_up_s (mi := xmi_X8_put) (cd := xc_X8_put) (lo := 0) (n := 48) xc_up_0 xo_c_X8_put_0) (by decide +kernel)
set_option maxRecDepth 20000 in
theorem xo_m_X8_at : xm_b xmi_X8_at (1, 2) (2, 179) (2, 180) = true := by decide +kernel
theorem xo_w_X8_at : Cond.code xmi_X8_at.2.1 xmi_X8_at.2.2.1 xmi_X8_at.2.2.2.1 xmi_X8_at.2.2.2.2.1 ∈ xG := xw_in2 (K := 2) (i := 181) rfl rfl
set_option maxRecDepth 20000 in
theorem xo_c_X8_at_0 : xc_b xmi_X8_at xc_X8_at 0 32 = true := by decide +kernel
theorem xo_r_X8_at : ∀ (pc : Nat) (r : xr_R), xcl xc_X8_at pc = some r → xr_b xmi_X8_at.1 (xm_ini xmi_X8_at) xmi_X8_at.2.2.1 pc r = true ∧ xr_c xM xmi_X8_at.1 r = true := xc_up_e (mi := xmi_X8_at) (cd := xc_X8_at) (N := 32) (xc_up_s (mi := xmi_X8_at) (cd := xc_X8_at) (lo := 0) (n := 32) xc_up_0 xo_c_X8_at_0) (by decide +kernel)
set_option maxRecDepth 20000 in
theorem xo_m_X9_init : xm_b xmi_X9_init (1, 1) (1, 25) (99, 0) = true := by decide +kernel
theorem xo_w_X9_init : Cond.code xmi_X9_init.2.1 xmi_X9_init.2.2.1 xmi_X9_init.2.2.2.1 xmi_X9_init.2.2.2.2.1 ∈ xG := xw_in2 (K := 1) (i := 26) rfl rfl
set_option maxRecDepth 20000 in
theorem xo_c_X9_init_0 : xc_b xmi_X9_init xc_X9_init 0 112 = true := by decide +kernel
set_option maxRecDepth 20000 in
theorem xo_c_X9_init_112 : xc_b xmi_X9_init xc_X9_init 112 32 = true := by decide +kernel
theorem xo_r_X9_init : ∀ (pc : Nat) (r : xr_R), xcl xc_X9_init pc = some r → xr_b xmi_X9_init.1 (xm_ini xmi_X9_init) xmi_X9_init.2.2.1 pc r = true ∧ xr_c xM xmi_X9_init.1 r = true := xc_up_e (mi := xmi_X9_init) (cd := xc_X9_init) (N := 144) (xc_up_s (mi := xmi_X9_init) (cd := xc_X9_init) (lo := 112) (n := 32) (xc_up_s (mi := xmi_X9_init) (cd := xc_X9_init) (lo := 0) (n := 112) xc_up_0 xo_c_X9_init_0) xo_c_X9_init_112) (by decide +kernel)
set_option maxRecDepth 20000 in
theorem xo_m_X9_feed : xm_b xmi_X9_feed (1, 1) (2, 132) (2, 133) = true := by decide +kernel
theorem xo_w_X9_feed : Cond.code xmi_X9_feed.2.1 xmi_X9_feed.2.2.1 xmi_X9_feed.2.2.2.1 xmi_X9_feed.2.2.2.2.1 ∈ xG := xw_in2 (K := 2) (i := 134) rfl rfl
set_option maxRecDepth 20000 in
theorem xo_c_X9_feed_0 : xc_b xmi_X9_feed xc_X9_feed 0 64 = true := by decide +kernel
theorem xo_r_X9_feed : ∀ (pc : Nat) (r : xr_R), xcl xc_X9_feed pc = some r → xr_b xmi_X9_feed.1 (xm_ini xmi_X9_feed) xmi_X9_feed.2.2.1 pc r = true ∧ xr_c xM xmi_X9_feed.1 r = true := xc_up_e (mi := xmi_X9_feed) (cd := xc_X9_feed) (N := 64) (xc_up_s (mi := xmi_X9_feed) (cd := xc_X9_feed) (lo := 0) (n := 64) xc_up_0 xo_c_X9_feed_0) (by decide +kernel)
set_option maxRecDepth 20000 in
theorem xo_m_X9_end : xm_b xmi_X9_end (1, 1) (2, 144) (2, 145) = true := by decide +kernel
theorem xo_w_X9_end : Cond.code xmi_X9_end.2.1 xmi_X9_end.2.2.1 xmi_X9_end.2.2.2.1 xmi_X9_end.2.2.2.2.1 ∈ xG := xw_in2 (K := 2) (i := 146) rfl rfl
set_option maxRecDepth 20000 in
theorem xo_c_X9_end_0 : xc_b xmi_X9_end xc_X9_end 0 32 = true := by decide +kernel
theorem xo_r_X9_end : ∀ (pc : Nat) (r : xr_R), xcl xc_X9_end pc = some r → xr_b xmi_X9_end.1 (xm_ini xmi_X9_end) xmi_X9_end.2.2.1 pc r = true ∧ xr_c xM xmi_X9_end.1 r = true := xc_up_e (mi := xmi_X9_end) (cd := xc_X9_end) (N := 32) (xc_up_s (mi := xmi_X9_end) (cd := xc_X9_end) (lo := 0) (n := 32) xc_up_0 xo_c_X9_end_0) (by decide +kernel)
set_option maxRecDepth 20000 in
theorem xo_m_X9_next : xm_b xmi_X9_next (1, 1) (2, 148) (2, 149) = true := by decide +kernel
theorem xo_w_X9_next : Cond.code xmi_X9_next.2.1 xmi_X9_next.2.2.1 xmi_X9_next.2.2.2.1 xmi_X9_next.2.2.2.2.1 ∈ xG := xw_in2 (K := 2) (i := 150) rfl rfl
set_option maxRecDepth 20000 in
theorem xo_c_X9_next_0 : xc_b xmi_X9_next xc_X9_next 0 48 = true := by decide +kernel
theorem xo_r_X9_next : ∀ (pc : Nat) (r : xr_R), xcl xc_X9_next pc = some r → xr_b xmi_X9_next.1 (xm_ini xmi_X9_next) xmi_X9_next.2.2.1 pc r = true ∧ xr_c xM xmi_X9_next.1 r = true := xc_up_e (mi := xmi_X9_next) (cd := xc_X9_next) (N := 48) (xc_up_s (mi := xmi_X9_next) (cd := xc_X9_next) (lo := 0) (n := 48) xc_up_0 xo_c_X9_next_0) (by decide +kernel)
set_option maxRecDepth 20000 in
theorem xo_m_X9_members : xm_b xmi_X9_members (1, 1) (2, 152) (2, 153) = true := by decide +kernel
theorem xo_w_X9_members : Cond.code xmi_X9_members.2.1 xmi_X9_members.2.2.1 xmi_X9_members.2.2.2.1 xmi_X9_members.2.2.2.2.1 ∈ xG := xw_in2 (K := 2) (i := 154) rfl rfl
set_option maxRecDepth 20000 in
theorem xo_c_X9_members_0 : xc_b xmi_X9_members xc_X9_members 0 80 = true := by decide +kernel
theorem xo_r_X9_members : ∀ (pc : Nat) (r : xr_R), xcl xc_X9_members pc = some r → xr_b xmi_X9_members.1 (xm_ini xmi_X9_members) xmi_X9_members.2.2.1 pc r = true ∧ xr_c xM xmi_X9_members.1 r = true := xc_up_e (mi := xmi_X9_members) (cd := xc_X9_members) (N := 80) (xc_up_s (mi := xmi_X9_members) (cd := xc_X9_members) (lo := 0) (n := 80) xc_up_0 xo_c_X9_members_0) (by decide +kernel)
set_option maxRecDepth 20000 in
theorem xo_m_X9_statute : xm_b xmi_X9_statute (1, 1) (2, 156) (2, 157) = true := by decide +kernel
theorem xo_w_X9_statute : Cond.code xmi_X9_statute.2.1 xmi_X9_statute.2.2.1 xmi_X9_statute.2.2.2.1 xmi_X9_statute.2.2.2.2.1 ∈ xG := xw_in2 (K := 2) (i := 158) rfl rfl
set_option maxRecDepth 20000 in
theorem xo_c_X9_statute_0 : xc_b xmi_X9_statute xc_X9_statute 0 112 = true := by decide +kernel
set_option maxRecDepth 20000 in
theorem xo_c_X9_statute_112 : xc_b xmi_X9_statute xc_X9_statute 112 32 = true := by decide +kernel
theorem xo_r_X9_statute : ∀ (pc : Nat) (r : xr_R), xcl xc_X9_statute pc = some r → xr_b xmi_X9_statute.1 (xm_ini xmi_X9_statute) xmi_X9_statute.2.2.1 pc r = true ∧ xr_c xM xmi_X9_statute.1 r = true := xc_up_e (mi := xmi_X9_statute) (cd := xc_X9_statute) (N := 144) (xc_up_s (mi := xmi_X9_statute) (cd := xc_X9_statute) (lo := 112) (n := 32) (xc_up_s (mi := xmi_X9_statute) (cd := xc_X9_statute) (lo := 0) (n := 112) xc_up_0 xo_c_X9_statute_0) xo_c_X9_statute_112) (by decide +kernel)
set_option maxRecDepth 20000 in
theorem xo_m_X9_fault : xm_b xmi_X9_fault (1, 1) (3, 135) (3, 136) = true := by decide +kernel
theorem xo_w_X9_fault : Cond.code xmi_X9_fault.2.1 xmi_X9_fault.2.2.1 xmi_X9_fault.2.2.2.1 xmi_X9_fault.2.2.2.2.1 ∈ xG := xw_in2 (K := 3) (i := 137) rfl rfl
set_option maxRecDepth 20000 in
theorem xo_c_X9_fault_0 : xc_b xmi_X9_fault xc_X9_fault 0 16 = true := by decide +kernel
theorem xo_r_X9_fault : ∀ (pc : Nat) (r : xr_R), xcl xc_X9_fault pc = some r → xr_b xmi_X9_fault.1 (xm_ini xmi_X9_fault) xmi_X9_fault.2.2.1 pc r = true ∧ xr_c xM xmi_X9_fault.1 r = true := xc_up_e (mi := xmi_X9_fault) (cd := xc_X9_fault) (N := 16) (xc_up_s (mi := xmi_X9_fault) (cd := xc_X9_fault) (lo := 0) (n := 16) xc_up_0 xo_c_X9_fault_0) (by decide +kernel)
set_option maxRecDepth 20000 in
theorem xo_m_X9_carries : xm_b xmi_X9_carries (1, 1) (3, 139) (3, 140) = true := by decide +kernel
theorem xo_w_X9_carries : Cond.code xmi_X9_carries.2.1 xmi_X9_carries.2.2.1 xmi_X9_carries.2.2.2.1 xmi_X9_carries.2.2.2.2.1 ∈ xG := xw_in2 (K := 3) (i := 141) rfl rfl
set_option maxRecDepth 20000 in
theorem xo_c_X9_carries_0 : xc_b xmi_X9_carries xc_X9_carries 0 48 = true := by decide +kernel
theorem xo_r_X9_carries : ∀ (pc : Nat) (r : xr_R), xcl xc_X9_carries pc = some r → xr_b xmi_X9_carries.1 (xm_ini xmi_X9_carries) xmi_X9_carries.2.2.1 pc r = true ∧ xr_c xM xmi_X9_carries.1 r = true := xc_up_e (mi := xmi_X9_carries) (cd := xc_X9_carries) (N := 48) (xc_up_s (mi := xmi_X9_carries) (cd := xc_X9_carries) (lo := 0) (n := 48) xc_up_0 xo_c_X9_carries_0) (by decide +kernel)
set_option maxRecDepth 20000 in
theorem xo_m_X9_many : xm_b xmi_X9_many (1, 1) (3, 155) (3, 156) = true := by decide +kernel
theorem xo_w_X9_many : Cond.code xmi_X9_many.2.1 xmi_X9_many.2.2.1 xmi_X9_many.2.2.2.1 xmi_X9_many.2.2.2.2.1 ∈ xG := xw_in2 (K := 3) (i := 157) rfl rfl
set_option maxRecDepth 20000 in
theorem xo_c_X9_many_0 : xc_b xmi_X9_many xc_X9_many 0 112 = true := by decide +kernel
set_option maxRecDepth 20000 in
theorem xo_c_X9_many_112 : xc_b xmi_X9_many xc_X9_many 112 16 = true := by decide +kernel
theorem xo_r_X9_many : ∀ (pc : Nat) (r : xr_R), xcl xc_X9_many pc = some r → xr_b xmi_X9_many.1 (xm_ini xmi_X9_many) xmi_X9_many.2.2.1 pc r = true ∧ xr_c xM xmi_X9_many.1 r = true := xc_up_e (mi := xmi_X9_many) (cd := xc_X9_many) (N := 128) (xc_up_s (mi := xmi_X9_many) (cd := xc_X9_many) (lo := 112) (n := 16) (xc_up_s (mi := xmi_X9_many) (cd := xc_X9_many) (lo := 0) (n := 112) xc_up_0 xo_c_X9_many_0) xo_c_X9_many_112) (by decide +kernel)
set_option maxRecDepth 20000 in
theorem xo_m_X9_setAt : xm_b xmi_X9_setAt (1, 1) (3, 232) (3, 233) = true := by decide +kernel
theorem xo_w_X9_setAt : Cond.code xmi_X9_setAt.2.1 xmi_X9_setAt.2.2.1 xmi_X9_setAt.2.2.2.1 xmi_X9_setAt.2.2.2.2.1 ∈ xG := xw_in2 (K := 3) (i := 234) rfl rfl
set_option maxRecDepth 20000 in
theorem xo_c_X9_setAt_0 : xc_b xmi_X9_setAt xc_X9_setAt 0 112 = true := by decide +kernel
theorem xo_r_X9_setAt : ∀ (pc : Nat) (r : xr_R), xcl xc_X9_setAt pc = some r → xr_b xmi_X9_setAt.1 (xm_ini xmi_X9_setAt) xmi_X9_setAt.2.2.1 pc r = true ∧ xr_c xM xmi_X9_setAt.1 r = true := xc_up_e (mi := xmi_X9_setAt) (cd := xc_X9_setAt) (N := 112) (xc_up_s (mi := xmi_X9_setAt) (cd := xc_X9_setAt) (lo := 0) (n := 112) xc_up_0 xo_c_X9_setAt_0) (by decide +kernel)
set_option maxRecDepth 20000 in
theorem xo_m_X9_stronger : xm_b xmi_X9_stronger (1, 1) (3, 236) (3, 237) = true := by decide +kernel
theorem xo_w_X9_stronger : Cond.code xmi_X9_stronger.2.1 xmi_X9_stronger.2.2.1 xmi_X9_stronger.2.2.2.1 xmi_X9_stronger.2.2.2.2.1 ∈ xG := xw_in2 (K := 3) (i := 238) rfl rfl
set_option maxRecDepth 20000 in
theorem xo_c_X9_stronger_0 : xc_b xmi_X9_stronger xc_X9_stronger 0 32 = true := by decide +kernel
theorem xo_r_X9_stronger : ∀ (pc : Nat) (r : xr_R), xcl xc_X9_stronger pc = some r → xr_b xmi_X9_stronger.1 (xm_ini xmi_X9_stronger) xmi_X9_stronger.2.2.1 pc r = true ∧ xr_c xM xmi_X9_stronger.1 r = true := xc_up_e (mi := xmi_X9_stronger) (cd := xc_X9_stronger) (N := 32) (xc_up_s (mi := xmi_X9_stronger) (cd := xc_X9_stronger) (lo := 0) (n := 32) xc_up_0 xo_c_X9_stronger_0) (by decide +kernel)
set_option maxRecDepth 20000 in
theorem xo_m_X9_turns : xm_b xmi_X9_turns (1, 1) (4, 5) (4, 6) = true := by decide +kernel
theorem xo_w_X9_turns : Cond.code xmi_X9_turns.2.1 xmi_X9_turns.2.2.1 xmi_X9_turns.2.2.2.1 xmi_X9_turns.2.2.2.2.1 ∈ xG := xw_in2 (K := 4) (i := 7) rfl rfl
set_option maxRecDepth 20000 in
theorem xo_c_X9_turns_0 : xc_b xmi_X9_turns xc_X9_turns 0 32 = true := by decide +kernel
theorem xo_r_X9_turns : ∀ (pc : Nat) (r : xr_R), xcl xc_X9_turns pc = some r → xr_b xmi_X9_turns.1 (xm_ini xmi_X9_turns) xmi_X9_turns.2.2.1 pc r = true ∧ xr_c xM xmi_X9_turns.1 r = true := xc_up_e (mi := xmi_X9_turns) (cd := xc_X9_turns) (N := 32) (xc_up_s (mi := xmi_X9_turns) (cd := xc_X9_turns) (lo := 0) (n := 32) xc_up_0 xo_c_X9_turns_0) (by decide +kernel)
set_option maxRecDepth 20000 in
theorem xo_m_X9_share : xm_b xmi_X9_share (1, 1) (4, 231) (4, 232) = true := by decide +kernel
theorem xo_w_X9_share : Cond.code xmi_X9_share.2.1 xmi_X9_share.2.2.1 xmi_X9_share.2.2.2.1 xmi_X9_share.2.2.2.2.1 ∈ xG := xw_in2 (K := 4) (i := 233) rfl rfl
set_option maxRecDepth 20000 in
theorem xo_c_X9_share_0 : xc_b xmi_X9_share xc_X9_share 0 112 = true := by decide +kernel
theorem xo_r_X9_share : ∀ (pc : Nat) (r : xr_R), xcl xc_X9_share pc = some r → xr_b xmi_X9_share.1 (xm_ini xmi_X9_share) xmi_X9_share.2.2.1 pc r = true ∧ xr_c xM xmi_X9_share.1 r = true := xc_up_e (mi := xmi_X9_share) (cd := xc_X9_share) (N := 112) (xc_up_s (mi := xmi_X9_share) (cd := xc_X9_share) (lo := 0) (n := 112) xc_up_0 xo_c_X9_share_0) (by decide +kernel)
set_option maxRecDepth 20000 in
theorem xo_m_X9_chance : xm_b xmi_X9_chance (1, 1) (4, 9) (4, 10) = true := by decide +kernel
theorem xo_w_X9_chance : Cond.code xmi_X9_chance.2.1 xmi_X9_chance.2.2.1 xmi_X9_chance.2.2.2.1 xmi_X9_chance.2.2.2.2.1 ∈ xG := xw_in2 (K := 4) (i := 11) rfl rfl
set_option maxRecDepth 20000 in
theorem xo_c_X9_chance_0 : xc_b xmi_X9_chance xc_X9_chance 0 32 = true := by decide +kernel
theorem xo_r_X9_chance : ∀ (pc : Nat) (r : xr_R), xcl xc_X9_chance pc = some r → xr_b xmi_X9_chance.1 (xm_ini xmi_X9_chance) xmi_X9_chance.2.2.1 pc r = true ∧ xr_c xM xmi_X9_chance.1 r = true := xc_up_e (mi := xmi_X9_chance) (cd := xc_X9_chance) (N := 32) (xc_up_s (mi := xmi_X9_chance) (cd := xc_X9_chance) (lo := 0) (n := 32) xc_up_0 xo_c_X9_chance_0) (by decide +kernel)
set_option maxRecDepth 20000 in
theorem xo_m_X9_ally : xm_b xmi_X9_ally (1, 1) (4, 21) (4, 22) = true := by decide +kernel
theorem xo_w_X9_ally : Cond.code xmi_X9_ally.2.1 xmi_X9_ally.2.2.1 xmi_X9_ally.2.2.2.1 xmi_X9_ally.2.2.2.2.1 ∈ xG := xw_in2 (K := 4) (i := 23) rfl rfl
set_option maxRecDepth 20000 in
theorem xo_c_X9_ally_0 : xc_b xmi_X9_ally xc_X9_ally 0 32 = true := by decide +kernel
theorem xo_r_X9_ally : ∀ (pc : Nat) (r : xr_R), xcl xc_X9_ally pc = some r → xr_b xmi_X9_ally.1 (xm_ini xmi_X9_ally) xmi_X9_ally.2.2.1 pc r = true ∧ xr_c xM xmi_X9_ally.1 r = true := xc_up_e (mi := xmi_X9_ally) (cd := xc_X9_ally) (N := 32) (xc_up_s (mi := xmi_X9_ally) (cd := xc_X9_ally) (lo := 0) (n := 32) xc_up_0 xo_c_X9_ally_0) (by decide +kernel)
set_option maxRecDepth 20000 in
theorem xo_m_X9_weigh : xm_b xmi_X9_weigh (1, 1) (4, 33) (4, 34) = true := by decide +kernel
theorem xo_w_X9_weigh : Cond.code xmi_X9_weigh.2.1 xmi_X9_weigh.2.2.1 xmi_X9_weigh.2.2.2.1 xmi_X9_weigh.2.2.2.2.1 ∈ xG := xw_in2 (K := 4) (i := 35) rfl rfl
set_option maxRecDepth 20000 in
theorem xo_c_X9_weigh_0 : xc_b xmi_X9_weigh xc_X9_weigh 0 16 = true := by decide +kernel
theorem xo_r_X9_weigh : ∀ (pc : Nat) (r : xr_R), xcl xc_X9_weigh pc = some r → xr_b xmi_X9_weigh.1 (xm_ini xmi_X9_weigh) xmi_X9_weigh.2.2.1 pc r = true ∧ xr_c xM xmi_X9_weigh.1 r = true := xc_up_e (mi := xmi_X9_weigh) (cd := xc_X9_weigh) (N := 16) (xc_up_s (mi := xmi_X9_weigh) (cd := xc_X9_weigh) (lo := 0) (n := 16) xc_up_0 xo_c_X9_weigh_0) (by decide +kernel)
set_option maxRecDepth 20000 in
theorem xo_m_X9_weight : xm_b xmi_X9_weight (1, 1) (4, 100) (4, 101) = true := by decide +kernel
theorem xo_w_X9_weight : Cond.code xmi_X9_weight.2.1 xmi_X9_weight.2.2.1 xmi_X9_weight.2.2.2.1 xmi_X9_weight.2.2.2.2.1 ∈ xG := xw_in2 (K := 4) (i := 102) rfl rfl
set_option maxRecDepth 20000 in
theorem xo_c_X9_weight_0 : xc_b xmi_X9_weight xc_X9_weight 0 48 = true := by decide +kernel
theorem xo_r_X9_weight : ∀ (pc : Nat) (r : xr_R), xcl xc_X9_weight pc = some r → xr_b xmi_X9_weight.1 (xm_ini xmi_X9_weight) xmi_X9_weight.2.2.1 pc r = true ∧ xr_c xM xmi_X9_weight.1 r = true := xc_up_e (mi := xmi_X9_weight) (cd := xc_X9_weight) (N := 48) (xc_up_s (mi := xmi_X9_weight) (cd := xc_X9_weight) (lo := 0) (n := 48) xc_up_0 xo_c_X9_weight_0) (by decide +kernel)
set_option maxRecDepth 20000 in
theorem xo_m_X9_rank : xm_b xmi_X9_rank (1, 1) (4, 104) (4, 105) = true := by decide +kernel
theorem xo_w_X9_rank : Cond.code xmi_X9_rank.2.1 xmi_X9_rank.2.2.1 xmi_X9_rank.2.2.2.1 xmi_X9_rank.2.2.2.2.1 ∈ xG := xw_in2 (K := 4) (i := 106) rfl rfl
set_option maxRecDepth 20000 in
theorem xo_c_X9_rank_0 : xc_b xmi_X9_rank xc_X9_rank 0 80 = true := by decide +kernel
theorem xo_r_X9_rank : ∀ (pc : Nat) (r : xr_R), xcl xc_X9_rank pc = some r → xr_b xmi_X9_rank.1 (xm_ini xmi_X9_rank) xmi_X9_rank.2.2.1 pc r = true ∧ xr_c xM xmi_X9_rank.1 r = true := xc_up_e (mi := xmi_X9_rank) (cd := xc_X9_rank) (N := 80) (xc_up_s (mi := xmi_X9_rank) (cd := xc_X9_rank) (lo := 0) (n := 80) xc_up_0 xo_c_X9_rank_0) (by decide +kernel)
set_option maxRecDepth 20000 in
theorem xo_m_X9_beats : xm_b xmi_X9_beats (1, 1) (4, 120) (4, 121) = true := by decide +kernel
theorem xo_w_X9_beats : Cond.code xmi_X9_beats.2.1 xmi_X9_beats.2.2.1 xmi_X9_beats.2.2.2.1 xmi_X9_beats.2.2.2.2.1 ∈ xG := xw_in2 (K := 4) (i := 122) rfl rfl
set_option maxRecDepth 20000 in
theorem xo_c_X9_beats_0 : xc_b xmi_X9_beats xc_X9_beats 0 64 = true := by decide +kernel
theorem xo_r_X9_beats : ∀ (pc : Nat) (r : xr_R), xcl xc_X9_beats pc = some r → xr_b xmi_X9_beats.1 (xm_ini xmi_X9_beats) xmi_X9_beats.2.2.1 pc r = true ∧ xr_c xM xmi_X9_beats.1 r = true := xc_up_e (mi := xmi_X9_beats) (cd := xc_X9_beats) (N := 64) (xc_up_s (mi := xmi_X9_beats) (cd := xc_X9_beats) (lo := 0) (n := 64) xc_up_0 xo_c_X9_beats_0) (by decide +kernel)
set_option maxRecDepth 20000 in
theorem xo_m_X9_free : xm_b xmi_X9_free (1, 1) (4, 129) (4, 130) = true := by decide +kernel
theorem xo_w_X9_free : Cond.code xmi_X9_free.2.1 xmi_X9_free.2.2.1 xmi_X9_free.2.2.2.1 xmi_X9_free.2.2.2.2.1 ∈ xG := xw_in2 (K := 4) (i := 131) rfl rfl
set_option maxRecDepth 20000 in
theorem xo_c_X9_free_0 : xc_b xmi_X9_free xc_X9_free 0 32 = true := by decide +kernel
theorem xo_r_X9_free : ∀ (pc : Nat) (r : xr_R), xcl xc_X9_free pc = some r → xr_b xmi_X9_free.1 (xm_ini xmi_X9_free) xmi_X9_free.2.2.1 pc r = true ∧ xr_c xM xmi_X9_free.1 r = true := xc_up_e (mi := xmi_X9_free) (cd := xc_X9_free) (N := 32) (xc_up_s (mi := xmi_X9_free) (cd := xc_X9_free) (lo := 0) (n := 32) xc_up_0 xo_c_X9_free_0) (by decide +kernel)
set_option maxRecDepth 20000 in
theorem xo_m_X9_top : xm_b xmi_X9_top (1, 1) (4, 143) (4, 144) = true := by decide +kernel
theorem xo_w_X9_top : Cond.code xmi_X9_top.2.1 xmi_X9_top.2.2.1 xmi_X9_top.2.2.2.1 xmi_X9_top.2.2.2.2.1 ∈ xG := xw_in2 (K := 4) (i := 145) rfl rfl
set_option maxRecDepth 20000 in
theorem xo_c_X9_top_0 : xc_b xmi_X9_top xc_X9_top 0 32 = true := by decide +kernel
theorem xo_r_X9_top : ∀ (pc : Nat) (r : xr_R), xcl xc_X9_top pc = some r → xr_b xmi_X9_top.1 (xm_ini xmi_X9_top) xmi_X9_top.2.2.1 pc r = true ∧ xr_c xM xmi_X9_top.1 r = true := xc_up_e (mi := xmi_X9_top) (cd := xc_X9_top) (N := 32) (xc_up_s (mi := xmi_X9_top) (cd := xc_X9_top) (lo := 0) (n := 32) xc_up_0 xo_c_X9_top_0) (by decide +kernel)
set_option maxRecDepth 20000 in
theorem xo_m_X9_leads : xm_b xmi_X9_leads (1, 1) (4, 159) (4, 160) = true := by decide +kernel
theorem xo_w_X9_leads : Cond.code xmi_X9_leads.2.1 xmi_X9_leads.2.2.1 xmi_X9_leads.2.2.2.1 xmi_X9_leads.2.2.2.2.1 ∈ xG := xw_in2 (K := 4) (i := 161) rfl rfl
set_option maxRecDepth 20000 in
theorem xo_c_X9_leads_0 : xc_b xmi_X9_leads xc_X9_leads 0 80 = true := by decide +kernel
theorem xo_r_X9_leads : ∀ (pc : Nat) (r : xr_R), xcl xc_X9_leads pc = some r → xr_b xmi_X9_leads.1 (xm_ini xmi_X9_leads) xmi_X9_leads.2.2.1 pc r = true ∧ xr_c xM xmi_X9_leads.1 r = true := xc_up_e (mi := xmi_X9_leads) (cd := xc_X9_leads) (N := 80) (xc_up_s (mi := xmi_X9_leads) (cd := xc_X9_leads) (lo := 0) (n := 80) xc_up_0 xo_c_X9_leads_0) (by decide +kernel)
set_option maxRecDepth 20000 in
theorem xo_m_X9_rows : xm_b xmi_X9_rows (1, 1) (4, 175) (4, 176) = true := by decide +kernel
theorem xo_w_X9_rows : Cond.code xmi_X9_rows.2.1 xmi_X9_rows.2.2.1 xmi_X9_rows.2.2.2.1 xmi_X9_rows.2.2.2.2.1 ∈ xG := xw_in2 (K := 4) (i := 177) rfl rfl
set_option maxRecDepth 20000 in
theorem xo_c_X9_rows_0 : xc_b xmi_X9_rows xc_X9_rows 0 48 = true := by decide +kernel
theorem xo_r_X9_rows : ∀ (pc : Nat) (r : xr_R), xcl xc_X9_rows pc = some r → xr_b xmi_X9_rows.1 (xm_ini xmi_X9_rows) xmi_X9_rows.2.2.1 pc r = true ∧ xr_c xM xmi_X9_rows.1 r = true := xc_up_e (mi := xmi_X9_rows) (cd := xc_X9_rows) (N := 48) (xc_up_s (mi := xmi_X9_rows) (cd := xc_X9_rows) (lo := 0) (n := 48) xc_up_0 xo_c_X9_rows_0) (by decide +kernel)
set_option maxRecDepth 20000 in
theorem xo_m_X9_rowAt : xm_b xmi_X9_rowAt (1, 1) (4, 195) (4, 196) = true := by decide +kernel
theorem xo_w_X9_rowAt : Cond.code xmi_X9_rowAt.2.1 xmi_X9_rowAt.2.2.1 xmi_X9_rowAt.2.2.2.1 xmi_X9_rowAt.2.2.2.2.1 ∈ xG := xw_in2 (K := 4) (i := 197) rfl rfl
set_option maxRecDepth 20000 in
theorem xo_c_X9_rowAt_0 : xc_b xmi_X9_rowAt xc_X9_rowAt 0 32 = true := by decide +kernel
theorem xo_r_X9_rowAt : ∀ (pc : Nat) (r : xr_R), xcl xc_X9_rowAt pc = some r → xr_b xmi_X9_rowAt.1 (xm_ini xmi_X9_rowAt) xmi_X9_rowAt.2.2.1 pc r = true ∧ xr_c xM xmi_X9_rowAt.1 r = true := xc_up_e (mi := xmi_X9_rowAt) (cd := xc_X9_rowAt) (N := 32) (xc_up_s (mi := xmi_X9_rowAt) (cd := xc_X9_rowAt) (lo := 0) (n := 32) xc_up_0 xo_c_X9_rowAt_0) (by decide +kernel)
set_option maxRecDepth 20000 in
theorem xo_m_X9_vote : xm_b xmi_X9_vote (1, 1) (4, 199) (4, 200) = true := by decide +kernel
theorem xo_w_X9_vote : Cond.code xmi_X9_vote.2.1 xmi_X9_vote.2.2.1 xmi_X9_vote.2.2.2.1 xmi_X9_vote.2.2.2.2.1 ∈ xG := xw_in2 (K := 4) (i := 201) rfl rfl
set_option maxRecDepth 20000 in
theorem xo_c_X9_vote_0 : xc_b xmi_X9_vote xc_X9_vote 0 32 = true := by decide +kernel
theorem xo_r_X9_vote : ∀ (pc : Nat) (r : xr_R), xcl xc_X9_vote pc = some r → xr_b xmi_X9_vote.1 (xm_ini xmi_X9_vote) xmi_X9_vote.2.2.1 pc r = true ∧ xr_c xM xmi_X9_vote.1 r = true := xc_up_e (mi := xmi_X9_vote) (cd := xc_X9_vote) (N := 32) (xc_up_s (mi := xmi_X9_vote) (cd := xc_X9_vote) (lo := 0) (n := 32) xc_up_0 xo_c_X9_vote_0) (by decide +kernel)
set_option maxRecDepth 20000 in
theorem xo_m_X9_unfit : xm_b xmi_X9_unfit (1, 1) (4, 207) (4, 208) = true := by decide +kernel
theorem xo_w_X9_unfit : Cond.code xmi_X9_unfit.2.1 xmi_X9_unfit.2.2.1 xmi_X9_unfit.2.2.2.1 xmi_X9_unfit.2.2.2.2.1 ∈ xG := xw_in2 (K := 4) (i := 209) rfl rfl
set_option maxRecDepth 20000 in
theorem xo_c_X9_unfit_0 : xc_b xmi_X9_unfit xc_X9_unfit 0 80 = true := by decide +kernel
theorem xo_r_X9_unfit : ∀ (pc : Nat) (r : xr_R), xcl xc_X9_unfit pc = some r → xr_b xmi_X9_unfit.1 (xm_ini xmi_X9_unfit) xmi_X9_unfit.2.2.1 pc r = true ∧ xr_c xM xmi_X9_unfit.1 r = true := xc_up_e (mi := xmi_X9_unfit) (cd := xc_X9_unfit) (N := 80) (xc_up_s (mi := xmi_X9_unfit) (cd := xc_X9_unfit) (lo := 0) (n := 80) xc_up_0 xo_c_X9_unfit_0) (by decide +kernel)
set_option maxRecDepth 20000 in
theorem xo_m_X9_sure : xm_b xmi_X9_sure (1, 1) (4, 211) (4, 212) = true := by decide +kernel
theorem xo_w_X9_sure : Cond.code xmi_X9_sure.2.1 xmi_X9_sure.2.2.1 xmi_X9_sure.2.2.2.1 xmi_X9_sure.2.2.2.2.1 ∈ xG := xw_in2 (K := 4) (i := 213) rfl rfl
set_option maxRecDepth 20000 in
theorem xo_c_X9_sure_0 : xc_b xmi_X9_sure xc_X9_sure 0 32 = true := by decide +kernel
theorem xo_r_X9_sure : ∀ (pc : Nat) (r : xr_R), xcl xc_X9_sure pc = some r → xr_b xmi_X9_sure.1 (xm_ini xmi_X9_sure) xmi_X9_sure.2.2.1 pc r = true ∧ xr_c xM xmi_X9_sure.1 r = true := xc_up_e (mi := xmi_X9_sure) (cd := xc_X9_sure) (N := 32) (xc_up_s (mi := xmi_X9_sure) (cd := xc_X9_sure) (lo := 0) (n := 32) xc_up_0 xo_c_X9_sure_0) (by decide +kernel)
set_option maxRecDepth 20000 in
theorem xo_m_X9_open : xm_b xmi_X9_open (1, 1) (4, 219) (4, 220) = true := by decide +kernel
theorem xo_w_X9_open : Cond.code xmi_X9_open.2.1 xmi_X9_open.2.2.1 xmi_X9_open.2.2.2.1 xmi_X9_open.2.2.2.2.1 ∈ xG := xw_in2 (K := 4) (i := 221) rfl rfl
set_option maxRecDepth 20000 in
theorem xo_c_X9_open_0 : xc_b xmi_X9_open xc_X9_open 0 48 = true := by decide +kernel
theorem xo_r_X9_open : ∀ (pc : Nat) (r : xr_R), xcl xc_X9_open pc = some r → xr_b xmi_X9_open.1 (xm_ini xmi_X9_open) xmi_X9_open.2.2.1 pc r = true ∧ xr_c xM xmi_X9_open.1 r = true := xc_up_e (mi := xmi_X9_open) (cd := xc_X9_open) (N := 48) (xc_up_s (mi := xmi_X9_open) (cd := xc_X9_open) (lo := 0) (n := 48) xc_up_0 xo_c_X9_open_0) (by decide +kernel)
set_option maxRecDepth 20000 in
theorem xo_m_X9_count : xm_b xmi_X9_count (1, 1) (4, 223) (4, 224) = true := by decide +kernel
theorem xo_w_X9_count : Cond.code xmi_X9_count.2.1 xmi_X9_count.2.2.1 xmi_X9_count.2.2.2.1 xmi_X9_count.2.2.2.2.1 ∈ xG := xw_in2 (K := 4) (i := 225) rfl rfl
set_option maxRecDepth 20000 in
theorem xo_c_X9_count_0 : xc_b xmi_X9_count xc_X9_count 0 80 = true := by decide +kernel
theorem xo_r_X9_count : ∀ (pc : Nat) (r : xr_R), xcl xc_X9_count pc = some r → xr_b xmi_X9_count.1 (xm_ini xmi_X9_count) xmi_X9_count.2.2.1 pc r = true ∧ xr_c xM xmi_X9_count.1 r = true := xc_up_e (mi := xmi_X9_count) (cd := xc_X9_count) (N := 80) (xc_up_s (mi := xmi_X9_count) (cd := xc_X9_count) (lo := 0) (n := 80) xc_up_0 xo_c_X9_count_0) (by decide +kernel)
set_option maxRecDepth 20000 in
theorem xo_m_X9_isMember : xm_b xmi_X9_isMember (1, 1) (4, 1) (0, 32) = true := by decide +kernel
theorem xo_w_X9_isMember : Cond.code xmi_X9_isMember.2.1 xmi_X9_isMember.2.2.1 xmi_X9_isMember.2.2.2.1 xmi_X9_isMember.2.2.2.2.1 ∈ xG := xw_in2 (K := 4) (i := 2) rfl rfl
set_option maxRecDepth 20000 in
theorem xo_c_X9_isMember_0 : xc_b xmi_X9_isMember xc_X9_isMember 0 32 = true := by decide +kernel
theorem xo_r_X9_isMember : ∀ (pc : Nat) (r : xr_R), xcl xc_X9_isMember pc = some r → xr_b xmi_X9_isMember.1 (xm_ini xmi_X9_isMember) xmi_X9_isMember.2.2.1 pc r = true ∧ xr_c xM xmi_X9_isMember.1 r = true := xc_up_e (mi := xmi_X9_isMember) (cd := xc_X9_isMember) (N := 32) (xc_up_s (mi := xmi_X9_isMember) (cd := xc_X9_isMember) (lo := 0) (n := 32) xc_up_0 xo_c_X9_isMember_0) (by decide +kernel)
set_option maxRecDepth 20000 in
theorem xo_m_X9_isSet : xm_b xmi_X9_isSet (1, 1) (3, 144) (0, 21) = true := by decide +kernel
theorem xo_w_X9_isSet : Cond.code xmi_X9_isSet.2.1 xmi_X9_isSet.2.2.1 xmi_X9_isSet.2.2.2.1 xmi_X9_isSet.2.2.2.2.1 ∈ xG := xw_in2 (K := 3) (i := 145) rfl rfl
set_option maxRecDepth 20000 in
theorem xo_c_X9_isSet_0 : xc_b xmi_X9_isSet xc_X9_isSet 0 32 = true := by decide +kernel
theorem xo_r_X9_isSet : ∀ (pc : Nat) (r : xr_R), xcl xc_X9_isSet pc = some r → xr_b xmi_X9_isSet.1 (xm_ini xmi_X9_isSet) xmi_X9_isSet.2.2.1 pc r = true ∧ xr_c xM xmi_X9_isSet.1 r = true := xc_up_e (mi := xmi_X9_isSet) (cd := xc_X9_isSet) (N := 32) (xc_up_s (mi := xmi_X9_isSet) (cd := xc_X9_isSet) (lo := 0) (n := 32) xc_up_0 xo_c_X9_isSet_0) (by decide +kernel)
set_option maxRecDepth 20000 in
theorem xo_m_X9_inForce : xm_b xmi_X9_inForce (1, 1) (3, 148) (0, 22) = true := by decide +kernel
theorem xo_w_X9_inForce : Cond.code xmi_X9_inForce.2.1 xmi_X9_inForce.2.2.1 xmi_X9_inForce.2.2.2.1 xmi_X9_inForce.2.2.2.2.1 ∈ xG := xw_in2 (K := 3) (i := 149) rfl rfl
set_option maxRecDepth 20000 in
theorem xo_c_X9_inForce_0 : xc_b xmi_X9_inForce xc_X9_inForce 0 64 = true := by decide +kernel
theorem xo_r_X9_inForce : ∀ (pc : Nat) (r : xr_R), xcl xc_X9_inForce pc = some r → xr_b xmi_X9_inForce.1 (xm_ini xmi_X9_inForce) xmi_X9_inForce.2.2.1 pc r = true ∧ xr_c xM xmi_X9_inForce.1 r = true := xc_up_e (mi := xmi_X9_inForce) (cd := xc_X9_inForce) (N := 64) (xc_up_s (mi := xmi_X9_inForce) (cd := xc_X9_inForce) (lo := 0) (n := 64) xc_up_0 xo_c_X9_inForce_0) (by decide +kernel)
set_option maxRecDepth 20000 in
theorem xo_m_X9_powersToday : xm_b xmi_X9_powersToday (1, 1) (3, 160) (0, 23) = true := by decide +kernel
theorem xo_w_X9_powersToday : Cond.code xmi_X9_powersToday.2.1 xmi_X9_powersToday.2.2.1 xmi_X9_powersToday.2.2.2.1 xmi_X9_powersToday.2.2.2.2.1 ∈ xG := xw_in2 (K := 3) (i := 161) rfl rfl
set_option maxRecDepth 20000 in
theorem xo_c_X9_powersToday_0 : xc_b xmi_X9_powersToday xc_X9_powersToday 0 32 = true := by decide +kernel
theorem xo_r_X9_powersToday : ∀ (pc : Nat) (r : xr_R), xcl xc_X9_powersToday pc = some r → xr_b xmi_X9_powersToday.1 (xm_ini xmi_X9_powersToday) xmi_X9_powersToday.2.2.1 pc r = true ∧ xr_c xM xmi_X9_powersToday.1 r = true := xc_up_e (mi := xmi_X9_powersToday) (cd := xc_X9_powersToday) (N := 32) (xc_up_s (mi := xmi_X9_powersToday) (cd := xc_X9_powersToday) (lo := 0) (n := 32) xc_up_0 xo_c_X9_powersToday_0) (by decide +kernel)
set_option maxRecDepth 20000 in
theorem xo_m_X9_commonDivisor : xm_b xmi_X9_commonDivisor (1, 1) (5, 75) (99, 0) = true := by decide +kernel
theorem xo_w_X9_commonDivisor : Cond.code xmi_X9_commonDivisor.2.1 xmi_X9_commonDivisor.2.2.1 xmi_X9_commonDivisor.2.2.2.1 xmi_X9_commonDivisor.2.2.2.2.1 ∈ xG := xw_in2 (K := 5) (i := 76) rfl rfl
set_option maxRecDepth 20000 in
theorem xo_c_X9_commonDivisor_0 : xc_b xmi_X9_commonDivisor xc_X9_commonDivisor 0 48 = true := by decide +kernel
theorem xo_r_X9_commonDivisor : ∀ (pc : Nat) (r : xr_R), xcl xc_X9_commonDivisor pc = some r → xr_b xmi_X9_commonDivisor.1 (xm_ini xmi_X9_commonDivisor) xmi_X9_commonDivisor.2.2.1 pc r = true ∧ xr_c xM xmi_X9_commonDivisor.1 r = true := xc_up_e (mi := xmi_X9_commonDivisor) (cd := xc_X9_commonDivisor) (N := 48) (xc_up_s (mi := xmi_X9_commonDivisor) (cd := xc_X9_commonDivisor) (lo := 0) (n := 48) xc_up_0 xo_c_X9_commonDivisor_0) (by decide +kernel)
set_option maxRecDepth 20000 in
theorem xo_m_X10_init : xm_b xmi_X10_init (1, 11) (5, 80) (99, 0) = true := by decide +kernel
theorem xo_w_X10_init : Cond.code xmi_X10_init.2.1 xmi_X10_init.2.2.1 xmi_X10_init.2.2.2.1 xmi_X10_init.2.2.2.2.1 ∈ xG := xw_in2 (K := 5) (i := 81) rfl rfl
set_option maxRecDepth 20000 in
theorem xo_c_X10_init_0 : xc_b xmi_X10_init xc_X10_init 0 48 = true := by decide +kernel
set_option maxRecDepth 20000 in
theorem xo_c_X10_init_48 : xc_b xmi_X10_init xc_X10_init 48 48 = true := by decide +kernel
set_option maxRecDepth 20000 in
theorem xo_c_X10_init_96 : xc_b xmi_X10_init xc_X10_init 96 48 = true := by decide +kernel
set_option maxRecDepth 20000 in
theorem xo_c_X10_init_144 : xc_b xmi_X10_init xc_X10_init 144 48 = true := by decide +kernel
set_option maxRecDepth 20000 in
theorem xo_c_X10_init_192 : xc_b xmi_X10_init xc_X10_init 192 48 = true := by decide +kernel
set_option maxRecDepth 20000 in
theorem xo_c_X10_init_240 : xc_b xmi_X10_init xc_X10_init 240 48 = true := by decide +kernel
set_option maxRecDepth 20000 in
theorem xo_c_X10_init_288 : xc_b xmi_X10_init xc_X10_init 288 48 = true := by decide +kernel
set_option maxRecDepth 20000 in
theorem xo_c_X10_init_336 : xc_b xmi_X10_init xc_X10_init 336 48 = true := by decide +kernel
set_option maxRecDepth 20000 in
theorem xo_c_X10_init_384 : xc_b xmi_X10_init xc_X10_init 384 48 = true := by decide +kernel
set_option maxRecDepth 20000 in
theorem xo_c_X10_init_432 : xc_b xmi_X10_init xc_X10_init 432 48 = true := by decide +kernel
set_option maxRecDepth 20000 in
theorem xo_c_X10_init_480 : xc_b xmi_X10_init xc_X10_init 480 48 = true := by decide +kernel
set_option maxRecDepth 20000 in
theorem xo_c_X10_init_528 : xc_b xmi_X10_init xc_X10_init 528 48 = true := by decide +kernel
set_option maxRecDepth 20000 in
theorem xo_c_X10_init_576 : xc_b xmi_X10_init xc_X10_init 576 48 = true := by decide +kernel
set_option maxRecDepth 20000 in
theorem xo_c_X10_init_624 : xc_b xmi_X10_init xc_X10_init 624 48 = true := by decide +kernel
set_option maxRecDepth 20000 in
theorem xo_c_X10_init_672 : xc_b xmi_X10_init xc_X10_init 672 32 = true := by decide +kernel
theorem xo_r_X10_init : ∀ (pc : Nat) (r : xr_R), xcl xc_X10_init pc = some r → xr_b xmi_X10_init.1 (xm_ini xmi_X10_init) xmi_X10_init.2.2.1 pc r = true ∧ xr_c xM xmi_X10_init.1 r = true := xc_up_e (mi := xmi_X10_init) (cd := xc_X10_init) (N := 704) (xc_up_s (mi := xmi_X10_init) (cd := xc_X10_init) (lo := 672) (n := 32) (xc_up_s (mi := xmi_X10_init) (cd := xc_X10_init) (lo := 624) (n := 48) (xc_up_s (mi := xmi_X10_init) (cd := xc_X10_init) (lo := 576) (n := 48) (xc_up_s (mi := xmi_X10_init) (cd := xc_X10_init) (lo := 528) (n := 48) (xc_up_s (mi := xmi_X10_init) (cd := xc_X10_init) (lo := 480) (n := 48) (xc_up_s (mi := xmi_X10_init) (cd := xc_X10_init) (lo := 432) (n := 48) (xc_up_s (mi := xmi_X10_init) (cd := xc_X10_init) (lo := 384) (n := 48) (xc_up_s (mi := xmi_X10_init) (cd := xc_X10_init) (lo := 336) (n := 48) (xc_up_s (mi := xmi_X10_init) (cd := xc_X10_init) (lo := 288) (n := 48) (xc_up_s (mi := xmi_X10_init) (cd := xc_X10_init) (lo := 240) (n := 48) (xc_up_s (mi := xmi_X10_init) (cd := xc_X10_init) (lo := 192) (n := 48) (xc_up_s (mi := xmi_X10_init) (cd := xc_X10_init) (lo := 144) (n := 48) (xc_up_s (mi := xmi_X10_init) (cd := xc_X10_init) (lo := 96) (n := 48) (xc_up_s (mi := xmi_X10_init) (cd := xc_X10_init) (lo := 48) (n := 48) (xc_up_s (mi := xmi_X10_init) (cd := xc_X10_init) (lo := 0) (n := 48) xc_up_0 xo_c_X10_init_0) xo_c_X10_init_48) xo_c_X10_init_96) xo_c_X10_init_144) xo_c_X10_init_192) xo_c_X10_init_240) xo_c_X10_init_288) xo_c_X10_init_336) xo_c_X10_init_384) xo_c_X10_init_432) xo_c_X10_init_480) xo_c_X10_init_528) xo_c_X10_init_576) xo_c_X10_init_624) xo_c_X10_init_672) (by decide +kernel)
set_option maxRecDepth 20000 in
theorem xo_m_X10_refuse : xm_b xmi_X10_refuse (1, 11) (7, 29) (0, 97) = true := by decide +kernel
theorem xo_w_X10_refuse : Cond.code xmi_X10_refuse.2.1 xmi_X10_refuse.2.2.1 xmi_X10_refuse.2.2.2.1 xmi_X10_refuse.2.2.2.2.1 ∈ xG := xw_in2 (K := 7) (i := 30) rfl rfl
set_option maxRecDepth 20000 in
theorem xo_c_X10_refuse_0 : xc_b xmi_X10_refuse xc_X10_refuse 0 16 = true := by decide +kernel
theorem xo_r_X10_refuse : ∀ (pc : Nat) (r : xr_R), xcl xc_X10_refuse pc = some r → xr_b xmi_X10_refuse.1 (xm_ini xmi_X10_refuse) xmi_X10_refuse.2.2.1 pc r = true ∧ xr_c xM xmi_X10_refuse.1 r = true := xc_up_e (mi := xmi_X10_refuse) (cd := xc_X10_refuse) (N := 16) (xc_up_s (mi := xmi_X10_refuse) (cd := xc_X10_refuse) (lo := 0) (n := 16) xc_up_0 xo_c_X10_refuse_0) (by decide +kernel)
set_option maxRecDepth 20000 in
theorem xo_m_X10_come : xm_b xmi_X10_come (1, 11) (6, 45) (0, 57) = true := by decide +kernel
theorem xo_w_X10_come : Cond.code xmi_X10_come.2.1 xmi_X10_come.2.2.1 xmi_X10_come.2.2.2.1 xmi_X10_come.2.2.2.2.1 ∈ xG := xw_in2 (K := 6) (i := 46) rfl rfl
set_option maxRecDepth 20000 in
theorem xo_c_X10_come_0 : xc_b xmi_X10_come xc_X10_come 0 48 = true := by decide +kernel
theorem xo_r_X10_come : ∀ (pc : Nat) (r : xr_R), xcl xc_X10_come pc = some r → xr_b xmi_X10_come.1 (xm_ini xmi_X10_come) xmi_X10_come.2.2.1 pc r = true ∧ xr_c xM xmi_X10_come.1 r = true := xc_up_e (mi := xmi_X10_come) (cd := xc_X10_come) (N := 48) (xc_up_s (mi := xmi_X10_come) (cd := xc_X10_come) (lo := 0) (n := 48) xc_up_0 xo_c_X10_come_0) (by decide +kernel)
set_option maxRecDepth 20000 in
theorem xo_m_X10_feed : xm_b xmi_X10_feed (1, 11) (6, 40) (6, 41) = true := by decide +kernel
theorem xo_w_X10_feed : Cond.code xmi_X10_feed.2.1 xmi_X10_feed.2.2.1 xmi_X10_feed.2.2.2.1 xmi_X10_feed.2.2.2.2.1 ∈ xG := xw_in2 (K := 6) (i := 42) rfl rfl
set_option maxRecDepth 20000 in
theorem xo_c_X10_feed_0 : xc_b xmi_X10_feed xc_X10_feed 0 64 = true := by decide +kernel
theorem xo_r_X10_feed : ∀ (pc : Nat) (r : xr_R), xcl xc_X10_feed pc = some r → xr_b xmi_X10_feed.1 (xm_ini xmi_X10_feed) xmi_X10_feed.2.2.1 pc r = true ∧ xr_c xM xmi_X10_feed.1 r = true := xc_up_e (mi := xmi_X10_feed) (cd := xc_X10_feed) (N := 64) (xc_up_s (mi := xmi_X10_feed) (cd := xc_X10_feed) (lo := 0) (n := 64) xc_up_0 xo_c_X10_feed_0) (by decide +kernel)
set_option maxRecDepth 20000 in
theorem xo_m_X10_end : xm_b xmi_X10_end (1, 11) (6, 48) (6, 49) = true := by decide +kernel
theorem xo_w_X10_end : Cond.code xmi_X10_end.2.1 xmi_X10_end.2.2.1 xmi_X10_end.2.2.2.1 xmi_X10_end.2.2.2.2.1 ∈ xG := xw_in2 (K := 6) (i := 50) rfl rfl
set_option maxRecDepth 20000 in
theorem xo_c_X10_end_0 : xc_b xmi_X10_end xc_X10_end 0 32 = true := by decide +kernel
theorem xo_r_X10_end : ∀ (pc : Nat) (r : xr_R), xcl xc_X10_end pc = some r → xr_b xmi_X10_end.1 (xm_ini xmi_X10_end) xmi_X10_end.2.2.1 pc r = true ∧ xr_c xM xmi_X10_end.1 r = true := xc_up_e (mi := xmi_X10_end) (cd := xc_X10_end) (N := 32) (xc_up_s (mi := xmi_X10_end) (cd := xc_X10_end) (lo := 0) (n := 32) xc_up_0 xo_c_X10_end_0) (by decide +kernel)
set_option maxRecDepth 20000 in
theorem xo_m_X10_take : xm_b xmi_X10_take (1, 11) (6, 68) (0, 58) = true := by decide +kernel
theorem xo_w_X10_take : Cond.code xmi_X10_take.2.1 xmi_X10_take.2.2.1 xmi_X10_take.2.2.2.1 xmi_X10_take.2.2.2.2.1 ∈ xG := xw_in2 (K := 6) (i := 69) rfl rfl
set_option maxRecDepth 20000 in
theorem xo_c_X10_take_0 : xc_b xmi_X10_take xc_X10_take 0 16 = true := by decide +kernel
theorem xo_r_X10_take : ∀ (pc : Nat) (r : xr_R), xcl xc_X10_take pc = some r → xr_b xmi_X10_take.1 (xm_ini xmi_X10_take) xmi_X10_take.2.2.1 pc r = true ∧ xr_c xM xmi_X10_take.1 r = true := xc_up_e (mi := xmi_X10_take) (cd := xc_X10_take) (N := 16) (xc_up_s (mi := xmi_X10_take) (cd := xc_X10_take) (lo := 0) (n := 16) xc_up_0 xo_c_X10_take_0) (by decide +kernel)
set_option maxRecDepth 20000 in
theorem xo_m_X10_isIn : xm_b xmi_X10_isIn (1, 11) (6, 56) (99, 0) = true := by decide +kernel
theorem xo_w_X10_isIn : Cond.code xmi_X10_isIn.2.1 xmi_X10_isIn.2.2.1 xmi_X10_isIn.2.2.2.1 xmi_X10_isIn.2.2.2.2.1 ∈ xG := xw_in2 (K := 6) (i := 57) rfl rfl
set_option maxRecDepth 20000 in
theorem xo_c_X10_isIn_0 : xc_b xmi_X10_isIn xc_X10_isIn 0 16 = true := by decide +kernel
theorem xo_r_X10_isIn : ∀ (pc : Nat) (r : xr_R), xcl xc_X10_isIn pc = some r → xr_b xmi_X10_isIn.1 (xm_ini xmi_X10_isIn) xmi_X10_isIn.2.2.1 pc r = true ∧ xr_c xM xmi_X10_isIn.1 r = true := xc_up_e (mi := xmi_X10_isIn) (cd := xc_X10_isIn) (N := 16) (xc_up_s (mi := xmi_X10_isIn) (cd := xc_X10_isIn) (lo := 0) (n := 16) xc_up_0 xo_c_X10_isIn_0) (by decide +kernel)
set_option maxRecDepth 20000 in
theorem xo_m_X10_next : xm_b xmi_X10_next (1, 11) (6, 52) (6, 53) = true := by decide +kernel
theorem xo_w_X10_next : Cond.code xmi_X10_next.2.1 xmi_X10_next.2.2.1 xmi_X10_next.2.2.2.1 xmi_X10_next.2.2.2.2.1 ∈ xG := xw_in2 (K := 6) (i := 54) rfl rfl
set_option maxRecDepth 20000 in
theorem xo_c_X10_next_0 : xc_b xmi_X10_next xc_X10_next 0 48 = true := by decide +kernel
theorem xo_r_X10_next : ∀ (pc : Nat) (r : xr_R), xcl xc_X10_next pc = some r → xr_b xmi_X10_next.1 (xm_ini xmi_X10_next) xmi_X10_next.2.2.1 pc r = true ∧ xr_c xM xmi_X10_next.1 r = true := xc_up_e (mi := xmi_X10_next) (cd := xc_X10_next) (N := 48) (xc_up_s (mi := xmi_X10_next) (cd := xc_X10_next) (lo := 0) (n := 48) xc_up_0 xo_c_X10_next_0) (by decide +kernel)
set_option maxRecDepth 20000 in
theorem xo_m_X10_members : xm_b xmi_X10_members (1, 11) (6, 59) (6, 60) = true := by decide +kernel
theorem xo_w_X10_members : Cond.code xmi_X10_members.2.1 xmi_X10_members.2.2.1 xmi_X10_members.2.2.2.1 xmi_X10_members.2.2.2.2.1 ∈ xG := xw_in2 (K := 6) (i := 61) rfl rfl
set_option maxRecDepth 20000 in
theorem xo_c_X10_members_0 : xc_b xmi_X10_members xc_X10_members 0 48 = true := by decide +kernel
theorem xo_r_X10_members : ∀ (pc : Nat) (r : xr_R), xcl xc_X10_members pc = some r → xr_b xmi_X10_members.1 (xm_ini xmi_X10_members) xmi_X10_members.2.2.1 pc r = true ∧ xr_c xM xmi_X10_members.1 r = true := xc_up_e (mi := xmi_X10_members) (cd := xc_X10_members) (N := 48) (xc_up_s (mi := xmi_X10_members) (cd := xc_X10_members) (lo := 0) (n := 48) xc_up_0 xo_c_X10_members_0) (by decide +kernel)
set_option maxRecDepth 20000 in
theorem xo_m_X10_isMember : xm_b xmi_X10_isMember (1, 11) (6, 158) (0, 77) = true := by decide +kernel
theorem xo_w_X10_isMember : Cond.code xmi_X10_isMember.2.1 xmi_X10_isMember.2.2.1 xmi_X10_isMember.2.2.2.1 xmi_X10_isMember.2.2.2.2.1 ∈ xG := xw_in2 (K := 6) (i := 159) rfl rfl
set_option maxRecDepth 20000 in
theorem xo_c_X10_isMember_0 : xc_b xmi_X10_isMember xc_X10_isMember 0 32 = true := by decide +kernel
theorem xo_r_X10_isMember : ∀ (pc : Nat) (r : xr_R), xcl xc_X10_isMember pc = some r → xr_b xmi_X10_isMember.1 (xm_ini xmi_X10_isMember) xmi_X10_isMember.2.2.1 pc r = true ∧ xr_c xM xmi_X10_isMember.1 r = true := xc_up_e (mi := xmi_X10_isMember) (cd := xc_X10_isMember) (N := 32) (xc_up_s (mi := xmi_X10_isMember) (cd := xc_X10_isMember) (lo := 0) (n := 32) xc_up_0 xo_c_X10_isMember_0) (by decide +kernel)
set_option maxRecDepth 20000 in
theorem xo_m_X10_isSet : xm_b xmi_X10_isSet (1, 11) (6, 186) (0, 82) = true := by decide +kernel
theorem xo_w_X10_isSet : Cond.code xmi_X10_isSet.2.1 xmi_X10_isSet.2.2.1 xmi_X10_isSet.2.2.2.1 xmi_X10_isSet.2.2.2.2.1 ∈ xG := xw_in2 (K := 6) (i := 187) rfl rfl
set_option maxRecDepth 20000 in
theorem xo_c_X10_isSet_0 : xc_b xmi_X10_isSet xc_X10_isSet 0 32 = true := by decide +kernel
theorem xo_r_X10_isSet : ∀ (pc : Nat) (r : xr_R), xcl xc_X10_isSet pc = some r → xr_b xmi_X10_isSet.1 (xm_ini xmi_X10_isSet) xmi_X10_isSet.2.2.1 pc r = true ∧ xr_c xM xmi_X10_isSet.1 r = true := xc_up_e (mi := xmi_X10_isSet) (cd := xc_X10_isSet) (N := 32) (xc_up_s (mi := xmi_X10_isSet) (cd := xc_X10_isSet) (lo := 0) (n := 32) xc_up_0 xo_c_X10_isSet_0) (by decide +kernel)
set_option maxRecDepth 20000 in
theorem xo_m_X10_sizeOf : xm_b xmi_X10_sizeOf (1, 11) (6, 229) (99, 0) = true := by decide +kernel
theorem xo_w_X10_sizeOf : Cond.code xmi_X10_sizeOf.2.1 xmi_X10_sizeOf.2.2.1 xmi_X10_sizeOf.2.2.2.1 xmi_X10_sizeOf.2.2.2.2.1 ∈ xG := xw_in2 (K := 6) (i := 230) rfl rfl
set_option maxRecDepth 20000 in
theorem xo_c_X10_sizeOf_0 : xc_b xmi_X10_sizeOf xc_X10_sizeOf 0 32 = true := by decide +kernel
theorem xo_r_X10_sizeOf : ∀ (pc : Nat) (r : xr_R), xcl xc_X10_sizeOf pc = some r → xr_b xmi_X10_sizeOf.1 (xm_ini xmi_X10_sizeOf) xmi_X10_sizeOf.2.2.1 pc r = true ∧ xr_c xM xmi_X10_sizeOf.1 r = true := xc_up_e (mi := xmi_X10_sizeOf) (cd := xc_X10_sizeOf) (N := 32) (xc_up_s (mi := xmi_X10_sizeOf) (cd := xc_X10_sizeOf) (lo := 0) (n := 32) xc_up_0 xo_c_X10_sizeOf_0) (by decide +kernel)
set_option maxRecDepth 20000 in
theorem xo_m_X10_byteAt : xm_b xmi_X10_byteAt (1, 11) (6, 85) (0, 60) = true := by decide +kernel
theorem xo_w_X10_byteAt : Cond.code xmi_X10_byteAt.2.1 xmi_X10_byteAt.2.2.1 xmi_X10_byteAt.2.2.2.1 xmi_X10_byteAt.2.2.2.2.1 ∈ xG := xw_in2 (K := 6) (i := 86) rfl rfl
set_option maxRecDepth 20000 in
theorem xo_c_X10_byteAt_0 : xc_b xmi_X10_byteAt xc_X10_byteAt 0 32 = true := by decide +kernel
theorem xo_r_X10_byteAt : ∀ (pc : Nat) (r : xr_R), xcl xc_X10_byteAt pc = some r → xr_b xmi_X10_byteAt.1 (xm_ini xmi_X10_byteAt) xmi_X10_byteAt.2.2.1 pc r = true ∧ xr_c xM xmi_X10_byteAt.1 r = true := xc_up_e (mi := xmi_X10_byteAt) (cd := xc_X10_byteAt) (N := 32) (xc_up_s (mi := xmi_X10_byteAt) (cd := xc_X10_byteAt) (lo := 0) (n := 32) xc_up_0 xo_c_X10_byteAt_0) (by decide +kernel)
set_option maxRecDepth 20000 in
theorem xo_m_X10_isDigit : xm_b xmi_X10_isDigit (1, 11) (6, 78) (99, 0) = true := by decide +kernel
theorem xo_w_X10_isDigit : Cond.code xmi_X10_isDigit.2.1 xmi_X10_isDigit.2.2.1 xmi_X10_isDigit.2.2.2.1 xmi_X10_isDigit.2.2.2.2.1 ∈ xG := xw_in2 (K := 6) (i := 79) rfl rfl
set_option maxRecDepth 20000 in
theorem xo_c_X10_isDigit_0 : xc_b xmi_X10_isDigit xc_X10_isDigit 0 32 = true := by decide +kernel
theorem xo_r_X10_isDigit : ∀ (pc : Nat) (r : xr_R), xcl xc_X10_isDigit pc = some r → xr_b xmi_X10_isDigit.1 (xm_ini xmi_X10_isDigit) xmi_X10_isDigit.2.2.1 pc r = true ∧ xr_c xM xmi_X10_isDigit.1 r = true := xc_up_e (mi := xmi_X10_isDigit) (cd := xc_X10_isDigit) (N := 32) (xc_up_s (mi := xmi_X10_isDigit) (cd := xc_X10_isDigit) (lo := 0) (n := 32) xc_up_0 xo_c_X10_isDigit_0) (by decide +kernel)
set_option maxRecDepth 20000 in
theorem xo_m_X10_isLetter : xm_b xmi_X10_isLetter (1, 11) (6, 75) (99, 0) = true := by decide +kernel
theorem xo_w_X10_isLetter : Cond.code xmi_X10_isLetter.2.1 xmi_X10_isLetter.2.2.1 xmi_X10_isLetter.2.2.2.1 xmi_X10_isLetter.2.2.2.2.1 ∈ xG := xw_in2 (K := 6) (i := 76) rfl rfl
set_option maxRecDepth 20000 in
theorem xo_c_X10_isLetter_0 : xc_b xmi_X10_isLetter xc_X10_isLetter 0 32 = true := by decide +kernel
theorem xo_r_X10_isLetter : ∀ (pc : Nat) (r : xr_R), xcl xc_X10_isLetter pc = some r → xr_b xmi_X10_isLetter.1 (xm_ini xmi_X10_isLetter) xmi_X10_isLetter.2.2.1 pc r = true ∧ xr_c xM xmi_X10_isLetter.1 r = true := xc_up_e (mi := xmi_X10_isLetter) (cd := xc_X10_isLetter) (N := 32) (xc_up_s (mi := xmi_X10_isLetter) (cd := xc_X10_isLetter) (lo := 0) (n := 32) xc_up_0 xo_c_X10_isLetter_0) (by decide +kernel)
set_option maxRecDepth 20000 in
theorem xo_m_X10_isMark : xm_b xmi_X10_isMark (1, 11) (6, 81) (99, 0) = true := by decide +kernel
theorem xo_w_X10_isMark : Cond.code xmi_X10_isMark.2.1 xmi_X10_isMark.2.2.1 xmi_X10_isMark.2.2.2.1 xmi_X10_isMark.2.2.2.2.1 ∈ xG := xw_in2 (K := 6) (i := 82) rfl rfl
set_option maxRecDepth 20000 in
theorem xo_c_X10_isMark_0 : xc_b xmi_X10_isMark xc_X10_isMark 0 48 = true := by decide +kernel
theorem xo_r_X10_isMark : ∀ (pc : Nat) (r : xr_R), xcl xc_X10_isMark pc = some r → xr_b xmi_X10_isMark.1 (xm_ini xmi_X10_isMark) xmi_X10_isMark.2.2.1 pc r = true ∧ xr_c xM xmi_X10_isMark.1 r = true := xc_up_e (mi := xmi_X10_isMark) (cd := xc_X10_isMark) (N := 48) (xc_up_s (mi := xmi_X10_isMark) (cd := xc_X10_isMark) (lo := 0) (n := 48) xc_up_0 xo_c_X10_isMark_0) (by decide +kernel)
set_option maxRecDepth 20000 in
theorem xo_m_X10_go : xm_b xmi_X10_go (1, 11) (6, 72) (0, 59) = true := by decide +kernel
theorem xo_w_X10_go : Cond.code xmi_X10_go.2.1 xmi_X10_go.2.2.1 xmi_X10_go.2.2.2.1 xmi_X10_go.2.2.2.2.1 ∈ xG := xw_in2 (K := 6) (i := 73) rfl rfl
set_option maxRecDepth 20000 in
theorem xo_c_X10_go_0 : xc_b xmi_X10_go xc_X10_go 0 112 = true := by decide +kernel
set_option maxRecDepth 20000 in
theorem xo_c_X10_go_112 : xc_b xmi_X10_go xc_X10_go 112 112 = true := by decide +kernel
set_option maxRecDepth 20000 in
theorem xo_c_X10_go_224 : xc_b xmi_X10_go xc_X10_go 224 112 = true := by decide +kernel
set_option maxRecDepth 20000 in
theorem xo_c_X10_go_336 : xc_b xmi_X10_go xc_X10_go 336 48 = true := by decide +kernel
theorem xo_r_X10_go : ∀ (pc : Nat) (r : xr_R), xcl xc_X10_go pc = some r → xr_b xmi_X10_go.1 (xm_ini xmi_X10_go) xmi_X10_go.2.2.1 pc r = true ∧ xr_c xM xmi_X10_go.1 r = true := xc_up_e (mi := xmi_X10_go) (cd := xc_X10_go) (N := 384) (xc_up_s (mi := xmi_X10_go) (cd := xc_X10_go) (lo := 336) (n := 48) (xc_up_s (mi := xmi_X10_go) (cd := xc_X10_go) (lo := 224) (n := 112) (xc_up_s (mi := xmi_X10_go) (cd := xc_X10_go) (lo := 112) (n := 112) (xc_up_s (mi := xmi_X10_go) (cd := xc_X10_go) (lo := 0) (n := 112) xc_up_0 xo_c_X10_go_0) xo_c_X10_go_112) xo_c_X10_go_224) xo_c_X10_go_336) (by decide +kernel)
set_option maxRecDepth 20000 in
theorem xo_m_X10_spelt : xm_b xmi_X10_spelt (1, 11) (6, 94) (99, 0) = true := by decide +kernel
theorem xo_w_X10_spelt : Cond.code xmi_X10_spelt.2.1 xmi_X10_spelt.2.2.1 xmi_X10_spelt.2.2.2.1 xmi_X10_spelt.2.2.2.2.1 ∈ xG := xw_in2 (K := 6) (i := 95) rfl rfl
set_option maxRecDepth 20000 in
theorem xo_c_X10_spelt_0 : xc_b xmi_X10_spelt xc_X10_spelt 0 96 = true := by decide +kernel
theorem xo_r_X10_spelt : ∀ (pc : Nat) (r : xr_R), xcl xc_X10_spelt pc = some r → xr_b xmi_X10_spelt.1 (xm_ini xmi_X10_spelt) xmi_X10_spelt.2.2.1 pc r = true ∧ xr_c xM xmi_X10_spelt.1 r = true := xc_up_e (mi := xmi_X10_spelt) (cd := xc_X10_spelt) (N := 96) (xc_up_s (mi := xmi_X10_spelt) (cd := xc_X10_spelt) (lo := 0) (n := 96) xc_up_0 xo_c_X10_spelt_0) (by decide +kernel)
set_option maxRecDepth 20000 in
theorem xo_m_X10_isKey : xm_b xmi_X10_isKey (1, 11) (6, 98) (0, 62) = true := by decide +kernel
theorem xo_w_X10_isKey : Cond.code xmi_X10_isKey.2.1 xmi_X10_isKey.2.2.1 xmi_X10_isKey.2.2.2.1 xmi_X10_isKey.2.2.2.2.1 ∈ xG := xw_in2 (K := 6) (i := 99) rfl rfl
set_option maxRecDepth 20000 in
theorem xo_c_X10_isKey_0 : xc_b xmi_X10_isKey xc_X10_isKey 0 32 = true := by decide +kernel
theorem xo_r_X10_isKey : ∀ (pc : Nat) (r : xr_R), xcl xc_X10_isKey pc = some r → xr_b xmi_X10_isKey.1 (xm_ini xmi_X10_isKey) xmi_X10_isKey.2.2.1 pc r = true ∧ xr_c xM xmi_X10_isKey.1 r = true := xc_up_e (mi := xmi_X10_isKey) (cd := xc_X10_isKey) (N := 32) (xc_up_s (mi := xmi_X10_isKey) (cd := xc_X10_isKey) (lo := 0) (n := 32) xc_up_0 xo_c_X10_isKey_0) (by decide +kernel)
set_option maxRecDepth 20000 in
theorem xo_m_X10_isBody : xm_b xmi_X10_isBody (1, 11) (6, 91) (0, 61) = true := by decide +kernel
theorem xo_w_X10_isBody : Cond.code xmi_X10_isBody.2.1 xmi_X10_isBody.2.2.1 xmi_X10_isBody.2.2.2.1 xmi_X10_isBody.2.2.2.2.1 ∈ xG := xw_in2 (K := 6) (i := 92) rfl rfl
set_option maxRecDepth 20000 in
theorem xo_c_X10_isBody_0 : xc_b xmi_X10_isBody xc_X10_isBody 0 32 = true := by decide +kernel
theorem xo_r_X10_isBody : ∀ (pc : Nat) (r : xr_R), xcl xc_X10_isBody pc = some r → xr_b xmi_X10_isBody.1 (xm_ini xmi_X10_isBody) xmi_X10_isBody.2.2.1 pc r = true ∧ xr_c xM xmi_X10_isBody.1 r = true := xc_up_e (mi := xmi_X10_isBody) (cd := xc_X10_isBody) (N := 32) (xc_up_s (mi := xmi_X10_isBody) (cd := xc_X10_isBody) (lo := 0) (n := 32) xc_up_0 xo_c_X10_isBody_0) (by decide +kernel)
set_option maxRecDepth 20000 in
theorem xo_m_X10_isCarry : xm_b xmi_X10_isCarry (1, 11) (6, 110) (0, 65) = true := by decide +kernel
theorem xo_w_X10_isCarry : Cond.code xmi_X10_isCarry.2.1 xmi_X10_isCarry.2.2.1 xmi_X10_isCarry.2.2.2.1 xmi_X10_isCarry.2.2.2.2.1 ∈ xG := xw_in2 (K := 6) (i := 111) rfl rfl
set_option maxRecDepth 20000 in
theorem xo_c_X10_isCarry_0 : xc_b xmi_X10_isCarry xc_X10_isCarry 0 32 = true := by decide +kernel
theorem xo_r_X10_isCarry : ∀ (pc : Nat) (r : xr_R), xcl xc_X10_isCarry pc = some r → xr_b xmi_X10_isCarry.1 (xm_ini xmi_X10_isCarry) xmi_X10_isCarry.2.2.1 pc r = true ∧ xr_c xM xmi_X10_isCarry.1 r = true := xc_up_e (mi := xmi_X10_isCarry) (cd := xc_X10_isCarry) (N := 32) (xc_up_s (mi := xmi_X10_isCarry) (cd := xc_X10_isCarry) (lo := 0) (n := 32) xc_up_0 xo_c_X10_isCarry_0) (by decide +kernel)
set_option maxRecDepth 20000 in
theorem xo_m_X10_isAnd : xm_b xmi_X10_isAnd (1, 11) (6, 114) (0, 66) = true := by decide +kernel
theorem xo_w_X10_isAnd : Cond.code xmi_X10_isAnd.2.1 xmi_X10_isAnd.2.2.1 xmi_X10_isAnd.2.2.2.1 xmi_X10_isAnd.2.2.2.2.1 ∈ xG := xw_in2 (K := 6) (i := 115) rfl rfl
set_option maxRecDepth 20000 in
theorem xo_c_X10_isAnd_0 : xc_b xmi_X10_isAnd xc_X10_isAnd 0 16 = true := by decide +kernel
theorem xo_r_X10_isAnd : ∀ (pc : Nat) (r : xr_R), xcl xc_X10_isAnd pc = some r → xr_b xmi_X10_isAnd.1 (xm_ini xmi_X10_isAnd) xmi_X10_isAnd.2.2.1 pc r = true ∧ xr_c xM xmi_X10_isAnd.1 r = true := xc_up_e (mi := xmi_X10_isAnd) (cd := xc_X10_isAnd) (N := 16) (xc_up_s (mi := xmi_X10_isAnd) (cd := xc_X10_isAnd) (lo := 0) (n := 16) xc_up_0 xo_c_X10_isAnd_0) (by decide +kernel)
set_option maxRecDepth 20000 in
theorem xo_m_X10_isOr : xm_b xmi_X10_isOr (1, 11) (6, 118) (0, 67) = true := by decide +kernel
theorem xo_w_X10_isOr : Cond.code xmi_X10_isOr.2.1 xmi_X10_isOr.2.2.1 xmi_X10_isOr.2.2.2.1 xmi_X10_isOr.2.2.2.2.1 ∈ xG := xw_in2 (K := 6) (i := 119) rfl rfl
set_option maxRecDepth 20000 in
theorem xo_c_X10_isOr_0 : xc_b xmi_X10_isOr xc_X10_isOr 0 16 = true := by decide +kernel
theorem xo_r_X10_isOr : ∀ (pc : Nat) (r : xr_R), xcl xc_X10_isOr pc = some r → xr_b xmi_X10_isOr.1 (xm_ini xmi_X10_isOr) xmi_X10_isOr.2.2.1 pc r = true ∧ xr_c xM xmi_X10_isOr.1 r = true := xc_up_e (mi := xmi_X10_isOr) (cd := xc_X10_isOr) (N := 16) (xc_up_s (mi := xmi_X10_isOr) (cd := xc_X10_isOr) (lo := 0) (n := 16) xc_up_0 xo_c_X10_isOr_0) (by decide +kernel)
set_option maxRecDepth 20000 in
theorem xo_m_X10_isOf : xm_b xmi_X10_isOf (1, 11) (6, 122) (0, 68) = true := by decide +kernel
theorem xo_w_X10_isOf : Cond.code xmi_X10_isOf.2.1 xmi_X10_isOf.2.2.1 xmi_X10_isOf.2.2.2.1 xmi_X10_isOf.2.2.2.2.1 ∈ xG := xw_in2 (K := 6) (i := 123) rfl rfl
set_option maxRecDepth 20000 in
theorem xo_c_X10_isOf_0 : xc_b xmi_X10_isOf xc_X10_isOf 0 16 = true := by decide +kernel
theorem xo_r_X10_isOf : ∀ (pc : Nat) (r : xr_R), xcl xc_X10_isOf pc = some r → xr_b xmi_X10_isOf.1 (xm_ini xmi_X10_isOf) xmi_X10_isOf.2.2.1 pc r = true ∧ xr_c xM xmi_X10_isOf.1 r = true := xc_up_e (mi := xmi_X10_isOf) (cd := xc_X10_isOf) (N := 16) (xc_up_s (mi := xmi_X10_isOf) (cd := xc_X10_isOf) (lo := 0) (n := 16) xc_up_0 xo_c_X10_isOf_0) (by decide +kernel)
set_option maxRecDepth 20000 in
theorem xo_m_X10_isName : xm_b xmi_X10_isName (1, 11) (6, 106) (0, 64) = true := by decide +kernel
theorem xo_w_X10_isName : Cond.code xmi_X10_isName.2.1 xmi_X10_isName.2.2.1 xmi_X10_isName.2.2.2.1 xmi_X10_isName.2.2.2.2.1 ∈ xG := xw_in2 (K := 6) (i := 107) rfl rfl
set_option maxRecDepth 20000 in
theorem xo_c_X10_isName_0 : xc_b xmi_X10_isName xc_X10_isName 0 64 = true := by decide +kernel
theorem xo_r_X10_isName : ∀ (pc : Nat) (r : xr_R), xcl xc_X10_isName pc = some r → xr_b xmi_X10_isName.1 (xm_ini xmi_X10_isName) xmi_X10_isName.2.2.1 pc r = true ∧ xr_c xM xmi_X10_isName.1 r = true := xc_up_e (mi := xmi_X10_isName) (cd := xc_X10_isName) (N := 64) (xc_up_s (mi := xmi_X10_isName) (cd := xc_X10_isName) (lo := 0) (n := 64) xc_up_0 xo_c_X10_isName_0) (by decide +kernel)
set_option maxRecDepth 20000 in
theorem xo_m_X10_isSign : xm_b xmi_X10_isSign (1, 11) (6, 134) (0, 71) = true := by decide +kernel
theorem xo_w_X10_isSign : Cond.code xmi_X10_isSign.2.1 xmi_X10_isSign.2.2.1 xmi_X10_isSign.2.2.2.1 xmi_X10_isSign.2.2.2.2.1 ∈ xG := xw_in2 (K := 6) (i := 135) rfl rfl
set_option maxRecDepth 20000 in
theorem xo_c_X10_isSign_0 : xc_b xmi_X10_isSign xc_X10_isSign 0 32 = true := by decide +kernel
theorem xo_r_X10_isSign : ∀ (pc : Nat) (r : xr_R), xcl xc_X10_isSign pc = some r → xr_b xmi_X10_isSign.1 (xm_ini xmi_X10_isSign) xmi_X10_isSign.2.2.1 pc r = true ∧ xr_c xM xmi_X10_isSign.1 r = true := xc_up_e (mi := xmi_X10_isSign) (cd := xc_X10_isSign) (N := 32) (xc_up_s (mi := xmi_X10_isSign) (cd := xc_X10_isSign) (lo := 0) (n := 32) xc_up_0 xo_c_X10_isSign_0) (by decide +kernel)
set_option maxRecDepth 20000 in
theorem xo_m_X10_bad : xm_b xmi_X10_bad (1, 11) (6, 126) (0, 69) = true := by decide +kernel
theorem xo_w_X10_bad : Cond.code xmi_X10_bad.2.1 xmi_X10_bad.2.2.1 xmi_X10_bad.2.2.2.1 xmi_X10_bad.2.2.2.2.1 ∈ xG := xw_in2 (K := 6) (i := 127) rfl rfl
set_option maxRecDepth 20000 in
theorem xo_c_X10_bad_0 : xc_b xmi_X10_bad xc_X10_bad 0 32 = true := by decide +kernel
theorem xo_r_X10_bad : ∀ (pc : Nat) (r : xr_R), xcl xc_X10_bad pc = some r → xr_b xmi_X10_bad.1 (xm_ini xmi_X10_bad) xmi_X10_bad.2.2.1 pc r = true ∧ xr_c xM xmi_X10_bad.1 r = true := xc_up_e (mi := xmi_X10_bad) (cd := xc_X10_bad) (N := 32) (xc_up_s (mi := xmi_X10_bad) (cd := xc_X10_bad) (lo := 0) (n := 32) xc_up_0 xo_c_X10_bad_0) (by decide +kernel)
set_option maxRecDepth 20000 in
theorem xo_m_X10_badAt : xm_b xmi_X10_badAt (1, 11) (6, 170) (0, 80) = true := by decide +kernel
theorem xo_w_X10_badAt : Cond.code xmi_X10_badAt.2.1 xmi_X10_badAt.2.2.1 xmi_X10_badAt.2.2.2.1 xmi_X10_badAt.2.2.2.2.1 ∈ xG := xw_in2 (K := 6) (i := 171) rfl rfl
set_option maxRecDepth 20000 in
theorem xo_c_X10_badAt_0 : xc_b xmi_X10_badAt xc_X10_badAt 0 16 = true := by decide +kernel
theorem xo_r_X10_badAt : ∀ (pc : Nat) (r : xr_R), xcl xc_X10_badAt pc = some r → xr_b xmi_X10_badAt.1 (xm_ini xmi_X10_badAt) xmi_X10_badAt.2.2.1 pc r = true ∧ xr_c xM xmi_X10_badAt.1 r = true := xc_up_e (mi := xmi_X10_badAt) (cd := xc_X10_badAt) (N := 16) (xc_up_s (mi := xmi_X10_badAt) (cd := xc_X10_badAt) (lo := 0) (n := 16) xc_up_0 xo_c_X10_badAt_0) (by decide +kernel)
set_option maxRecDepth 20000 in
theorem xo_m_X10_openRule : xm_b xmi_X10_openRule (1, 11) (6, 142) (0, 73) = true := by decide +kernel
theorem xo_w_X10_openRule : Cond.code xmi_X10_openRule.2.1 xmi_X10_openRule.2.2.1 xmi_X10_openRule.2.2.2.1 xmi_X10_openRule.2.2.2.2.1 ∈ xG := xw_in2 (K := 6) (i := 143) rfl rfl
set_option maxRecDepth 20000 in
theorem xo_c_X10_openRule_0 : xc_b xmi_X10_openRule xc_X10_openRule 0 80 = true := by decide +kernel
theorem xo_r_X10_openRule : ∀ (pc : Nat) (r : xr_R), xcl xc_X10_openRule pc = some r → xr_b xmi_X10_openRule.1 (xm_ini xmi_X10_openRule) xmi_X10_openRule.2.2.1 pc r = true ∧ xr_c xM xmi_X10_openRule.1 r = true := xc_up_e (mi := xmi_X10_openRule) (cd := xc_X10_openRule) (N := 80) (xc_up_s (mi := xmi_X10_openRule) (cd := xc_X10_openRule) (lo := 0) (n := 80) xc_up_0 xo_c_X10_openRule_0) (by decide +kernel)
set_option maxRecDepth 20000 in
theorem xo_m_X10_openList : xm_b xmi_X10_openList (1, 11) (6, 166) (0, 79) = true := by decide +kernel
theorem xo_w_X10_openList : Cond.code xmi_X10_openList.2.1 xmi_X10_openList.2.2.1 xmi_X10_openList.2.2.2.1 xmi_X10_openList.2.2.2.2.1 ∈ xG := xw_in2 (K := 6) (i := 167) rfl rfl
set_option maxRecDepth 20000 in
theorem xo_c_X10_openList_0 : xc_b xmi_X10_openList xc_X10_openList 0 80 = true := by decide +kernel
theorem xo_r_X10_openList : ∀ (pc : Nat) (r : xr_R), xcl xc_X10_openList pc = some r → xr_b xmi_X10_openList.1 (xm_ini xmi_X10_openList) xmi_X10_openList.2.2.1 pc r = true ∧ xr_c xM xmi_X10_openList.1 r = true := xc_up_e (mi := xmi_X10_openList) (cd := xc_X10_openList) (N := 80) (xc_up_s (mi := xmi_X10_openList) (cd := xc_X10_openList) (lo := 0) (n := 80) xc_up_0 xo_c_X10_openList_0) (by decide +kernel)
set_option maxRecDepth 20000 in
theorem xo_m_X10_begin : xm_b xmi_X10_begin (1, 11) (6, 146) (0, 74) = true := by decide +kernel
theorem xo_w_X10_begin : Cond.code xmi_X10_begin.2.1 xmi_X10_begin.2.2.1 xmi_X10_begin.2.2.2.1 xmi_X10_begin.2.2.2.2.1 ∈ xG := xw_in2 (K := 6) (i := 147) rfl rfl
set_option maxRecDepth 20000 in
theorem xo_c_X10_begin_0 : xc_b xmi_X10_begin xc_X10_begin 0 32 = true := by decide +kernel
theorem xo_r_X10_begin : ∀ (pc : Nat) (r : xr_R), xcl xc_X10_begin pc = some r → xr_b xmi_X10_begin.1 (xm_ini xmi_X10_begin) xmi_X10_begin.2.2.1 pc r = true ∧ xr_c xM xmi_X10_begin.1 r = true := xc_up_e (mi := xmi_X10_begin) (cd := xc_X10_begin) (N := 32) (xc_up_s (mi := xmi_X10_begin) (cd := xc_X10_begin) (lo := 0) (n := 32) xc_up_0 xo_c_X10_begin_0) (by decide +kernel)
set_option maxRecDepth 20000 in
theorem xo_m_X10_beginItem : xm_b xmi_X10_beginItem (1, 11) (6, 150) (0, 75) = true := by decide +kernel
theorem xo_w_X10_beginItem : Cond.code xmi_X10_beginItem.2.1 xmi_X10_beginItem.2.2.1 xmi_X10_beginItem.2.2.2.1 xmi_X10_beginItem.2.2.2.2.1 ∈ xG := xw_in2 (K := 6) (i := 151) rfl rfl
set_option maxRecDepth 20000 in
theorem xo_c_X10_beginItem_0 : xc_b xmi_X10_beginItem xc_X10_beginItem 0 112 = true := by decide +kernel
theorem xo_r_X10_beginItem : ∀ (pc : Nat) (r : xr_R), xcl xc_X10_beginItem pc = some r → xr_b xmi_X10_beginItem.1 (xm_ini xmi_X10_beginItem) xmi_X10_beginItem.2.2.1 pc r = true ∧ xr_c xM xmi_X10_beginItem.1 r = true := xc_up_e (mi := xmi_X10_beginItem) (cd := xc_X10_beginItem) (N := 112) (xc_up_s (mi := xmi_X10_beginItem) (cd := xc_X10_beginItem) (lo := 0) (n := 112) xc_up_0 xo_c_X10_beginItem_0) (by decide +kernel)
set_option maxRecDepth 20000 in
theorem xo_m_X10_beginList : xm_b xmi_X10_beginList (1, 11) (6, 162) (0, 78) = true := by decide +kernel
theorem xo_w_X10_beginList : Cond.code xmi_X10_beginList.2.1 xmi_X10_beginList.2.2.1 xmi_X10_beginList.2.2.2.1 xmi_X10_beginList.2.2.2.2.1 ∈ xG := xw_in2 (K := 6) (i := 163) rfl rfl
set_option maxRecDepth 20000 in
theorem xo_c_X10_beginList_0 : xc_b xmi_X10_beginList xc_X10_beginList 0 64 = true := by decide +kernel
theorem xo_r_X10_beginList : ∀ (pc : Nat) (r : xr_R), xcl xc_X10_beginList pc = some r → xr_b xmi_X10_beginList.1 (xm_ini xmi_X10_beginList) xmi_X10_beginList.2.2.1 pc r = true ∧ xr_c xM xmi_X10_beginList.1 r = true := xc_up_e (mi := xmi_X10_beginList) (cd := xc_X10_beginList) (N := 64) (xc_up_s (mi := xmi_X10_beginList) (cd := xc_X10_beginList) (lo := 0) (n := 64) xc_up_0 xo_c_X10_beginList_0) (by decide +kernel)
set_option maxRecDepth 20000 in
theorem xo_m_X10_nameAtHand : xm_b xmi_X10_nameAtHand (1, 11) (6, 130) (0, 70) = true := by decide +kernel
theorem xo_w_X10_nameAtHand : Cond.code xmi_X10_nameAtHand.2.1 xmi_X10_nameAtHand.2.2.1 xmi_X10_nameAtHand.2.2.2.1 xmi_X10_nameAtHand.2.2.2.2.1 ∈ xG := xw_in2 (K := 6) (i := 131) rfl rfl
set_option maxRecDepth 20000 in
theorem xo_c_X10_nameAtHand_0 : xc_b xmi_X10_nameAtHand xc_X10_nameAtHand 0 48 = true := by decide +kernel
theorem xo_r_X10_nameAtHand : ∀ (pc : Nat) (r : xr_R), xcl xc_X10_nameAtHand pc = some r → xr_b xmi_X10_nameAtHand.1 (xm_ini xmi_X10_nameAtHand) xmi_X10_nameAtHand.2.2.1 pc r = true ∧ xr_c xM xmi_X10_nameAtHand.1 r = true := xc_up_e (mi := xmi_X10_nameAtHand) (cd := xc_X10_nameAtHand) (N := 48) (xc_up_s (mi := xmi_X10_nameAtHand) (cd := xc_X10_nameAtHand) (lo := 0) (n := 48) xc_up_0 xo_c_X10_nameAtHand_0) (by decide +kernel)
set_option maxRecDepth 20000 in
theorem xo_m_X10_beginOne : xm_b xmi_X10_beginOne (1, 11) (6, 154) (0, 76) = true := by decide +kernel
theorem xo_w_X10_beginOne : Cond.code xmi_X10_beginOne.2.1 xmi_X10_beginOne.2.2.1 xmi_X10_beginOne.2.2.2.1 xmi_X10_beginOne.2.2.2.2.1 ∈ xG := xw_in2 (K := 6) (i := 155) rfl rfl
set_option maxRecDepth 20000 in
theorem xo_c_X10_beginOne_0 : xc_b xmi_X10_beginOne xc_X10_beginOne 0 112 = true := by decide +kernel
set_option maxRecDepth 20000 in
theorem xo_c_X10_beginOne_112 : xc_b xmi_X10_beginOne xc_X10_beginOne 112 112 = true := by decide +kernel
set_option maxRecDepth 20000 in
theorem xo_c_X10_beginOne_224 : xc_b xmi_X10_beginOne xc_X10_beginOne 224 80 = true := by decide +kernel
theorem xo_r_X10_beginOne : ∀ (pc : Nat) (r : xr_R), xcl xc_X10_beginOne pc = some r → xr_b xmi_X10_beginOne.1 (xm_ini xmi_X10_beginOne) xmi_X10_beginOne.2.2.1 pc r = true ∧ xr_c xM xmi_X10_beginOne.1 r = true := xc_up_e (mi := xmi_X10_beginOne) (cd := xc_X10_beginOne) (N := 304) (xc_up_s (mi := xmi_X10_beginOne) (cd := xc_X10_beginOne) (lo := 224) (n := 80) (xc_up_s (mi := xmi_X10_beginOne) (cd := xc_X10_beginOne) (lo := 112) (n := 112) (xc_up_s (mi := xmi_X10_beginOne) (cd := xc_X10_beginOne) (lo := 0) (n := 112) xc_up_0 xo_c_X10_beginOne_0) xo_c_X10_beginOne_112) xo_c_X10_beginOne_224) (by decide +kernel)
set_option maxRecDepth 20000 in
theorem xo_m_X10_end_ : xm_b xmi_X10_end_ (1, 11) (6, 174) (0, 81) = true := by decide +kernel
theorem xo_w_X10_end_ : Cond.code xmi_X10_end_.2.1 xmi_X10_end_.2.2.1 xmi_X10_end_.2.2.2.1 xmi_X10_end_.2.2.2.2.1 ∈ xG := xw_in2 (K := 6) (i := 175) rfl rfl
set_option maxRecDepth 20000 in
theorem xo_c_X10_end__0 : xc_b xmi_X10_end_ xc_X10_end_ 0 48 = true := by decide +kernel
set_option maxRecDepth 20000 in
theorem xo_c_X10_end__48 : xc_b xmi_X10_end_ xc_X10_end_ 48 48 = true := by decide +kernel
set_option maxRecDepth 20000 in
theorem xo_c_X10_end__96 : xc_b xmi_X10_end_ xc_X10_end_ 96 48 = true := by decide +kernel
set_option maxRecDepth 20000 in
theorem xo_c_X10_end__144 : xc_b xmi_X10_end_ xc_X10_end_ 144 48 = true := by decide +kernel
set_option maxRecDepth 20000 in
theorem xo_c_X10_end__192 : xc_b xmi_X10_end_ xc_X10_end_ 192 48 = true := by decide +kernel
set_option maxRecDepth 20000 in
theorem xo_c_X10_end__240 : xc_b xmi_X10_end_ xc_X10_end_ 240 48 = true := by decide +kernel
set_option maxRecDepth 20000 in
theorem xo_c_X10_end__288 : xc_b xmi_X10_end_ xc_X10_end_ 288 48 = true := by decide +kernel
set_option maxRecDepth 20000 in
theorem xo_c_X10_end__336 : xc_b xmi_X10_end_ xc_X10_end_ 336 48 = true := by decide +kernel
set_option maxRecDepth 20000 in
theorem xo_c_X10_end__384 : xc_b xmi_X10_end_ xc_X10_end_ 384 16 = true := by decide +kernel
theorem xo_r_X10_end_ : ∀ (pc : Nat) (r : xr_R), xcl xc_X10_end_ pc = some r → xr_b xmi_X10_end_.1 (xm_ini xmi_X10_end_) xmi_X10_end_.2.2.1 pc r = true ∧ xr_c xM xmi_X10_end_.1 r = true := xc_up_e (mi := xmi_X10_end_) (cd := xc_X10_end_) (N := 400) (xc_up_s (mi := xmi_X10_end_) (cd := xc_X10_end_) (lo := 384) (n := 16) (xc_up_s (mi := xmi_X10_end_) (cd := xc_X10_end_) (lo := 336) (n := 48) (xc_up_s (mi := xmi_X10_end_) (cd := xc_X10_end_) (lo := 288) (n := 48) (xc_up_s (mi := xmi_X10_end_) (cd := xc_X10_end_) (lo := 240) (n := 48) (xc_up_s (mi := xmi_X10_end_) (cd := xc_X10_end_) (lo := 192) (n := 48) (xc_up_s (mi := xmi_X10_end_) (cd := xc_X10_end_) (lo := 144) (n := 48) (xc_up_s (mi := xmi_X10_end_) (cd := xc_X10_end_) (lo := 96) (n := 48) (xc_up_s (mi := xmi_X10_end_) (cd := xc_X10_end_) (lo := 48) (n := 48) (xc_up_s (mi := xmi_X10_end_) (cd := xc_X10_end_) (lo := 0) (n := 48) xc_up_0 xo_c_X10_end__0) xo_c_X10_end__48) xo_c_X10_end__96) xo_c_X10_end__144) xo_c_X10_end__192) xo_c_X10_end__240) xo_c_X10_end__288) xo_c_X10_end__336) xo_c_X10_end__384) (by decide +kernel)
set_option maxRecDepth 20000 in
theorem xo_m_X10_readRule : xm_b xmi_X10_readRule (1, 11) (6, 138) (0, 72) = true := by decide +kernel
theorem xo_w_X10_readRule : Cond.code xmi_X10_readRule.2.1 xmi_X10_readRule.2.2.1 xmi_X10_readRule.2.2.2.1 xmi_X10_readRule.2.2.2.2.1 ∈ xG := xw_in2 (K := 6) (i := 139) rfl rfl
set_option maxRecDepth 20000 in
theorem xo_c_X10_readRule_0 : xc_b xmi_X10_readRule xc_X10_readRule 0 64 = true := by decide +kernel
theorem xo_r_X10_readRule : ∀ (pc : Nat) (r : xr_R), xcl xc_X10_readRule pc = some r → xr_b xmi_X10_readRule.1 (xm_ini xmi_X10_readRule) xmi_X10_readRule.2.2.1 pc r = true ∧ xr_c xM xmi_X10_readRule.1 r = true := xc_up_e (mi := xmi_X10_readRule) (cd := xc_X10_readRule) (N := 64) (xc_up_s (mi := xmi_X10_readRule) (cd := xc_X10_readRule) (lo := 0) (n := 64) xc_up_0 xo_c_X10_readRule_0) (by decide +kernel)
set_option maxRecDepth 20000 in
theorem xo_m_X10_readBody : xm_b xmi_X10_readBody (1, 11) (6, 102) (0, 63) = true := by decide +kernel
theorem xo_w_X10_readBody : Cond.code xmi_X10_readBody.2.1 xmi_X10_readBody.2.2.1 xmi_X10_readBody.2.2.2.1 xmi_X10_readBody.2.2.2.2.1 ∈ xG := xw_in2 (K := 6) (i := 103) rfl rfl
set_option maxRecDepth 20000 in
theorem xo_c_X10_readBody_0 : xc_b xmi_X10_readBody xc_X10_readBody 0 112 = true := by decide +kernel
set_option maxRecDepth 20000 in
theorem xo_c_X10_readBody_112 : xc_b xmi_X10_readBody xc_X10_readBody 112 32 = true := by decide +kernel
theorem xo_r_X10_readBody : ∀ (pc : Nat) (r : xr_R), xcl xc_X10_readBody pc = some r → xr_b xmi_X10_readBody.1 (xm_ini xmi_X10_readBody) xmi_X10_readBody.2.2.1 pc r = true ∧ xr_c xM xmi_X10_readBody.1 r = true := xc_up_e (mi := xmi_X10_readBody) (cd := xc_X10_readBody) (N := 144) (xc_up_s (mi := xmi_X10_readBody) (cd := xc_X10_readBody) (lo := 112) (n := 32) (xc_up_s (mi := xmi_X10_readBody) (cd := xc_X10_readBody) (lo := 0) (n := 112) xc_up_0 xo_c_X10_readBody_0) xo_c_X10_readBody_112) (by decide +kernel)
set_option maxRecDepth 20000 in
theorem xo_m_X10_statute : xm_b xmi_X10_statute (1, 11) (6, 63) (6, 64) = true := by decide +kernel
theorem xo_w_X10_statute : Cond.code xmi_X10_statute.2.1 xmi_X10_statute.2.2.1 xmi_X10_statute.2.2.2.1 xmi_X10_statute.2.2.2.2.1 ∈ xG := xw_in2 (K := 6) (i := 65) rfl rfl
set_option maxRecDepth 20000 in
theorem xo_c_X10_statute_0 : xc_b xmi_X10_statute xc_X10_statute 0 112 = true := by decide +kernel
set_option maxRecDepth 20000 in
theorem xo_c_X10_statute_112 : xc_b xmi_X10_statute xc_X10_statute 112 112 = true := by decide +kernel
theorem xo_r_X10_statute : ∀ (pc : Nat) (r : xr_R), xcl xc_X10_statute pc = some r → xr_b xmi_X10_statute.1 (xm_ini xmi_X10_statute) xmi_X10_statute.2.2.1 pc r = true ∧ xr_c xM xmi_X10_statute.1 r = true := xc_up_e (mi := xmi_X10_statute) (cd := xc_X10_statute) (N := 224) (xc_up_s (mi := xmi_X10_statute) (cd := xc_X10_statute) (lo := 112) (n := 112) (xc_up_s (mi := xmi_X10_statute) (cd := xc_X10_statute) (lo := 0) (n := 112) xc_up_0 xo_c_X10_statute_0) xo_c_X10_statute_112) (by decide +kernel)
set_option maxRecDepth 20000 in
theorem xo_m_X10_fault : xm_b xmi_X10_fault (1, 11) (6, 177) (6, 178) = true := by decide +kernel
theorem xo_w_X10_fault : Cond.code xmi_X10_fault.2.1 xmi_X10_fault.2.2.1 xmi_X10_fault.2.2.2.1 xmi_X10_fault.2.2.2.2.1 ∈ xG := xw_in2 (K := 6) (i := 179) rfl rfl
set_option maxRecDepth 20000 in
theorem xo_c_X10_fault_0 : xc_b xmi_X10_fault xc_X10_fault 0 16 = true := by decide +kernel
theorem xo_r_X10_fault : ∀ (pc : Nat) (r : xr_R), xcl xc_X10_fault pc = some r → xr_b xmi_X10_fault.1 (xm_ini xmi_X10_fault) xmi_X10_fault.2.2.1 pc r = true ∧ xr_c xM xmi_X10_fault.1 r = true := xc_up_e (mi := xmi_X10_fault) (cd := xc_X10_fault) (N := 16) (xc_up_s (mi := xmi_X10_fault) (cd := xc_X10_fault) (lo := 0) (n := 16) xc_up_0 xo_c_X10_fault_0) (by decide +kernel)
set_option maxRecDepth 20000 in
theorem xo_m_X10_inForce : xm_b xmi_X10_inForce (1, 11) (6, 190) (0, 83) = true := by decide +kernel
theorem xo_w_X10_inForce : Cond.code xmi_X10_inForce.2.1 xmi_X10_inForce.2.2.1 xmi_X10_inForce.2.2.2.1 xmi_X10_inForce.2.2.2.2.1 ∈ xG := xw_in2 (K := 6) (i := 191) rfl rfl
set_option maxRecDepth 20000 in
theorem xo_c_X10_inForce_0 : xc_b xmi_X10_inForce xc_X10_inForce 0 80 = true := by decide +kernel
theorem xo_r_X10_inForce : ∀ (pc : Nat) (r : xr_R), xcl xc_X10_inForce pc = some r → xr_b xmi_X10_inForce.1 (xm_ini xmi_X10_inForce) xmi_X10_inForce.2.2.1 pc r = true ∧ xr_c xM xmi_X10_inForce.1 r = true := xc_up_e (mi := xmi_X10_inForce) (cd := xc_X10_inForce) (N := 80) (xc_up_s (mi := xmi_X10_inForce) (cd := xc_X10_inForce) (lo := 0) (n := 80) xc_up_0 xo_c_X10_inForce_0) (by decide +kernel)
set_option maxRecDepth 20000 in
theorem xo_m_X10_carriesBy : xm_b xmi_X10_carriesBy (1, 11) (6, 194) (0, 84) = true := by decide +kernel
theorem xo_w_X10_carriesBy : Cond.code xmi_X10_carriesBy.2.1 xmi_X10_carriesBy.2.2.1 xmi_X10_carriesBy.2.2.2.1 xmi_X10_carriesBy.2.2.2.2.1 ∈ xG := xw_in2 (K := 6) (i := 195) rfl rfl
set_option maxRecDepth 20000 in
theorem xo_c_X10_carriesBy_0 : xc_b xmi_X10_carriesBy xc_X10_carriesBy 0 48 = true := by decide +kernel
theorem xo_r_X10_carriesBy : ∀ (pc : Nat) (r : xr_R), xcl xc_X10_carriesBy pc = some r → xr_b xmi_X10_carriesBy.1 (xm_ini xmi_X10_carriesBy) xmi_X10_carriesBy.2.2.1 pc r = true ∧ xr_c xM xmi_X10_carriesBy.1 r = true := xc_up_e (mi := xmi_X10_carriesBy) (cd := xc_X10_carriesBy) (N := 48) (xc_up_s (mi := xmi_X10_carriesBy) (cd := xc_X10_carriesBy) (lo := 0) (n := 48) xc_up_0 xo_c_X10_carriesBy_0) (by decide +kernel)
set_option maxRecDepth 20000 in
theorem xo_m_X10_carries : xm_b xmi_X10_carries (1, 11) (6, 181) (6, 182) = true := by decide +kernel
theorem xo_w_X10_carries : Cond.code xmi_X10_carries.2.1 xmi_X10_carries.2.2.1 xmi_X10_carries.2.2.2.1 xmi_X10_carries.2.2.2.2.1 ∈ xG := xw_in2 (K := 6) (i := 183) rfl rfl
set_option maxRecDepth 20000 in
theorem xo_c_X10_carries_0 : xc_b xmi_X10_carries xc_X10_carries 0 48 = true := by decide +kernel
theorem xo_r_X10_carries : ∀ (pc : Nat) (r : xr_R), xcl xc_X10_carries pc = some r → xr_b xmi_X10_carries.1 (xm_ini xmi_X10_carries) xmi_X10_carries.2.2.1 pc r = true ∧ xr_c xM xmi_X10_carries.1 r = true := xc_up_e (mi := xmi_X10_carries) (cd := xc_X10_carries) (N := 48) (xc_up_s (mi := xmi_X10_carries) (cd := xc_X10_carries) (lo := 0) (n := 48) xc_up_0 xo_c_X10_carries_0) (by decide +kernel)
set_option maxRecDepth 20000 in
theorem xo_m_X10_lay : xm_b xmi_X10_lay (1, 11) (6, 202) (0, 85) = true := by decide +kernel
theorem xo_w_X10_lay : Cond.code xmi_X10_lay.2.1 xmi_X10_lay.2.2.1 xmi_X10_lay.2.2.2.1 xmi_X10_lay.2.2.2.2.1 ∈ xG := xw_in2 (K := 6) (i := 203) rfl rfl
set_option maxRecDepth 20000 in
theorem xo_c_X10_lay_0 : xc_b xmi_X10_lay xc_X10_lay 0 64 = true := by decide +kernel
theorem xo_r_X10_lay : ∀ (pc : Nat) (r : xr_R), xcl xc_X10_lay pc = some r → xr_b xmi_X10_lay.1 (xm_ini xmi_X10_lay) xmi_X10_lay.2.2.1 pc r = true ∧ xr_c xM xmi_X10_lay.1 r = true := xc_up_e (mi := xmi_X10_lay) (cd := xc_X10_lay) (N := 64) (xc_up_s (mi := xmi_X10_lay) (cd := xc_X10_lay) (lo := 0) (n := 64) xc_up_0 xo_c_X10_lay_0) (by decide +kernel)
set_option maxRecDepth 20000 in
theorem xo_m_X10_isLeast : xm_b xmi_X10_isLeast (1, 11) (6, 214) (0, 88) = true := by decide +kernel
theorem xo_w_X10_isLeast : Cond.code xmi_X10_isLeast.2.1 xmi_X10_isLeast.2.2.1 xmi_X10_isLeast.2.2.2.1 xmi_X10_isLeast.2.2.2.2.1 ∈ xG := xw_in2 (K := 6) (i := 215) rfl rfl
set_option maxRecDepth 20000 in
theorem xo_c_X10_isLeast_0 : xc_b xmi_X10_isLeast xc_X10_isLeast 0 64 = true := by decide +kernel
theorem xo_r_X10_isLeast : ∀ (pc : Nat) (r : xr_R), xcl xc_X10_isLeast pc = some r → xr_b xmi_X10_isLeast.1 (xm_ini xmi_X10_isLeast) xmi_X10_isLeast.2.2.1 pc r = true ∧ xr_c xM xmi_X10_isLeast.1 r = true := xc_up_e (mi := xmi_X10_isLeast) (cd := xc_X10_isLeast) (N := 64) (xc_up_s (mi := xmi_X10_isLeast) (cd := xc_X10_isLeast) (lo := 0) (n := 64) xc_up_0 xo_c_X10_isLeast_0) (by decide +kernel)
set_option maxRecDepth 20000 in
theorem xo_m_X10_hinders : xm_b xmi_X10_hinders (1, 11) (6, 222) (0, 90) = true := by decide +kernel
theorem xo_w_X10_hinders : Cond.code xmi_X10_hinders.2.1 xmi_X10_hinders.2.2.1 xmi_X10_hinders.2.2.2.1 xmi_X10_hinders.2.2.2.2.1 ∈ xG := xw_in2 (K := 6) (i := 223) rfl rfl
set_option maxRecDepth 20000 in
theorem xo_c_X10_hinders_0 : xc_b xmi_X10_hinders xc_X10_hinders 0 32 = true := by decide +kernel
theorem xo_r_X10_hinders : ∀ (pc : Nat) (r : xr_R), xcl xc_X10_hinders pc = some r → xr_b xmi_X10_hinders.1 (xm_ini xmi_X10_hinders) xmi_X10_hinders.2.2.1 pc r = true ∧ xr_c xM xmi_X10_hinders.1 r = true := xc_up_e (mi := xmi_X10_hinders) (cd := xc_X10_hinders) (N := 32) (xc_up_s (mi := xmi_X10_hinders) (cd := xc_X10_hinders) (lo := 0) (n := 32) xc_up_0 xo_c_X10_hinders_0) (by decide +kernel)
set_option maxRecDepth 20000 in
theorem xo_m_X10_isLeastHinder : xm_b xmi_X10_isLeastHinder (1, 11) (6, 218) (0, 89) = true := by decide +kernel
theorem xo_w_X10_isLeastHinder : Cond.code xmi_X10_isLeastHinder.2.1 xmi_X10_isLeastHinder.2.2.1 xmi_X10_isLeastHinder.2.2.2.1 xmi_X10_isLeastHinder.2.2.2.2.1 ∈ xG := xw_in2 (K := 6) (i := 219) rfl rfl
set_option maxRecDepth 20000 in
theorem xo_c_X10_isLeastHinder_0 : xc_b xmi_X10_isLeastHinder xc_X10_isLeastHinder 0 64 = true := by decide +kernel
theorem xo_r_X10_isLeastHinder : ∀ (pc : Nat) (r : xr_R), xcl xc_X10_isLeastHinder pc = some r → xr_b xmi_X10_isLeastHinder.1 (xm_ini xmi_X10_isLeastHinder) xmi_X10_isLeastHinder.2.2.1 pc r = true ∧ xr_c xM xmi_X10_isLeastHinder.1 r = true := xc_up_e (mi := xmi_X10_isLeastHinder) (cd := xc_X10_isLeastHinder) (N := 64) (xc_up_s (mi := xmi_X10_isLeastHinder) (cd := xc_X10_isLeastHinder) (lo := 0) (n := 64) xc_up_0 xo_c_X10_isLeastHinder_0) (by decide +kernel)
set_option maxRecDepth 20000 in
theorem xo_m_X10_isOfKind : xm_b xmi_X10_isOfKind (1, 11) (6, 210) (0, 87) = true := by decide +kernel
theorem xo_w_X10_isOfKind : Cond.code xmi_X10_isOfKind.2.1 xmi_X10_isOfKind.2.2.1 xmi_X10_isOfKind.2.2.2.1 xmi_X10_isOfKind.2.2.2.2.1 ∈ xG := xw_in2 (K := 6) (i := 211) rfl rfl
set_option maxRecDepth 20000 in
theorem xo_c_X10_isOfKind_0 : xc_b xmi_X10_isOfKind xc_X10_isOfKind 0 32 = true := by decide +kernel
theorem xo_r_X10_isOfKind : ∀ (pc : Nat) (r : xr_R), xcl xc_X10_isOfKind pc = some r → xr_b xmi_X10_isOfKind.1 (xm_ini xmi_X10_isOfKind) xmi_X10_isOfKind.2.2.1 pc r = true ∧ xr_c xM xmi_X10_isOfKind.1 r = true := xc_up_e (mi := xmi_X10_isOfKind) (cd := xc_X10_isOfKind) (N := 32) (xc_up_s (mi := xmi_X10_isOfKind) (cd := xc_X10_isOfKind) (lo := 0) (n := 32) xc_up_0 xo_c_X10_isOfKind_0) (by decide +kernel)
set_option maxRecDepth 20000 in
theorem xo_m_X10_countOf : xm_b xmi_X10_countOf (1, 11) (6, 206) (0, 86) = true := by decide +kernel
theorem xo_w_X10_countOf : Cond.code xmi_X10_countOf.2.1 xmi_X10_countOf.2.2.1 xmi_X10_countOf.2.2.2.1 xmi_X10_countOf.2.2.2.2.1 ∈ xG := xw_in2 (K := 6) (i := 207) rfl rfl
set_option maxRecDepth 20000 in
theorem xo_c_X10_countOf_0 : xc_b xmi_X10_countOf xc_X10_countOf 0 32 = true := by decide +kernel
theorem xo_r_X10_countOf : ∀ (pc : Nat) (r : xr_R), xcl xc_X10_countOf pc = some r → xr_b xmi_X10_countOf.1 (xm_ini xmi_X10_countOf) xmi_X10_countOf.2.2.1 pc r = true ∧ xr_c xM xmi_X10_countOf.1 r = true := xc_up_e (mi := xmi_X10_countOf) (cd := xc_X10_countOf) (N := 32) (xc_up_s (mi := xmi_X10_countOf) (cd := xc_X10_countOf) (lo := 0) (n := 32) xc_up_0 xo_c_X10_countOf_0) (by decide +kernel)
set_option maxRecDepth 20000 in
theorem xo_m_X10_whoIs : xm_b xmi_X10_whoIs (1, 11) (6, 226) (0, 91) = true := by decide +kernel
theorem xo_w_X10_whoIs : Cond.code xmi_X10_whoIs.2.1 xmi_X10_whoIs.2.2.1 xmi_X10_whoIs.2.2.2.1 xmi_X10_whoIs.2.2.2.2.1 ∈ xG := xw_in2 (K := 6) (i := 227) rfl rfl
set_option maxRecDepth 20000 in
theorem xo_c_X10_whoIs_0 : xc_b xmi_X10_whoIs xc_X10_whoIs 0 96 = true := by decide +kernel
theorem xo_r_X10_whoIs : ∀ (pc : Nat) (r : xr_R), xcl xc_X10_whoIs pc = some r → xr_b xmi_X10_whoIs.1 (xm_ini xmi_X10_whoIs) xmi_X10_whoIs.2.2.1 pc r = true ∧ xr_c xM xmi_X10_whoIs.1 r = true := xc_up_e (mi := xmi_X10_whoIs) (cd := xc_X10_whoIs) (N := 96) (xc_up_s (mi := xmi_X10_whoIs) (cd := xc_X10_whoIs) (lo := 0) (n := 96) xc_up_0 xo_c_X10_whoIs_0) (by decide +kernel)
set_option maxRecDepth 20000 in
theorem xo_m_X10_isProper : xm_b xmi_X10_isProper (1, 11) (6, 233) (0, 92) = true := by decide +kernel
theorem xo_w_X10_isProper : Cond.code xmi_X10_isProper.2.1 xmi_X10_isProper.2.2.1 xmi_X10_isProper.2.2.2.1 xmi_X10_isProper.2.2.2.2.1 ∈ xG := xw_in2 (K := 6) (i := 234) rfl rfl
set_option maxRecDepth 20000 in
theorem xo_c_X10_isProper_0 : xc_b xmi_X10_isProper xc_X10_isProper 0 48 = true := by decide +kernel
theorem xo_r_X10_isProper : ∀ (pc : Nat) (r : xr_R), xcl xc_X10_isProper pc = some r → xr_b xmi_X10_isProper.1 (xm_ini xmi_X10_isProper) xmi_X10_isProper.2.2.1 pc r = true ∧ xr_c xM xmi_X10_isProper.1 r = true := xc_up_e (mi := xmi_X10_isProper) (cd := xc_X10_isProper) (N := 48) (xc_up_s (mi := xmi_X10_isProper) (cd := xc_X10_isProper) (lo := 0) (n := 48) xc_up_0 xo_c_X10_isProper_0) (by decide +kernel)
set_option maxRecDepth 20000 in
theorem xo_m_X10_isStrong : xm_b xmi_X10_isStrong (1, 11) (6, 237) (0, 93) = true := by decide +kernel
theorem xo_w_X10_isStrong : Cond.code xmi_X10_isStrong.2.1 xmi_X10_isStrong.2.2.1 xmi_X10_isStrong.2.2.2.1 xmi_X10_isStrong.2.2.2.2.1 ∈ xG := xw_in2 (K := 6) (i := 238) rfl rfl
set_option maxRecDepth 20000 in
theorem xo_c_X10_isStrong_0 : xc_b xmi_X10_isStrong xc_X10_isStrong 0 48 = true := by decide +kernel
theorem xo_r_X10_isStrong : ∀ (pc : Nat) (r : xr_R), xcl xc_X10_isStrong pc = some r → xr_b xmi_X10_isStrong.1 (xm_ini xmi_X10_isStrong) xmi_X10_isStrong.2.2.1 pc r = true ∧ xr_c xM xmi_X10_isStrong.1 r = true := xc_up_e (mi := xmi_X10_isStrong) (cd := xc_X10_isStrong) (N := 48) (xc_up_s (mi := xmi_X10_isStrong) (cd := xc_X10_isStrong) (lo := 0) (n := 48) xc_up_0 xo_c_X10_isStrong_0) (by decide +kernel)
set_option maxRecDepth 20000 in
theorem xo_m_X10_held : xm_b xmi_X10_held (1, 11) (7, 5) (0, 95) = true := by decide +kernel
theorem xo_w_X10_held : Cond.code xmi_X10_held.2.1 xmi_X10_held.2.2.1 xmi_X10_held.2.2.2.1 xmi_X10_held.2.2.2.2.1 ∈ xG := xw_in2 (K := 7) (i := 6) rfl rfl
set_option maxRecDepth 20000 in
theorem xo_c_X10_held_0 : xc_b xmi_X10_held xc_X10_held 0 112 = true := by decide +kernel
theorem xo_r_X10_held : ∀ (pc : Nat) (r : xr_R), xcl xc_X10_held pc = some r → xr_b xmi_X10_held.1 (xm_ini xmi_X10_held) xmi_X10_held.2.2.1 pc r = true ∧ xr_c xM xmi_X10_held.1 r = true := xc_up_e (mi := xmi_X10_held) (cd := xc_X10_held) (N := 112) (xc_up_s (mi := xmi_X10_held) (cd := xc_X10_held) (lo := 0) (n := 112) xc_up_0 xo_c_X10_held_0) (by decide +kernel)
set_option maxRecDepth 20000 in
theorem xo_m_X10_isLined : xm_b xmi_X10_isLined (1, 11) (7, 1) (0, 94) = true := by decide +kernel
theorem xo_w_X10_isLined : Cond.code xmi_X10_isLined.2.1 xmi_X10_isLined.2.2.1 xmi_X10_isLined.2.2.2.1 xmi_X10_isLined.2.2.2.2.1 ∈ xG := xw_in2 (K := 7) (i := 2) rfl rfl
set_option maxRecDepth 20000 in
theorem xo_c_X10_isLined_0 : xc_b xmi_X10_isLined xc_X10_isLined 0 48 = true := by decide +kernel
theorem xo_r_X10_isLined : ∀ (pc : Nat) (r : xr_R), xcl xc_X10_isLined pc = some r → xr_b xmi_X10_isLined.1 (xm_ini xmi_X10_isLined) xmi_X10_isLined.2.2.1 pc r = true ∧ xr_c xM xmi_X10_isLined.1 r = true := xc_up_e (mi := xmi_X10_isLined) (cd := xc_X10_isLined) (N := 48) (xc_up_s (mi := xmi_X10_isLined) (cd := xc_X10_isLined) (lo := 0) (n := 48) xc_up_0 xo_c_X10_isLined_0) (by decide +kernel)
set_option maxRecDepth 20000 in
theorem xo_m_X10_many : xm_b xmi_X10_many (1, 11) (6, 197) (6, 198) = true := by decide +kernel
theorem xo_w_X10_many : Cond.code xmi_X10_many.2.1 xmi_X10_many.2.2.1 xmi_X10_many.2.2.2.1 xmi_X10_many.2.2.2.2.1 ∈ xG := xw_in2 (K := 6) (i := 199) rfl rfl
set_option maxRecDepth 20000 in
theorem xo_c_X10_many_0 : xc_b xmi_X10_many xc_X10_many 0 112 = true := by decide +kernel
set_option maxRecDepth 20000 in
theorem xo_c_X10_many_112 : xc_b xmi_X10_many xc_X10_many 112 48 = true := by decide +kernel
theorem xo_r_X10_many : ∀ (pc : Nat) (r : xr_R), xcl xc_X10_many pc = some r → xr_b xmi_X10_many.1 (xm_ini xmi_X10_many) xmi_X10_many.2.2.1 pc r = true ∧ xr_c xM xmi_X10_many.1 r = true := xc_up_e (mi := xmi_X10_many) (cd := xc_X10_many) (N := 160) (xc_up_s (mi := xmi_X10_many) (cd := xc_X10_many) (lo := 112) (n := 48) (xc_up_s (mi := xmi_X10_many) (cd := xc_X10_many) (lo := 0) (n := 112) xc_up_0 xo_c_X10_many_0) xo_c_X10_many_112) (by decide +kernel)
set_option maxRecDepth 20000 in
theorem xo_m_X10_setAt : xm_b xmi_X10_setAt (1, 11) (7, 8) (7, 9) = true := by decide +kernel
theorem xo_w_X10_setAt : Cond.code xmi_X10_setAt.2.1 xmi_X10_setAt.2.2.1 xmi_X10_setAt.2.2.2.1 xmi_X10_setAt.2.2.2.2.1 ∈ xG := xw_in2 (K := 7) (i := 10) rfl rfl
set_option maxRecDepth 20000 in
theorem xo_c_X10_setAt_0 : xc_b xmi_X10_setAt xc_X10_setAt 0 112 = true := by decide +kernel
set_option maxRecDepth 20000 in
theorem xo_c_X10_setAt_112 : xc_b xmi_X10_setAt xc_X10_setAt 112 16 = true := by decide +kernel
theorem xo_r_X10_setAt : ∀ (pc : Nat) (r : xr_R), xcl xc_X10_setAt pc = some r → xr_b xmi_X10_setAt.1 (xm_ini xmi_X10_setAt) xmi_X10_setAt.2.2.1 pc r = true ∧ xr_c xM xmi_X10_setAt.1 r = true := xc_up_e (mi := xmi_X10_setAt) (cd := xc_X10_setAt) (N := 128) (xc_up_s (mi := xmi_X10_setAt) (cd := xc_X10_setAt) (lo := 112) (n := 16) (xc_up_s (mi := xmi_X10_setAt) (cd := xc_X10_setAt) (lo := 0) (n := 112) xc_up_0 xo_c_X10_setAt_0) xo_c_X10_setAt_112) (by decide +kernel)
set_option maxRecDepth 20000 in
theorem xo_m_X10_stronger : xm_b xmi_X10_stronger (1, 11) (7, 12) (7, 13) = true := by decide +kernel
theorem xo_w_X10_stronger : Cond.code xmi_X10_stronger.2.1 xmi_X10_stronger.2.2.1 xmi_X10_stronger.2.2.2.1 xmi_X10_stronger.2.2.2.2.1 ∈ xG := xw_in2 (K := 7) (i := 14) rfl rfl
set_option maxRecDepth 20000 in
theorem xo_c_X10_stronger_0 : xc_b xmi_X10_stronger xc_X10_stronger 0 80 = true := by decide +kernel
theorem xo_r_X10_stronger : ∀ (pc : Nat) (r : xr_R), xcl xc_X10_stronger pc = some r → xr_b xmi_X10_stronger.1 (xm_ini xmi_X10_stronger) xmi_X10_stronger.2.2.1 pc r = true ∧ xr_c xM xmi_X10_stronger.1 r = true := xc_up_e (mi := xmi_X10_stronger) (cd := xc_X10_stronger) (N := 80) (xc_up_s (mi := xmi_X10_stronger) (cd := xc_X10_stronger) (lo := 0) (n := 80) xc_up_0 xo_c_X10_stronger_0) (by decide +kernel)
set_option maxRecDepth 20000 in
theorem xo_m_X10_turnsOf : xm_b xmi_X10_turnsOf (1, 11) (7, 21) (0, 96) = true := by decide +kernel
theorem xo_w_X10_turnsOf : Cond.code xmi_X10_turnsOf.2.1 xmi_X10_turnsOf.2.2.1 xmi_X10_turnsOf.2.2.2.1 xmi_X10_turnsOf.2.2.2.2.1 ∈ xG := xw_in2 (K := 7) (i := 22) rfl rfl
set_option maxRecDepth 20000 in
theorem xo_c_X10_turnsOf_0 : xc_b xmi_X10_turnsOf xc_X10_turnsOf 0 64 = true := by decide +kernel
theorem xo_r_X10_turnsOf : ∀ (pc : Nat) (r : xr_R), xcl xc_X10_turnsOf pc = some r → xr_b xmi_X10_turnsOf.1 (xm_ini xmi_X10_turnsOf) xmi_X10_turnsOf.2.2.1 pc r = true ∧ xr_c xM xmi_X10_turnsOf.1 r = true := xc_up_e (mi := xmi_X10_turnsOf) (cd := xc_X10_turnsOf) (N := 64) (xc_up_s (mi := xmi_X10_turnsOf) (cd := xc_X10_turnsOf) (lo := 0) (n := 64) xc_up_0 xo_c_X10_turnsOf_0) (by decide +kernel)
set_option maxRecDepth 20000 in
theorem xo_m_X10_turns : xm_b xmi_X10_turns (1, 11) (7, 16) (7, 17) = true := by decide +kernel
theorem xo_w_X10_turns : Cond.code xmi_X10_turns.2.1 xmi_X10_turns.2.2.1 xmi_X10_turns.2.2.2.1 xmi_X10_turns.2.2.2.2.1 ∈ xG := xw_in2 (K := 7) (i := 18) rfl rfl
set_option maxRecDepth 20000 in
theorem xo_c_X10_turns_0 : xc_b xmi_X10_turns xc_X10_turns 0 32 = true := by decide +kernel
theorem xo_r_X10_turns : ∀ (pc : Nat) (r : xr_R), xcl xc_X10_turns pc = some r → xr_b xmi_X10_turns.1 (xm_ini xmi_X10_turns) xmi_X10_turns.2.2.1 pc r = true ∧ xr_c xM xmi_X10_turns.1 r = true := xc_up_e (mi := xmi_X10_turns) (cd := xc_X10_turns) (N := 32) (xc_up_s (mi := xmi_X10_turns) (cd := xc_X10_turns) (lo := 0) (n := 32) xc_up_0 xo_c_X10_turns_0) (by decide +kernel)
set_option maxRecDepth 20000 in
theorem xo_m_X10_lessen : xm_b xmi_X10_lessen (1, 11) (7, 37) (0, 99) = true := by decide +kernel
theorem xo_w_X10_lessen : Cond.code xmi_X10_lessen.2.1 xmi_X10_lessen.2.2.1 xmi_X10_lessen.2.2.2.1 xmi_X10_lessen.2.2.2.2.1 ∈ xG := xw_in2 (K := 7) (i := 38) rfl rfl
set_option maxRecDepth 20000 in
theorem xo_c_X10_lessen_0 : xc_b xmi_X10_lessen xc_X10_lessen 0 80 = true := by decide +kernel
theorem xo_r_X10_lessen : ∀ (pc : Nat) (r : xr_R), xcl xc_X10_lessen pc = some r → xr_b xmi_X10_lessen.1 (xm_ini xmi_X10_lessen) xmi_X10_lessen.2.2.1 pc r = true ∧ xr_c xM xmi_X10_lessen.1 r = true := xc_up_e (mi := xmi_X10_lessen) (cd := xc_X10_lessen) (N := 80) (xc_up_s (mi := xmi_X10_lessen) (cd := xc_X10_lessen) (lo := 0) (n := 80) xc_up_0 xo_c_X10_lessen_0) (by decide +kernel)
end XCK1
