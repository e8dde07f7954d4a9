section XCK8
set_option maxRecDepth 20000 in
theorem xo_m_X10_findSorts : xm_b xmi_X10_findSorts (1, 11) (7, 69) (0, 102) = true := by decide +kernel
theorem xo_w_X10_findSorts : Cond.code xmi_X10_findSorts.2.1 xmi_X10_findSorts.2.2.1 xmi_X10_findSorts.2.2.2.1 xmi_X10_findSorts.2.2.2.2.1 ∈ xG := xw_in2 (K := 7) (i := 70) rfl rfl
set_option maxRecDepth 20000 in
theorem xo_c_X10_findSorts_0 : xc_b xmi_X10_findSorts xc_X10_findSorts 0 112 = true := by decide +kernel
set_option maxRecDepth 20000 in
theorem xo_c_X10_findSorts_112 : xc_b xmi_X10_findSorts xc_X10_findSorts 112 112 = true := by decide +kernel
theorem xo_r_X10_findSorts : ∀ (pc : Nat) (r : xr_R), xcl xc_X10_findSorts pc = some r → xr_b xmi_X10_findSorts.1 (xm_ini xmi_X10_findSorts) xmi_X10_findSorts.2.2.1 pc r = true ∧ xr_c xM xmi_X10_findSorts.1 r = true := xc_up_e (mi := xmi_X10_findSorts) (cd := xc_X10_findSorts) (N := 224) (xc_up_s (mi := xmi_X10_findSorts) (cd := xc_X10_findSorts) (lo := 112) (n := 112) (xc_up_s (mi := xmi_X10_findSorts) (cd := xc_X10_findSorts) (lo := 0) (n := 112) xc_up_0 xo_c_X10_findSorts_0) xo_c_X10_findSorts_112) (by decide +kernel)
set_option maxRecDepth 20000 in
theorem xo_m_X10_findEnds : xm_b xmi_X10_findEnds (1, 11) (7, 73) (0, 103) = true := by decide +kernel
theorem xo_w_X10_findEnds : Cond.code xmi_X10_findEnds.2.1 xmi_X10_findEnds.2.2.1 xmi_X10_findEnds.2.2.2.1 xmi_X10_findEnds.2.2.2.2.1 ∈ xG := xw_in2 (K := 7) (i := 74) rfl rfl
set_option maxRecDepth 20000 in
theorem xo_c_X10_findEnds_0 : xc_b xmi_X10_findEnds xc_X10_findEnds 0 96 = true := by decide +kernel
theorem xo_r_X10_findEnds : ∀ (pc : Nat) (r : xr_R), xcl xc_X10_findEnds pc = some r → xr_b xmi_X10_findEnds.1 (xm_ini xmi_X10_findEnds) xmi_X10_findEnds.2.2.1 pc r = true ∧ xr_c xM xmi_X10_findEnds.1 r = true := xc_up_e (mi := xmi_X10_findEnds) (cd := xc_X10_findEnds) (N := 96) (xc_up_s (mi := xmi_X10_findEnds) (cd := xc_X10_findEnds) (lo := 0) (n := 96) xc_up_0 xo_c_X10_findEnds_0) (by decide +kernel)
set_option maxRecDepth 20000 in
theorem xo_m_X10_sumOf : xm_b xmi_X10_sumOf (1, 11) (7, 90) (0, 107) = true := by decide +kernel
theorem xo_w_X10_sumOf : Cond.code xmi_X10_sumOf.2.1 xmi_X10_sumOf.2.2.1 xmi_X10_sumOf.2.2.2.1 xmi_X10_sumOf.2.2.2.2.1 ∈ xG := xw_in2 (K := 7) (i := 91) rfl rfl
set_option maxRecDepth 20000 in
theorem xo_c_X10_sumOf_0 : xc_b xmi_X10_sumOf xc_X10_sumOf 0 48 = true := by decide +kernel
theorem xo_r_X10_sumOf : ∀ (pc : Nat) (r : xr_R), xcl xc_X10_sumOf pc = some r → xr_b xmi_X10_sumOf.1 (xm_ini xmi_X10_sumOf) xmi_X10_sumOf.2.2.1 pc r = true ∧ xr_c xM xmi_X10_sumOf.1 r = true := xc_up_e (mi := xmi_X10_sumOf) (cd := xc_X10_sumOf) (N := 48) (xc_up_s (mi := xmi_X10_sumOf) (cd := xc_X10_sumOf) (lo := 0) (n := 48) xc_up_0 xo_c_X10_sumOf_0) (by decide +kernel)
set_option maxRecDepth 20000 in
theorem xo_m_X10_isRight : xm_b xmi_X10_isRight (1, 11) (7, 85) (0, 106) = true := by decide +kernel
theorem xo_w_X10_isRight : Cond.code xmi_X10_isRight.2.1 xmi_X10_isRight.2.2.1 xmi_X10_isRight.2.2.2.1 xmi_X10_isRight.2.2.2.2.1 ∈ xG := xw_in2 (K := 7) (i := 86) rfl rfl
set_option maxRecDepth 20000 in
theorem xo_c_X10_isRight_0 : xc_b xmi_X10_isRight xc_X10_isRight 0 80 = true := by decide +kernel
theorem xo_r_X10_isRight : ∀ (pc : Nat) (r : xr_R), xcl xc_X10_isRight pc = some r → xr_b xmi_X10_isRight.1 (xm_ini xmi_X10_isRight) xmi_X10_isRight.2.2.1 pc r = true ∧ xr_c xM xmi_X10_isRight.1 r = true := xc_up_e (mi := xmi_X10_isRight) (cd := xc_X10_isRight) (N := 80) (xc_up_s (mi := xmi_X10_isRight) (cd := xc_X10_isRight) (lo := 0) (n := 80) xc_up_0 xo_c_X10_isRight_0) (by decide +kernel)
set_option maxRecDepth 20000 in
theorem xo_m_X10_mayBe : xm_b xmi_X10_mayBe (1, 11) (7, 81) (0, 105) = true := by decide +kernel
theorem xo_w_X10_mayBe : Cond.code xmi_X10_mayBe.2.1 xmi_X10_mayBe.2.2.1 xmi_X10_mayBe.2.2.2.1 xmi_X10_mayBe.2.2.2.2.1 ∈ xG := xw_in2 (K := 7) (i := 82) rfl rfl
set_option maxRecDepth 20000 in
theorem xo_c_X10_mayBe_0 : xc_b xmi_X10_mayBe xc_X10_mayBe 0 80 = true := by decide +kernel
theorem xo_r_X10_mayBe : ∀ (pc : Nat) (r : xr_R), xcl xc_X10_mayBe pc = some r → xr_b xmi_X10_mayBe.1 (xm_ini xmi_X10_mayBe) xmi_X10_mayBe.2.2.1 pc r = true ∧ xr_c xM xmi_X10_mayBe.1 r = true := xc_up_e (mi := xmi_X10_mayBe) (cd := xc_X10_mayBe) (N := 80) (xc_up_s (mi := xmi_X10_mayBe) (cd := xc_X10_mayBe) (lo := 0) (n := 80) xc_up_0 xo_c_X10_mayBe_0) (by decide +kernel)
set_option maxRecDepth 20000 in
theorem xo_m_X10_trySum : xm_b xmi_X10_trySum (1, 11) (7, 77) (0, 104) = true := by decide +kernel
theorem xo_w_X10_trySum : Cond.code xmi_X10_trySum.2.1 xmi_X10_trySum.2.2.1 xmi_X10_trySum.2.2.2.1 xmi_X10_trySum.2.2.2.2.1 ∈ xG := xw_in2 (K := 7) (i := 78) rfl rfl
set_option maxRecDepth 20000 in
theorem xo_c_X10_trySum_0 : xc_b xmi_X10_trySum xc_X10_trySum 0 112 = true := by decide +kernel
set_option maxRecDepth 20000 in
theorem xo_c_X10_trySum_112 : xc_b xmi_X10_trySum xc_X10_trySum 112 80 = true := by decide +kernel
theorem xo_r_X10_trySum : ∀ (pc : Nat) (r : xr_R), xcl xc_X10_trySum pc = some r → xr_b xmi_X10_trySum.1 (xm_ini xmi_X10_trySum) xmi_X10_trySum.2.2.1 pc r = true ∧ xr_c xM xmi_X10_trySum.1 r = true := xc_up_e (mi := xmi_X10_trySum) (cd := xc_X10_trySum) (N := 192) (xc_up_s (mi := xmi_X10_trySum) (cd := xc_X10_trySum) (lo := 112) (n := 80) (xc_up_s (mi := xmi_X10_trySum) (cd := xc_X10_trySum) (lo := 0) (n := 112) xc_up_0 xo_c_X10_trySum_0) xo_c_X10_trySum_112) (by decide +kernel)
set_option maxRecDepth 20000 in
theorem xo_m_X10_weigh : xm_b xmi_X10_weigh (1, 11) (7, 64) (7, 65) = true := by decide +kernel
theorem xo_w_X10_weigh : Cond.code xmi_X10_weigh.2.1 xmi_X10_weigh.2.2.1 xmi_X10_weigh.2.2.2.1 xmi_X10_weigh.2.2.2.2.1 ∈ xG := xw_in2 (K := 7) (i := 66) rfl rfl
set_option maxRecDepth 20000 in
theorem xo_c_X10_weigh_0 : xc_b xmi_X10_weigh xc_X10_weigh 0 112 = true := by decide +kernel
set_option maxRecDepth 20000 in
theorem xo_c_X10_weigh_112 : xc_b xmi_X10_weigh xc_X10_weigh 112 48 = true := by decide +kernel
theorem xo_r_X10_weigh : ∀ (pc : Nat) (r : xr_R), xcl xc_X10_weigh pc = some r → xr_b xmi_X10_weigh.1 (xm_ini xmi_X10_weigh) xmi_X10_weigh.2.2.1 pc r = true ∧ xr_c xM xmi_X10_weigh.1 r = true := xc_up_e (mi := xmi_X10_weigh) (cd := xc_X10_weigh) (N := 160) (xc_up_s (mi := xmi_X10_weigh) (cd := xc_X10_weigh) (lo := 112) (n := 48) (xc_up_s (mi := xmi_X10_weigh) (cd := xc_X10_weigh) (lo := 0) (n := 112) xc_up_0 xo_c_X10_weigh_0) xo_c_X10_weigh_112) (by decide +kernel)
set_option maxRecDepth 20000 in
theorem xo_m_X10_weight : xm_b xmi_X10_weight (1, 11) (7, 93) (7, 94) = true := by decide +kernel
theorem xo_w_X10_weight : Cond.code xmi_X10_weight.2.1 xmi_X10_weight.2.2.1 xmi_X10_weight.2.2.2.1 xmi_X10_weight.2.2.2.2.1 ∈ xG := xw_in2 (K := 7) (i := 95) rfl rfl
set_option maxRecDepth 20000 in
theorem xo_c_X10_weight_0 : xc_b xmi_X10_weight xc_X10_weight 0 48 = true := by decide +kernel
theorem xo_r_X10_weight : ∀ (pc : Nat) (r : xr_R), xcl xc_X10_weight pc = some r → xr_b xmi_X10_weight.1 (xm_ini xmi_X10_weight) xmi_X10_weight.2.2.1 pc r = true ∧ xr_c xM xmi_X10_weight.1 r = true := xc_up_e (mi := xmi_X10_weight) (cd := xc_X10_weight) (N := 48) (xc_up_s (mi := xmi_X10_weight) (cd := xc_X10_weight) (lo := 0) (n := 48) xc_up_0 xo_c_X10_weight_0) (by decide +kernel)
set_option maxRecDepth 20000 in
theorem xo_m_X10_areOptions : xm_b xmi_X10_areOptions (1, 11) (7, 102) (0, 108) = true := by decide +kernel
theorem xo_w_X10_areOptions : Cond.code xmi_X10_areOptions.2.1 xmi_X10_areOptions.2.2.1 xmi_X10_areOptions.2.2.2.1 xmi_X10_areOptions.2.2.2.2.1 ∈ xG := xw_in2 (K := 7) (i := 103) rfl rfl
set_option maxRecDepth 20000 in
theorem xo_c_X10_areOptions_0 : xc_b xmi_X10_areOptions xc_X10_areOptions 0 64 = true := by decide +kernel
theorem xo_r_X10_areOptions : ∀ (pc : Nat) (r : xr_R), xcl xc_X10_areOptions pc = some r → xr_b xmi_X10_areOptions.1 (xm_ini xmi_X10_areOptions) xmi_X10_areOptions.2.2.1 pc r = true ∧ xr_c xM xmi_X10_areOptions.1 r = true := xc_up_e (mi := xmi_X10_areOptions) (cd := xc_X10_areOptions) (N := 64) (xc_up_s (mi := xmi_X10_areOptions) (cd := xc_X10_areOptions) (lo := 0) (n := 64) xc_up_0 xo_c_X10_areOptions_0) (by decide +kernel)
set_option maxRecDepth 20000 in
theorem xo_m_X10_rank : xm_b xmi_X10_rank (1, 11) (7, 97) (7, 98) = true := by decide +kernel
theorem xo_w_X10_rank : Cond.code xmi_X10_rank.2.1 xmi_X10_rank.2.2.1 xmi_X10_rank.2.2.2.1 xmi_X10_rank.2.2.2.2.1 ∈ xG := xw_in2 (K := 7) (i := 99) rfl rfl
set_option maxRecDepth 20000 in
theorem xo_c_X10_rank_0 : xc_b xmi_X10_rank xc_X10_rank 0 80 = true := by decide +kernel
theorem xo_r_X10_rank : ∀ (pc : Nat) (r : xr_R), xcl xc_X10_rank pc = some r → xr_b xmi_X10_rank.1 (xm_ini xmi_X10_rank) xmi_X10_rank.2.2.1 pc r = true ∧ xr_c xM xmi_X10_rank.1 r = true := xc_up_e (mi := xmi_X10_rank) (cd := xc_X10_rank) (N := 80) (xc_up_s (mi := xmi_X10_rank) (cd := xc_X10_rank) (lo := 0) (n := 80) xc_up_0 xo_c_X10_rank_0) (by decide +kernel)
set_option maxRecDepth 20000 in
theorem xo_m_X10_beatsOf : xm_b xmi_X10_beatsOf (1, 11) (7, 117) (0, 110) = true := by decide +kernel
theorem xo_w_X10_beatsOf : Cond.code xmi_X10_beatsOf.2.1 xmi_X10_beatsOf.2.2.1 xmi_X10_beatsOf.2.2.2.1 xmi_X10_beatsOf.2.2.2.2.1 ∈ xG := xw_in2 (K := 7) (i := 118) rfl rfl
set_option maxRecDepth 20000 in
theorem xo_c_X10_beatsOf_0 : xc_b xmi_X10_beatsOf xc_X10_beatsOf 0 64 = true := by decide +kernel
theorem xo_r_X10_beatsOf : ∀ (pc : Nat) (r : xr_R), xcl xc_X10_beatsOf pc = some r → xr_b xmi_X10_beatsOf.1 (xm_ini xmi_X10_beatsOf) xmi_X10_beatsOf.2.2.1 pc r = true ∧ xr_c xM xmi_X10_beatsOf.1 r = true := xc_up_e (mi := xmi_X10_beatsOf) (cd := xc_X10_beatsOf) (N := 64) (xc_up_s (mi := xmi_X10_beatsOf) (cd := xc_X10_beatsOf) (lo := 0) (n := 64) xc_up_0 xo_c_X10_beatsOf_0) (by decide +kernel)
set_option maxRecDepth 20000 in
theorem xo_m_X10_layOptions : xm_b xmi_X10_layOptions (1, 11) (7, 113) (0, 109) = true := by decide +kernel
theorem xo_w_X10_layOptions : Cond.code xmi_X10_layOptions.2.1 xmi_X10_layOptions.2.2.1 xmi_X10_layOptions.2.2.2.1 xmi_X10_layOptions.2.2.2.2.1 ∈ xG := xw_in2 (K := 7) (i := 114) rfl rfl
set_option maxRecDepth 20000 in
theorem xo_c_X10_layOptions_0 : xc_b xmi_X10_layOptions xc_X10_layOptions 0 112 = true := by decide +kernel
set_option maxRecDepth 20000 in
theorem xo_c_X10_layOptions_112 : xc_b xmi_X10_layOptions xc_X10_layOptions 112 64 = true := by decide +kernel
theorem xo_r_X10_layOptions : ∀ (pc : Nat) (r : xr_R), xcl xc_X10_layOptions pc = some r → xr_b xmi_X10_layOptions.1 (xm_ini xmi_X10_layOptions) xmi_X10_layOptions.2.2.1 pc r = true ∧ xr_c xM xmi_X10_layOptions.1 r = true := xc_up_e (mi := xmi_X10_layOptions) (cd := xc_X10_layOptions) (N := 176) (xc_up_s (mi := xmi_X10_layOptions) (cd := xc_X10_layOptions) (lo := 112) (n := 64) (xc_up_s (mi := xmi_X10_layOptions) (cd := xc_X10_layOptions) (lo := 0) (n := 112) xc_up_0 xo_c_X10_layOptions_0) xo_c_X10_layOptions_112) (by decide +kernel)
set_option maxRecDepth 20000 in
theorem xo_m_X10_isOption : xm_b xmi_X10_isOption (1, 11) (7, 109) (99, 0) = true := by decide +kernel
theorem xo_w_X10_isOption : Cond.code xmi_X10_isOption.2.1 xmi_X10_isOption.2.2.1 xmi_X10_isOption.2.2.2.1 xmi_X10_isOption.2.2.2.2.1 ∈ xG := xw_in2 (K := 7) (i := 110) rfl rfl
set_option maxRecDepth 20000 in
theorem xo_c_X10_isOption_0 : xc_b xmi_X10_isOption xc_X10_isOption 0 16 = true := by decide +kernel
theorem xo_r_X10_isOption : ∀ (pc : Nat) (r : xr_R), xcl xc_X10_isOption pc = some r → xr_b xmi_X10_isOption.1 (xm_ini xmi_X10_isOption) xmi_X10_isOption.2.2.1 pc r = true ∧ xr_c xM xmi_X10_isOption.1 r = true := xc_up_e (mi := xmi_X10_isOption) (cd := xc_X10_isOption) (N := 16) (xc_up_s (mi := xmi_X10_isOption) (cd := xc_X10_isOption) (lo := 0) (n := 16) xc_up_0 xo_c_X10_isOption_0) (by decide +kernel)
set_option maxRecDepth 20000 in
theorem xo_m_X10_beats : xm_b xmi_X10_beats (1, 11) (7, 105) (7, 106) = true := by decide +kernel
theorem xo_w_X10_beats : Cond.code xmi_X10_beats.2.1 xmi_X10_beats.2.2.1 xmi_X10_beats.2.2.2.1 xmi_X10_beats.2.2.2.2.1 ∈ xG := xw_in2 (K := 7) (i := 107) rfl rfl
set_option maxRecDepth 20000 in
theorem xo_c_X10_beats_0 : xc_b xmi_X10_beats xc_X10_beats 0 64 = true := by decide +kernel
theorem xo_r_X10_beats : ∀ (pc : Nat) (r : xr_R), xcl xc_X10_beats pc = some r → xr_b xmi_X10_beats.1 (xm_ini xmi_X10_beats) xmi_X10_beats.2.2.1 pc r = true ∧ xr_c xM xmi_X10_beats.1 r = true := xc_up_e (mi := xmi_X10_beats) (cd := xc_X10_beats) (N := 64) (xc_up_s (mi := xmi_X10_beats) (cd := xc_X10_beats) (lo := 0) (n := 64) xc_up_0 xo_c_X10_beats_0) (by decide +kernel)
set_option maxRecDepth 20000 in
theorem xo_m_X10_free : xm_b xmi_X10_free (1, 11) (7, 120) (7, 121) = true := by decide +kernel
theorem xo_w_X10_free : Cond.code xmi_X10_free.2.1 xmi_X10_free.2.2.1 xmi_X10_free.2.2.2.1 xmi_X10_free.2.2.2.2.1 ∈ xG := xw_in2 (K := 7) (i := 122) rfl rfl
set_option maxRecDepth 20000 in
theorem xo_c_X10_free_0 : xc_b xmi_X10_free xc_X10_free 0 80 = true := by decide +kernel
theorem xo_r_X10_free : ∀ (pc : Nat) (r : xr_R), xcl xc_X10_free pc = some r → xr_b xmi_X10_free.1 (xm_ini xmi_X10_free) xmi_X10_free.2.2.1 pc r = true ∧ xr_c xM xmi_X10_free.1 r = true := xc_up_e (mi := xmi_X10_free) (cd := xc_X10_free) (N := 80) (xc_up_s (mi := xmi_X10_free) (cd := xc_X10_free) (lo := 0) (n := 80) xc_up_0 xo_c_X10_free_0) (by decide +kernel)
set_option maxRecDepth 20000 in
theorem xo_m_X10_top : xm_b xmi_X10_top (1, 11) (7, 124) (7, 125) = true := by decide +kernel
theorem xo_w_X10_top : Cond.code xmi_X10_top.2.1 xmi_X10_top.2.2.1 xmi_X10_top.2.2.2.1 xmi_X10_top.2.2.2.2.1 ∈ xG := xw_in2 (K := 7) (i := 126) rfl rfl
set_option maxRecDepth 20000 in
theorem xo_c_X10_top_0 : xc_b xmi_X10_top xc_X10_top 0 96 = true := by decide +kernel
theorem xo_r_X10_top : ∀ (pc : Nat) (r : xr_R), xcl xc_X10_top pc = some r → xr_b xmi_X10_top.1 (xm_ini xmi_X10_top) xmi_X10_top.2.2.1 pc r = true ∧ xr_c xM xmi_X10_top.1 r = true := xc_up_e (mi := xmi_X10_top) (cd := xc_X10_top) (N := 96) (xc_up_s (mi := xmi_X10_top) (cd := xc_X10_top) (lo := 0) (n := 96) xc_up_0 xo_c_X10_top_0) (by decide +kernel)
set_option maxRecDepth 20000 in
theorem xo_m_X10_leads : xm_b xmi_X10_leads (1, 11) (7, 128) (7, 129) = true := by decide +kernel
theorem xo_w_X10_leads : Cond.code xmi_X10_leads.2.1 xmi_X10_leads.2.2.1 xmi_X10_leads.2.2.2.1 xmi_X10_leads.2.2.2.2.1 ∈ xG := xw_in2 (K := 7) (i := 130) rfl rfl
set_option maxRecDepth 20000 in
theorem xo_c_X10_leads_0 : xc_b xmi_X10_leads xc_X10_leads 0 112 = true := by decide +kernel
set_option maxRecDepth 20000 in
theorem xo_c_X10_leads_112 : xc_b xmi_X10_leads xc_X10_leads 112 112 = true := by decide +kernel
theorem xo_r_X10_leads : ∀ (pc : Nat) (r : xr_R), xcl xc_X10_leads pc = some r → xr_b xmi_X10_leads.1 (xm_ini xmi_X10_leads) xmi_X10_leads.2.2.1 pc r = true ∧ xr_c xM xmi_X10_leads.1 r = true := xc_up_e (mi := xmi_X10_leads) (cd := xc_X10_leads) (N := 224) (xc_up_s (mi := xmi_X10_leads) (cd := xc_X10_leads) (lo := 112) (n := 112) (xc_up_s (mi := xmi_X10_leads) (cd := xc_X10_leads) (lo := 0) (n := 112) xc_up_0 xo_c_X10_leads_0) xo_c_X10_leads_112) (by decide +kernel)
set_option maxRecDepth 20000 in
theorem xo_m_X10_endOf : xm_b xmi_X10_endOf (1, 11) (7, 133) (0, 111) = true := by decide +kernel
theorem xo_w_X10_endOf : Cond.code xmi_X10_endOf.2.1 xmi_X10_endOf.2.2.1 xmi_X10_endOf.2.2.2.1 xmi_X10_endOf.2.2.2.2.1 ∈ xG := xw_in2 (K := 7) (i := 134) rfl rfl
set_option maxRecDepth 20000 in
theorem xo_c_X10_endOf_0 : xc_b xmi_X10_endOf xc_X10_endOf 0 48 = true := by decide +kernel
theorem xo_r_X10_endOf : ∀ (pc : Nat) (r : xr_R), xcl xc_X10_endOf pc = some r → xr_b xmi_X10_endOf.1 (xm_ini xmi_X10_endOf) xmi_X10_endOf.2.2.1 pc r = true ∧ xr_c xM xmi_X10_endOf.1 r = true := xc_up_e (mi := xmi_X10_endOf) (cd := xc_X10_endOf) (N := 48) (xc_up_s (mi := xmi_X10_endOf) (cd := xc_X10_endOf) (lo := 0) (n := 48) xc_up_0 xo_c_X10_endOf_0) (by decide +kernel)
end XCK8
