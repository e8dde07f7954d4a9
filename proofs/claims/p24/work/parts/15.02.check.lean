section XCK2
set_option maxRecDepth 20000 in
theorem xo_m_X10_orders : xm_b xmi_X10_orders (1, 11) (7, 44) (99, 0) = true := by decide +kernel
theorem xo_w_X10_orders : Cond.code xmi_X10_orders.2.1 xmi_X10_orders.2.2.1 xmi_X10_orders.2.2.2.1 xmi_X10_orders.2.2.2.2.1 ∈ xG := xw_in2 (K := 7) (i := 45) rfl rfl
set_option maxRecDepth 20000 in
theorem xo_c_X10_orders_0 : xc_b xmi_X10_orders xc_X10_orders 0 32 = true := by decide +kernel
theorem xo_r_X10_orders : ∀ (pc : Nat) (r : xr_R), xcl xc_X10_orders pc = some r → xr_b xmi_X10_orders.1 (xm_ini xmi_X10_orders) xmi_X10_orders.2.2.1 pc r = true ∧ xr_c xM xmi_X10_orders.1 r = true := xc_up_e (mi := xmi_X10_orders) (cd := xc_X10_orders) (N := 32) (xc_up_s (mi := xmi_X10_orders) (cd := xc_X10_orders) (lo := 0) (n := 32) xc_up_0 xo_c_X10_orders_0) (by decide +kernel)
set_option maxRecDepth 20000 in
theorem xo_m_X10_shareOfSets : xm_b xmi_X10_shareOfSets (1, 11) (7, 33) (0, 98) = true := by decide +kernel
theorem xo_w_X10_shareOfSets : Cond.code xmi_X10_shareOfSets.2.1 xmi_X10_shareOfSets.2.2.1 xmi_X10_shareOfSets.2.2.2.1 xmi_X10_shareOfSets.2.2.2.2.1 ∈ xG := xw_in2 (K := 7) (i := 34) rfl rfl
set_option maxRecDepth 20000 in
theorem xo_c_X10_shareOfSets_0 : xc_b xmi_X10_shareOfSets xc_X10_shareOfSets 0 64 = true := by decide +kernel
theorem xo_r_X10_shareOfSets : ∀ (pc : Nat) (r : xr_R), xcl xc_X10_shareOfSets pc = some r → xr_b xmi_X10_shareOfSets.1 (xm_ini xmi_X10_shareOfSets) xmi_X10_shareOfSets.2.2.1 pc r = true ∧ xr_c xM xmi_X10_shareOfSets.1 r = true := xc_up_e (mi := xmi_X10_shareOfSets) (cd := xc_X10_shareOfSets) (N := 64) (xc_up_s (mi := xmi_X10_shareOfSets) (cd := xc_X10_shareOfSets) (lo := 0) (n := 64) xc_up_0 xo_c_X10_shareOfSets_0) (by decide +kernel)
set_option maxRecDepth 20000 in
theorem xo_m_X10_shareOfOrders : xm_b xmi_X10_shareOfOrders (1, 11) (7, 41) (0, 100) = true := by decide +kernel
theorem xo_w_X10_shareOfOrders : Cond.code xmi_X10_shareOfOrders.2.1 xmi_X10_shareOfOrders.2.2.1 xmi_X10_shareOfOrders.2.2.2.1 xmi_X10_shareOfOrders.2.2.2.2.1 ∈ xG := xw_in2 (K := 7) (i := 42) rfl rfl
set_option maxRecDepth 20000 in
theorem xo_c_X10_shareOfOrders_0 : xc_b xmi_X10_shareOfOrders xc_X10_shareOfOrders 0 96 = true := by decide +kernel
theorem xo_r_X10_shareOfOrders : ∀ (pc : Nat) (r : xr_R), xcl xc_X10_shareOfOrders pc = some r → xr_b xmi_X10_shareOfOrders.1 (xm_ini xmi_X10_shareOfOrders) xmi_X10_shareOfOrders.2.2.1 pc r = true ∧ xr_c xM xmi_X10_shareOfOrders.1 r = true := xc_up_e (mi := xmi_X10_shareOfOrders) (cd := xc_X10_shareOfOrders) (N := 96) (xc_up_s (mi := xmi_X10_shareOfOrders) (cd := xc_X10_shareOfOrders) (lo := 0) (n := 96) xc_up_0 xo_c_X10_shareOfOrders_0) (by decide +kernel)
set_option maxRecDepth 20000 in
theorem xo_m_X10_shareOfLeast : xm_b xmi_X10_shareOfLeast (1, 11) (7, 48) (0, 101) = true := by decide +kernel
theorem xo_w_X10_shareOfLeast : Cond.code xmi_X10_shareOfLeast.2.1 xmi_X10_shareOfLeast.2.2.1 xmi_X10_shareOfLeast.2.2.2.1 xmi_X10_shareOfLeast.2.2.2.2.1 ∈ xG := xw_in2 (K := 7) (i := 49) rfl rfl
set_option maxRecDepth 20000 in
theorem xo_c_X10_shareOfLeast_0 : xc_b xmi_X10_shareOfLeast xc_X10_shareOfLeast 0 96 = true := by decide +kernel
theorem xo_r_X10_shareOfLeast : ∀ (pc : Nat) (r : xr_R), xcl xc_X10_shareOfLeast pc = some r → xr_b xmi_X10_shareOfLeast.1 (xm_ini xmi_X10_shareOfLeast) xmi_X10_shareOfLeast.2.2.1 pc r = true ∧ xr_c xM xmi_X10_shareOfLeast.1 r = true := xc_up_e (mi := xmi_X10_shareOfLeast) (cd := xc_X10_shareOfLeast) (N := 96) (xc_up_s (mi := xmi_X10_shareOfLeast) (cd := xc_X10_shareOfLeast) (lo := 0) (n := 96) xc_up_0 xo_c_X10_shareOfLeast_0) (by decide +kernel)
set_option maxRecDepth 20000 in
theorem xo_m_X10_share : xm_b xmi_X10_share (1, 11) (7, 24) (7, 25) = true := by decide +kernel
theorem xo_w_X10_share : Cond.code xmi_X10_share.2.1 xmi_X10_share.2.2.1 xmi_X10_share.2.2.2.1 xmi_X10_share.2.2.2.2.1 ∈ xG := xw_in2 (K := 7) (i := 26) rfl rfl
set_option maxRecDepth 20000 in
theorem xo_c_X10_share_0 : xc_b xmi_X10_share xc_X10_share 0 96 = true := by decide +kernel
theorem xo_r_X10_share : ∀ (pc : Nat) (r : xr_R), xcl xc_X10_share pc = some r → xr_b xmi_X10_share.1 (xm_ini xmi_X10_share) xmi_X10_share.2.2.1 pc r = true ∧ xr_c xM xmi_X10_share.1 r = true := xc_up_e (mi := xmi_X10_share) (cd := xc_X10_share) (N := 96) (xc_up_s (mi := xmi_X10_share) (cd := xc_X10_share) (lo := 0) (n := 96) xc_up_0 xo_c_X10_share_0) (by decide +kernel)
set_option maxRecDepth 20000 in
theorem xo_m_X10_power : xm_b xmi_X10_power (1, 11) (7, 57) (99, 0) = true := by decide +kernel
theorem xo_w_X10_power : Cond.code xmi_X10_power.2.1 xmi_X10_power.2.2.1 xmi_X10_power.2.2.2.1 xmi_X10_power.2.2.2.2.1 ∈ xG := xw_in2 (K := 7) (i := 58) rfl rfl
set_option maxRecDepth 20000 in
theorem xo_c_X10_power_0 : xc_b xmi_X10_power xc_X10_power 0 32 = true := by decide +kernel
theorem xo_r_X10_power : ∀ (pc : Nat) (r : xr_R), xcl xc_X10_power pc = some r → xr_b xmi_X10_power.1 (xm_ini xmi_X10_power) xmi_X10_power.2.2.1 pc r = true ∧ xr_c xM xmi_X10_power.1 r = true := xc_up_e (mi := xmi_X10_power) (cd := xc_X10_power) (N := 32) (xc_up_s (mi := xmi_X10_power) (cd := xc_X10_power) (lo := 0) (n := 32) xc_up_0 xo_c_X10_power_0) (by decide +kernel)
set_option maxRecDepth 20000 in
theorem xo_m_X10_chance : xm_b xmi_X10_chance (1, 11) (7, 52) (7, 53) = true := by decide +kernel
theorem xo_w_X10_chance : Cond.code xmi_X10_chance.2.1 xmi_X10_chance.2.2.1 xmi_X10_chance.2.2.2.1 xmi_X10_chance.2.2.2.2.1 ∈ xG := xw_in2 (K := 7) (i := 54) rfl rfl
set_option maxRecDepth 20000 in
theorem xo_c_X10_chance_0 : xc_b xmi_X10_chance xc_X10_chance 0 96 = true := by decide +kernel
theorem xo_r_X10_chance : ∀ (pc : Nat) (r : xr_R), xcl xc_X10_chance pc = some r → xr_b xmi_X10_chance.1 (xm_ini xmi_X10_chance) xmi_X10_chance.2.2.1 pc r = true ∧ xr_c xM xmi_X10_chance.1 r = true := xc_up_e (mi := xmi_X10_chance) (cd := xc_X10_chance) (N := 96) (xc_up_s (mi := xmi_X10_chance) (cd := xc_X10_chance) (lo := 0) (n := 96) xc_up_0 xo_c_X10_chance_0) (by decide +kernel)
set_option maxRecDepth 20000 in
theorem xo_m_X10_ally : xm_b xmi_X10_ally (1, 11) (7, 60) (7, 61) = true := by decide +kernel
theorem xo_w_X10_ally : Cond.code xmi_X10_ally.2.1 xmi_X10_ally.2.2.1 xmi_X10_ally.2.2.2.1 xmi_X10_ally.2.2.2.2.1 ∈ xG := xw_in2 (K := 7) (i := 62) rfl rfl
set_option maxRecDepth 20000 in
theorem xo_c_X10_ally_0 : xc_b xmi_X10_ally xc_X10_ally 0 112 = true := by decide +kernel
set_option maxRecDepth 20000 in
theorem xo_c_X10_ally_112 : xc_b xmi_X10_ally xc_X10_ally 112 48 = true := by decide +kernel
theorem xo_r_X10_ally : ∀ (pc : Nat) (r : xr_R), xcl xc_X10_ally pc = some r → xr_b xmi_X10_ally.1 (xm_ini xmi_X10_ally) xmi_X10_ally.2.2.1 pc r = true ∧ xr_c xM xmi_X10_ally.1 r = true := xc_up_e (mi := xmi_X10_ally) (cd := xc_X10_ally) (N := 160) (xc_up_s (mi := xmi_X10_ally) (cd := xc_X10_ally) (lo := 112) (n := 48) (xc_up_s (mi := xmi_X10_ally) (cd := xc_X10_ally) (lo := 0) (n := 112) xc_up_0 xo_c_X10_ally_0) xo_c_X10_ally_112) (by decide +kernel)
set_option maxRecDepth 20000 in
theorem xo_m_X10_findSorts : xm_b xmi_X10_findSorts (1, 11) (7, 69) (0, 102) = true := by decide +kernel
theorem xo_w_X10_findSorts : Cond.code xmi_X10_findSorts.2.1 xmi_X10_findSorts.2.2.1 xmi_X10_findSorts.2.2.2.1 xmi_X10_findSorts.2.2.2.2.1 ∈ xG := xw_in2 (K := 7) (i := 70) rfl rfl
set_option maxRecDepth 20000 in
theorem xo_c_X10_findSorts_0 : xc_b xmi_X10_findSorts xc_X10_findSorts 0 112 = true := by decide +kernel
set_option maxRecDepth 20000 in
theorem xo_c_X10_findSorts_112 : xc_b xmi_X10_findSorts xc_X10_findSorts 112 112 = true := by decide +kernel
theorem xo_r_X10_findSorts : ∀ (pc : Nat) (r : xr_R), xcl xc_X10_findSorts pc = some r → xr_b xmi_X10_findSorts.1 (xm_ini xmi_X10_findSorts) xmi_X10_findSorts.2.2.1 pc r = true ∧ xr_c xM xmi_X10_findSorts.1 r = true := xc_up_e (mi := xmi_X10_findSorts) (cd := xc_X10_findSorts) (N := 224) (xc_up_s (mi := xmi_X10_findSorts) (cd := xc_X10_findSorts) (lo := 112) (n := 112) (xc_up_s (mi := xmi_X10_findSorts) (cd := xc_X10_findSorts) (lo := 0) (n := 112) xc_up_0 xo_c_X10_findSorts_0) xo_c_X10_findSorts_112) (by decide +kernel)
set_option maxRecDepth 20000 in
theorem xo_m_X10_findEnds : xm_b xmi_X10_findEnds (1, 11) (7, 73) (0, 103) = true := by decide +kernel
theorem xo_w_X10_findEnds : Cond.code xmi_X10_findEnds.2.1 xmi_X10_findEnds.2.2.1 xmi_X10_findEnds.2.2.2.1 xmi_X10_findEnds.2.2.2.2.1 ∈ xG := xw_in2 (K := 7) (i := 74) rfl rfl
set_option maxRecDepth 20000 in
theorem xo_c_X10_findEnds_0 : xc_b xmi_X10_findEnds xc_X10_findEnds 0 96 = true := by decide +kernel
theorem xo_r_X10_findEnds : ∀ (pc : Nat) (r : xr_R), xcl xc_X10_findEnds pc = some r → xr_b xmi_X10_findEnds.1 (xm_ini xmi_X10_findEnds) xmi_X10_findEnds.2.2.1 pc r = true ∧ xr_c xM xmi_X10_findEnds.1 r = true := xc_up_e (mi := xmi_X10_findEnds) (cd := xc_X10_findEnds) (N := 96) (xc_up_s (mi := xmi_X10_findEnds) (cd := xc_X10_findEnds) (lo := 0) (n := 96) xc_up_0 xo_c_X10_findEnds_0) (by decide +kernel)
set_option maxRecDepth 20000 in
theorem xo_m_X10_sumOf : xm_b xmi_X10_sumOf (1, 11) (7, 90) (0, 107) = true := by decide +kernel
theorem xo_w_X10_sumOf : Cond.code xmi_X10_sumOf.2.1 xmi_X10_sumOf.2.2.1 xmi_X10_sumOf.2.2.2.1 xmi_X10_sumOf.2.2.2.2.1 ∈ xG := xw_in2 (K := 7) (i := 91) rfl rfl
set_option maxRecDepth 20000 in
theorem xo_c_X10_sumOf_0 : xc_b xmi_X10_sumOf xc_X10_sumOf 0 48 = true := by decide +kernel
theorem xo_r_X10_sumOf : ∀ (pc : Nat) (r : xr_R), xcl xc_X10_sumOf pc = some r → xr_b xmi_X10_sumOf.1 (xm_ini xmi_X10_sumOf) xmi_X10_sumOf.2.2.1 pc r = true ∧ xr_c xM xmi_X10_sumOf.1 r = true := xc_up_e (mi := xmi_X10_sumOf) (cd := xc_X10_sumOf) (N := 48) (xc_up_s (mi := xmi_X10_sumOf) (cd := xc_X10_sumOf) (lo := 0) (n := 48) xc_up_0 xo_c_X10_sumOf_0) (by decide +kernel)
set_option maxRecDepth 20000 in
theorem xo_m_X10_isRight : xm_b xmi_X10_isRight (1, 11) (7, 85) (0, 106) = true := by decide +kernel
theorem xo_w_X10_isRight : Cond.code xmi_X10_isRight.2.1 xmi_X10_isRight.2.2.1 xmi_X10_isRight.2.2.2.1 xmi_X10_isRight.2.2.2.2.1 ∈ xG := xw_in2 (K := 7) (i := 86) rfl rfl
set_option maxRecDepth 20000 in
theorem xo_c_X10_isRight_0 : xc_b xmi_X10_isRight xc_X10_isRight 0 80 = true := by decide +kernel
theorem xo_r_X10_isRight : ∀ (pc : Nat) (r : xr_R), xcl xc_X10_isRight pc = some r → xr_b xmi_X10_isRight.1 (xm_ini xmi_X10_isRight) xmi_X10_isRight.2.2.1 pc r = true ∧ xr_c xM xmi_X10_isRight.1 r = true := xc_up_e (mi := xmi_X10_isRight) (cd := xc_X10_isRight) (N := 80) (xc_up_s (mi := xmi_X10_isRight) (cd := xc_X10_isRight) (lo := 0) (n := 80) xc_up_0 xo_c_X10_isRight_0) (by decide +kernel)
set_option maxRecDepth 20000 in
theorem xo_m_X10_mayBe : xm_b xmi_X10_mayBe (1, 11) (7, 81) (0, 105) = true := by decide +kernel
theorem xo_w_X10_mayBe : Cond.code xmi_X10_mayBe.2.1 xmi_X10_mayBe.2.2.1 xmi_X10_mayBe.2.2.2.1 xmi_X10_mayBe.2.2.2.2.1 ∈ xG := xw_in2 (K := 7) (i := 82) rfl rfl
set_option maxRecDepth 20000 in
theorem xo_c_X10_mayBe_0 : xc_b xmi_X10_mayBe xc_X10_mayBe 0 80 = true := by decide +kernel
theorem xo_r_X10_mayBe : ∀ (pc : Nat) (r : xr_R), xcl xc_X10_mayBe pc = some r → xr_b xmi_X10_mayBe.1 (xm_ini xmi_X10_mayBe) xmi_X10_mayBe.2.2.1 pc r = true ∧ xr_c xM xmi_X10_mayBe.1 r = true := xc_up_e (mi := xmi_X10_mayBe) (cd := xc_X10_mayBe) (N := 80) (xc_up_s (mi := xmi_X10_mayBe) (cd := xc_X10_mayBe) (lo := 0) (n := 80) xc_up_0 xo_c_X10_mayBe_0) (by decide +kernel)
set_option maxRecDepth 20000 in
theorem xo_m_X10_trySum : xm_b xmi_X10_trySum (1, 11) (7, 77) (0, 104) = true := by decide +kernel
theorem xo_w_X10_trySum : Cond.code xmi_X10_trySum.2.1 xmi_X10_trySum.2.2.1 xmi_X10_trySum.2.2.2.1 xmi_X10_trySum.2.2.2.2.1 ∈ xG := xw_in2 (K := 7) (i := 78) rfl rfl
set_option maxRecDepth 20000 in
theorem xo_c_X10_trySum_0 : xc_b xmi_X10_trySum xc_X10_trySum 0 112 = true := by decide +kernel
set_option maxRecDepth 20000 in
theorem xo_c_X10_trySum_112 : xc_b xmi_X10_trySum xc_X10_trySum 112 80 = true := by decide +kernel
theorem xo_r_X10_trySum : ∀ (pc : Nat) (r : xr_R), xcl xc_X10_trySum pc = some r → xr_b xmi_X10_trySum.1 (xm_ini xmi_X10_trySum) xmi_X10_trySum.2.2.1 pc r = true ∧ xr_c xM xmi_X10_trySum.1 r = true := xc_up_e (mi := xmi_X10_trySum) (cd := xc_X10_trySum) (N := 192) (xc_up_s (mi := xmi_X10_trySum) (cd := xc_X10_trySum) (lo := 112) (n := 80) (xc_up_s (mi := xmi_X10_trySum) (cd := xc_X10_trySum) (lo := 0) (n := 112) xc_up_0 xo_c_X10_trySum_0) xo_c_X10_trySum_112) (by decide +kernel)
set_option maxRecDepth 20000 in
theorem xo_m_X10_weigh : xm_b xmi_X10_weigh (1, 11) (7, 64) (7, 65) = true := by decide +kernel
theorem xo_w_X10_weigh : Cond.code xmi_X10_weigh.2.1 xmi_X10_weigh.2.2.1 xmi_X10_weigh.2.2.2.1 xmi_X10_weigh.2.2.2.2.1 ∈ xG := xw_in2 (K := 7) (i := 66) rfl rfl
set_option maxRecDepth 20000 in
theorem xo_c_X10_weigh_0 : xc_b xmi_X10_weigh xc_X10_weigh 0 112 = true := by decide +kernel
set_option maxRecDepth 20000 in
theorem xo_c_X10_weigh_112 : xc_b xmi_X10_weigh xc_X10_weigh 112 48 = true := by decide +kernel
theorem xo_r_X10_weigh : ∀ (pc : Nat) (r : xr_R), xcl xc_X10_weigh pc = some r → xr_b xmi_X10_weigh.1 (xm_ini xmi_X10_weigh) xmi_X10_weigh.2.2.1 pc r = true ∧ xr_c xM xmi_X10_weigh.1 r = true := xc_up_e (mi := xmi_X10_weigh) (cd := xc_X10_weigh) (N := 160) (xc_up_s (mi := xmi_X10_weigh) (cd := xc_X10_weigh) (lo := 112) (n := 48) (xc_up_s (mi := xmi_X10_weigh) (cd := xc_X10_weigh) (lo := 0) (n := 112) xc_up_0 xo_c_X10_weigh_0) xo_c_X10_weigh_112) (by decide +kernel)
set_option maxRecDepth 20000 in
theorem xo_m_X10_weight : xm_b xmi_X10_weight (1, 11) (7, 93) (7, 94) = true := by decide +kernel
theorem xo_w_X10_weight : Cond.code xmi_X10_weight.2.1 xmi_X10_weight.2.2.1 xmi_X10_weight.2.2.2.1 xmi_X10_weight.2.2.2.2.1 ∈ xG := xw_in2 (K := 7) (i := 95) rfl rfl
set_option maxRecDepth 20000 in
theorem xo_c_X10_weight_0 : xc_b xmi_X10_weight xc_X10_weight 0 48 = true := by decide +kernel
theorem xo_r_X10_weight : ∀ (pc : Nat) (r : xr_R), xcl xc_X10_weight pc = some r → xr_b xmi_X10_weight.1 (xm_ini xmi_X10_weight) xmi_X10_weight.2.2.1 pc r = true ∧ xr_c xM xmi_X10_weight.1 r = true := xc_up_e (mi := xmi_X10_weight) (cd := xc_X10_weight) (N := 48) (xc_up_s (mi := xmi_X10_weight) (cd := xc_X10_weight) (lo := 0) (n := 48) xc_up_0 xo_c_X10_weight_0) (by decide +kernel)
set_option maxRecDepth 20000 in
theorem xo_m_X10_areOptions : xm_b xmi_X10_areOptions (1, 11) (7, 102) (0, 108) = true := by decide +kernel
theorem xo_w_X10_areOptions : Cond.code xmi_X10_areOptions.2.1 xmi_X10_areOptions.2.2.1 xmi_X10_areOptions.2.2.2.1 xmi_X10_areOptions.2.2.2.2.1 ∈ xG := xw_in2 (K := 7) (i := 103) rfl rfl
set_option maxRecDepth 20000 in
theorem xo_c_X10_areOptions_0 : xc_b xmi_X10_areOptions xc_X10_areOptions 0 64 = true := by decide +kernel
theorem xo_r_X10_areOptions : ∀ (pc : Nat) (r : xr_R), xcl xc_X10_areOptions pc = some r → xr_b xmi_X10_areOptions.1 (xm_ini xmi_X10_areOptions) xmi_X10_areOptions.2.2.1 pc r = true ∧ xr_c xM xmi_X10_areOptions.1 r = true := xc_up_e (mi := xmi_X10_areOptions) (cd := xc_X10_areOptions) (N := 64) (xc_up_s (mi := xmi_X10_areOptions) (cd := xc_X10_areOptions) (lo := 0) (n := 64) xc_up_0 xo_c_X10_areOptions_0) (by decide +kernel)
set_option maxRecDepth 20000 in
theorem xo_m_X10_rank : xm_b xmi_X10_rank (1, 11) (7, 97) (7, 98) = true := by decide +kernel
theorem xo_w_X10_rank : Cond.code xmi_X10_rank.2.1 xmi_X10_rank.2.2.1 xmi_X10_rank.2.2.2.1 xmi_X10_rank.2.2.2.2.1 ∈ xG := xw_in2 (K := 7) (i := 99) rfl rfl
set_option maxRecDepth 20000 in
theorem xo_c_X10_rank_0 : xc_b xmi_X10_rank xc_X10_rank 0 80 = true := by decide +kernel
theorem xo_r_X10_rank : ∀ (pc : Nat) (r : xr_R), xcl xc_X10_rank pc = some r → xr_b xmi_X10_rank.1 (xm_ini xmi_X10_rank) xmi_X10_rank.2.2.1 pc r = true ∧ xr_c xM xmi_X10_rank.1 r = true := xc_up_e (mi := xmi_X10_rank) (cd := xc_X10_rank) (N := 80) (xc_up_s (mi := xmi_X10_rank) (cd := xc_X10_rank) (lo := 0) (n := 80) xc_up_0 xo_c_X10_rank_0) (by decide +kernel)
set_option maxRecDepth 20000 in
theorem xo_m_X10_beatsOf : xm_b xmi_X10_beatsOf (1, 11) (7, 117) (0, 110) = true := by decide +kernel
theorem xo_w_X10_beatsOf : Cond.code xmi_X10_beatsOf.2.1 xmi_X10_beatsOf.2.2.1 xmi_X10_beatsOf.2.2.2.1 xmi_X10_beatsOf.2.2.2.2.1 ∈ xG := xw_in2 (K := 7) (i := 118) rfl rfl
set_option maxRecDepth 20000 in
theorem xo_c_X10_beatsOf_0 : xc_b xmi_X10_beatsOf xc_X10_beatsOf 0 64 = true := by decide +kernel
theorem xo_r_X10_beatsOf : ∀ (pc : Nat) (r : xr_R), xcl xc_X10_beatsOf pc = some r → xr_b xmi_X10_beatsOf.1 (xm_ini xmi_X10_beatsOf) xmi_X10_beatsOf.2.2.1 pc r = true ∧ xr_c xM xmi_X10_beatsOf.1 r = true := xc_up_e (mi := xmi_X10_beatsOf) (cd := xc_X10_beatsOf) (N := 64) (xc_up_s (mi := xmi_X10_beatsOf) (cd := xc_X10_beatsOf) (lo := 0) (n := 64) xc_up_0 xo_c_X10_beatsOf_0) (by decide +kernel)
set_option maxRecDepth 20000 in
theorem xo_m_X10_layOptions : xm_b xmi_X10_layOptions (1, 11) (7, 113) (0, 109) = true := by decide +kernel
theorem xo_w_X10_layOptions : Cond.code xmi_X10_layOptions.2.1 xmi_X10_layOptions.2.2.1 xmi_X10_layOptions.2.2.2.1 xmi_X10_layOptions.2.2.2.2.1 ∈ xG := xw_in2 (K := 7) (i := 114) rfl rfl
set_option maxRecDepth 20000 in
theorem xo_c_X10_layOptions_0 : xc_b xmi_X10_layOptions xc_X10_layOptions 0 112 = true := by decide +kernel
set_option maxRecDepth 20000 in
theorem xo_c_X10_layOptions_112 : xc_b xmi_X10_layOptions xc_X10_layOptions 112 64 = true := by decide +kernel
theorem xo_r_X10_layOptions : ∀ (pc : Nat) (r : xr_R), xcl xc_X10_layOptions pc = some r → xr_b xmi_X10_layOptions.1 (xm_ini xmi_X10_layOptions) xmi_X10_layOptions.2.2.1 pc r = true ∧ xr_c xM xmi_X10_layOptions.1 r = true := xc_up_e (mi := xmi_X10_layOptions) (cd := xc_X10_layOptions) (N := 176) (xc_up_s (mi := xmi_X10_layOptions) (cd := xc_X10_layOptions) (lo := 112) (n := 64) (xc_up_s (mi := xmi_X10_layOptions) (cd := xc_X10_layOptions) (lo := 0) (n := 112) xc_up_0 xo_c_X10_layOptions_0) xo_c_X10_layOptions_112) (by decide +kernel)
set_option maxRecDepth 20000 in
theorem xo_m_X10_isOption : xm_b xmi_X10_isOption (1, 11) (7, 109) (99, 0) = true := by decide +kernel
theorem xo_w_X10_isOption : Cond.code xmi_X10_isOption.2.1 xmi_X10_isOption.2.2.1 xmi_X10_isOption.2.2.2.1 xmi_X10_isOption.2.2.2.2.1 ∈ xG := xw_in2 (K := 7) (i := 110) rfl rfl
set_option maxRecDepth 20000 in
theorem xo_c_X10_isOption_0 : xc_b xmi_X10_isOption xc_X10_isOption 0 16 = true := by decide +kernel
theorem xo_r_X10_isOption : ∀ (pc : Nat) (r : xr_R), xcl xc_X10_isOption pc = some r → xr_b xmi_X10_isOption.1 (xm_ini xmi_X10_isOption) xmi_X10_isOption.2.2.1 pc r = true ∧ xr_c xM xmi_X10_isOption.1 r = true := xc_up_e (mi := xmi_X10_isOption) (cd := xc_X10_isOption) (N := 16) (xc_up_s (mi := xmi_X10_isOption) (cd := xc_X10_isOption) (lo := 0) (n := 16) xc_up_0 xo_c_X10_isOption_0) (by decide +kernel)
set_option maxRecDepth 20000 in
theorem xo_m_X10_beats : xm_b xmi_X10_beats (1, 11) (7, 105) (7, 106) = true := by decide +kernel
theorem xo_w_X10_beats : Cond.code xmi_X10_beats.2.1 xmi_X10_beats.2.2.1 xmi_X10_beats.2.2.2.1 xmi_X10_beats.2.2.2.2.1 ∈ xG := xw_in2 (K := 7) (i := 107) rfl rfl
set_option maxRecDepth 20000 in
theorem xo_c_X10_beats_0 : xc_b xmi_X10_beats xc_X10_beats 0 64 = true := by decide +kernel
theorem xo_r_X10_beats : ∀ (pc : Nat) (r : xr_R), xcl xc_X10_beats pc = some r → xr_b xmi_X10_beats.1 (xm_ini xmi_X10_beats) xmi_X10_beats.2.2.1 pc r = true ∧ xr_c xM xmi_X10_beats.1 r = true := xc_up_e (mi := xmi_X10_beats) (cd := xc_X10_beats) (N := 64) (xc_up_s (mi := xmi_X10_beats) (cd := xc_X10_beats) (lo := 0) (n := 64) xc_up_0 xo_c_X10_beats_0) (by decide +kernel)
set_option maxRecDepth 20000 in
theorem xo_m_X10_free : xm_b xmi_X10_free (1, 11) (7, 120) (7, 121) = true := by decide +kernel
theorem xo_w_X10_free : Cond.code xmi_X10_free.2.1 xmi_X10_free.2.2.1 xmi_X10_free.2.2.2.1 xmi_X10_free.2.2.2.2.1 ∈ xG := xw_in2 (K := 7) (i := 122) rfl rfl
set_option maxRecDepth 20000 in
theorem xo_c_X10_free_0 : xc_b xmi_X10_free xc_X10_free 0 80 = true := by decide +kernel
theorem xo_r_X10_free : ∀ (pc : Nat) (r : xr_R), xcl xc_X10_free pc = some r → xr_b xmi_X10_free.1 (xm_ini xmi_X10_free) xmi_X10_free.2.2.1 pc r = true ∧ xr_c xM xmi_X10_free.1 r = true := xc_up_e (mi := xmi_X10_free) (cd := xc_X10_free) (N := 80) (xc_up_s (mi := xmi_X10_free) (cd := xc_X10_free) (lo := 0) (n := 80) xc_up_0 xo_c_X10_free_0) (by decide +kernel)
set_option maxRecDepth 20000 in
theorem xo_m_X10_top : xm_b xmi_X10_top (1, 11) (7, 124) (7, 125) = true := by decide +kernel
theorem xo_w_X10_top : Cond.code xmi_X10_top.2.1 xmi_X10_top.2.2.1 xmi_X10_top.2.2.2.1 xmi_X10_top.2.2.2.2.1 ∈ xG := xw_in2 (K := 7) (i := 126) rfl rfl
set_option maxRecDepth 20000 in
theorem xo_c_X10_top_0 : xc_b xmi_X10_top xc_X10_top 0 96 = true := by decide +kernel
theorem xo_r_X10_top : ∀ (pc : Nat) (r : xr_R), xcl xc_X10_top pc = some r → xr_b xmi_X10_top.1 (xm_ini xmi_X10_top) xmi_X10_top.2.2.1 pc r = true ∧ xr_c xM xmi_X10_top.1 r = true := xc_up_e (mi := xmi_X10_top) (cd := xc_X10_top) (N := 96) (xc_up_s (mi := xmi_X10_top) (cd := xc_X10_top) (lo := 0) (n := 96) xc_up_0 xo_c_X10_top_0) (by decide +kernel)
set_option maxRecDepth 20000 in
theorem xo_m_X10_leads : xm_b xmi_X10_leads (1, 11) (7, 128) (7, 129) = true := by decide +kernel
theorem xo_w_X10_leads : Cond.code xmi_X10_leads.2.1 xmi_X10_leads.2.2.1 xmi_X10_leads.2.2.2.1 xmi_X10_leads.2.2.2.2.1 ∈ xG := xw_in2 (K := 7) (i := 130) rfl rfl
set_option maxRecDepth 20000 in
theorem xo_c_X10_leads_0 : xc_b xmi_X10_leads xc_X10_leads 0 112 = true := by decide +kernel
set_option maxRecDepth 20000 in
theorem xo_c_X10_leads_112 : xc_b xmi_X10_leads xc_X10_leads 112 112 = true := by decide +kernel
theorem xo_r_X10_leads : ∀ (pc : Nat) (r : xr_R), xcl xc_X10_leads pc = some r → xr_b xmi_X10_leads.1 (xm_ini xmi_X10_leads) xmi_X10_leads.2.2.1 pc r = true ∧ xr_c xM xmi_X10_leads.1 r = true := xc_up_e (mi := xmi_X10_leads) (cd := xc_X10_leads) (N := 224) (xc_up_s (mi := xmi_X10_leads) (cd := xc_X10_leads) (lo := 112) (n := 112) (xc_up_s (mi := xmi_X10_leads) (cd := xc_X10_leads) (lo := 0) (n := 112) xc_up_0 xo_c_X10_leads_0) xo_c_X10_leads_112) (by decide +kernel)
set_option maxRecDepth 20000 in
theorem xo_m_X10_endOf : xm_b xmi_X10_endOf (1, 11) (7, 133) (0, 111) = true := by decide +kernel
theorem xo_w_X10_endOf : Cond.code xmi_X10_endOf.2.1 xmi_X10_endOf.2.2.1 xmi_X10_endOf.2.2.2.1 xmi_X10_endOf.2.2.2.2.1 ∈ xG := xw_in2 (K := 7) (i := 134) rfl rfl
set_option maxRecDepth 20000 in
theorem xo_c_X10_endOf_0 : xc_b xmi_X10_endOf xc_X10_endOf 0 48 = true := by decide +kernel
theorem xo_r_X10_endOf : ∀ (pc : Nat) (r : xr_R), xcl xc_X10_endOf pc = some r → xr_b xmi_X10_endOf.1 (xm_ini xmi_X10_endOf) xmi_X10_endOf.2.2.1 pc r = true ∧ xr_c xM xmi_X10_endOf.1 r = true := xc_up_e (mi := xmi_X10_endOf) (cd := xc_X10_endOf) (N := 48) (xc_up_s (mi := xmi_X10_endOf) (cd := xc_X10_endOf) (lo := 0) (n := 48) xc_up_0 xo_c_X10_endOf_0) (by decide +kernel)
set_option maxRecDepth 20000 in
theorem xo_m_X10_rows : xm_b xmi_X10_rows (1, 11) (7, 136) (7, 137) = true := by decide +kernel
theorem xo_w_X10_rows : Cond.code xmi_X10_rows.2.1 xmi_X10_rows.2.2.1 xmi_X10_rows.2.2.2.1 xmi_X10_rows.2.2.2.2.1 ∈ xG := xw_in2 (K := 7) (i := 138) rfl rfl
set_option maxRecDepth 20000 in
theorem xo_c_X10_rows_0 : xc_b xmi_X10_rows xc_X10_rows 0 112 = true := by decide +kernel
theorem xo_r_X10_rows : ∀ (pc : Nat) (r : xr_R), xcl xc_X10_rows pc = some r → xr_b xmi_X10_rows.1 (xm_ini xmi_X10_rows) xmi_X10_rows.2.2.1 pc r = true ∧ xr_c xM xmi_X10_rows.1 r = true := xc_up_e (mi := xmi_X10_rows) (cd := xc_X10_rows) (N := 112) (xc_up_s (mi := xmi_X10_rows) (cd := xc_X10_rows) (lo := 0) (n := 112) xc_up_0 xo_c_X10_rows_0) (by decide +kernel)
set_option maxRecDepth 20000 in
theorem xo_m_X10_goOn : xm_b xmi_X10_goOn (1, 11) (7, 141) (0, 112) = true := by decide +kernel
theorem xo_w_X10_goOn : Cond.code xmi_X10_goOn.2.1 xmi_X10_goOn.2.2.1 xmi_X10_goOn.2.2.2.1 xmi_X10_goOn.2.2.2.2.1 ∈ xG := xw_in2 (K := 7) (i := 142) rfl rfl
set_option maxRecDepth 20000 in
theorem xo_c_X10_goOn_0 : xc_b xmi_X10_goOn xc_X10_goOn 0 112 = true := by decide +kernel
set_option maxRecDepth 20000 in
theorem xo_c_X10_goOn_112 : xc_b xmi_X10_goOn xc_X10_goOn 112 32 = true := by decide +kernel
theorem xo_r_X10_goOn : ∀ (pc : Nat) (r : xr_R), xcl xc_X10_goOn pc = some r → xr_b xmi_X10_goOn.1 (xm_ini xmi_X10_goOn) xmi_X10_goOn.2.2.1 pc r = true ∧ xr_c xM xmi_X10_goOn.1 r = true := xc_up_e (mi := xmi_X10_goOn) (cd := xc_X10_goOn) (N := 144) (xc_up_s (mi := xmi_X10_goOn) (cd := xc_X10_goOn) (lo := 112) (n := 32) (xc_up_s (mi := xmi_X10_goOn) (cd := xc_X10_goOn) (lo := 0) (n := 112) xc_up_0 xo_c_X10_goOn_0) xo_c_X10_goOn_112) (by decide +kernel)
set_option maxRecDepth 20000 in
theorem xo_m_X10_rowAt : xm_b xmi_X10_rowAt (1, 11) (7, 144) (7, 145) = true := by decide +kernel
theorem xo_w_X10_rowAt : Cond.code xmi_X10_rowAt.2.1 xmi_X10_rowAt.2.2.1 xmi_X10_rowAt.2.2.2.1 xmi_X10_rowAt.2.2.2.2.1 ∈ xG := xw_in2 (K := 7) (i := 146) rfl rfl
set_option maxRecDepth 20000 in
theorem xo_c_X10_rowAt_0 : xc_b xmi_X10_rowAt xc_X10_rowAt 0 32 = true := by decide +kernel
theorem xo_r_X10_rowAt : ∀ (pc : Nat) (r : xr_R), xcl xc_X10_rowAt pc = some r → xr_b xmi_X10_rowAt.1 (xm_ini xmi_X10_rowAt) xmi_X10_rowAt.2.2.1 pc r = true ∧ xr_c xM xmi_X10_rowAt.1 r = true := xc_up_e (mi := xmi_X10_rowAt) (cd := xc_X10_rowAt) (N := 32) (xc_up_s (mi := xmi_X10_rowAt) (cd := xc_X10_rowAt) (lo := 0) (n := 32) xc_up_0 xo_c_X10_rowAt_0) (by decide +kernel)
set_option maxRecDepth 20000 in
theorem xo_m_X10_vote : xm_b xmi_X10_vote (1, 11) (7, 148) (7, 149) = true := by decide +kernel
theorem xo_w_X10_vote : Cond.code xmi_X10_vote.2.1 xmi_X10_vote.2.2.1 xmi_X10_vote.2.2.2.1 xmi_X10_vote.2.2.2.2.1 ∈ xG := xw_in2 (K := 7) (i := 150) rfl rfl
set_option maxRecDepth 20000 in
theorem xo_c_X10_vote_0 : xc_b xmi_X10_vote xc_X10_vote 0 80 = true := by decide +kernel
theorem xo_r_X10_vote : ∀ (pc : Nat) (r : xr_R), xcl xc_X10_vote pc = some r → xr_b xmi_X10_vote.1 (xm_ini xmi_X10_vote) xmi_X10_vote.2.2.1 pc r = true ∧ xr_c xM xmi_X10_vote.1 r = true := xc_up_e (mi := xmi_X10_vote) (cd := xc_X10_vote) (N := 80) (xc_up_s (mi := xmi_X10_vote) (cd := xc_X10_vote) (lo := 0) (n := 80) xc_up_0 xo_c_X10_vote_0) (by decide +kernel)
set_option maxRecDepth 20000 in
theorem xo_m_X10_unfit : xm_b xmi_X10_unfit (1, 11) (7, 152) (7, 153) = true := by decide +kernel
theorem xo_w_X10_unfit : Cond.code xmi_X10_unfit.2.1 xmi_X10_unfit.2.2.1 xmi_X10_unfit.2.2.2.1 xmi_X10_unfit.2.2.2.2.1 ∈ xG := xw_in2 (K := 7) (i := 154) rfl rfl
set_option maxRecDepth 20000 in
theorem xo_c_X10_unfit_0 : xc_b xmi_X10_unfit xc_X10_unfit 0 80 = true := by decide +kernel
theorem xo_r_X10_unfit : ∀ (pc : Nat) (r : xr_R), xcl xc_X10_unfit pc = some r → xr_b xmi_X10_unfit.1 (xm_ini xmi_X10_unfit) xmi_X10_unfit.2.2.1 pc r = true ∧ xr_c xM xmi_X10_unfit.1 r = true := xc_up_e (mi := xmi_X10_unfit) (cd := xc_X10_unfit) (N := 80) (xc_up_s (mi := xmi_X10_unfit) (cd := xc_X10_unfit) (lo := 0) (n := 80) xc_up_0 xo_c_X10_unfit_0) (by decide +kernel)
set_option maxRecDepth 20000 in
theorem xo_m_X10_sureOf : xm_b xmi_X10_sureOf (1, 11) (7, 161) (0, 113) = true := by decide +kernel
theorem xo_w_X10_sureOf : Cond.code xmi_X10_sureOf.2.1 xmi_X10_sureOf.2.2.1 xmi_X10_sureOf.2.2.2.1 xmi_X10_sureOf.2.2.2.2.1 ∈ xG := xw_in2 (K := 7) (i := 162) rfl rfl
set_option maxRecDepth 20000 in
theorem xo_c_X10_sureOf_0 : xc_b xmi_X10_sureOf xc_X10_sureOf 0 112 = true := by decide +kernel
set_option maxRecDepth 20000 in
theorem xo_c_X10_sureOf_112 : xc_b xmi_X10_sureOf xc_X10_sureOf 112 16 = true := by decide +kernel
theorem xo_r_X10_sureOf : ∀ (pc : Nat) (r : xr_R), xcl xc_X10_sureOf pc = some r → xr_b xmi_X10_sureOf.1 (xm_ini xmi_X10_sureOf) xmi_X10_sureOf.2.2.1 pc r = true ∧ xr_c xM xmi_X10_sureOf.1 r = true := xc_up_e (mi := xmi_X10_sureOf) (cd := xc_X10_sureOf) (N := 128) (xc_up_s (mi := xmi_X10_sureOf) (cd := xc_X10_sureOf) (lo := 112) (n := 16) (xc_up_s (mi := xmi_X10_sureOf) (cd := xc_X10_sureOf) (lo := 0) (n := 112) xc_up_0 xo_c_X10_sureOf_0) xo_c_X10_sureOf_112) (by decide +kernel)
set_option maxRecDepth 20000 in
theorem xo_m_X10_sure : xm_b xmi_X10_sure (1, 11) (7, 156) (7, 157) = true := by decide +kernel
theorem xo_w_X10_sure : Cond.code xmi_X10_sure.2.1 xmi_X10_sure.2.2.1 xmi_X10_sure.2.2.2.1 xmi_X10_sure.2.2.2.2.1 ∈ xG := xw_in2 (K := 7) (i := 158) rfl rfl
set_option maxRecDepth 20000 in
theorem xo_c_X10_sure_0 : xc_b xmi_X10_sure xc_X10_sure 0 32 = true := by decide +kernel
theorem xo_r_X10_sure : ∀ (pc : Nat) (r : xr_R), xcl xc_X10_sure pc = some r → xr_b xmi_X10_sure.1 (xm_ini xmi_X10_sure) xmi_X10_sure.2.2.1 pc r = true ∧ xr_c xM xmi_X10_sure.1 r = true := xc_up_e (mi := xmi_X10_sure) (cd := xc_X10_sure) (N := 32) (xc_up_s (mi := xmi_X10_sure) (cd := xc_X10_sure) (lo := 0) (n := 32) xc_up_0 xo_c_X10_sure_0) (by decide +kernel)
set_option maxRecDepth 20000 in
theorem xo_m_X10_open : xm_b xmi_X10_open (1, 11) (7, 164) (7, 165) = true := by decide +kernel
theorem xo_w_X10_open : Cond.code xmi_X10_open.2.1 xmi_X10_open.2.2.1 xmi_X10_open.2.2.2.1 xmi_X10_open.2.2.2.2.1 ∈ xG := xw_in2 (K := 7) (i := 166) rfl rfl
set_option maxRecDepth 20000 in
theorem xo_c_X10_open_0 : xc_b xmi_X10_open xc_X10_open 0 48 = true := by decide +kernel
theorem xo_r_X10_open : ∀ (pc : Nat) (r : xr_R), xcl xc_X10_open pc = some r → xr_b xmi_X10_open.1 (xm_ini xmi_X10_open) xmi_X10_open.2.2.1 pc r = true ∧ xr_c xM xmi_X10_open.1 r = true := xc_up_e (mi := xmi_X10_open) (cd := xc_X10_open) (N := 48) (xc_up_s (mi := xmi_X10_open) (cd := xc_X10_open) (lo := 0) (n := 48) xc_up_0 xo_c_X10_open_0) (by decide +kernel)
set_option maxRecDepth 20000 in
theorem xo_m_X10_count : xm_b xmi_X10_count (1, 11) (7, 168) (7, 169) = true := by decide +kernel
theorem xo_w_X10_count : Cond.code xmi_X10_count.2.1 xmi_X10_count.2.2.1 xmi_X10_count.2.2.2.1 xmi_X10_count.2.2.2.2.1 ∈ xG := xw_in2 (K := 7) (i := 170) rfl rfl
set_option maxRecDepth 20000 in
theorem xo_c_X10_count_0 : xc_b xmi_X10_count xc_X10_count 0 80 = true := by decide +kernel
theorem xo_r_X10_count : ∀ (pc : Nat) (r : xr_R), xcl xc_X10_count pc = some r → xr_b xmi_X10_count.1 (xm_ini xmi_X10_count) xmi_X10_count.2.2.1 pc r = true ∧ xr_c xM xmi_X10_count.1 r = true := xc_up_e (mi := xmi_X10_count) (cd := xc_X10_count) (N := 80) (xc_up_s (mi := xmi_X10_count) (cd := xc_X10_count) (lo := 0) (n := 80) xc_up_0 xo_c_X10_count_0) (by decide +kernel)
set_option maxRecDepth 20000 in
theorem xo_m_J6_bitCount_0f7a4 : xm_b xmi_J6_bitCount_0f7a4 (1, 17) (3, 184) (99, 0) = true := by decide +kernel
theorem xo_w_J6_bitCount_0f7a4 : Cond.code xmi_J6_bitCount_0f7a4.2.1 xmi_J6_bitCount_0f7a4.2.2.1 xmi_J6_bitCount_0f7a4.2.2.2.1 xmi_J6_bitCount_0f7a4.2.2.2.2.1 ∈ xG := xw_in2 (K := 3) (i := 185) rfl rfl
set_option maxRecDepth 20000 in
theorem xo_c_J6_bitCount_0f7a4_0 : xc_b xmi_J6_bitCount_0f7a4 xc_J6_bitCount_0f7a4 0 64 = true := by decide +kernel
theorem xo_r_J6_bitCount_0f7a4 : ∀ (pc : Nat) (r : xr_R), xcl xc_J6_bitCount_0f7a4 pc = some r → xr_b xmi_J6_bitCount_0f7a4.1 (xm_ini xmi_J6_bitCount_0f7a4) xmi_J6_bitCount_0f7a4.2.2.1 pc r = true ∧ xr_c xM xmi_J6_bitCount_0f7a4.1 r = true := xc_up_e (mi := xmi_J6_bitCount_0f7a4) (cd := xc_J6_bitCount_0f7a4) (N := 64) (xc_up_s (mi := xmi_J6_bitCount_0f7a4) (cd := xc_J6_bitCount_0f7a4) (lo := 0) (n := 64) xc_up_0 xo_c_J6_bitCount_0f7a4_0) (by decide +kernel)
set_option maxRecDepth 20000 in
theorem xo_c_L_law_0 : xc_b xmi_L_law xc_L_law 0 48 = true := by decide +kernel
set_option maxRecDepth 20000 in
theorem xo_c_L_law_48 : xc_b xmi_L_law xc_L_law 48 48 = true := by decide +kernel
set_option maxRecDepth 20000 in
theorem xo_c_L_law_96 : xc_b xmi_L_law xc_L_law 96 48 = true := by decide +kernel
set_option maxRecDepth 20000 in
theorem xo_c_L_law_144 : xc_b xmi_L_law xc_L_law 144 48 = true := by decide +kernel
set_option maxRecDepth 20000 in
theorem xo_c_L_law_192 : xc_b xmi_L_law xc_L_law 192 48 = true := by decide +kernel
set_option maxRecDepth 20000 in
theorem xo_c_L_law_240 : xc_b xmi_L_law xc_L_law 240 48 = true := by decide +kernel
set_option maxRecDepth 20000 in
theorem xo_c_L_law_288 : xc_b xmi_L_law xc_L_law 288 48 = true := by decide +kernel
set_option maxRecDepth 20000 in
theorem xo_c_L_law_336 : xc_b xmi_L_law xc_L_law 336 48 = true := by decide +kernel
set_option maxRecDepth 20000 in
theorem xo_c_L_law_384 : xc_b xmi_L_law xc_L_law 384 48 = true := by decide +kernel
set_option maxRecDepth 20000 in
theorem xo_c_L_law_432 : xc_b xmi_L_law xc_L_law 432 48 = true := by decide +kernel
set_option maxRecDepth 20000 in
theorem xo_c_L_law_480 : xc_b xmi_L_law xc_L_law 480 48 = true := by decide +kernel
set_option maxRecDepth 20000 in
theorem xo_c_L_law_528 : xc_b xmi_L_law xc_L_law 528 48 = true := by decide +kernel
set_option maxRecDepth 20000 in
theorem xo_c_L_law_576 : xc_b xmi_L_law xc_L_law 576 48 = true := by decide +kernel
set_option maxRecDepth 20000 in
theorem xo_c_L_law_624 : xc_b xmi_L_law xc_L_law 624 48 = true := by decide +kernel
set_option maxRecDepth 20000 in
theorem xo_c_L_law_672 : xc_b xmi_L_law xc_L_law 672 48 = true := by decide +kernel
set_option maxRecDepth 20000 in
theorem xo_c_L_law_720 : xc_b xmi_L_law xc_L_law 720 48 = true := by decide +kernel
set_option maxRecDepth 20000 in
theorem xo_c_L_law_768 : xc_b xmi_L_law xc_L_law 768 48 = true := by decide +kernel
set_option maxRecDepth 20000 in
theorem xo_c_L_law_816 : xc_b xmi_L_law xc_L_law 816 48 = true := by decide +kernel
set_option maxRecDepth 20000 in
theorem xo_c_L_law_864 : xc_b xmi_L_law xc_L_law 864 48 = true := by decide +kernel
set_option maxRecDepth 20000 in
theorem xo_c_L_law_912 : xc_b xmi_L_law xc_L_law 912 48 = true := by decide +kernel
set_option maxRecDepth 20000 in
theorem xo_c_L_law_960 : xc_b xmi_L_law xc_L_law 960 48 = true := by decide +kernel
theorem xo_r_L_law : ∀ (pc : Nat) (r : xr_R), xcl xc_L_law pc = some r → xr_b xmi_L_law.1 (xm_ini xmi_L_law) xmi_L_law.2.2.1 pc r = true ∧ xr_c xM xmi_L_law.1 r = true := xc_up_e (mi := xmi_L_law) (cd := xc_L_law) (N := 1008) (xc_up_s (mi := xmi_L_law) (cd := xc_L_law) (lo := 960) (n := 48) (xc_up_s (mi := xmi_L_law) (cd := xc_L_law) (lo := 912) (n := 48) (xc_up_s (mi := xmi_L_law) (cd := xc_L_law) (lo := 864) (n := 48) (xc_up_s (mi := xmi_L_law) (cd := xc_L_law) (lo := 816) (n := 48) (xc_up_s (mi := xmi_L_law) (cd := xc_L_law) (lo := 768) (n := 48) (xc_up_s (mi := xmi_L_law) (cd := xc_L_law) (lo := 720) (n := 48) (xc_up_s (mi := xmi_L_law) (cd := xc_L_law) (lo := 672) (n := 48) (xc_up_s (mi := xmi_L_law) (cd := xc_L_law) (lo := 624) (n := 48) (xc_up_s (mi := xmi_L_law) (cd := xc_L_law) (lo := 576) (n := 48) (xc_up_s (mi := xmi_L_law) (cd := xc_L_law) (lo := 528) (n := 48) (xc_up_s (mi := xmi_L_law) (cd := xc_L_law) (lo := 480) (n := 48) (xc_up_s (mi := xmi_L_law) (cd := xc_L_law) (lo := 432) (n := 48) (xc_up_s (mi := xmi_L_law) (cd := xc_L_law) (lo := 384) (n := 48) (xc_up_s (mi := xmi_L_law) (cd := xc_L_law) (lo := 336) (n := 48) (xc_up_s (mi := xmi_L_law) (cd := xc_L_law) (lo := 288) (n := 48) (xc_up_s (mi := xmi_L_law) (cd := xc_L_law) (lo := 240) (n := 48) (xc_up_s (mi := xmi_L_law) (cd := xc_L_law) (lo := 192) (n := 48) (xc_up_s (mi := xmi_L_law) (cd := xc_L_law) (lo := 144) (n := 48) (xc_up_s (mi := xmi_L_law) (cd := xc_L_law) (lo := 96) (n := 48) (xc_up_s (mi := xmi_L_law) (cd := xc_L_law) (lo := 48) (n := 48) (xc_up_s (mi := xmi_L_law) (cd := xc_L_law) (lo := 0) (n := 48) xc_up_0 xo_c_L_law_0) xo_c_L_law_48) xo_c_L_law_96) xo_c_L_law_144) xo_c_L_law_192) xo_c_L_law_240) xo_c_L_law_288) xo_c_L_law_336) xo_c_L_law_384) xo_c_L_law_432) xo_c_L_law_480) xo_c_L_law_528) xo_c_L_law_576) xo_c_L_law_624) xo_c_L_law_672) xo_c_L_law_720) xo_c_L_law_768) xo_c_L_law_816) xo_c_L_law_864) xo_c_L_law_912) xo_c_L_law_960) (by decide +kernel)
end XCK2
