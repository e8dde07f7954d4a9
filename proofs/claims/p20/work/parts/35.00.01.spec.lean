section XB1
/-- X0_whoPrefer -/
def aC_m_X0_whoPrefer : aC := (xi_X0_whoPrefer, 0, [(2, 28, 0, none, [], []), (0, 0, 6, none, [], []), (0, 0, 6, none, [], []), (0, 1, 12, none, [], [])], [(some (0, 0, 4095, none, [], []), [])], [], [])
def aH_m_X0_whoPrefer : List aH := [(0, [(0, (2, 28, 0, none, [], [])), (1, (0, 0, 6, some ((0, 101), 0), [], [])), (2, (0, 0, 6, some ((0, 102), 0), [], [])), (3, (0, 1, 12, some ((0, 103), 0), [], []))], [], [], 13, []),
  (6, [(0, (2, 28, 0, none, [], [])), (1, (0, 0, 6, some ((0, 101), 0), [], [])), (2, (0, 0, 6, some ((0, 102), 0), [], [])), (3, (0, 1, 12, some ((0, 103), 0), [], [])), (4, (0, 0, 4095, some ((0, 4), 0), [], [])), (5, (0, 0, 12, some ((0, 5), 0), [], []))], [], [], 12, [((-1), (0, 5))])]
theorem as_m_X0_whoPrefer : a_spec a_tb aC_m_X0_whoPrefer := a_meth (Sp := []) (hd := aH_m_X0_whoPrefer) (mi := xmi_X0_whoPrefer) 34 rfl a_sp_n (by decide +kernel) (by decide +kernel)
/-- X0_match -/
def aC_m_X0_match : aC := (xi_X0_match, 1, [(2, 28, 0, none, [], []), (2, 11, 0, none, [], []), (0, 1, 12, none, [], [])], [(none, [])], [(31, 0)], [])
def aH_m_X0_match : List aH := [(0, [(0, (2, 28, 0, none, [], [])), (1, (2, 11, 0, none, [], [])), (2, (0, 1, 12, some ((0, 102), 0), [], []))], [], [], 72, []),
  (18, [(0, (2, 28, 0, none, [], [])), (1, (2, 11, 0, none, [], [])), (2, (0, 1, 12, some ((0, 102), 0), [], [])), (3, (0, 0, 6, some ((0, 3), 0), [], [])), (4, (0, 0, 7, some ((0, 4), 0), [], []))], [], [], 70, [((-1), (0, 4)), ((-9), (0, 3))]),
  (2, [(0, (2, 28, 0, none, [], [])), (1, (2, 11, 0, none, [], [])), (2, (0, 1, 12, some ((0, 102), 0), [], [])), (3, (0, 0, 7, some ((0, 3), 0), [], []))], [], [], 71, [((-9), (0, 3))])]
theorem as_m_X0_match : a_spec a_tb aC_m_X0_match := a_meth (Sp := [aC_m_X0_whoPrefer, aC_m_X7_holds]) (hd := aH_m_X0_match) (mi := xmi_X0_match) 32 rfl (a_sp_c as_m_X0_whoPrefer (a_sp_c as_m_X7_holds a_sp_n)) (by decide +kernel) (by decide +kernel)
/-- X10_isIn@1:1,7:7 -/
def aC_m_X10_isIn_1_1_7_7 : aC := (xi_X10_isIn, 0, [(0, 0, 640, none, [], []), (0, 1, 1, none, [], []), (0, 7, 7, none, [], [])], [(some (0, 0, 1, none, [((0, 100), 1, 7)], []), [])], [], [])
def aH_m_X10_isIn_1_1_7_7 : List aH := [(0, [(0, (0, 0, 640, some ((0, 100), 0), [], [])), (1, (0, 1, 1, some ((0, 101), 0), [], [])), (2, (0, 7, 7, some ((0, 102), 0), [], []))], [], [], 0, [])]
theorem as_m_X10_isIn_1_1_7_7 : a_spec a_tb aC_m_X10_isIn_1_1_7_7 := a_meth (Sp := []) (hd := aH_m_X10_isIn_1_1_7_7) (mi := xmi_X10_isIn) 14 rfl a_sp_n (by decide +kernel) (by decide +kernel)
/-- X1_add -/
def aC_m_X1_add : aC := (xi_X1_add, 0, [(2, 35, 0, none, [], []), (0, 0, 4095, none, [], []), (0, 0, 1, none, [], []), (0, (-2147483648), 2147483647, none, [], [])], [(some (0, (-1), 59, none, [], []), [])], [(35, 3), (36, 0), (37, 0), (38, 0)], [])
def aH_m_X1_add : List aH := [(0, [(0, (2, 35, 0, none, [], [])), (1, (0, 0, 4095, some ((0, 101), 0), [], [])), (2, (0, 0, 1, some ((0, 102), 0), [], [])), (3, (0, (-2147483648), 2147483647, some ((0, 103), 0), [], []))], [], [((35, 3), (0, 0, 60, some ((36, 3), 0), [], []))], 0, [])]
theorem as_m_X1_add : a_spec a_tb aC_m_X1_add := a_meth (Sp := []) (hd := aH_m_X1_add) (mi := xmi_X1_add) 38 rfl a_sp_n (by decide +kernel) (by decide +kernel)
/-- X10_carriesBy -/
def aC_m_X10_carriesBy : aC := (xi_X10_carriesBy, 0, [(2, 39, 0, none, [], []), (0, (-1), 7, none, [], []), (0, 0, 4095, none, [], [])], [(some (0, 0, 1, none, [], []), [])], [], [])
def aH_m_X10_carriesBy : List aH := [(0, [(0, (2, 39, 0, none, [], [])), (1, (0, (-1), 7, some ((0, 101), 0), [], [])), (2, (0, 0, 4095, some ((0, 102), 0), [], []))], [], [((39, 4), (0, 1, 12, some ((40, 4), 0), [], []))], 0, [])]
theorem as_m_X10_carriesBy : a_spec a_tb aC_m_X10_carriesBy := a_meth (Sp := []) (hd := aH_m_X10_carriesBy) (mi := xmi_X10_carriesBy) 19 rfl a_sp_n (by decide +kernel) (by decide +kernel)
/-- X2_isOf -/
def aC_m_X2_isOf : aC := (xi_X2_isOf, 0, [(2, 14, 0, none, [], []), (2, 11, 0, none, [], []), (0, 0, 12, none, [], [])], [(some (0, 0, 1, none, [], []), [])], [], [])
def aH_m_X2_isOf : List aH := [(0, [(0, (2, 14, 0, none, [], [])), (1, (2, 11, 0, none, [], [])), (2, (0, 0, 12, some ((0, 102), 0), [], []))], [], [((14, 7), (0, 0, 12, some ((15, 7), 0), [], []))], 0, [])]
theorem as_m_X2_isOf : a_spec a_tb aC_m_X2_isOf := a_meth (Sp := []) (hd := aH_m_X2_isOf) (mi := xmi_X2_isOf) 16 rfl a_sp_n (by decide +kernel) (by decide +kernel)
/-- X10_isIn@0:0,1:1 -/
def aC_m_X10_isIn_0_0_1_1 : aC := (xi_X10_isIn, 0, [(0, (-2147483648), 2147483647, none, [], []), (0, 0, 0, none, [], []), (0, 1, 1, none, [], [])], [(some (0, 0, 1, none, [((0, 100), 0, 1)], []), [])], [], [])
def aH_m_X10_isIn_0_0_1_1 : List aH := [(0, [(0, (0, (-2147483648), 2147483647, some ((0, 100), 0), [], [])), (1, (0, 0, 0, some ((0, 101), 0), [], [])), (2, (0, 1, 1, some ((0, 102), 0), [], []))], [], [], 0, [])]
theorem as_m_X10_isIn_0_0_1_1 : a_spec a_tb aC_m_X10_isIn_0_0_1_1 := a_meth (Sp := []) (hd := aH_m_X10_isIn_0_0_1_1) (mi := xmi_X10_isIn) 14 rfl a_sp_n (by decide +kernel) (by decide +kernel)
/-- X0_unbeaten -/
def aC_m_X0_unbeaten : aC := (xi_X0_unbeaten, 0, [(2, 28, 0, none, [], [])], [(some (0, 0, 127, none, [], []), [])], [], [])
def aH_m_X0_unbeaten : List aH := [(0, [(0, (2, 28, 0, none, [], []))], [], [], 8, []),
  (5, [(0, (2, 28, 0, none, [], [])), (1, (0, 0, 127, some ((0, 1), 0), [], [])), (2, (0, 0, 7, some ((0, 2), 0), [], []))], [], [], 7, [((-1), (0, 2))])]
theorem as_m_X0_unbeaten : a_spec a_tb aC_m_X0_unbeaten := a_meth (Sp := []) (hd := aH_m_X0_unbeaten) (mi := xmi_X0_unbeaten) 20 rfl a_sp_n (by decide +kernel) (by decide +kernel)
/-- X10_areOptions -/
def aC_m_X10_areOptions : aC := (xi_X10_areOptions, 0, [(2, 39, 0, none, [], []), (0, 1, 7, none, [], [])], [(some (0, 0, 1, none, [], []), [])], [], [])
def aH_m_X10_areOptions : List aH := [(0, [(0, (2, 39, 0, none, [], [])), (1, (0, 1, 7, some ((0, 101), 0), [], []))], [], [], 8, []),
  (4, [(0, (2, 39, 0, none, [], [])), (1, (0, 1, 7, some ((0, 101), 0), [], [])), (2, (0, (-2147483648), 2147483647, some ((0, 2), 0), [], [])), (3, (0, 0, 7, some ((0, 3), 0), [], []))], [], [], 7, [((-1), (0, 3))])]
theorem as_m_X10_areOptions : a_spec a_tb aC_m_X10_areOptions := a_meth (Sp := []) (hd := aH_m_X10_areOptions) (mi := xmi_X10_areOptions) 36 rfl a_sp_n (by decide +kernel) (by decide +kernel)
/-- X8_at -/
def aC_m_X8_at : aC := (xi_X8_at, 0, [(2, 1, 0, none, [], []), (0, 0, 4095, none, [], [])], [(some (0, (-1), 255, none, [], []), [])], [], [])
def aH_m_X8_at : List aH := [(0, [(0, (2, 1, 0, none, [], [])), (1, (0, 0, 4095, some ((0, 101), 0), [], []))], [], [((1, 1), (0, 0, 640, some ((2, 1), 0), [], []))], 0, [])]
theorem as_m_X8_at : a_spec a_tb aC_m_X8_at := a_meth (Sp := []) (hd := aH_m_X8_at) (mi := xmi_X8_at) 19 rfl a_sp_n (by decide +kernel) (by decide +kernel)
/-- X10_beatsOf -/
def aC_m_X10_beatsOf : aC := (xi_X10_beatsOf, 0, [(2, 39, 0, none, [], []), (0, 0, 6, none, [], []), (0, 0, 6, none, [], [])], [(some (0, 0, 1, none, [], []), [])], [], [])
def aH_m_X10_beatsOf : List aH := [(0, [(0, (2, 39, 0, none, [], [])), (1, (0, 0, 6, some ((0, 101), 0), [], [])), (2, (0, 0, 6, some ((0, 102), 0), [], []))], [], [((39, 4), (0, 1, 12, some ((40, 4), 0), [], []))], 13, []),
  (5, [(0, (2, 39, 0, none, [], [])), (1, (0, 0, 6, some ((0, 101), 0), [], [])), (2, (0, 0, 6, some ((0, 102), 0), [], [])), (3, (0, 0, 4095, some ((0, 3), 0), [], [])), (4, (0, 0, 12, some ((0, 4), 0), [], []))], [], [((39, 4), (0, 1, 12, some ((40, 4), 0), [], []))], 12, [((-1), (0, 4))])]
theorem as_m_X10_beatsOf : a_spec a_tb aC_m_X10_beatsOf := a_meth (Sp := []) (hd := aH_m_X10_beatsOf) (mi := xmi_X10_beatsOf) 35 rfl a_sp_n (by decide +kernel) (by decide +kernel)
/-- X6_isBlank -/
def aC_m_X6_isBlank : aC := (xi_X6_isBlank, 0, [(0, (-1), 255, none, [], [])], [(some (0, 0, 1, none, [((0, 100), 10, 32)], []), [])], [], [])
def aH_m_X6_isBlank : List aH := [(0, [(0, (0, (-1), 255, some ((0, 100), 0), [], []))], [], [], 0, [])]
theorem as_m_X6_isBlank : a_spec a_tb aC_m_X6_isBlank := a_meth (Sp := []) (hd := aH_m_X6_isBlank) (mi := xmi_X6_isBlank) 14 rfl a_sp_n (by decide +kernel) (by decide +kernel)
/-- X10_isProper -/
def aC_m_X10_isProper : aC := (xi_X10_isProper, 0, [(2, 39, 0, none, [], [])], [(some (0, 0, 1, none, [], []), [])], [], [])
def aH_m_X10_isProper : List aH := [(0, [(0, (2, 39, 0, none, [], []))], [], [((39, 35), (0, 0, 4096, some ((40, 35), 0), [], []))], 4097, []),
  (2, [(0, (2, 39, 0, none, [], [])), (1, (0, 0, 4096, some ((0, 1), 0), [], []))], [], [((39, 35), (0, 0, 4096, some ((40, 35), 0), [], []))], 4096, [((-1), (0, 1))])]
theorem as_m_X10_isProper : a_spec a_tb aC_m_X10_isProper := a_meth (Sp := []) (hd := aH_m_X10_isProper) (mi := xmi_X10_isProper) 29 rfl a_sp_n (by decide +kernel) (by decide +kernel)
/-- X10_isStrong -/
def aC_m_X10_isStrong : aC := (xi_X10_isStrong, 0, [(2, 39, 0, none, [], [])], [(some (0, 0, 1, none, [], []), [])], [], [])
def aH_m_X10_isStrong : List aH := [(0, [(0, (2, 39, 0, none, [], []))], [], [((39, 35), (0, 0, 4096, some ((40, 35), 0), [], []))], 4097, []),
  (2, [(0, (2, 39, 0, none, [], [])), (1, (0, 0, 4096, some ((0, 1), 0), [], []))], [], [((39, 35), (0, 0, 4096, some ((40, 35), 0), [], []))], 4096, [((-1), (0, 1))])]
theorem as_m_X10_isStrong : a_spec a_tb aC_m_X10_isStrong := a_meth (Sp := []) (hd := aH_m_X10_isStrong) (mi := xmi_X10_isStrong) 29 rfl a_sp_n (by decide +kernel) (by decide +kernel)
/-- X10_held -/
def aC_m_X10_held : aC := (xi_X10_held, 0, [(2, 39, 0, none, [], []), (0, 0, 11, none, [], []), (0, 0, 11, none, [], [])], [(some (0, 0, 3, none, [], []), [])], [], [])
def aH_m_X10_held : List aH := [(0, [(0, (2, 39, 0, none, [], [])), (1, (0, 0, 11, some ((0, 101), 0), [], [])), (2, (0, 0, 11, some ((0, 102), 0), [], []))], [], [((39, 35), (0, 0, 4096, some ((40, 35), 0), [], []))], 4097, []),
  (5, [(0, (2, 39, 0, none, [], [])), (1, (0, 0, 11, some ((0, 101), 0), [], [])), (2, (0, 0, 11, some ((0, 102), 0), [], [])), (3, (0, 0, 3, some ((0, 3), 0), [], [])), (4, (0, 0, 4096, some ((0, 4), 0), [], []))], [], [((39, 35), (0, 0, 4096, some ((40, 35), 0), [], []))], 4096, [((-1), (0, 4))])]
theorem as_m_X10_held : a_spec a_tb aC_m_X10_held := a_meth (Sp := []) (hd := aH_m_X10_held) (mi := xmi_X10_held) 60 rfl a_sp_n (by decide +kernel) (by decide +kernel)
/-- X10_turnsOf -/
def aC_m_X10_turnsOf : aC := (xi_X10_turnsOf, 0, [(2, 39, 0, none, [], []), (0, 0, 11, none, [], [])], [(some (0, (-2147483648), 2147483647, none, [], []), [])], [], [])
def aH_m_X10_turnsOf : List aH := [(0, [(0, (2, 39, 0, none, [], [])), (1, (0, 0, 11, some ((0, 101), 0), [], []))], [], [((39, 35), (0, 0, 4096, some ((40, 35), 0), [], []))], 4097, []),
  (4, [(0, (2, 39, 0, none, [], [])), (1, (0, 0, 11, some ((0, 101), 0), [], [])), (2, (0, (-2147483648), 2147483647, some ((0, 2), 0), [], [])), (3, (0, 0, 4096, some ((0, 3), 0), [], []))], [], [((39, 35), (0, 0, 4096, some ((40, 35), 0), [], []))], 4096, [((-1), (0, 3))])]
theorem as_m_X10_turnsOf : a_spec a_tb aC_m_X10_turnsOf := a_meth (Sp := []) (hd := aH_m_X10_turnsOf) (mi := xmi_X10_turnsOf) 33 rfl a_sp_n (by decide +kernel) (by decide +kernel)
/-- X10_shareOfSets -/
def aC_m_X10_shareOfSets : aC := (xi_X10_shareOfSets, 1, [(2, 39, 0, none, [], []), (0, 0, 11, none, [], [])], [(none, [])], [], [])
def aH_m_X10_shareOfSets : List aH := [(0, [(0, (2, 39, 0, none, [], [])), (1, (0, 0, 11, some ((0, 101), 0), [], []))], [], [((39, 4), (0, 1, 12, some ((40, 4), 0), [], []))], 13, []),
  (5, [(0, (2, 39, 0, none, [], [])), (1, (0, 0, 11, some ((0, 101), 0), [], [])), (2, (1, (-9223372036854775808), 9223372036854775807, none, [], [])), (4, (0, 0, 12, some ((0, 4), 0), [], []))], [], [((39, 4), (0, 1, 12, some ((40, 4), 0), [], []))], 12, [((-1), (0, 4))])]
theorem as_m_X10_shareOfSets : a_spec a_tb aC_m_X10_shareOfSets := a_meth (Sp := [aC_m_X10_turnsOf, aC_les]) (hd := aH_m_X10_shareOfSets) (mi := xmi_X10_shareOfSets) 22 rfl (a_sp_c as_m_X10_turnsOf (a_sp_c as_les a_sp_n)) (by decide +kernel) (by decide +kernel)
/-- X10_power -/
def aC_m_X10_power : aC := (xi_X10_power, 0, [(1, (-9223372036854775808), 9223372036854775807, none, [], []), (0, (-11), 12, none, [], [])], [(some (1, (-9223372036854775808), 9223372036854775807, none, [], []), [])], [], [])
def aH_m_X10_power : List aH := [(0, [(0, (1, (-9223372036854775808), 9223372036854775807, none, [], [])), (2, (0, (-11), 12, some ((0, 102), 0), [], []))], [], [], 13, []),
  (5, [(0, (1, (-9223372036854775808), 9223372036854775807, none, [], [])), (2, (0, (-11), 12, some ((0, 102), 0), [], [])), (3, (1, (-9223372036854775808), 9223372036854775807, none, [], [])), (5, (0, 0, 12, some ((0, 5), 0), [], []))], [], [], 12, [((-1), (0, 5))])]
theorem as_m_X10_power : a_spec a_tb aC_m_X10_power := a_meth (Sp := []) (hd := aH_m_X10_power) (mi := xmi_X10_power) 15 rfl a_sp_n (by decide +kernel) (by decide +kernel)
/-- X0_wins@ok -/
def aC_m_X0_wins_ok : aC := (xi_X0_wins, 0, [(2, 28, 0, none, [], []), (0, 0, 6, none, [], []), (0, 0, 6, none, [], [])], [(some (0, 0, 1, none, [], []), [])], [], [])
def aH_m_X0_wins_ok : List aH := [(0, [(0, (2, 28, 0, none, [], [])), (1, (0, 0, 6, some ((0, 101), 0), [], [])), (2, (0, 0, 6, some ((0, 102), 0), [], []))], [], [], 0, [])]
theorem as_m_X0_wins_ok : a_spec a_tb aC_m_X0_wins_ok := a_meth (Sp := []) (hd := aH_m_X0_wins_ok) (mi := xmi_X0_wins) 17 rfl a_sp_n (by decide +kernel) (by decide +kernel)
/-- X0_stands@ok -/
def aC_m_X0_stands_ok : aC := (xi_X0_stands, 1, [(2, 28, 0, none, [], []), (0, 0, 6, none, [], []), (0, 0, 6, none, [], [])], [(some (0, 0, 6, none, [], []), [])], [], [])
def aH_m_X0_stands_ok : List aH := [(0, [(0, (2, 28, 0, none, [], [])), (1, (0, 0, 6, some ((0, 101), 0), [], [])), (2, (0, 0, 6, some ((0, 102), 0), [], []))], [], [], 0, [])]
theorem as_m_X0_stands_ok : a_spec a_tb aC_m_X0_stands_ok := a_meth (Sp := [aC_m_X0_wins_ok]) (hd := aH_m_X0_stands_ok) (mi := xmi_X0_stands) 13 rfl (a_sp_c as_m_X0_wins_ok a_sp_n) (by decide +kernel) (by decide +kernel)
/-- X0_order@r1 -/
def aC_m_X0_order_r1 : aC := (xi_X0_order, 1, [(2, 28, 0, none, [], []), (0, 0, 11, none, [], []), (2, 1, 0, none, [], [])], [(none, [])], [(28, 1), (30, 0)], [])
def aH_m_X0_order_r1 : List aH := [(0, [(0, (2, 28, 0, none, [], [])), (1, (0, 0, 11, some ((0, 101), 0), [], [])), (2, (2, 1, 0, none, [], []))], [], [], 16, []),
  (2, [(0, (2, 28, 0, none, [], [])), (1, (0, 0, 11, some ((0, 101), 0), [], [])), (2, (2, 1, 0, none, [], [])), (3, (0, 0, 7, some ((0, 3), 0), [], []))], [], [], 15, [((-2), (0, 3))]),
  (15, [(0, (2, 28, 0, none, [], [])), (1, (0, 0, 11, some ((0, 101), 0), [], [])), (2, (2, 1, 0, none, [], [])), (3, (0, 0, 6, some ((0, 3), 0), [], [])), (4, (0, (-1), 255, some ((0, 4), 0), [], []))], [], [], 14, [((-2), (0, 3))])]
theorem as_m_X0_order_r1 : a_spec a_tb aC_m_X0_order_r1 := a_meth (Sp := [aC_m_X8_at, aC_m_X0_isOption]) (hd := aH_m_X0_order_r1) (mi := xmi_X0_order) 20 rfl (a_sp_c as_m_X8_at (a_sp_c as_m_X0_isOption a_sp_n)) (by decide +kernel) (by decide +kernel)
/-- X6_isWord@s2 -/
def aC_m_X6_isWord_s2 : aC := (xi_X6_isWord, 5, [(2, 8, 0, none, [], []), (4, 2, 0, none, [], [])], [(some (0, 0, 1, none, [], []), [])], [], [])
def aH_m_X6_isWord_s2 : List aH := [(0, [(0, (2, 8, 0, none, [], [])), (1, (4, 2, 0, none, [], []))], [], [((8, 3), (0, (-1), 255, some ((9, 3), 0), [], [])), ((8, 4), (0, 0, 639, some ((9, 4), 0), [], [])), ((8, 5), (0, 0, 640, some ((9, 5), 0), [], []))], 5, []),
  (28, [(0, (2, 8, 0, none, [], [])), (1, (4, 2, 0, none, [], [])), (2, (0, 0, 4, some ((0, 2), 0), [], []))], [], [((8, 3), (0, 2, 2, some ((9, 3), 0), [], [])), ((8, 4), (0, 0, 639, some ((9, 4), 0), [], [])), ((8, 5), (0, 0, 640, some ((9, 5), 0), [], []))], 4, [((-1), (0, 2))])]
theorem as_m_X6_isWord_s2 : a_spec a_tb aC_m_X6_isWord_s2 := a_meth (Sp := [aC_m_X8_at]) (hd := aH_m_X6_isWord_s2) (mi := xmi_X6_isWord) 23 rfl (a_sp_c as_m_X8_at a_sp_n) (by decide +kernel) (by decide +kernel)
/-- X0_waysFrom -/
def aC_m_X0_waysFrom : aC := (xi_X0_waysFrom, 0, [(2, 28, 0, none, [], []), (0, 0, 127, none, [], []), (0, 0, 6, none, [], [])], [(some (0, (-2147483648), 2147483647, none, [], []), [])], [], [])
def aH_m_X0_waysFrom : List aH := [(0, [(0, (2, 28, 0, none, [], [])), (1, (0, 0, 127, some ((0, 101), 0), [], [])), (2, (0, 0, 6, some ((0, 102), 0), [], []))], [], [], 0, [])]
theorem as_m_X0_waysFrom : a_spec a_tb aC_m_X0_waysFrom := a_meth (Sp := []) (hd := aH_m_X0_waysFrom) (mi := xmi_X0_waysFrom) 14 rfl a_sp_n (by decide +kernel) (by decide +kernel)
/-- X6_isLetter -/
def aC_m_X6_isLetter : aC := (xi_X6_isLetter, 0, [(0, (-1), 255, none, [], [])], [(some (0, 0, 1, none, [((0, 100), 97, 122)], []), [])], [], [])
def aH_m_X6_isLetter : List aH := [(0, [(0, (0, (-1), 255, some ((0, 100), 0), [], []))], [], [], 0, [])]
theorem as_m_X6_isLetter : a_spec a_tb aC_m_X6_isLetter := a_meth (Sp := []) (hd := aH_m_X6_isLetter) (mi := xmi_X6_isLetter) 14 rfl a_sp_n (by decide +kernel) (by decide +kernel)
/-- X10_isLeast -/
def aC_m_X10_isLeast : aC := (xi_X10_isLeast, 0, [(2, 39, 0, none, [], []), (0, 0, 4095, none, [], [])], [(some (0, 0, 1, none, [], []), [])], [], [])
def aH_m_X10_isLeast : List aH := [(0, [(0, (2, 39, 0, none, [], [])), (1, (0, 0, 4095, some ((0, 101), 0), [], []))], [], [((39, 4), (0, 1, 12, some ((40, 4), 0), [], []))], 13, []),
  (13, [(0, (2, 39, 0, none, [], [])), (1, (0, 0, 4095, some ((0, 101), 0), [], [])), (2, (0, 0, 12, some ((0, 2), 0), [], []))], [], [((39, 4), (0, 1, 12, some ((40, 4), 0), [], []))], 12, [((-1), (0, 2))])]
theorem as_m_X10_isLeast : a_spec a_tb aC_m_X10_isLeast := a_meth (Sp := []) (hd := aH_m_X10_isLeast) (mi := xmi_X10_isLeast) 30 rfl a_sp_n (by decide +kernel) (by decide +kernel)
/-- X10_orders -/
def aC_m_X10_orders : aC := (xi_X10_orders, 0, [(0, (-12), 12, none, [], [])], [(some (1, (-9223372036854775808), 9223372036854775807, none, [], []), [])], [], [])
def aH_m_X10_orders : List aH := [(0, [(0, (0, (-12), 12, some ((0, 100), 0), [], []))], [], [], 12, []),
  (4, [(0, (0, (-12), 12, some ((0, 100), 0), [], [])), (1, (1, (-9223372036854775808), 9223372036854775807, none, [], [])), (3, (0, 2, 13, some ((0, 3), 0), [], []))], [], [], 13, [((-1), (0, 3))])]
theorem as_m_X10_orders : a_spec a_tb aC_m_X10_orders := a_meth (Sp := []) (hd := aH_m_X10_orders) (mi := xmi_X10_orders) 16 rfl a_sp_n (by decide +kernel) (by decide +kernel)
/-- X2_does -/
def aC_m_X2_does : aC := (xi_X2_does, 1, [(2, 14, 0, none, [], []), (0, 0, 4095, none, [], []), (0, 0, 1, none, [], [])], [(some (0, 0, 1, none, [], []), [])], [], [])
def aH_m_X2_does : List aH := [(0, [(0, (2, 14, 0, none, [], [])), (1, (0, 0, 4095, some ((0, 101), 0), [], [])), (2, (0, 0, 1, some ((0, 102), 0), [], []))], [], [((14, 8), (0, 0, 4095, some ((15, 8), 0), [], []))], 0, [])]
theorem as_m_X2_does : a_spec a_tb aC_m_X2_does := a_meth (Sp := [aC_m_X7_holds]) (hd := aH_m_X2_does) (mi := xmi_X2_does) 20 rfl (a_sp_c as_m_X7_holds a_sp_n) (by decide +kernel) (by decide +kernel)
/-- X10_isIn@-2147483648:2147483647,999:999 -/
def aC_m_X10_isIn_n2147483648_2147483647_999_999 : aC := (xi_X10_isIn, 0, [(0, (-2147483648), 2147483647, none, [], []), (0, (-2147483648), 2147483647, none, [], []), (0, 999, 999, none, [], [])], [(some (0, 0, 1, none, [((0, 100), (-2147483648), 999)], []), [])], [], [])
def aH_m_X10_isIn_n2147483648_2147483647_999_999 : List aH := [(0, [(0, (0, (-2147483648), 2147483647, some ((0, 100), 0), [], [])), (1, (0, (-2147483648), 2147483647, some ((0, 101), 0), [], [])), (2, (0, 999, 999, some ((0, 102), 0), [], []))], [], [], 0, [])]
theorem as_m_X10_isIn_n2147483648_2147483647_999_999 : a_spec a_tb aC_m_X10_isIn_n2147483648_2147483647_999_999 := a_meth (Sp := []) (hd := aH_m_X10_isIn_n2147483648_2147483647_999_999) (mi := xmi_X10_isIn) 14 rfl a_sp_n (by decide +kernel) (by decide +kernel)
/-- X2_countCarrying -/
def aC_m_X2_countCarrying : aC := (xi_X2_countCarrying, 1, [(2, 14, 0, none, [], [])], [(some (0, (-2147483648), 2147483647, none, [], []), [])], [], [])
def aH_m_X2_countCarrying : List aH := [(0, [(0, (2, 14, 0, none, [], []))], [], [((14, 8), (0, 0, 4095, some ((15, 8), 0), [], []))], 4097, []),
  (4, [(0, (2, 14, 0, none, [], [])), (1, (0, (-2147483648), 2147483647, some ((0, 1), 0), [], [])), (2, (0, 0, 4096, some ((0, 2), 0), [], []))], [], [((14, 8), (0, 0, 4095, some ((15, 8), 0), [], []))], 4096, [((-1), (0, 2))])]
theorem as_m_X2_countCarrying : a_spec a_tb aC_m_X2_countCarrying := a_meth (Sp := [aC_m_X7_holds]) (hd := aH_m_X2_countCarrying) (mi := xmi_X2_countCarrying) 18 rfl (a_sp_c as_m_X7_holds a_sp_n) (by decide +kernel) (by decide +kernel)
/-- X2_isProper -/
def aC_m_X2_isProper : aC := (xi_X2_isProper, 1, [(2, 14, 0, none, [], [])], [(some (0, 0, 1, none, [], []), [])], [], [])
def aH_m_X2_isProper : List aH := [(0, [(0, (2, 14, 0, none, [], []))], [], [((14, 8), (0, 0, 4095, some ((15, 8), 0), [], []))], 4097, []),
  (2, [(0, (2, 14, 0, none, [], [])), (1, (0, 0, 4096, some ((0, 1), 0), [], []))], [], [((14, 8), (0, 0, 4095, some ((15, 8), 0), [], []))], 4096, [((-1), (0, 1))])]
theorem as_m_X2_isProper : a_spec a_tb aC_m_X2_isProper := a_meth (Sp := [aC_m_X7_holds]) (hd := aH_m_X2_isProper) (mi := xmi_X2_isProper) 27 rfl (a_sp_c as_m_X7_holds a_sp_n) (by decide +kernel) (by decide +kernel)
end XB1
