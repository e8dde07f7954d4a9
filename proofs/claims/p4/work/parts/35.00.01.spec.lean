section XB1
/-- X0_whoPrefer -/
def aC_30 : aC := (xi_X0_whoPrefer, 0, [(2, 28, 0, none, [], []), (0, 0, 6, none, [], []), (0, 0, 6, none, [], []), (0, 1, 12, none, [], [])], [(some (0, 0, 4095, none, [], []), [])], [], [])
def aH_30 : List aH := [(0, [(0, (2, 28, 0, none, [], [])), (1, (0, 0, 6, some ((0, 101), 0), [], [])), (2, (0, 0, 6, some ((0, 102), 0), [], [])), (3, (0, 1, 12, some ((0, 103), 0), [], []))], [], [], 13, []),
  (6, [(0, (2, 28, 0, none, [], [])), (1, (0, 0, 6, some ((0, 101), 0), [], [])), (2, (0, 0, 6, some ((0, 102), 0), [], [])), (3, (0, 1, 12, some ((0, 103), 0), [], [])), (4, (0, 0, 4095, some ((0, 4), 0), [], [])), (5, (0, 0, 12, some ((0, 5), 0), [], []))], [], [], 12, [((-1), (0, 5))])]
theorem as_30 : a_spec a_tb aC_30 := a_meth (Sp := []) (hd := aH_30) (mi := xmi_X0_whoPrefer) 34 rfl a_sp_n (by decide +kernel) (by decide +kernel)
/-- X0_match -/
def aC_31 : aC := (xi_X0_match, 1, [(2, 28, 0, none, [], []), (2, 11, 0, none, [], []), (0, 1, 12, none, [], [])], [(none, [])], [(31, 0)], [])
def aH_31 : List aH := [(0, [(0, (2, 28, 0, none, [], [])), (1, (2, 11, 0, none, [], [])), (2, (0, 1, 12, some ((0, 102), 0), [], []))], [], [], 72, []),
  (18, [(0, (2, 28, 0, none, [], [])), (1, (2, 11, 0, none, [], [])), (2, (0, 1, 12, some ((0, 102), 0), [], [])), (3, (0, 0, 6, some ((0, 3), 0), [], [])), (4, (0, 0, 7, some ((0, 4), 0), [], []))], [], [], 70, [((-1), (0, 4)), ((-9), (0, 3))]),
  (2, [(0, (2, 28, 0, none, [], [])), (1, (2, 11, 0, none, [], [])), (2, (0, 1, 12, some ((0, 102), 0), [], [])), (3, (0, 0, 7, some ((0, 3), 0), [], []))], [], [], 71, [((-9), (0, 3))])]
theorem as_31 : a_spec a_tb aC_31 := a_meth (Sp := [aC_30, aC_27]) (hd := aH_31) (mi := xmi_X0_match) 32 rfl (a_sp_c as_30 (a_sp_c as_27 a_sp_n)) (by decide +kernel) (by decide +kernel)
/-- X10_isIn@1:1,7:7 -/
def aC_32 : aC := (xi_X10_isIn, 0, [(0, 0, 640, none, [], []), (0, 1, 1, none, [], []), (0, 7, 7, none, [], [])], [(some (0, 0, 1, none, [((0, 100), 1, 7)], []), [])], [], [])
def aH_32 : List aH := [(0, [(0, (0, 0, 640, some ((0, 100), 0), [], [])), (1, (0, 1, 1, some ((0, 101), 0), [], [])), (2, (0, 7, 7, some ((0, 102), 0), [], []))], [], [], 0, [])]
theorem as_32 : a_spec a_tb aC_32 := a_meth (Sp := []) (hd := aH_32) (mi := xmi_X10_isIn) 14 rfl a_sp_n (by decide +kernel) (by decide +kernel)
/-- X1_add -/
def aC_33 : aC := (xi_X1_add, 0, [(2, 35, 0, none, [], []), (0, 0, 4095, none, [], []), (0, 0, 1, none, [], []), (0, (-2147483648), 2147483647, none, [], [])], [(some (0, (-1), 59, none, [], []), [])], [(35, 3), (36, 0), (37, 0), (38, 0)], [])
def aH_33 : List aH := [(0, [(0, (2, 35, 0, none, [], [])), (1, (0, 0, 4095, some ((0, 101), 0), [], [])), (2, (0, 0, 1, some ((0, 102), 0), [], [])), (3, (0, (-2147483648), 2147483647, some ((0, 103), 0), [], []))], [], [((35, 3), (0, 0, 60, some ((36, 3), 0), [], []))], 0, [])]
theorem as_33 : a_spec a_tb aC_33 := a_meth (Sp := []) (hd := aH_33) (mi := xmi_X1_add) 38 rfl a_sp_n (by decide +kernel) (by decide +kernel)
/-- X10_carriesBy -/
def aC_34 : aC := (xi_X10_carriesBy, 0, [(2, 39, 0, none, [], []), (0, (-1), 7, none, [], []), (0, 0, 4095, none, [], [])], [(some (0, 0, 1, none, [], []), [])], [], [])
def aH_34 : List aH := [(0, [(0, (2, 39, 0, none, [], [])), (1, (0, (-1), 7, some ((0, 101), 0), [], [])), (2, (0, 0, 4095, some ((0, 102), 0), [], []))], [], [((39, 4), (0, 1, 12, some ((40, 4), 0), [], []))], 0, [])]
theorem as_34 : a_spec a_tb aC_34 := a_meth (Sp := []) (hd := aH_34) (mi := xmi_X10_carriesBy) 19 rfl a_sp_n (by decide +kernel) (by decide +kernel)
/-- X2_isOf -/
def aC_35 : aC := (xi_X2_isOf, 0, [(2, 14, 0, none, [], []), (2, 11, 0, none, [], []), (0, 0, 12, none, [], [])], [(some (0, 0, 1, none, [], []), [])], [], [])
def aH_35 : List aH := [(0, [(0, (2, 14, 0, none, [], [])), (1, (2, 11, 0, none, [], [])), (2, (0, 0, 12, some ((0, 102), 0), [], []))], [], [((14, 7), (0, 0, 12, some ((15, 7), 0), [], []))], 0, [])]
theorem as_35 : a_spec a_tb aC_35 := a_meth (Sp := []) (hd := aH_35) (mi := xmi_X2_isOf) 16 rfl a_sp_n (by decide +kernel) (by decide +kernel)
/-- X10_isIn@0:0,1:1 -/
def aC_36 : aC := (xi_X10_isIn, 0, [(0, (-2147483648), 2147483647, none, [], []), (0, 0, 0, none, [], []), (0, 1, 1, none, [], [])], [(some (0, 0, 1, none, [((0, 100), 0, 1)], []), [])], [], [])
def aH_36 : List aH := [(0, [(0, (0, (-2147483648), 2147483647, some ((0, 100), 0), [], [])), (1, (0, 0, 0, some ((0, 101), 0), [], [])), (2, (0, 1, 1, some ((0, 102), 0), [], []))], [], [], 0, [])]
theorem as_36 : a_spec a_tb aC_36 := a_meth (Sp := []) (hd := aH_36) (mi := xmi_X10_isIn) 14 rfl a_sp_n (by decide +kernel) (by decide +kernel)
/-- X0_unbeaten -/
def aC_37 : aC := (xi_X0_unbeaten, 0, [(2, 28, 0, none, [], [])], [(some (0, 0, 127, none, [], []), [])], [], [])
def aH_37 : List aH := [(0, [(0, (2, 28, 0, none, [], []))], [], [], 8, []),
  (5, [(0, (2, 28, 0, none, [], [])), (1, (0, 0, 127, some ((0, 1), 0), [], [])), (2, (0, 0, 7, some ((0, 2), 0), [], []))], [], [], 7, [((-1), (0, 2))])]
theorem as_37 : a_spec a_tb aC_37 := a_meth (Sp := []) (hd := aH_37) (mi := xmi_X0_unbeaten) 20 rfl a_sp_n (by decide +kernel) (by decide +kernel)
/-- X10_areOptions -/
def aC_38 : aC := (xi_X10_areOptions, 0, [(2, 39, 0, none, [], []), (0, 1, 7, none, [], [])], [(some (0, 0, 1, none, [], []), [])], [], [])
def aH_38 : List aH := [(0, [(0, (2, 39, 0, none, [], [])), (1, (0, 1, 7, some ((0, 101), 0), [], []))], [], [], 8, []),
  (4, [(0, (2, 39, 0, none, [], [])), (1, (0, 1, 7, some ((0, 101), 0), [], [])), (2, (0, (-2147483648), 2147483647, some ((0, 2), 0), [], [])), (3, (0, 0, 7, some ((0, 3), 0), [], []))], [], [], 7, [((-1), (0, 3))])]
theorem as_38 : a_spec a_tb aC_38 := a_meth (Sp := []) (hd := aH_38) (mi := xmi_X10_areOptions) 36 rfl a_sp_n (by decide +kernel) (by decide +kernel)
/-- X8_at -/
def aC_39 : aC := (xi_X8_at, 0, [(2, 1, 0, none, [], []), (0, 0, 4095, none, [], [])], [(some (0, (-1), 255, none, [], []), [])], [], [])
def aH_39 : List aH := [(0, [(0, (2, 1, 0, none, [], [])), (1, (0, 0, 4095, some ((0, 101), 0), [], []))], [], [((1, 1), (0, 0, 640, some ((2, 1), 0), [], []))], 0, [])]
theorem as_39 : a_spec a_tb aC_39 := a_meth (Sp := []) (hd := aH_39) (mi := xmi_X8_at) 19 rfl a_sp_n (by decide +kernel) (by decide +kernel)
/-- X10_beatsOf -/
def aC_40 : aC := (xi_X10_beatsOf, 0, [(2, 39, 0, none, [], []), (0, 0, 6, none, [], []), (0, 0, 6, none, [], [])], [(some (0, 0, 1, none, [], []), [])], [], [])
def aH_40 : List aH := [(0, [(0, (2, 39, 0, none, [], [])), (1, (0, 0, 6, some ((0, 101), 0), [], [])), (2, (0, 0, 6, some ((0, 102), 0), [], []))], [], [((39, 4), (0, 1, 12, some ((40, 4), 0), [], []))], 13, []),
  (5, [(0, (2, 39, 0, none, [], [])), (1, (0, 0, 6, some ((0, 101), 0), [], [])), (2, (0, 0, 6, some ((0, 102), 0), [], [])), (3, (0, 0, 4095, some ((0, 3), 0), [], [])), (4, (0, 0, 12, some ((0, 4), 0), [], []))], [], [((39, 4), (0, 1, 12, some ((40, 4), 0), [], []))], 12, [((-1), (0, 4))])]
theorem as_40 : a_spec a_tb aC_40 := a_meth (Sp := []) (hd := aH_40) (mi := xmi_X10_beatsOf) 35 rfl a_sp_n (by decide +kernel) (by decide +kernel)
/-- X6_isBlank -/
def aC_41 : aC := (xi_X6_isBlank, 0, [(0, (-1), 255, none, [], [])], [(some (0, 0, 1, none, [((0, 100), 10, 32)], []), [])], [], [])
def aH_41 : List aH := [(0, [(0, (0, (-1), 255, some ((0, 100), 0), [], []))], [], [], 0, [])]
theorem as_41 : a_spec a_tb aC_41 := a_meth (Sp := []) (hd := aH_41) (mi := xmi_X6_isBlank) 14 rfl a_sp_n (by decide +kernel) (by decide +kernel)
/-- X10_isProper -/
def aC_42 : aC := (xi_X10_isProper, 0, [(2, 39, 0, none, [], [])], [(some (0, 0, 1, none, [], []), [])], [], [])
def aH_42 : List aH := [(0, [(0, (2, 39, 0, none, [], []))], [], [((39, 35), (0, 0, 4096, some ((40, 35), 0), [], []))], 4097, []),
  (2, [(0, (2, 39, 0, none, [], [])), (1, (0, 0, 4096, some ((0, 1), 0), [], []))], [], [((39, 35), (0, 0, 4096, some ((40, 35), 0), [], []))], 4096, [((-1), (0, 1))])]
theorem as_42 : a_spec a_tb aC_42 := a_meth (Sp := []) (hd := aH_42) (mi := xmi_X10_isProper) 29 rfl a_sp_n (by decide +kernel) (by decide +kernel)
/-- X10_isStrong -/
def aC_43 : aC := (xi_X10_isStrong, 0, [(2, 39, 0, none, [], [])], [(some (0, 0, 1, none, [], []), [])], [], [])
def aH_43 : List aH := [(0, [(0, (2, 39, 0, none, [], []))], [], [((39, 35), (0, 0, 4096, some ((40, 35), 0), [], []))], 4097, []),
  (2, [(0, (2, 39, 0, none, [], [])), (1, (0, 0, 4096, some ((0, 1), 0), [], []))], [], [((39, 35), (0, 0, 4096, some ((40, 35), 0), [], []))], 4096, [((-1), (0, 1))])]
theorem as_43 : a_spec a_tb aC_43 := a_meth (Sp := []) (hd := aH_43) (mi := xmi_X10_isStrong) 29 rfl a_sp_n (by decide +kernel) (by decide +kernel)
/-- X10_held -/
def aC_44 : aC := (xi_X10_held, 0, [(2, 39, 0, none, [], []), (0, 0, 11, none, [], []), (0, 0, 11, none, [], [])], [(some (0, 0, 3, none, [], []), [])], [], [])
def aH_44 : List aH := [(0, [(0, (2, 39, 0, none, [], [])), (1, (0, 0, 11, some ((0, 101), 0), [], [])), (2, (0, 0, 11, some ((0, 102), 0), [], []))], [], [((39, 35), (0, 0, 4096, some ((40, 35), 0), [], []))], 4097, []),
  (5, [(0, (2, 39, 0, none, [], [])), (1, (0, 0, 11, some ((0, 101), 0), [], [])), (2, (0, 0, 11, some ((0, 102), 0), [], [])), (3, (0, 0, 3, some ((0, 3), 0), [], [])), (4, (0, 0, 4096, some ((0, 4), 0), [], []))], [], [((39, 35), (0, 0, 4096, some ((40, 35), 0), [], []))], 4096, [((-1), (0, 4))])]
theorem as_44 : a_spec a_tb aC_44 := a_meth (Sp := []) (hd := aH_44) (mi := xmi_X10_held) 60 rfl a_sp_n (by decide +kernel) (by decide +kernel)
/-- X10_turnsOf -/
def aC_45 : aC := (xi_X10_turnsOf, 0, [(2, 39, 0, none, [], []), (0, 0, 11, none, [], [])], [(some (0, (-2147483648), 2147483647, none, [], []), [])], [], [])
def aH_45 : List aH := [(0, [(0, (2, 39, 0, none, [], [])), (1, (0, 0, 11, some ((0, 101), 0), [], []))], [], [((39, 35), (0, 0, 4096, some ((40, 35), 0), [], []))], 4097, []),
  (4, [(0, (2, 39, 0, none, [], [])), (1, (0, 0, 11, some ((0, 101), 0), [], [])), (2, (0, (-2147483648), 2147483647, some ((0, 2), 0), [], [])), (3, (0, 0, 4096, some ((0, 3), 0), [], []))], [], [((39, 35), (0, 0, 4096, some ((40, 35), 0), [], []))], 4096, [((-1), (0, 3))])]
theorem as_45 : a_spec a_tb aC_45 := a_meth (Sp := []) (hd := aH_45) (mi := xmi_X10_turnsOf) 33 rfl a_sp_n (by decide +kernel) (by decide +kernel)
/-- X10_shareOfSets -/
def aC_46 : aC := (xi_X10_shareOfSets, 1, [(2, 39, 0, none, [], []), (0, 0, 11, none, [], [])], [(none, [])], [], [])
def aH_46 : List aH := [(0, [(0, (2, 39, 0, none, [], [])), (1, (0, 0, 11, some ((0, 101), 0), [], []))], [], [((39, 4), (0, 1, 12, some ((40, 4), 0), [], []))], 13, []),
  (5, [(0, (2, 39, 0, none, [], [])), (1, (0, 0, 11, some ((0, 101), 0), [], [])), (2, (1, (-9223372036854775808), 9223372036854775807, none, [], [])), (4, (0, 0, 12, some ((0, 4), 0), [], []))], [], [((39, 4), (0, 1, 12, some ((40, 4), 0), [], []))], 12, [((-1), (0, 4))])]
theorem as_46 : a_spec a_tb aC_46 := a_meth (Sp := [aC_45, aC_les]) (hd := aH_46) (mi := xmi_X10_shareOfSets) 22 rfl (a_sp_c as_45 (a_sp_c as_les a_sp_n)) (by decide +kernel) (by decide +kernel)
/-- X10_power -/
def aC_47 : aC := (xi_X10_power, 0, [(1, (-9223372036854775808), 9223372036854775807, none, [], []), (0, (-11), 12, none, [], [])], [(some (1, (-9223372036854775808), 9223372036854775807, none, [], []), [])], [], [])
def aH_47 : List aH := [(0, [(0, (1, (-9223372036854775808), 9223372036854775807, none, [], [])), (2, (0, (-11), 12, some ((0, 102), 0), [], []))], [], [], 13, []),
  (5, [(0, (1, (-9223372036854775808), 9223372036854775807, none, [], [])), (2, (0, (-11), 12, some ((0, 102), 0), [], [])), (3, (1, (-9223372036854775808), 9223372036854775807, none, [], [])), (5, (0, 0, 12, some ((0, 5), 0), [], []))], [], [], 12, [((-1), (0, 5))])]
theorem as_47 : a_spec a_tb aC_47 := a_meth (Sp := []) (hd := aH_47) (mi := xmi_X10_power) 15 rfl a_sp_n (by decide +kernel) (by decide +kernel)
/-- X0_wins@ok -/
def aC_48 : aC := (xi_X0_wins, 0, [(2, 28, 0, none, [], []), (0, 0, 6, none, [], []), (0, 0, 6, none, [], [])], [(some (0, 0, 1, none, [], []), [])], [], [])
def aH_48 : List aH := [(0, [(0, (2, 28, 0, none, [], [])), (1, (0, 0, 6, some ((0, 101), 0), [], [])), (2, (0, 0, 6, some ((0, 102), 0), [], []))], [], [], 0, [])]
theorem as_48 : a_spec a_tb aC_48 := a_meth (Sp := []) (hd := aH_48) (mi := xmi_X0_wins) 17 rfl a_sp_n (by decide +kernel) (by decide +kernel)
/-- X0_stands@ok -/
def aC_49 : aC := (xi_X0_stands, 1, [(2, 28, 0, none, [], []), (0, 0, 6, none, [], []), (0, 0, 6, none, [], [])], [(some (0, 0, 6, none, [], []), [])], [], [])
def aH_49 : List aH := [(0, [(0, (2, 28, 0, none, [], [])), (1, (0, 0, 6, some ((0, 101), 0), [], [])), (2, (0, 0, 6, some ((0, 102), 0), [], []))], [], [], 0, [])]
theorem as_49 : a_spec a_tb aC_49 := a_meth (Sp := [aC_48]) (hd := aH_49) (mi := xmi_X0_stands) 13 rfl (a_sp_c as_48 a_sp_n) (by decide +kernel) (by decide +kernel)
/-- X0_order@r1 -/
def aC_50 : aC := (xi_X0_order, 1, [(2, 28, 0, none, [], []), (0, 0, 11, none, [], []), (2, 1, 0, none, [], [])], [(none, [])], [(28, 1), (30, 0)], [])
def aH_50 : List aH := [(0, [(0, (2, 28, 0, none, [], [])), (1, (0, 0, 11, some ((0, 101), 0), [], [])), (2, (2, 1, 0, none, [], []))], [], [], 16, []),
  (2, [(0, (2, 28, 0, none, [], [])), (1, (0, 0, 11, some ((0, 101), 0), [], [])), (2, (2, 1, 0, none, [], [])), (3, (0, 0, 7, some ((0, 3), 0), [], []))], [], [], 15, [((-2), (0, 3))]),
  (15, [(0, (2, 28, 0, none, [], [])), (1, (0, 0, 11, some ((0, 101), 0), [], [])), (2, (2, 1, 0, none, [], [])), (3, (0, 0, 6, some ((0, 3), 0), [], [])), (4, (0, (-1), 255, some ((0, 4), 0), [], []))], [], [], 14, [((-2), (0, 3))])]
theorem as_50 : a_spec a_tb aC_50 := a_meth (Sp := [aC_39, aC_18]) (hd := aH_50) (mi := xmi_X0_order) 20 rfl (a_sp_c as_39 (a_sp_c as_18 a_sp_n)) (by decide +kernel) (by decide +kernel)
/-- X6_isWord@s2 -/
def aC_51 : aC := (xi_X6_isWord, 5, [(2, 8, 0, none, [], []), (4, 2, 0, none, [], [])], [(some (0, 0, 1, none, [], []), [])], [], [])
def aH_51 : List aH := [(0, [(0, (2, 8, 0, none, [], [])), (1, (4, 2, 0, none, [], []))], [], [((8, 3), (0, (-1), 255, some ((9, 3), 0), [], [])), ((8, 4), (0, 0, 639, some ((9, 4), 0), [], [])), ((8, 5), (0, 0, 640, some ((9, 5), 0), [], []))], 5, []),
  (28, [(0, (2, 8, 0, none, [], [])), (1, (4, 2, 0, none, [], [])), (2, (0, 0, 4, some ((0, 2), 0), [], []))], [], [((8, 3), (0, 2, 2, some ((9, 3), 0), [], [])), ((8, 4), (0, 0, 639, some ((9, 4), 0), [], [])), ((8, 5), (0, 0, 640, some ((9, 5), 0), [], []))], 4, [((-1), (0, 2))])]
theorem as_51 : a_spec a_tb aC_51 := a_meth (Sp := [aC_39]) (hd := aH_51) (mi := xmi_X6_isWord) 23 rfl (a_sp_c as_39 a_sp_n) (by decide +kernel) (by decide +kernel)
/-- X0_waysFrom -/
def aC_52 : aC := (xi_X0_waysFrom, 0, [(2, 28, 0, none, [], []), (0, 0, 127, none, [], []), (0, 0, 6, none, [], [])], [(some (0, (-2147483648), 2147483647, none, [], []), [])], [], [])
def aH_52 : List aH := [(0, [(0, (2, 28, 0, none, [], [])), (1, (0, 0, 127, some ((0, 101), 0), [], [])), (2, (0, 0, 6, some ((0, 102), 0), [], []))], [], [], 0, [])]
theorem as_52 : a_spec a_tb aC_52 := a_meth (Sp := []) (hd := aH_52) (mi := xmi_X0_waysFrom) 14 rfl a_sp_n (by decide +kernel) (by decide +kernel)
/-- X6_isLetter -/
def aC_53 : aC := (xi_X6_isLetter, 0, [(0, (-1), 255, none, [], [])], [(some (0, 0, 1, none, [((0, 100), 97, 122)], []), [])], [], [])
def aH_53 : List aH := [(0, [(0, (0, (-1), 255, some ((0, 100), 0), [], []))], [], [], 0, [])]
theorem as_53 : a_spec a_tb aC_53 := a_meth (Sp := []) (hd := aH_53) (mi := xmi_X6_isLetter) 14 rfl a_sp_n (by decide +kernel) (by decide +kernel)
/-- X10_isLeast -/
def aC_54 : aC := (xi_X10_isLeast, 0, [(2, 39, 0, none, [], []), (0, 0, 4095, none, [], [])], [(some (0, 0, 1, none, [], []), [])], [], [])
def aH_54 : List aH := [(0, [(0, (2, 39, 0, none, [], [])), (1, (0, 0, 4095, some ((0, 101), 0), [], []))], [], [((39, 4), (0, 1, 12, some ((40, 4), 0), [], []))], 13, []),
  (13, [(0, (2, 39, 0, none, [], [])), (1, (0, 0, 4095, some ((0, 101), 0), [], [])), (2, (0, 0, 12, some ((0, 2), 0), [], []))], [], [((39, 4), (0, 1, 12, some ((40, 4), 0), [], []))], 12, [((-1), (0, 2))])]
theorem as_54 : a_spec a_tb aC_54 := a_meth (Sp := []) (hd := aH_54) (mi := xmi_X10_isLeast) 30 rfl a_sp_n (by decide +kernel) (by decide +kernel)
/-- X10_orders -/
def aC_55 : aC := (xi_X10_orders, 0, [(0, (-12), 12, none, [], [])], [(some (1, (-9223372036854775808), 9223372036854775807, none, [], []), [])], [], [])
def aH_55 : List aH := [(0, [(0, (0, (-12), 12, some ((0, 100), 0), [], []))], [], [], 12, []),
  (4, [(0, (0, (-12), 12, some ((0, 100), 0), [], [])), (1, (1, (-9223372036854775808), 9223372036854775807, none, [], [])), (3, (0, 2, 13, some ((0, 3), 0), [], []))], [], [], 13, [((-1), (0, 3))])]
theorem as_55 : a_spec a_tb aC_55 := a_meth (Sp := []) (hd := aH_55) (mi := xmi_X10_orders) 16 rfl a_sp_n (by decide +kernel) (by decide +kernel)
/-- X2_does -/
def aC_56 : aC := (xi_X2_does, 1, [(2, 14, 0, none, [], []), (0, 0, 4095, none, [], []), (0, 0, 1, none, [], [])], [(some (0, 0, 1, none, [], []), [])], [], [])
def aH_56 : List aH := [(0, [(0, (2, 14, 0, none, [], [])), (1, (0, 0, 4095, some ((0, 101), 0), [], [])), (2, (0, 0, 1, some ((0, 102), 0), [], []))], [], [((14, 8), (0, 0, 4095, some ((15, 8), 0), [], []))], 0, [])]
theorem as_56 : a_spec a_tb aC_56 := a_meth (Sp := [aC_27]) (hd := aH_56) (mi := xmi_X2_does) 20 rfl (a_sp_c as_27 a_sp_n) (by decide +kernel) (by decide +kernel)
/-- X10_isIn@-2147483648:2147483647,999:999 -/
def aC_57 : aC := (xi_X10_isIn, 0, [(0, (-2147483648), 2147483647, none, [], []), (0, (-2147483648), 2147483647, none, [], []), (0, 999, 999, none, [], [])], [(some (0, 0, 1, none, [((0, 100), (-2147483648), 999)], []), [])], [], [])
def aH_57 : List aH := [(0, [(0, (0, (-2147483648), 2147483647, some ((0, 100), 0), [], [])), (1, (0, (-2147483648), 2147483647, some ((0, 101), 0), [], [])), (2, (0, 999, 999, some ((0, 102), 0), [], []))], [], [], 0, [])]
theorem as_57 : a_spec a_tb aC_57 := a_meth (Sp := []) (hd := aH_57) (mi := xmi_X10_isIn) 14 rfl a_sp_n (by decide +kernel) (by decide +kernel)
/-- X2_countCarrying -/
def aC_58 : aC := (xi_X2_countCarrying, 1, [(2, 14, 0, none, [], [])], [(some (0, (-2147483648), 2147483647, none, [], []), [])], [], [])
def aH_58 : List aH := [(0, [(0, (2, 14, 0, none, [], []))], [], [((14, 8), (0, 0, 4095, some ((15, 8), 0), [], []))], 4097, []),
  (4, [(0, (2, 14, 0, none, [], [])), (1, (0, (-2147483648), 2147483647, some ((0, 1), 0), [], [])), (2, (0, 0, 4096, some ((0, 2), 0), [], []))], [], [((14, 8), (0, 0, 4095, some ((15, 8), 0), [], []))], 4096, [((-1), (0, 2))])]
theorem as_58 : a_spec a_tb aC_58 := a_meth (Sp := [aC_27]) (hd := aH_58) (mi := xmi_X2_countCarrying) 18 rfl (a_sp_c as_27 a_sp_n) (by decide +kernel) (by decide +kernel)
/-- X2_isProper -/
def aC_59 : aC := (xi_X2_isProper, 1, [(2, 14, 0, none, [], [])], [(some (0, 0, 1, none, [], []), [])], [], [])
def aH_59 : List aH := [(0, [(0, (2, 14, 0, none, [], []))], [], [((14, 8), (0, 0, 4095, some ((15, 8), 0), [], []))], 4097, []),
  (2, [(0, (2, 14, 0, none, [], [])), (1, (0, 0, 4096, some ((0, 1), 0), [], []))], [], [((14, 8), (0, 0, 4095, some ((15, 8), 0), [], []))], 4096, [((-1), (0, 1))])]
theorem as_59 : a_spec a_tb aC_59 := a_meth (Sp := [aC_27]) (hd := aH_59) (mi := xmi_X2_isProper) 27 rfl (a_sp_c as_27 a_sp_n) (by decide +kernel) (by decide +kernel)
end XB1
