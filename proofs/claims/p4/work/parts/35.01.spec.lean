section XB1
/-- X10_isIn@0:0,1:1 -/
def aC_40 : aC := (xi_X10_isIn, 0, [(0, (-2147483648), 2147483647, none, [], []), (0, 0, 0, none, [], []), (0, 1, 1, none, [], [])], some (0, 0, 1, none, [((0, 100), 0, 1)], []), [])
def aH_40 : List aH := [(0, [(0, (0, (-2147483648), 2147483647, some ((0, 100), 0), [], [])), (1, (0, 0, 0, some ((0, 101), 0), [], [])), (2, (0, 1, 1, some ((0, 102), 0), [], []))], [], [], 0, [])]
theorem as_40 : a_spec a_tb aC_40 := a_meth (Sp := []) (hd := aH_40) (mi := xmi_X10_isIn) 14 rfl a_sp_n (by decide +kernel) (by decide +kernel)
/-- X0_unbeaten -/
def aC_41 : aC := (xi_X0_unbeaten, 0, [(2, 28, 0, none, [], [])], some (0, 0, 127, none, [], []), [])
def aH_41 : List aH := [(0, [(0, (2, 28, 0, none, [], []))], [], [], 8, []),
  (5, [(0, (2, 28, 0, none, [], [])), (1, (0, 0, 127, some ((0, 1), 0), [], [])), (2, (0, 0, 7, some ((0, 2), 0), [], []))], [], [], 7, [((-1), (0, 2))])]
theorem as_41 : a_spec a_tb aC_41 := a_meth (Sp := []) (hd := aH_41) (mi := xmi_X0_unbeaten) 20 rfl a_sp_n (by decide +kernel) (by decide +kernel)
/-- X8_at -/
def aC_42 : aC := (xi_X8_at, 0, [(2, 1, 0, none, [], []), (0, 0, 4095, none, [], [])], some (0, (-1), 255, none, [], []), [])
def aH_42 : List aH := [(0, [(0, (2, 1, 0, none, [], [])), (1, (0, 0, 4095, some ((0, 101), 0), [], []))], [], [((1, 1), (0, 0, 640, some ((2, 1), 0), [], []))], 0, [])]
theorem as_42 : a_spec a_tb aC_42 := a_meth (Sp := []) (hd := aH_42) (mi := xmi_X8_at) 19 rfl a_sp_n (by decide +kernel) (by decide +kernel)
/-- X10_isIn@0:65535,999:999 -/
def aC_43 : aC := (xi_X10_isIn, 0, [(0, (-2147483648), 2147483647, none, [], []), (0, 0, 65535, none, [], []), (0, 999, 999, none, [], [])], some (0, 0, 1, none, [((0, 100), 0, 999)], []), [])
def aH_43 : List aH := [(0, [(0, (0, (-2147483648), 2147483647, some ((0, 100), 0), [], [])), (1, (0, 0, 65535, some ((0, 101), 0), [], [])), (2, (0, 999, 999, some ((0, 102), 0), [], []))], [], [], 0, [])]
theorem as_43 : a_spec a_tb aC_43 := a_meth (Sp := []) (hd := aH_43) (mi := xmi_X10_isIn) 14 rfl a_sp_n (by decide +kernel) (by decide +kernel)
/-- X10_beatsOf -/
def aC_44 : aC := (xi_X10_beatsOf, 0, [(2, 39, 0, none, [], []), (0, 0, 6, none, [], []), (0, 0, 6, none, [], [])], some (0, 0, 1, none, [], []), [])
def aH_44 : List aH := [(0, [(0, (2, 39, 0, none, [], [])), (1, (0, 0, 6, some ((0, 101), 0), [], [])), (2, (0, 0, 6, some ((0, 102), 0), [], []))], [], [((39, 4), (0, 1, 12, some ((40, 4), 0), [], []))], 13, []),
  (5, [(0, (2, 39, 0, none, [], [])), (1, (0, 0, 6, some ((0, 101), 0), [], [])), (2, (0, 0, 6, some ((0, 102), 0), [], [])), (3, (0, 0, 4095, some ((0, 3), 0), [], [])), (4, (0, 0, 12, some ((0, 4), 0), [], []))], [], [((39, 4), (0, 1, 12, some ((40, 4), 0), [], []))], 12, [((-1), (0, 4))])]
theorem as_44 : a_spec a_tb aC_44 := a_meth (Sp := []) (hd := aH_44) (mi := xmi_X10_beatsOf) 35 rfl a_sp_n (by decide +kernel) (by decide +kernel)
/-- X6_isBlank -/
def aC_45 : aC := (xi_X6_isBlank, 0, [(0, (-1), 255, none, [], [])], some (0, 0, 1, none, [((0, 100), 10, 32)], []), [])
def aH_45 : List aH := [(0, [(0, (0, (-1), 255, some ((0, 100), 0), [], []))], [], [], 0, [])]
theorem as_45 : a_spec a_tb aC_45 := a_meth (Sp := []) (hd := aH_45) (mi := xmi_X6_isBlank) 14 rfl a_sp_n (by decide +kernel) (by decide +kernel)
/-- X10_isIn@0:1000000,999:999 -/
def aC_46 : aC := (xi_X10_isIn, 0, [(0, (-2147483648), 2147483647, none, [], []), (0, 0, 1000000, none, [], []), (0, 999, 999, none, [], [])], some (0, 0, 1, none, [((0, 100), 0, 999)], []), [])
def aH_46 : List aH := [(0, [(0, (0, (-2147483648), 2147483647, some ((0, 100), 0), [], [])), (1, (0, 0, 1000000, some ((0, 101), 0), [], [])), (2, (0, 999, 999, some ((0, 102), 0), [], []))], [], [], 0, [])]
theorem as_46 : a_spec a_tb aC_46 := a_meth (Sp := []) (hd := aH_46) (mi := xmi_X10_isIn) 14 rfl a_sp_n (by decide +kernel) (by decide +kernel)
/-- X10_isProper -/
def aC_47 : aC := (xi_X10_isProper, 0, [(2, 39, 0, none, [], [])], some (0, 0, 1, none, [], []), [])
def aH_47 : List aH := [(0, [(0, (2, 39, 0, none, [], []))], [], [((39, 35), (0, 0, 4096, some ((40, 35), 0), [], []))], 4097, []),
  (2, [(0, (2, 39, 0, none, [], [])), (1, (0, 0, 4096, some ((0, 1), 0), [], []))], [], [((39, 35), (0, 0, 4096, some ((40, 35), 0), [], []))], 4096, [((-1), (0, 1))])]
theorem as_47 : a_spec a_tb aC_47 := a_meth (Sp := []) (hd := aH_47) (mi := xmi_X10_isProper) 29 rfl a_sp_n (by decide +kernel) (by decide +kernel)
/-- X10_isStrong -/
def aC_48 : aC := (xi_X10_isStrong, 0, [(2, 39, 0, none, [], [])], some (0, 0, 1, none, [], []), [])
def aH_48 : List aH := [(0, [(0, (2, 39, 0, none, [], []))], [], [((39, 35), (0, 0, 4096, some ((40, 35), 0), [], []))], 4097, []),
  (2, [(0, (2, 39, 0, none, [], [])), (1, (0, 0, 4096, some ((0, 1), 0), [], []))], [], [((39, 35), (0, 0, 4096, some ((40, 35), 0), [], []))], 4096, [((-1), (0, 1))])]
theorem as_48 : a_spec a_tb aC_48 := a_meth (Sp := []) (hd := aH_48) (mi := xmi_X10_isStrong) 29 rfl a_sp_n (by decide +kernel) (by decide +kernel)
/-- X10_held -/
def aC_49 : aC := (xi_X10_held, 0, [(2, 39, 0, none, [], []), (0, 0, 11, none, [], []), (0, 0, 11, none, [], [])], some (0, 0, 3, none, [], []), [])
def aH_49 : List aH := [(0, [(0, (2, 39, 0, none, [], [])), (1, (0, 0, 11, some ((0, 101), 0), [], [])), (2, (0, 0, 11, some ((0, 102), 0), [], []))], [], [((39, 35), (0, 0, 4096, some ((40, 35), 0), [], []))], 4097, []),
  (5, [(0, (2, 39, 0, none, [], [])), (1, (0, 0, 11, some ((0, 101), 0), [], [])), (2, (0, 0, 11, some ((0, 102), 0), [], [])), (3, (0, 0, 3, some ((0, 3), 0), [], [])), (4, (0, 0, 4096, some ((0, 4), 0), [], []))], [], [((39, 35), (0, 0, 4096, some ((40, 35), 0), [], []))], 4096, [((-1), (0, 4))])]
theorem as_49 : a_spec a_tb aC_49 := a_meth (Sp := []) (hd := aH_49) (mi := xmi_X10_held) 60 rfl a_sp_n (by decide +kernel) (by decide +kernel)
/-- X10_turnsOf -/
def aC_50 : aC := (xi_X10_turnsOf, 0, [(2, 39, 0, none, [], []), (0, 0, 11, none, [], [])], some (0, (-2147483648), 2147483647, none, [], []), [])
def aH_50 : List aH := [(0, [(0, (2, 39, 0, none, [], [])), (1, (0, 0, 11, some ((0, 101), 0), [], []))], [], [((39, 35), (0, 0, 4096, some ((40, 35), 0), [], []))], 4097, []),
  (4, [(0, (2, 39, 0, none, [], [])), (1, (0, 0, 11, some ((0, 101), 0), [], [])), (2, (0, (-2147483648), 2147483647, some ((0, 2), 0), [], [])), (3, (0, 0, 4096, some ((0, 3), 0), [], []))], [], [((39, 35), (0, 0, 4096, some ((40, 35), 0), [], []))], 4096, [((-1), (0, 3))])]
theorem as_50 : a_spec a_tb aC_50 := a_meth (Sp := []) (hd := aH_50) (mi := xmi_X10_turnsOf) 33 rfl a_sp_n (by decide +kernel) (by decide +kernel)
/-- X10_shareOfSets -/
def aC_51 : aC := (xi_X10_shareOfSets, 1, [(2, 39, 0, none, [], []), (0, 0, 11, none, [], [])], none, [])
def aH_51 : List aH := [(0, [(0, (2, 39, 0, none, [], [])), (1, (0, 0, 11, some ((0, 101), 0), [], []))], [], [((39, 4), (0, 1, 12, some ((40, 4), 0), [], []))], 13, []),
  (5, [(0, (2, 39, 0, none, [], [])), (1, (0, 0, 11, some ((0, 101), 0), [], [])), (2, (1, (-9223372036854775808), 9223372036854775807, none, [], [])), (4, (0, 0, 12, some ((0, 4), 0), [], []))], [], [((39, 4), (0, 1, 12, some ((40, 4), 0), [], []))], 12, [((-1), (0, 4))])]
theorem as_51 : a_spec a_tb aC_51 := a_meth (Sp := [aC_50, aC_les]) (hd := aH_51) (mi := xmi_X10_shareOfSets) 22 rfl (a_sp_c as_50 (a_sp_c as_les a_sp_n)) (by decide +kernel) (by decide +kernel)
/-- X10_power -/
def aC_52 : aC := (xi_X10_power, 0, [(1, (-9223372036854775808), 9223372036854775807, none, [], []), (0, (-11), 12, none, [], [])], some (1, (-9223372036854775808), 9223372036854775807, none, [], []), [])
def aH_52 : List aH := [(0, [(0, (1, (-9223372036854775808), 9223372036854775807, none, [], [])), (2, (0, (-11), 12, some ((0, 102), 0), [], []))], [], [], 13, []),
  (5, [(0, (1, (-9223372036854775808), 9223372036854775807, none, [], [])), (2, (0, (-11), 12, some ((0, 102), 0), [], [])), (3, (1, (-9223372036854775808), 9223372036854775807, none, [], [])), (5, (0, 0, 12, some ((0, 5), 0), [], []))], [], [], 12, [((-1), (0, 5))])]
theorem as_52 : a_spec a_tb aC_52 := a_meth (Sp := []) (hd := aH_52) (mi := xmi_X10_power) 15 rfl a_sp_n (by decide +kernel) (by decide +kernel)
/-- X10_isIn@0:1000000000,999:999 -/
def aC_53 : aC := (xi_X10_isIn, 0, [(0, (-2147483648), 2147483647, none, [], []), (0, 0, 1000000000, none, [], []), (0, 999, 999, none, [], [])], some (0, 0, 1, none, [((0, 100), 0, 999)], []), [])
def aH_53 : List aH := [(0, [(0, (0, (-2147483648), 2147483647, some ((0, 100), 0), [], [])), (1, (0, 0, 1000000000, some ((0, 101), 0), [], [])), (2, (0, 999, 999, some ((0, 102), 0), [], []))], [], [], 0, [])]
theorem as_53 : a_spec a_tb aC_53 := a_meth (Sp := []) (hd := aH_53) (mi := xmi_X10_isIn) 14 rfl a_sp_n (by decide +kernel) (by decide +kernel)
/-- X6_isLetter -/
def aC_54 : aC := (xi_X6_isLetter, 0, [(0, (-1), 255, none, [], [])], some (0, 0, 1, none, [((0, 100), 97, 122)], []), [])
def aH_54 : List aH := [(0, [(0, (0, (-1), 255, some ((0, 100), 0), [], []))], [], [], 0, [])]
theorem as_54 : a_spec a_tb aC_54 := a_meth (Sp := []) (hd := aH_54) (mi := xmi_X6_isLetter) 14 rfl a_sp_n (by decide +kernel) (by decide +kernel)
/-- X10_isLeast -/
def aC_55 : aC := (xi_X10_isLeast, 0, [(2, 39, 0, none, [], []), (0, 0, 4095, none, [], [])], some (0, 0, 1, none, [], []), [])
def aH_55 : List aH := [(0, [(0, (2, 39, 0, none, [], [])), (1, (0, 0, 4095, some ((0, 101), 0), [], []))], [], [((39, 4), (0, 1, 12, some ((40, 4), 0), [], []))], 13, []),
  (13, [(0, (2, 39, 0, none, [], [])), (1, (0, 0, 4095, some ((0, 101), 0), [], [])), (2, (0, 0, 12, some ((0, 2), 0), [], []))], [], [((39, 4), (0, 1, 12, some ((40, 4), 0), [], []))], 12, [((-1), (0, 2))])]
theorem as_55 : a_spec a_tb aC_55 := a_meth (Sp := []) (hd := aH_55) (mi := xmi_X10_isLeast) 30 rfl a_sp_n (by decide +kernel) (by decide +kernel)
/-- X10_orders -/
def aC_56 : aC := (xi_X10_orders, 0, [(0, (-12), 12, none, [], [])], some (1, (-9223372036854775808), 9223372036854775807, none, [], []), [])
def aH_56 : List aH := [(0, [(0, (0, (-12), 12, some ((0, 100), 0), [], []))], [], [], 12, []),
  (4, [(0, (0, (-12), 12, some ((0, 100), 0), [], [])), (1, (1, (-9223372036854775808), 9223372036854775807, none, [], [])), (3, (0, 2, 13, some ((0, 3), 0), [], []))], [], [], 13, [((-1), (0, 3))])]
theorem as_56 : a_spec a_tb aC_56 := a_meth (Sp := []) (hd := aH_56) (mi := xmi_X10_orders) 16 rfl a_sp_n (by decide +kernel) (by decide +kernel)
/-- X2_does -/
def aC_57 : aC := (xi_X2_does, 1, [(2, 14, 0, none, [], []), (0, 0, 4095, none, [], []), (0, 0, 1, none, [], [])], some (0, 0, 1, none, [], []), [])
def aH_57 : List aH := [(0, [(0, (2, 14, 0, none, [], [])), (1, (0, 0, 4095, some ((0, 101), 0), [], [])), (2, (0, 0, 1, some ((0, 102), 0), [], []))], [], [((14, 8), (0, 0, 4095, some ((15, 8), 0), [], []))], 0, [])]
theorem as_57 : a_spec a_tb aC_57 := a_meth (Sp := [aC_28]) (hd := aH_57) (mi := xmi_X2_does) 20 rfl (a_sp_c as_28 a_sp_n) (by decide +kernel) (by decide +kernel)
/-- X10_isIn@-2147483648:2147483647,999:999 -/
def aC_58 : aC := (xi_X10_isIn, 0, [(0, (-2147483648), 2147483647, none, [], []), (0, (-2147483648), 2147483647, none, [], []), (0, 999, 999, none, [], [])], some (0, 0, 1, none, [((0, 100), (-2147483648), 999)], []), [])
def aH_58 : List aH := [(0, [(0, (0, (-2147483648), 2147483647, some ((0, 100), 0), [], [])), (1, (0, (-2147483648), 2147483647, some ((0, 101), 0), [], [])), (2, (0, 999, 999, some ((0, 102), 0), [], []))], [], [], 0, [])]
theorem as_58 : a_spec a_tb aC_58 := a_meth (Sp := []) (hd := aH_58) (mi := xmi_X10_isIn) 14 rfl a_sp_n (by decide +kernel) (by decide +kernel)
/-- X2_countCarrying -/
def aC_59 : aC := (xi_X2_countCarrying, 1, [(2, 14, 0, none, [], [])], some (0, (-2147483648), 2147483647, none, [], []), [])
def aH_59 : List aH := [(0, [(0, (2, 14, 0, none, [], []))], [], [((14, 8), (0, 0, 4095, some ((15, 8), 0), [], []))], 4097, []),
  (4, [(0, (2, 14, 0, none, [], [])), (1, (0, (-2147483648), 2147483647, some ((0, 1), 0), [], [])), (2, (0, 0, 4096, some ((0, 2), 0), [], []))], [], [((14, 8), (0, 0, 4095, some ((15, 8), 0), [], []))], 4096, [((-1), (0, 2))])]
theorem as_59 : a_spec a_tb aC_59 := a_meth (Sp := [aC_28]) (hd := aH_59) (mi := xmi_X2_countCarrying) 18 rfl (a_sp_c as_28 a_sp_n) (by decide +kernel) (by decide +kernel)
/-- X2_isProper -/
def aC_60 : aC := (xi_X2_isProper, 1, [(2, 14, 0, none, [], [])], some (0, 0, 1, none, [], []), [])
def aH_60 : List aH := [(0, [(0, (2, 14, 0, none, [], []))], [], [((14, 8), (0, 0, 4095, some ((15, 8), 0), [], []))], 4097, []),
  (2, [(0, (2, 14, 0, none, [], [])), (1, (0, 0, 4096, some ((0, 1), 0), [], []))], [], [((14, 8), (0, 0, 4095, some ((15, 8), 0), [], []))], 4096, [((-1), (0, 1))])]
theorem as_60 : a_spec a_tb aC_60 := a_meth (Sp := [aC_28]) (hd := aH_60) (mi := xmi_X2_isProper) 27 rfl (a_sp_c as_28 a_sp_n) (by decide +kernel) (by decide +kernel)
/-- X2_isStrong -/
def aC_61 : aC := (xi_X2_isStrong, 1, [(2, 14, 0, none, [], [])], some (0, 0, 1, none, [], []), [])
def aH_61 : List aH := [(0, [(0, (2, 14, 0, none, [], []))], [], [((14, 8), (0, 0, 4095, some ((15, 8), 0), [], []))], 4097, []),
  (2, [(0, (2, 14, 0, none, [], [])), (1, (0, 0, 4096, some ((0, 1), 0), [], []))], [], [((14, 8), (0, 0, 4095, some ((15, 8), 0), [], []))], 4096, [((-1), (0, 1))])]
theorem as_61 : a_spec a_tb aC_61 := a_meth (Sp := [aC_28]) (hd := aH_61) (mi := xmi_X2_isStrong) 27 rfl (a_sp_c as_28 a_sp_n) (by decide +kernel) (by decide +kernel)
/-- X2_compare -/
def aC_62 : aC := (xi_X2_compare, 0, [(2, 14, 0, none, [], []), (0, 0, 11, none, [], []), (0, 0, 11, none, [], [])], some (0, (-1), 2, none, [], []), [])
def aH_62 : List aH := [(0, [(0, (2, 14, 0, none, [], [])), (1, (0, 0, 11, some ((0, 101), 0), [], [])), (2, (0, 0, 11, some ((0, 102), 0), [], []))], [], [], 0, [])]
theorem as_62 : a_spec a_tb aC_62 := a_meth (Sp := []) (hd := aH_62) (mi := xmi_X2_compare) 36 rfl a_sp_n (by decide +kernel) (by decide +kernel)
/-- X6_isDigit -/
def aC_63 : aC := (xi_X6_isDigit, 0, [(0, (-1), 255, none, [], [])], some (0, 0, 1, none, [((0, 100), 48, 57)], []), [])
def aH_63 : List aH := [(0, [(0, (0, (-1), 255, some ((0, 100), 0), [], []))], [], [], 0, [])]
theorem as_63 : a_spec a_tb aC_63 := a_meth (Sp := []) (hd := aH_63) (mi := xmi_X6_isDigit) 14 rfl a_sp_n (by decide +kernel) (by decide +kernel)
/-- X6_takeRun -/
def aC_64 : aC := (xi_X6_takeRun, 1, [(2, 8, 0, none, [], [])], none, [(8, 2), (8, 3), (8, 6)])
def aH_64 : List aH := [(0, [(0, (2, 8, 0, none, [], []))], [], [((1, 1), (0, 0, 640, some ((2, 1), 0), [], [])), ((8, 2), (0, 0, 640, some ((9, 2), 0), [], [])), ((8, 6), (0, (-2147483648), 2147483647, some ((9, 6), 0), [], []))], 641, []),
  (9, [(0, (2, 8, 0, none, [], [])), (1, (0, (-2147483648), 2147483647, some ((0, 1), 0), [], [])), (2, (0, (-2147483648), 2147483647, some ((0, 2), 0), [], []))], [], [((1, 1), (0, 0, 640, some ((2, 1), 0), [], [])), ((8, 2), (0, 0, 640, some ((9, 2), 0), [], [])), ((8, 6), (0, (-2147483648), 2147483647, some ((9, 6), 0), [], []))], 640, [((-1), (9, 2))])]
theorem as_64 : a_spec a_tb aC_64 := a_meth (Sp := [aC_42, aC_54, aC_63]) (hd := aH_64) (mi := xmi_X6_takeRun) 46 rfl (a_sp_c as_42 (a_sp_c as_54 (a_sp_c as_63 a_sp_n))) (by decide +kernel) (by decide +kernel)
/-- X2_power -/
def aC_65 : aC := (xi_X2_power, 0, [(0, 0, 10, none, [], []), (0, (-13), 12, none, [], [])], some (1, (-9223372036854775808), 9223372036854775807, none, [], []), [])
def aH_65 : List aH := [(0, [(0, (0, 0, 10, some ((0, 100), 0), [], [])), (1, (0, (-13), 12, some ((0, 101), 0), [], []))], [], [], 13, []),
  (5, [(0, (0, 0, 10, some ((0, 100), 0), [], [])), (1, (0, (-13), 12, some ((0, 101), 0), [], [])), (2, (1, (-9223372036854775808), 9223372036854775807, none, [], [])), (4, (0, 0, 12, some ((0, 4), 0), [], []))], [], [], 12, [((-1), (0, 4))])]
theorem as_65 : a_spec a_tb aC_65 := a_meth (Sp := []) (hd := aH_65) (mi := xmi_X2_power) 16 rfl a_sp_n (by decide +kernel) (by decide +kernel)
/-- X2_countTogether -/
def aC_66 : aC := (xi_X2_countTogether, 1, [(2, 14, 0, none, [], []), (0, 0, 11, none, [], []), (0, 0, 11, none, [], [])], some (0, (-2147483648), 2147483647, none, [], []), [])
def aH_66 : List aH := [(0, [(0, (2, 14, 0, none, [], [])), (1, (0, 0, 11, some ((0, 101), 0), [], [])), (2, (0, 0, 11, some ((0, 102), 0), [], []))], [], [((14, 8), (0, 0, 4095, some ((15, 8), 0), [], []))], 4097, []),
  (14, [(0, (2, 14, 0, none, [], [])), (1, (0, 0, 11, some ((0, 101), 0), [], [])), (2, (0, 0, 11, some ((0, 102), 0), [], [])), (3, (0, 0, 4095, some ((0, 3), 0), [], [])), (4, (0, (-2147483648), 2147483647, some ((0, 4), 0), [], [])), (5, (0, 0, 4096, some ((0, 5), 0), [], []))], [], [((14, 8), (0, 0, 4095, some ((15, 8), 0), [], []))], 4096, [((-1), (0, 5))])]
theorem as_66 : a_spec a_tb aC_66 := a_meth (Sp := [aC_28]) (hd := aH_66) (mi := xmi_X2_countTogether) 42 rfl (a_sp_c as_28 a_sp_n) (by decide +kernel) (by decide +kernel)
/-- X4_fail -/
def aC_67 : aC := (xi_X4_fail, 0, [(2, 3, 0, none, [], []), (0, 1, 4, none, [], []), (0, 0, 639, none, [], [])], some (0, 0, 0, none, [], []), [(3, 8), (3, 9)])
def aH_67 : List aH := [(0, [(0, (2, 3, 0, none, [], [])), (1, (0, 1, 4, some ((0, 101), 0), [], [])), (2, (0, 0, 639, some ((0, 102), 0), [], []))], [], [], 0, [])]
theorem as_67 : a_spec a_tb aC_67 := a_meth (Sp := []) (hd := aH_67) (mi := xmi_X4_fail) 13 rfl a_sp_n (by decide +kernel) (by decide +kernel)
/-- X2_turnsBy -/
def aC_68 : aC := (xi_X2_turnsBy, 1, [(2, 14, 0, none, [], []), (0, 0, 4095, none, [], []), (0, 0, 11, none, [], [])], some (0, 0, 1, none, [], []), [])
def aH_68 : List aH := [(0, [(0, (2, 14, 0, none, [], [])), (1, (0, 0, 4095, some ((0, 101), 0), [], [])), (2, (0, 0, 11, some ((0, 102), 0), [], []))], [], [], 0, [])]
theorem as_68 : a_spec a_tb aC_68 := a_meth (Sp := [aC_28]) (hd := aH_68) (mi := xmi_X2_turnsBy) 28 rfl (a_sp_c as_28 a_sp_n) (by decide +kernel) (by decide +kernel)
/-- X6_isSign -/
def aC_69 : aC := (xi_X6_isSign, 0, [(0, (-1), 255, none, [], [])], some (0, 0, 1, none, [((0, 100), 40, 93)], []), [])
def aH_69 : List aH := [(0, [(0, (0, (-1), 255, some ((0, 100), 0), [], []))], [], [], 0, [])]
theorem as_69 : a_spec a_tb aC_69 := a_meth (Sp := []) (hd := aH_69) (mi := xmi_X6_isSign) 29 rfl a_sp_n (by decide +kernel) (by decide +kernel)
/-- X10_isLetter -/
def aC_70 : aC := (xi_X10_isLetter, 0, [(0, 0, 255, none, [], [])], some (0, 0, 1, none, [((0, 100), 97, 122)], []), [])
def aH_70 : List aH := [(0, [(0, (0, 0, 255, some ((0, 100), 0), [], []))], [], [], 0, [])]
theorem as_70 : a_spec a_tb aC_70 := a_meth (Sp := []) (hd := aH_70) (mi := xmi_X10_isLetter) 14 rfl a_sp_n (by decide +kernel) (by decide +kernel)
/-- X10_isDigit -/
def aC_71 : aC := (xi_X10_isDigit, 0, [(0, 0, 255, none, [], [])], some (0, 0, 1, none, [((0, 100), 48, 57)], []), [])
def aH_71 : List aH := [(0, [(0, (0, 0, 255, some ((0, 100), 0), [], []))], [], [], 0, [])]
theorem as_71 : a_spec a_tb aC_71 := a_meth (Sp := []) (hd := aH_71) (mi := xmi_X10_isDigit) 14 rfl a_sp_n (by decide +kernel) (by decide +kernel)
/-- X10_byteAt -/
def aC_72 : aC := (xi_X10_byteAt, 0, [(2, 39, 0, none, [], []), (0, 0, 640, none, [], [])], some (0, 0, 255, none, [], []), [])
def aH_72 : List aH := [(0, [(0, (2, 39, 0, none, [], [])), (1, (0, 0, 640, some ((0, 101), 0), [], []))], [], [((39, 6), (0, 0, 640, some ((40, 6), 0), [], []))], 0, [])]
theorem as_72 : a_spec a_tb aC_72 := a_meth (Sp := []) (hd := aH_72) (mi := xmi_X10_byteAt) 15 rfl a_sp_n (by decide +kernel) (by decide +kernel)
/-- X10_spelt -/
def aC_73 : aC := (xi_X10_spelt, 0, [(0, 97, 111, none, [], []), (0, 97, 114, none, [], []), (0, 0, 114, none, [], []), (0, 0, 121, none, [], []), (0, 0, 121, none, [], [])], some (1, (-9223372036854775808), 9223372036854775807, none, [], []), [])
def aH_73 : List aH := [(0, [(0, (0, 97, 111, some ((0, 100), 0), [], [])), (1, (0, 97, 114, some ((0, 101), 0), [], [])), (2, (0, 0, 114, some ((0, 102), 0), [], [])), (3, (0, 0, 121, some ((0, 103), 0), [], [])), (4, (0, 0, 121, some ((0, 104), 0), [], []))], [], [], 0, [])]
theorem as_73 : a_spec a_tb aC_73 := a_meth (Sp := []) (hd := aH_73) (mi := xmi_X10_spelt) 51 rfl a_sp_n (by decide +kernel) (by decide +kernel)
/-- X10_mayBe -/
def aC_74 : aC := (xi_X10_mayBe, 0, [(2, 39, 0, none, [], []), (0, 0, 11, none, [], []), (0, 0, 99, none, [], [])], some (0, 0, 1, none, [], [((0, 101), 1, 11)]), [])
def aH_74 : List aH := [(0, [(0, (2, 39, 0, none, [], [])), (1, (0, 0, 11, some ((0, 101), 0), [], [])), (2, (0, 0, 99, some ((0, 102), 0), [], []))], [], [], 12, []),
  (2, [(0, (2, 39, 0, none, [], [])), (1, (0, 0, 11, some ((0, 101), 0), [], [])), (2, (0, 0, 99, some ((0, 102), 0), [], [])), (3, (0, 0, 11, some ((0, 3), 0), [], []))], [], [], 11, [((-1), (0, 3))])]
theorem as_74 : a_spec a_tb aC_74 := a_meth (Sp := []) (hd := aH_74) (mi := xmi_X10_mayBe) 41 rfl a_sp_n (by decide +kernel) (by decide +kernel)
/-- X2_markNeeded -/
def aC_75 : aC := (xi_X2_markNeeded, 0, [(2, 14, 0, none, [], [])], none, [(14, 11), (14, 12)])
def aH_75 : List aH := [(0, [(0, (2, 14, 0, none, [], []))], [], [((14, 8), (0, 0, 4095, some ((15, 8), 0), [], [])), ((14, 9), (0, (-2147483648), 924, some ((15, 9), 0), [], [])), ((14, 11), (0, 0, 4095, some ((15, 11), 0), [], [])), ((14, 12), (0, 0, 4095, some ((15, 12), 0), [], []))], 925, []),
  (29, [(0, (2, 14, 0, none, [], [])), (1, (0, 0, 924, some ((0, 1), 0), [], []))], [], [((14, 8), (0, 0, 4095, some ((15, 8), 0), [], [])), ((14, 9), (0, (-2147483648), 924, some ((15, 9), 0), [], [])), ((14, 11), (0, 0, 4095, some ((15, 11), 0), [], [])), ((14, 12), (0, 0, 4095, some ((15, 12), 0), [], []))], 924, [((-1), (0, 1))])]
theorem as_75 : a_spec a_tb aC_75 := a_meth (Sp := []) (hd := aH_75) (mi := xmi_X2_markNeeded) 32 rfl a_sp_n (by decide +kernel) (by decide +kernel)
/-- X10_isMark -/
def aC_76 : aC := (xi_X10_isMark, 0, [(0, 0, 255, none, [], [])], some (0, 0, 1, none, [((0, 100), 40, 93)], []), [])
def aH_76 : List aH := [(0, [(0, (0, 0, 255, some ((0, 100), 0), [], []))], [], [], 0, [])]
theorem as_76 : a_spec a_tb aC_76 := a_meth (Sp := []) (hd := aH_76) (mi := xmi_X10_isMark) 29 rfl a_sp_n (by decide +kernel) (by decide +kernel)
/-- X10_isKey -/
def aC_77 : aC := (xi_X10_isKey, 0, [(2, 39, 0, none, [], []), (1, (-9223372036854775808), 9223372036854775807, none, [], [])], some (0, 0, 1, none, [], []), [])
def aH_77 : List aH := [(0, [(0, (2, 39, 0, none, [], [])), (1, (1, (-9223372036854775808), 9223372036854775807, none, [], []))], [], [((39, 9), (0, 0, 4, some ((40, 9), 0), [], []))], 0, [])]
theorem as_77 : a_spec a_tb aC_77 := a_meth (Sp := []) (hd := aH_77) (mi := xmi_X10_isKey) 17 rfl a_sp_n (by decide +kernel) (by decide +kernel)
/-- X4_countOne -/
def aC_78 : aC := (xi_X4_countOne, 1, [(2, 3, 0, none, [], []), (0, 0, 639, none, [], [])], some (0, 0, 1, none, [], []), [(3, 5), (3, 8), (3, 9)])
def aH_78 : List aH := [(0, [(0, (2, 3, 0, none, [], [])), (1, (0, 0, 639, some ((0, 101), 0), [], []))], [], [((3, 5), (0, (-2147483648), 2147483647, some ((4, 5), 0), [], []))], 0, [])]
theorem as_78 : a_spec a_tb aC_78 := a_meth (Sp := [aC_67]) (hd := aH_78) (mi := xmi_X4_countOne) 22 rfl (a_sp_c as_67 a_sp_n) (by decide +kernel) (by decide +kernel)
/-- X6_isLone -/
def aC_79 : aC := (xi_X6_isLone, 0, [(2, 8, 0, none, [], [])], some (0, 0, 1, none, [], []), [])
def aH_79 : List aH := [(0, [(0, (2, 8, 0, none, [], []))], [], [((8, 3), (0, (-1), 255, some ((9, 3), 0), [], [])), ((8, 4), (0, 0, 639, some ((9, 4), 0), [], [])), ((8, 5), (0, 0, 640, some ((9, 5), 0), [], []))], 0, [])]
theorem as_79 : a_spec a_tb aC_79 := a_meth (Sp := []) (hd := aH_79) (mi := xmi_X6_isLone) 19 rfl a_sp_n (by decide +kernel) (by decide +kernel)
end XB1
