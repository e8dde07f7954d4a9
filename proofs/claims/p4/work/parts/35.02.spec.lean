section XB1
/-- X5_isFirst -/
def aC_80 : aC := (xi_X5_isFirst, 1, [(2, 21, 0, none, [], []), (0, 0, 11, none, [], [])], some (0, 0, 1, none, [], [((0, 101), 1, 11)]), [])
def aH_80 : List aH := [(0, [(0, (2, 21, 0, none, [], [])), (1, (0, 0, 11, some ((0, 101), 0), [], []))], [], [], 12, []),
  (2, [(0, (2, 21, 0, none, [], [])), (1, (0, 0, 11, some ((0, 101), 0), [], [])), (2, (0, 0, 11, some ((0, 2), 0), [], []))], [], [], 11, [((-1), (0, 2))])]
theorem as_80 : a_spec a_tb aC_80 := a_meth (Sp := [aC_62]) (hd := aH_80) (mi := xmi_X5_isFirst) 17 rfl (a_sp_c as_62 a_sp_n) (by decide +kernel) (by decide +kernel)
/-- X2_countSwings -/
def aC_81 : aC := (xi_X2_countSwings, 2, [(2, 14, 0, none, [], []), (0, 0, 11, none, [], [])], some (0, (-2147483648), 2147483647, none, [], []), [])
def aH_81 : List aH := [(0, [(0, (2, 14, 0, none, [], [])), (1, (0, 0, 11, some ((0, 101), 0), [], []))], [], [((14, 8), (0, 0, 4095, some ((15, 8), 0), [], []))], 4097, []),
  (4, [(0, (2, 14, 0, none, [], [])), (1, (0, 0, 11, some ((0, 101), 0), [], [])), (2, (0, (-2147483648), 2147483647, some ((0, 2), 0), [], [])), (3, (0, 0, 4096, some ((0, 3), 0), [], []))], [], [((14, 8), (0, 0, 4095, some ((15, 8), 0), [], []))], 4096, [((-1), (0, 3))])]
theorem as_81 : a_spec a_tb aC_81 := a_meth (Sp := [aC_68]) (hd := aH_81) (mi := xmi_X2_countSwings) 18 rfl (a_sp_c as_68 a_sp_n) (by decide +kernel) (by decide +kernel)
/-- X10_isCarry -/
def aC_82 : aC := (xi_X10_isCarry, 1, [(2, 39, 0, none, [], [])], some (0, 0, 1, none, [], []), [])
def aH_82 : List aH := [(0, [(0, (2, 39, 0, none, [], []))], [], [], 0, [])]
theorem as_82 : a_spec a_tb aC_82 := a_meth (Sp := [aC_73, aC_77]) (hd := aH_82) (mi := xmi_X10_isCarry) 14 rfl (a_sp_c as_73 (a_sp_c as_77 a_sp_n)) (by decide +kernel) (by decide +kernel)
/-- X5_strengthOf -/
def aC_83 : aC := (xi_X5_strengthOf, 1, [(2, 21, 0, none, [], []), (0, 0, 11, none, [], [])], some (0, (-2147483648), 2147483647, none, [], []), [])
def aH_83 : List aH := [(0, [(0, (2, 21, 0, none, [], [])), (1, (0, 0, 11, some ((0, 101), 0), [], []))], [], [((21, 8), (0, 0, 12, some ((22, 8), 0), [], []))], 13, []),
  (4, [(0, (2, 21, 0, none, [], [])), (1, (0, 0, 11, some ((0, 101), 0), [], [])), (2, (0, (-2147483648), 2147483647, some ((0, 2), 0), [], [])), (3, (0, 0, 12, some ((0, 3), 0), [], []))], [], [((21, 8), (0, 0, 12, some ((22, 8), 0), [], []))], 12, [((-1), (0, 3))])]
theorem as_83 : a_spec a_tb aC_83 := a_meth (Sp := [aC_62]) (hd := aH_83) (mi := xmi_X5_strengthOf) 23 rfl (a_sp_c as_62 a_sp_n) (by decide +kernel) (by decide +kernel)
/-- X6_letter -/
def aC_84 : aC := (xi_X6_letter, 1, [(2, 8, 0, none, [], [])], some (0, (-98), 158, none, [], []), [])
def aH_84 : List aH := [(0, [(0, (2, 8, 0, none, [], []))], [], [((8, 4), (0, 0, 639, some ((9, 4), 0), [], []))], 0, [])]
theorem as_84 : a_spec a_tb aC_84 := a_meth (Sp := [aC_42]) (hd := aH_84) (mi := xmi_X6_letter) 13 rfl (a_sp_c as_42 a_sp_n) (by decide +kernel) (by decide +kernel)
/-- X3_peek -/
def aC_85 : aC := (xi_X3_peek, 0, [(2, 4, 0, none, [], []), (0, (-2147483648), 2147483647, none, [], [])], some (0, (-2147483648), 2147483647, none, [], []), [])
def aH_85 : List aH := [(0, [(0, (2, 4, 0, none, [], [])), (1, (0, (-2147483648), 2147483647, some ((0, 101), 0), [], []))], [], [], 0, [])]
theorem as_85 : a_spec a_tb aC_85 := a_meth (Sp := []) (hd := aH_85) (mi := xmi_X3_peek) 18 rfl a_sp_n (by decide +kernel) (by decide +kernel)
/-- X3_add -/
def aC_86 : aC := (xi_X3_add, 0, [(2, 4, 0, none, [], []), (0, 0, 7, none, [], []), (0, (-2147483648), 2147483647, none, [], [])], none, [(4, 3)])
def aH_86 : List aH := [(0, [(0, (2, 4, 0, none, [], [])), (1, (0, 0, 7, some ((0, 101), 0), [], [])), (2, (0, (-2147483648), 2147483647, some ((0, 102), 0), [], []))], [], [((4, 3), (0, 0, 400, some ((5, 3), 0), [], []))], 0, [])]
theorem as_86 : a_spec a_tb aC_86 := a_meth (Sp := []) (hd := aH_86) (mi := xmi_X3_add) 28 rfl a_sp_n (by decide +kernel) (by decide +kernel)
/-- X10_bad -/
def aC_87 : aC := (xi_X10_bad, 0, [(2, 39, 0, none, [], []), (0, 1, 4, none, [], [])], some (0, 0, 0, none, [], []), [(39, 13), (39, 14)])
def aH_87 : List aH := [(0, [(0, (2, 39, 0, none, [], [])), (1, (0, 1, 4, some ((0, 101), 0), [], []))], [], [((39, 8), (0, 0, 640, some ((40, 8), 0), [], [])), ((39, 9), (0, 0, 4, some ((40, 9), 0), [], []))], 0, [])]
theorem as_87 : a_spec a_tb aC_87 := a_meth (Sp := []) (hd := aH_87) (mi := xmi_X10_bad) 19 rfl a_sp_n (by decide +kernel) (by decide +kernel)
/-- X2_isAtLeast -/
def aC_88 : aC := (xi_X2_isAtLeast, 1, [(2, 14, 0, none, [], []), (0, 0, 11, none, [], []), (0, 0, 11, none, [], [])], some (0, 0, 1, none, [], []), [])
def aH_88 : List aH := [(0, [(0, (2, 14, 0, none, [], [])), (1, (0, 0, 11, some ((0, 101), 0), [], [])), (2, (0, 0, 11, some ((0, 102), 0), [], []))], [], [((14, 8), (0, 0, 4095, some ((15, 8), 0), [], []))], 4097, []),
  (11, [(0, (2, 14, 0, none, [], [])), (1, (0, 0, 11, some ((0, 101), 0), [], [])), (2, (0, 0, 11, some ((0, 102), 0), [], [])), (3, (0, 0, 4095, some ((0, 3), 0), [], [])), (4, (0, 0, 4096, some ((0, 4), 0), [], []))], [], [((14, 8), (0, 0, 4095, some ((15, 8), 0), [], []))], 4096, [((-1), (0, 4))])]
theorem as_88 : a_spec a_tb aC_88 := a_meth (Sp := [aC_28]) (hd := aH_88) (mi := xmi_X2_isAtLeast) 34 rfl (a_sp_c as_28 a_sp_n) (by decide +kernel) (by decide +kernel)
/-- X10_isAnd -/
def aC_89 : aC := (xi_X10_isAnd, 1, [(2, 39, 0, none, [], [])], some (0, 0, 1, none, [], []), [])
def aH_89 : List aH := [(0, [(0, (2, 39, 0, none, [], []))], [], [], 0, [])]
theorem as_89 : a_spec a_tb aC_89 := a_meth (Sp := [aC_73, aC_77]) (hd := aH_89) (mi := xmi_X10_isAnd) 14 rfl (a_sp_c as_73 (a_sp_c as_77 a_sp_n)) (by decide +kernel) (by decide +kernel)
/-- X5_weightOf -/
def aC_90 : aC := (xi_X5_weightOf, 0, [(2, 21, 0, none, [], []), (0, 0, 4095, none, [], [])], some (0, (-2147483648), 2147483647, none, [], []), [])
def aH_90 : List aH := [(0, [(0, (2, 21, 0, none, [], [])), (1, (0, 0, 4095, some ((0, 101), 0), [], []))], [], [((14, 7), (0, 0, 12, some ((15, 7), 0), [], []))], 13, []),
  (4, [(0, (2, 21, 0, none, [], [])), (1, (0, 0, 4095, some ((0, 101), 0), [], [])), (2, (0, (-2147483648), 2147483647, some ((0, 2), 0), [], [])), (3, (0, 0, 12, some ((0, 3), 0), [], []))], [], [((14, 7), (0, 0, 12, some ((15, 7), 0), [], []))], 12, [((-1), (0, 3))])]
theorem as_90 : a_spec a_tb aC_90 := a_meth (Sp := []) (hd := aH_90) (mi := xmi_X5_weightOf) 26 rfl a_sp_n (by decide +kernel) (by decide +kernel)
/-- X3_push -/
def aC_91 : aC := (xi_X3_push, 0, [(2, 4, 0, none, [], []), (0, (-2147483648), 2147483647, none, [], []), (0, 0, 1, none, [], [])], some (0, (-2147483648), 2147483647, none, [], []), [])
def aH_91 : List aH := [(0, [(0, (2, 4, 0, none, [], [])), (1, (0, (-2147483648), 2147483647, some ((0, 101), 0), [], [])), (2, (0, 0, 1, some ((0, 102), 0), [], []))], [], [], 0, [])]
theorem as_91 : a_spec a_tb aC_91 := a_meth (Sp := []) (hd := aH_91) (mi := xmi_X3_push) 19 rfl a_sp_n (by decide +kernel) (by decide +kernel)
/-- X3_join -/
def aC_92 : aC := (xi_X3_join, 0, [(0, 2, 6, none, [], []), (0, (-2147483648), 2147483647, none, [], []), (0, (-2147483648), 2147483647, none, [], []), (0, (-2147483648), 2147483647, none, [], [])], some (0, (-2147483648), 2147483647, none, [], []), [])
def aH_92 : List aH := [(0, [(0, (0, 2, 6, some ((0, 100), 0), [], [])), (1, (0, (-2147483648), 2147483647, some ((0, 101), 0), [], [])), (2, (0, (-2147483648), 2147483647, some ((0, 102), 0), [], [])), (3, (0, (-2147483648), 2147483647, some ((0, 103), 0), [], []))], [], [], 0, [])]
theorem as_92 : a_spec a_tb aC_92 := a_meth (Sp := []) (hd := aH_92) (mi := xmi_X3_join) 17 rfl a_sp_n (by decide +kernel) (by decide +kernel)
/-- X5_leastRest -/
def aC_93 : aC := (xi_X5_leastRest, 0, [(2, 21, 0, none, [], [])], some (0, (-2147483648), 2147483647, none, [], []), [])
def aH_93 : List aH := [(0, [(0, (2, 21, 0, none, [], []))], [], [((21, 8), (0, 0, 12, some ((22, 8), 0), [], []))], 13, []),
  (6, [(0, (2, 21, 0, none, [], [])), (1, (0, (-2147483648), 2147483647, some ((0, 1), 0), [], [])), (2, (0, (-2147483648), 2147483647, some ((0, 2), 0), [], [])), (3, (0, 0, 12, some ((0, 3), 0), [], []))], [], [((21, 8), (0, 0, 12, some ((22, 8), 0), [], []))], 12, [((-1), (0, 3))])]
theorem as_93 : a_spec a_tb aC_93 := a_meth (Sp := []) (hd := aH_93) (mi := xmi_X5_leastRest) 28 rfl a_sp_n (by decide +kernel) (by decide +kernel)
/-- X10_isOr -/
def aC_94 : aC := (xi_X10_isOr, 1, [(2, 39, 0, none, [], [])], some (0, 0, 1, none, [], []), [])
def aH_94 : List aH := [(0, [(0, (2, 39, 0, none, [], []))], [], [], 0, [])]
theorem as_94 : a_spec a_tb aC_94 := a_meth (Sp := [aC_73, aC_77]) (hd := aH_94) (mi := xmi_X10_isOr) 14 rfl (a_sp_c as_73 (a_sp_c as_77 a_sp_n)) (by decide +kernel) (by decide +kernel)
/-- X5_lightest@r15 -/
def aC_95 : aC := (xi_X5_lightest, 1, [(2, 21, 0, none, [], []), (2, 15, 0, none, [], []), (0, (-2147483648), 924, none, [], [])], some (0, 0, 4095, none, [], []), [])
def aH_95 : List aH := [(0, [(0, (2, 21, 0, none, [], [])), (1, (2, 15, 0, none, [], [])), (2, (0, (-2147483648), 924, some ((0, 102), 0), [], []))], [], [], 924, []),
  (14, [(0, (2, 21, 0, none, [], [])), (1, (2, 15, 0, none, [], [])), (2, (0, (-2147483648), 924, some ((0, 102), 0), [], [])), (3, (0, 0, 4095, some ((0, 3), 0), [], [])), (4, (0, (-2147483648), 2147483647, some ((0, 4), 0), [], [])), (5, (0, 1, 924, some ((0, 5), 0), [], []))], [], [], 924, [((-1), (0, 5))])]
theorem as_95 : a_spec a_tb aC_95 := a_meth (Sp := [aC_90]) (hd := aH_95) (mi := xmi_X5_lightest) 26 rfl (a_sp_c as_90 a_sp_n) (by decide +kernel) (by decide +kernel)
/-- X3_replace -/
def aC_96 : aC := (xi_X3_replace, 0, [(2, 4, 0, none, [], []), (0, (-2147483648), 2147483647, none, [], []), (0, (-2147483648), 2147483647, none, [], [])], none, [])
def aH_96 : List aH := [(0, [(0, (2, 4, 0, none, [], [])), (1, (0, (-2147483648), 2147483647, some ((0, 101), 0), [], [])), (2, (0, (-2147483648), 2147483647, some ((0, 102), 0), [], []))], [], [], 0, [])]
theorem as_96 : a_spec a_tb aC_96 := a_meth (Sp := []) (hd := aH_96) (mi := xmi_X3_replace) 18 rfl a_sp_n (by decide +kernel) (by decide +kernel)
/-- X5_mostRest -/
def aC_97 : aC := (xi_X5_mostRest, 0, [(2, 21, 0, none, [], [])], some (0, (-2147483648), 2147483647, none, [], []), [])
def aH_97 : List aH := [(0, [(0, (2, 21, 0, none, [], []))], [], [((21, 8), (0, 0, 12, some ((22, 8), 0), [], []))], 13, []),
  (11, [(0, (2, 21, 0, none, [], [])), (1, (0, (-2147483648), 2147483647, some ((0, 1), 0), [], [])), (2, (0, (-2147483648), 2147483647, some ((0, 2), 0), [], [])), (3, (0, (-1), 11, some ((0, 3), 0), [], []))], [], [((21, 8), (0, 0, 12, some ((22, 8), 0), [], []))], 1, [(1, (0, 3))])]
theorem as_97 : a_spec a_tb aC_97 := a_meth (Sp := []) (hd := aH_97) (mi := xmi_X5_mostRest) 29 rfl a_sp_n (by decide +kernel) (by decide +kernel)
/-- X10_isOf -/
def aC_98 : aC := (xi_X10_isOf, 1, [(2, 39, 0, none, [], [])], some (0, 0, 1, none, [], []), [])
def aH_98 : List aH := [(0, [(0, (2, 39, 0, none, [], []))], [], [], 0, [])]
theorem as_98 : a_spec a_tb aC_98 := a_meth (Sp := [aC_73, aC_77]) (hd := aH_98) (mi := xmi_X10_isOf) 14 rfl (a_sp_c as_73 (a_sp_c as_77 a_sp_n)) (by decide +kernel) (by decide +kernel)
/-- X5_lightest@r16 -/
def aC_99 : aC := (xi_X5_lightest, 1, [(2, 21, 0, none, [], []), (2, 16, 0, none, [], []), (0, (-2147483648), 924, none, [], [])], some (0, 0, 4095, none, [], []), [])
def aH_99 : List aH := [(0, [(0, (2, 21, 0, none, [], [])), (1, (2, 16, 0, none, [], [])), (2, (0, (-2147483648), 924, some ((0, 102), 0), [], []))], [], [], 924, []),
  (14, [(0, (2, 21, 0, none, [], [])), (1, (2, 16, 0, none, [], [])), (2, (0, (-2147483648), 924, some ((0, 102), 0), [], [])), (3, (0, 0, 4095, some ((0, 3), 0), [], [])), (4, (0, (-2147483648), 2147483647, some ((0, 4), 0), [], [])), (5, (0, 1, 924, some ((0, 5), 0), [], []))], [], [], 924, [((-1), (0, 5))])]
theorem as_99 : a_spec a_tb aC_99 := a_meth (Sp := [aC_90]) (hd := aH_99) (mi := xmi_X5_lightest) 26 rfl (a_sp_c as_90 a_sp_n) (by decide +kernel) (by decide +kernel)
/-- X10_isSign -/
def aC_100 : aC := (xi_X10_isSign, 0, [(2, 39, 0, none, [], []), (0, 40, 93, none, [], [])], some (0, 0, 1, none, [], []), [])
def aH_100 : List aH := [(0, [(0, (2, 39, 0, none, [], [])), (1, (0, 40, 93, some ((0, 101), 0), [], []))], [], [((39, 9), (0, 0, 4, some ((40, 9), 0), [], [])), ((39, 11), (0, 0, 255, some ((40, 11), 0), [], []))], 0, [])]
theorem as_100 : a_spec a_tb aC_100 := a_meth (Sp := []) (hd := aH_100) (mi := xmi_X10_isSign) 16 rfl a_sp_n (by decide +kernel) (by decide +kernel)
/-- X6_isLike -/
def aC_101 : aC := (xi_X6_isLike, 1, [(2, 8, 0, none, [], []), (0, 0, 639, none, [], []), (0, 0, 640, none, [], [])], some (0, 0, 1, none, [], []), [])
def aH_101 : List aH := [(0, [(0, (2, 8, 0, none, [], [])), (1, (0, 0, 639, some ((0, 101), 0), [], [])), (2, (0, 0, 640, some ((0, 102), 0), [], []))], [], [((8, 4), (0, 0, 639, some ((9, 4), 0), [], [])), ((8, 5), (0, 0, 640, some ((9, 5), 0), [], []))], 641, []),
  (19, [(0, (2, 8, 0, none, [], [])), (1, (0, 0, 639, some ((0, 101), 0), [], [])), (2, (0, 0, 640, some ((0, 102), 0), [], [])), (3, (0, 0, 640, some ((0, 3), 0), [], []))], [], [((8, 4), (0, 0, 639, some ((9, 4), 0), [], [])), ((8, 5), (0, 0, 640, some ((9, 5), 0), [], []))], 640, [((-1), (0, 3))])]
theorem as_101 : a_spec a_tb aC_101 := a_meth (Sp := [aC_42]) (hd := aH_101) (mi := xmi_X6_isLike) 27 rfl (a_sp_c as_42 a_sp_n) (by decide +kernel) (by decide +kernel)
/-- X10_nameAtHand -/
def aC_102 : aC := (xi_X10_nameAtHand, 0, [(2, 39, 0, none, [], [])], some (0, (-1), 15, none, [], []), [])
def aH_102 : List aH := [(0, [(0, (2, 39, 0, none, [], []))], [], [((39, 26), (0, 0, 16, some ((40, 26), 0), [], []))], 17, []),
  (2, [(0, (2, 39, 0, none, [], [])), (1, (0, 0, 16, some ((0, 1), 0), [], []))], [], [((39, 26), (0, 0, 16, some ((40, 26), 0), [], []))], 16, [((-1), (0, 1))])]
theorem as_102 : a_spec a_tb aC_102 := a_meth (Sp := []) (hd := aH_102) (mi := xmi_X10_nameAtHand) 20 rfl a_sp_n (by decide +kernel) (by decide +kernel)
/-- X6_isCut -/
def aC_103 : aC := (xi_X6_isCut, 0, [(2, 8, 0, none, [], [])], some (0, 0, 1, none, [], []), [])
def aH_103 : List aH := [(0, [(0, (2, 8, 0, none, [], []))], [], [((1, 1), (0, 0, 640, some ((2, 1), 0), [], []))], 0, [])]
theorem as_103 : a_spec a_tb aC_103 := a_meth (Sp := []) (hd := aH_103) (mi := xmi_X6_isCut) 13 rfl a_sp_n (by decide +kernel) (by decide +kernel)
/-- X5_tell -/
def aC_104 : aC := (xi_X5_tell, 1, [(2, 21, 0, none, [], [])], none, [(21, 1)])
def aH_104 : List aH := [(0, [(0, (2, 21, 0, none, [], []))], [], [((14, 7), (0, 0, 12, some ((15, 7), 0), [], [])), ((21, 12), (0, 0, 4095, some ((22, 12), 0), [], []))], 13, []),
  (2, [(0, (2, 21, 0, none, [], [])), (1, (0, 0, 12, some ((0, 1), 0), [], []))], [], [((14, 7), (0, 0, 12, some ((15, 7), 0), [], [])), ((21, 12), (0, 0, 4095, some ((22, 12), 0), [], []))], 12, [((-1), (0, 1))])]
theorem as_104 : a_spec a_tb aC_104 := a_meth (Sp := [aC_90]) (hd := aH_104) (mi := xmi_X5_tell) 25 rfl (a_sp_c as_90 a_sp_n) (by decide +kernel) (by decide +kernel)
/-- X10_badAt -/
def aC_105 : aC := (xi_X10_badAt, 0, [(2, 39, 0, none, [], []), (0, 2, 4, none, [], []), (0, 0, 640, none, [], [])], some (0, 0, 0, none, [], []), [(39, 13), (39, 14)])
def aH_105 : List aH := [(0, [(0, (2, 39, 0, none, [], [])), (1, (0, 2, 4, some ((0, 101), 0), [], [])), (2, (0, 0, 640, some ((0, 102), 0), [], []))], [], [], 0, [])]
theorem as_105 : a_spec a_tb aC_105 := a_meth (Sp := []) (hd := aH_105) (mi := xmi_X10_badAt) 13 rfl a_sp_n (by decide +kernel) (by decide +kernel)
/-- X9_feed -/
def aC_106 : aC := (xi_X9_feed, 1, [(2, 0, 0, none, [], []), (0, (-2147483648), 2147483647, none, [], []), (0, (-2147483648), 2147483647, none, [], []), (0, (-2147483648), 2147483647, none, [], []), (0, (-2147483648), 2147483647, none, [], []), (0, (-2147483648), 2147483647, none, [], [])], some (0, (-1), 640, none, [], []), [(1, 1)])
def aH_106 : List aH := [(0, [(0, (2, 0, 0, none, [], [])), (1, (0, (-2147483648), 2147483647, some ((0, 101), 0), [], [])), (2, (0, (-2147483648), 2147483647, some ((0, 102), 0), [], [])), (3, (0, (-2147483648), 2147483647, some ((0, 103), 0), [], [])), (4, (0, (-2147483648), 2147483647, some ((0, 104), 0), [], [])), (5, (0, (-2147483648), 2147483647, some ((0, 105), 0), [], []))], [], [((1, 1), (0, 0, 640, some ((2, 1), 0), [], []))], 0, [])]
theorem as_106 : a_spec a_tb aC_106 := a_meth (Sp := [aC_8, aC_26]) (hd := aH_106) (mi := xmi_X9_feed) 33 rfl (a_sp_c as_8 (a_sp_c as_26 a_sp_n)) (by decide +kernel) (by decide +kernel)
/-- X10_next -/
def aC_107 : aC := (xi_X10_next, 1, [(2, 39, 0, none, [], []), (0, (-2147483648), 2147483647, none, [], [])], some (0, (-2147483648), 2147483647, none, [], []), [(39, 0), (39, 3)])
def aH_107 : List aH := [(0, [(0, (2, 39, 0, none, [], [])), (1, (0, (-2147483648), 2147483647, some ((0, 101), 0), [], []))], [], [((39, 3), (0, (-2147483648), 2147483647, some ((40, 3), 0), [], []))], 0, [])]
theorem as_107 : a_spec a_tb aC_107 := a_meth (Sp := [aC_9, aC_10, aC_14, aC_17, aC_27, aC_29, aC_33, aC_35, aC_39, aC_40, aC_43, aC_46, aC_53, aC_58]) (hd := aH_107) (mi := xmi_X10_next) 28 rfl (a_sp_c as_9 (a_sp_c as_10 (a_sp_c as_14 (a_sp_c as_17 (a_sp_c as_27 (a_sp_c as_29 (a_sp_c as_33 (a_sp_c as_35 (a_sp_c as_39 (a_sp_c as_40 (a_sp_c as_43 (a_sp_c as_46 (a_sp_c as_53 (a_sp_c as_58 a_sp_n)))))))))))))) (by decide +kernel) (by decide +kernel)
/-- X10_members -/
def aC_108 : aC := (xi_X10_members, 1, [(2, 39, 0, none, [], []), (0, (-2147483648), 2147483647, none, [], [])], some (0, 0, 1, none, [((0, 101), 1, 12)], []), [(39, 0), (39, 4)])
def aH_108 : List aH := [(0, [(0, (2, 39, 0, none, [], [])), (1, (0, (-2147483648), 2147483647, some ((0, 101), 0), [], []))], [], [((39, 5), (0, 0, 1, some ((40, 5), 0), [], [])), ((39, 33), (0, 0, 8, some ((40, 33), 0), [], [])), ((39, 63), (0, 0, 60, some ((40, 63), 0), [], []))], 0, [])]
theorem as_108 : a_spec a_tb aC_108 := a_meth (Sp := [aC_9, aC_10, aC_14, aC_17, aC_27, aC_29, aC_33, aC_35, aC_39, aC_40, aC_43, aC_46, aC_53, aC_58]) (hd := aH_108) (mi := xmi_X10_members) 27 rfl (a_sp_c as_9 (a_sp_c as_10 (a_sp_c as_14 (a_sp_c as_17 (a_sp_c as_27 (a_sp_c as_29 (a_sp_c as_33 (a_sp_c as_35 (a_sp_c as_39 (a_sp_c as_40 (a_sp_c as_43 (a_sp_c as_46 (a_sp_c as_53 (a_sp_c as_58 a_sp_n)))))))))))))) (by decide +kernel) (by decide +kernel)
/-- X9_carries -/
def aC_109 : aC := (xi_X9_carries, 1, [(2, 0, 0, none, [], []), (0, (-2147483648), 2147483647, none, [], []), (0, (-2147483648), 2147483647, none, [], [])], some (0, (-1), 1, none, [], []), [])
def aH_109 : List aH := [(0, [(0, (2, 0, 0, none, [], [])), (1, (0, (-2147483648), 2147483647, some ((0, 101), 0), [], [])), (2, (0, (-2147483648), 2147483647, some ((0, 102), 0), [], []))], [], [], 0, [])]
theorem as_109 : a_spec a_tb aC_109 := a_meth (Sp := [aC_12, aC_20, aC_28]) (hd := aH_109) (mi := xmi_X9_carries) 23 rfl (a_sp_c as_12 (a_sp_c as_20 (a_sp_c as_28 a_sp_n))) (by decide +kernel) (by decide +kernel)
/-- X10_carries -/
def aC_110 : aC := (xi_X10_carries, 1, [(2, 39, 0, none, [], []), (0, (-2147483648), 2147483647, none, [], []), (0, (-2147483648), 2147483647, none, [], [])], some (0, (-1), 1, none, [], []), [(39, 0)])
def aH_110 : List aH := [(0, [(0, (2, 39, 0, none, [], [])), (1, (0, (-2147483648), 2147483647, some ((0, 101), 0), [], [])), (2, (0, (-2147483648), 2147483647, some ((0, 102), 0), [], []))], [], [], 0, [])]
theorem as_110 : a_spec a_tb aC_110 := a_meth (Sp := [aC_13, aC_9, aC_10, aC_14, aC_17, aC_27, aC_29, aC_33, aC_35, aC_39, aC_40, aC_43, aC_46, aC_53, aC_58, aC_25, aC_36]) (hd := aH_110) (mi := xmi_X10_carries) 28 rfl (a_sp_c as_13 (a_sp_c as_9 (a_sp_c as_10 (a_sp_c as_14 (a_sp_c as_17 (a_sp_c as_27 (a_sp_c as_29 (a_sp_c as_33 (a_sp_c as_35 (a_sp_c as_39 (a_sp_c as_40 (a_sp_c as_43 (a_sp_c as_46 (a_sp_c as_53 (a_sp_c as_58 (a_sp_c as_25 (a_sp_c as_36 a_sp_n))))))))))))))))) (by decide +kernel) (by decide +kernel)
/-- X9_weight -/
def aC_111 : aC := (xi_X9_weight, 1, [(2, 0, 0, none, [], []), (0, (-2147483648), 2147483647, none, [], [])], some (0, (-2147483648), 2147483647, none, [], []), [])
def aH_111 : List aH := [(0, [(0, (2, 0, 0, none, [], [])), (1, (0, (-2147483648), 2147483647, some ((0, 101), 0), [], []))], [], [((21, 1), (0, (-2147483648), 2147483647, some ((22, 1), 0), [], []))], 0, [])]
theorem as_111 : a_spec a_tb aC_111 := a_meth (Sp := [aC_15]) (hd := aH_111) (mi := xmi_X9_weight) 19 rfl (a_sp_c as_15 a_sp_n) (by decide +kernel) (by decide +kernel)
/-- X9_beats -/
def aC_112 : aC := (xi_X9_beats, 1, [(2, 0, 0, none, [], []), (0, (-2147483648), 2147483647, none, [], []), (0, (-2147483648), 2147483647, none, [], [])], some (0, (-1), 1, none, [], []), [])
def aH_112 : List aH := [(0, [(0, (2, 0, 0, none, [], [])), (1, (0, (-2147483648), 2147483647, some ((0, 101), 0), [], [])), (2, (0, (-2147483648), 2147483647, some ((0, 102), 0), [], []))], [], [((0, 9), (0, 1, 12, some ((1, 9), 0), [], [])), ((0, 10), (0, (-2147483648), 2147483647, some ((1, 10), 0), [], []))], 0, [])]
theorem as_112 : a_spec a_tb aC_112 := a_meth (Sp := [aC_18, aC_20, aC_31, aC_28]) (hd := aH_112) (mi := xmi_X9_beats) 30 rfl (a_sp_c as_18 (a_sp_c as_20 (a_sp_c as_31 (a_sp_c as_28 a_sp_n)))) (by decide +kernel) (by decide +kernel)
/-- X9_free -/
def aC_113 : aC := (xi_X9_free, 2, [(2, 0, 0, none, [], [])], some (0, 0, 127, none, [], []), [])
def aH_113 : List aH := [(0, [(0, (2, 0, 0, none, [], []))], [], [((0, 9), (0, 1, 12, some ((1, 9), 0), [], [])), ((0, 10), (0, (-2147483648), 2147483647, some ((1, 10), 0), [], []))], 0, [])]
theorem as_113 : a_spec a_tb aC_113 := a_meth (Sp := [aC_20, aC_32, aC_41]) (hd := aH_113) (mi := xmi_X9_free) 18 rfl (a_sp_c as_20 (a_sp_c as_32 (a_sp_c as_41 a_sp_n))) (by decide +kernel) (by decide +kernel)
/-- X9_rowAt -/
def aC_114 : aC := (xi_X9_rowAt, 1, [(2, 0, 0, none, [], []), (0, (-2147483648), 2147483647, none, [], [])], some (0, (-1), 6, none, [], []), [])
def aH_114 : List aH := [(0, [(0, (2, 0, 0, none, [], [])), (1, (0, (-2147483648), 2147483647, some ((0, 101), 0), [], []))], [], [], 0, [])]
theorem as_114 : a_spec a_tb aC_114 := a_meth (Sp := [aC_18]) (hd := aH_114) (mi := xmi_X9_rowAt) 15 rfl (a_sp_c as_18 a_sp_n) (by decide +kernel) (by decide +kernel)
/-- X10_rowAt -/
def aC_115 : aC := (xi_X10_rowAt, 1, [(2, 39, 0, none, [], []), (0, (-2147483648), 2147483647, none, [], [])], some (0, (-1), 255, none, [], []), [(39, 0)])
def aH_115 : List aH := [(0, [(0, (2, 39, 0, none, [], [])), (1, (0, (-2147483648), 2147483647, some ((0, 101), 0), [], []))], [], [((39, 59), (0, 0, 1, some ((40, 59), 0), [], []))], 0, [])]
theorem as_115 : a_spec a_tb aC_115 := a_meth (Sp := [aC_19]) (hd := aH_115) (mi := xmi_X10_rowAt) 20 rfl (a_sp_c as_19 a_sp_n) (by decide +kernel) (by decide +kernel)
/-- X9_vote -/
def aC_116 : aC := (xi_X9_vote, 1, [(2, 0, 0, none, [], []), (0, (-2147483648), 2147483647, none, [], []), (0, 0, 1, none, [], [])], some (0, (-1), 59, none, [], []), [(35, 3)])
def aH_116 : List aH := [(0, [(0, (2, 0, 0, none, [], [])), (1, (0, (-2147483648), 2147483647, some ((0, 101), 0), [], [])), (2, (0, 0, 1, some ((0, 102), 0), [], []))], [], [((0, 10), (0, (-2147483648), 2147483647, some ((1, 10), 0), [], []))], 0, [])]
theorem as_116 : a_spec a_tb aC_116 := a_meth (Sp := [aC_12, aC_34]) (hd := aH_116) (mi := xmi_X9_vote) 18 rfl (a_sp_c as_12 (a_sp_c as_34 a_sp_n)) (by decide +kernel) (by decide +kernel)
/-- X10_vote -/
def aC_117 : aC := (xi_X10_vote, 1, [(2, 39, 0, none, [], []), (0, (-2147483648), 2147483647, none, [], []), (0, 0, 1, none, [], [])], some (0, (-1), 59, none, [], []), [(39, 0), (39, 63)])
def aH_117 : List aH := [(0, [(0, (2, 39, 0, none, [], [])), (1, (0, (-2147483648), 2147483647, some ((0, 101), 0), [], [])), (2, (0, 0, 1, some ((0, 102), 0), [], []))], [], [((39, 3), (0, (-2147483648), 2147483647, some ((40, 3), 0), [], [])), ((39, 63), (0, 0, 60, some ((40, 63), 0), [], []))], 0, [])]
theorem as_117 : a_spec a_tb aC_117 := a_meth (Sp := [aC_13]) (hd := aH_117) (mi := xmi_X10_vote) 46 rfl (a_sp_c as_13 a_sp_n) (by decide +kernel) (by decide +kernel)
/-- X9_unfit -/
def aC_118 : aC := (xi_X9_unfit, 1, [(2, 0, 0, none, [], []), (0, (-2147483648), 2147483647, none, [], [])], some (0, (-1), 59, none, [], []), [])
def aH_118 : List aH := [(0, [(0, (2, 0, 0, none, [], [])), (1, (0, (-2147483648), 2147483647, some ((0, 101), 0), [], []))], [], [((35, 3), (0, 0, 60, some ((36, 3), 0), [], []))], 61, []),
  (2, [(0, (2, 0, 0, none, [], [])), (1, (0, (-2147483648), 2147483647, some ((0, 101), 0), [], [])), (2, (0, 0, 60, some ((0, 2), 0), [], []))], [], [((35, 3), (0, 0, 60, some ((36, 3), 0), [], []))], 60, [((-1), (0, 2))])]
theorem as_118 : a_spec a_tb aC_118 := a_meth (Sp := [aC_20, aC_28]) (hd := aH_118) (mi := xmi_X9_unfit) 37 rfl (a_sp_c as_20 (a_sp_c as_28 a_sp_n)) (by decide +kernel) (by decide +kernel)
/-- X10_unfit -/
def aC_119 : aC := (xi_X10_unfit, 1, [(2, 39, 0, none, [], []), (0, (-2147483648), 2147483647, none, [], [])], some (0, (-1), 59, none, [], []), [(39, 0)])
def aH_119 : List aH := [(0, [(0, (2, 39, 0, none, [], [])), (1, (0, (-2147483648), 2147483647, some ((0, 101), 0), [], []))], [], [((39, 63), (0, 0, 60, some ((40, 63), 0), [], []))], 61, []),
  (7, [(0, (2, 39, 0, none, [], [])), (1, (0, (-2147483648), 2147483647, some ((0, 101), 0), [], [])), (2, (0, 0, 60, some ((0, 2), 0), [], []))], [], [((39, 0), (0, 0, 0, some ((40, 0), 0), [], [])), ((39, 63), (0, 0, 60, some ((40, 63), 0), [], []))], 60, [((-1), (0, 2))])]
theorem as_119 : a_spec a_tb aC_119 := a_meth (Sp := [aC_25, aC_36]) (hd := aH_119) (mi := xmi_X10_unfit) 36 rfl (a_sp_c as_25 (a_sp_c as_36 a_sp_n)) (by decide +kernel) (by decide +kernel)
end XB1
