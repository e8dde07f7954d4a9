section XB1
/-- X2_isStrong -/
def aC_m_X2_isStrong : aC := (xi_X2_isStrong, 1, [(2, 14, 0, none, [], [])], [(some (0, 0, 1, none, [], []), [])], [], [])
def aH_m_X2_isStrong : List aH := [(0, [(0, (2, 14, 0, none, [], []))], [], [((14, 8), (0, 0, 4095, some ((15, 8), 0), [], []))], 4097, []),
  (2, [(0, (2, 14, 0, none, [], [])), (1, (0, 0, 4096, some ((0, 1), 0), [], []))], [], [((14, 8), (0, 0, 4095, some ((15, 8), 0), [], []))], 4096, [((-1), (0, 1))])]
theorem as_m_X2_isStrong : a_spec a_tb aC_m_X2_isStrong := a_meth (Sp := [aC_m_X7_holds]) (hd := aH_m_X2_isStrong) (mi := xmi_X2_isStrong) 27 rfl (a_sp_c as_m_X7_holds a_sp_n) (by decide +kernel) (by decide +kernel)
/-- X2_compare -/
def aC_m_X2_compare : aC := (xi_X2_compare, 0, [(2, 14, 0, none, [], []), (0, 0, 11, none, [], []), (0, 0, 11, none, [], [])], [(some (0, (-1), 2, none, [], []), [])], [], [])
def aH_m_X2_compare : List aH := [(0, [(0, (2, 14, 0, none, [], [])), (1, (0, 0, 11, some ((0, 101), 0), [], [])), (2, (0, 0, 11, some ((0, 102), 0), [], []))], [], [], 0, [])]
theorem as_m_X2_compare : a_spec a_tb aC_m_X2_compare := a_meth (Sp := []) (hd := aH_m_X2_compare) (mi := xmi_X2_compare) 36 rfl a_sp_n (by decide +kernel) (by decide +kernel)
/-- X10_endOf -/
def aC_m_X10_endOf : aC := (xi_X10_endOf, 0, [(2, 39, 0, none, [], []), (0, 1, 7, none, [], [])], [(some (0, 0, 6, none, [], []), [])], [], [])
def aH_m_X10_endOf : List aH := [(0, [(0, (2, 39, 0, none, [], [])), (1, (0, 1, 7, some ((0, 101), 0), [], []))], [], [], 7, []),
  (9, [(0, (2, 39, 0, none, [], [])), (1, (0, 1, 7, some ((0, 101), 0), [], [])), (2, (0, 0, 6, some ((0, 2), 0), [], [])), (3, (0, 1, 7, some ((0, 3), 0), [], []))], [], [], 7, [((-1), (0, 3))])]
theorem as_m_X10_endOf : a_spec a_tb aC_m_X10_endOf := a_meth (Sp := []) (hd := aH_m_X10_endOf) (mi := xmi_X10_endOf) 28 rfl a_sp_n (by decide +kernel) (by decide +kernel)
/-- X10_hinders@f39.35:1:4096 -/
def aC_m_X10_hinders_f39_35_1_4096 : aC := (xi_X10_hinders, 0, [(2, 39, 0, none, [], []), (0, 0, 4095, none, [], [])], [(some (0, 0, 1, none, [], []), [])], [], [((39, 35), 1, 4096)])
def aH_m_X10_hinders_f39_35_1_4096 : List aH := [(0, [(0, (2, 39, 0, none, [], [])), (1, (0, 0, 4095, some ((0, 101), 0), [], []))], [], [((39, 35), (0, 1, 4096, some ((40, 35), 0), [], []))], 0, [])]
theorem as_m_X10_hinders_f39_35_1_4096 : a_spec a_tb aC_m_X10_hinders_f39_35_1_4096 := a_meth (Sp := []) (hd := aH_m_X10_hinders_f39_35_1_4096) (mi := xmi_X10_hinders) 20 rfl a_sp_n (by decide +kernel) (by decide +kernel)
/-- X0_findFirstRow -/
def aC_m_X0_findFirstRow : aC := (xi_X0_findFirstRow, 2, [(2, 28, 0, none, [], [])], [(none, [])], [(29, 0)], [])
def aH_m_X0_findFirstRow : List aH := [(0, [(0, (2, 28, 0, none, [], []))], [], [], 72, []),
  (6, [(0, (2, 28, 0, none, [], [])), (1, (0, 0, 127, some ((0, 1), 0), [], [])), (2, (0, (-1), 6, some ((0, 2), 0), [], [])), (3, (0, 0, 7, some ((0, 3), 0), [], []))], [], [], 71, [((-9), (0, 3))]),
  (15, [(0, (2, 28, 0, none, [], [])), (1, (0, 0, 127, some ((0, 1), 0), [], [])), (2, (0, (-1), 6, some ((0, 2), 0), [], [])), (3, (0, 0, 6, some ((0, 3), 0), [], [])), (4, (0, 0, 7, some ((0, 4), 0), [], []))], [], [], 70, [((-1), (0, 4)), ((-9), (0, 3))])]
theorem as_m_X0_findFirstRow : a_spec a_tb aC_m_X0_findFirstRow := a_meth (Sp := [aC_m_X0_stands_ok, aC_m_X0_waysFrom]) (hd := aH_m_X0_findFirstRow) (mi := xmi_X0_findFirstRow) 48 rfl (a_sp_c as_m_X0_stands_ok (a_sp_c as_m_X0_waysFrom a_sp_n)) (by decide +kernel) (by decide +kernel)
/-- X6_isDigit -/
def aC_m_X6_isDigit : aC := (xi_X6_isDigit, 0, [(0, (-1), 255, none, [], [])], [(some (0, 0, 1, none, [((0, 100), 48, 57)], []), [])], [], [])
def aH_m_X6_isDigit : List aH := [(0, [(0, (0, (-1), 255, some ((0, 100), 0), [], []))], [], [], 0, [])]
theorem as_m_X6_isDigit : a_spec a_tb aC_m_X6_isDigit := a_meth (Sp := []) (hd := aH_m_X6_isDigit) (mi := xmi_X6_isDigit) 14 rfl a_sp_n (by decide +kernel) (by decide +kernel)
/-- X6_takeRun -/
def aC_m_X6_takeRun : aC := (xi_X6_takeRun, 1, [(2, 8, 0, none, [], [])], [(none, [])], [(8, 2), (8, 3), (8, 6)], [])
def aH_m_X6_takeRun : List aH := [(0, [(0, (2, 8, 0, none, [], []))], [], [((1, 1), (0, 0, 640, some ((2, 1), 0), [], [])), ((8, 2), (0, 0, 640, some ((9, 2), 0), [], [])), ((8, 6), (0, (-2147483648), 2147483647, some ((9, 6), 0), [], []))], 641, []),
  (9, [(0, (2, 8, 0, none, [], [])), (1, (0, (-2147483648), 2147483647, some ((0, 1), 0), [], [])), (2, (0, (-2147483648), 2147483647, some ((0, 2), 0), [], []))], [], [((1, 1), (0, 0, 640, some ((2, 1), 0), [], [])), ((8, 2), (0, 0, 640, some ((9, 2), 0), [], [])), ((8, 6), (0, (-2147483648), 2147483647, some ((9, 6), 0), [], []))], 640, [((-1), (9, 2))])]
theorem as_m_X6_takeRun : a_spec a_tb aC_m_X6_takeRun := a_meth (Sp := [aC_m_X8_at, aC_m_X6_isLetter, aC_m_X6_isDigit]) (hd := aH_m_X6_takeRun) (mi := xmi_X6_takeRun) 46 rfl (a_sp_c as_m_X8_at (a_sp_c as_m_X6_isLetter (a_sp_c as_m_X6_isDigit a_sp_n))) (by decide +kernel) (by decide +kernel)
/-- X2_partsOf -/
def aC_m_X2_partsOf : aC := (xi_X2_partsOf, 1, [(2, 14, 0, none, [], []), (0, 0, 11, none, [], [])], [(some (1, (-9223372036854775808), 9223372036854775807, none, [], []), [])], [], [])
def aH_m_X2_partsOf : List aH := [(0, [(0, (2, 14, 0, none, [], [])), (1, (0, 0, 11, some ((0, 101), 0), [], []))], [], [((14, 9), (0, (-2147483648), 924, some ((15, 9), 0), [], []))], 1850, []),
  (26, [(0, (2, 14, 0, none, [], [])), (1, (0, 0, 11, some ((0, 101), 0), [], [])), (2, (1, (-9223372036854775808), 9223372036854775807, none, [], [])), (4, (0, 0, 923, some ((0, 4), 0), [], [])), (5, (0, 0, 12, some ((0, 5), 0), [], []))], [], [((14, 9), (0, 1, 924, some ((15, 9), 0), [], []))], 1848, [((-2), (0, 4))]),
  (5, [(0, (2, 14, 0, none, [], [])), (1, (0, 0, 11, some ((0, 101), 0), [], [])), (2, (1, (-9223372036854775808), 9223372036854775807, none, [], [])), (4, (0, 0, 924, some ((0, 4), 0), [], []))], [], [((14, 9), (0, (-2147483648), 924, some ((15, 9), 0), [], []))], 1849, [((-2), (0, 4))])]
theorem as_m_X2_partsOf : a_spec a_tb aC_m_X2_partsOf := a_meth (Sp := [aC_bit]) (hd := aH_m_X2_partsOf) (mi := xmi_X2_partsOf) 26 rfl (a_sp_c as_bit a_sp_n) (by decide +kernel) (by decide +kernel)
/-- X2_power -/
def aC_m_X2_power : aC := (xi_X2_power, 0, [(0, 0, 10, none, [], []), (0, (-13), 12, none, [], [])], [(some (1, (-9223372036854775808), 9223372036854775807, none, [], []), [])], [], [])
def aH_m_X2_power : List aH := [(0, [(0, (0, 0, 10, some ((0, 100), 0), [], [])), (1, (0, (-13), 12, some ((0, 101), 0), [], []))], [], [], 13, []),
  (5, [(0, (0, 0, 10, some ((0, 100), 0), [], [])), (1, (0, (-13), 12, some ((0, 101), 0), [], [])), (2, (1, (-9223372036854775808), 9223372036854775807, none, [], [])), (4, (0, 0, 12, some ((0, 4), 0), [], []))], [], [], 12, [((-1), (0, 4))])]
theorem as_m_X2_power : a_spec a_tb aC_m_X2_power := a_meth (Sp := []) (hd := aH_m_X2_power) (mi := xmi_X2_power) 16 rfl a_sp_n (by decide +kernel) (by decide +kernel)
/-- X2_countTogether -/
def aC_m_X2_countTogether : aC := (xi_X2_countTogether, 1, [(2, 14, 0, none, [], []), (0, 0, 11, none, [], []), (0, 0, 11, none, [], [])], [(some (0, (-2147483648), 2147483647, none, [], []), [])], [], [])
def aH_m_X2_countTogether : List aH := [(0, [(0, (2, 14, 0, none, [], [])), (1, (0, 0, 11, some ((0, 101), 0), [], [])), (2, (0, 0, 11, some ((0, 102), 0), [], []))], [], [((14, 8), (0, 0, 4095, some ((15, 8), 0), [], []))], 4097, []),
  (14, [(0, (2, 14, 0, none, [], [])), (1, (0, 0, 11, some ((0, 101), 0), [], [])), (2, (0, 0, 11, some ((0, 102), 0), [], [])), (3, (0, 0, 4095, some ((0, 3), 0), [], [])), (4, (0, (-2147483648), 2147483647, some ((0, 4), 0), [], [])), (5, (0, 0, 4096, some ((0, 5), 0), [], []))], [], [((14, 8), (0, 0, 4095, some ((15, 8), 0), [], []))], 4096, [((-1), (0, 5))])]
theorem as_m_X2_countTogether : a_spec a_tb aC_m_X2_countTogether := a_meth (Sp := [aC_m_X7_holds]) (hd := aH_m_X2_countTogether) (mi := xmi_X2_countTogether) 42 rfl (a_sp_c as_m_X7_holds a_sp_n) (by decide +kernel) (by decide +kernel)
/-- X2_lowerShare -/
def aC_m_X2_lowerShare : aC := (xi_X2_lowerShare, 0, [(2, 14, 0, none, [], []), (0, 0, 2, none, [], [])], [(some (1, (-9223372036854775808), 9223372036854775807, none, [], []), [])], [], [])
def aH_m_X2_lowerShare : List aH := [(0, [(0, (2, 14, 0, none, [], [])), (1, (0, 0, 2, some ((0, 101), 0), [], []))], [], [((14, 7), (0, 0, 12, some ((15, 7), 0), [], [])), ((14, 9), (0, (-2147483648), 924, some ((15, 9), 0), [], []))], 13, []),
  (34, [(0, (2, 14, 0, none, [], [])), (1, (0, 0, 1, some ((0, 101), 0), [], [])), (2, (1, (-9223372036854775808), 9223372036854775807, none, [], [])), (4, (0, 0, 12, some ((0, 4), 0), [], []))], [], [((14, 7), (0, 0, 12, some ((15, 7), 0), [], [])), ((14, 9), (0, (-2147483648), 924, some ((15, 9), 0), [], []))], 12, [((-1), (0, 4))])]
theorem as_m_X2_lowerShare : a_spec a_tb aC_m_X2_lowerShare := a_meth (Sp := []) (hd := aH_m_X2_lowerShare) (mi := xmi_X2_lowerShare) 20 rfl a_sp_n (by decide +kernel) (by decide +kernel)
/-- X6_isWord@s3 -/
def aC_m_X6_isWord_s3 : aC := (xi_X6_isWord, 5, [(2, 8, 0, none, [], []), (4, 3, 0, none, [], [])], [(some (0, 0, 1, none, [], []), [])], [], [])
def aH_m_X6_isWord_s3 : List aH := [(0, [(0, (2, 8, 0, none, [], [])), (1, (4, 3, 0, none, [], []))], [], [((8, 3), (0, (-1), 255, some ((9, 3), 0), [], [])), ((8, 4), (0, 0, 639, some ((9, 4), 0), [], [])), ((8, 5), (0, 0, 640, some ((9, 5), 0), [], []))], 6, []),
  (28, [(0, (2, 8, 0, none, [], [])), (1, (4, 3, 0, none, [], [])), (2, (0, 0, 5, some ((0, 2), 0), [], []))], [], [((8, 3), (0, 2, 2, some ((9, 3), 0), [], [])), ((8, 4), (0, 0, 639, some ((9, 4), 0), [], [])), ((8, 5), (0, 0, 640, some ((9, 5), 0), [], []))], 5, [((-1), (0, 2))])]
theorem as_m_X6_isWord_s3 : a_spec a_tb aC_m_X6_isWord_s3 := a_meth (Sp := [aC_m_X8_at]) (hd := aH_m_X6_isWord_s3) (mi := xmi_X6_isWord) 23 rfl (a_sp_c as_m_X8_at a_sp_n) (by decide +kernel) (by decide +kernel)
/-- X2_turnsBy -/
def aC_m_X2_turnsBy : aC := (xi_X2_turnsBy, 1, [(2, 14, 0, none, [], []), (0, 0, 4095, none, [], []), (0, 0, 11, none, [], [])], [(some (0, 0, 1, none, [], []), [])], [], [])
def aH_m_X2_turnsBy : List aH := [(0, [(0, (2, 14, 0, none, [], [])), (1, (0, 0, 4095, some ((0, 101), 0), [], [])), (2, (0, 0, 11, some ((0, 102), 0), [], []))], [], [], 0, [])]
theorem as_m_X2_turnsBy : a_spec a_tb aC_m_X2_turnsBy := a_meth (Sp := [aC_m_X7_holds]) (hd := aH_m_X2_turnsBy) (mi := xmi_X2_turnsBy) 28 rfl (a_sp_c as_m_X7_holds a_sp_n) (by decide +kernel) (by decide +kernel)
/-- X6_isSign -/
def aC_m_X6_isSign : aC := (xi_X6_isSign, 0, [(0, (-1), 255, none, [], [])], [(some (0, 0, 1, none, [((0, 100), 40, 93)], []), [])], [], [])
def aH_m_X6_isSign : List aH := [(0, [(0, (0, (-1), 255, some ((0, 100), 0), [], []))], [], [], 0, [])]
theorem as_m_X6_isSign : a_spec a_tb aC_m_X6_isSign := a_meth (Sp := []) (hd := aH_m_X6_isSign) (mi := xmi_X6_isSign) 29 rfl a_sp_n (by decide +kernel) (by decide +kernel)
/-- X10_isLetter -/
def aC_m_X10_isLetter : aC := (xi_X10_isLetter, 0, [(0, 0, 255, none, [], [])], [(some (0, 0, 1, none, [((0, 100), 97, 122)], []), [])], [], [])
def aH_m_X10_isLetter : List aH := [(0, [(0, (0, 0, 255, some ((0, 100), 0), [], []))], [], [], 0, [])]
theorem as_m_X10_isLetter : a_spec a_tb aC_m_X10_isLetter := a_meth (Sp := []) (hd := aH_m_X10_isLetter) (mi := xmi_X10_isLetter) 14 rfl a_sp_n (by decide +kernel) (by decide +kernel)
/-- X4_fail -/
def aC_m_X4_fail : aC := (xi_X4_fail, 0, [(2, 3, 0, none, [], []), (0, 1, 4, none, [], []), (0, 0, 639, none, [], [])], [(some (0, 0, 0, none, [], []), [])], [(3, 8), (3, 9)], [])
def aH_m_X4_fail : List aH := [(0, [(0, (2, 3, 0, none, [], [])), (1, (0, 1, 4, some ((0, 101), 0), [], [])), (2, (0, 0, 639, some ((0, 102), 0), [], []))], [], [], 0, [])]
theorem as_m_X4_fail : a_spec a_tb aC_m_X4_fail := a_meth (Sp := []) (hd := aH_m_X4_fail) (mi := xmi_X4_fail) 13 rfl a_sp_n (by decide +kernel) (by decide +kernel)
/-- X10_isDigit -/
def aC_m_X10_isDigit : aC := (xi_X10_isDigit, 0, [(0, 0, 255, none, [], [])], [(some (0, 0, 1, none, [((0, 100), 48, 57)], []), [])], [], [])
def aH_m_X10_isDigit : List aH := [(0, [(0, (0, 0, 255, some ((0, 100), 0), [], []))], [], [], 0, [])]
theorem as_m_X10_isDigit : a_spec a_tb aC_m_X10_isDigit := a_meth (Sp := []) (hd := aH_m_X10_isDigit) (mi := xmi_X10_isDigit) 14 rfl a_sp_n (by decide +kernel) (by decide +kernel)
/-- X10_byteAt -/
def aC_m_X10_byteAt : aC := (xi_X10_byteAt, 0, [(2, 39, 0, none, [], []), (0, 0, 640, none, [], [])], [(some (0, 0, 255, none, [((0, 101), 0, 639)], []), [])], [], [])
def aH_m_X10_byteAt : List aH := [(0, [(0, (2, 39, 0, none, [], [])), (1, (0, 0, 640, some ((0, 101), 0), [], []))], [], [((39, 6), (0, 0, 640, some ((40, 6), 0), [], []))], 0, [])]
theorem as_m_X10_byteAt : a_spec a_tb aC_m_X10_byteAt := a_meth (Sp := []) (hd := aH_m_X10_byteAt) (mi := xmi_X10_byteAt) 15 rfl a_sp_n (by decide +kernel) (by decide +kernel)
/-- X10_spelt -/
def aC_m_X10_spelt : aC := (xi_X10_spelt, 0, [(0, 97, 111, none, [], []), (0, 97, 114, none, [], []), (0, 0, 114, none, [], []), (0, 0, 121, none, [], []), (0, 0, 121, none, [], [])], [(some (1, (-9223372036854775808), 9223372036854775807, none, [], []), [])], [], [])
def aH_m_X10_spelt : List aH := [(0, [(0, (0, 97, 111, some ((0, 100), 0), [], [])), (1, (0, 97, 114, some ((0, 101), 0), [], [])), (2, (0, 0, 114, some ((0, 102), 0), [], [])), (3, (0, 0, 121, some ((0, 103), 0), [], [])), (4, (0, 0, 121, some ((0, 104), 0), [], []))], [], [], 0, [])]
theorem as_m_X10_spelt : a_spec a_tb aC_m_X10_spelt := a_meth (Sp := []) (hd := aH_m_X10_spelt) (mi := xmi_X10_spelt) 51 rfl a_sp_n (by decide +kernel) (by decide +kernel)
/-- X10_mayBe -/
def aC_m_X10_mayBe : aC := (xi_X10_mayBe, 0, [(2, 39, 0, none, [], []), (0, 0, 11, none, [], []), (0, 0, 99, none, [], [])], [(some (0, 0, 1, none, [], [((0, 101), 1, 11)]), [])], [], [])
def aH_m_X10_mayBe : List aH := [(0, [(0, (2, 39, 0, none, [], [])), (1, (0, 0, 11, some ((0, 101), 0), [], [])), (2, (0, 0, 99, some ((0, 102), 0), [], []))], [], [], 12, []),
  (2, [(0, (2, 39, 0, none, [], [])), (1, (0, 0, 11, some ((0, 101), 0), [], [])), (2, (0, 0, 99, some ((0, 102), 0), [], [])), (3, (0, 0, 11, some ((0, 3), 0), [], []))], [], [], 11, [((-1), (0, 3))])]
theorem as_m_X10_mayBe : a_spec a_tb aC_m_X10_mayBe := a_meth (Sp := []) (hd := aH_m_X10_mayBe) (mi := xmi_X10_mayBe) 41 rfl a_sp_n (by decide +kernel) (by decide +kernel)
/-- X2_markNeeded -/
def aC_m_X2_markNeeded : aC := (xi_X2_markNeeded, 0, [(2, 14, 0, none, [], [])], [(none, [])], [(14, 11), (14, 12)], [])
def aH_m_X2_markNeeded : List aH := [(0, [(0, (2, 14, 0, none, [], []))], [], [((14, 8), (0, 0, 4095, some ((15, 8), 0), [], [])), ((14, 9), (0, (-2147483648), 924, some ((15, 9), 0), [], [])), ((14, 11), (0, 0, 4095, some ((15, 11), 0), [], [])), ((14, 12), (0, 0, 4095, some ((15, 12), 0), [], []))], 925, []),
  (29, [(0, (2, 14, 0, none, [], [])), (1, (0, 0, 924, some ((0, 1), 0), [], []))], [], [((14, 8), (0, 0, 4095, some ((15, 8), 0), [], [])), ((14, 9), (0, (-2147483648), 924, some ((15, 9), 0), [], [])), ((14, 11), (0, 0, 4095, some ((15, 11), 0), [], [])), ((14, 12), (0, 0, 4095, some ((15, 12), 0), [], []))], 924, [((-1), (0, 1))])]
theorem as_m_X2_markNeeded : a_spec a_tb aC_m_X2_markNeeded := a_meth (Sp := []) (hd := aH_m_X2_markNeeded) (mi := xmi_X2_markNeeded) 32 rfl a_sp_n (by decide +kernel) (by decide +kernel)
/-- X10_isMark -/
def aC_m_X10_isMark : aC := (xi_X10_isMark, 0, [(0, 0, 255, none, [], [])], [(some (0, 0, 1, none, [((0, 100), 40, 93)], []), [])], [], [])
def aH_m_X10_isMark : List aH := [(0, [(0, (0, 0, 255, some ((0, 100), 0), [], []))], [], [], 0, [])]
theorem as_m_X10_isMark : a_spec a_tb aC_m_X10_isMark := a_meth (Sp := []) (hd := aH_m_X10_isMark) (mi := xmi_X10_isMark) 29 rfl a_sp_n (by decide +kernel) (by decide +kernel)
/-- X10_isKey -/
def aC_m_X10_isKey : aC := (xi_X10_isKey, 0, [(2, 39, 0, none, [], []), (1, (-9223372036854775808), 9223372036854775807, none, [], [])], [(some (0, 0, 1, none, [], []), [])], [], [])
def aH_m_X10_isKey : List aH := [(0, [(0, (2, 39, 0, none, [], [])), (1, (1, (-9223372036854775808), 9223372036854775807, none, [], []))], [], [((39, 9), (0, 0, 4, some ((40, 9), 0), [], []))], 0, [])]
theorem as_m_X10_isKey : a_spec a_tb aC_m_X10_isKey := a_meth (Sp := []) (hd := aH_m_X10_isKey) (mi := xmi_X10_isKey) 17 rfl a_sp_n (by decide +kernel) (by decide +kernel)
/-- X6_isWord@s4 -/
def aC_m_X6_isWord_s4 : aC := (xi_X6_isWord, 5, [(2, 8, 0, none, [], []), (4, 4, 0, none, [], [])], [(some (0, 0, 1, none, [], []), [])], [], [])
def aH_m_X6_isWord_s4 : List aH := [(0, [(0, (2, 8, 0, none, [], [])), (1, (4, 4, 0, none, [], []))], [], [((8, 3), (0, (-1), 255, some ((9, 3), 0), [], [])), ((8, 4), (0, 0, 639, some ((9, 4), 0), [], [])), ((8, 5), (0, 0, 640, some ((9, 5), 0), [], []))], 4, []),
  (28, [(0, (2, 8, 0, none, [], [])), (1, (4, 4, 0, none, [], [])), (2, (0, 0, 3, some ((0, 2), 0), [], []))], [], [((8, 3), (0, 2, 2, some ((9, 3), 0), [], [])), ((8, 4), (0, 0, 639, some ((9, 4), 0), [], [])), ((8, 5), (0, 0, 640, some ((9, 5), 0), [], []))], 3, [((-1), (0, 2))])]
theorem as_m_X6_isWord_s4 : a_spec a_tb aC_m_X6_isWord_s4 := a_meth (Sp := [aC_m_X8_at]) (hd := aH_m_X6_isWord_s4) (mi := xmi_X6_isWord) 23 rfl (a_sp_c as_m_X8_at a_sp_n) (by decide +kernel) (by decide +kernel)
/-- X5_isFirst -/
def aC_m_X5_isFirst : aC := (xi_X5_isFirst, 1, [(2, 21, 0, none, [], []), (0, 0, 11, none, [], [])], [(some (0, 0, 1, none, [], [((0, 101), 1, 11)]), [])], [], [])
def aH_m_X5_isFirst : List aH := [(0, [(0, (2, 21, 0, none, [], [])), (1, (0, 0, 11, some ((0, 101), 0), [], []))], [], [], 12, []),
  (2, [(0, (2, 21, 0, none, [], [])), (1, (0, 0, 11, some ((0, 101), 0), [], [])), (2, (0, 0, 11, some ((0, 2), 0), [], []))], [], [], 11, [((-1), (0, 2))])]
theorem as_m_X5_isFirst : a_spec a_tb aC_m_X5_isFirst := a_meth (Sp := [aC_m_X2_compare]) (hd := aH_m_X5_isFirst) (mi := xmi_X5_isFirst) 17 rfl (a_sp_c as_m_X2_compare a_sp_n) (by decide +kernel) (by decide +kernel)
/-- X10_sumOf -/
def aC_m_X10_sumOf : aC := (xi_X10_sumOf, 0, [(2, 39, 0, none, [], []), (0, 0, 4095, none, [], [])], [(some (0, (-2147483648), 2147483647, none, [], []), [])], [], [])
def aH_m_X10_sumOf : List aH := [(0, [(0, (2, 39, 0, none, [], [])), (1, (0, 0, 4095, some ((0, 101), 0), [], []))], [], [((39, 4), (0, 1, 12, some ((40, 4), 0), [], []))], 13, []),
  (4, [(0, (2, 39, 0, none, [], [])), (1, (0, 0, 4095, some ((0, 101), 0), [], [])), (2, (0, (-2147483648), 2147483647, some ((0, 2), 0), [], [])), (3, (0, 0, 12, some ((0, 3), 0), [], []))], [], [((39, 4), (0, 1, 12, some ((40, 4), 0), [], []))], 12, [((-1), (0, 3))])]
theorem as_m_X10_sumOf : a_spec a_tb aC_m_X10_sumOf := a_meth (Sp := []) (hd := aH_m_X10_sumOf) (mi := xmi_X10_sumOf) 29 rfl a_sp_n (by decide +kernel) (by decide +kernel)
/-- X4_countOne -/
def aC_m_X4_countOne : aC := (xi_X4_countOne, 1, [(2, 3, 0, none, [], []), (0, 0, 639, none, [], [])], [(some (0, 0, 1, none, [], []), [])], [(3, 5), (3, 8), (3, 9)], [])
def aH_m_X4_countOne : List aH := [(0, [(0, (2, 3, 0, none, [], [])), (1, (0, 0, 639, some ((0, 101), 0), [], []))], [], [((3, 5), (0, (-2147483648), 2147483647, some ((4, 5), 0), [], []))], 0, [])]
theorem as_m_X4_countOne : a_spec a_tb aC_m_X4_countOne := a_meth (Sp := [aC_m_X4_fail]) (hd := aH_m_X4_countOne) (mi := xmi_X4_countOne) 22 rfl (a_sp_c as_m_X4_fail a_sp_n) (by decide +kernel) (by decide +kernel)
/-- X6_isLone -/
def aC_m_X6_isLone : aC := (xi_X6_isLone, 0, [(2, 8, 0, none, [], [])], [(some (0, 0, 1, none, [], []), [])], [], [])
def aH_m_X6_isLone : List aH := [(0, [(0, (2, 8, 0, none, [], []))], [], [((8, 3), (0, (-1), 255, some ((9, 3), 0), [], [])), ((8, 4), (0, 0, 639, some ((9, 4), 0), [], [])), ((8, 5), (0, 0, 640, some ((9, 5), 0), [], []))], 0, [])]
theorem as_m_X6_isLone : a_spec a_tb aC_m_X6_isLone := a_meth (Sp := []) (hd := aH_m_X6_isLone) (mi := xmi_X6_isLone) 19 rfl a_sp_n (by decide +kernel) (by decide +kernel)
/-- X2_countSwings -/
def aC_m_X2_countSwings : aC := (xi_X2_countSwings, 2, [(2, 14, 0, none, [], []), (0, 0, 11, none, [], [])], [(some (0, (-2147483648), 2147483647, none, [], []), [])], [], [])
def aH_m_X2_countSwings : List aH := [(0, [(0, (2, 14, 0, none, [], [])), (1, (0, 0, 11, some ((0, 101), 0), [], []))], [], [((14, 8), (0, 0, 4095, some ((15, 8), 0), [], []))], 4097, []),
  (4, [(0, (2, 14, 0, none, [], [])), (1, (0, 0, 11, some ((0, 101), 0), [], [])), (2, (0, (-2147483648), 2147483647, some ((0, 2), 0), [], [])), (3, (0, 0, 4096, some ((0, 3), 0), [], []))], [], [((14, 8), (0, 0, 4095, some ((15, 8), 0), [], []))], 4096, [((-1), (0, 3))])]
theorem as_m_X2_countSwings : a_spec a_tb aC_m_X2_countSwings := a_meth (Sp := [aC_m_X2_turnsBy]) (hd := aH_m_X2_countSwings) (mi := xmi_X2_countSwings) 18 rfl (a_sp_c as_m_X2_turnsBy a_sp_n) (by decide +kernel) (by decide +kernel)
/-- X6_isWord@s5 -/
def aC_m_X6_isWord_s5 : aC := (xi_X6_isWord, 5, [(2, 8, 0, none, [], []), (4, 5, 0, none, [], [])], [(some (0, 0, 1, none, [], []), [])], [], [])
def aH_m_X6_isWord_s5 : List aH := [(0, [(0, (2, 8, 0, none, [], [])), (1, (4, 5, 0, none, [], []))], [], [((8, 3), (0, (-1), 255, some ((9, 3), 0), [], [])), ((8, 4), (0, 0, 639, some ((9, 4), 0), [], [])), ((8, 5), (0, 0, 640, some ((9, 5), 0), [], []))], 3, []),
  (28, [(0, (2, 8, 0, none, [], [])), (1, (4, 5, 0, none, [], [])), (2, (0, 0, 2, some ((0, 2), 0), [], []))], [], [((8, 3), (0, 2, 2, some ((9, 3), 0), [], [])), ((8, 4), (0, 0, 639, some ((9, 4), 0), [], [])), ((8, 5), (0, 0, 640, some ((9, 5), 0), [], []))], 2, [((-1), (0, 2))])]
theorem as_m_X6_isWord_s5 : a_spec a_tb aC_m_X6_isWord_s5 := a_meth (Sp := [aC_m_X8_at]) (hd := aH_m_X6_isWord_s5) (mi := xmi_X6_isWord) 23 rfl (a_sp_c as_m_X8_at a_sp_n) (by decide +kernel) (by decide +kernel)
end XB1
