section XB1
/-- X9_end -/
def aC_m_X9_end : aC := (xi_X9_end, 0, [(2, 0, 0, none, [], []), (0, (-2147483648), 2147483647, none, [], [])], [(some (0, 0, 1, none, [((0, 101), 0, 640)], []), [])], [(1, 1)], [])
def aH_m_X9_end : List aH := [(0, [(0, (2, 0, 0, none, [], [])), (1, (0, (-2147483648), 2147483647, some ((0, 101), 0), [], []))], [], [((1, 1), (0, 0, 640, some ((2, 1), 0), [], []))], 0, [])]
theorem as_m_X9_end : a_spec a_tb aC_m_X9_end := a_meth (Sp := []) (hd := aH_m_X9_end) (mi := xmi_X9_end) 18 rfl a_sp_n (by decide +kernel) (by decide +kernel)
/-- X10_end -/
def aC_m_X10_end : aC := (xi_X10_end, 0, [(2, 39, 0, none, [], []), (0, (-2147483648), 2147483647, none, [], [])], [(some (0, 0, 1, none, [((0, 101), 0, 640)], []), [])], [(39, 0), (39, 2)], [])
def aH_m_X10_end : List aH := [(0, [(0, (2, 39, 0, none, [], [])), (1, (0, (-2147483648), 2147483647, some ((0, 101), 0), [], []))], [], [((39, 2), (0, 0, 640, some ((40, 2), 0), [], []))], 0, [])]
theorem as_m_X10_end : a_spec a_tb aC_m_X10_end := a_meth (Sp := []) (hd := aH_m_X10_end) (mi := xmi_X10_end) 19 rfl a_sp_n (by decide +kernel) (by decide +kernel)
/-- X9_next -/
def aC_m_X9_next : aC := (xi_X9_next, 0, [(2, 0, 0, none, [], []), (0, (-2147483648), 2147483647, none, [], [])], [(some (0, (-2147483648), 2147483647, none, [], []), [])], [(0, 10)], [])
def aH_m_X9_next : List aH := [(0, [(0, (2, 0, 0, none, [], [])), (1, (0, (-2147483648), 2147483647, some ((0, 101), 0), [], []))], [], [((0, 10), (0, (-2147483648), 2147483647, some ((1, 10), 0), [], []))], 0, [])]
theorem as_m_X9_next : a_spec a_tb aC_m_X9_next := a_meth (Sp := []) (hd := aH_m_X9_next) (mi := xmi_X9_next) 25 rfl a_sp_n (by decide +kernel) (by decide +kernel)
/-- X9_fault -/
def aC_m_X9_fault : aC := (xi_X9_fault, 0, [(2, 0, 0, none, [], [])], [(some (0, 0, 4, none, [], []), [])], [], [])
def aH_m_X9_fault : List aH := [(0, [(0, (2, 0, 0, none, [], []))], [], [((0, 11), (0, 0, 4, some ((1, 11), 0), [], []))], 0, [])]
theorem as_m_X9_fault : a_spec a_tb aC_m_X9_fault := a_meth (Sp := []) (hd := aH_m_X9_fault) (mi := xmi_X9_fault) 8 rfl a_sp_n (by decide +kernel) (by decide +kernel)
/-- X10_fault -/
def aC_m_X10_fault : aC := (xi_X10_fault, 0, [(2, 39, 0, none, [], [])], [(some (0, 0, 4, none, [], []), [])], [(39, 0)], [])
def aH_m_X10_fault : List aH := [(0, [(0, (2, 39, 0, none, [], []))], [], [((39, 13), (0, 0, 4, some ((40, 13), 0), [], []))], 0, [])]
theorem as_m_X10_fault : a_spec a_tb aC_m_X10_fault := a_meth (Sp := []) (hd := aH_m_X10_fault) (mi := xmi_X10_fault) 11 rfl a_sp_n (by decide +kernel) (by decide +kernel)
/-- X10_weight -/
def aC_m_X10_weight : aC := (xi_X10_weight, 0, [(2, 39, 0, none, [], []), (0, (-2147483648), 2147483647, none, [], [])], [(some (0, (-2147483648), 100000, none, [], []), [])], [(39, 0)], [])
def aH_m_X10_weight : List aH := [(0, [(0, (2, 39, 0, none, [], [])), (1, (0, (-2147483648), 2147483647, some ((0, 101), 0), [], []))], [], [((39, 51), (0, 0, 1, some ((40, 51), 0), [], [])), ((39, 52), (0, 0, 12, some ((40, 52), 0), [], []))], 0, [])]
theorem as_m_X10_weight : a_spec a_tb aC_m_X10_weight := a_meth (Sp := []) (hd := aH_m_X10_weight) (mi := xmi_X10_weight) 26 rfl a_sp_n (by decide +kernel) (by decide +kernel)
/-- X9_count -/
def aC_m_X9_count : aC := (xi_X9_count, 0, [(2, 0, 0, none, [], []), (0, (-2147483648), 2147483647, none, [], [])], [(some (0, (-2147483648), 2147483647, none, [], []), [])], [], [])
def aH_m_X9_count : List aH := [(0, [(0, (2, 0, 0, none, [], [])), (1, (0, (-2147483648), 2147483647, some ((0, 101), 0), [], []))], [], [((0, 8), (0, 0, 8, some ((1, 8), 0), [], [])), ((0, 9), (0, 1, 12, some ((1, 9), 0), [], [])), ((0, 10), (0, (-2147483648), 2147483647, some ((1, 10), 0), [], [])), ((1, 1), (0, 0, 640, some ((2, 1), 0), [], [])), ((35, 3), (0, 0, 60, some ((36, 3), 0), [], []))], 0, [])]
theorem as_m_X9_count : a_spec a_tb aC_m_X9_count := a_meth (Sp := []) (hd := aH_m_X9_count) (mi := xmi_X9_count) 11 rfl a_sp_n (by decide +kernel) (by decide +kernel)
/-- X10_count -/
def aC_m_X10_count : aC := (xi_X10_count, 0, [(2, 39, 0, none, [], []), (0, (-2147483648), 2147483647, none, [], [])], [(some (0, (-2147483648), 2147483647, none, [], []), [])], [(39, 0)], [])
def aH_m_X10_count : List aH := [(0, [(0, (2, 39, 0, none, [], [])), (1, (0, (-2147483648), 2147483647, some ((0, 101), 0), [], []))], [], [((39, 2), (0, 0, 640, some ((40, 2), 0), [], [])), ((39, 3), (0, (-2147483648), 2147483647, some ((40, 3), 0), [], [])), ((39, 4), (0, 1, 12, some ((40, 4), 0), [], [])), ((39, 33), (0, 0, 8, some ((40, 33), 0), [], [])), ((39, 63), (0, 0, 60, some ((40, 63), 0), [], []))], 0, [])]
theorem as_m_X10_count : a_spec a_tb aC_m_X10_count := a_meth (Sp := []) (hd := aH_m_X10_count) (mi := xmi_X10_count) 13 rfl a_sp_n (by decide +kernel) (by decide +kernel)
/-- X8_hasRoom -/
def aC_m_X8_hasRoom : aC := (xi_X8_hasRoom, 0, [(2, 1, 0, none, [], [])], [(some (0, 0, 1, none, [], []), [])], [], [])
def aH_m_X8_hasRoom : List aH := [(0, [(0, (2, 1, 0, none, [], []))], [], [((1, 1), (0, 0, 640, some ((2, 1), 0), [], []))], 0, [])]
theorem as_m_X8_hasRoom : a_spec a_tb aC_m_X8_hasRoom := a_meth (Sp := []) (hd := aH_m_X8_hasRoom) (mi := xmi_X8_hasRoom) 14 rfl a_sp_n (by decide +kernel) (by decide +kernel)
/-- X10_isIn@0:0,999:999 -/
def aC_m_X10_isIn_0_0_999_999 : aC := (xi_X10_isIn, 0, [(0, (-2147483648), 2147483647, none, [], []), (0, 0, 0, none, [], []), (0, 999, 999, none, [], [])], [(some (0, 0, 1, none, [((0, 100), 0, 999)], []), [])], [], [])
def aH_m_X10_isIn_0_0_999_999 : List aH := [(0, [(0, (0, (-2147483648), 2147483647, some ((0, 100), 0), [], [])), (1, (0, 0, 0, some ((0, 101), 0), [], [])), (2, (0, 999, 999, some ((0, 102), 0), [], []))], [], [], 0, [])]
theorem as_m_X10_isIn_0_0_999_999 : a_spec a_tb aC_m_X10_isIn_0_0_999_999 := a_meth (Sp := []) (hd := aH_m_X10_isIn_0_0_999_999) (mi := xmi_X10_isIn) 14 rfl a_sp_n (by decide +kernel) (by decide +kernel)
/-- X10_isIn@1:1,12:12 -/
def aC_m_X10_isIn_1_1_12_12 : aC := (xi_X10_isIn, 0, [(0, (-2147483648), 2147483647, none, [], []), (0, 1, 1, none, [], []), (0, 12, 12, none, [], [])], [(some (0, 0, 1, none, [((0, 100), 1, 12)], []), [])], [], [])
def aH_m_X10_isIn_1_1_12_12 : List aH := [(0, [(0, (0, (-2147483648), 2147483647, some ((0, 100), 0), [], [])), (1, (0, 1, 1, some ((0, 101), 0), [], [])), (2, (0, 12, 12, some ((0, 102), 0), [], []))], [], [], 0, [])]
theorem as_m_X10_isIn_1_1_12_12 : a_spec a_tb aC_m_X10_isIn_1_1_12_12 := a_meth (Sp := []) (hd := aH_m_X10_isIn_1_1_12_12) (mi := xmi_X10_isIn) 14 rfl a_sp_n (by decide +kernel) (by decide +kernel)
/-- X10_take -/
def aC_m_X10_take : aC := (xi_X10_take, 0, [(2, 39, 0, none, [], [])], [(some (0, 0, 640, none, [], []), [])], [(39, 2)], [])
def aH_m_X10_take : List aH := [(0, [(0, (2, 39, 0, none, [], []))], [], [((39, 2), (0, 0, 640, some ((40, 2), 0), [], []))], 0, [])]
theorem as_m_X10_take : a_spec a_tb aC_m_X10_take := a_meth (Sp := []) (hd := aH_m_X10_take) (mi := xmi_X10_take) 13 rfl a_sp_n (by decide +kernel) (by decide +kernel)
/-- X9_isSet -/
def aC_m_X9_isSet : aC := (xi_X9_isSet, 0, [(2, 0, 0, none, [], []), (0, (-2147483648), 2147483647, none, [], [])], [(some (0, 0, 1, none, [((0, 101), 0, 4095)], []), [])], [], [])
def aH_m_X9_isSet : List aH := [(0, [(0, (2, 0, 0, none, [], [])), (1, (0, (-2147483648), 2147483647, some ((0, 101), 0), [], []))], [], [((0, 9), (0, 1, 12, some ((1, 9), 0), [], []))], 0, [])]
theorem as_m_X9_isSet : a_spec a_tb aC_m_X9_isSet := a_meth (Sp := []) (hd := aH_m_X9_isSet) (mi := xmi_X9_isSet) 16 rfl a_sp_n (by decide +kernel) (by decide +kernel)
/-- X10_isSet -/
def aC_m_X10_isSet : aC := (xi_X10_isSet, 0, [(2, 39, 0, none, [], []), (0, (-2147483648), 2147483647, none, [], [])], [(some (0, 0, 1, none, [((0, 101), 0, 4095)], []), [])], [], [])
def aH_m_X10_isSet : List aH := [(0, [(0, (2, 39, 0, none, [], [])), (1, (0, (-2147483648), 2147483647, some ((0, 101), 0), [], []))], [], [((39, 4), (0, 1, 12, some ((40, 4), 0), [], []))], 0, [])]
theorem as_m_X10_isSet : a_spec a_tb aC_m_X10_isSet := a_meth (Sp := []) (hd := aH_m_X10_isSet) (mi := xmi_X10_isSet) 16 rfl a_sp_n (by decide +kernel) (by decide +kernel)
/-- X10_isIn@1:1,4:4 -/
def aC_m_X10_isIn_1_1_4_4 : aC := (xi_X10_isIn, 0, [(0, (-2147483648), 2147483647, none, [], []), (0, 1, 1, none, [], []), (0, 4, 4, none, [], [])], [(some (0, 0, 1, none, [((0, 100), 1, 4)], []), [])], [], [])
def aH_m_X10_isIn_1_1_4_4 : List aH := [(0, [(0, (0, (-2147483648), 2147483647, some ((0, 100), 0), [], [])), (1, (0, 1, 1, some ((0, 101), 0), [], [])), (2, (0, 4, 4, some ((0, 102), 0), [], []))], [], [], 0, [])]
theorem as_m_X10_isIn_1_1_4_4 : a_spec a_tb aC_m_X10_isIn_1_1_4_4 := a_meth (Sp := []) (hd := aH_m_X10_isIn_1_1_4_4) (mi := xmi_X10_isIn) 14 rfl a_sp_n (by decide +kernel) (by decide +kernel)
/-- X9_isMember -/
def aC_m_X9_isMember : aC := (xi_X9_isMember, 0, [(2, 0, 0, none, [], []), (0, (-2147483648), 2147483647, none, [], [])], [(some (0, 0, 1, none, [((0, 101), 0, 11)], []), [])], [], [])
def aH_m_X9_isMember : List aH := [(0, [(0, (2, 0, 0, none, [], [])), (1, (0, (-2147483648), 2147483647, some ((0, 101), 0), [], []))], [], [((0, 9), (0, 1, 12, some ((1, 9), 0), [], []))], 0, [])]
theorem as_m_X9_isMember : a_spec a_tb aC_m_X9_isMember := a_meth (Sp := []) (hd := aH_m_X9_isMember) (mi := xmi_X9_isMember) 14 rfl a_sp_n (by decide +kernel) (by decide +kernel)
/-- X10_isMember -/
def aC_m_X10_isMember : aC := (xi_X10_isMember, 0, [(2, 39, 0, none, [], []), (0, (-2147483648), 2147483647, none, [], [])], [(some (0, 0, 1, none, [((0, 101), 0, 11)], []), [])], [], [])
def aH_m_X10_isMember : List aH := [(0, [(0, (2, 39, 0, none, [], [])), (1, (0, (-2147483648), 2147483647, some ((0, 101), 0), [], []))], [], [((39, 4), (0, 1, 12, some ((40, 4), 0), [], []))], 0, [])]
theorem as_m_X10_isMember : a_spec a_tb aC_m_X10_isMember := a_meth (Sp := []) (hd := aH_m_X10_isMember) (mi := xmi_X10_isMember) 14 rfl a_sp_n (by decide +kernel) (by decide +kernel)
/-- X10_isIn@0:0,10:10 -/
def aC_m_X10_isIn_0_0_10_10 : aC := (xi_X10_isIn, 0, [(0, (-2147483648), 2147483647, none, [], []), (0, 0, 0, none, [], []), (0, 10, 10, none, [], [])], [(some (0, 0, 1, none, [((0, 100), 0, 10)], []), [])], [], [])
def aH_m_X10_isIn_0_0_10_10 : List aH := [(0, [(0, (0, (-2147483648), 2147483647, some ((0, 100), 0), [], [])), (1, (0, 0, 0, some ((0, 101), 0), [], [])), (2, (0, 10, 10, some ((0, 102), 0), [], []))], [], [], 0, [])]
theorem as_m_X10_isIn_0_0_10_10 : a_spec a_tb aC_m_X10_isIn_0_0_10_10 := a_meth (Sp := []) (hd := aH_m_X10_isIn_0_0_10_10) (mi := xmi_X10_isIn) 14 rfl a_sp_n (by decide +kernel) (by decide +kernel)
/-- X0_isOption -/
def aC_m_X0_isOption : aC := (xi_X0_isOption, 0, [(0, (-2147483648), 2147483647, none, [], [])], [(some (0, 0, 1, none, [((0, 100), 0, 6)], []), [])], [], [])
def aH_m_X0_isOption : List aH := [(0, [(0, (0, (-2147483648), 2147483647, some ((0, 100), 0), [], []))], [], [], 0, [])]
theorem as_m_X0_isOption : a_spec a_tb aC_m_X0_isOption := a_meth (Sp := []) (hd := aH_m_X0_isOption) (mi := xmi_X0_isOption) 13 rfl a_sp_n (by decide +kernel) (by decide +kernel)
/-- X10_isOption -/
def aC_m_X10_isOption : aC := (xi_X10_isOption, 0, [(0, (-2147483648), 2147483647, none, [], [])], [(some (0, 0, 1, none, [((0, 100), 0, 6)], []), [])], [], [])
def aH_m_X10_isOption : List aH := [(0, [(0, (0, (-2147483648), 2147483647, some ((0, 100), 0), [], []))], [], [], 0, [])]
theorem as_m_X10_isOption : a_spec a_tb aC_m_X10_isOption := a_meth (Sp := []) (hd := aH_m_X10_isOption) (mi := xmi_X10_isOption) 13 rfl a_sp_n (by decide +kernel) (by decide +kernel)
/-- X9_inForce -/
def aC_m_X9_inForce : aC := (xi_X9_inForce, 0, [(2, 0, 0, none, [], []), (0, (-2147483648), 2147483647, none, [], [])], [(some (2, 11, 0, none, [], []), [])], [], [])
def aH_m_X9_inForce : List aH := [(0, [(0, (2, 0, 0, none, [], [])), (1, (0, (-2147483648), 2147483647, some ((0, 101), 0), [], []))], [], [((0, 8), (0, 0, 8, some ((1, 8), 0), [], []))], 9, []),
  (7, [(0, (2, 0, 0, none, [], [])), (1, (0, (-2147483648), 2147483647, some ((0, 101), 0), [], [])), (2, (2, 11, 0, none, [], [])), (3, (0, 0, 8, some ((0, 3), 0), [], []))], [], [((0, 8), (0, 0, 8, some ((1, 8), 0), [], []))], 8, [((-1), (0, 3))])]
theorem as_m_X9_inForce : a_spec a_tb aC_m_X9_inForce := a_meth (Sp := []) (hd := aH_m_X9_inForce) (mi := xmi_X9_inForce) 29 rfl a_sp_n (by decide +kernel) (by decide +kernel)
/-- X1_judge -/
def aC_m_X1_judge : aC := (xi_X1_judge, 0, [(2, 35, 0, none, [], []), (0, 0, 4095, none, [], []), (0, (-2147483648), 2147483647, none, [], [])], [(some (0, 0, 3, none, [], []), [])], [], [])
def aH_m_X1_judge : List aH := [(0, [(0, (2, 35, 0, none, [], [])), (1, (0, 0, 4095, some ((0, 101), 0), [], [])), (2, (0, (-2147483648), 2147483647, some ((0, 102), 0), [], []))], [], [((35, 3), (0, 0, 60, some ((36, 3), 0), [], []))], 61, []),
  (8, [(0, (2, 35, 0, none, [], [])), (1, (0, 0, 4095, some ((0, 101), 0), [], [])), (2, (0, (-2147483648), 2147483647, some ((0, 102), 0), [], [])), (3, (0, 0, 1, some ((0, 3), 0), [], [])), (4, (0, 0, 1, some ((0, 4), 0), [], [])), (5, (0, 0, 60, some ((0, 5), 0), [], []))], [], [((35, 3), (0, 0, 60, some ((36, 3), 0), [], []))], 60, [((-1), (0, 5))])]
theorem as_m_X1_judge : a_spec a_tb aC_m_X1_judge := a_meth (Sp := []) (hd := aH_m_X1_judge) (mi := xmi_X1_judge) 56 rfl a_sp_n (by decide +kernel) (by decide +kernel)
/-- X10_sureOf -/
def aC_m_X10_sureOf : aC := (xi_X10_sureOf, 0, [(2, 39, 0, none, [], []), (0, 0, 4095, none, [], []), (0, (-2147483648), 2147483647, none, [], [])], [(some (0, 0, 3, none, [], []), [])], [], [])
def aH_m_X10_sureOf : List aH := [(0, [(0, (2, 39, 0, none, [], [])), (1, (0, 0, 4095, some ((0, 101), 0), [], [])), (2, (0, (-2147483648), 2147483647, some ((0, 102), 0), [], []))], [], [((39, 63), (0, 0, 60, some ((40, 63), 0), [], []))], 61, []),
  (8, [(0, (2, 39, 0, none, [], [])), (1, (0, 0, 4095, some ((0, 101), 0), [], [])), (2, (0, (-2147483648), 2147483647, some ((0, 102), 0), [], [])), (3, (0, 0, 1, some ((0, 3), 0), [], [])), (4, (0, 0, 1, some ((0, 4), 0), [], [])), (5, (0, 0, 60, some ((0, 5), 0), [], []))], [], [((39, 63), (0, 0, 60, some ((40, 63), 0), [], []))], 60, [((-1), (0, 5))])]
theorem as_m_X10_sureOf : a_spec a_tb aC_m_X10_sureOf := a_meth (Sp := []) (hd := aH_m_X10_sureOf) (mi := xmi_X10_sureOf) 51 rfl a_sp_n (by decide +kernel) (by decide +kernel)
/-- X7_add -/
def aC_m_X7_add : aC := (xi_X7_add, 0, [(2, 11, 0, none, [], []), (0, 0, 4095, none, [], [])], [(none, [])], [], [])
def aH_m_X7_add : List aH := [(0, [(0, (2, 11, 0, none, [], [])), (1, (0, 0, 4095, some ((0, 101), 0), [], []))], [], [], 0, [])]
theorem as_m_X7_add : a_spec a_tb aC_m_X7_add := a_meth (Sp := []) (hd := aH_m_X7_add) (mi := xmi_X7_add) 27 rfl a_sp_n (by decide +kernel) (by decide +kernel)
/-- X3_clear -/
def aC_m_X3_clear : aC := (xi_X3_clear, 0, [(2, 4, 0, none, [], [])], [(none, [])], [(4, 3)], [])
def aH_m_X3_clear : List aH := [(0, [(0, (2, 4, 0, none, [], []))], [], [], 0, [])]
theorem as_m_X3_clear : a_spec a_tb aC_m_X3_clear := a_meth (Sp := []) (hd := aH_m_X3_clear) (mi := xmi_X3_clear) 9 rfl a_sp_n (by decide +kernel) (by decide +kernel)
/-- X10_inForce -/
def aC_m_X10_inForce : aC := (xi_X10_inForce, 0, [(2, 39, 0, none, [], []), (0, (-2147483648), 2147483647, none, [], []), (0, (-2147483648), 2147483647, none, [], [])], [(some (0, (-1), 7, none, [], []), [])], [], [])
def aH_m_X10_inForce : List aH := [(0, [(0, (2, 39, 0, none, [], [])), (1, (0, (-2147483648), 2147483647, some ((0, 101), 0), [], [])), (2, (0, (-2147483648), 2147483647, some ((0, 102), 0), [], []))], [], [((39, 33), (0, 0, 8, some ((40, 33), 0), [], []))], 9, []),
  (5, [(0, (2, 39, 0, none, [], [])), (1, (0, (-2147483648), 2147483647, some ((0, 101), 0), [], [])), (2, (0, (-2147483648), 2147483647, some ((0, 102), 0), [], [])), (3, (0, (-1), 7, some ((0, 3), 0), [], [])), (4, (0, 0, 8, some ((0, 4), 0), [], []))], [], [((39, 33), (0, 0, 8, some ((40, 33), 0), [], []))], 8, [((-1), (0, 4))])]
theorem as_m_X10_inForce : a_spec a_tb aC_m_X10_inForce := a_meth (Sp := []) (hd := aH_m_X10_inForce) (mi := xmi_X10_inForce) 38 rfl a_sp_n (by decide +kernel) (by decide +kernel)
/-- X8_put -/
def aC_m_X8_put : aC := (xi_X8_put, 0, [(2, 1, 0, none, [], []), (0, (-2147483648), 2147483647, none, [], [])], [(none, [])], [(1, 1), (2, 0)], [])
def aH_m_X8_put : List aH := [(0, [(0, (2, 1, 0, none, [], [])), (1, (0, (-2147483648), 2147483647, some ((0, 101), 0), [], []))], [], [((1, 1), (0, 0, 640, some ((2, 1), 0), [], []))], 33, []),
  (3, [(0, (2, 1, 0, none, [], [])), (1, (0, (-2147483648), 2147483647, some ((0, 101), 0), [], [])), (2, (0, (-8), 24, some ((0, 2), 0), [], []))], [], [((1, 1), (0, 0, 640, some ((2, 1), 0), [], []))], 8, [(1, (0, 2))])]
theorem as_m_X8_put : a_spec a_tb aC_m_X8_put := a_meth (Sp := []) (hd := aH_m_X8_put) (mi := xmi_X8_put) 29 rfl a_sp_n (by decide +kernel) (by decide +kernel)
/-- X7_holds -/
def aC_m_X7_holds : aC := (xi_X7_holds, 0, [(2, 11, 0, none, [], []), (0, 0, 4095, none, [], [])], [(some (0, 0, 1, none, [], []), [])], [], [])
def aH_m_X7_holds : List aH := [(0, [(0, (2, 11, 0, none, [], [])), (1, (0, 0, 4095, some ((0, 101), 0), [], []))], [], [], 0, [])]
theorem as_m_X7_holds : a_spec a_tb aC_m_X7_holds := a_meth (Sp := []) (hd := aH_m_X7_holds) (mi := xmi_X7_holds) 30 rfl a_sp_n (by decide +kernel) (by decide +kernel)
/-- X10_isIn@0:0,2:2 -/
def aC_m_X10_isIn_0_0_2_2 : aC := (xi_X10_isIn, 0, [(0, (-2147483648), 2147483647, none, [], []), (0, 0, 0, none, [], []), (0, 2, 2, none, [], [])], [(some (0, 0, 1, none, [((0, 100), 0, 2)], []), [])], [], [])
def aH_m_X10_isIn_0_0_2_2 : List aH := [(0, [(0, (0, (-2147483648), 2147483647, some ((0, 100), 0), [], [])), (1, (0, 0, 0, some ((0, 101), 0), [], [])), (2, (0, 2, 2, some ((0, 102), 0), [], []))], [], [], 0, [])]
theorem as_m_X10_isIn_0_0_2_2 : a_spec a_tb aC_m_X10_isIn_0_0_2_2 := a_meth (Sp := []) (hd := aH_m_X10_isIn_0_0_2_2) (mi := xmi_X10_isIn) 14 rfl a_sp_n (by decide +kernel) (by decide +kernel)
/-- X10_refuse -/
def aC_m_X10_refuse : aC := (xi_X10_refuse, 0, [(2, 39, 0, none, [], [])], [(some (0, 0, 0, none, [], []), [])], [(39, 0)], [])
def aH_m_X10_refuse : List aH := [(0, [(0, (2, 39, 0, none, [], []))], [], [], 0, [])]
theorem as_m_X10_refuse : a_spec a_tb aC_m_X10_refuse := a_meth (Sp := []) (hd := aH_m_X10_refuse) (mi := xmi_X10_refuse) 10 rfl a_sp_n (by decide +kernel) (by decide +kernel)
end XB1
