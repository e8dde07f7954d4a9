section
section XB1
/-- X9_end -/
def aC_m_X9_end : aC := (xi_X9_end, 0, [(2, 0, 0, none, [], []), (0, (-2147483648), 2147483647, none, [], [])], [(some (0, 0, 1, none, [((0, 101), 0, 640)], []), [])], [(1, 1)], [])
def aH_m_X9_end : List aH := [(0, [(0, (2, 0, 0, none, [], [])), (1, (0, (-2147483648), 2147483647, some ((0, 101), 0), [], []))], [], [((1, 1), (0, 0, 640, some ((2, 1), 0), [], []))], 0, [])]
theorem as_m_X9_end : a_spec a_tb aC_m_X9_end := a_meth (Sp := []) (hd := aH_m_X9_end) (mi := xmi_X9_end) 18 rfl a_sp_n (by decide +kernel) (by decide +kernel)
/-- X10_end -/
def aC_m_X10_end : aC := (xi_X10_end, 0, [(2, 39, 0, none, [], []), (0, (-2147483648), 2147483647, none, [], [])], [(some (0, 0, 1, none, [((0, 101), 0, 640)], []), [])], [(39, 0), (39, 2)], [])
def aH_m_X10_end : List aH := [(0, [(0, (2, 39, 0, none, [], [])), (1, (0, (-2147483648), 2147483647, some ((0, 101), 0), [], []))], [], [((39, 2), (0, 0, 640, some ((40, 2), 0), [], []))], 0, [])]
theorem as_m_X10_end : a_spec a_tb aC_m_X10_end := a_meth (Sp := []) (hd := aH_m_X10_end) (mi := xmi_X10_end) 19 rfl a_sp_n (by decide +kernel) (by decide +kernel)
/-- X9_next -/
def aC_m_X9_next : aC := (xi_X9_next, 0, [(2, 0, 0, none, [], []), (0, (-2147483648), 2147483647, none, [], [])], [(some (0, (-2147483648), 2147483647, none, [], []), [])], [(0, 10)], [])
def aH_m_X9_next : List aH := [(0, [(0, (2, 0, 0, none, [], [])), (1, (0, (-2147483648), 2147483647, some ((0, 101), 0), [], []))], [], [((0, 10), (0, (-2147483648), 2147483647, some ((1, 10), 0), [], []))], 0, [])]
theorem as_m_X9_next : a_spec a_tb aC_m_X9_next := a_meth (Sp := []) (hd := aH_m_X9_next) (mi := xmi_X9_next) 25 rfl a_sp_n (by decide +kernel) (by decide +kernel)
/-- X9_fault -/
def aC_m_X9_fault : aC := (xi_X9_fault, 0, [(2, 0, 0, none, [], [])], [(some (0, 0, 4, none, [], []), [])], [], [])
def aH_m_X9_fault : List aH := [(0, [(0, (2, 0, 0, none, [], []))], [], [((0, 11), (0, 0, 4, some ((1, 11), 0), [], []))], 0, [])]
theorem as_m_X9_fault : a_spec a_tb aC_m_X9_fault := a_meth (Sp := []) (hd := aH_m_X9_fault) (mi := xmi_X9_fault) 8 rfl a_sp_n (by decide +kernel) (by decide +kernel)
/-- X10_fault -/
def aC_m_X10_fault : aC := (xi_X10_fault, 0, [(2, 39, 0, none, [], [])], [(some (0, 0, 4, none, [], []), [])], [(39, 0)], [])
def aH_m_X10_fault : List aH := [(0, [(0, (2, 39, 0, none, [], []))], [], [((39, 13), (0, 0, 4, some ((40, 13), 0), [], []))], 0, [])]
theorem as_m_X10_fault : a_spec a_tb aC_m_X10_fault := a_meth (Sp := []) (hd := aH_m_X10_fault) (mi := xmi_X10_fault) 11 rfl a_sp_n (by decide +kernel) (by decide +kernel)
/-- X10_weight -/
def aC_m_X10_weight : aC := (xi_X10_weight, 0, [(2, 39, 0, none, [], []), (0, (-2147483648), 2147483647, none, [], [])], [(some (0, (-2147483648), 100000, none, [], []), [])], [(39, 0)], [])
def aH_m_X10_weight : List aH := [(0, [(0, (2, 39, 0, none, [], [])), (1, (0, (-2147483648), 2147483647, some ((0, 101), 0), [], []))], [], [((39, 51), (0, 0, 1, some ((40, 51), 0), [], [])), ((39, 52), (0, 0, 12, some ((40, 52), 0), [], []))], 0, [])]
theorem as_m_X10_weight : a_spec a_tb aC_m_X10_weight := a_meth (Sp := []) (hd := aH_m_X10_weight) (mi := xmi_X10_weight) 26 rfl a_sp_n (by decide +kernel) (by decide +kernel)
/-- X9_count -/
def aC_m_X9_count : aC := (xi_X9_count, 0, [(2, 0, 0, none, [], []), (0, (-2147483648), 2147483647, none, [], [])], [(some (0, (-2147483648), 2147483647, none, [], []), [])], [], [])
def aH_m_X9_count : List aH := [(0, [(0, (2, 0, 0, none, [], [])), (1, (0, (-2147483648), 2147483647, some ((0, 101), 0), [], []))], [], [((0, 8), (0, 0, 8, some ((1, 8), 0), [], [])), ((0, 9), (0, 1, 12, some ((1, 9), 0), [], [])), ((0, 10), (0, (-2147483648), 2147483647, some ((1, 10), 0), [], [])), ((1, 1), (0, 0, 640, some ((2, 1), 0), [], [])), ((35, 3), (0, 0, 60, some ((36, 3), 0), [], []))], 0, [])]
theorem as_m_X9_count : a_spec a_tb aC_m_X9_count := a_meth (Sp := []) (hd := aH_m_X9_count) (mi := xmi_X9_count) 11 rfl a_sp_n (by decide +kernel) (by decide +kernel)
/-- X10_count -/
def aC_m_X10_count : aC := (xi_X10_count, 0, [(2, 39, 0, none, [], []), (0, (-2147483648), 2147483647, none, [], [])], [(some (0, (-2147483648), 2147483647, none, [], []), [])], [(39, 0)], [])
def aH_m_X10_count : List aH := [(0, [(0, (2, 39, 0, none, [], [])), (1, (0, (-2147483648), 2147483647, some ((0, 101), 0), [], []))], [], [((39, 2), (0, 0, 640, some ((40, 2), 0), [], [])), ((39, 3), (0, (-2147483648), 2147483647, some ((40, 3), 0), [], [])), ((39, 4), (0, 1, 12, some ((40, 4), 0), [], [])), ((39, 33), (0, 0, 8, some ((40, 33), 0), [], [])), ((39, 63), (0, 0, 60, some ((40, 63), 0), [], []))], 0, [])]
theorem as_m_X10_count : a_spec a_tb aC_m_X10_count := a_meth (Sp := []) (hd := aH_m_X10_count) (mi := xmi_X10_count) 13 rfl a_sp_n (by decide +kernel) (by decide +kernel)
/-- X8_hasRoom -/
def aC_m_X8_hasRoom : aC := (xi_X8_hasRoom, 0, [(2, 1, 0, none, [], [])], [(some (0, 0, 1, none, [], []), [])], [], [])
def aH_m_X8_hasRoom : List aH := [(0, [(0, (2, 1, 0, none, [], []))], [], [((1, 1), (0, 0, 640, some ((2, 1), 0), [], []))], 0, [])]
theorem as_m_X8_hasRoom : a_spec a_tb aC_m_X8_hasRoom := a_meth (Sp := []) (hd := aH_m_X8_hasRoom) (mi := xmi_X8_hasRoom) 14 rfl a_sp_n (by decide +kernel) (by decide +kernel)
/-- X10_isIn@0:0,999:999 -/
def aC_m_X10_isIn_0_0_999_999 : aC := (xi_X10_isIn, 0, [(0, (-2147483648), 2147483647, none, [], []), (0, 0, 0, none, [], []), (0, 999, 999, none, [], [])], [(some (0, 0, 1, none, [((0, 100), 0, 999)], []), [])], [], [])
def aH_m_X10_isIn_0_0_999_999 : List aH := [(0, [(0, (0, (-2147483648), 2147483647, some ((0, 100), 0), [], [])), (1, (0, 0, 0, some ((0, 101), 0), [], [])), (2, (0, 999, 999, some ((0, 102), 0), [], []))], [], [], 0, [])]
theorem as_m_X10_isIn_0_0_999_999 : a_spec a_tb aC_m_X10_isIn_0_0_999_999 := a_meth (Sp := []) (hd := aH_m_X10_isIn_0_0_999_999) (mi := xmi_X10_isIn) 14 rfl a_sp_n (by decide +kernel) (by decide +kernel)
/-- X10_isIn@1:1,12:12 -/
def aC_m_X10_isIn_1_1_12_12 : aC := (xi_X10_isIn, 0, [(0, (-2147483648), 2147483647, none, [], []), (0, 1, 1, none, [], []), (0, 12, 12, none, [], [])], [(some (0, 0, 1, none, [((0, 100), 1, 12)], []), [])], [], [])
def aH_m_X10_isIn_1_1_12_12 : List aH := [(0, [(0, (0, (-2147483648), 2147483647, some ((0, 100), 0), [], [])), (1, (0, 1, 1, some ((0, 101), 0), [], [])), (2, (0, 12, 12, some ((0, 102), 0), [], []))], [], [], 0, [])]
theorem as_m_X10_isIn_1_1_12_12 : a_spec a_tb aC_m_X10_isIn_1_1_12_12 := a_meth (Sp := []) (hd := aH_m_X10_isIn_1_1_12_12) (mi := xmi_X10_isIn) 14 rfl a_sp_n (by decide +kernel) (by decide +kernel)
/-- X10_take -/
def aC_m_X10_take : aC := (xi_X10_take, 0, [(2, 39, 0, none, [], [])], [(some (0, 0, 640, none, [], []), [])], [(39, 2)], [])
def aH_m_X10_take : List aH := [(0, [(0, (2, 39, 0, none, [], []))], [], [((39, 2), (0, 0, 640, some ((40, 2), 0), [], []))], 0, [])]
theorem as_m_X10_take : a_spec a_tb aC_m_X10_take := a_meth (Sp := []) (hd := aH_m_X10_take) (mi := xmi_X10_take) 13 rfl a_sp_n (by decide +kernel) (by decide +kernel)
/-- X9_isSet -/
def aC_m_X9_isSet : aC := (xi_X9_isSet, 0, [(2, 0, 0, none, [], []), (0, (-2147483648), 2147483647, none, [], [])], [(some (0, 0, 1, none, [((0, 101), 0, 4095)], []), [])], [], [])
def aH_m_X9_isSet : List aH := [(0, [(0, (2, 0, 0, none, [], [])), (1, (0, (-2147483648), 2147483647, some ((0, 101), 0), [], []))], [], [((0, 9), (0, 1, 12, some ((1, 9), 0), [], []))], 0, [])]
theorem as_m_X9_isSet : a_spec a_tb aC_m_X9_isSet := a_meth (Sp := []) (hd := aH_m_X9_isSet) (mi := xmi_X9_isSet) 16 rfl a_sp_n (by decide +kernel) (by decide +kernel)
/-- X10_isSet -/
def aC_m_X10_isSet : aC := (xi_X10_isSet, 0, [(2, 39, 0, none, [], []), (0, (-2147483648), 2147483647, none, [], [])], [(some (0, 0, 1, none, [((0, 101), 0, 4095)], []), [])], [], [])
def aH_m_X10_isSet : List aH := [(0, [(0, (2, 39, 0, none, [], [])), (1, (0, (-2147483648), 2147483647, some ((0, 101), 0), [], []))], [], [((39, 4), (0, 1, 12, some ((40, 4), 0), [], []))], 0, [])]
theorem as_m_X10_isSet : a_spec a_tb aC_m_X10_isSet := a_meth (Sp := []) (hd := aH_m_X10_isSet) (mi := xmi_X10_isSet) 16 rfl a_sp_n (by decide +kernel) (by decide +kernel)
/-- X10_isIn@1:1,4:4 -/
def aC_m_X10_isIn_1_1_4_4 : aC := (xi_X10_isIn, 0, [(0, (-2147483648), 2147483647, none, [], []), (0, 1, 1, none, [], []), (0, 4, 4, none, [], [])], [(some (0, 0, 1, none, [((0, 100), 1, 4)], []), [])], [], [])
def aH_m_X10_isIn_1_1_4_4 : List aH := [(0, [(0, (0, (-2147483648), 2147483647, some ((0, 100), 0), [], [])), (1, (0, 1, 1, some ((0, 101), 0), [], [])), (2, (0, 4, 4, some ((0, 102), 0), [], []))], [], [], 0, [])]
theorem as_m_X10_isIn_1_1_4_4 : a_spec a_tb aC_m_X10_isIn_1_1_4_4 := a_meth (Sp := []) (hd := aH_m_X10_isIn_1_1_4_4) (mi := xmi_X10_isIn) 14 rfl a_sp_n (by decide +kernel) (by decide +kernel)
/-- X9_isMember -/
def aC_m_X9_isMember : aC := (xi_X9_isMember, 0, [(2, 0, 0, none, [], []), (0, (-2147483648), 2147483647, none, [], [])], [(some (0, 0, 1, none, [((0, 101), 0, 11)], []), [])], [], [])
def aH_m_X9_isMember : List aH := [(0, [(0, (2, 0, 0, none, [], [])), (1, (0, (-2147483648), 2147483647, some ((0, 101), 0), [], []))], [], [((0, 9), (0, 1, 12, some ((1, 9), 0), [], []))], 0, [])]
theorem as_m_X9_isMember : a_spec a_tb aC_m_X9_isMember := a_meth (Sp := []) (hd := aH_m_X9_isMember) (mi := xmi_X9_isMember) 14 rfl a_sp_n (by decide +kernel) (by decide +kernel)
/-- X10_isMember -/
def aC_m_X10_isMember : aC := (xi_X10_isMember, 0, [(2, 39, 0, none, [], []), (0, (-2147483648), 2147483647, none, [], [])], [(some (0, 0, 1, none, [((0, 101), 0, 11)], []), [])], [], [])
def aH_m_X10_isMember : List aH := [(0, [(0, (2, 39, 0, none, [], [])), (1, (0, (-2147483648), 2147483647, some ((0, 101), 0), [], []))], [], [((39, 4), (0, 1, 12, some ((40, 4), 0), [], []))], 0, [])]
theorem as_m_X10_isMember : a_spec a_tb aC_m_X10_isMember := a_meth (Sp := []) (hd := aH_m_X10_isMember) (mi := xmi_X10_isMember) 14 rfl a_sp_n (by decide +kernel) (by decide +kernel)
/-- X10_isIn@0:0,10:10 -/
def aC_m_X10_isIn_0_0_10_10 : aC := (xi_X10_isIn, 0, [(0, (-2147483648), 2147483647, none, [], []), (0, 0, 0, none, [], []), (0, 10, 10, none, [], [])], [(some (0, 0, 1, none, [((0, 100), 0, 10)], []), [])], [], [])
def aH_m_X10_isIn_0_0_10_10 : List aH := [(0, [(0, (0, (-2147483648), 2147483647, some ((0, 100), 0), [], [])), (1, (0, 0, 0, some ((0, 101), 0), [], [])), (2, (0, 10, 10, some ((0, 102), 0), [], []))], [], [], 0, [])]
theorem as_m_X10_isIn_0_0_10_10 : a_spec a_tb aC_m_X10_isIn_0_0_10_10 := a_meth (Sp := []) (hd := aH_m_X10_isIn_0_0_10_10) (mi := xmi_X10_isIn) 14 rfl a_sp_n (by decide +kernel) (by decide +kernel)
/-- X0_isOption -/
def aC_m_X0_isOption : aC := (xi_X0_isOption, 0, [(0, (-2147483648), 2147483647, none, [], [])], [(some (0, 0, 1, none, [((0, 100), 0, 6)], []), [])], [], [])
def aH_m_X0_isOption : List aH := [(0, [(0, (0, (-2147483648), 2147483647, some ((0, 100), 0), [], []))], [], [], 0, [])]
theorem as_m_X0_isOption : a_spec a_tb aC_m_X0_isOption := a_meth (Sp := []) (hd := aH_m_X0_isOption) (mi := xmi_X0_isOption) 13 rfl a_sp_n (by decide +kernel) (by decide +kernel)
/-- X10_isOption -/
def aC_m_X10_isOption : aC := (xi_X10_isOption, 0, [(0, (-2147483648), 2147483647, none, [], [])], [(some (0, 0, 1, none, [((0, 100), 0, 6)], []), [])], [], [])
def aH_m_X10_isOption : List aH := [(0, [(0, (0, (-2147483648), 2147483647, some ((0, 100), 0), [], []))], [], [], 0, [])]
theorem as_m_X10_isOption : a_spec a_tb aC_m_X10_isOption := a_meth (Sp := []) (hd := aH_m_X10_isOption) (mi := xmi_X10_isOption) 13 rfl a_sp_n (by decide +kernel) (by decide +kernel)
/-- X9_inForce -/
def aC_m_X9_inForce : aC := (xi_X9_inForce, 0, [(2, 0, 0, none, [], []), (0, (-2147483648), 2147483647, none, [], [])], [(some (2, 11, 0, none, [], []), [])], [], [])
def aH_m_X9_inForce : List aH := [(0, [(0, (2, 0, 0, none, [], [])), (1, (0, (-2147483648), 2147483647, some ((0, 101), 0), [], []))], [], [((0, 8), (0, 0, 8, some ((1, 8), 0), [], []))], 9, []),
  (7, [(0, (2, 0, 0, none, [], [])), (1, (0, (-2147483648), 2147483647, some ((0, 101), 0), [], [])), (2, (2, 11, 0, none, [], [])), (3, (0, 0, 8, some ((0, 3), 0), [], []))], [], [((0, 8), (0, 0, 8, some ((1, 8), 0), [], []))], 8, [((-1), (0, 3))])]
theorem as_m_X9_inForce : a_spec a_tb aC_m_X9_inForce := a_meth (Sp := []) (hd := aH_m_X9_inForce) (mi := xmi_X9_inForce) 29 rfl a_sp_n (by decide +kernel) (by decide +kernel)
/-- X1_judge -/
def aC_m_X1_judge : aC := (xi_X1_judge, 0, [(2, 35, 0, none, [], []), (0, 0, 4095, none, [], []), (0, (-2147483648), 2147483647, none, [], [])], [(some (0, 0, 3, none, [], []), [])], [], [])
def aH_m_X1_judge : List aH := [(0, [(0, (2, 35, 0, none, [], [])), (1, (0, 0, 4095, some ((0, 101), 0), [], [])), (2, (0, (-2147483648), 2147483647, some ((0, 102), 0), [], []))], [], [((35, 3), (0, 0, 60, some ((36, 3), 0), [], []))], 61, []),
  (8, [(0, (2, 35, 0, none, [], [])), (1, (0, 0, 4095, some ((0, 101), 0), [], [])), (2, (0, (-2147483648), 2147483647, some ((0, 102), 0), [], [])), (3, (0, 0, 1, some ((0, 3), 0), [], [])), (4, (0, 0, 1, some ((0, 4), 0), [], [])), (5, (0, 0, 60, some ((0, 5), 0), [], []))], [], [((35, 3), (0, 0, 60, some ((36, 3), 0), [], []))], 60, [((-1), (0, 5))])]
theorem as_m_X1_judge : a_spec a_tb aC_m_X1_judge := a_meth (Sp := []) (hd := aH_m_X1_judge) (mi := xmi_X1_judge) 56 rfl a_sp_n (by decide +kernel) (by decide +kernel)
/-- X10_sureOf -/
def aC_m_X10_sureOf : aC := (xi_X10_sureOf, 0, [(2, 39, 0, none, [], []), (0, 0, 4095, none, [], []), (0, (-2147483648), 2147483647, none, [], [])], [(some (0, 0, 3, none, [], []), [])], [], [])
def aH_m_X10_sureOf : List aH := [(0, [(0, (2, 39, 0, none, [], [])), (1, (0, 0, 4095, some ((0, 101), 0), [], [])), (2, (0, (-2147483648), 2147483647, some ((0, 102), 0), [], []))], [], [((39, 63), (0, 0, 60, some ((40, 63), 0), [], []))], 61, []),
  (8, [(0, (2, 39, 0, none, [], [])), (1, (0, 0, 4095, some ((0, 101), 0), [], [])), (2, (0, (-2147483648), 2147483647, some ((0, 102), 0), [], [])), (3, (0, 0, 1, some ((0, 3), 0), [], [])), (4, (0, 0, 1, some ((0, 4), 0), [], [])), (5, (0, 0, 60, some ((0, 5), 0), [], []))], [], [((39, 63), (0, 0, 60, some ((40, 63), 0), [], []))], 60, [((-1), (0, 5))])]
theorem as_m_X10_sureOf : a_spec a_tb aC_m_X10_sureOf := a_meth (Sp := []) (hd := aH_m_X10_sureOf) (mi := xmi_X10_sureOf) 51 rfl a_sp_n (by decide +kernel) (by decide +kernel)
/-- X7_add -/
def aC_m_X7_add : aC := (xi_X7_add, 0, [(2, 11, 0, none, [], []), (0, 0, 4095, none, [], [])], [(none, [])], [], [])
def aH_m_X7_add : List aH := [(0, [(0, (2, 11, 0, none, [], [])), (1, (0, 0, 4095, some ((0, 101), 0), [], []))], [], [], 0, [])]
theorem as_m_X7_add : a_spec a_tb aC_m_X7_add := a_meth (Sp := []) (hd := aH_m_X7_add) (mi := xmi_X7_add) 27 rfl a_sp_n (by decide +kernel) (by decide +kernel)
/-- X3_clear -/
def aC_m_X3_clear : aC := (xi_X3_clear, 0, [(2, 4, 0, none, [], [])], [(none, [])], [(4, 3)], [])
def aH_m_X3_clear : List aH := [(0, [(0, (2, 4, 0, none, [], []))], [], [], 0, [])]
theorem as_m_X3_clear : a_spec a_tb aC_m_X3_clear := a_meth (Sp := []) (hd := aH_m_X3_clear) (mi := xmi_X3_clear) 9 rfl a_sp_n (by decide +kernel) (by decide +kernel)
/-- X10_inForce -/
def aC_m_X10_inForce : aC := (xi_X10_inForce, 0, [(2, 39, 0, none, [], []), (0, (-2147483648), 2147483647, none, [], []), (0, (-2147483648), 2147483647, none, [], [])], [(some (0, (-1), 7, none, [], []), [])], [], [])
def aH_m_X10_inForce : List aH := [(0, [(0, (2, 39, 0, none, [], [])), (1, (0, (-2147483648), 2147483647, some ((0, 101), 0), [], [])), (2, (0, (-2147483648), 2147483647, some ((0, 102), 0), [], []))], [], [((39, 33), (0, 0, 8, some ((40, 33), 0), [], []))], 9, []),
  (5, [(0, (2, 39, 0, none, [], [])), (1, (0, (-2147483648), 2147483647, some ((0, 101), 0), [], [])), (2, (0, (-2147483648), 2147483647, some ((0, 102), 0), [], [])), (3, (0, (-1), 7, some ((0, 3), 0), [], [])), (4, (0, 0, 8, some ((0, 4), 0), [], []))], [], [((39, 33), (0, 0, 8, some ((40, 33), 0), [], []))], 8, [((-1), (0, 4))])]
theorem as_m_X10_inForce : a_spec a_tb aC_m_X10_inForce := a_meth (Sp := []) (hd := aH_m_X10_inForce) (mi := xmi_X10_inForce) 38 rfl a_sp_n (by decide +kernel) (by decide +kernel)
/-- X8_put -/
def aC_m_X8_put : aC := (xi_X8_put, 0, [(2, 1, 0, none, [], []), (0, (-2147483648), 2147483647, none, [], [])], [(none, [])], [(1, 1), (2, 0)], [])
def aH_m_X8_put : List aH := [(0, [(0, (2, 1, 0, none, [], [])), (1, (0, (-2147483648), 2147483647, some ((0, 101), 0), [], []))], [], [((1, 1), (0, 0, 640, some ((2, 1), 0), [], []))], 33, []),
  (3, [(0, (2, 1, 0, none, [], [])), (1, (0, (-2147483648), 2147483647, some ((0, 101), 0), [], [])), (2, (0, (-8), 24, some ((0, 2), 0), [], []))], [], [((1, 1), (0, 0, 640, some ((2, 1), 0), [], []))], 8, [(1, (0, 2))])]
theorem as_m_X8_put : a_spec a_tb aC_m_X8_put := a_meth (Sp := []) (hd := aH_m_X8_put) (mi := xmi_X8_put) 29 rfl a_sp_n (by decide +kernel) (by decide +kernel)
/-- X7_holds -/
def aC_m_X7_holds : aC := (xi_X7_holds, 0, [(2, 11, 0, none, [], []), (0, 0, 4095, none, [], [])], [(some (0, 0, 1, none, [], []), [])], [], [])
def aH_m_X7_holds : List aH := [(0, [(0, (2, 11, 0, none, [], [])), (1, (0, 0, 4095, some ((0, 101), 0), [], []))], [], [], 0, [])]
theorem as_m_X7_holds : a_spec a_tb aC_m_X7_holds := a_meth (Sp := []) (hd := aH_m_X7_holds) (mi := xmi_X7_holds) 30 rfl a_sp_n (by decide +kernel) (by decide +kernel)
/-- X10_isIn@0:0,2:2 -/
def aC_m_X10_isIn_0_0_2_2 : aC := (xi_X10_isIn, 0, [(0, (-2147483648), 2147483647, none, [], []), (0, 0, 0, none, [], []), (0, 2, 2, none, [], [])], [(some (0, 0, 1, none, [((0, 100), 0, 2)], []), [])], [], [])
def aH_m_X10_isIn_0_0_2_2 : List aH := [(0, [(0, (0, (-2147483648), 2147483647, some ((0, 100), 0), [], [])), (1, (0, 0, 0, some ((0, 101), 0), [], [])), (2, (0, 2, 2, some ((0, 102), 0), [], []))], [], [], 0, [])]
theorem as_m_X10_isIn_0_0_2_2 : a_spec a_tb aC_m_X10_isIn_0_0_2_2 := a_meth (Sp := []) (hd := aH_m_X10_isIn_0_0_2_2) (mi := xmi_X10_isIn) 14 rfl a_sp_n (by decide +kernel) (by decide +kernel)
/-- X10_refuse -/
def aC_m_X10_refuse : aC := (xi_X10_refuse, 0, [(2, 39, 0, none, [], [])], [(some (0, 0, 0, none, [], []), [])], [(39, 0)], [])
def aH_m_X10_refuse : List aH := [(0, [(0, (2, 39, 0, none, [], []))], [], [], 0, [])]
theorem as_m_X10_refuse : a_spec a_tb aC_m_X10_refuse := a_meth (Sp := []) (hd := aH_m_X10_refuse) (mi := xmi_X10_refuse) 10 rfl a_sp_n (by decide +kernel) (by decide +kernel)
end XB1
end
section
section XB1
/-- X0_whoPrefer -/
def aC_m_X0_whoPrefer : aC := (xi_X0_whoPrefer, 0, [(2, 28, 0, none, [], []), (0, 0, 6, none, [], []), (0, 0, 6, none, [], []), (0, 1, 12, none, [], [])], [(some (0, 0, 4095, none, [], []), [])], [], [])
def aH_m_X0_whoPrefer : List aH := [(0, [(0, (2, 28, 0, none, [], [])), (1, (0, 0, 6, some ((0, 101), 0), [], [])), (2, (0, 0, 6, some ((0, 102), 0), [], [])), (3, (0, 1, 12, some ((0, 103), 0), [], []))], [], [], 13, []),
  (6, [(0, (2, 28, 0, none, [], [])), (1, (0, 0, 6, some ((0, 101), 0), [], [])), (2, (0, 0, 6, some ((0, 102), 0), [], [])), (3, (0, 1, 12, some ((0, 103), 0), [], [])), (4, (0, 0, 4095, some ((0, 4), 0), [], [])), (5, (0, 0, 12, some ((0, 5), 0), [], []))], [], [], 12, [((-1), (0, 5))])]
theorem as_m_X0_whoPrefer : a_spec a_tb aC_m_X0_whoPrefer := a_meth (Sp := []) (hd := aH_m_X0_whoPrefer) (mi := xmi_X0_whoPrefer) 34 rfl a_sp_n (by decide +kernel) (by decide +kernel)
/-- X0_match -/
def aC_m_X0_match : aC := (xi_X0_match, 1, [(2, 28, 0, none, [], []), (2, 11, 0, none, [], []), (0, 1, 12, none, [], [])], [(none, [])], [(31, 0)], [])
def aH_m_X0_match : List aH := [(0, [(0, (2, 28, 0, none, [], [])), (1, (2, 11, 0, none, [], [])), (2, (0, 1, 12, some ((0, 102), 0), [], []))], [], [], 72, []),
  (18, [(0, (2, 28, 0, none, [], [])), (1, (2, 11, 0, none, [], [])), (2, (0, 1, 12, some ((0, 102), 0), [], [])), (3, (0, 0, 6, some ((0, 3), 0), [], [])), (4, (0, 0, 7, some ((0, 4), 0), [], []))], [], [], 70, [((-1), (0, 4)), ((-9), (0, 3))]),
  (2, [(0, (2, 28, 0, none, [], [])), (1, (2, 11, 0, none, [], [])), (2, (0, 1, 12, some ((0, 102), 0), [], [])), (3, (0, 0, 7, some ((0, 3), 0), [], []))], [], [], 71, [((-9), (0, 3))])]
theorem as_m_X0_match : a_spec a_tb aC_m_X0_match := a_meth (Sp := [aC_m_X0_whoPrefer, aC_m_X7_holds]) (hd := aH_m_X0_match) (mi := xmi_X0_match) 32 rfl (a_sp_c as_m_X0_whoPrefer (a_sp_c as_m_X7_holds a_sp_n)) (by decide +kernel) (by decide +kernel)
/-- X10_isIn@1:1,7:7 -/
def aC_m_X10_isIn_1_1_7_7 : aC := (xi_X10_isIn, 0, [(0, 0, 640, none, [], []), (0, 1, 1, none, [], []), (0, 7, 7, none, [], [])], [(some (0, 0, 1, none, [((0, 100), 1, 7)], []), [])], [], [])
def aH_m_X10_isIn_1_1_7_7 : List aH := [(0, [(0, (0, 0, 640, some ((0, 100), 0), [], [])), (1, (0, 1, 1, some ((0, 101), 0), [], [])), (2, (0, 7, 7, some ((0, 102), 0), [], []))], [], [], 0, [])]
theorem as_m_X10_isIn_1_1_7_7 : a_spec a_tb aC_m_X10_isIn_1_1_7_7 := a_meth (Sp := []) (hd := aH_m_X10_isIn_1_1_7_7) (mi := xmi_X10_isIn) 14 rfl a_sp_n (by decide +kernel) (by decide +kernel)
/-- X1_add -/
def aC_m_X1_add : aC := (xi_X1_add, 0, [(2, 35, 0, none, [], []), (0, 0, 4095, none, [], []), (0, 0, 1, none, [], []), (0, (-2147483648), 2147483647, none, [], [])], [(some (0, (-1), 59, none, [], []), [])], [(35, 3), (36, 0), (37, 0), (38, 0)], [])
def aH_m_X1_add : List aH := [(0, [(0, (2, 35, 0, none, [], [])), (1, (0, 0, 4095, some ((0, 101), 0), [], [])), (2, (0, 0, 1, some ((0, 102), 0), [], [])), (3, (0, (-2147483648), 2147483647, some ((0, 103), 0), [], []))], [], [((35, 3), (0, 0, 60, some ((36, 3), 0), [], []))], 0, [])]
theorem as_m_X1_add : a_spec a_tb aC_m_X1_add := a_meth (Sp := []) (hd := aH_m_X1_add) (mi := xmi_X1_add) 38 rfl a_sp_n (by decide +kernel) (by decide +kernel)
/-- X10_carriesBy -/
def aC_m_X10_carriesBy : aC := (xi_X10_carriesBy, 0, [(2, 39, 0, none, [], []), (0, (-1), 7, none, [], []), (0, 0, 4095, none, [], [])], [(some (0, 0, 1, none, [], []), [])], [], [])
def aH_m_X10_carriesBy : List aH := [(0, [(0, (2, 39, 0, none, [], [])), (1, (0, (-1), 7, some ((0, 101), 0), [], [])), (2, (0, 0, 4095, some ((0, 102), 0), [], []))], [], [((39, 4), (0, 1, 12, some ((40, 4), 0), [], []))], 0, [])]
theorem as_m_X10_carriesBy : a_spec a_tb aC_m_X10_carriesBy := a_meth (Sp := []) (hd := aH_m_X10_carriesBy) (mi := xmi_X10_carriesBy) 19 rfl a_sp_n (by decide +kernel) (by decide +kernel)
/-- X2_isOf -/
def aC_m_X2_isOf : aC := (xi_X2_isOf, 0, [(2, 14, 0, none, [], []), (2, 11, 0, none, [], []), (0, 0, 12, none, [], [])], [(some (0, 0, 1, none, [], []), [])], [], [])
def aH_m_X2_isOf : List aH := [(0, [(0, (2, 14, 0, none, [], [])), (1, (2, 11, 0, none, [], [])), (2, (0, 0, 12, some ((0, 102), 0), [], []))], [], [((14, 7), (0, 0, 12, some ((15, 7), 0), [], []))], 0, [])]
theorem as_m_X2_isOf : a_spec a_tb aC_m_X2_isOf := a_meth (Sp := []) (hd := aH_m_X2_isOf) (mi := xmi_X2_isOf) 16 rfl a_sp_n (by decide +kernel) (by decide +kernel)
/-- X10_isIn@0:0,1:1 -/
def aC_m_X10_isIn_0_0_1_1 : aC := (xi_X10_isIn, 0, [(0, (-2147483648), 2147483647, none, [], []), (0, 0, 0, none, [], []), (0, 1, 1, none, [], [])], [(some (0, 0, 1, none, [((0, 100), 0, 1)], []), [])], [], [])
def aH_m_X10_isIn_0_0_1_1 : List aH := [(0, [(0, (0, (-2147483648), 2147483647, some ((0, 100), 0), [], [])), (1, (0, 0, 0, some ((0, 101), 0), [], [])), (2, (0, 1, 1, some ((0, 102), 0), [], []))], [], [], 0, [])]
theorem as_m_X10_isIn_0_0_1_1 : a_spec a_tb aC_m_X10_isIn_0_0_1_1 := a_meth (Sp := []) (hd := aH_m_X10_isIn_0_0_1_1) (mi := xmi_X10_isIn) 14 rfl a_sp_n (by decide +kernel) (by decide +kernel)
/-- X0_unbeaten -/
def aC_m_X0_unbeaten : aC := (xi_X0_unbeaten, 0, [(2, 28, 0, none, [], [])], [(some (0, 0, 127, none, [], []), [])], [], [])
def aH_m_X0_unbeaten : List aH := [(0, [(0, (2, 28, 0, none, [], []))], [], [], 8, []),
  (5, [(0, (2, 28, 0, none, [], [])), (1, (0, 0, 127, some ((0, 1), 0), [], [])), (2, (0, 0, 7, some ((0, 2), 0), [], []))], [], [], 7, [((-1), (0, 2))])]
theorem as_m_X0_unbeaten : a_spec a_tb aC_m_X0_unbeaten := a_meth (Sp := []) (hd := aH_m_X0_unbeaten) (mi := xmi_X0_unbeaten) 20 rfl a_sp_n (by decide +kernel) (by decide +kernel)
/-- X10_areOptions -/
def aC_m_X10_areOptions : aC := (xi_X10_areOptions, 0, [(2, 39, 0, none, [], []), (0, 1, 7, none, [], [])], [(some (0, 0, 1, none, [], []), [])], [], [])
def aH_m_X10_areOptions : List aH := [(0, [(0, (2, 39, 0, none, [], [])), (1, (0, 1, 7, some ((0, 101), 0), [], []))], [], [], 8, []),
  (4, [(0, (2, 39, 0, none, [], [])), (1, (0, 1, 7, some ((0, 101), 0), [], [])), (2, (0, (-2147483648), 2147483647, some ((0, 2), 0), [], [])), (3, (0, 0, 7, some ((0, 3), 0), [], []))], [], [], 7, [((-1), (0, 3))])]
theorem as_m_X10_areOptions : a_spec a_tb aC_m_X10_areOptions := a_meth (Sp := []) (hd := aH_m_X10_areOptions) (mi := xmi_X10_areOptions) 36 rfl a_sp_n (by decide +kernel) (by decide +kernel)
/-- X8_at -/
def aC_m_X8_at : aC := (xi_X8_at, 0, [(2, 1, 0, none, [], []), (0, 0, 4095, none, [], [])], [(some (0, (-1), 255, none, [], []), [])], [], [])
def aH_m_X8_at : List aH := [(0, [(0, (2, 1, 0, none, [], [])), (1, (0, 0, 4095, some ((0, 101), 0), [], []))], [], [((1, 1), (0, 0, 640, some ((2, 1), 0), [], []))], 0, [])]
theorem as_m_X8_at : a_spec a_tb aC_m_X8_at := a_meth (Sp := []) (hd := aH_m_X8_at) (mi := xmi_X8_at) 19 rfl a_sp_n (by decide +kernel) (by decide +kernel)
/-- X10_beatsOf -/
def aC_m_X10_beatsOf : aC := (xi_X10_beatsOf, 0, [(2, 39, 0, none, [], []), (0, 0, 6, none, [], []), (0, 0, 6, none, [], [])], [(some (0, 0, 1, none, [], []), [])], [], [])
def aH_m_X10_beatsOf : List aH := [(0, [(0, (2, 39, 0, none, [], [])), (1, (0, 0, 6, some ((0, 101), 0), [], [])), (2, (0, 0, 6, some ((0, 102), 0), [], []))], [], [((39, 4), (0, 1, 12, some ((40, 4), 0), [], []))], 13, []),
  (5, [(0, (2, 39, 0, none, [], [])), (1, (0, 0, 6, some ((0, 101), 0), [], [])), (2, (0, 0, 6, some ((0, 102), 0), [], [])), (3, (0, 0, 4095, some ((0, 3), 0), [], [])), (4, (0, 0, 12, some ((0, 4), 0), [], []))], [], [((39, 4), (0, 1, 12, some ((40, 4), 0), [], []))], 12, [((-1), (0, 4))])]
theorem as_m_X10_beatsOf : a_spec a_tb aC_m_X10_beatsOf := a_meth (Sp := []) (hd := aH_m_X10_beatsOf) (mi := xmi_X10_beatsOf) 35 rfl a_sp_n (by decide +kernel) (by decide +kernel)
/-- X6_isBlank -/
def aC_m_X6_isBlank : aC := (xi_X6_isBlank, 0, [(0, (-1), 255, none, [], [])], [(some (0, 0, 1, none, [((0, 100), 10, 32)], []), [])], [], [])
def aH_m_X6_isBlank : List aH := [(0, [(0, (0, (-1), 255, some ((0, 100), 0), [], []))], [], [], 0, [])]
theorem as_m_X6_isBlank : a_spec a_tb aC_m_X6_isBlank := a_meth (Sp := []) (hd := aH_m_X6_isBlank) (mi := xmi_X6_isBlank) 14 rfl a_sp_n (by decide +kernel) (by decide +kernel)
/-- X10_isProper -/
def aC_m_X10_isProper : aC := (xi_X10_isProper, 0, [(2, 39, 0, none, [], [])], [(some (0, 0, 1, none, [], []), [])], [], [])
def aH_m_X10_isProper : List aH := [(0, [(0, (2, 39, 0, none, [], []))], [], [((39, 35), (0, 0, 4096, some ((40, 35), 0), [], []))], 4097, []),
  (2, [(0, (2, 39, 0, none, [], [])), (1, (0, 0, 4096, some ((0, 1), 0), [], []))], [], [((39, 35), (0, 0, 4096, some ((40, 35), 0), [], []))], 4096, [((-1), (0, 1))])]
theorem as_m_X10_isProper : a_spec a_tb aC_m_X10_isProper := a_meth (Sp := []) (hd := aH_m_X10_isProper) (mi := xmi_X10_isProper) 29 rfl a_sp_n (by decide +kernel) (by decide +kernel)
/-- X10_isStrong -/
def aC_m_X10_isStrong : aC := (xi_X10_isStrong, 0, [(2, 39, 0, none, [], [])], [(some (0, 0, 1, none, [], []), [])], [], [])
def aH_m_X10_isStrong : List aH := [(0, [(0, (2, 39, 0, none, [], []))], [], [((39, 35), (0, 0, 4096, some ((40, 35), 0), [], []))], 4097, []),
  (2, [(0, (2, 39, 0, none, [], [])), (1, (0, 0, 4096, some ((0, 1), 0), [], []))], [], [((39, 35), (0, 0, 4096, some ((40, 35), 0), [], []))], 4096, [((-1), (0, 1))])]
theorem as_m_X10_isStrong : a_spec a_tb aC_m_X10_isStrong := a_meth (Sp := []) (hd := aH_m_X10_isStrong) (mi := xmi_X10_isStrong) 29 rfl a_sp_n (by decide +kernel) (by decide +kernel)
/-- X10_held -/
def aC_m_X10_held : aC := (xi_X10_held, 0, [(2, 39, 0, none, [], []), (0, 0, 11, none, [], []), (0, 0, 11, none, [], [])], [(some (0, 0, 3, none, [], []), [])], [], [])
def aH_m_X10_held : List aH := [(0, [(0, (2, 39, 0, none, [], [])), (1, (0, 0, 11, some ((0, 101), 0), [], [])), (2, (0, 0, 11, some ((0, 102), 0), [], []))], [], [((39, 35), (0, 0, 4096, some ((40, 35), 0), [], []))], 4097, []),
  (5, [(0, (2, 39, 0, none, [], [])), (1, (0, 0, 11, some ((0, 101), 0), [], [])), (2, (0, 0, 11, some ((0, 102), 0), [], [])), (3, (0, 0, 3, some ((0, 3), 0), [], [])), (4, (0, 0, 4096, some ((0, 4), 0), [], []))], [], [((39, 35), (0, 0, 4096, some ((40, 35), 0), [], []))], 4096, [((-1), (0, 4))])]
theorem as_m_X10_held : a_spec a_tb aC_m_X10_held := a_meth (Sp := []) (hd := aH_m_X10_held) (mi := xmi_X10_held) 60 rfl a_sp_n (by decide +kernel) (by decide +kernel)
/-- X10_turnsOf -/
def aC_m_X10_turnsOf : aC := (xi_X10_turnsOf, 0, [(2, 39, 0, none, [], []), (0, 0, 11, none, [], [])], [(some (0, (-2147483648), 2147483647, none, [], []), [])], [], [])
def aH_m_X10_turnsOf : List aH := [(0, [(0, (2, 39, 0, none, [], [])), (1, (0, 0, 11, some ((0, 101), 0), [], []))], [], [((39, 35), (0, 0, 4096, some ((40, 35), 0), [], []))], 4097, []),
  (4, [(0, (2, 39, 0, none, [], [])), (1, (0, 0, 11, some ((0, 101), 0), [], [])), (2, (0, (-2147483648), 2147483647, some ((0, 2), 0), [], [])), (3, (0, 0, 4096, some ((0, 3), 0), [], []))], [], [((39, 35), (0, 0, 4096, some ((40, 35), 0), [], []))], 4096, [((-1), (0, 3))])]
theorem as_m_X10_turnsOf : a_spec a_tb aC_m_X10_turnsOf := a_meth (Sp := []) (hd := aH_m_X10_turnsOf) (mi := xmi_X10_turnsOf) 33 rfl a_sp_n (by decide +kernel) (by decide +kernel)
/-- X10_shareOfSets -/
def aC_m_X10_shareOfSets : aC := (xi_X10_shareOfSets, 1, [(2, 39, 0, none, [], []), (0, 0, 11, none, [], [])], [(none, [])], [], [])
def aH_m_X10_shareOfSets : List aH := [(0, [(0, (2, 39, 0, none, [], [])), (1, (0, 0, 11, some ((0, 101), 0), [], []))], [], [((39, 4), (0, 1, 12, some ((40, 4), 0), [], []))], 13, []),
  (5, [(0, (2, 39, 0, none, [], [])), (1, (0, 0, 11, some ((0, 101), 0), [], [])), (2, (1, (-9223372036854775808), 9223372036854775807, none, [], [])), (4, (0, 0, 12, some ((0, 4), 0), [], []))], [], [((39, 4), (0, 1, 12, some ((40, 4), 0), [], []))], 12, [((-1), (0, 4))])]
theorem as_m_X10_shareOfSets : a_spec a_tb aC_m_X10_shareOfSets := a_meth (Sp := [aC_m_X10_turnsOf, aC_les]) (hd := aH_m_X10_shareOfSets) (mi := xmi_X10_shareOfSets) 22 rfl (a_sp_c as_m_X10_turnsOf (a_sp_c as_les a_sp_n)) (by decide +kernel) (by decide +kernel)
/-- X10_power -/
def aC_m_X10_power : aC := (xi_X10_power, 0, [(1, (-9223372036854775808), 9223372036854775807, none, [], []), (0, (-11), 12, none, [], [])], [(some (1, (-9223372036854775808), 9223372036854775807, none, [], []), [])], [], [])
def aH_m_X10_power : List aH := [(0, [(0, (1, (-9223372036854775808), 9223372036854775807, none, [], [])), (2, (0, (-11), 12, some ((0, 102), 0), [], []))], [], [], 13, []),
  (5, [(0, (1, (-9223372036854775808), 9223372036854775807, none, [], [])), (2, (0, (-11), 12, some ((0, 102), 0), [], [])), (3, (1, (-9223372036854775808), 9223372036854775807, none, [], [])), (5, (0, 0, 12, some ((0, 5), 0), [], []))], [], [], 12, [((-1), (0, 5))])]
theorem as_m_X10_power : a_spec a_tb aC_m_X10_power := a_meth (Sp := []) (hd := aH_m_X10_power) (mi := xmi_X10_power) 15 rfl a_sp_n (by decide +kernel) (by decide +kernel)
/-- X0_wins@ok -/
def aC_m_X0_wins_ok : aC := (xi_X0_wins, 0, [(2, 28, 0, none, [], []), (0, 0, 6, none, [], []), (0, 0, 6, none, [], [])], [(some (0, 0, 1, none, [], []), [])], [], [])
def aH_m_X0_wins_ok : List aH := [(0, [(0, (2, 28, 0, none, [], [])), (1, (0, 0, 6, some ((0, 101), 0), [], [])), (2, (0, 0, 6, some ((0, 102), 0), [], []))], [], [], 0, [])]
theorem as_m_X0_wins_ok : a_spec a_tb aC_m_X0_wins_ok := a_meth (Sp := []) (hd := aH_m_X0_wins_ok) (mi := xmi_X0_wins) 17 rfl a_sp_n (by decide +kernel) (by decide +kernel)
/-- X0_stands@ok -/
def aC_m_X0_stands_ok : aC := (xi_X0_stands, 1, [(2, 28, 0, none, [], []), (0, 0, 6, none, [], []), (0, 0, 6, none, [], [])], [(some (0, 0, 6, none, [], []), [])], [], [])
def aH_m_X0_stands_ok : List aH := [(0, [(0, (2, 28, 0, none, [], [])), (1, (0, 0, 6, some ((0, 101), 0), [], [])), (2, (0, 0, 6, some ((0, 102), 0), [], []))], [], [], 0, [])]
theorem as_m_X0_stands_ok : a_spec a_tb aC_m_X0_stands_ok := a_meth (Sp := [aC_m_X0_wins_ok]) (hd := aH_m_X0_stands_ok) (mi := xmi_X0_stands) 13 rfl (a_sp_c as_m_X0_wins_ok a_sp_n) (by decide +kernel) (by decide +kernel)
/-- X0_order@r1 -/
def aC_m_X0_order_r1 : aC := (xi_X0_order, 1, [(2, 28, 0, none, [], []), (0, 0, 11, none, [], []), (2, 1, 0, none, [], [])], [(none, [])], [(28, 1), (30, 0)], [])
def aH_m_X0_order_r1 : List aH := [(0, [(0, (2, 28, 0, none, [], [])), (1, (0, 0, 11, some ((0, 101), 0), [], [])), (2, (2, 1, 0, none, [], []))], [], [], 16, []),
  (2, [(0, (2, 28, 0, none, [], [])), (1, (0, 0, 11, some ((0, 101), 0), [], [])), (2, (2, 1, 0, none, [], [])), (3, (0, 0, 7, some ((0, 3), 0), [], []))], [], [], 15, [((-2), (0, 3))]),
  (15, [(0, (2, 28, 0, none, [], [])), (1, (0, 0, 11, some ((0, 101), 0), [], [])), (2, (2, 1, 0, none, [], [])), (3, (0, 0, 6, some ((0, 3), 0), [], [])), (4, (0, (-1), 255, some ((0, 4), 0), [], []))], [], [], 14, [((-2), (0, 3))])]
theorem as_m_X0_order_r1 : a_spec a_tb aC_m_X0_order_r1 := a_meth (Sp := [aC_m_X8_at, aC_m_X0_isOption]) (hd := aH_m_X0_order_r1) (mi := xmi_X0_order) 20 rfl (a_sp_c as_m_X8_at (a_sp_c as_m_X0_isOption a_sp_n)) (by decide +kernel) (by decide +kernel)
/-- X6_isWord@s2 -/
def aC_m_X6_isWord_s2 : aC := (xi_X6_isWord, 5, [(2, 8, 0, none, [], []), (4, 2, 0, none, [], [])], [(some (0, 0, 1, none, [], []), [])], [], [])
def aH_m_X6_isWord_s2 : List aH := [(0, [(0, (2, 8, 0, none, [], [])), (1, (4, 2, 0, none, [], []))], [], [((8, 3), (0, (-1), 255, some ((9, 3), 0), [], [])), ((8, 4), (0, 0, 639, some ((9, 4), 0), [], [])), ((8, 5), (0, 0, 640, some ((9, 5), 0), [], []))], 5, []),
  (28, [(0, (2, 8, 0, none, [], [])), (1, (4, 2, 0, none, [], [])), (2, (0, 0, 4, some ((0, 2), 0), [], []))], [], [((8, 3), (0, 2, 2, some ((9, 3), 0), [], [])), ((8, 4), (0, 0, 639, some ((9, 4), 0), [], [])), ((8, 5), (0, 0, 640, some ((9, 5), 0), [], []))], 4, [((-1), (0, 2))])]
theorem as_m_X6_isWord_s2 : a_spec a_tb aC_m_X6_isWord_s2 := a_meth (Sp := [aC_m_X8_at]) (hd := aH_m_X6_isWord_s2) (mi := xmi_X6_isWord) 23 rfl (a_sp_c as_m_X8_at a_sp_n) (by decide +kernel) (by decide +kernel)
/-- X0_waysFrom -/
def aC_m_X0_waysFrom : aC := (xi_X0_waysFrom, 0, [(2, 28, 0, none, [], []), (0, 0, 127, none, [], []), (0, 0, 6, none, [], [])], [(some (0, (-2147483648), 2147483647, none, [], []), [])], [], [])
def aH_m_X0_waysFrom : List aH := [(0, [(0, (2, 28, 0, none, [], [])), (1, (0, 0, 127, some ((0, 101), 0), [], [])), (2, (0, 0, 6, some ((0, 102), 0), [], []))], [], [], 0, [])]
theorem as_m_X0_waysFrom : a_spec a_tb aC_m_X0_waysFrom := a_meth (Sp := []) (hd := aH_m_X0_waysFrom) (mi := xmi_X0_waysFrom) 14 rfl a_sp_n (by decide +kernel) (by decide +kernel)
/-- X6_isLetter -/
def aC_m_X6_isLetter : aC := (xi_X6_isLetter, 0, [(0, (-1), 255, none, [], [])], [(some (0, 0, 1, none, [((0, 100), 97, 122)], []), [])], [], [])
def aH_m_X6_isLetter : List aH := [(0, [(0, (0, (-1), 255, some ((0, 100), 0), [], []))], [], [], 0, [])]
theorem as_m_X6_isLetter : a_spec a_tb aC_m_X6_isLetter := a_meth (Sp := []) (hd := aH_m_X6_isLetter) (mi := xmi_X6_isLetter) 14 rfl a_sp_n (by decide +kernel) (by decide +kernel)
/-- X10_isLeast -/
def aC_m_X10_isLeast : aC := (xi_X10_isLeast, 0, [(2, 39, 0, none, [], []), (0, 0, 4095, none, [], [])], [(some (0, 0, 1, none, [], []), [])], [], [])
def aH_m_X10_isLeast : List aH := [(0, [(0, (2, 39, 0, none, [], [])), (1, (0, 0, 4095, some ((0, 101), 0), [], []))], [], [((39, 4), (0, 1, 12, some ((40, 4), 0), [], []))], 13, []),
  (13, [(0, (2, 39, 0, none, [], [])), (1, (0, 0, 4095, some ((0, 101), 0), [], [])), (2, (0, 0, 12, some ((0, 2), 0), [], []))], [], [((39, 4), (0, 1, 12, some ((40, 4), 0), [], []))], 12, [((-1), (0, 2))])]
theorem as_m_X10_isLeast : a_spec a_tb aC_m_X10_isLeast := a_meth (Sp := []) (hd := aH_m_X10_isLeast) (mi := xmi_X10_isLeast) 30 rfl a_sp_n (by decide +kernel) (by decide +kernel)
/-- X10_orders -/
def aC_m_X10_orders : aC := (xi_X10_orders, 0, [(0, (-12), 12, none, [], [])], [(some (1, (-9223372036854775808), 9223372036854775807, none, [], []), [])], [], [])
def aH_m_X10_orders : List aH := [(0, [(0, (0, (-12), 12, some ((0, 100), 0), [], []))], [], [], 12, []),
  (4, [(0, (0, (-12), 12, some ((0, 100), 0), [], [])), (1, (1, (-9223372036854775808), 9223372036854775807, none, [], [])), (3, (0, 2, 13, some ((0, 3), 0), [], []))], [], [], 13, [((-1), (0, 3))])]
theorem as_m_X10_orders : a_spec a_tb aC_m_X10_orders := a_meth (Sp := []) (hd := aH_m_X10_orders) (mi := xmi_X10_orders) 16 rfl a_sp_n (by decide +kernel) (by decide +kernel)
/-- X2_does -/
def aC_m_X2_does : aC := (xi_X2_does, 1, [(2, 14, 0, none, [], []), (0, 0, 4095, none, [], []), (0, 0, 1, none, [], [])], [(some (0, 0, 1, none, [], []), [])], [], [])
def aH_m_X2_does : List aH := [(0, [(0, (2, 14, 0, none, [], [])), (1, (0, 0, 4095, some ((0, 101), 0), [], [])), (2, (0, 0, 1, some ((0, 102), 0), [], []))], [], [((14, 8), (0, 0, 4095, some ((15, 8), 0), [], []))], 0, [])]
theorem as_m_X2_does : a_spec a_tb aC_m_X2_does := a_meth (Sp := [aC_m_X7_holds]) (hd := aH_m_X2_does) (mi := xmi_X2_does) 20 rfl (a_sp_c as_m_X7_holds a_sp_n) (by decide +kernel) (by decide +kernel)
/-- X10_isIn@-2147483648:2147483647,999:999 -/
def aC_m_X10_isIn_n2147483648_2147483647_999_999 : aC := (xi_X10_isIn, 0, [(0, (-2147483648), 2147483647, none, [], []), (0, (-2147483648), 2147483647, none, [], []), (0, 999, 999, none, [], [])], [(some (0, 0, 1, none, [((0, 100), (-2147483648), 999)], []), [])], [], [])
def aH_m_X10_isIn_n2147483648_2147483647_999_999 : List aH := [(0, [(0, (0, (-2147483648), 2147483647, some ((0, 100), 0), [], [])), (1, (0, (-2147483648), 2147483647, some ((0, 101), 0), [], [])), (2, (0, 999, 999, some ((0, 102), 0), [], []))], [], [], 0, [])]
theorem as_m_X10_isIn_n2147483648_2147483647_999_999 : a_spec a_tb aC_m_X10_isIn_n2147483648_2147483647_999_999 := a_meth (Sp := []) (hd := aH_m_X10_isIn_n2147483648_2147483647_999_999) (mi := xmi_X10_isIn) 14 rfl a_sp_n (by decide +kernel) (by decide +kernel)
/-- X2_countCarrying -/
def aC_m_X2_countCarrying : aC := (xi_X2_countCarrying, 1, [(2, 14, 0, none, [], [])], [(some (0, (-2147483648), 2147483647, none, [], []), [])], [], [])
def aH_m_X2_countCarrying : List aH := [(0, [(0, (2, 14, 0, none, [], []))], [], [((14, 8), (0, 0, 4095, some ((15, 8), 0), [], []))], 4097, []),
  (4, [(0, (2, 14, 0, none, [], [])), (1, (0, (-2147483648), 2147483647, some ((0, 1), 0), [], [])), (2, (0, 0, 4096, some ((0, 2), 0), [], []))], [], [((14, 8), (0, 0, 4095, some ((15, 8), 0), [], []))], 4096, [((-1), (0, 2))])]
theorem as_m_X2_countCarrying : a_spec a_tb aC_m_X2_countCarrying := a_meth (Sp := [aC_m_X7_holds]) (hd := aH_m_X2_countCarrying) (mi := xmi_X2_countCarrying) 18 rfl (a_sp_c as_m_X7_holds a_sp_n) (by decide +kernel) (by decide +kernel)
/-- X2_isProper -/
def aC_m_X2_isProper : aC := (xi_X2_isProper, 1, [(2, 14, 0, none, [], [])], [(some (0, 0, 1, none, [], []), [])], [], [])
def aH_m_X2_isProper : List aH := [(0, [(0, (2, 14, 0, none, [], []))], [], [((14, 8), (0, 0, 4095, some ((15, 8), 0), [], []))], 4097, []),
  (2, [(0, (2, 14, 0, none, [], [])), (1, (0, 0, 4096, some ((0, 1), 0), [], []))], [], [((14, 8), (0, 0, 4095, some ((15, 8), 0), [], []))], 4096, [((-1), (0, 1))])]
theorem as_m_X2_isProper : a_spec a_tb aC_m_X2_isProper := a_meth (Sp := [aC_m_X7_holds]) (hd := aH_m_X2_isProper) (mi := xmi_X2_isProper) 27 rfl (a_sp_c as_m_X7_holds a_sp_n) (by decide +kernel) (by decide +kernel)
end XB1
end
section
section XB1
/-- X2_isStrong -/
def aC_m_X2_isStrong : aC := (xi_X2_isStrong, 1, [(2, 14, 0, none, [], [])], [(some (0, 0, 1, none, [], []), [])], [], [])
def aH_m_X2_isStrong : List aH := [(0, [(0, (2, 14, 0, none, [], []))], [], [((14, 8), (0, 0, 4095, some ((15, 8), 0), [], []))], 4097, []),
  (2, [(0, (2, 14, 0, none, [], [])), (1, (0, 0, 4096, some ((0, 1), 0), [], []))], [], [((14, 8), (0, 0, 4095, some ((15, 8), 0), [], []))], 4096, [((-1), (0, 1))])]
theorem as_m_X2_isStrong : a_spec a_tb aC_m_X2_isStrong := a_meth (Sp := [aC_m_X7_holds]) (hd := aH_m_X2_isStrong) (mi := xmi_X2_isStrong) 27 rfl (a_sp_c as_m_X7_holds a_sp_n) (by decide +kernel) (by decide +kernel)
/-- X2_compare -/
def aC_m_X2_compare : aC := (xi_X2_compare, 0, [(2, 14, 0, none, [], []), (0, 0, 11, none, [], []), (0, 0, 11, none, [], [])], [(some (0, (-1), 2, none, [], []), [])], [], [])
def aH_m_X2_compare : List aH := [(0, [(0, (2, 14, 0, none, [], [])), (1, (0, 0, 11, some ((0, 101), 0), [], [])), (2, (0, 0, 11, some ((0, 102), 0), [], []))], [], [], 0, [])]
theorem as_m_X2_compare : a_spec a_tb aC_m_X2_compare := a_meth (Sp := []) (hd := aH_m_X2_compare) (mi := xmi_X2_compare) 36 rfl a_sp_n (by decide +kernel) (by decide +kernel)
/-- X10_endOf -/
def aC_m_X10_endOf : aC := (xi_X10_endOf, 0, [(2, 39, 0, none, [], []), (0, 1, 7, none, [], [])], [(some (0, 0, 6, none, [], []), [])], [], [])
def aH_m_X10_endOf : List aH := [(0, [(0, (2, 39, 0, none, [], [])), (1, (0, 1, 7, some ((0, 101), 0), [], []))], [], [], 7, []),
  (9, [(0, (2, 39, 0, none, [], [])), (1, (0, 1, 7, some ((0, 101), 0), [], [])), (2, (0, 0, 6, some ((0, 2), 0), [], [])), (3, (0, 1, 7, some ((0, 3), 0), [], []))], [], [], 7, [((-1), (0, 3))])]
theorem as_m_X10_endOf : a_spec a_tb aC_m_X10_endOf := a_meth (Sp := []) (hd := aH_m_X10_endOf) (mi := xmi_X10_endOf) 28 rfl a_sp_n (by decide +kernel) (by decide +kernel)
/-- X10_hinders@f39.35:1:4096 -/
def aC_m_X10_hinders_f39_35_1_4096 : aC := (xi_X10_hinders, 0, [(2, 39, 0, none, [], []), (0, 0, 4095, none, [], [])], [(some (0, 0, 1, none, [], []), [])], [], [((39, 35), 1, 4096)])
def aH_m_X10_hinders_f39_35_1_4096 : List aH := [(0, [(0, (2, 39, 0, none, [], [])), (1, (0, 0, 4095, some ((0, 101), 0), [], []))], [], [((39, 35), (0, 1, 4096, some ((40, 35), 0), [], []))], 0, [])]
theorem as_m_X10_hinders_f39_35_1_4096 : a_spec a_tb aC_m_X10_hinders_f39_35_1_4096 := a_meth (Sp := []) (hd := aH_m_X10_hinders_f39_35_1_4096) (mi := xmi_X10_hinders) 20 rfl a_sp_n (by decide +kernel) (by decide +kernel)
/-- X0_findFirstRow -/
def aC_m_X0_findFirstRow : aC := (xi_X0_findFirstRow, 2, [(2, 28, 0, none, [], [])], [(none, [])], [(29, 0)], [])
def aH_m_X0_findFirstRow : List aH := [(0, [(0, (2, 28, 0, none, [], []))], [], [], 72, []),
  (6, [(0, (2, 28, 0, none, [], [])), (1, (0, 0, 127, some ((0, 1), 0), [], [])), (2, (0, (-1), 6, some ((0, 2), 0), [], [])), (3, (0, 0, 7, some ((0, 3), 0), [], []))], [], [], 71, [((-9), (0, 3))]),
  (15, [(0, (2, 28, 0, none, [], [])), (1, (0, 0, 127, some ((0, 1), 0), [], [])), (2, (0, (-1), 6, some ((0, 2), 0), [], [])), (3, (0, 0, 6, some ((0, 3), 0), [], [])), (4, (0, 0, 7, some ((0, 4), 0), [], []))], [], [], 70, [((-1), (0, 4)), ((-9), (0, 3))])]
theorem as_m_X0_findFirstRow : a_spec a_tb aC_m_X0_findFirstRow := a_meth (Sp := [aC_m_X0_stands_ok, aC_m_X0_waysFrom]) (hd := aH_m_X0_findFirstRow) (mi := xmi_X0_findFirstRow) 48 rfl (a_sp_c as_m_X0_stands_ok (a_sp_c as_m_X0_waysFrom a_sp_n)) (by decide +kernel) (by decide +kernel)
/-- X6_isDigit -/
def aC_m_X6_isDigit : aC := (xi_X6_isDigit, 0, [(0, (-1), 255, none, [], [])], [(some (0, 0, 1, none, [((0, 100), 48, 57)], []), [])], [], [])
def aH_m_X6_isDigit : List aH := [(0, [(0, (0, (-1), 255, some ((0, 100), 0), [], []))], [], [], 0, [])]
theorem as_m_X6_isDigit : a_spec a_tb aC_m_X6_isDigit := a_meth (Sp := []) (hd := aH_m_X6_isDigit) (mi := xmi_X6_isDigit) 14 rfl a_sp_n (by decide +kernel) (by decide +kernel)
/-- X6_takeRun -/
def aC_m_X6_takeRun : aC := (xi_X6_takeRun, 1, [(2, 8, 0, none, [], [])], [(none, [])], [(8, 2), (8, 3), (8, 6)], [])
def aH_m_X6_takeRun : List aH := [(0, [(0, (2, 8, 0, none, [], []))], [], [((1, 1), (0, 0, 640, some ((2, 1), 0), [], [])), ((8, 2), (0, 0, 640, some ((9, 2), 0), [], [])), ((8, 6), (0, (-2147483648), 2147483647, some ((9, 6), 0), [], []))], 641, []),
  (9, [(0, (2, 8, 0, none, [], [])), (1, (0, (-2147483648), 2147483647, some ((0, 1), 0), [], [])), (2, (0, (-2147483648), 2147483647, some ((0, 2), 0), [], []))], [], [((1, 1), (0, 0, 640, some ((2, 1), 0), [], [])), ((8, 2), (0, 0, 640, some ((9, 2), 0), [], [])), ((8, 6), (0, (-2147483648), 2147483647, some ((9, 6), 0), [], []))], 640, [((-1), (9, 2))])]
theorem as_m_X6_takeRun : a_spec a_tb aC_m_X6_takeRun := a_meth (Sp := [aC_m_X8_at, aC_m_X6_isLetter, aC_m_X6_isDigit]) (hd := aH_m_X6_takeRun) (mi := xmi_X6_takeRun) 46 rfl (a_sp_c as_m_X8_at (a_sp_c as_m_X6_isLetter (a_sp_c as_m_X6_isDigit a_sp_n))) (by decide +kernel) (by decide +kernel)
/-- X2_partsOf -/
def aC_m_X2_partsOf : aC := (xi_X2_partsOf, 1, [(2, 14, 0, none, [], []), (0, 0, 11, none, [], [])], [(some (1, (-9223372036854775808), 9223372036854775807, none, [], []), [])], [], [])
def aH_m_X2_partsOf : List aH := [(0, [(0, (2, 14, 0, none, [], [])), (1, (0, 0, 11, some ((0, 101), 0), [], []))], [], [((14, 9), (0, (-2147483648), 924, some ((15, 9), 0), [], []))], 1850, []),
  (26, [(0, (2, 14, 0, none, [], [])), (1, (0, 0, 11, some ((0, 101), 0), [], [])), (2, (1, (-9223372036854775808), 9223372036854775807, none, [], [])), (4, (0, 0, 923, some ((0, 4), 0), [], [])), (5, (0, 0, 12, some ((0, 5), 0), [], []))], [], [((14, 9), (0, 1, 924, some ((15, 9), 0), [], []))], 1848, [((-2), (0, 4))]),
  (5, [(0, (2, 14, 0, none, [], [])), (1, (0, 0, 11, some ((0, 101), 0), [], [])), (2, (1, (-9223372036854775808), 9223372036854775807, none, [], [])), (4, (0, 0, 924, some ((0, 4), 0), [], []))], [], [((14, 9), (0, (-2147483648), 924, some ((15, 9), 0), [], []))], 1849, [((-2), (0, 4))])]
theorem as_m_X2_partsOf : a_spec a_tb aC_m_X2_partsOf := a_meth (Sp := [aC_bit]) (hd := aH_m_X2_partsOf) (mi := xmi_X2_partsOf) 26 rfl (a_sp_c as_bit a_sp_n) (by decide +kernel) (by decide +kernel)
/-- X2_power -/
def aC_m_X2_power : aC := (xi_X2_power, 0, [(0, 0, 10, none, [], []), (0, (-13), 12, none, [], [])], [(some (1, (-9223372036854775808), 9223372036854775807, none, [], []), [])], [], [])
def aH_m_X2_power : List aH := [(0, [(0, (0, 0, 10, some ((0, 100), 0), [], [])), (1, (0, (-13), 12, some ((0, 101), 0), [], []))], [], [], 13, []),
  (5, [(0, (0, 0, 10, some ((0, 100), 0), [], [])), (1, (0, (-13), 12, some ((0, 101), 0), [], [])), (2, (1, (-9223372036854775808), 9223372036854775807, none, [], [])), (4, (0, 0, 12, some ((0, 4), 0), [], []))], [], [], 12, [((-1), (0, 4))])]
theorem as_m_X2_power : a_spec a_tb aC_m_X2_power := a_meth (Sp := []) (hd := aH_m_X2_power) (mi := xmi_X2_power) 16 rfl a_sp_n (by decide +kernel) (by decide +kernel)
/-- X2_countTogether -/
def aC_m_X2_countTogether : aC := (xi_X2_countTogether, 1, [(2, 14, 0, none, [], []), (0, 0, 11, none, [], []), (0, 0, 11, none, [], [])], [(some (0, (-2147483648), 2147483647, none, [], []), [])], [], [])
def aH_m_X2_countTogether : List aH := [(0, [(0, (2, 14, 0, none, [], [])), (1, (0, 0, 11, some ((0, 101), 0), [], [])), (2, (0, 0, 11, some ((0, 102), 0), [], []))], [], [((14, 8), (0, 0, 4095, some ((15, 8), 0), [], []))], 4097, []),
  (14, [(0, (2, 14, 0, none, [], [])), (1, (0, 0, 11, some ((0, 101), 0), [], [])), (2, (0, 0, 11, some ((0, 102), 0), [], [])), (3, (0, 0, 4095, some ((0, 3), 0), [], [])), (4, (0, (-2147483648), 2147483647, some ((0, 4), 0), [], [])), (5, (0, 0, 4096, some ((0, 5), 0), [], []))], [], [((14, 8), (0, 0, 4095, some ((15, 8), 0), [], []))], 4096, [((-1), (0, 5))])]
theorem as_m_X2_countTogether : a_spec a_tb aC_m_X2_countTogether := a_meth (Sp := [aC_m_X7_holds]) (hd := aH_m_X2_countTogether) (mi := xmi_X2_countTogether) 42 rfl (a_sp_c as_m_X7_holds a_sp_n) (by decide +kernel) (by decide +kernel)
/-- X2_lowerShare -/
def aC_m_X2_lowerShare : aC := (xi_X2_lowerShare, 0, [(2, 14, 0, none, [], []), (0, 0, 2, none, [], [])], [(some (1, (-9223372036854775808), 9223372036854775807, none, [], []), [])], [], [])
def aH_m_X2_lowerShare : List aH := [(0, [(0, (2, 14, 0, none, [], [])), (1, (0, 0, 2, some ((0, 101), 0), [], []))], [], [((14, 7), (0, 0, 12, some ((15, 7), 0), [], [])), ((14, 9), (0, (-2147483648), 924, some ((15, 9), 0), [], []))], 13, []),
  (34, [(0, (2, 14, 0, none, [], [])), (1, (0, 0, 1, some ((0, 101), 0), [], [])), (2, (1, (-9223372036854775808), 9223372036854775807, none, [], [])), (4, (0, 0, 12, some ((0, 4), 0), [], []))], [], [((14, 7), (0, 0, 12, some ((15, 7), 0), [], [])), ((14, 9), (0, (-2147483648), 924, some ((15, 9), 0), [], []))], 12, [((-1), (0, 4))])]
theorem as_m_X2_lowerShare : a_spec a_tb aC_m_X2_lowerShare := a_meth (Sp := []) (hd := aH_m_X2_lowerShare) (mi := xmi_X2_lowerShare) 20 rfl a_sp_n (by decide +kernel) (by decide +kernel)
/-- X6_isWord@s3 -/
def aC_m_X6_isWord_s3 : aC := (xi_X6_isWord, 5, [(2, 8, 0, none, [], []), (4, 3, 0, none, [], [])], [(some (0, 0, 1, none, [], []), [])], [], [])
def aH_m_X6_isWord_s3 : List aH := [(0, [(0, (2, 8, 0, none, [], [])), (1, (4, 3, 0, none, [], []))], [], [((8, 3), (0, (-1), 255, some ((9, 3), 0), [], [])), ((8, 4), (0, 0, 639, some ((9, 4), 0), [], [])), ((8, 5), (0, 0, 640, some ((9, 5), 0), [], []))], 6, []),
  (28, [(0, (2, 8, 0, none, [], [])), (1, (4, 3, 0, none, [], [])), (2, (0, 0, 5, some ((0, 2), 0), [], []))], [], [((8, 3), (0, 2, 2, some ((9, 3), 0), [], [])), ((8, 4), (0, 0, 639, some ((9, 4), 0), [], [])), ((8, 5), (0, 0, 640, some ((9, 5), 0), [], []))], 5, [((-1), (0, 2))])]
theorem as_m_X6_isWord_s3 : a_spec a_tb aC_m_X6_isWord_s3 := a_meth (Sp := [aC_m_X8_at]) (hd := aH_m_X6_isWord_s3) (mi := xmi_X6_isWord) 23 rfl (a_sp_c as_m_X8_at a_sp_n) (by decide +kernel) (by decide +kernel)
/-- X2_turnsBy -/
def aC_m_X2_turnsBy : aC := (xi_X2_turnsBy, 1, [(2, 14, 0, none, [], []), (0, 0, 4095, none, [], []), (0, 0, 11, none, [], [])], [(some (0, 0, 1, none, [], []), [])], [], [])
def aH_m_X2_turnsBy : List aH := [(0, [(0, (2, 14, 0, none, [], [])), (1, (0, 0, 4095, some ((0, 101), 0), [], [])), (2, (0, 0, 11, some ((0, 102), 0), [], []))], [], [], 0, [])]
theorem as_m_X2_turnsBy : a_spec a_tb aC_m_X2_turnsBy := a_meth (Sp := [aC_m_X7_holds]) (hd := aH_m_X2_turnsBy) (mi := xmi_X2_turnsBy) 28 rfl (a_sp_c as_m_X7_holds a_sp_n) (by decide +kernel) (by decide +kernel)
/-- X6_isSign -/
def aC_m_X6_isSign : aC := (xi_X6_isSign, 0, [(0, (-1), 255, none, [], [])], [(some (0, 0, 1, none, [((0, 100), 40, 93)], []), [])], [], [])
def aH_m_X6_isSign : List aH := [(0, [(0, (0, (-1), 255, some ((0, 100), 0), [], []))], [], [], 0, [])]
theorem as_m_X6_isSign : a_spec a_tb aC_m_X6_isSign := a_meth (Sp := []) (hd := aH_m_X6_isSign) (mi := xmi_X6_isSign) 29 rfl a_sp_n (by decide +kernel) (by decide +kernel)
/-- X10_isLetter -/
def aC_m_X10_isLetter : aC := (xi_X10_isLetter, 0, [(0, 0, 255, none, [], [])], [(some (0, 0, 1, none, [((0, 100), 97, 122)], []), [])], [], [])
def aH_m_X10_isLetter : List aH := [(0, [(0, (0, 0, 255, some ((0, 100), 0), [], []))], [], [], 0, [])]
theorem as_m_X10_isLetter : a_spec a_tb aC_m_X10_isLetter := a_meth (Sp := []) (hd := aH_m_X10_isLetter) (mi := xmi_X10_isLetter) 14 rfl a_sp_n (by decide +kernel) (by decide +kernel)
/-- X4_fail -/
def aC_m_X4_fail : aC := (xi_X4_fail, 0, [(2, 3, 0, none, [], []), (0, 1, 4, none, [], []), (0, 0, 639, none, [], [])], [(some (0, 0, 0, none, [], []), [])], [(3, 8), (3, 9)], [])
def aH_m_X4_fail : List aH := [(0, [(0, (2, 3, 0, none, [], [])), (1, (0, 1, 4, some ((0, 101), 0), [], [])), (2, (0, 0, 639, some ((0, 102), 0), [], []))], [], [], 0, [])]
theorem as_m_X4_fail : a_spec a_tb aC_m_X4_fail := a_meth (Sp := []) (hd := aH_m_X4_fail) (mi := xmi_X4_fail) 13 rfl a_sp_n (by decide +kernel) (by decide +kernel)
/-- X10_isDigit -/
def aC_m_X10_isDigit : aC := (xi_X10_isDigit, 0, [(0, 0, 255, none, [], [])], [(some (0, 0, 1, none, [((0, 100), 48, 57)], []), [])], [], [])
def aH_m_X10_isDigit : List aH := [(0, [(0, (0, 0, 255, some ((0, 100), 0), [], []))], [], [], 0, [])]
theorem as_m_X10_isDigit : a_spec a_tb aC_m_X10_isDigit := a_meth (Sp := []) (hd := aH_m_X10_isDigit) (mi := xmi_X10_isDigit) 14 rfl a_sp_n (by decide +kernel) (by decide +kernel)
/-- X10_byteAt -/
def aC_m_X10_byteAt : aC := (xi_X10_byteAt, 0, [(2, 39, 0, none, [], []), (0, 0, 640, none, [], [])], [(some (0, 0, 255, none, [((0, 101), 0, 639)], []), [])], [], [])
def aH_m_X10_byteAt : List aH := [(0, [(0, (2, 39, 0, none, [], [])), (1, (0, 0, 640, some ((0, 101), 0), [], []))], [], [((39, 6), (0, 0, 640, some ((40, 6), 0), [], []))], 0, [])]
theorem as_m_X10_byteAt : a_spec a_tb aC_m_X10_byteAt := a_meth (Sp := []) (hd := aH_m_X10_byteAt) (mi := xmi_X10_byteAt) 15 rfl a_sp_n (by decide +kernel) (by decide +kernel)
/-- X10_spelt -/
def aC_m_X10_spelt : aC := (xi_X10_spelt, 0, [(0, 97, 111, none, [], []), (0, 97, 114, none, [], []), (0, 0, 114, none, [], []), (0, 0, 121, none, [], []), (0, 0, 121, none, [], [])], [(some (1, (-9223372036854775808), 9223372036854775807, none, [], []), [])], [], [])
def aH_m_X10_spelt : List aH := [(0, [(0, (0, 97, 111, some ((0, 100), 0), [], [])), (1, (0, 97, 114, some ((0, 101), 0), [], [])), (2, (0, 0, 114, some ((0, 102), 0), [], [])), (3, (0, 0, 121, some ((0, 103), 0), [], [])), (4, (0, 0, 121, some ((0, 104), 0), [], []))], [], [], 0, [])]
theorem as_m_X10_spelt : a_spec a_tb aC_m_X10_spelt := a_meth (Sp := []) (hd := aH_m_X10_spelt) (mi := xmi_X10_spelt) 51 rfl a_sp_n (by decide +kernel) (by decide +kernel)
/-- X10_mayBe -/
def aC_m_X10_mayBe : aC := (xi_X10_mayBe, 0, [(2, 39, 0, none, [], []), (0, 0, 11, none, [], []), (0, 0, 99, none, [], [])], [(some (0, 0, 1, none, [], [((0, 101), 1, 11)]), [])], [], [])
def aH_m_X10_mayBe : List aH := [(0, [(0, (2, 39, 0, none, [], [])), (1, (0, 0, 11, some ((0, 101), 0), [], [])), (2, (0, 0, 99, some ((0, 102), 0), [], []))], [], [], 12, []),
  (2, [(0, (2, 39, 0, none, [], [])), (1, (0, 0, 11, some ((0, 101), 0), [], [])), (2, (0, 0, 99, some ((0, 102), 0), [], [])), (3, (0, 0, 11, some ((0, 3), 0), [], []))], [], [], 11, [((-1), (0, 3))])]
theorem as_m_X10_mayBe : a_spec a_tb aC_m_X10_mayBe := a_meth (Sp := []) (hd := aH_m_X10_mayBe) (mi := xmi_X10_mayBe) 41 rfl a_sp_n (by decide +kernel) (by decide +kernel)
/-- X2_markNeeded -/
def aC_m_X2_markNeeded : aC := (xi_X2_markNeeded, 0, [(2, 14, 0, none, [], [])], [(none, [])], [(14, 11), (14, 12)], [])
def aH_m_X2_markNeeded : List aH := [(0, [(0, (2, 14, 0, none, [], []))], [], [((14, 8), (0, 0, 4095, some ((15, 8), 0), [], [])), ((14, 9), (0, (-2147483648), 924, some ((15, 9), 0), [], [])), ((14, 11), (0, 0, 4095, some ((15, 11), 0), [], [])), ((14, 12), (0, 0, 4095, some ((15, 12), 0), [], []))], 925, []),
  (29, [(0, (2, 14, 0, none, [], [])), (1, (0, 0, 924, some ((0, 1), 0), [], []))], [], [((14, 8), (0, 0, 4095, some ((15, 8), 0), [], [])), ((14, 9), (0, (-2147483648), 924, some ((15, 9), 0), [], [])), ((14, 11), (0, 0, 4095, some ((15, 11), 0), [], [])), ((14, 12), (0, 0, 4095, some ((15, 12), 0), [], []))], 924, [((-1), (0, 1))])]
theorem as_m_X2_markNeeded : a_spec a_tb aC_m_X2_markNeeded := a_meth (Sp := []) (hd := aH_m_X2_markNeeded) (mi := xmi_X2_markNeeded) 32 rfl a_sp_n (by decide +kernel) (by decide +kernel)
/-- X10_isMark -/
def aC_m_X10_isMark : aC := (xi_X10_isMark, 0, [(0, 0, 255, none, [], [])], [(some (0, 0, 1, none, [((0, 100), 40, 93)], []), [])], [], [])
def aH_m_X10_isMark : List aH := [(0, [(0, (0, 0, 255, some ((0, 100), 0), [], []))], [], [], 0, [])]
theorem as_m_X10_isMark : a_spec a_tb aC_m_X10_isMark := a_meth (Sp := []) (hd := aH_m_X10_isMark) (mi := xmi_X10_isMark) 29 rfl a_sp_n (by decide +kernel) (by decide +kernel)
/-- X10_isKey -/
def aC_m_X10_isKey : aC := (xi_X10_isKey, 0, [(2, 39, 0, none, [], []), (1, (-9223372036854775808), 9223372036854775807, none, [], [])], [(some (0, 0, 1, none, [], []), [])], [], [])
def aH_m_X10_isKey : List aH := [(0, [(0, (2, 39, 0, none, [], [])), (1, (1, (-9223372036854775808), 9223372036854775807, none, [], []))], [], [((39, 9), (0, 0, 4, some ((40, 9), 0), [], []))], 0, [])]
theorem as_m_X10_isKey : a_spec a_tb aC_m_X10_isKey := a_meth (Sp := []) (hd := aH_m_X10_isKey) (mi := xmi_X10_isKey) 17 rfl a_sp_n (by decide +kernel) (by decide +kernel)
/-- X6_isWord@s4 -/
def aC_m_X6_isWord_s4 : aC := (xi_X6_isWord, 5, [(2, 8, 0, none, [], []), (4, 4, 0, none, [], [])], [(some (0, 0, 1, none, [], []), [])], [], [])
def aH_m_X6_isWord_s4 : List aH := [(0, [(0, (2, 8, 0, none, [], [])), (1, (4, 4, 0, none, [], []))], [], [((8, 3), (0, (-1), 255, some ((9, 3), 0), [], [])), ((8, 4), (0, 0, 639, some ((9, 4), 0), [], [])), ((8, 5), (0, 0, 640, some ((9, 5), 0), [], []))], 4, []),
  (28, [(0, (2, 8, 0, none, [], [])), (1, (4, 4, 0, none, [], [])), (2, (0, 0, 3, some ((0, 2), 0), [], []))], [], [((8, 3), (0, 2, 2, some ((9, 3), 0), [], [])), ((8, 4), (0, 0, 639, some ((9, 4), 0), [], [])), ((8, 5), (0, 0, 640, some ((9, 5), 0), [], []))], 3, [((-1), (0, 2))])]
theorem as_m_X6_isWord_s4 : a_spec a_tb aC_m_X6_isWord_s4 := a_meth (Sp := [aC_m_X8_at]) (hd := aH_m_X6_isWord_s4) (mi := xmi_X6_isWord) 23 rfl (a_sp_c as_m_X8_at a_sp_n) (by decide +kernel) (by decide +kernel)
/-- X5_isFirst -/
def aC_m_X5_isFirst : aC := (xi_X5_isFirst, 1, [(2, 21, 0, none, [], []), (0, 0, 11, none, [], [])], [(some (0, 0, 1, none, [], [((0, 101), 1, 11)]), [])], [], [])
def aH_m_X5_isFirst : List aH := [(0, [(0, (2, 21, 0, none, [], [])), (1, (0, 0, 11, some ((0, 101), 0), [], []))], [], [], 12, []),
  (2, [(0, (2, 21, 0, none, [], [])), (1, (0, 0, 11, some ((0, 101), 0), [], [])), (2, (0, 0, 11, some ((0, 2), 0), [], []))], [], [], 11, [((-1), (0, 2))])]
theorem as_m_X5_isFirst : a_spec a_tb aC_m_X5_isFirst := a_meth (Sp := [aC_m_X2_compare]) (hd := aH_m_X5_isFirst) (mi := xmi_X5_isFirst) 17 rfl (a_sp_c as_m_X2_compare a_sp_n) (by decide +kernel) (by decide +kernel)
/-- X10_sumOf -/
def aC_m_X10_sumOf : aC := (xi_X10_sumOf, 0, [(2, 39, 0, none, [], []), (0, 0, 4095, none, [], [])], [(some (0, (-2147483648), 2147483647, none, [], []), [])], [], [])
def aH_m_X10_sumOf : List aH := [(0, [(0, (2, 39, 0, none, [], [])), (1, (0, 0, 4095, some ((0, 101), 0), [], []))], [], [((39, 4), (0, 1, 12, some ((40, 4), 0), [], []))], 13, []),
  (4, [(0, (2, 39, 0, none, [], [])), (1, (0, 0, 4095, some ((0, 101), 0), [], [])), (2, (0, (-2147483648), 2147483647, some ((0, 2), 0), [], [])), (3, (0, 0, 12, some ((0, 3), 0), [], []))], [], [((39, 4), (0, 1, 12, some ((40, 4), 0), [], []))], 12, [((-1), (0, 3))])]
theorem as_m_X10_sumOf : a_spec a_tb aC_m_X10_sumOf := a_meth (Sp := []) (hd := aH_m_X10_sumOf) (mi := xmi_X10_sumOf) 29 rfl a_sp_n (by decide +kernel) (by decide +kernel)
/-- X4_countOne -/
def aC_m_X4_countOne : aC := (xi_X4_countOne, 1, [(2, 3, 0, none, [], []), (0, 0, 639, none, [], [])], [(some (0, 0, 1, none, [], []), [])], [(3, 5), (3, 8), (3, 9)], [])
def aH_m_X4_countOne : List aH := [(0, [(0, (2, 3, 0, none, [], [])), (1, (0, 0, 639, some ((0, 101), 0), [], []))], [], [((3, 5), (0, (-2147483648), 2147483647, some ((4, 5), 0), [], []))], 0, [])]
theorem as_m_X4_countOne : a_spec a_tb aC_m_X4_countOne := a_meth (Sp := [aC_m_X4_fail]) (hd := aH_m_X4_countOne) (mi := xmi_X4_countOne) 22 rfl (a_sp_c as_m_X4_fail a_sp_n) (by decide +kernel) (by decide +kernel)
/-- X6_isLone -/
def aC_m_X6_isLone : aC := (xi_X6_isLone, 0, [(2, 8, 0, none, [], [])], [(some (0, 0, 1, none, [], []), [])], [], [])
def aH_m_X6_isLone : List aH := [(0, [(0, (2, 8, 0, none, [], []))], [], [((8, 3), (0, (-1), 255, some ((9, 3), 0), [], [])), ((8, 4), (0, 0, 639, some ((9, 4), 0), [], [])), ((8, 5), (0, 0, 640, some ((9, 5), 0), [], []))], 0, [])]
theorem as_m_X6_isLone : a_spec a_tb aC_m_X6_isLone := a_meth (Sp := []) (hd := aH_m_X6_isLone) (mi := xmi_X6_isLone) 19 rfl a_sp_n (by decide +kernel) (by decide +kernel)
/-- X2_countSwings -/
def aC_m_X2_countSwings : aC := (xi_X2_countSwings, 2, [(2, 14, 0, none, [], []), (0, 0, 11, none, [], [])], [(some (0, (-2147483648), 2147483647, none, [], []), [])], [], [])
def aH_m_X2_countSwings : List aH := [(0, [(0, (2, 14, 0, none, [], [])), (1, (0, 0, 11, some ((0, 101), 0), [], []))], [], [((14, 8), (0, 0, 4095, some ((15, 8), 0), [], []))], 4097, []),
  (4, [(0, (2, 14, 0, none, [], [])), (1, (0, 0, 11, some ((0, 101), 0), [], [])), (2, (0, (-2147483648), 2147483647, some ((0, 2), 0), [], [])), (3, (0, 0, 4096, some ((0, 3), 0), [], []))], [], [((14, 8), (0, 0, 4095, some ((15, 8), 0), [], []))], 4096, [((-1), (0, 3))])]
theorem as_m_X2_countSwings : a_spec a_tb aC_m_X2_countSwings := a_meth (Sp := [aC_m_X2_turnsBy]) (hd := aH_m_X2_countSwings) (mi := xmi_X2_countSwings) 18 rfl (a_sp_c as_m_X2_turnsBy a_sp_n) (by decide +kernel) (by decide +kernel)
/-- X6_isWord@s5 -/
def aC_m_X6_isWord_s5 : aC := (xi_X6_isWord, 5, [(2, 8, 0, none, [], []), (4, 5, 0, none, [], [])], [(some (0, 0, 1, none, [], []), [])], [], [])
def aH_m_X6_isWord_s5 : List aH := [(0, [(0, (2, 8, 0, none, [], [])), (1, (4, 5, 0, none, [], []))], [], [((8, 3), (0, (-1), 255, some ((9, 3), 0), [], [])), ((8, 4), (0, 0, 639, some ((9, 4), 0), [], [])), ((8, 5), (0, 0, 640, some ((9, 5), 0), [], []))], 3, []),
  (28, [(0, (2, 8, 0, none, [], [])), (1, (4, 5, 0, none, [], [])), (2, (0, 0, 2, some ((0, 2), 0), [], []))], [], [((8, 3), (0, 2, 2, some ((9, 3), 0), [], [])), ((8, 4), (0, 0, 639, some ((9, 4), 0), [], [])), ((8, 5), (0, 0, 640, some ((9, 5), 0), [], []))], 2, [((-1), (0, 2))])]
theorem as_m_X6_isWord_s5 : a_spec a_tb aC_m_X6_isWord_s5 := a_meth (Sp := [aC_m_X8_at]) (hd := aH_m_X6_isWord_s5) (mi := xmi_X6_isWord) 23 rfl (a_sp_c as_m_X8_at a_sp_n) (by decide +kernel) (by decide +kernel)
end XB1
end
section
section XB1
/-- X10_isCarry -/
def aC_m_X10_isCarry : aC := (xi_X10_isCarry, 1, [(2, 39, 0, none, [], [])], [(some (0, 0, 1, none, [], []), [])], [], [])
def aH_m_X10_isCarry : List aH := [(0, [(0, (2, 39, 0, none, [], []))], [], [], 0, [])]
theorem as_m_X10_isCarry : a_spec a_tb aC_m_X10_isCarry := a_meth (Sp := [aC_m_X10_spelt, aC_m_X10_isKey]) (hd := aH_m_X10_isCarry) (mi := xmi_X10_isCarry) 14 rfl (a_sp_c as_m_X10_spelt (a_sp_c as_m_X10_isKey a_sp_n)) (by decide +kernel) (by decide +kernel)
/-- X5_strengthOf -/
def aC_m_X5_strengthOf : aC := (xi_X5_strengthOf, 1, [(2, 21, 0, none, [], []), (0, 0, 11, none, [], [])], [(some (0, (-2147483648), 2147483647, none, [], []), [])], [], [])
def aH_m_X5_strengthOf : List aH := [(0, [(0, (2, 21, 0, none, [], [])), (1, (0, 0, 11, some ((0, 101), 0), [], []))], [], [((21, 8), (0, 0, 12, some ((22, 8), 0), [], []))], 13, []),
  (4, [(0, (2, 21, 0, none, [], [])), (1, (0, 0, 11, some ((0, 101), 0), [], [])), (2, (0, (-2147483648), 2147483647, some ((0, 2), 0), [], [])), (3, (0, 0, 12, some ((0, 3), 0), [], []))], [], [((21, 8), (0, 0, 12, some ((22, 8), 0), [], []))], 12, [((-1), (0, 3))])]
theorem as_m_X5_strengthOf : a_spec a_tb aC_m_X5_strengthOf := a_meth (Sp := [aC_m_X2_compare]) (hd := aH_m_X5_strengthOf) (mi := xmi_X5_strengthOf) 23 rfl (a_sp_c as_m_X2_compare a_sp_n) (by decide +kernel) (by decide +kernel)
/-- X6_isWord@s6 -/
def aC_m_X6_isWord_s6 : aC := (xi_X6_isWord, 5, [(2, 8, 0, none, [], []), (4, 6, 0, none, [], [])], [(some (0, 0, 1, none, [], []), [])], [], [])
def aH_m_X6_isWord_s6 : List aH := [(0, [(0, (2, 8, 0, none, [], [])), (1, (4, 6, 0, none, [], []))], [], [((8, 3), (0, (-1), 255, some ((9, 3), 0), [], [])), ((8, 4), (0, 0, 639, some ((9, 4), 0), [], [])), ((8, 5), (0, 0, 640, some ((9, 5), 0), [], []))], 3, []),
  (28, [(0, (2, 8, 0, none, [], [])), (1, (4, 6, 0, none, [], [])), (2, (0, 0, 2, some ((0, 2), 0), [], []))], [], [((8, 3), (0, 2, 2, some ((9, 3), 0), [], [])), ((8, 4), (0, 0, 639, some ((9, 4), 0), [], [])), ((8, 5), (0, 0, 640, some ((9, 5), 0), [], []))], 2, [((-1), (0, 2))])]
theorem as_m_X6_isWord_s6 : a_spec a_tb aC_m_X6_isWord_s6 := a_meth (Sp := [aC_m_X8_at]) (hd := aH_m_X6_isWord_s6) (mi := xmi_X6_isWord) 23 rfl (a_sp_c as_m_X8_at a_sp_n) (by decide +kernel) (by decide +kernel)
/-- X6_letter -/
def aC_m_X6_letter : aC := (xi_X6_letter, 1, [(2, 8, 0, none, [], [])], [(some (0, (-98), 158, none, [], []), [])], [], [])
def aH_m_X6_letter : List aH := [(0, [(0, (2, 8, 0, none, [], []))], [], [((8, 4), (0, 0, 639, some ((9, 4), 0), [], []))], 0, [])]
theorem as_m_X6_letter : a_spec a_tb aC_m_X6_letter := a_meth (Sp := [aC_m_X8_at]) (hd := aH_m_X6_letter) (mi := xmi_X6_letter) 13 rfl (a_sp_c as_m_X8_at a_sp_n) (by decide +kernel) (by decide +kernel)
/-- X10_bad -/
def aC_m_X10_bad : aC := (xi_X10_bad, 0, [(2, 39, 0, none, [], []), (0, 1, 4, none, [], [])], [(some (0, 0, 0, none, [], []), [])], [(39, 13), (39, 14)], [])
def aH_m_X10_bad : List aH := [(0, [(0, (2, 39, 0, none, [], [])), (1, (0, 1, 4, some ((0, 101), 0), [], []))], [], [((39, 8), (0, 0, 640, some ((40, 8), 0), [], [])), ((39, 9), (0, 0, 4, some ((40, 9), 0), [], []))], 0, [])]
theorem as_m_X10_bad : a_spec a_tb aC_m_X10_bad := a_meth (Sp := []) (hd := aH_m_X10_bad) (mi := xmi_X10_bad) 19 rfl a_sp_n (by decide +kernel) (by decide +kernel)
/-- X2_isAtLeast -/
def aC_m_X2_isAtLeast : aC := (xi_X2_isAtLeast, 1, [(2, 14, 0, none, [], []), (0, 0, 11, none, [], []), (0, 0, 11, none, [], [])], [(some (0, 0, 1, none, [], []), [])], [], [])
def aH_m_X2_isAtLeast : List aH := [(0, [(0, (2, 14, 0, none, [], [])), (1, (0, 0, 11, some ((0, 101), 0), [], [])), (2, (0, 0, 11, some ((0, 102), 0), [], []))], [], [((14, 8), (0, 0, 4095, some ((15, 8), 0), [], []))], 4097, []),
  (11, [(0, (2, 14, 0, none, [], [])), (1, (0, 0, 11, some ((0, 101), 0), [], [])), (2, (0, 0, 11, some ((0, 102), 0), [], [])), (3, (0, 0, 4095, some ((0, 3), 0), [], [])), (4, (0, 0, 4096, some ((0, 4), 0), [], []))], [], [((14, 8), (0, 0, 4095, some ((15, 8), 0), [], []))], 4096, [((-1), (0, 4))])]
theorem as_m_X2_isAtLeast : a_spec a_tb aC_m_X2_isAtLeast := a_meth (Sp := [aC_m_X7_holds]) (hd := aH_m_X2_isAtLeast) (mi := xmi_X2_isAtLeast) 34 rfl (a_sp_c as_m_X7_holds a_sp_n) (by decide +kernel) (by decide +kernel)
/-- X3_peek -/
def aC_m_X3_peek : aC := (xi_X3_peek, 0, [(2, 4, 0, none, [], []), (0, (-2147483648), 2147483647, none, [], [])], [(some (0, (-2147483648), 2147483647, none, [], []), [])], [], [])
def aH_m_X3_peek : List aH := [(0, [(0, (2, 4, 0, none, [], [])), (1, (0, (-2147483648), 2147483647, some ((0, 101), 0), [], []))], [], [], 0, [])]
theorem as_m_X3_peek : a_spec a_tb aC_m_X3_peek := a_meth (Sp := []) (hd := aH_m_X3_peek) (mi := xmi_X3_peek) 18 rfl a_sp_n (by decide +kernel) (by decide +kernel)
/-- X10_isAnd -/
def aC_m_X10_isAnd : aC := (xi_X10_isAnd, 1, [(2, 39, 0, none, [], [])], [(some (0, 0, 1, none, [], []), [])], [], [])
def aH_m_X10_isAnd : List aH := [(0, [(0, (2, 39, 0, none, [], []))], [], [], 0, [])]
theorem as_m_X10_isAnd : a_spec a_tb aC_m_X10_isAnd := a_meth (Sp := [aC_m_X10_spelt, aC_m_X10_isKey]) (hd := aH_m_X10_isAnd) (mi := xmi_X10_isAnd) 14 rfl (a_sp_c as_m_X10_spelt (a_sp_c as_m_X10_isKey a_sp_n)) (by decide +kernel) (by decide +kernel)
/-- X5_weightOf -/
def aC_m_X5_weightOf : aC := (xi_X5_weightOf, 0, [(2, 21, 0, none, [], []), (0, 0, 4095, none, [], [])], [(some (0, (-2147483648), 2147483647, none, [], []), [])], [], [])
def aH_m_X5_weightOf : List aH := [(0, [(0, (2, 21, 0, none, [], [])), (1, (0, 0, 4095, some ((0, 101), 0), [], []))], [], [((14, 7), (0, 0, 12, some ((15, 7), 0), [], []))], 13, []),
  (4, [(0, (2, 21, 0, none, [], [])), (1, (0, 0, 4095, some ((0, 101), 0), [], [])), (2, (0, (-2147483648), 2147483647, some ((0, 2), 0), [], [])), (3, (0, 0, 12, some ((0, 3), 0), [], []))], [], [((14, 7), (0, 0, 12, some ((15, 7), 0), [], []))], 12, [((-1), (0, 3))])]
theorem as_m_X5_weightOf : a_spec a_tb aC_m_X5_weightOf := a_meth (Sp := []) (hd := aH_m_X5_weightOf) (mi := xmi_X5_weightOf) 26 rfl a_sp_n (by decide +kernel) (by decide +kernel)
/-- X3_add -/
def aC_m_X3_add : aC := (xi_X3_add, 0, [(2, 4, 0, none, [], []), (0, 0, 7, none, [], []), (0, (-2147483648), 2147483647, none, [], [])], [(none, [])], [(4, 3), (5, 0), (6, 0)], [])
def aH_m_X3_add : List aH := [(0, [(0, (2, 4, 0, none, [], [])), (1, (0, 0, 7, some ((0, 101), 0), [], [])), (2, (0, (-2147483648), 2147483647, some ((0, 102), 0), [], []))], [], [((4, 3), (0, 0, 400, some ((5, 3), 0), [], []))], 0, [])]
theorem as_m_X3_add : a_spec a_tb aC_m_X3_add := a_meth (Sp := []) (hd := aH_m_X3_add) (mi := xmi_X3_add) 28 rfl a_sp_n (by decide +kernel) (by decide +kernel)
/-- X5_leastRest -/
def aC_m_X5_leastRest : aC := (xi_X5_leastRest, 0, [(2, 21, 0, none, [], [])], [(some (0, 0, 8712, none, [], []), [])], [], [])
def aH_m_X5_leastRest : List aH := [(0, [(0, (2, 21, 0, none, [], []))], [], [((21, 8), (0, 0, 12, some ((22, 8), 0), [], []))], 13, []),
  (6, [(0, (2, 21, 0, none, [], [])), (1, (0, (-1), (-1), some ((0, 1), 0), [], [])), (2, (0, 0, 0, some ((0, 2), 0), [], [])), (3, (0, 0, 0, some ((0, 3), 0), [], []))], [], [((21, 8), (0, 0, 12, some ((22, 8), 0), [], []))], 12, [((-1), (0, 3))]),
  (6, [(0, (2, 21, 0, none, [], [])), (1, (0, (-1), 60, some ((0, 1), 0), [], [])), (2, (0, 0, 0, some ((0, 2), 0), [], [])), (3, (0, 1, 1, some ((0, 3), 0), [], []))], [], [((21, 8), (0, 1, 12, some ((22, 8), 0), [], []))], 12, [((-1), (0, 3))]),
  (6, [(0, (2, 21, 0, none, [], [])), (1, (0, (-1), 61, some ((0, 1), 0), [], [])), (2, (0, 0, 732, some ((0, 2), 0), [], [])), (3, (0, 2, 2, some ((0, 3), 0), [], []))], [], [((21, 8), (0, 2, 12, some ((22, 8), 0), [], []))], 12, [((-1), (0, 3))]),
  (6, [(0, (2, 21, 0, none, [], [])), (1, (0, (-1), 62, some ((0, 1), 0), [], [])), (2, (0, 0, 1476, some ((0, 2), 0), [], [])), (3, (0, 3, 3, some ((0, 3), 0), [], []))], [], [((21, 8), (0, 3, 12, some ((22, 8), 0), [], []))], 12, [((-1), (0, 3))]),
  (6, [(0, (2, 21, 0, none, [], [])), (1, (0, (-1), 63, some ((0, 1), 0), [], [])), (2, (0, 0, 2232, some ((0, 2), 0), [], [])), (3, (0, 4, 4, some ((0, 3), 0), [], []))], [], [((21, 8), (0, 4, 12, some ((22, 8), 0), [], []))], 12, [((-1), (0, 3))]),
  (6, [(0, (2, 21, 0, none, [], [])), (1, (0, (-1), 64, some ((0, 1), 0), [], [])), (2, (0, 0, 3000, some ((0, 2), 0), [], [])), (3, (0, 5, 5, some ((0, 3), 0), [], []))], [], [((21, 8), (0, 5, 12, some ((22, 8), 0), [], []))], 12, [((-1), (0, 3))]),
  (6, [(0, (2, 21, 0, none, [], [])), (1, (0, (-1), 65, some ((0, 1), 0), [], [])), (2, (0, 0, 3780, some ((0, 2), 0), [], [])), (3, (0, 6, 6, some ((0, 3), 0), [], []))], [], [((21, 8), (0, 6, 12, some ((22, 8), 0), [], []))], 12, [((-1), (0, 3))]),
  (6, [(0, (2, 21, 0, none, [], [])), (1, (0, (-1), 66, some ((0, 1), 0), [], [])), (2, (0, 0, 4572, some ((0, 2), 0), [], [])), (3, (0, 7, 7, some ((0, 3), 0), [], []))], [], [((21, 8), (0, 7, 12, some ((22, 8), 0), [], []))], 12, [((-1), (0, 3))]),
  (6, [(0, (2, 21, 0, none, [], [])), (1, (0, (-1), 67, some ((0, 1), 0), [], [])), (2, (0, 0, 5376, some ((0, 2), 0), [], [])), (3, (0, 8, 8, some ((0, 3), 0), [], []))], [], [((21, 8), (0, 8, 12, some ((22, 8), 0), [], []))], 12, [((-1), (0, 3))]),
  (6, [(0, (2, 21, 0, none, [], [])), (1, (0, (-1), 68, some ((0, 1), 0), [], [])), (2, (0, 0, 6192, some ((0, 2), 0), [], [])), (3, (0, 9, 9, some ((0, 3), 0), [], []))], [], [((21, 8), (0, 9, 12, some ((22, 8), 0), [], []))], 12, [((-1), (0, 3))]),
  (6, [(0, (2, 21, 0, none, [], [])), (1, (0, (-1), 69, some ((0, 1), 0), [], [])), (2, (0, 0, 7020, some ((0, 2), 0), [], [])), (3, (0, 10, 10, some ((0, 3), 0), [], []))], [], [((21, 8), (0, 10, 12, some ((22, 8), 0), [], []))], 12, [((-1), (0, 3))]),
  (6, [(0, (2, 21, 0, none, [], [])), (1, (0, (-1), 70, some ((0, 1), 0), [], [])), (2, (0, 0, 7860, some ((0, 2), 0), [], [])), (3, (0, 11, 11, some ((0, 3), 0), [], []))], [], [((21, 8), (0, 11, 12, some ((22, 8), 0), [], []))], 12, [((-1), (0, 3))]),
  (6, [(0, (2, 21, 0, none, [], [])), (1, (0, (-1), 71, some ((0, 1), 0), [], [])), (2, (0, 0, 8712, some ((0, 2), 0), [], [])), (3, (0, 12, 12, some ((0, 3), 0), [], []))], [], [((21, 8), (0, 12, 12, some ((22, 8), 0), [], []))], 12, [((-1), (0, 3))])]
theorem as_m_X5_leastRest : a_spec a_tb aC_m_X5_leastRest := a_meth (Sp := []) (hd := aH_m_X5_leastRest) (mi := xmi_X5_leastRest) 28 rfl a_sp_n (by decide +kernel) (by decide +kernel)
/-- X10_isOr -/
def aC_m_X10_isOr : aC := (xi_X10_isOr, 1, [(2, 39, 0, none, [], [])], [(some (0, 0, 1, none, [], []), [])], [], [])
def aH_m_X10_isOr : List aH := [(0, [(0, (2, 39, 0, none, [], []))], [], [], 0, [])]
theorem as_m_X10_isOr : a_spec a_tb aC_m_X10_isOr := a_meth (Sp := [aC_m_X10_spelt, aC_m_X10_isKey]) (hd := aH_m_X10_isOr) (mi := xmi_X10_isOr) 14 rfl (a_sp_c as_m_X10_spelt (a_sp_c as_m_X10_isKey a_sp_n)) (by decide +kernel) (by decide +kernel)
/-- X5_lightest@r15 -/
def aC_m_X5_lightest_r15 : aC := (xi_X5_lightest, 1, [(2, 21, 0, none, [], []), (2, 15, 0, none, [], []), (0, (-2147483648), 924, none, [], [])], [(some (0, 0, 4095, none, [], []), [])], [], [])
def aH_m_X5_lightest_r15 : List aH := [(0, [(0, (2, 21, 0, none, [], [])), (1, (2, 15, 0, none, [], [])), (2, (0, (-2147483648), 924, some ((0, 102), 0), [], []))], [], [], 924, []),
  (14, [(0, (2, 21, 0, none, [], [])), (1, (2, 15, 0, none, [], [])), (2, (0, (-2147483648), 924, some ((0, 102), 0), [], [])), (3, (0, 0, 4095, some ((0, 3), 0), [], [])), (4, (0, (-2147483648), 2147483647, some ((0, 4), 0), [], [])), (5, (0, 1, 924, some ((0, 5), 0), [], []))], [], [], 924, [((-1), (0, 5))])]
theorem as_m_X5_lightest_r15 : a_spec a_tb aC_m_X5_lightest_r15 := a_meth (Sp := [aC_m_X5_weightOf]) (hd := aH_m_X5_lightest_r15) (mi := xmi_X5_lightest) 26 rfl (a_sp_c as_m_X5_weightOf a_sp_n) (by decide +kernel) (by decide +kernel)
/-- X3_push -/
def aC_m_X3_push : aC := (xi_X3_push, 0, [(2, 4, 0, none, [], []), (0, (-2147483648), 2147483647, none, [], []), (0, 0, 1, none, [], [])], [(some (0, (-2147483648), 2147483647, none, [], []), [])], [(7, 0)], [])
def aH_m_X3_push : List aH := [(0, [(0, (2, 4, 0, none, [], [])), (1, (0, (-2147483648), 2147483647, some ((0, 101), 0), [], [])), (2, (0, 0, 1, some ((0, 102), 0), [], []))], [], [], 0, [])]
theorem as_m_X3_push : a_spec a_tb aC_m_X3_push := a_meth (Sp := []) (hd := aH_m_X3_push) (mi := xmi_X3_push) 19 rfl a_sp_n (by decide +kernel) (by decide +kernel)
/-- X3_join -/
def aC_m_X3_join : aC := (xi_X3_join, 0, [(0, 2, 6, none, [], []), (0, (-2147483648), 2147483647, none, [], []), (0, (-2147483648), 2147483647, none, [], []), (0, (-2147483648), 2147483647, none, [], [])], [(some (0, (-2147483648), 2147483647, none, [], []), [])], [], [])
def aH_m_X3_join : List aH := [(0, [(0, (0, 2, 6, some ((0, 100), 0), [], [])), (1, (0, (-2147483648), 2147483647, some ((0, 101), 0), [], [])), (2, (0, (-2147483648), 2147483647, some ((0, 102), 0), [], [])), (3, (0, (-2147483648), 2147483647, some ((0, 103), 0), [], []))], [], [], 0, [])]
theorem as_m_X3_join : a_spec a_tb aC_m_X3_join := a_meth (Sp := []) (hd := aH_m_X3_join) (mi := xmi_X3_join) 17 rfl a_sp_n (by decide +kernel) (by decide +kernel)
/-- X5_mostRest -/
def aC_m_X5_mostRest : aC := (xi_X5_mostRest, 0, [(2, 21, 0, none, [], [])], [(some (0, (-2147483648), 2147483647, none, [], []), [])], [], [])
def aH_m_X5_mostRest : List aH := [(0, [(0, (2, 21, 0, none, [], []))], [], [((21, 8), (0, 0, 12, some ((22, 8), 0), [], []))], 13, []),
  (11, [(0, (2, 21, 0, none, [], [])), (1, (0, (-1), 60, some ((0, 1), 0), [], [])), (2, (0, (-2147483648), 2147483647, some ((0, 2), 0), [], [])), (3, (0, (-1), 11, some ((0, 3), 0), [], []))], [], [((21, 8), (0, 0, 12, some ((22, 8), 0), [], []))], 1, [(1, (0, 3))])]
theorem as_m_X5_mostRest : a_spec a_tb aC_m_X5_mostRest := a_meth (Sp := []) (hd := aH_m_X5_mostRest) (mi := xmi_X5_mostRest) 29 rfl a_sp_n (by decide +kernel) (by decide +kernel)
/-- X10_isOf -/
def aC_m_X10_isOf : aC := (xi_X10_isOf, 1, [(2, 39, 0, none, [], [])], [(some (0, 0, 1, none, [], []), [])], [], [])
def aH_m_X10_isOf : List aH := [(0, [(0, (2, 39, 0, none, [], []))], [], [], 0, [])]
theorem as_m_X10_isOf : a_spec a_tb aC_m_X10_isOf := a_meth (Sp := [aC_m_X10_spelt, aC_m_X10_isKey]) (hd := aH_m_X10_isOf) (mi := xmi_X10_isOf) 14 rfl (a_sp_c as_m_X10_spelt (a_sp_c as_m_X10_isKey a_sp_n)) (by decide +kernel) (by decide +kernel)
/-- X5_lightest@r16 -/
def aC_m_X5_lightest_r16 : aC := (xi_X5_lightest, 1, [(2, 21, 0, none, [], []), (2, 16, 0, none, [], []), (0, (-2147483648), 924, none, [], [])], [(some (0, 0, 4095, none, [], []), [])], [], [])
def aH_m_X5_lightest_r16 : List aH := [(0, [(0, (2, 21, 0, none, [], [])), (1, (2, 16, 0, none, [], [])), (2, (0, (-2147483648), 924, some ((0, 102), 0), [], []))], [], [], 924, []),
  (14, [(0, (2, 21, 0, none, [], [])), (1, (2, 16, 0, none, [], [])), (2, (0, (-2147483648), 924, some ((0, 102), 0), [], [])), (3, (0, 0, 4095, some ((0, 3), 0), [], [])), (4, (0, (-2147483648), 2147483647, some ((0, 4), 0), [], [])), (5, (0, 1, 924, some ((0, 5), 0), [], []))], [], [], 924, [((-1), (0, 5))])]
theorem as_m_X5_lightest_r16 : a_spec a_tb aC_m_X5_lightest_r16 := a_meth (Sp := [aC_m_X5_weightOf]) (hd := aH_m_X5_lightest_r16) (mi := xmi_X5_lightest) 26 rfl (a_sp_c as_m_X5_weightOf a_sp_n) (by decide +kernel) (by decide +kernel)
/-- X10_isSign -/
def aC_m_X10_isSign : aC := (xi_X10_isSign, 0, [(2, 39, 0, none, [], []), (0, 40, 93, none, [], [])], [(some (0, 0, 1, none, [], []), [])], [], [])
def aH_m_X10_isSign : List aH := [(0, [(0, (2, 39, 0, none, [], [])), (1, (0, 40, 93, some ((0, 101), 0), [], []))], [], [((39, 9), (0, 0, 4, some ((40, 9), 0), [], [])), ((39, 11), (0, 0, 255, some ((40, 11), 0), [], []))], 0, [])]
theorem as_m_X10_isSign : a_spec a_tb aC_m_X10_isSign := a_meth (Sp := []) (hd := aH_m_X10_isSign) (mi := xmi_X10_isSign) 16 rfl a_sp_n (by decide +kernel) (by decide +kernel)
/-- X3_replace -/
def aC_m_X3_replace : aC := (xi_X3_replace, 0, [(2, 4, 0, none, [], []), (0, (-2147483648), 2147483647, none, [], []), (0, (-2147483648), 2147483647, none, [], [])], [(none, [])], [(7, 0)], [])
def aH_m_X3_replace : List aH := [(0, [(0, (2, 4, 0, none, [], [])), (1, (0, (-2147483648), 2147483647, some ((0, 101), 0), [], [])), (2, (0, (-2147483648), 2147483647, some ((0, 102), 0), [], []))], [], [], 0, [])]
theorem as_m_X3_replace : a_spec a_tb aC_m_X3_replace := a_meth (Sp := []) (hd := aH_m_X3_replace) (mi := xmi_X3_replace) 18 rfl a_sp_n (by decide +kernel) (by decide +kernel)
/-- X10_badAt -/
def aC_m_X10_badAt : aC := (xi_X10_badAt, 0, [(2, 39, 0, none, [], []), (0, 2, 4, none, [], []), (0, 0, 640, none, [], [])], [(some (0, 0, 0, none, [], []), [])], [(39, 13), (39, 14)], [])
def aH_m_X10_badAt : List aH := [(0, [(0, (2, 39, 0, none, [], [])), (1, (0, 2, 4, some ((0, 101), 0), [], [])), (2, (0, 0, 640, some ((0, 102), 0), [], []))], [], [], 0, [])]
theorem as_m_X10_badAt : a_spec a_tb aC_m_X10_badAt := a_meth (Sp := []) (hd := aH_m_X10_badAt) (mi := xmi_X10_badAt) 13 rfl a_sp_n (by decide +kernel) (by decide +kernel)
/-- X10_nameAtHand -/
def aC_m_X10_nameAtHand : aC := (xi_X10_nameAtHand, 0, [(2, 39, 0, none, [], [])], [(some (0, (-1), 15, none, [], []), [])], [], [])
def aH_m_X10_nameAtHand : List aH := [(0, [(0, (2, 39, 0, none, [], []))], [], [((39, 26), (0, 0, 16, some ((40, 26), 0), [], []))], 17, []),
  (2, [(0, (2, 39, 0, none, [], [])), (1, (0, 0, 16, some ((0, 1), 0), [], []))], [], [((39, 26), (0, 0, 16, some ((40, 26), 0), [], []))], 16, [((-1), (0, 1))])]
theorem as_m_X10_nameAtHand : a_spec a_tb aC_m_X10_nameAtHand := a_meth (Sp := []) (hd := aH_m_X10_nameAtHand) (mi := xmi_X10_nameAtHand) 20 rfl a_sp_n (by decide +kernel) (by decide +kernel)
/-- X5_tell -/
def aC_m_X5_tell : aC := (xi_X5_tell, 1, [(2, 21, 0, none, [], [])], [(none, [])], [(21, 1), (22, 0)], [])
def aH_m_X5_tell : List aH := [(0, [(0, (2, 21, 0, none, [], []))], [], [((14, 7), (0, 0, 12, some ((15, 7), 0), [], [])), ((21, 12), (0, 0, 4095, some ((22, 12), 0), [], []))], 13, []),
  (2, [(0, (2, 21, 0, none, [], [])), (1, (0, 0, 12, some ((0, 1), 0), [], []))], [], [((14, 7), (0, 0, 12, some ((15, 7), 0), [], [])), ((21, 12), (0, 0, 4095, some ((22, 12), 0), [], []))], 12, [((-1), (0, 1))])]
theorem as_m_X5_tell : a_spec a_tb aC_m_X5_tell := a_meth (Sp := [aC_m_X5_weightOf]) (hd := aH_m_X5_tell) (mi := xmi_X5_tell) 25 rfl (a_sp_c as_m_X5_weightOf a_sp_n) (by decide +kernel) (by decide +kernel)
/-- X6_isLike -/
def aC_m_X6_isLike : aC := (xi_X6_isLike, 1, [(2, 8, 0, none, [], []), (0, 0, 639, none, [], []), (0, 0, 640, none, [], [])], [(some (0, 0, 1, none, [], []), [])], [], [])
def aH_m_X6_isLike : List aH := [(0, [(0, (2, 8, 0, none, [], [])), (1, (0, 0, 639, some ((0, 101), 0), [], [])), (2, (0, 0, 640, some ((0, 102), 0), [], []))], [], [((8, 4), (0, 0, 639, some ((9, 4), 0), [], [])), ((8, 5), (0, 0, 640, some ((9, 5), 0), [], []))], 641, []),
  (19, [(0, (2, 8, 0, none, [], [])), (1, (0, 0, 639, some ((0, 101), 0), [], [])), (2, (0, 0, 640, some ((0, 102), 0), [], [])), (3, (0, 0, 640, some ((0, 3), 0), [], []))], [], [((8, 4), (0, 0, 639, some ((9, 4), 0), [], [])), ((8, 5), (0, 0, 640, some ((9, 5), 0), [], []))], 640, [((-1), (0, 3))])]
theorem as_m_X6_isLike : a_spec a_tb aC_m_X6_isLike := a_meth (Sp := [aC_m_X8_at]) (hd := aH_m_X6_isLike) (mi := xmi_X6_isLike) 27 rfl (a_sp_c as_m_X8_at a_sp_n) (by decide +kernel) (by decide +kernel)
/-- X6_isCut -/
def aC_m_X6_isCut : aC := (xi_X6_isCut, 0, [(2, 8, 0, none, [], [])], [(some (0, 0, 1, none, [], []), [])], [], [])
def aH_m_X6_isCut : List aH := [(0, [(0, (2, 8, 0, none, [], []))], [], [((1, 1), (0, 0, 640, some ((2, 1), 0), [], []))], 0, [])]
theorem as_m_X6_isCut : a_spec a_tb aC_m_X6_isCut := a_meth (Sp := []) (hd := aH_m_X6_isCut) (mi := xmi_X6_isCut) 13 rfl a_sp_n (by decide +kernel) (by decide +kernel)
/-- X10_come@f39.2:0:620 -/
def aC_m_X10_come_f39_2_0_620 : aC := (xi_X10_come, 0, [(2, 39, 0, none, [], []), (0, (-2147483648), 2147483647, none, [], [])], [(none, [((39, 2), 4, 624)])], [(39, 2), (40, 0)], [((39, 2), 0, 620)])
def aH_m_X10_come_f39_2_0_620 : List aH := [(0, [(0, (2, 39, 0, none, [], [])), (1, (0, (-2147483648), 2147483647, some ((0, 101), 0), [], []))], [], [((39, 2), (0, 0, 620, some ((40, 2), 0), [], []))], 33, []),
  (3, [(0, (2, 39, 0, none, [], [])), (1, (0, (-2147483648), 2147483647, some ((0, 101), 0), [], [])), (2, (0, 16, 16, some ((0, 2), 0), [], []))], [], [((39, 2), (0, 1, 621, some ((40, 2), 0), [], []))], 8, [(1, (0, 2))]),
  (3, [(0, (2, 39, 0, none, [], [])), (1, (0, (-2147483648), 2147483647, some ((0, 101), 0), [], [])), (2, (0, 8, 8, some ((0, 2), 0), [], []))], [], [((39, 2), (0, 2, 622, some ((40, 2), 0), [], []))], 8, [(1, (0, 2))]),
  (3, [(0, (2, 39, 0, none, [], [])), (1, (0, (-2147483648), 2147483647, some ((0, 101), 0), [], [])), (2, (0, 0, 0, some ((0, 2), 0), [], []))], [], [((39, 2), (0, 3, 623, some ((40, 2), 0), [], []))], 8, [(1, (0, 2))]),
  (3, [(0, (2, 39, 0, none, [], [])), (1, (0, (-2147483648), 2147483647, some ((0, 101), 0), [], [])), (2, (0, (-8), (-8), some ((0, 2), 0), [], []))], [], [((39, 2), (0, 4, 624, some ((40, 2), 0), [], []))], 8, [(1, (0, 2))]),
  (3, [(0, (2, 39, 0, none, [], [])), (1, (0, (-2147483648), 2147483647, some ((0, 101), 0), [], [])), (2, (0, 24, 24, some ((0, 2), 0), [], []))], [], [((39, 2), (0, 0, 620, some ((40, 2), 0), [], []))], 8, [(1, (0, 2))])]
theorem as_m_X10_come_f39_2_0_620 : a_spec a_tb aC_m_X10_come_f39_2_0_620 := a_meth (Sp := []) (hd := aH_m_X10_come_f39_2_0_620) (mi := xmi_X10_come) 26 rfl a_sp_n (by decide +kernel) (by decide +kernel)
/-- X10_come@f39.2:4:624 -/
def aC_m_X10_come_f39_2_4_624 : aC := (xi_X10_come, 0, [(2, 39, 0, none, [], []), (0, (-2147483648), 2147483647, none, [], [])], [(none, [((39, 2), 8, 628)])], [(39, 2), (40, 0)], [((39, 2), 4, 624)])
def aH_m_X10_come_f39_2_4_624 : List aH := [(0, [(0, (2, 39, 0, none, [], [])), (1, (0, (-2147483648), 2147483647, some ((0, 101), 0), [], []))], [], [((39, 2), (0, 4, 624, some ((40, 2), 0), [], []))], 33, []),
  (3, [(0, (2, 39, 0, none, [], [])), (1, (0, (-2147483648), 2147483647, some ((0, 101), 0), [], [])), (2, (0, 16, 16, some ((0, 2), 0), [], []))], [], [((39, 2), (0, 5, 625, some ((40, 2), 0), [], []))], 8, [(1, (0, 2))]),
  (3, [(0, (2, 39, 0, none, [], [])), (1, (0, (-2147483648), 2147483647, some ((0, 101), 0), [], [])), (2, (0, 8, 8, some ((0, 2), 0), [], []))], [], [((39, 2), (0, 6, 626, some ((40, 2), 0), [], []))], 8, [(1, (0, 2))]),
  (3, [(0, (2, 39, 0, none, [], [])), (1, (0, (-2147483648), 2147483647, some ((0, 101), 0), [], [])), (2, (0, 0, 0, some ((0, 2), 0), [], []))], [], [((39, 2), (0, 7, 627, some ((40, 2), 0), [], []))], 8, [(1, (0, 2))]),
  (3, [(0, (2, 39, 0, none, [], [])), (1, (0, (-2147483648), 2147483647, some ((0, 101), 0), [], [])), (2, (0, (-8), (-8), some ((0, 2), 0), [], []))], [], [((39, 2), (0, 8, 628, some ((40, 2), 0), [], []))], 8, [(1, (0, 2))]),
  (3, [(0, (2, 39, 0, none, [], [])), (1, (0, (-2147483648), 2147483647, some ((0, 101), 0), [], [])), (2, (0, 24, 24, some ((0, 2), 0), [], []))], [], [((39, 2), (0, 4, 624, some ((40, 2), 0), [], []))], 8, [(1, (0, 2))])]
theorem as_m_X10_come_f39_2_4_624 : a_spec a_tb aC_m_X10_come_f39_2_4_624 := a_meth (Sp := []) (hd := aH_m_X10_come_f39_2_4_624) (mi := xmi_X10_come) 26 rfl a_sp_n (by decide +kernel) (by decide +kernel)
/-- X10_come@f39.2:8:628 -/
def aC_m_X10_come_f39_2_8_628 : aC := (xi_X10_come, 0, [(2, 39, 0, none, [], []), (0, (-2147483648), 2147483647, none, [], [])], [(none, [((39, 2), 12, 632)])], [(39, 2), (40, 0)], [((39, 2), 8, 628)])
def aH_m_X10_come_f39_2_8_628 : List aH := [(0, [(0, (2, 39, 0, none, [], [])), (1, (0, (-2147483648), 2147483647, some ((0, 101), 0), [], []))], [], [((39, 2), (0, 8, 628, some ((40, 2), 0), [], []))], 33, []),
  (3, [(0, (2, 39, 0, none, [], [])), (1, (0, (-2147483648), 2147483647, some ((0, 101), 0), [], [])), (2, (0, 16, 16, some ((0, 2), 0), [], []))], [], [((39, 2), (0, 9, 629, some ((40, 2), 0), [], []))], 8, [(1, (0, 2))]),
  (3, [(0, (2, 39, 0, none, [], [])), (1, (0, (-2147483648), 2147483647, some ((0, 101), 0), [], [])), (2, (0, 8, 8, some ((0, 2), 0), [], []))], [], [((39, 2), (0, 10, 630, some ((40, 2), 0), [], []))], 8, [(1, (0, 2))]),
  (3, [(0, (2, 39, 0, none, [], [])), (1, (0, (-2147483648), 2147483647, some ((0, 101), 0), [], [])), (2, (0, 0, 0, some ((0, 2), 0), [], []))], [], [((39, 2), (0, 11, 631, some ((40, 2), 0), [], []))], 8, [(1, (0, 2))]),
  (3, [(0, (2, 39, 0, none, [], [])), (1, (0, (-2147483648), 2147483647, some ((0, 101), 0), [], [])), (2, (0, (-8), (-8), some ((0, 2), 0), [], []))], [], [((39, 2), (0, 12, 632, some ((40, 2), 0), [], []))], 8, [(1, (0, 2))]),
  (3, [(0, (2, 39, 0, none, [], [])), (1, (0, (-2147483648), 2147483647, some ((0, 101), 0), [], [])), (2, (0, 24, 24, some ((0, 2), 0), [], []))], [], [((39, 2), (0, 8, 628, some ((40, 2), 0), [], []))], 8, [(1, (0, 2))])]
theorem as_m_X10_come_f39_2_8_628 : a_spec a_tb aC_m_X10_come_f39_2_8_628 := a_meth (Sp := []) (hd := aH_m_X10_come_f39_2_8_628) (mi := xmi_X10_come) 26 rfl a_sp_n (by decide +kernel) (by decide +kernel)
/-- X10_come@f39.2:12:632 -/
def aC_m_X10_come_f39_2_12_632 : aC := (xi_X10_come, 0, [(2, 39, 0, none, [], []), (0, (-2147483648), 2147483647, none, [], [])], [(none, [((39, 2), 16, 636)])], [(39, 2), (40, 0)], [((39, 2), 12, 632)])
def aH_m_X10_come_f39_2_12_632 : List aH := [(0, [(0, (2, 39, 0, none, [], [])), (1, (0, (-2147483648), 2147483647, some ((0, 101), 0), [], []))], [], [((39, 2), (0, 12, 632, some ((40, 2), 0), [], []))], 33, []),
  (3, [(0, (2, 39, 0, none, [], [])), (1, (0, (-2147483648), 2147483647, some ((0, 101), 0), [], [])), (2, (0, 16, 16, some ((0, 2), 0), [], []))], [], [((39, 2), (0, 13, 633, some ((40, 2), 0), [], []))], 8, [(1, (0, 2))]),
  (3, [(0, (2, 39, 0, none, [], [])), (1, (0, (-2147483648), 2147483647, some ((0, 101), 0), [], [])), (2, (0, 8, 8, some ((0, 2), 0), [], []))], [], [((39, 2), (0, 14, 634, some ((40, 2), 0), [], []))], 8, [(1, (0, 2))]),
  (3, [(0, (2, 39, 0, none, [], [])), (1, (0, (-2147483648), 2147483647, some ((0, 101), 0), [], [])), (2, (0, 0, 0, some ((0, 2), 0), [], []))], [], [((39, 2), (0, 15, 635, some ((40, 2), 0), [], []))], 8, [(1, (0, 2))]),
  (3, [(0, (2, 39, 0, none, [], [])), (1, (0, (-2147483648), 2147483647, some ((0, 101), 0), [], [])), (2, (0, (-8), (-8), some ((0, 2), 0), [], []))], [], [((39, 2), (0, 16, 636, some ((40, 2), 0), [], []))], 8, [(1, (0, 2))]),
  (3, [(0, (2, 39, 0, none, [], [])), (1, (0, (-2147483648), 2147483647, some ((0, 101), 0), [], [])), (2, (0, 24, 24, some ((0, 2), 0), [], []))], [], [((39, 2), (0, 12, 632, some ((40, 2), 0), [], []))], 8, [(1, (0, 2))])]
theorem as_m_X10_come_f39_2_12_632 : a_spec a_tb aC_m_X10_come_f39_2_12_632 := a_meth (Sp := []) (hd := aH_m_X10_come_f39_2_12_632) (mi := xmi_X10_come) 26 rfl a_sp_n (by decide +kernel) (by decide +kernel)
/-- X10_come@f39.2:16:636 -/
def aC_m_X10_come_f39_2_16_636 : aC := (xi_X10_come, 0, [(2, 39, 0, none, [], []), (0, (-2147483648), 2147483647, none, [], [])], [(none, [((39, 2), 20, 640)])], [(39, 2), (40, 0)], [((39, 2), 16, 636)])
def aH_m_X10_come_f39_2_16_636 : List aH := [(0, [(0, (2, 39, 0, none, [], [])), (1, (0, (-2147483648), 2147483647, some ((0, 101), 0), [], []))], [], [((39, 2), (0, 16, 636, some ((40, 2), 0), [], []))], 33, []),
  (3, [(0, (2, 39, 0, none, [], [])), (1, (0, (-2147483648), 2147483647, some ((0, 101), 0), [], [])), (2, (0, 16, 16, some ((0, 2), 0), [], []))], [], [((39, 2), (0, 17, 637, some ((40, 2), 0), [], []))], 8, [(1, (0, 2))]),
  (3, [(0, (2, 39, 0, none, [], [])), (1, (0, (-2147483648), 2147483647, some ((0, 101), 0), [], [])), (2, (0, 8, 8, some ((0, 2), 0), [], []))], [], [((39, 2), (0, 18, 638, some ((40, 2), 0), [], []))], 8, [(1, (0, 2))]),
  (3, [(0, (2, 39, 0, none, [], [])), (1, (0, (-2147483648), 2147483647, some ((0, 101), 0), [], [])), (2, (0, 0, 0, some ((0, 2), 0), [], []))], [], [((39, 2), (0, 19, 639, some ((40, 2), 0), [], []))], 8, [(1, (0, 2))]),
  (3, [(0, (2, 39, 0, none, [], [])), (1, (0, (-2147483648), 2147483647, some ((0, 101), 0), [], [])), (2, (0, (-8), (-8), some ((0, 2), 0), [], []))], [], [((39, 2), (0, 20, 640, some ((40, 2), 0), [], []))], 8, [(1, (0, 2))]),
  (3, [(0, (2, 39, 0, none, [], [])), (1, (0, (-2147483648), 2147483647, some ((0, 101), 0), [], [])), (2, (0, 24, 24, some ((0, 2), 0), [], []))], [], [((39, 2), (0, 16, 636, some ((40, 2), 0), [], []))], 8, [(1, (0, 2))])]
theorem as_m_X10_come_f39_2_16_636 : a_spec a_tb aC_m_X10_come_f39_2_16_636 := a_meth (Sp := []) (hd := aH_m_X10_come_f39_2_16_636) (mi := xmi_X10_come) 26 rfl a_sp_n (by decide +kernel) (by decide +kernel)
end XB1
end
section
section XB1
/-- X4_takeOpening@f3.6:12:12 -/
def aC_m_X4_takeOpening_f3_6_12_12 : aC := (xi_X4_takeOpening, 1, [(2, 3, 0, none, [], []), (0, 40, 91, none, [], [])], [(some (0, 0, 0, none, [], []), [((3, 6), 12, 12)])], [(3, 8), (3, 9)], [((3, 6), 12, 12)])
def aH_m_X4_takeOpening_f3_6_12_12 : List aH := [(0, [(0, (2, 3, 0, none, [], [])), (1, (0, 40, 91, some ((0, 101), 0), [], []))], [], [((3, 6), (0, 12, 12, some ((4, 6), 0), [], [])), ((8, 3), (0, (-1), 255, some ((9, 3), 0), [], [])), ((8, 4), (0, 0, 639, some ((9, 4), 0), [], []))], 0, [])]
theorem as_m_X4_takeOpening_f3_6_12_12 : a_spec a_tb aC_m_X4_takeOpening_f3_6_12_12 := a_meth (Sp := [aC_m_X4_fail]) (hd := aH_m_X4_takeOpening_f3_6_12_12) (mi := xmi_X4_takeOpening) 21 rfl (a_sp_c as_m_X4_fail a_sp_n) (by decide +kernel) (by decide +kernel)
/-- X9_feed -/
def aC_m_X9_feed : aC := (xi_X9_feed, 1, [(2, 0, 0, none, [], []), (0, (-2147483648), 2147483647, none, [], []), (0, (-2147483648), 2147483647, none, [], []), (0, (-2147483648), 2147483647, none, [], []), (0, (-2147483648), 2147483647, none, [], []), (0, (-2147483648), 2147483647, none, [], [])], [(some (0, (-1), 640, none, [], []), [])], [(1, 1), (2, 0)], [])
def aH_m_X9_feed : List aH := [(0, [(0, (2, 0, 0, none, [], [])), (1, (0, (-2147483648), 2147483647, some ((0, 101), 0), [], [])), (2, (0, (-2147483648), 2147483647, some ((0, 102), 0), [], [])), (3, (0, (-2147483648), 2147483647, some ((0, 103), 0), [], [])), (4, (0, (-2147483648), 2147483647, some ((0, 104), 0), [], [])), (5, (0, (-2147483648), 2147483647, some ((0, 105), 0), [], []))], [], [((1, 1), (0, 0, 640, some ((2, 1), 0), [], []))], 0, [])]
theorem as_m_X9_feed : a_spec a_tb aC_m_X9_feed := a_meth (Sp := [aC_m_X8_hasRoom, aC_m_X8_put]) (hd := aH_m_X9_feed) (mi := xmi_X9_feed) 33 rfl (a_sp_c as_m_X8_hasRoom (a_sp_c as_m_X8_put a_sp_n)) (by decide +kernel) (by decide +kernel)
/-- X10_feed -/
def aC_m_X10_feed : aC := (xi_X10_feed, 1, [(2, 39, 0, none, [], []), (0, (-2147483648), 2147483647, none, [], []), (0, (-2147483648), 2147483647, none, [], []), (0, (-2147483648), 2147483647, none, [], []), (0, (-2147483648), 2147483647, none, [], []), (0, (-2147483648), 2147483647, none, [], [])], [(some (0, (-1), 640, none, [], []), [])], [(39, 0), (39, 2), (40, 0)], [])
def aH_m_X10_feed : List aH := [(0, [(0, (2, 39, 0, none, [], [])), (1, (0, (-2147483648), 2147483647, some ((0, 101), 0), [], [])), (2, (0, (-2147483648), 2147483647, some ((0, 102), 0), [], [])), (3, (0, (-2147483648), 2147483647, some ((0, 103), 0), [], [])), (4, (0, (-2147483648), 2147483647, some ((0, 104), 0), [], [])), (5, (0, (-2147483648), 2147483647, some ((0, 105), 0), [], []))], [], [((39, 2), (0, 0, 640, some ((40, 2), 0), [], []))], 0, [])]
theorem as_m_X10_feed : a_spec a_tb aC_m_X10_feed := a_meth (Sp := [aC_m_X10_come_f39_2_0_620, aC_m_X10_come_f39_2_4_624, aC_m_X10_come_f39_2_8_628, aC_m_X10_come_f39_2_12_632, aC_m_X10_come_f39_2_16_636]) (hd := aH_m_X10_feed) (mi := xmi_X10_feed) 32 rfl (a_sp_c as_m_X10_come_f39_2_0_620 (a_sp_c as_m_X10_come_f39_2_4_624 (a_sp_c as_m_X10_come_f39_2_8_628 (a_sp_c as_m_X10_come_f39_2_12_632 (a_sp_c as_m_X10_come_f39_2_16_636 a_sp_n))))) (by decide +kernel) (by decide +kernel)
/-- X10_next -/
def aC_m_X10_next : aC := (xi_X10_next, 1, [(2, 39, 0, none, [], []), (0, (-2147483648), 2147483647, none, [], [])], [(some (0, (-2147483648), 2147483647, none, [], []), [])], [(39, 0), (39, 3)], [])
def aH_m_X10_next : List aH := [(0, [(0, (2, 39, 0, none, [], [])), (1, (0, (-2147483648), 2147483647, some ((0, 101), 0), [], []))], [], [((39, 3), (0, (-2147483648), 2147483647, some ((40, 3), 0), [], []))], 0, [])]
theorem as_m_X10_next : a_spec a_tb aC_m_X10_next := a_meth (Sp := [aC_m_X10_isIn_0_0_999_999]) (hd := aH_m_X10_next) (mi := xmi_X10_next) 28 rfl (a_sp_c as_m_X10_isIn_0_0_999_999 a_sp_n) (by decide +kernel) (by decide +kernel)
/-- X10_members -/
def aC_m_X10_members : aC := (xi_X10_members, 1, [(2, 39, 0, none, [], []), (0, (-2147483648), 2147483647, none, [], [])], [(some (0, 0, 1, none, [((0, 101), 1, 12)], []), [])], [(39, 0), (39, 4)], [])
def aH_m_X10_members : List aH := [(0, [(0, (2, 39, 0, none, [], [])), (1, (0, (-2147483648), 2147483647, some ((0, 101), 0), [], []))], [], [((39, 5), (0, 0, 1, some ((40, 5), 0), [], [])), ((39, 33), (0, 0, 8, some ((40, 33), 0), [], [])), ((39, 63), (0, 0, 60, some ((40, 63), 0), [], []))], 0, [])]
theorem as_m_X10_members : a_spec a_tb aC_m_X10_members := a_meth (Sp := [aC_m_X10_isIn_1_1_12_12]) (hd := aH_m_X10_members) (mi := xmi_X10_members) 27 rfl (a_sp_c as_m_X10_isIn_1_1_12_12 a_sp_n) (by decide +kernel) (by decide +kernel)
/-- X9_carries -/
def aC_m_X9_carries : aC := (xi_X9_carries, 1, [(2, 0, 0, none, [], []), (0, (-2147483648), 2147483647, none, [], []), (0, (-2147483648), 2147483647, none, [], [])], [(some (0, (-1), 1, none, [], []), [])], [], [])
def aH_m_X9_carries : List aH := [(0, [(0, (2, 0, 0, none, [], [])), (1, (0, (-2147483648), 2147483647, some ((0, 101), 0), [], [])), (2, (0, (-2147483648), 2147483647, some ((0, 102), 0), [], []))], [], [], 0, [])]
theorem as_m_X9_carries : a_spec a_tb aC_m_X9_carries := a_meth (Sp := [aC_m_X9_isSet, aC_m_X9_inForce, aC_m_X7_holds]) (hd := aH_m_X9_carries) (mi := xmi_X9_carries) 23 rfl (a_sp_c as_m_X9_isSet (a_sp_c as_m_X9_inForce (a_sp_c as_m_X7_holds a_sp_n))) (by decide +kernel) (by decide +kernel)
/-- X10_carries -/
def aC_m_X10_carries : aC := (xi_X10_carries, 1, [(2, 39, 0, none, [], []), (0, (-2147483648), 2147483647, none, [], []), (0, (-2147483648), 2147483647, none, [], [])], [(some (0, (-1), 1, none, [], []), [])], [(39, 0)], [])
def aH_m_X10_carries : List aH := [(0, [(0, (2, 39, 0, none, [], [])), (1, (0, (-2147483648), 2147483647, some ((0, 101), 0), [], [])), (2, (0, (-2147483648), 2147483647, some ((0, 102), 0), [], []))], [], [], 0, [])]
theorem as_m_X10_carries : a_spec a_tb aC_m_X10_carries := a_meth (Sp := [aC_m_X10_isSet, aC_m_X10_isIn_0_0_999_999, aC_m_X10_inForce, aC_m_X10_carriesBy]) (hd := aH_m_X10_carries) (mi := xmi_X10_carries) 28 rfl (a_sp_c as_m_X10_isSet (a_sp_c as_m_X10_isIn_0_0_999_999 (a_sp_c as_m_X10_inForce (a_sp_c as_m_X10_carriesBy a_sp_n)))) (by decide +kernel) (by decide +kernel)
/-- X9_weight -/
def aC_m_X9_weight : aC := (xi_X9_weight, 1, [(2, 0, 0, none, [], []), (0, (-2147483648), 2147483647, none, [], [])], [(some (0, (-2147483648), 2147483647, none, [], []), [])], [], [])
def aH_m_X9_weight : List aH := [(0, [(0, (2, 0, 0, none, [], [])), (1, (0, (-2147483648), 2147483647, some ((0, 101), 0), [], []))], [], [((21, 1), (0, (-2147483648), 2147483647, some ((22, 1), 0), [], []))], 0, [])]
theorem as_m_X9_weight : a_spec a_tb aC_m_X9_weight := a_meth (Sp := [aC_m_X9_isMember]) (hd := aH_m_X9_weight) (mi := xmi_X9_weight) 19 rfl (a_sp_c as_m_X9_isMember a_sp_n) (by decide +kernel) (by decide +kernel)
/-- X9_beats -/
def aC_m_X9_beats : aC := (xi_X9_beats, 1, [(2, 0, 0, none, [], []), (0, (-2147483648), 2147483647, none, [], []), (0, (-2147483648), 2147483647, none, [], [])], [(some (0, (-1), 1, none, [], []), [])], [], [])
def aH_m_X9_beats : List aH := [(0, [(0, (2, 0, 0, none, [], [])), (1, (0, (-2147483648), 2147483647, some ((0, 101), 0), [], [])), (2, (0, (-2147483648), 2147483647, some ((0, 102), 0), [], []))], [], [((0, 9), (0, 1, 12, some ((1, 9), 0), [], [])), ((0, 10), (0, (-2147483648), 2147483647, some ((1, 10), 0), [], []))], 0, [])]
theorem as_m_X9_beats : a_spec a_tb aC_m_X9_beats := a_meth (Sp := [aC_m_X0_isOption, aC_m_X9_inForce, aC_m_X0_whoPrefer, aC_m_X7_holds]) (hd := aH_m_X9_beats) (mi := xmi_X9_beats) 30 rfl (a_sp_c as_m_X0_isOption (a_sp_c as_m_X9_inForce (a_sp_c as_m_X0_whoPrefer (a_sp_c as_m_X7_holds a_sp_n)))) (by decide +kernel) (by decide +kernel)
/-- X9_free -/
def aC_m_X9_free : aC := (xi_X9_free, 2, [(2, 0, 0, none, [], [])], [(some (0, 0, 127, none, [], []), [])], [(31, 0)], [])
def aH_m_X9_free : List aH := [(0, [(0, (2, 0, 0, none, [], []))], [], [((0, 9), (0, 1, 12, some ((1, 9), 0), [], [])), ((0, 10), (0, (-2147483648), 2147483647, some ((1, 10), 0), [], []))], 0, [])]
theorem as_m_X9_free : a_spec a_tb aC_m_X9_free := a_meth (Sp := [aC_m_X9_inForce, aC_m_X0_match, aC_m_X0_unbeaten]) (hd := aH_m_X9_free) (mi := xmi_X9_free) 18 rfl (a_sp_c as_m_X9_inForce (a_sp_c as_m_X0_match (a_sp_c as_m_X0_unbeaten a_sp_n))) (by decide +kernel) (by decide +kernel)
/-- X9_rowAt -/
def aC_m_X9_rowAt : aC := (xi_X9_rowAt, 1, [(2, 0, 0, none, [], []), (0, (-2147483648), 2147483647, none, [], [])], [(some (0, (-1), 6, none, [], []), [])], [], [])
def aH_m_X9_rowAt : List aH := [(0, [(0, (2, 0, 0, none, [], [])), (1, (0, (-2147483648), 2147483647, some ((0, 101), 0), [], []))], [], [], 0, [])]
theorem as_m_X9_rowAt : a_spec a_tb aC_m_X9_rowAt := a_meth (Sp := [aC_m_X0_isOption]) (hd := aH_m_X9_rowAt) (mi := xmi_X9_rowAt) 15 rfl (a_sp_c as_m_X0_isOption a_sp_n) (by decide +kernel) (by decide +kernel)
/-- X10_rowAt -/
def aC_m_X10_rowAt : aC := (xi_X10_rowAt, 1, [(2, 39, 0, none, [], []), (0, (-2147483648), 2147483647, none, [], [])], [(some (0, (-1), 6, none, [], []), [])], [(39, 0)], [])
def aH_m_X10_rowAt : List aH := [(0, [(0, (2, 39, 0, none, [], [])), (1, (0, (-2147483648), 2147483647, some ((0, 101), 0), [], []))], [], [((39, 59), (0, 0, 1, some ((40, 59), 0), [], []))], 0, [])]
theorem as_m_X10_rowAt : a_spec a_tb aC_m_X10_rowAt := a_meth (Sp := [aC_m_X10_isOption]) (hd := aH_m_X10_rowAt) (mi := xmi_X10_rowAt) 20 rfl (a_sp_c as_m_X10_isOption a_sp_n) (by decide +kernel) (by decide +kernel)
/-- X9_vote -/
def aC_m_X9_vote : aC := (xi_X9_vote, 1, [(2, 0, 0, none, [], []), (0, (-2147483648), 2147483647, none, [], []), (0, 0, 1, none, [], [])], [(some (0, (-1), 59, none, [], []), [])], [(35, 3), (36, 0), (37, 0), (38, 0)], [])
def aH_m_X9_vote : List aH := [(0, [(0, (2, 0, 0, none, [], [])), (1, (0, (-2147483648), 2147483647, some ((0, 101), 0), [], [])), (2, (0, 0, 1, some ((0, 102), 0), [], []))], [], [((0, 10), (0, (-2147483648), 2147483647, some ((1, 10), 0), [], []))], 0, [])]
theorem as_m_X9_vote : a_spec a_tb aC_m_X9_vote := a_meth (Sp := [aC_m_X9_isSet, aC_m_X1_add]) (hd := aH_m_X9_vote) (mi := xmi_X9_vote) 18 rfl (a_sp_c as_m_X9_isSet (a_sp_c as_m_X1_add a_sp_n)) (by decide +kernel) (by decide +kernel)
/-- X10_vote -/
def aC_m_X10_vote : aC := (xi_X10_vote, 1, [(2, 39, 0, none, [], []), (0, (-2147483648), 2147483647, none, [], []), (0, 0, 1, none, [], [])], [(some (0, (-1), 59, none, [], []), [])], [(39, 0), (39, 63), (68, 0), (69, 0), (70, 0)], [])
def aH_m_X10_vote : List aH := [(0, [(0, (2, 39, 0, none, [], [])), (1, (0, (-2147483648), 2147483647, some ((0, 101), 0), [], [])), (2, (0, 0, 1, some ((0, 102), 0), [], []))], [], [((39, 3), (0, (-2147483648), 2147483647, some ((40, 3), 0), [], [])), ((39, 63), (0, 0, 60, some ((40, 63), 0), [], []))], 0, [])]
theorem as_m_X10_vote : a_spec a_tb aC_m_X10_vote := a_meth (Sp := [aC_m_X10_isSet]) (hd := aH_m_X10_vote) (mi := xmi_X10_vote) 46 rfl (a_sp_c as_m_X10_isSet a_sp_n) (by decide +kernel) (by decide +kernel)
/-- X9_unfit -/
def aC_m_X9_unfit : aC := (xi_X9_unfit, 1, [(2, 0, 0, none, [], []), (0, (-2147483648), 2147483647, none, [], [])], [(some (0, (-1), 59, none, [], []), [])], [], [])
def aH_m_X9_unfit : List aH := [(0, [(0, (2, 0, 0, none, [], [])), (1, (0, (-2147483648), 2147483647, some ((0, 101), 0), [], []))], [], [((35, 3), (0, 0, 60, some ((36, 3), 0), [], []))], 61, []),
  (2, [(0, (2, 0, 0, none, [], [])), (1, (0, (-2147483648), 2147483647, some ((0, 101), 0), [], [])), (2, (0, 0, 60, some ((0, 2), 0), [], []))], [], [((35, 3), (0, 0, 60, some ((36, 3), 0), [], []))], 60, [((-1), (0, 2))])]
theorem as_m_X9_unfit : a_spec a_tb aC_m_X9_unfit := a_meth (Sp := [aC_m_X9_inForce, aC_m_X7_holds]) (hd := aH_m_X9_unfit) (mi := xmi_X9_unfit) 37 rfl (a_sp_c as_m_X9_inForce (a_sp_c as_m_X7_holds a_sp_n)) (by decide +kernel) (by decide +kernel)
/-- X10_unfit -/
def aC_m_X10_unfit : aC := (xi_X10_unfit, 1, [(2, 39, 0, none, [], []), (0, (-2147483648), 2147483647, none, [], [])], [(some (0, (-1), 59, none, [], []), [])], [(39, 0)], [])
def aH_m_X10_unfit : List aH := [(0, [(0, (2, 39, 0, none, [], [])), (1, (0, (-2147483648), 2147483647, some ((0, 101), 0), [], []))], [], [((39, 63), (0, 0, 60, some ((40, 63), 0), [], []))], 61, []),
  (7, [(0, (2, 39, 0, none, [], [])), (1, (0, (-2147483648), 2147483647, some ((0, 101), 0), [], [])), (2, (0, 0, 60, some ((0, 2), 0), [], []))], [], [((39, 0), (0, 0, 0, some ((40, 0), 0), [], [])), ((39, 63), (0, 0, 60, some ((40, 63), 0), [], []))], 60, [((-1), (0, 2))])]
theorem as_m_X10_unfit : a_spec a_tb aC_m_X10_unfit := a_meth (Sp := [aC_m_X10_inForce, aC_m_X10_carriesBy]) (hd := aH_m_X10_unfit) (mi := xmi_X10_unfit) 36 rfl (a_sp_c as_m_X10_inForce (a_sp_c as_m_X10_carriesBy a_sp_n)) (by decide +kernel) (by decide +kernel)
/-- X9_sure -/
def aC_m_X9_sure : aC := (xi_X9_sure, 1, [(2, 0, 0, none, [], []), (0, (-2147483648), 2147483647, none, [], []), (0, (-2147483648), 2147483647, none, [], [])], [(some (0, (-1), 3, none, [], []), [])], [], [])
def aH_m_X9_sure : List aH := [(0, [(0, (2, 0, 0, none, [], [])), (1, (0, (-2147483648), 2147483647, some ((0, 101), 0), [], [])), (2, (0, (-2147483648), 2147483647, some ((0, 102), 0), [], []))], [], [], 0, [])]
theorem as_m_X9_sure : a_spec a_tb aC_m_X9_sure := a_meth (Sp := [aC_m_X9_isSet, aC_m_X1_judge]) (hd := aH_m_X9_sure) (mi := xmi_X9_sure) 16 rfl (a_sp_c as_m_X9_isSet (a_sp_c as_m_X1_judge a_sp_n)) (by decide +kernel) (by decide +kernel)
/-- X10_sure -/
def aC_m_X10_sure : aC := (xi_X10_sure, 1, [(2, 39, 0, none, [], []), (0, (-2147483648), 2147483647, none, [], []), (0, (-2147483648), 2147483647, none, [], [])], [(some (0, (-1), 3, none, [], []), [])], [(39, 0)], [])
def aH_m_X10_sure : List aH := [(0, [(0, (2, 39, 0, none, [], [])), (1, (0, (-2147483648), 2147483647, some ((0, 101), 0), [], [])), (2, (0, (-2147483648), 2147483647, some ((0, 102), 0), [], []))], [], [], 0, [])]
theorem as_m_X10_sure : a_spec a_tb aC_m_X10_sure := a_meth (Sp := [aC_m_X10_isSet, aC_m_X10_sureOf]) (hd := aH_m_X10_sure) (mi := xmi_X10_sure) 18 rfl (a_sp_c as_m_X10_isSet (a_sp_c as_m_X10_sureOf a_sp_n)) (by decide +kernel) (by decide +kernel)
/-- X9_open -/
def aC_m_X9_open : aC := (xi_X9_open, 1, [(2, 0, 0, none, [], []), (0, (-2147483648), 2147483647, none, [], [])], [(some (0, (-2147483648), 2147483647, none, [], []), [])], [], [])
def aH_m_X9_open : List aH := [(0, [(0, (2, 0, 0, none, [], [])), (1, (0, (-2147483648), 2147483647, some ((0, 101), 0), [], []))], [], [((0, 9), (0, 1, 12, some ((1, 9), 0), [], []))], 4097, []),
  (4, [(0, (2, 0, 0, none, [], [])), (1, (0, (-2147483648), 2147483647, some ((0, 101), 0), [], [])), (2, (0, (-2147483648), 2147483647, some ((0, 2), 0), [], [])), (3, (0, 0, 4096, some ((0, 3), 0), [], []))], [], [((0, 9), (0, 1, 12, some ((1, 9), 0), [], []))], 4096, [((-1), (0, 3))])]
theorem as_m_X9_open : a_spec a_tb aC_m_X9_open := a_meth (Sp := [aC_m_X1_judge]) (hd := aH_m_X9_open) (mi := xmi_X9_open) 22 rfl (a_sp_c as_m_X1_judge a_sp_n) (by decide +kernel) (by decide +kernel)
/-- X10_open -/
def aC_m_X10_open : aC := (xi_X10_open, 1, [(2, 39, 0, none, [], []), (0, (-2147483648), 2147483647, none, [], [])], [(some (0, (-2147483648), 2147483647, none, [], []), [])], [(39, 0)], [])
def aH_m_X10_open : List aH := [(0, [(0, (2, 39, 0, none, [], [])), (1, (0, (-2147483648), 2147483647, some ((0, 101), 0), [], []))], [], [((39, 4), (0, 1, 12, some ((40, 4), 0), [], []))], 4097, []),
  (9, [(0, (2, 39, 0, none, [], [])), (1, (0, (-2147483648), 2147483647, some ((0, 101), 0), [], [])), (2, (0, (-2147483648), 2147483647, some ((0, 2), 0), [], [])), (3, (0, 0, 4096, some ((0, 3), 0), [], []))], [], [((39, 0), (0, 0, 0, some ((40, 0), 0), [], [])), ((39, 4), (0, 1, 12, some ((40, 4), 0), [], []))], 4096, [((-1), (0, 3))])]
theorem as_m_X10_open : a_spec a_tb aC_m_X10_open := a_meth (Sp := [aC_m_X10_sureOf]) (hd := aH_m_X10_open) (mi := xmi_X10_open) 21 rfl (a_sp_c as_m_X10_sureOf a_sp_n) (by decide +kernel) (by decide +kernel)
/-- X7_needAll -/
def aC_m_X7_needAll : aC := (xi_X7_needAll, 1, [(2, 11, 0, none, [], []), (0, 1, 12, none, [], [])], [(none, [])], [], [])
def aH_m_X7_needAll : List aH := [(0, [(0, (2, 11, 0, none, [], [])), (1, (0, 1, 12, some ((0, 101), 0), [], []))], [], [], 65, []),
  (2, [(0, (2, 11, 0, none, [], [])), (1, (0, 1, 12, some ((0, 101), 0), [], [])), (2, (0, 0, 64, some ((0, 2), 0), [], []))], [], [], 64, [((-1), (0, 2))])]
theorem as_m_X7_needAll : a_spec a_tb aC_m_X7_needAll := a_meth (Sp := [aC_m_X7_add]) (hd := aH_m_X7_needAll) (mi := xmi_X7_needAll) 16 rfl (a_sp_c as_m_X7_add a_sp_n) (by decide +kernel) (by decide +kernel)
/-- X0_isRow@r1 -/
def aC_m_X0_isRow_r1 : aC := (xi_X0_isRow, 1, [(2, 28, 0, none, [], []), (2, 1, 0, none, [], [])], [(some (0, 0, 1, none, [], []), [])], [], [])
def aH_m_X0_isRow_r1 : List aH := [(0, [(0, (2, 28, 0, none, [], [])), (1, (2, 1, 0, none, [], []))], [], [((1, 1), (0, 0, 640, some ((2, 1), 0), [], []))], 8, []),
  (23, [(0, (2, 28, 0, none, [], [])), (1, (2, 1, 0, none, [], [])), (2, (0, (-2147483648), 2147483647, some ((0, 2), 0), [], [])), (3, (0, 0, 7, some ((0, 3), 0), [], []))], [], [((1, 1), (0, 1, 7, some ((2, 1), 0), [], []))], 7, [((-1), (0, 3))])]
theorem as_m_X0_isRow_r1 : a_spec a_tb aC_m_X0_isRow_r1 := a_meth (Sp := [aC_m_X8_at, aC_m_X0_isOption]) (hd := aH_m_X0_isRow_r1) (mi := xmi_X0_isRow) 31 rfl (a_sp_c as_m_X8_at (a_sp_c as_m_X0_isOption a_sp_n)) (by decide +kernel) (by decide +kernel)
/-- X6_advance -/
def aC_m_X6_advance : aC := (xi_X6_advance, 2, [(2, 8, 0, none, [], [])], [(none, [])], [(8, 2), (8, 3), (8, 4), (8, 5), (8, 6)], [])
def aH_m_X6_advance : List aH := [(0, [(0, (2, 8, 0, none, [], []))], [], [((8, 1), (0, 0, 639, some ((9, 1), 0), [], [])), ((8, 2), (0, 0, 640, some ((9, 2), 0), [], []))], 640, [((-1), (9, 2))])]
theorem as_m_X6_advance : a_spec a_tb aC_m_X6_advance := a_meth (Sp := [aC_m_X8_at, aC_m_X6_isBlank, aC_m_X6_isLetter, aC_m_X6_isDigit, aC_m_X6_takeRun, aC_m_X6_isSign]) (hd := aH_m_X6_advance) (mi := xmi_X6_advance) 69 rfl (a_sp_c as_m_X8_at (a_sp_c as_m_X6_isBlank (a_sp_c as_m_X6_isLetter (a_sp_c as_m_X6_isDigit (a_sp_c as_m_X6_takeRun (a_sp_c as_m_X6_isSign a_sp_n)))))) (by decide +kernel) (by decide +kernel)
/-- X0_findReach -/
def aC_m_X0_findReach : aC := (xi_X0_findReach, 1, [(2, 28, 0, none, [], [])], [(none, [])], [(32, 0)], [])
def aH_m_X0_findReach : List aH := [(0, [(0, (2, 28, 0, none, [], []))], [], [], 144, []),
  (17, [(0, (2, 28, 0, none, [], [])), (1, (0, 0, 6, some ((0, 1), 0), [], [])), (2, (0, 0, 7, some ((0, 2), 0), [], []))], [], [], 142, [((-1), (0, 2)), ((-9), (0, 1))]),
  (2, [(0, (2, 28, 0, none, [], [])), (1, (0, 0, 7, some ((0, 1), 0), [], []))], [], [], 143, [((-9), (0, 1))]),
  (66, [(0, (2, 28, 0, none, [], [])), (1, (0, 0, 6, some ((0, 1), 0), [], [])), (2, (0, 0, 7, some ((0, 2), 0), [], []))], [], [], 70, [((-1), (0, 2)), ((-9), (0, 1))]),
  (58, [(0, (2, 28, 0, none, [], [])), (1, (0, 0, 7, some ((0, 1), 0), [], []))], [], [], 71, [((-9), (0, 1))])]
theorem as_m_X0_findReach : a_spec a_tb aC_m_X0_findReach := a_meth (Sp := [aC_m_X0_wins_ok]) (hd := aH_m_X0_findReach) (mi := xmi_X0_findReach) 31 rfl (a_sp_c as_m_X0_wins_ok a_sp_n) (by decide +kernel) (by decide +kernel)
/-- X0_countWays -/
def aC_m_X0_countWays : aC := (xi_X0_countWays, 2, [(2, 28, 0, none, [], []), (0, 0, 6, none, [], [])], [(none, [])], [(34, 0)], [])
def aH_m_X0_countWays : List aH := [(0, [(0, (2, 28, 0, none, [], [])), (1, (0, 0, 6, some ((0, 101), 0), [], []))], [], [], 9279, []),
  (2, [(0, (2, 28, 0, none, [], [])), (1, (0, 0, 6, some ((0, 101), 0), [], [])), (2, (0, 0, 7, some ((0, 2), 0), [], []))], [], [], 9278, [((-1), (0, 2))]),
  (37, [(0, (2, 28, 0, none, [], [])), (1, (0, 0, 6, some ((0, 101), 0), [], [])), (2, (0, 0, 126, some ((0, 2), 0), [], []))], [], [], 72, [(73, (0, 2))]),
  (55, [(0, (2, 28, 0, none, [], [])), (1, (0, 0, 6, some ((0, 101), 0), [], [])), (2, (0, 1, 126, some ((0, 2), 0), [], [])), (3, (0, 0, 6, some ((0, 3), 0), [], [])), (4, (0, (-2147483648), 2147483647, some ((0, 4), 0), [], [])), (5, (0, 0, 7, some ((0, 5), 0), [], []))], [], [], 70, [((-1), (0, 5)), ((-9), (0, 3)), (73, (0, 2))]),
  (43, [(0, (2, 28, 0, none, [], [])), (1, (0, 0, 6, some ((0, 101), 0), [], [])), (2, (0, 1, 126, some ((0, 2), 0), [], [])), (3, (0, 0, 7, some ((0, 3), 0), [], []))], [], [], 71, [((-9), (0, 3)), (73, (0, 2))])]
theorem as_m_X0_countWays : a_spec a_tb aC_m_X0_countWays := a_meth (Sp := [aC_m_X0_stands_ok, aC_m_X0_waysFrom]) (hd := aH_m_X0_countWays) (mi := xmi_X0_countWays) 31 rfl (a_sp_c as_m_X0_stands_ok (a_sp_c as_m_X0_waysFrom a_sp_n)) (by decide +kernel) (by decide +kernel)
/-- X10_whoIs -/
def aC_m_X10_whoIs : aC := (xi_X10_whoIs, 1, [(2, 39, 0, none, [], []), (0, 0, 1, none, [], [])], [(some (0, (-2147483648), 2147483647, none, [], []), [])], [], [])
def aH_m_X10_whoIs : List aH := [(0, [(0, (2, 39, 0, none, [], [])), (1, (0, 0, 1, some ((0, 101), 0), [], []))], [], [((39, 35), (0, 0, 4096, some ((40, 35), 0), [], []))], 4097, []),
  (15, [(0, (2, 39, 0, none, [], [])), (1, (0, 0, 1, some ((0, 101), 0), [], [])), (2, (0, (-1), 4095, some ((0, 2), 0), [], [])), (3, (0, 0, 4095, some ((0, 3), 0), [], [])), (4, (0, 0, 1, some ((0, 4), 0), [], [])), (5, (0, 0, 4096, some ((0, 5), 0), [], []))], [], [((39, 35), (0, 0, 4096, some ((40, 35), 0), [], []))], 4096, [((-1), (0, 5))])]
theorem as_m_X10_whoIs : a_spec a_tb aC_m_X10_whoIs := a_meth (Sp := [aC_m_X10_isLeast]) (hd := aH_m_X10_whoIs) (mi := xmi_X10_whoIs) 26 rfl (a_sp_c as_m_X10_isLeast a_sp_n) (by decide +kernel) (by decide +kernel)
/-- X10_isLined -/
def aC_m_X10_isLined : aC := (xi_X10_isLined, 1, [(2, 39, 0, none, [], [])], [(some (0, 0, 1, none, [], []), [])], [], [])
def aH_m_X10_isLined : List aH := [(0, [(0, (2, 39, 0, none, [], []))], [], [((39, 4), (0, 1, 12, some ((40, 4), 0), [], []))], 169, []),
  (2, [(0, (2, 39, 0, none, [], [])), (1, (0, 0, 12, some ((0, 1), 0), [], []))], [], [((39, 4), (0, 1, 12, some ((40, 4), 0), [], []))], 168, [((-13), (0, 1))]),
  (14, [(0, (2, 39, 0, none, [], [])), (1, (0, 0, 11, some ((0, 1), 0), [], [])), (2, (0, 1, 12, some ((0, 2), 0), [], []))], [], [((39, 4), (0, 1, 12, some ((40, 4), 0), [], []))], 168, [((-1), (0, 2)), ((-13), (0, 1))])]
theorem as_m_X10_isLined : a_spec a_tb aC_m_X10_isLined := a_meth (Sp := [aC_m_X10_held]) (hd := aH_m_X10_isLined) (mi := xmi_X10_isLined) 17 rfl (a_sp_c as_m_X10_held a_sp_n) (by decide +kernel) (by decide +kernel)
/-- X10_shareOfOrders -/
def aC_m_X10_shareOfOrders : aC := (xi_X10_shareOfOrders, 1, [(2, 39, 0, none, [], []), (0, 0, 11, none, [], [])], [(none, [])], [], [])
def aH_m_X10_shareOfOrders : List aH := [(0, [(0, (2, 39, 0, none, [], [])), (1, (0, 0, 11, some ((0, 101), 0), [], []))], [], [((39, 4), (0, 1, 12, some ((40, 4), 0), [], [])), ((39, 35), (0, 0, 4096, some ((40, 35), 0), [], []))], 4097, []),
  (5, [(0, (2, 39, 0, none, [], [])), (1, (0, 0, 11, some ((0, 101), 0), [], [])), (2, (1, (-9223372036854775808), 9223372036854775807, none, [], [])), (4, (0, 0, 4096, some ((0, 4), 0), [], []))], [], [((39, 4), (0, 1, 12, some ((40, 4), 0), [], [])), ((39, 35), (0, 0, 4096, some ((40, 35), 0), [], []))], 4096, [((-1), (0, 4))])]
theorem as_m_X10_shareOfOrders : a_spec a_tb aC_m_X10_shareOfOrders := a_meth (Sp := [aC_siz2, aC_siz, aC_m_X10_orders, aC_les]) (hd := aH_m_X10_shareOfOrders) (mi := xmi_X10_shareOfOrders) 47 rfl (a_sp_c as_siz2 (a_sp_c as_siz (a_sp_c as_m_X10_orders (a_sp_c as_les a_sp_n)))) (by decide +kernel) (by decide +kernel)
/-- X10_shareOfLeast -/
def aC_m_X10_shareOfLeast : aC := (xi_X10_shareOfLeast, 1, [(2, 39, 0, none, [], []), (0, 0, 11, none, [], [])], [(none, [])], [], [])
def aH_m_X10_shareOfLeast : List aH := [(0, [(0, (2, 39, 0, none, [], [])), (1, (0, 0, 11, some ((0, 101), 0), [], []))], [], [((39, 35), (0, 0, 4096, some ((40, 35), 0), [], []))], 4097, []),
  (8, [(0, (2, 39, 0, none, [], [])), (1, (0, 0, 11, some ((0, 101), 0), [], [])), (2, (1, (-9223372036854775808), 9223372036854775807, none, [], [])), (4, (1, (-9223372036854775808), 9223372036854775807, none, [], [])), (6, (0, 0, 4096, some ((0, 6), 0), [], []))], [], [((39, 35), (0, 0, 4096, some ((40, 35), 0), [], []))], 4096, [((-1), (0, 6))])]
theorem as_m_X10_shareOfLeast : a_spec a_tb aC_m_X10_shareOfLeast := a_meth (Sp := [aC_m_X10_isLeast, aC_siz2, aC_siz, aC_les]) (hd := aH_m_X10_shareOfLeast) (mi := xmi_X10_shareOfLeast) 35 rfl (a_sp_c as_m_X10_isLeast (a_sp_c as_siz2 (a_sp_c as_siz (a_sp_c as_les a_sp_n)))) (by decide +kernel) (by decide +kernel)
/-- X2_isMinimal -/
def aC_m_X2_isMinimal : aC := (xi_X2_isMinimal, 2, [(2, 14, 0, none, [], []), (0, 0, 4095, none, [], []), (0, 0, 1, none, [], [])], [(some (0, 0, 1, none, [], []), [])], [], [])
def aH_m_X2_isMinimal : List aH := [(0, [(0, (2, 14, 0, none, [], [])), (1, (0, 0, 4095, some ((0, 101), 0), [], [])), (2, (0, 0, 1, some ((0, 102), 0), [], []))], [], [((14, 7), (0, 0, 12, some ((15, 7), 0), [], []))], 13, []),
  (13, [(0, (2, 14, 0, none, [], [])), (1, (0, 0, 4095, some ((0, 101), 0), [], [])), (2, (0, 0, 1, some ((0, 102), 0), [], [])), (3, (0, 0, 12, some ((0, 3), 0), [], []))], [], [((14, 7), (0, 0, 12, some ((15, 7), 0), [], []))], 12, [((-1), (0, 3))])]
theorem as_m_X2_isMinimal : a_spec a_tb aC_m_X2_isMinimal := a_meth (Sp := [aC_m_X2_does]) (hd := aH_m_X2_isMinimal) (mi := xmi_X2_isMinimal) 29 rfl (a_sp_c as_m_X2_does a_sp_n) (by decide +kernel) (by decide +kernel)
end XB1
end
section
section XB1
/-- X10_isLeastHinder@f39.35:1:4096 -/
def aC_m_X10_isLeastHinder_f39_35_1_4096 : aC := (xi_X10_isLeastHinder, 1, [(2, 39, 0, none, [], []), (0, 0, 4095, none, [], [])], [(some (0, 0, 1, none, [], []), [])], [], [((39, 35), 1, 4096)])
def aH_m_X10_isLeastHinder_f39_35_1_4096 : List aH := [(0, [(0, (2, 39, 0, none, [], [])), (1, (0, 0, 4095, some ((0, 101), 0), [], []))], [], [((39, 4), (0, 1, 12, some ((40, 4), 0), [], [])), ((39, 35), (0, 1, 4096, some ((40, 35), 0), [], []))], 13, []),
  (12, [(0, (2, 39, 0, none, [], [])), (1, (0, 0, 4095, some ((0, 101), 0), [], [])), (2, (0, 0, 12, some ((0, 2), 0), [], []))], [], [((39, 4), (0, 1, 12, some ((40, 4), 0), [], [])), ((39, 35), (0, 1, 4096, some ((40, 35), 0), [], []))], 12, [((-1), (0, 2))])]
theorem as_m_X10_isLeastHinder_f39_35_1_4096 : a_spec a_tb aC_m_X10_isLeastHinder_f39_35_1_4096 := a_meth (Sp := [aC_m_X10_hinders_f39_35_1_4096]) (hd := aH_m_X10_isLeastHinder_f39_35_1_4096) (mi := xmi_X10_isLeastHinder) 29 rfl (a_sp_c as_m_X10_hinders_f39_35_1_4096 a_sp_n) (by decide +kernel) (by decide +kernel)
/-- X2_isLined -/
def aC_m_X2_isLined : aC := (xi_X2_isLined, 1, [(2, 14, 0, none, [], [])], [(some (0, 0, 1, none, [], []), [])], [], [])
def aH_m_X2_isLined : List aH := [(0, [(0, (2, 14, 0, none, [], []))], [], [((14, 7), (0, 0, 12, some ((15, 7), 0), [], []))], 169, []),
  (2, [(0, (2, 14, 0, none, [], [])), (1, (0, 0, 12, some ((0, 1), 0), [], []))], [], [((14, 7), (0, 0, 12, some ((15, 7), 0), [], []))], 168, [((-13), (0, 1))]),
  (12, [(0, (2, 14, 0, none, [], [])), (1, (0, 0, 11, some ((0, 1), 0), [], [])), (2, (0, 0, 11, some ((0, 2), 0), [], []))], [], [((14, 7), (0, 1, 12, some ((15, 7), 0), [], []))], 167, [((-1), (0, 2)), ((-13), (0, 1))])]
theorem as_m_X2_isLined : a_spec a_tb aC_m_X2_isLined := a_meth (Sp := [aC_m_X2_compare]) (hd := aH_m_X2_isLined) (mi := xmi_X2_isLined) 17 rfl (a_sp_c as_m_X2_compare a_sp_n) (by decide +kernel) (by decide +kernel)
/-- X2_chanceOf -/
def aC_m_X2_chanceOf : aC := (xi_X2_chanceOf, 1, [(2, 14, 0, none, [], []), (0, 0, 10, none, [], [])], [(some (1, (-9223372036854775808), 9223372036854775807, none, [], []), [])], [], [])
def aH_m_X2_chanceOf : List aH := [(0, [(0, (2, 14, 0, none, [], [])), (1, (0, 0, 10, some ((0, 101), 0), [], []))], [], [((14, 7), (0, 0, 12, some ((15, 7), 0), [], [])), ((14, 8), (0, 0, 4095, some ((15, 8), 0), [], []))], 4125, []),
  (25, [(0, (2, 14, 0, none, [], [])), (1, (0, 0, 10, some ((0, 101), 0), [], [])), (2, (0, 0, 4096, some ((0, 2), 0), [], []))], [], [((14, 7), (0, 0, 12, some ((15, 7), 0), [], [])), ((14, 8), (0, 0, 4095, some ((15, 8), 0), [], []))], 4110, [((-1), (0, 2))]),
  (2, [(0, (2, 14, 0, none, [], [])), (1, (0, 0, 10, some ((0, 101), 0), [], [])), (2, (0, 0, 13, some ((0, 2), 0), [], []))], [], [((14, 7), (0, 0, 12, some ((15, 7), 0), [], [])), ((14, 8), (0, 0, 4095, some ((15, 8), 0), [], []))], 4124, [((-1), (0, 2))]),
  (68, [(0, (2, 14, 0, none, [], [])), (1, (0, 0, 10, some ((0, 101), 0), [], [])), (2, (1, (-9223372036854775808), 9223372036854775807, none, [], [])), (4, (0, 0, 13, some ((0, 4), 0), [], []))], [], [((14, 7), (0, 0, 12, some ((15, 7), 0), [], [])), ((14, 8), (0, 0, 4095, some ((15, 8), 0), [], []))], 13, [((-1), (0, 4))])]
theorem as_m_X2_chanceOf : a_spec a_tb aC_m_X2_chanceOf := a_meth (Sp := [aC_m_X7_holds, aC_bit, aC_m_X2_power]) (hd := aH_m_X2_chanceOf) (mi := xmi_X2_chanceOf) 32 rfl (a_sp_c as_m_X7_holds (a_sp_c as_bit (a_sp_c as_m_X2_power a_sp_n))) (by decide +kernel) (by decide +kernel)
/-- X2_allyOf -/
def aC_m_X2_allyOf : aC := (xi_X2_allyOf, 2, [(2, 14, 0, none, [], []), (0, 0, 11, none, [], [])], [(some (0, (-1), 11, none, [], []), [])], [], [])
def aH_m_X2_allyOf : List aH := [(0, [(0, (2, 14, 0, none, [], [])), (1, (0, 0, 11, some ((0, 101), 0), [], []))], [], [((14, 7), (0, 0, 12, some ((15, 7), 0), [], []))], 13, []),
  (7, [(0, (2, 14, 0, none, [], [])), (1, (0, 0, 11, some ((0, 101), 0), [], [])), (2, (0, (-1), 11, some ((0, 2), 0), [], [])), (3, (0, (-2147483648), 2147483647, some ((0, 3), 0), [], [])), (4, (0, 0, 12, some ((0, 4), 0), [], []))], [], [((14, 7), (0, 0, 12, some ((15, 7), 0), [], []))], 12, [((-1), (0, 4))])]
theorem as_m_X2_allyOf : a_spec a_tb aC_m_X2_allyOf := a_meth (Sp := [aC_m_X2_countTogether]) (hd := aH_m_X2_allyOf) (mi := xmi_X2_allyOf) 27 rfl (a_sp_c as_m_X2_countTogether a_sp_n) (by decide +kernel) (by decide +kernel)
/-- X4_takeWord@s3 -/
def aC_m_X4_takeWord_s3 : aC := (xi_X4_takeWord, 6, [(2, 3, 0, none, [], []), (4, 3, 0, none, [], [])], [(some (0, 0, 1, none, [], []), [])], [(3, 8), (3, 9), (8, 2), (8, 3), (8, 4), (8, 5), (8, 6)], [])
def aH_m_X4_takeWord_s3 : List aH := [(0, [(0, (2, 3, 0, none, [], [])), (1, (4, 3, 0, none, [], []))], [], [((8, 4), (0, 0, 639, some ((9, 4), 0), [], []))], 0, [])]
theorem as_m_X4_takeWord_s3 : a_spec a_tb aC_m_X4_takeWord_s3 := a_meth (Sp := [aC_m_X6_isWord_s3, aC_m_X4_fail, aC_m_X6_advance]) (hd := aH_m_X4_takeWord_s3) (mi := xmi_X4_takeWord) 17 rfl (a_sp_c as_m_X6_isWord_s3 (a_sp_c as_m_X4_fail (a_sp_c as_m_X6_advance a_sp_n))) (by decide +kernel) (by decide +kernel)
/-- X10_isBody -/
def aC_m_X10_isBody : aC := (xi_X10_isBody, 1, [(2, 39, 0, none, [], [])], [(some (0, 0, 1, none, [], []), [])], [], [])
def aH_m_X10_isBody : List aH := [(0, [(0, (2, 39, 0, none, [], []))], [], [], 0, [])]
theorem as_m_X10_isBody : a_spec a_tb aC_m_X10_isBody := a_meth (Sp := [aC_m_X10_spelt, aC_m_X10_isKey]) (hd := aH_m_X10_isBody) (mi := xmi_X10_isBody) 14 rfl (a_sp_c as_m_X10_spelt (a_sp_c as_m_X10_isKey a_sp_n)) (by decide +kernel) (by decide +kernel)
/-- X6_isName -/
def aC_m_X6_isName : aC := (xi_X6_isName, 6, [(2, 8, 0, none, [], [])], [(some (0, 0, 1, none, [], []), [])], [], [])
def aH_m_X6_isName : List aH := [(0, [(0, (2, 8, 0, none, [], []))], [], [((8, 3), (0, (-1), 255, some ((9, 3), 0), [], [])), ((8, 4), (0, 0, 639, some ((9, 4), 0), [], [])), ((8, 5), (0, 0, 640, some ((9, 5), 0), [], []))], 0, [])]
theorem as_m_X6_isName : a_spec a_tb aC_m_X6_isName := a_meth (Sp := [aC_m_X6_isWord_s2, aC_m_X6_isWord_s3, aC_m_X6_isWord_s4, aC_m_X6_isWord_s5, aC_m_X6_isWord_s6]) (hd := aH_m_X6_isName) (mi := xmi_X6_isName) 43 rfl (a_sp_c as_m_X6_isWord_s2 (a_sp_c as_m_X6_isWord_s3 (a_sp_c as_m_X6_isWord_s4 (a_sp_c as_m_X6_isWord_s5 (a_sp_c as_m_X6_isWord_s6 a_sp_n))))) (by decide +kernel) (by decide +kernel)
/-- X10_isRight -/
def aC_m_X10_isRight : aC := (xi_X10_isRight, 1, [(2, 39, 0, none, [], [])], [(some (0, 0, 1, none, [], []), [])], [(39, 50)], [])
def aH_m_X10_isRight : List aH := [(0, [(0, (2, 39, 0, none, [], []))], [], [((39, 47), (0, 0, 924, some ((40, 47), 0), [], [])), ((39, 48), (0, 0, 924, some ((40, 48), 0), [], []))], 3701, []),
  (32, [(0, (2, 39, 0, none, [], [])), (1, (0, (-2147483648), 100000, some ((0, 1), 0), [], [])), (2, (0, 0, 923, some ((0, 2), 0), [], [])), (3, (0, (-2147483648), 2147483647, some ((0, 3), 0), [], []))], [], [((39, 47), (0, 1, 924, some ((40, 47), 0), [], [])), ((39, 48), (0, 0, 924, some ((40, 48), 0), [], []))], 3697, [((-3), (0, 2))]),
  (4, [(0, (2, 39, 0, none, [], [])), (1, (0, 100000, 100000, some ((0, 1), 0), [], []))], [], [((39, 47), (0, 0, 924, some ((40, 47), 0), [], [])), ((39, 48), (0, 0, 924, some ((40, 48), 0), [], []))], 3700, []),
  (6, [(0, (2, 39, 0, none, [], [])), (1, (0, (-2147483648), 100000, some ((0, 1), 0), [], [])), (2, (0, 0, 924, some ((0, 2), 0), [], []))], [], [((39, 47), (0, 0, 924, some ((40, 47), 0), [], [])), ((39, 48), (0, 0, 924, some ((40, 48), 0), [], []))], 3699, [((-3), (0, 2))]),
  (40, [(0, (2, 39, 0, none, [], [])), (1, (0, (-2147483648), 100000, some ((0, 1), 0), [], [])), (2, (0, 0, 924, some ((0, 2), 0), [], []))], [], [((39, 47), (0, 0, 924, some ((40, 47), 0), [], [])), ((39, 48), (0, 0, 924, some ((40, 48), 0), [], []))], 924, [((-1), (0, 2))]),
  (25, [(0, (2, 39, 0, none, [], [])), (1, (0, (-2147483648), 100000, some ((0, 1), 0), [], [])), (2, (0, 0, 923, some ((0, 2), 0), [], [])), (3, (0, (-2147483648), 2147483647, some ((0, 3), 0), [], []))], [], [((39, 47), (0, 1, 924, some ((40, 47), 0), [], [])), ((39, 48), (0, 0, 924, some ((40, 48), 0), [], []))], 3698, [((-3), (0, 2))])]
theorem as_m_X10_isRight : a_spec a_tb aC_m_X10_isRight := a_meth (Sp := [aC_m_X10_sumOf]) (hd := aH_m_X10_isRight) (mi := xmi_X10_isRight) 20 rfl (a_sp_c as_m_X10_sumOf a_sp_n) (by decide +kernel) (by decide +kernel)
/-- X4_takeOpening@f3.6:0:0 -/
def aC_m_X4_takeOpening_f3_6_0_0 : aC := (xi_X4_takeOpening, 3, [(2, 3, 0, none, [], []), (0, 40, 91, none, [], [])], [(some (0, 1, 1, none, [], []), [((3, 6), 1, 1)]), (some (0, 0, 0, none, [], []), [((3, 6), 0, 0)])], [(3, 6), (3, 8), (3, 9), (8, 2), (8, 3), (8, 4), (8, 5), (8, 6)], [((3, 6), 0, 0)])
def aH_m_X4_takeOpening_f3_6_0_0 : List aH := [(0, [(0, (2, 3, 0, none, [], [])), (1, (0, 40, 91, some ((0, 101), 0), [], []))], [], [((3, 6), (0, 0, 0, some ((4, 6), 0), [], [])), ((8, 3), (0, (-1), 255, some ((9, 3), 0), [], [])), ((8, 4), (0, 0, 639, some ((9, 4), 0), [], []))], 0, [])]
theorem as_m_X4_takeOpening_f3_6_0_0 : a_spec a_tb aC_m_X4_takeOpening_f3_6_0_0 := a_meth (Sp := [aC_m_X4_fail, aC_m_X6_advance]) (hd := aH_m_X4_takeOpening_f3_6_0_0) (mi := xmi_X4_takeOpening) 25 rfl (a_sp_c as_m_X4_fail (a_sp_c as_m_X6_advance a_sp_n)) (by decide +kernel) (by decide +kernel)
/-- X4_noteMember -/
def aC_m_X4_noteMember : aC := (xi_X4_noteMember, 2, [(2, 3, 0, none, [], [])], [(some (0, 0, 1, none, [], []), [])], [(3, 8), (3, 9), (4, 3), (5, 0), (6, 0)], [])
def aH_m_X4_noteMember : List aH := [(0, [(0, (2, 3, 0, none, [], []))], [], [((3, 4), (0, 0, 12, some ((4, 4), 0), [], [])), ((8, 4), (0, 0, 639, some ((9, 4), 0), [], []))], 0, [])]
theorem as_m_X4_noteMember : a_spec a_tb aC_m_X4_noteMember := a_meth (Sp := [aC_m_X6_letter, aC_m_X4_fail, aC_m_X3_add]) (hd := aH_m_X4_noteMember) (mi := xmi_X4_noteMember) 22 rfl (a_sp_c as_m_X6_letter (a_sp_c as_m_X4_fail (a_sp_c as_m_X3_add a_sp_n))) (by decide +kernel) (by decide +kernel)
/-- X4_takeWord@s6 -/
def aC_m_X4_takeWord_s6 : aC := (xi_X4_takeWord, 6, [(2, 3, 0, none, [], []), (4, 6, 0, none, [], [])], [(some (0, 0, 1, none, [], []), [])], [(3, 8), (3, 9), (8, 2), (8, 3), (8, 4), (8, 5), (8, 6)], [])
def aH_m_X4_takeWord_s6 : List aH := [(0, [(0, (2, 3, 0, none, [], [])), (1, (4, 6, 0, none, [], []))], [], [((8, 4), (0, 0, 639, some ((9, 4), 0), [], []))], 0, [])]
theorem as_m_X4_takeWord_s6 : a_spec a_tb aC_m_X4_takeWord_s6 := a_meth (Sp := [aC_m_X6_isWord_s6, aC_m_X4_fail, aC_m_X6_advance]) (hd := aH_m_X4_takeWord_s6) (mi := xmi_X4_takeWord) 17 rfl (a_sp_c as_m_X6_isWord_s6 (a_sp_c as_m_X4_fail (a_sp_c as_m_X6_advance a_sp_n))) (by decide +kernel) (by decide +kernel)
/-- X3_run -/
def aC_m_X3_run : aC := (xi_X3_run, 1, [(2, 4, 0, none, [], []), (0, 0, 4095, none, [], [])], [(some (0, 0, 1, none, [], []), [])], [(7, 0)], [])
def aH_m_X3_run : List aH := [(0, [(0, (2, 4, 0, none, [], [])), (1, (0, 0, 4095, some ((0, 101), 0), [], []))], [], [((4, 3), (0, 0, 400, some ((5, 3), 0), [], []))], 2007, []),
  (2, [(0, (2, 4, 0, none, [], [])), (1, (0, 0, 4095, some ((0, 101), 0), [], [])), (2, (0, 0, 0, some ((0, 2), 0), [], []))], [], [((4, 3), (0, 0, 400, some ((5, 3), 0), [], []))], 2006, []),
  (34, [(0, (2, 4, 0, none, [], [])), (1, (0, 0, 4095, some ((0, 101), 0), [], [])), (2, (0, (-2147483648), 2147483647, some ((0, 2), 0), [], [])), (3, (0, (-2147483648), 2147483647, some ((0, 3), 0), [], [])), (4, (0, 0, 399, some ((0, 4), 0), [], [])), (5, (0, 0, 7, some ((0, 5), 0), [], [])), (6, (0, (-2147483648), 2147483647, some ((0, 6), 0), [], []))], [], [((4, 3), (0, 1, 400, some ((5, 3), 0), [], []))], 2002, [((-5), (0, 4))]),
  (4, [(0, (2, 4, 0, none, [], [])), (1, (0, 0, 4095, some ((0, 101), 0), [], [])), (2, (0, 0, 0, some ((0, 2), 0), [], [])), (3, (0, 0, 0, some ((0, 3), 0), [], []))], [], [((4, 3), (0, 0, 400, some ((5, 3), 0), [], []))], 2005, []),
  (7, [(0, (2, 4, 0, none, [], [])), (1, (0, 0, 4095, some ((0, 101), 0), [], [])), (2, (0, (-2147483648), 2147483647, some ((0, 2), 0), [], [])), (3, (0, (-2147483648), 2147483647, some ((0, 3), 0), [], [])), (4, (0, 0, 400, some ((0, 4), 0), [], []))], [], [((4, 3), (0, 0, 400, some ((5, 3), 0), [], []))], 2004, [((-5), (0, 4))]),
  (78, [(0, (2, 4, 0, none, [], [])), (1, (0, 0, 4095, some ((0, 101), 0), [], [])), (2, (0, (-2147483648), 2147483647, some ((0, 2), 0), [], [])), (3, (0, (-2147483648), 2147483647, some ((0, 3), 0), [], [])), (4, (0, 0, 399, some ((0, 4), 0), [], [])), (5, (0, 0, 4, some ((0, 5), 0), [], [])), (6, (0, (-2147483648), 2147483647, some ((0, 6), 0), [], [])), (7, (0, 0, 1, some ((0, 7), 0), [], []))], [], [((4, 3), (0, 1, 400, some ((5, 3), 0), [], []))], 2001, [((-5), (0, 4))]),
  (144, [(0, (2, 4, 0, none, [], [])), (1, (0, 0, 4095, some ((0, 101), 0), [], [])), (2, (0, (-2147483648), 2147483647, some ((0, 2), 0), [], [])), (3, (0, (-2147483648), 2147483647, some ((0, 3), 0), [], [])), (4, (0, 0, 399, some ((0, 4), 0), [], [])), (5, (0, 7, 7, some ((0, 5), 0), [], [])), (6, (0, (-2147483648), 2147483647, some ((0, 6), 0), [], [])), (7, (0, (-2147483648), 2147483647, some ((0, 7), 0), [], []))], [], [((4, 3), (0, 1, 400, some ((5, 3), 0), [], []))], 2000, [((-5), (0, 4))]),
  (86, [(0, (2, 4, 0, none, [], [])), (1, (0, 0, 4095, some ((0, 101), 0), [], [])), (2, (0, (-2147483648), 2147483647, some ((0, 2), 0), [], [])), (3, (0, (-2147483648), 2147483647, some ((0, 3), 0), [], [])), (4, (0, 0, 399, some ((0, 4), 0), [], [])), (5, (0, 0, 4, some ((0, 5), 0), [], [])), (6, (0, (-2147483648), 2147483647, some ((0, 6), 0), [], [])), (7, (0, 0, 1, some ((0, 7), 0), [], []))], [], [((4, 3), (0, 1, 400, some ((5, 3), 0), [], []))], 2000, [((-5), (0, 4))]),
  (25, [(0, (2, 4, 0, none, [], [])), (1, (0, 0, 4095, some ((0, 101), 0), [], [])), (2, (0, (-2147483648), 2147483647, some ((0, 2), 0), [], [])), (3, (0, (-2147483648), 2147483647, some ((0, 3), 0), [], [])), (4, (0, 0, 399, some ((0, 4), 0), [], [])), (5, (0, 0, 7, some ((0, 5), 0), [], []))], [], [((4, 3), (0, 1, 400, some ((5, 3), 0), [], []))], 2003, [((-5), (0, 4))]),
  (126, [(0, (2, 4, 0, none, [], [])), (1, (0, 0, 4095, some ((0, 101), 0), [], [])), (2, (0, (-2147483648), 2147483647, some ((0, 2), 0), [], [])), (3, (0, (-2147483648), 2147483647, some ((0, 3), 0), [], [])), (4, (0, 0, 399, some ((0, 4), 0), [], [])), (5, (0, 2, 7, some ((0, 5), 0), [], [])), (6, (0, (-2147483648), 2147483647, some ((0, 6), 0), [], [])), (7, (0, (-2147483648), 2147483647, some ((0, 7), 0), [], []))], [], [((4, 3), (0, 1, 400, some ((5, 3), 0), [], []))], 2001, [((-5), (0, 4))])]
theorem as_m_X3_run : a_spec a_tb aC_m_X3_run := a_meth (Sp := [aC_m_X3_push, aC_m_X3_peek, aC_m_X3_replace, aC_m_X3_join]) (hd := aH_m_X3_run) (mi := xmi_X3_run) 30 rfl (a_sp_c as_m_X3_push (a_sp_c as_m_X3_peek (a_sp_c as_m_X3_replace (a_sp_c as_m_X3_join a_sp_n)))) (by decide +kernel) (by decide +kernel)
/-- X10_isName -/
def aC_m_X10_isName : aC := (xi_X10_isName, 2, [(2, 39, 0, none, [], [])], [(some (0, 0, 1, none, [], []), [])], [], [])
def aH_m_X10_isName : List aH := [(0, [(0, (2, 39, 0, none, [], []))], [], [((39, 9), (0, 0, 4, some ((40, 9), 0), [], [])), ((39, 12), (0, (-640), 640, some ((40, 12), 0), [], []))], 0, [])]
theorem as_m_X10_isName : a_spec a_tb aC_m_X10_isName := a_meth (Sp := [aC_m_X10_isBody, aC_m_X10_isCarry, aC_m_X10_isAnd, aC_m_X10_isOr, aC_m_X10_isOf]) (hd := aH_m_X10_isName) (mi := xmi_X10_isName) 31 rfl (a_sp_c as_m_X10_isBody (a_sp_c as_m_X10_isCarry (a_sp_c as_m_X10_isAnd (a_sp_c as_m_X10_isOr (a_sp_c as_m_X10_isOf a_sp_n))))) (by decide +kernel) (by decide +kernel)
/-- X5_doesTheSame -/
def aC_m_X5_doesTheSame : aC := (xi_X5_doesTheSame, 2, [(2, 21, 0, none, [], [])], [(some (0, 0, 1, none, [], []), [])], [(21, 12), (21, 13)], [])
def aH_m_X5_doesTheSame : List aH := [(0, [(0, (2, 21, 0, none, [], []))], [], [((14, 9), (0, (-2147483648), 924, some ((15, 9), 0), [], [])), ((14, 10), (0, (-2147483648), 924, some ((15, 10), 0), [], [])), ((21, 9), (0, 0, 63, some ((22, 9), 0), [], [])), ((21, 12), (0, 0, 4095, some ((22, 12), 0), [], [])), ((21, 13), (0, 0, 4095, some ((22, 13), 0), [], []))], 0, [])]
theorem as_m_X5_doesTheSame : a_spec a_tb aC_m_X5_doesTheSame := a_meth (Sp := [aC_m_X5_weightOf, aC_m_X5_lightest_r15, aC_m_X5_lightest_r16]) (hd := aH_m_X5_doesTheSame) (mi := xmi_X5_doesTheSame) 52 rfl (a_sp_c as_m_X5_weightOf (a_sp_c as_m_X5_lightest_r15 (a_sp_c as_m_X5_lightest_r16 a_sp_n))) (by decide +kernel) (by decide +kernel)
/-- X4_toldName -/
def aC_m_X4_toldName : aC := (xi_X4_toldName, 2, [(2, 3, 0, none, [], [])], [(some (0, (-1), 15, none, [], []), [])], [], [])
def aH_m_X4_toldName : List aH := [(0, [(0, (2, 3, 0, none, [], []))], [], [((3, 7), (0, 0, 16, some ((4, 7), 0), [], []))], 17, []),
  (2, [(0, (2, 3, 0, none, [], [])), (1, (0, 0, 16, some ((0, 1), 0), [], []))], [], [((3, 7), (0, 0, 16, some ((4, 7), 0), [], []))], 16, [((-1), (0, 1))])]
theorem as_m_X4_toldName : a_spec a_tb aC_m_X4_toldName := a_meth (Sp := [aC_m_X6_isLike]) (hd := aH_m_X4_toldName) (mi := xmi_X4_toldName) 24 rfl (a_sp_c as_m_X6_isLike a_sp_n) (by decide +kernel) (by decide +kernel)
/-- X4_takeOpening@f3.6:1:1 -/
def aC_m_X4_takeOpening_f3_6_1_1 : aC := (xi_X4_takeOpening, 3, [(2, 3, 0, none, [], []), (0, 40, 91, none, [], [])], [(some (0, 1, 1, none, [], []), [((3, 6), 2, 2)]), (some (0, 0, 0, none, [], []), [((3, 6), 1, 1)])], [(3, 6), (3, 8), (3, 9), (8, 2), (8, 3), (8, 4), (8, 5), (8, 6)], [((3, 6), 1, 1)])
def aH_m_X4_takeOpening_f3_6_1_1 : List aH := [(0, [(0, (2, 3, 0, none, [], [])), (1, (0, 40, 91, some ((0, 101), 0), [], []))], [], [((3, 6), (0, 1, 1, some ((4, 6), 0), [], [])), ((8, 3), (0, (-1), 255, some ((9, 3), 0), [], [])), ((8, 4), (0, 0, 639, some ((9, 4), 0), [], []))], 0, [])]
theorem as_m_X4_takeOpening_f3_6_1_1 : a_spec a_tb aC_m_X4_takeOpening_f3_6_1_1 := a_meth (Sp := [aC_m_X4_fail, aC_m_X6_advance]) (hd := aH_m_X4_takeOpening_f3_6_1_1) (mi := xmi_X4_takeOpening) 25 rfl (a_sp_c as_m_X4_fail (a_sp_c as_m_X6_advance a_sp_n)) (by decide +kernel) (by decide +kernel)
/-- X4_takeSign -/
def aC_m_X4_takeSign : aC := (xi_X4_takeSign, 3, [(2, 3, 0, none, [], []), (0, 41, 93, none, [], [])], [(some (0, 0, 1, none, [], []), [])], [(3, 8), (3, 9), (8, 2), (8, 3), (8, 4), (8, 5), (8, 6)], [])
def aH_m_X4_takeSign : List aH := [(0, [(0, (2, 3, 0, none, [], [])), (1, (0, 41, 93, some ((0, 101), 0), [], []))], [], [((8, 3), (0, (-1), 255, some ((9, 3), 0), [], [])), ((8, 4), (0, 0, 639, some ((9, 4), 0), [], []))], 0, [])]
theorem as_m_X4_takeSign : a_spec a_tb aC_m_X4_takeSign := a_meth (Sp := [aC_m_X4_fail, aC_m_X6_advance]) (hd := aH_m_X4_takeSign) (mi := xmi_X4_takeSign) 17 rfl (a_sp_c as_m_X4_fail (a_sp_c as_m_X6_advance a_sp_n)) (by decide +kernel) (by decide +kernel)
/-- X4_takeEnd -/
def aC_m_X4_takeEnd : aC := (xi_X4_takeEnd, 1, [(2, 3, 0, none, [], [])], [(some (0, 0, 1, none, [], []), [])], [(3, 8), (3, 9)], [])
def aH_m_X4_takeEnd : List aH := [(0, [(0, (2, 3, 0, none, [], []))], [], [((8, 3), (0, (-1), 255, some ((9, 3), 0), [], [])), ((8, 4), (0, 0, 639, some ((9, 4), 0), [], []))], 0, [])]
theorem as_m_X4_takeEnd : a_spec a_tb aC_m_X4_takeEnd := a_meth (Sp := [aC_m_X6_isCut, aC_m_X4_fail]) (hd := aH_m_X4_takeEnd) (mi := xmi_X4_takeEnd) 26 rfl (a_sp_c as_m_X6_isCut (a_sp_c as_m_X4_fail a_sp_n)) (by decide +kernel) (by decide +kernel)
/-- X4_takeOpening@f3.6:2:2 -/
def aC_m_X4_takeOpening_f3_6_2_2 : aC := (xi_X4_takeOpening, 3, [(2, 3, 0, none, [], []), (0, 40, 91, none, [], [])], [(some (0, 1, 1, none, [], []), [((3, 6), 3, 3)]), (some (0, 0, 0, none, [], []), [((3, 6), 2, 2)])], [(3, 6), (3, 8), (3, 9), (8, 2), (8, 3), (8, 4), (8, 5), (8, 6)], [((3, 6), 2, 2)])
def aH_m_X4_takeOpening_f3_6_2_2 : List aH := [(0, [(0, (2, 3, 0, none, [], [])), (1, (0, 40, 91, some ((0, 101), 0), [], []))], [], [((3, 6), (0, 2, 2, some ((4, 6), 0), [], [])), ((8, 3), (0, (-1), 255, some ((9, 3), 0), [], [])), ((8, 4), (0, 0, 639, some ((9, 4), 0), [], []))], 0, [])]
theorem as_m_X4_takeOpening_f3_6_2_2 : a_spec a_tb aC_m_X4_takeOpening_f3_6_2_2 := a_meth (Sp := [aC_m_X4_fail, aC_m_X6_advance]) (hd := aH_m_X4_takeOpening_f3_6_2_2) (mi := xmi_X4_takeOpening) 25 rfl (a_sp_c as_m_X4_fail (a_sp_c as_m_X6_advance a_sp_n)) (by decide +kernel) (by decide +kernel)
/-- X4_takeOpening@f3.6:3:3 -/
def aC_m_X4_takeOpening_f3_6_3_3 : aC := (xi_X4_takeOpening, 3, [(2, 3, 0, none, [], []), (0, 40, 91, none, [], [])], [(some (0, 1, 1, none, [], []), [((3, 6), 4, 4)]), (some (0, 0, 0, none, [], []), [((3, 6), 3, 3)])], [(3, 6), (3, 8), (3, 9), (8, 2), (8, 3), (8, 4), (8, 5), (8, 6)], [((3, 6), 3, 3)])
def aH_m_X4_takeOpening_f3_6_3_3 : List aH := [(0, [(0, (2, 3, 0, none, [], [])), (1, (0, 40, 91, some ((0, 101), 0), [], []))], [], [((3, 6), (0, 3, 3, some ((4, 6), 0), [], [])), ((8, 3), (0, (-1), 255, some ((9, 3), 0), [], [])), ((8, 4), (0, 0, 639, some ((9, 4), 0), [], []))], 0, [])]
theorem as_m_X4_takeOpening_f3_6_3_3 : a_spec a_tb aC_m_X4_takeOpening_f3_6_3_3 := a_meth (Sp := [aC_m_X4_fail, aC_m_X6_advance]) (hd := aH_m_X4_takeOpening_f3_6_3_3) (mi := xmi_X4_takeOpening) 25 rfl (a_sp_c as_m_X4_fail (a_sp_c as_m_X6_advance a_sp_n)) (by decide +kernel) (by decide +kernel)
/-- X4_takeOpening@f3.6:4:4 -/
def aC_m_X4_takeOpening_f3_6_4_4 : aC := (xi_X4_takeOpening, 3, [(2, 3, 0, none, [], []), (0, 40, 91, none, [], [])], [(some (0, 1, 1, none, [], []), [((3, 6), 5, 5)]), (some (0, 0, 0, none, [], []), [((3, 6), 4, 4)])], [(3, 6), (3, 8), (3, 9), (8, 2), (8, 3), (8, 4), (8, 5), (8, 6)], [((3, 6), 4, 4)])
def aH_m_X4_takeOpening_f3_6_4_4 : List aH := [(0, [(0, (2, 3, 0, none, [], [])), (1, (0, 40, 91, some ((0, 101), 0), [], []))], [], [((3, 6), (0, 4, 4, some ((4, 6), 0), [], [])), ((8, 3), (0, (-1), 255, some ((9, 3), 0), [], [])), ((8, 4), (0, 0, 639, some ((9, 4), 0), [], []))], 0, [])]
theorem as_m_X4_takeOpening_f3_6_4_4 : a_spec a_tb aC_m_X4_takeOpening_f3_6_4_4 := a_meth (Sp := [aC_m_X4_fail, aC_m_X6_advance]) (hd := aH_m_X4_takeOpening_f3_6_4_4) (mi := xmi_X4_takeOpening) 25 rfl (a_sp_c as_m_X4_fail (a_sp_c as_m_X6_advance a_sp_n)) (by decide +kernel) (by decide +kernel)
/-- X4_takeOpening@f3.6:5:5 -/
def aC_m_X4_takeOpening_f3_6_5_5 : aC := (xi_X4_takeOpening, 3, [(2, 3, 0, none, [], []), (0, 40, 91, none, [], [])], [(some (0, 1, 1, none, [], []), [((3, 6), 6, 6)]), (some (0, 0, 0, none, [], []), [((3, 6), 5, 5)])], [(3, 6), (3, 8), (3, 9), (8, 2), (8, 3), (8, 4), (8, 5), (8, 6)], [((3, 6), 5, 5)])
def aH_m_X4_takeOpening_f3_6_5_5 : List aH := [(0, [(0, (2, 3, 0, none, [], [])), (1, (0, 40, 91, some ((0, 101), 0), [], []))], [], [((3, 6), (0, 5, 5, some ((4, 6), 0), [], [])), ((8, 3), (0, (-1), 255, some ((9, 3), 0), [], [])), ((8, 4), (0, 0, 639, some ((9, 4), 0), [], []))], 0, [])]
theorem as_m_X4_takeOpening_f3_6_5_5 : a_spec a_tb aC_m_X4_takeOpening_f3_6_5_5 := a_meth (Sp := [aC_m_X4_fail, aC_m_X6_advance]) (hd := aH_m_X4_takeOpening_f3_6_5_5) (mi := xmi_X4_takeOpening) 25 rfl (a_sp_c as_m_X4_fail (a_sp_c as_m_X6_advance a_sp_n)) (by decide +kernel) (by decide +kernel)
/-- X4_takeOpening@f3.6:6:6 -/
def aC_m_X4_takeOpening_f3_6_6_6 : aC := (xi_X4_takeOpening, 3, [(2, 3, 0, none, [], []), (0, 40, 91, none, [], [])], [(some (0, 1, 1, none, [], []), [((3, 6), 7, 7)]), (some (0, 0, 0, none, [], []), [((3, 6), 6, 6)])], [(3, 6), (3, 8), (3, 9), (8, 2), (8, 3), (8, 4), (8, 5), (8, 6)], [((3, 6), 6, 6)])
def aH_m_X4_takeOpening_f3_6_6_6 : List aH := [(0, [(0, (2, 3, 0, none, [], [])), (1, (0, 40, 91, some ((0, 101), 0), [], []))], [], [((3, 6), (0, 6, 6, some ((4, 6), 0), [], [])), ((8, 3), (0, (-1), 255, some ((9, 3), 0), [], [])), ((8, 4), (0, 0, 639, some ((9, 4), 0), [], []))], 0, [])]
theorem as_m_X4_takeOpening_f3_6_6_6 : a_spec a_tb aC_m_X4_takeOpening_f3_6_6_6 := a_meth (Sp := [aC_m_X4_fail, aC_m_X6_advance]) (hd := aH_m_X4_takeOpening_f3_6_6_6) (mi := xmi_X4_takeOpening) 25 rfl (a_sp_c as_m_X4_fail (a_sp_c as_m_X6_advance a_sp_n)) (by decide +kernel) (by decide +kernel)
/-- X4_takeOpening@f3.6:7:7 -/
def aC_m_X4_takeOpening_f3_6_7_7 : aC := (xi_X4_takeOpening, 3, [(2, 3, 0, none, [], []), (0, 40, 91, none, [], [])], [(some (0, 1, 1, none, [], []), [((3, 6), 8, 8)]), (some (0, 0, 0, none, [], []), [((3, 6), 7, 7)])], [(3, 6), (3, 8), (3, 9), (8, 2), (8, 3), (8, 4), (8, 5), (8, 6)], [((3, 6), 7, 7)])
def aH_m_X4_takeOpening_f3_6_7_7 : List aH := [(0, [(0, (2, 3, 0, none, [], [])), (1, (0, 40, 91, some ((0, 101), 0), [], []))], [], [((3, 6), (0, 7, 7, some ((4, 6), 0), [], [])), ((8, 3), (0, (-1), 255, some ((9, 3), 0), [], [])), ((8, 4), (0, 0, 639, some ((9, 4), 0), [], []))], 0, [])]
theorem as_m_X4_takeOpening_f3_6_7_7 : a_spec a_tb aC_m_X4_takeOpening_f3_6_7_7 := a_meth (Sp := [aC_m_X4_fail, aC_m_X6_advance]) (hd := aH_m_X4_takeOpening_f3_6_7_7) (mi := xmi_X4_takeOpening) 25 rfl (a_sp_c as_m_X4_fail (a_sp_c as_m_X6_advance a_sp_n)) (by decide +kernel) (by decide +kernel)
/-- X4_takeOpening@f3.6:8:8 -/
def aC_m_X4_takeOpening_f3_6_8_8 : aC := (xi_X4_takeOpening, 3, [(2, 3, 0, none, [], []), (0, 40, 91, none, [], [])], [(some (0, 1, 1, none, [], []), [((3, 6), 9, 9)]), (some (0, 0, 0, none, [], []), [((3, 6), 8, 8)])], [(3, 6), (3, 8), (3, 9), (8, 2), (8, 3), (8, 4), (8, 5), (8, 6)], [((3, 6), 8, 8)])
def aH_m_X4_takeOpening_f3_6_8_8 : List aH := [(0, [(0, (2, 3, 0, none, [], [])), (1, (0, 40, 91, some ((0, 101), 0), [], []))], [], [((3, 6), (0, 8, 8, some ((4, 6), 0), [], [])), ((8, 3), (0, (-1), 255, some ((9, 3), 0), [], [])), ((8, 4), (0, 0, 639, some ((9, 4), 0), [], []))], 0, [])]
theorem as_m_X4_takeOpening_f3_6_8_8 : a_spec a_tb aC_m_X4_takeOpening_f3_6_8_8 := a_meth (Sp := [aC_m_X4_fail, aC_m_X6_advance]) (hd := aH_m_X4_takeOpening_f3_6_8_8) (mi := xmi_X4_takeOpening) 25 rfl (a_sp_c as_m_X4_fail (a_sp_c as_m_X6_advance a_sp_n)) (by decide +kernel) (by decide +kernel)
/-- X4_takeOpening@f3.6:9:9 -/
def aC_m_X4_takeOpening_f3_6_9_9 : aC := (xi_X4_takeOpening, 3, [(2, 3, 0, none, [], []), (0, 40, 91, none, [], [])], [(some (0, 1, 1, none, [], []), [((3, 6), 10, 10)]), (some (0, 0, 0, none, [], []), [((3, 6), 9, 9)])], [(3, 6), (3, 8), (3, 9), (8, 2), (8, 3), (8, 4), (8, 5), (8, 6)], [((3, 6), 9, 9)])
def aH_m_X4_takeOpening_f3_6_9_9 : List aH := [(0, [(0, (2, 3, 0, none, [], [])), (1, (0, 40, 91, some ((0, 101), 0), [], []))], [], [((3, 6), (0, 9, 9, some ((4, 6), 0), [], [])), ((8, 3), (0, (-1), 255, some ((9, 3), 0), [], [])), ((8, 4), (0, 0, 639, some ((9, 4), 0), [], []))], 0, [])]
theorem as_m_X4_takeOpening_f3_6_9_9 : a_spec a_tb aC_m_X4_takeOpening_f3_6_9_9 := a_meth (Sp := [aC_m_X4_fail, aC_m_X6_advance]) (hd := aH_m_X4_takeOpening_f3_6_9_9) (mi := xmi_X4_takeOpening) 25 rfl (a_sp_c as_m_X4_fail (a_sp_c as_m_X6_advance a_sp_n)) (by decide +kernel) (by decide +kernel)
/-- X4_takeOpening@f3.6:10:10 -/
def aC_m_X4_takeOpening_f3_6_10_10 : aC := (xi_X4_takeOpening, 3, [(2, 3, 0, none, [], []), (0, 40, 91, none, [], [])], [(some (0, 1, 1, none, [], []), [((3, 6), 11, 11)]), (some (0, 0, 0, none, [], []), [((3, 6), 10, 10)])], [(3, 6), (3, 8), (3, 9), (8, 2), (8, 3), (8, 4), (8, 5), (8, 6)], [((3, 6), 10, 10)])
def aH_m_X4_takeOpening_f3_6_10_10 : List aH := [(0, [(0, (2, 3, 0, none, [], [])), (1, (0, 40, 91, some ((0, 101), 0), [], []))], [], [((3, 6), (0, 10, 10, some ((4, 6), 0), [], [])), ((8, 3), (0, (-1), 255, some ((9, 3), 0), [], [])), ((8, 4), (0, 0, 639, some ((9, 4), 0), [], []))], 0, [])]
theorem as_m_X4_takeOpening_f3_6_10_10 : a_spec a_tb aC_m_X4_takeOpening_f3_6_10_10 := a_meth (Sp := [aC_m_X4_fail, aC_m_X6_advance]) (hd := aH_m_X4_takeOpening_f3_6_10_10) (mi := xmi_X4_takeOpening) 25 rfl (a_sp_c as_m_X4_fail (a_sp_c as_m_X6_advance a_sp_n)) (by decide +kernel) (by decide +kernel)
/-- X4_takeOpening@f3.6:11:11 -/
def aC_m_X4_takeOpening_f3_6_11_11 : aC := (xi_X4_takeOpening, 3, [(2, 3, 0, none, [], []), (0, 40, 91, none, [], [])], [(some (0, 1, 1, none, [], []), [((3, 6), 12, 12)]), (some (0, 0, 0, none, [], []), [((3, 6), 11, 11)])], [(3, 6), (3, 8), (3, 9), (8, 2), (8, 3), (8, 4), (8, 5), (8, 6)], [((3, 6), 11, 11)])
def aH_m_X4_takeOpening_f3_6_11_11 : List aH := [(0, [(0, (2, 3, 0, none, [], [])), (1, (0, 40, 91, some ((0, 101), 0), [], []))], [], [((3, 6), (0, 11, 11, some ((4, 6), 0), [], [])), ((8, 3), (0, (-1), 255, some ((9, 3), 0), [], [])), ((8, 4), (0, 0, 639, some ((9, 4), 0), [], []))], 0, [])]
theorem as_m_X4_takeOpening_f3_6_11_11 : a_spec a_tb aC_m_X4_takeOpening_f3_6_11_11 := a_meth (Sp := [aC_m_X4_fail, aC_m_X6_advance]) (hd := aH_m_X4_takeOpening_f3_6_11_11) (mi := xmi_X4_takeOpening) 25 rfl (a_sp_c as_m_X4_fail (a_sp_c as_m_X6_advance a_sp_n)) (by decide +kernel) (by decide +kernel)
/-- X4_readQuota@f3.6:12:12 -/
def aC_m_X4_readQuota_f3_6_12_12 : aC := (xi_X4_readQuota, 7, [(2, 3, 0, none, [], []), (0, 0, 639, none, [], []), (0, (-2147483648), 2147483647, none, [], [])], [(some (0, 0, 0, none, [], []), [((3, 6), 12, 12)])], [(3, 5), (3, 8), (3, 9), (8, 2), (8, 3), (8, 4), (8, 5), (8, 6)], [((3, 6), 12, 12)])
def aH_m_X4_readQuota_f3_6_12_12 : List aH := [(0, [(0, (2, 3, 0, none, [], [])), (1, (0, 0, 639, some ((0, 101), 0), [], [])), (2, (0, (-2147483648), 2147483647, some ((0, 102), 0), [], []))], [], [((3, 6), (0, 12, 12, some ((4, 6), 0), [], []))], 0, [])]
theorem as_m_X4_readQuota_f3_6_12_12 : a_spec a_tb aC_m_X4_readQuota_f3_6_12_12 := a_meth (Sp := [aC_m_X4_fail, aC_m_X4_countOne, aC_m_X4_takeWord_s6, aC_m_X4_takeOpening_f3_6_12_12]) (hd := aH_m_X4_readQuota_f3_6_12_12) (mi := xmi_X4_readQuota) 22 rfl (a_sp_c as_m_X4_fail (a_sp_c as_m_X4_countOne (a_sp_c as_m_X4_takeWord_s6 (a_sp_c as_m_X4_takeOpening_f3_6_12_12 a_sp_n)))) (by decide +kernel) (by decide +kernel)
/-- X9_members -/
def aC_m_X9_members : aC := (xi_X9_members, 2, [(2, 0, 0, none, [], []), (0, (-2147483648), 2147483647, none, [], [])], [(some (0, 0, 1, none, [((0, 101), 1, 12)], []), [])], [(0, 9)], [])
def aH_m_X9_members : List aH := [(0, [(0, (2, 0, 0, none, [], [])), (1, (0, (-2147483648), 2147483647, some ((0, 101), 0), [], []))], [], [((0, 8), (0, 0, 8, some ((1, 8), 0), [], [])), ((28, 1), (0, 0, 1, some ((29, 1), 0), [], [])), ((35, 3), (0, 0, 60, some ((36, 3), 0), [], []))], 0, [])]
theorem as_m_X9_members : a_spec a_tb aC_m_X9_members := a_meth (Sp := [aC_m_X7_needAll]) (hd := aH_m_X9_members) (mi := xmi_X9_members) 35 rfl (a_sp_c as_m_X7_needAll a_sp_n) (by decide +kernel) (by decide +kernel)
end XB1
end
section
section XB1
/-- X9_rank -/
def aC_m_X9_rank : aC := (xi_X9_rank, 2, [(2, 0, 0, none, [], []), (0, (-2147483648), 2147483647, none, [], [])], [(some (0, 0, 1, none, [((0, 101), 0, 11)], []), [])], [(1, 1), (28, 1), (30, 0)], [])
def aH_m_X9_rank : List aH := [(0, [(0, (2, 0, 0, none, [], [])), (1, (0, (-2147483648), 2147483647, some ((0, 101), 0), [], []))], [], [((1, 1), (0, 0, 640, some ((2, 1), 0), [], []))], 0, [])]
theorem as_m_X9_rank : a_spec a_tb aC_m_X9_rank := a_meth (Sp := [aC_m_X9_isMember, aC_m_X0_isRow_r1, aC_m_X0_order_r1]) (hd := aH_m_X9_rank) (mi := xmi_X9_rank) 37 rfl (a_sp_c as_m_X9_isMember (a_sp_c as_m_X0_isRow_r1 (a_sp_c as_m_X0_order_r1 a_sp_n))) (by decide +kernel) (by decide +kernel)
/-- X6_begin -/
def aC_m_X6_begin : aC := (xi_X6_begin, 3, [(2, 8, 0, none, [], [])], [(none, [])], [(8, 1), (8, 2), (8, 3), (8, 4), (8, 5), (8, 6)], [])
def aH_m_X6_begin : List aH := [(0, [(0, (2, 8, 0, none, [], []))], [], [((1, 1), (0, 0, 640, some ((2, 1), 0), [], []))], 0, [])]
theorem as_m_X6_begin : a_spec a_tb aC_m_X6_begin := a_meth (Sp := [aC_m_X6_advance]) (hd := aH_m_X6_begin) (mi := xmi_X6_begin) 18 rfl (a_sp_c as_m_X6_advance a_sp_n) (by decide +kernel) (by decide +kernel)
/-- X0_best -/
def aC_m_X0_best : aC := (xi_X0_best, 2, [(2, 28, 0, none, [], [])], [(some (0, 0, 127, none, [], []), [])], [(32, 0)], [])
def aH_m_X0_best : List aH := [(0, [(0, (2, 28, 0, none, [], []))], [], [], 72, []),
  (8, [(0, (2, 28, 0, none, [], [])), (1, (0, 0, 127, some ((0, 1), 0), [], [])), (2, (0, 0, 7, some ((0, 2), 0), [], []))], [], [], 71, [((-9), (0, 2))]),
  (19, [(0, (2, 28, 0, none, [], [])), (1, (0, 0, 127, some ((0, 1), 0), [], [])), (2, (0, 0, 6, some ((0, 2), 0), [], [])), (3, (0, 0, 1, some ((0, 3), 0), [], [])), (4, (0, 0, 7, some ((0, 4), 0), [], []))], [], [], 70, [((-1), (0, 4)), ((-9), (0, 2))])]
theorem as_m_X0_best : a_spec a_tb aC_m_X0_best := a_meth (Sp := [aC_m_X0_findReach]) (hd := aH_m_X0_best) (mi := xmi_X0_best) 31 rfl (a_sp_c as_m_X0_findReach a_sp_n) (by decide +kernel) (by decide +kernel)
/-- X0_countRows -/
def aC_m_X0_countRows : aC := (xi_X0_countRows, 3, [(2, 28, 0, none, [], []), (0, 0, 6, none, [], [])], [(some (0, (-2147483648), 2147483647, none, [], []), [])], [(29, 0), (34, 0)], [])
def aH_m_X0_countRows : List aH := [(0, [(0, (2, 28, 0, none, [], [])), (1, (0, 0, 6, some ((0, 101), 0), [], []))], [], [], 8, []),
  (9, [(0, (2, 28, 0, none, [], [])), (1, (0, 0, 6, some ((0, 101), 0), [], [])), (2, (0, (-2147483648), 2147483647, some ((0, 2), 0), [], [])), (3, (0, 0, 7, some ((0, 3), 0), [], []))], [], [], 7, [((-1), (0, 3))])]
theorem as_m_X0_countRows : a_spec a_tb aC_m_X0_countRows := a_meth (Sp := [aC_m_X0_countWays, aC_m_X0_waysFrom, aC_m_X0_findFirstRow]) (hd := aH_m_X0_countRows) (mi := xmi_X0_countRows) 20 rfl (a_sp_c as_m_X0_countWays (a_sp_c as_m_X0_waysFrom (a_sp_c as_m_X0_findFirstRow a_sp_n))) (by decide +kernel) (by decide +kernel)
/-- X10_isOfKind@f39.35:1:4096 -/
def aC_m_X10_isOfKind_f39_35_1_4096 : aC := (xi_X10_isOfKind, 2, [(2, 39, 0, none, [], []), (0, 0, 4095, none, [], []), (0, 1, 2, none, [], [])], [(some (0, 0, 1, none, [], []), [])], [], [((39, 35), 1, 4096)])
def aH_m_X10_isOfKind_f39_35_1_4096 : List aH := [(0, [(0, (2, 39, 0, none, [], [])), (1, (0, 0, 4095, some ((0, 101), 0), [], [])), (2, (0, 1, 2, some ((0, 102), 0), [], []))], [], [((39, 35), (0, 1, 4096, some ((40, 35), 0), [], []))], 0, [])]
theorem as_m_X10_isOfKind_f39_35_1_4096 : a_spec a_tb aC_m_X10_isOfKind_f39_35_1_4096 := a_meth (Sp := [aC_m_X10_isLeast, aC_m_X10_isLeastHinder_f39_35_1_4096]) (hd := aH_m_X10_isOfKind_f39_35_1_4096) (mi := xmi_X10_isOfKind) 13 rfl (a_sp_c as_m_X10_isLeast (a_sp_c as_m_X10_isLeastHinder_f39_35_1_4096 a_sp_n)) (by decide +kernel) (by decide +kernel)
/-- X4_takeNewName -/
def aC_m_X4_takeNewName : aC := (xi_X4_takeNewName, 7, [(2, 3, 0, none, [], [])], [(some (0, 0, 1, none, [], []), [])], [(3, 8), (3, 9), (8, 2), (8, 3), (8, 4), (8, 5), (8, 6)], [])
def aH_m_X4_takeNewName : List aH := [(0, [(0, (2, 3, 0, none, [], []))], [], [((3, 7), (0, 0, 16, some ((4, 7), 0), [], [])), ((8, 4), (0, 0, 639, some ((9, 4), 0), [], []))], 0, [])]
theorem as_m_X4_takeNewName : a_spec a_tb aC_m_X4_takeNewName := a_meth (Sp := [aC_m_X6_isName, aC_m_X4_fail, aC_m_X4_toldName, aC_m_X6_advance]) (hd := aH_m_X4_takeNewName) (mi := xmi_X4_takeNewName) 24 rfl (a_sp_c as_m_X6_isName (a_sp_c as_m_X4_fail (a_sp_c as_m_X4_toldName (a_sp_c as_m_X6_advance a_sp_n)))) (by decide +kernel) (by decide +kernel)
/-- X3_fill -/
def aC_m_X3_fill : aC := (xi_X3_fill, 2, [(2, 4, 0, none, [], []), (2, 11, 0, none, [], []), (0, 1, 12, none, [], [])], [(none, [])], [(7, 0)], [])
def aH_m_X3_fill : List aH := [(0, [(0, (2, 4, 0, none, [], [])), (1, (2, 11, 0, none, [], [])), (2, (0, 1, 12, some ((0, 102), 0), [], []))], [], [], 4097, []),
  (2, [(0, (2, 4, 0, none, [], [])), (1, (2, 11, 0, none, [], [])), (2, (0, 1, 12, some ((0, 102), 0), [], [])), (3, (0, 0, 4096, some ((0, 3), 0), [], []))], [], [], 4096, [((-1), (0, 3))])]
theorem as_m_X3_fill : a_spec a_tb aC_m_X3_fill := a_meth (Sp := [aC_m_X3_run, aC_m_X7_add]) (hd := aH_m_X3_fill) (mi := xmi_X3_fill) 20 rfl (a_sp_c as_m_X3_run (a_sp_c as_m_X7_add a_sp_n)) (by decide +kernel) (by decide +kernel)
/-- X4_noteName -/
def aC_m_X4_noteName : aC := (xi_X4_noteName, 7, [(2, 3, 0, none, [], [])], [(some (0, 0, 1, none, [], []), [])], [(3, 8), (3, 9), (4, 3), (5, 0), (6, 0)], [])
def aH_m_X4_noteName : List aH := [(0, [(0, (2, 3, 0, none, [], []))], [], [((8, 4), (0, 0, 639, some ((9, 4), 0), [], []))], 0, [])]
theorem as_m_X4_noteName : a_spec a_tb aC_m_X4_noteName := a_meth (Sp := [aC_m_X6_isName, aC_m_X4_fail, aC_m_X4_toldName, aC_m_X3_add]) (hd := aH_m_X4_noteName) (mi := xmi_X4_noteName) 22 rfl (a_sp_c as_m_X6_isName (a_sp_c as_m_X4_fail (a_sp_c as_m_X4_toldName (a_sp_c as_m_X3_add a_sp_n)))) (by decide +kernel) (by decide +kernel)
/-- X5_tryRow -/
def aC_m_X5_tryRow : aC := (xi_X5_tryRow, 3, [(2, 21, 0, none, [], [])], [(none, [])], [(21, 1), (21, 10), (21, 11), (21, 12), (21, 13), (22, 0), (27, 0)], [])
def aH_m_X5_tryRow : List aH := [(0, [(0, (2, 21, 0, none, [], []))], [], [((14, 7), (0, 0, 12, some ((15, 7), 0), [], [])), ((21, 9), (0, 0, 63, some ((22, 9), 0), [], [])), ((21, 10), (0, (-2147483648), 2147483647, some ((22, 10), 0), [], []))], 13, []),
  (29, [(0, (2, 21, 0, none, [], [])), (1, (0, 0, 12, some ((0, 1), 0), [], []))], [], [((14, 7), (0, 0, 12, some ((15, 7), 0), [], [])), ((21, 9), (0, 0, 63, some ((22, 9), 0), [], [])), ((21, 10), (0, (-2147483648), 2147483647, some ((22, 10), 0), [], []))], 12, [((-1), (0, 1))])]
theorem as_m_X5_tryRow : a_spec a_tb aC_m_X5_tryRow := a_meth (Sp := [aC_m_X5_doesTheSame, aC_m_X5_tell]) (hd := aH_m_X5_tryRow) (mi := xmi_X5_tryRow) 24 rfl (a_sp_c as_m_X5_doesTheSame (a_sp_c as_m_X5_tell a_sp_n)) (by decide +kernel) (by decide +kernel)
/-- X5_place@c12 -/
def aC_m_X5_place_c12 : aC := (xi_X5_place, 4, [(2, 21, 0, none, [], []), (0, 12, 12, none, [], []), (0, 0, 60, none, [], [])], [(none, [])], [(21, 1), (21, 10), (21, 11), (21, 12), (21, 13), (22, 0), (27, 0)], [])
def aH_m_X5_place_c12 : List aH := [(0, [(0, (2, 21, 0, none, [], [])), (1, (0, 12, 12, some ((0, 101), 0), [], [])), (2, (0, 0, 60, some ((0, 102), 0), [], []))], [], [((21, 8), (0, 0, 12, some ((22, 8), 0), [], []))], 0, [])]
theorem as_m_X5_place_c12 : a_spec a_tb aC_m_X5_place_c12 := a_meth (Sp := [aC_m_X5_tryRow]) (hd := aH_m_X5_place_c12) (mi := xmi_X5_place) 14 rfl (a_sp_c as_m_X5_tryRow a_sp_n) (by decide +kernel) (by decide +kernel)
/-- X4_readOne@f3.6:12:12 -/
def aC_m_X4_readOne_f3_6_12_12 : aC := (xi_X4_readOne, 8, [(2, 3, 0, none, [], [])], [(some (0, 1, 1, none, [], []), [((3, 6), 12, 12)]), (some (0, 0, 0, none, [], []), [((3, 6), 11, 12)])], [(3, 5), (3, 6), (3, 8), (3, 9), (4, 3), (5, 0), (6, 0), (8, 2), (8, 3), (8, 4), (8, 5), (8, 6)], [((3, 6), 12, 12)])
def aH_m_X4_readOne_f3_6_12_12 : List aH := [(0, [(0, (2, 3, 0, none, [], []))], [], [((3, 6), (0, 12, 12, some ((4, 6), 0), [], [])), ((8, 3), (0, (-1), 255, some ((9, 3), 0), [], [])), ((8, 4), (0, 0, 639, some ((9, 4), 0), [], [])), ((8, 6), (0, (-2147483648), 2147483647, some ((9, 6), 0), [], []))], 0, [])]
theorem as_m_X4_readOne_f3_6_12_12 : a_spec a_tb aC_m_X4_readOne_f3_6_12_12 := a_meth (Sp := [aC_m_X6_advance, aC_m_X4_readQuota_f3_6_12_12, aC_m_X4_countOne, aC_m_X4_takeOpening_f3_6_12_12, aC_m_X6_isLone, aC_m_X4_noteMember, aC_m_X4_noteName]) (hd := aH_m_X4_readOne_f3_6_12_12) (mi := xmi_X4_readOne) 39 rfl (a_sp_c as_m_X6_advance (a_sp_c as_m_X4_readQuota_f3_6_12_12 (a_sp_c as_m_X4_countOne (a_sp_c as_m_X4_takeOpening_f3_6_12_12 (a_sp_c as_m_X6_isLone (a_sp_c as_m_X4_noteMember (a_sp_c as_m_X4_noteName a_sp_n))))))) (by decide +kernel) (by decide +kernel)
/-- X9_top -/
def aC_m_X9_top : aC := (xi_X9_top, 3, [(2, 0, 0, none, [], [])], [(some (0, 0, 127, none, [], []), [])], [(31, 0), (32, 0)], [])
def aH_m_X9_top : List aH := [(0, [(0, (2, 0, 0, none, [], []))], [], [((0, 9), (0, 1, 12, some ((1, 9), 0), [], [])), ((0, 10), (0, (-2147483648), 2147483647, some ((1, 10), 0), [], []))], 0, [])]
theorem as_m_X9_top : a_spec a_tb aC_m_X9_top := a_meth (Sp := [aC_m_X9_inForce, aC_m_X0_match, aC_m_X0_best]) (hd := aH_m_X9_top) (mi := xmi_X9_top) 18 rfl (a_sp_c as_m_X9_inForce (a_sp_c as_m_X0_match (a_sp_c as_m_X0_best a_sp_n))) (by decide +kernel) (by decide +kernel)
/-- X9_rows -/
def aC_m_X9_rows : aC := (xi_X9_rows, 4, [(2, 0, 0, none, [], []), (0, (-2147483648), 2147483647, none, [], [])], [(some (0, (-2147483648), 2147483647, none, [], []), [])], [(29, 0), (31, 0), (34, 0)], [])
def aH_m_X9_rows : List aH := [(0, [(0, (2, 0, 0, none, [], [])), (1, (0, (-2147483648), 2147483647, some ((0, 101), 0), [], []))], [], [((0, 9), (0, 1, 12, some ((1, 9), 0), [], [])), ((0, 10), (0, (-2147483648), 2147483647, some ((1, 10), 0), [], []))], 0, [])]
theorem as_m_X9_rows : a_spec a_tb aC_m_X9_rows := a_meth (Sp := [aC_m_X0_isOption, aC_m_X9_inForce, aC_m_X0_match, aC_m_X0_countRows]) (hd := aH_m_X9_rows) (mi := xmi_X9_rows) 22 rfl (a_sp_c as_m_X0_isOption (a_sp_c as_m_X9_inForce (a_sp_c as_m_X0_match (a_sp_c as_m_X0_countRows a_sp_n)))) (by decide +kernel) (by decide +kernel)
/-- X10_countOf@f39.35:1:4096 -/
def aC_m_X10_countOf_f39_35_1_4096 : aC := (xi_X10_countOf, 3, [(2, 39, 0, none, [], []), (0, 1, 2, none, [], [])], [(some (0, (-2147483648), 2147483647, none, [], []), [])], [], [((39, 35), 1, 4096)])
def aH_m_X10_countOf_f39_35_1_4096 : List aH := [(0, [(0, (2, 39, 0, none, [], [])), (1, (0, 1, 2, some ((0, 101), 0), [], []))], [], [((39, 35), (0, 1, 4096, some ((40, 35), 0), [], []))], 4097, []),
  (4, [(0, (2, 39, 0, none, [], [])), (1, (0, 1, 2, some ((0, 101), 0), [], [])), (2, (0, (-2147483648), 2147483647, some ((0, 2), 0), [], [])), (3, (0, 0, 4096, some ((0, 3), 0), [], []))], [], [((39, 35), (0, 1, 4096, some ((40, 35), 0), [], []))], 4096, [((-1), (0, 3))])]
theorem as_m_X10_countOf_f39_35_1_4096 : a_spec a_tb aC_m_X10_countOf_f39_35_1_4096 := a_meth (Sp := [aC_m_X10_isOfKind_f39_35_1_4096]) (hd := aH_m_X10_countOf_f39_35_1_4096) (mi := xmi_X10_countOf) 18 rfl (a_sp_c as_m_X10_isOfKind_f39_35_1_4096 a_sp_n) (by decide +kernel) (by decide +kernel)
/-- X4_readItem@f3.6:12:12 -/
def aC_m_X4_readItem_f3_6_12_12 : aC := (xi_X4_readItem, 9, [(2, 3, 0, none, [], [])], [(some (0, 1, 1, none, [], []), [((3, 6), 12, 12)]), (some (0, 0, 0, none, [], []), [((3, 6), 11, 12)])], [(3, 5), (3, 6), (3, 8), (3, 9), (4, 3), (5, 0), (6, 0), (8, 2), (8, 3), (8, 4), (8, 5), (8, 6)], [((3, 6), 12, 12)])
def aH_m_X4_readItem_f3_6_12_12 : List aH := [(0, [(0, (2, 3, 0, none, [], []))], [], [((3, 6), (0, 12, 12, some ((4, 6), 0), [], [])), ((8, 3), (0, (-1), 255, some ((9, 3), 0), [], [])), ((8, 4), (0, 0, 639, some ((9, 4), 0), [], [])), ((8, 6), (0, (-2147483648), 2147483647, some ((9, 6), 0), [], []))], 0, [])]
theorem as_m_X4_readItem_f3_6_12_12 : a_spec a_tb aC_m_X4_readItem_f3_6_12_12 := a_meth (Sp := [aC_m_X6_advance, aC_m_X4_readOne_f3_6_12_12, aC_m_X6_isWord_s6, aC_m_X4_readQuota_f3_6_12_12, aC_m_X4_fail, aC_m_X3_add]) (hd := aH_m_X4_readItem_f3_6_12_12) (mi := xmi_X4_readItem) 48 rfl (a_sp_c as_m_X6_advance (a_sp_c as_m_X4_readOne_f3_6_12_12 (a_sp_c as_m_X6_isWord_s6 (a_sp_c as_m_X4_readQuota_f3_6_12_12 (a_sp_c as_m_X4_fail (a_sp_c as_m_X3_add a_sp_n)))))) (by decide +kernel) (by decide +kernel)
/-- X4_readAll@f3.6:12:12 -/
def aC_m_X4_readAll_f3_6_12_12 : aC := (xi_X4_readAll, 9, [(2, 3, 0, none, [], [])], [(some (0, 1, 1, none, [], []), [((3, 6), 12, 12)]), (some (0, 0, 0, none, [], []), [((3, 6), 11, 12)])], [(3, 5), (3, 6), (3, 8), (3, 9), (4, 3), (5, 0), (6, 0), (8, 2), (8, 3), (8, 4), (8, 5), (8, 6)], [((3, 6), 12, 12)])
def aH_m_X4_readAll_f3_6_12_12 : List aH := [(0, [(0, (2, 3, 0, none, [], []))], [], [((3, 6), (0, 12, 12, some ((4, 6), 0), [], []))], 122, []),
  (7, [(0, (2, 3, 0, none, [], [])), (1, (0, 0, 0, some ((0, 1), 0), [], [])), (2, (0, 0, 121, some ((0, 2), 0), [], []))], [], [((3, 6), (0, 11, 12, some ((4, 6), 0), [], []))], 121, [((-1), (0, 2))]),
  (7, [(0, (2, 3, 0, none, [], [])), (1, (0, 1, 1, some ((0, 1), 0), [], [])), (2, (0, 0, 121, some ((0, 2), 0), [], []))], [], [((3, 6), (0, 12, 12, some ((4, 6), 0), [], []))], 121, [((-1), (0, 2))])]
theorem as_m_X4_readAll_f3_6_12_12 : a_spec a_tb aC_m_X4_readAll_f3_6_12_12 := a_meth (Sp := [aC_m_X4_readOne_f3_6_12_12, aC_m_X6_isWord_s4, aC_m_X6_advance, aC_m_X3_add]) (hd := aH_m_X4_readAll_f3_6_12_12) (mi := xmi_X4_readAll) 29 rfl (a_sp_c as_m_X4_readOne_f3_6_12_12 (a_sp_c as_m_X6_isWord_s4 (a_sp_c as_m_X6_advance (a_sp_c as_m_X3_add a_sp_n)))) (by decide +kernel) (by decide +kernel)
/-- X4_readQuota@f3.6:11:11 -/
def aC_m_X4_readQuota_f3_6_11_11 : aC := (xi_X4_readQuota, 10, [(2, 3, 0, none, [], []), (0, 0, 639, none, [], []), (0, (-2147483648), 2147483647, none, [], [])], [(some (0, 1, 1, none, [((0, 102), 1, 2147483647)], []), [((3, 6), 11, 11)]), (some (0, 0, 0, none, [], []), [((3, 6), 10, 11)])], [(3, 5), (3, 6), (3, 8), (3, 9), (4, 3), (5, 0), (6, 0), (8, 2), (8, 3), (8, 4), (8, 5), (8, 6)], [((3, 6), 11, 11)])
def aH_m_X4_readQuota_f3_6_11_11 : List aH := [(0, [(0, (2, 3, 0, none, [], [])), (1, (0, 0, 639, some ((0, 101), 0), [], [])), (2, (0, (-2147483648), 2147483647, some ((0, 102), 0), [], []))], [], [((3, 6), (0, 11, 11, some ((4, 6), 0), [], [])), ((8, 3), (0, (-1), 255, some ((9, 3), 0), [], []))], 122, []),
  (57, [(0, (2, 3, 0, none, [], [])), (1, (0, 0, 639, some ((0, 101), 0), [], [])), (2, (0, 1, 2147483647, some ((0, 102), 0), [], [])), (3, (0, 0, 0, some ((0, 3), 0), [], [])), (4, (0, 0, 121, some ((0, 4), 0), [], []))], [], [((3, 6), (0, 11, 12, some ((4, 6), 0), [], [])), ((8, 3), (0, (-1), 255, some ((9, 3), 0), [], []))], 121, [((-1), (0, 4))]),
  (57, [(0, (2, 3, 0, none, [], [])), (1, (0, 0, 639, some ((0, 101), 0), [], [])), (2, (0, 1, 2147483647, some ((0, 102), 0), [], [])), (3, (0, 1, 1, some ((0, 3), 0), [], [])), (4, (0, 0, 121, some ((0, 4), 0), [], []))], [], [((3, 6), (0, 12, 12, some ((4, 6), 0), [], [])), ((8, 3), (0, (-1), 255, some ((9, 3), 0), [], []))], 121, [((-1), (0, 4))])]
theorem as_m_X4_readQuota_f3_6_11_11 : a_spec a_tb aC_m_X4_readQuota_f3_6_11_11 := a_meth (Sp := [aC_m_X4_fail, aC_m_X4_countOne, aC_m_X4_takeWord_s6, aC_m_X4_takeOpening_f3_6_11_11, aC_m_X3_add, aC_m_X4_readItem_f3_6_12_12, aC_m_X4_takeSign]) (hd := aH_m_X4_readQuota_f3_6_11_11) (mi := xmi_X4_readQuota) 35 rfl (a_sp_c as_m_X4_fail (a_sp_c as_m_X4_countOne (a_sp_c as_m_X4_takeWord_s6 (a_sp_c as_m_X4_takeOpening_f3_6_11_11 (a_sp_c as_m_X3_add (a_sp_c as_m_X4_readItem_f3_6_12_12 (a_sp_c as_m_X4_takeSign a_sp_n))))))) (by decide +kernel) (by decide +kernel)
/-- X4_readRule@f3.6:12:12 -/
def aC_m_X4_readRule_f3_6_12_12 : aC := (xi_X4_readRule, 10, [(2, 3, 0, none, [], [])], [(some (0, 1, 1, none, [], []), [((3, 6), 12, 12)]), (some (0, 0, 0, none, [], []), [((3, 6), 11, 12)])], [(3, 5), (3, 6), (3, 8), (3, 9), (4, 3), (5, 0), (6, 0), (8, 2), (8, 3), (8, 4), (8, 5), (8, 6)], [((3, 6), 12, 12)])
def aH_m_X4_readRule_f3_6_12_12 : List aH := [(0, [(0, (2, 3, 0, none, [], []))], [], [((3, 6), (0, 12, 12, some ((4, 6), 0), [], []))], 122, []),
  (7, [(0, (2, 3, 0, none, [], [])), (1, (0, 0, 0, some ((0, 1), 0), [], [])), (2, (0, 0, 121, some ((0, 2), 0), [], []))], [], [((3, 6), (0, 11, 12, some ((4, 6), 0), [], []))], 121, [((-1), (0, 2))]),
  (7, [(0, (2, 3, 0, none, [], [])), (1, (0, 1, 1, some ((0, 1), 0), [], [])), (2, (0, 0, 121, some ((0, 2), 0), [], []))], [], [((3, 6), (0, 12, 12, some ((4, 6), 0), [], []))], 121, [((-1), (0, 2))])]
theorem as_m_X4_readRule_f3_6_12_12 : a_spec a_tb aC_m_X4_readRule_f3_6_12_12 := a_meth (Sp := [aC_m_X4_readAll_f3_6_12_12, aC_m_X6_isWord_s5, aC_m_X6_advance, aC_m_X3_add]) (hd := aH_m_X4_readRule_f3_6_12_12) (mi := xmi_X4_readRule) 29 rfl (a_sp_c as_m_X4_readAll_f3_6_12_12 (a_sp_c as_m_X6_isWord_s5 (a_sp_c as_m_X6_advance (a_sp_c as_m_X3_add a_sp_n)))) (by decide +kernel) (by decide +kernel)
/-- X4_readOne@f3.6:11:11 -/
def aC_m_X4_readOne_f3_6_11_11 : aC := (xi_X4_readOne, 11, [(2, 3, 0, none, [], [])], [(some (0, 1, 1, none, [], []), [((3, 6), 11, 11)]), (some (0, 0, 0, none, [], []), [((3, 6), 10, 11)])], [(3, 5), (3, 6), (3, 8), (3, 9), (4, 3), (5, 0), (6, 0), (8, 2), (8, 3), (8, 4), (8, 5), (8, 6)], [((3, 6), 11, 11)])
def aH_m_X4_readOne_f3_6_11_11 : List aH := [(0, [(0, (2, 3, 0, none, [], []))], [], [((3, 6), (0, 11, 11, some ((4, 6), 0), [], [])), ((8, 3), (0, (-1), 255, some ((9, 3), 0), [], [])), ((8, 4), (0, 0, 639, some ((9, 4), 0), [], [])), ((8, 6), (0, (-2147483648), 2147483647, some ((9, 6), 0), [], []))], 0, [])]
theorem as_m_X4_readOne_f3_6_11_11 : a_spec a_tb aC_m_X4_readOne_f3_6_11_11 := a_meth (Sp := [aC_m_X6_advance, aC_m_X4_readQuota_f3_6_11_11, aC_m_X4_countOne, aC_m_X4_takeOpening_f3_6_11_11, aC_m_X4_readRule_f3_6_12_12, aC_m_X4_takeSign, aC_m_X6_isLone, aC_m_X4_noteMember, aC_m_X4_noteName]) (hd := aH_m_X4_readOne_f3_6_11_11) (mi := xmi_X4_readOne) 45 rfl (a_sp_c as_m_X6_advance (a_sp_c as_m_X4_readQuota_f3_6_11_11 (a_sp_c as_m_X4_countOne (a_sp_c as_m_X4_takeOpening_f3_6_11_11 (a_sp_c as_m_X4_readRule_f3_6_12_12 (a_sp_c as_m_X4_takeSign (a_sp_c as_m_X6_isLone (a_sp_c as_m_X4_noteMember (a_sp_c as_m_X4_noteName a_sp_n))))))))) (by decide +kernel) (by decide +kernel)
/-- X4_readItem@f3.6:11:11 -/
def aC_m_X4_readItem_f3_6_11_11 : aC := (xi_X4_readItem, 12, [(2, 3, 0, none, [], [])], [(some (0, 1, 1, none, [], []), [((3, 6), 11, 11)]), (some (0, 0, 0, none, [], []), [((3, 6), 10, 11)])], [(3, 5), (3, 6), (3, 8), (3, 9), (4, 3), (5, 0), (6, 0), (8, 2), (8, 3), (8, 4), (8, 5), (8, 6)], [((3, 6), 11, 11)])
def aH_m_X4_readItem_f3_6_11_11 : List aH := [(0, [(0, (2, 3, 0, none, [], []))], [], [((3, 6), (0, 11, 11, some ((4, 6), 0), [], [])), ((8, 3), (0, (-1), 255, some ((9, 3), 0), [], [])), ((8, 4), (0, 0, 639, some ((9, 4), 0), [], [])), ((8, 6), (0, (-2147483648), 2147483647, some ((9, 6), 0), [], []))], 0, [])]
theorem as_m_X4_readItem_f3_6_11_11 : a_spec a_tb aC_m_X4_readItem_f3_6_11_11 := a_meth (Sp := [aC_m_X6_advance, aC_m_X4_readOne_f3_6_11_11, aC_m_X6_isWord_s6, aC_m_X4_readQuota_f3_6_11_11, aC_m_X4_fail, aC_m_X3_add]) (hd := aH_m_X4_readItem_f3_6_11_11) (mi := xmi_X4_readItem) 48 rfl (a_sp_c as_m_X6_advance (a_sp_c as_m_X4_readOne_f3_6_11_11 (a_sp_c as_m_X6_isWord_s6 (a_sp_c as_m_X4_readQuota_f3_6_11_11 (a_sp_c as_m_X4_fail (a_sp_c as_m_X3_add a_sp_n)))))) (by decide +kernel) (by decide +kernel)
/-- X4_readAll@f3.6:11:11 -/
def aC_m_X4_readAll_f3_6_11_11 : aC := (xi_X4_readAll, 12, [(2, 3, 0, none, [], [])], [(some (0, 1, 1, none, [], []), [((3, 6), 11, 11)]), (some (0, 0, 0, none, [], []), [((3, 6), 10, 11)])], [(3, 5), (3, 6), (3, 8), (3, 9), (4, 3), (5, 0), (6, 0), (8, 2), (8, 3), (8, 4), (8, 5), (8, 6)], [((3, 6), 11, 11)])
def aH_m_X4_readAll_f3_6_11_11 : List aH := [(0, [(0, (2, 3, 0, none, [], []))], [], [((3, 6), (0, 11, 11, some ((4, 6), 0), [], []))], 122, []),
  (7, [(0, (2, 3, 0, none, [], [])), (1, (0, 0, 0, some ((0, 1), 0), [], [])), (2, (0, 0, 121, some ((0, 2), 0), [], []))], [], [((3, 6), (0, 10, 11, some ((4, 6), 0), [], []))], 121, [((-1), (0, 2))]),
  (7, [(0, (2, 3, 0, none, [], [])), (1, (0, 1, 1, some ((0, 1), 0), [], [])), (2, (0, 0, 121, some ((0, 2), 0), [], []))], [], [((3, 6), (0, 11, 11, some ((4, 6), 0), [], []))], 121, [((-1), (0, 2))])]
theorem as_m_X4_readAll_f3_6_11_11 : a_spec a_tb aC_m_X4_readAll_f3_6_11_11 := a_meth (Sp := [aC_m_X4_readOne_f3_6_11_11, aC_m_X6_isWord_s4, aC_m_X6_advance, aC_m_X3_add]) (hd := aH_m_X4_readAll_f3_6_11_11) (mi := xmi_X4_readAll) 29 rfl (a_sp_c as_m_X4_readOne_f3_6_11_11 (a_sp_c as_m_X6_isWord_s4 (a_sp_c as_m_X6_advance (a_sp_c as_m_X3_add a_sp_n)))) (by decide +kernel) (by decide +kernel)
/-- X4_readQuota@f3.6:10:10 -/
def aC_m_X4_readQuota_f3_6_10_10 : aC := (xi_X4_readQuota, 13, [(2, 3, 0, none, [], []), (0, 0, 639, none, [], []), (0, (-2147483648), 2147483647, none, [], [])], [(some (0, 1, 1, none, [((0, 102), 1, 2147483647)], []), [((3, 6), 10, 10)]), (some (0, 0, 0, none, [], []), [((3, 6), 9, 10)])], [(3, 5), (3, 6), (3, 8), (3, 9), (4, 3), (5, 0), (6, 0), (8, 2), (8, 3), (8, 4), (8, 5), (8, 6)], [((3, 6), 10, 10)])
def aH_m_X4_readQuota_f3_6_10_10 : List aH := [(0, [(0, (2, 3, 0, none, [], [])), (1, (0, 0, 639, some ((0, 101), 0), [], [])), (2, (0, (-2147483648), 2147483647, some ((0, 102), 0), [], []))], [], [((3, 6), (0, 10, 10, some ((4, 6), 0), [], [])), ((8, 3), (0, (-1), 255, some ((9, 3), 0), [], []))], 122, []),
  (57, [(0, (2, 3, 0, none, [], [])), (1, (0, 0, 639, some ((0, 101), 0), [], [])), (2, (0, 1, 2147483647, some ((0, 102), 0), [], [])), (3, (0, 0, 0, some ((0, 3), 0), [], [])), (4, (0, 0, 121, some ((0, 4), 0), [], []))], [], [((3, 6), (0, 10, 11, some ((4, 6), 0), [], [])), ((8, 3), (0, (-1), 255, some ((9, 3), 0), [], []))], 121, [((-1), (0, 4))]),
  (57, [(0, (2, 3, 0, none, [], [])), (1, (0, 0, 639, some ((0, 101), 0), [], [])), (2, (0, 1, 2147483647, some ((0, 102), 0), [], [])), (3, (0, 1, 1, some ((0, 3), 0), [], [])), (4, (0, 0, 121, some ((0, 4), 0), [], []))], [], [((3, 6), (0, 11, 11, some ((4, 6), 0), [], [])), ((8, 3), (0, (-1), 255, some ((9, 3), 0), [], []))], 121, [((-1), (0, 4))])]
theorem as_m_X4_readQuota_f3_6_10_10 : a_spec a_tb aC_m_X4_readQuota_f3_6_10_10 := a_meth (Sp := [aC_m_X4_fail, aC_m_X4_countOne, aC_m_X4_takeWord_s6, aC_m_X4_takeOpening_f3_6_10_10, aC_m_X3_add, aC_m_X4_readItem_f3_6_11_11, aC_m_X4_takeSign]) (hd := aH_m_X4_readQuota_f3_6_10_10) (mi := xmi_X4_readQuota) 35 rfl (a_sp_c as_m_X4_fail (a_sp_c as_m_X4_countOne (a_sp_c as_m_X4_takeWord_s6 (a_sp_c as_m_X4_takeOpening_f3_6_10_10 (a_sp_c as_m_X3_add (a_sp_c as_m_X4_readItem_f3_6_11_11 (a_sp_c as_m_X4_takeSign a_sp_n))))))) (by decide +kernel) (by decide +kernel)
/-- X4_readRule@f3.6:11:11 -/
def aC_m_X4_readRule_f3_6_11_11 : aC := (xi_X4_readRule, 13, [(2, 3, 0, none, [], [])], [(some (0, 1, 1, none, [], []), [((3, 6), 11, 11)]), (some (0, 0, 0, none, [], []), [((3, 6), 10, 11)])], [(3, 5), (3, 6), (3, 8), (3, 9), (4, 3), (5, 0), (6, 0), (8, 2), (8, 3), (8, 4), (8, 5), (8, 6)], [((3, 6), 11, 11)])
def aH_m_X4_readRule_f3_6_11_11 : List aH := [(0, [(0, (2, 3, 0, none, [], []))], [], [((3, 6), (0, 11, 11, some ((4, 6), 0), [], []))], 122, []),
  (7, [(0, (2, 3, 0, none, [], [])), (1, (0, 0, 0, some ((0, 1), 0), [], [])), (2, (0, 0, 121, some ((0, 2), 0), [], []))], [], [((3, 6), (0, 10, 11, some ((4, 6), 0), [], []))], 121, [((-1), (0, 2))]),
  (7, [(0, (2, 3, 0, none, [], [])), (1, (0, 1, 1, some ((0, 1), 0), [], [])), (2, (0, 0, 121, some ((0, 2), 0), [], []))], [], [((3, 6), (0, 11, 11, some ((4, 6), 0), [], []))], 121, [((-1), (0, 2))])]
theorem as_m_X4_readRule_f3_6_11_11 : a_spec a_tb aC_m_X4_readRule_f3_6_11_11 := a_meth (Sp := [aC_m_X4_readAll_f3_6_11_11, aC_m_X6_isWord_s5, aC_m_X6_advance, aC_m_X3_add]) (hd := aH_m_X4_readRule_f3_6_11_11) (mi := xmi_X4_readRule) 29 rfl (a_sp_c as_m_X4_readAll_f3_6_11_11 (a_sp_c as_m_X6_isWord_s5 (a_sp_c as_m_X6_advance (a_sp_c as_m_X3_add a_sp_n)))) (by decide +kernel) (by decide +kernel)
/-- X4_readOne@f3.6:10:10 -/
def aC_m_X4_readOne_f3_6_10_10 : aC := (xi_X4_readOne, 14, [(2, 3, 0, none, [], [])], [(some (0, 1, 1, none, [], []), [((3, 6), 10, 10)]), (some (0, 0, 0, none, [], []), [((3, 6), 9, 10)])], [(3, 5), (3, 6), (3, 8), (3, 9), (4, 3), (5, 0), (6, 0), (8, 2), (8, 3), (8, 4), (8, 5), (8, 6)], [((3, 6), 10, 10)])
def aH_m_X4_readOne_f3_6_10_10 : List aH := [(0, [(0, (2, 3, 0, none, [], []))], [], [((3, 6), (0, 10, 10, some ((4, 6), 0), [], [])), ((8, 3), (0, (-1), 255, some ((9, 3), 0), [], [])), ((8, 4), (0, 0, 639, some ((9, 4), 0), [], [])), ((8, 6), (0, (-2147483648), 2147483647, some ((9, 6), 0), [], []))], 0, [])]
theorem as_m_X4_readOne_f3_6_10_10 : a_spec a_tb aC_m_X4_readOne_f3_6_10_10 := a_meth (Sp := [aC_m_X6_advance, aC_m_X4_readQuota_f3_6_10_10, aC_m_X4_countOne, aC_m_X4_takeOpening_f3_6_10_10, aC_m_X4_readRule_f3_6_11_11, aC_m_X4_takeSign, aC_m_X6_isLone, aC_m_X4_noteMember, aC_m_X4_noteName]) (hd := aH_m_X4_readOne_f3_6_10_10) (mi := xmi_X4_readOne) 45 rfl (a_sp_c as_m_X6_advance (a_sp_c as_m_X4_readQuota_f3_6_10_10 (a_sp_c as_m_X4_countOne (a_sp_c as_m_X4_takeOpening_f3_6_10_10 (a_sp_c as_m_X4_readRule_f3_6_11_11 (a_sp_c as_m_X4_takeSign (a_sp_c as_m_X6_isLone (a_sp_c as_m_X4_noteMember (a_sp_c as_m_X4_noteName a_sp_n))))))))) (by decide +kernel) (by decide +kernel)
/-- X4_readItem@f3.6:10:10 -/
def aC_m_X4_readItem_f3_6_10_10 : aC := (xi_X4_readItem, 15, [(2, 3, 0, none, [], [])], [(some (0, 1, 1, none, [], []), [((3, 6), 10, 10)]), (some (0, 0, 0, none, [], []), [((3, 6), 9, 10)])], [(3, 5), (3, 6), (3, 8), (3, 9), (4, 3), (5, 0), (6, 0), (8, 2), (8, 3), (8, 4), (8, 5), (8, 6)], [((3, 6), 10, 10)])
def aH_m_X4_readItem_f3_6_10_10 : List aH := [(0, [(0, (2, 3, 0, none, [], []))], [], [((3, 6), (0, 10, 10, some ((4, 6), 0), [], [])), ((8, 3), (0, (-1), 255, some ((9, 3), 0), [], [])), ((8, 4), (0, 0, 639, some ((9, 4), 0), [], [])), ((8, 6), (0, (-2147483648), 2147483647, some ((9, 6), 0), [], []))], 0, [])]
theorem as_m_X4_readItem_f3_6_10_10 : a_spec a_tb aC_m_X4_readItem_f3_6_10_10 := a_meth (Sp := [aC_m_X6_advance, aC_m_X4_readOne_f3_6_10_10, aC_m_X6_isWord_s6, aC_m_X4_readQuota_f3_6_10_10, aC_m_X4_fail, aC_m_X3_add]) (hd := aH_m_X4_readItem_f3_6_10_10) (mi := xmi_X4_readItem) 48 rfl (a_sp_c as_m_X6_advance (a_sp_c as_m_X4_readOne_f3_6_10_10 (a_sp_c as_m_X6_isWord_s6 (a_sp_c as_m_X4_readQuota_f3_6_10_10 (a_sp_c as_m_X4_fail (a_sp_c as_m_X3_add a_sp_n)))))) (by decide +kernel) (by decide +kernel)
/-- X4_readAll@f3.6:10:10 -/
def aC_m_X4_readAll_f3_6_10_10 : aC := (xi_X4_readAll, 15, [(2, 3, 0, none, [], [])], [(some (0, 1, 1, none, [], []), [((3, 6), 10, 10)]), (some (0, 0, 0, none, [], []), [((3, 6), 9, 10)])], [(3, 5), (3, 6), (3, 8), (3, 9), (4, 3), (5, 0), (6, 0), (8, 2), (8, 3), (8, 4), (8, 5), (8, 6)], [((3, 6), 10, 10)])
def aH_m_X4_readAll_f3_6_10_10 : List aH := [(0, [(0, (2, 3, 0, none, [], []))], [], [((3, 6), (0, 10, 10, some ((4, 6), 0), [], []))], 122, []),
  (7, [(0, (2, 3, 0, none, [], [])), (1, (0, 0, 0, some ((0, 1), 0), [], [])), (2, (0, 0, 121, some ((0, 2), 0), [], []))], [], [((3, 6), (0, 9, 10, some ((4, 6), 0), [], []))], 121, [((-1), (0, 2))]),
  (7, [(0, (2, 3, 0, none, [], [])), (1, (0, 1, 1, some ((0, 1), 0), [], [])), (2, (0, 0, 121, some ((0, 2), 0), [], []))], [], [((3, 6), (0, 10, 10, some ((4, 6), 0), [], []))], 121, [((-1), (0, 2))])]
theorem as_m_X4_readAll_f3_6_10_10 : a_spec a_tb aC_m_X4_readAll_f3_6_10_10 := a_meth (Sp := [aC_m_X4_readOne_f3_6_10_10, aC_m_X6_isWord_s4, aC_m_X6_advance, aC_m_X3_add]) (hd := aH_m_X4_readAll_f3_6_10_10) (mi := xmi_X4_readAll) 29 rfl (a_sp_c as_m_X4_readOne_f3_6_10_10 (a_sp_c as_m_X6_isWord_s4 (a_sp_c as_m_X6_advance (a_sp_c as_m_X3_add a_sp_n)))) (by decide +kernel) (by decide +kernel)
/-- X4_readQuota@f3.6:9:9 -/
def aC_m_X4_readQuota_f3_6_9_9 : aC := (xi_X4_readQuota, 16, [(2, 3, 0, none, [], []), (0, 0, 639, none, [], []), (0, (-2147483648), 2147483647, none, [], [])], [(some (0, 1, 1, none, [((0, 102), 1, 2147483647)], []), [((3, 6), 9, 9)]), (some (0, 0, 0, none, [], []), [((3, 6), 8, 9)])], [(3, 5), (3, 6), (3, 8), (3, 9), (4, 3), (5, 0), (6, 0), (8, 2), (8, 3), (8, 4), (8, 5), (8, 6)], [((3, 6), 9, 9)])
def aH_m_X4_readQuota_f3_6_9_9 : List aH := [(0, [(0, (2, 3, 0, none, [], [])), (1, (0, 0, 639, some ((0, 101), 0), [], [])), (2, (0, (-2147483648), 2147483647, some ((0, 102), 0), [], []))], [], [((3, 6), (0, 9, 9, some ((4, 6), 0), [], [])), ((8, 3), (0, (-1), 255, some ((9, 3), 0), [], []))], 122, []),
  (57, [(0, (2, 3, 0, none, [], [])), (1, (0, 0, 639, some ((0, 101), 0), [], [])), (2, (0, 1, 2147483647, some ((0, 102), 0), [], [])), (3, (0, 0, 0, some ((0, 3), 0), [], [])), (4, (0, 0, 121, some ((0, 4), 0), [], []))], [], [((3, 6), (0, 9, 10, some ((4, 6), 0), [], [])), ((8, 3), (0, (-1), 255, some ((9, 3), 0), [], []))], 121, [((-1), (0, 4))]),
  (57, [(0, (2, 3, 0, none, [], [])), (1, (0, 0, 639, some ((0, 101), 0), [], [])), (2, (0, 1, 2147483647, some ((0, 102), 0), [], [])), (3, (0, 1, 1, some ((0, 3), 0), [], [])), (4, (0, 0, 121, some ((0, 4), 0), [], []))], [], [((3, 6), (0, 10, 10, some ((4, 6), 0), [], [])), ((8, 3), (0, (-1), 255, some ((9, 3), 0), [], []))], 121, [((-1), (0, 4))])]
theorem as_m_X4_readQuota_f3_6_9_9 : a_spec a_tb aC_m_X4_readQuota_f3_6_9_9 := a_meth (Sp := [aC_m_X4_fail, aC_m_X4_countOne, aC_m_X4_takeWord_s6, aC_m_X4_takeOpening_f3_6_9_9, aC_m_X3_add, aC_m_X4_readItem_f3_6_10_10, aC_m_X4_takeSign]) (hd := aH_m_X4_readQuota_f3_6_9_9) (mi := xmi_X4_readQuota) 35 rfl (a_sp_c as_m_X4_fail (a_sp_c as_m_X4_countOne (a_sp_c as_m_X4_takeWord_s6 (a_sp_c as_m_X4_takeOpening_f3_6_9_9 (a_sp_c as_m_X3_add (a_sp_c as_m_X4_readItem_f3_6_10_10 (a_sp_c as_m_X4_takeSign a_sp_n))))))) (by decide +kernel) (by decide +kernel)
/-- X4_readRule@f3.6:10:10 -/
def aC_m_X4_readRule_f3_6_10_10 : aC := (xi_X4_readRule, 16, [(2, 3, 0, none, [], [])], [(some (0, 1, 1, none, [], []), [((3, 6), 10, 10)]), (some (0, 0, 0, none, [], []), [((3, 6), 9, 10)])], [(3, 5), (3, 6), (3, 8), (3, 9), (4, 3), (5, 0), (6, 0), (8, 2), (8, 3), (8, 4), (8, 5), (8, 6)], [((3, 6), 10, 10)])
def aH_m_X4_readRule_f3_6_10_10 : List aH := [(0, [(0, (2, 3, 0, none, [], []))], [], [((3, 6), (0, 10, 10, some ((4, 6), 0), [], []))], 122, []),
  (7, [(0, (2, 3, 0, none, [], [])), (1, (0, 0, 0, some ((0, 1), 0), [], [])), (2, (0, 0, 121, some ((0, 2), 0), [], []))], [], [((3, 6), (0, 9, 10, some ((4, 6), 0), [], []))], 121, [((-1), (0, 2))]),
  (7, [(0, (2, 3, 0, none, [], [])), (1, (0, 1, 1, some ((0, 1), 0), [], [])), (2, (0, 0, 121, some ((0, 2), 0), [], []))], [], [((3, 6), (0, 10, 10, some ((4, 6), 0), [], []))], 121, [((-1), (0, 2))])]
theorem as_m_X4_readRule_f3_6_10_10 : a_spec a_tb aC_m_X4_readRule_f3_6_10_10 := a_meth (Sp := [aC_m_X4_readAll_f3_6_10_10, aC_m_X6_isWord_s5, aC_m_X6_advance, aC_m_X3_add]) (hd := aH_m_X4_readRule_f3_6_10_10) (mi := xmi_X4_readRule) 29 rfl (a_sp_c as_m_X4_readAll_f3_6_10_10 (a_sp_c as_m_X6_isWord_s5 (a_sp_c as_m_X6_advance (a_sp_c as_m_X3_add a_sp_n)))) (by decide +kernel) (by decide +kernel)
/-- X4_readOne@f3.6:9:9 -/
def aC_m_X4_readOne_f3_6_9_9 : aC := (xi_X4_readOne, 17, [(2, 3, 0, none, [], [])], [(some (0, 1, 1, none, [], []), [((3, 6), 9, 9)]), (some (0, 0, 0, none, [], []), [((3, 6), 8, 9)])], [(3, 5), (3, 6), (3, 8), (3, 9), (4, 3), (5, 0), (6, 0), (8, 2), (8, 3), (8, 4), (8, 5), (8, 6)], [((3, 6), 9, 9)])
def aH_m_X4_readOne_f3_6_9_9 : List aH := [(0, [(0, (2, 3, 0, none, [], []))], [], [((3, 6), (0, 9, 9, some ((4, 6), 0), [], [])), ((8, 3), (0, (-1), 255, some ((9, 3), 0), [], [])), ((8, 4), (0, 0, 639, some ((9, 4), 0), [], [])), ((8, 6), (0, (-2147483648), 2147483647, some ((9, 6), 0), [], []))], 0, [])]
theorem as_m_X4_readOne_f3_6_9_9 : a_spec a_tb aC_m_X4_readOne_f3_6_9_9 := a_meth (Sp := [aC_m_X6_advance, aC_m_X4_readQuota_f3_6_9_9, aC_m_X4_countOne, aC_m_X4_takeOpening_f3_6_9_9, aC_m_X4_readRule_f3_6_10_10, aC_m_X4_takeSign, aC_m_X6_isLone, aC_m_X4_noteMember, aC_m_X4_noteName]) (hd := aH_m_X4_readOne_f3_6_9_9) (mi := xmi_X4_readOne) 45 rfl (a_sp_c as_m_X6_advance (a_sp_c as_m_X4_readQuota_f3_6_9_9 (a_sp_c as_m_X4_countOne (a_sp_c as_m_X4_takeOpening_f3_6_9_9 (a_sp_c as_m_X4_readRule_f3_6_10_10 (a_sp_c as_m_X4_takeSign (a_sp_c as_m_X6_isLone (a_sp_c as_m_X4_noteMember (a_sp_c as_m_X4_noteName a_sp_n))))))))) (by decide +kernel) (by decide +kernel)
/-- X4_readItem@f3.6:9:9 -/
def aC_m_X4_readItem_f3_6_9_9 : aC := (xi_X4_readItem, 18, [(2, 3, 0, none, [], [])], [(some (0, 1, 1, none, [], []), [((3, 6), 9, 9)]), (some (0, 0, 0, none, [], []), [((3, 6), 8, 9)])], [(3, 5), (3, 6), (3, 8), (3, 9), (4, 3), (5, 0), (6, 0), (8, 2), (8, 3), (8, 4), (8, 5), (8, 6)], [((3, 6), 9, 9)])
def aH_m_X4_readItem_f3_6_9_9 : List aH := [(0, [(0, (2, 3, 0, none, [], []))], [], [((3, 6), (0, 9, 9, some ((4, 6), 0), [], [])), ((8, 3), (0, (-1), 255, some ((9, 3), 0), [], [])), ((8, 4), (0, 0, 639, some ((9, 4), 0), [], [])), ((8, 6), (0, (-2147483648), 2147483647, some ((9, 6), 0), [], []))], 0, [])]
theorem as_m_X4_readItem_f3_6_9_9 : a_spec a_tb aC_m_X4_readItem_f3_6_9_9 := a_meth (Sp := [aC_m_X6_advance, aC_m_X4_readOne_f3_6_9_9, aC_m_X6_isWord_s6, aC_m_X4_readQuota_f3_6_9_9, aC_m_X4_fail, aC_m_X3_add]) (hd := aH_m_X4_readItem_f3_6_9_9) (mi := xmi_X4_readItem) 48 rfl (a_sp_c as_m_X6_advance (a_sp_c as_m_X4_readOne_f3_6_9_9 (a_sp_c as_m_X6_isWord_s6 (a_sp_c as_m_X4_readQuota_f3_6_9_9 (a_sp_c as_m_X4_fail (a_sp_c as_m_X3_add a_sp_n)))))) (by decide +kernel) (by decide +kernel)
end XB1
end
section
section XB1
/-- X4_readAll@f3.6:9:9 -/
def aC_m_X4_readAll_f3_6_9_9 : aC := (xi_X4_readAll, 18, [(2, 3, 0, none, [], [])], [(some (0, 1, 1, none, [], []), [((3, 6), 9, 9)]), (some (0, 0, 0, none, [], []), [((3, 6), 8, 9)])], [(3, 5), (3, 6), (3, 8), (3, 9), (4, 3), (5, 0), (6, 0), (8, 2), (8, 3), (8, 4), (8, 5), (8, 6)], [((3, 6), 9, 9)])
def aH_m_X4_readAll_f3_6_9_9 : List aH := [(0, [(0, (2, 3, 0, none, [], []))], [], [((3, 6), (0, 9, 9, some ((4, 6), 0), [], []))], 122, []),
  (7, [(0, (2, 3, 0, none, [], [])), (1, (0, 0, 0, some ((0, 1), 0), [], [])), (2, (0, 0, 121, some ((0, 2), 0), [], []))], [], [((3, 6), (0, 8, 9, some ((4, 6), 0), [], []))], 121, [((-1), (0, 2))]),
  (7, [(0, (2, 3, 0, none, [], [])), (1, (0, 1, 1, some ((0, 1), 0), [], [])), (2, (0, 0, 121, some ((0, 2), 0), [], []))], [], [((3, 6), (0, 9, 9, some ((4, 6), 0), [], []))], 121, [((-1), (0, 2))])]
theorem as_m_X4_readAll_f3_6_9_9 : a_spec a_tb aC_m_X4_readAll_f3_6_9_9 := a_meth (Sp := [aC_m_X4_readOne_f3_6_9_9, aC_m_X6_isWord_s4, aC_m_X6_advance, aC_m_X3_add]) (hd := aH_m_X4_readAll_f3_6_9_9) (mi := xmi_X4_readAll) 29 rfl (a_sp_c as_m_X4_readOne_f3_6_9_9 (a_sp_c as_m_X6_isWord_s4 (a_sp_c as_m_X6_advance (a_sp_c as_m_X3_add a_sp_n)))) (by decide +kernel) (by decide +kernel)
/-- X4_readQuota@f3.6:8:8 -/
def aC_m_X4_readQuota_f3_6_8_8 : aC := (xi_X4_readQuota, 19, [(2, 3, 0, none, [], []), (0, 0, 639, none, [], []), (0, (-2147483648), 2147483647, none, [], [])], [(some (0, 1, 1, none, [((0, 102), 1, 2147483647)], []), [((3, 6), 8, 8)]), (some (0, 0, 0, none, [], []), [((3, 6), 7, 8)])], [(3, 5), (3, 6), (3, 8), (3, 9), (4, 3), (5, 0), (6, 0), (8, 2), (8, 3), (8, 4), (8, 5), (8, 6)], [((3, 6), 8, 8)])
def aH_m_X4_readQuota_f3_6_8_8 : List aH := [(0, [(0, (2, 3, 0, none, [], [])), (1, (0, 0, 639, some ((0, 101), 0), [], [])), (2, (0, (-2147483648), 2147483647, some ((0, 102), 0), [], []))], [], [((3, 6), (0, 8, 8, some ((4, 6), 0), [], [])), ((8, 3), (0, (-1), 255, some ((9, 3), 0), [], []))], 122, []),
  (57, [(0, (2, 3, 0, none, [], [])), (1, (0, 0, 639, some ((0, 101), 0), [], [])), (2, (0, 1, 2147483647, some ((0, 102), 0), [], [])), (3, (0, 0, 0, some ((0, 3), 0), [], [])), (4, (0, 0, 121, some ((0, 4), 0), [], []))], [], [((3, 6), (0, 8, 9, some ((4, 6), 0), [], [])), ((8, 3), (0, (-1), 255, some ((9, 3), 0), [], []))], 121, [((-1), (0, 4))]),
  (57, [(0, (2, 3, 0, none, [], [])), (1, (0, 0, 639, some ((0, 101), 0), [], [])), (2, (0, 1, 2147483647, some ((0, 102), 0), [], [])), (3, (0, 1, 1, some ((0, 3), 0), [], [])), (4, (0, 0, 121, some ((0, 4), 0), [], []))], [], [((3, 6), (0, 9, 9, some ((4, 6), 0), [], [])), ((8, 3), (0, (-1), 255, some ((9, 3), 0), [], []))], 121, [((-1), (0, 4))])]
theorem as_m_X4_readQuota_f3_6_8_8 : a_spec a_tb aC_m_X4_readQuota_f3_6_8_8 := a_meth (Sp := [aC_m_X4_fail, aC_m_X4_countOne, aC_m_X4_takeWord_s6, aC_m_X4_takeOpening_f3_6_8_8, aC_m_X3_add, aC_m_X4_readItem_f3_6_9_9, aC_m_X4_takeSign]) (hd := aH_m_X4_readQuota_f3_6_8_8) (mi := xmi_X4_readQuota) 35 rfl (a_sp_c as_m_X4_fail (a_sp_c as_m_X4_countOne (a_sp_c as_m_X4_takeWord_s6 (a_sp_c as_m_X4_takeOpening_f3_6_8_8 (a_sp_c as_m_X3_add (a_sp_c as_m_X4_readItem_f3_6_9_9 (a_sp_c as_m_X4_takeSign a_sp_n))))))) (by decide +kernel) (by decide +kernel)
/-- X4_readRule@f3.6:9:9 -/
def aC_m_X4_readRule_f3_6_9_9 : aC := (xi_X4_readRule, 19, [(2, 3, 0, none, [], [])], [(some (0, 1, 1, none, [], []), [((3, 6), 9, 9)]), (some (0, 0, 0, none, [], []), [((3, 6), 8, 9)])], [(3, 5), (3, 6), (3, 8), (3, 9), (4, 3), (5, 0), (6, 0), (8, 2), (8, 3), (8, 4), (8, 5), (8, 6)], [((3, 6), 9, 9)])
def aH_m_X4_readRule_f3_6_9_9 : List aH := [(0, [(0, (2, 3, 0, none, [], []))], [], [((3, 6), (0, 9, 9, some ((4, 6), 0), [], []))], 122, []),
  (7, [(0, (2, 3, 0, none, [], [])), (1, (0, 0, 0, some ((0, 1), 0), [], [])), (2, (0, 0, 121, some ((0, 2), 0), [], []))], [], [((3, 6), (0, 8, 9, some ((4, 6), 0), [], []))], 121, [((-1), (0, 2))]),
  (7, [(0, (2, 3, 0, none, [], [])), (1, (0, 1, 1, some ((0, 1), 0), [], [])), (2, (0, 0, 121, some ((0, 2), 0), [], []))], [], [((3, 6), (0, 9, 9, some ((4, 6), 0), [], []))], 121, [((-1), (0, 2))])]
theorem as_m_X4_readRule_f3_6_9_9 : a_spec a_tb aC_m_X4_readRule_f3_6_9_9 := a_meth (Sp := [aC_m_X4_readAll_f3_6_9_9, aC_m_X6_isWord_s5, aC_m_X6_advance, aC_m_X3_add]) (hd := aH_m_X4_readRule_f3_6_9_9) (mi := xmi_X4_readRule) 29 rfl (a_sp_c as_m_X4_readAll_f3_6_9_9 (a_sp_c as_m_X6_isWord_s5 (a_sp_c as_m_X6_advance (a_sp_c as_m_X3_add a_sp_n)))) (by decide +kernel) (by decide +kernel)
/-- X4_readOne@f3.6:8:8 -/
def aC_m_X4_readOne_f3_6_8_8 : aC := (xi_X4_readOne, 20, [(2, 3, 0, none, [], [])], [(some (0, 1, 1, none, [], []), [((3, 6), 8, 8)]), (some (0, 0, 0, none, [], []), [((3, 6), 7, 8)])], [(3, 5), (3, 6), (3, 8), (3, 9), (4, 3), (5, 0), (6, 0), (8, 2), (8, 3), (8, 4), (8, 5), (8, 6)], [((3, 6), 8, 8)])
def aH_m_X4_readOne_f3_6_8_8 : List aH := [(0, [(0, (2, 3, 0, none, [], []))], [], [((3, 6), (0, 8, 8, some ((4, 6), 0), [], [])), ((8, 3), (0, (-1), 255, some ((9, 3), 0), [], [])), ((8, 4), (0, 0, 639, some ((9, 4), 0), [], [])), ((8, 6), (0, (-2147483648), 2147483647, some ((9, 6), 0), [], []))], 0, [])]
theorem as_m_X4_readOne_f3_6_8_8 : a_spec a_tb aC_m_X4_readOne_f3_6_8_8 := a_meth (Sp := [aC_m_X6_advance, aC_m_X4_readQuota_f3_6_8_8, aC_m_X4_countOne, aC_m_X4_takeOpening_f3_6_8_8, aC_m_X4_readRule_f3_6_9_9, aC_m_X4_takeSign, aC_m_X6_isLone, aC_m_X4_noteMember, aC_m_X4_noteName]) (hd := aH_m_X4_readOne_f3_6_8_8) (mi := xmi_X4_readOne) 45 rfl (a_sp_c as_m_X6_advance (a_sp_c as_m_X4_readQuota_f3_6_8_8 (a_sp_c as_m_X4_countOne (a_sp_c as_m_X4_takeOpening_f3_6_8_8 (a_sp_c as_m_X4_readRule_f3_6_9_9 (a_sp_c as_m_X4_takeSign (a_sp_c as_m_X6_isLone (a_sp_c as_m_X4_noteMember (a_sp_c as_m_X4_noteName a_sp_n))))))))) (by decide +kernel) (by decide +kernel)
/-- X4_readItem@f3.6:8:8 -/
def aC_m_X4_readItem_f3_6_8_8 : aC := (xi_X4_readItem, 21, [(2, 3, 0, none, [], [])], [(some (0, 1, 1, none, [], []), [((3, 6), 8, 8)]), (some (0, 0, 0, none, [], []), [((3, 6), 7, 8)])], [(3, 5), (3, 6), (3, 8), (3, 9), (4, 3), (5, 0), (6, 0), (8, 2), (8, 3), (8, 4), (8, 5), (8, 6)], [((3, 6), 8, 8)])
def aH_m_X4_readItem_f3_6_8_8 : List aH := [(0, [(0, (2, 3, 0, none, [], []))], [], [((3, 6), (0, 8, 8, some ((4, 6), 0), [], [])), ((8, 3), (0, (-1), 255, some ((9, 3), 0), [], [])), ((8, 4), (0, 0, 639, some ((9, 4), 0), [], [])), ((8, 6), (0, (-2147483648), 2147483647, some ((9, 6), 0), [], []))], 0, [])]
theorem as_m_X4_readItem_f3_6_8_8 : a_spec a_tb aC_m_X4_readItem_f3_6_8_8 := a_meth (Sp := [aC_m_X6_advance, aC_m_X4_readOne_f3_6_8_8, aC_m_X6_isWord_s6, aC_m_X4_readQuota_f3_6_8_8, aC_m_X4_fail, aC_m_X3_add]) (hd := aH_m_X4_readItem_f3_6_8_8) (mi := xmi_X4_readItem) 48 rfl (a_sp_c as_m_X6_advance (a_sp_c as_m_X4_readOne_f3_6_8_8 (a_sp_c as_m_X6_isWord_s6 (a_sp_c as_m_X4_readQuota_f3_6_8_8 (a_sp_c as_m_X4_fail (a_sp_c as_m_X3_add a_sp_n)))))) (by decide +kernel) (by decide +kernel)
/-- X4_readAll@f3.6:8:8 -/
def aC_m_X4_readAll_f3_6_8_8 : aC := (xi_X4_readAll, 21, [(2, 3, 0, none, [], [])], [(some (0, 1, 1, none, [], []), [((3, 6), 8, 8)]), (some (0, 0, 0, none, [], []), [((3, 6), 7, 8)])], [(3, 5), (3, 6), (3, 8), (3, 9), (4, 3), (5, 0), (6, 0), (8, 2), (8, 3), (8, 4), (8, 5), (8, 6)], [((3, 6), 8, 8)])
def aH_m_X4_readAll_f3_6_8_8 : List aH := [(0, [(0, (2, 3, 0, none, [], []))], [], [((3, 6), (0, 8, 8, some ((4, 6), 0), [], []))], 122, []),
  (7, [(0, (2, 3, 0, none, [], [])), (1, (0, 0, 0, some ((0, 1), 0), [], [])), (2, (0, 0, 121, some ((0, 2), 0), [], []))], [], [((3, 6), (0, 7, 8, some ((4, 6), 0), [], []))], 121, [((-1), (0, 2))]),
  (7, [(0, (2, 3, 0, none, [], [])), (1, (0, 1, 1, some ((0, 1), 0), [], [])), (2, (0, 0, 121, some ((0, 2), 0), [], []))], [], [((3, 6), (0, 8, 8, some ((4, 6), 0), [], []))], 121, [((-1), (0, 2))])]
theorem as_m_X4_readAll_f3_6_8_8 : a_spec a_tb aC_m_X4_readAll_f3_6_8_8 := a_meth (Sp := [aC_m_X4_readOne_f3_6_8_8, aC_m_X6_isWord_s4, aC_m_X6_advance, aC_m_X3_add]) (hd := aH_m_X4_readAll_f3_6_8_8) (mi := xmi_X4_readAll) 29 rfl (a_sp_c as_m_X4_readOne_f3_6_8_8 (a_sp_c as_m_X6_isWord_s4 (a_sp_c as_m_X6_advance (a_sp_c as_m_X3_add a_sp_n)))) (by decide +kernel) (by decide +kernel)
/-- X4_readQuota@f3.6:7:7 -/
def aC_m_X4_readQuota_f3_6_7_7 : aC := (xi_X4_readQuota, 22, [(2, 3, 0, none, [], []), (0, 0, 639, none, [], []), (0, (-2147483648), 2147483647, none, [], [])], [(some (0, 1, 1, none, [((0, 102), 1, 2147483647)], []), [((3, 6), 7, 7)]), (some (0, 0, 0, none, [], []), [((3, 6), 6, 7)])], [(3, 5), (3, 6), (3, 8), (3, 9), (4, 3), (5, 0), (6, 0), (8, 2), (8, 3), (8, 4), (8, 5), (8, 6)], [((3, 6), 7, 7)])
def aH_m_X4_readQuota_f3_6_7_7 : List aH := [(0, [(0, (2, 3, 0, none, [], [])), (1, (0, 0, 639, some ((0, 101), 0), [], [])), (2, (0, (-2147483648), 2147483647, some ((0, 102), 0), [], []))], [], [((3, 6), (0, 7, 7, some ((4, 6), 0), [], [])), ((8, 3), (0, (-1), 255, some ((9, 3), 0), [], []))], 122, []),
  (57, [(0, (2, 3, 0, none, [], [])), (1, (0, 0, 639, some ((0, 101), 0), [], [])), (2, (0, 1, 2147483647, some ((0, 102), 0), [], [])), (3, (0, 0, 0, some ((0, 3), 0), [], [])), (4, (0, 0, 121, some ((0, 4), 0), [], []))], [], [((3, 6), (0, 7, 8, some ((4, 6), 0), [], [])), ((8, 3), (0, (-1), 255, some ((9, 3), 0), [], []))], 121, [((-1), (0, 4))]),
  (57, [(0, (2, 3, 0, none, [], [])), (1, (0, 0, 639, some ((0, 101), 0), [], [])), (2, (0, 1, 2147483647, some ((0, 102), 0), [], [])), (3, (0, 1, 1, some ((0, 3), 0), [], [])), (4, (0, 0, 121, some ((0, 4), 0), [], []))], [], [((3, 6), (0, 8, 8, some ((4, 6), 0), [], [])), ((8, 3), (0, (-1), 255, some ((9, 3), 0), [], []))], 121, [((-1), (0, 4))])]
theorem as_m_X4_readQuota_f3_6_7_7 : a_spec a_tb aC_m_X4_readQuota_f3_6_7_7 := a_meth (Sp := [aC_m_X4_fail, aC_m_X4_countOne, aC_m_X4_takeWord_s6, aC_m_X4_takeOpening_f3_6_7_7, aC_m_X3_add, aC_m_X4_readItem_f3_6_8_8, aC_m_X4_takeSign]) (hd := aH_m_X4_readQuota_f3_6_7_7) (mi := xmi_X4_readQuota) 35 rfl (a_sp_c as_m_X4_fail (a_sp_c as_m_X4_countOne (a_sp_c as_m_X4_takeWord_s6 (a_sp_c as_m_X4_takeOpening_f3_6_7_7 (a_sp_c as_m_X3_add (a_sp_c as_m_X4_readItem_f3_6_8_8 (a_sp_c as_m_X4_takeSign a_sp_n))))))) (by decide +kernel) (by decide +kernel)
/-- X4_readRule@f3.6:8:8 -/
def aC_m_X4_readRule_f3_6_8_8 : aC := (xi_X4_readRule, 22, [(2, 3, 0, none, [], [])], [(some (0, 1, 1, none, [], []), [((3, 6), 8, 8)]), (some (0, 0, 0, none, [], []), [((3, 6), 7, 8)])], [(3, 5), (3, 6), (3, 8), (3, 9), (4, 3), (5, 0), (6, 0), (8, 2), (8, 3), (8, 4), (8, 5), (8, 6)], [((3, 6), 8, 8)])
def aH_m_X4_readRule_f3_6_8_8 : List aH := [(0, [(0, (2, 3, 0, none, [], []))], [], [((3, 6), (0, 8, 8, some ((4, 6), 0), [], []))], 122, []),
  (7, [(0, (2, 3, 0, none, [], [])), (1, (0, 0, 0, some ((0, 1), 0), [], [])), (2, (0, 0, 121, some ((0, 2), 0), [], []))], [], [((3, 6), (0, 7, 8, some ((4, 6), 0), [], []))], 121, [((-1), (0, 2))]),
  (7, [(0, (2, 3, 0, none, [], [])), (1, (0, 1, 1, some ((0, 1), 0), [], [])), (2, (0, 0, 121, some ((0, 2), 0), [], []))], [], [((3, 6), (0, 8, 8, some ((4, 6), 0), [], []))], 121, [((-1), (0, 2))])]
theorem as_m_X4_readRule_f3_6_8_8 : a_spec a_tb aC_m_X4_readRule_f3_6_8_8 := a_meth (Sp := [aC_m_X4_readAll_f3_6_8_8, aC_m_X6_isWord_s5, aC_m_X6_advance, aC_m_X3_add]) (hd := aH_m_X4_readRule_f3_6_8_8) (mi := xmi_X4_readRule) 29 rfl (a_sp_c as_m_X4_readAll_f3_6_8_8 (a_sp_c as_m_X6_isWord_s5 (a_sp_c as_m_X6_advance (a_sp_c as_m_X3_add a_sp_n)))) (by decide +kernel) (by decide +kernel)
/-- X4_readOne@f3.6:7:7 -/
def aC_m_X4_readOne_f3_6_7_7 : aC := (xi_X4_readOne, 23, [(2, 3, 0, none, [], [])], [(some (0, 1, 1, none, [], []), [((3, 6), 7, 7)]), (some (0, 0, 0, none, [], []), [((3, 6), 6, 7)])], [(3, 5), (3, 6), (3, 8), (3, 9), (4, 3), (5, 0), (6, 0), (8, 2), (8, 3), (8, 4), (8, 5), (8, 6)], [((3, 6), 7, 7)])
def aH_m_X4_readOne_f3_6_7_7 : List aH := [(0, [(0, (2, 3, 0, none, [], []))], [], [((3, 6), (0, 7, 7, some ((4, 6), 0), [], [])), ((8, 3), (0, (-1), 255, some ((9, 3), 0), [], [])), ((8, 4), (0, 0, 639, some ((9, 4), 0), [], [])), ((8, 6), (0, (-2147483648), 2147483647, some ((9, 6), 0), [], []))], 0, [])]
theorem as_m_X4_readOne_f3_6_7_7 : a_spec a_tb aC_m_X4_readOne_f3_6_7_7 := a_meth (Sp := [aC_m_X6_advance, aC_m_X4_readQuota_f3_6_7_7, aC_m_X4_countOne, aC_m_X4_takeOpening_f3_6_7_7, aC_m_X4_readRule_f3_6_8_8, aC_m_X4_takeSign, aC_m_X6_isLone, aC_m_X4_noteMember, aC_m_X4_noteName]) (hd := aH_m_X4_readOne_f3_6_7_7) (mi := xmi_X4_readOne) 45 rfl (a_sp_c as_m_X6_advance (a_sp_c as_m_X4_readQuota_f3_6_7_7 (a_sp_c as_m_X4_countOne (a_sp_c as_m_X4_takeOpening_f3_6_7_7 (a_sp_c as_m_X4_readRule_f3_6_8_8 (a_sp_c as_m_X4_takeSign (a_sp_c as_m_X6_isLone (a_sp_c as_m_X4_noteMember (a_sp_c as_m_X4_noteName a_sp_n))))))))) (by decide +kernel) (by decide +kernel)
/-- X4_readItem@f3.6:7:7 -/
def aC_m_X4_readItem_f3_6_7_7 : aC := (xi_X4_readItem, 24, [(2, 3, 0, none, [], [])], [(some (0, 1, 1, none, [], []), [((3, 6), 7, 7)]), (some (0, 0, 0, none, [], []), [((3, 6), 6, 7)])], [(3, 5), (3, 6), (3, 8), (3, 9), (4, 3), (5, 0), (6, 0), (8, 2), (8, 3), (8, 4), (8, 5), (8, 6)], [((3, 6), 7, 7)])
def aH_m_X4_readItem_f3_6_7_7 : List aH := [(0, [(0, (2, 3, 0, none, [], []))], [], [((3, 6), (0, 7, 7, some ((4, 6), 0), [], [])), ((8, 3), (0, (-1), 255, some ((9, 3), 0), [], [])), ((8, 4), (0, 0, 639, some ((9, 4), 0), [], [])), ((8, 6), (0, (-2147483648), 2147483647, some ((9, 6), 0), [], []))], 0, [])]
theorem as_m_X4_readItem_f3_6_7_7 : a_spec a_tb aC_m_X4_readItem_f3_6_7_7 := a_meth (Sp := [aC_m_X6_advance, aC_m_X4_readOne_f3_6_7_7, aC_m_X6_isWord_s6, aC_m_X4_readQuota_f3_6_7_7, aC_m_X4_fail, aC_m_X3_add]) (hd := aH_m_X4_readItem_f3_6_7_7) (mi := xmi_X4_readItem) 48 rfl (a_sp_c as_m_X6_advance (a_sp_c as_m_X4_readOne_f3_6_7_7 (a_sp_c as_m_X6_isWord_s6 (a_sp_c as_m_X4_readQuota_f3_6_7_7 (a_sp_c as_m_X4_fail (a_sp_c as_m_X3_add a_sp_n)))))) (by decide +kernel) (by decide +kernel)
/-- X4_readAll@f3.6:7:7 -/
def aC_m_X4_readAll_f3_6_7_7 : aC := (xi_X4_readAll, 24, [(2, 3, 0, none, [], [])], [(some (0, 1, 1, none, [], []), [((3, 6), 7, 7)]), (some (0, 0, 0, none, [], []), [((3, 6), 6, 7)])], [(3, 5), (3, 6), (3, 8), (3, 9), (4, 3), (5, 0), (6, 0), (8, 2), (8, 3), (8, 4), (8, 5), (8, 6)], [((3, 6), 7, 7)])
def aH_m_X4_readAll_f3_6_7_7 : List aH := [(0, [(0, (2, 3, 0, none, [], []))], [], [((3, 6), (0, 7, 7, some ((4, 6), 0), [], []))], 122, []),
  (7, [(0, (2, 3, 0, none, [], [])), (1, (0, 0, 0, some ((0, 1), 0), [], [])), (2, (0, 0, 121, some ((0, 2), 0), [], []))], [], [((3, 6), (0, 6, 7, some ((4, 6), 0), [], []))], 121, [((-1), (0, 2))]),
  (7, [(0, (2, 3, 0, none, [], [])), (1, (0, 1, 1, some ((0, 1), 0), [], [])), (2, (0, 0, 121, some ((0, 2), 0), [], []))], [], [((3, 6), (0, 7, 7, some ((4, 6), 0), [], []))], 121, [((-1), (0, 2))])]
theorem as_m_X4_readAll_f3_6_7_7 : a_spec a_tb aC_m_X4_readAll_f3_6_7_7 := a_meth (Sp := [aC_m_X4_readOne_f3_6_7_7, aC_m_X6_isWord_s4, aC_m_X6_advance, aC_m_X3_add]) (hd := aH_m_X4_readAll_f3_6_7_7) (mi := xmi_X4_readAll) 29 rfl (a_sp_c as_m_X4_readOne_f3_6_7_7 (a_sp_c as_m_X6_isWord_s4 (a_sp_c as_m_X6_advance (a_sp_c as_m_X3_add a_sp_n)))) (by decide +kernel) (by decide +kernel)
/-- X4_readQuota@f3.6:6:6 -/
def aC_m_X4_readQuota_f3_6_6_6 : aC := (xi_X4_readQuota, 25, [(2, 3, 0, none, [], []), (0, 0, 639, none, [], []), (0, (-2147483648), 2147483647, none, [], [])], [(some (0, 1, 1, none, [((0, 102), 1, 2147483647)], []), [((3, 6), 6, 6)]), (some (0, 0, 0, none, [], []), [((3, 6), 5, 6)])], [(3, 5), (3, 6), (3, 8), (3, 9), (4, 3), (5, 0), (6, 0), (8, 2), (8, 3), (8, 4), (8, 5), (8, 6)], [((3, 6), 6, 6)])
def aH_m_X4_readQuota_f3_6_6_6 : List aH := [(0, [(0, (2, 3, 0, none, [], [])), (1, (0, 0, 639, some ((0, 101), 0), [], [])), (2, (0, (-2147483648), 2147483647, some ((0, 102), 0), [], []))], [], [((3, 6), (0, 6, 6, some ((4, 6), 0), [], [])), ((8, 3), (0, (-1), 255, some ((9, 3), 0), [], []))], 122, []),
  (57, [(0, (2, 3, 0, none, [], [])), (1, (0, 0, 639, some ((0, 101), 0), [], [])), (2, (0, 1, 2147483647, some ((0, 102), 0), [], [])), (3, (0, 0, 0, some ((0, 3), 0), [], [])), (4, (0, 0, 121, some ((0, 4), 0), [], []))], [], [((3, 6), (0, 6, 7, some ((4, 6), 0), [], [])), ((8, 3), (0, (-1), 255, some ((9, 3), 0), [], []))], 121, [((-1), (0, 4))]),
  (57, [(0, (2, 3, 0, none, [], [])), (1, (0, 0, 639, some ((0, 101), 0), [], [])), (2, (0, 1, 2147483647, some ((0, 102), 0), [], [])), (3, (0, 1, 1, some ((0, 3), 0), [], [])), (4, (0, 0, 121, some ((0, 4), 0), [], []))], [], [((3, 6), (0, 7, 7, some ((4, 6), 0), [], [])), ((8, 3), (0, (-1), 255, some ((9, 3), 0), [], []))], 121, [((-1), (0, 4))])]
theorem as_m_X4_readQuota_f3_6_6_6 : a_spec a_tb aC_m_X4_readQuota_f3_6_6_6 := a_meth (Sp := [aC_m_X4_fail, aC_m_X4_countOne, aC_m_X4_takeWord_s6, aC_m_X4_takeOpening_f3_6_6_6, aC_m_X3_add, aC_m_X4_readItem_f3_6_7_7, aC_m_X4_takeSign]) (hd := aH_m_X4_readQuota_f3_6_6_6) (mi := xmi_X4_readQuota) 35 rfl (a_sp_c as_m_X4_fail (a_sp_c as_m_X4_countOne (a_sp_c as_m_X4_takeWord_s6 (a_sp_c as_m_X4_takeOpening_f3_6_6_6 (a_sp_c as_m_X3_add (a_sp_c as_m_X4_readItem_f3_6_7_7 (a_sp_c as_m_X4_takeSign a_sp_n))))))) (by decide +kernel) (by decide +kernel)
/-- X4_readRule@f3.6:7:7 -/
def aC_m_X4_readRule_f3_6_7_7 : aC := (xi_X4_readRule, 25, [(2, 3, 0, none, [], [])], [(some (0, 1, 1, none, [], []), [((3, 6), 7, 7)]), (some (0, 0, 0, none, [], []), [((3, 6), 6, 7)])], [(3, 5), (3, 6), (3, 8), (3, 9), (4, 3), (5, 0), (6, 0), (8, 2), (8, 3), (8, 4), (8, 5), (8, 6)], [((3, 6), 7, 7)])
def aH_m_X4_readRule_f3_6_7_7 : List aH := [(0, [(0, (2, 3, 0, none, [], []))], [], [((3, 6), (0, 7, 7, some ((4, 6), 0), [], []))], 122, []),
  (7, [(0, (2, 3, 0, none, [], [])), (1, (0, 0, 0, some ((0, 1), 0), [], [])), (2, (0, 0, 121, some ((0, 2), 0), [], []))], [], [((3, 6), (0, 6, 7, some ((4, 6), 0), [], []))], 121, [((-1), (0, 2))]),
  (7, [(0, (2, 3, 0, none, [], [])), (1, (0, 1, 1, some ((0, 1), 0), [], [])), (2, (0, 0, 121, some ((0, 2), 0), [], []))], [], [((3, 6), (0, 7, 7, some ((4, 6), 0), [], []))], 121, [((-1), (0, 2))])]
theorem as_m_X4_readRule_f3_6_7_7 : a_spec a_tb aC_m_X4_readRule_f3_6_7_7 := a_meth (Sp := [aC_m_X4_readAll_f3_6_7_7, aC_m_X6_isWord_s5, aC_m_X6_advance, aC_m_X3_add]) (hd := aH_m_X4_readRule_f3_6_7_7) (mi := xmi_X4_readRule) 29 rfl (a_sp_c as_m_X4_readAll_f3_6_7_7 (a_sp_c as_m_X6_isWord_s5 (a_sp_c as_m_X6_advance (a_sp_c as_m_X3_add a_sp_n)))) (by decide +kernel) (by decide +kernel)
/-- X4_readOne@f3.6:6:6 -/
def aC_m_X4_readOne_f3_6_6_6 : aC := (xi_X4_readOne, 26, [(2, 3, 0, none, [], [])], [(some (0, 1, 1, none, [], []), [((3, 6), 6, 6)]), (some (0, 0, 0, none, [], []), [((3, 6), 5, 6)])], [(3, 5), (3, 6), (3, 8), (3, 9), (4, 3), (5, 0), (6, 0), (8, 2), (8, 3), (8, 4), (8, 5), (8, 6)], [((3, 6), 6, 6)])
def aH_m_X4_readOne_f3_6_6_6 : List aH := [(0, [(0, (2, 3, 0, none, [], []))], [], [((3, 6), (0, 6, 6, some ((4, 6), 0), [], [])), ((8, 3), (0, (-1), 255, some ((9, 3), 0), [], [])), ((8, 4), (0, 0, 639, some ((9, 4), 0), [], [])), ((8, 6), (0, (-2147483648), 2147483647, some ((9, 6), 0), [], []))], 0, [])]
theorem as_m_X4_readOne_f3_6_6_6 : a_spec a_tb aC_m_X4_readOne_f3_6_6_6 := a_meth (Sp := [aC_m_X6_advance, aC_m_X4_readQuota_f3_6_6_6, aC_m_X4_countOne, aC_m_X4_takeOpening_f3_6_6_6, aC_m_X4_readRule_f3_6_7_7, aC_m_X4_takeSign, aC_m_X6_isLone, aC_m_X4_noteMember, aC_m_X4_noteName]) (hd := aH_m_X4_readOne_f3_6_6_6) (mi := xmi_X4_readOne) 45 rfl (a_sp_c as_m_X6_advance (a_sp_c as_m_X4_readQuota_f3_6_6_6 (a_sp_c as_m_X4_countOne (a_sp_c as_m_X4_takeOpening_f3_6_6_6 (a_sp_c as_m_X4_readRule_f3_6_7_7 (a_sp_c as_m_X4_takeSign (a_sp_c as_m_X6_isLone (a_sp_c as_m_X4_noteMember (a_sp_c as_m_X4_noteName a_sp_n))))))))) (by decide +kernel) (by decide +kernel)
/-- X4_readItem@f3.6:6:6 -/
def aC_m_X4_readItem_f3_6_6_6 : aC := (xi_X4_readItem, 27, [(2, 3, 0, none, [], [])], [(some (0, 1, 1, none, [], []), [((3, 6), 6, 6)]), (some (0, 0, 0, none, [], []), [((3, 6), 5, 6)])], [(3, 5), (3, 6), (3, 8), (3, 9), (4, 3), (5, 0), (6, 0), (8, 2), (8, 3), (8, 4), (8, 5), (8, 6)], [((3, 6), 6, 6)])
def aH_m_X4_readItem_f3_6_6_6 : List aH := [(0, [(0, (2, 3, 0, none, [], []))], [], [((3, 6), (0, 6, 6, some ((4, 6), 0), [], [])), ((8, 3), (0, (-1), 255, some ((9, 3), 0), [], [])), ((8, 4), (0, 0, 639, some ((9, 4), 0), [], [])), ((8, 6), (0, (-2147483648), 2147483647, some ((9, 6), 0), [], []))], 0, [])]
theorem as_m_X4_readItem_f3_6_6_6 : a_spec a_tb aC_m_X4_readItem_f3_6_6_6 := a_meth (Sp := [aC_m_X6_advance, aC_m_X4_readOne_f3_6_6_6, aC_m_X6_isWord_s6, aC_m_X4_readQuota_f3_6_6_6, aC_m_X4_fail, aC_m_X3_add]) (hd := aH_m_X4_readItem_f3_6_6_6) (mi := xmi_X4_readItem) 48 rfl (a_sp_c as_m_X6_advance (a_sp_c as_m_X4_readOne_f3_6_6_6 (a_sp_c as_m_X6_isWord_s6 (a_sp_c as_m_X4_readQuota_f3_6_6_6 (a_sp_c as_m_X4_fail (a_sp_c as_m_X3_add a_sp_n)))))) (by decide +kernel) (by decide +kernel)
/-- X4_readAll@f3.6:6:6 -/
def aC_m_X4_readAll_f3_6_6_6 : aC := (xi_X4_readAll, 27, [(2, 3, 0, none, [], [])], [(some (0, 1, 1, none, [], []), [((3, 6), 6, 6)]), (some (0, 0, 0, none, [], []), [((3, 6), 5, 6)])], [(3, 5), (3, 6), (3, 8), (3, 9), (4, 3), (5, 0), (6, 0), (8, 2), (8, 3), (8, 4), (8, 5), (8, 6)], [((3, 6), 6, 6)])
def aH_m_X4_readAll_f3_6_6_6 : List aH := [(0, [(0, (2, 3, 0, none, [], []))], [], [((3, 6), (0, 6, 6, some ((4, 6), 0), [], []))], 122, []),
  (7, [(0, (2, 3, 0, none, [], [])), (1, (0, 0, 0, some ((0, 1), 0), [], [])), (2, (0, 0, 121, some ((0, 2), 0), [], []))], [], [((3, 6), (0, 5, 6, some ((4, 6), 0), [], []))], 121, [((-1), (0, 2))]),
  (7, [(0, (2, 3, 0, none, [], [])), (1, (0, 1, 1, some ((0, 1), 0), [], [])), (2, (0, 0, 121, some ((0, 2), 0), [], []))], [], [((3, 6), (0, 6, 6, some ((4, 6), 0), [], []))], 121, [((-1), (0, 2))])]
theorem as_m_X4_readAll_f3_6_6_6 : a_spec a_tb aC_m_X4_readAll_f3_6_6_6 := a_meth (Sp := [aC_m_X4_readOne_f3_6_6_6, aC_m_X6_isWord_s4, aC_m_X6_advance, aC_m_X3_add]) (hd := aH_m_X4_readAll_f3_6_6_6) (mi := xmi_X4_readAll) 29 rfl (a_sp_c as_m_X4_readOne_f3_6_6_6 (a_sp_c as_m_X6_isWord_s4 (a_sp_c as_m_X6_advance (a_sp_c as_m_X3_add a_sp_n)))) (by decide +kernel) (by decide +kernel)
/-- X4_readQuota@f3.6:5:5 -/
def aC_m_X4_readQuota_f3_6_5_5 : aC := (xi_X4_readQuota, 28, [(2, 3, 0, none, [], []), (0, 0, 639, none, [], []), (0, (-2147483648), 2147483647, none, [], [])], [(some (0, 1, 1, none, [((0, 102), 1, 2147483647)], []), [((3, 6), 5, 5)]), (some (0, 0, 0, none, [], []), [((3, 6), 4, 5)])], [(3, 5), (3, 6), (3, 8), (3, 9), (4, 3), (5, 0), (6, 0), (8, 2), (8, 3), (8, 4), (8, 5), (8, 6)], [((3, 6), 5, 5)])
def aH_m_X4_readQuota_f3_6_5_5 : List aH := [(0, [(0, (2, 3, 0, none, [], [])), (1, (0, 0, 639, some ((0, 101), 0), [], [])), (2, (0, (-2147483648), 2147483647, some ((0, 102), 0), [], []))], [], [((3, 6), (0, 5, 5, some ((4, 6), 0), [], [])), ((8, 3), (0, (-1), 255, some ((9, 3), 0), [], []))], 122, []),
  (57, [(0, (2, 3, 0, none, [], [])), (1, (0, 0, 639, some ((0, 101), 0), [], [])), (2, (0, 1, 2147483647, some ((0, 102), 0), [], [])), (3, (0, 0, 0, some ((0, 3), 0), [], [])), (4, (0, 0, 121, some ((0, 4), 0), [], []))], [], [((3, 6), (0, 5, 6, some ((4, 6), 0), [], [])), ((8, 3), (0, (-1), 255, some ((9, 3), 0), [], []))], 121, [((-1), (0, 4))]),
  (57, [(0, (2, 3, 0, none, [], [])), (1, (0, 0, 639, some ((0, 101), 0), [], [])), (2, (0, 1, 2147483647, some ((0, 102), 0), [], [])), (3, (0, 1, 1, some ((0, 3), 0), [], [])), (4, (0, 0, 121, some ((0, 4), 0), [], []))], [], [((3, 6), (0, 6, 6, some ((4, 6), 0), [], [])), ((8, 3), (0, (-1), 255, some ((9, 3), 0), [], []))], 121, [((-1), (0, 4))])]
theorem as_m_X4_readQuota_f3_6_5_5 : a_spec a_tb aC_m_X4_readQuota_f3_6_5_5 := a_meth (Sp := [aC_m_X4_fail, aC_m_X4_countOne, aC_m_X4_takeWord_s6, aC_m_X4_takeOpening_f3_6_5_5, aC_m_X3_add, aC_m_X4_readItem_f3_6_6_6, aC_m_X4_takeSign]) (hd := aH_m_X4_readQuota_f3_6_5_5) (mi := xmi_X4_readQuota) 35 rfl (a_sp_c as_m_X4_fail (a_sp_c as_m_X4_countOne (a_sp_c as_m_X4_takeWord_s6 (a_sp_c as_m_X4_takeOpening_f3_6_5_5 (a_sp_c as_m_X3_add (a_sp_c as_m_X4_readItem_f3_6_6_6 (a_sp_c as_m_X4_takeSign a_sp_n))))))) (by decide +kernel) (by decide +kernel)
/-- X4_readRule@f3.6:6:6 -/
def aC_m_X4_readRule_f3_6_6_6 : aC := (xi_X4_readRule, 28, [(2, 3, 0, none, [], [])], [(some (0, 1, 1, none, [], []), [((3, 6), 6, 6)]), (some (0, 0, 0, none, [], []), [((3, 6), 5, 6)])], [(3, 5), (3, 6), (3, 8), (3, 9), (4, 3), (5, 0), (6, 0), (8, 2), (8, 3), (8, 4), (8, 5), (8, 6)], [((3, 6), 6, 6)])
def aH_m_X4_readRule_f3_6_6_6 : List aH := [(0, [(0, (2, 3, 0, none, [], []))], [], [((3, 6), (0, 6, 6, some ((4, 6), 0), [], []))], 122, []),
  (7, [(0, (2, 3, 0, none, [], [])), (1, (0, 0, 0, some ((0, 1), 0), [], [])), (2, (0, 0, 121, some ((0, 2), 0), [], []))], [], [((3, 6), (0, 5, 6, some ((4, 6), 0), [], []))], 121, [((-1), (0, 2))]),
  (7, [(0, (2, 3, 0, none, [], [])), (1, (0, 1, 1, some ((0, 1), 0), [], [])), (2, (0, 0, 121, some ((0, 2), 0), [], []))], [], [((3, 6), (0, 6, 6, some ((4, 6), 0), [], []))], 121, [((-1), (0, 2))])]
theorem as_m_X4_readRule_f3_6_6_6 : a_spec a_tb aC_m_X4_readRule_f3_6_6_6 := a_meth (Sp := [aC_m_X4_readAll_f3_6_6_6, aC_m_X6_isWord_s5, aC_m_X6_advance, aC_m_X3_add]) (hd := aH_m_X4_readRule_f3_6_6_6) (mi := xmi_X4_readRule) 29 rfl (a_sp_c as_m_X4_readAll_f3_6_6_6 (a_sp_c as_m_X6_isWord_s5 (a_sp_c as_m_X6_advance (a_sp_c as_m_X3_add a_sp_n)))) (by decide +kernel) (by decide +kernel)
/-- X4_readOne@f3.6:5:5 -/
def aC_m_X4_readOne_f3_6_5_5 : aC := (xi_X4_readOne, 29, [(2, 3, 0, none, [], [])], [(some (0, 1, 1, none, [], []), [((3, 6), 5, 5)]), (some (0, 0, 0, none, [], []), [((3, 6), 4, 5)])], [(3, 5), (3, 6), (3, 8), (3, 9), (4, 3), (5, 0), (6, 0), (8, 2), (8, 3), (8, 4), (8, 5), (8, 6)], [((3, 6), 5, 5)])
def aH_m_X4_readOne_f3_6_5_5 : List aH := [(0, [(0, (2, 3, 0, none, [], []))], [], [((3, 6), (0, 5, 5, some ((4, 6), 0), [], [])), ((8, 3), (0, (-1), 255, some ((9, 3), 0), [], [])), ((8, 4), (0, 0, 639, some ((9, 4), 0), [], [])), ((8, 6), (0, (-2147483648), 2147483647, some ((9, 6), 0), [], []))], 0, [])]
theorem as_m_X4_readOne_f3_6_5_5 : a_spec a_tb aC_m_X4_readOne_f3_6_5_5 := a_meth (Sp := [aC_m_X6_advance, aC_m_X4_readQuota_f3_6_5_5, aC_m_X4_countOne, aC_m_X4_takeOpening_f3_6_5_5, aC_m_X4_readRule_f3_6_6_6, aC_m_X4_takeSign, aC_m_X6_isLone, aC_m_X4_noteMember, aC_m_X4_noteName]) (hd := aH_m_X4_readOne_f3_6_5_5) (mi := xmi_X4_readOne) 45 rfl (a_sp_c as_m_X6_advance (a_sp_c as_m_X4_readQuota_f3_6_5_5 (a_sp_c as_m_X4_countOne (a_sp_c as_m_X4_takeOpening_f3_6_5_5 (a_sp_c as_m_X4_readRule_f3_6_6_6 (a_sp_c as_m_X4_takeSign (a_sp_c as_m_X6_isLone (a_sp_c as_m_X4_noteMember (a_sp_c as_m_X4_noteName a_sp_n))))))))) (by decide +kernel) (by decide +kernel)
/-- X4_readItem@f3.6:5:5 -/
def aC_m_X4_readItem_f3_6_5_5 : aC := (xi_X4_readItem, 30, [(2, 3, 0, none, [], [])], [(some (0, 1, 1, none, [], []), [((3, 6), 5, 5)]), (some (0, 0, 0, none, [], []), [((3, 6), 4, 5)])], [(3, 5), (3, 6), (3, 8), (3, 9), (4, 3), (5, 0), (6, 0), (8, 2), (8, 3), (8, 4), (8, 5), (8, 6)], [((3, 6), 5, 5)])
def aH_m_X4_readItem_f3_6_5_5 : List aH := [(0, [(0, (2, 3, 0, none, [], []))], [], [((3, 6), (0, 5, 5, some ((4, 6), 0), [], [])), ((8, 3), (0, (-1), 255, some ((9, 3), 0), [], [])), ((8, 4), (0, 0, 639, some ((9, 4), 0), [], [])), ((8, 6), (0, (-2147483648), 2147483647, some ((9, 6), 0), [], []))], 0, [])]
theorem as_m_X4_readItem_f3_6_5_5 : a_spec a_tb aC_m_X4_readItem_f3_6_5_5 := a_meth (Sp := [aC_m_X6_advance, aC_m_X4_readOne_f3_6_5_5, aC_m_X6_isWord_s6, aC_m_X4_readQuota_f3_6_5_5, aC_m_X4_fail, aC_m_X3_add]) (hd := aH_m_X4_readItem_f3_6_5_5) (mi := xmi_X4_readItem) 48 rfl (a_sp_c as_m_X6_advance (a_sp_c as_m_X4_readOne_f3_6_5_5 (a_sp_c as_m_X6_isWord_s6 (a_sp_c as_m_X4_readQuota_f3_6_5_5 (a_sp_c as_m_X4_fail (a_sp_c as_m_X3_add a_sp_n)))))) (by decide +kernel) (by decide +kernel)
/-- X4_readAll@f3.6:5:5 -/
def aC_m_X4_readAll_f3_6_5_5 : aC := (xi_X4_readAll, 30, [(2, 3, 0, none, [], [])], [(some (0, 1, 1, none, [], []), [((3, 6), 5, 5)]), (some (0, 0, 0, none, [], []), [((3, 6), 4, 5)])], [(3, 5), (3, 6), (3, 8), (3, 9), (4, 3), (5, 0), (6, 0), (8, 2), (8, 3), (8, 4), (8, 5), (8, 6)], [((3, 6), 5, 5)])
def aH_m_X4_readAll_f3_6_5_5 : List aH := [(0, [(0, (2, 3, 0, none, [], []))], [], [((3, 6), (0, 5, 5, some ((4, 6), 0), [], []))], 122, []),
  (7, [(0, (2, 3, 0, none, [], [])), (1, (0, 0, 0, some ((0, 1), 0), [], [])), (2, (0, 0, 121, some ((0, 2), 0), [], []))], [], [((3, 6), (0, 4, 5, some ((4, 6), 0), [], []))], 121, [((-1), (0, 2))]),
  (7, [(0, (2, 3, 0, none, [], [])), (1, (0, 1, 1, some ((0, 1), 0), [], [])), (2, (0, 0, 121, some ((0, 2), 0), [], []))], [], [((3, 6), (0, 5, 5, some ((4, 6), 0), [], []))], 121, [((-1), (0, 2))])]
theorem as_m_X4_readAll_f3_6_5_5 : a_spec a_tb aC_m_X4_readAll_f3_6_5_5 := a_meth (Sp := [aC_m_X4_readOne_f3_6_5_5, aC_m_X6_isWord_s4, aC_m_X6_advance, aC_m_X3_add]) (hd := aH_m_X4_readAll_f3_6_5_5) (mi := xmi_X4_readAll) 29 rfl (a_sp_c as_m_X4_readOne_f3_6_5_5 (a_sp_c as_m_X6_isWord_s4 (a_sp_c as_m_X6_advance (a_sp_c as_m_X3_add a_sp_n)))) (by decide +kernel) (by decide +kernel)
/-- X4_readQuota@f3.6:4:4 -/
def aC_m_X4_readQuota_f3_6_4_4 : aC := (xi_X4_readQuota, 31, [(2, 3, 0, none, [], []), (0, 0, 639, none, [], []), (0, (-2147483648), 2147483647, none, [], [])], [(some (0, 1, 1, none, [((0, 102), 1, 2147483647)], []), [((3, 6), 4, 4)]), (some (0, 0, 0, none, [], []), [((3, 6), 3, 4)])], [(3, 5), (3, 6), (3, 8), (3, 9), (4, 3), (5, 0), (6, 0), (8, 2), (8, 3), (8, 4), (8, 5), (8, 6)], [((3, 6), 4, 4)])
def aH_m_X4_readQuota_f3_6_4_4 : List aH := [(0, [(0, (2, 3, 0, none, [], [])), (1, (0, 0, 639, some ((0, 101), 0), [], [])), (2, (0, (-2147483648), 2147483647, some ((0, 102), 0), [], []))], [], [((3, 6), (0, 4, 4, some ((4, 6), 0), [], [])), ((8, 3), (0, (-1), 255, some ((9, 3), 0), [], []))], 122, []),
  (57, [(0, (2, 3, 0, none, [], [])), (1, (0, 0, 639, some ((0, 101), 0), [], [])), (2, (0, 1, 2147483647, some ((0, 102), 0), [], [])), (3, (0, 0, 0, some ((0, 3), 0), [], [])), (4, (0, 0, 121, some ((0, 4), 0), [], []))], [], [((3, 6), (0, 4, 5, some ((4, 6), 0), [], [])), ((8, 3), (0, (-1), 255, some ((9, 3), 0), [], []))], 121, [((-1), (0, 4))]),
  (57, [(0, (2, 3, 0, none, [], [])), (1, (0, 0, 639, some ((0, 101), 0), [], [])), (2, (0, 1, 2147483647, some ((0, 102), 0), [], [])), (3, (0, 1, 1, some ((0, 3), 0), [], [])), (4, (0, 0, 121, some ((0, 4), 0), [], []))], [], [((3, 6), (0, 5, 5, some ((4, 6), 0), [], [])), ((8, 3), (0, (-1), 255, some ((9, 3), 0), [], []))], 121, [((-1), (0, 4))])]
theorem as_m_X4_readQuota_f3_6_4_4 : a_spec a_tb aC_m_X4_readQuota_f3_6_4_4 := a_meth (Sp := [aC_m_X4_fail, aC_m_X4_countOne, aC_m_X4_takeWord_s6, aC_m_X4_takeOpening_f3_6_4_4, aC_m_X3_add, aC_m_X4_readItem_f3_6_5_5, aC_m_X4_takeSign]) (hd := aH_m_X4_readQuota_f3_6_4_4) (mi := xmi_X4_readQuota) 35 rfl (a_sp_c as_m_X4_fail (a_sp_c as_m_X4_countOne (a_sp_c as_m_X4_takeWord_s6 (a_sp_c as_m_X4_takeOpening_f3_6_4_4 (a_sp_c as_m_X3_add (a_sp_c as_m_X4_readItem_f3_6_5_5 (a_sp_c as_m_X4_takeSign a_sp_n))))))) (by decide +kernel) (by decide +kernel)
/-- X4_readRule@f3.6:5:5 -/
def aC_m_X4_readRule_f3_6_5_5 : aC := (xi_X4_readRule, 31, [(2, 3, 0, none, [], [])], [(some (0, 1, 1, none, [], []), [((3, 6), 5, 5)]), (some (0, 0, 0, none, [], []), [((3, 6), 4, 5)])], [(3, 5), (3, 6), (3, 8), (3, 9), (4, 3), (5, 0), (6, 0), (8, 2), (8, 3), (8, 4), (8, 5), (8, 6)], [((3, 6), 5, 5)])
def aH_m_X4_readRule_f3_6_5_5 : List aH := [(0, [(0, (2, 3, 0, none, [], []))], [], [((3, 6), (0, 5, 5, some ((4, 6), 0), [], []))], 122, []),
  (7, [(0, (2, 3, 0, none, [], [])), (1, (0, 0, 0, some ((0, 1), 0), [], [])), (2, (0, 0, 121, some ((0, 2), 0), [], []))], [], [((3, 6), (0, 4, 5, some ((4, 6), 0), [], []))], 121, [((-1), (0, 2))]),
  (7, [(0, (2, 3, 0, none, [], [])), (1, (0, 1, 1, some ((0, 1), 0), [], [])), (2, (0, 0, 121, some ((0, 2), 0), [], []))], [], [((3, 6), (0, 5, 5, some ((4, 6), 0), [], []))], 121, [((-1), (0, 2))])]
theorem as_m_X4_readRule_f3_6_5_5 : a_spec a_tb aC_m_X4_readRule_f3_6_5_5 := a_meth (Sp := [aC_m_X4_readAll_f3_6_5_5, aC_m_X6_isWord_s5, aC_m_X6_advance, aC_m_X3_add]) (hd := aH_m_X4_readRule_f3_6_5_5) (mi := xmi_X4_readRule) 29 rfl (a_sp_c as_m_X4_readAll_f3_6_5_5 (a_sp_c as_m_X6_isWord_s5 (a_sp_c as_m_X6_advance (a_sp_c as_m_X3_add a_sp_n)))) (by decide +kernel) (by decide +kernel)
/-- X4_readOne@f3.6:4:4 -/
def aC_m_X4_readOne_f3_6_4_4 : aC := (xi_X4_readOne, 32, [(2, 3, 0, none, [], [])], [(some (0, 1, 1, none, [], []), [((3, 6), 4, 4)]), (some (0, 0, 0, none, [], []), [((3, 6), 3, 4)])], [(3, 5), (3, 6), (3, 8), (3, 9), (4, 3), (5, 0), (6, 0), (8, 2), (8, 3), (8, 4), (8, 5), (8, 6)], [((3, 6), 4, 4)])
def aH_m_X4_readOne_f3_6_4_4 : List aH := [(0, [(0, (2, 3, 0, none, [], []))], [], [((3, 6), (0, 4, 4, some ((4, 6), 0), [], [])), ((8, 3), (0, (-1), 255, some ((9, 3), 0), [], [])), ((8, 4), (0, 0, 639, some ((9, 4), 0), [], [])), ((8, 6), (0, (-2147483648), 2147483647, some ((9, 6), 0), [], []))], 0, [])]
theorem as_m_X4_readOne_f3_6_4_4 : a_spec a_tb aC_m_X4_readOne_f3_6_4_4 := a_meth (Sp := [aC_m_X6_advance, aC_m_X4_readQuota_f3_6_4_4, aC_m_X4_countOne, aC_m_X4_takeOpening_f3_6_4_4, aC_m_X4_readRule_f3_6_5_5, aC_m_X4_takeSign, aC_m_X6_isLone, aC_m_X4_noteMember, aC_m_X4_noteName]) (hd := aH_m_X4_readOne_f3_6_4_4) (mi := xmi_X4_readOne) 45 rfl (a_sp_c as_m_X6_advance (a_sp_c as_m_X4_readQuota_f3_6_4_4 (a_sp_c as_m_X4_countOne (a_sp_c as_m_X4_takeOpening_f3_6_4_4 (a_sp_c as_m_X4_readRule_f3_6_5_5 (a_sp_c as_m_X4_takeSign (a_sp_c as_m_X6_isLone (a_sp_c as_m_X4_noteMember (a_sp_c as_m_X4_noteName a_sp_n))))))))) (by decide +kernel) (by decide +kernel)
/-- X4_readItem@f3.6:4:4 -/
def aC_m_X4_readItem_f3_6_4_4 : aC := (xi_X4_readItem, 33, [(2, 3, 0, none, [], [])], [(some (0, 1, 1, none, [], []), [((3, 6), 4, 4)]), (some (0, 0, 0, none, [], []), [((3, 6), 3, 4)])], [(3, 5), (3, 6), (3, 8), (3, 9), (4, 3), (5, 0), (6, 0), (8, 2), (8, 3), (8, 4), (8, 5), (8, 6)], [((3, 6), 4, 4)])
def aH_m_X4_readItem_f3_6_4_4 : List aH := [(0, [(0, (2, 3, 0, none, [], []))], [], [((3, 6), (0, 4, 4, some ((4, 6), 0), [], [])), ((8, 3), (0, (-1), 255, some ((9, 3), 0), [], [])), ((8, 4), (0, 0, 639, some ((9, 4), 0), [], [])), ((8, 6), (0, (-2147483648), 2147483647, some ((9, 6), 0), [], []))], 0, [])]
theorem as_m_X4_readItem_f3_6_4_4 : a_spec a_tb aC_m_X4_readItem_f3_6_4_4 := a_meth (Sp := [aC_m_X6_advance, aC_m_X4_readOne_f3_6_4_4, aC_m_X6_isWord_s6, aC_m_X4_readQuota_f3_6_4_4, aC_m_X4_fail, aC_m_X3_add]) (hd := aH_m_X4_readItem_f3_6_4_4) (mi := xmi_X4_readItem) 48 rfl (a_sp_c as_m_X6_advance (a_sp_c as_m_X4_readOne_f3_6_4_4 (a_sp_c as_m_X6_isWord_s6 (a_sp_c as_m_X4_readQuota_f3_6_4_4 (a_sp_c as_m_X4_fail (a_sp_c as_m_X3_add a_sp_n)))))) (by decide +kernel) (by decide +kernel)
/-- X4_readAll@f3.6:4:4 -/
def aC_m_X4_readAll_f3_6_4_4 : aC := (xi_X4_readAll, 33, [(2, 3, 0, none, [], [])], [(some (0, 1, 1, none, [], []), [((3, 6), 4, 4)]), (some (0, 0, 0, none, [], []), [((3, 6), 3, 4)])], [(3, 5), (3, 6), (3, 8), (3, 9), (4, 3), (5, 0), (6, 0), (8, 2), (8, 3), (8, 4), (8, 5), (8, 6)], [((3, 6), 4, 4)])
def aH_m_X4_readAll_f3_6_4_4 : List aH := [(0, [(0, (2, 3, 0, none, [], []))], [], [((3, 6), (0, 4, 4, some ((4, 6), 0), [], []))], 122, []),
  (7, [(0, (2, 3, 0, none, [], [])), (1, (0, 0, 0, some ((0, 1), 0), [], [])), (2, (0, 0, 121, some ((0, 2), 0), [], []))], [], [((3, 6), (0, 3, 4, some ((4, 6), 0), [], []))], 121, [((-1), (0, 2))]),
  (7, [(0, (2, 3, 0, none, [], [])), (1, (0, 1, 1, some ((0, 1), 0), [], [])), (2, (0, 0, 121, some ((0, 2), 0), [], []))], [], [((3, 6), (0, 4, 4, some ((4, 6), 0), [], []))], 121, [((-1), (0, 2))])]
theorem as_m_X4_readAll_f3_6_4_4 : a_spec a_tb aC_m_X4_readAll_f3_6_4_4 := a_meth (Sp := [aC_m_X4_readOne_f3_6_4_4, aC_m_X6_isWord_s4, aC_m_X6_advance, aC_m_X3_add]) (hd := aH_m_X4_readAll_f3_6_4_4) (mi := xmi_X4_readAll) 29 rfl (a_sp_c as_m_X4_readOne_f3_6_4_4 (a_sp_c as_m_X6_isWord_s4 (a_sp_c as_m_X6_advance (a_sp_c as_m_X3_add a_sp_n)))) (by decide +kernel) (by decide +kernel)
/-- X4_readQuota@f3.6:3:3 -/
def aC_m_X4_readQuota_f3_6_3_3 : aC := (xi_X4_readQuota, 34, [(2, 3, 0, none, [], []), (0, 0, 639, none, [], []), (0, (-2147483648), 2147483647, none, [], [])], [(some (0, 1, 1, none, [((0, 102), 1, 2147483647)], []), [((3, 6), 3, 3)]), (some (0, 0, 0, none, [], []), [((3, 6), 2, 3)])], [(3, 5), (3, 6), (3, 8), (3, 9), (4, 3), (5, 0), (6, 0), (8, 2), (8, 3), (8, 4), (8, 5), (8, 6)], [((3, 6), 3, 3)])
def aH_m_X4_readQuota_f3_6_3_3 : List aH := [(0, [(0, (2, 3, 0, none, [], [])), (1, (0, 0, 639, some ((0, 101), 0), [], [])), (2, (0, (-2147483648), 2147483647, some ((0, 102), 0), [], []))], [], [((3, 6), (0, 3, 3, some ((4, 6), 0), [], [])), ((8, 3), (0, (-1), 255, some ((9, 3), 0), [], []))], 122, []),
  (57, [(0, (2, 3, 0, none, [], [])), (1, (0, 0, 639, some ((0, 101), 0), [], [])), (2, (0, 1, 2147483647, some ((0, 102), 0), [], [])), (3, (0, 0, 0, some ((0, 3), 0), [], [])), (4, (0, 0, 121, some ((0, 4), 0), [], []))], [], [((3, 6), (0, 3, 4, some ((4, 6), 0), [], [])), ((8, 3), (0, (-1), 255, some ((9, 3), 0), [], []))], 121, [((-1), (0, 4))]),
  (57, [(0, (2, 3, 0, none, [], [])), (1, (0, 0, 639, some ((0, 101), 0), [], [])), (2, (0, 1, 2147483647, some ((0, 102), 0), [], [])), (3, (0, 1, 1, some ((0, 3), 0), [], [])), (4, (0, 0, 121, some ((0, 4), 0), [], []))], [], [((3, 6), (0, 4, 4, some ((4, 6), 0), [], [])), ((8, 3), (0, (-1), 255, some ((9, 3), 0), [], []))], 121, [((-1), (0, 4))])]
theorem as_m_X4_readQuota_f3_6_3_3 : a_spec a_tb aC_m_X4_readQuota_f3_6_3_3 := a_meth (Sp := [aC_m_X4_fail, aC_m_X4_countOne, aC_m_X4_takeWord_s6, aC_m_X4_takeOpening_f3_6_3_3, aC_m_X3_add, aC_m_X4_readItem_f3_6_4_4, aC_m_X4_takeSign]) (hd := aH_m_X4_readQuota_f3_6_3_3) (mi := xmi_X4_readQuota) 35 rfl (a_sp_c as_m_X4_fail (a_sp_c as_m_X4_countOne (a_sp_c as_m_X4_takeWord_s6 (a_sp_c as_m_X4_takeOpening_f3_6_3_3 (a_sp_c as_m_X3_add (a_sp_c as_m_X4_readItem_f3_6_4_4 (a_sp_c as_m_X4_takeSign a_sp_n))))))) (by decide +kernel) (by decide +kernel)
/-- X4_readRule@f3.6:4:4 -/
def aC_m_X4_readRule_f3_6_4_4 : aC := (xi_X4_readRule, 34, [(2, 3, 0, none, [], [])], [(some (0, 1, 1, none, [], []), [((3, 6), 4, 4)]), (some (0, 0, 0, none, [], []), [((3, 6), 3, 4)])], [(3, 5), (3, 6), (3, 8), (3, 9), (4, 3), (5, 0), (6, 0), (8, 2), (8, 3), (8, 4), (8, 5), (8, 6)], [((3, 6), 4, 4)])
def aH_m_X4_readRule_f3_6_4_4 : List aH := [(0, [(0, (2, 3, 0, none, [], []))], [], [((3, 6), (0, 4, 4, some ((4, 6), 0), [], []))], 122, []),
  (7, [(0, (2, 3, 0, none, [], [])), (1, (0, 0, 0, some ((0, 1), 0), [], [])), (2, (0, 0, 121, some ((0, 2), 0), [], []))], [], [((3, 6), (0, 3, 4, some ((4, 6), 0), [], []))], 121, [((-1), (0, 2))]),
  (7, [(0, (2, 3, 0, none, [], [])), (1, (0, 1, 1, some ((0, 1), 0), [], [])), (2, (0, 0, 121, some ((0, 2), 0), [], []))], [], [((3, 6), (0, 4, 4, some ((4, 6), 0), [], []))], 121, [((-1), (0, 2))])]
theorem as_m_X4_readRule_f3_6_4_4 : a_spec a_tb aC_m_X4_readRule_f3_6_4_4 := a_meth (Sp := [aC_m_X4_readAll_f3_6_4_4, aC_m_X6_isWord_s5, aC_m_X6_advance, aC_m_X3_add]) (hd := aH_m_X4_readRule_f3_6_4_4) (mi := xmi_X4_readRule) 29 rfl (a_sp_c as_m_X4_readAll_f3_6_4_4 (a_sp_c as_m_X6_isWord_s5 (a_sp_c as_m_X6_advance (a_sp_c as_m_X3_add a_sp_n)))) (by decide +kernel) (by decide +kernel)
/-- X4_readOne@f3.6:3:3 -/
def aC_m_X4_readOne_f3_6_3_3 : aC := (xi_X4_readOne, 35, [(2, 3, 0, none, [], [])], [(some (0, 1, 1, none, [], []), [((3, 6), 3, 3)]), (some (0, 0, 0, none, [], []), [((3, 6), 2, 3)])], [(3, 5), (3, 6), (3, 8), (3, 9), (4, 3), (5, 0), (6, 0), (8, 2), (8, 3), (8, 4), (8, 5), (8, 6)], [((3, 6), 3, 3)])
def aH_m_X4_readOne_f3_6_3_3 : List aH := [(0, [(0, (2, 3, 0, none, [], []))], [], [((3, 6), (0, 3, 3, some ((4, 6), 0), [], [])), ((8, 3), (0, (-1), 255, some ((9, 3), 0), [], [])), ((8, 4), (0, 0, 639, some ((9, 4), 0), [], [])), ((8, 6), (0, (-2147483648), 2147483647, some ((9, 6), 0), [], []))], 0, [])]
theorem as_m_X4_readOne_f3_6_3_3 : a_spec a_tb aC_m_X4_readOne_f3_6_3_3 := a_meth (Sp := [aC_m_X6_advance, aC_m_X4_readQuota_f3_6_3_3, aC_m_X4_countOne, aC_m_X4_takeOpening_f3_6_3_3, aC_m_X4_readRule_f3_6_4_4, aC_m_X4_takeSign, aC_m_X6_isLone, aC_m_X4_noteMember, aC_m_X4_noteName]) (hd := aH_m_X4_readOne_f3_6_3_3) (mi := xmi_X4_readOne) 45 rfl (a_sp_c as_m_X6_advance (a_sp_c as_m_X4_readQuota_f3_6_3_3 (a_sp_c as_m_X4_countOne (a_sp_c as_m_X4_takeOpening_f3_6_3_3 (a_sp_c as_m_X4_readRule_f3_6_4_4 (a_sp_c as_m_X4_takeSign (a_sp_c as_m_X6_isLone (a_sp_c as_m_X4_noteMember (a_sp_c as_m_X4_noteName a_sp_n))))))))) (by decide +kernel) (by decide +kernel)
/-- X4_readItem@f3.6:3:3 -/
def aC_m_X4_readItem_f3_6_3_3 : aC := (xi_X4_readItem, 36, [(2, 3, 0, none, [], [])], [(some (0, 1, 1, none, [], []), [((3, 6), 3, 3)]), (some (0, 0, 0, none, [], []), [((3, 6), 2, 3)])], [(3, 5), (3, 6), (3, 8), (3, 9), (4, 3), (5, 0), (6, 0), (8, 2), (8, 3), (8, 4), (8, 5), (8, 6)], [((3, 6), 3, 3)])
def aH_m_X4_readItem_f3_6_3_3 : List aH := [(0, [(0, (2, 3, 0, none, [], []))], [], [((3, 6), (0, 3, 3, some ((4, 6), 0), [], [])), ((8, 3), (0, (-1), 255, some ((9, 3), 0), [], [])), ((8, 4), (0, 0, 639, some ((9, 4), 0), [], [])), ((8, 6), (0, (-2147483648), 2147483647, some ((9, 6), 0), [], []))], 0, [])]
theorem as_m_X4_readItem_f3_6_3_3 : a_spec a_tb aC_m_X4_readItem_f3_6_3_3 := a_meth (Sp := [aC_m_X6_advance, aC_m_X4_readOne_f3_6_3_3, aC_m_X6_isWord_s6, aC_m_X4_readQuota_f3_6_3_3, aC_m_X4_fail, aC_m_X3_add]) (hd := aH_m_X4_readItem_f3_6_3_3) (mi := xmi_X4_readItem) 48 rfl (a_sp_c as_m_X6_advance (a_sp_c as_m_X4_readOne_f3_6_3_3 (a_sp_c as_m_X6_isWord_s6 (a_sp_c as_m_X4_readQuota_f3_6_3_3 (a_sp_c as_m_X4_fail (a_sp_c as_m_X3_add a_sp_n)))))) (by decide +kernel) (by decide +kernel)
end XB1
end
section
section XB1
/-- X4_readAll@f3.6:3:3 -/
def aC_m_X4_readAll_f3_6_3_3 : aC := (xi_X4_readAll, 36, [(2, 3, 0, none, [], [])], [(some (0, 1, 1, none, [], []), [((3, 6), 3, 3)]), (some (0, 0, 0, none, [], []), [((3, 6), 2, 3)])], [(3, 5), (3, 6), (3, 8), (3, 9), (4, 3), (5, 0), (6, 0), (8, 2), (8, 3), (8, 4), (8, 5), (8, 6)], [((3, 6), 3, 3)])
def aH_m_X4_readAll_f3_6_3_3 : List aH := [(0, [(0, (2, 3, 0, none, [], []))], [], [((3, 6), (0, 3, 3, some ((4, 6), 0), [], []))], 122, []),
  (7, [(0, (2, 3, 0, none, [], [])), (1, (0, 0, 0, some ((0, 1), 0), [], [])), (2, (0, 0, 121, some ((0, 2), 0), [], []))], [], [((3, 6), (0, 2, 3, some ((4, 6), 0), [], []))], 121, [((-1), (0, 2))]),
  (7, [(0, (2, 3, 0, none, [], [])), (1, (0, 1, 1, some ((0, 1), 0), [], [])), (2, (0, 0, 121, some ((0, 2), 0), [], []))], [], [((3, 6), (0, 3, 3, some ((4, 6), 0), [], []))], 121, [((-1), (0, 2))])]
theorem as_m_X4_readAll_f3_6_3_3 : a_spec a_tb aC_m_X4_readAll_f3_6_3_3 := a_meth (Sp := [aC_m_X4_readOne_f3_6_3_3, aC_m_X6_isWord_s4, aC_m_X6_advance, aC_m_X3_add]) (hd := aH_m_X4_readAll_f3_6_3_3) (mi := xmi_X4_readAll) 29 rfl (a_sp_c as_m_X4_readOne_f3_6_3_3 (a_sp_c as_m_X6_isWord_s4 (a_sp_c as_m_X6_advance (a_sp_c as_m_X3_add a_sp_n)))) (by decide +kernel) (by decide +kernel)
/-- X4_readQuota@f3.6:2:2 -/
def aC_m_X4_readQuota_f3_6_2_2 : aC := (xi_X4_readQuota, 37, [(2, 3, 0, none, [], []), (0, 0, 639, none, [], []), (0, (-2147483648), 2147483647, none, [], [])], [(some (0, 1, 1, none, [((0, 102), 1, 2147483647)], []), [((3, 6), 2, 2)]), (some (0, 0, 0, none, [], []), [((3, 6), 1, 2)])], [(3, 5), (3, 6), (3, 8), (3, 9), (4, 3), (5, 0), (6, 0), (8, 2), (8, 3), (8, 4), (8, 5), (8, 6)], [((3, 6), 2, 2)])
def aH_m_X4_readQuota_f3_6_2_2 : List aH := [(0, [(0, (2, 3, 0, none, [], [])), (1, (0, 0, 639, some ((0, 101), 0), [], [])), (2, (0, (-2147483648), 2147483647, some ((0, 102), 0), [], []))], [], [((3, 6), (0, 2, 2, some ((4, 6), 0), [], [])), ((8, 3), (0, (-1), 255, some ((9, 3), 0), [], []))], 122, []),
  (57, [(0, (2, 3, 0, none, [], [])), (1, (0, 0, 639, some ((0, 101), 0), [], [])), (2, (0, 1, 2147483647, some ((0, 102), 0), [], [])), (3, (0, 0, 0, some ((0, 3), 0), [], [])), (4, (0, 0, 121, some ((0, 4), 0), [], []))], [], [((3, 6), (0, 2, 3, some ((4, 6), 0), [], [])), ((8, 3), (0, (-1), 255, some ((9, 3), 0), [], []))], 121, [((-1), (0, 4))]),
  (57, [(0, (2, 3, 0, none, [], [])), (1, (0, 0, 639, some ((0, 101), 0), [], [])), (2, (0, 1, 2147483647, some ((0, 102), 0), [], [])), (3, (0, 1, 1, some ((0, 3), 0), [], [])), (4, (0, 0, 121, some ((0, 4), 0), [], []))], [], [((3, 6), (0, 3, 3, some ((4, 6), 0), [], [])), ((8, 3), (0, (-1), 255, some ((9, 3), 0), [], []))], 121, [((-1), (0, 4))])]
theorem as_m_X4_readQuota_f3_6_2_2 : a_spec a_tb aC_m_X4_readQuota_f3_6_2_2 := a_meth (Sp := [aC_m_X4_fail, aC_m_X4_countOne, aC_m_X4_takeWord_s6, aC_m_X4_takeOpening_f3_6_2_2, aC_m_X3_add, aC_m_X4_readItem_f3_6_3_3, aC_m_X4_takeSign]) (hd := aH_m_X4_readQuota_f3_6_2_2) (mi := xmi_X4_readQuota) 35 rfl (a_sp_c as_m_X4_fail (a_sp_c as_m_X4_countOne (a_sp_c as_m_X4_takeWord_s6 (a_sp_c as_m_X4_takeOpening_f3_6_2_2 (a_sp_c as_m_X3_add (a_sp_c as_m_X4_readItem_f3_6_3_3 (a_sp_c as_m_X4_takeSign a_sp_n))))))) (by decide +kernel) (by decide +kernel)
/-- X4_readRule@f3.6:3:3 -/
def aC_m_X4_readRule_f3_6_3_3 : aC := (xi_X4_readRule, 37, [(2, 3, 0, none, [], [])], [(some (0, 1, 1, none, [], []), [((3, 6), 3, 3)]), (some (0, 0, 0, none, [], []), [((3, 6), 2, 3)])], [(3, 5), (3, 6), (3, 8), (3, 9), (4, 3), (5, 0), (6, 0), (8, 2), (8, 3), (8, 4), (8, 5), (8, 6)], [((3, 6), 3, 3)])
def aH_m_X4_readRule_f3_6_3_3 : List aH := [(0, [(0, (2, 3, 0, none, [], []))], [], [((3, 6), (0, 3, 3, some ((4, 6), 0), [], []))], 122, []),
  (7, [(0, (2, 3, 0, none, [], [])), (1, (0, 0, 0, some ((0, 1), 0), [], [])), (2, (0, 0, 121, some ((0, 2), 0), [], []))], [], [((3, 6), (0, 2, 3, some ((4, 6), 0), [], []))], 121, [((-1), (0, 2))]),
  (7, [(0, (2, 3, 0, none, [], [])), (1, (0, 1, 1, some ((0, 1), 0), [], [])), (2, (0, 0, 121, some ((0, 2), 0), [], []))], [], [((3, 6), (0, 3, 3, some ((4, 6), 0), [], []))], 121, [((-1), (0, 2))])]
theorem as_m_X4_readRule_f3_6_3_3 : a_spec a_tb aC_m_X4_readRule_f3_6_3_3 := a_meth (Sp := [aC_m_X4_readAll_f3_6_3_3, aC_m_X6_isWord_s5, aC_m_X6_advance, aC_m_X3_add]) (hd := aH_m_X4_readRule_f3_6_3_3) (mi := xmi_X4_readRule) 29 rfl (a_sp_c as_m_X4_readAll_f3_6_3_3 (a_sp_c as_m_X6_isWord_s5 (a_sp_c as_m_X6_advance (a_sp_c as_m_X3_add a_sp_n)))) (by decide +kernel) (by decide +kernel)
/-- X4_readOne@f3.6:2:2 -/
def aC_m_X4_readOne_f3_6_2_2 : aC := (xi_X4_readOne, 38, [(2, 3, 0, none, [], [])], [(some (0, 1, 1, none, [], []), [((3, 6), 2, 2)]), (some (0, 0, 0, none, [], []), [((3, 6), 1, 2)])], [(3, 5), (3, 6), (3, 8), (3, 9), (4, 3), (5, 0), (6, 0), (8, 2), (8, 3), (8, 4), (8, 5), (8, 6)], [((3, 6), 2, 2)])
def aH_m_X4_readOne_f3_6_2_2 : List aH := [(0, [(0, (2, 3, 0, none, [], []))], [], [((3, 6), (0, 2, 2, some ((4, 6), 0), [], [])), ((8, 3), (0, (-1), 255, some ((9, 3), 0), [], [])), ((8, 4), (0, 0, 639, some ((9, 4), 0), [], [])), ((8, 6), (0, (-2147483648), 2147483647, some ((9, 6), 0), [], []))], 0, [])]
theorem as_m_X4_readOne_f3_6_2_2 : a_spec a_tb aC_m_X4_readOne_f3_6_2_2 := a_meth (Sp := [aC_m_X6_advance, aC_m_X4_readQuota_f3_6_2_2, aC_m_X4_countOne, aC_m_X4_takeOpening_f3_6_2_2, aC_m_X4_readRule_f3_6_3_3, aC_m_X4_takeSign, aC_m_X6_isLone, aC_m_X4_noteMember, aC_m_X4_noteName]) (hd := aH_m_X4_readOne_f3_6_2_2) (mi := xmi_X4_readOne) 45 rfl (a_sp_c as_m_X6_advance (a_sp_c as_m_X4_readQuota_f3_6_2_2 (a_sp_c as_m_X4_countOne (a_sp_c as_m_X4_takeOpening_f3_6_2_2 (a_sp_c as_m_X4_readRule_f3_6_3_3 (a_sp_c as_m_X4_takeSign (a_sp_c as_m_X6_isLone (a_sp_c as_m_X4_noteMember (a_sp_c as_m_X4_noteName a_sp_n))))))))) (by decide +kernel) (by decide +kernel)
/-- X4_readItem@f3.6:2:2 -/
def aC_m_X4_readItem_f3_6_2_2 : aC := (xi_X4_readItem, 39, [(2, 3, 0, none, [], [])], [(some (0, 1, 1, none, [], []), [((3, 6), 2, 2)]), (some (0, 0, 0, none, [], []), [((3, 6), 1, 2)])], [(3, 5), (3, 6), (3, 8), (3, 9), (4, 3), (5, 0), (6, 0), (8, 2), (8, 3), (8, 4), (8, 5), (8, 6)], [((3, 6), 2, 2)])
def aH_m_X4_readItem_f3_6_2_2 : List aH := [(0, [(0, (2, 3, 0, none, [], []))], [], [((3, 6), (0, 2, 2, some ((4, 6), 0), [], [])), ((8, 3), (0, (-1), 255, some ((9, 3), 0), [], [])), ((8, 4), (0, 0, 639, some ((9, 4), 0), [], [])), ((8, 6), (0, (-2147483648), 2147483647, some ((9, 6), 0), [], []))], 0, [])]
theorem as_m_X4_readItem_f3_6_2_2 : a_spec a_tb aC_m_X4_readItem_f3_6_2_2 := a_meth (Sp := [aC_m_X6_advance, aC_m_X4_readOne_f3_6_2_2, aC_m_X6_isWord_s6, aC_m_X4_readQuota_f3_6_2_2, aC_m_X4_fail, aC_m_X3_add]) (hd := aH_m_X4_readItem_f3_6_2_2) (mi := xmi_X4_readItem) 48 rfl (a_sp_c as_m_X6_advance (a_sp_c as_m_X4_readOne_f3_6_2_2 (a_sp_c as_m_X6_isWord_s6 (a_sp_c as_m_X4_readQuota_f3_6_2_2 (a_sp_c as_m_X4_fail (a_sp_c as_m_X3_add a_sp_n)))))) (by decide +kernel) (by decide +kernel)
/-- X4_readAll@f3.6:2:2 -/
def aC_m_X4_readAll_f3_6_2_2 : aC := (xi_X4_readAll, 39, [(2, 3, 0, none, [], [])], [(some (0, 1, 1, none, [], []), [((3, 6), 2, 2)]), (some (0, 0, 0, none, [], []), [((3, 6), 1, 2)])], [(3, 5), (3, 6), (3, 8), (3, 9), (4, 3), (5, 0), (6, 0), (8, 2), (8, 3), (8, 4), (8, 5), (8, 6)], [((3, 6), 2, 2)])
def aH_m_X4_readAll_f3_6_2_2 : List aH := [(0, [(0, (2, 3, 0, none, [], []))], [], [((3, 6), (0, 2, 2, some ((4, 6), 0), [], []))], 122, []),
  (7, [(0, (2, 3, 0, none, [], [])), (1, (0, 0, 0, some ((0, 1), 0), [], [])), (2, (0, 0, 121, some ((0, 2), 0), [], []))], [], [((3, 6), (0, 1, 2, some ((4, 6), 0), [], []))], 121, [((-1), (0, 2))]),
  (7, [(0, (2, 3, 0, none, [], [])), (1, (0, 1, 1, some ((0, 1), 0), [], [])), (2, (0, 0, 121, some ((0, 2), 0), [], []))], [], [((3, 6), (0, 2, 2, some ((4, 6), 0), [], []))], 121, [((-1), (0, 2))])]
theorem as_m_X4_readAll_f3_6_2_2 : a_spec a_tb aC_m_X4_readAll_f3_6_2_2 := a_meth (Sp := [aC_m_X4_readOne_f3_6_2_2, aC_m_X6_isWord_s4, aC_m_X6_advance, aC_m_X3_add]) (hd := aH_m_X4_readAll_f3_6_2_2) (mi := xmi_X4_readAll) 29 rfl (a_sp_c as_m_X4_readOne_f3_6_2_2 (a_sp_c as_m_X6_isWord_s4 (a_sp_c as_m_X6_advance (a_sp_c as_m_X3_add a_sp_n)))) (by decide +kernel) (by decide +kernel)
/-- X4_readQuota@f3.6:1:1 -/
def aC_m_X4_readQuota_f3_6_1_1 : aC := (xi_X4_readQuota, 40, [(2, 3, 0, none, [], []), (0, 0, 639, none, [], []), (0, (-2147483648), 2147483647, none, [], [])], [(some (0, 1, 1, none, [((0, 102), 1, 2147483647)], []), [((3, 6), 1, 1)]), (some (0, 0, 0, none, [], []), [((3, 6), 0, 1)])], [(3, 5), (3, 6), (3, 8), (3, 9), (4, 3), (5, 0), (6, 0), (8, 2), (8, 3), (8, 4), (8, 5), (8, 6)], [((3, 6), 1, 1)])
def aH_m_X4_readQuota_f3_6_1_1 : List aH := [(0, [(0, (2, 3, 0, none, [], [])), (1, (0, 0, 639, some ((0, 101), 0), [], [])), (2, (0, (-2147483648), 2147483647, some ((0, 102), 0), [], []))], [], [((3, 6), (0, 1, 1, some ((4, 6), 0), [], [])), ((8, 3), (0, (-1), 255, some ((9, 3), 0), [], []))], 122, []),
  (57, [(0, (2, 3, 0, none, [], [])), (1, (0, 0, 639, some ((0, 101), 0), [], [])), (2, (0, 1, 2147483647, some ((0, 102), 0), [], [])), (3, (0, 0, 0, some ((0, 3), 0), [], [])), (4, (0, 0, 121, some ((0, 4), 0), [], []))], [], [((3, 6), (0, 1, 2, some ((4, 6), 0), [], [])), ((8, 3), (0, (-1), 255, some ((9, 3), 0), [], []))], 121, [((-1), (0, 4))]),
  (57, [(0, (2, 3, 0, none, [], [])), (1, (0, 0, 639, some ((0, 101), 0), [], [])), (2, (0, 1, 2147483647, some ((0, 102), 0), [], [])), (3, (0, 1, 1, some ((0, 3), 0), [], [])), (4, (0, 0, 121, some ((0, 4), 0), [], []))], [], [((3, 6), (0, 2, 2, some ((4, 6), 0), [], [])), ((8, 3), (0, (-1), 255, some ((9, 3), 0), [], []))], 121, [((-1), (0, 4))])]
theorem as_m_X4_readQuota_f3_6_1_1 : a_spec a_tb aC_m_X4_readQuota_f3_6_1_1 := a_meth (Sp := [aC_m_X4_fail, aC_m_X4_countOne, aC_m_X4_takeWord_s6, aC_m_X4_takeOpening_f3_6_1_1, aC_m_X3_add, aC_m_X4_readItem_f3_6_2_2, aC_m_X4_takeSign]) (hd := aH_m_X4_readQuota_f3_6_1_1) (mi := xmi_X4_readQuota) 35 rfl (a_sp_c as_m_X4_fail (a_sp_c as_m_X4_countOne (a_sp_c as_m_X4_takeWord_s6 (a_sp_c as_m_X4_takeOpening_f3_6_1_1 (a_sp_c as_m_X3_add (a_sp_c as_m_X4_readItem_f3_6_2_2 (a_sp_c as_m_X4_takeSign a_sp_n))))))) (by decide +kernel) (by decide +kernel)
/-- X4_readRule@f3.6:2:2 -/
def aC_m_X4_readRule_f3_6_2_2 : aC := (xi_X4_readRule, 40, [(2, 3, 0, none, [], [])], [(some (0, 1, 1, none, [], []), [((3, 6), 2, 2)]), (some (0, 0, 0, none, [], []), [((3, 6), 1, 2)])], [(3, 5), (3, 6), (3, 8), (3, 9), (4, 3), (5, 0), (6, 0), (8, 2), (8, 3), (8, 4), (8, 5), (8, 6)], [((3, 6), 2, 2)])
def aH_m_X4_readRule_f3_6_2_2 : List aH := [(0, [(0, (2, 3, 0, none, [], []))], [], [((3, 6), (0, 2, 2, some ((4, 6), 0), [], []))], 122, []),
  (7, [(0, (2, 3, 0, none, [], [])), (1, (0, 0, 0, some ((0, 1), 0), [], [])), (2, (0, 0, 121, some ((0, 2), 0), [], []))], [], [((3, 6), (0, 1, 2, some ((4, 6), 0), [], []))], 121, [((-1), (0, 2))]),
  (7, [(0, (2, 3, 0, none, [], [])), (1, (0, 1, 1, some ((0, 1), 0), [], [])), (2, (0, 0, 121, some ((0, 2), 0), [], []))], [], [((3, 6), (0, 2, 2, some ((4, 6), 0), [], []))], 121, [((-1), (0, 2))])]
theorem as_m_X4_readRule_f3_6_2_2 : a_spec a_tb aC_m_X4_readRule_f3_6_2_2 := a_meth (Sp := [aC_m_X4_readAll_f3_6_2_2, aC_m_X6_isWord_s5, aC_m_X6_advance, aC_m_X3_add]) (hd := aH_m_X4_readRule_f3_6_2_2) (mi := xmi_X4_readRule) 29 rfl (a_sp_c as_m_X4_readAll_f3_6_2_2 (a_sp_c as_m_X6_isWord_s5 (a_sp_c as_m_X6_advance (a_sp_c as_m_X3_add a_sp_n)))) (by decide +kernel) (by decide +kernel)
/-- X4_readOne@f3.6:1:1 -/
def aC_m_X4_readOne_f3_6_1_1 : aC := (xi_X4_readOne, 41, [(2, 3, 0, none, [], [])], [(some (0, 1, 1, none, [], []), [((3, 6), 1, 1)]), (some (0, 0, 0, none, [], []), [((3, 6), 0, 1)])], [(3, 5), (3, 6), (3, 8), (3, 9), (4, 3), (5, 0), (6, 0), (8, 2), (8, 3), (8, 4), (8, 5), (8, 6)], [((3, 6), 1, 1)])
def aH_m_X4_readOne_f3_6_1_1 : List aH := [(0, [(0, (2, 3, 0, none, [], []))], [], [((3, 6), (0, 1, 1, some ((4, 6), 0), [], [])), ((8, 3), (0, (-1), 255, some ((9, 3), 0), [], [])), ((8, 4), (0, 0, 639, some ((9, 4), 0), [], [])), ((8, 6), (0, (-2147483648), 2147483647, some ((9, 6), 0), [], []))], 0, [])]
theorem as_m_X4_readOne_f3_6_1_1 : a_spec a_tb aC_m_X4_readOne_f3_6_1_1 := a_meth (Sp := [aC_m_X6_advance, aC_m_X4_readQuota_f3_6_1_1, aC_m_X4_countOne, aC_m_X4_takeOpening_f3_6_1_1, aC_m_X4_readRule_f3_6_2_2, aC_m_X4_takeSign, aC_m_X6_isLone, aC_m_X4_noteMember, aC_m_X4_noteName]) (hd := aH_m_X4_readOne_f3_6_1_1) (mi := xmi_X4_readOne) 45 rfl (a_sp_c as_m_X6_advance (a_sp_c as_m_X4_readQuota_f3_6_1_1 (a_sp_c as_m_X4_countOne (a_sp_c as_m_X4_takeOpening_f3_6_1_1 (a_sp_c as_m_X4_readRule_f3_6_2_2 (a_sp_c as_m_X4_takeSign (a_sp_c as_m_X6_isLone (a_sp_c as_m_X4_noteMember (a_sp_c as_m_X4_noteName a_sp_n))))))))) (by decide +kernel) (by decide +kernel)
/-- X4_readItem@f3.6:1:1 -/
def aC_m_X4_readItem_f3_6_1_1 : aC := (xi_X4_readItem, 42, [(2, 3, 0, none, [], [])], [(some (0, 1, 1, none, [], []), [((3, 6), 1, 1)]), (some (0, 0, 0, none, [], []), [((3, 6), 0, 1)])], [(3, 5), (3, 6), (3, 8), (3, 9), (4, 3), (5, 0), (6, 0), (8, 2), (8, 3), (8, 4), (8, 5), (8, 6)], [((3, 6), 1, 1)])
def aH_m_X4_readItem_f3_6_1_1 : List aH := [(0, [(0, (2, 3, 0, none, [], []))], [], [((3, 6), (0, 1, 1, some ((4, 6), 0), [], [])), ((8, 3), (0, (-1), 255, some ((9, 3), 0), [], [])), ((8, 4), (0, 0, 639, some ((9, 4), 0), [], [])), ((8, 6), (0, (-2147483648), 2147483647, some ((9, 6), 0), [], []))], 0, [])]
theorem as_m_X4_readItem_f3_6_1_1 : a_spec a_tb aC_m_X4_readItem_f3_6_1_1 := a_meth (Sp := [aC_m_X6_advance, aC_m_X4_readOne_f3_6_1_1, aC_m_X6_isWord_s6, aC_m_X4_readQuota_f3_6_1_1, aC_m_X4_fail, aC_m_X3_add]) (hd := aH_m_X4_readItem_f3_6_1_1) (mi := xmi_X4_readItem) 48 rfl (a_sp_c as_m_X6_advance (a_sp_c as_m_X4_readOne_f3_6_1_1 (a_sp_c as_m_X6_isWord_s6 (a_sp_c as_m_X4_readQuota_f3_6_1_1 (a_sp_c as_m_X4_fail (a_sp_c as_m_X3_add a_sp_n)))))) (by decide +kernel) (by decide +kernel)
/-- X4_readQuota@f3.6:0:0 -/
def aC_m_X4_readQuota_f3_6_0_0 : aC := (xi_X4_readQuota, 43, [(2, 3, 0, none, [], []), (0, 0, 639, none, [], []), (0, (-2147483648), 2147483647, none, [], [])], [(some (0, 1, 1, none, [((0, 102), 1, 2147483647)], []), [((3, 6), 0, 0)]), (some (0, 0, 0, none, [], []), [((3, 6), (-1), 0)])], [(3, 5), (3, 6), (3, 8), (3, 9), (4, 3), (5, 0), (6, 0), (8, 2), (8, 3), (8, 4), (8, 5), (8, 6)], [((3, 6), 0, 0)])
def aH_m_X4_readQuota_f3_6_0_0 : List aH := [(0, [(0, (2, 3, 0, none, [], [])), (1, (0, 0, 639, some ((0, 101), 0), [], [])), (2, (0, (-2147483648), 2147483647, some ((0, 102), 0), [], []))], [], [((3, 6), (0, 0, 0, some ((4, 6), 0), [], [])), ((8, 3), (0, (-1), 255, some ((9, 3), 0), [], []))], 122, []),
  (57, [(0, (2, 3, 0, none, [], [])), (1, (0, 0, 639, some ((0, 101), 0), [], [])), (2, (0, 1, 2147483647, some ((0, 102), 0), [], [])), (3, (0, 0, 0, some ((0, 3), 0), [], [])), (4, (0, 0, 121, some ((0, 4), 0), [], []))], [], [((3, 6), (0, 0, 1, some ((4, 6), 0), [], [])), ((8, 3), (0, (-1), 255, some ((9, 3), 0), [], []))], 121, [((-1), (0, 4))]),
  (57, [(0, (2, 3, 0, none, [], [])), (1, (0, 0, 639, some ((0, 101), 0), [], [])), (2, (0, 1, 2147483647, some ((0, 102), 0), [], [])), (3, (0, 1, 1, some ((0, 3), 0), [], [])), (4, (0, 0, 121, some ((0, 4), 0), [], []))], [], [((3, 6), (0, 1, 1, some ((4, 6), 0), [], [])), ((8, 3), (0, (-1), 255, some ((9, 3), 0), [], []))], 121, [((-1), (0, 4))])]
theorem as_m_X4_readQuota_f3_6_0_0 : a_spec a_tb aC_m_X4_readQuota_f3_6_0_0 := a_meth (Sp := [aC_m_X4_fail, aC_m_X4_countOne, aC_m_X4_takeWord_s6, aC_m_X4_takeOpening_f3_6_0_0, aC_m_X3_add, aC_m_X4_readItem_f3_6_1_1, aC_m_X4_takeSign]) (hd := aH_m_X4_readQuota_f3_6_0_0) (mi := xmi_X4_readQuota) 35 rfl (a_sp_c as_m_X4_fail (a_sp_c as_m_X4_countOne (a_sp_c as_m_X4_takeWord_s6 (a_sp_c as_m_X4_takeOpening_f3_6_0_0 (a_sp_c as_m_X3_add (a_sp_c as_m_X4_readItem_f3_6_1_1 (a_sp_c as_m_X4_takeSign a_sp_n))))))) (by decide +kernel) (by decide +kernel)
/-- X4_readAll@f3.6:1:1 -/
def aC_m_X4_readAll_f3_6_1_1 : aC := (xi_X4_readAll, 42, [(2, 3, 0, none, [], [])], [(some (0, 1, 1, none, [], []), [((3, 6), 1, 1)]), (some (0, 0, 0, none, [], []), [((3, 6), 0, 1)])], [(3, 5), (3, 6), (3, 8), (3, 9), (4, 3), (5, 0), (6, 0), (8, 2), (8, 3), (8, 4), (8, 5), (8, 6)], [((3, 6), 1, 1)])
def aH_m_X4_readAll_f3_6_1_1 : List aH := [(0, [(0, (2, 3, 0, none, [], []))], [], [((3, 6), (0, 1, 1, some ((4, 6), 0), [], []))], 122, []),
  (7, [(0, (2, 3, 0, none, [], [])), (1, (0, 0, 0, some ((0, 1), 0), [], [])), (2, (0, 0, 121, some ((0, 2), 0), [], []))], [], [((3, 6), (0, 0, 1, some ((4, 6), 0), [], []))], 121, [((-1), (0, 2))]),
  (7, [(0, (2, 3, 0, none, [], [])), (1, (0, 1, 1, some ((0, 1), 0), [], [])), (2, (0, 0, 121, some ((0, 2), 0), [], []))], [], [((3, 6), (0, 1, 1, some ((4, 6), 0), [], []))], 121, [((-1), (0, 2))])]
theorem as_m_X4_readAll_f3_6_1_1 : a_spec a_tb aC_m_X4_readAll_f3_6_1_1 := a_meth (Sp := [aC_m_X4_readOne_f3_6_1_1, aC_m_X6_isWord_s4, aC_m_X6_advance, aC_m_X3_add]) (hd := aH_m_X4_readAll_f3_6_1_1) (mi := xmi_X4_readAll) 29 rfl (a_sp_c as_m_X4_readOne_f3_6_1_1 (a_sp_c as_m_X6_isWord_s4 (a_sp_c as_m_X6_advance (a_sp_c as_m_X3_add a_sp_n)))) (by decide +kernel) (by decide +kernel)
/-- X4_readRule@f3.6:1:1 -/
def aC_m_X4_readRule_f3_6_1_1 : aC := (xi_X4_readRule, 43, [(2, 3, 0, none, [], [])], [(some (0, 1, 1, none, [], []), [((3, 6), 1, 1)]), (some (0, 0, 0, none, [], []), [((3, 6), 0, 1)])], [(3, 5), (3, 6), (3, 8), (3, 9), (4, 3), (5, 0), (6, 0), (8, 2), (8, 3), (8, 4), (8, 5), (8, 6)], [((3, 6), 1, 1)])
def aH_m_X4_readRule_f3_6_1_1 : List aH := [(0, [(0, (2, 3, 0, none, [], []))], [], [((3, 6), (0, 1, 1, some ((4, 6), 0), [], []))], 122, []),
  (7, [(0, (2, 3, 0, none, [], [])), (1, (0, 0, 0, some ((0, 1), 0), [], [])), (2, (0, 0, 121, some ((0, 2), 0), [], []))], [], [((3, 6), (0, 0, 1, some ((4, 6), 0), [], []))], 121, [((-1), (0, 2))]),
  (7, [(0, (2, 3, 0, none, [], [])), (1, (0, 1, 1, some ((0, 1), 0), [], [])), (2, (0, 0, 121, some ((0, 2), 0), [], []))], [], [((3, 6), (0, 1, 1, some ((4, 6), 0), [], []))], 121, [((-1), (0, 2))])]
theorem as_m_X4_readRule_f3_6_1_1 : a_spec a_tb aC_m_X4_readRule_f3_6_1_1 := a_meth (Sp := [aC_m_X4_readAll_f3_6_1_1, aC_m_X6_isWord_s5, aC_m_X6_advance, aC_m_X3_add]) (hd := aH_m_X4_readRule_f3_6_1_1) (mi := xmi_X4_readRule) 29 rfl (a_sp_c as_m_X4_readAll_f3_6_1_1 (a_sp_c as_m_X6_isWord_s5 (a_sp_c as_m_X6_advance (a_sp_c as_m_X3_add a_sp_n)))) (by decide +kernel) (by decide +kernel)
/-- X4_readOne@f3.6:0:0 -/
def aC_m_X4_readOne_f3_6_0_0 : aC := (xi_X4_readOne, 44, [(2, 3, 0, none, [], [])], [(some (0, 1, 1, none, [], []), [((3, 6), 0, 0)]), (some (0, 0, 0, none, [], []), [((3, 6), (-1), 0)])], [(3, 5), (3, 6), (3, 8), (3, 9), (4, 3), (5, 0), (6, 0), (8, 2), (8, 3), (8, 4), (8, 5), (8, 6)], [((3, 6), 0, 0)])
def aH_m_X4_readOne_f3_6_0_0 : List aH := [(0, [(0, (2, 3, 0, none, [], []))], [], [((3, 6), (0, 0, 0, some ((4, 6), 0), [], [])), ((8, 3), (0, (-1), 255, some ((9, 3), 0), [], [])), ((8, 4), (0, 0, 639, some ((9, 4), 0), [], [])), ((8, 6), (0, (-2147483648), 2147483647, some ((9, 6), 0), [], []))], 0, [])]
theorem as_m_X4_readOne_f3_6_0_0 : a_spec a_tb aC_m_X4_readOne_f3_6_0_0 := a_meth (Sp := [aC_m_X6_advance, aC_m_X4_readQuota_f3_6_0_0, aC_m_X4_countOne, aC_m_X4_takeOpening_f3_6_0_0, aC_m_X4_readRule_f3_6_1_1, aC_m_X4_takeSign, aC_m_X6_isLone, aC_m_X4_noteMember, aC_m_X4_noteName]) (hd := aH_m_X4_readOne_f3_6_0_0) (mi := xmi_X4_readOne) 45 rfl (a_sp_c as_m_X6_advance (a_sp_c as_m_X4_readQuota_f3_6_0_0 (a_sp_c as_m_X4_countOne (a_sp_c as_m_X4_takeOpening_f3_6_0_0 (a_sp_c as_m_X4_readRule_f3_6_1_1 (a_sp_c as_m_X4_takeSign (a_sp_c as_m_X6_isLone (a_sp_c as_m_X4_noteMember (a_sp_c as_m_X4_noteName a_sp_n))))))))) (by decide +kernel) (by decide +kernel)
/-- X4_readAll@f3.6:0:0 -/
def aC_m_X4_readAll_f3_6_0_0 : aC := (xi_X4_readAll, 45, [(2, 3, 0, none, [], [])], [(some (0, 1, 1, none, [], []), [((3, 6), 0, 0)]), (some (0, 0, 0, none, [], []), [((3, 6), (-1), 0)])], [(3, 5), (3, 6), (3, 8), (3, 9), (4, 3), (5, 0), (6, 0), (8, 2), (8, 3), (8, 4), (8, 5), (8, 6)], [((3, 6), 0, 0)])
def aH_m_X4_readAll_f3_6_0_0 : List aH := [(0, [(0, (2, 3, 0, none, [], []))], [], [((3, 6), (0, 0, 0, some ((4, 6), 0), [], []))], 122, []),
  (7, [(0, (2, 3, 0, none, [], [])), (1, (0, 0, 0, some ((0, 1), 0), [], [])), (2, (0, 0, 121, some ((0, 2), 0), [], []))], [], [((3, 6), (0, (-1), 0, some ((4, 6), 0), [], []))], 121, [((-1), (0, 2))]),
  (7, [(0, (2, 3, 0, none, [], [])), (1, (0, 1, 1, some ((0, 1), 0), [], [])), (2, (0, 0, 121, some ((0, 2), 0), [], []))], [], [((3, 6), (0, 0, 0, some ((4, 6), 0), [], []))], 121, [((-1), (0, 2))])]
theorem as_m_X4_readAll_f3_6_0_0 : a_spec a_tb aC_m_X4_readAll_f3_6_0_0 := a_meth (Sp := [aC_m_X4_readOne_f3_6_0_0, aC_m_X6_isWord_s4, aC_m_X6_advance, aC_m_X3_add]) (hd := aH_m_X4_readAll_f3_6_0_0) (mi := xmi_X4_readAll) 29 rfl (a_sp_c as_m_X4_readOne_f3_6_0_0 (a_sp_c as_m_X6_isWord_s4 (a_sp_c as_m_X6_advance (a_sp_c as_m_X3_add a_sp_n)))) (by decide +kernel) (by decide +kernel)
/-- X4_readRule@f3.6:0:0 -/
def aC_m_X4_readRule_f3_6_0_0 : aC := (xi_X4_readRule, 46, [(2, 3, 0, none, [], [])], [(some (0, 1, 1, none, [], []), [((3, 6), 0, 0)]), (some (0, 0, 0, none, [], []), [((3, 6), (-1), 0)])], [(3, 5), (3, 6), (3, 8), (3, 9), (4, 3), (5, 0), (6, 0), (8, 2), (8, 3), (8, 4), (8, 5), (8, 6)], [((3, 6), 0, 0)])
def aH_m_X4_readRule_f3_6_0_0 : List aH := [(0, [(0, (2, 3, 0, none, [], []))], [], [((3, 6), (0, 0, 0, some ((4, 6), 0), [], []))], 122, []),
  (7, [(0, (2, 3, 0, none, [], [])), (1, (0, 0, 0, some ((0, 1), 0), [], [])), (2, (0, 0, 121, some ((0, 2), 0), [], []))], [], [((3, 6), (0, (-1), 0, some ((4, 6), 0), [], []))], 121, [((-1), (0, 2))]),
  (7, [(0, (2, 3, 0, none, [], [])), (1, (0, 1, 1, some ((0, 1), 0), [], [])), (2, (0, 0, 121, some ((0, 2), 0), [], []))], [], [((3, 6), (0, 0, 0, some ((4, 6), 0), [], []))], 121, [((-1), (0, 2))])]
theorem as_m_X4_readRule_f3_6_0_0 : a_spec a_tb aC_m_X4_readRule_f3_6_0_0 := a_meth (Sp := [aC_m_X4_readAll_f3_6_0_0, aC_m_X6_isWord_s5, aC_m_X6_advance, aC_m_X3_add]) (hd := aH_m_X4_readRule_f3_6_0_0) (mi := xmi_X4_readRule) 29 rfl (a_sp_c as_m_X4_readAll_f3_6_0_0 (a_sp_c as_m_X6_isWord_s5 (a_sp_c as_m_X6_advance (a_sp_c as_m_X3_add a_sp_n)))) (by decide +kernel) (by decide +kernel)
/-- X4_readBody@f3.6:0:0 -/
def aC_m_X4_readBody_f3_6_0_0 : aC := (xi_X4_readBody, 47, [(2, 3, 0, none, [], [])], [(some (0, 1, 1, none, [], []), [((3, 6), 0, 0)]), (some (0, 0, 0, none, [], []), [((3, 6), (-1), 0)])], [(3, 5), (3, 6), (3, 7), (3, 8), (3, 9), (4, 3), (5, 0), (6, 0), (8, 2), (8, 3), (8, 4), (8, 5), (8, 6), (9, 0), (10, 0)], [((3, 6), 0, 0)])
def aH_m_X4_readBody_f3_6_0_0 : List aH := [(0, [(0, (2, 3, 0, none, [], []))], [], [((3, 6), (0, 0, 0, some ((4, 6), 0), [], [])), ((3, 7), (0, 0, 16, some ((4, 7), 0), [], [])), ((8, 4), (0, 0, 639, some ((9, 4), 0), [], [])), ((8, 5), (0, 0, 640, some ((9, 5), 0), [], []))], 0, [])]
theorem as_m_X4_readBody_f3_6_0_0 : a_spec a_tb aC_m_X4_readBody_f3_6_0_0 := a_meth (Sp := [aC_m_X6_advance, aC_m_X4_takeNewName, aC_m_X4_takeSign, aC_m_X4_readRule_f3_6_0_0, aC_m_X3_add]) (hd := aH_m_X4_readBody_f3_6_0_0) (mi := xmi_X4_readBody) 60 rfl (a_sp_c as_m_X6_advance (a_sp_c as_m_X4_takeNewName (a_sp_c as_m_X4_takeSign (a_sp_c as_m_X4_readRule_f3_6_0_0 (a_sp_c as_m_X3_add a_sp_n))))) (by decide +kernel) (by decide +kernel)
/-- X4_read -/
def aC_m_X4_read : aC := (xi_X4_read, 48, [(2, 3, 0, none, [], []), (0, 1, 12, none, [], [])], [(none, [])], [(3, 4), (3, 5), (3, 6), (3, 7), (3, 8), (3, 9), (4, 3), (5, 0), (6, 0), (8, 1), (8, 2), (8, 3), (8, 4), (8, 5), (8, 6), (9, 0), (10, 0)], [])
def aH_m_X4_read : List aH := [(0, [(0, (2, 3, 0, none, [], [])), (1, (0, 1, 12, some ((0, 101), 0), [], []))], [], [], 18, []),
  (48, [(0, (2, 3, 0, none, [], [])), (1, (0, 1, 12, some ((0, 101), 0), [], [])), (2, (0, 1, 1, some ((0, 2), 0), [], [])), (3, (0, 0, 17, some ((0, 3), 0), [], []))], [], [((3, 4), (0, 1, 12, some ((4, 4), 0), [], [])), ((3, 6), (0, 0, 0, some ((4, 6), 0), [], []))], 17, [((-1), (0, 3))]),
  (48, [(0, (2, 3, 0, none, [], [])), (1, (0, 1, 12, some ((0, 101), 0), [], [])), (2, (0, 0, 0, some ((0, 2), 0), [], [])), (3, (0, 1, 17, some ((0, 3), 0), [], []))], [], [((3, 4), (0, 1, 12, some ((4, 4), 0), [], [])), ((3, 6), (0, (-1), 0, some ((4, 6), 0), [], []))], 17, [((-1), (0, 3))])]
theorem as_m_X4_read : a_spec a_tb aC_m_X4_read := a_meth (Sp := [aC_m_X3_clear, aC_m_X6_begin, aC_m_X6_isWord_s2, aC_m_X4_readBody_f3_6_0_0, aC_m_X4_takeWord_s3, aC_m_X4_readRule_f3_6_0_0, aC_m_X4_takeSign, aC_m_X4_takeEnd]) (hd := aH_m_X4_read) (mi := xmi_X4_read) 34 rfl (a_sp_c as_m_X3_clear (a_sp_c as_m_X6_begin (a_sp_c as_m_X6_isWord_s2 (a_sp_c as_m_X4_readBody_f3_6_0_0 (a_sp_c as_m_X4_takeWord_s3 (a_sp_c as_m_X4_readRule_f3_6_0_0 (a_sp_c as_m_X4_takeSign (a_sp_c as_m_X4_takeEnd a_sp_n)))))))) (by decide +kernel) (by decide +kernel)
end XB1
end
section
section XB2
/-- X10_findSorts -/
def aC_h_X10_findSorts : aC := (xi_X10_findSorts, 1, [(2, 39, 0, none, [], [])], [(none, [])], [(39, 46), (54, 0), (55, 0), (56, 0), (61, 0)], [])
/-- X5_lowest -/
def aC_h_X5_lowest : aC := (xi_X5_lowest, 0, [(2, 21, 0, none, [], []), (0, 0, 11, none, [], [])], [(some (0, 0, 71, none, [], []), [])], [], [])
/-- X5_highest -/
def aC_h_X5_highest : aC := (xi_X5_highest, 0, [(2, 21, 0, none, [], []), (0, 0, 11, none, [], []), (0, 0, 60, none, [], [])], [(some (0, (-11), 60, none, [], []), [])], [], [])
/-- X10_lay -/
def aC_h_X10_lay : aC := (xi_X10_lay, 1, [(2, 39, 0, none, [], [])], [(none, [((39, 35), 2, 4096)])], [(39, 35), (53, 0)], [])
/-- X2_list@r16 -/
def aC_h_X2_list_r16 : aC := (xi_X2_list, 3, [(2, 14, 0, none, [], []), (2, 16, 0, none, [], []), (0, 1, 1, none, [], [])], [(some (0, (-2147483648), 924, none, [], []), [])], [(16, 0), (18, 0)], [])
/-- X5_findClasses -/
def aC_h_X5_findClasses : aC := (xi_X5_findClasses, 2, [(2, 21, 0, none, [], [])], [(none, [])], [(21, 8), (23, 0), (24, 0), (25, 0), (26, 0)], [])
/-- X2_list@r15 -/
def aC_h_X2_list_r15 : aC := (xi_X2_list, 3, [(2, 14, 0, none, [], []), (2, 15, 0, none, [], []), (0, 0, 0, none, [], [])], [(some (0, (-2147483648), 924, none, [], []), [])], [(15, 0), (18, 0)], [])
/-- X10_trySum -/
def aC_h_X10_trySum : aC := (xi_X10_trySum, 2, [(2, 39, 0, none, [], []), (0, 0, 60, none, [], [])], [(some (0, (-2), 1, none, [], []), [])], [(39, 49), (39, 50), (57, 0)], [])
end XB2
end
section
section XBL
/-- an element of an int array, within the table's bounds -/
theorem a_el {tb : aT} {h : xh_H} {c n k : Nat} {lo hi : Int} (hi0 : a_inw tb h) (hn : 72 ≤ h.1.length) (hs : a_sh[c]? = some (1, n)) (hc : c < 72) (he : a_ent tb (1, n) c 0 = (0, lo, hi)) (hk : k < n) : lo ≤ (xg 0 h.2.1 c k).toInt ∧ (xg 0 h.2.1 c k).toInt ≤ hi := by
  have h1 := (a_rq_of hi0 hn).2.1 c _ hs
  have g := (hi0 c _ h1).2 k hk
  rw [a_tg_lt hc, a_ent0 (fun z => by cases z), he] at g
  exact g
theorem nI_dec (n : Nat) : nI (n + 1) + Int32.ofInt (-1) = nI n := by
  rw [nI_succ, Int32.add_assoc]
  exact Int32.add_zero _
set_option maxRecDepth 100000 in
set_option maxHeartbeats 4000000 in
theorem lo_loop {d : Nat} {h : xh_H} {s : Nat} (hq : a_rq a_tb h) (hi : a_inw a_tb h) (hs : s ≤ 11) : ∀ n : Nat, n ≤ s → ∃ w : Int32, 0 ≤ w.toInt ∧ w.toInt ≤ 71 ∧ xR none d xi_X5_lowest xmi_X5_lowest (4, [(2, .int (nI n + Int32.ofInt (-1))), (0, .ref 21), (1, .int (nI s))], [], h, 0, 0) (some (.int w), h, 0, 0) := by
  intro n
  induction n with
  | zero =>
    intro _
    have e := nI_toInt (n := s) (by omega)
    refine ⟨nI s, by omega, by omega, ?_⟩
    refine xa_to 36 [(2, .int (nI 0 + Int32.ofInt (-1))), (0, .ref 21), (1, .int (nI s))] [.int (nI s)] h [true] 20 hq rfl ⟨by decide, trivial⟩ (fun _ => ?_)
    exact xR_ret rfl rfl rfl
  | succ n ih =>
    intro hn
    have e1 : nI (n + 1) + Int32.ofInt (-1) = nI n := nI_dec n
    rw [e1]
    have ein : xe_in (nI n) 12 = true := a_xin (by rw [nI_toInt (by omega)]; omega) (by rw [nI_toInt (by omega)]; omega)
    have eb := a_el (k := n) (lo := -1) (hi := 60) hi hq.1 (show a_sh[26]? = some (1, 12) by decide) (by decide) (by decide +kernel) (by omega)
    have ecl : (nI n).toNatClampNeg = n := nI_clamp (by omega)
    have elt : xe_c .lt (nI n) 0 = false := decide_eq_false (by rw [Int32.lt_iff_toInt_lt, nI_toInt (by omega)]; show ¬ (n : Int) < 0; omega)
    cases hc : xe_c .eq (xg 0 h.2.1 26 n) (Int32.ofInt (-1)) with
    | true =>
      obtain ⟨w, w1, w2, k⟩ := ih (by omega)
      refine ⟨w, w1, w2, ?_⟩
      refine xa_to 4 [(2, .int (nI n + Int32.ofInt (-1))), (0, .ref 21), (1, .int (nI s))] [] h [false, true] 20 hq rfl ⟨elt, ein, by rw [ecl]; exact hc, trivial⟩ (fun _ => ?_)
      exact k
    | false =>
      have hne : (xg 0 h.2.1 26 n).toInt ≠ -1 := fun z => by
        have : xg 0 h.2.1 26 n = Int32.ofInt (-1) := Int32.toInt_inj.mp z
        rw [this] at hc
        revert hc
        decide
      have en := nI_toInt (n := n) (by omega)
      have es := nI_toInt (n := s) (by omega)
      have a1 : (xg 0 h.2.1 26 n + nI s).toInt = (xg 0 h.2.1 26 n).toInt + (nI s).toInt := ar_add (by omega) (by omega)
      have a2 : (xg 0 h.2.1 26 n + nI s - nI n).toInt = (xg 0 h.2.1 26 n + nI s).toInt - (nI n).toInt := ar_sub (by omega) (by omega)
      refine ⟨xg 0 h.2.1 26 n + nI s - nI n, by omega, by omega, ?_⟩
      refine xa_to 28 [(2, .int (nI n)), (0, .ref 21), (1, .int (nI s))] [.int (xg 0 h.2.1 26 (nI n).toNatClampNeg + nI s - nI n)] h [false, false] 30 hq rfl ⟨elt, ein, by rw [ecl]; exact hc, ein, trivial⟩ (fun _ => ?_)
      rw [ecl]
      exact xR_ret rfl rfl rfl
set_option maxRecDepth 100000 in
theorem as_h_X5_lowest : a_spec a_tb aC_h_X5_lowest := by
  intro d mi vs h σ _ hM hi hn ha _
  cases hM
  match vs, ha with
  | [v0, v1], ha =>
    obtain ⟨⟨q, rfl, hq⟩, ⟨x, rfl, h1, h2, -⟩, -⟩ := ha
    have h1 : (0 : Int) ≤ x.toInt := h1
    have h2 : x.toInt ≤ 11 := h2
    have eq : q = 21 := a_r_ob (t := 21) (by decide) hq
    subst eq
    obtain ⟨ex, -⟩ := a_nIx (y := x) h1
    obtain ⟨w, w1, w2, k⟩ := lo_loop (d := d) (s := x.toInt.toNat) (a_rq_of hi.1 hn) hi.1 (by omega) x.toInt.toNat (Nat.le_refl _)
    refine ⟨some (.int w), h, ?_, hi, rfl, ⟨_, List.mem_singleton.mpr rfl, ⟨_, rfl, a_vi rfl (a_I_ok w1 w2)⟩, a_fp0⟩, fun _ _ _ _ => rfl⟩
    rw [← ex] at k
    have e1 : x - Int32.ofInt 1 = x + Int32.ofInt (-1) := Int32.sub_eq_add_neg _ _
    refine xa_to 4 [(2, .int (x - Int32.ofInt 1)), (0, .ref 21), (1, .int x)] [] h [] 10 (a_rq_of hi.1 hn) rfl trivial (fun _ => ?_)
    rw [e1]
    exact k
end XBL
end
section
section XBG
/-- an int field of an object, within the table's bounds -/
theorem a_fl {tb : aT} {h : xh_H} {c ci k : Nat} {lo hi : Int} (hi0 : a_inw tb h) (hn : 72 ≤ h.1.length) (hs : a_sh[c]? = some (0, ci)) (hc : c < 72) (he : a_ent tb (0, ci) c k = (0, lo, hi)) (hk : k < xh_N ci) : lo ≤ (xg 0 h.2.1 c k).toInt ∧ (xg 0 h.2.1 c k).toInt ≤ hi := by
  have h1 := (a_rq_of hi0 hn).2.1 c _ hs
  have g := (hi0 c _ h1).2 k hk
  rw [a_tg_lt hc, he] at g
  exact g
set_option maxRecDepth 100000 in
set_option maxHeartbeats 4000000 in
theorem hg_loop {d : Nat} {h : xh_H} {s : Nat} {l : Int32} (hq : a_rq a_tb h) (hi : a_inw a_tb h) (hl1 : 0 ≤ l.toInt) (hl2 : l.toInt ≤ 60) : ∀ n a : Nat, a + n = 12 → s < a → ∃ w : Int32, -11 ≤ w.toInt ∧ w.toInt ≤ 60 ∧ xR none d xi_X5_highest xmi_X5_highest (4, [(3, .int (nI a)), (0, .ref 21), (1, .int (nI s)), (2, .int l)], [], h, 0, 0) (some (.int w), h, 0, 0) := by
  have ec := a_fl (k := 8) (lo := 0) (hi := 12) hi hq.1 (show a_sh[21]? = some (0, 5) by decide) (by decide) (by decide +kernel) (by decide)
  have out : ∀ a : Nat, xe_c .ge (nI a) (xg 0 h.2.1 21 8) = true → ∃ w : Int32, -11 ≤ w.toInt ∧ w.toInt ≤ 60 ∧ xR none d xi_X5_highest xmi_X5_highest (4, [(3, .int (nI a)), (0, .ref 21), (1, .int (nI s)), (2, .int l)], [], h, 0, 0) (some (.int w), h, 0, 0) := by
    intro a ha
    refine ⟨l, by omega, hl2, ?_⟩
    refine xa_to 40 [(3, .int (nI a)), (0, .ref 21), (1, .int (nI s)), (2, .int l)] [.int l] h [true] 20 hq rfl ⟨ha, trivial⟩ (fun _ => ?_)
    exact xR_ret rfl rfl rfl
  intro n
  induction n with
  | zero =>
    intro a ha _
    refine out a (decide_eq_true ?_)
    rw [Int32.le_iff_toInt_le, nI_toInt (by omega)]
    omega
  | succ n ih =>
    intro a ha hsa
    cases hge : xe_c .ge (nI a) (xg 0 h.2.1 21 8) with
    | true => exact out a hge
    | false =>
      have ein : xe_in (nI a) 12 = true := a_xin (by rw [nI_toInt (by omega)]; omega) (by rw [nI_toInt (by omega)]; omega)
      have eb := a_el (k := a) (lo := -1) (hi := 60) hi hq.1 (show a_sh[26]? = some (1, 12) by decide) (by decide) (by decide +kernel) (by omega)
      have ecl : (nI a).toNatClampNeg = a := nI_clamp (by omega)
      cases hc : xe_c .eq (xg 0 h.2.1 26 a) (Int32.ofInt (-1)) with
      | true =>
        obtain ⟨w, w1, w2, k⟩ := ih (a + 1) (by omega) (by omega)
        refine ⟨w, w1, w2, ?_⟩
        rw [← nI_1] at k
        refine xa_to 4 [(3, .int (nI a + Int32.ofInt 1)), (0, .ref 21), (1, .int (nI s)), (2, .int l)] [] h [false, true] 20 hq rfl ⟨hge, ein, by rw [ecl]; exact hc, trivial⟩ (fun _ => ?_)
        exact k
      | false =>
        have hne : (xg 0 h.2.1 26 a).toInt ≠ -1 := fun z => by
          have : xg 0 h.2.1 26 a = Int32.ofInt (-1) := Int32.toInt_inj.mp z
          rw [this] at hc
          revert hc
          decide
        have en := nI_toInt (n := a) (by omega)
        have es := nI_toInt (n := s) (by omega)
        have a1 : (nI a - nI s).toInt = (nI a).toInt - (nI s).toInt := ar_sub (by omega) (by omega)
        have a2 : (xg 0 h.2.1 26 a - (nI a - nI s)).toInt = (xg 0 h.2.1 26 a).toInt - (nI a - nI s).toInt := ar_sub (by omega) (by omega)
        refine ⟨xg 0 h.2.1 26 a - (nI a - nI s), by omega, by omega, ?_⟩
        refine xa_to 32 [(3, .int (nI a)), (0, .ref 21), (1, .int (nI s)), (2, .int l)] [.int (xg 0 h.2.1 26 (nI a).toNatClampNeg - (nI a - nI s))] h [false, false] 30 hq rfl ⟨hge, ein, by rw [ecl]; exact hc, ein, trivial⟩ (fun _ => ?_)
        rw [ecl]
        exact xR_ret rfl rfl rfl
set_option maxRecDepth 100000 in
theorem as_h_X5_highest : a_spec a_tb aC_h_X5_highest := by
  intro d mi vs h σ _ hM hi hn ha _
  cases hM
  match vs, ha with
  | [v0, v1, v2], ha =>
    obtain ⟨⟨q, rfl, hq⟩, ⟨x, rfl, h1, h2, -⟩, ⟨l, rfl, h3, h4, -⟩, -⟩ := ha
    have h1 : (0 : Int) ≤ x.toInt := h1
    have h2 : x.toInt ≤ 11 := h2
    have eq : q = 21 := a_r_ob (t := 21) (by decide) hq
    subst eq
    obtain ⟨ex, -⟩ := a_nIx (y := x) h1
    obtain ⟨w, w1, w2, k⟩ := hg_loop (d := d) (s := x.toInt.toNat) (l := l) (a_rq_of hi.1 hn) hi.1 h3 h4 (12 - (x.toInt.toNat + 1)) (x.toInt.toNat + 1) (by omega) (by omega)
    refine ⟨some (.int w), h, ?_, hi, rfl, ⟨_, List.mem_singleton.mpr rfl, ⟨_, rfl, a_vi rfl (a_I_ok w1 w2)⟩, a_fp0⟩, fun _ _ _ _ => rfl⟩
    rw [← nI_1, ← ex] at k
    refine xa_to 4 [(3, .int (x + Int32.ofInt 1)), (0, .ref 21), (1, .int x), (2, .int l)] [] h [] 10 (a_rq_of hi.1 hn) rfl trivial (fun _ => ?_)
    exact k
end XBG
end
