section XB1
/-- X9_end -/
def aC_0 : aC := (xi_X9_end, 0, [(2, 0, 0, none, [], []), (0, (-2147483648), 2147483647, none, [], [])], [(some (0, 0, 1, none, [((0, 101), 0, 640)], []), [])], [(1, 1)], [])
def aH_0 : List aH := [(0, [(0, (2, 0, 0, none, [], [])), (1, (0, (-2147483648), 2147483647, some ((0, 101), 0), [], []))], [], [((1, 1), (0, 0, 640, some ((2, 1), 0), [], []))], 0, [])]
theorem as_0 : a_spec a_tb aC_0 := a_meth (Sp := []) (hd := aH_0) (mi := xmi_X9_end) 18 rfl a_sp_n (by decide +kernel) (by decide +kernel)
/-- X10_end -/
def aC_1 : aC := (xi_X10_end, 0, [(2, 39, 0, none, [], []), (0, (-2147483648), 2147483647, none, [], [])], [(some (0, 0, 1, none, [((0, 101), 0, 640)], []), [])], [(39, 0), (39, 2)], [])
def aH_1 : List aH := [(0, [(0, (2, 39, 0, none, [], [])), (1, (0, (-2147483648), 2147483647, some ((0, 101), 0), [], []))], [], [((39, 2), (0, 0, 640, some ((40, 2), 0), [], []))], 0, [])]
theorem as_1 : a_spec a_tb aC_1 := a_meth (Sp := []) (hd := aH_1) (mi := xmi_X10_end) 19 rfl a_sp_n (by decide +kernel) (by decide +kernel)
/-- X9_next -/
def aC_2 : aC := (xi_X9_next, 0, [(2, 0, 0, none, [], []), (0, (-2147483648), 2147483647, none, [], [])], [(some (0, (-2147483648), 2147483647, none, [], []), [])], [(0, 10)], [])
def aH_2 : List aH := [(0, [(0, (2, 0, 0, none, [], [])), (1, (0, (-2147483648), 2147483647, some ((0, 101), 0), [], []))], [], [((0, 10), (0, (-2147483648), 2147483647, some ((1, 10), 0), [], []))], 0, [])]
theorem as_2 : a_spec a_tb aC_2 := a_meth (Sp := []) (hd := aH_2) (mi := xmi_X9_next) 25 rfl a_sp_n (by decide +kernel) (by decide +kernel)
/-- X9_fault -/
def aC_3 : aC := (xi_X9_fault, 0, [(2, 0, 0, none, [], [])], [(some (0, 0, 4, none, [], []), [])], [], [])
def aH_3 : List aH := [(0, [(0, (2, 0, 0, none, [], []))], [], [((0, 11), (0, 0, 4, some ((1, 11), 0), [], []))], 0, [])]
theorem as_3 : a_spec a_tb aC_3 := a_meth (Sp := []) (hd := aH_3) (mi := xmi_X9_fault) 8 rfl a_sp_n (by decide +kernel) (by decide +kernel)
/-- X10_fault -/
def aC_4 : aC := (xi_X10_fault, 0, [(2, 39, 0, none, [], [])], [(some (0, 0, 4, none, [], []), [])], [(39, 0)], [])
def aH_4 : List aH := [(0, [(0, (2, 39, 0, none, [], []))], [], [((39, 13), (0, 0, 4, some ((40, 13), 0), [], []))], 0, [])]
theorem as_4 : a_spec a_tb aC_4 := a_meth (Sp := []) (hd := aH_4) (mi := xmi_X10_fault) 11 rfl a_sp_n (by decide +kernel) (by decide +kernel)
/-- X10_weight -/
def aC_5 : aC := (xi_X10_weight, 0, [(2, 39, 0, none, [], []), (0, (-2147483648), 2147483647, none, [], [])], [(some (0, (-2147483648), 100000, none, [], []), [])], [(39, 0)], [])
def aH_5 : List aH := [(0, [(0, (2, 39, 0, none, [], [])), (1, (0, (-2147483648), 2147483647, some ((0, 101), 0), [], []))], [], [((39, 51), (0, 0, 1, some ((40, 51), 0), [], [])), ((39, 52), (0, 0, 12, some ((40, 52), 0), [], []))], 0, [])]
theorem as_5 : a_spec a_tb aC_5 := a_meth (Sp := []) (hd := aH_5) (mi := xmi_X10_weight) 26 rfl a_sp_n (by decide +kernel) (by decide +kernel)
/-- X9_count -/
def aC_6 : aC := (xi_X9_count, 0, [(2, 0, 0, none, [], []), (0, (-2147483648), 2147483647, none, [], [])], [(some (0, (-2147483648), 2147483647, none, [], []), [])], [], [])
def aH_6 : List aH := [(0, [(0, (2, 0, 0, none, [], [])), (1, (0, (-2147483648), 2147483647, some ((0, 101), 0), [], []))], [], [((0, 8), (0, 0, 8, some ((1, 8), 0), [], [])), ((0, 9), (0, 1, 12, some ((1, 9), 0), [], [])), ((0, 10), (0, (-2147483648), 2147483647, some ((1, 10), 0), [], [])), ((1, 1), (0, 0, 640, some ((2, 1), 0), [], [])), ((35, 3), (0, 0, 60, some ((36, 3), 0), [], []))], 0, [])]
theorem as_6 : a_spec a_tb aC_6 := a_meth (Sp := []) (hd := aH_6) (mi := xmi_X9_count) 11 rfl a_sp_n (by decide +kernel) (by decide +kernel)
/-- X10_count -/
def aC_7 : aC := (xi_X10_count, 0, [(2, 39, 0, none, [], []), (0, (-2147483648), 2147483647, none, [], [])], [(some (0, (-2147483648), 2147483647, none, [], []), [])], [(39, 0)], [])
def aH_7 : List aH := [(0, [(0, (2, 39, 0, none, [], [])), (1, (0, (-2147483648), 2147483647, some ((0, 101), 0), [], []))], [], [((39, 2), (0, 0, 640, some ((40, 2), 0), [], [])), ((39, 3), (0, (-2147483648), 2147483647, some ((40, 3), 0), [], [])), ((39, 4), (0, 1, 12, some ((40, 4), 0), [], [])), ((39, 33), (0, 0, 8, some ((40, 33), 0), [], [])), ((39, 63), (0, 0, 60, some ((40, 63), 0), [], []))], 0, [])]
theorem as_7 : a_spec a_tb aC_7 := a_meth (Sp := []) (hd := aH_7) (mi := xmi_X10_count) 13 rfl a_sp_n (by decide +kernel) (by decide +kernel)
/-- X8_hasRoom -/
def aC_8 : aC := (xi_X8_hasRoom, 0, [(2, 1, 0, none, [], [])], [(some (0, 0, 1, none, [], []), [])], [], [])
def aH_8 : List aH := [(0, [(0, (2, 1, 0, none, [], []))], [], [((1, 1), (0, 0, 640, some ((2, 1), 0), [], []))], 0, [])]
theorem as_8 : a_spec a_tb aC_8 := a_meth (Sp := []) (hd := aH_8) (mi := xmi_X8_hasRoom) 14 rfl a_sp_n (by decide +kernel) (by decide +kernel)
/-- X10_isIn@0:0,999:999 -/
def aC_9 : aC := (xi_X10_isIn, 0, [(0, (-2147483648), 2147483647, none, [], []), (0, 0, 0, none, [], []), (0, 999, 999, none, [], [])], [(some (0, 0, 1, none, [((0, 100), 0, 999)], []), [])], [], [])
def aH_9 : List aH := [(0, [(0, (0, (-2147483648), 2147483647, some ((0, 100), 0), [], [])), (1, (0, 0, 0, some ((0, 101), 0), [], [])), (2, (0, 999, 999, some ((0, 102), 0), [], []))], [], [], 0, [])]
theorem as_9 : a_spec a_tb aC_9 := a_meth (Sp := []) (hd := aH_9) (mi := xmi_X10_isIn) 14 rfl a_sp_n (by decide +kernel) (by decide +kernel)
/-- X10_isIn@1:1,12:12 -/
def aC_10 : aC := (xi_X10_isIn, 0, [(0, (-2147483648), 2147483647, none, [], []), (0, 1, 1, none, [], []), (0, 12, 12, none, [], [])], [(some (0, 0, 1, none, [((0, 100), 1, 12)], []), [])], [], [])
def aH_10 : List aH := [(0, [(0, (0, (-2147483648), 2147483647, some ((0, 100), 0), [], [])), (1, (0, 1, 1, some ((0, 101), 0), [], [])), (2, (0, 12, 12, some ((0, 102), 0), [], []))], [], [], 0, [])]
theorem as_10 : a_spec a_tb aC_10 := a_meth (Sp := []) (hd := aH_10) (mi := xmi_X10_isIn) 14 rfl a_sp_n (by decide +kernel) (by decide +kernel)
/-- X10_take -/
def aC_11 : aC := (xi_X10_take, 0, [(2, 39, 0, none, [], [])], [(some (0, 0, 640, none, [], []), [])], [(39, 2)], [])
def aH_11 : List aH := [(0, [(0, (2, 39, 0, none, [], []))], [], [((39, 2), (0, 0, 640, some ((40, 2), 0), [], []))], 0, [])]
theorem as_11 : a_spec a_tb aC_11 := a_meth (Sp := []) (hd := aH_11) (mi := xmi_X10_take) 13 rfl a_sp_n (by decide +kernel) (by decide +kernel)
/-- X9_isSet -/
def aC_12 : aC := (xi_X9_isSet, 0, [(2, 0, 0, none, [], []), (0, (-2147483648), 2147483647, none, [], [])], [(some (0, 0, 1, none, [((0, 101), 0, 4095)], []), [])], [], [])
def aH_12 : List aH := [(0, [(0, (2, 0, 0, none, [], [])), (1, (0, (-2147483648), 2147483647, some ((0, 101), 0), [], []))], [], [((0, 9), (0, 1, 12, some ((1, 9), 0), [], []))], 0, [])]
theorem as_12 : a_spec a_tb aC_12 := a_meth (Sp := []) (hd := aH_12) (mi := xmi_X9_isSet) 16 rfl a_sp_n (by decide +kernel) (by decide +kernel)
/-- X10_isSet -/
def aC_13 : aC := (xi_X10_isSet, 0, [(2, 39, 0, none, [], []), (0, (-2147483648), 2147483647, none, [], [])], [(some (0, 0, 1, none, [((0, 101), 0, 4095)], []), [])], [], [])
def aH_13 : List aH := [(0, [(0, (2, 39, 0, none, [], [])), (1, (0, (-2147483648), 2147483647, some ((0, 101), 0), [], []))], [], [((39, 4), (0, 1, 12, some ((40, 4), 0), [], []))], 0, [])]
theorem as_13 : a_spec a_tb aC_13 := a_meth (Sp := []) (hd := aH_13) (mi := xmi_X10_isSet) 16 rfl a_sp_n (by decide +kernel) (by decide +kernel)
/-- X10_isIn@1:1,4:4 -/
def aC_14 : aC := (xi_X10_isIn, 0, [(0, (-2147483648), 2147483647, none, [], []), (0, 1, 1, none, [], []), (0, 4, 4, none, [], [])], [(some (0, 0, 1, none, [((0, 100), 1, 4)], []), [])], [], [])
def aH_14 : List aH := [(0, [(0, (0, (-2147483648), 2147483647, some ((0, 100), 0), [], [])), (1, (0, 1, 1, some ((0, 101), 0), [], [])), (2, (0, 4, 4, some ((0, 102), 0), [], []))], [], [], 0, [])]
theorem as_14 : a_spec a_tb aC_14 := a_meth (Sp := []) (hd := aH_14) (mi := xmi_X10_isIn) 14 rfl a_sp_n (by decide +kernel) (by decide +kernel)
/-- X9_isMember -/
def aC_15 : aC := (xi_X9_isMember, 0, [(2, 0, 0, none, [], []), (0, (-2147483648), 2147483647, none, [], [])], [(some (0, 0, 1, none, [((0, 101), 0, 11)], []), [])], [], [])
def aH_15 : List aH := [(0, [(0, (2, 0, 0, none, [], [])), (1, (0, (-2147483648), 2147483647, some ((0, 101), 0), [], []))], [], [((0, 9), (0, 1, 12, some ((1, 9), 0), [], []))], 0, [])]
theorem as_15 : a_spec a_tb aC_15 := a_meth (Sp := []) (hd := aH_15) (mi := xmi_X9_isMember) 14 rfl a_sp_n (by decide +kernel) (by decide +kernel)
/-- X10_isMember -/
def aC_16 : aC := (xi_X10_isMember, 0, [(2, 39, 0, none, [], []), (0, (-2147483648), 2147483647, none, [], [])], [(some (0, 0, 1, none, [((0, 101), 0, 11)], []), [])], [], [])
def aH_16 : List aH := [(0, [(0, (2, 39, 0, none, [], [])), (1, (0, (-2147483648), 2147483647, some ((0, 101), 0), [], []))], [], [((39, 4), (0, 1, 12, some ((40, 4), 0), [], []))], 0, [])]
theorem as_16 : a_spec a_tb aC_16 := a_meth (Sp := []) (hd := aH_16) (mi := xmi_X10_isMember) 14 rfl a_sp_n (by decide +kernel) (by decide +kernel)
/-- X10_isIn@0:0,10:10 -/
def aC_17 : aC := (xi_X10_isIn, 0, [(0, (-2147483648), 2147483647, none, [], []), (0, 0, 0, none, [], []), (0, 10, 10, none, [], [])], [(some (0, 0, 1, none, [((0, 100), 0, 10)], []), [])], [], [])
def aH_17 : List aH := [(0, [(0, (0, (-2147483648), 2147483647, some ((0, 100), 0), [], [])), (1, (0, 0, 0, some ((0, 101), 0), [], [])), (2, (0, 10, 10, some ((0, 102), 0), [], []))], [], [], 0, [])]
theorem as_17 : a_spec a_tb aC_17 := a_meth (Sp := []) (hd := aH_17) (mi := xmi_X10_isIn) 14 rfl a_sp_n (by decide +kernel) (by decide +kernel)
/-- X0_isOption -/
def aC_18 : aC := (xi_X0_isOption, 0, [(0, (-2147483648), 2147483647, none, [], [])], [(some (0, 0, 1, none, [((0, 100), 0, 6)], []), [])], [], [])
def aH_18 : List aH := [(0, [(0, (0, (-2147483648), 2147483647, some ((0, 100), 0), [], []))], [], [], 0, [])]
theorem as_18 : a_spec a_tb aC_18 := a_meth (Sp := []) (hd := aH_18) (mi := xmi_X0_isOption) 13 rfl a_sp_n (by decide +kernel) (by decide +kernel)
/-- X10_isOption -/
def aC_19 : aC := (xi_X10_isOption, 0, [(0, (-2147483648), 2147483647, none, [], [])], [(some (0, 0, 1, none, [((0, 100), 0, 6)], []), [])], [], [])
def aH_19 : List aH := [(0, [(0, (0, (-2147483648), 2147483647, some ((0, 100), 0), [], []))], [], [], 0, [])]
theorem as_19 : a_spec a_tb aC_19 := a_meth (Sp := []) (hd := aH_19) (mi := xmi_X10_isOption) 13 rfl a_sp_n (by decide +kernel) (by decide +kernel)
/-- X9_inForce -/
def aC_20 : aC := (xi_X9_inForce, 0, [(2, 0, 0, none, [], []), (0, (-2147483648), 2147483647, none, [], [])], [(some (2, 11, 0, none, [], []), [])], [], [])
def aH_20 : List aH := [(0, [(0, (2, 0, 0, none, [], [])), (1, (0, (-2147483648), 2147483647, some ((0, 101), 0), [], []))], [], [((0, 8), (0, 0, 8, some ((1, 8), 0), [], []))], 9, []),
  (7, [(0, (2, 0, 0, none, [], [])), (1, (0, (-2147483648), 2147483647, some ((0, 101), 0), [], [])), (2, (2, 11, 0, none, [], [])), (3, (0, 0, 8, some ((0, 3), 0), [], []))], [], [((0, 8), (0, 0, 8, some ((1, 8), 0), [], []))], 8, [((-1), (0, 3))])]
theorem as_20 : a_spec a_tb aC_20 := a_meth (Sp := []) (hd := aH_20) (mi := xmi_X9_inForce) 29 rfl a_sp_n (by decide +kernel) (by decide +kernel)
/-- X1_judge -/
def aC_21 : aC := (xi_X1_judge, 0, [(2, 35, 0, none, [], []), (0, 0, 4095, none, [], []), (0, (-2147483648), 2147483647, none, [], [])], [(some (0, 0, 3, none, [], []), [])], [], [])
def aH_21 : List aH := [(0, [(0, (2, 35, 0, none, [], [])), (1, (0, 0, 4095, some ((0, 101), 0), [], [])), (2, (0, (-2147483648), 2147483647, some ((0, 102), 0), [], []))], [], [((35, 3), (0, 0, 60, some ((36, 3), 0), [], []))], 61, []),
  (8, [(0, (2, 35, 0, none, [], [])), (1, (0, 0, 4095, some ((0, 101), 0), [], [])), (2, (0, (-2147483648), 2147483647, some ((0, 102), 0), [], [])), (3, (0, 0, 1, some ((0, 3), 0), [], [])), (4, (0, 0, 1, some ((0, 4), 0), [], [])), (5, (0, 0, 60, some ((0, 5), 0), [], []))], [], [((35, 3), (0, 0, 60, some ((36, 3), 0), [], []))], 60, [((-1), (0, 5))])]
theorem as_21 : a_spec a_tb aC_21 := a_meth (Sp := []) (hd := aH_21) (mi := xmi_X1_judge) 56 rfl a_sp_n (by decide +kernel) (by decide +kernel)
/-- X10_sureOf -/
def aC_22 : aC := (xi_X10_sureOf, 0, [(2, 39, 0, none, [], []), (0, 0, 4095, none, [], []), (0, (-2147483648), 2147483647, none, [], [])], [(some (0, 0, 3, none, [], []), [])], [], [])
def aH_22 : List aH := [(0, [(0, (2, 39, 0, none, [], [])), (1, (0, 0, 4095, some ((0, 101), 0), [], [])), (2, (0, (-2147483648), 2147483647, some ((0, 102), 0), [], []))], [], [((39, 63), (0, 0, 60, some ((40, 63), 0), [], []))], 61, []),
  (8, [(0, (2, 39, 0, none, [], [])), (1, (0, 0, 4095, some ((0, 101), 0), [], [])), (2, (0, (-2147483648), 2147483647, some ((0, 102), 0), [], [])), (3, (0, 0, 1, some ((0, 3), 0), [], [])), (4, (0, 0, 1, some ((0, 4), 0), [], [])), (5, (0, 0, 60, some ((0, 5), 0), [], []))], [], [((39, 63), (0, 0, 60, some ((40, 63), 0), [], []))], 60, [((-1), (0, 5))])]
theorem as_22 : a_spec a_tb aC_22 := a_meth (Sp := []) (hd := aH_22) (mi := xmi_X10_sureOf) 51 rfl a_sp_n (by decide +kernel) (by decide +kernel)
/-- X7_add -/
def aC_23 : aC := (xi_X7_add, 0, [(2, 11, 0, none, [], []), (0, 0, 4095, none, [], [])], [(none, [])], [], [])
def aH_23 : List aH := [(0, [(0, (2, 11, 0, none, [], [])), (1, (0, 0, 4095, some ((0, 101), 0), [], []))], [], [], 0, [])]
theorem as_23 : a_spec a_tb aC_23 := a_meth (Sp := []) (hd := aH_23) (mi := xmi_X7_add) 27 rfl a_sp_n (by decide +kernel) (by decide +kernel)
/-- X3_clear -/
def aC_24 : aC := (xi_X3_clear, 0, [(2, 4, 0, none, [], [])], [(none, [])], [(4, 3)], [])
def aH_24 : List aH := [(0, [(0, (2, 4, 0, none, [], []))], [], [], 0, [])]
theorem as_24 : a_spec a_tb aC_24 := a_meth (Sp := []) (hd := aH_24) (mi := xmi_X3_clear) 9 rfl a_sp_n (by decide +kernel) (by decide +kernel)
/-- X10_inForce -/
def aC_25 : aC := (xi_X10_inForce, 0, [(2, 39, 0, none, [], []), (0, (-2147483648), 2147483647, none, [], []), (0, (-2147483648), 2147483647, none, [], [])], [(some (0, (-1), 7, none, [], []), [])], [], [])
def aH_25 : List aH := [(0, [(0, (2, 39, 0, none, [], [])), (1, (0, (-2147483648), 2147483647, some ((0, 101), 0), [], [])), (2, (0, (-2147483648), 2147483647, some ((0, 102), 0), [], []))], [], [((39, 33), (0, 0, 8, some ((40, 33), 0), [], []))], 9, []),
  (5, [(0, (2, 39, 0, none, [], [])), (1, (0, (-2147483648), 2147483647, some ((0, 101), 0), [], [])), (2, (0, (-2147483648), 2147483647, some ((0, 102), 0), [], [])), (3, (0, (-1), 7, some ((0, 3), 0), [], [])), (4, (0, 0, 8, some ((0, 4), 0), [], []))], [], [((39, 33), (0, 0, 8, some ((40, 33), 0), [], []))], 8, [((-1), (0, 4))])]
theorem as_25 : a_spec a_tb aC_25 := a_meth (Sp := []) (hd := aH_25) (mi := xmi_X10_inForce) 38 rfl a_sp_n (by decide +kernel) (by decide +kernel)
/-- X8_put -/
def aC_26 : aC := (xi_X8_put, 0, [(2, 1, 0, none, [], []), (0, (-2147483648), 2147483647, none, [], [])], [(none, [])], [(1, 1), (2, 0)], [])
def aH_26 : List aH := [(0, [(0, (2, 1, 0, none, [], [])), (1, (0, (-2147483648), 2147483647, some ((0, 101), 0), [], []))], [], [((1, 1), (0, 0, 640, some ((2, 1), 0), [], []))], 33, []),
  (3, [(0, (2, 1, 0, none, [], [])), (1, (0, (-2147483648), 2147483647, some ((0, 101), 0), [], [])), (2, (0, (-8), 24, some ((0, 2), 0), [], []))], [], [((1, 1), (0, 0, 640, some ((2, 1), 0), [], []))], 8, [(1, (0, 2))])]
theorem as_26 : a_spec a_tb aC_26 := a_meth (Sp := []) (hd := aH_26) (mi := xmi_X8_put) 29 rfl a_sp_n (by decide +kernel) (by decide +kernel)
/-- X7_holds -/
def aC_27 : aC := (xi_X7_holds, 0, [(2, 11, 0, none, [], []), (0, 0, 4095, none, [], [])], [(some (0, 0, 1, none, [], []), [])], [], [])
def aH_27 : List aH := [(0, [(0, (2, 11, 0, none, [], [])), (1, (0, 0, 4095, some ((0, 101), 0), [], []))], [], [], 0, [])]
theorem as_27 : a_spec a_tb aC_27 := a_meth (Sp := []) (hd := aH_27) (mi := xmi_X7_holds) 30 rfl a_sp_n (by decide +kernel) (by decide +kernel)
/-- X10_isIn@0:0,2:2 -/
def aC_28 : aC := (xi_X10_isIn, 0, [(0, (-2147483648), 2147483647, none, [], []), (0, 0, 0, none, [], []), (0, 2, 2, none, [], [])], [(some (0, 0, 1, none, [((0, 100), 0, 2)], []), [])], [], [])
def aH_28 : List aH := [(0, [(0, (0, (-2147483648), 2147483647, some ((0, 100), 0), [], [])), (1, (0, 0, 0, some ((0, 101), 0), [], [])), (2, (0, 2, 2, some ((0, 102), 0), [], []))], [], [], 0, [])]
theorem as_28 : a_spec a_tb aC_28 := a_meth (Sp := []) (hd := aH_28) (mi := xmi_X10_isIn) 14 rfl a_sp_n (by decide +kernel) (by decide +kernel)
/-- X10_refuse -/
def aC_29 : aC := (xi_X10_refuse, 0, [(2, 39, 0, none, [], [])], [(some (0, 0, 0, none, [], []), [])], [(39, 0)], [])
def aH_29 : List aH := [(0, [(0, (2, 39, 0, none, [], []))], [], [], 0, [])]
theorem as_29 : a_spec a_tb aC_29 := a_meth (Sp := []) (hd := aH_29) (mi := xmi_X10_refuse) 10 rfl a_sp_n (by decide +kernel) (by decide +kernel)
end XB1
