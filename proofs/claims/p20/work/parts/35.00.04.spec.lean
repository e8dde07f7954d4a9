section XB1
/-- X4_takeOpening@f3.6:12:12 -/
def aC_m_X4_takeOpening_f3_6_12_12 : aC := (xi_X4_takeOpening, 1, [(2, 3, 0, none, [], []), (0, 40, 91, none, [], [])], [(some (0, 0, 0, none, [], []), [((3, 6), 12, 12)])], [(3, 8), (3, 9)], [((3, 6), 12, 12)])
def aH_m_X4_takeOpening_f3_6_12_12 : List aH := [(0, [(0, (2, 3, 0, none, [], [])), (1, (0, 40, 91, some ((0, 101), 0), [], []))], [], [((3, 6), (0, 12, 12, some ((4, 6), 0), [], [])), ((8, 3), (0, (-1), 255, some ((9, 3), 0), [], [])), ((8, 4), (0, 0, 639, some ((9, 4), 0), [], []))], 0, [])]
theorem as_m_X4_takeOpening_f3_6_12_12 : a_spec a_tb aC_m_X4_takeOpening_f3_6_12_12 := a_meth (Sp := [aC_m_X4_fail]) (hd := aH_m_X4_takeOpening_f3_6_12_12) (mi := xmi_X4_takeOpening) 21 rfl (a_sp_c as_m_X4_fail a_sp_n) (by decide +kernel) (by decide +kernel)
/-- X9_feed -/
def aC_m_X9_feed : aC := (xi_X9_feed, 1, [(2, 0, 0, none, [], []), (0, (-2147483648), 2147483647, none, [], []), (0, (-2147483648), 2147483647, none, [], []), (0, (-2147483648), 2147483647, none, [], []), (0, (-2147483648), 2147483647, none, [], []), (0, (-2147483648), 2147483647, none, [], [])], [(some (0, (-1), 640, none, [], []), [])], [(1, 1), (2, 0)], [])
def aH_m_X9_feed : List aH := [(0, [(0, (2, 0, 0, none, [], [])), (1, (0, (-2147483648), 2147483647, some ((0, 101), 0), [], [])), (2, (0, (-2147483648), 2147483647, some ((0, 102), 0), [], [])), (3, (0, (-2147483648), 2147483647, some ((0, 103), 0), [], [])), (4, (0, (-2147483648), 2147483647, some ((0, 104), 0), [], [])), (5, (0, (-2147483648), 2147483647, some ((0, 105), 0), [], []))], [], [((1, 1), (0, 0, 640, some ((2, 1), 0), [], []))], 0, [])]
theorem as_m_X9_feed : a_spec a_tb aC_m_X9_feed := a_meth (Sp := [aC_m_X8_hasRoom, aC_m_X8_put]) (hd := aH_m_X9_feed) (mi := xmi_X9_feed) 33 rfl (a_sp_c as_m_X8_hasRoom (a_sp_c as_m_X8_put a_sp_n)) (by decide +kernel) (by decide +kernel)
/-- X10_feed -/
def aC_m_X10_feed : aC := (xi_X10_feed, 1, [(2, 39, 0, none, [], []), (0, (-2147483648), 2147483647, none, [], []), (0, (-2147483648), 2147483647, none, [], []), (0, (-2147483648), 2147483647, none, [], []), (0, (-2147483648), 2147483647, none, [], []), (0, (-2147483648), 2147483647, none, [], [])], [(some (0, (-1), 640, none, [], []), [])], [(39, 0), (39, 2), (40, 0)], [])
def aH_m_X10_feed : List aH := [(0, [(0, (2, 39, 0, none, [], [])), (1, (0, (-2147483648), 2147483647, some ((0, 101), 0), [], [])), (2, (0, (-2147483648), 2147483647, some ((0, 102), 0), [], [])), (3, (0, (-2147483648), 2147483647, some ((0, 103), 0), [], [])), (4, (0, (-2147483648), 2147483647, some ((0, 104), 0), [], [])), (5, (0, (-2147483648), 2147483647, some ((0, 105), 0), [], []))], [], [((39, 2), (0, 0, 640, some ((40, 2), 0), [], []))], 0, [])]
theorem as_m_X10_feed : a_spec a_tb aC_m_X10_feed := a_meth (Sp := [aC_m_X10_come_f39_2_0_620, aC_m_X10_come_f39_2_4_624, aC_m_X10_come_f39_2_8_628, aC_m_X10_come_f39_2_12_632, aC_m_X10_come_f39_2_16_636]) (hd := aH_m_X10_feed) (mi := xmi_X10_feed) 32 rfl (a_sp_c as_m_X10_come_f39_2_0_620 (a_sp_c as_m_X10_come_f39_2_4_624 (a_sp_c as_m_X10_come_f39_2_8_628 (a_sp_c as_m_X10_come_f39_2_12_632 (a_sp_c as_m_X10_come_f39_2_16_636 a_sp_n))))) (by decide +kernel) (by decide +kernel)
/-- X10_next -/
def aC_m_X10_next : aC := (xi_X10_next, 1, [(2, 39, 0, none, [], []), (0, (-2147483648), 2147483647, none, [], [])], [(some (0, (-2147483648), 2147483647, none, [], []), [])], [(39, 0), (39, 3)], [])
def aH_m_X10_next : List aH := [(0, [(0, (2, 39, 0, none, [], [])), (1, (0, (-2147483648), 2147483647, some ((0, 101), 0), [], []))], [], [((39, 3), (0, (-2147483648), 2147483647, some ((40, 3), 0), [], []))], 0, [])]
theorem as_m_X10_next : a_spec a_tb aC_m_X10_next := a_meth (Sp := [aC_m_X10_isIn_0_0_999_999]) (hd := aH_m_X10_next) (mi := xmi_X10_next) 28 rfl (a_sp_c as_m_X10_isIn_0_0_999_999 a_sp_n) (by decide +kernel) (by decide +kernel)
/-- X10_members -/
def aC_m_X10_members : aC := (xi_X10_members, 1, [(2, 39, 0, none, [], []), (0, (-2147483648), 2147483647, none, [], [])], [(some (0, 0, 1, none, [((0, 101), 1, 12)], []), [])], [(39, 0), (39, 4)], [])
def aH_m_X10_members : List aH := [(0, [(0, (2, 39, 0, none, [], [])), (1, (0, (-2147483648), 2147483647, some ((0, 101), 0), [], []))], [], [((39, 5), (0, 0, 1, some ((40, 5), 0), [], [])), ((39, 33), (0, 0, 8, some ((40, 33), 0), [], [])), ((39, 63), (0, 0, 60, some ((40, 63), 0), [], []))], 0, [])]
theorem as_m_X10_members : a_spec a_tb aC_m_X10_members := a_meth (Sp := [aC_m_X10_isIn_1_1_12_12]) (hd := aH_m_X10_members) (mi := xmi_X10_members) 27 rfl (a_sp_c as_m_X10_isIn_1_1_12_12 a_sp_n) (by decide +kernel) (by decide +kernel)
/-- X9_carries -/
def aC_m_X9_carries : aC := (xi_X9_carries, 1, [(2, 0, 0, none, [], []), (0, (-2147483648), 2147483647, none, [], []), (0, (-2147483648), 2147483647, none, [], [])], [(some (0, (-1), 1, none, [], []), [])], [], [])
def aH_m_X9_carries : List aH := [(0, [(0, (2, 0, 0, none, [], [])), (1, (0, (-2147483648), 2147483647, some ((0, 101), 0), [], [])), (2, (0, (-2147483648), 2147483647, some ((0, 102), 0), [], []))], [], [], 0, [])]
theorem as_m_X9_carries : a_spec a_tb aC_m_X9_carries := a_meth (Sp := [aC_m_X9_isSet, aC_m_X9_inForce, aC_m_X7_holds]) (hd := aH_m_X9_carries) (mi := xmi_X9_carries) 23 rfl (a_sp_c as_m_X9_isSet (a_sp_c as_m_X9_inForce (a_sp_c as_m_X7_holds a_sp_n))) (by decide +kernel) (by decide +kernel)
/-- X10_carries -/
def aC_m_X10_carries : aC := (xi_X10_carries, 1, [(2, 39, 0, none, [], []), (0, (-2147483648), 2147483647, none, [], []), (0, (-2147483648), 2147483647, none, [], [])], [(some (0, (-1), 1, none, [], []), [])], [(39, 0)], [])
def aH_m_X10_carries : List aH := [(0, [(0, (2, 39, 0, none, [], [])), (1, (0, (-2147483648), 2147483647, some ((0, 101), 0), [], [])), (2, (0, (-2147483648), 2147483647, some ((0, 102), 0), [], []))], [], [], 0, [])]
theorem as_m_X10_carries : a_spec a_tb aC_m_X10_carries := a_meth (Sp := [aC_m_X10_isSet, aC_m_X10_isIn_0_0_999_999, aC_m_X10_inForce, aC_m_X10_carriesBy]) (hd := aH_m_X10_carries) (mi := xmi_X10_carries) 28 rfl (a_sp_c as_m_X10_isSet (a_sp_c as_m_X10_isIn_0_0_999_999 (a_sp_c as_m_X10_inForce (a_sp_c as_m_X10_carriesBy a_sp_n)))) (by decide +kernel) (by decide +kernel)
/-- X9_weight -/
def aC_m_X9_weight : aC := (xi_X9_weight, 1, [(2, 0, 0, none, [], []), (0, (-2147483648), 2147483647, none, [], [])], [(some (0, (-2147483648), 2147483647, none, [], []), [])], [], [])
def aH_m_X9_weight : List aH := [(0, [(0, (2, 0, 0, none, [], [])), (1, (0, (-2147483648), 2147483647, some ((0, 101), 0), [], []))], [], [((21, 1), (0, (-2147483648), 2147483647, some ((22, 1), 0), [], []))], 0, [])]
theorem as_m_X9_weight : a_spec a_tb aC_m_X9_weight := a_meth (Sp := [aC_m_X9_isMember]) (hd := aH_m_X9_weight) (mi := xmi_X9_weight) 19 rfl (a_sp_c as_m_X9_isMember a_sp_n) (by decide +kernel) (by decide +kernel)
/-- X9_beats -/
def aC_m_X9_beats : aC := (xi_X9_beats, 1, [(2, 0, 0, none, [], []), (0, (-2147483648), 2147483647, none, [], []), (0, (-2147483648), 2147483647, none, [], [])], [(some (0, (-1), 1, none, [], []), [])], [], [])
def aH_m_X9_beats : List aH := [(0, [(0, (2, 0, 0, none, [], [])), (1, (0, (-2147483648), 2147483647, some ((0, 101), 0), [], [])), (2, (0, (-2147483648), 2147483647, some ((0, 102), 0), [], []))], [], [((0, 9), (0, 1, 12, some ((1, 9), 0), [], [])), ((0, 10), (0, (-2147483648), 2147483647, some ((1, 10), 0), [], []))], 0, [])]
theorem as_m_X9_beats : a_spec a_tb aC_m_X9_beats := a_meth (Sp := [aC_m_X0_isOption, aC_m_X9_inForce, aC_m_X0_whoPrefer, aC_m_X7_holds]) (hd := aH_m_X9_beats) (mi := xmi_X9_beats) 30 rfl (a_sp_c as_m_X0_isOption (a_sp_c as_m_X9_inForce (a_sp_c as_m_X0_whoPrefer (a_sp_c as_m_X7_holds a_sp_n)))) (by decide +kernel) (by decide +kernel)
/-- X9_free -/
def aC_m_X9_free : aC := (xi_X9_free, 2, [(2, 0, 0, none, [], [])], [(some (0, 0, 127, none, [], []), [])], [(31, 0)], [])
def aH_m_X9_free : List aH := [(0, [(0, (2, 0, 0, none, [], []))], [], [((0, 9), (0, 1, 12, some ((1, 9), 0), [], [])), ((0, 10), (0, (-2147483648), 2147483647, some ((1, 10), 0), [], []))], 0, [])]
theorem as_m_X9_free : a_spec a_tb aC_m_X9_free := a_meth (Sp := [aC_m_X9_inForce, aC_m_X0_match, aC_m_X0_unbeaten]) (hd := aH_m_X9_free) (mi := xmi_X9_free) 18 rfl (a_sp_c as_m_X9_inForce (a_sp_c as_m_X0_match (a_sp_c as_m_X0_unbeaten a_sp_n))) (by decide +kernel) (by decide +kernel)
/-- X9_rowAt -/
def aC_m_X9_rowAt : aC := (xi_X9_rowAt, 1, [(2, 0, 0, none, [], []), (0, (-2147483648), 2147483647, none, [], [])], [(some (0, (-1), 6, none, [], []), [])], [], [])
def aH_m_X9_rowAt : List aH := [(0, [(0, (2, 0, 0, none, [], [])), (1, (0, (-2147483648), 2147483647, some ((0, 101), 0), [], []))], [], [], 0, [])]
theorem as_m_X9_rowAt : a_spec a_tb aC_m_X9_rowAt := a_meth (Sp := [aC_m_X0_isOption]) (hd := aH_m_X9_rowAt) (mi := xmi_X9_rowAt) 15 rfl (a_sp_c as_m_X0_isOption a_sp_n) (by decide +kernel) (by decide +kernel)
/-- X10_rowAt -/
def aC_m_X10_rowAt : aC := (xi_X10_rowAt, 1, [(2, 39, 0, none, [], []), (0, (-2147483648), 2147483647, none, [], [])], [(some (0, (-1), 6, none, [], []), [])], [(39, 0)], [])
def aH_m_X10_rowAt : List aH := [(0, [(0, (2, 39, 0, none, [], [])), (1, (0, (-2147483648), 2147483647, some ((0, 101), 0), [], []))], [], [((39, 59), (0, 0, 1, some ((40, 59), 0), [], []))], 0, [])]
theorem as_m_X10_rowAt : a_spec a_tb aC_m_X10_rowAt := a_meth (Sp := [aC_m_X10_isOption]) (hd := aH_m_X10_rowAt) (mi := xmi_X10_rowAt) 20 rfl (a_sp_c as_m_X10_isOption a_sp_n) (by decide +kernel) (by decide +kernel)
/-- X9_vote -/
def aC_m_X9_vote : aC := (xi_X9_vote, 1, [(2, 0, 0, none, [], []), (0, (-2147483648), 2147483647, none, [], []), (0, 0, 1, none, [], [])], [(some (0, (-1), 59, none, [], []), [])], [(35, 3), (36, 0), (37, 0), (38, 0)], [])
def aH_m_X9_vote : List aH := [(0, [(0, (2, 0, 0, none, [], [])), (1, (0, (-2147483648), 2147483647, some ((0, 101), 0), [], [])), (2, (0, 0, 1, some ((0, 102), 0), [], []))], [], [((0, 10), (0, (-2147483648), 2147483647, some ((1, 10), 0), [], []))], 0, [])]
theorem as_m_X9_vote : a_spec a_tb aC_m_X9_vote := a_meth (Sp := [aC_m_X9_isSet, aC_m_X1_add]) (hd := aH_m_X9_vote) (mi := xmi_X9_vote) 18 rfl (a_sp_c as_m_X9_isSet (a_sp_c as_m_X1_add a_sp_n)) (by decide +kernel) (by decide +kernel)
/-- X10_vote -/
def aC_m_X10_vote : aC := (xi_X10_vote, 1, [(2, 39, 0, none, [], []), (0, (-2147483648), 2147483647, none, [], []), (0, 0, 1, none, [], [])], [(some (0, (-1), 59, none, [], []), [])], [(39, 0), (39, 63), (68, 0), (69, 0), (70, 0)], [])
def aH_m_X10_vote : List aH := [(0, [(0, (2, 39, 0, none, [], [])), (1, (0, (-2147483648), 2147483647, some ((0, 101), 0), [], [])), (2, (0, 0, 1, some ((0, 102), 0), [], []))], [], [((39, 3), (0, (-2147483648), 2147483647, some ((40, 3), 0), [], [])), ((39, 63), (0, 0, 60, some ((40, 63), 0), [], []))], 0, [])]
theorem as_m_X10_vote : a_spec a_tb aC_m_X10_vote := a_meth (Sp := [aC_m_X10_isSet]) (hd := aH_m_X10_vote) (mi := xmi_X10_vote) 46 rfl (a_sp_c as_m_X10_isSet a_sp_n) (by decide +kernel) (by decide +kernel)
/-- X9_unfit -/
def aC_m_X9_unfit : aC := (xi_X9_unfit, 1, [(2, 0, 0, none, [], []), (0, (-2147483648), 2147483647, none, [], [])], [(some (0, (-1), 59, none, [], []), [])], [], [])
def aH_m_X9_unfit : List aH := [(0, [(0, (2, 0, 0, none, [], [])), (1, (0, (-2147483648), 2147483647, some ((0, 101), 0), [], []))], [], [((35, 3), (0, 0, 60, some ((36, 3), 0), [], []))], 61, []),
  (2, [(0, (2, 0, 0, none, [], [])), (1, (0, (-2147483648), 2147483647, some ((0, 101), 0), [], [])), (2, (0, 0, 60, some ((0, 2), 0), [], []))], [], [((35, 3), (0, 0, 60, some ((36, 3), 0), [], []))], 60, [((-1), (0, 2))])]
theorem as_m_X9_unfit : a_spec a_tb aC_m_X9_unfit := a_meth (Sp := [aC_m_X9_inForce, aC_m_X7_holds]) (hd := aH_m_X9_unfit) (mi := xmi_X9_unfit) 37 rfl (a_sp_c as_m_X9_inForce (a_sp_c as_m_X7_holds a_sp_n)) (by decide +kernel) (by decide +kernel)
/-- X10_unfit -/
def aC_m_X10_unfit : aC := (xi_X10_unfit, 1, [(2, 39, 0, none, [], []), (0, (-2147483648), 2147483647, none, [], [])], [(some (0, (-1), 59, none, [], []), [])], [(39, 0)], [])
def aH_m_X10_unfit : List aH := [(0, [(0, (2, 39, 0, none, [], [])), (1, (0, (-2147483648), 2147483647, some ((0, 101), 0), [], []))], [], [((39, 63), (0, 0, 60, some ((40, 63), 0), [], []))], 61, []),
  (7, [(0, (2, 39, 0, none, [], [])), (1, (0, (-2147483648), 2147483647, some ((0, 101), 0), [], [])), (2, (0, 0, 60, some ((0, 2), 0), [], []))], [], [((39, 0), (0, 0, 0, some ((40, 0), 0), [], [])), ((39, 63), (0, 0, 60, some ((40, 63), 0), [], []))], 60, [((-1), (0, 2))])]
theorem as_m_X10_unfit : a_spec a_tb aC_m_X10_unfit := a_meth (Sp := [aC_m_X10_inForce, aC_m_X10_carriesBy]) (hd := aH_m_X10_unfit) (mi := xmi_X10_unfit) 36 rfl (a_sp_c as_m_X10_inForce (a_sp_c as_m_X10_carriesBy a_sp_n)) (by decide +kernel) (by decide +kernel)
/-- X9_sure -/
def aC_m_X9_sure : aC := (xi_X9_sure, 1, [(2, 0, 0, none, [], []), (0, (-2147483648), 2147483647, none, [], []), (0, (-2147483648), 2147483647, none, [], [])], [(some (0, (-1), 3, none, [], []), [])], [], [])
def aH_m_X9_sure : List aH := [(0, [(0, (2, 0, 0, none, [], [])), (1, (0, (-2147483648), 2147483647, some ((0, 101), 0), [], [])), (2, (0, (-2147483648), 2147483647, some ((0, 102), 0), [], []))], [], [], 0, [])]
theorem as_m_X9_sure : a_spec a_tb aC_m_X9_sure := a_meth (Sp := [aC_m_X9_isSet, aC_m_X1_judge]) (hd := aH_m_X9_sure) (mi := xmi_X9_sure) 16 rfl (a_sp_c as_m_X9_isSet (a_sp_c as_m_X1_judge a_sp_n)) (by decide +kernel) (by decide +kernel)
/-- X10_sure -/
def aC_m_X10_sure : aC := (xi_X10_sure, 1, [(2, 39, 0, none, [], []), (0, (-2147483648), 2147483647, none, [], []), (0, (-2147483648), 2147483647, none, [], [])], [(some (0, (-1), 3, none, [], []), [])], [(39, 0)], [])
def aH_m_X10_sure : List aH := [(0, [(0, (2, 39, 0, none, [], [])), (1, (0, (-2147483648), 2147483647, some ((0, 101), 0), [], [])), (2, (0, (-2147483648), 2147483647, some ((0, 102), 0), [], []))], [], [], 0, [])]
theorem as_m_X10_sure : a_spec a_tb aC_m_X10_sure := a_meth (Sp := [aC_m_X10_isSet, aC_m_X10_sureOf]) (hd := aH_m_X10_sure) (mi := xmi_X10_sure) 18 rfl (a_sp_c as_m_X10_isSet (a_sp_c as_m_X10_sureOf a_sp_n)) (by decide +kernel) (by decide +kernel)
/-- X9_open -/
def aC_m_X9_open : aC := (xi_X9_open, 1, [(2, 0, 0, none, [], []), (0, (-2147483648), 2147483647, none, [], [])], [(some (0, (-2147483648), 2147483647, none, [], []), [])], [], [])
def aH_m_X9_open : List aH := [(0, [(0, (2, 0, 0, none, [], [])), (1, (0, (-2147483648), 2147483647, some ((0, 101), 0), [], []))], [], [((0, 9), (0, 1, 12, some ((1, 9), 0), [], []))], 4097, []),
  (4, [(0, (2, 0, 0, none, [], [])), (1, (0, (-2147483648), 2147483647, some ((0, 101), 0), [], [])), (2, (0, (-2147483648), 2147483647, some ((0, 2), 0), [], [])), (3, (0, 0, 4096, some ((0, 3), 0), [], []))], [], [((0, 9), (0, 1, 12, some ((1, 9), 0), [], []))], 4096, [((-1), (0, 3))])]
theorem as_m_X9_open : a_spec a_tb aC_m_X9_open := a_meth (Sp := [aC_m_X1_judge]) (hd := aH_m_X9_open) (mi := xmi_X9_open) 22 rfl (a_sp_c as_m_X1_judge a_sp_n) (by decide +kernel) (by decide +kernel)
/-- X10_open -/
def aC_m_X10_open : aC := (xi_X10_open, 1, [(2, 39, 0, none, [], []), (0, (-2147483648), 2147483647, none, [], [])], [(some (0, (-2147483648), 2147483647, none, [], []), [])], [(39, 0)], [])
def aH_m_X10_open : List aH := [(0, [(0, (2, 39, 0, none, [], [])), (1, (0, (-2147483648), 2147483647, some ((0, 101), 0), [], []))], [], [((39, 4), (0, 1, 12, some ((40, 4), 0), [], []))], 4097, []),
  (9, [(0, (2, 39, 0, none, [], [])), (1, (0, (-2147483648), 2147483647, some ((0, 101), 0), [], [])), (2, (0, (-2147483648), 2147483647, some ((0, 2), 0), [], [])), (3, (0, 0, 4096, some ((0, 3), 0), [], []))], [], [((39, 0), (0, 0, 0, some ((40, 0), 0), [], [])), ((39, 4), (0, 1, 12, some ((40, 4), 0), [], []))], 4096, [((-1), (0, 3))])]
theorem as_m_X10_open : a_spec a_tb aC_m_X10_open := a_meth (Sp := [aC_m_X10_sureOf]) (hd := aH_m_X10_open) (mi := xmi_X10_open) 21 rfl (a_sp_c as_m_X10_sureOf a_sp_n) (by decide +kernel) (by decide +kernel)
/-- X7_needAll -/
def aC_m_X7_needAll : aC := (xi_X7_needAll, 1, [(2, 11, 0, none, [], []), (0, 1, 12, none, [], [])], [(none, [])], [], [])
def aH_m_X7_needAll : List aH := [(0, [(0, (2, 11, 0, none, [], [])), (1, (0, 1, 12, some ((0, 101), 0), [], []))], [], [], 65, []),
  (2, [(0, (2, 11, 0, none, [], [])), (1, (0, 1, 12, some ((0, 101), 0), [], [])), (2, (0, 0, 64, some ((0, 2), 0), [], []))], [], [], 64, [((-1), (0, 2))])]
theorem as_m_X7_needAll : a_spec a_tb aC_m_X7_needAll := a_meth (Sp := [aC_m_X7_add]) (hd := aH_m_X7_needAll) (mi := xmi_X7_needAll) 16 rfl (a_sp_c as_m_X7_add a_sp_n) (by decide +kernel) (by decide +kernel)
/-- X0_isRow@r1 -/
def aC_m_X0_isRow_r1 : aC := (xi_X0_isRow, 1, [(2, 28, 0, none, [], []), (2, 1, 0, none, [], [])], [(some (0, 0, 1, none, [], []), [])], [], [])
def aH_m_X0_isRow_r1 : List aH := [(0, [(0, (2, 28, 0, none, [], [])), (1, (2, 1, 0, none, [], []))], [], [((1, 1), (0, 0, 640, some ((2, 1), 0), [], []))], 8, []),
  (23, [(0, (2, 28, 0, none, [], [])), (1, (2, 1, 0, none, [], [])), (2, (0, (-2147483648), 2147483647, some ((0, 2), 0), [], [])), (3, (0, 0, 7, some ((0, 3), 0), [], []))], [], [((1, 1), (0, 1, 7, some ((2, 1), 0), [], []))], 7, [((-1), (0, 3))])]
theorem as_m_X0_isRow_r1 : a_spec a_tb aC_m_X0_isRow_r1 := a_meth (Sp := [aC_m_X8_at, aC_m_X0_isOption]) (hd := aH_m_X0_isRow_r1) (mi := xmi_X0_isRow) 31 rfl (a_sp_c as_m_X8_at (a_sp_c as_m_X0_isOption a_sp_n)) (by decide +kernel) (by decide +kernel)
/-- X6_advance -/
def aC_m_X6_advance : aC := (xi_X6_advance, 2, [(2, 8, 0, none, [], [])], [(none, [])], [(8, 2), (8, 3), (8, 4), (8, 5), (8, 6)], [])
def aH_m_X6_advance : List aH := [(0, [(0, (2, 8, 0, none, [], []))], [], [((8, 1), (0, 0, 639, some ((9, 1), 0), [], [])), ((8, 2), (0, 0, 640, some ((9, 2), 0), [], []))], 640, [((-1), (9, 2))])]
theorem as_m_X6_advance : a_spec a_tb aC_m_X6_advance := a_meth (Sp := [aC_m_X8_at, aC_m_X6_isBlank, aC_m_X6_isLetter, aC_m_X6_isDigit, aC_m_X6_takeRun, aC_m_X6_isSign]) (hd := aH_m_X6_advance) (mi := xmi_X6_advance) 69 rfl (a_sp_c as_m_X8_at (a_sp_c as_m_X6_isBlank (a_sp_c as_m_X6_isLetter (a_sp_c as_m_X6_isDigit (a_sp_c as_m_X6_takeRun (a_sp_c as_m_X6_isSign a_sp_n)))))) (by decide +kernel) (by decide +kernel)
/-- X0_findReach -/
def aC_m_X0_findReach : aC := (xi_X0_findReach, 1, [(2, 28, 0, none, [], [])], [(none, [])], [(32, 0)], [])
def aH_m_X0_findReach : List aH := [(0, [(0, (2, 28, 0, none, [], []))], [], [], 144, []),
  (17, [(0, (2, 28, 0, none, [], [])), (1, (0, 0, 6, some ((0, 1), 0), [], [])), (2, (0, 0, 7, some ((0, 2), 0), [], []))], [], [], 142, [((-1), (0, 2)), ((-9), (0, 1))]),
  (2, [(0, (2, 28, 0, none, [], [])), (1, (0, 0, 7, some ((0, 1), 0), [], []))], [], [], 143, [((-9), (0, 1))]),
  (66, [(0, (2, 28, 0, none, [], [])), (1, (0, 0, 6, some ((0, 1), 0), [], [])), (2, (0, 0, 7, some ((0, 2), 0), [], []))], [], [], 70, [((-1), (0, 2)), ((-9), (0, 1))]),
  (58, [(0, (2, 28, 0, none, [], [])), (1, (0, 0, 7, some ((0, 1), 0), [], []))], [], [], 71, [((-9), (0, 1))])]
theorem as_m_X0_findReach : a_spec a_tb aC_m_X0_findReach := a_meth (Sp := [aC_m_X0_wins_ok]) (hd := aH_m_X0_findReach) (mi := xmi_X0_findReach) 31 rfl (a_sp_c as_m_X0_wins_ok a_sp_n) (by decide +kernel) (by decide +kernel)
/-- X0_countWays -/
def aC_m_X0_countWays : aC := (xi_X0_countWays, 2, [(2, 28, 0, none, [], []), (0, 0, 6, none, [], [])], [(none, [])], [(34, 0)], [])
def aH_m_X0_countWays : List aH := [(0, [(0, (2, 28, 0, none, [], [])), (1, (0, 0, 6, some ((0, 101), 0), [], []))], [], [], 9279, []),
  (2, [(0, (2, 28, 0, none, [], [])), (1, (0, 0, 6, some ((0, 101), 0), [], [])), (2, (0, 0, 7, some ((0, 2), 0), [], []))], [], [], 9278, [((-1), (0, 2))]),
  (37, [(0, (2, 28, 0, none, [], [])), (1, (0, 0, 6, some ((0, 101), 0), [], [])), (2, (0, 0, 126, some ((0, 2), 0), [], []))], [], [], 72, [(73, (0, 2))]),
  (55, [(0, (2, 28, 0, none, [], [])), (1, (0, 0, 6, some ((0, 101), 0), [], [])), (2, (0, 1, 126, some ((0, 2), 0), [], [])), (3, (0, 0, 6, some ((0, 3), 0), [], [])), (4, (0, (-2147483648), 2147483647, some ((0, 4), 0), [], [])), (5, (0, 0, 7, some ((0, 5), 0), [], []))], [], [], 70, [((-1), (0, 5)), ((-9), (0, 3)), (73, (0, 2))]),
  (43, [(0, (2, 28, 0, none, [], [])), (1, (0, 0, 6, some ((0, 101), 0), [], [])), (2, (0, 1, 126, some ((0, 2), 0), [], [])), (3, (0, 0, 7, some ((0, 3), 0), [], []))], [], [], 71, [((-9), (0, 3)), (73, (0, 2))])]
theorem as_m_X0_countWays : a_spec a_tb aC_m_X0_countWays := a_meth (Sp := [aC_m_X0_stands_ok, aC_m_X0_waysFrom]) (hd := aH_m_X0_countWays) (mi := xmi_X0_countWays) 31 rfl (a_sp_c as_m_X0_stands_ok (a_sp_c as_m_X0_waysFrom a_sp_n)) (by decide +kernel) (by decide +kernel)
/-- X10_whoIs -/
def aC_m_X10_whoIs : aC := (xi_X10_whoIs, 1, [(2, 39, 0, none, [], []), (0, 0, 1, none, [], [])], [(some (0, (-2147483648), 2147483647, none, [], []), [])], [], [])
def aH_m_X10_whoIs : List aH := [(0, [(0, (2, 39, 0, none, [], [])), (1, (0, 0, 1, some ((0, 101), 0), [], []))], [], [((39, 35), (0, 0, 4096, some ((40, 35), 0), [], []))], 4097, []),
  (15, [(0, (2, 39, 0, none, [], [])), (1, (0, 0, 1, some ((0, 101), 0), [], [])), (2, (0, (-1), 4095, some ((0, 2), 0), [], [])), (3, (0, 0, 4095, some ((0, 3), 0), [], [])), (4, (0, 0, 1, some ((0, 4), 0), [], [])), (5, (0, 0, 4096, some ((0, 5), 0), [], []))], [], [((39, 35), (0, 0, 4096, some ((40, 35), 0), [], []))], 4096, [((-1), (0, 5))])]
theorem as_m_X10_whoIs : a_spec a_tb aC_m_X10_whoIs := a_meth (Sp := [aC_m_X10_isLeast]) (hd := aH_m_X10_whoIs) (mi := xmi_X10_whoIs) 26 rfl (a_sp_c as_m_X10_isLeast a_sp_n) (by decide +kernel) (by decide +kernel)
/-- X10_isLined -/
def aC_m_X10_isLined : aC := (xi_X10_isLined, 1, [(2, 39, 0, none, [], [])], [(some (0, 0, 1, none, [], []), [])], [], [])
def aH_m_X10_isLined : List aH := [(0, [(0, (2, 39, 0, none, [], []))], [], [((39, 4), (0, 1, 12, some ((40, 4), 0), [], []))], 169, []),
  (2, [(0, (2, 39, 0, none, [], [])), (1, (0, 0, 12, some ((0, 1), 0), [], []))], [], [((39, 4), (0, 1, 12, some ((40, 4), 0), [], []))], 168, [((-13), (0, 1))]),
  (14, [(0, (2, 39, 0, none, [], [])), (1, (0, 0, 11, some ((0, 1), 0), [], [])), (2, (0, 1, 12, some ((0, 2), 0), [], []))], [], [((39, 4), (0, 1, 12, some ((40, 4), 0), [], []))], 168, [((-1), (0, 2)), ((-13), (0, 1))])]
theorem as_m_X10_isLined : a_spec a_tb aC_m_X10_isLined := a_meth (Sp := [aC_m_X10_held]) (hd := aH_m_X10_isLined) (mi := xmi_X10_isLined) 17 rfl (a_sp_c as_m_X10_held a_sp_n) (by decide +kernel) (by decide +kernel)
/-- X10_shareOfOrders -/
def aC_m_X10_shareOfOrders : aC := (xi_X10_shareOfOrders, 1, [(2, 39, 0, none, [], []), (0, 0, 11, none, [], [])], [(none, [])], [], [])
def aH_m_X10_shareOfOrders : List aH := [(0, [(0, (2, 39, 0, none, [], [])), (1, (0, 0, 11, some ((0, 101), 0), [], []))], [], [((39, 4), (0, 1, 12, some ((40, 4), 0), [], [])), ((39, 35), (0, 0, 4096, some ((40, 35), 0), [], []))], 4097, []),
  (5, [(0, (2, 39, 0, none, [], [])), (1, (0, 0, 11, some ((0, 101), 0), [], [])), (2, (1, (-9223372036854775808), 9223372036854775807, none, [], [])), (4, (0, 0, 4096, some ((0, 4), 0), [], []))], [], [((39, 4), (0, 1, 12, some ((40, 4), 0), [], [])), ((39, 35), (0, 0, 4096, some ((40, 35), 0), [], []))], 4096, [((-1), (0, 4))])]
theorem as_m_X10_shareOfOrders : a_spec a_tb aC_m_X10_shareOfOrders := a_meth (Sp := [aC_siz2, aC_siz, aC_m_X10_orders, aC_les]) (hd := aH_m_X10_shareOfOrders) (mi := xmi_X10_shareOfOrders) 47 rfl (a_sp_c as_siz2 (a_sp_c as_siz (a_sp_c as_m_X10_orders (a_sp_c as_les a_sp_n)))) (by decide +kernel) (by decide +kernel)
/-- X10_shareOfLeast -/
def aC_m_X10_shareOfLeast : aC := (xi_X10_shareOfLeast, 1, [(2, 39, 0, none, [], []), (0, 0, 11, none, [], [])], [(none, [])], [], [])
def aH_m_X10_shareOfLeast : List aH := [(0, [(0, (2, 39, 0, none, [], [])), (1, (0, 0, 11, some ((0, 101), 0), [], []))], [], [((39, 35), (0, 0, 4096, some ((40, 35), 0), [], []))], 4097, []),
  (8, [(0, (2, 39, 0, none, [], [])), (1, (0, 0, 11, some ((0, 101), 0), [], [])), (2, (1, (-9223372036854775808), 9223372036854775807, none, [], [])), (4, (1, (-9223372036854775808), 9223372036854775807, none, [], [])), (6, (0, 0, 4096, some ((0, 6), 0), [], []))], [], [((39, 35), (0, 0, 4096, some ((40, 35), 0), [], []))], 4096, [((-1), (0, 6))])]
theorem as_m_X10_shareOfLeast : a_spec a_tb aC_m_X10_shareOfLeast := a_meth (Sp := [aC_m_X10_isLeast, aC_siz2, aC_siz, aC_les]) (hd := aH_m_X10_shareOfLeast) (mi := xmi_X10_shareOfLeast) 35 rfl (a_sp_c as_m_X10_isLeast (a_sp_c as_siz2 (a_sp_c as_siz (a_sp_c as_les a_sp_n)))) (by decide +kernel) (by decide +kernel)
/-- X2_isMinimal -/
def aC_m_X2_isMinimal : aC := (xi_X2_isMinimal, 2, [(2, 14, 0, none, [], []), (0, 0, 4095, none, [], []), (0, 0, 1, none, [], [])], [(some (0, 0, 1, none, [], []), [])], [], [])
def aH_m_X2_isMinimal : List aH := [(0, [(0, (2, 14, 0, none, [], [])), (1, (0, 0, 4095, some ((0, 101), 0), [], [])), (2, (0, 0, 1, some ((0, 102), 0), [], []))], [], [((14, 7), (0, 0, 12, some ((15, 7), 0), [], []))], 13, []),
  (13, [(0, (2, 14, 0, none, [], [])), (1, (0, 0, 4095, some ((0, 101), 0), [], [])), (2, (0, 0, 1, some ((0, 102), 0), [], [])), (3, (0, 0, 12, some ((0, 3), 0), [], []))], [], [((14, 7), (0, 0, 12, some ((15, 7), 0), [], []))], 12, [((-1), (0, 3))])]
theorem as_m_X2_isMinimal : a_spec a_tb aC_m_X2_isMinimal := a_meth (Sp := [aC_m_X2_does]) (hd := aH_m_X2_isMinimal) (mi := xmi_X2_isMinimal) 29 rfl (a_sp_c as_m_X2_does a_sp_n) (by decide +kernel) (by decide +kernel)
end XB1
