section XB1
/-- X9_powersToday -/
def aC_m_X9_powersToday : aC := (xi_X9_powersToday, 5, [(2, 0, 0, none, [], [])], [(some (2, 14, 0, none, [], []), [])], [(14, 7), (14, 8), (14, 9), (14, 10), (14, 11), (14, 12), (15, 0), (16, 0), (17, 0), (18, 0), (19, 0)], [])
def aH_m_X9_powersToday : List aH := [(0, [(0, (2, 0, 0, none, [], []))], [], [((0, 9), (0, 1, 12, some ((1, 9), 0), [], [])), ((0, 10), (0, (-2147483648), 2147483647, some ((1, 10), 0), [], []))], 0, [])]
theorem as_m_X9_powersToday : a_spec a_tb aC_m_X9_powersToday := a_meth (Sp := [aC_m_X9_inForce, aC_h_X2_study]) (hd := aH_m_X9_powersToday) (mi := xmi_X9_powersToday) 17 rfl (a_sp_c as_m_X9_inForce (a_sp_c as_h_X2_study a_sp_n)) (by decide +kernel) (by decide +kernel)
/-- X9_many -/
def aC_m_X9_many : aC := (xi_X9_many, 6, [(2, 0, 0, none, [], []), (0, (-2147483648), 2147483647, none, [], [])], [(some (0, (-2147483648), 2147483647, none, [], []), [])], [(14, 7), (14, 8), (14, 9), (14, 10), (14, 11), (14, 12), (15, 0), (16, 0), (17, 0), (18, 0), (19, 0)], [])
def aH_m_X9_many : List aH := [(0, [(0, (2, 0, 0, none, [], [])), (1, (0, (-2147483648), 2147483647, some ((0, 101), 0), [], []))], [], [((14, 9), (0, (-2147483648), 924, some ((15, 9), 0), [], [])), ((14, 10), (0, (-2147483648), 924, some ((15, 10), 0), [], [])), ((14, 11), (0, 0, 4095, some ((15, 11), 0), [], [])), ((14, 12), (0, 0, 4095, some ((15, 12), 0), [], []))], 0, [])]
theorem as_m_X9_many : a_spec a_tb aC_m_X9_many := a_meth (Sp := [aC_m_X9_powersToday, aC_m_X2_countCarrying, aC_bit, aC_m_X2_isProper, aC_m_X2_isStrong, aC_m_X2_isLined]) (hd := aH_m_X9_many) (mi := xmi_X9_many) 16 rfl (a_sp_c as_m_X9_powersToday (a_sp_c as_m_X2_countCarrying (a_sp_c as_bit (a_sp_c as_m_X2_isProper (a_sp_c as_m_X2_isStrong (a_sp_c as_m_X2_isLined a_sp_n)))))) (by decide +kernel) (by decide +kernel)
/-- X9_setAt -/
def aC_m_X9_setAt : aC := (xi_X9_setAt, 6, [(2, 0, 0, none, [], []), (0, (-2147483648), 2147483647, none, [], []), (0, (-2147483648), 2147483647, none, [], [])], [(some (0, (-1), 4095, none, [], []), [])], [(14, 7), (14, 8), (14, 9), (14, 10), (14, 11), (14, 12), (15, 0), (16, 0), (17, 0), (18, 0), (19, 0)], [])
def aH_m_X9_setAt : List aH := [(0, [(0, (2, 0, 0, none, [], [])), (1, (0, (-2147483648), 2147483647, some ((0, 101), 0), [], [])), (2, (0, (-2147483648), 2147483647, some ((0, 102), 0), [], []))], [], [((14, 9), (0, (-2147483648), 924, some ((15, 9), 0), [], [])), ((14, 10), (0, (-2147483648), 924, some ((15, 10), 0), [], [])), ((14, 11), (0, 0, 4095, some ((15, 11), 0), [], [])), ((14, 12), (0, 0, 4095, some ((15, 12), 0), [], []))], 0, [])]
theorem as_m_X9_setAt : a_spec a_tb aC_m_X9_setAt := a_meth (Sp := [aC_m_X9_powersToday]) (hd := aH_m_X9_setAt) (mi := xmi_X9_setAt) 22 rfl (a_sp_c as_m_X9_powersToday a_sp_n) (by decide +kernel) (by decide +kernel)
/-- X9_stronger -/
def aC_m_X9_stronger : aC := (xi_X9_stronger, 6, [(2, 0, 0, none, [], []), (0, (-2147483648), 2147483647, none, [], []), (0, (-2147483648), 2147483647, none, [], [])], [(some (0, (-2), 2, none, [], []), [])], [(14, 7), (14, 8), (14, 9), (14, 10), (14, 11), (14, 12), (15, 0), (16, 0), (17, 0), (18, 0), (19, 0)], [])
def aH_m_X9_stronger : List aH := [(0, [(0, (2, 0, 0, none, [], [])), (1, (0, (-2147483648), 2147483647, some ((0, 101), 0), [], [])), (2, (0, (-2147483648), 2147483647, some ((0, 102), 0), [], []))], [], [], 0, [])]
theorem as_m_X9_stronger : a_spec a_tb aC_m_X9_stronger := a_meth (Sp := [aC_m_X9_isMember, aC_m_X9_powersToday, aC_m_X2_compare]) (hd := aH_m_X9_stronger) (mi := xmi_X9_stronger) 19 rfl (a_sp_c as_m_X9_isMember (a_sp_c as_m_X9_powersToday (a_sp_c as_m_X2_compare a_sp_n))) (by decide +kernel) (by decide +kernel)
/-- X9_turns -/
def aC_m_X9_turns : aC := (xi_X9_turns, 6, [(2, 0, 0, none, [], []), (0, (-2147483648), 2147483647, none, [], [])], [(some (0, (-2147483648), 2147483647, none, [], []), [])], [(14, 7), (14, 8), (14, 9), (14, 10), (14, 11), (14, 12), (15, 0), (16, 0), (17, 0), (18, 0), (19, 0)], [])
def aH_m_X9_turns : List aH := [(0, [(0, (2, 0, 0, none, [], [])), (1, (0, (-2147483648), 2147483647, some ((0, 101), 0), [], []))], [], [], 0, [])]
theorem as_m_X9_turns : a_spec a_tb aC_m_X9_turns := a_meth (Sp := [aC_m_X9_isMember, aC_m_X9_powersToday]) (hd := aH_m_X9_turns) (mi := xmi_X9_turns) 16 rfl (a_sp_c as_m_X9_isMember (a_sp_c as_m_X9_powersToday a_sp_n)) (by decide +kernel) (by decide +kernel)
/-- X9_chance -/
def aC_m_X9_chance : aC := (xi_X9_chance, 6, [(2, 0, 0, none, [], []), (0, (-2147483648), 2147483647, none, [], [])], [(some (1, (-9223372036854775808), 9223372036854775807, none, [], []), [])], [(14, 7), (14, 8), (14, 9), (14, 10), (14, 11), (14, 12), (15, 0), (16, 0), (17, 0), (18, 0), (19, 0)], [])
def aH_m_X9_chance : List aH := [(0, [(0, (2, 0, 0, none, [], [])), (1, (0, (-2147483648), 2147483647, some ((0, 101), 0), [], []))], [], [], 0, [])]
theorem as_m_X9_chance : a_spec a_tb aC_m_X9_chance := a_meth (Sp := [aC_m_X9_powersToday, aC_m_X2_chanceOf]) (hd := aH_m_X9_chance) (mi := xmi_X9_chance) 15 rfl (a_sp_c as_m_X9_powersToday (a_sp_c as_m_X2_chanceOf a_sp_n)) (by decide +kernel) (by decide +kernel)
/-- X9_ally -/
def aC_m_X9_ally : aC := (xi_X9_ally, 6, [(2, 0, 0, none, [], []), (0, (-2147483648), 2147483647, none, [], [])], [(some (0, (-1), 11, none, [], []), [])], [(14, 7), (14, 8), (14, 9), (14, 10), (14, 11), (14, 12), (15, 0), (16, 0), (17, 0), (18, 0), (19, 0)], [])
def aH_m_X9_ally : List aH := [(0, [(0, (2, 0, 0, none, [], [])), (1, (0, (-2147483648), 2147483647, some ((0, 101), 0), [], []))], [], [], 0, [])]
theorem as_m_X9_ally : a_spec a_tb aC_m_X9_ally := a_meth (Sp := [aC_m_X9_isMember, aC_m_X9_powersToday, aC_m_X2_allyOf]) (hd := aH_m_X9_ally) (mi := xmi_X9_ally) 15 rfl (a_sp_c as_m_X9_isMember (a_sp_c as_m_X9_powersToday (a_sp_c as_m_X2_allyOf a_sp_n))) (by decide +kernel) (by decide +kernel)
/-- X9_weigh -/
def aC_m_X9_weigh : aC := (xi_X9_weigh, 19, [(2, 0, 0, none, [], [])], [(some (0, (-3), 63, none, [], []), [])], [(14, 7), (14, 8), (14, 9), (14, 10), (14, 11), (14, 12), (15, 0), (16, 0), (17, 0), (18, 0), (19, 0), (21, 1), (21, 8), (21, 9), (21, 10), (21, 11), (21, 12), (21, 13), (21, 15), (22, 0), (23, 0), (24, 0), (25, 0), (26, 0), (27, 0)], [])
def aH_m_X9_weigh : List aH := [(0, [(0, (2, 0, 0, none, [], []))], [], [], 0, [])]
theorem as_m_X9_weigh : a_spec a_tb aC_m_X9_weigh := a_meth (Sp := [aC_m_X9_powersToday, aC_m_X5_look]) (hd := aH_m_X9_weigh) (mi := xmi_X9_weigh) 12 rfl (a_sp_c as_m_X9_powersToday (a_sp_c as_m_X5_look a_sp_n)) (by decide +kernel) (by decide +kernel)
end XB1
