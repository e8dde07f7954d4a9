section XB2
/-- X10_findSorts -/
def aC_h_X10_findSorts : aC := (xi_X10_findSorts, 1, [(2, 39, 0, none, [], [])], [(none, [])], [(39, 46), (54, 0), (55, 0), (56, 0), (61, 0)], [])
/-- X5_lowest -/
def aC_h_X5_lowest : aC := (xi_X5_lowest, 0, [(2, 21, 0, none, [], []), (0, 0, 11, none, [], [])], [(some (0, 0, 71, none, [], []), [])], [], [])
/-- X5_highest -/
def aC_h_X5_highest : aC := (xi_X5_highest, 0, [(2, 21, 0, none, [], []), (0, 0, 11, none, [], []), (0, 0, 60, none, [], [])], [(some (0, (-11), 60, none, [], []), [])], [], [])
/-- X10_lay -/
def aC_h_X10_lay : aC := (xi_X10_lay, 1, [(2, 39, 0, none, [], [])], [(none, [((39, 35), 2, 4096)])], [(39, 35), (53, 0)], [])
/-- X2_list@r16 -/
def aC_h_X2_list_r16 : aC := (xi_X2_list, 3, [(2, 14, 0, none, [], []), (2, 16, 0, none, [], []), (0, 1, 1, none, [], [])], [(some (0, (-2147483648), 924, none, [], []), [])], [(16, 0), (18, 0)], [])
/-- X5_findClasses -/
def aC_h_X5_findClasses : aC := (xi_X5_findClasses, 2, [(2, 21, 0, none, [], [])], [(none, [])], [(21, 8), (23, 0), (24, 0), (25, 0), (26, 0)], [])
/-- X2_list@r15 -/
def aC_h_X2_list_r15 : aC := (xi_X2_list, 3, [(2, 14, 0, none, [], []), (2, 15, 0, none, [], []), (0, 0, 0, none, [], [])], [(some (0, (-2147483648), 924, none, [], []), [])], [(15, 0), (18, 0)], [])
/-- X10_trySum -/
def aC_h_X10_trySum : aC := (xi_X10_trySum, 2, [(2, 39, 0, none, [], []), (0, 0, 60, none, [], [])], [(some (0, (-2), 1, none, [], []), [])], [(39, 49), (39, 50), (57, 0)], [])
end XB2
