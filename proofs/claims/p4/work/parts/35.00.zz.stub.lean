section XB9
theorem as_h_X10_findSorts : a_spec a_tb aC_h_X10_findSorts := sorry
theorem as_h_X2_ordersOf : a_spec a_tb aC_h_X2_ordersOf := sorry
theorem as_h_X10_findEnds_f39_35_1_4096 : a_spec a_tb aC_h_X10_findEnds_f39_35_1_4096 := sorry
theorem as_h_X2_list_r16 : a_spec a_tb aC_h_X2_list_r16 := sorry
theorem as_h_X5_findClasses : a_spec a_tb aC_h_X5_findClasses := sorry
theorem as_h_X2_list_r15 : a_spec a_tb aC_h_X2_list_r15 := sorry
theorem as_h_X10_trySum : a_spec a_tb aC_h_X10_trySum := sorry
end XB9
