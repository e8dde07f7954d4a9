section XB9
theorem as_h_X2_study : a_spec a_tb aC_h_X2_study := sorry
end XB9
