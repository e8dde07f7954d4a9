section XRX
def q_i (a : Nat → Int32) : Nat → List Int32
  | 0 => []
  | n + 1 => xsr 0 (q_i a n) (889 + n) (a n)
theorem q_ig (a : Nat → Int32) (j : Nat) : ∀ n, (q_i a n).getD j 0 = if 889 ≤ j ∧ j < 889 + n then a (j - 889) else 0 := by
  intro n
  induction n with
  | zero =>
    rw [if_neg (by omega)]
    rfl
  | succ n ih =>
    unfold q_i
    by_cases e : j = 889 + n
    · rw [e, xsr_s, if_pos (by omega), show 889 + n - 889 = n from by omega]
    · rw [xsr_o _ _ _ _ _ e, ih]
      by_cases c : 889 ≤ j ∧ j < 889 + n
      · rw [if_pos c, if_pos (by omega)]
      · rw [if_neg c, if_neg (by omega)]
theorem xsr_len2 {α : Type} (z x : α) : ∀ (k : Nat) (l : List α), l.length ≤ k → (xsr z l k x).length = k + 1 := by
  intro k
  induction k with
  | zero => intro l h; cases l with
    | nil => rfl
    | cons a t => cases h
  | succ k ih => intro l h; cases l with
    | nil => exact congrArg (· + 1) (ih [] (Nat.zero_le _))
    | cons a t => exact congrArg (· + 1) (ih t (Nat.le_of_succ_le_succ h))
theorem q_il (a : Nat → Int32) : ∀ n, (q_i a (n + 1)).length = 889 + n + 1 := by
  intro n
  induction n with
  | zero => exact xsr_len2 _ _ _ _ (Nat.zero_le _)
  | succ n ih => exact xsr_len2 _ _ _ _ (by rw [ih]; omega)
def q_0 (x : Nat) : List Int32 := q_i (fun t => nI (q_g x 127 t)) 7
theorem q_I0 (x : Nat) : q_I x 126 0 (q_0 x) := by
  refine ⟨q_il _ 6, fun v hv t ht => ?_⟩
  unfold q_0
  rw [q_ig]
  by_cases e : v = 127
  · subst e
    rw [if_pos (by omega), if_pos (by omega), show 127 * 7 + t - 889 = t from by omega]
  · rw [if_neg (by omega), if_neg (by omega)]
set_option maxRecDepth 100000 in
set_option maxHeartbeats 8000000 in
theorem cw_0 : xR none 9 xi_X0_countWays xmi_X0_countWays (0, [(0, .ref 28), (1, .int 0)], [], HC [-1, -1, -1, -1, -1, -1, -1] [], 0, 0) (none, HC [-1, -1, -1, -1, -1, -1, -1] (q_W 0), 0, 0) := by
  refine xR_u (stop := 37) 200 9 _ (37, [(2, .int 126), (0, .ref 28), (1, .int 0)], [], HC [-1, -1, -1, -1, -1, -1, -1] (q_0 0), 0, 0) (xu_b_ok (by decide +kernel)) ?_
  exact cw_all [-1, -1, -1, -1, -1, -1, -1] (q_0 0) 0 0 (by decide) (q_I0 0)
set_option maxRecDepth 100000 in
set_option maxHeartbeats 8000000 in
theorem cn_0 : xR none 10 xi_X0_countRows xmi_X0_countRows (0, [(0, .ref 28), (1, .int 0)], [], HC [-1, -1, -1, -1, -1, -1, -1] [], 0, 0) (some (.int 5040), HC [0, 1, 2, 3, 4, 5, 6] (q_W 0), 0, 0) := by
  refine xR_u (stop := 2) 20 10 _ _ rfl ?_
  refine xR_call rfl rfl rfl rfl cw_0 ?_
  exact ⟨4000, xx_b_ok (by decide +kernel)⟩
set_option maxRecDepth 100000 in
set_option maxHeartbeats 8000000 in
theorem cr_0 : xR none 11 xi_X9_rows xmi_X9_rows (0, lv_args 0 [.ref 0, .int 0], [], xf_h, 0, 0) (some (.int 5040), HC [0, 1, 2, 3, 4, 5, 6] (q_W 0), 0, 0) := by
  refine xR_u (stop := 25) 300 11 _ (25, [(0, .ref 0), (1, .int 0)], [.int 3, .ref 11, .ref 28], xf_h, 0, 0) (xu_b_ok (by decide +kernel)) ?_
  refine xR_call rfl rfl rfl rfl ⟨_, xx_b_ok cl_mt⟩ ?_
  change xR none 11 xi_X9_rows xmi_X9_rows (28, [(0, .ref 0), (1, .int 0)], [], HC [-1, -1, -1, -1, -1, -1, -1] [], 0, 0) _
  refine xR_u (stop := 33) 20 11 _ _ rfl ?_
  refine xR_call rfl rfl rfl rfl cn_0 ?_
  exact ⟨5, rfl⟩
set_option maxRecDepth 100000 in
set_option maxHeartbeats 8000000 in
theorem cw_1 : xR none 9 xi_X0_countWays xmi_X0_countWays (0, [(0, .ref 28), (1, .int 1)], [], HC [-1, -1, -1, -1, -1, -1, -1] [], 0, 0) (none, HC [-1, -1, -1, -1, -1, -1, -1] (q_W 1), 0, 0) := by
  refine xR_u (stop := 37) 200 9 _ (37, [(2, .int 126), (0, .ref 28), (1, .int 1)], [], HC [-1, -1, -1, -1, -1, -1, -1] (q_0 1), 0, 0) (xu_b_ok (by decide +kernel)) ?_
  exact cw_all [-1, -1, -1, -1, -1, -1, -1] (q_0 1) 1 1 (by decide) (q_I0 1)
set_option maxRecDepth 100000 in
set_option maxHeartbeats 8000000 in
theorem cn_1 : xR none 10 xi_X0_countRows xmi_X0_countRows (0, [(0, .ref 28), (1, .int 1)], [], HC [-1, -1, -1, -1, -1, -1, -1] [], 0, 0) (some (.int 0), HC [-1, -1, -1, -1, -1, -1, -1] (q_W 1), 0, 0) := by
  refine xR_u (stop := 2) 20 10 _ _ rfl ?_
  refine xR_call rfl rfl rfl rfl cw_1 ?_
  exact ⟨4000, xx_b_ok (by decide +kernel)⟩
set_option maxRecDepth 100000 in
set_option maxHeartbeats 8000000 in
theorem cr_1 : xR none 11 xi_X9_rows xmi_X9_rows (0, lv_args 0 [.ref 0, .int 1], [], xf_h, 0, 0) (some (.int 0), HC [-1, -1, -1, -1, -1, -1, -1] (q_W 1), 0, 0) := by
  refine xR_u (stop := 25) 300 11 _ (25, [(0, .ref 0), (1, .int 1)], [.int 3, .ref 11, .ref 28], xf_h, 0, 0) (xu_b_ok (by decide +kernel)) ?_
  refine xR_call rfl rfl rfl rfl ⟨_, xx_b_ok cl_mt⟩ ?_
  change xR none 11 xi_X9_rows xmi_X9_rows (28, [(0, .ref 0), (1, .int 1)], [], HC [-1, -1, -1, -1, -1, -1, -1] [], 0, 0) _
  refine xR_u (stop := 33) 20 11 _ _ rfl ?_
  refine xR_call rfl rfl rfl rfl cn_1 ?_
  exact ⟨5, rfl⟩
set_option maxRecDepth 100000 in
set_option maxHeartbeats 8000000 in
theorem cw_2 : xR none 9 xi_X0_countWays xmi_X0_countWays (0, [(0, .ref 28), (1, .int 2)], [], HC [-1, -1, -1, -1, -1, -1, -1] [], 0, 0) (none, HC [-1, -1, -1, -1, -1, -1, -1] (q_W 2), 0, 0) := by
  refine xR_u (stop := 37) 200 9 _ (37, [(2, .int 126), (0, .ref 28), (1, .int 2)], [], HC [-1, -1, -1, -1, -1, -1, -1] (q_0 2), 0, 0) (xu_b_ok (by decide +kernel)) ?_
  exact cw_all [-1, -1, -1, -1, -1, -1, -1] (q_0 2) 2 2 (by decide) (q_I0 2)
set_option maxRecDepth 100000 in
set_option maxHeartbeats 8000000 in
theorem cn_2 : xR none 10 xi_X0_countRows xmi_X0_countRows (0, [(0, .ref 28), (1, .int 2)], [], HC [-1, -1, -1, -1, -1, -1, -1] [], 0, 0) (some (.int 0), HC [-1, -1, -1, -1, -1, -1, -1] (q_W 2), 0, 0) := by
  refine xR_u (stop := 2) 20 10 _ _ rfl ?_
  refine xR_call rfl rfl rfl rfl cw_2 ?_
  exact ⟨4000, xx_b_ok (by decide +kernel)⟩
set_option maxRecDepth 100000 in
set_option maxHeartbeats 8000000 in
theorem cr_2 : xR none 11 xi_X9_rows xmi_X9_rows (0, lv_args 0 [.ref 0, .int 2], [], xf_h, 0, 0) (some (.int 0), HC [-1, -1, -1, -1, -1, -1, -1] (q_W 2), 0, 0) := by
  refine xR_u (stop := 25) 300 11 _ (25, [(0, .ref 0), (1, .int 2)], [.int 3, .ref 11, .ref 28], xf_h, 0, 0) (xu_b_ok (by decide +kernel)) ?_
  refine xR_call rfl rfl rfl rfl ⟨_, xx_b_ok cl_mt⟩ ?_
  change xR none 11 xi_X9_rows xmi_X9_rows (28, [(0, .ref 0), (1, .int 2)], [], HC [-1, -1, -1, -1, -1, -1, -1] [], 0, 0) _
  refine xR_u (stop := 33) 20 11 _ _ rfl ?_
  refine xR_call rfl rfl rfl rfl cn_2 ?_
  exact ⟨5, rfl⟩
set_option maxRecDepth 100000 in
set_option maxHeartbeats 8000000 in
theorem cw_3 : xR none 9 xi_X0_countWays xmi_X0_countWays (0, [(0, .ref 28), (1, .int 3)], [], HC [-1, -1, -1, -1, -1, -1, -1] [], 0, 0) (none, HC [-1, -1, -1, -1, -1, -1, -1] (q_W 3), 0, 0) := by
  refine xR_u (stop := 37) 200 9 _ (37, [(2, .int 126), (0, .ref 28), (1, .int 3)], [], HC [-1, -1, -1, -1, -1, -1, -1] (q_0 3), 0, 0) (xu_b_ok (by decide +kernel)) ?_
  exact cw_all [-1, -1, -1, -1, -1, -1, -1] (q_0 3) 3 3 (by decide) (q_I0 3)
set_option maxRecDepth 100000 in
set_option maxHeartbeats 8000000 in
theorem cn_3 : xR none 10 xi_X0_countRows xmi_X0_countRows (0, [(0, .ref 28), (1, .int 3)], [], HC [-1, -1, -1, -1, -1, -1, -1] [], 0, 0) (some (.int 0), HC [-1, -1, -1, -1, -1, -1, -1] (q_W 3), 0, 0) := by
  refine xR_u (stop := 2) 20 10 _ _ rfl ?_
  refine xR_call rfl rfl rfl rfl cw_3 ?_
  exact ⟨4000, xx_b_ok (by decide +kernel)⟩
set_option maxRecDepth 100000 in
set_option maxHeartbeats 8000000 in
theorem cr_3 : xR none 11 xi_X9_rows xmi_X9_rows (0, lv_args 0 [.ref 0, .int 3], [], xf_h, 0, 0) (some (.int 0), HC [-1, -1, -1, -1, -1, -1, -1] (q_W 3), 0, 0) := by
  refine xR_u (stop := 25) 300 11 _ (25, [(0, .ref 0), (1, .int 3)], [.int 3, .ref 11, .ref 28], xf_h, 0, 0) (xu_b_ok (by decide +kernel)) ?_
  refine xR_call rfl rfl rfl rfl ⟨_, xx_b_ok cl_mt⟩ ?_
  change xR none 11 xi_X9_rows xmi_X9_rows (28, [(0, .ref 0), (1, .int 3)], [], HC [-1, -1, -1, -1, -1, -1, -1] [], 0, 0) _
  refine xR_u (stop := 33) 20 11 _ _ rfl ?_
  refine xR_call rfl rfl rfl rfl cn_3 ?_
  exact ⟨5, rfl⟩
set_option maxRecDepth 100000 in
set_option maxHeartbeats 8000000 in
theorem cw_4 : xR none 9 xi_X0_countWays xmi_X0_countWays (0, [(0, .ref 28), (1, .int 4)], [], HC [-1, -1, -1, -1, -1, -1, -1] [], 0, 0) (none, HC [-1, -1, -1, -1, -1, -1, -1] (q_W 4), 0, 0) := by
  refine xR_u (stop := 37) 200 9 _ (37, [(2, .int 126), (0, .ref 28), (1, .int 4)], [], HC [-1, -1, -1, -1, -1, -1, -1] (q_0 4), 0, 0) (xu_b_ok (by decide +kernel)) ?_
  exact cw_all [-1, -1, -1, -1, -1, -1, -1] (q_0 4) 4 4 (by decide) (q_I0 4)
set_option maxRecDepth 100000 in
set_option maxHeartbeats 8000000 in
theorem cn_4 : xR none 10 xi_X0_countRows xmi_X0_countRows (0, [(0, .ref 28), (1, .int 4)], [], HC [-1, -1, -1, -1, -1, -1, -1] [], 0, 0) (some (.int 0), HC [-1, -1, -1, -1, -1, -1, -1] (q_W 4), 0, 0) := by
  refine xR_u (stop := 2) 20 10 _ _ rfl ?_
  refine xR_call rfl rfl rfl rfl cw_4 ?_
  exact ⟨4000, xx_b_ok (by decide +kernel)⟩
set_option maxRecDepth 100000 in
set_option maxHeartbeats 8000000 in
theorem cr_4 : xR none 11 xi_X9_rows xmi_X9_rows (0, lv_args 0 [.ref 0, .int 4], [], xf_h, 0, 0) (some (.int 0), HC [-1, -1, -1, -1, -1, -1, -1] (q_W 4), 0, 0) := by
  refine xR_u (stop := 25) 300 11 _ (25, [(0, .ref 0), (1, .int 4)], [.int 3, .ref 11, .ref 28], xf_h, 0, 0) (xu_b_ok (by decide +kernel)) ?_
  refine xR_call rfl rfl rfl rfl ⟨_, xx_b_ok cl_mt⟩ ?_
  change xR none 11 xi_X9_rows xmi_X9_rows (28, [(0, .ref 0), (1, .int 4)], [], HC [-1, -1, -1, -1, -1, -1, -1] [], 0, 0) _
  refine xR_u (stop := 33) 20 11 _ _ rfl ?_
  refine xR_call rfl rfl rfl rfl cn_4 ?_
  exact ⟨5, rfl⟩
set_option maxRecDepth 100000 in
set_option maxHeartbeats 8000000 in
theorem cw_5 : xR none 9 xi_X0_countWays xmi_X0_countWays (0, [(0, .ref 28), (1, .int 5)], [], HC [-1, -1, -1, -1, -1, -1, -1] [], 0, 0) (none, HC [-1, -1, -1, -1, -1, -1, -1] (q_W 5), 0, 0) := by
  refine xR_u (stop := 37) 200 9 _ (37, [(2, .int 126), (0, .ref 28), (1, .int 5)], [], HC [-1, -1, -1, -1, -1, -1, -1] (q_0 5), 0, 0) (xu_b_ok (by decide +kernel)) ?_
  exact cw_all [-1, -1, -1, -1, -1, -1, -1] (q_0 5) 5 5 (by decide) (q_I0 5)
set_option maxRecDepth 100000 in
set_option maxHeartbeats 8000000 in
theorem cn_5 : xR none 10 xi_X0_countRows xmi_X0_countRows (0, [(0, .ref 28), (1, .int 5)], [], HC [-1, -1, -1, -1, -1, -1, -1] [], 0, 0) (some (.int 0), HC [-1, -1, -1, -1, -1, -1, -1] (q_W 5), 0, 0) := by
  refine xR_u (stop := 2) 20 10 _ _ rfl ?_
  refine xR_call rfl rfl rfl rfl cw_5 ?_
  exact ⟨4000, xx_b_ok (by decide +kernel)⟩
set_option maxRecDepth 100000 in
set_option maxHeartbeats 8000000 in
theorem cr_5 : xR none 11 xi_X9_rows xmi_X9_rows (0, lv_args 0 [.ref 0, .int 5], [], xf_h, 0, 0) (some (.int 0), HC [-1, -1, -1, -1, -1, -1, -1] (q_W 5), 0, 0) := by
  refine xR_u (stop := 25) 300 11 _ (25, [(0, .ref 0), (1, .int 5)], [.int 3, .ref 11, .ref 28], xf_h, 0, 0) (xu_b_ok (by decide +kernel)) ?_
  refine xR_call rfl rfl rfl rfl ⟨_, xx_b_ok cl_mt⟩ ?_
  change xR none 11 xi_X9_rows xmi_X9_rows (28, [(0, .ref 0), (1, .int 5)], [], HC [-1, -1, -1, -1, -1, -1, -1] [], 0, 0) _
  refine xR_u (stop := 33) 20 11 _ _ rfl ?_
  refine xR_call rfl rfl rfl rfl cn_5 ?_
  exact ⟨5, rfl⟩
set_option maxRecDepth 100000 in
set_option maxHeartbeats 8000000 in
theorem cw_6 : xR none 9 xi_X0_countWays xmi_X0_countWays (0, [(0, .ref 28), (1, .int 6)], [], HC [-1, -1, -1, -1, -1, -1, -1] [], 0, 0) (none, HC [-1, -1, -1, -1, -1, -1, -1] (q_W 6), 0, 0) := by
  refine xR_u (stop := 37) 200 9 _ (37, [(2, .int 126), (0, .ref 28), (1, .int 6)], [], HC [-1, -1, -1, -1, -1, -1, -1] (q_0 6), 0, 0) (xu_b_ok (by decide +kernel)) ?_
  exact cw_all [-1, -1, -1, -1, -1, -1, -1] (q_0 6) 6 6 (by decide) (q_I0 6)
set_option maxRecDepth 100000 in
set_option maxHeartbeats 8000000 in
theorem cn_6 : xR none 10 xi_X0_countRows xmi_X0_countRows (0, [(0, .ref 28), (1, .int 6)], [], HC [-1, -1, -1, -1, -1, -1, -1] [], 0, 0) (some (.int 0), HC [-1, -1, -1, -1, -1, -1, -1] (q_W 6), 0, 0) := by
  refine xR_u (stop := 2) 20 10 _ _ rfl ?_
  refine xR_call rfl rfl rfl rfl cw_6 ?_
  exact ⟨4000, xx_b_ok (by decide +kernel)⟩
set_option maxRecDepth 100000 in
set_option maxHeartbeats 8000000 in
theorem cr_6 : xR none 11 xi_X9_rows xmi_X9_rows (0, lv_args 0 [.ref 0, .int 6], [], xf_h, 0, 0) (some (.int 0), HC [-1, -1, -1, -1, -1, -1, -1] (q_W 6), 0, 0) := by
  refine xR_u (stop := 25) 300 11 _ (25, [(0, .ref 0), (1, .int 6)], [.int 3, .ref 11, .ref 28], xf_h, 0, 0) (xu_b_ok (by decide +kernel)) ?_
  refine xR_call rfl rfl rfl rfl ⟨_, xx_b_ok cl_mt⟩ ?_
  change xR none 11 xi_X9_rows xmi_X9_rows (28, [(0, .ref 0), (1, .int 6)], [], HC [-1, -1, -1, -1, -1, -1, -1] [], 0, 0) _
  refine xR_u (stop := 33) 20 11 _ _ rfl ?_
  refine xR_call rfl rfl rfl rfl cn_6 ?_
  exact ⟨5, rfl⟩
end XRX
