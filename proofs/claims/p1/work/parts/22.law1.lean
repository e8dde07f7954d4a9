section XLW
variable {scr : Option (Nat × (Nat → Int32))} {d mid : Nat} {mi : xm_M} {pc : Nat} {lv : List (Nat × Value)} {st q : List Value} {h : xh_H} {c s : Nat} {o : Option Value × xh_H × Nat × Nat}
/-- a virtual call -/
theorem xR_cv {idx j rK ri : Nat} {mj : xm_M} (As q : List Value) {b : Nat} {v : Option Value} {h' : xh_H} {mc ms : Nat} (hr : xC mid pc = some (.invokevirtual idx, 3, j, 0, rK, ri)) (hj : xM j = some mj) (hst : st = As.reverse ++ .ref b :: q) (hsh : h.1[b]? = some (0, mj.2.2.2.2.2.2.2)) (hc : (Nat.beq mj.2.2.2.2.2.1 0 && (Nat.beq As.length mj.2.2.2.2.2.2.1 && (Nat.ble (xm_cat q) 8 && Nat.ble (xm_cat (.ref b :: As)) mj.2.2.2.1))) = true) (hm : xR none d j mj (0, lv_args 0 (.ref b :: As), [], h, 0, 0) (v, h', mc, ms)) (k : xR scr (d + 1) mid mi (pc + 3, lv, v.toList ++ q, h', c + mc, s + ms) o) : xR scr (d + 1) mid mi (pc, lv, st, h, c, s) o := by
  obtain ⟨h1, h2⟩ := xw_bb hc
  obtain ⟨h2, h3⟩ := xw_bb h2
  obtain ⟨h3, h4⟩ := xw_bb h3
  have e2 : As.length = mj.2.2.2.2.2.2.1 := xw_beq h2
  refine xR_call (r := (.invokevirtual idx, 3, j, 0, rK, ri)) (mj := mj) (As := .ref b :: As) (q := q) hr rfl rfl ?_ hm k
  unfold xe_cl
  try dsimp only
  rw [hj]
  try dsimp only
  have t1 : st.take mj.2.2.2.2.2.2.1 = As.reverse := by rw [hst, ← e2, ← List.length_reverse, List.take_left]
  have t2 : st.drop mj.2.2.2.2.2.2.1 = .ref b :: q := by rw [hst, ← e2, ← List.length_reverse, List.drop_left]
  rw [t1, t2]
  try dsimp only
  rw [hsh]
  try dsimp only
  rw [List.reverse_reverse, List.length_reverse, h1, h2, h3, h4]
  show cond (Nat.beq mj.2.2.2.2.2.2.2 mj.2.2.2.2.2.2.2 && (true && (true && (true && true)))) (some (mj, Value.ref b :: As, q)) none = _
  rw [Nat.beq_refl]
  rfl
theorem lw_end (xs : Nat → Int32) (h : xh_H) (c s : Nat) : xR (some (6, xs)) 12 xi_L_law xmi_L_law (1027, xf_lv, [], h, c, s) (some (.int 1), h, c, s) := ⟨20, rfl⟩
theorem lw_0 (xs : Nat → Int32) {v : Int32} {h1 h2 : xh_H} {c1 s1 c2 s2 : Nat} (r1 : xR none 11 xi_X9_feed xmi_X9_feed (0, lv_args 0 [.ref 0, .int (xs 1), .int (xs 2), .int (xs 3), .int (xs 4), .int (xs 5)], [], xf_h, 0, 0) (some (.int v), h1, c1, s1)) (hs : h1.1[39]? = some (0, 10)) (r2 : xR none 11 xi_X10_feed xmi_X10_feed (0, lv_args 0 [.ref 39, .int (xs 1), .int (xs 2), .int (xs 3), .int (xs 4), .int (xs 5)], [], h1, 0, 0) (some (.int v), h2, c2, s2)) : xR (some (6, xs)) 12 xi_L_law xmi_L_law (168, xf_lv, [], xf_h, 72, 274345) (some (.int 1), h2, 72 + c1 + c2, 274345 + s1 + s2) := by
  refine xR_u (stop := 199) 40 12 _ _ rfl ?_
  refine xR_call rfl rfl rfl rfl r1 ?_
  refine xR_u (stop := 233) 40 12 _ _ rfl ?_
  refine xR_cv [.int (xs 1), .int (xs 2), .int (xs 3), .int (xs 4), .int (xs 5)] [.int v] rfl rfl rfl hs rfl r2 ?_
  refine xR_ic rfl (fun _ => lw_end xs h2 _ _) (fun z => ?_)
  simp [xe_c] at z
theorem lw_1 (xs : Nat → Int32) {v : Int32} {h1 h2 : xh_H} {c1 s1 c2 s2 : Nat} (r1 : xR none 11 xi_X9_end xmi_X9_end (0, lv_args 0 [.ref 0, .int (xs 1)], [], xf_h, 0, 0) (some (.int v), h1, c1, s1)) (hs : h1.1[39]? = some (0, 10)) (r2 : xR none 11 xi_X10_end xmi_X10_end (0, lv_args 0 [.ref 39, .int (xs 1)], [], h1, 0, 0) (some (.int v), h2, c2, s2)) : xR (some (6, xs)) 12 xi_L_law xmi_L_law (241, xf_lv, [], xf_h, 72, 274345) (some (.int 1), h2, 72 + c1 + c2, 274345 + s1 + s2) := by
  refine xR_u (stop := 248) 40 12 _ _ rfl ?_
  refine xR_call rfl rfl rfl rfl r1 ?_
  refine xR_u (stop := 258) 40 12 _ _ rfl ?_
  refine xR_cv [.int (xs 1)] [.int v] rfl rfl rfl hs rfl r2 ?_
  refine xR_ic rfl (fun _ => lw_end xs h2 _ _) (fun z => ?_)
  simp [xe_c] at z
theorem lw_2 (xs : Nat → Int32) {v : Int32} {h1 h2 : xh_H} {c1 s1 c2 s2 : Nat} (r1 : xR none 11 xi_X9_next xmi_X9_next (0, lv_args 0 [.ref 0, .int (xs 1)], [], xf_h, 0, 0) (some (.int v), h1, c1, s1)) (hs : h1.1[39]? = some (0, 10)) (r2 : xR none 11 xi_X10_next xmi_X10_next (0, lv_args 0 [.ref 39, .int (xs 1)], [], h1, 0, 0) (some (.int v), h2, c2, s2)) : xR (some (6, xs)) 12 xi_L_law xmi_L_law (266, xf_lv, [], xf_h, 72, 274345) (some (.int 1), h2, 72 + c1 + c2, 274345 + s1 + s2) := by
  refine xR_u (stop := 273) 40 12 _ _ rfl ?_
  refine xR_call rfl rfl rfl rfl r1 ?_
  refine xR_u (stop := 283) 40 12 _ _ rfl ?_
  refine xR_cv [.int (xs 1)] [.int v] rfl rfl rfl hs rfl r2 ?_
  refine xR_ic rfl (fun _ => lw_end xs h2 _ _) (fun z => ?_)
  simp [xe_c] at z
theorem lw_3 (xs : Nat → Int32) {v : Int32} {h1 h2 : xh_H} {c1 s1 c2 s2 : Nat} (r1 : xR none 11 xi_X9_members xmi_X9_members (0, lv_args 0 [.ref 0, .int (xs 1)], [], xf_h, 0, 0) (some (.int v), h1, c1, s1)) (hs : h1.1[39]? = some (0, 10)) (r2 : xR none 11 xi_X10_members xmi_X10_members (0, lv_args 0 [.ref 39, .int (xs 1)], [], h1, 0, 0) (some (.int v), h2, c2, s2)) : xR (some (6, xs)) 12 xi_L_law xmi_L_law (291, xf_lv, [], xf_h, 72, 274345) (some (.int 1), h2, 72 + c1 + c2, 274345 + s1 + s2) := by
  refine xR_u (stop := 298) 40 12 _ _ rfl ?_
  refine xR_call rfl rfl rfl rfl r1 ?_
  refine xR_u (stop := 308) 40 12 _ _ rfl ?_
  refine xR_cv [.int (xs 1)] [.int v] rfl rfl rfl hs rfl r2 ?_
  refine xR_ic rfl (fun _ => lw_end xs h2 _ _) (fun z => ?_)
  simp [xe_c] at z
theorem lw_4 (xs : Nat → Int32) {v : Int32} {h1 h2 : xh_H} {c1 s1 c2 s2 : Nat} (r1 : xR none 11 xi_X9_statute xmi_X9_statute (0, lv_args 0 [.ref 0, .int (xs 1)], [], xf_h, 0, 0) (some (.int v), h1, c1, s1)) (hs : h1.1[39]? = some (0, 10)) (r2 : xR none 11 xi_X10_statute xmi_X10_statute (0, lv_args 0 [.ref 39, .int (xs 1)], [], h1, 0, 0) (some (.int v), h2, c2, s2)) : xR (some (6, xs)) 12 xi_L_law xmi_L_law (316, xf_lv, [], xf_h, 72, 274345) (some (.int 1), h2, 72 + c1 + c2, 274345 + s1 + s2) := by
  refine xR_u (stop := 323) 40 12 _ _ rfl ?_
  refine xR_call rfl rfl rfl rfl r1 ?_
  refine xR_u (stop := 333) 40 12 _ _ rfl ?_
  refine xR_cv [.int (xs 1)] [.int v] rfl rfl rfl hs rfl r2 ?_
  refine xR_ic rfl (fun _ => lw_end xs h2 _ _) (fun z => ?_)
  simp [xe_c] at z
theorem lw_5 (xs : Nat → Int32) {v : Int32} {h1 h2 : xh_H} {c1 s1 c2 s2 : Nat} (r1 : xR none 11 xi_X9_fault xmi_X9_fault (0, lv_args 0 [.ref 0], [], xf_h, 0, 0) (some (.int v), h1, c1, s1)) (hs : h1.1[39]? = some (0, 10)) (r2 : xR none 11 xi_X10_fault xmi_X10_fault (0, lv_args 0 [.ref 39], [], h1, 0, 0) (some (.int v), h2, c2, s2)) : xR (some (6, xs)) 12 xi_L_law xmi_L_law (341, xf_lv, [], xf_h, 72, 274345) (some (.int 1), h2, 72 + c1 + c2, 274345 + s1 + s2) := by
  refine xR_u (stop := 342) 40 12 _ _ rfl ?_
  refine xR_call rfl rfl rfl rfl r1 ?_
  refine xR_u (stop := 346) 40 12 _ _ rfl ?_
  refine xR_cv [] [.int v] rfl rfl rfl hs rfl r2 ?_
  refine xR_ic rfl (fun _ => lw_end xs h2 _ _) (fun z => ?_)
  simp [xe_c] at z
theorem lw_6 (xs : Nat → Int32) {v : Int32} {h1 h2 : xh_H} {c1 s1 c2 s2 : Nat} (r1 : xR none 11 xi_X9_carries xmi_X9_carries (0, lv_args 0 [.ref 0, .int (xs 1), .int (xs 2)], [], xf_h, 0, 0) (some (.int v), h1, c1, s1)) (hs : h1.1[39]? = some (0, 10)) (r2 : xR none 11 xi_X10_carries xmi_X10_carries (0, lv_args 0 [.ref 39, .int (xs 1), .int (xs 2)], [], h1, 0, 0) (some (.int v), h2, c2, s2)) : xR (some (6, xs)) 12 xi_L_law xmi_L_law (354, xf_lv, [], xf_h, 72, 274345) (some (.int 1), h2, 72 + c1 + c2, 274345 + s1 + s2) := by
  refine xR_u (stop := 367) 40 12 _ _ rfl ?_
  refine xR_call rfl rfl rfl rfl r1 ?_
  refine xR_u (stop := 383) 40 12 _ _ rfl ?_
  refine xR_cv [.int (xs 1), .int (xs 2)] [.int v] rfl rfl rfl hs rfl r2 ?_
  refine xR_ic rfl (fun _ => lw_end xs h2 _ _) (fun z => ?_)
  simp [xe_c] at z
theorem lw_7 (xs : Nat → Int32) {v : Int32} {h1 h2 : xh_H} {c1 s1 c2 s2 : Nat} (r1 : xR none 11 xi_X9_many xmi_X9_many (0, lv_args 0 [.ref 0, .int (xs 1)], [], xf_h, 0, 0) (some (.int v), h1, c1, s1)) (hs : h1.1[39]? = some (0, 10)) (r2 : xR none 11 xi_X10_many xmi_X10_many (0, lv_args 0 [.ref 39, .int (xs 1)], [], h1, 0, 0) (some (.int v), h2, c2, s2)) : xR (some (6, xs)) 12 xi_L_law xmi_L_law (391, xf_lv, [], xf_h, 72, 274345) (some (.int 1), h2, 72 + c1 + c2, 274345 + s1 + s2) := by
  refine xR_u (stop := 398) 40 12 _ _ rfl ?_
  refine xR_call rfl rfl rfl rfl r1 ?_
  refine xR_u (stop := 408) 40 12 _ _ rfl ?_
  refine xR_cv [.int (xs 1)] [.int v] rfl rfl rfl hs rfl r2 ?_
  refine xR_ic rfl (fun _ => lw_end xs h2 _ _) (fun z => ?_)
  simp [xe_c] at z
theorem lw_8 (xs : Nat → Int32) {v : Int32} {h1 h2 : xh_H} {c1 s1 c2 s2 : Nat} (r1 : xR none 11 xi_X9_setAt xmi_X9_setAt (0, lv_args 0 [.ref 0, .int (xs 1), .int (xs 2)], [], xf_h, 0, 0) (some (.int v), h1, c1, s1)) (hs : h1.1[39]? = some (0, 10)) (r2 : xR none 11 xi_X10_setAt xmi_X10_setAt (0, lv_args 0 [.ref 39, .int (xs 1), .int (xs 2)], [], h1, 0, 0) (some (.int v), h2, c2, s2)) : xR (some (6, xs)) 12 xi_L_law xmi_L_law (416, xf_lv, [], xf_h, 72, 274345) (some (.int 1), h2, 72 + c1 + c2, 274345 + s1 + s2) := by
  refine xR_u (stop := 429) 40 12 _ _ rfl ?_
  refine xR_call rfl rfl rfl rfl r1 ?_
  refine xR_u (stop := 445) 40 12 _ _ rfl ?_
  refine xR_cv [.int (xs 1), .int (xs 2)] [.int v] rfl rfl rfl hs rfl r2 ?_
  refine xR_ic rfl (fun _ => lw_end xs h2 _ _) (fun z => ?_)
  simp [xe_c] at z
theorem lw_9 (xs : Nat → Int32) {v : Int32} {h1 h2 : xh_H} {c1 s1 c2 s2 : Nat} (r1 : xR none 11 xi_X9_stronger xmi_X9_stronger (0, lv_args 0 [.ref 0, .int (xs 1), .int (xs 2)], [], xf_h, 0, 0) (some (.int v), h1, c1, s1)) (hs : h1.1[39]? = some (0, 10)) (r2 : xR none 11 xi_X10_stronger xmi_X10_stronger (0, lv_args 0 [.ref 39, .int (xs 1), .int (xs 2)], [], h1, 0, 0) (some (.int v), h2, c2, s2)) : xR (some (6, xs)) 12 xi_L_law xmi_L_law (453, xf_lv, [], xf_h, 72, 274345) (some (.int 1), h2, 72 + c1 + c2, 274345 + s1 + s2) := by
  refine xR_u (stop := 466) 40 12 _ _ rfl ?_
  refine xR_call rfl rfl rfl rfl r1 ?_
  refine xR_u (stop := 482) 40 12 _ _ rfl ?_
  refine xR_cv [.int (xs 1), .int (xs 2)] [.int v] rfl rfl rfl hs rfl r2 ?_
  refine xR_ic rfl (fun _ => lw_end xs h2 _ _) (fun z => ?_)
  simp [xe_c] at z
theorem lw_10 (xs : Nat → Int32) {v : Int32} {h1 h2 : xh_H} {c1 s1 c2 s2 : Nat} (r1 : xR none 11 xi_X9_turns xmi_X9_turns (0, lv_args 0 [.ref 0, .int (xs 1)], [], xf_h, 0, 0) (some (.int v), h1, c1, s1)) (hs : h1.1[39]? = some (0, 10)) (r2 : xR none 11 xi_X10_turns xmi_X10_turns (0, lv_args 0 [.ref 39, .int (xs 1)], [], h1, 0, 0) (some (.int v), h2, c2, s2)) : xR (some (6, xs)) 12 xi_L_law xmi_L_law (490, xf_lv, [], xf_h, 72, 274345) (some (.int 1), h2, 72 + c1 + c2, 274345 + s1 + s2) := by
  refine xR_u (stop := 497) 40 12 _ _ rfl ?_
  refine xR_call rfl rfl rfl rfl r1 ?_
  refine xR_u (stop := 507) 40 12 _ _ rfl ?_
  refine xR_cv [.int (xs 1)] [.int v] rfl rfl rfl hs rfl r2 ?_
  refine xR_ic rfl (fun _ => lw_end xs h2 _ _) (fun z => ?_)
  simp [xe_c] at z
theorem lw_12 (xs : Nat → Int32) {v : Int64} {h1 h2 : xh_H} {c1 s1 c2 s2 : Nat} (r1 : xR none 11 xi_X9_chance xmi_X9_chance (0, lv_args 0 [.ref 0, .int (xs 1)], [], xf_h, 0, 0) (some (.long v), h1, c1, s1)) (hs : h1.1[39]? = some (0, 10)) (r2 : xR none 11 xi_X10_chance xmi_X10_chance (0, lv_args 0 [.ref 39, .int (xs 1)], [], h1, 0, 0) (some (.long v), h2, c2, s2)) : xR (some (6, xs)) 12 xi_L_law xmi_L_law (594, xf_lv, [], xf_h, 72, 274345) (some (.int 1), h2, 72 + c1 + c2, 274345 + s1 + s2) := by
  refine xR_u (stop := 601) 40 12 _ _ rfl ?_
  refine xR_call rfl rfl rfl rfl r1 ?_
  refine xR_u (stop := 611) 40 12 _ _ rfl ?_
  refine xR_cv [.int (xs 1)] [.long v] rfl rfl rfl hs rfl r2 ?_
  refine xR_u (stop := 615) 40 12 _ _ rfl ?_
  have e : lg_cmp v v = 0 := by unfold lg_cmp; rw [if_neg (by intro z; exact lg_lt_not z z), if_pos rfl]
  rw [e]
  refine xR_if rfl (fun _ => lw_end xs h2 _ _) (fun z => ?_)
  simp [xe_c] at z
theorem lw_13 (xs : Nat → Int32) {v : Int32} {h1 h2 : xh_H} {c1 s1 c2 s2 : Nat} (r1 : xR none 11 xi_X9_ally xmi_X9_ally (0, lv_args 0 [.ref 0, .int (xs 1)], [], xf_h, 0, 0) (some (.int v), h1, c1, s1)) (hs : h1.1[39]? = some (0, 10)) (r2 : xR none 11 xi_X10_ally xmi_X10_ally (0, lv_args 0 [.ref 39, .int (xs 1)], [], h1, 0, 0) (some (.int v), h2, c2, s2)) : xR (some (6, xs)) 12 xi_L_law xmi_L_law (620, xf_lv, [], xf_h, 72, 274345) (some (.int 1), h2, 72 + c1 + c2, 274345 + s1 + s2) := by
  refine xR_u (stop := 627) 40 12 _ _ rfl ?_
  refine xR_call rfl rfl rfl rfl r1 ?_
  refine xR_u (stop := 637) 40 12 _ _ rfl ?_
  refine xR_cv [.int (xs 1)] [.int v] rfl rfl rfl hs rfl r2 ?_
  refine xR_ic rfl (fun _ => lw_end xs h2 _ _) (fun z => ?_)
  simp [xe_c] at z
theorem lw_14 (xs : Nat → Int32) {v : Int32} {h1 h2 : xh_H} {c1 s1 c2 s2 : Nat} (r1 : xR none 11 xi_X9_weigh xmi_X9_weigh (0, lv_args 0 [.ref 0], [], xf_h, 0, 0) (some (.int v), h1, c1, s1)) (hs : h1.1[39]? = some (0, 10)) (r2 : xR none 11 xi_X10_weigh xmi_X10_weigh (0, lv_args 0 [.ref 39], [], h1, 0, 0) (some (.int v), h2, c2, s2)) : xR (some (6, xs)) 12 xi_L_law xmi_L_law (645, xf_lv, [], xf_h, 72, 274345) (some (.int 1), h2, 72 + c1 + c2, 274345 + s1 + s2) := by
  refine xR_u (stop := 646) 40 12 _ _ rfl ?_
  refine xR_call rfl rfl rfl rfl r1 ?_
  refine xR_u (stop := 650) 40 12 _ _ rfl ?_
  refine xR_cv [] [.int v] rfl rfl rfl hs rfl r2 ?_
  refine xR_ic rfl (fun _ => lw_end xs h2 _ _) (fun z => ?_)
  simp [xe_c] at z
theorem lw_15 (xs : Nat → Int32) {v : Int32} {h1 h2 : xh_H} {c1 s1 c2 s2 : Nat} (r1 : xR none 11 xi_X9_weight xmi_X9_weight (0, lv_args 0 [.ref 0, .int (xs 1)], [], xf_h, 0, 0) (some (.int v), h1, c1, s1)) (hs : h1.1[39]? = some (0, 10)) (r2 : xR none 11 xi_X10_weight xmi_X10_weight (0, lv_args 0 [.ref 39, .int (xs 1)], [], h1, 0, 0) (some (.int v), h2, c2, s2)) : xR (some (6, xs)) 12 xi_L_law xmi_L_law (658, xf_lv, [], xf_h, 72, 274345) (some (.int 1), h2, 72 + c1 + c2, 274345 + s1 + s2) := by
  refine xR_u (stop := 665) 40 12 _ _ rfl ?_
  refine xR_call rfl rfl rfl rfl r1 ?_
  refine xR_u (stop := 675) 40 12 _ _ rfl ?_
  refine xR_cv [.int (xs 1)] [.int v] rfl rfl rfl hs rfl r2 ?_
  refine xR_ic rfl (fun _ => lw_end xs h2 _ _) (fun z => ?_)
  simp [xe_c] at z
theorem lw_16 (xs : Nat → Int32) {v : Int32} {h1 h2 : xh_H} {c1 s1 c2 s2 : Nat} (r1 : xR none 11 xi_X9_rank xmi_X9_rank (0, lv_args 0 [.ref 0, .int (xs 1)], [], xf_h, 0, 0) (some (.int v), h1, c1, s1)) (hs : h1.1[39]? = some (0, 10)) (r2 : xR none 11 xi_X10_rank xmi_X10_rank (0, lv_args 0 [.ref 39, .int (xs 1)], [], h1, 0, 0) (some (.int v), h2, c2, s2)) : xR (some (6, xs)) 12 xi_L_law xmi_L_law (683, xf_lv, [], xf_h, 72, 274345) (some (.int 1), h2, 72 + c1 + c2, 274345 + s1 + s2) := by
  refine xR_u (stop := 690) 40 12 _ _ rfl ?_
  refine xR_call rfl rfl rfl rfl r1 ?_
  refine xR_u (stop := 700) 40 12 _ _ rfl ?_
  refine xR_cv [.int (xs 1)] [.int v] rfl rfl rfl hs rfl r2 ?_
  refine xR_ic rfl (fun _ => lw_end xs h2 _ _) (fun z => ?_)
  simp [xe_c] at z
theorem lw_17 (xs : Nat → Int32) {v : Int32} {h1 h2 : xh_H} {c1 s1 c2 s2 : Nat} (r1 : xR none 11 xi_X9_beats xmi_X9_beats (0, lv_args 0 [.ref 0, .int (xs 1), .int (xs 2)], [], xf_h, 0, 0) (some (.int v), h1, c1, s1)) (hs : h1.1[39]? = some (0, 10)) (r2 : xR none 11 xi_X10_beats xmi_X10_beats (0, lv_args 0 [.ref 39, .int (xs 1), .int (xs 2)], [], h1, 0, 0) (some (.int v), h2, c2, s2)) : xR (some (6, xs)) 12 xi_L_law xmi_L_law (708, xf_lv, [], xf_h, 72, 274345) (some (.int 1), h2, 72 + c1 + c2, 274345 + s1 + s2) := by
  refine xR_u (stop := 721) 40 12 _ _ rfl ?_
  refine xR_call rfl rfl rfl rfl r1 ?_
  refine xR_u (stop := 737) 40 12 _ _ rfl ?_
  refine xR_cv [.int (xs 1), .int (xs 2)] [.int v] rfl rfl rfl hs rfl r2 ?_
  refine xR_ic rfl (fun _ => lw_end xs h2 _ _) (fun z => ?_)
  simp [xe_c] at z
theorem lw_18 (xs : Nat → Int32) {v : Int32} {h1 h2 : xh_H} {c1 s1 c2 s2 : Nat} (r1 : xR none 11 xi_X9_free xmi_X9_free (0, lv_args 0 [.ref 0], [], xf_h, 0, 0) (some (.int v), h1, c1, s1)) (hs : h1.1[39]? = some (0, 10)) (r2 : xR none 11 xi_X10_free xmi_X10_free (0, lv_args 0 [.ref 39], [], h1, 0, 0) (some (.int v), h2, c2, s2)) : xR (some (6, xs)) 12 xi_L_law xmi_L_law (745, xf_lv, [], xf_h, 72, 274345) (some (.int 1), h2, 72 + c1 + c2, 274345 + s1 + s2) := by
  refine xR_u (stop := 746) 40 12 _ _ rfl ?_
  refine xR_call rfl rfl rfl rfl r1 ?_
  refine xR_u (stop := 750) 40 12 _ _ rfl ?_
  refine xR_cv [] [.int v] rfl rfl rfl hs rfl r2 ?_
  refine xR_ic rfl (fun _ => lw_end xs h2 _ _) (fun z => ?_)
  simp [xe_c] at z
theorem lw_19 (xs : Nat → Int32) {v : Int32} {h1 h2 : xh_H} {c1 s1 c2 s2 : Nat} (r1 : xR none 11 xi_X9_top xmi_X9_top (0, lv_args 0 [.ref 0], [], xf_h, 0, 0) (some (.int v), h1, c1, s1)) (hs : h1.1[39]? = some (0, 10)) (r2 : xR none 11 xi_X10_top xmi_X10_top (0, lv_args 0 [.ref 39], [], h1, 0, 0) (some (.int v), h2, c2, s2)) : xR (some (6, xs)) 12 xi_L_law xmi_L_law (758, xf_lv, [], xf_h, 72, 274345) (some (.int 1), h2, 72 + c1 + c2, 274345 + s1 + s2) := by
  refine xR_u (stop := 759) 40 12 _ _ rfl ?_
  refine xR_call rfl rfl rfl rfl r1 ?_
  refine xR_u (stop := 763) 40 12 _ _ rfl ?_
  refine xR_cv [] [.int v] rfl rfl rfl hs rfl r2 ?_
  refine xR_ic rfl (fun _ => lw_end xs h2 _ _) (fun z => ?_)
  simp [xe_c] at z
theorem lw_21 (xs : Nat → Int32) {v : Int32} {h1 h2 : xh_H} {c1 s1 c2 s2 : Nat} (r1 : xR none 11 xi_X9_rows xmi_X9_rows (0, lv_args 0 [.ref 0, .int (xs 1)], [], xf_h, 0, 0) (some (.int v), h1, c1, s1)) (hs : h1.1[39]? = some (0, 10)) (r2 : xR none 11 xi_X10_rows xmi_X10_rows (0, lv_args 0 [.ref 39, .int (xs 1)], [], h1, 0, 0) (some (.int v), h2, c2, s2)) : xR (some (6, xs)) 12 xi_L_law xmi_L_law (812, xf_lv, [], xf_h, 72, 274345) (some (.int 1), h2, 72 + c1 + c2, 274345 + s1 + s2) := by
  refine xR_u (stop := 819) 40 12 _ _ rfl ?_
  refine xR_call rfl rfl rfl rfl r1 ?_
  refine xR_u (stop := 829) 40 12 _ _ rfl ?_
  refine xR_cv [.int (xs 1)] [.int v] rfl rfl rfl hs rfl r2 ?_
  refine xR_ic rfl (fun _ => lw_end xs h2 _ _) (fun z => ?_)
  simp [xe_c] at z
theorem lw_22 (xs : Nat → Int32) {v : Int32} {h1 h2 : xh_H} {c1 s1 c2 s2 : Nat} (r1 : xR none 11 xi_X9_rowAt xmi_X9_rowAt (0, lv_args 0 [.ref 0, .int (xs 1)], [], xf_h, 0, 0) (some (.int v), h1, c1, s1)) (hs : h1.1[39]? = some (0, 10)) (r2 : xR none 11 xi_X10_rowAt xmi_X10_rowAt (0, lv_args 0 [.ref 39, .int (xs 1)], [], h1, 0, 0) (some (.int v), h2, c2, s2)) : xR (some (6, xs)) 12 xi_L_law xmi_L_law (837, xf_lv, [], xf_h, 72, 274345) (some (.int 1), h2, 72 + c1 + c2, 274345 + s1 + s2) := by
  refine xR_u (stop := 844) 40 12 _ _ rfl ?_
  refine xR_call rfl rfl rfl rfl r1 ?_
  refine xR_u (stop := 854) 40 12 _ _ rfl ?_
  refine xR_cv [.int (xs 1)] [.int v] rfl rfl rfl hs rfl r2 ?_
  refine xR_ic rfl (fun _ => lw_end xs h2 _ _) (fun z => ?_)
  simp [xe_c] at z
theorem lw_24 (xs : Nat → Int32) {v : Int32} {h1 h2 : xh_H} {c1 s1 c2 s2 : Nat} (r1 : xR none 11 xi_X9_unfit xmi_X9_unfit (0, lv_args 0 [.ref 0, .int (xs 1)], [], xf_h, 0, 0) (some (.int v), h1, c1, s1)) (hs : h1.1[39]? = some (0, 10)) (r2 : xR none 11 xi_X10_unfit xmi_X10_unfit (0, lv_args 0 [.ref 39, .int (xs 1)], [], h1, 0, 0) (some (.int v), h2, c2, s2)) : xR (some (6, xs)) 12 xi_L_law xmi_L_law (915, xf_lv, [], xf_h, 72, 274345) (some (.int 1), h2, 72 + c1 + c2, 274345 + s1 + s2) := by
  refine xR_u (stop := 922) 40 12 _ _ rfl ?_
  refine xR_call rfl rfl rfl rfl r1 ?_
  refine xR_u (stop := 932) 40 12 _ _ rfl ?_
  refine xR_cv [.int (xs 1)] [.int v] rfl rfl rfl hs rfl r2 ?_
  refine xR_ic rfl (fun _ => lw_end xs h2 _ _) (fun z => ?_)
  simp [xe_c] at z
theorem lw_25 (xs : Nat → Int32) {v : Int32} {h1 h2 : xh_H} {c1 s1 c2 s2 : Nat} (r1 : xR none 11 xi_X9_sure xmi_X9_sure (0, lv_args 0 [.ref 0, .int (xs 1), .int (xs 2)], [], xf_h, 0, 0) (some (.int v), h1, c1, s1)) (hs : h1.1[39]? = some (0, 10)) (r2 : xR none 11 xi_X10_sure xmi_X10_sure (0, lv_args 0 [.ref 39, .int (xs 1), .int (xs 2)], [], h1, 0, 0) (some (.int v), h2, c2, s2)) : xR (some (6, xs)) 12 xi_L_law xmi_L_law (940, xf_lv, [], xf_h, 72, 274345) (some (.int 1), h2, 72 + c1 + c2, 274345 + s1 + s2) := by
  refine xR_u (stop := 953) 40 12 _ _ rfl ?_
  refine xR_call rfl rfl rfl rfl r1 ?_
  refine xR_u (stop := 969) 40 12 _ _ rfl ?_
  refine xR_cv [.int (xs 1), .int (xs 2)] [.int v] rfl rfl rfl hs rfl r2 ?_
  refine xR_ic rfl (fun _ => lw_end xs h2 _ _) (fun z => ?_)
  simp [xe_c] at z
theorem lw_26 (xs : Nat → Int32) {v : Int32} {h1 h2 : xh_H} {c1 s1 c2 s2 : Nat} (r1 : xR none 11 xi_X9_open xmi_X9_open (0, lv_args 0 [.ref 0, .int (xs 1)], [], xf_h, 0, 0) (some (.int v), h1, c1, s1)) (hs : h1.1[39]? = some (0, 10)) (r2 : xR none 11 xi_X10_open xmi_X10_open (0, lv_args 0 [.ref 39, .int (xs 1)], [], h1, 0, 0) (some (.int v), h2, c2, s2)) : xR (some (6, xs)) 12 xi_L_law xmi_L_law (977, xf_lv, [], xf_h, 72, 274345) (some (.int 1), h2, 72 + c1 + c2, 274345 + s1 + s2) := by
  refine xR_u (stop := 984) 40 12 _ _ rfl ?_
  refine xR_call rfl rfl rfl rfl r1 ?_
  refine xR_u (stop := 994) 40 12 _ _ rfl ?_
  refine xR_cv [.int (xs 1)] [.int v] rfl rfl rfl hs rfl r2 ?_
  refine xR_ic rfl (fun _ => lw_end xs h2 _ _) (fun z => ?_)
  simp [xe_c] at z
theorem lw_27 (xs : Nat → Int32) {v : Int32} {h1 h2 : xh_H} {c1 s1 c2 s2 : Nat} (r1 : xR none 11 xi_X9_count xmi_X9_count (0, lv_args 0 [.ref 0, .int (xs 1)], [], xf_h, 0, 0) (some (.int v), h1, c1, s1)) (hs : h1.1[39]? = some (0, 10)) (r2 : xR none 11 xi_X10_count xmi_X10_count (0, lv_args 0 [.ref 39, .int (xs 1)], [], h1, 0, 0) (some (.int v), h2, c2, s2)) : xR (some (6, xs)) 12 xi_L_law xmi_L_law (1002, xf_lv, [], xf_h, 72, 274345) (some (.int 1), h2, 72 + c1 + c2, 274345 + s1 + s2) := by
  refine xR_u (stop := 1009) 40 12 _ _ rfl ?_
  refine xR_call rfl rfl rfl rfl r1 ?_
  refine xR_u (stop := 1019) 40 12 _ _ rfl ?_
  refine xR_cv [.int (xs 1)] [.int v] rfl rfl rfl hs rfl r2 ?_
  refine xR_ic rfl (fun _ => lw_end xs h2 _ _) (fun z => ?_)
  simp [xe_c] at z
end XLW
