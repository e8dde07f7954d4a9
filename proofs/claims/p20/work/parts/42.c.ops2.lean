section XLQ
variable {L i : Nat} {xs : Nat → Int32} {h : xh_H} {c s : Nat}
set_option maxRecDepth 100000 in
set_option maxHeartbeats 4000000 in
/-- weigh -/
theorem lo_14 (hL : L ≤ 3072) (hi6 : i + 6 ≤ L) (I : lc_I h) : lo_P L xs i 617 h c s := by
  obtain ⟨x1, h1, r1, I1⟩ := lc_P (D := 49) (m := xmi_X9_weigh) (A := [.ref 0]) I as_m_X9_weigh rfl (by decide) ⟨a_av (by decide) I.2.1, trivial⟩ rfl rfl rfl (by decide +kernel) (show List.Nodup [0] by decide) (fun f => lp_weigh (f := f) I)
  obtain ⟨x2, h2, r2, I2⟩ := lc_1 (D := 49) (m := xmi_X10_weigh) (A := [.ref 39]) I1 as_r_X10_weigh rfl (by decide) ⟨a_av (by decide) I1.2.1, trivial⟩ rfl rfl rfl (by decide +kernel) rfl (by decide +kernel)
  refine ⟨h2, c, s, ?_, I2, by omega, by omega⟩
  refine xV_step (o1 := (618, lc_v i, [.ref 0], h, c, s)) rfl rfl rfl rfl ?_
  refine xV_call (d := 49) rfl rfl rfl rfl (xa_c_ok (d := 49) (pc := 618) (lv := lc_v i) (nL := 8) (lc_Iq I) rfl).1 r1 ?_
  refine xV_step (o1 := (622, lc_v i, [], h1, c, s)) rfl rfl rfl rfl ?_
  refine xV_step (o1 := (623, lc_v i, [.ref 39], h1, c, s)) rfl rfl rfl rfl ?_
  refine xV_call (d := 49) rfl rfl rfl rfl (xa_c_ok (d := 49) (pc := 623) (lv := lc_v i) (nL := 8) (lc_Iq I1) rfl).1 r2 ?_
  refine xV_step (o1 := (627, lc_v i, [], h2, c, s)) rfl rfl rfl rfl ?_
  refine xV_step (o1 := (999, lc_v i, [], h2, c, s)) rfl rfl rfl rfl ?_
  exact xV_stop
set_option maxRecDepth 100000 in
set_option maxHeartbeats 4000000 in
/-- weight -/
theorem lo_15 (hL : L ≤ 3072) (hi6 : i + 6 ≤ L) (I : lc_I h) : lo_P L xs i 630 h c s := by
  obtain ⟨x1, h1, r1, I1⟩ := lc_1 (D := 49) (m := xmi_X9_weight) (A := [.ref 0, .int (xs (i + 1))]) I as_m_X9_weight rfl (by decide) ⟨a_av (by decide) I.2.1, a_an, trivial⟩ rfl rfl rfl (by decide +kernel) rfl (by decide +kernel)
  obtain ⟨x2, h2, r2, I2⟩ := lc_1 (D := 49) (m := xmi_X10_weight) (A := [.ref 39, .int (xs (i + 1))]) I1 as_m_X10_weight rfl (by decide) ⟨a_av (by decide) I1.2.1, a_an, trivial⟩ rfl rfl rfl (by decide +kernel) rfl (by decide +kernel)
  refine ⟨h2, c, s, ?_, I2, by omega, by omega⟩
  refine xV_step (o1 := (631, lc_v i, [.ref 0], h, c, s)) rfl rfl rfl rfl ?_
  refine xV_arg 1 1 rfl (by omega) hL rfl rfl rfl rfl rfl rfl rfl rfl rfl rfl ?_
  refine xV_call (d := 49) rfl rfl rfl rfl (xa_c_ok (d := 49) (pc := 637) (lv := lc_v i) (nL := 8) (lc_Iq I) rfl).1 r1 ?_
  refine xV_step (o1 := (641, lc_v i, [], h1, c, s)) rfl rfl rfl rfl ?_
  refine xV_step (o1 := (642, lc_v i, [.ref 39], h1, c, s)) rfl rfl rfl rfl ?_
  refine xV_arg 1 1 rfl (by omega) hL rfl rfl rfl rfl rfl rfl rfl rfl rfl rfl ?_
  refine xV_call (d := 49) rfl rfl rfl rfl (xa_c_ok (d := 49) (pc := 648) (lv := lc_v i) (nL := 8) (lc_Iq I1) rfl).1 r2 ?_
  refine xV_step (o1 := (652, lc_v i, [], h2, c, s)) rfl rfl rfl rfl ?_
  refine xV_step (o1 := (999, lc_v i, [], h2, c, s)) rfl rfl rfl rfl ?_
  exact xV_stop
set_option maxRecDepth 100000 in
set_option maxHeartbeats 4000000 in
/-- rows -/
theorem lo_21 (hL : L ≤ 3072) (hi6 : i + 6 ≤ L) (I : lc_I h) : lo_P L xs i 784 h c s := by
  obtain ⟨x1, h1, r1, I1⟩ := lc_1 (D := 49) (m := xmi_X9_rows) (A := [.ref 0, .int (xs (i + 1))]) I as_m_X9_rows rfl (by decide) ⟨a_av (by decide) I.2.1, a_an, trivial⟩ rfl rfl rfl (by decide +kernel) rfl (by decide +kernel)
  obtain ⟨x2, h2, r2, I2⟩ := lc_1 (D := 49) (m := xmi_X10_rows) (A := [.ref 39, .int (xs (i + 1))]) I1 as_r_X10_rows rfl (by decide) ⟨a_av (by decide) I1.2.1, a_an, trivial⟩ rfl rfl rfl (by decide +kernel) rfl (by decide +kernel)
  refine ⟨h2, c, s, ?_, I2, by omega, by omega⟩
  refine xV_step (o1 := (785, lc_v i, [.ref 0], h, c, s)) rfl rfl rfl rfl ?_
  refine xV_arg 1 1 rfl (by omega) hL rfl rfl rfl rfl rfl rfl rfl rfl rfl rfl ?_
  refine xV_call (d := 49) rfl rfl rfl rfl (xa_c_ok (d := 49) (pc := 791) (lv := lc_v i) (nL := 8) (lc_Iq I) rfl).1 r1 ?_
  refine xV_step (o1 := (795, lc_v i, [], h1, c, s)) rfl rfl rfl rfl ?_
  refine xV_step (o1 := (796, lc_v i, [.ref 39], h1, c, s)) rfl rfl rfl rfl ?_
  refine xV_arg 1 1 rfl (by omega) hL rfl rfl rfl rfl rfl rfl rfl rfl rfl rfl ?_
  refine xV_call (d := 49) rfl rfl rfl rfl (xa_c_ok (d := 49) (pc := 802) (lv := lc_v i) (nL := 8) (lc_Iq I1) rfl).1 r2 ?_
  refine xV_step (o1 := (806, lc_v i, [], h2, c, s)) rfl rfl rfl rfl ?_
  refine xV_step (o1 := (999, lc_v i, [], h2, c, s)) rfl rfl rfl rfl ?_
  exact xV_stop
set_option maxRecDepth 100000 in
set_option maxHeartbeats 4000000 in
/-- rowAt -/
theorem lo_22 (hL : L ≤ 3072) (hi6 : i + 6 ≤ L) (I : lc_I h) : lo_P L xs i 809 h c s := by
  obtain ⟨x1, h1, r1, I1⟩ := lc_1 (D := 49) (m := xmi_X9_rowAt) (A := [.ref 0, .int (xs (i + 1))]) I as_m_X9_rowAt rfl (by decide) ⟨a_av (by decide) I.2.1, a_an, trivial⟩ rfl rfl rfl (by decide +kernel) rfl (by decide +kernel)
  obtain ⟨x2, h2, r2, I2⟩ := lc_1 (D := 49) (m := xmi_X10_rowAt) (A := [.ref 39, .int (xs (i + 1))]) I1 as_m_X10_rowAt rfl (by decide) ⟨a_av (by decide) I1.2.1, a_an, trivial⟩ rfl rfl rfl (by decide +kernel) rfl (by decide +kernel)
  refine ⟨h2, c, s, ?_, I2, by omega, by omega⟩
  refine xV_step (o1 := (810, lc_v i, [.ref 0], h, c, s)) rfl rfl rfl rfl ?_
  refine xV_arg 1 1 rfl (by omega) hL rfl rfl rfl rfl rfl rfl rfl rfl rfl rfl ?_
  refine xV_call (d := 49) rfl rfl rfl rfl (xa_c_ok (d := 49) (pc := 816) (lv := lc_v i) (nL := 8) (lc_Iq I) rfl).1 r1 ?_
  refine xV_step (o1 := (820, lc_v i, [], h1, c, s)) rfl rfl rfl rfl ?_
  refine xV_step (o1 := (821, lc_v i, [.ref 39], h1, c, s)) rfl rfl rfl rfl ?_
  refine xV_arg 1 1 rfl (by omega) hL rfl rfl rfl rfl rfl rfl rfl rfl rfl rfl ?_
  refine xV_call (d := 49) rfl rfl rfl rfl (xa_c_ok (d := 49) (pc := 827) (lv := lc_v i) (nL := 8) (lc_Iq I1) rfl).1 r2 ?_
  refine xV_step (o1 := (831, lc_v i, [], h2, c, s)) rfl rfl rfl rfl ?_
  refine xV_step (o1 := (999, lc_v i, [], h2, c, s)) rfl rfl rfl rfl ?_
  exact xV_stop
end XLQ
