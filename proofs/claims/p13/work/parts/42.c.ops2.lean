section XLQ
variable {L i : Nat} {xs : Nat → Int32} {h : xh_H} {c s : Nat}
set_option maxRecDepth 100000 in
set_option maxHeartbeats 4000000 in
/-- weigh -/
theorem lo_14 (hL : L ≤ 3072) (hi6 : i + 6 ≤ L) (I : lc_I h) : lo_P L xs i 644 h c s := by
  obtain ⟨x1, h1, r1, I1⟩ := lc_P (D := 49) (m := xmi_X9_weigh) (A := [.ref 0]) I as_m_X9_weigh rfl (by decide) ⟨a_av (by decide) I.2.1, trivial⟩ rfl rfl rfl (by decide +kernel) (show List.Nodup [0] by decide) (fun f => lp_weigh (f := f) I)
  obtain ⟨x2, h2, r2, I2⟩ := lc_1 (D := 49) (m := xmi_X10_weigh) (A := [.ref 39]) I1 as_r_X10_weigh rfl (by decide) ⟨a_av (by decide) I1.2.1, trivial⟩ rfl rfl rfl (by decide +kernel) rfl (by decide +kernel)
  refine ⟨h2, c, s, ?_, I2, by omega, by omega⟩
  refine xV_step (o1 := (645, lc_v i, [.ref 0], h, c, s)) rfl rfl rfl rfl ?_
  refine xV_call (d := 49) rfl rfl rfl rfl (xa_c_ok (d := 49) (pc := 645) (lv := lc_v i) (nL := 8) (lc_Iq I) rfl).1 r1 ?_
  refine xV_step (o1 := (649, lc_v i, [], h1, c, s)) rfl rfl rfl rfl ?_
  refine xV_step (o1 := (650, lc_v i, [.ref 39], h1, c, s)) rfl rfl rfl rfl ?_
  refine xV_call (d := 49) rfl rfl rfl rfl (xa_c_ok (d := 49) (pc := 650) (lv := lc_v i) (nL := 8) (lc_Iq I1) rfl).1 r2 ?_
  refine xV_step (o1 := (654, lc_v i, [], h2, c, s)) rfl rfl rfl rfl ?_
  refine xV_step (o1 := (1026, lc_v i, [], h2, c, s)) rfl rfl rfl rfl ?_
  exact xV_stop
set_option maxRecDepth 100000 in
set_option maxHeartbeats 4000000 in
/-- weight -/
theorem lo_15 (hL : L ≤ 3072) (hi6 : i + 6 ≤ L) (I : lc_I h) : lo_P L xs i 657 h c s := by
  obtain ⟨x1, h1, r1, I1⟩ := lc_1 (D := 49) (m := xmi_X9_weight) (A := [.ref 0, .int (xs (i + 1))]) I as_m_X9_weight rfl (by decide) ⟨a_av (by decide) I.2.1, a_an, trivial⟩ rfl rfl rfl (by decide +kernel) rfl (by decide +kernel)
  obtain ⟨x2, h2, r2, I2⟩ := lc_1 (D := 49) (m := xmi_X10_weight) (A := [.ref 39, .int (xs (i + 1))]) I1 as_m_X10_weight rfl (by decide) ⟨a_av (by decide) I1.2.1, a_an, trivial⟩ rfl rfl rfl (by decide +kernel) rfl (by decide +kernel)
  refine ⟨h2, c, s, ?_, I2, by omega, by omega⟩
  refine xV_step (o1 := (658, lc_v i, [.ref 0], h, c, s)) rfl rfl rfl rfl ?_
  refine xV_arg 1 1 rfl (by omega) hL rfl rfl rfl rfl rfl rfl rfl rfl rfl rfl ?_
  refine xV_call (d := 49) rfl rfl rfl rfl (xa_c_ok (d := 49) (pc := 664) (lv := lc_v i) (nL := 8) (lc_Iq I) rfl).1 r1 ?_
  refine xV_step (o1 := (668, lc_v i, [], h1, c, s)) rfl rfl rfl rfl ?_
  refine xV_step (o1 := (669, lc_v i, [.ref 39], h1, c, s)) rfl rfl rfl rfl ?_
  refine xV_arg 1 1 rfl (by omega) hL rfl rfl rfl rfl rfl rfl rfl rfl rfl rfl ?_
  refine xV_call (d := 49) rfl rfl rfl rfl (xa_c_ok (d := 49) (pc := 675) (lv := lc_v i) (nL := 8) (lc_Iq I1) rfl).1 r2 ?_
  refine xV_step (o1 := (679, lc_v i, [], h2, c, s)) rfl rfl rfl rfl ?_
  refine xV_step (o1 := (1026, lc_v i, [], h2, c, s)) rfl rfl rfl rfl ?_
  exact xV_stop
set_option maxRecDepth 100000 in
set_option maxHeartbeats 4000000 in
/-- rows -/
theorem lo_21 (hL : L ≤ 3072) (hi6 : i + 6 ≤ L) (I : lc_I h) : lo_P L xs i 811 h c s := by
  obtain ⟨x1, h1, r1, I1⟩ := lc_1 (D := 49) (m := xmi_X9_rows) (A := [.ref 0, .int (xs (i + 1))]) I as_m_X9_rows rfl (by decide) ⟨a_av (by decide) I.2.1, a_an, trivial⟩ rfl rfl rfl (by decide +kernel) rfl (by decide +kernel)
  obtain ⟨x2, h2, r2, I2⟩ := lc_1 (D := 49) (m := xmi_X10_rows) (A := [.ref 39, .int (xs (i + 1))]) I1 as_r_X10_rows rfl (by decide) ⟨a_av (by decide) I1.2.1, a_an, trivial⟩ rfl rfl rfl (by decide +kernel) rfl (by decide +kernel)
  refine ⟨h2, c, s, ?_, I2, by omega, by omega⟩
  refine xV_step (o1 := (812, lc_v i, [.ref 0], h, c, s)) rfl rfl rfl rfl ?_
  refine xV_arg 1 1 rfl (by omega) hL rfl rfl rfl rfl rfl rfl rfl rfl rfl rfl ?_
  refine xV_call (d := 49) rfl rfl rfl rfl (xa_c_ok (d := 49) (pc := 818) (lv := lc_v i) (nL := 8) (lc_Iq I) rfl).1 r1 ?_
  refine xV_step (o1 := (822, lc_v i, [], h1, c, s)) rfl rfl rfl rfl ?_
  refine xV_step (o1 := (823, lc_v i, [.ref 39], h1, c, s)) rfl rfl rfl rfl ?_
  refine xV_arg 1 1 rfl (by omega) hL rfl rfl rfl rfl rfl rfl rfl rfl rfl rfl ?_
  refine xV_call (d := 49) rfl rfl rfl rfl (xa_c_ok (d := 49) (pc := 829) (lv := lc_v i) (nL := 8) (lc_Iq I1) rfl).1 r2 ?_
  refine xV_step (o1 := (833, lc_v i, [], h2, c, s)) rfl rfl rfl rfl ?_
  refine xV_step (o1 := (1026, lc_v i, [], h2, c, s)) rfl rfl rfl rfl ?_
  exact xV_stop
set_option maxRecDepth 100000 in
set_option maxHeartbeats 4000000 in
/-- rowAt -/
theorem lo_22 (hL : L ≤ 3072) (hi6 : i + 6 ≤ L) (I : lc_I h) : lo_P L xs i 836 h c s := by
  obtain ⟨x1, h1, r1, I1⟩ := lc_1 (D := 49) (m := xmi_X9_rowAt) (A := [.ref 0, .int (xs (i + 1))]) I as_m_X9_rowAt rfl (by decide) ⟨a_av (by decide) I.2.1, a_an, trivial⟩ rfl rfl rfl (by decide +kernel) rfl (by decide +kernel)
  obtain ⟨x2, h2, r2, I2⟩ := lc_1 (D := 49) (m := xmi_X10_rowAt) (A := [.ref 39, .int (xs (i + 1))]) I1 as_m_X10_rowAt rfl (by decide) ⟨a_av (by decide) I1.2.1, a_an, trivial⟩ rfl rfl rfl (by decide +kernel) rfl (by decide +kernel)
  refine ⟨h2, c, s, ?_, I2, by omega, by omega⟩
  refine xV_step (o1 := (837, lc_v i, [.ref 0], h, c, s)) rfl rfl rfl rfl ?_
  refine xV_arg 1 1 rfl (by omega) hL rfl rfl rfl rfl rfl rfl rfl rfl rfl rfl ?_
  refine xV_call (d := 49) rfl rfl rfl rfl (xa_c_ok (d := 49) (pc := 843) (lv := lc_v i) (nL := 8) (lc_Iq I) rfl).1 r1 ?_
  refine xV_step (o1 := (847, lc_v i, [], h1, c, s)) rfl rfl rfl rfl ?_
  refine xV_step (o1 := (848, lc_v i, [.ref 39], h1, c, s)) rfl rfl rfl rfl ?_
  refine xV_arg 1 1 rfl (by omega) hL rfl rfl rfl rfl rfl rfl rfl rfl rfl rfl ?_
  refine xV_call (d := 49) rfl rfl rfl rfl (xa_c_ok (d := 49) (pc := 854) (lv := lc_v i) (nL := 8) (lc_Iq I1) rfl).1 r2 ?_
  refine xV_step (o1 := (858, lc_v i, [], h2, c, s)) rfl rfl rfl rfl ?_
  refine xV_step (o1 := (1026, lc_v i, [], h2, c, s)) rfl rfl rfl rfl ?_
  exact xV_stop
end XLQ
