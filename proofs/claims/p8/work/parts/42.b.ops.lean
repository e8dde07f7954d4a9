section XLO
variable {L i : Nat} {xs : Nat → Int32} {h : xh_H} {c s : Nat}
set_option maxRecDepth 100000 in
set_option maxHeartbeats 4000000 in
/-- many -/
theorem lo_7 (hL : L ≤ 3072) (hi6 : i + 6 ≤ L) (I : lc_I h) : lo_P L xs i 391 h c s := by
  obtain ⟨x1, h1, r1, I1⟩ := lc_1 (D := 49) (m := xmi_X9_many) (A := [.ref 0, .int (xs (i + 1))]) I as_m_X9_many rfl (by decide) ⟨a_av (by decide) I.2.1, a_an, trivial⟩ rfl rfl rfl (by decide +kernel)
  obtain ⟨x2, h2, r2, I2⟩ := lc_1 (D := 49) (m := xmi_X10_many) (A := [.ref 39, .int (xs (i + 1))]) I1 as_m_X10_many rfl (by decide) ⟨a_av (by decide) I1.2.1, a_an, trivial⟩ rfl rfl rfl (by decide +kernel)
  refine ⟨h2, c, s, ?_, I2, by omega, by omega⟩
  refine xV_step (o1 := (392, lc_v i, [.ref 0], h, c, s)) rfl rfl rfl rfl ?_
  refine xV_arg 1 1 rfl (by omega) hL rfl rfl rfl rfl rfl rfl rfl rfl rfl rfl ?_
  refine xV_call (d := 49) rfl rfl rfl rfl (xa_c_ok (d := 49) (pc := 398) (lv := lc_v i) (nL := 8) (lc_Iq I) rfl).1 r1 ?_
  refine xV_step (o1 := (402, lc_v i, [], h1, c, s)) rfl rfl rfl rfl ?_
  refine xV_step (o1 := (403, lc_v i, [.ref 39], h1, c, s)) rfl rfl rfl rfl ?_
  refine xV_arg 1 1 rfl (by omega) hL rfl rfl rfl rfl rfl rfl rfl rfl rfl rfl ?_
  refine xV_call (d := 49) rfl rfl rfl rfl (xa_c_ok (d := 49) (pc := 409) (lv := lc_v i) (nL := 8) (lc_Iq I1) rfl).1 r2 ?_
  refine xV_step (o1 := (413, lc_v i, [], h2, c, s)) rfl rfl rfl rfl ?_
  refine xV_step (o1 := (999, lc_v i, [], h2, c, s)) rfl rfl rfl rfl ?_
  exact xV_stop
set_option maxRecDepth 100000 in
set_option maxHeartbeats 4000000 in
/-- setAt -/
theorem lo_8 (hL : L ≤ 3072) (hi6 : i + 6 ≤ L) (I : lc_I h) : lo_P L xs i 416 h c s := by
  obtain ⟨x1, h1, r1, I1⟩ := lc_1 (D := 49) (m := xmi_X9_setAt) (A := [.ref 0, .int (xs (i + 1)), .int (xs (i + 2))]) I as_m_X9_setAt rfl (by decide) ⟨a_av (by decide) I.2.1, a_an, a_an, trivial⟩ rfl rfl rfl (by decide +kernel)
  obtain ⟨x2, h2, r2, I2⟩ := lc_1 (D := 49) (m := xmi_X10_setAt) (A := [.ref 39, .int (xs (i + 1)), .int (xs (i + 2))]) I1 as_m_X10_setAt rfl (by decide) ⟨a_av (by decide) I1.2.1, a_an, a_an, trivial⟩ rfl rfl rfl (by decide +kernel)
  refine ⟨h2, c, s, ?_, I2, by omega, by omega⟩
  refine xV_step (o1 := (417, lc_v i, [.ref 0], h, c, s)) rfl rfl rfl rfl ?_
  refine xV_arg 1 1 rfl (by omega) hL rfl rfl rfl rfl rfl rfl rfl rfl rfl rfl ?_
  refine xV_arg 2 2 rfl (by omega) hL rfl rfl rfl rfl rfl rfl rfl rfl rfl rfl ?_
  refine xV_call (d := 49) rfl rfl rfl rfl (xa_c_ok (d := 49) (pc := 429) (lv := lc_v i) (nL := 8) (lc_Iq I) rfl).1 r1 ?_
  refine xV_step (o1 := (433, lc_v i, [], h1, c, s)) rfl rfl rfl rfl ?_
  refine xV_step (o1 := (434, lc_v i, [.ref 39], h1, c, s)) rfl rfl rfl rfl ?_
  refine xV_arg 1 1 rfl (by omega) hL rfl rfl rfl rfl rfl rfl rfl rfl rfl rfl ?_
  refine xV_arg 2 2 rfl (by omega) hL rfl rfl rfl rfl rfl rfl rfl rfl rfl rfl ?_
  refine xV_call (d := 49) rfl rfl rfl rfl (xa_c_ok (d := 49) (pc := 446) (lv := lc_v i) (nL := 8) (lc_Iq I1) rfl).1 r2 ?_
  refine xV_step (o1 := (450, lc_v i, [], h2, c, s)) rfl rfl rfl rfl ?_
  refine xV_step (o1 := (999, lc_v i, [], h2, c, s)) rfl rfl rfl rfl ?_
  exact xV_stop
set_option maxRecDepth 100000 in
set_option maxHeartbeats 4000000 in
/-- stronger -/
theorem lo_9 (hL : L ≤ 3072) (hi6 : i + 6 ≤ L) (I : lc_I h) : lo_P L xs i 453 h c s := by
  obtain ⟨x1, h1, r1, I1⟩ := lc_1 (D := 49) (m := xmi_X9_stronger) (A := [.ref 0, .int (xs (i + 1)), .int (xs (i + 2))]) I as_m_X9_stronger rfl (by decide) ⟨a_av (by decide) I.2.1, a_an, a_an, trivial⟩ rfl rfl rfl (by decide +kernel)
  obtain ⟨x2, h2, r2, I2⟩ := lc_1 (D := 49) (m := xmi_X10_stronger) (A := [.ref 39, .int (xs (i + 1)), .int (xs (i + 2))]) I1 as_m_X10_stronger rfl (by decide) ⟨a_av (by decide) I1.2.1, a_an, a_an, trivial⟩ rfl rfl rfl (by decide +kernel)
  refine ⟨h2, c, s, ?_, I2, by omega, by omega⟩
  refine xV_step (o1 := (454, lc_v i, [.ref 0], h, c, s)) rfl rfl rfl rfl ?_
  refine xV_arg 1 1 rfl (by omega) hL rfl rfl rfl rfl rfl rfl rfl rfl rfl rfl ?_
  refine xV_arg 2 2 rfl (by omega) hL rfl rfl rfl rfl rfl rfl rfl rfl rfl rfl ?_
  refine xV_call (d := 49) rfl rfl rfl rfl (xa_c_ok (d := 49) (pc := 466) (lv := lc_v i) (nL := 8) (lc_Iq I) rfl).1 r1 ?_
  refine xV_step (o1 := (470, lc_v i, [], h1, c, s)) rfl rfl rfl rfl ?_
  refine xV_step (o1 := (471, lc_v i, [.ref 39], h1, c, s)) rfl rfl rfl rfl ?_
  refine xV_arg 1 1 rfl (by omega) hL rfl rfl rfl rfl rfl rfl rfl rfl rfl rfl ?_
  refine xV_arg 2 2 rfl (by omega) hL rfl rfl rfl rfl rfl rfl rfl rfl rfl rfl ?_
  refine xV_call (d := 49) rfl rfl rfl rfl (xa_c_ok (d := 49) (pc := 483) (lv := lc_v i) (nL := 8) (lc_Iq I1) rfl).1 r2 ?_
  refine xV_step (o1 := (487, lc_v i, [], h2, c, s)) rfl rfl rfl rfl ?_
  refine xV_step (o1 := (999, lc_v i, [], h2, c, s)) rfl rfl rfl rfl ?_
  exact xV_stop
set_option maxRecDepth 100000 in
set_option maxHeartbeats 4000000 in
/-- turns -/
theorem lo_10 (hL : L ≤ 3072) (hi6 : i + 6 ≤ L) (I : lc_I h) : lo_P L xs i 490 h c s := by
  obtain ⟨x1, h1, r1, I1⟩ := lc_1 (D := 49) (m := xmi_X9_turns) (A := [.ref 0, .int (xs (i + 1))]) I as_m_X9_turns rfl (by decide) ⟨a_av (by decide) I.2.1, a_an, trivial⟩ rfl rfl rfl (by decide +kernel)
  obtain ⟨x2, h2, r2, I2⟩ := lc_1 (D := 49) (m := xmi_X10_turns) (A := [.ref 39, .int (xs (i + 1))]) I1 as_m_X10_turns rfl (by decide) ⟨a_av (by decide) I1.2.1, a_an, trivial⟩ rfl rfl rfl (by decide +kernel)
  refine ⟨h2, c, s, ?_, I2, by omega, by omega⟩
  refine xV_step (o1 := (491, lc_v i, [.ref 0], h, c, s)) rfl rfl rfl rfl ?_
  refine xV_arg 1 1 rfl (by omega) hL rfl rfl rfl rfl rfl rfl rfl rfl rfl rfl ?_
  refine xV_call (d := 49) rfl rfl rfl rfl (xa_c_ok (d := 49) (pc := 497) (lv := lc_v i) (nL := 8) (lc_Iq I) rfl).1 r1 ?_
  refine xV_step (o1 := (501, lc_v i, [], h1, c, s)) rfl rfl rfl rfl ?_
  refine xV_step (o1 := (502, lc_v i, [.ref 39], h1, c, s)) rfl rfl rfl rfl ?_
  refine xV_arg 1 1 rfl (by omega) hL rfl rfl rfl rfl rfl rfl rfl rfl rfl rfl ?_
  refine xV_call (d := 49) rfl rfl rfl rfl (xa_c_ok (d := 49) (pc := 508) (lv := lc_v i) (nL := 8) (lc_Iq I1) rfl).1 r2 ?_
  refine xV_step (o1 := (512, lc_v i, [], h2, c, s)) rfl rfl rfl rfl ?_
  refine xV_step (o1 := (999, lc_v i, [], h2, c, s)) rfl rfl rfl rfl ?_
  exact xV_stop
set_option maxRecDepth 100000 in
set_option maxHeartbeats 4000000 in
/-- chance -/
theorem lo_12 (hL : L ≤ 3072) (hi6 : i + 6 ≤ L) (I : lc_I h) : lo_P L xs i 567 h c s := by
  obtain ⟨x1, h1, r1, I1⟩ := lc_ch (D := 49) (x := xs (i + 1)) I (by decide)
  obtain ⟨x2, h2, r2, I2⟩ := lc_2 (D := 49) (m := xmi_X10_chance) (A := [.ref 39, .int (xs (i + 1))]) I1 as_m_X10_chance rfl (by decide) ⟨a_av (by decide) I1.2.1, a_an, trivial⟩ rfl rfl rfl (by decide +kernel)
  refine ⟨h2, c, s, ?_, I2, by omega, by omega⟩
  refine xV_step (o1 := (568, lc_v i, [.ref 0], h, c, s)) rfl rfl rfl rfl ?_
  refine xV_arg 1 1 rfl (by omega) hL rfl rfl rfl rfl rfl rfl rfl rfl rfl rfl ?_
  refine xV_call (d := 49) rfl rfl rfl rfl (xa_c_ok (d := 49) (pc := 574) (lv := lc_v i) (nL := 8) (lc_Iq I) rfl).1 r1 ?_
  refine xV_step (o1 := (578, lc_v i, [], h1, c, s)) rfl rfl rfl rfl ?_
  refine xV_step (o1 := (579, lc_v i, [.ref 39], h1, c, s)) rfl rfl rfl rfl ?_
  refine xV_arg 1 1 rfl (by omega) hL rfl rfl rfl rfl rfl rfl rfl rfl rfl rfl ?_
  refine xV_call (d := 49) rfl rfl rfl rfl (xa_c_ok (d := 49) (pc := 585) (lv := lc_v i) (nL := 8) (lc_Iq I1) rfl).1 r2 ?_
  refine xV_step (o1 := (589, lc_v i, [], h2, c, s)) rfl rfl rfl rfl ?_
  refine xV_step (o1 := (999, lc_v i, [], h2, c, s)) rfl rfl rfl rfl ?_
  exact xV_stop
set_option maxRecDepth 100000 in
set_option maxHeartbeats 4000000 in
/-- ally -/
theorem lo_13 (hL : L ≤ 3072) (hi6 : i + 6 ≤ L) (I : lc_I h) : lo_P L xs i 592 h c s := by
  obtain ⟨x1, h1, r1, I1⟩ := lc_1 (D := 49) (m := xmi_X9_ally) (A := [.ref 0, .int (xs (i + 1))]) I as_m_X9_ally rfl (by decide) ⟨a_av (by decide) I.2.1, a_an, trivial⟩ rfl rfl rfl (by decide +kernel)
  obtain ⟨x2, h2, r2, I2⟩ := lc_1 (D := 49) (m := xmi_X10_ally) (A := [.ref 39, .int (xs (i + 1))]) I1 as_m_X10_ally rfl (by decide) ⟨a_av (by decide) I1.2.1, a_an, trivial⟩ rfl rfl rfl (by decide +kernel)
  refine ⟨h2, c, s, ?_, I2, by omega, by omega⟩
  refine xV_step (o1 := (593, lc_v i, [.ref 0], h, c, s)) rfl rfl rfl rfl ?_
  refine xV_arg 1 1 rfl (by omega) hL rfl rfl rfl rfl rfl rfl rfl rfl rfl rfl ?_
  refine xV_call (d := 49) rfl rfl rfl rfl (xa_c_ok (d := 49) (pc := 599) (lv := lc_v i) (nL := 8) (lc_Iq I) rfl).1 r1 ?_
  refine xV_step (o1 := (603, lc_v i, [], h1, c, s)) rfl rfl rfl rfl ?_
  refine xV_step (o1 := (604, lc_v i, [.ref 39], h1, c, s)) rfl rfl rfl rfl ?_
  refine xV_arg 1 1 rfl (by omega) hL rfl rfl rfl rfl rfl rfl rfl rfl rfl rfl ?_
  refine xV_call (d := 49) rfl rfl rfl rfl (xa_c_ok (d := 49) (pc := 610) (lv := lc_v i) (nL := 8) (lc_Iq I1) rfl).1 r2 ?_
  refine xV_step (o1 := (614, lc_v i, [], h2, c, s)) rfl rfl rfl rfl ?_
  refine xV_step (o1 := (999, lc_v i, [], h2, c, s)) rfl rfl rfl rfl ?_
  exact xV_stop
end XLO
