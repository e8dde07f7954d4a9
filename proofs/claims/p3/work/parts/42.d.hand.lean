section XLH
theorem fe_t6 {t : Nat} (h : t ≤ 640) : fe_t t ≤ 640 := by
  unfold fe_t
  split <;> omega
variable {L i : Nat} {xs : Nat → Int32} {h : xh_H} {c s : Nat}
set_option maxRecDepth 100000 in
set_option maxHeartbeats 4000000 in
/-- feed -/
theorem lo_0 (hL : L ≤ 3072) (hi6 : i + 6 ≤ L) (I : lc_I h) : lo_P L xs i 168 h c s := by
  obtain ⟨t, t6, e1, e2⟩ := I.2.2.2
  obtain ⟨v1, h1, r1, k1, rfl, n1⟩ := f9_run (d := 48) (a := xs (i + 1)) (b := xs (i + 2)) (c := xs (i + 3)) (d4 := xs (i + 4)) (e5 := xs (i + 5)) I.2.1 I.1 e1 t6
  have l1 : 72 ≤ h1.1.length := hk_n k1 I.2.1
  obtain ⟨v2, h2, r2, k2, rfl, n2⟩ := f10_run (d := 48) (a := xs (i + 1)) (b := xs (i + 2)) (c := xs (i + 3)) (d4 := xs (i + 4)) (e5 := xs (i + 5)) l1 k1.1 ((hk_g (c := 39) (k := 2) k1 rfl rfl).trans e2) t6
  have I2 : lc_I h2 := ⟨k2.1, hk_n k2 l1, by rw [k2.2.1, k1.2.1]; exact I.2.2.1, fe_t t, fe_t6 t6, (hk_g (c := 1) (k := 1) k2 rfl rfl).trans n1, n2⟩
  refine ⟨h2, c, s, ?_, I2, by omega, by omega⟩
  refine xV_step (o1 := (169, lc_v i, [.ref 0], h, c, s)) rfl rfl rfl rfl ?_
  refine xV_arg 1 1 rfl (by omega) hL rfl rfl rfl rfl rfl rfl rfl rfl rfl rfl ?_
  refine xV_arg 2 2 rfl (by omega) hL rfl rfl rfl rfl rfl rfl rfl rfl rfl rfl ?_
  refine xV_arg 3 3 rfl (by omega) hL rfl rfl rfl rfl rfl rfl rfl rfl rfl rfl ?_
  refine xV_arg 4 4 rfl (by omega) hL rfl rfl rfl rfl rfl rfl rfl rfl rfl rfl ?_
  refine xV_arg 5 5 rfl (by omega) hL rfl rfl rfl rfl rfl rfl rfl rfl rfl rfl ?_
  refine xV_call (d := 49) rfl rfl rfl rfl (xa_c_ok (d := 49) (pc := 199) (lv := lc_v i) (nL := 8) (lc_Iq I) rfl).1 r1 ?_
  refine xV_step (o1 := (203, lc_v i, [], h1, c, s)) rfl rfl rfl rfl ?_
  refine xV_step (o1 := (204, lc_v i, [.ref 39], h1, c, s)) rfl rfl rfl rfl ?_
  refine xV_arg 1 1 rfl (by omega) hL rfl rfl rfl rfl rfl rfl rfl rfl rfl rfl ?_
  refine xV_arg 2 2 rfl (by omega) hL rfl rfl rfl rfl rfl rfl rfl rfl rfl rfl ?_
  refine xV_arg 3 3 rfl (by omega) hL rfl rfl rfl rfl rfl rfl rfl rfl rfl rfl ?_
  refine xV_arg 4 4 rfl (by omega) hL rfl rfl rfl rfl rfl rfl rfl rfl rfl rfl ?_
  refine xV_arg 5 5 rfl (by omega) hL rfl rfl rfl rfl rfl rfl rfl rfl rfl rfl ?_
  refine xV_call (d := 49) rfl rfl rfl rfl (xa_c_ok (d := 49) (pc := 234) (lv := lc_v i) (nL := 8) (hk_q k1 I.2.1) rfl).1 r2 ?_
  refine xV_step (o1 := (238, lc_v i, [], h2, c, s)) rfl rfl rfl rfl ?_
  refine xV_step (o1 := (999, lc_v i, [], h2, c, s)) rfl rfl rfl rfl ?_
  exact xV_stop
set_option maxRecDepth 100000 in
set_option maxHeartbeats 4000000 in
/-- end -/
theorem lo_1 (hL : L ≤ 3072) (hi6 : i + 6 ≤ L) (I : lc_I h) : lo_P L xs i 241 h c s := by
  obtain ⟨t, t6, e1, e2⟩ := I.2.2.2
  obtain ⟨v1, h1, r1, k1, rfl, n1⟩ := e9_run (d := 49) (n := xs (i + 1)) I.2.1 I.1 e1 t6
  have l1 : 72 ≤ h1.1.length := hk_n k1 I.2.1
  obtain ⟨v2, h2, r2, k2, rfl, n2⟩ := e10_run (d := 49) (n := xs (i + 1)) l1 k1.1 ((hk_g (c := 39) (k := 2) k1 rfl rfl).trans e2) t6
  have I2 : lc_I h2 := ⟨k2.1, hk_n k2 l1, by rw [k2.2.1, k1.2.1]; exact I.2.2.1, en_t t (xs (i + 1)), en_t6 t6, (hk_g (c := 1) (k := 1) k2 rfl rfl).trans n1, n2⟩
  refine ⟨h2, c, s, ?_, I2, by omega, by omega⟩
  refine xV_step (o1 := (242, lc_v i, [.ref 0], h, c, s)) rfl rfl rfl rfl ?_
  refine xV_arg 1 1 rfl (by omega) hL rfl rfl rfl rfl rfl rfl rfl rfl rfl rfl ?_
  refine xV_call (d := 49) rfl rfl rfl rfl (xa_c_ok (d := 49) (pc := 248) (lv := lc_v i) (nL := 8) (lc_Iq I) rfl).1 r1 ?_
  refine xV_step (o1 := (252, lc_v i, [.ref 39, .int (bl (en_ok t (xs (i + 1))))], h1, c, s)) rfl rfl rfl rfl ?_
  refine xV_arg 1 1 rfl (by omega) hL rfl rfl rfl rfl rfl rfl rfl rfl rfl rfl ?_
  refine xV_call (d := 49) rfl rfl rfl rfl (xa_c_ok (d := 49) (pc := 258) (lv := lc_v i) (nL := 8) (hk_q k1 I.2.1) rfl).1 r2 ?_
  refine xV_ic true rfl rfl (xeq_t rfl) ?_
  exact xV_stop
set_option maxRecDepth 100000 in
set_option maxHeartbeats 4000000 in
/-- statute -/
theorem lo_4 (hL : L ≤ 3072) (hi6 : i + 6 ≤ L) (I : lc_I h) : lo_P L xs i 316 h c s := by
  obtain ⟨v1, h1, c1, s1, r1, k1, ⟨⟨x1, rfl⟩, z1⟩, c2, s66⟩ := s9s_run (d := 0) (f := xs (i + 1)) I.2.1 I.2.2.1 I.1
  have q1 := a_rq_of k1.1.1 k1.2.1
  obtain ⟨v2, h2, r2, k2, ⟨x2, rfl⟩, z2⟩ := xs_run (d := 40) (f := xs (i + 1)) k1.2.1 k1.1
  have I2 : lc_I h2 := ⟨k2.1, hk_n k2 k1.2.1, by rw [k2.2.1]; exact k1.2.2.1, 0, by decide, (hk_g (c := 1) (k := 1) k2 rfl rfl).trans z1, z2⟩
  refine ⟨h2, c + c1, s + s1, ?_, I2, by omega, by omega⟩
  refine xV_step (o1 := (317, lc_v i, [.ref 0], h, c, s)) rfl rfl rfl rfl ?_
  refine xV_arg 1 1 rfl (by omega) hL rfl rfl rfl rfl rfl rfl rfl rfl rfl rfl ?_
  refine xV_call (d := 49) rfl rfl rfl rfl (xa_c_ok (d := 49) (pc := 323) (lv := lc_v i) (nL := 8) (lc_Iq I) rfl).1 r1 ?_
  refine xV_step (o1 := (327, lc_v i, [], h1, c + c1, s + s1)) rfl rfl rfl rfl ?_
  refine xV_step (o1 := (328, lc_v i, [.ref 39], h1, c + c1, s + s1)) rfl rfl rfl rfl ?_
  refine xV_arg 1 1 rfl (by omega) hL rfl rfl rfl rfl rfl rfl rfl rfl rfl rfl ?_
  refine xV_call (d := 49) rfl rfl rfl rfl (xa_c_ok (d := 49) (pc := 334) (lv := lc_v i) (nL := 8) q1 rfl).1 r2 ?_
  refine xV_step (o1 := (338, lc_v i, [], h2, c + c1, s + s1)) rfl rfl rfl rfl ?_
  refine xV_step (o1 := (999, lc_v i, [], h2, c + c1, s + s1)) rfl rfl rfl rfl ?_
  exact xV_stop
set_option maxRecDepth 100000 in
set_option maxHeartbeats 4000000 in
/-- rank -/
theorem lo_16 (hL : L ≤ 3072) (hi6 : i + 6 ≤ L) (I : lc_I h) : lo_P L xs i 655 h c s := by
  obtain ⟨v1, h1, r1, k1, ⟨x1, rfl⟩, z1⟩ := r9_run (d := 47) (m := xs (i + 1)) I.2.1 I.1
  have l1 : 72 ≤ h1.1.length := hk_n k1 I.2.1
  obtain ⟨v2, h2, r2, k2, ⟨x2, rfl⟩, z2⟩ := r10_run (d := 48) (m := xs (i + 1)) l1 k1.1
  have I2 : lc_I h2 := ⟨k2.1, hk_n k2 l1, by rw [k2.2.1, k1.2.1]; exact I.2.2.1, 0, by decide, (hk_g (c := 1) (k := 1) k2 rfl rfl).trans z1, z2⟩
  refine ⟨h2, c, s, ?_, I2, by omega, by omega⟩
  refine xV_step (o1 := (656, lc_v i, [.ref 0], h, c, s)) rfl rfl rfl rfl ?_
  refine xV_arg 1 1 rfl (by omega) hL rfl rfl rfl rfl rfl rfl rfl rfl rfl rfl ?_
  refine xV_call (d := 49) rfl rfl rfl rfl (xa_c_ok (d := 49) (pc := 662) (lv := lc_v i) (nL := 8) (lc_Iq I) rfl).1 r1 ?_
  refine xV_step (o1 := (666, lc_v i, [], h1, c, s)) rfl rfl rfl rfl ?_
  refine xV_step (o1 := (667, lc_v i, [.ref 39], h1, c, s)) rfl rfl rfl rfl ?_
  refine xV_arg 1 1 rfl (by omega) hL rfl rfl rfl rfl rfl rfl rfl rfl rfl rfl ?_
  refine xV_call (d := 49) rfl rfl rfl rfl (xa_c_ok (d := 49) (pc := 673) (lv := lc_v i) (nL := 8) (hk_q k1 I.2.1) rfl).1 r2 ?_
  refine xV_step (o1 := (677, lc_v i, [], h2, c, s)) rfl rfl rfl rfl ?_
  refine xV_step (o1 := (999, lc_v i, [], h2, c, s)) rfl rfl rfl rfl ?_
  exact xV_stop
end XLH
