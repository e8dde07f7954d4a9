section XLH
variable {L i : Nat} {xs : Nat → Int32} {h : xh_H} {c s : Nat}
set_option maxRecDepth 100000 in
set_option maxHeartbeats 4000000 in
/-- feed -/
theorem lo_0 (hL : L ≤ 3072) (hi6 : i + 6 ≤ L) (I : lc_I h) : lo_P L xs i 168 h c s := by
  obtain ⟨⟨t, tp⟩, ⟨mem, m12, e9, e4⟩, ⟨sc, sc8, e8, e33⟩, ⟨td, td9, e10, e3⟩, ⟨vc, vc6, e35, e63⟩, e1, e11, ch, pl, si, vs, pi⟩ := I.2.2.2
  have R := I.2.2.2
  obtain ⟨v1, h1, r1, k1, rfl, n1⟩ := f9_run (d := 48) (a := xs (i + 1)) (b := xs (i + 2)) (c := xs (i + 3)) (d4 := xs (i + 4)) (e5 := xs (i + 5)) I.2.1 I.1 tp.1 tp.2.2.1
  have l1 : 72 ≤ h1.1.length := hk_n k1 I.2.1
  have tq := (hk_g (c := 39) (k := 2) k1 rfl rfl).trans tp.2.1
  obtain ⟨v2, h2, r2, k2, rfl, n2⟩ := f10_run (d := 48) (a := xs (i + 1)) (b := xs (i + 2)) (c := xs (i + 3)) (d4 := xs (i + 4)) (e5 := xs (i + 5)) l1 k1.1 tq tp.2.2.1
  have q1 := xq_Z (hn := (show List.Nodup [0, 1, 2, 3, 4, 5] by decide)) r1 (fun f => fd9_q (f := f) (t := t) (lc_Iq I) tp.2.2.1 tp.1)
  have q2 := xq_Z (hn := (show List.Nodup [0, 1, 2, 3, 4, 5] by decide)) r2 (fun f => fd10_q (f := f) (t := t) (hk_q k1 I.2.1) tp.2.2.1 tq)
  have f1 := k1.2.2
  have f2 := k2.2.2
  have tp2 : ∃ t, tpe h2 t := by
    by_cases l : t + 20 ≤ 640
    · obtain ⟨-, g1, m1, b1⟩ := q1.1 l
      obtain ⟨-, g2, m2, b2⟩ := q2.1 l
      exact ⟨_, fd_al tp l g1 m1 b1 g2 m2 b2⟩
    · obtain ⟨-, y1⟩ := q1.2 l
      have tp1 : tpe h1 t := by rw [y1]; exact tp
      obtain ⟨-, g2, m2, b2⟩ := q2.2 l
      exact ⟨t, (fx_i (c := 1) (k := 1) g2 rfl).trans tp1.1, m2.trans tp1.2.1, tp.2.2.1, fun k hk' => by rw [fx_i (c := 2) (k := k) g2 rfl, b2 k]; exact tp1.2.2.2 k hk'⟩
  have I2 : lc_I h2 := ⟨k2.1, hk_n k2 l1, by rw [k2.2.1, k1.2.1]; exact I.2.2.1, ⟨tp2, rb_2 f1 f2 rfl rfl rfl rfl rfl rfl R.2.1, rb_2 f1 f2 rfl rfl rfl rfl rfl rfl R.2.2.1, rb_2 f1 f2 rfl rfl rfl rfl rfl rfl R.2.2.2.1, rb_2 f1 f2 rfl rfl rfl rfl rfl rfl R.2.2.2.2.1, pr_2 f1 f2 rfl rfl rfl rfl rfl rfl R.2.2.2.2.2.1, pr_2 f1 f2 rfl rfl rfl rfl rfl rfl R.2.2.2.2.2.2.1, ch_2 f1 f2 rfl rfl R.2.2.2.2.2.2.2.1, pl_2 f1 f2 rfl rfl R.2.2.2.2.2.2.2.2.1, SI_2 I.1 I.2.1 k1.1 l1 (fz_run (by decide +kernel) r1) (fz_run (by decide +kernel) r2) f1 f2 rfl rfl R.2.2.2.2.2.2.2.2.2.1, VZ_2 f1 f2 rfl rfl R.2.2.2.2.2.2.2.2.2.2.1, PI_2 I.1 I.2.1 k1.1 l1 (fz_run (by decide +kernel) r1) (qz_run (by decide +kernel) r1) f1 rfl (fz_run (by decide +kernel) r2) (qz_run (by decide +kernel) r2) f2 rfl (RI_p R)⟩⟩
  refine ⟨h2, c, s, ?_, I2, by omega, by omega⟩
  refine xV_step (o1 := (169, lc_v i, [.ref 0], h, c, s)) rfl rfl rfl rfl ?_
  refine xV_arg 1 1 rfl (by omega) hL rfl rfl rfl rfl rfl rfl rfl rfl rfl rfl ?_
  refine xV_arg 2 2 rfl (by omega) hL rfl rfl rfl rfl rfl rfl rfl rfl rfl rfl ?_
  refine xV_arg 3 3 rfl (by omega) hL rfl rfl rfl rfl rfl rfl rfl rfl rfl rfl ?_
  refine xV_arg 4 4 rfl (by omega) hL rfl rfl rfl rfl rfl rfl rfl rfl rfl rfl ?_
  refine xV_arg 5 5 rfl (by omega) hL rfl rfl rfl rfl rfl rfl rfl rfl rfl rfl ?_
  refine xV_call (d := 49) rfl rfl rfl rfl (xa_c_ok (d := 49) (pc := 199) (lv := lc_v i) (nL := 8) (lc_Iq I) rfl).1 r1 ?_
  refine xV_step (o1 := (203, lc_v i, [], h1, c, s)) rfl rfl rfl rfl ?_
  refine xV_step (o1 := (204, lc_v i, [.ref 39], h1, c, s)) rfl rfl rfl rfl ?_
  refine xV_arg 1 1 rfl (by omega) hL rfl rfl rfl rfl rfl rfl rfl rfl rfl rfl ?_
  refine xV_arg 2 2 rfl (by omega) hL rfl rfl rfl rfl rfl rfl rfl rfl rfl rfl ?_
  refine xV_arg 3 3 rfl (by omega) hL rfl rfl rfl rfl rfl rfl rfl rfl rfl rfl ?_
  refine xV_arg 4 4 rfl (by omega) hL rfl rfl rfl rfl rfl rfl rfl rfl rfl rfl ?_
  refine xV_arg 5 5 rfl (by omega) hL rfl rfl rfl rfl rfl rfl rfl rfl rfl rfl ?_
  refine xV_call (d := 49) rfl rfl rfl rfl (xa_c_ok (d := 49) (pc := 234) (lv := lc_v i) (nL := 8) (hk_q k1 I.2.1) rfl).1 r2 ?_
  refine xV_step (o1 := (238, lc_v i, [], h2, c, s)) rfl rfl rfl rfl ?_
  refine xV_step (o1 := (999, lc_v i, [], h2, c, s)) rfl rfl rfl rfl ?_
  exact xV_stop
set_option maxRecDepth 100000 in
set_option maxHeartbeats 4000000 in
/-- end -/
theorem lo_1 (hL : L ≤ 3072) (hi6 : i + 6 ≤ L) (I : lc_I h) : lo_P L xs i 241 h c s := by
  obtain ⟨⟨t, tp⟩, ⟨mem, m12, e9, e4⟩, ⟨sc, sc8, e8, e33⟩, ⟨td, td9, e10, e3⟩, ⟨vc, vc6, e35, e63⟩, e1, e11, ch, pl, si, vs, pi⟩ := I.2.2.2
  have R := I.2.2.2
  obtain ⟨v1, h1, r1, k1, rfl, n1⟩ := e9_run (d := 49) (n := xs (i + 1)) I.2.1 I.1 tp.1 tp.2.2.1
  have l1 : 72 ≤ h1.1.length := hk_n k1 I.2.1
  obtain ⟨v2, h2, r2, k2, rfl, n2⟩ := e10_run (d := 49) (n := xs (i + 1)) l1 k1.1 ((hk_g (c := 39) (k := 2) k1 rfl rfl).trans tp.2.1) tp.2.2.1
  have f1 := k1.2.2
  have f2 := k2.2.2
  have tp2 : ∃ t, tpe h2 t := ⟨en_t t (xs (i + 1)), (hk_g (c := 1) (k := 1) k2 rfl rfl).trans n1, n2, en_t6 tp.2.2.1, fun k hk' => by
    have z := tp.2.2.2 k (Nat.lt_of_lt_of_le hk' en_le)
    rw [hk_g (c := 2) (k := k) k2 rfl rfl, hk_g (c := 2) (k := k) k1 rfl rfl, hk_g (c := 40) (k := k) k2 rfl rfl, hk_g (c := 40) (k := k) k1 rfl rfl]
    exact z⟩
  have I2 : lc_I h2 := ⟨k2.1, hk_n k2 l1, by rw [k2.2.1, k1.2.1]; exact I.2.2.1, ⟨tp2, rb_2 f1 f2 rfl rfl rfl rfl rfl rfl R.2.1, rb_2 f1 f2 rfl rfl rfl rfl rfl rfl R.2.2.1, rb_2 f1 f2 rfl rfl rfl rfl rfl rfl R.2.2.2.1, rb_2 f1 f2 rfl rfl rfl rfl rfl rfl R.2.2.2.2.1, pr_2 f1 f2 rfl rfl rfl rfl rfl rfl R.2.2.2.2.2.1, pr_2 f1 f2 rfl rfl rfl rfl rfl rfl R.2.2.2.2.2.2.1, ch_2 f1 f2 rfl rfl R.2.2.2.2.2.2.2.1, pl_2 f1 f2 rfl rfl R.2.2.2.2.2.2.2.2.1, SI_2 I.1 I.2.1 k1.1 l1 (fz_run (by decide +kernel) r1) (fz_run (by decide +kernel) r2) f1 f2 rfl rfl R.2.2.2.2.2.2.2.2.2.1, VZ_2 f1 f2 rfl rfl R.2.2.2.2.2.2.2.2.2.2.1, PI_2 I.1 I.2.1 k1.1 l1 (fz_run (by decide +kernel) r1) (qz_run (by decide +kernel) r1) f1 rfl (fz_run (by decide +kernel) r2) (qz_run (by decide +kernel) r2) f2 rfl (RI_p R)⟩⟩
  refine ⟨h2, c, s, ?_, I2, by omega, by omega⟩
  refine xV_step (o1 := (242, lc_v i, [.ref 0], h, c, s)) rfl rfl rfl rfl ?_
  refine xV_arg 1 1 rfl (by omega) hL rfl rfl rfl rfl rfl rfl rfl rfl rfl rfl ?_
  refine xV_call (d := 49) rfl rfl rfl rfl (xa_c_ok (d := 49) (pc := 248) (lv := lc_v i) (nL := 8) (lc_Iq I) rfl).1 r1 ?_
  refine xV_step (o1 := (252, lc_v i, [], h1, c, s)) rfl rfl rfl rfl ?_
  refine xV_step (o1 := (253, lc_v i, [.ref 39], h1, c, s)) rfl rfl rfl rfl ?_
  refine xV_arg 1 1 rfl (by omega) hL rfl rfl rfl rfl rfl rfl rfl rfl rfl rfl ?_
  refine xV_call (d := 49) rfl rfl rfl rfl (xa_c_ok (d := 49) (pc := 259) (lv := lc_v i) (nL := 8) (hk_q k1 I.2.1) rfl).1 r2 ?_
  refine xV_step (o1 := (263, lc_v i, [], h2, c, s)) rfl rfl rfl rfl ?_
  refine xV_step (o1 := (999, lc_v i, [], h2, c, s)) rfl rfl rfl rfl ?_
  exact xV_stop
set_option maxRecDepth 100000 in
set_option maxHeartbeats 4000000 in
/-- next -/
theorem lo_2 (hL : L ≤ 3072) (hi6 : i + 6 ≤ L) (I : lc_I h) : lo_P L xs i 266 h c s := by
  obtain ⟨⟨t, tp⟩, ⟨mem, m12, e9, e4⟩, ⟨sc, sc8, e8, e33⟩, ⟨td, td9, e10, e3⟩, ⟨vc, vc6, e35, e63⟩, e1, e11, ch, pl, si, vs, pi⟩ := I.2.2.2
  have R := I.2.2.2
  obtain ⟨v1, h1, r1, k1, rfl, n1⟩ := n9_run (d := 49) (n := xs (i + 1)) I.2.1 I.1 td9 e10
  have l1 : 72 ≤ h1.1.length := hk_n k1 I.2.1
  obtain ⟨v2, h2, r2, k2, rfl, n2⟩ := n10_run (d := 48) (n := xs (i + 1)) l1 k1.1 td9 ((hk_g (c := 39) (k := 3) k1 rfl rfl).trans e3)
  have f1 := k1.2.2
  have f2 := k2.2.2
  have I2 : lc_I h2 := ⟨k2.1, hk_n k2 l1, by rw [k2.2.1, k1.2.1]; exact I.2.2.1, ⟨tp_2 f1 f2 rfl (fun _ => rfl) rfl (fun _ => rfl) rfl (fun _ => rfl) rfl (fun _ => rfl) R.1, rb_2 f1 f2 rfl rfl rfl rfl rfl rfl R.2.1, rb_2 f1 f2 rfl rfl rfl rfl rfl rfl R.2.2.1, ⟨nx_t td (xs (i + 1)), nx_t9 td9, (hk_g (c := 0) (k := 10) k2 rfl rfl).trans n1, n2⟩, rb_2 f1 f2 rfl rfl rfl rfl rfl rfl R.2.2.2.2.1, pr_2 f1 f2 rfl rfl rfl rfl rfl rfl R.2.2.2.2.2.1, pr_2 f1 f2 rfl rfl rfl rfl rfl rfl R.2.2.2.2.2.2.1, ch_2 f1 f2 rfl rfl R.2.2.2.2.2.2.2.1, pl_2 f1 f2 rfl rfl R.2.2.2.2.2.2.2.2.1, SI_2 I.1 I.2.1 k1.1 l1 (fz_run (by decide +kernel) r1) (fz_run (by decide +kernel) r2) f1 f2 rfl rfl R.2.2.2.2.2.2.2.2.2.1, VZ_2 f1 f2 rfl rfl R.2.2.2.2.2.2.2.2.2.2.1, PI_2 I.1 I.2.1 k1.1 l1 (fz_run (by decide +kernel) r1) (qz_run (by decide +kernel) r1) f1 rfl (fz_run (by decide +kernel) r2) (qz_run (by decide +kernel) r2) f2 rfl (RI_p R)⟩⟩
  refine ⟨h2, c, s, ?_, I2, by omega, by omega⟩
  refine xV_step (o1 := (267, lc_v i, [.ref 0], h, c, s)) rfl rfl rfl rfl ?_
  refine xV_arg 1 1 rfl (by omega) hL rfl rfl rfl rfl rfl rfl rfl rfl rfl rfl ?_
  refine xV_call (d := 49) rfl rfl rfl rfl (xa_c_ok (d := 49) (pc := 273) (lv := lc_v i) (nL := 8) (lc_Iq I) rfl).1 r1 ?_
  refine xV_step (o1 := (277, lc_v i, [], h1, c, s)) rfl rfl rfl rfl ?_
  refine xV_step (o1 := (278, lc_v i, [.ref 39], h1, c, s)) rfl rfl rfl rfl ?_
  refine xV_arg 1 1 rfl (by omega) hL rfl rfl rfl rfl rfl rfl rfl rfl rfl rfl ?_
  refine xV_call (d := 49) rfl rfl rfl rfl (xa_c_ok (d := 49) (pc := 284) (lv := lc_v i) (nL := 8) (hk_q k1 I.2.1) rfl).1 r2 ?_
  refine xV_step (o1 := (288, lc_v i, [], h2, c, s)) rfl rfl rfl rfl ?_
  refine xV_step (o1 := (999, lc_v i, [], h2, c, s)) rfl rfl rfl rfl ?_
  exact xV_stop
set_option maxRecDepth 100000 in
set_option maxHeartbeats 4000000 in
/-- members -/
theorem lo_3 (hL : L ≤ 3072) (hi6 : i + 6 ≤ L) (I : lc_I h) : lo_P L xs i 291 h c s := by
  obtain ⟨⟨t, tp⟩, ⟨mem, m12, e9, e4⟩, ⟨sc, sc8, e8, e33⟩, ⟨td, td9, e10, e3⟩, ⟨vc, vc6, e35, e63⟩, e1, e11, ch, pl, si, vs, pi⟩ := I.2.2.2
  have R := I.2.2.2
  obtain ⟨v1, h1, r1, k1⟩ := lc_3 (D := 49) (C := aC_m_X9_members) (m := xmi_X9_members) (A := [.ref 0, .int (xs (i + 1))]) I.1 I.2.1 as_m_X9_members rfl (by decide) ⟨a_av (by decide) I.2.1, a_an, trivial⟩ rfl
  have l1 : 72 ≤ h1.1.length := hk_n k1 I.2.1
  obtain ⟨v2, h2, r2, k2⟩ := lc_3 (D := 49) (C := aC_m_X10_members) (m := xmi_X10_members) (A := [.ref 39, .int (xs (i + 1))]) k1.1 l1 as_m_X10_members rfl (by decide) ⟨a_av (by decide) l1, a_an, trivial⟩ rfl
  obtain ⟨rfl, d1⟩ := xq_Z (hn := (show List.Nodup [0, 1] by decide)) r1 (fun f => mb9_q (f := f) (x := xs (i + 1)) (s := nI sc) (w := nI vc) (r := xg 0 h.2.1 28 1) I.1 I.2.1 e8 e35 rfl)
  obtain ⟨rfl, d2⟩ := xq_Z (hn := (show List.Nodup [0, 1] by decide)) r2 (fun f => mb10_q (f := f) (x := xs (i + 1)) (s := nI sc) (w := nI vc) (r := xg 0 h.2.1 28 1) (hk_q k1 I.2.1) ((hk_g (c := 39) (k := 33) k1 rfl rfl).trans e33) ((hk_g (c := 39) (k := 63) k1 rfl rfl).trans e63) ((hk_g (c := 39) (k := 5) k1 rfl rfl).trans e1.symm))
  have f1 := k1.2.2
  have f2 := k2.2.2
  have sz2 : rb h2 0 9 39 4 12 := by
    cases hB : mbB (nI sc) (nI vc) (xg 0 h.2.1 28 1) (xs (i + 1)) with
    | true =>
      obtain ⟨m, z1, z2⟩ := mbB_n hB
      rw [hB] at d1 d2
      exact ⟨m, z1, (hk_g (c := 0) (k := 9) k2 rfl rfl).trans (d1.trans z2), d2.trans z2⟩
    | false =>
      rw [hB] at d1 d2
      exact ⟨mem, m12, (hk_g (c := 0) (k := 9) k2 rfl rfl).trans (d1.trans e9), d2.trans ((hk_g (c := 39) (k := 4) k1 rfl rfl).trans e4)⟩
  have qm := xq_Z (hn := (show List.Nodup [0, 1] by decide)) r1 (fun f => mb9d_q (f := f) (x := xs (i + 1)) (s := nI sc) (w := nI vc) (r := xg 0 h.2.1 28 1) (lc_Iq I) e8 e35 rfl si.1.2.1 si.1.2.2)
  have I2 : lc_I h2 := ⟨k2.1, hk_n k2 l1, by rw [k2.2.1, k1.2.1]; exact I.2.2.1, ⟨tp_2 f1 f2 rfl (fun _ => rfl) rfl (fun _ => rfl) rfl (fun _ => rfl) rfl (fun _ => rfl) R.1, sz2, rb_2 f1 f2 rfl rfl rfl rfl rfl rfl R.2.2.1, rb_2 f1 f2 rfl rfl rfl rfl rfl rfl R.2.2.2.1, rb_2 f1 f2 rfl rfl rfl rfl rfl rfl R.2.2.2.2.1, pr_2 f1 f2 rfl rfl rfl rfl rfl rfl R.2.2.2.2.2.1, pr_2 f1 f2 rfl rfl rfl rfl rfl rfl R.2.2.2.2.2.2.1, ch_2 f1 f2 rfl rfl R.2.2.2.2.2.2.2.1, pl_2 f1 f2 rfl rfl R.2.2.2.2.2.2.2.2.1, SI_m I.1 I.2.1 k1.1 l1 si qm d1 e8 (fz_run (by decide +kernel) r2) f2 rfl, VZ_m vs d1 e35 f1 rfl rfl f2 rfl, PI_t k1.1 l1 (Fs_z (a_rq_of k1.1.1 l1) (fz_run (by decide +kernel) r2)) (qz_run (by decide +kernel) r2) f2 rfl (PI_m I.1 I.2.1 qm (RI_p R))⟩⟩
  refine ⟨h2, c, s, ?_, I2, by omega, by omega⟩
  refine xV_step (o1 := (292, lc_v i, [.ref 0], h, c, s)) rfl rfl rfl rfl ?_
  refine xV_arg 1 1 rfl (by omega) hL rfl rfl rfl rfl rfl rfl rfl rfl rfl rfl ?_
  refine xV_call (d := 49) rfl rfl rfl rfl (xa_c_ok (d := 49) (pc := 298) (lv := lc_v i) (nL := 8) (lc_Iq I) rfl).1 r1 ?_
  refine xV_step (o1 := (302, lc_v i, [], h1, c, s)) rfl rfl rfl rfl ?_
  refine xV_step (o1 := (303, lc_v i, [.ref 39], h1, c, s)) rfl rfl rfl rfl ?_
  refine xV_arg 1 1 rfl (by omega) hL rfl rfl rfl rfl rfl rfl rfl rfl rfl rfl ?_
  refine xV_call (d := 49) rfl rfl rfl rfl (xa_c_ok (d := 49) (pc := 309) (lv := lc_v i) (nL := 8) (hk_q k1 I.2.1) rfl).1 r2 ?_
  refine xV_step (o1 := (313, lc_v i, [], h2, c, s)) rfl rfl rfl rfl ?_
  refine xV_step (o1 := (999, lc_v i, [], h2, c, s)) rfl rfl rfl rfl ?_
  exact xV_stop
set_option maxRecDepth 100000 in
set_option maxHeartbeats 4000000 in
/-- statute -/
theorem lo_4 (hL : L ≤ 3072) (hi6 : i + 6 ≤ L) (I : lc_I h) : lo_P L xs i 316 h c s := by
  obtain ⟨⟨t, tp⟩, ⟨mem, m12, e9, e4⟩, ⟨sc, sc8, e8, e33⟩, ⟨td, td9, e10, e3⟩, ⟨vc, vc6, e35, e63⟩, e1, e11, ch, pl, si, vs, pi⟩ := I.2.2.2
  have R := I.2.2.2
  have hc : ct h (tpT h) t := ⟨tp.1, tp.2.2.1, fun k _ => (tpe_T tp).1 k⟩
  obtain ⟨v1, h1, c1, s1, r1, k1, ⟨⟨z1, A1⟩, cs, cn⟩, c2, s66⟩ := s9r_run (d := 0) (f := xs (i + 1)) I.2.1 I.2.2.1 I.1 hc e9 m12 e8 sc8 e10 td9
  have q1 := a_rq_of k1.1.1 k1.2.1
  have f1 := k1.2.2.2
  obtain ⟨v2, h2, r2, k2, -, z2⟩ := xs_run (d := 40) (f := xs (i + 1)) k1.2.1 k1.1
  have f2 := k2.2.2
  have P := st_pair (h := h) A1 (fun r hX => xq_Z (hn := (show List.Nodup [0, 1] by decide)) r2 (fun f => s10_q (f := f) (T := tpT h) (n := t) (mem := mem) (sc := sc) (td := td) (fd := xs (i + 1)) (r := r) (W := nmW (tpT h) (fun _ => (0, 0))) q1 tp.2.2.1 ((fr_g (c := 39) (k := 2) f1 rfl rfl).trans tp.2.1) (fun k hk' => ⟨((tpe_T tp).2 k hk').1, (fr_g (c := 40) (k := k) f1 rfl rfl).trans ((tpe_T tp).2 k hk').2⟩) ((fr_g (c := 39) (k := 4) f1 rfl rfl).trans e4) m12 ((fr_g (c := 39) (k := 33) f1 rfl rfl).trans e33) sc8 ((fr_g (c := 39) (k := 3) f1 rfl rfl).trans e3) td9 hX)) sc8 (e11.trans (fr_g (c := 39) (k := 13) f1 rfl rfl).symm)
  have wfx := st_fx A1 (fun r sv y s4 hX hV => by obtain ⟨one0, e45⟩ := x45 (s := sv) k1.1 k1.2.1 s4; exact xq_Z (hn := (show List.Nodup [0, 1] by decide)) r2 (fun f => s10_d (f := f) (T := tpT h) (n := t) (mem := mem) (sc := sc) (td := td) (fd := xs (i + 1)) (r := r) (W := nmW (tpT h) (fun _ => (0, 0))) q1 tp.2.2.1 ((fr_g (c := 39) (k := 2) f1 rfl rfl).trans tp.2.1) (fun k hk' => ⟨((tpe_T tp).2 k hk').1, (fr_g (c := 40) (k := k) f1 rfl rfl).trans ((tpe_T tp).2 k hk').2⟩) ((fr_g (c := 39) (k := 4) f1 rfl rfl).trans e4) m12 ((fr_g (c := 39) (k := 33) f1 rfl rfl).trans e33) sc8 ((fr_g (c := 39) (k := 3) f1 rfl rfl).trans e3) td9 hX s4 e45 hV)) cn
  have si2 : SI h2 := st_si A1 (fun r sv y s4 hX hV => by obtain ⟨one0, e45⟩ := x45 (s := sv) k1.1 k1.2.1 s4; exact xq_Z (hn := (show List.Nodup [0, 1] by decide)) r2 (fun f => s10_d (f := f) (T := tpT h) (n := t) (mem := mem) (sc := sc) (td := td) (fd := xs (i + 1)) (r := r) (W := nmW (tpT h) (fun _ => (0, 0))) q1 tp.2.2.1 ((fr_g (c := 39) (k := 2) f1 rfl rfl).trans tp.2.1) (fun k hk' => ⟨((tpe_T tp).2 k hk').1, (fr_g (c := 40) (k := k) f1 rfl rfl).trans ((tpe_T tp).2 k hk').2⟩) ((fr_g (c := 39) (k := 4) f1 rfl rfl).trans e4) m12 ((fr_g (c := 39) (k := 33) f1 rfl rfl).trans e33) sc8 ((fr_g (c := 39) (k := 3) f1 rfl rfl).trans e3) td9 hX s4 e45 hV)) I.1 I.2.1 I.2.2.1 k1.1 k1.2.1 si e9 m12 e8 sc8 td9 cs cn f1 (fun k => fr_g (c := 51) (k := k) f1 rfl rfl) (fun k => fr_g (c := 52) (k := k) f1 rfl rfl) (fun k => fr_g (c := 44) (k := k) f1 rfl rfl) ((hk_g (c := 0) (k := 9) k2 rfl rfl).trans ((fr_g (c := 0) (k := 9) f1 rfl rfl).trans e9)) (hk_g (c := 0) (k := 8) k2 rfl rfl)
  obtain ⟨rfl, ⟨x, rfl⟩, ⟨m, m8, b1, b2⟩, b3⟩ := P
  have I2 : lc_I h2 := ⟨k2.1, hk_n k2 k1.2.1, by rw [k2.2.1]; exact k1.2.2.1, ⟨⟨0, (hk_g (c := 1) (k := 1) k2 rfl rfl).trans z1, z2, by decide, fun k hk' => absurd hk' (Nat.not_lt_zero k)⟩, rb_2 f1 f2 rfl rfl rfl rfl rfl rfl R.2.1, ⟨m, m8, (hk_g (c := 0) (k := 8) k2 rfl rfl).trans b1, b2⟩, rb_2 f1 f2 rfl rfl rfl rfl rfl rfl R.2.2.2.1, rb_2 f1 f2 rfl rfl rfl rfl rfl rfl R.2.2.2.2.1, pr_2 f1 f2 rfl rfl rfl rfl rfl rfl R.2.2.2.2.2.1, (hk_g (c := 0) (k := 11) k2 rfl rfl).trans b3, ch_2 f1 f2 rfl rfl R.2.2.2.2.2.2.2.1, pl_2 f1 f2 rfl rfl R.2.2.2.2.2.2.2.2.1, si2, VZ_2 f1 f2 rfl rfl R.2.2.2.2.2.2.2.2.2.2.1, PI_w k1.1 k1.2.1 wfx f2 rfl (PI_c I.1 I.2.1 cs f1 rfl (RI_p R))⟩⟩
  refine ⟨h2, c + c1, s + s1, ?_, I2, by omega, by omega⟩
  refine xV_step (o1 := (317, lc_v i, [.ref 0], h, c, s)) rfl rfl rfl rfl ?_
  refine xV_arg 1 1 rfl (by omega) hL rfl rfl rfl rfl rfl rfl rfl rfl rfl rfl ?_
  refine xV_call (d := 49) rfl rfl rfl rfl (xa_c_ok (d := 49) (pc := 323) (lv := lc_v i) (nL := 8) (lc_Iq I) rfl).1 r1 ?_
  refine xV_step (o1 := (327, lc_v i, [], h1, c + c1, s + s1)) rfl rfl rfl rfl ?_
  refine xV_step (o1 := (328, lc_v i, [.ref 39], h1, c + c1, s + s1)) rfl rfl rfl rfl ?_
  refine xV_arg 1 1 rfl (by omega) hL rfl rfl rfl rfl rfl rfl rfl rfl rfl rfl ?_
  refine xV_call (d := 49) rfl rfl rfl rfl (xa_c_ok (d := 49) (pc := 334) (lv := lc_v i) (nL := 8) q1 rfl).1 r2 ?_
  refine xV_step (o1 := (338, lc_v i, [], h2, c + c1, s + s1)) rfl rfl rfl rfl ?_
  refine xV_step (o1 := (999, lc_v i, [], h2, c + c1, s + s1)) rfl rfl rfl rfl ?_
  exact xV_stop
set_option maxRecDepth 100000 in
set_option maxHeartbeats 4000000 in
/-- rank -/
theorem lo_16 (hL : L ≤ 3072) (hi6 : i + 6 ≤ L) (I : lc_I h) : lo_P L xs i 655 h c s := by
  obtain ⟨⟨t, tp⟩, ⟨mem, m12, e9, e4⟩, ⟨sc, sc8, e8, e33⟩, ⟨td, td9, e10, e3⟩, ⟨vc, vc6, e35, e63⟩, e1, e11, ch, pl, si, vs, pi⟩ := I.2.2.2
  have R := I.2.2.2
  have hc : ct h (tpT h) t := ⟨tp.1, tp.2.2.1, fun k _ => (tpe_T tp).1 k⟩
  obtain ⟨v1, h1, r1, k1, -, z1⟩ := r9_run (d := 47) (m := xs (i + 1)) I.2.1 I.1
  have l1 : 72 ≤ h1.1.length := hk_n k1 I.2.1
  obtain ⟨v2, h2, r2, k2, -, z2⟩ := r10_run (d := 48) (m := xs (i + 1)) l1 k1.1
  obtain ⟨y1, d1⟩ : v1 = some (.int (bl (rkB (tpT h) t (xs (i + 1)) (nI mem)))) ∧ xg 0 h1.2.1 28 1 = cond (rkB (tpT h) t (xs (i + 1)) (nI mem)) (Int32.ofInt 1) (xg 0 h.2.1 28 1) := xq_Z (hn := (show List.Nodup [0, 1] by decide)) r1 (fun f => rk9_q (f := f) (x := xs (i + 1)) (z := nI mem) hc e9 (lc_Iq I))
  obtain ⟨y2, d2⟩ : v2 = some (.int (bl (rkB (tpT h) t (xs (i + 1)) (nI mem)))) ∧ xg 0 h2.2.1 39 5 = cond (rkB (tpT h) t (xs (i + 1)) (nI mem)) (Int32.ofInt 1) (xg 0 h1.2.1 39 5) := xq_Z (hn := (show List.Nodup [0, 1] by decide)) r2 (fun f => rk10_q (f := f) (x := xs (i + 1)) (z := nI mem) tp.2.2.1 ((hk_g (c := 39) (k := 2) k1 rfl rfl).trans tp.2.1) (fun k hk' => ⟨((tpe_T tp).2 k hk').1, (hk_g (c := 40) (k := k) k1 rfl rfl).trans ((tpe_T tp).2 k hk').2⟩) ((hk_g (c := 39) (k := 4) k1 rfl rfl).trans e4) (hk_q k1 I.2.1))
  have a1 := xq_Z (hn := (show List.Nodup [0, 1] by decide)) r1 (fun f => rk9b_q (f := f) (x := xs (i + 1)) (z := nI mem) hc e9 (lc_Iq I))
  have a2 := xq_Z (hn := (show List.Nodup [0, 1] by decide)) r2 (fun f => rk10b_q (f := f) (T := tpT h) (x := xs (i + 1)) (z := nI mem) tp.2.2.1 ((hk_g (c := 39) (k := 2) k1 rfl rfl).trans tp.2.1) (fun k hk' => ⟨((tpe_T tp).2 k hk').1, (hk_g (c := 40) (k := k) k1 rfl rfl).trans ((tpe_T tp).2 k hk').2⟩) ((hk_g (c := 39) (k := 4) k1 rfl rfl).trans e4) (hk_q k1 I.2.1))
  have pl2 : plr h2 := fun k hk' => by
    rw [hk_g (c := 30) (k := k) k2 rfl rfl, a1 k, a2 k]
    cases ((!xe_c .lt (xs (i + 1)) 0 && !xe_c .ge (xs (i + 1)) (nI mem)) && (Nat.beq t 7 && ro (tpT h) 7 0 (Int32.ofInt 0)))
    · exact (pl k hk').trans (hk_g (c := 62) (k := k) k1 rfl rfl).symm
    · exact pw_c 7 0 _ _ (fun k hk' => (pl k hk').trans (hk_g (c := 62) (k := k) k1 rfl rfl).symm) k hk'
  subst y1
  subst y2
  have f1 := k1.2.2
  have f2 := k2.2.2
  have rk2 : xg 0 h2.2.1 28 1 = xg 0 h2.2.1 39 5 := by
    rw [hk_g (c := 28) (k := 1) k2 rfl rfl, d1, d2, hk_g (c := 39) (k := 5) k1 rfl rfl, e1]
  have I2 : lc_I h2 := ⟨k2.1, hk_n k2 l1, by rw [k2.2.1, k1.2.1]; exact I.2.2.1, ⟨⟨0, (hk_g (c := 1) (k := 1) k2 rfl rfl).trans z1, z2, by decide, fun k hk' => absurd hk' (Nat.not_lt_zero k)⟩, rb_2 f1 f2 rfl rfl rfl rfl rfl rfl R.2.1, rb_2 f1 f2 rfl rfl rfl rfl rfl rfl R.2.2.1, rb_2 f1 f2 rfl rfl rfl rfl rfl rfl R.2.2.2.1, rb_2 f1 f2 rfl rfl rfl rfl rfl rfl R.2.2.2.2.1, rk2, pr_2 f1 f2 rfl rfl rfl rfl rfl rfl R.2.2.2.2.2.2.1, ch_2 f1 f2 rfl rfl R.2.2.2.2.2.2.2.1, pl2, SI_2 I.1 I.2.1 k1.1 l1 (fz_run (by decide +kernel) r1) (fz_run (by decide +kernel) r2) f1 f2 rfl rfl R.2.2.2.2.2.2.2.2.2.1, VZ_2 f1 f2 rfl rfl R.2.2.2.2.2.2.2.2.2.2.1, PI_2 I.1 I.2.1 k1.1 l1 (fz_run (by decide +kernel) r1) (qz_run (by decide +kernel) r1) f1 rfl (fz_run (by decide +kernel) r2) (qz_run (by decide +kernel) r2) f2 rfl (RI_p R)⟩⟩
  refine ⟨h2, c, s, ?_, I2, by omega, by omega⟩
  refine xV_step (o1 := (656, lc_v i, [.ref 0], h, c, s)) rfl rfl rfl rfl ?_
  refine xV_arg 1 1 rfl (by omega) hL rfl rfl rfl rfl rfl rfl rfl rfl rfl rfl ?_
  refine xV_call (d := 49) rfl rfl rfl rfl (xa_c_ok (d := 49) (pc := 662) (lv := lc_v i) (nL := 8) (lc_Iq I) rfl).1 r1 ?_
  refine xV_step (o1 := (666, lc_v i, [], h1, c, s)) rfl rfl rfl rfl ?_
  refine xV_step (o1 := (667, lc_v i, [.ref 39], h1, c, s)) rfl rfl rfl rfl ?_
  refine xV_arg 1 1 rfl (by omega) hL rfl rfl rfl rfl rfl rfl rfl rfl rfl rfl ?_
  refine xV_call (d := 49) rfl rfl rfl rfl (xa_c_ok (d := 49) (pc := 673) (lv := lc_v i) (nL := 8) (hk_q k1 I.2.1) rfl).1 r2 ?_
  refine xV_step (o1 := (677, lc_v i, [], h2, c, s)) rfl rfl rfl rfl ?_
  refine xV_step (o1 := (999, lc_v i, [], h2, c, s)) rfl rfl rfl rfl ?_
  exact xV_stop
set_option maxRecDepth 100000 in
set_option maxHeartbeats 4000000 in
/-- vote -/
theorem lo_23 (hL : L ≤ 3072) (hi6 : i + 6 ≤ L) (I : lc_I h) : lo_P L xs i 834 h c s := by
  obtain ⟨⟨t, tp⟩, ⟨mem, m12, e9, e4⟩, ⟨sc, sc8, e8, e33⟩, ⟨td, td9, e10, e3⟩, ⟨vc, vc6, e35, e63⟩, e1, e11, ch, pl, si, vs, pi⟩ := I.2.2.2
  have R := I.2.2.2
  cases c1 : xe_c .eq (xs (i + 2)) 0 with
  | true =>
    obtain ⟨v1, h1, r1, k1⟩ := lc_3 (D := 49) (C := aC_m_X9_vote) (m := xmi_X9_vote) (A := [.ref 0, .int (xs (i + 1)), .int (Int32.ofInt 0)]) I.1 I.2.1 as_m_X9_vote rfl (by decide) ⟨a_av (by decide) I.2.1, a_an, a_ai (by decide) (by decide), trivial⟩ rfl
    have l1 : 72 ≤ h1.1.length := hk_n k1 I.2.1
    obtain ⟨v2, h2, r2, k2⟩ := lc_3 (D := 49) (C := aC_m_X10_vote) (m := xmi_X10_vote) (A := [.ref 39, .int (xs (i + 1)), .int (Int32.ofInt 0)]) k1.1 l1 as_m_X10_vote rfl (by decide) ⟨a_av (by decide) l1, a_an, a_ai (by decide) (by decide), trivial⟩ rfl
    obtain ⟨rfl, d1⟩ := xq_Z (hn := (show List.Nodup [0, 1, 2] by decide)) r1 (fun f => vt9_q (f := f) (x := xs (i + 1)) (b := Int32.ofInt 0) (z := nI mem) vc6 e35 e9 (lc_Iq I))
    obtain ⟨rfl, d2⟩ := xq_Z (hn := (show List.Nodup [0, 1, 2] by decide)) r2 (fun f => vt10_q (f := f) (x := xs (i + 1)) (b := Int32.ofInt 0) (z := nI mem) vc6 ((hk_g (c := 39) (k := 63) k1 rfl rfl).trans e63) ((hk_g (c := 39) (k := 4) k1 rfl rfl).trans e4) (hk_q k1 I.2.1))
    have f1 := k1.2.2
    have f2 := k2.2.2
    have a1 := xq_Z (hn := (show List.Nodup [0, 1, 2] by decide)) r1 (fun f => vt9b_q (f := f) (x := xs (i + 1)) (b := Int32.ofInt 0) (z := nI mem) (y := nI td) vc6 e35 e9 e10 (lc_Iq I))
    have a2 := xq_Z (hn := (show List.Nodup [0, 1, 2] by decide)) r2 (fun f => vt10b_q (f := f) (x := xs (i + 1)) (b := Int32.ofInt 0) (z := nI mem) (y := nI td) vc6 ((hk_g (c := 39) (k := 63) k1 rfl rfl).trans e63) ((hk_g (c := 39) (k := 4) k1 rfl rfl).trans e4) ((hk_g (c := 39) (k := 3) k1 rfl rfl).trans e3) (hk_q k1 I.2.1))
    have ch2 : chr_ h2 := fun k hk' => by
      obtain ⟨p1, p2, p3⟩ := a1 k
      obtain ⟨u1, u2, u3⟩ := a2 k
      obtain ⟨w1, w2, w3⟩ := ch k hk'
      rw [hk_g (c := 36) (k := k) k2 rfl rfl, hk_g (c := 37) (k := k) k2 rfl rfl, hk_g (c := 38) (k := k) k2 rfl rfl, p1, p2, p3, u1, u2, u3, hk_g (c := 68) (k := k) k1 rfl rfl, hk_g (c := 69) (k := k) k1 rfl rfl, hk_g (c := 70) (k := k) k1 rfl rfl, w1, w2, w3]
      exact ⟨rfl, rfl, rfl⟩
    have vc2 : rb h2 35 3 39 63 60 := ⟨_, vt_le vc6, (hk_g (c := 35) (k := 3) k2 rfl rfl).trans d1, d2⟩
    have I2 : lc_I h2 := ⟨k2.1, hk_n k2 l1, by rw [k2.2.1, k1.2.1]; exact I.2.2.1, ⟨tp_2 f1 f2 rfl (fun _ => rfl) rfl (fun _ => rfl) rfl (fun _ => rfl) rfl (fun _ => rfl) R.1, rb_2 f1 f2 rfl rfl rfl rfl rfl rfl R.2.1, rb_2 f1 f2 rfl rfl rfl rfl rfl rfl R.2.2.1, rb_2 f1 f2 rfl rfl rfl rfl rfl rfl R.2.2.2.1, vc2, pr_2 f1 f2 rfl rfl rfl rfl rfl rfl R.2.2.2.2.2.1, pr_2 f1 f2 rfl rfl rfl rfl rfl rfl R.2.2.2.2.2.2.1, ch2, pl_2 f1 f2 rfl rfl R.2.2.2.2.2.2.2.2.1, SI_2 I.1 I.2.1 k1.1 l1 (fz_run (by decide +kernel) r1) (fz_run (by decide +kernel) r2) f1 f2 rfl rfl R.2.2.2.2.2.2.2.2.2.1, VZ_v vs m12 e9 e35 vc6 d1 (fun k => (a1 k).1) f1 rfl f2 rfl, PI_2 I.1 I.2.1 k1.1 l1 (fz_run (by decide +kernel) r1) (qz_run (by decide +kernel) r1) f1 rfl (fz_run (by decide +kernel) r2) (qz_run (by decide +kernel) r2) f2 rfl (RI_p R)⟩⟩
    refine ⟨h2, c, s, ?_, I2, by omega, by omega⟩
    refine xV_step (o1 := (835, lc_v i, [.ref 0], h, c, s)) rfl rfl rfl rfl ?_
    refine xV_arg 1 1 rfl (by omega) hL rfl rfl rfl rfl rfl rfl rfl rfl rfl rfl ?_
    refine xV_arg 2 2 rfl (by omega) hL rfl rfl rfl rfl rfl rfl rfl rfl rfl rfl ?_
    refine xV_if true rfl rfl c1 ?_
    refine xV_step (o1 := (855, lc_v i, [.int (Int32.ofInt 0), .int (xs (i + 1)), .ref 0], h, c, s)) rfl rfl rfl rfl ?_
    refine xV_call (d := 49) rfl rfl rfl rfl (xa_c_ok (d := 49) (pc := 855) (lv := lc_v i) (nL := 8) (lc_Iq I) rfl).1 r1 ?_
    refine xV_step (o1 := (859, lc_v i, [], h1, c, s)) rfl rfl rfl rfl ?_
    refine xV_step (o1 := (860, lc_v i, [.ref 39], h1, c, s)) rfl rfl rfl rfl ?_
    refine xV_arg 1 1 rfl (by omega) hL rfl rfl rfl rfl rfl rfl rfl rfl rfl rfl ?_
    refine xV_arg 2 2 rfl (by omega) hL rfl rfl rfl rfl rfl rfl rfl rfl rfl rfl ?_
    refine xV_if true rfl rfl c1 ?_
    refine xV_step (o1 := (880, lc_v i, [.int (Int32.ofInt 0), .int (xs (i + 1)), .ref 39], h1, c, s)) rfl rfl rfl rfl ?_
    refine xV_call (d := 49) rfl rfl rfl rfl (xa_c_ok (d := 49) (pc := 880) (lv := lc_v i) (nL := 8) (hk_q k1 I.2.1) rfl).1 r2 ?_
    refine xV_step (o1 := (884, lc_v i, [], h2, c, s)) rfl rfl rfl rfl ?_
    refine xV_step (o1 := (999, lc_v i, [], h2, c, s)) rfl rfl rfl rfl ?_
    exact xV_stop
  | false =>
    obtain ⟨v1, h1, r1, k1⟩ := lc_3 (D := 49) (C := aC_m_X9_vote) (m := xmi_X9_vote) (A := [.ref 0, .int (xs (i + 1)), .int (Int32.ofInt 1)]) I.1 I.2.1 as_m_X9_vote rfl (by decide) ⟨a_av (by decide) I.2.1, a_an, a_ai (by decide) (by decide), trivial⟩ rfl
    have l1 : 72 ≤ h1.1.length := hk_n k1 I.2.1
    obtain ⟨v2, h2, r2, k2⟩ := lc_3 (D := 49) (C := aC_m_X10_vote) (m := xmi_X10_vote) (A := [.ref 39, .int (xs (i + 1)), .int (Int32.ofInt 1)]) k1.1 l1 as_m_X10_vote rfl (by decide) ⟨a_av (by decide) l1, a_an, a_ai (by decide) (by decide), trivial⟩ rfl
    obtain ⟨rfl, d1⟩ := xq_Z (hn := (show List.Nodup [0, 1, 2] by decide)) r1 (fun f => vt9_q (f := f) (x := xs (i + 1)) (b := Int32.ofInt 1) (z := nI mem) vc6 e35 e9 (lc_Iq I))
    obtain ⟨rfl, d2⟩ := xq_Z (hn := (show List.Nodup [0, 1, 2] by decide)) r2 (fun f => vt10_q (f := f) (x := xs (i + 1)) (b := Int32.ofInt 1) (z := nI mem) vc6 ((hk_g (c := 39) (k := 63) k1 rfl rfl).trans e63) ((hk_g (c := 39) (k := 4) k1 rfl rfl).trans e4) (hk_q k1 I.2.1))
    have f1 := k1.2.2
    have f2 := k2.2.2
    have a1 := xq_Z (hn := (show List.Nodup [0, 1, 2] by decide)) r1 (fun f => vt9b_q (f := f) (x := xs (i + 1)) (b := Int32.ofInt 1) (z := nI mem) (y := nI td) vc6 e35 e9 e10 (lc_Iq I))
    have a2 := xq_Z (hn := (show List.Nodup [0, 1, 2] by decide)) r2 (fun f => vt10b_q (f := f) (x := xs (i + 1)) (b := Int32.ofInt 1) (z := nI mem) (y := nI td) vc6 ((hk_g (c := 39) (k := 63) k1 rfl rfl).trans e63) ((hk_g (c := 39) (k := 4) k1 rfl rfl).trans e4) ((hk_g (c := 39) (k := 3) k1 rfl rfl).trans e3) (hk_q k1 I.2.1))
    have ch2 : chr_ h2 := fun k hk' => by
      obtain ⟨p1, p2, p3⟩ := a1 k
      obtain ⟨u1, u2, u3⟩ := a2 k
      obtain ⟨w1, w2, w3⟩ := ch k hk'
      rw [hk_g (c := 36) (k := k) k2 rfl rfl, hk_g (c := 37) (k := k) k2 rfl rfl, hk_g (c := 38) (k := k) k2 rfl rfl, p1, p2, p3, u1, u2, u3, hk_g (c := 68) (k := k) k1 rfl rfl, hk_g (c := 69) (k := k) k1 rfl rfl, hk_g (c := 70) (k := k) k1 rfl rfl, w1, w2, w3]
      exact ⟨rfl, rfl, rfl⟩
    have vc2 : rb h2 35 3 39 63 60 := ⟨_, vt_le vc6, (hk_g (c := 35) (k := 3) k2 rfl rfl).trans d1, d2⟩
    have I2 : lc_I h2 := ⟨k2.1, hk_n k2 l1, by rw [k2.2.1, k1.2.1]; exact I.2.2.1, ⟨tp_2 f1 f2 rfl (fun _ => rfl) rfl (fun _ => rfl) rfl (fun _ => rfl) rfl (fun _ => rfl) R.1, rb_2 f1 f2 rfl rfl rfl rfl rfl rfl R.2.1, rb_2 f1 f2 rfl rfl rfl rfl rfl rfl R.2.2.1, rb_2 f1 f2 rfl rfl rfl rfl rfl rfl R.2.2.2.1, vc2, pr_2 f1 f2 rfl rfl rfl rfl rfl rfl R.2.2.2.2.2.1, pr_2 f1 f2 rfl rfl rfl rfl rfl rfl R.2.2.2.2.2.2.1, ch2, pl_2 f1 f2 rfl rfl R.2.2.2.2.2.2.2.2.1, SI_2 I.1 I.2.1 k1.1 l1 (fz_run (by decide +kernel) r1) (fz_run (by decide +kernel) r2) f1 f2 rfl rfl R.2.2.2.2.2.2.2.2.2.1, VZ_v vs m12 e9 e35 vc6 d1 (fun k => (a1 k).1) f1 rfl f2 rfl, PI_2 I.1 I.2.1 k1.1 l1 (fz_run (by decide +kernel) r1) (qz_run (by decide +kernel) r1) f1 rfl (fz_run (by decide +kernel) r2) (qz_run (by decide +kernel) r2) f2 rfl (RI_p R)⟩⟩
    refine ⟨h2, c, s, ?_, I2, by omega, by omega⟩
    refine xV_step (o1 := (835, lc_v i, [.ref 0], h, c, s)) rfl rfl rfl rfl ?_
    refine xV_arg 1 1 rfl (by omega) hL rfl rfl rfl rfl rfl rfl rfl rfl rfl rfl ?_
    refine xV_arg 2 2 rfl (by omega) hL rfl rfl rfl rfl rfl rfl rfl rfl rfl rfl ?_
    refine xV_if false rfl rfl c1 ?_
    refine xV_step (o1 := (851, lc_v i, [.int (Int32.ofInt 1), .int (xs (i + 1)), .ref 0], h, c, s)) rfl rfl rfl rfl ?_
    refine xV_step (o1 := (855, lc_v i, [.int (Int32.ofInt 1), .int (xs (i + 1)), .ref 0], h, c, s)) rfl rfl rfl rfl ?_
    refine xV_call (d := 49) rfl rfl rfl rfl (xa_c_ok (d := 49) (pc := 855) (lv := lc_v i) (nL := 8) (lc_Iq I) rfl).1 r1 ?_
    refine xV_step (o1 := (859, lc_v i, [], h1, c, s)) rfl rfl rfl rfl ?_
    refine xV_step (o1 := (860, lc_v i, [.ref 39], h1, c, s)) rfl rfl rfl rfl ?_
    refine xV_arg 1 1 rfl (by omega) hL rfl rfl rfl rfl rfl rfl rfl rfl rfl rfl ?_
    refine xV_arg 2 2 rfl (by omega) hL rfl rfl rfl rfl rfl rfl rfl rfl rfl rfl ?_
    refine xV_if false rfl rfl c1 ?_
    refine xV_step (o1 := (876, lc_v i, [.int (Int32.ofInt 1), .int (xs (i + 1)), .ref 39], h1, c, s)) rfl rfl rfl rfl ?_
    refine xV_step (o1 := (880, lc_v i, [.int (Int32.ofInt 1), .int (xs (i + 1)), .ref 39], h1, c, s)) rfl rfl rfl rfl ?_
    refine xV_call (d := 49) rfl rfl rfl rfl (xa_c_ok (d := 49) (pc := 880) (lv := lc_v i) (nL := 8) (hk_q k1 I.2.1) rfl).1 r2 ?_
    refine xV_step (o1 := (884, lc_v i, [], h2, c, s)) rfl rfl rfl rfl ?_
    refine xV_step (o1 := (999, lc_v i, [], h2, c, s)) rfl rfl rfl rfl ?_
    exact xV_stop
set_option maxRecDepth 100000 in
set_option maxHeartbeats 4000000 in
/-- leads -/
theorem lo_20 (hL : L ≤ 3072) (hi6 : i + 6 ≤ L) (I : lc_I h) : lo_P L xs i 743 h c s := by
  obtain ⟨⟨t, tp⟩, ⟨mem, m12, e9, e4⟩, ⟨sc, sc8, e8, e33⟩, ⟨td, td9, e10, e3⟩, ⟨vc, vc6, e35, e63⟩, e1, e11, ch, pl, si, vs, pi⟩ := I.2.2.2
  have R := I.2.2.2
  cases c1 : xe_c .eq (xs (i + 1)) 0 with
  | true =>
    have hc : ct h (tpT h) t := ⟨tp.1, tp.2.2.1, fun k _ => (tpe_T tp).1 k⟩
    obtain ⟨v1, h1, r1, ⟨k1, -⟩, z1⟩ := l9_run2 (d := 46) (f := (Int32.ofInt 0)) I.2.1 I.1
    have l1 : 72 ≤ h1.1.length := hk_n k1 I.2.1
    obtain ⟨v2, h2, r2, ⟨k2, -⟩, z2⟩ := l10_run2 (d := 46) (f := (Int32.ofInt 0)) l1 k1.1
    have sr := SI_r si e9 m12 e8 sc8
    obtain rfl := xq_Z (hn := (show List.Nodup [0, 1] by decide)) r1 (fun f => ld9_q (f := f) (b := (Int32.ofInt 0)) (PL := fun k => xg 0 h.2.1 30 k) (d := nI td) hc I.1 e9 m12 e8 sc8 e10 si (fun _ _ => rfl) (lc_Iq I))
    obtain rfl := xq_Z (hn := (show List.Nodup [0, 1] by decide)) r2 (fun f => ld10_q (f := f) (n := t) (T := tpT h) (b := (Int32.ofInt 0)) (PL := fun k => xg 0 h.2.1 30 k) (d := nI td) (FR := fun k => xg 0 h.2.1 51 k) (RW := fun k => xg 0 h.2.1 44 k) tp.2.2.1 ((hk_g (c := 39) (k := 2) k1 rfl rfl).trans tp.2.1) (fun k hk' => ⟨((tpe_T tp).2 k hk').1, (hk_g (c := 40) (k := k) k1 rfl rfl).trans ((tpe_T tp).2 k hk').2⟩) m12 ((hk_g (c := 39) (k := 4) k1 rfl rfl).trans e4) ((hk_g (c := 39) (k := 33) k1 rfl rfl).trans e33) sc8 ((hk_g (c := 39) (k := 3) k1 rfl rfl).trans e3) (fun k _ => hk_g (c := 51) (k := k) k1 rfl rfl) (fun k hk' => by rw [hk_g (c := 52) (k := k) k1 rfl rfl]; exact sr.1 k hk') (fun k s hk' hs => by obtain ⟨b, e⟩ := sr.2.1 k s hk' hs; exact ⟨b, e, (hk_g (c := 44) (k := 4096 * k + s) k1 rfl rfl).trans e⟩) (fun k hk' => (hk_g (c := 62) (k := k) k1 rfl rfl).trans (pl k hk').symm) (hk_q k1 I.2.1))
    have f1 := k1.2.2
    have f2 := k2.2.2
    have I2 : lc_I h2 := ⟨k2.1, hk_n k2 l1, by rw [k2.2.1, k1.2.1]; exact I.2.2.1, ⟨⟨0, (hk_g (c := 1) (k := 1) k2 rfl rfl).trans z1, z2, by decide, fun k hk' => absurd hk' (Nat.not_lt_zero k)⟩, rb_2 f1 f2 rfl rfl rfl rfl rfl rfl R.2.1, rb_2 f1 f2 rfl rfl rfl rfl rfl rfl R.2.2.1, rb_2 f1 f2 rfl rfl rfl rfl rfl rfl R.2.2.2.1, rb_2 f1 f2 rfl rfl rfl rfl rfl rfl R.2.2.2.2.1, pr_2 f1 f2 rfl rfl rfl rfl rfl rfl R.2.2.2.2.2.1, pr_2 f1 f2 rfl rfl rfl rfl rfl rfl R.2.2.2.2.2.2.1, ch_2 f1 f2 rfl rfl R.2.2.2.2.2.2.2.1, pl_2 f1 f2 rfl rfl R.2.2.2.2.2.2.2.2.1, SI_2 I.1 I.2.1 k1.1 l1 (fz_run (by decide +kernel) r1) (fz_run (by decide +kernel) r2) f1 f2 rfl rfl R.2.2.2.2.2.2.2.2.2.1, VZ_2 f1 f2 rfl rfl R.2.2.2.2.2.2.2.2.2.2.1, PI_2 I.1 I.2.1 k1.1 l1 (fz_run (by decide +kernel) r1) (qz_run (by decide +kernel) r1) f1 rfl (fz_run (by decide +kernel) r2) (qz_run (by decide +kernel) r2) f2 rfl (RI_p R)⟩⟩
    refine ⟨h2, c, s, ?_, I2, by omega, by omega⟩
    refine xV_step (o1 := (744, lc_v i, [.ref 0], h, c, s)) rfl rfl rfl rfl ?_
    refine xV_arg 1 1 rfl (by omega) hL rfl rfl rfl rfl rfl rfl rfl rfl rfl rfl ?_
    refine xV_if true rfl rfl c1 ?_
    refine xV_step (o1 := (758, lc_v i, [.int (Int32.ofInt 0), .ref 0], h, c, s)) rfl rfl rfl rfl ?_
    refine xV_call (d := 49) rfl rfl rfl rfl (xa_c_ok (d := 49) (pc := 758) (lv := lc_v i) (nL := 8) (lc_Iq I) rfl).1 r1 ?_
    refine xV_step (o1 := (762, lc_v i, [], h1, c, s)) rfl rfl rfl rfl ?_
    refine xV_step (o1 := (763, lc_v i, [.ref 39], h1, c, s)) rfl rfl rfl rfl ?_
    refine xV_arg 1 1 rfl (by omega) hL rfl rfl rfl rfl rfl rfl rfl rfl rfl rfl ?_
    refine xV_if true rfl rfl c1 ?_
    refine xV_step (o1 := (777, lc_v i, [.int (Int32.ofInt 0), .ref 39], h1, c, s)) rfl rfl rfl rfl ?_
    refine xV_call (d := 49) rfl rfl rfl rfl (xa_c_ok (d := 49) (pc := 777) (lv := lc_v i) (nL := 8) (hk_q k1 I.2.1) rfl).1 r2 ?_
    refine xV_step (o1 := (781, lc_v i, [], h2, c, s)) rfl rfl rfl rfl ?_
    refine xV_step (o1 := (999, lc_v i, [], h2, c, s)) rfl rfl rfl rfl ?_
    exact xV_stop
  | false =>
    have hc : ct h (tpT h) t := ⟨tp.1, tp.2.2.1, fun k _ => (tpe_T tp).1 k⟩
    obtain ⟨v1, h1, r1, ⟨k1, -⟩, z1⟩ := l9_run2 (d := 46) (f := (Int32.ofInt 1)) I.2.1 I.1
    have l1 : 72 ≤ h1.1.length := hk_n k1 I.2.1
    obtain ⟨v2, h2, r2, ⟨k2, -⟩, z2⟩ := l10_run2 (d := 46) (f := (Int32.ofInt 1)) l1 k1.1
    have sr := SI_r si e9 m12 e8 sc8
    obtain rfl := xq_Z (hn := (show List.Nodup [0, 1] by decide)) r1 (fun f => ld9_q (f := f) (b := (Int32.ofInt 1)) (PL := fun k => xg 0 h.2.1 30 k) (d := nI td) hc I.1 e9 m12 e8 sc8 e10 si (fun _ _ => rfl) (lc_Iq I))
    obtain rfl := xq_Z (hn := (show List.Nodup [0, 1] by decide)) r2 (fun f => ld10_q (f := f) (n := t) (T := tpT h) (b := (Int32.ofInt 1)) (PL := fun k => xg 0 h.2.1 30 k) (d := nI td) (FR := fun k => xg 0 h.2.1 51 k) (RW := fun k => xg 0 h.2.1 44 k) tp.2.2.1 ((hk_g (c := 39) (k := 2) k1 rfl rfl).trans tp.2.1) (fun k hk' => ⟨((tpe_T tp).2 k hk').1, (hk_g (c := 40) (k := k) k1 rfl rfl).trans ((tpe_T tp).2 k hk').2⟩) m12 ((hk_g (c := 39) (k := 4) k1 rfl rfl).trans e4) ((hk_g (c := 39) (k := 33) k1 rfl rfl).trans e33) sc8 ((hk_g (c := 39) (k := 3) k1 rfl rfl).trans e3) (fun k _ => hk_g (c := 51) (k := k) k1 rfl rfl) (fun k hk' => by rw [hk_g (c := 52) (k := k) k1 rfl rfl]; exact sr.1 k hk') (fun k s hk' hs => by obtain ⟨b, e⟩ := sr.2.1 k s hk' hs; exact ⟨b, e, (hk_g (c := 44) (k := 4096 * k + s) k1 rfl rfl).trans e⟩) (fun k hk' => (hk_g (c := 62) (k := k) k1 rfl rfl).trans (pl k hk').symm) (hk_q k1 I.2.1))
    have f1 := k1.2.2
    have f2 := k2.2.2
    have I2 : lc_I h2 := ⟨k2.1, hk_n k2 l1, by rw [k2.2.1, k1.2.1]; exact I.2.2.1, ⟨⟨0, (hk_g (c := 1) (k := 1) k2 rfl rfl).trans z1, z2, by decide, fun k hk' => absurd hk' (Nat.not_lt_zero k)⟩, rb_2 f1 f2 rfl rfl rfl rfl rfl rfl R.2.1, rb_2 f1 f2 rfl rfl rfl rfl rfl rfl R.2.2.1, rb_2 f1 f2 rfl rfl rfl rfl rfl rfl R.2.2.2.1, rb_2 f1 f2 rfl rfl rfl rfl rfl rfl R.2.2.2.2.1, pr_2 f1 f2 rfl rfl rfl rfl rfl rfl R.2.2.2.2.2.1, pr_2 f1 f2 rfl rfl rfl rfl rfl rfl R.2.2.2.2.2.2.1, ch_2 f1 f2 rfl rfl R.2.2.2.2.2.2.2.1, pl_2 f1 f2 rfl rfl R.2.2.2.2.2.2.2.2.1, SI_2 I.1 I.2.1 k1.1 l1 (fz_run (by decide +kernel) r1) (fz_run (by decide +kernel) r2) f1 f2 rfl rfl R.2.2.2.2.2.2.2.2.2.1, VZ_2 f1 f2 rfl rfl R.2.2.2.2.2.2.2.2.2.2.1, PI_2 I.1 I.2.1 k1.1 l1 (fz_run (by decide +kernel) r1) (qz_run (by decide +kernel) r1) f1 rfl (fz_run (by decide +kernel) r2) (qz_run (by decide +kernel) r2) f2 rfl (RI_p R)⟩⟩
    refine ⟨h2, c, s, ?_, I2, by omega, by omega⟩
    refine xV_step (o1 := (744, lc_v i, [.ref 0], h, c, s)) rfl rfl rfl rfl ?_
    refine xV_arg 1 1 rfl (by omega) hL rfl rfl rfl rfl rfl rfl rfl rfl rfl rfl ?_
    refine xV_if false rfl rfl c1 ?_
    refine xV_step (o1 := (754, lc_v i, [.int (Int32.ofInt 1), .ref 0], h, c, s)) rfl rfl rfl rfl ?_
    refine xV_step (o1 := (758, lc_v i, [.int (Int32.ofInt 1), .ref 0], h, c, s)) rfl rfl rfl rfl ?_
    refine xV_call (d := 49) rfl rfl rfl rfl (xa_c_ok (d := 49) (pc := 758) (lv := lc_v i) (nL := 8) (lc_Iq I) rfl).1 r1 ?_
    refine xV_step (o1 := (762, lc_v i, [], h1, c, s)) rfl rfl rfl rfl ?_
    refine xV_step (o1 := (763, lc_v i, [.ref 39], h1, c, s)) rfl rfl rfl rfl ?_
    refine xV_arg 1 1 rfl (by omega) hL rfl rfl rfl rfl rfl rfl rfl rfl rfl rfl ?_
    refine xV_if false rfl rfl c1 ?_
    refine xV_step (o1 := (773, lc_v i, [.int (Int32.ofInt 1), .ref 39], h1, c, s)) rfl rfl rfl rfl ?_
    refine xV_step (o1 := (777, lc_v i, [.int (Int32.ofInt 1), .ref 39], h1, c, s)) rfl rfl rfl rfl ?_
    refine xV_call (d := 49) rfl rfl rfl rfl (xa_c_ok (d := 49) (pc := 777) (lv := lc_v i) (nL := 8) (hk_q k1 I.2.1) rfl).1 r2 ?_
    refine xV_step (o1 := (781, lc_v i, [], h2, c, s)) rfl rfl rfl rfl ?_
    refine xV_step (o1 := (999, lc_v i, [], h2, c, s)) rfl rfl rfl rfl ?_
    exact xV_stop
set_option maxRecDepth 100000 in
set_option maxHeartbeats 4000000 in
/-- carries -/
theorem lo_6 (hL : L ≤ 3072) (hi6 : i + 6 ≤ L) (I : lc_I h) : lo_P L xs i 354 h c s := by
  obtain ⟨⟨t, tp⟩, ⟨mem, m12, e9, e4⟩, ⟨sc, sc8, e8, e33⟩, ⟨td, td9, e10, e3⟩, ⟨vc, vc6, e35, e63⟩, e1, e11, ch, pl, si, vs, pi⟩ := I.2.2.2
  have R := I.2.2.2
  obtain ⟨v1, h1, r1, k1⟩ := lc_3 (D := 49) (C := aC_m_X9_carries) (m := xmi_X9_carries) (A := [.ref 0, .int (xs (i + 1)), .int (xs (i + 2))]) I.1 I.2.1 as_m_X9_carries rfl (by decide) ⟨a_av (by decide) I.2.1, a_an, a_an, trivial⟩ rfl
  have l1 : 72 ≤ h1.1.length := hk_n k1 I.2.1
  obtain ⟨v2, h2, r2, k2⟩ := lc_3 (D := 49) (C := aC_m_X10_carries) (m := xmi_X10_carries) (A := [.ref 39, .int (xs (i + 1)), .int (xs (i + 2))]) k1.1 l1 as_m_X10_carries rfl (by decide) ⟨a_av (by decide) l1, a_an, a_an, trivial⟩ rfl
  have sr := SI_r si e9 m12 e8 sc8
  obtain rfl := xq_Z (hn := (show List.Nodup [0, 1, 2] by decide)) r1 (fun f => ca9_q (f := f) (x := xs (i + 1)) (d := xs (i + 2)) I.1 e9 m12 e8 sc8 si (lc_Iq I))
  obtain rfl := xq_Z (hn := (show List.Nodup [0, 1, 2] by decide)) r2 (fun f => ca10_q (f := f) (x := xs (i + 1)) (d := xs (i + 2)) (FR := fun k => xg 0 h.2.1 51 k) (RW := fun k => xg 0 h.2.1 44 k) ((hk_g (c := 39) (k := 4) k1 rfl rfl).trans e4) m12 ((hk_g (c := 39) (k := 33) k1 rfl rfl).trans e33) sc8 (fun k _ => hk_g (c := 51) (k := k) k1 rfl rfl) (fun k hk' => by rw [hk_g (c := 52) (k := k) k1 rfl rfl]; exact sr.1 k hk') (fun k s hk' hs => by obtain ⟨b, e⟩ := sr.2.1 k s hk' hs; exact ⟨b, e, (hk_g (c := 44) (k := 4096 * k + s) k1 rfl rfl).trans e⟩) (hk_q k1 I.2.1))
  have f1 := k1.2.2
  have f2 := k2.2.2
  have I2 : lc_I h2 := ⟨k2.1, hk_n k2 l1, by rw [k2.2.1, k1.2.1]; exact I.2.2.1, ⟨tp_2 f1 f2 rfl (fun _ => rfl) rfl (fun _ => rfl) rfl (fun _ => rfl) rfl (fun _ => rfl) R.1, rb_2 f1 f2 rfl rfl rfl rfl rfl rfl R.2.1, rb_2 f1 f2 rfl rfl rfl rfl rfl rfl R.2.2.1, rb_2 f1 f2 rfl rfl rfl rfl rfl rfl R.2.2.2.1, rb_2 f1 f2 rfl rfl rfl rfl rfl rfl R.2.2.2.2.1, pr_2 f1 f2 rfl rfl rfl rfl rfl rfl R.2.2.2.2.2.1, pr_2 f1 f2 rfl rfl rfl rfl rfl rfl R.2.2.2.2.2.2.1, ch_2 f1 f2 rfl rfl R.2.2.2.2.2.2.2.1, pl_2 f1 f2 rfl rfl R.2.2.2.2.2.2.2.2.1, SI_2 I.1 I.2.1 k1.1 l1 (fz_run (by decide +kernel) r1) (fz_run (by decide +kernel) r2) f1 f2 rfl rfl R.2.2.2.2.2.2.2.2.2.1, VZ_2 f1 f2 rfl rfl R.2.2.2.2.2.2.2.2.2.2.1, PI_2 I.1 I.2.1 k1.1 l1 (fz_run (by decide +kernel) r1) (qz_run (by decide +kernel) r1) f1 rfl (fz_run (by decide +kernel) r2) (qz_run (by decide +kernel) r2) f2 rfl (RI_p R)⟩⟩
  refine ⟨h2, c, s, ?_, I2, by omega, by omega⟩
  refine xV_step (o1 := (355, lc_v i, [.ref 0], h, c, s)) rfl rfl rfl rfl ?_
  refine xV_arg 1 1 rfl (by omega) hL rfl rfl rfl rfl rfl rfl rfl rfl rfl rfl ?_
  refine xV_arg 2 2 rfl (by omega) hL rfl rfl rfl rfl rfl rfl rfl rfl rfl rfl ?_
  refine xV_call (d := 49) rfl rfl rfl rfl (xa_c_ok (d := 49) (pc := 367) (lv := lc_v i) (nL := 8) (lc_Iq I) rfl).1 r1 ?_
  refine xV_step (o1 := (371, lc_v i, [], h1, c, s)) rfl rfl rfl rfl ?_
  refine xV_step (o1 := (372, lc_v i, [.ref 39], h1, c, s)) rfl rfl rfl rfl ?_
  refine xV_arg 1 1 rfl (by omega) hL rfl rfl rfl rfl rfl rfl rfl rfl rfl rfl ?_
  refine xV_arg 2 2 rfl (by omega) hL rfl rfl rfl rfl rfl rfl rfl rfl rfl rfl ?_
  refine xV_call (d := 49) rfl rfl rfl rfl (xa_c_ok (d := 49) (pc := 384) (lv := lc_v i) (nL := 8) (hk_q k1 I.2.1) rfl).1 r2 ?_
  refine xV_step (o1 := (388, lc_v i, [], h2, c, s)) rfl rfl rfl rfl ?_
  refine xV_step (o1 := (999, lc_v i, [], h2, c, s)) rfl rfl rfl rfl ?_
  exact xV_stop
set_option maxRecDepth 100000 in
set_option maxHeartbeats 4000000 in
/-- unfit -/
theorem lo_24 (hL : L ≤ 3072) (hi6 : i + 6 ≤ L) (I : lc_I h) : lo_P L xs i 887 h c s := by
  obtain ⟨⟨t, tp⟩, ⟨mem, m12, e9, e4⟩, ⟨sc, sc8, e8, e33⟩, ⟨td, td9, e10, e3⟩, ⟨vc, vc6, e35, e63⟩, e1, e11, ch, pl, si, vs, pi⟩ := I.2.2.2
  have R := I.2.2.2
  obtain ⟨v1, h1, r1, k1⟩ := lc_3 (D := 49) (C := aC_m_X9_unfit) (m := xmi_X9_unfit) (A := [.ref 0, .int (xs (i + 1))]) I.1 I.2.1 as_m_X9_unfit rfl (by decide) ⟨a_av (by decide) I.2.1, a_an, trivial⟩ rfl
  have l1 : 72 ≤ h1.1.length := hk_n k1 I.2.1
  obtain ⟨v2, h2, r2, k2⟩ := lc_3 (D := 49) (C := aC_m_X10_unfit) (m := xmi_X10_unfit) (A := [.ref 39, .int (xs (i + 1))]) k1.1 l1 as_m_X10_unfit rfl (by decide) ⟨a_av (by decide) l1, a_an, trivial⟩ rfl
  have sr := SI_r si e9 m12 e8 sc8
  obtain rfl := xq_Z (hn := (show List.Nodup [0, 1] by decide)) r1 (fun f => uf9_q (f := f) (S := fun k => xg 0 h.2.1 36 k) (D := fun k => xg 0 h.2.1 37 k) (P := fun k => xg 0 h.2.1 38 k) (t := xs (i + 1)) I.1 e9 m12 e8 sc8 si vc6 e35 (fun _ _ => ⟨rfl, rfl, rfl⟩) (vs mem vc e9 m12 e35 vc6) (lc_Iq I))
  obtain rfl := xq_Z (hn := (show List.Nodup [0, 1] by decide)) r2 (fun f => uf10_q (f := f) (S := fun k => xg 0 h.2.1 36 k) (D := fun k => xg 0 h.2.1 37 k) (P := fun k => xg 0 h.2.1 38 k) (t := xs (i + 1)) (FR := fun k => xg 0 h.2.1 51 k) (TD := fun k => xg 0 h.2.1 52 k) (RW := fun k => xg 0 h.2.1 44 k) ((hk_g (c := 39) (k := 4) k1 rfl rfl).trans e4) m12 ((hk_g (c := 39) (k := 33) k1 rfl rfl).trans e33) sc8 (fun k _ => hk_g (c := 51) (k := k) k1 rfl rfl) (fun k hk' => ⟨hk_g (c := 52) (k := k) k1 rfl rfl, sr.2.2 k hk'⟩) (fun k s hk' hs => by obtain ⟨b, e⟩ := sr.2.1 k s hk' hs; exact ⟨b, e, (hk_g (c := 44) (k := 4096 * k + s) k1 rfl rfl).trans e⟩) vc6 ((hk_g (c := 39) (k := 63) k1 rfl rfl).trans e63) (fun k hk' => by obtain ⟨w1, w2, w3⟩ := ch k (by omega); exact ⟨(hk_g (c := 68) (k := k) k1 rfl rfl).trans w1.symm, (hk_g (c := 69) (k := k) k1 rfl rfl).trans w2.symm, (hk_g (c := 70) (k := k) k1 rfl rfl).trans w3.symm⟩) (vs mem vc e9 m12 e35 vc6) (hk_q k1 I.2.1))
  have f1 := k1.2.2
  have f2 := k2.2.2
  have I2 : lc_I h2 := ⟨k2.1, hk_n k2 l1, by rw [k2.2.1, k1.2.1]; exact I.2.2.1, ⟨tp_2 f1 f2 rfl (fun _ => rfl) rfl (fun _ => rfl) rfl (fun _ => rfl) rfl (fun _ => rfl) R.1, rb_2 f1 f2 rfl rfl rfl rfl rfl rfl R.2.1, rb_2 f1 f2 rfl rfl rfl rfl rfl rfl R.2.2.1, rb_2 f1 f2 rfl rfl rfl rfl rfl rfl R.2.2.2.1, rb_2 f1 f2 rfl rfl rfl rfl rfl rfl R.2.2.2.2.1, pr_2 f1 f2 rfl rfl rfl rfl rfl rfl R.2.2.2.2.2.1, pr_2 f1 f2 rfl rfl rfl rfl rfl rfl R.2.2.2.2.2.2.1, ch_2 f1 f2 rfl rfl R.2.2.2.2.2.2.2.1, pl_2 f1 f2 rfl rfl R.2.2.2.2.2.2.2.2.1, SI_2 I.1 I.2.1 k1.1 l1 (fz_run (by decide +kernel) r1) (fz_run (by decide +kernel) r2) f1 f2 rfl rfl R.2.2.2.2.2.2.2.2.2.1, VZ_2 f1 f2 rfl rfl R.2.2.2.2.2.2.2.2.2.2.1, PI_2 I.1 I.2.1 k1.1 l1 (fz_run (by decide +kernel) r1) (qz_run (by decide +kernel) r1) f1 rfl (fz_run (by decide +kernel) r2) (qz_run (by decide +kernel) r2) f2 rfl (RI_p R)⟩⟩
  refine ⟨h2, c, s, ?_, I2, by omega, by omega⟩
  refine xV_step (o1 := (888, lc_v i, [.ref 0], h, c, s)) rfl rfl rfl rfl ?_
  refine xV_arg 1 1 rfl (by omega) hL rfl rfl rfl rfl rfl rfl rfl rfl rfl rfl ?_
  refine xV_call (d := 49) rfl rfl rfl rfl (xa_c_ok (d := 49) (pc := 894) (lv := lc_v i) (nL := 8) (lc_Iq I) rfl).1 r1 ?_
  refine xV_step (o1 := (898, lc_v i, [], h1, c, s)) rfl rfl rfl rfl ?_
  refine xV_step (o1 := (899, lc_v i, [.ref 39], h1, c, s)) rfl rfl rfl rfl ?_
  refine xV_arg 1 1 rfl (by omega) hL rfl rfl rfl rfl rfl rfl rfl rfl rfl rfl ?_
  refine xV_call (d := 49) rfl rfl rfl rfl (xa_c_ok (d := 49) (pc := 905) (lv := lc_v i) (nL := 8) (hk_q k1 I.2.1) rfl).1 r2 ?_
  refine xV_step (o1 := (909, lc_v i, [], h2, c, s)) rfl rfl rfl rfl ?_
  refine xV_step (o1 := (999, lc_v i, [], h2, c, s)) rfl rfl rfl rfl ?_
  exact xV_stop
set_option maxRecDepth 100000 in
set_option maxHeartbeats 4000000 in
/-- beats -/
theorem lo_17 (hL : L ≤ 3072) (hi6 : i + 6 ≤ L) (I : lc_I h) : lo_P L xs i 680 h c s := by
  obtain ⟨⟨t, tp⟩, ⟨mem, m12, e9, e4⟩, ⟨sc, sc8, e8, e33⟩, ⟨td, td9, e10, e3⟩, ⟨vc, vc6, e35, e63⟩, e1, e11, ch, pl, si, vs, pi⟩ := I.2.2.2
  have R := I.2.2.2
  obtain ⟨v1, h1, r1, k1⟩ := lc_3 (D := 49) (C := aC_m_X9_beats) (m := xmi_X9_beats) (A := [.ref 0, .int (xs (i + 1)), .int (xs (i + 2))]) I.1 I.2.1 as_m_X9_beats rfl (by decide) ⟨a_av (by decide) I.2.1, a_an, a_an, trivial⟩ rfl
  have l1 : 72 ≤ h1.1.length := hk_n k1 I.2.1
  obtain ⟨v2, h2, r2, k2⟩ := lc_3 (D := 49) (C := aC_m_X10_beats) (m := xmi_X10_beats) (A := [.ref 39, .int (xs (i + 1)), .int (xs (i + 2))]) k1.1 l1 as_m_X10_beats rfl (by decide) ⟨a_av (by decide) l1, a_an, a_an, trivial⟩ rfl
  have sr := SI_r si e9 m12 e8 sc8
  obtain rfl := xq_Z (hn := (show List.Nodup [0, 1, 2] by decide)) r1 (fun f => be9_q (f := f) (x := xs (i + 1)) (y := xs (i + 2)) (PL := fun k => xg 0 h.2.1 30 k) (d := nI td) I.1 e9 m12 e8 sc8 e10 si (fun _ _ => rfl) (lc_Iq I))
  obtain rfl := xq_Z (hn := (show List.Nodup [0, 1, 2] by decide)) r2 (fun f => be10_q (f := f) (x := xs (i + 1)) (y := xs (i + 2)) (PL := fun k => xg 0 h.2.1 30 k) (d := nI td) (FR := fun k => xg 0 h.2.1 51 k) (RW := fun k => xg 0 h.2.1 44 k) m12 ((hk_g (c := 39) (k := 4) k1 rfl rfl).trans e4) ((hk_g (c := 39) (k := 33) k1 rfl rfl).trans e33) sc8 ((hk_g (c := 39) (k := 3) k1 rfl rfl).trans e3) (fun k _ => hk_g (c := 51) (k := k) k1 rfl rfl) (fun k hk' => by rw [hk_g (c := 52) (k := k) k1 rfl rfl]; exact sr.1 k hk') (fun k s hk' hs => by obtain ⟨b, e⟩ := sr.2.1 k s hk' hs; exact ⟨b, e, (hk_g (c := 44) (k := 4096 * k + s) k1 rfl rfl).trans e⟩) (fun k hk' => (hk_g (c := 62) (k := k) k1 rfl rfl).trans (pl k hk').symm) (hk_q k1 I.2.1))
  have f1 := k1.2.2
  have f2 := k2.2.2
  have I2 : lc_I h2 := ⟨k2.1, hk_n k2 l1, by rw [k2.2.1, k1.2.1]; exact I.2.2.1, ⟨tp_2 f1 f2 rfl (fun _ => rfl) rfl (fun _ => rfl) rfl (fun _ => rfl) rfl (fun _ => rfl) R.1, rb_2 f1 f2 rfl rfl rfl rfl rfl rfl R.2.1, rb_2 f1 f2 rfl rfl rfl rfl rfl rfl R.2.2.1, rb_2 f1 f2 rfl rfl rfl rfl rfl rfl R.2.2.2.1, rb_2 f1 f2 rfl rfl rfl rfl rfl rfl R.2.2.2.2.1, pr_2 f1 f2 rfl rfl rfl rfl rfl rfl R.2.2.2.2.2.1, pr_2 f1 f2 rfl rfl rfl rfl rfl rfl R.2.2.2.2.2.2.1, ch_2 f1 f2 rfl rfl R.2.2.2.2.2.2.2.1, pl_2 f1 f2 rfl rfl R.2.2.2.2.2.2.2.2.1, SI_2 I.1 I.2.1 k1.1 l1 (fz_run (by decide +kernel) r1) (fz_run (by decide +kernel) r2) f1 f2 rfl rfl R.2.2.2.2.2.2.2.2.2.1, VZ_2 f1 f2 rfl rfl R.2.2.2.2.2.2.2.2.2.2.1, PI_2 I.1 I.2.1 k1.1 l1 (fz_run (by decide +kernel) r1) (qz_run (by decide +kernel) r1) f1 rfl (fz_run (by decide +kernel) r2) (qz_run (by decide +kernel) r2) f2 rfl (RI_p R)⟩⟩
  refine ⟨h2, c, s, ?_, I2, by omega, by omega⟩
  refine xV_step (o1 := (681, lc_v i, [.ref 0], h, c, s)) rfl rfl rfl rfl ?_
  refine xV_arg 1 1 rfl (by omega) hL rfl rfl rfl rfl rfl rfl rfl rfl rfl rfl ?_
  refine xV_arg 2 2 rfl (by omega) hL rfl rfl rfl rfl rfl rfl rfl rfl rfl rfl ?_
  refine xV_call (d := 49) rfl rfl rfl rfl (xa_c_ok (d := 49) (pc := 693) (lv := lc_v i) (nL := 8) (lc_Iq I) rfl).1 r1 ?_
  refine xV_step (o1 := (697, lc_v i, [], h1, c, s)) rfl rfl rfl rfl ?_
  refine xV_step (o1 := (698, lc_v i, [.ref 39], h1, c, s)) rfl rfl rfl rfl ?_
  refine xV_arg 1 1 rfl (by omega) hL rfl rfl rfl rfl rfl rfl rfl rfl rfl rfl ?_
  refine xV_arg 2 2 rfl (by omega) hL rfl rfl rfl rfl rfl rfl rfl rfl rfl rfl ?_
  refine xV_call (d := 49) rfl rfl rfl rfl (xa_c_ok (d := 49) (pc := 710) (lv := lc_v i) (nL := 8) (hk_q k1 I.2.1) rfl).1 r2 ?_
  refine xV_step (o1 := (714, lc_v i, [], h2, c, s)) rfl rfl rfl rfl ?_
  refine xV_step (o1 := (999, lc_v i, [], h2, c, s)) rfl rfl rfl rfl ?_
  exact xV_stop
set_option maxRecDepth 100000 in
set_option maxHeartbeats 4000000 in
/-- free -/
theorem lo_18 (hL : L ≤ 3072) (hi6 : i + 6 ≤ L) (I : lc_I h) : lo_P L xs i 717 h c s := by
  obtain ⟨⟨t, tp⟩, ⟨mem, m12, e9, e4⟩, ⟨sc, sc8, e8, e33⟩, ⟨td, td9, e10, e3⟩, ⟨vc, vc6, e35, e63⟩, e1, e11, ch, pl, si, vs, pi⟩ := I.2.2.2
  have R := I.2.2.2
  obtain ⟨v1, h1, r1, k1⟩ := lc_3 (D := 49) (C := aC_m_X9_free) (m := xmi_X9_free) (A := [.ref 0]) I.1 I.2.1 as_m_X9_free rfl (by decide) ⟨a_av (by decide) I.2.1, trivial⟩ rfl
  have l1 : 72 ≤ h1.1.length := hk_n k1 I.2.1
  obtain ⟨v2, h2, r2, k2⟩ := lc_3 (D := 49) (C := aC_m_X10_free) (m := xmi_X10_free) (A := [.ref 39]) k1.1 l1 as_m_X10_free rfl (by decide) ⟨a_av (by decide) l1, trivial⟩ rfl
  have sr := SI_r si e9 m12 e8 sc8
  obtain rfl := xq_Z (hn := (show List.Nodup [0] by decide)) r1 (fun f => fr9_q (f := f) (PL := fun k => xg 0 h.2.1 30 k) (d := nI td) I.1 e9 m12 e8 sc8 e10 si (fun _ _ => rfl) (lc_Iq I))
  obtain rfl := xq_Z (hn := (show List.Nodup [0] by decide)) r2 (fun f => fr10_q (f := f) (PL := fun k => xg 0 h.2.1 30 k) (d := nI td) (FR := fun k => xg 0 h.2.1 51 k) (RW := fun k => xg 0 h.2.1 44 k) m12 ((hk_g (c := 39) (k := 4) k1 rfl rfl).trans e4) ((hk_g (c := 39) (k := 33) k1 rfl rfl).trans e33) sc8 ((hk_g (c := 39) (k := 3) k1 rfl rfl).trans e3) (fun k _ => hk_g (c := 51) (k := k) k1 rfl rfl) (fun k hk' => by rw [hk_g (c := 52) (k := k) k1 rfl rfl]; exact sr.1 k hk') (fun k s hk' hs => by obtain ⟨b, e⟩ := sr.2.1 k s hk' hs; exact ⟨b, e, (hk_g (c := 44) (k := 4096 * k + s) k1 rfl rfl).trans e⟩) (fun k hk' => (hk_g (c := 62) (k := k) k1 rfl rfl).trans (pl k hk').symm) (hk_q k1 I.2.1))
  have f1 := k1.2.2
  have f2 := k2.2.2
  have I2 : lc_I h2 := ⟨k2.1, hk_n k2 l1, by rw [k2.2.1, k1.2.1]; exact I.2.2.1, ⟨tp_2 f1 f2 rfl (fun _ => rfl) rfl (fun _ => rfl) rfl (fun _ => rfl) rfl (fun _ => rfl) R.1, rb_2 f1 f2 rfl rfl rfl rfl rfl rfl R.2.1, rb_2 f1 f2 rfl rfl rfl rfl rfl rfl R.2.2.1, rb_2 f1 f2 rfl rfl rfl rfl rfl rfl R.2.2.2.1, rb_2 f1 f2 rfl rfl rfl rfl rfl rfl R.2.2.2.2.1, pr_2 f1 f2 rfl rfl rfl rfl rfl rfl R.2.2.2.2.2.1, pr_2 f1 f2 rfl rfl rfl rfl rfl rfl R.2.2.2.2.2.2.1, ch_2 f1 f2 rfl rfl R.2.2.2.2.2.2.2.1, pl_2 f1 f2 rfl rfl R.2.2.2.2.2.2.2.2.1, SI_2 I.1 I.2.1 k1.1 l1 (fz_run (by decide +kernel) r1) (fz_run (by decide +kernel) r2) f1 f2 rfl rfl R.2.2.2.2.2.2.2.2.2.1, VZ_2 f1 f2 rfl rfl R.2.2.2.2.2.2.2.2.2.2.1, PI_2 I.1 I.2.1 k1.1 l1 (fz_run (by decide +kernel) r1) (qz_run (by decide +kernel) r1) f1 rfl (fz_run (by decide +kernel) r2) (qz_run (by decide +kernel) r2) f2 rfl (RI_p R)⟩⟩
  refine ⟨h2, c, s, ?_, I2, by omega, by omega⟩
  refine xV_step (o1 := (718, lc_v i, [.ref 0], h, c, s)) rfl rfl rfl rfl ?_
  refine xV_call (d := 49) rfl rfl rfl rfl (xa_c_ok (d := 49) (pc := 718) (lv := lc_v i) (nL := 8) (lc_Iq I) rfl).1 r1 ?_
  refine xV_step (o1 := (722, lc_v i, [.ref 39, .int (nI (msk (fun y => nb (BT (fun k => xg 0 h.2.1 30 k) (cvB (fun k => xg 0 h.2.1 51 k) (fun k => xg 0 h.2.1 44 k) mem sc (nI td)) mem) y 7) 7))], h1, c, s)) rfl rfl rfl rfl ?_
  refine xV_call (d := 49) rfl rfl rfl rfl (xa_c_ok (d := 49) (pc := 722) (lv := lc_v i) (nL := 8) (hk_q k1 I.2.1) rfl).1 r2 ?_
  refine xV_ic true rfl rfl (xeq_t rfl) ?_
  exact xV_stop
set_option maxRecDepth 100000 in
set_option maxHeartbeats 4000000 in
/-- top -/
theorem lo_19 (hL : L ≤ 3072) (hi6 : i + 6 ≤ L) (I : lc_I h) : lo_P L xs i 730 h c s := by
  obtain ⟨⟨t, tp⟩, ⟨mem, m12, e9, e4⟩, ⟨sc, sc8, e8, e33⟩, ⟨td, td9, e10, e3⟩, ⟨vc, vc6, e35, e63⟩, e1, e11, ch, pl, si, vs, pi⟩ := I.2.2.2
  have R := I.2.2.2
  obtain ⟨v1, h1, r1, k1⟩ := lc_3 (D := 49) (C := aC_m_X9_top) (m := xmi_X9_top) (A := [.ref 0]) I.1 I.2.1 as_m_X9_top rfl (by decide) ⟨a_av (by decide) I.2.1, trivial⟩ rfl
  have l1 : 72 ≤ h1.1.length := hk_n k1 I.2.1
  obtain ⟨v2, h2, r2, k2⟩ := lc_3 (D := 49) (C := aC_m_X10_top) (m := xmi_X10_top) (A := [.ref 39]) k1.1 l1 as_m_X10_top rfl (by decide) ⟨a_av (by decide) l1, trivial⟩ rfl
  have sr := SI_r si e9 m12 e8 sc8
  obtain rfl := xq_Z (hn := (show List.Nodup [0] by decide)) r1 (fun f => to9_q (f := f) (PL := fun k => xg 0 h.2.1 30 k) (d := nI td) I.1 e9 m12 e8 sc8 e10 si (fun _ _ => rfl) (lc_Iq I))
  obtain rfl := xq_Z (hn := (show List.Nodup [0] by decide)) r2 (fun f => to10_q (f := f) (PL := fun k => xg 0 h.2.1 30 k) (d := nI td) (FR := fun k => xg 0 h.2.1 51 k) (RW := fun k => xg 0 h.2.1 44 k) m12 ((hk_g (c := 39) (k := 4) k1 rfl rfl).trans e4) ((hk_g (c := 39) (k := 33) k1 rfl rfl).trans e33) sc8 ((hk_g (c := 39) (k := 3) k1 rfl rfl).trans e3) (fun k _ => hk_g (c := 51) (k := k) k1 rfl rfl) (fun k hk' => by rw [hk_g (c := 52) (k := k) k1 rfl rfl]; exact sr.1 k hk') (fun k s hk' hs => by obtain ⟨b, e⟩ := sr.2.1 k s hk' hs; exact ⟨b, e, (hk_g (c := 44) (k := 4096 * k + s) k1 rfl rfl).trans e⟩) (fun k hk' => (hk_g (c := 62) (k := k) k1 rfl rfl).trans (pl k hk').symm) (hk_q k1 I.2.1))
  have f1 := k1.2.2
  have f2 := k2.2.2
  have I2 : lc_I h2 := ⟨k2.1, hk_n k2 l1, by rw [k2.2.1, k1.2.1]; exact I.2.2.1, ⟨tp_2 f1 f2 rfl (fun _ => rfl) rfl (fun _ => rfl) rfl (fun _ => rfl) rfl (fun _ => rfl) R.1, rb_2 f1 f2 rfl rfl rfl rfl rfl rfl R.2.1, rb_2 f1 f2 rfl rfl rfl rfl rfl rfl R.2.2.1, rb_2 f1 f2 rfl rfl rfl rfl rfl rfl R.2.2.2.1, rb_2 f1 f2 rfl rfl rfl rfl rfl rfl R.2.2.2.2.1, pr_2 f1 f2 rfl rfl rfl rfl rfl rfl R.2.2.2.2.2.1, pr_2 f1 f2 rfl rfl rfl rfl rfl rfl R.2.2.2.2.2.2.1, ch_2 f1 f2 rfl rfl R.2.2.2.2.2.2.2.1, pl_2 f1 f2 rfl rfl R.2.2.2.2.2.2.2.2.1, SI_2 I.1 I.2.1 k1.1 l1 (fz_run (by decide +kernel) r1) (fz_run (by decide +kernel) r2) f1 f2 rfl rfl R.2.2.2.2.2.2.2.2.2.1, VZ_2 f1 f2 rfl rfl R.2.2.2.2.2.2.2.2.2.2.1, PI_2 I.1 I.2.1 k1.1 l1 (fz_run (by decide +kernel) r1) (qz_run (by decide +kernel) r1) f1 rfl (fz_run (by decide +kernel) r2) (qz_run (by decide +kernel) r2) f2 rfl (RI_p R)⟩⟩
  refine ⟨h2, c, s, ?_, I2, by omega, by omega⟩
  refine xV_step (o1 := (731, lc_v i, [.ref 0], h, c, s)) rfl rfl rfl rfl ?_
  refine xV_call (d := 49) rfl rfl rfl rfl (xa_c_ok (d := 49) (pc := 731) (lv := lc_v i) (nL := 8) (lc_Iq I) rfl).1 r1 ?_
  refine xV_step (o1 := (735, lc_v i, [], h1, c, s)) rfl rfl rfl rfl ?_
  refine xV_step (o1 := (736, lc_v i, [.ref 39], h1, c, s)) rfl rfl rfl rfl ?_
  refine xV_call (d := 49) rfl rfl rfl rfl (xa_c_ok (d := 49) (pc := 736) (lv := lc_v i) (nL := 8) (hk_q k1 I.2.1) rfl).1 r2 ?_
  refine xV_step (o1 := (740, lc_v i, [], h2, c, s)) rfl rfl rfl rfl ?_
  refine xV_step (o1 := (999, lc_v i, [], h2, c, s)) rfl rfl rfl rfl ?_
  exact xV_stop
set_option maxRecDepth 100000 in
set_option maxHeartbeats 4000000 in
/-- turns -/
theorem lo_10 (hL : L ≤ 3072) (hi6 : i + 6 ≤ L) (I : lc_I h) : lo_P L xs i 490 h c s := by
  obtain ⟨⟨t, tp⟩, ⟨mem, m12, e9, e4⟩, ⟨sc, sc8, e8, e33⟩, ⟨td, td9, e10, e3⟩, ⟨vc, vc6, e35, e63⟩, e1, e11, ch, pl, si, vs, pi⟩ := I.2.2.2
  have R := I.2.2.2
  have m1 := lc_m1 I e9 m12
  obtain ⟨v1, h1, r1, k1⟩ := lc_3 (D := 49) (C := aC_m_X9_turns) (m := xmi_X9_turns) (A := [.ref 0, .int (xs (i + 1))]) I.1 I.2.1 as_m_X9_turns rfl (by decide) ⟨a_av (by decide) I.2.1, a_an, trivial⟩ rfl
  have l1 : 72 ≤ h1.1.length := hk_n k1 I.2.1
  obtain ⟨v2, h2, r2, k2⟩ := lc_3 (D := 49) (C := aC_m_X10_turns) (m := xmi_X10_turns) (A := [.ref 39, .int (xs (i + 1))]) k1.1 l1 as_m_X10_turns rfl (by decide) ⟨a_av (by decide) l1, a_an, trivial⟩ rfl
  have sr := SI_r si e9 m12 e8 sc8
  obtain ⟨rfl, pi1⟩ := xq_Z (hn := (show List.Nodup [0, 1] by decide)) r1 (fun f => tu9_q (f := f) (x := xs (i + 1)) (d := nI td) I.1 I.2.1 e9 m1 m12 e8 sc8 e10 si pi)
  obtain rfl := xq_Z (hn := (show List.Nodup [0, 1] by decide)) r2 (fun f => tu10_q (f := f) (x := xs (i + 1)) (d := nI td) (FR := fun k => xg 0 h.2.1 51 k) (RW := fun k => xg 0 h.2.1 44 k) m12 ((hk_g (c := 39) (k := 4) k1 rfl rfl).trans e4) ((hk_g (c := 39) (k := 33) k1 rfl rfl).trans e33) sc8 ((hk_g (c := 39) (k := 3) k1 rfl rfl).trans e3) (fun k _ => hk_g (c := 51) (k := k) k1 rfl rfl) (fun k hk' => by rw [hk_g (c := 52) (k := k) k1 rfl rfl]; exact sr.1 k hk') (fun k s hk' hs => by obtain ⟨b, e⟩ := sr.2.1 k s hk' hs; exact ⟨b, e, (hk_g (c := 44) (k := 4096 * k + s) k1 rfl rfl).trans e⟩) (hk_q k1 I.2.1))
  have f1 := k1.2.2
  have f2 := k2.2.2
  have I2 : lc_I h2 := ⟨k2.1, hk_n k2 l1, by rw [k2.2.1, k1.2.1]; exact I.2.2.1, ⟨tp_2 f1 f2 rfl (fun _ => rfl) rfl (fun _ => rfl) rfl (fun _ => rfl) rfl (fun _ => rfl) R.1, rb_2 f1 f2 rfl rfl rfl rfl rfl rfl R.2.1, rb_2 f1 f2 rfl rfl rfl rfl rfl rfl R.2.2.1, rb_2 f1 f2 rfl rfl rfl rfl rfl rfl R.2.2.2.1, rb_2 f1 f2 rfl rfl rfl rfl rfl rfl R.2.2.2.2.1, pr_2 f1 f2 rfl rfl rfl rfl rfl rfl R.2.2.2.2.2.1, pr_2 f1 f2 rfl rfl rfl rfl rfl rfl R.2.2.2.2.2.2.1, ch_2 f1 f2 rfl rfl R.2.2.2.2.2.2.2.1, pl_2 f1 f2 rfl rfl R.2.2.2.2.2.2.2.2.1, SI_2 I.1 I.2.1 k1.1 l1 (fz_run (by decide +kernel) r1) (fz_run (by decide +kernel) r2) f1 f2 rfl rfl R.2.2.2.2.2.2.2.2.2.1, VZ_2 f1 f2 rfl rfl R.2.2.2.2.2.2.2.2.2.2.1, PI_t k1.1 l1 (Fs_z (a_rq_of k1.1.1 l1) (fz_run (by decide +kernel) r2)) (qz_run (by decide +kernel) r2) f2 rfl (pi1)⟩⟩
  refine ⟨h2, c, s, ?_, I2, by omega, by omega⟩
  refine xV_step (o1 := (491, lc_v i, [.ref 0], h, c, s)) rfl rfl rfl rfl ?_
  refine xV_arg 1 1 rfl (by omega) hL rfl rfl rfl rfl rfl rfl rfl rfl rfl rfl ?_
  refine xV_call (d := 49) rfl rfl rfl rfl (xa_c_ok (d := 49) (pc := 497) (lv := lc_v i) (nL := 8) (lc_Iq I) rfl).1 r1 ?_
  refine xV_step (o1 := (501, lc_v i, [], h1, c, s)) rfl rfl rfl rfl ?_
  refine xV_step (o1 := (502, lc_v i, [.ref 39], h1, c, s)) rfl rfl rfl rfl ?_
  refine xV_arg 1 1 rfl (by omega) hL rfl rfl rfl rfl rfl rfl rfl rfl rfl rfl ?_
  refine xV_call (d := 49) rfl rfl rfl rfl (xa_c_ok (d := 49) (pc := 508) (lv := lc_v i) (nL := 8) (hk_q k1 I.2.1) rfl).1 r2 ?_
  refine xV_step (o1 := (512, lc_v i, [], h2, c, s)) rfl rfl rfl rfl ?_
  refine xV_step (o1 := (999, lc_v i, [], h2, c, s)) rfl rfl rfl rfl ?_
  exact xV_stop
set_option maxRecDepth 100000 in
set_option maxHeartbeats 4000000 in
/-- stronger -/
theorem lo_9 (hL : L ≤ 3072) (hi6 : i + 6 ≤ L) (I : lc_I h) : lo_P L xs i 453 h c s := by
  obtain ⟨⟨t, tp⟩, ⟨mem, m12, e9, e4⟩, ⟨sc, sc8, e8, e33⟩, ⟨td, td9, e10, e3⟩, ⟨vc, vc6, e35, e63⟩, e1, e11, ch, pl, si, vs, pi⟩ := I.2.2.2
  have R := I.2.2.2
  have m1 := lc_m1 I e9 m12
  obtain ⟨v1, h1, r1, k1⟩ := lc_3 (D := 49) (C := aC_m_X9_stronger) (m := xmi_X9_stronger) (A := [.ref 0, .int (xs (i + 1)), .int (xs (i + 2))]) I.1 I.2.1 as_m_X9_stronger rfl (by decide) ⟨a_av (by decide) I.2.1, a_an, a_an, trivial⟩ rfl
  have l1 : 72 ≤ h1.1.length := hk_n k1 I.2.1
  obtain ⟨v2, h2, r2, k2⟩ := lc_3 (D := 49) (C := aC_m_X10_stronger) (m := xmi_X10_stronger) (A := [.ref 39, .int (xs (i + 1)), .int (xs (i + 2))]) k1.1 l1 as_m_X10_stronger rfl (by decide) ⟨a_av (by decide) l1, a_an, a_an, trivial⟩ rfl
  have sr := SI_r si e9 m12 e8 sc8
  obtain ⟨rfl, pi1⟩ := xq_Z (hn := (show List.Nodup [0, 1, 2] by decide)) r1 (fun f => sr9_q (f := f) (x := xs (i + 1)) (y := xs (i + 2)) (d := nI td) I.1 I.2.1 e9 m1 m12 e8 sc8 e10 si pi)
  obtain rfl := xq_Z (hn := (show List.Nodup [0, 1, 2] by decide)) r2 (fun f => sr10_q (f := f) (x := xs (i + 1)) (y := xs (i + 2)) (d := nI td) (FR := fun k => xg 0 h.2.1 51 k) (RW := fun k => xg 0 h.2.1 44 k) m12 ((hk_g (c := 39) (k := 4) k1 rfl rfl).trans e4) ((hk_g (c := 39) (k := 33) k1 rfl rfl).trans e33) sc8 ((hk_g (c := 39) (k := 3) k1 rfl rfl).trans e3) (fun k _ => hk_g (c := 51) (k := k) k1 rfl rfl) (fun k hk' => by rw [hk_g (c := 52) (k := k) k1 rfl rfl]; exact sr.1 k hk') (fun k s hk' hs => by obtain ⟨b, e⟩ := sr.2.1 k s hk' hs; exact ⟨b, e, (hk_g (c := 44) (k := 4096 * k + s) k1 rfl rfl).trans e⟩) (hk_q k1 I.2.1))
  have f1 := k1.2.2
  have f2 := k2.2.2
  have I2 : lc_I h2 := ⟨k2.1, hk_n k2 l1, by rw [k2.2.1, k1.2.1]; exact I.2.2.1, ⟨tp_2 f1 f2 rfl (fun _ => rfl) rfl (fun _ => rfl) rfl (fun _ => rfl) rfl (fun _ => rfl) R.1, rb_2 f1 f2 rfl rfl rfl rfl rfl rfl R.2.1, rb_2 f1 f2 rfl rfl rfl rfl rfl rfl R.2.2.1, rb_2 f1 f2 rfl rfl rfl rfl rfl rfl R.2.2.2.1, rb_2 f1 f2 rfl rfl rfl rfl rfl rfl R.2.2.2.2.1, pr_2 f1 f2 rfl rfl rfl rfl rfl rfl R.2.2.2.2.2.1, pr_2 f1 f2 rfl rfl rfl rfl rfl rfl R.2.2.2.2.2.2.1, ch_2 f1 f2 rfl rfl R.2.2.2.2.2.2.2.1, pl_2 f1 f2 rfl rfl R.2.2.2.2.2.2.2.2.1, SI_2 I.1 I.2.1 k1.1 l1 (fz_run (by decide +kernel) r1) (fz_run (by decide +kernel) r2) f1 f2 rfl rfl R.2.2.2.2.2.2.2.2.2.1, VZ_2 f1 f2 rfl rfl R.2.2.2.2.2.2.2.2.2.2.1, PI_t k1.1 l1 (Fs_z (a_rq_of k1.1.1 l1) (fz_run (by decide +kernel) r2)) (qz_run (by decide +kernel) r2) f2 rfl (pi1)⟩⟩
  refine ⟨h2, c, s, ?_, I2, by omega, by omega⟩
  refine xV_step (o1 := (454, lc_v i, [.ref 0], h, c, s)) rfl rfl rfl rfl ?_
  refine xV_arg 1 1 rfl (by omega) hL rfl rfl rfl rfl rfl rfl rfl rfl rfl rfl ?_
  refine xV_arg 2 2 rfl (by omega) hL rfl rfl rfl rfl rfl rfl rfl rfl rfl rfl ?_
  refine xV_call (d := 49) rfl rfl rfl rfl (xa_c_ok (d := 49) (pc := 466) (lv := lc_v i) (nL := 8) (lc_Iq I) rfl).1 r1 ?_
  refine xV_step (o1 := (470, lc_v i, [], h1, c, s)) rfl rfl rfl rfl ?_
  refine xV_step (o1 := (471, lc_v i, [.ref 39], h1, c, s)) rfl rfl rfl rfl ?_
  refine xV_arg 1 1 rfl (by omega) hL rfl rfl rfl rfl rfl rfl rfl rfl rfl rfl ?_
  refine xV_arg 2 2 rfl (by omega) hL rfl rfl rfl rfl rfl rfl rfl rfl rfl rfl ?_
  refine xV_call (d := 49) rfl rfl rfl rfl (xa_c_ok (d := 49) (pc := 483) (lv := lc_v i) (nL := 8) (hk_q k1 I.2.1) rfl).1 r2 ?_
  refine xV_step (o1 := (487, lc_v i, [], h2, c, s)) rfl rfl rfl rfl ?_
  refine xV_step (o1 := (999, lc_v i, [], h2, c, s)) rfl rfl rfl rfl ?_
  exact xV_stop
set_option maxRecDepth 100000 in
set_option maxHeartbeats 4000000 in
/-- ally -/
theorem lo_13 (hL : L ≤ 3072) (hi6 : i + 6 ≤ L) (I : lc_I h) : lo_P L xs i 592 h c s := by
  obtain ⟨⟨t, tp⟩, ⟨mem, m12, e9, e4⟩, ⟨sc, sc8, e8, e33⟩, ⟨td, td9, e10, e3⟩, ⟨vc, vc6, e35, e63⟩, e1, e11, ch, pl, si, vs, pi⟩ := I.2.2.2
  have R := I.2.2.2
  have m1 := lc_m1 I e9 m12
  obtain ⟨v1, h1, r1, k1⟩ := lc_3 (D := 49) (C := aC_m_X9_ally) (m := xmi_X9_ally) (A := [.ref 0, .int (xs (i + 1))]) I.1 I.2.1 as_m_X9_ally rfl (by decide) ⟨a_av (by decide) I.2.1, a_an, trivial⟩ rfl
  have l1 : 72 ≤ h1.1.length := hk_n k1 I.2.1
  obtain ⟨v2, h2, r2, k2⟩ := lc_3 (D := 49) (C := aC_m_X10_ally) (m := xmi_X10_ally) (A := [.ref 39, .int (xs (i + 1))]) k1.1 l1 as_m_X10_ally rfl (by decide) ⟨a_av (by decide) l1, a_an, trivial⟩ rfl
  have sr := SI_r si e9 m12 e8 sc8
  obtain ⟨rfl, pi1⟩ := xq_Z (hn := (show List.Nodup [0, 1] by decide)) r1 (fun f => al9_q (f := f) (x := xs (i + 1)) (d := nI td) I.1 I.2.1 e9 m1 m12 e8 sc8 e10 si pi)
  obtain rfl := xq_Z (hn := (show List.Nodup [0, 1] by decide)) r2 (fun f => al10_q (f := f) (x := xs (i + 1)) (d := nI td) (FR := fun k => xg 0 h.2.1 51 k) (RW := fun k => xg 0 h.2.1 44 k) m12 ((hk_g (c := 39) (k := 4) k1 rfl rfl).trans e4) ((hk_g (c := 39) (k := 33) k1 rfl rfl).trans e33) sc8 ((hk_g (c := 39) (k := 3) k1 rfl rfl).trans e3) (fun k _ => hk_g (c := 51) (k := k) k1 rfl rfl) (fun k hk' => by rw [hk_g (c := 52) (k := k) k1 rfl rfl]; exact sr.1 k hk') (fun k s hk' hs => by obtain ⟨b, e⟩ := sr.2.1 k s hk' hs; exact ⟨b, e, (hk_g (c := 44) (k := 4096 * k + s) k1 rfl rfl).trans e⟩) (hk_q k1 I.2.1))
  have f1 := k1.2.2
  have f2 := k2.2.2
  have I2 : lc_I h2 := ⟨k2.1, hk_n k2 l1, by rw [k2.2.1, k1.2.1]; exact I.2.2.1, ⟨tp_2 f1 f2 rfl (fun _ => rfl) rfl (fun _ => rfl) rfl (fun _ => rfl) rfl (fun _ => rfl) R.1, rb_2 f1 f2 rfl rfl rfl rfl rfl rfl R.2.1, rb_2 f1 f2 rfl rfl rfl rfl rfl rfl R.2.2.1, rb_2 f1 f2 rfl rfl rfl rfl rfl rfl R.2.2.2.1, rb_2 f1 f2 rfl rfl rfl rfl rfl rfl R.2.2.2.2.1, pr_2 f1 f2 rfl rfl rfl rfl rfl rfl R.2.2.2.2.2.1, pr_2 f1 f2 rfl rfl rfl rfl rfl rfl R.2.2.2.2.2.2.1, ch_2 f1 f2 rfl rfl R.2.2.2.2.2.2.2.1, pl_2 f1 f2 rfl rfl R.2.2.2.2.2.2.2.2.1, SI_2 I.1 I.2.1 k1.1 l1 (fz_run (by decide +kernel) r1) (fz_run (by decide +kernel) r2) f1 f2 rfl rfl R.2.2.2.2.2.2.2.2.2.1, VZ_2 f1 f2 rfl rfl R.2.2.2.2.2.2.2.2.2.2.1, PI_t k1.1 l1 (Fs_z (a_rq_of k1.1.1 l1) (fz_run (by decide +kernel) r2)) (qz_run (by decide +kernel) r2) f2 rfl (pi1)⟩⟩
  refine ⟨h2, c, s, ?_, I2, by omega, by omega⟩
  refine xV_step (o1 := (593, lc_v i, [.ref 0], h, c, s)) rfl rfl rfl rfl ?_
  refine xV_arg 1 1 rfl (by omega) hL rfl rfl rfl rfl rfl rfl rfl rfl rfl rfl ?_
  refine xV_call (d := 49) rfl rfl rfl rfl (xa_c_ok (d := 49) (pc := 599) (lv := lc_v i) (nL := 8) (lc_Iq I) rfl).1 r1 ?_
  refine xV_step (o1 := (603, lc_v i, [], h1, c, s)) rfl rfl rfl rfl ?_
  refine xV_step (o1 := (604, lc_v i, [.ref 39], h1, c, s)) rfl rfl rfl rfl ?_
  refine xV_arg 1 1 rfl (by omega) hL rfl rfl rfl rfl rfl rfl rfl rfl rfl rfl ?_
  refine xV_call (d := 49) rfl rfl rfl rfl (xa_c_ok (d := 49) (pc := 610) (lv := lc_v i) (nL := 8) (hk_q k1 I.2.1) rfl).1 r2 ?_
  refine xV_step (o1 := (614, lc_v i, [], h2, c, s)) rfl rfl rfl rfl ?_
  refine xV_step (o1 := (999, lc_v i, [], h2, c, s)) rfl rfl rfl rfl ?_
  exact xV_stop
set_option maxRecDepth 100000 in
set_option maxHeartbeats 4000000 in
/-- many -/
theorem lo_7 (hL : L ≤ 3072) (hi6 : i + 6 ≤ L) (I : lc_I h) : lo_P L xs i 391 h c s := by
  obtain ⟨⟨t, tp⟩, ⟨mem, m12, e9, e4⟩, ⟨sc, sc8, e8, e33⟩, ⟨td, td9, e10, e3⟩, ⟨vc, vc6, e35, e63⟩, e1, e11, ch, pl, si, vs, pi⟩ := I.2.2.2
  have R := I.2.2.2
  have m1 := lc_m1 I e9 m12
  obtain ⟨v1, h1, r1, k1⟩ := lc_3 (D := 49) (C := aC_m_X9_many) (m := xmi_X9_many) (A := [.ref 0, .int (xs (i + 1))]) I.1 I.2.1 as_m_X9_many rfl (by decide) ⟨a_av (by decide) I.2.1, a_an, trivial⟩ rfl
  have l1 : 72 ≤ h1.1.length := hk_n k1 I.2.1
  obtain ⟨v2, h2, r2, k2⟩ := lc_3 (D := 49) (C := aC_m_X10_many) (m := xmi_X10_many) (A := [.ref 39, .int (xs (i + 1))]) k1.1 l1 as_m_X10_many rfl (by decide) ⟨a_av (by decide) l1, a_an, trivial⟩ rfl
  have sr := SI_r si e9 m12 e8 sc8
  have M := cv_m (d := nI td) I.1 m12 e33 sc8 sr.2.1
  obtain ⟨rfl, pi1⟩ := xq_Z (hn := (show List.Nodup [0, 1] by decide)) r1 (fun f => ma9_q (f := f) (x := xs (i + 1)) (d := nI td) I.1 I.2.1 e9 m1 m12 e8 sc8 e10 si pi M)
  obtain rfl := xq_Z (hn := (show List.Nodup [0, 1] by decide)) r2 (fun f => ma10_q (f := f) (x := xs (i + 1)) (d := nI td) (FR := fun k => xg 0 h.2.1 51 k) (RW := fun k => xg 0 h.2.1 44 k) m12 ((hk_g (c := 39) (k := 4) k1 rfl rfl).trans e4) ((hk_g (c := 39) (k := 33) k1 rfl rfl).trans e33) sc8 ((hk_g (c := 39) (k := 3) k1 rfl rfl).trans e3) (fun k _ => hk_g (c := 51) (k := k) k1 rfl rfl) (fun k hk' => by rw [hk_g (c := 52) (k := k) k1 rfl rfl]; exact sr.1 k hk') (fun k s hk' hs => by obtain ⟨b, e⟩ := sr.2.1 k s hk' hs; exact ⟨b, e, (hk_g (c := 44) (k := 4096 * k + s) k1 rfl rfl).trans e⟩) (hk_q k1 I.2.1))
  have f1 := k1.2.2
  have f2 := k2.2.2
  have I2 : lc_I h2 := ⟨k2.1, hk_n k2 l1, by rw [k2.2.1, k1.2.1]; exact I.2.2.1, ⟨tp_2 f1 f2 rfl (fun _ => rfl) rfl (fun _ => rfl) rfl (fun _ => rfl) rfl (fun _ => rfl) R.1, rb_2 f1 f2 rfl rfl rfl rfl rfl rfl R.2.1, rb_2 f1 f2 rfl rfl rfl rfl rfl rfl R.2.2.1, rb_2 f1 f2 rfl rfl rfl rfl rfl rfl R.2.2.2.1, rb_2 f1 f2 rfl rfl rfl rfl rfl rfl R.2.2.2.2.1, pr_2 f1 f2 rfl rfl rfl rfl rfl rfl R.2.2.2.2.2.1, pr_2 f1 f2 rfl rfl rfl rfl rfl rfl R.2.2.2.2.2.2.1, ch_2 f1 f2 rfl rfl R.2.2.2.2.2.2.2.1, pl_2 f1 f2 rfl rfl R.2.2.2.2.2.2.2.2.1, SI_2 I.1 I.2.1 k1.1 l1 (fz_run (by decide +kernel) r1) (fz_run (by decide +kernel) r2) f1 f2 rfl rfl R.2.2.2.2.2.2.2.2.2.1, VZ_2 f1 f2 rfl rfl R.2.2.2.2.2.2.2.2.2.2.1, PI_t k1.1 l1 (Fs_z (a_rq_of k1.1.1 l1) (fz_run (by decide +kernel) r2)) (qz_run (by decide +kernel) r2) f2 rfl (pi1)⟩⟩
  refine ⟨h2, c, s, ?_, I2, by omega, by omega⟩
  refine xV_step (o1 := (392, lc_v i, [.ref 0], h, c, s)) rfl rfl rfl rfl ?_
  refine xV_arg 1 1 rfl (by omega) hL rfl rfl rfl rfl rfl rfl rfl rfl rfl rfl ?_
  refine xV_call (d := 49) rfl rfl rfl rfl (xa_c_ok (d := 49) (pc := 398) (lv := lc_v i) (nL := 8) (lc_Iq I) rfl).1 r1 ?_
  refine xV_step (o1 := (402, lc_v i, [], h1, c, s)) rfl rfl rfl rfl ?_
  refine xV_step (o1 := (403, lc_v i, [.ref 39], h1, c, s)) rfl rfl rfl rfl ?_
  refine xV_arg 1 1 rfl (by omega) hL rfl rfl rfl rfl rfl rfl rfl rfl rfl rfl ?_
  refine xV_call (d := 49) rfl rfl rfl rfl (xa_c_ok (d := 49) (pc := 409) (lv := lc_v i) (nL := 8) (hk_q k1 I.2.1) rfl).1 r2 ?_
  refine xV_step (o1 := (413, lc_v i, [], h2, c, s)) rfl rfl rfl rfl ?_
  refine xV_step (o1 := (999, lc_v i, [], h2, c, s)) rfl rfl rfl rfl ?_
  exact xV_stop
set_option maxRecDepth 100000 in
set_option maxHeartbeats 4000000 in
/-- setAt -/
theorem lo_8 (hL : L ≤ 3072) (hi6 : i + 6 ≤ L) (I : lc_I h) : lo_P L xs i 416 h c s := by
  obtain ⟨⟨t, tp⟩, ⟨mem, m12, e9, e4⟩, ⟨sc, sc8, e8, e33⟩, ⟨td, td9, e10, e3⟩, ⟨vc, vc6, e35, e63⟩, e1, e11, ch, pl, si, vs, pi⟩ := I.2.2.2
  have R := I.2.2.2
  have m1 := lc_m1 I e9 m12
  obtain ⟨v1, h1, r1, k1⟩ := lc_3 (D := 49) (C := aC_m_X9_setAt) (m := xmi_X9_setAt) (A := [.ref 0, .int (xs (i + 1)), .int (xs (i + 2))]) I.1 I.2.1 as_m_X9_setAt rfl (by decide) ⟨a_av (by decide) I.2.1, a_an, a_an, trivial⟩ rfl
  have l1 : 72 ≤ h1.1.length := hk_n k1 I.2.1
  obtain ⟨v2, h2, r2, k2⟩ := lc_3 (D := 49) (C := aC_m_X10_setAt) (m := xmi_X10_setAt) (A := [.ref 39, .int (xs (i + 1)), .int (xs (i + 2))]) k1.1 l1 as_m_X10_setAt rfl (by decide) ⟨a_av (by decide) l1, a_an, a_an, trivial⟩ rfl
  have sr := SI_r si e9 m12 e8 sc8
  have M := cv_m (d := nI td) I.1 m12 e33 sc8 sr.2.1
  obtain ⟨rfl, pi1⟩ := xq_Z (hn := (show List.Nodup [0, 1, 2] by decide)) r1 (fun f => sa9_q (f := f) (x := xs (i + 1)) (y := xs (i + 2)) (d := nI td) I.1 I.2.1 e9 m1 m12 e8 sc8 e10 si pi M)
  obtain rfl := xq_Z (hn := (show List.Nodup [0, 1, 2] by decide)) r2 (fun f => sa10_q (f := f) (x := xs (i + 1)) (y := xs (i + 2)) (d := nI td) (FR := fun k => xg 0 h.2.1 51 k) (RW := fun k => xg 0 h.2.1 44 k) m12 ((hk_g (c := 39) (k := 4) k1 rfl rfl).trans e4) ((hk_g (c := 39) (k := 33) k1 rfl rfl).trans e33) sc8 ((hk_g (c := 39) (k := 3) k1 rfl rfl).trans e3) (fun k _ => hk_g (c := 51) (k := k) k1 rfl rfl) (fun k hk' => by rw [hk_g (c := 52) (k := k) k1 rfl rfl]; exact sr.1 k hk') (fun k s hk' hs => by obtain ⟨b, e⟩ := sr.2.1 k s hk' hs; exact ⟨b, e, (hk_g (c := 44) (k := 4096 * k + s) k1 rfl rfl).trans e⟩) (hk_q k1 I.2.1))
  have f1 := k1.2.2
  have f2 := k2.2.2
  have I2 : lc_I h2 := ⟨k2.1, hk_n k2 l1, by rw [k2.2.1, k1.2.1]; exact I.2.2.1, ⟨tp_2 f1 f2 rfl (fun _ => rfl) rfl (fun _ => rfl) rfl (fun _ => rfl) rfl (fun _ => rfl) R.1, rb_2 f1 f2 rfl rfl rfl rfl rfl rfl R.2.1, rb_2 f1 f2 rfl rfl rfl rfl rfl rfl R.2.2.1, rb_2 f1 f2 rfl rfl rfl rfl rfl rfl R.2.2.2.1, rb_2 f1 f2 rfl rfl rfl rfl rfl rfl R.2.2.2.2.1, pr_2 f1 f2 rfl rfl rfl rfl rfl rfl R.2.2.2.2.2.1, pr_2 f1 f2 rfl rfl rfl rfl rfl rfl R.2.2.2.2.2.2.1, ch_2 f1 f2 rfl rfl R.2.2.2.2.2.2.2.1, pl_2 f1 f2 rfl rfl R.2.2.2.2.2.2.2.2.1, SI_2 I.1 I.2.1 k1.1 l1 (fz_run (by decide +kernel) r1) (fz_run (by decide +kernel) r2) f1 f2 rfl rfl R.2.2.2.2.2.2.2.2.2.1, VZ_2 f1 f2 rfl rfl R.2.2.2.2.2.2.2.2.2.2.1, PI_t k1.1 l1 (Fs_z (a_rq_of k1.1.1 l1) (fz_run (by decide +kernel) r2)) (qz_run (by decide +kernel) r2) f2 rfl (pi1)⟩⟩
  refine ⟨h2, c, s, ?_, I2, by omega, by omega⟩
  refine xV_step (o1 := (417, lc_v i, [.ref 0], h, c, s)) rfl rfl rfl rfl ?_
  refine xV_arg 1 1 rfl (by omega) hL rfl rfl rfl rfl rfl rfl rfl rfl rfl rfl ?_
  refine xV_arg 2 2 rfl (by omega) hL rfl rfl rfl rfl rfl rfl rfl rfl rfl rfl ?_
  refine xV_call (d := 49) rfl rfl rfl rfl (xa_c_ok (d := 49) (pc := 429) (lv := lc_v i) (nL := 8) (lc_Iq I) rfl).1 r1 ?_
  refine xV_step (o1 := (433, lc_v i, [], h1, c, s)) rfl rfl rfl rfl ?_
  refine xV_step (o1 := (434, lc_v i, [.ref 39], h1, c, s)) rfl rfl rfl rfl ?_
  refine xV_arg 1 1 rfl (by omega) hL rfl rfl rfl rfl rfl rfl rfl rfl rfl rfl ?_
  refine xV_arg 2 2 rfl (by omega) hL rfl rfl rfl rfl rfl rfl rfl rfl rfl rfl ?_
  refine xV_call (d := 49) rfl rfl rfl rfl (xa_c_ok (d := 49) (pc := 446) (lv := lc_v i) (nL := 8) (hk_q k1 I.2.1) rfl).1 r2 ?_
  refine xV_step (o1 := (450, lc_v i, [], h2, c, s)) rfl rfl rfl rfl ?_
  refine xV_step (o1 := (999, lc_v i, [], h2, c, s)) rfl rfl rfl rfl ?_
  exact xV_stop
set_option maxRecDepth 100000 in
set_option maxHeartbeats 4000000 in
/-- chance -/
theorem lo_12 (hL : L ≤ 3072) (hi6 : i + 6 ≤ L) (I : lc_I h) : lo_P L xs i 567 h c s := by
  obtain ⟨⟨t, tp⟩, ⟨mem, m12, e9, e4⟩, ⟨sc, sc8, e8, e33⟩, ⟨td, td9, e10, e3⟩, ⟨vc, vc6, e35, e63⟩, e1, e11, ch, pl, si, vs, pi⟩ := I.2.2.2
  have m1 := lc_m1 I e9 m12
  obtain ⟨v1, h1, r1, k1⟩ := lc_3 (D := 49) (C := aC_m_X9_chance) (m := xmi_X9_chance) (A := [.ref 0, .int (xs (i + 1))]) I.1 I.2.1 as_m_X9_chance rfl (by decide) ⟨a_av (by decide) I.2.1, a_an, trivial⟩ rfl
  have l1 : 72 ≤ h1.1.length := hk_n k1 I.2.1
  have I1 : lc_I h1 := lc_chI I r1 k1
  obtain ⟨v2, h2, r2, k2⟩ := lc_3 (D := 49) (C := aC_m_X10_chance) (m := xmi_X10_chance) (A := [.ref 39, .int (xs (i + 1))]) k1.1 l1 as_m_X10_chance rfl (by decide) ⟨a_av (by decide) l1, a_an, trivial⟩ rfl
  have sr := SI_r si e9 m12 e8 sc8
  obtain rfl := xq_Z (hn := (show List.Nodup [0, 1] by decide)) r1 (fun f => cv9_q (f := f) (x := xs (i + 1)) (d := nI td) I.1 I.2.1 e9 m1 m12 e8 sc8 e10 si pi)
  obtain rfl := xq_Z (hn := (show List.Nodup [0, 1] by decide)) r2 (fun f => cv10_q (f := f) (x := xs (i + 1)) (d := nI td) (FR := fun k => xg 0 h.2.1 51 k) (RW := fun k => xg 0 h.2.1 44 k) m12 ((hk_g (c := 39) (k := 4) k1 rfl rfl).trans e4) ((hk_g (c := 39) (k := 33) k1 rfl rfl).trans e33) sc8 ((hk_g (c := 39) (k := 3) k1 rfl rfl).trans e3) (fun k _ => hk_g (c := 51) (k := k) k1 rfl rfl) (fun k hk' => by rw [hk_g (c := 52) (k := k) k1 rfl rfl]; exact sr.1 k hk') (fun k s hk' hs => by obtain ⟨b, e⟩ := sr.2.1 k s hk' hs; exact ⟨b, e, (hk_g (c := 44) (k := 4096 * k + s) k1 rfl rfl).trans e⟩) (hk_q k1 I.2.1))
  have I2 : lc_I h2 := lc_It I1 k2.1 (hk_n k2 l1) (by rw [k2.2.1]; exact I1.2.2.1) (Fs_z (lc_Iq I1) (fz_run (by decide +kernel) r2)) k2.2.2 rfl (PI_t I1.1 I1.2.1 (Fs_z (lc_Iq I1) (fz_run (by decide +kernel) r2)) (qz_run (by decide +kernel) r2) k2.2.2 rfl (RI_p I1.2.2.2))
  refine ⟨h2, c, s, ?_, I2, by omega, by omega⟩
  refine xV_step (o1 := (568, lc_v i, [.ref 0], h, c, s)) rfl rfl rfl rfl ?_
  refine xV_arg 1 1 rfl (by omega) hL rfl rfl rfl rfl rfl rfl rfl rfl rfl rfl ?_
  refine xV_call (d := 49) rfl rfl rfl rfl (xa_c_ok (d := 49) (pc := 574) (lv := lc_v i) (nL := 8) (lc_Iq I) rfl).1 r1 ?_
  refine xV_step (o1 := (578, lc_v i, [], h1, c, s)) rfl rfl rfl rfl ?_
  refine xV_step (o1 := (579, lc_v i, [.ref 39], h1, c, s)) rfl rfl rfl rfl ?_
  refine xV_arg 1 1 rfl (by omega) hL rfl rfl rfl rfl rfl rfl rfl rfl rfl rfl ?_
  refine xV_call (d := 49) rfl rfl rfl rfl (xa_c_ok (d := 49) (pc := 585) (lv := lc_v i) (nL := 8) (hk_q k1 I.2.1) rfl).1 r2 ?_
  refine xV_step (o1 := (589, lc_v i, [], h2, c, s)) rfl rfl rfl rfl ?_
  refine xV_step (o1 := (999, lc_v i, [], h2, c, s)) rfl rfl rfl rfl ?_
  exact xV_stop
set_option maxRecDepth 100000 in
set_option maxHeartbeats 4000000 in
/-- fault -/
theorem lo_5 (hL : L ≤ 3072) (hi6 : i + 6 ≤ L) (I : lc_I h) : lo_P L xs i 341 h c s := by
  obtain ⟨⟨t, tp⟩, ⟨mem, m12, e9, e4⟩, ⟨sc, sc8, e8, e33⟩, ⟨td, td9, e10, e3⟩, ⟨vc, vc6, e35, e63⟩, e1, e11, ch, pl, si, vs, pi⟩ := I.2.2.2
  have R := I.2.2.2
  obtain ⟨v1, h1, r1, k1⟩ := lc_3 (D := 49) (C := aC_m_X9_fault) (m := xmi_X9_fault) (A := [.ref 0]) I.1 I.2.1 as_m_X9_fault rfl (by decide) ⟨a_av (by decide) I.2.1, trivial⟩ rfl
  have l1 : 72 ≤ h1.1.length := hk_n k1 I.2.1
  obtain ⟨v2, h2, r2, k2⟩ := lc_3 (D := 49) (C := aC_m_X10_fault) (m := xmi_X10_fault) (A := [.ref 39]) k1.1 l1 as_m_X10_fault rfl (by decide) ⟨a_av (by decide) l1, trivial⟩ rfl
  obtain rfl := xq_Z (hn := (show List.Nodup [0] by decide)) r1 (fun f => fa9_q (f := f) (a := xg 0 h.2.1 0 11) (lc_Iq I) rfl)
  obtain rfl := xq_Z (hn := (show List.Nodup [0] by decide)) r2 (fun f => fa10_q (f := f) (a := xg 0 h.2.1 0 11) (hk_q k1 I.2.1) ((hk_g (c := 39) (k := 13) k1 rfl rfl).trans e11.symm))
  have f1 := k1.2.2
  have f2 := k2.2.2
  have I2 : lc_I h2 := ⟨k2.1, hk_n k2 l1, by rw [k2.2.1, k1.2.1]; exact I.2.2.1, ⟨tp_2 f1 f2 rfl (fun _ => rfl) rfl (fun _ => rfl) rfl (fun _ => rfl) rfl (fun _ => rfl) R.1, rb_2 f1 f2 rfl rfl rfl rfl rfl rfl R.2.1, rb_2 f1 f2 rfl rfl rfl rfl rfl rfl R.2.2.1, rb_2 f1 f2 rfl rfl rfl rfl rfl rfl R.2.2.2.1, rb_2 f1 f2 rfl rfl rfl rfl rfl rfl R.2.2.2.2.1, pr_2 f1 f2 rfl rfl rfl rfl rfl rfl R.2.2.2.2.2.1, pr_2 f1 f2 rfl rfl rfl rfl rfl rfl R.2.2.2.2.2.2.1, ch_2 f1 f2 rfl rfl R.2.2.2.2.2.2.2.1, pl_2 f1 f2 rfl rfl R.2.2.2.2.2.2.2.2.1, SI_2 I.1 I.2.1 k1.1 l1 (fz_run (by decide +kernel) r1) (fz_run (by decide +kernel) r2) f1 f2 rfl rfl R.2.2.2.2.2.2.2.2.2.1, VZ_2 f1 f2 rfl rfl R.2.2.2.2.2.2.2.2.2.2.1, PI_2 I.1 I.2.1 k1.1 l1 (fz_run (by decide +kernel) r1) (qz_run (by decide +kernel) r1) f1 rfl (fz_run (by decide +kernel) r2) (qz_run (by decide +kernel) r2) f2 rfl (RI_p R)⟩⟩
  refine ⟨h2, c, s, ?_, I2, by omega, by omega⟩
  refine xV_step (o1 := (342, lc_v i, [.ref 0], h, c, s)) rfl rfl rfl rfl ?_
  refine xV_call (d := 49) rfl rfl rfl rfl (xa_c_ok (d := 49) (pc := 342) (lv := lc_v i) (nL := 8) (lc_Iq I) rfl).1 r1 ?_
  refine xV_step (o1 := (346, lc_v i, [], h1, c, s)) rfl rfl rfl rfl ?_
  refine xV_step (o1 := (347, lc_v i, [.ref 39], h1, c, s)) rfl rfl rfl rfl ?_
  refine xV_call (d := 49) rfl rfl rfl rfl (xa_c_ok (d := 49) (pc := 347) (lv := lc_v i) (nL := 8) (hk_q k1 I.2.1) rfl).1 r2 ?_
  refine xV_step (o1 := (351, lc_v i, [], h2, c, s)) rfl rfl rfl rfl ?_
  refine xV_step (o1 := (999, lc_v i, [], h2, c, s)) rfl rfl rfl rfl ?_
  exact xV_stop
set_option maxRecDepth 100000 in
set_option maxHeartbeats 4000000 in
/-- count -/
theorem lo_27 (hL : L ≤ 3072) (hi6 : i + 6 ≤ L) (I : lc_I h) : lo_P L xs i 974 h c s := by
  obtain ⟨⟨t, tp⟩, ⟨mem, m12, e9, e4⟩, ⟨sc, sc8, e8, e33⟩, ⟨td, td9, e10, e3⟩, ⟨vc, vc6, e35, e63⟩, e1, e11, ch, pl, si, vs, pi⟩ := I.2.2.2
  have R := I.2.2.2
  obtain ⟨v1, h1, r1, k1⟩ := lc_3 (D := 49) (C := aC_m_X9_count) (m := xmi_X9_count) (A := [.ref 0, .int (xs (i + 1))]) I.1 I.2.1 as_m_X9_count rfl (by decide) ⟨a_av (by decide) I.2.1, a_an, trivial⟩ rfl
  have l1 : 72 ≤ h1.1.length := hk_n k1 I.2.1
  obtain ⟨v2, h2, r2, k2⟩ := lc_3 (D := 49) (C := aC_m_X10_count) (m := xmi_X10_count) (A := [.ref 39, .int (xs (i + 1))]) k1.1 l1 as_m_X10_count rfl (by decide) ⟨a_av (by decide) l1, a_an, trivial⟩ rfl
  obtain rfl := xq_Z (hn := (show List.Nodup [0, 1] by decide)) r1 (fun f => cn9_q (f := f) (x := xs (i + 1)) (lc_Iq I) e10 e9 e8 e35 tp.1)
  obtain rfl := xq_Z (hn := (show List.Nodup [0, 1] by decide)) r2 (fun f => cn10_q (f := f) (x := xs (i + 1)) (hk_q k1 I.2.1) ((hk_g (c := 39) (k := 3) k1 rfl rfl).trans e3) ((hk_g (c := 39) (k := 4) k1 rfl rfl).trans e4) ((hk_g (c := 39) (k := 33) k1 rfl rfl).trans e33) ((hk_g (c := 39) (k := 63) k1 rfl rfl).trans e63) ((hk_g (c := 39) (k := 2) k1 rfl rfl).trans tp.2.1))
  have f1 := k1.2.2
  have f2 := k2.2.2
  have I2 : lc_I h2 := ⟨k2.1, hk_n k2 l1, by rw [k2.2.1, k1.2.1]; exact I.2.2.1, ⟨tp_2 f1 f2 rfl (fun _ => rfl) rfl (fun _ => rfl) rfl (fun _ => rfl) rfl (fun _ => rfl) R.1, rb_2 f1 f2 rfl rfl rfl rfl rfl rfl R.2.1, rb_2 f1 f2 rfl rfl rfl rfl rfl rfl R.2.2.1, rb_2 f1 f2 rfl rfl rfl rfl rfl rfl R.2.2.2.1, rb_2 f1 f2 rfl rfl rfl rfl rfl rfl R.2.2.2.2.1, pr_2 f1 f2 rfl rfl rfl rfl rfl rfl R.2.2.2.2.2.1, pr_2 f1 f2 rfl rfl rfl rfl rfl rfl R.2.2.2.2.2.2.1, ch_2 f1 f2 rfl rfl R.2.2.2.2.2.2.2.1, pl_2 f1 f2 rfl rfl R.2.2.2.2.2.2.2.2.1, SI_2 I.1 I.2.1 k1.1 l1 (fz_run (by decide +kernel) r1) (fz_run (by decide +kernel) r2) f1 f2 rfl rfl R.2.2.2.2.2.2.2.2.2.1, VZ_2 f1 f2 rfl rfl R.2.2.2.2.2.2.2.2.2.2.1, PI_2 I.1 I.2.1 k1.1 l1 (fz_run (by decide +kernel) r1) (qz_run (by decide +kernel) r1) f1 rfl (fz_run (by decide +kernel) r2) (qz_run (by decide +kernel) r2) f2 rfl (RI_p R)⟩⟩
  refine ⟨h2, c, s, ?_, I2, by omega, by omega⟩
  refine xV_step (o1 := (975, lc_v i, [.ref 0], h, c, s)) rfl rfl rfl rfl ?_
  refine xV_arg 1 1 rfl (by omega) hL rfl rfl rfl rfl rfl rfl rfl rfl rfl rfl ?_
  refine xV_call (d := 49) rfl rfl rfl rfl (xa_c_ok (d := 49) (pc := 981) (lv := lc_v i) (nL := 8) (lc_Iq I) rfl).1 r1 ?_
  refine xV_step (o1 := (985, lc_v i, [], h1, c, s)) rfl rfl rfl rfl ?_
  refine xV_step (o1 := (986, lc_v i, [.ref 39], h1, c, s)) rfl rfl rfl rfl ?_
  refine xV_arg 1 1 rfl (by omega) hL rfl rfl rfl rfl rfl rfl rfl rfl rfl rfl ?_
  refine xV_call (d := 49) rfl rfl rfl rfl (xa_c_ok (d := 49) (pc := 992) (lv := lc_v i) (nL := 8) (hk_q k1 I.2.1) rfl).1 r2 ?_
  refine xV_step (o1 := (996, lc_v i, [], h2, c, s)) rfl rfl rfl rfl ?_
  refine xV_step (o1 := (999, lc_v i, [], h2, c, s)) rfl rfl rfl rfl ?_
  exact xV_stop
set_option maxRecDepth 100000 in
set_option maxHeartbeats 4000000 in
/-- sure -/
theorem lo_25 (hL : L ≤ 3072) (hi6 : i + 6 ≤ L) (I : lc_I h) : lo_P L xs i 912 h c s := by
  obtain ⟨⟨t, tp⟩, ⟨mem, m12, e9, e4⟩, ⟨sc, sc8, e8, e33⟩, ⟨td, td9, e10, e3⟩, ⟨vc, vc6, e35, e63⟩, e1, e11, ch, pl, si, vs, pi⟩ := I.2.2.2
  have R := I.2.2.2
  obtain ⟨v1, h1, r1, k1⟩ := lc_3 (D := 49) (C := aC_m_X9_sure) (m := xmi_X9_sure) (A := [.ref 0, .int (xs (i + 1)), .int (xs (i + 2))]) I.1 I.2.1 as_m_X9_sure rfl (by decide) ⟨a_av (by decide) I.2.1, a_an, a_an, trivial⟩ rfl
  have l1 : 72 ≤ h1.1.length := hk_n k1 I.2.1
  obtain ⟨v2, h2, r2, k2⟩ := lc_3 (D := 49) (C := aC_m_X10_sure) (m := xmi_X10_sure) (A := [.ref 39, .int (xs (i + 1)), .int (xs (i + 2))]) k1.1 l1 as_m_X10_sure rfl (by decide) ⟨a_av (by decide) l1, a_an, a_an, trivial⟩ rfl
  obtain rfl := xq_Z (hn := (show List.Nodup [0, 1, 2] by decide)) r1 (fun f => su9_q (f := f) (S := fun k => xg 0 h.2.1 36 k) (D := fun k => xg 0 h.2.1 37 k) (P := fun k => xg 0 h.2.1 38 k) (x := xs (i + 1)) (t := xs (i + 2)) (z := nI mem) vc6 e35 (fun _ _ => ⟨rfl, rfl, rfl⟩) e9 (lc_Iq I))
  obtain rfl := xq_Z (hn := (show List.Nodup [0, 1, 2] by decide)) r2 (fun f => su10_q (f := f) (S := fun k => xg 0 h.2.1 36 k) (D := fun k => xg 0 h.2.1 37 k) (P := fun k => xg 0 h.2.1 38 k) (x := xs (i + 1)) (t := xs (i + 2)) (z := nI mem) vc6 ((hk_g (c := 39) (k := 63) k1 rfl rfl).trans e63) (fun k hk' => ⟨(hk_g (c := 68) (k := k) k1 rfl rfl).trans (ch k (by omega)).1.symm, (hk_g (c := 69) (k := k) k1 rfl rfl).trans (ch k (by omega)).2.1.symm, (hk_g (c := 70) (k := k) k1 rfl rfl).trans (ch k (by omega)).2.2.symm⟩) ((hk_g (c := 39) (k := 4) k1 rfl rfl).trans e4) (hk_q k1 I.2.1))
  have f1 := k1.2.2
  have f2 := k2.2.2
  have I2 : lc_I h2 := ⟨k2.1, hk_n k2 l1, by rw [k2.2.1, k1.2.1]; exact I.2.2.1, ⟨tp_2 f1 f2 rfl (fun _ => rfl) rfl (fun _ => rfl) rfl (fun _ => rfl) rfl (fun _ => rfl) R.1, rb_2 f1 f2 rfl rfl rfl rfl rfl rfl R.2.1, rb_2 f1 f2 rfl rfl rfl rfl rfl rfl R.2.2.1, rb_2 f1 f2 rfl rfl rfl rfl rfl rfl R.2.2.2.1, rb_2 f1 f2 rfl rfl rfl rfl rfl rfl R.2.2.2.2.1, pr_2 f1 f2 rfl rfl rfl rfl rfl rfl R.2.2.2.2.2.1, pr_2 f1 f2 rfl rfl rfl rfl rfl rfl R.2.2.2.2.2.2.1, ch_2 f1 f2 rfl rfl R.2.2.2.2.2.2.2.1, pl_2 f1 f2 rfl rfl R.2.2.2.2.2.2.2.2.1, SI_2 I.1 I.2.1 k1.1 l1 (fz_run (by decide +kernel) r1) (fz_run (by decide +kernel) r2) f1 f2 rfl rfl R.2.2.2.2.2.2.2.2.2.1, VZ_2 f1 f2 rfl rfl R.2.2.2.2.2.2.2.2.2.2.1, PI_2 I.1 I.2.1 k1.1 l1 (fz_run (by decide +kernel) r1) (qz_run (by decide +kernel) r1) f1 rfl (fz_run (by decide +kernel) r2) (qz_run (by decide +kernel) r2) f2 rfl (RI_p R)⟩⟩
  refine ⟨h2, c, s, ?_, I2, by omega, by omega⟩
  refine xV_step (o1 := (913, lc_v i, [.ref 0], h, c, s)) rfl rfl rfl rfl ?_
  refine xV_arg 1 1 rfl (by omega) hL rfl rfl rfl rfl rfl rfl rfl rfl rfl rfl ?_
  refine xV_arg 2 2 rfl (by omega) hL rfl rfl rfl rfl rfl rfl rfl rfl rfl rfl ?_
  refine xV_call (d := 49) rfl rfl rfl rfl (xa_c_ok (d := 49) (pc := 925) (lv := lc_v i) (nL := 8) (lc_Iq I) rfl).1 r1 ?_
  refine xV_step (o1 := (929, lc_v i, [], h1, c, s)) rfl rfl rfl rfl ?_
  refine xV_step (o1 := (930, lc_v i, [.ref 39], h1, c, s)) rfl rfl rfl rfl ?_
  refine xV_arg 1 1 rfl (by omega) hL rfl rfl rfl rfl rfl rfl rfl rfl rfl rfl ?_
  refine xV_arg 2 2 rfl (by omega) hL rfl rfl rfl rfl rfl rfl rfl rfl rfl rfl ?_
  refine xV_call (d := 49) rfl rfl rfl rfl (xa_c_ok (d := 49) (pc := 942) (lv := lc_v i) (nL := 8) (hk_q k1 I.2.1) rfl).1 r2 ?_
  refine xV_step (o1 := (946, lc_v i, [], h2, c, s)) rfl rfl rfl rfl ?_
  refine xV_step (o1 := (999, lc_v i, [], h2, c, s)) rfl rfl rfl rfl ?_
  exact xV_stop
set_option maxRecDepth 100000 in
set_option maxHeartbeats 4000000 in
/-- open -/
theorem lo_26 (hL : L ≤ 3072) (hi6 : i + 6 ≤ L) (I : lc_I h) : lo_P L xs i 949 h c s := by
  obtain ⟨⟨t, tp⟩, ⟨mem, m12, e9, e4⟩, ⟨sc, sc8, e8, e33⟩, ⟨td, td9, e10, e3⟩, ⟨vc, vc6, e35, e63⟩, e1, e11, ch, pl, si, vs, pi⟩ := I.2.2.2
  have R := I.2.2.2
  obtain ⟨v1, h1, r1, k1⟩ := lc_3 (D := 49) (C := aC_m_X9_open) (m := xmi_X9_open) (A := [.ref 0, .int (xs (i + 1))]) I.1 I.2.1 as_m_X9_open rfl (by decide) ⟨a_av (by decide) I.2.1, a_an, trivial⟩ rfl
  have l1 : 72 ≤ h1.1.length := hk_n k1 I.2.1
  obtain ⟨v2, h2, r2, k2⟩ := lc_3 (D := 49) (C := aC_m_X10_open) (m := xmi_X10_open) (A := [.ref 39, .int (xs (i + 1))]) k1.1 l1 as_m_X10_open rfl (by decide) ⟨a_av (by decide) l1, a_an, trivial⟩ rfl
  obtain rfl := xq_Z (hn := (show List.Nodup [0, 1] by decide)) r1 (fun f => op9_q (f := f) (S := fun k => xg 0 h.2.1 36 k) (D := fun k => xg 0 h.2.1 37 k) (P := fun k => xg 0 h.2.1 38 k) (t := xs (i + 1)) vc6 m12 e35 (fun _ _ => ⟨rfl, rfl, rfl⟩) e9 (lc_Iq I))
  obtain rfl := xq_Z (hn := (show List.Nodup [0, 1] by decide)) r2 (fun f => op10_q (f := f) (S := fun k => xg 0 h.2.1 36 k) (D := fun k => xg 0 h.2.1 37 k) (P := fun k => xg 0 h.2.1 38 k) (t := xs (i + 1)) vc6 m12 ((hk_g (c := 39) (k := 63) k1 rfl rfl).trans e63) (fun k hk' => ⟨(hk_g (c := 68) (k := k) k1 rfl rfl).trans (ch k (by omega)).1.symm, (hk_g (c := 69) (k := k) k1 rfl rfl).trans (ch k (by omega)).2.1.symm, (hk_g (c := 70) (k := k) k1 rfl rfl).trans (ch k (by omega)).2.2.symm⟩) ((hk_g (c := 39) (k := 4) k1 rfl rfl).trans e4) (hk_q k1 I.2.1))
  have f1 := k1.2.2
  have f2 := k2.2.2
  have I2 : lc_I h2 := ⟨k2.1, hk_n k2 l1, by rw [k2.2.1, k1.2.1]; exact I.2.2.1, ⟨tp_2 f1 f2 rfl (fun _ => rfl) rfl (fun _ => rfl) rfl (fun _ => rfl) rfl (fun _ => rfl) R.1, rb_2 f1 f2 rfl rfl rfl rfl rfl rfl R.2.1, rb_2 f1 f2 rfl rfl rfl rfl rfl rfl R.2.2.1, rb_2 f1 f2 rfl rfl rfl rfl rfl rfl R.2.2.2.1, rb_2 f1 f2 rfl rfl rfl rfl rfl rfl R.2.2.2.2.1, pr_2 f1 f2 rfl rfl rfl rfl rfl rfl R.2.2.2.2.2.1, pr_2 f1 f2 rfl rfl rfl rfl rfl rfl R.2.2.2.2.2.2.1, ch_2 f1 f2 rfl rfl R.2.2.2.2.2.2.2.1, pl_2 f1 f2 rfl rfl R.2.2.2.2.2.2.2.2.1, SI_2 I.1 I.2.1 k1.1 l1 (fz_run (by decide +kernel) r1) (fz_run (by decide +kernel) r2) f1 f2 rfl rfl R.2.2.2.2.2.2.2.2.2.1, VZ_2 f1 f2 rfl rfl R.2.2.2.2.2.2.2.2.2.2.1, PI_2 I.1 I.2.1 k1.1 l1 (fz_run (by decide +kernel) r1) (qz_run (by decide +kernel) r1) f1 rfl (fz_run (by decide +kernel) r2) (qz_run (by decide +kernel) r2) f2 rfl (RI_p R)⟩⟩
  refine ⟨h2, c, s, ?_, I2, by omega, by omega⟩
  refine xV_step (o1 := (950, lc_v i, [.ref 0], h, c, s)) rfl rfl rfl rfl ?_
  refine xV_arg 1 1 rfl (by omega) hL rfl rfl rfl rfl rfl rfl rfl rfl rfl rfl ?_
  refine xV_call (d := 49) rfl rfl rfl rfl (xa_c_ok (d := 49) (pc := 956) (lv := lc_v i) (nL := 8) (lc_Iq I) rfl).1 r1 ?_
  refine xV_step (o1 := (960, lc_v i, [], h1, c, s)) rfl rfl rfl rfl ?_
  refine xV_step (o1 := (961, lc_v i, [.ref 39], h1, c, s)) rfl rfl rfl rfl ?_
  refine xV_arg 1 1 rfl (by omega) hL rfl rfl rfl rfl rfl rfl rfl rfl rfl rfl ?_
  refine xV_call (d := 49) rfl rfl rfl rfl (xa_c_ok (d := 49) (pc := 967) (lv := lc_v i) (nL := 8) (hk_q k1 I.2.1) rfl).1 r2 ?_
  refine xV_step (o1 := (971, lc_v i, [], h2, c, s)) rfl rfl rfl rfl ?_
  refine xV_step (o1 := (999, lc_v i, [], h2, c, s)) rfl rfl rfl rfl ?_
  exact xV_stop
end XLH
