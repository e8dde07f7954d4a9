section XLE
variable {L i : Nat} {xs : Nat → Int32} {h : xh_H} {c s : Nat}
set_option maxRecDepth 100000 in
set_option maxHeartbeats 4000000 in
/-- leads -/
theorem lo_20 (hL : L ≤ 3072) (hi6 : i + 6 ≤ L) (I : lc_I h) : lo_P L xs i 743 h c s := by
  cases c1 : xe_c .eq (xs (i + 1)) 0 with
  | true =>
    obtain ⟨v1, h1, r1, ⟨k1, x1, rfl, -⟩, z1⟩ := l9_run2 (d := 46) (f := (Int32.ofInt 0)) I.2.1 I.1
    have l1 : 72 ≤ h1.1.length := hk_n k1 I.2.1
    obtain ⟨v2, h2, r2, ⟨k2, x2, rfl, -⟩, z2⟩ := l10_run2 (d := 46) (f := (Int32.ofInt 0)) l1 k1.1
    have I2 : lc_I h2 := ⟨k2.1, hk_n k2 l1, by rw [k2.2.1, k1.2.1]; exact I.2.2.1, 0, by decide, (hk_g (c := 1) (k := 1) k2 rfl rfl).trans z1, z2⟩
    refine ⟨h2, c, s, ?_, I2, by omega, by omega⟩
    refine xV_step (o1 := (744, lc_v i, [.ref 0], h, c, s)) rfl rfl rfl rfl ?_
    refine xV_arg 1 1 rfl (by omega) hL rfl rfl rfl rfl rfl rfl rfl rfl rfl rfl ?_
    refine xV_if true rfl rfl c1 ?_
    refine xV_step (o1 := (758, lc_v i, [.int (Int32.ofInt 0), .ref 0], h, c, s)) rfl rfl rfl rfl ?_
    refine xV_call (d := 49) rfl rfl rfl rfl (xa_c_ok (d := 49) (pc := 758) (lv := lc_v i) (nL := 8) (lc_Iq I) rfl).1 r1 ?_
    refine xV_step (o1 := (762, lc_v i, [], h1, c, s)) rfl rfl rfl rfl ?_
    refine xV_step (o1 := (763, lc_v i, [.ref 39], h1, c, s)) rfl rfl rfl rfl ?_
    refine xV_arg 1 1 rfl (by omega) hL rfl rfl rfl rfl rfl rfl rfl rfl rfl rfl ?_
    refine xV_if true rfl rfl c1 ?_
    refine xV_step (o1 := (777, lc_v i, [.int (Int32.ofInt 0), .ref 39], h1, c, s)) rfl rfl rfl rfl ?_
    refine xV_call (d := 49) rfl rfl rfl rfl (xa_c_ok (d := 49) (pc := 777) (lv := lc_v i) (nL := 8) (hk_q k1 I.2.1) rfl).1 r2 ?_
    refine xV_step (o1 := (781, lc_v i, [], h2, c, s)) rfl rfl rfl rfl ?_
    refine xV_step (o1 := (999, lc_v i, [], h2, c, s)) rfl rfl rfl rfl ?_
    exact xV_stop
  | false =>
    obtain ⟨v1, h1, r1, ⟨k1, x1, rfl, -⟩, z1⟩ := l9_run2 (d := 46) (f := (Int32.ofInt 1)) I.2.1 I.1
    have l1 : 72 ≤ h1.1.length := hk_n k1 I.2.1
    obtain ⟨v2, h2, r2, ⟨k2, x2, rfl, -⟩, z2⟩ := l10_run2 (d := 46) (f := (Int32.ofInt 1)) l1 k1.1
    have I2 : lc_I h2 := ⟨k2.1, hk_n k2 l1, by rw [k2.2.1, k1.2.1]; exact I.2.2.1, 0, by decide, (hk_g (c := 1) (k := 1) k2 rfl rfl).trans z1, z2⟩
    refine ⟨h2, c, s, ?_, I2, by omega, by omega⟩
    refine xV_step (o1 := (744, lc_v i, [.ref 0], h, c, s)) rfl rfl rfl rfl ?_
    refine xV_arg 1 1 rfl (by omega) hL rfl rfl rfl rfl rfl rfl rfl rfl rfl rfl ?_
    refine xV_if false rfl rfl c1 ?_
    refine xV_step (o1 := (754, lc_v i, [.int (Int32.ofInt 1), .ref 0], h, c, s)) rfl rfl rfl rfl ?_
    refine xV_step (o1 := (758, lc_v i, [.int (Int32.ofInt 1), .ref 0], h, c, s)) rfl rfl rfl rfl ?_
    refine xV_call (d := 49) rfl rfl rfl rfl (xa_c_ok (d := 49) (pc := 758) (lv := lc_v i) (nL := 8) (lc_Iq I) rfl).1 r1 ?_
    refine xV_step (o1 := (762, lc_v i, [], h1, c, s)) rfl rfl rfl rfl ?_
    refine xV_step (o1 := (763, lc_v i, [.ref 39], h1, c, s)) rfl rfl rfl rfl ?_
    refine xV_arg 1 1 rfl (by omega) hL rfl rfl rfl rfl rfl rfl rfl rfl rfl rfl ?_
    refine xV_if false rfl rfl c1 ?_
    refine xV_step (o1 := (773, lc_v i, [.int (Int32.ofInt 1), .ref 39], h1, c, s)) rfl rfl rfl rfl ?_
    refine xV_step (o1 := (777, lc_v i, [.int (Int32.ofInt 1), .ref 39], h1, c, s)) rfl rfl rfl rfl ?_
    refine xV_call (d := 49) rfl rfl rfl rfl (xa_c_ok (d := 49) (pc := 777) (lv := lc_v i) (nL := 8) (hk_q k1 I.2.1) rfl).1 r2 ?_
    refine xV_step (o1 := (781, lc_v i, [], h2, c, s)) rfl rfl rfl rfl ?_
    refine xV_step (o1 := (999, lc_v i, [], h2, c, s)) rfl rfl rfl rfl ?_
    exact xV_stop
end XLE
