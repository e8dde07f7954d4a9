section XSB
/-- share answers -/
def so_ok (h : xh_H) (a b d : Int32) : Prop := (0 ≤ a.toInt ∧ a.toInt < (xg 0 h.2.1 0 9).toInt) ∧ 0 ≤ b.toInt ∧ b.toInt ≤ 2 ∧ 0 ≤ d.toInt ∧ d.toInt ≤ 1
set_option maxRecDepth 100000 in
theorem im9 {d : Nat} {a : Int32} {h : xh_H} (hq : a_rq a_tb h) : xt_P d xi_X9_isMember xmi_X9_isMember 0 [(0, .ref 0), (1, .int a)] [] h (fun v h' => h = h' ∧ v = some (.int (bl (decide (0 ≤ a.toInt ∧ a.toInt < (xg 0 h.2.1 0 9).toInt))))) := by
  cases c1 : xe_c .lt a 0 with
  | true =>
    have b1 : a.toInt < (0 : Int) := a_ce c1
    refine xa_tn 17 [] [] [.int (Int32.ofInt 0)] h [true] 12 hq rfl ⟨c1, trivial⟩ (fun _ => ?_)
    refine xp_ret rfl rfl rfl ⟨rfl, ?_⟩
    rw [decide_eq_false (by omega)]
    rfl
  | false =>
    have b1 : (0 : Int) ≤ a.toInt := a_ce (a_neg_ok c1)
    cases c2 : xe_c .ge a (xg 0 h.2.1 0 9) with
    | true =>
      have b2 : (xg 0 h.2.1 0 9).toInt ≤ a.toInt := a_ce c2
      refine xa_tn 17 [] [] [.int (Int32.ofInt 0)] h [false, true] 12 hq rfl ⟨c1, c2, trivial⟩ (fun _ => ?_)
      refine xp_ret rfl rfl rfl ⟨rfl, ?_⟩
      rw [decide_eq_false (by omega)]
      rfl
    | false =>
      have b2 : a.toInt < (xg 0 h.2.1 0 9).toInt := a_ce (a_neg_ok c2)
      refine xa_tn 17 [] [] [.int (Int32.ofInt 1)] h [false, false] 12 hq rfl ⟨c1, c2, trivial⟩ (fun _ => ?_)
      refine xp_ret rfl rfl rfl ⟨rfl, ?_⟩
      rw [decide_eq_true ⟨b1, b2⟩]
      rfl
set_option maxRecDepth 100000 in
set_option maxHeartbeats 8000000 in
theorem cs_bad {a b d : Int32} {h : xh_H} (hq : a_rq a_tb h) (hno : ¬ so_ok h a b d) : xV none 26 48 xi_X9_share xmi_X9_share (0, lv_args 0 [.ref 0, .int a, .int b, .int d], [], h, 0, 0) (26, lv_args 0 [.ref 0, .int a, .int b, .int d], [], h, 0, 0) := by
  have fin : xV none 26 48 xi_X9_share xmi_X9_share (26, lv_args 0 [.ref 0, .int a, .int b, .int d], [], h, 0, 0) (26, lv_args 0 [.ref 0, .int a, .int b, .int d], [], h, 0, 0) := xV_stop
  refine xV_step (o1 := (1, lv_args 0 [.ref 0, .int a, .int b, .int d], [.ref 0], h, 0, 0)) rfl rfl rfl rfl ?_
  refine xV_step (o1 := (2, lv_args 0 [.ref 0, .int a, .int b, .int d], [.int a, .ref 0], h, 0, 0)) rfl rfl rfl rfl ?_
  obtain ⟨v, h', r, rfl, rfl⟩ := im9 (d := 47) (a := a) hq
  refine xV_call (d := 47) rfl rfl rfl rfl (xa_c_ok (d := 47) (pc := 2) (lv := lv_args 0 [.ref 0, .int a, .int b, .int d]) (nL := 11) hq rfl).1 r ?_
  by_cases h1 : 0 ≤ a.toInt ∧ a.toInt < (xg 0 h.2.1 0 9).toInt
  · rw [decide_eq_true h1]
    refine xV_if false rfl rfl rfl ?_
    refine xV_step (o1 := (9, lv_args 0 [.ref 0, .int a, .int b, .int d], [.int b], h, 0, 0)) rfl rfl rfl rfl ?_
    cases c1 : xe_c .lt b 0 with
    | true => exact xV_if true rfl rfl c1 fin
    | false =>
      have b1 : (0 : Int) ≤ b.toInt := a_ce (a_neg_ok c1)
      refine xV_if false rfl rfl c1 ?_
      refine xV_step (o1 := (13, lv_args 0 [.ref 0, .int a, .int b, .int d], [.int b], h, 0, 0)) rfl rfl rfl rfl ?_
      refine xV_step (o1 := (14, lv_args 0 [.ref 0, .int a, .int b, .int d], [.int (Int32.ofInt 2), .int b], h, 0, 0)) rfl rfl rfl rfl ?_
      cases c2 : xe_c .gt b (Int32.ofInt 2) with
      | true => exact xV_ic true rfl rfl c2 fin
      | false =>
        have b2 : b.toInt ≤ (2 : Int) := a_ce (a_neg_ok c2)
        refine xV_ic false rfl rfl c2 ?_
        refine xV_step (o1 := (18, lv_args 0 [.ref 0, .int a, .int b, .int d], [.int d], h, 0, 0)) rfl rfl rfl rfl ?_
        cases c3 : xe_c .lt d 0 with
        | true => exact xV_if true rfl rfl c3 fin
        | false =>
          have b3 : (0 : Int) ≤ d.toInt := a_ce (a_neg_ok c3)
          refine xV_if false rfl rfl c3 ?_
          refine xV_step (o1 := (22, lv_args 0 [.ref 0, .int a, .int b, .int d], [.int d], h, 0, 0)) rfl rfl rfl rfl ?_
          refine xV_step (o1 := (23, lv_args 0 [.ref 0, .int a, .int b, .int d], [.int (Int32.ofInt 1), .int d], h, 0, 0)) rfl rfl rfl rfl ?_
          cases c4 : xe_c .le d (Int32.ofInt 1) with
          | true =>
            have b4 : d.toInt ≤ (1 : Int) := a_ce c4
            exact absurd ⟨h1, b1, b2, b3, b4⟩ hno
          | false => exact xV_ic false rfl rfl c4 fin
  · rw [decide_eq_false h1]
    exact xV_if true rfl rfl rfl fin
theorem cs_good {a b d : Int32} {h : xh_H} (I : lc_I h) (ho : so_ok h a b d) : ∃ (f : Nat) (v : Int64) (h1 : xh_H), xe_x xM xC none f 48 xi_X9_share xmi_X9_share (0, lv_args 0 [.ref 0, .int a, .int b, .int d], [], h, 0, 0) = some (some (.long v), h1, 0, 0) ∧ h1.1 = h.1 ∧ lc_I h1 := by
  obtain ⟨⟨a1, a2⟩, b1, b2, d1, d2⟩ := ho
  have mb := a_flx (c := 0) (k := 9) (lo := 1) (hi := 12) I.1.1 I.2.1 rfl rfl (by decide)
  obtain ⟨ka, ea, -, ka2⟩ := a_nk (x := a) (m := 12) a1 (by omega)
  obtain ⟨kb, eb, kb1, -⟩ := a_nk (x := b) (m := 2) b1 b2
  obtain ⟨kd, ed, kd1, -⟩ := a_nk (x := d) (m := 1) d1 d2
  rw [ea, nI_toInt ka2] at a2
  obtain ⟨v, h1, ⟨f, hf⟩, k1, x, rfl⟩ := s9_run (d := 42) (k := ka) (w := kb) (z := kd) I.1 I.2.1 a2 kb1 kd1
  rw [ea, eb, ed]
  exact ⟨f, x, h1, hf, k1.2.1, lc_It I k1.1 (hk_n k1 I.2.1) (by rw [k1.2.1]; exact I.2.2.1) (Fs_z (lc_Iq I) (fz_run (mid := xi_X9_share) (by decide +kernel) ⟨f, hf⟩)) k1.2.2 rfl (xq_Z (hn := (show List.Nodup [0, 1, 2, 3] by decide)) ⟨f, hf⟩ (fun f => lp_share (f := f) I))⟩
theorem lc_ul {h : xh_H} {v : Int64} (I : lc_I h) : lc_I (xh_ul h 71 0 v) := by
  refine ⟨a_inv_ul (s := (4, 1)) (lo := -9223372036854775808) (hi := 9223372036854775807) I.1 ((lc_Iq I).2.1 71 _ rfl) rfl (lr v).1 (lr v).2, I.2.1, I.2.2.1, ?_⟩
  obtain ⟨r0, r1, r2, r3, r4, r5, r6, r7, r8, r9, r10, r11⟩ := I.2.2.2
  have q := lc_Iq I
  refine ⟨r0, r1, r2, r3, r4, r5, r6, r7, r8, SI_s I.1 q (Fs_f (S := fN) (L := Lr 71) (fx_ul fx_0 rfl) (fun _ _ _ => rfl) (fun c k e => ?_)) rfl rfl (fun _ => rfl) (fun _ => rfl) (fun _ => rfl) r9, r10, PI_s I.1 I.2.1 (fun c k e _ => gl_o (fun w => ?_)) (fun _ _ _ => rfl) rfl (fun _ _ _ => rfl) r11⟩
  rotate_left
  · rcases sh64c q e with z | z <;> omega
  show Nat.beq c 71 = false
  rw [Bool.eq_false_iff]
  intro y
  have := Nat.eq_of_beq_eq_true y
  rcases sh64c q e with z | z <;> omega
variable {L i : Nat} {xs : Nat → Int32} {h : xh_H} {c s : Nat}
set_option maxRecDepth 100000 in
set_option maxHeartbeats 4000000 in
/-- share's arguments -/
theorem lo_11a (hL : L ≤ 3072) (hi6 : i + 6 ≤ L) (hk : xs i &&& 31 = 11) : xV (some (L, xs)) 535 50 xi_L_law xmi_L_law (23, lc_v i, [], h, c, s) (535, lc_v i, [.ref 71, .int (xs (i + 3)), .int (xs (i + 2)), .int (xs (i + 1)), .ref 0], h, c, s) := by
  refine ld_sw hL hi6 rfl rfl rfl rfl rfl rfl rfl rfl rfl rfl rfl ?_
  rw [hk]
  refine xV_step (o1 := (515, lc_v i, [], h, c, s)) rfl rfl rfl rfl ?_
  refine xV_step (o1 := (516, lc_v i, [.ref 0], h, c, s)) rfl rfl rfl rfl ?_
  refine xV_arg 1 1 rfl (by omega) hL rfl rfl rfl rfl rfl rfl rfl rfl rfl rfl ?_
  refine xV_arg 2 2 rfl (by omega) hL rfl rfl rfl rfl rfl rfl rfl rfl rfl rfl ?_
  refine xV_arg 3 3 rfl (by omega) hL rfl rfl rfl rfl rfl rfl rfl rfl rfl rfl ?_
  refine xV_step (o1 := (535, lc_v i, [.ref 71, .int (xs (i + 3)), .int (xs (i + 2)), .int (xs (i + 1)), .ref 0], h, c, s)) rfl rfl rfl rfl ?_
  exact xV_stop
set_option maxRecDepth 100000 in
set_option maxHeartbeats 4000000 in
/-- the reference's share -/
theorem lo_11b (hL : L ≤ 3072) (hi6 : i + 6 ≤ L) (I : lc_I h) : ∃ (y : Int64) (h2 : xh_H), xV (some (L, xs)) 562 50 xi_L_law xmi_L_law (540, lc_v i, [], h, c, s) (562, lc_v i, [.long y], h2, c, s) ∧ lc_I h2 := by
  obtain ⟨y, h2, r2, I2⟩ := lc_2 (D := 49) (m := xmi_X10_share) (A := [.ref 39, .int (xs (i + 1)), .int (xs (i + 2)), .int (xs (i + 3))]) I as_m_X10_share rfl (by decide) ⟨a_av (by decide) I.2.1, a_an, a_an, a_an, trivial⟩ rfl rfl rfl (by decide +kernel) rfl (by decide +kernel)
  refine ⟨y, h2, ?_, I2⟩
  refine xV_step (o1 := (541, lc_v i, [.ref 39], h, c, s)) rfl rfl rfl rfl ?_
  refine xV_arg 1 1 rfl (by omega) hL rfl rfl rfl rfl rfl rfl rfl rfl rfl rfl ?_
  refine xV_arg 2 2 rfl (by omega) hL rfl rfl rfl rfl rfl rfl rfl rfl rfl rfl ?_
  refine xV_arg 3 3 rfl (by omega) hL rfl rfl rfl rfl rfl rfl rfl rfl rfl rfl ?_
  refine xV_call (d := 49) rfl rfl rfl rfl (xa_c_ok (d := 49) (pc := 559) (lv := lc_v i) (nL := 8) (lc_Iq I) rfl).1 r2 ?_
  exact xV_stop
end XSB
