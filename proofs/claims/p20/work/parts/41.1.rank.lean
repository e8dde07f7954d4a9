section XRT
abbrev rk2_md : List (Nat × Nat) := [(39, 0), (39, 5), (62, 0)]
set_option maxRecDepth 100000 in
set_option maxHeartbeats 4000000 in
theorem rk2_loop {d m : Nat} {h0 : xh_H} (hn : 72 ≤ h0.1.length) (hm : m ≤ 11) : ∀ (n i : Nat) (h : xh_H), i + n = 7 → hk rk2_md h0 h → (∀ k, k < 7 → (xg 0 h.2.1 40 k).toInt ≤ 6) → xt_P d xi_X10_rank xmi_X10_rank 36 [(0, .ref 39), (1, .int (nI m)), (3, .int (nI i))] [] h (fun v h' => hk rk2_md h0 h' ∧ ∃ x : Int32, v = some (.int x) ∧ 0 ≤ x.toInt ∧ x.toInt ≤ 1) := by
  intro n
  induction n with
  | zero =>
    intro i h hi hk0 ho
    have e : i = 7 := by omega
    subst e
    refine xa_tn 71 [] [] [.int (Int32.ofInt 1)] (xh_ui h 39 5 (Int32.ofInt 1)) [true] 9 (hk_q hk0 hn) rfl ⟨by decide, Or.inr rfl, trivial⟩ (fun _ => ?_)
    exact xp_ret rfl rfl rfl ⟨hk_ui (s := (0, 10)) (lo := 0) (hi := 1) hk0 hn rfl rfl (by decide) (by decide) rfl rfl, _, rfl, by decide, by decide⟩
  | succ n ih =>
    intro i h hi hk0 ho
    obtain ⟨t, et, t6⟩ := tp_o (k := i) hk0.1.1 (hk_n hk0 hn) (show i < 7 by omega) (Nat.le_refl _) ho
    have eic : (nI i).toNatClampNeg = i := nI_clamp (by omega)
    have ei := nI_toInt (n := i) (by omega)
    have e1 : nI i + Int32.ofInt 1 = nI (i + 1) := nI_1 i
    refine xa_tn 36 [0, 1, 3] [(0, .ref 39), (1, .int (nI m)), (3, .int ((nI i) + Int32.ofInt 1))] [] (xh_ui h 62 ((7 * (nI m)) + (xg 0 h.2.1 40 (nI i).toNatClampNeg)).toNatClampNeg (nI i)) [false] 19 (hk_q hk0 hn) rfl ⟨nge_f (b := 7) (by omega) (by omega) (by omega), xin_n (by omega) (by omega), (show xe_in ((7 * (nI m)) + (xg 0 h.2.1 40 (nI i).toNatClampNeg)) 84 = true by rw [eic, et, n7]; exact xin_n (by omega) (by omega)), trivial⟩ (fun _ => ?_)
    rw [eic, et, n7, nI_clamp (by omega), e1]
    refine ih (i + 1) _ (by omega) (hk_ui (s := (1, 84)) (lo := 0) (hi := 6) hk0 hn rfl rfl (by omega) (by omega) rfl rfl) (fun k hk' => ?_)
    rw [gx_o (by decide)]
    exact ho k hk'
set_option maxRecDepth 100000 in
set_option maxHeartbeats 4000000 in
theorem r10_rest {d : Nat} {m t : Int32} {h : xh_H} (hn : 72 ≤ h.1.length) (hi : a_inv a_tb h) : xt_P (d + 1) xi_X10_rank xmi_X10_rank 9 [(0, .ref 39), (1, .int m)] [.int t] h (fun v h' => hk rk2_md h h' ∧ ∃ x : Int32, v = some (.int x) ∧ 0 ≤ x.toInt ∧ x.toInt ≤ 1) := by
  have hq := a_rq_of hi.1 hn
  refine xa_tn 12 [0, 1, 2] [(0, .ref 39), (1, .int m), (2, .int t)] [.int m, .ref 39] h [] 5 hq rfl trivial (fun _ => ?_)
  have mr := ar_rng m
  refine xp_intf (C := aC_m_X10_isMember) (lo := 0) (hi := 1) (σ := fun _ => 0) as_m_X10_isMember hq hi rfl rfl rfl (Nat.zero_le _) ⟨a_av (by decide) hq.1, a_ai mr.1 mr.2, trivial⟩ a_fp0 rfl (fun x h3 x1 x2 xf _ i3 l3 f3 q3 => ?_)
  have hk3 : hk rk2_md h h3 := hk_c (hk_0 hi) i3 l3 f3 (fun _ z => nomatch z)
  cases c1 : xe_c .eq x 0 with
  | true =>
    refine xa_tn 33 [] [] [.int (Int32.ofInt 0)] h3 [true] 4 q3 rfl ⟨c1, trivial⟩ (fun _ => ?_)
    exact xp_ret rfl rfl rfl ⟨hk3, _, rfl, by decide, by decide⟩
  | false =>
    have mf : 0 ≤ m.toInt ∧ m.toInt ≤ 11 := xf (of_decide_eq_false c1) _ (List.mem_singleton.mpr rfl)
    obtain ⟨m, rfl, m11, m31⟩ := a_nk (x := m) (m := 11) mf.1 mf.2
    cases c2 : xe_c .ne t 7 with
    | true =>
      refine xa_tn 33 [] [] [.int (Int32.ofInt 0)] h3 [false, true] 7 q3 rfl ⟨c1, c2, trivial⟩ (fun _ => ?_)
      exact xp_ret rfl rfl rfl ⟨hk3, _, rfl, by decide, by decide⟩
    | false =>
      have et : t = nI 7 := by
        have c2 : (!decide (t = 7)) = false := c2
        rw [Bool.not_eq_false'] at c2
        exact of_decide_eq_true c2
      subst et
      refine xa_tn 26 [0, 1, 2] [(0, .ref 39), (1, .int (nI m)), (2, .int (nI 7))] [.int (nI 7), .ref 39] h3 [false, false] 8 q3 rfl ⟨c1, c2, trivial⟩ (fun _ => ?_)
      refine xp_run q3 rfl rfl (ao_run (d := d) (n := 7) i3.1 q3.1 (by decide)) ?_
      rintro v h4 ⟨rfl, p, rfl, hp⟩
      cases p with
      | false =>
        refine xa_tn 33 [] [] [.int (Int32.ofInt 0)] h3 [false] 4 q3 rfl ⟨rfl, trivial⟩ (fun _ => ?_)
        exact xp_ret rfl rfl rfl ⟨hk3, _, rfl, by decide, by decide⟩
      | true =>
        refine xa_tn 36 [0, 1, 3] [(0, .ref 39), (1, .int (nI m)), (3, .int (Int32.ofInt 0))] [] h3 [true] 5 q3 rfl ⟨rfl, trivial⟩ (fun _ => ?_)
        exact rk2_loop hn m11 7 0 h3 rfl hk3 (hp rfl)
set_option maxRecDepth 100000 in
/-- X10.rank takes the tape -/
theorem r10_run {d : Nat} {m : Int32} {h : xh_H} (hn : 72 ≤ h.1.length) (hi : a_inv a_tb h) : xt_P (d + 1) xi_X10_rank xmi_X10_rank 0 [(0, .ref 39), (1, .int m)] [] h (fun v h' => hk rk_md h h' ∧ (∃ x : Int32, v = some (.int x)) ∧ xg 0 h'.2.1 39 2 = 0) := by
  refine xa_tn 6 [0, 1] [(0, .ref 39), (1, .int m)] [.ref 39] (xh_ui h 39 0 (Int32.ofInt 0)) [] 6 (a_rq_of hi.1 hn) rfl trivial (fun q1 => ?_)
  have hk1 : hk rk_md h (xh_ui h 39 0 (Int32.ofInt 0)) := hk_ui (s := (0, 10)) (lo := 0) (hi := 1) (hk_0 hi) hn rfl rfl (by decide) (by decide) rfl rfl
  generalize xh_ui h 39 0 (Int32.ofInt 0) = h1 at hk1 q1 ⊢
  refine xp_run q1 rfl rfl (tk_run (d := d) q1) ?_
  rintro v h2 ⟨rfl, e2⟩
  have hk2 : hk rk_md h h2 := by
    rw [e2]
    exact hk_ui (s := (0, 10)) (lo := 0) (hi := 640) hk1 hn rfl rfl (by decide) (by decide) rfl rfl
  have z2 : xg 0 h2.2.1 39 2 = 0 := by rw [e2]; exact gx_s
  refine xp_mono (r10_rest (d := d) (m := m) (t := xg 0 h1.2.1 39 2) (hk_n hk2 hn) hk2.1) (fun v h' q => ?_)
  obtain ⟨q1, x, rfl, -⟩ := q
  exact ⟨hk_t hk2 q1 (by decide), ⟨x, rfl⟩, (hk_g (c := 39) (k := 2) q1 rfl rfl).trans z2⟩
abbrev r9_md : List (Nat × Nat) := [(1, 1), (28, 1), (30, 0)]
set_option maxRecDepth 100000 in
set_option maxHeartbeats 4000000 in
/-- X9.rank takes the tape -/
theorem r9_run {d : Nat} {m : Int32} {h : xh_H} (hn : 72 ≤ h.1.length) (hi : a_inv a_tb h) : xt_P (d + 2) xi_X9_rank xmi_X9_rank 0 [(0, .ref 0), (1, .int m)] [] h (fun v h' => hk r9_md h h' ∧ (∃ x : Int32, v = some (.int x)) ∧ xg 0 h'.2.1 1 1 = 0) := by
  have hq := a_rq_of hi.1 hn
  have fin : ∀ (h' : xh_H) (p : Bool), hk r9_md h h' → xt_P (d + 2) xi_X9_rank xmi_X9_rank 56 [(0, .ref 0), (2, .int (bl p))] [] h' (fun v h' => hk r9_md h h' ∧ (∃ x : Int32, v = some (.int x)) ∧ xg 0 h'.2.1 1 1 = 0) := by
    intro h' p k
    refine xa_tn 65 [] [] [.int (bl p)] (xh_ui h' 1 1 (Int32.ofInt 0)) [] 7 (hk_q k hn) rfl trivial (fun _ => ?_)
    refine xp_ret rfl rfl (by cases p <;> rfl) ⟨hk_ui (s := (0, 8)) (lo := 0) (hi := 640) k hn rfl rfl (by decide) (by decide) rfl rfl, ⟨_, rfl⟩, gx_s⟩
  refine xa_tn 2 [0, 1] [(0, .ref 0), (1, .int m)] [.int m, .ref 0] h [] 4 hq rfl trivial (fun _ => ?_)
  refine xp_intf (C := aC_m_X9_isMember) (lo := 0) (hi := 1) (σ := fun _ => 0) as_m_X9_isMember hq hi rfl rfl rfl (Nat.zero_le _) ⟨a_av (t := 0) (by decide) hq.1, a_ai (ar_rng m).1 (ar_rng m).2, trivial⟩ a_fp0 rfl (fun x h1 x1 x2 xf _ i1 l1 f1 q1 => ?_)
  have k1 : hk r9_md h h1 := hk_c (hk_0 hi) i1 l1 f1 (fun _ z => nomatch z)
  cases c1 : xe_c .eq x 0 with
  | true =>
    refine xa_tn 56 [0, 2] [(0, .ref 0), (2, .int (Int32.ofInt 0))] [] h1 [true, true] 7 q1 rfl ⟨c1, by decide, trivial⟩ (fun _ => ?_)
    exact fin h1 false k1
  | false =>
    have mf : 0 ≤ m.toInt ∧ m.toInt ≤ 11 := xf (of_decide_eq_false c1) _ (List.mem_singleton.mpr rfl)
    cases c2 : xe_c .ne (xg 0 h1.2.1 1 1) 7 with
    | true =>
      refine xa_tn 56 [0, 2] [(0, .ref 0), (2, .int (Int32.ofInt 0))] [] h1 [false, true, true] 12 q1 rfl ⟨c1, c2, by decide, trivial⟩ (fun _ => ?_)
      exact fin h1 false k1
    | false =>
      refine xa_tn 28 [0, 1] [(0, .ref 0), (1, .int m)] [.ref 1, .ref 28] h1 [false, false] 12 q1 rfl ⟨c1, c2, trivial⟩ (fun _ => ?_)
      refine xp_int (C := aC_m_X0_isRow_r1) (lo := 0) (hi := 1) (σ := fun _ => 0) as_m_X0_isRow_r1 q1 i1 rfl rfl rfl (by show 1 ≤ d + 1; omega) ⟨a_av (t := 28) (by decide) q1.1, a_av (t := 1) (by decide) q1.1, trivial⟩ a_fp0 rfl (fun y h2 y1 y2 i2 l2 f2 q2 => ?_)
      have k2 : hk r9_md h h2 := hk_c k1 i2 l2 f2 (fun _ z => nomatch z)
      cases c3 : xe_c .eq y 0 with
      | true =>
        refine xa_tn 56 [0, 2] [(0, .ref 0), (2, .int (Int32.ofInt 0))] [] h2 [true, true] 7 q2 rfl ⟨c3, by decide, trivial⟩ (fun _ => ?_)
        exact fin h2 false k2
      | false =>
        refine xa_tn 53 [0, 2] [(0, .ref 0), (2, .int (Int32.ofInt 1))] [.ref 1, .int m, .ref 28] h2 [false, false] 13 q2 rfl ⟨c3, by decide, trivial⟩ (fun _ => ?_)
        refine xp_void (C := aC_m_X0_order_r1) (P := []) (σ := fun _ => 0) as_m_X0_order_r1 q2 i2 rfl rfl rfl (by show 1 ≤ d + 1; omega) ⟨a_av (t := 28) (by decide) q2.1, a_ai mf.1 mf.2, a_av (t := 1) (by decide) q2.1, trivial⟩ a_fp0 rfl (fun h3 _ i3 l3 f3 q3 => ?_)
        exact fin h3 true (hk_c k2 i3 l3 f3 (by decide))
end XRT
