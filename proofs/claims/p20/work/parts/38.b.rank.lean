section XRK
set_option maxRecDepth 100000 in
set_option maxHeartbeats 4000000 in
/-- the reference's areOptions -/
theorem ao_loop {d n : Nat} {h : xh_H} (hi : a_inw a_tb h) (hn : 72 ≤ h.1.length) (n7' : n ≤ 7) : ∀ (m i : Nat) (w : Int32), i + m = n → (∀ k, k < i → (xg 0 h.2.1 40 k).toInt ≤ 6) → xt_P d xi_X10_areOptions xmi_X10_areOptions 4 [(0, .ref 39), (1, .int (nI n)), (2, .int w), (3, .int (nI i))] [] h (fun v h' => h = h' ∧ ∃ p : Bool, v = some (.int (cond p 1 0)) ∧ (p = true → ∀ k, k < n → (xg 0 h.2.1 40 k).toInt ≤ 6)) := by
  have hq := a_rq_of hi hn
  intro m
  induction m with
  | zero =>
    intro i w hm hs
    have e : i = n := by omega
    subst e
    refine xa_tn 54 [] [] [.int (Int32.ofInt 1)] h [true] 6 hq rfl ⟨nge_t (by omega) (by omega) (Nat.le_refl _), trivial⟩ (fun _ => ?_)
    exact xp_ret rfl rfl rfl ⟨rfl, true, rfl, fun _ => hs⟩
  | succ m ih =>
    intro i w hm hs
    have hge : xe_c .ge (nI i) (nI n) = false := nge_f (by omega) (by omega) (by omega)
    have hin := xin_n (k := i) (n := 640) (by omega) (by omega)
    have eic : (nI i).toNatClampNeg = i := nI_clamp (by omega)
    have e1 : nI i + Int32.ofInt 1 = nI (i + 1) := nI_1 i
    cases c1 : xe_c .ge (xg 0 h.2.1 40 (nI i).toNatClampNeg) 7 with
    | true =>
      refine xa_tn 35 [] [] [.int (Int32.ofInt 0)] h [false, true] 12 hq rfl ⟨hge, hin, c1, trivial⟩ (fun _ => ?_)
      exact xp_ret rfl rfl rfl ⟨rfl, false, rfl, fun z => Bool.noConfusion z⟩
    | false =>
      have b1 : (xg 0 h.2.1 40 (nI i).toNatClampNeg).toInt < 7 := a_ce (a_neg_ok c1)
      rw [eic] at b1
      cases c2 : xe_c .ne ((w >>> ((xg 0 h.2.1 40 (nI i).toNatClampNeg) &&& 31)) &&& (Int32.ofInt 1)) (Int32.ofInt 1) with
      | false =>
        refine xa_tn 35 [] [] [.int (Int32.ofInt 0)] h [false, false, false] 22 hq rfl ⟨hge, hin, c1, hin, c2, trivial⟩ (fun _ => ?_)
        exact xp_ret rfl rfl rfl ⟨rfl, false, rfl, fun z => Bool.noConfusion z⟩
      | true =>
        refine xa_tn 4 [0, 1, 2, 3] [(0, .ref 39), (1, .int (nI n)), (2, .int (w ||| ((Int32.ofInt 1) <<< ((xg 0 h.2.1 40 (nI i).toNatClampNeg) &&& 31)))), (3, .int ((nI i) + Int32.ofInt 1))] [] h [false, false, true] 32 hq rfl ⟨hge, hin, c1, hin, c2, hin, trivial⟩ (fun _ => ?_)
        rw [e1]
        refine ih (i + 1) _ (by omega) (fun k hk' => ?_)
        by_cases e : k = i
        · subst e
          omega
        · exact hs k (by omega)
set_option maxRecDepth 100000 in
theorem ao_run {d n : Nat} {h : xh_H} (hi : a_inw a_tb h) (hn : 72 ≤ h.1.length) (n7' : n ≤ 7) : xt_P d xi_X10_areOptions xmi_X10_areOptions 0 [(0, .ref 39), (1, .int (nI n))] [] h (fun v h' => h = h' ∧ ∃ p : Bool, v = some (.int (cond p 1 0)) ∧ (p = true → ∀ k, k < n → (xg 0 h.2.1 40 k).toInt ≤ 6)) := by
  refine xa_tn 4 [0, 1, 2, 3] [(0, .ref 39), (1, .int (nI n)), (2, .int (Int32.ofInt 0)), (3, .int (Int32.ofInt 0))] [] h [] 6 (a_rq_of hi hn) rfl trivial (fun _ => ?_)
  exact ao_loop hi hn n7' n 0 _ (by omega) (fun k hk' => absurd hk' (Nat.not_lt_zero k))
abbrev rk_md : List (Nat × Nat) := [(39, 0), (39, 2), (39, 5), (62, 0)]
/-- a byte of the reference's tape that is an option -/
theorem tp_o {h : xh_H} {n k : Nat} (hi : a_inw a_tb h) (hn : 72 ≤ h.1.length) (hk' : k < n) (n7' : n ≤ 7) (ho : ∀ k, k < n → (xg 0 h.2.1 40 k).toInt ≤ 6) : ∃ t : Nat, xg 0 h.2.1 40 k = nI t ∧ t ≤ 6 := by
  have b := a_elx (c := 40) (k := k) (lo := 0) (hi := 255) hi hn rfl rfl (by omega)
  obtain ⟨t, et, t1, -⟩ := a_nk (x := xg 0 h.2.1 40 k) (m := 6) b.1 (ho k hk')
  exact ⟨t, et, t1⟩
set_option maxRecDepth 100000 in
set_option maxHeartbeats 4000000 in
theorem rk_loop {d m : Nat} {h0 : xh_H} (hn : 72 ≤ h0.1.length) (hm : m ≤ 11) : ∀ (n i : Nat) (h : xh_H), i + n = 7 → hk rk_md h0 h → (∀ k, k < 7 → (xg 0 h.2.1 40 k).toInt ≤ 6) → xt_P d xi_X10_rank xmi_X10_rank 36 [(0, .ref 39), (1, .int (nI m)), (3, .int (nI i))] [] h (fun v h' => hk rk_md h0 h' ∧ ∃ x : Int32, v = some (.int x) ∧ 0 ≤ x.toInt ∧ x.toInt ≤ 1) := by
  intro n
  induction n with
  | zero =>
    intro i h hi hk0 ho
    have e : i = 7 := by omega
    subst e
    refine xa_tn 71 [] [] [.int (Int32.ofInt 1)] (xh_ui h 39 5 (Int32.ofInt 1)) [true] 9 (hk_q hk0 hn) rfl ⟨by decide, Or.inr rfl, trivial⟩ (fun _ => ?_)
    exact xp_ret rfl rfl rfl ⟨hk_ui (s := (0, 10)) (lo := 0) (hi := 1) hk0 hn rfl rfl (by decide) (by decide) rfl rfl, _, rfl, by decide, by decide⟩
  | succ n ih =>
    intro i h hi hk0 ho
    obtain ⟨t, et, t6⟩ := tp_o (k := i) hk0.1.1 (hk_n hk0 hn) (show i < 7 by omega) (Nat.le_refl _) ho
    have eic : (nI i).toNatClampNeg = i := nI_clamp (by omega)
    have ei := nI_toInt (n := i) (by omega)
    have e1 : nI i + Int32.ofInt 1 = nI (i + 1) := nI_1 i
    refine xa_tn 36 [0, 1, 3] [(0, .ref 39), (1, .int (nI m)), (3, .int ((nI i) + Int32.ofInt 1))] [] (xh_ui h 62 ((7 * (nI m)) + (xg 0 h.2.1 40 (nI i).toNatClampNeg)).toNatClampNeg (nI i)) [false] 19 (hk_q hk0 hn) rfl ⟨nge_f (b := 7) (by omega) (by omega) (by omega), xin_n (by omega) (by omega), (show xe_in ((7 * (nI m)) + (xg 0 h.2.1 40 (nI i).toNatClampNeg)) 84 = true by rw [eic, et, n7]; exact xin_n (by omega) (by omega)), trivial⟩ (fun _ => ?_)
    rw [eic, et, n7, nI_clamp (by omega), e1]
    refine ih (i + 1) _ (by omega) (hk_ui (s := (1, 84)) (lo := 0) (hi := 6) hk0 hn rfl rfl (by omega) (by omega) rfl rfl) (fun k hk' => ?_)
    rw [gx_o (by decide)]
    exact ho k hk'
/-- X10.rank -/
def aC_r_X10_rank : aC := (xi_X10_rank, 1, [(2, 39, 0, none, [], []), (0, (-2147483648), 2147483647, none, [], [])], [(some (0, 0, 1, none, [], []), [])], rk_md, [])
set_option maxRecDepth 100000 in
set_option maxHeartbeats 4000000 in
theorem as_r_X10_rank : a_spec a_tb aC_r_X10_rank := by
  refine sp_of (mi := xmi_X10_rank) rfl ?_
  intro d vs h σ hd hi hn ha _
  match vs, ha with
  | [v0, v1], ha =>
    obtain ⟨⟨q, rfl, hq⟩, ⟨m, rfl, -⟩, -⟩ := ha
    have eq : q = 39 := a_r_ob (t := 39) (by decide) hq
    subst eq
    have hd : 1 ≤ d := hd
    obtain ⟨d, rfl⟩ : ∃ d', d = d' + 1 := ⟨d - 1, by omega⟩
    have main : xt_P (d + 1) xi_X10_rank xmi_X10_rank 0 [(0, .ref 39), (1, .int m)] [] h (fun v h' => hk rk_md h h' ∧ ∃ x : Int32, v = some (.int x) ∧ 0 ≤ x.toInt ∧ x.toInt ≤ 1) := by
      refine xa_tn 6 [0, 1] [(0, .ref 39), (1, .int m)] [.ref 39] (xh_ui h 39 0 (Int32.ofInt 0)) [] 6 (a_rq_of hi.1 hn) rfl trivial (fun q1 => ?_)
      have hk1 : hk rk_md h (xh_ui h 39 0 (Int32.ofInt 0)) := hk_ui (s := (0, 10)) (lo := 0) (hi := 1) (hk_0 hi) hn rfl rfl (by decide) (by decide) rfl rfl
      generalize xh_ui h 39 0 (Int32.ofInt 0) = h1 at hk1 q1 ⊢
      refine xp_int (C := aC_m_X10_take) (lo := 0) (hi := 640) (σ := fun _ => 0) as_m_X10_take q1 hk1.1 rfl rfl rfl (Nat.zero_le _) ⟨a_av (by decide) q1.1, trivial⟩ a_fp0 rfl (fun t h2 t1 t2 i2 l2 f2 q2 => ?_)
      have hk2 : hk rk_md h h2 := hk_c hk1 i2 l2 f2 (by decide)
      refine xa_tn 12 [0, 1, 2] [(0, .ref 39), (1, .int m), (2, .int t)] [.int m, .ref 39] h2 [] 5 q2 rfl trivial (fun _ => ?_)
      have mr := ar_rng m
      refine xp_intf (C := aC_m_X10_isMember) (lo := 0) (hi := 1) (σ := fun _ => 0) as_m_X10_isMember q2 hk2.1 rfl rfl rfl (Nat.zero_le _) ⟨a_av (by decide) q2.1, a_ai mr.1 mr.2, trivial⟩ a_fp0 rfl (fun x h3 x1 x2 xf _ i3 l3 f3 q3 => ?_)
      have hk3 : hk rk_md h h3 := hk_c hk2 i3 l3 f3 (fun _ z => nomatch z)
      cases c1 : xe_c .eq x 0 with
      | true =>
        refine xa_tn 33 [] [] [.int (Int32.ofInt 0)] h3 [true] 4 q3 rfl ⟨c1, trivial⟩ (fun _ => ?_)
        exact xp_ret rfl rfl rfl ⟨hk3, _, rfl, by decide, by decide⟩
      | false =>
        have mf : 0 ≤ m.toInt ∧ m.toInt ≤ 11 := xf (of_decide_eq_false c1) _ (List.mem_singleton.mpr rfl)
        obtain ⟨m, rfl, m11, m31⟩ := a_nk (x := m) (m := 11) mf.1 mf.2
        cases c2 : xe_c .ne t 7 with
        | true =>
          refine xa_tn 33 [] [] [.int (Int32.ofInt 0)] h3 [false, true] 7 q3 rfl ⟨c1, c2, trivial⟩ (fun _ => ?_)
          exact xp_ret rfl rfl rfl ⟨hk3, _, rfl, by decide, by decide⟩
        | false =>
          have et : t = nI 7 := by
            have c2 : (!decide (t = 7)) = false := c2
            rw [Bool.not_eq_false'] at c2
            exact of_decide_eq_true c2
          subst et
          refine xa_tn 26 [0, 1, 2] [(0, .ref 39), (1, .int (nI m)), (2, .int (nI 7))] [.int (nI 7), .ref 39] h3 [false, false] 8 q3 rfl ⟨c1, c2, trivial⟩ (fun _ => ?_)
          refine xp_run q3 rfl rfl (ao_run (d := d) (n := 7) i3.1 q3.1 (by decide)) ?_
          rintro v h4 ⟨rfl, p, rfl, hp⟩
          cases p with
          | false =>
            refine xa_tn 33 [] [] [.int (Int32.ofInt 0)] h3 [false] 4 q3 rfl ⟨rfl, trivial⟩ (fun _ => ?_)
            exact xp_ret rfl rfl rfl ⟨hk3, _, rfl, by decide, by decide⟩
          | true =>
            refine xa_tn 36 [0, 1, 3] [(0, .ref 39), (1, .int (nI m)), (3, .int (Int32.ofInt 0))] [] h3 [true] 5 q3 rfl ⟨rfl, trivial⟩ (fun _ => ?_)
            exact rk_loop hn m11 7 0 h3 rfl hk3 (hp rfl)
    exact xp_mono main (fun v h' g => by
      obtain ⟨g1, x, rfl, x1, x2⟩ := g
      exact ⟨g1, rok_i x1 x2⟩)
end XRK
