section XWH
abbrev wg_md : List (Nat × Nat) := [(39, 0), (39, 35), (53, 0), (39, 46), (54, 0), (55, 0), (56, 0), (61, 0), (39, 47), (39, 48), (59, 0), (60, 0), (39, 49), (39, 50), (57, 0), (58, 0), (39, 51), (39, 52)]
def wg_Q (h0 : xh_H) (v : Option Value) (h' : xh_H) : Prop := hk wg_md h0 h' ∧ ∃ x : Int32, v = some (.int x) ∧ -2 ≤ x.toInt ∧ x.toInt ≤ 60
set_option maxRecDepth 100000 in
set_option maxHeartbeats 4000000 in
theorem wg_in {d u : Nat} {h0 : xh_H} (hn : 72 ≤ h0.1.length) (hu : u ≤ 60) : ∀ (n i : Nat) (h : xh_H), i + n = 12 → hk wg_md h0 h → xt_P d xi_X10_weigh xmi_X10_weigh 84 [(0, .ref 39), (1, .int (nI u)), (3, .int (nI i))] [] h (wg_Q h0) := by
  have fin : ∀ h, hk wg_md h0 h → xt_P d xi_X10_weigh xmi_X10_weigh 115 [(0, .ref 39), (1, .int (nI u))] [] h (wg_Q h0) := by
    intro h hk0
    have b50 := a_flx (c := 39) (k := 50) (lo := -2147483648) (hi := 100000) hk0.1.1 (hk_n hk0 hn) rfl rfl (by decide)
    refine xa_tn 126 [0, 1] [(0, .ref 39), (1, .int (nI u))] [] (xh_ui h 58 (12 : Int32).toNatClampNeg (xg 0 h.2.1 39 50)) [] 8 (hk_q hk0 hn) rfl ⟨by decide, trivial⟩ (fun _ => ?_)
    have hk1 : hk wg_md h0 (xh_ui h 58 (12 : Int32).toNatClampNeg (xg 0 h.2.1 39 50)) := hk_ui (s := (1, 13)) (lo := -2147483648) (hi := 100000) hk0 hn rfl rfl b50.1 b50.2 rfl rfl
    generalize xh_ui h 58 (12 : Int32).toNatClampNeg (xg 0 h.2.1 39 50) = h1 at hk1 ⊢
    have b4 := a_flx (c := 39) (k := 4) (lo := 1) (hi := 12) hk1.1.1 (hk_n hk1 hn) rfl rfl (by decide)
    refine xa_tn 134 [0, 1] [(0, .ref 39), (1, .int (nI u))] [] (xh_ui h1 39 52 (xg 0 h1.2.1 39 4)) [] 6 (hk_q hk1 hn) rfl trivial (fun _ => ?_)
    have hk2 : hk wg_md h0 (xh_ui h1 39 52 (xg 0 h1.2.1 39 4)) := hk_ui (s := (0, 10)) (lo := 0) (hi := 12) hk1 hn rfl rfl (by omega) b4.2 rfl rfl
    generalize xh_ui h1 39 52 (xg 0 h1.2.1 39 4) = h2 at hk2 ⊢
    refine xa_tn 140 [] [] [.int (nI u)] (xh_ui h2 39 51 (Int32.ofInt 1)) [] 6 (hk_q hk2 hn) rfl ⟨Or.inr rfl, trivial⟩ (fun _ => ?_)
    have ui := nI_toInt (n := u) (by omega)
    exact xp_ret rfl rfl rfl ⟨hk_ui (s := (0, 10)) (lo := 0) (hi := 1) hk2 hn rfl rfl (by decide) (by decide) rfl rfl, _, rfl, by omega, by omega⟩
  intro n
  induction n with
  | zero =>
    intro i h hi hk0
    have e : i = 12 := by omega
    subst e
    have b4 := a_flx (c := 39) (k := 4) (lo := 1) (hi := 12) hk0.1.1 (hk_n hk0 hn) rfl rfl (by decide)
    refine xa_tn 115 [0, 1] [(0, .ref 39), (1, .int (nI u))] [] h [true] 6 (hk_q hk0 hn) rfl ⟨xge_t (show (xg 0 h.2.1 39 4).toInt ≤ (12 : Int) by omega), trivial⟩ (fun _ => ?_)
    exact fin h hk0
  | succ n ih =>
    intro i h hi hk0
    cases c1 : xe_c .ge (nI i) (xg 0 h.2.1 39 4) with
    | true =>
      refine xa_tn 115 [0, 1] [(0, .ref 39), (1, .int (nI u))] [] h [true] 6 (hk_q hk0 hn) rfl ⟨c1, trivial⟩ (fun _ => ?_)
      exact fin h hk0
    | false =>
      have e1 : nI i + Int32.ofInt 1 = nI (i + 1) := nI_1 i
      have eic : (nI i).toNatClampNeg = i := nI_clamp (by omega)
      have g54 := a_elx (c := 54) (k := i) (lo := 0) (hi := 11) hk0.1.1 (hk_n hk0 hn) rfl rfl (by omega)
      obtain ⟨t, et, t11, t31⟩ := a_nk (x := xg 0 h.2.1 54 i) (m := 11) g54.1 g54.2
      have g57 := a_elx (c := 57) (k := t) (lo := 0) (hi := 100) hk0.1.1 (hk_n hk0 hn) rfl rfl (by omega)
      refine xa_tn 84 [0, 1, 3] [(0, .ref 39), (1, .int (nI u)), (3, .int ((nI i) + Int32.ofInt 1))] [] (xh_ui h 58 (nI i).toNatClampNeg (xg 0 h.2.1 57 (xg 0 h.2.1 54 (nI i).toNatClampNeg).toNatClampNeg)) [false] 19 (hk_q hk0 hn) rfl ⟨c1, xin_n (by omega) (by omega), (show xe_in (xg 0 h.2.1 54 (nI i).toNatClampNeg) 12 = true by rw [eic, et]; exact xin_n (by omega) (by omega)), xin_n (by omega) (by omega), trivial⟩ (fun _ => ?_)
      rw [e1, eic, et, nI_clamp t31]
      exact ih (i + 1) _ (by omega) (hk_ui (s := (1, 13)) (lo := -2147483648) (hi := 100000) hk0 hn rfl rfl (by omega) (by omega) rfl rfl)
set_option maxRecDepth 100000 in
set_option maxHeartbeats 4000000 in
theorem wg_loop {d : Nat} {h0 : xh_H} (hn : 72 ≤ h0.1.length) : ∀ (n u : Nat) (h : xh_H), u + n = 61 → hk wg_md h0 h → xt_P (d + 3) xi_X10_weigh xmi_X10_weigh 56 [(0, .ref 39), (1, .int (nI u))] [] h (wg_Q h0) := by
  intro n
  induction n with
  | zero =>
    intro u h hu hk0
    have e : u = 61 := by omega
    subst e
    refine xa_tn 148 [] [] [.int (Int32.ofInt (-1))] h [true] 6 (hk_q hk0 hn) rfl ⟨by decide, trivial⟩ (fun _ => ?_)
    exact xp_ret rfl rfl rfl ⟨hk0, _, rfl, by decide, by decide⟩
  | succ n ih =>
    intro u h hu hk0
    have ui := nI_toInt (n := u) (by omega)
    have e1 : nI u + Int32.ofInt 1 = nI (u + 1) := nI_1 u
    refine xa_tn 64 [0, 1] [(0, .ref 39), (1, .int (nI u))] [.int (nI u), .ref 39] h [false] 7 (hk_q hk0 hn) rfl ⟨xgt_f (show (nI u).toInt ≤ (60 : Int) by omega), trivial⟩ (fun hq => ?_)
    refine xp_int (C := aC_h_X10_trySum) (lo := -2) (hi := 1) (σ := fun _ => 0) as_h_X10_trySum hq hk0.1 rfl rfl rfl (by show 2 ≤ d + 2; omega) ⟨a_av (by decide) hq.1, a_ai (by omega) (by omega), trivial⟩ a_fp0 rfl (fun v h1 v1 v2 i1 l1 f1 q1 => ?_)
    have hk1 : hk wg_md h0 h1 := hk_c hk0 i1 l1 f1 (by decide)
    cases c1 : xe_c .ne v 0 with
    | false =>
      refine xa_tn 56 [0, 1] [(0, .ref 39), (1, .int ((nI u) + Int32.ofInt 1))] [] h1 [false] 8 q1 rfl ⟨c1, trivial⟩ (fun _ => ?_)
      rw [e1]
      exact ih (u + 1) h1 (by omega) hk1
    | true =>
      cases c2 : xe_c .ge v 0 with
      | false =>
        refine xa_tn 81 [] [] [.int (-2)] h1 [true, false] 8 q1 rfl ⟨c1, c2, trivial⟩ (fun _ => ?_)
        exact xp_ret rfl rfl rfl ⟨hk1, _, rfl, by decide, by decide⟩
      | true =>
        refine xa_tn 84 [0, 1, 3] [(0, .ref 39), (1, .int (nI u)), (3, .int (Int32.ofInt 0))] [] h1 [true, true] 9 q1 rfl ⟨c1, c2, trivial⟩ (fun _ => ?_)
        exact wg_in hn (by omega) 12 0 h1 rfl hk1
/-- X10.weigh -/
def aC_r_X10_weigh : aC := (xi_X10_weigh, 3, [(2, 39, 0, none, [], [])], [(some (0, -2, 60, none, [], []), [])], wg_md, [])
set_option maxRecDepth 100000 in
set_option maxHeartbeats 4000000 in
theorem as_r_X10_weigh : a_spec a_tb aC_r_X10_weigh := by
  refine sp_of (mi := xmi_X10_weigh) rfl ?_
  intro d vs h σ hd hi hn ha _
  match vs, ha with
  | [v0], ha =>
    obtain ⟨⟨q, rfl, hq⟩, -⟩ := ha
    have eq : q = 39 := a_r_ob (t := 39) (by decide) hq
    subst eq
    have hd : 3 ≤ d := hd
    obtain ⟨d, rfl⟩ : ∃ d', d = d' + 3 := ⟨d - 3, by omega⟩
    have main : xt_P (d + 3) xi_X10_weigh xmi_X10_weigh 0 [(0, .ref 39)] [] h (wg_Q h) := by
      refine xa_tn 6 [0] [(0, .ref 39)] [.ref 39] (xh_ui h 39 0 (Int32.ofInt 0)) [] 6 (a_rq_of hi.1 hn) rfl trivial (fun q1 => ?_)
      have hk1 : hk wg_md h (xh_ui h 39 0 (Int32.ofInt 0)) := hk_ui (s := (0, 10)) (lo := 0) (hi := 1) (hk_0 hi) hn rfl rfl (by decide) (by decide) rfl rfl
      generalize xh_ui h 39 0 (Int32.ofInt 0) = h1 at hk1 q1 ⊢
      refine xp_run q1 rfl rfl (ly_run (d := d + 1) hk1.1 q1.1) ?_
      rintro v h2 ⟨rfl, k2, m, m4, m1, m12, m35⟩
      have hk2 : hk wg_md h h2 := hk_t hk1 k2 (by decide)
      have q2 := hk_q hk2 hn
      refine xa_tn 10 [0] [(0, .ref 39)] [.ref 39] h2 [] 3 q2 rfl trivial (fun _ => ?_)
      refine xp_int (C := aC_m_X10_isLined) (lo := 0) (hi := 1) (σ := fun _ => 0) as_m_X10_isLined q2 hk2.1 rfl rfl rfl (by show 1 ≤ d + 2; omega) ⟨a_av (by decide) q2.1, trivial⟩ a_fp0 rfl (fun x h3 x1 x2 i3 l3 f3 q3 => ?_)
      have hk3 : hk wg_md h h3 := hk_c hk2 i3 l3 f3 (fun _ z => nomatch z)
      have n4 : xg 0 h3.2.1 39 4 = nI m := by rw [fr_nil f3 rfl]; exact m4
      have n35 : xg 0 h3.2.1 39 35 = nI (2 ^ m) := by rw [fr_nil f3 rfl]; exact m35
      have p12m : 2 ^ m ≤ 4096 := Nat.pow_le_pow_right (n := 2) (by decide) m12
      have pm0 : 0 < 2 ^ m := Nat.pow_pos (by decide)
      have e35 : xg 0 h3.2.1 39 35 - Int32.ofInt 1 = nI (2 ^ m - 1) := by
        obtain ⟨j, ej⟩ : ∃ j, 2 ^ m = j + 1 := ⟨2 ^ m - 1, by omega⟩
        rw [n35, ej]
        exact nI_sub1
      have hin : xe_in ((xg 0 h3.2.1 39 35) - (Int32.ofInt 1)) 4096 = true := by rw [e35]; exact xin_n (by omega) (by omega)
      cases c1 : xe_c .eq x 0 with
      | true =>
        refine xa_tn 40 [] [] [.int (Int32.ofInt (-1))] h3 [true] 4 q3 rfl ⟨c1, trivial⟩ (fun _ => ?_)
        exact xp_ret rfl rfl rfl ⟨hk3, _, rfl, by decide, by decide⟩
      | false =>
        cases c2 : xe_c .ne (xg 0 h3.2.1 53 (Int32.ofInt 0).toNatClampNeg) 0 with
        | true =>
          refine xa_tn 40 [] [] [.int (Int32.ofInt (-1))] h3 [false, true] 9 q3 rfl ⟨c1, by decide, c2, trivial⟩ (fun _ => ?_)
          exact xp_ret rfl rfl rfl ⟨hk3, _, rfl, by decide, by decide⟩
        | false =>
          cases c3 : xe_c .ne (xg 0 h3.2.1 53 ((xg 0 h3.2.1 39 35) - (Int32.ofInt 1)).toNatClampNeg) 0 with
          | false =>
            refine xa_tn 40 [] [] [.int (Int32.ofInt (-1))] h3 [false, false, false] 17 q3 rfl ⟨c1, by decide, c2, hin, c3, trivial⟩ (fun _ => ?_)
            exact xp_ret rfl rfl rfl ⟨hk3, _, rfl, by decide, by decide⟩
          | true =>
            refine xa_tn 42 [0] [(0, .ref 39)] [.ref 39] h3 [false, false, true] 17 q3 rfl ⟨c1, by decide, c2, hin, c3, trivial⟩ (fun _ => ?_)
            refine xp_void (C := aC_h_X10_findSorts) (σ := fun _ => 0) (P := []) as_h_X10_findSorts q3 hk3.1 rfl rfl rfl (by show 1 ≤ d + 2; omega) ⟨a_av (by decide) q3.1, trivial⟩ a_fp0 rfl (fun h4 _ i4 l4 f4 q4 => ?_)
            have hk4 : hk wg_md h h4 := hk_c hk3 i4 l4 f4 (by decide)
            have o4 : xg 0 h4.2.1 39 4 = nI m := by rw [fr_g f4 rfl rfl]; exact n4
            have o35 : xg 0 h4.2.1 39 35 = nI (2 ^ m) := by rw [fr_g f4 rfl rfl]; exact n35
            refine xa_tn 46 [0] [(0, .ref 39)] [.ref 39] h4 [] 3 q4 rfl trivial (fun _ => ?_)
            refine xp_run q4 rfl rfl (en_run (d := d) i4 q4.1 m12 o4 o35) ?_
            rintro v h5 ⟨rfl, k5⟩
            have hk5 : hk wg_md h h5 := hk_t hk4 k5 (by decide)
            refine xa_tn 56 [0, 1] [(0, .ref 39), (1, .int (Int32.ofInt 0))] [] (xh_ui h5 39 49 (Int32.ofInt 0)) [] 7 (hk_q hk5 hn) rfl trivial (fun _ => ?_)
            exact wg_loop hn 61 0 _ rfl (hk_ui (s := (0, 10)) (lo := -2147483648) (hi := 2147483647) hk5 hn rfl rfl (by decide) (by decide) rfl rfl)
    exact xp_mono main (fun v h' g => by
      obtain ⟨g1, x, rfl, x1, x2⟩ := g
      exact ⟨g1, rok_i x1 x2⟩)
end XWH
