section
section XRK
set_option maxRecDepth 100000 in
set_option maxHeartbeats 4000000 in
/-- the reference's areOptions -/
theorem ao_loop {d n : Nat} {h : xh_H} (hi : a_inw a_tb h) (hn : 72 ≤ h.1.length) (n7' : n ≤ 7) : ∀ (m i : Nat) (w : Int32), i + m = n → (∀ k, k < i → (xg 0 h.2.1 40 k).toInt ≤ 6) → xt_P d xi_X10_areOptions xmi_X10_areOptions 4 [(0, .ref 39), (1, .int (nI n)), (2, .int w), (3, .int (nI i))] [] h (fun v h' => h = h' ∧ ∃ p : Bool, v = some (.int (cond p 1 0)) ∧ (p = true → ∀ k, k < n → (xg 0 h.2.1 40 k).toInt ≤ 6)) := by
  have hq := a_rq_of hi hn
  intro m
  induction m with
  | zero =>
    intro i w hm hs
    have e : i = n := by omega
    subst e
    refine xa_tn 54 [] [] [.int (Int32.ofInt 1)] h [true] 6 hq rfl ⟨nge_t (by omega) (by omega) (Nat.le_refl _), trivial⟩ (fun _ => ?_)
    exact xp_ret rfl rfl rfl ⟨rfl, true, rfl, fun _ => hs⟩
  | succ m ih =>
    intro i w hm hs
    have hge : xe_c .ge (nI i) (nI n) = false := nge_f (by omega) (by omega) (by omega)
    have hin := xin_n (k := i) (n := 640) (by omega) (by omega)
    have eic : (nI i).toNatClampNeg = i := nI_clamp (by omega)
    have e1 : nI i + Int32.ofInt 1 = nI (i + 1) := nI_1 i
    cases c1 : xe_c .ge (xg 0 h.2.1 40 (nI i).toNatClampNeg) 7 with
    | true =>
      refine xa_tn 35 [] [] [.int (Int32.ofInt 0)] h [false, true] 12 hq rfl ⟨hge, hin, c1, trivial⟩ (fun _ => ?_)
      exact xp_ret rfl rfl rfl ⟨rfl, false, rfl, fun z => Bool.noConfusion z⟩
    | false =>
      have b1 : (xg 0 h.2.1 40 (nI i).toNatClampNeg).toInt < 7 := a_ce (a_neg_ok c1)
      rw [eic] at b1
      cases c2 : xe_c .ne ((w >>> ((xg 0 h.2.1 40 (nI i).toNatClampNeg) &&& 31)) &&& (Int32.ofInt 1)) (Int32.ofInt 1) with
      | false =>
        refine xa_tn 35 [] [] [.int (Int32.ofInt 0)] h [false, false, false] 22 hq rfl ⟨hge, hin, c1, hin, c2, trivial⟩ (fun _ => ?_)
        exact xp_ret rfl rfl rfl ⟨rfl, false, rfl, fun z => Bool.noConfusion z⟩
      | true =>
        refine xa_tn 4 [0, 1, 2, 3] [(0, .ref 39), (1, .int (nI n)), (2, .int (w ||| ((Int32.ofInt 1) <<< ((xg 0 h.2.1 40 (nI i).toNatClampNeg) &&& 31)))), (3, .int ((nI i) + Int32.ofInt 1))] [] h [false, false, true] 32 hq rfl ⟨hge, hin, c1, hin, c2, hin, trivial⟩ (fun _ => ?_)
        rw [e1]
        refine ih (i + 1) _ (by omega) (fun k hk' => ?_)
        by_cases e : k = i
        · subst e
          omega
        · exact hs k (by omega)
set_option maxRecDepth 100000 in
theorem ao_run {d n : Nat} {h : xh_H} (hi : a_inw a_tb h) (hn : 72 ≤ h.1.length) (n7' : n ≤ 7) : xt_P d xi_X10_areOptions xmi_X10_areOptions 0 [(0, .ref 39), (1, .int (nI n))] [] h (fun v h' => h = h' ∧ ∃ p : Bool, v = some (.int (cond p 1 0)) ∧ (p = true → ∀ k, k < n → (xg 0 h.2.1 40 k).toInt ≤ 6)) := by
  refine xa_tn 4 [0, 1, 2, 3] [(0, .ref 39), (1, .int (nI n)), (2, .int (Int32.ofInt 0)), (3, .int (Int32.ofInt 0))] [] h [] 6 (a_rq_of hi hn) rfl trivial (fun _ => ?_)
  exact ao_loop hi hn n7' n 0 _ (by omega) (fun k hk' => absurd hk' (Nat.not_lt_zero k))
abbrev rk_md : List (Nat × Nat) := [(39, 0), (39, 2), (39, 5), (62, 0)]
/-- a byte of the reference's tape that is an option -/
theorem tp_o {h : xh_H} {n k : Nat} (hi : a_inw a_tb h) (hn : 72 ≤ h.1.length) (hk' : k < n) (n7' : n ≤ 7) (ho : ∀ k, k < n → (xg 0 h.2.1 40 k).toInt ≤ 6) : ∃ t : Nat, xg 0 h.2.1 40 k = nI t ∧ t ≤ 6 := by
  have b := a_elx (c := 40) (k := k) (lo := 0) (hi := 255) hi hn rfl rfl (by omega)
  obtain ⟨t, et, t1, -⟩ := a_nk (x := xg 0 h.2.1 40 k) (m := 6) b.1 (ho k hk')
  exact ⟨t, et, t1⟩
set_option maxRecDepth 100000 in
set_option maxHeartbeats 4000000 in
theorem rk_loop {d m : Nat} {h0 : xh_H} (hn : 72 ≤ h0.1.length) (hm : m ≤ 11) : ∀ (n i : Nat) (h : xh_H), i + n = 7 → hk rk_md h0 h → (∀ k, k < 7 → (xg 0 h.2.1 40 k).toInt ≤ 6) → xt_P d xi_X10_rank xmi_X10_rank 36 [(0, .ref 39), (1, .int (nI m)), (3, .int (nI i))] [] h (fun v h' => hk rk_md h0 h' ∧ ∃ x : Int32, v = some (.int x) ∧ 0 ≤ x.toInt ∧ x.toInt ≤ 1) := by
  intro n
  induction n with
  | zero =>
    intro i h hi hk0 ho
    have e : i = 7 := by omega
    subst e
    refine xa_tn 71 [] [] [.int (Int32.ofInt 1)] (xh_ui h 39 5 (Int32.ofInt 1)) [true] 9 (hk_q hk0 hn) rfl ⟨by decide, Or.inr rfl, trivial⟩ (fun _ => ?_)
    exact xp_ret rfl rfl rfl ⟨hk_ui (s := (0, 10)) (lo := 0) (hi := 1) hk0 hn rfl rfl (by decide) (by decide) rfl rfl, _, rfl, by decide, by decide⟩
  | succ n ih =>
    intro i h hi hk0 ho
    obtain ⟨t, et, t6⟩ := tp_o (k := i) hk0.1.1 (hk_n hk0 hn) (show i < 7 by omega) (Nat.le_refl _) ho
    have eic : (nI i).toNatClampNeg = i := nI_clamp (by omega)
    have ei := nI_toInt (n := i) (by omega)
    have e1 : nI i + Int32.ofInt 1 = nI (i + 1) := nI_1 i
    refine xa_tn 36 [0, 1, 3] [(0, .ref 39), (1, .int (nI m)), (3, .int ((nI i) + Int32.ofInt 1))] [] (xh_ui h 62 ((7 * (nI m)) + (xg 0 h.2.1 40 (nI i).toNatClampNeg)).toNatClampNeg (nI i)) [false] 19 (hk_q hk0 hn) rfl ⟨nge_f (b := 7) (by omega) (by omega) (by omega), xin_n (by omega) (by omega), (show xe_in ((7 * (nI m)) + (xg 0 h.2.1 40 (nI i).toNatClampNeg)) 84 = true by rw [eic, et, n7]; exact xin_n (by omega) (by omega)), trivial⟩ (fun _ => ?_)
    rw [eic, et, n7, nI_clamp (by omega), e1]
    refine ih (i + 1) _ (by omega) (hk_ui (s := (1, 84)) (lo := 0) (hi := 6) hk0 hn rfl rfl (by omega) (by omega) rfl rfl) (fun k hk' => ?_)
    rw [gx_o (by decide)]
    exact ho k hk'
/-- X10.rank -/
def aC_r_X10_rank : aC := (xi_X10_rank, 1, [(2, 39, 0, none, [], []), (0, (-2147483648), 2147483647, none, [], [])], [(some (0, 0, 1, none, [], []), [])], rk_md, [])
set_option maxRecDepth 100000 in
set_option maxHeartbeats 4000000 in
theorem as_r_X10_rank : a_spec a_tb aC_r_X10_rank := by
  refine sp_of (mi := xmi_X10_rank) rfl ?_
  intro d vs h σ hd hi hn ha _
  match vs, ha with
  | [v0, v1], ha =>
    obtain ⟨⟨q, rfl, hq⟩, ⟨m, rfl, -⟩, -⟩ := ha
    have eq : q = 39 := a_r_ob (t := 39) (by decide) hq
    subst eq
    have hd : 1 ≤ d := hd
    obtain ⟨d, rfl⟩ : ∃ d', d = d' + 1 := ⟨d - 1, by omega⟩
    have main : xt_P (d + 1) xi_X10_rank xmi_X10_rank 0 [(0, .ref 39), (1, .int m)] [] h (fun v h' => hk rk_md h h' ∧ ∃ x : Int32, v = some (.int x) ∧ 0 ≤ x.toInt ∧ x.toInt ≤ 1) := by
      refine xa_tn 6 [0, 1] [(0, .ref 39), (1, .int m)] [.ref 39] (xh_ui h 39 0 (Int32.ofInt 0)) [] 6 (a_rq_of hi.1 hn) rfl trivial (fun q1 => ?_)
      have hk1 : hk rk_md h (xh_ui h 39 0 (Int32.ofInt 0)) := hk_ui (s := (0, 10)) (lo := 0) (hi := 1) (hk_0 hi) hn rfl rfl (by decide) (by decide) rfl rfl
      generalize xh_ui h 39 0 (Int32.ofInt 0) = h1 at hk1 q1 ⊢
      refine xp_int (C := aC_m_X10_take) (lo := 0) (hi := 640) (σ := fun _ => 0) as_m_X10_take q1 hk1.1 rfl rfl rfl (Nat.zero_le _) ⟨a_av (by decide) q1.1, trivial⟩ a_fp0 rfl (fun t h2 t1 t2 i2 l2 f2 q2 => ?_)
      have hk2 : hk rk_md h h2 := hk_c hk1 i2 l2 f2 (by decide)
      refine xa_tn 12 [0, 1, 2] [(0, .ref 39), (1, .int m), (2, .int t)] [.int m, .ref 39] h2 [] 5 q2 rfl trivial (fun _ => ?_)
      have mr := ar_rng m
      refine xp_intf (C := aC_m_X10_isMember) (lo := 0) (hi := 1) (σ := fun _ => 0) as_m_X10_isMember q2 hk2.1 rfl rfl rfl (Nat.zero_le _) ⟨a_av (by decide) q2.1, a_ai mr.1 mr.2, trivial⟩ a_fp0 rfl (fun x h3 x1 x2 xf _ i3 l3 f3 q3 => ?_)
      have hk3 : hk rk_md h h3 := hk_c hk2 i3 l3 f3 (fun _ z => nomatch z)
      cases c1 : xe_c .eq x 0 with
      | true =>
        refine xa_tn 33 [] [] [.int (Int32.ofInt 0)] h3 [true] 4 q3 rfl ⟨c1, trivial⟩ (fun _ => ?_)
        exact xp_ret rfl rfl rfl ⟨hk3, _, rfl, by decide, by decide⟩
      | false =>
        have mf : 0 ≤ m.toInt ∧ m.toInt ≤ 11 := xf (of_decide_eq_false c1) _ (List.mem_singleton.mpr rfl)
        obtain ⟨m, rfl, m11, m31⟩ := a_nk (x := m) (m := 11) mf.1 mf.2
        cases c2 : xe_c .ne t 7 with
        | true =>
          refine xa_tn 33 [] [] [.int (Int32.ofInt 0)] h3 [false, true] 7 q3 rfl ⟨c1, c2, trivial⟩ (fun _ => ?_)
          exact xp_ret rfl rfl rfl ⟨hk3, _, rfl, by decide, by decide⟩
        | false =>
          have et : t = nI 7 := by
            have c2 : (!decide (t = 7)) = false := c2
            rw [Bool.not_eq_false'] at c2
            exact of_decide_eq_true c2
          subst et
          refine xa_tn 26 [0, 1, 2] [(0, .ref 39), (1, .int (nI m)), (2, .int (nI 7))] [.int (nI 7), .ref 39] h3 [false, false] 8 q3 rfl ⟨c1, c2, trivial⟩ (fun _ => ?_)
          refine xp_run q3 rfl rfl (ao_run (d := d) (n := 7) i3.1 q3.1 (by decide)) ?_
          rintro v h4 ⟨rfl, p, rfl, hp⟩
          cases p with
          | false =>
            refine xa_tn 33 [] [] [.int (Int32.ofInt 0)] h3 [false] 4 q3 rfl ⟨rfl, trivial⟩ (fun _ => ?_)
            exact xp_ret rfl rfl rfl ⟨hk3, _, rfl, by decide, by decide⟩
          | true =>
            refine xa_tn 36 [0, 1, 3] [(0, .ref 39), (1, .int (nI m)), (3, .int (Int32.ofInt 0))] [] h3 [true] 5 q3 rfl ⟨rfl, trivial⟩ (fun _ => ?_)
            exact rk_loop hn m11 7 0 h3 rfl hk3 (hp rfl)
    exact xp_mono main (fun v h' g => by
      obtain ⟨g1, x, rfl, x1, x2⟩ := g
      exact ⟨g1, rok_i x1 x2⟩)
end XRK
end
section
section XLD
abbrev ld_md : List (Nat × Nat) := [(39, 0), (39, 2), (39, 35), (53, 0), (63, 0), (64, 0), (65, 0), (66, 0)]
/-- what leads leaves -/
def ld_Q (md : List (Nat × Nat)) (h0 : xh_H) (v : Option Value) (h' : xh_H) : Prop := hk md h0 h' ∧ ∃ x : Int32, v = some (.int x) ∧ -1 ≤ x.toInt ∧ x.toInt ≤ 6
set_option maxRecDepth 100000 in
set_option maxHeartbeats 4000000 in
/-- as they come: the row is laid, its end is asked -/
theorem ld_1 {d n : Nat} {h0 : xh_H} (hn : 72 ≤ h0.1.length) (n1 : 1 ≤ n) (n7' : n ≤ 7) : ∀ (m i : Nat) (h : xh_H), i + m = n → hk ld_md h0 h → (∀ k, k < n → (xg 0 h.2.1 40 k).toInt ≤ 6) → xt_P (d + 1) xi_X10_leads xmi_X10_leads 40 [(0, .ref 39), (2, .int (nI n)), (3, .int (nI i))] [] h (ld_Q ld_md h0) := by
  intro m
  induction m with
  | zero =>
    intro i h hi hk0 ho
    have e : i = n := by omega
    subst e
    refine xa_tn 65 [] [] [.int (nI i), .ref 39] h [true] 7 (hk_q hk0 hn) rfl ⟨nge_t (by omega) (by omega) (Nat.le_refl _), trivial⟩ (fun hq => ?_)
    have ei := nI_toInt (n := i) (by omega)
    refine xp_int (C := aC_m_X10_endOf) (lo := 0) (hi := 6) (σ := fun _ => 0) as_m_X10_endOf hq hk0.1 rfl rfl rfl (Nat.zero_le _) ⟨a_av (by decide) hq.1, a_ai (by omega) (by omega), trivial⟩ a_fp0 rfl (fun x h1 x1 x2 i1 l1 f1 q1 => ?_)
    exact xp_ret rfl rfl rfl ⟨hk_c hk0 i1 l1 f1 (fun _ z => nomatch z), x, rfl, by omega, x2⟩
  | succ m ih =>
    intro i h hi hk0 ho
    obtain ⟨t, et, t6⟩ := tp_o (k := i) hk0.1.1 (hk_n hk0 hn) (show i < n by omega) n7' ho
    have eic : (nI i).toNatClampNeg = i := nI_clamp (by omega)
    have e1 : nI i + Int32.ofInt 1 = nI (i + 1) := nI_1 i
    refine xa_tn 40 [0, 2, 3] [(0, .ref 39), (2, .int (nI n)), (3, .int ((nI i) + Int32.ofInt 1))] [] (xh_ui h 66 (nI i).toNatClampNeg (xg 0 h.2.1 40 (nI i).toNatClampNeg)) [false] 15 (hk_q hk0 hn) rfl ⟨nge_f (by omega) (by omega) (by omega), xin_n (by omega) (by omega), xin_n (by omega) (by omega), trivial⟩ (fun _ => ?_)
    rw [eic, et, e1]
    have ti := nI_toInt (n := t) (by omega)
    refine ih (i + 1) _ (by omega) (hk_ui (s := (1, 7)) (lo := 0) (hi := 6) hk0 hn rfl rfl (by omega) (by omega) rfl rfl) (fun k hk' => ?_)
    rw [gx_o (by decide)]
    exact ho k hk'
set_option maxRecDepth 100000 in
set_option maxHeartbeats 4000000 in
/-- foreseen: one step back -/
theorem ld_3 {d n k : Nat} {h0 : xh_H} {Q : Option Value → xh_H → Prop} (hn : 72 ≤ h0.1.length) (n7' : n ≤ 7) (hk1 : 1 ≤ k) (hkn : k < n) (K : ∀ h', hk ld_md h0 h' → (∀ k, k < n → (xg 0 h'.2.1 40 k).toInt ≤ 6) → xt_P d xi_X10_leads xmi_X10_leads 99 [(0, .ref 39), (3, .int (nI k + Int32.ofInt (-1)))] [] h' Q) : ∀ (m s : Nat) (h : xh_H), s + m = 7 → hk ld_md h0 h → (∀ k, k < n → (xg 0 h.2.1 40 k).toInt ≤ 6) → xt_P d xi_X10_leads xmi_X10_leads 106 [(0, .ref 39), (3, .int (nI k)), (4, .int (nI s))] [] h Q := by
  have ekc : (nI k).toNatClampNeg = k := nI_clamp (by omega)
  intro m
  induction m with
  | zero =>
    intro s h hs hk0 ho
    have e : s = 7 := by omega
    subst e
    refine xa_tn 99 [0, 3] [(0, .ref 39), (3, .int ((nI k) + Int32.ofInt (-1)))] [] h [true] 7 (hk_q hk0 hn) rfl ⟨by decide, trivial⟩ (fun _ => ?_)
    exact K h hk0 ho
  | succ m ih =>
    intro s h hs hk0 ho
    obtain ⟨t, et, t6⟩ := tp_o (k := k) hk0.1.1 (hk_n hk0 hn) hkn n7' ho
    have e1 : nI s + Int32.ofInt 1 = nI (s + 1) := nI_1 s
    have ea : ∀ u : Nat, (7 * nI k + 7) + nI u = nI (7 * k + 7 + u) := by
      intro u
      rw [show (7 : Int32) * nI k + 7 = nI (7 * k + 7) from n7 k 7, nI_add]
    have c1 := a_elx (c := 65) (k := 7 * k + 7 + t) (lo := 0) (hi := 6) hk0.1.1 (hk_n hk0 hn) rfl rfl (by omega)
    have c2 := a_elx (c := 65) (k := 7 * k + 7 + s) (lo := 0) (hi := 6) hk0.1.1 (hk_n hk0 hn) rfl rfl (by omega)
    obtain ⟨x, ex, x6, x31⟩ := a_nk (x := xg 0 h.2.1 65 (7 * k + 7 + t)) (m := 6) c1.1 c1.2
    obtain ⟨y, ey, y6, y31⟩ := a_nk (x := xg 0 h.2.1 65 (7 * k + 7 + s)) (m := 6) c2.1 c2.2
    refine xa_tn 151 [0, 3, 4, 5, 6] [(0, .ref 39), (3, .int (nI k)), (4, .int (nI s)), (5, .int (xg 0 h.2.1 65 (((7 * (nI k)) + 7) + (xg 0 h.2.1 40 (nI k).toNatClampNeg)).toNatClampNeg)), (6, .int (xg 0 h.2.1 65 (((7 * (nI k)) + 7) + (nI s)).toNatClampNeg))] [] h [false] 30 (hk_q hk0 hn) rfl ⟨nge_f (b := 7) (by omega) (by omega) (by omega), xin_n (by omega) (by omega), (show xe_in (((7 * (nI k)) + 7) + (xg 0 h.2.1 40 (nI k).toNatClampNeg)) 56 = true by rw [ekc, et, ea]; exact xin_n (by omega) (by omega)), (show xe_in (((7 * (nI k)) + 7) + (nI s)) 56 = true by rw [ea]; exact xin_n (by omega) (by omega)), trivial⟩ (fun _ => ?_)
    rw [ekc, et, ea, ea, nI_clamp (by omega), nI_clamp (by omega), ex, ey]
    have xi := nI_toInt (n := x) x31
    have yi := nI_toInt (n := y) y31
    have hin : xe_in ((7 * (nI k)) + (nI s)) 56 = true := by rw [n7]; exact xin_n (by omega) (by omega)
    have fin : ∀ z : Nat, z ≤ 6 → xt_P d xi_X10_leads xmi_X10_leads 106 [(0, .ref 39), (3, .int (nI k)), (4, .int (nI (s + 1)))] [] (xh_ui h 65 (7 * k + s) (nI z)) Q := by
      intro z z6
      have zi := nI_toInt (n := z) (by omega)
      refine ih (s + 1) _ (by omega) (hk_ui (s := (1, 56)) (lo := 0) (hi := 6) hk0 hn rfl rfl (by omega) (by omega) rfl rfl) (fun k hk' => ?_)
      rw [gx_o (by decide)]
      exact ho k hk'
    cases c3 : xe_c .eq (nI x) (nI y) with
    | true =>
      refine xa_tn 106 [0, 3, 4] [(0, .ref 39), (3, .int (nI k)), (4, .int ((nI s) + Int32.ofInt 1))] [] (xh_ui h 65 ((7 * (nI k)) + (nI s)).toNatClampNeg (nI y)) [true] 16 (hk_q hk0 hn) rfl ⟨c3, hin, trivial⟩ (fun _ => ?_)
      rw [n7, nI_clamp (by omega), e1]
      exact fin y y6
    | false =>
      have hin2 : xe_in ((7 * (nI x)) + (nI y)) 49 = true := by rw [n7]; exact xin_n (by omega) (by omega)
      cases c4 : xe_c .eq (xg 0 h.2.1 63 ((7 * (nI x)) + (nI y)).toNatClampNeg) 0 with
      | true =>
        refine xa_tn 106 [0, 3, 4] [(0, .ref 39), (3, .int (nI k)), (4, .int ((nI s) + Int32.ofInt 1))] [] (xh_ui h 65 ((7 * (nI k)) + (nI s)).toNatClampNeg (nI y)) [false, true] 25 (hk_q hk0 hn) rfl ⟨c3, hin2, c4, hin, trivial⟩ (fun _ => ?_)
        rw [n7 k s, nI_clamp (by omega), e1]
        exact fin y y6
      | false =>
        refine xa_tn 106 [0, 3, 4] [(0, .ref 39), (3, .int (nI k)), (4, .int ((nI s) + Int32.ofInt 1))] [] (xh_ui h 65 ((7 * (nI k)) + (nI s)).toNatClampNeg (nI x)) [false, false] 26 (hk_q hk0 hn) rfl ⟨c3, hin2, c4, hin, trivial⟩ (fun _ => ?_)
        rw [n7 k s, nI_clamp (by omega), e1]
        exact fin x x6
set_option maxRecDepth 100000 in
set_option maxHeartbeats 4000000 in
/-- foreseen: all steps back -/
theorem ld_2 {d n : Nat} {h0 : xh_H} (hn : 72 ≤ h0.1.length) (n1 : 1 ≤ n) (n7' : n ≤ 7) : ∀ (k : Nat) (h : xh_H), k < n → hk ld_md h0 h → (∀ k, k < n → (xg 0 h.2.1 40 k).toInt ≤ 6) → xt_P d xi_X10_leads xmi_X10_leads 99 [(0, .ref 39), (3, .int (nI k))] [] h (ld_Q ld_md h0) := by
  intro k
  induction k with
  | zero =>
    intro h hkn hk0 ho
    obtain ⟨t, et, t6⟩ := tp_o (k := 0) hk0.1.1 (hk_n hk0 hn) hkn n7' ho
    have e7 : (7 : Int32) + nI t = nI (7 + t) := nI_add 7 t
    have c1 := a_elx (c := 65) (k := 7 + t) (lo := 0) (hi := 6) hk0.1.1 (hk_n hk0 hn) rfl rfl (by omega)
    have et2 : xg 0 h.2.1 40 (Int32.ofInt 0).toNatClampNeg = nI t := et
    refine xa_tn 219 [] [] [.int (xg 0 h.2.1 65 (7 + (xg 0 h.2.1 40 (Int32.ofInt 0).toNatClampNeg)).toNatClampNeg)] h [true] 13 (hk_q hk0 hn) rfl ⟨by decide, by decide, (show xe_in (7 + (xg 0 h.2.1 40 (Int32.ofInt 0).toNatClampNeg)) 56 = true by rw [et2, e7]; exact xin_n (by omega) (by omega)), trivial⟩ (fun _ => ?_)
    rw [et2, e7, nI_clamp (by omega)]
    exact xp_ret rfl rfl rfl ⟨hk0, _, rfl, by omega, c1.2⟩
  | succ k ih =>
    intro h hkn hk0 ho
    have ki := nI_toInt (n := k + 1) (by omega)
    have z0 : (0 : Int32).toInt = 0 := rfl
    refine xa_tn 106 [0, 3, 4] [(0, .ref 39), (3, .int (nI (k + 1))), (4, .int (Int32.ofInt 0))] [] h [false] 6 (hk_q hk0 hn) rfl ⟨xle_f (by omega), trivial⟩ (fun _ => ?_)
    refine ld_3 hn n7' (by omega) hkn ?_ 7 0 h rfl hk0 ho
    intro h1 hk1 ho1
    rw [nI_dec2]
    exact ih h1 (by omega) hk1 ho1
set_option maxRecDepth 100000 in
set_option maxHeartbeats 4000000 in
/-- foreseen: the last row -/
theorem ld_0 {d n : Nat} {h0 : xh_H} (hn : 72 ≤ h0.1.length) (n1 : 1 ≤ n) (n7' : n ≤ 7) : ∀ (m i : Nat) (h : xh_H), i + m = 7 → hk ld_md h0 h → (∀ k, k < n → (xg 0 h.2.1 40 k).toInt ≤ 6) → xt_P d xi_X10_leads xmi_X10_leads 71 [(0, .ref 39), (2, .int (nI n)), (3, .int (nI i))] [] h (ld_Q ld_md h0) := by
  intro m
  induction m with
  | zero =>
    intro i h hi hk0 ho
    have e : i = 7 := by omega
    subst e
    refine xa_tn 99 [0, 3] [(0, .ref 39), (3, .int ((nI n) - (Int32.ofInt 1)))] [] h [true] 9 (hk_q hk0 hn) rfl ⟨by decide, trivial⟩ (fun _ => ?_)
    obtain ⟨j, rfl⟩ : ∃ j, n = j + 1 := ⟨n - 1, by omega⟩
    rw [nI_sub1]
    exact ld_2 hn n1 n7' j h (by omega) hk0 ho
  | succ m ih =>
    intro i h hi hk0 ho
    have e1 : nI i + Int32.ofInt 1 = nI (i + 1) := nI_1 i
    have ii := nI_toInt (n := i) (by omega)
    refine xa_tn 71 [0, 2, 3] [(0, .ref 39), (2, .int (nI n)), (3, .int ((nI i) + Int32.ofInt 1))] [] (xh_ui h 65 ((7 * (nI n)) + (nI i)).toNatClampNeg (nI i)) [false] 16 (hk_q hk0 hn) rfl ⟨nge_f (b := 7) (by omega) (by omega) (by omega), (show xe_in ((7 * (nI n)) + (nI i)) 56 = true by rw [n7]; exact xin_n (by omega) (by omega)), trivial⟩ (fun _ => ?_)
    rw [n7, nI_clamp (by omega), e1]
    refine ih (i + 1) _ (by omega) (hk_ui (s := (1, 56)) (lo := 0) (hi := 6) hk0 hn rfl rfl (by omega) (by omega) rfl rfl) (fun k hk' => ?_)
    rw [gx_o (by decide)]
    exact ho k hk'
/-- X10.leads -/
def aC_r_X10_leads : aC := (xi_X10_leads, 3, [(2, 39, 0, none, [], []), (0, 0, 1, none, [], [])], [(some (0, -1, 6, none, [], []), [])], ld_md, [])
set_option maxRecDepth 100000 in
set_option maxHeartbeats 4000000 in
theorem as_r_X10_leads : a_spec a_tb aC_r_X10_leads := by
  refine sp_of (mi := xmi_X10_leads) rfl ?_
  intro d vs h σ hd hi hn ha _
  match vs, ha with
  | [v0, v1], ha =>
    obtain ⟨⟨q, rfl, hq⟩, ⟨f, rfl, -⟩, -⟩ := ha
    have eq : q = 39 := a_r_ob (t := 39) (by decide) hq
    subst eq
    have hd : 3 ≤ d := hd
    obtain ⟨d, rfl⟩ : ∃ d', d = d' + 3 := ⟨d - 3, by omega⟩
    have main : xt_P (d + 3) xi_X10_leads xmi_X10_leads 0 [(0, .ref 39), (1, .int f)] [] h (ld_Q ld_md h) := by
      refine xa_tn 6 [0, 1] [(0, .ref 39), (1, .int f)] [.ref 39] (xh_ui h 39 0 (Int32.ofInt 0)) [] 6 (a_rq_of hi.1 hn) rfl trivial (fun q1 => ?_)
      have hk1 : hk ld_md h (xh_ui h 39 0 (Int32.ofInt 0)) := hk_ui (s := (0, 10)) (lo := 0) (hi := 1) (hk_0 hi) hn rfl rfl (by decide) (by decide) rfl rfl
      generalize xh_ui h 39 0 (Int32.ofInt 0) = h1 at hk1 q1 ⊢
      refine xp_int (C := aC_m_X10_take) (lo := 0) (hi := 640) (σ := fun _ => 0) as_m_X10_take q1 hk1.1 rfl rfl rfl (Nat.zero_le _) ⟨a_av (by decide) q1.1, trivial⟩ a_fp0 rfl (fun t h2 t1 t2 i2 l2 f2 q2 => ?_)
      have hk2 : hk ld_md h h2 := hk_c hk1 i2 l2 f2 (by decide)
      refine xa_tn 14 [0, 1, 2] [(0, .ref 39), (1, .int f), (2, .int t)] [.int 7, .int (Int32.ofInt 1), .int t] h2 [] 6 q2 rfl trivial (fun _ => ?_)
      refine xp_intf (C := aC_m_X10_isIn_1_1_7_7) (lo := 0) (hi := 1) (σ := fun _ => 0) as_m_X10_isIn_1_1_7_7 q2 hk2.1 rfl rfl rfl (Nat.zero_le _) ⟨a_ai t1 t2, a_ai (by decide) (by decide), a_ai (by decide) (by decide), trivial⟩ a_fp0 rfl (fun x h3 x1 x2 xf _ i3 l3 f3 q3 => ?_)
      have hk3 : hk ld_md h h3 := hk_c hk2 i3 l3 f3 (fun _ z => nomatch z)
      cases c1 : xe_c .eq x 0 with
      | true =>
        refine xa_tn 29 [] [] [.int (Int32.ofInt (-1))] h3 [true] 4 q3 rfl ⟨c1, trivial⟩ (fun _ => ?_)
        exact xp_ret rfl rfl rfl ⟨hk3, _, rfl, by decide, by decide⟩
      | false =>
        have tf : 1 ≤ t.toInt ∧ t.toInt ≤ 7 := xf (of_decide_eq_false c1) _ (List.mem_singleton.mpr rfl)
        obtain ⟨n, rfl, n7', n31⟩ := a_nk (x := t) (m := 7) (by omega) tf.2
        rw [nI_toInt n31] at tf
        have n1 : 1 ≤ n := by omega
        refine xa_tn 22 [0, 1, 2] [(0, .ref 39), (1, .int f), (2, .int (nI n))] [.int (nI n), .ref 39] h3 [false] 5 q3 rfl ⟨c1, trivial⟩ (fun _ => ?_)
        refine xp_run q3 rfl rfl (ao_run (d := d + 2) (n := n) i3.1 q3.1 n7') ?_
        rintro v h4 ⟨rfl, p, rfl, hp⟩
        cases p with
        | false =>
          refine xa_tn 29 [] [] [.int (Int32.ofInt (-1))] h3 [false] 4 q3 rfl ⟨rfl, trivial⟩ (fun _ => ?_)
          exact xp_ret rfl rfl rfl ⟨hk3, _, rfl, by decide, by decide⟩
        | true =>
          refine xa_tn 31 [0, 1, 2] [(0, .ref 39), (1, .int f), (2, .int (nI n))] [.ref 39] h3 [true] 4 q3 rfl ⟨rfl, trivial⟩ (fun _ => ?_)
          refine xp_void (C := aC_m_X10_layOptions) (σ := fun _ => 0) (P := [((39, 35), 2, 4096)]) as_m_X10_layOptions q3 hk3.1 rfl rfl rfl (by show 2 ≤ d + 2; omega) ⟨a_av (by decide) q3.1, trivial⟩ a_fp0 rfl (fun h5 _ i5 l5 f5 q5 => ?_)
          have hk5 : hk ld_md h h5 := hk_c hk3 i5 l5 f5 (by decide)
          have ho : ∀ k, k < n → (xg 0 h5.2.1 40 k).toInt ≤ 6 := fun k hk' => by
            rw [fr_g f5 rfl rfl]
            exact hp rfl k hk'
          cases c2 : xe_c .ne f 0 with
          | false =>
            refine xa_tn 40 [0, 2, 3] [(0, .ref 39), (2, .int (nI n)), (3, .int (Int32.ofInt 0))] [] h5 [false] 6 q5 rfl ⟨c2, trivial⟩ (fun _ => ?_)
            exact ld_1 hn n1 n7' n 0 h5 (by omega) hk5 ho
          | true =>
            refine xa_tn 71 [0, 2, 3] [(0, .ref 39), (2, .int (nI n)), (3, .int (Int32.ofInt 0))] [] h5 [true] 6 q5 rfl ⟨c2, trivial⟩ (fun _ => ?_)
            exact ld_0 hn n1 n7' 7 0 h5 rfl hk5 ho
    exact xp_mono main (fun v h' g => by
      obtain ⟨g1, x, rfl, x1, x2⟩ := g
      exact ⟨g1, rok_i x1 x2⟩)
end XLD
end
section
section XL9
variable {tb : aT} {mid d : Nat} {mi : xm_M} {pc : Nat} {lv : List (Nat × Value)} {st : List Value} {h : xh_H} {Q : Option Value → xh_H → Prop}
/-- a call that answers a reference, by its contract -/
theorem xp_ref {C : aC} {r : xr_R} {mj : xm_M} {As q : List Value} {σ : aN → Int} {t : Int} (hC : a_spec tb C) (hq : a_rq tb h) (hi0 : a_inv tb h) (hr : xC mid pc = some r) (hid : C.1 = r.2.2.1) (he : xa_c r st = some (mj, As, q)) (hd : C.2.1 ≤ d) (ha : a_st σ h.1.length C.2.2.1 As) (hp : a_fp C.2.2.2.2.2 h) (hret : C.2.2.2.1 = [(some (2, t, 0, none, [], []), [])])
    (k : ∀ (x : Nat) (h' : xh_H), a_r h.1.length t.toNat x → a_inv tb h' → h'.1 = h.1 → a_fr C.2.2.2.2.1 h h' → a_rq tb h' → xt_P (d + 1) mid mi (pc + 3) lv (.ref x :: q) h' Q) : xt_P (d + 1) mid mi pc lv st h Q := by
  refine xp_by hC hq hi0 hr hid he hd ha hp (fun v h' p hq' => ?_)
  obtain ⟨p1, p2, ⟨t, ht, p3⟩, p4⟩ := p
  rw [hret] at ht
  cases List.mem_singleton.mp ht
  obtain ⟨⟨w, rfl, x, rfl, g⟩, -⟩ := p3
  exact k x h' g p1 p2 p4 hq'
/-- the byte at a place of the class's tape, as it is read -/
def tb_o (h : xh_H) (k : Nat) : Prop := ∃ t : Nat, xg 0 h.2.1 2 k &&& 255 = nI t ∧ t ≤ 6
set_option maxRecDepth 100000 in
theorem at_run {d i : Nat} {h : xh_H} (hrq : a_rq a_tb h) (hi : (i : Int) < (xg 0 h.2.1 1 1).toInt) (h640 : (xg 0 h.2.1 1 1).toInt ≤ 640) : xt_P d xi_X8_at xmi_X8_at 0 [(0, .ref 1), (1, .int (nI i))] [] h (fun v h' => h = h' ∧ v = some (.int (xg 0 h.2.1 2 i &&& 255))) := by
  have ii := nI_toInt (n := i) (by omega)
  have z0 : (0 : Int32).toInt = 0 := rfl
  refine xa_tn 26 [] [] [.int ((xg 0 h.2.1 2 (nI i).toNatClampNeg) &&& 255)] h [false, false] 15 hrq rfl ⟨xlt_f (by omega), xge_f (show (nI i).toInt < (xg 0 h.2.1 1 1).toInt by omega), xin_n (by omega) (by omega), trivial⟩ (fun _ => ?_)
  rw [nI_clamp (by omega)]
  exact xp_ret rfl rfl rfl ⟨rfl, rfl⟩
set_option maxRecDepth 100000 in
theorem op_run {d : Nat} {x : Int32} {h : xh_H} (hrq : a_rq a_tb h) : xt_P d xi_X0_isOption xmi_X0_isOption 0 [(0, .int x)] [] h (fun v h' => h = h' ∧ ∃ p : Bool, v = some (.int (cond p 1 0)) ∧ (p = true ↔ 0 ≤ x.toInt ∧ x.toInt ≤ 6)) := by
  have z0 : (0 : Int32).toInt = 0 := rfl
  have z7 : (7 : Int32).toInt = 7 := rfl
  cases c1 : xe_c .lt x 0 with
  | true =>
    have b1 : x.toInt < (0 : Int32).toInt := a_ce c1
    refine xa_tn 15 [] [] [.int (Int32.ofInt 0)] h [true] 10 hrq rfl ⟨c1, trivial⟩ (fun _ => ?_)
    exact xp_ret rfl rfl rfl ⟨rfl, false, rfl, Iff.intro (fun z => Bool.noConfusion z) (fun z => by omega)⟩
  | false =>
    have b1 : (0 : Int32).toInt ≤ x.toInt := a_ce (a_neg_ok c1)
    cases c2 : xe_c .ge x 7 with
    | true =>
      have b2 : (7 : Int32).toInt ≤ x.toInt := a_ce c2
      refine xa_tn 15 [] [] [.int (Int32.ofInt 0)] h [false, true] 10 hrq rfl ⟨c1, c2, trivial⟩ (fun _ => ?_)
      exact xp_ret rfl rfl rfl ⟨rfl, false, rfl, Iff.intro (fun z => Bool.noConfusion z) (fun z => by omega)⟩
    | false =>
      have b2 : x.toInt < (7 : Int32).toInt := a_ce (a_neg_ok c2)
      refine xa_tn 15 [] [] [.int (Int32.ofInt 1)] h [false, false] 10 hrq rfl ⟨c1, c2, trivial⟩ (fun _ => ?_)
      exact xp_ret rfl rfl rfl ⟨rfl, true, rfl, Iff.intro (fun _ => by omega) (fun _ => rfl)⟩
/-- the class's tape is a row of options -/
def rw_o (h : xh_H) : Prop := ∃ n : Nat, xg 0 h.2.1 1 1 = nI n ∧ 1 ≤ n ∧ n ≤ 7 ∧ ∀ k, k < n → tb_o h k
set_option maxRecDepth 100000 in
set_option maxHeartbeats 4000000 in
theorem ir_loop {d n : Nat} {h : xh_H} (hi : a_inw a_tb h) (hn : 72 ≤ h.1.length) (n1 : 1 ≤ n) (n7' : n ≤ 7) (hl : xg 0 h.2.1 1 1 = nI n) : ∀ (m i : Nat) (w : Int32), i + m = n → (∀ k, k < i → tb_o h k) → xt_P (d + 1) xi_X0_isRow xmi_X0_isRow 23 [(1, .ref 1), (2, .int w), (3, .int (nI i))] [] h (fun v h' => h = h' ∧ ∃ p : Bool, v = some (.int (cond p 1 0)) ∧ (p = true → rw_o h)) := by
  have hq := a_rq_of hi hn
  have ni := nI_toInt (n := n) (by omega)
  intro m
  induction m with
  | zero =>
    intro i w hm hs
    have e : i = n := by omega
    subst e
    refine xa_tn 71 [] [] [.int (Int32.ofInt 1)] h [true] 7 hq rfl ⟨(show xe_c .ge (nI i) (xg 0 h.2.1 1 1) = true by rw [hl]; exact nge_t (by omega) (by omega) (Nat.le_refl _)), trivial⟩ (fun _ => ?_)
    exact xp_ret rfl rfl rfl ⟨rfl, true, rfl, fun _ => ⟨i, hl, n1, n7', hs⟩⟩
  | succ m ih =>
    intro i w hm hs
    have e1 : nI i + Int32.ofInt 1 = nI (i + 1) := nI_1 i
    refine xa_tn 33 [1, 2, 3] [(1, .ref 1), (2, .int w), (3, .int (nI i))] [.int (nI i), .ref 1] h [false] 8 hq rfl ⟨(show xe_c .ge (nI i) (xg 0 h.2.1 1 1) = false by rw [hl]; exact nge_f (by omega) (by omega) (by omega)), trivial⟩ (fun _ => ?_)
    refine xp_run hq rfl rfl (at_run (d := d) (i := i) hq (by rw [hl, ni]; omega) (by rw [hl, ni]; omega)) ?_
    rintro v h1 ⟨rfl, rfl⟩
    generalize hx : xg 0 h.2.1 2 i &&& 255 = x
    refine xa_tn 40 [1, 2, 3, 4] [(1, .ref 1), (2, .int w), (3, .int (nI i)), (4, .int x)] [.int x] h [] 4 hq rfl trivial (fun _ => ?_)
    refine xp_run hq rfl rfl (op_run (d := d) (x := x) hq) ?_
    rintro v h1 ⟨rfl, p, rfl, hp⟩
    cases p with
    | false =>
      refine xa_tn 56 [] [] [.int (Int32.ofInt 0)] h [true] 4 hq rfl ⟨rfl, trivial⟩ (fun _ => ?_)
      exact xp_ret rfl rfl rfl ⟨rfl, false, rfl, fun z => Bool.noConfusion z⟩
    | true =>
      cases c1 : xe_c .eq ((w >>> (x &&& 31)) &&& (Int32.ofInt 1)) 0 with
      | false =>
        refine xa_tn 56 [] [] [.int (Int32.ofInt 0)] h [false, false] 10 hq rfl ⟨rfl, c1, trivial⟩ (fun _ => ?_)
        exact xp_ret rfl rfl rfl ⟨rfl, false, rfl, fun z => Bool.noConfusion z⟩
      | true =>
        refine xa_tn 23 [1, 2, 3] [(1, .ref 1), (2, .int (w ||| ((Int32.ofInt 1) <<< (x &&& 31)))), (3, .int ((nI i) + Int32.ofInt 1))] [] h [false, true] 17 hq rfl ⟨rfl, c1, trivial⟩ (fun _ => ?_)
        rw [e1]
        refine ih (i + 1) _ (by omega) (fun k hk' => ?_)
        by_cases e : k = i
        · subst e
          obtain ⟨b1, b2⟩ := hp.mp rfl
          obtain ⟨t, et, t6, -⟩ := a_nk (x := x) (m := 6) b1 b2
          exact ⟨t, hx.trans et, t6⟩
        · exact hs k (by omega)
set_option maxRecDepth 100000 in
set_option maxHeartbeats 4000000 in
theorem ir_run {d : Nat} {h : xh_H} (hi : a_inw a_tb h) (hn : 72 ≤ h.1.length) : xt_P (d + 1) xi_X0_isRow xmi_X0_isRow 0 [(0, .ref 28), (1, .ref 1)] [] h (fun v h' => h = h' ∧ ∃ p : Bool, v = some (.int (cond p 1 0)) ∧ (p = true → rw_o h)) := by
  have hq := a_rq_of hi hn
  have lb := a_flx (c := 1) (k := 1) (lo := 0) (hi := 640) hi hn rfl rfl (by decide)
  obtain ⟨n, en, n640, n31⟩ := a_nk (x := xg 0 h.2.1 1 1) (m := 640) lb.1 lb.2
  have ni := nI_toInt (n := n) n31
  cases c1 : xe_c .lt (xg 0 h.2.1 1 1) (Int32.ofInt 1) with
  | true =>
    refine xa_tn 18 [] [] [.int (Int32.ofInt 0)] h [true] 7 hq rfl ⟨c1, trivial⟩ (fun _ => ?_)
    exact xp_ret rfl rfl rfl ⟨rfl, false, rfl, fun z => Bool.noConfusion z⟩
  | false =>
    have b1 : (Int32.ofInt 1).toInt ≤ (xg 0 h.2.1 1 1).toInt := a_ce (a_neg_ok c1)
    have b1 : (1 : Int) ≤ (xg 0 h.2.1 1 1).toInt := b1
    rw [en, ni] at b1
    cases c2 : xe_c .le (xg 0 h.2.1 1 1) 7 with
    | false =>
      refine xa_tn 18 [] [] [.int (Int32.ofInt 0)] h [false, false] 11 hq rfl ⟨c1, c2, trivial⟩ (fun _ => ?_)
      exact xp_ret rfl rfl rfl ⟨rfl, false, rfl, fun z => Bool.noConfusion z⟩
    | true =>
      have b2 : (xg 0 h.2.1 1 1).toInt ≤ (7 : Int32).toInt := a_ce c2
      have b2 : (xg 0 h.2.1 1 1).toInt ≤ (7 : Int) := b2
      rw [en, ni] at b2
      refine xa_tn 23 [1, 2, 3] [(1, .ref 1), (2, .int (Int32.ofInt 0)), (3, .int (Int32.ofInt 0))] [] h [false, true] 14 hq rfl ⟨c1, c2, trivial⟩ (fun _ => ?_)
      exact ir_loop hi hn (by omega) (by omega) en n 0 _ (by omega) (fun k hk' => absurd hk' (Nat.not_lt_zero k))
abbrev l9_md : List (Nat × Nat) := [(1, 1), (31, 0), (33, 0)]
/-- the tape as it was: options -/
def l9_o (h : xh_H) (n : Nat) : Prop := xg 0 h.2.1 1 1 = nI n ∧ 1 ≤ n ∧ n ≤ 7 ∧ ∀ k, k < n → tb_o h k
theorem l9_fr {md : List (Nat × Nat)} {h h' : xh_H} {n : Nat} (g : l9_o h n) (hf : a_fr md h h') (h1 : a_mb md 1 1 = false) (h2 : ∀ k, a_mb md 2 k = false) : l9_o h' n := by
  obtain ⟨g1, g2, g3, g4⟩ := g
  refine ⟨by rw [fr_g hf rfl h1]; exact g1, g2, g3, fun k hk' => ?_⟩
  obtain ⟨t, et, t6⟩ := g4 k hk'
  exact ⟨t, by rw [fr_g hf rfl (h2 k)]; exact et, t6⟩
theorem l9_ui {h : xh_H} {n k : Nat} {x : Int32} (g : l9_o h n) : l9_o (xh_ui h 33 k x) n := by
  obtain ⟨g1, g2, g3, g4⟩ := g
  refine ⟨by rw [gx_o (by decide)]; exact g1, g2, g3, fun k hk' => ?_⟩
  obtain ⟨t, et, t6⟩ := g4 k hk'
  exact ⟨t, by rw [gx_o (by decide)]; exact et, t6⟩
set_option maxRecDepth 100000 in
set_option maxHeartbeats 4000000 in
theorem fo_loop {d n : Nat} {h0 : xh_H} (hn : 72 ≤ h0.1.length) : ∀ (m i : Nat) (x : Int32) (h : xh_H), i + m = n → hk [] h0 h → l9_o h n → 0 ≤ x.toInt → x.toInt ≤ 6 → xt_P (d + 2) xi_X0_follow xmi_X0_follow 8 [(0, .ref 28), (1, .ref 1), (2, .int x), (3, .int (nI i))] [] h (fun v h' => hk [] h0 h' ∧ ∃ x : Int32, v = some (.int x) ∧ 0 ≤ x.toInt ∧ x.toInt ≤ 6) := by
  intro m
  induction m with
  | zero =>
    intro i x h hm hk0 ho x1 x2
    have e : i = n := by omega
    subst e
    have n7' := ho.2.2.1
    refine xa_tn 34 [] [] [.int x] h [true] 7 (hk_q hk0 hn) rfl ⟨(show xe_c .ge (nI i) (xg 0 h.2.1 1 1) = true by rw [ho.1]; exact nge_t (by omega) (by omega) (Nat.le_refl _)), trivial⟩ (fun _ => ?_)
    exact xp_ret rfl rfl rfl ⟨hk0, x, rfl, x1, x2⟩
  | succ m ih =>
    intro i x h hm hk0 ho x1 x2
    have n7' := ho.2.2.1
    have ni := nI_toInt (n := n) (by omega)
    have e1 : nI i + Int32.ofInt 1 = nI (i + 1) := nI_1 i
    obtain ⟨t, et, t6⟩ := ho.2.2.2 i (by omega)
    have ti := nI_toInt (n := t) (by omega)
    refine xa_tn 20 [0, 1, 2, 3] [(0, .ref 28), (1, .ref 1), (2, .int x), (3, .int (nI i))] [.int (nI i), .ref 1, .int x, .ref 28] h [false] 10 (hk_q hk0 hn) rfl ⟨(show xe_c .ge (nI i) (xg 0 h.2.1 1 1) = false by rw [ho.1]; exact nge_f (by omega) (by omega) (by omega)), trivial⟩ (fun hq => ?_)
    refine xp_run hq rfl rfl (at_run (d := d + 1) (i := i) hq (by rw [ho.1, ni]; omega) (by rw [ho.1, ni]; omega)) ?_
    rintro v h1 ⟨rfl, rfl⟩
    rw [et]
    refine xp_int (C := aC_m_X0_stands_ok) (lo := 0) (hi := 6) (σ := fun _ => 0) as_m_X0_stands_ok hq hk0.1 rfl rfl rfl (by show 1 ≤ d + 1; omega) ⟨a_av (by decide) hq.1, a_ai x1 x2, a_ai (by omega) (by omega), trivial⟩ a_fp0 rfl (fun y h1 y1 y2 i1 l1 f1 q1 => ?_)
    refine xa_tn 8 [0, 1, 2, 3] [(0, .ref 28), (1, .ref 1), (2, .int y), (3, .int ((nI i) + Int32.ofInt 1))] [] h1 [] 5 q1 rfl trivial (fun _ => ?_)
    rw [e1]
    exact ih (i + 1) y h1 (by omega) (hk_c hk0 i1 l1 f1 (fun _ z => z)) (l9_fr ho f1 rfl (fun _ => rfl)) y1 y2
set_option maxRecDepth 100000 in
set_option maxHeartbeats 4000000 in
theorem fo_run {d n : Nat} {h : xh_H} (hi : a_inv a_tb h) (hn : 72 ≤ h.1.length) (ho : l9_o h n) : xt_P (d + 2) xi_X0_follow xmi_X0_follow 0 [(0, .ref 28), (1, .ref 1)] [] h (fun v h' => hk [] h h' ∧ ∃ x : Int32, v = some (.int x) ∧ 0 ≤ x.toInt ∧ x.toInt ≤ 6) := by
  have hq := a_rq_of hi.1 hn
  have n7' := ho.2.2.1
  have n1 := ho.2.1
  have ni := nI_toInt (n := n) (by omega)
  obtain ⟨t, et, t6⟩ := ho.2.2.2 0 (by omega)
  have ti := nI_toInt (n := t) (by omega)
  refine xa_tn 2 [0, 1] [(0, .ref 28), (1, .ref 1)] [.int (Int32.ofInt 0), .ref 1] h [] 4 hq rfl trivial (fun _ => ?_)
  refine xp_run hq rfl rfl (at_run (d := d + 1) (i := 0) hq (by rw [ho.1, ni]; omega) (by rw [ho.1, ni]; omega)) ?_
  rintro v h1 ⟨rfl, rfl⟩
  rw [et]
  refine xa_tn 8 [0, 1, 2, 3] [(0, .ref 28), (1, .ref 1), (2, .int (nI t)), (3, .int (Int32.ofInt 1))] [] h [] 5 hq rfl trivial (fun _ => ?_)
  exact fo_loop hn (n - 1) 1 (nI t) h (by omega) (hk_0 hi) ho (by omega) (by omega)
abbrev fs3_md : List (Nat × Nat) := [(33, 0)]
/-- what foresee leaves -/
def fe_Q (h0 : xh_H) (v : Option Value) (h' : xh_H) : Prop := hk fs3_md h0 h' ∧ ∃ x : Int32, v = some (.int x) ∧ 0 ≤ x.toInt ∧ x.toInt ≤ 6
set_option maxRecDepth 100000 in
set_option maxHeartbeats 4000000 in
theorem fe_in {d n i : Nat} {y : Int32} {h0 : xh_H} {Q : Option Value → xh_H → Prop} (hn : 72 ≤ h0.1.length) (hin : i < n) (y1 : 0 ≤ y.toInt) (y2 : y.toInt ≤ 6) (K : ∀ h', hk fs3_md h0 h' → l9_o h' n → xt_P (d + 2) xi_X0_foresee xmi_X0_foresee 28 [(0, .ref 28), (1, .ref 1), (2, .int ((nI i) + Int32.ofInt (-1)))] [] h' Q) : ∀ (m a : Nat) (h : xh_H), a + m = i → hk fs3_md h0 h → l9_o h n → xt_P (d + 2) xi_X0_foresee xmi_X0_foresee 46 [(0, .ref 28), (1, .ref 1), (2, .int (nI i)), (3, .int y), (4, .int (nI a))] [] h Q := by
  intro m
  induction m with
  | zero =>
    intro a h hm hk0 ho
    have e : a = i := by omega
    subst e
    have n7' := ho.2.2.1
    refine xa_tn 28 [0, 1, 2] [(0, .ref 28), (1, .ref 1), (2, .int ((nI a) + Int32.ofInt (-1)))] [] h [true] 7 (hk_q hk0 hn) rfl ⟨nge_t (by omega) (by omega) (Nat.le_refl _), trivial⟩ (fun _ => ?_)
    exact K h hk0 ho
  | succ m ih =>
    intro a h hm hk0 ho
    have n7' := ho.2.2.1
    have ni := nI_toInt (n := n) (by omega)
    have e1 : nI a + Int32.ofInt 1 = nI (a + 1) := nI_1 a
    obtain ⟨t, et, t6⟩ := ho.2.2.2 a (by omega)
    have hint := xin_n (k := t) (n := 7) (by omega) (by omega)
    have etc : (nI t).toNatClampNeg = t := nI_clamp (by omega)
    have c1 := a_elx (c := 33) (k := t) (lo := 0) (hi := 6) hk0.1.1 (hk_n hk0 hn) rfl rfl (by omega)
    refine xa_tn 55 [0, 1, 2, 3, 4] [(0, .ref 28), (1, .ref 1), (2, .int (nI i)), (3, .int y), (4, .int (nI a))] [.int (nI a), .ref 1] h [false] 7 (hk_q hk0 hn) rfl ⟨nge_f (by omega) (by omega) (by omega), trivial⟩ (fun hq => ?_)
    refine xp_run hq rfl rfl (at_run (d := d + 1) (i := a) hq (by rw [ho.1, ni]; omega) (by rw [ho.1, ni]; omega)) ?_
    rintro v h1 ⟨rfl, rfl⟩
    rw [et]
    refine xa_tn 75 [0, 1, 2, 3, 4] [(0, .ref 28), (1, .ref 1), (2, .int (nI i)), (3, .int y), (4, .int (nI a))] [.int y, .int (xg 0 h.2.1 33 (nI t).toNatClampNeg), .ref 28, .int (nI t), .ref 33] h [] 12 hq rfl ⟨hint, trivial⟩ (fun _ => ?_)
    rw [etc]
    refine xp_int (C := aC_m_X0_stands_ok) (lo := 0) (hi := 6) (σ := fun _ => 0) as_m_X0_stands_ok hq hk0.1 rfl rfl rfl (by show 1 ≤ d + 1; omega) ⟨a_av (by decide) hq.1, a_ai c1.1 c1.2, a_ai y1 y2, trivial⟩ a_fp0 rfl (fun z h1 z1 z2 i1 l1 f1 q1 => ?_)
    refine xa_tn 46 [0, 1, 2, 3, 4] [(0, .ref 28), (1, .ref 1), (2, .int (nI i)), (3, .int y), (4, .int ((nI a) + Int32.ofInt 1))] [] (xh_ui h1 33 (nI t).toNatClampNeg z) [] 5 q1 rfl ⟨hint, trivial⟩ (fun _ => ?_)
    rw [e1, etc]
    exact ih (a + 1) _ (by omega) (hk_ui (s := (1, 7)) (lo := 0) (hi := 6) (hk_c hk0 i1 l1 f1 (fun _ z => nomatch z)) hn rfl rfl z1 z2 rfl rfl) (l9_ui (l9_fr ho f1 rfl (fun _ => rfl)))
set_option maxRecDepth 100000 in
set_option maxHeartbeats 4000000 in
theorem fe_out {d n : Nat} {h0 : xh_H} (hn : 72 ≤ h0.1.length) : ∀ (i : Nat) (h : xh_H), i < n → hk fs3_md h0 h → l9_o h n → xt_P (d + 2) xi_X0_foresee xmi_X0_foresee 28 [(0, .ref 28), (1, .ref 1), (2, .int (nI i))] [] h (fe_Q h0) := by
  intro i
  induction i with
  | zero =>
    intro h hin hk0 ho
    have n7' := ho.2.2.1
    have ni := nI_toInt (n := n) (by omega)
    obtain ⟨t, et, t6⟩ := ho.2.2.2 0 (by omega)
    have hint := xin_n (k := t) (n := 7) (by omega) (by omega)
    have etc : (nI t).toNatClampNeg = t := nI_clamp (by omega)
    have c1 := a_elx (c := 33) (k := t) (lo := 0) (hi := 6) hk0.1.1 (hk_n hk0 hn) rfl rfl (by omega)
    refine xa_tn 97 [] [] [.int (Int32.ofInt 0), .ref 1, .ref 33] h [true] 8 (hk_q hk0 hn) rfl ⟨by decide, trivial⟩ (fun hq => ?_)
    refine xp_run hq rfl rfl (at_run (d := d + 1) (i := 0) hq (by rw [ho.1, ni]; omega) (by rw [ho.1, ni]; omega)) ?_
    rintro v h1 ⟨rfl, rfl⟩
    rw [et]
    refine xa_tn 101 [] [] [.int (xg 0 h.2.1 33 (nI t).toNatClampNeg)] h [] 3 hq rfl ⟨hint, trivial⟩ (fun _ => ?_)
    rw [etc]
    exact xp_ret rfl rfl rfl ⟨hk0, _, rfl, c1.1, c1.2⟩
  | succ i ih =>
    intro h hin hk0 ho
    have n7' := ho.2.2.1
    have ni := nI_toInt (n := n) (by omega)
    have ii := nI_toInt (n := i + 1) (by omega)
    have z0 : (0 : Int32).toInt = 0 := rfl
    obtain ⟨t, et, t6⟩ := ho.2.2.2 (i + 1) (by omega)
    have hint := xin_n (k := t) (n := 7) (by omega) (by omega)
    have etc : (nI t).toNatClampNeg = t := nI_clamp (by omega)
    have c1 := a_elx (c := 33) (k := t) (lo := 0) (hi := 6) hk0.1.1 (hk_n hk0 hn) rfl rfl (by omega)
    refine xa_tn 38 [0, 1, 2] [(0, .ref 28), (1, .ref 1), (2, .int (nI (i + 1)))] [.int (nI (i + 1)), .ref 1, .ref 33] h [false] 8 (hk_q hk0 hn) rfl ⟨xle_f (by omega), trivial⟩ (fun hq => ?_)
    refine xp_run hq rfl rfl (at_run (d := d + 1) (i := i + 1) hq (by rw [ho.1, ni]; omega) (by rw [ho.1, ni]; omega)) ?_
    rintro v h1 ⟨rfl, rfl⟩
    rw [et]
    refine xa_tn 46 [0, 1, 2, 3, 4] [(0, .ref 28), (1, .ref 1), (2, .int (nI (i + 1))), (3, .int (xg 0 h.2.1 33 (nI t).toNatClampNeg)), (4, .int (Int32.ofInt 0))] [] h [] 6 hq rfl ⟨hint, trivial⟩ (fun _ => ?_)
    rw [etc]
    refine fe_in hn hin c1.1 c1.2 ?_ (i + 1) 0 h (by omega) hk0 ho
    intro h1 hk1 ho1
    rw [nI_dec2]
    exact ih h1 (by omega) hk1 ho1
set_option maxRecDepth 100000 in
set_option maxHeartbeats 4000000 in
theorem fe_0 {d n : Nat} {h0 : xh_H} (hn : 72 ≤ h0.1.length) : ∀ (m i : Nat) (h : xh_H), i + m = 7 → hk fs3_md h0 h → l9_o h n → xt_P (d + 2) xi_X0_foresee xmi_X0_foresee 2 [(0, .ref 28), (1, .ref 1), (2, .int (nI i))] [] h (fe_Q h0) := by
  intro m
  induction m with
  | zero =>
    intro i h hm hk0 ho
    have e : i = 7 := by omega
    subst e
    have n7' := ho.2.2.1
    refine xa_tn 28 [0, 1, 2] [(0, .ref 28), (1, .ref 1), (2, .int ((xg 0 h.2.1 1 1) - (Int32.ofInt 1)))] [] h [true] 10 (hk_q hk0 hn) rfl ⟨by decide, trivial⟩ (fun _ => ?_)
    have n1 := ho.2.1
    obtain ⟨j, rfl⟩ : ∃ j, n = j + 1 := ⟨n - 1, by omega⟩
    rw [ho.1, nI_sub1]
    exact fe_out hn j h (by omega) hk0 ho
  | succ m ih =>
    intro i h hm hk0 ho
    have e1 : nI i + Int32.ofInt 1 = nI (i + 1) := nI_1 i
    have ii := nI_toInt (n := i) (by omega)
    refine xa_tn 2 [0, 1, 2] [(0, .ref 28), (1, .ref 1), (2, .int ((nI i) + Int32.ofInt 1))] [] (xh_ui h 33 (nI i).toNatClampNeg (nI i)) [false] 12 (hk_q hk0 hn) rfl ⟨nge_f (b := 7) (by omega) (by omega) (by omega), xin_n (by omega) (by omega), trivial⟩ (fun _ => ?_)
    rw [e1, nI_clamp (by omega)]
    exact ih (i + 1) _ (by omega) (hk_ui (s := (1, 7)) (lo := 0) (hi := 6) hk0 hn rfl rfl (by omega) (by omega) rfl rfl) (l9_ui ho)
/-- X9.leads -/
def aC_r_X9_leads : aC := (xi_X9_leads, 3, [(2, 0, 0, none, [], []), (0, 0, 1, none, [], [])], [(some (0, -1, 6, none, [], []), [])], l9_md, [])
set_option maxRecDepth 100000 in
set_option maxHeartbeats 4000000 in
theorem as_r_X9_leads : a_spec a_tb aC_r_X9_leads := by
  refine sp_of (mi := xmi_X9_leads) rfl ?_
  intro d vs h σ hd hi hn ha _
  match vs, ha with
  | [v0, v1], ha =>
    obtain ⟨⟨q, rfl, hq⟩, ⟨f, rfl, -⟩, -⟩ := ha
    have eq : q = 0 := a_r_ob (t := 0) (by decide) hq
    subst eq
    have hd : 3 ≤ d := hd
    obtain ⟨d, rfl⟩ : ∃ d', d = d' + 3 := ⟨d - 3, by omega⟩
    have main : xt_P (d + 3) xi_X9_leads xmi_X9_leads 0 [(0, .ref 0), (1, .int f)] [] h (ld_Q l9_md h) := by
      have hq := a_rq_of hi.1 hn
      refine xa_tn 10 [0, 1, 2] [(0, .ref 0), (1, .int f), (2, .int (Int32.ofInt (-1)))] [.ref 1, .ref 28] h [] 8 hq rfl trivial (fun _ => ?_)
      refine xp_run hq rfl rfl (ir_run (d := d + 1) hi.1 hn) ?_
      rintro v h1 ⟨rfl, p, rfl, hp⟩
      cases p with
      | false =>
        refine xa_tn 74 [] [] [.int (Int32.ofInt (-1))] (xh_ui h 1 1 (Int32.ofInt 0)) [true] 8 hq rfl ⟨rfl, trivial⟩ (fun _ => ?_)
        exact xp_ret rfl rfl rfl ⟨hk_ui (s := (0, 8)) (lo := 0) (hi := 640) (hk_0 hi) hn rfl rfl (by decide) (by decide) rfl rfl, _, rfl, by decide, by decide⟩
      | true =>
        obtain ⟨n, ho⟩ := hp rfl
        have ho : l9_o h n := ho
        refine xa_tn 25 [0, 1] [(0, .ref 0), (1, .int f)] [.int (xg 0 h.2.1 0 10), .ref 0, .ref 28] h [false] 8 hq rfl ⟨rfl, trivial⟩ (fun _ => ?_)
        have dr := ar_rng (xg 0 h.2.1 0 10)
        refine xp_ref (C := aC_m_X9_inForce) (t := 11) (σ := fun _ => 0) as_m_X9_inForce hq hi rfl rfl rfl (Nat.zero_le _) ⟨a_av (by decide) hq.1, a_ai dr.1 dr.2, trivial⟩ a_fp0 rfl (fun lw h1 lw1 i1 l1 f1 q1 => ?_)
        have hk1 : hk l9_md h h1 := hk_c (hk_0 hi) i1 l1 f1 (fun _ z => nomatch z)
        have ho1 := l9_fr ho f1 rfl (fun _ => rfl)
        refine xa_tn 32 [0, 1] [(0, .ref 0), (1, .int f)] [.int (xg 0 h1.2.1 0 9), .ref lw, .ref 28] h1 [] 4 q1 rfl trivial (fun _ => ?_)
        have sb := a_flx (c := 0) (k := 9) (lo := 1) (hi := 12) i1.1 q1.1 rfl rfl (by decide)
        refine xp_void (C := aC_m_X0_match) (σ := fun _ => 0) (P := []) as_m_X0_match q1 i1 rfl rfl rfl (by show 1 ≤ d + 2; omega) ⟨a_av (by decide) q1.1, ⟨lw, rfl, by rw [l1]; exact lw1⟩, a_ai sb.1 sb.2, trivial⟩ a_fp0 rfl (fun h2 _ i2 l2 f2 q2 => ?_)
        have hk2 : hk l9_md h h2 := hk_c hk1 i2 l2 f2 (by decide)
        have ho2 := l9_fr ho1 f2 rfl (fun _ => rfl)
        have fin : ∀ (x : Int32) (h3 : xh_H), hk l9_md h h3 → 0 ≤ x.toInt → x.toInt ≤ 6 → ld_Q l9_md h (some (.int x)) (xh_ui h3 1 1 (Int32.ofInt 0)) := by
          intro x h3 hk3 x1 x2
          exact ⟨hk_ui (s := (0, 8)) (lo := 0) (hi := 640) hk3 hn rfl rfl (by decide) (by decide) rfl rfl, x, rfl, by omega, x2⟩
        cases c2 : xe_c .eq f 0 with
        | true =>
          refine xa_tn 61 [0] [(0, .ref 0)] [.ref 1, .ref 28] h2 [true] 8 q2 rfl ⟨c2, trivial⟩ (fun _ => ?_)
          refine xp_run q2 rfl rfl (fo_run (d := d) i2 q2.1 ho2) ?_
          rintro v h3 ⟨k3, x, rfl, x1, x2⟩
          have hk3 : hk l9_md h h3 := hk_t hk2 k3 (fun _ z => nomatch z)
          refine xa_tn 74 [] [] [.int x] (xh_ui h3 1 1 (Int32.ofInt 0)) [] 8 (hk_q hk3 hn) rfl trivial (fun _ => ?_)
          exact xp_ret rfl rfl rfl (fin x h3 hk3 x1 x2)
        | false =>
          refine xa_tn 47 [0] [(0, .ref 0)] [.ref 1, .ref 28] h2 [false] 8 q2 rfl ⟨c2, trivial⟩ (fun _ => ?_)
          have fe : xt_P (d + 2) xi_X0_foresee xmi_X0_foresee 0 [(0, .ref 28), (1, .ref 1)] [] h2 (fe_Q h2) := by
            refine xa_tn 2 [0, 1, 2] [(0, .ref 28), (1, .ref 1), (2, .int (Int32.ofInt 0))] [] h2 [] 4 q2 rfl trivial (fun _ => ?_)
            exact fe_0 q2.1 7 0 h2 rfl (hk_0 i2) ho2
          refine xp_run q2 rfl rfl fe ?_
          rintro v h3 ⟨k3, x, rfl, x1, x2⟩
          have hk3 : hk l9_md h h3 := hk_t hk2 k3 (by decide)
          refine xa_tn 74 [] [] [.int x] (xh_ui h3 1 1 (Int32.ofInt 0)) [] 9 (hk_q hk3 hn) rfl trivial (fun _ => ?_)
          exact xp_ret rfl rfl rfl (fin x h3 hk3 x1 x2)
    exact xp_mono main (fun v h' g => by
      obtain ⟨g1, x, rfl, x1, x2⟩ := g
      exact ⟨g1, rok_i x1 x2⟩)
end XL9
end
section
section XEN
theorem bv_m1 {i : Nat} (hi : i < 32) : (Int32.ofInt (-1)).toBitVec.getLsbD i = true := by
  have e : (Int32.ofInt (-1)).toBitVec = BitVec.allOnes 32 := by decide
  rw [e, BitVec.getLsbD_allOnes, decide_eq_true hi]
theorem bv_nI {a i : Nat} (hi : i < 32) : (nI a).toBitVec.getLsbD i = a.testBit i := by
  show (BitVec.ofNat 32 a).getLsbD i = _
  rw [BitVec.getLsbD_ofNat, decide_eq_true hi, Bool.true_and]
theorem nI_andn {a b c : Nat} (h : ∀ i, i < 32 → (a.testBit i && !(b.testBit i)) = c.testBit i) : nI a &&& (nI b ^^^ Int32.ofInt (-1)) = nI c := by
  apply Int32.toBitVec_inj.mp
  apply BitVec.eq_of_getLsbD_eq
  intro i hi
  show ((nI a).toBitVec &&& ((nI b).toBitVec ^^^ (Int32.ofInt (-1)).toBitVec)).getLsbD i = _
  rw [BitVec.getLsbD_and, BitVec.getLsbD_xor, bv_m1 hi, bv_nI hi, bv_nI hi, bv_nI hi, Bool.xor_true]
  exact h i hi
theorem nI_rm {s j : Nat} (hb : s.testBit j = true) : nI s &&& (nI (2 ^ j) ^^^ Int32.ofInt (-1)) = nI (s ^^^ 2 ^ j) := by
  refine nI_andn (fun i _ => ?_)
  rw [Nat.testBit_xor, tb_p]
  by_cases e : j = i
  · subst e
    rw [hb, decide_eq_true rfl]
    rfl
  · rw [decide_eq_false e, Bool.not_false, Bool.and_true, Bool.xor_false]
theorem nI_cf {s m : Nat} (hs : s < 2 ^ m) : nI (2 ^ m - 1) &&& (nI s ^^^ Int32.ofInt (-1)) = nI ((2 ^ m - 1) ^^^ s) := by
  refine nI_andn (fun i _ => ?_)
  rw [Nat.testBit_xor, Nat.testBit_two_pow_sub_one]
  by_cases e : i < m
  · rw [decide_eq_true e]
    cases s.testBit i <;> rfl
  · rw [decide_eq_false e, Nat.testBit_lt_two_pow (Nat.lt_of_lt_of_le hs (Nat.pow_le_pow_right (by decide) (by omega)))]
    rfl
theorem rm_lt {s j m : Nat} (hs : s < 2 ^ m) (hj : j < m) : s ^^^ 2 ^ j < 2 ^ m := Nat.xor_lt_two_pow hs (Nat.pow_lt_pow_right (by decide) hj)
theorem cf_lt {s m : Nat} (hs : s < 2 ^ m) : (2 ^ m - 1) ^^^ s < 2 ^ m := by
  have p0 : 0 < 2 ^ m := Nat.pow_pos (by decide)
  exact Nat.xor_lt_two_pow (by omega) hs
/-- a set is not in another one, which has all of it: somebody more -/
theorem more_j {a b m : Nat} (hb : b < 2 ^ m) (hab : a &&& b = a) (hne : a ≠ b) : ∃ j, j < m ∧ b.testBit j = true ∧ a.testBit j = false := by
  apply Classical.byContradiction
  intro hno
  apply hne
  apply Nat.eq_of_testBit_eq
  intro i
  have h1 : (a.testBit i && b.testBit i) = a.testBit i := by rw [← Nat.testBit_and, hab]
  cases hb2 : b.testBit i with
  | false => rw [hb2, Bool.and_false] at h1; exact h1.symm
  | true =>
    cases ha2 : a.testBit i with
    | true => rfl
    | false =>
      exfalso
      refine hno ⟨i, ?_, hb2, ha2⟩
      apply Classical.byContradiction
      intro him
      rw [Nat.testBit_lt_two_pow (Nat.lt_of_lt_of_le hb (Nat.pow_le_pow_right (by decide) (by omega)))] at hb2
      cases hb2
theorem sub_rm {a b j : Nat} (hab : a &&& b = a) (ha : a.testBit j = false) : a &&& (b ^^^ 2 ^ j) = a := by
  apply Nat.eq_of_testBit_eq
  intro i
  rw [Nat.testBit_and, Nat.testBit_xor, tb_p]
  have h1 : (a.testBit i && b.testBit i) = a.testBit i := by rw [← Nat.testBit_and, hab]
  by_cases e : j = i
  · subst e
    rw [ha]
    rfl
  · rw [decide_eq_false e, Bool.xor_false]
    exact h1
theorem sub_cf {a b m : Nat} (hab : a &&& b = a) : ((2 ^ m - 1) ^^^ b) &&& ((2 ^ m - 1) ^^^ a) = (2 ^ m - 1) ^^^ b ∨ ¬ (b < 2 ^ m) := by
  by_cases hb : b < 2 ^ m
  · refine Or.inl ?_
    apply Nat.eq_of_testBit_eq
    intro i
    rw [Nat.testBit_and, Nat.testBit_xor, Nat.testBit_xor, Nat.testBit_two_pow_sub_one]
    have h1 : (a.testBit i && b.testBit i) = a.testBit i := by rw [← Nat.testBit_and, hab]
    by_cases e : i < m
    · rw [decide_eq_true e]
      cases h2 : a.testBit i <;> cases h3 : b.testBit i <;> rw [h2, h3] at h1 <;> first | rfl | cases h1
    · have h3 := Nat.testBit_lt_two_pow (Nat.lt_of_lt_of_le hb (Nat.pow_le_pow_right (n := 2) (by decide) (show m ≤ i by omega)))
      rw [h3, Bool.and_false] at h1
      rw [decide_eq_false e, h3, ← h1]
      rfl
  · exact Or.inr hb
/-- the reference's LEAST sets, by its row -/
def lq (h : xh_H) (m s : Nat) : Prop := xg 0 h.2.1 53 s ≠ 0 ∧ ∀ j, j < m → s.testBit j = true → xg 0 h.2.1 53 (s ^^^ 2 ^ j) = 0
/-- .. and its HINDER sets -/
def hq' (h : xh_H) (m s : Nat) : Prop := xg 0 h.2.1 53 ((2 ^ m - 1) ^^^ s) = 0
def lhq (h : xh_H) (m s : Nat) : Prop := hq' h m s ∧ ∀ j, j < m → s.testBit j = true → ¬ hq' h m (s ^^^ 2 ^ j)
set_option maxRecDepth 100000 in
set_option maxHeartbeats 4000000 in
theorem il_loop {d m s : Nat} {h : xh_H} (hi : a_inw a_tb h) (hn : 72 ≤ h.1.length) (hm : m ≤ 12) (hmm : xg 0 h.2.1 39 4 = nI m) (hs : s < 2 ^ m) (h0 : xg 0 h.2.1 53 s ≠ 0) : ∀ (n j : Nat), j + n = m → (∀ j', j' < j → s.testBit j' = true → xg 0 h.2.1 53 (s ^^^ 2 ^ j') = 0) → xt_P d xi_X10_isLeast xmi_X10_isLeast 13 [(0, .ref 39), (1, .int (nI s)), (2, .int (nI j))] [] h (fun v h' => h = h' ∧ ∃ p : Bool, v = some (.int (cond p 1 0)) ∧ (p = true ↔ lq h m s)) := by
  have hq := a_rq_of hi hn
  have p12m : 2 ^ m ≤ 4096 := Nat.pow_le_pow_right (n := 2) (by decide) hm
  intro n
  induction n with
  | zero =>
    intro j hj hall
    have e : j = m := by omega
    subst e
    refine xa_tn 54 [] [] [.int (Int32.ofInt 1)] h [true] 7 hq rfl ⟨(show xe_c .ge (nI j) (xg 0 h.2.1 39 4) = true by rw [hmm]; exact nge_t (by omega) (by omega) (Nat.le_refl _)), trivial⟩ (fun _ => ?_)
    exact xp_ret rfl rfl rfl ⟨rfl, true, rfl, Iff.intro (fun _ => ⟨h0, hall⟩) (fun _ => rfl)⟩
  | succ n ih =>
    intro j hj hall
    have hge : xe_c .ge (nI j) (xg 0 h.2.1 39 4) = false := by rw [hmm]; exact nge_f (by omega) (by omega) (by omega)
    have e1 : nI j + Int32.ofInt 1 = nI (j + 1) := nI_1 j
    have bb := nI_b0 (a := s) (k := j) (by omega) (by omega)
    cases ts : s.testBit j with
    | false =>
      rw [ts] at bb
      refine xa_tn 13 [0, 1, 2] [(0, .ref 39), (1, .int (nI s)), (2, .int ((nI j) + Int32.ofInt 1))] [] h [false, true] 15 hq rfl ⟨hge, (show xe_c .ne (((nI s) >>> ((nI j) &&& 31)) &&& (Int32.ofInt 1)) (Int32.ofInt 1) = true by rw [bb]; rfl), trivial⟩ (fun _ => ?_)
      rw [e1]
      refine ih (j + 1) (by omega) (fun j' hj' ht => ?_)
      by_cases e : j' = j
      · subst e
        rw [ts] at ht
        cases ht
      · exact hall j' (by omega) ht
    | true =>
      rw [ts] at bb
      have er : (nI s) &&& (((Int32.ofInt 1) <<< ((nI j) &&& 31)) ^^^ (Int32.ofInt (-1))) = nI (s ^^^ 2 ^ j) := by rw [sh1 j (by omega)]; exact nI_rm ts
      have rl := rm_lt (s := s) (j := j) hs (by omega)
      have hin : xe_in ((nI s) &&& (((Int32.ofInt 1) <<< ((nI j) &&& 31)) ^^^ (Int32.ofInt (-1)))) 4096 = true := by rw [er]; exact xin_n (by omega) (by omega)
      have hne : xe_c .ne (((nI s) >>> ((nI j) &&& 31)) &&& (Int32.ofInt 1)) (Int32.ofInt 1) = false := by rw [bb]; rfl
      cases c1 : xe_c .eq (xg 0 h.2.1 53 (s ^^^ 2 ^ j)) 0 with
      | true =>
        refine xa_tn 13 [0, 1, 2] [(0, .ref 39), (1, .int (nI s)), (2, .int ((nI j) + Int32.ofInt 1))] [] h [false, false, true] 26 hq rfl ⟨hge, hne, hin, (show xe_c .eq (xg 0 h.2.1 53 ((nI s) &&& (((Int32.ofInt 1) <<< ((nI j) &&& 31)) ^^^ (Int32.ofInt (-1)))).toNatClampNeg) 0 = true by rw [er, nI_clamp (by omega)]; exact c1), trivial⟩ (fun _ => ?_)
        rw [e1]
        refine ih (j + 1) (by omega) (fun j' hj' ht => ?_)
        by_cases e : j' = j
        · subst e
          exact of_decide_eq_true c1
        · exact hall j' (by omega) ht
      | false =>
        refine xa_tn 46 [] [] [.int (Int32.ofInt 0)] h [false, false, false] 25 hq rfl ⟨hge, hne, hin, (show xe_c .eq (xg 0 h.2.1 53 ((nI s) &&& (((Int32.ofInt 1) <<< ((nI j) &&& 31)) ^^^ (Int32.ofInt (-1)))).toNatClampNeg) 0 = false by rw [er, nI_clamp (by omega)]; exact c1), trivial⟩ (fun _ => ?_)
        refine xp_ret rfl rfl rfl ⟨rfl, false, rfl, Iff.intro (fun z => Bool.noConfusion z) (fun z => ?_)⟩
        exact absurd (z.2 j (by omega) ts) (of_decide_eq_false c1)
set_option maxRecDepth 100000 in
set_option maxHeartbeats 4000000 in
theorem il_run {d m s : Nat} {h : xh_H} (hi : a_inw a_tb h) (hn : 72 ≤ h.1.length) (hm : m ≤ 12) (hmm : xg 0 h.2.1 39 4 = nI m) (hs : s < 2 ^ m) : xt_P d xi_X10_isLeast xmi_X10_isLeast 0 [(0, .ref 39), (1, .int (nI s))] [] h (fun v h' => h = h' ∧ ∃ p : Bool, v = some (.int (cond p 1 0)) ∧ (p = true ↔ lq h m s)) := by
  have hq := a_rq_of hi hn
  have p12m : 2 ^ m ≤ 4096 := Nat.pow_le_pow_right (n := 2) (by decide) hm
  have hin := xin_n (k := s) (n := 4096) (by omega) (by omega)
  have ecl : (nI s).toNatClampNeg = s := nI_clamp (by omega)
  cases c1 : xe_c .ne (xg 0 h.2.1 53 s) 0 with
  | false =>
    refine xa_tn 10 [] [] [.int (Int32.ofInt 0)] h [false] 8 hq rfl ⟨hin, (show xe_c .ne (xg 0 h.2.1 53 (nI s).toNatClampNeg) 0 = false by rw [ecl]; exact c1), trivial⟩ (fun _ => ?_)
    refine xp_ret rfl rfl rfl ⟨rfl, false, rfl, Iff.intro (fun z => Bool.noConfusion z) (fun z => ?_)⟩
    have c1 : (!decide (xg 0 h.2.1 53 s = 0)) = false := c1
    rw [Bool.not_eq_false'] at c1
    exact absurd (of_decide_eq_true c1) z.1
  | true =>
    refine xa_tn 13 [0, 1, 2] [(0, .ref 39), (1, .int (nI s)), (2, .int (Int32.ofInt 0))] [] h [true] 9 hq rfl ⟨hin, (show xe_c .ne (xg 0 h.2.1 53 (nI s).toNatClampNeg) 0 = true by rw [ecl]; exact c1), trivial⟩ (fun _ => ?_)
    have c1 : (!decide (xg 0 h.2.1 53 s = 0)) = true := c1
    rw [Bool.not_eq_true'] at c1
    exact il_loop hi hn hm hmm hs (of_decide_eq_false c1) m 0 (by omega) (fun j' hj' => absurd hj' (Nat.not_lt_zero j'))
set_option maxRecDepth 100000 in
set_option maxHeartbeats 4000000 in
theorem hi_run {d m s : Nat} {h : xh_H} (hi : a_inw a_tb h) (hn : 72 ≤ h.1.length) (hm : m ≤ 12) (hall : xg 0 h.2.1 39 35 = nI (2 ^ m)) (hs : s < 2 ^ m) : xt_P d xi_X10_hinders xmi_X10_hinders 0 [(0, .ref 39), (1, .int (nI s))] [] h (fun v h' => h = h' ∧ ∃ p : Bool, v = some (.int (cond p 1 0)) ∧ (p = true ↔ hq' h m s)) := by
  have hq := a_rq_of hi hn
  have p12m : 2 ^ m ≤ 4096 := Nat.pow_le_pow_right (n := 2) (by decide) hm
  have pm0 : 0 < 2 ^ m := Nat.pow_pos (by decide)
  have cl := cf_lt hs
  have ec : ((xg 0 h.2.1 39 35) - (Int32.ofInt 1)) &&& ((nI s) ^^^ (Int32.ofInt (-1))) = nI ((2 ^ m - 1) ^^^ s) := by
    obtain ⟨j, ej⟩ : ∃ j, 2 ^ m = j + 1 := ⟨2 ^ m - 1, by omega⟩
    have e1 : nI (2 ^ m) - Int32.ofInt 1 = nI (2 ^ m - 1) := by rw [ej]; exact nI_sub1
    rw [hall, e1]
    exact nI_cf hs
  refine xa_tn 15 [] [] [.int (xg 0 h.2.1 53 (((xg 0 h.2.1 39 35) - (Int32.ofInt 1)) &&& ((nI s) ^^^ (Int32.ofInt (-1)))).toNatClampNeg)] h [] 13 hq rfl ⟨(show xe_in (((xg 0 h.2.1 39 35) - (Int32.ofInt 1)) &&& ((nI s) ^^^ (Int32.ofInt (-1)))) 4096 = true by rw [ec]; exact xin_n (by omega) (by omega)), trivial⟩ (fun _ => ?_)
  rw [ec, nI_clamp (by omega)]
  cases c1 : xe_c .ne (xg 0 h.2.1 53 ((2 ^ m - 1) ^^^ s)) 0 with
  | true =>
    refine xa_tn 23 [] [] [.int (Int32.ofInt 0)] h [true] 4 hq rfl ⟨c1, trivial⟩ (fun _ => ?_)
    refine xp_ret rfl rfl rfl ⟨rfl, false, rfl, Iff.intro (fun z => Bool.noConfusion z) (fun z => ?_)⟩
    have c1 : (!decide (xg 0 h.2.1 53 ((2 ^ m - 1) ^^^ s) = 0)) = true := c1
    rw [Bool.not_eq_true'] at c1
    have c2 : xg 0 h.2.1 53 ((2 ^ m - 1) ^^^ s) ≠ 0 := of_decide_eq_false c1
    exact absurd z c2
  | false =>
    refine xa_tn 23 [] [] [.int (Int32.ofInt 1)] h [false] 5 hq rfl ⟨c1, trivial⟩ (fun _ => ?_)
    refine xp_ret rfl rfl rfl ⟨rfl, true, rfl, Iff.intro (fun _ => ?_) (fun _ => rfl)⟩
    have c1 : (!decide (xg 0 h.2.1 53 ((2 ^ m - 1) ^^^ s) = 0)) = false := c1
    rw [Bool.not_eq_false'] at c1
    have c2 : xg 0 h.2.1 53 ((2 ^ m - 1) ^^^ s) = 0 := of_decide_eq_true c1
    exact c2
set_option maxRecDepth 100000 in
set_option maxHeartbeats 4000000 in
theorem lh_loop {d m s : Nat} {h : xh_H} (hi : a_inw a_tb h) (hn : 72 ≤ h.1.length) (hm : m ≤ 12) (hmm : xg 0 h.2.1 39 4 = nI m) (hall : xg 0 h.2.1 39 35 = nI (2 ^ m)) (hs : s < 2 ^ m) (h0 : hq' h m s) : ∀ (n j : Nat), j + n = m → (∀ j', j' < j → s.testBit j' = true → ¬ hq' h m (s ^^^ 2 ^ j')) → xt_P (d + 1) xi_X10_isLeastHinder xmi_X10_isLeastHinder 12 [(0, .ref 39), (1, .int (nI s)), (2, .int (nI j))] [] h (fun v h' => h = h' ∧ ∃ p : Bool, v = some (.int (cond p 1 0)) ∧ (p = true ↔ lhq h m s)) := by
  have hq := a_rq_of hi hn
  have p12m : 2 ^ m ≤ 4096 := Nat.pow_le_pow_right (n := 2) (by decide) hm
  intro n
  induction n with
  | zero =>
    intro j hj hall2
    have e : j = m := by omega
    subst e
    refine xa_tn 52 [] [] [.int (Int32.ofInt 1)] h [true] 7 hq rfl ⟨(show xe_c .ge (nI j) (xg 0 h.2.1 39 4) = true by rw [hmm]; exact nge_t (by omega) (by omega) (Nat.le_refl _)), trivial⟩ (fun _ => ?_)
    exact xp_ret rfl rfl rfl ⟨rfl, true, rfl, Iff.intro (fun _ => ⟨h0, hall2⟩) (fun _ => rfl)⟩
  | succ n ih =>
    intro j hj hall2
    have hge : xe_c .ge (nI j) (xg 0 h.2.1 39 4) = false := by rw [hmm]; exact nge_f (by omega) (by omega) (by omega)
    have e1 : nI j + Int32.ofInt 1 = nI (j + 1) := nI_1 j
    have bb := nI_b0 (a := s) (k := j) (by omega) (by omega)
    cases ts : s.testBit j with
    | false =>
      rw [ts] at bb
      refine xa_tn 12 [0, 1, 2] [(0, .ref 39), (1, .int (nI s)), (2, .int ((nI j) + Int32.ofInt 1))] [] h [false, true] 15 hq rfl ⟨hge, (show xe_c .ne (((nI s) >>> ((nI j) &&& 31)) &&& (Int32.ofInt 1)) (Int32.ofInt 1) = true by rw [bb]; rfl), trivial⟩ (fun _ => ?_)
      rw [e1]
      refine ih (j + 1) (by omega) (fun j' hj' ht => ?_)
      by_cases e : j' = j
      · subst e
        rw [ts] at ht
        cases ht
      · exact hall2 j' (by omega) ht
    | true =>
      rw [ts] at bb
      have er : (nI s) &&& (((Int32.ofInt 1) <<< ((nI j) &&& 31)) ^^^ (Int32.ofInt (-1))) = nI (s ^^^ 2 ^ j) := by rw [sh1 j (by omega)]; exact nI_rm ts
      have rl := rm_lt (s := s) (j := j) hs (by omega)
      have hne : xe_c .ne (((nI s) >>> ((nI j) &&& 31)) &&& (Int32.ofInt 1)) (Int32.ofInt 1) = false := by rw [bb]; rfl
      refine xa_tn 37 [0, 1, 2] [(0, .ref 39), (1, .int (nI s)), (2, .int (nI j))] [.int ((nI s) &&& (((Int32.ofInt 1) <<< ((nI j) &&& 31)) ^^^ (Int32.ofInt (-1)))), .ref 39] h [false, false] 21 hq rfl ⟨hge, hne, trivial⟩ (fun _ => ?_)
      rw [er]
      refine xp_run hq rfl rfl (hi_run (d := d) hi hn hm hall rl) ?_
      rintro v h1 ⟨rfl, p, rfl, hp⟩
      cases p with
      | false =>
        refine xa_tn 12 [0, 1, 2] [(0, .ref 39), (1, .int (nI s)), (2, .int ((nI j) + Int32.ofInt 1))] [] h [true] 5 hq rfl ⟨rfl, trivial⟩ (fun _ => ?_)
        rw [e1]
        refine ih (j + 1) (by omega) (fun j' hj' ht => ?_)
        by_cases e : j' = j
        · subst e
          exact fun z => Bool.noConfusion (hp.mpr z)
        · exact hall2 j' (by omega) ht
      | true =>
        refine xa_tn 44 [] [] [.int (Int32.ofInt 0)] h [false] 4 hq rfl ⟨rfl, trivial⟩ (fun _ => ?_)
        exact xp_ret rfl rfl rfl ⟨rfl, false, rfl, Iff.intro (fun z => Bool.noConfusion z) (fun z => absurd (hp.mp rfl) (z.2 j (by omega) ts))⟩
set_option maxRecDepth 100000 in
set_option maxHeartbeats 4000000 in
theorem lh_run {d m s : Nat} {h : xh_H} (hi : a_inw a_tb h) (hn : 72 ≤ h.1.length) (hm : m ≤ 12) (hmm : xg 0 h.2.1 39 4 = nI m) (hall : xg 0 h.2.1 39 35 = nI (2 ^ m)) (hs : s < 2 ^ m) : xt_P (d + 1) xi_X10_isLeastHinder xmi_X10_isLeastHinder 0 [(0, .ref 39), (1, .int (nI s))] [] h (fun v h' => h = h' ∧ ∃ p : Bool, v = some (.int (cond p 1 0)) ∧ (p = true ↔ lhq h m s)) := by
  have hq := a_rq_of hi hn
  refine xa_tn 2 [0, 1] [(0, .ref 39), (1, .int (nI s))] [.int (nI s), .ref 39] h [] 4 hq rfl trivial (fun _ => ?_)
  refine xp_run hq rfl rfl (hi_run (d := d) hi hn hm hall hs) ?_
  rintro v h1 ⟨rfl, p, rfl, hp⟩
  cases p with
  | false =>
    refine xa_tn 9 [] [] [.int (Int32.ofInt 0)] h [false] 4 hq rfl ⟨rfl, trivial⟩ (fun _ => ?_)
    exact xp_ret rfl rfl rfl ⟨rfl, false, rfl, Iff.intro (fun z => Bool.noConfusion z) (fun z => Bool.noConfusion (hp.mpr z.1))⟩
  | true =>
    refine xa_tn 12 [0, 1, 2] [(0, .ref 39), (1, .int (nI s)), (2, .int (Int32.ofInt 0))] [] h [true] 5 hq rfl ⟨rfl, trivial⟩ (fun _ => ?_)
    exact lh_loop hi hn hm hmm hall hs (hp.mp rfl) m 0 (by omega) (fun j' hj' => absurd hj' (Nat.not_lt_zero j'))
/-! how many there can be -/
noncomputable def pb (P : Nat → Prop) (a : Nat) : Bool := @decide (P a) (Classical.propDecidable _)
theorem pb_t {P : Nat → Prop} {a : Nat} : pb P a = true ↔ P a := by
  unfold pb
  exact @decide_eq_true_iff (P a) (Classical.propDecidable _)
def lst (P : Nat → Prop) (n k : Nat) : Prop := ∃ L : List Nat, L.Nodup ∧ L.length = k ∧ ∀ a ∈ L, a < n ∧ P a
theorem lst_0 {P : Nat → Prop} : lst P 0 0 := ⟨[], List.nodup_nil, rfl, fun a h => nomatch h⟩
theorem lst_m {P : Nat → Prop} {n k : Nat} (h : lst P n k) : lst P (n + 1) k := by
  obtain ⟨L, h1, h2, h3⟩ := h
  exact ⟨L, h1, h2, fun a ha => ⟨by have := (h3 a ha).1; omega, (h3 a ha).2⟩⟩
theorem lst_s {P : Nat → Prop} {n k : Nat} (h : lst P n k) (hp : P n) : lst P (n + 1) (k + 1) := by
  obtain ⟨L, h1, h2, h3⟩ := h
  refine ⟨n :: L, List.nodup_cons.mpr ⟨fun z => ?_, h1⟩, by rw [List.length_cons, h2], fun a ha => ?_⟩
  · have := (h3 n z).1
    omega
  · rcases List.mem_cons.mp ha with rfl | ha
    · exact ⟨by omega, hp⟩
    · exact ⟨by have := (h3 a ha).1; omega, (h3 a ha).2⟩
theorem lst_le {P : Nat → Prop} {n k N : Nat} (hN : N ≤ 4096) (hnN : n ≤ N) (hanti : ∀ a b, a < N → b < N → P a → P b → a &&& b = a → a = b) (h : lst P n k) : k ≤ 924 := by
  obtain ⟨L, h1, h2, h3⟩ := h
  have s := sperner (p := pb (fun a => a < N ∧ P a)) (fun a b ha hb hab => hanti a b (pb_t.mp ha).1 (pb_t.mp hb).1 (pb_t.mp ha).2 (pb_t.mp hb).2 hab)
  rw [← h2]
  refine Nat.le_trans (sp_len L _ h1 (fun a ha => ?_)) s
  have := h3 a ha
  exact List.mem_filter.mpr ⟨List.mem_range.mpr (by omega), pb_t.mpr ⟨by omega, this.2⟩⟩
/-- the reference's row as 0 or 1, monotone -/
theorem row_z {h : xh_H} {s : Nat} (hi : a_inw a_tb h) (hn : 72 ≤ h.1.length) (hs : s < 4096) : xg 0 h.2.1 53 s = 0 ∨ xg 0 h.2.1 53 s = 1 := by
  have b := a_blx (c := 53) (k := s) (lo := 0) (hi := 1) hi hn rfl rfl hs
  have := a_i01 b.1 b.2
  rw [Bool.or_eq_true, decide_eq_true_eq, decide_eq_true_eq] at this
  exact this
theorem row_m {h : xh_H} {m s t : Nat} (hi : a_inv a_tb h) (hn : 72 ≤ h.1.length) (hm : m ≤ 12) (hall : xg 0 h.2.1 39 35 = nI (2 ^ m)) (hs : s < 2 ^ m) (ht : t < 2 ^ m) (hst : s &&& t = s) (h1 : xg 0 h.2.1 53 s ≠ 0) : xg 0 h.2.1 53 t ≠ 0 := by
  have p12m : 2 ^ m ≤ 4096 := Nat.pow_le_pow_right (n := 2) (by decide) hm
  have e : (xg 0 h.2.1 39 35).toInt.toNat = 2 ^ m := by rw [hall, nI_toInt (by omega)]; rfl
  have g := hi.2.2.2.1 s t (by rw [e]; exact hs) (by rw [e]; exact ht) hst
  dsimp only at g
  rcases row_z hi.1 hn (show s < 4096 by omega) with z | z
  · exact absurd z h1
  · rw [z] at g
    intro z2
    rw [z2] at g
    revert g
    decide
theorem anti_l {h : xh_H} {m : Nat} (hi : a_inv a_tb h) (hn : 72 ≤ h.1.length) (hm : m ≤ 12) (hall : xg 0 h.2.1 39 35 = nI (2 ^ m)) : ∀ a b, a < 2 ^ m → b < 2 ^ m → lq h m a → lq h m b → a &&& b = a → a = b := by
  intro a b ha hb la lb hab
  apply Classical.byContradiction
  intro hne
  obtain ⟨j, j1, j2, j3⟩ := more_j hb hab hne
  exact row_m hi hn hm hall ha (rm_lt hb j1) (sub_rm hab j3) la.1 (lb.2 j j1 j2)
theorem anti_h {h : xh_H} {m : Nat} (hi : a_inv a_tb h) (hn : 72 ≤ h.1.length) (hm : m ≤ 12) (hall : xg 0 h.2.1 39 35 = nI (2 ^ m)) : ∀ a b, a < 2 ^ m → b < 2 ^ m → lhq h m a → lhq h m b → a &&& b = a → a = b := by
  intro a b ha hb la lb hab
  apply Classical.byContradiction
  intro hne
  obtain ⟨j, j1, j2, j3⟩ := more_j hb hab hne
  refine lb.2 j j1 j2 ?_
  apply Classical.byContradiction
  intro hno
  have hs := sub_rm hab j3
  rcases sub_cf (m := m) hs with z | z
  · exact row_m hi hn hm hall (cf_lt (rm_lt hb j1)) (cf_lt ha) z hno la.1
  · exact z (rm_lt hb j1)
abbrev en_md : List (Nat × Nat) := [(39, 47), (39, 48), (59, 0), (60, 0)]
theorem lq_c {h0 h : xh_H} {m s : Nat} (hk0 : hk en_md h0 h) : lq h m s ↔ lq h0 m s := by
  unfold lq
  have e : ∀ k, xg 0 h.2.1 53 k = xg 0 h0.2.1 53 k := fun k => hk_g hk0 rfl rfl
  simp only [e]
theorem lhq_c {h0 h : xh_H} {m s : Nat} (hk0 : hk en_md h0 h) : lhq h m s ↔ lhq h0 m s := by
  unfold lhq hq'
  have e : ∀ k, xg 0 h.2.1 53 k = xg 0 h0.2.1 53 k := fun k => hk_g hk0 rfl rfl
  simp only [e]
set_option maxRecDepth 100000 in
set_option maxHeartbeats 8000000 in
theorem en_loop {d m : Nat} {h0 : xh_H} (hi0 : a_inv a_tb h0) (hn : 72 ≤ h0.1.length) (hm : m ≤ 12) (hmm : xg 0 h0.2.1 39 4 = nI m) (hall : xg 0 h0.2.1 39 35 = nI (2 ^ m)) : ∀ (n s : Nat) (h : xh_H) (a b : Nat), s + n = 2 ^ m → hk en_md h0 h → xg 0 h.2.1 39 47 = nI a → xg 0 h.2.1 39 48 = nI b → lst (lq h0 m) s a → lst (lhq h0 m) s b → xt_P (d + 2) xi_X10_findEnds xmi_X10_findEnds 12 [(0, .ref 39), (1, .int (nI s))] [] h (fun v h' => v = none ∧ hk en_md h0 h') := by
  have p12m : 2 ^ m ≤ 4096 := Nat.pow_le_pow_right (n := 2) (by decide) hm
  have al := anti_l hi0 hn hm hall
  have ah := anti_h hi0 hn hm hall
  intro n
  induction n with
  | zero =>
    intro s h a b hs hk0 ha hb la lb
    have e : s = 2 ^ m := by omega
    refine xa_tn 91 [] [] [] h [true] 6 (hk_q hk0 hn) rfl ⟨(show xe_c .ge (nI s) (xg 0 h.2.1 39 35) = true by rw [hk_g (c := 39) (k := 35) hk0 rfl rfl, hall]; exact nge_t (by omega) (by omega) (by omega)), trivial⟩ (fun _ => ?_)
    exact xp_ret rfl rfl rfl ⟨rfl, hk0⟩
  | succ n ih =>
    intro s h a b hs hk0 ha hb la lb
    have e1 : nI s + Int32.ofInt 1 = nI (s + 1) := nI_1 s
    have g35 : xg 0 h.2.1 39 35 = nI (2 ^ m) := (hk_g (c := 39) (k := 35) hk0 rfl rfl).trans hall
    have g4 : xg 0 h.2.1 39 4 = nI m := (hk_g (c := 39) (k := 4) hk0 rfl rfl).trans hmm
    have a924 := lst_le (by omega) (show s ≤ 2 ^ m by omega) al la
    have b924 := lst_le (by omega) (show s ≤ 2 ^ m by omega) ah lb
    have si := nI_toInt (n := s) (by omega)
    -- the hinder half
    have half : ∀ (h1 : xh_H) (a1 : Nat), hk en_md h0 h1 → xg 0 h1.2.1 39 47 = nI a1 → xg 0 h1.2.1 39 48 = nI b → lst (lq h0 m) (s + 1) a1 → xt_P (d + 2) xi_X10_findEnds xmi_X10_findEnds 50 [(0, .ref 39), (1, .int (nI s))] [.int (nI s), .ref 39] h1 (fun v h' => v = none ∧ hk en_md h0 h') := by
      intro h1 a1 hk1 ha1 hb1 la1
      have q1 := hk_q hk1 hn
      have k35 : xg 0 h1.2.1 39 35 = nI (2 ^ m) := (hk_g (c := 39) (k := 35) hk1 rfl rfl).trans hall
      have k4 : xg 0 h1.2.1 39 4 = nI m := (hk_g (c := 39) (k := 4) hk1 rfl rfl).trans hmm
      refine xp_run q1 rfl rfl (lh_run (d := d) hk1.1.1 (hk_n hk1 hn) hm k4 k35 (show s < 2 ^ m by omega)) ?_
      rintro v h2 ⟨rfl, p, rfl, hp⟩
      rw [lhq_c hk1] at hp
      cases p with
      | false =>
        refine xa_tn 12 [0, 1] [(0, .ref 39), (1, .int ((nI s) + Int32.ofInt 1))] [] h1 [true] 5 q1 rfl ⟨rfl, trivial⟩ (fun _ => ?_)
        rw [e1]
        exact ih (s + 1) h1 a1 b (by omega) hk1 ha1 hb1 la1 (lst_m lb)
      | true =>
        have lb1 := lst_s lb (hp.mp rfl)
        have b923 := lst_le (by omega) (show s + 1 ≤ 2 ^ m by omega) ah lb1
        have hs2 : s < 2 ^ m := by omega
        have cl := cf_lt hs2
        have ec : ((xg 0 h1.2.1 39 35) - (Int32.ofInt 1)) &&& ((nI s) ^^^ (Int32.ofInt (-1))) = nI ((2 ^ m - 1) ^^^ s) := by
          obtain ⟨j, ej⟩ : ∃ j, 2 ^ m = j + 1 := ⟨2 ^ m - 1, by omega⟩
          have e1 : nI (2 ^ m) - Int32.ofInt 1 = nI (2 ^ m - 1) := by rw [ej]; exact nI_sub1
          rw [k35, e1]
          exact nI_cf hs2
        refine xa_tn 75 [0, 1] [(0, .ref 39), (1, .int (nI s))] [] (xh_ui h1 60 (xg 0 h1.2.1 39 48).toNatClampNeg (((xg 0 h1.2.1 39 35) - (Int32.ofInt 1)) &&& ((nI s) ^^^ (Int32.ofInt (-1))))) [false] 16 q1 rfl ⟨rfl, (show xe_in (xg 0 h1.2.1 39 48) 924 = true by rw [hb1]; exact xin_n (by omega) (by omega)), trivial⟩ (fun _ => ?_)
        rw [ec, hb1, nI_clamp (by omega)]
        have ci := nI_toInt (n := (2 ^ m - 1) ^^^ s) (by omega)
        have hk2 : hk en_md h0 (xh_ui h1 60 b (nI ((2 ^ m - 1) ^^^ s))) := hk_ui (s := (1, 924)) (lo := 0) (hi := 4095) hk1 hn rfl rfl (by omega) (by omega) rfl rfl
        have ha2 : xg 0 (xh_ui h1 60 b (nI ((2 ^ m - 1) ^^^ s))).2.1 39 47 = nI a1 := by rw [gx_o (by decide)]; exact ha1
        have hb2 : xg 0 (xh_ui h1 60 b (nI ((2 ^ m - 1) ^^^ s))).2.1 39 48 = nI b := by rw [gx_o (by decide)]; exact hb1
        generalize xh_ui h1 60 b (nI ((2 ^ m - 1) ^^^ s)) = h2 at hk2 ha2 hb2 ⊢
        refine xa_tn 12 [0, 1] [(0, .ref 39), (1, .int ((nI s) + Int32.ofInt 1))] [] (xh_ui h2 39 48 ((xg 0 h2.2.1 39 48) + (Int32.ofInt 1))) [] 10 (hk_q hk2 hn) rfl trivial (fun _ => ?_)
        have eb : nI b + Int32.ofInt 1 = nI (b + 1) := nI_1 b
        rw [e1, hb2, eb]
        have bi := nI_toInt (n := b + 1) (by omega)
        exact ih (s + 1) _ a1 (b + 1) (by omega) (hk_ui (s := (0, 10)) (lo := 0) (hi := 924) hk2 hn rfl rfl (by omega) (by omega) rfl rfl) (by rw [gx_k (by decide)]; exact ha2) gx_s la1 lb1
    refine xa_tn 22 [0, 1] [(0, .ref 39), (1, .int (nI s))] [.int (nI s), .ref 39] h [false] 8 (hk_q hk0 hn) rfl ⟨(show xe_c .ge (nI s) (xg 0 h.2.1 39 35) = false by rw [g35]; exact nge_f (by omega) (by omega) (by omega)), trivial⟩ (fun hq => ?_)
    refine xp_run hq rfl rfl (il_run (d := d + 1) hk0.1.1 (hk_n hk0 hn) hm g4 (show s < 2 ^ m by omega)) ?_
    rintro v h1 ⟨rfl, p, rfl, hp⟩
    rw [lq_c hk0] at hp
    cases p with
    | false =>
      refine xa_tn 50 [0, 1] [(0, .ref 39), (1, .int (nI s))] [.int (nI s), .ref 39] h [true] 5 hq rfl ⟨rfl, trivial⟩ (fun _ => ?_)
      exact half h a hk0 ha hb (lst_m la)
    | true =>
      have la1 := lst_s la (hp.mp rfl)
      have a923 := lst_le (by omega) (show s + 1 ≤ 2 ^ m by omega) al la1
      refine xa_tn 38 [0, 1] [(0, .ref 39), (1, .int (nI s))] [] (xh_ui h 59 (xg 0 h.2.1 39 47).toNatClampNeg (nI s)) [false] 9 hq rfl ⟨rfl, (show xe_in (xg 0 h.2.1 39 47) 924 = true by rw [ha]; exact xin_n (by omega) (by omega)), trivial⟩ (fun _ => ?_)
      rw [ha, nI_clamp (by omega)]
      have hk2 : hk en_md h0 (xh_ui h 59 a (nI s)) := hk_ui (s := (1, 924)) (lo := 0) (hi := 4095) hk0 hn rfl rfl (by omega) (by omega) rfl rfl
      have ha2 : xg 0 (xh_ui h 59 a (nI s)).2.1 39 47 = nI a := by rw [gx_o (by decide)]; exact ha
      have hb2 : xg 0 (xh_ui h 59 a (nI s)).2.1 39 48 = nI b := by rw [gx_o (by decide)]; exact hb
      generalize xh_ui h 59 a (nI s) = h2 at hk2 ha2 hb2 ⊢
      refine xa_tn 50 [0, 1] [(0, .ref 39), (1, .int (nI s))] [.int (nI s), .ref 39] (xh_ui h2 39 47 ((xg 0 h2.2.1 39 47) + (Int32.ofInt 1))) [] 10 (hk_q hk2 hn) rfl trivial (fun _ => ?_)
      have ea : nI a + Int32.ofInt 1 = nI (a + 1) := nI_1 a
      rw [ha2, ea]
      have ai := nI_toInt (n := a + 1) (by omega)
      exact half _ (a + 1) (hk_ui (s := (0, 10)) (lo := 0) (hi := 924) hk2 hn rfl rfl (by omega) (by omega) rfl rfl) gx_s (by rw [gx_k (by decide)]; exact hb2) la1
set_option maxRecDepth 100000 in
set_option maxHeartbeats 4000000 in
/-- X10.findEnds, where the row is laid -/
theorem en_run {d m : Nat} {h : xh_H} (hi : a_inv a_tb h) (hn : 72 ≤ h.1.length) (hm : m ≤ 12) (hmm : xg 0 h.2.1 39 4 = nI m) (hall : xg 0 h.2.1 39 35 = nI (2 ^ m)) : xt_P (d + 2) xi_X10_findEnds xmi_X10_findEnds 0 [(0, .ref 39)] [] h (fun v h' => v = none ∧ hk en_md h h') := by
  refine xa_tn 12 [0, 1] [(0, .ref 39), (1, .int (Int32.ofInt 0))] [] (xh_ui (xh_ui h 39 47 (Int32.ofInt 0)) 39 48 (Int32.ofInt 0)) [] 10 (a_rq_of hi.1 hn) rfl trivial (fun _ => ?_)
  exact en_loop hi hn hm hmm hall (2 ^ m) 0 _ 0 0 (by omega) (hk_ui (s := (0, 10)) (lo := 0) (hi := 924) (hk_ui (s := (0, 10)) (lo := 0) (hi := 924) (hk_0 hi) hn rfl rfl (by decide) (by decide) rfl rfl) hn rfl rfl (by decide) (by decide) rfl rfl) (by rw [gx_k (by decide), gx_s]; rfl) gx_s lst_0 lst_0
end XEN
end
section
section XWG
set_option maxRecDepth 100000 in
set_option maxHeartbeats 8000000 in
/-- X10.lay, with how many sets there are -/
theorem ly_run {d : Nat} {h : xh_H} (hi : a_inv a_tb h) (hn : 72 ≤ h.1.length) : xt_P (d + 1) xi_X10_lay xmi_X10_lay 0 [(0, .ref 39)] [] h (fun v h' => v = none ∧ hk [(39, 35), (53, 0)] h h' ∧ ∃ m : Nat, xg 0 h'.2.1 39 4 = nI m ∧ 1 ≤ m ∧ m ≤ 12 ∧ xg 0 h'.2.1 39 35 = nI (2 ^ m)) := by
  have hrq := a_rq_of hi.1 hn
  have em := a_fl (k := 4) (lo := 1) (hi := 12) hi.1 hn (show a_sh[39]? = some (0, 10) by decide) (by decide) (by decide +kernel) (by decide)
  have ec := a_fl (k := 33) (lo := 0) (hi := 8) hi.1 hn (show a_sh[39]? = some (0, 10) by decide) (by decide) (by decide +kernel) (by decide)
  obtain ⟨emn, -⟩ := a_nIx (y := xg 0 h.2.1 39 4) (by omega)
  have hp : ((2 ^ (xg 0 h.2.1 39 4).toInt.toNat : Nat) : Int) ≤ 4096 := a_pw (i := (xg 0 h.2.1 39 4).toInt.toNat) (j := 12) (by omega)
  have hp2 : ((2 ^ 1 : Nat) : Int) ≤ ((2 ^ (xg 0 h.2.1 39 4).toInt.toNat : Nat) : Int) := a_pw (by omega)
  have hsh := ar_shl (x := Int32.ofInt 1) (k := (xg 0 h.2.1 39 4).toInt.toNat) (by omega) (by decide) (by show (1 : Int) * _ ≤ _; omega)
  rw [← emn] at hsh
  have hsh : (Int32.ofInt 1 <<< (xg 0 h.2.1 39 4 &&& 31)).toInt = 1 * ((2 ^ (xg 0 h.2.1 39 4).toInt.toNat : Nat) : Int) := hsh
  generalize hM2 : 2 ^ (xg 0 h.2.1 39 4).toInt.toNat = a at *
  have hp2 : (2 : Int) ≤ (a : Int) := hp2
  obtain ⟨ea, -⟩ := a_nIx (y := Int32.ofInt 1 <<< (xg 0 h.2.1 39 4 &&& 31)) (by omega)
  have eaa : (Int32.ofInt 1 <<< (xg 0 h.2.1 39 4 &&& 31)).toInt.toNat = a := by omega
  rw [eaa] at ea
  obtain ⟨k, k1, k2, kr⟩ := if_run (d := d) (x := xg 0 h.2.1 39 3) (t := 999) hrq hi.1
  have hs39 : h.1[39]? = some (0, 10) := hrq.2.1 39 _ (by decide)
  have eaI := nI_toInt (n := a) (by omega)
  have hi1 : a_inw a_tb (xh_ui h 39 35 (nI a)) := a_inw_ui (s := (0, 10)) (lo := 0) (hi := 4096) hi.1 hs39 (by rw [a_tg_lt (by decide)]; decide +kernel) (by omega) (by omega)
  have s35 : xg 0 (xh_ui h 39 35 (nI a)).2.1 39 35 = nI a := xh_up_s
  have o39 : ∀ j, j ≠ 35 → xg 0 (xh_ui h 39 35 (nI a)).2.1 39 j = xg 0 h.2.1 39 j := fun j hj => xh_up_k hj
  have oc : ∀ c j, c ≠ 39 → xg 0 (xh_ui h 39 35 (nI a)).2.1 c j = xg 0 h.2.1 c j := fun c j hc => congrFun (xh_up_o hc) j
  obtain ⟨h', g1, g2, g3, g4, g5, g6⟩ := ly_loop (d := d) (a := a) (k := k) k1 (by omega) (by omega) a 0 (xh_ui h 39 35 (nI a)) (by omega) (a_rq_ui hrq) hi1 s35
  have f1 : ∀ c j, c ≠ 53 → ¬ (c = 39 ∧ j = 35) → xg 0 h'.2.1 c j = xg 0 h.2.1 c j := by
    intro c j hc hcj
    rw [g4 c j hc]
    by_cases e : c = 39
    · subst e
      exact o39 j (fun z => hcj ⟨rfl, z⟩)
    · exact oc c j e
  have f35 : xg 0 h'.2.1 39 35 = nI a := by rw [g4 39 35 (by decide)]; exact s35
  have fcb : ∀ j, cb_v (xh_ui h 39 35 (nI a)) k.toInt j = cb_v h k.toInt j := by
    intro j
    unfold cb_v
    rw [o39 4 (by decide), oc 44 _ (by decide)]
  have hJ : a_J a_tb h' := by
    obtain ⟨j1, j2, j3, j4⟩ := hi.2
    refine ⟨?_, ?_, ?_, ?_⟩
    · rw [f1 14 8 (by decide) (by omega), f1 14 7 (by decide) (by omega)]
      exact j1
    · intro n hn2 s t hs ht hst
      rw [f1 39 33 (by decide) (by omega)] at hn2
      have g := j2 n hn2 s t hs ht hst
      dsimp only at g ⊢
      rw [f1 44 _ (by decide) (by omega), f1 44 _ (by decide) (by omega)]
      exact g
    · intro s t hs ht hst
      rw [f35, eaI] at hs ht
      have hs : s < a := by omega
      have ht : t < a := by omega
      dsimp only
      rw [g6 s (Nat.zero_le s) hs, g6 t (Nat.zero_le t) ht, fcb, fcb]
      unfold cb_v
      by_cases ek : k.toInt = -1
      · rw [if_pos ek, if_pos ek, hM2]
        by_cases e1 : (s : Int) = (a : Int) - 1
        · have e2 : t = s := and_full (m := (xg 0 h.2.1 39 4).toInt.toNat) (by rw [hM2]; omega) (by rw [hM2]; exact ht) hst
          rw [e2]
          exact Int.le_refl _
        · rw [if_neg e1]
          split <;> decide
      · rw [if_neg ek, if_neg ek]
        exact j2 k.toInt.toNat (by omega) s t (by omega) (by omega) hst
    · intro tl x y z hx hy hz hxy hyz
      rw [f1 14 7 (by decide) (by omega)] at hx hy hz
      unfold a_ge at hxy hyz ⊢
      rw [f1 19 _ (by decide) (by omega)] at hxy hyz ⊢
      exact j4 tl x y z hx hy hz hxy hyz
  refine ⟨none, h', ?_, rfl, ⟨⟨g2, hJ⟩, g3, ?_⟩, (xg 0 h.2.1 39 4).toInt.toNat, ?_, by omega, by omega, ?_⟩
  · refine xa_to 8 [(0, .ref 39)] [.int 999, .int (xg 0 h.2.1 39 3), .ref 39] h [] 20 hrq rfl trivial (fun _ => ?_)
    refine xa_run hrq rfl rfl kr ?_
    refine xa_to 24 [(2, .int 0), (1, .int k), (0, .ref 39)] [] (xh_ui h 39 35 (Int32.ofInt 1 <<< (xg 0 h.2.1 39 4 &&& 31))) [] 20 hrq rfl trivial (fun _ => ?_)
    rw [ea]
    exact g1
  · intro c j hc hm
    refine f1 c j (fun z => hm ?_) (fun z => hm ?_)
    · rw [z]
      exact List.mem_cons_of_mem _ List.mem_cons_self
    · rw [z.1, z.2]
      exact List.mem_cons_self
  · rw [f1 39 4 (by decide) (by omega)]
    exact emn
  · rw [hM2]
    exact f35
end XWG
end
section
section XWH
abbrev wg_md : List (Nat × Nat) := [(39, 0), (39, 35), (53, 0), (39, 46), (54, 0), (55, 0), (56, 0), (61, 0), (39, 47), (39, 48), (59, 0), (60, 0), (39, 49), (39, 50), (57, 0), (58, 0), (39, 51), (39, 52)]
def wg_Q (h0 : xh_H) (v : Option Value) (h' : xh_H) : Prop := hk wg_md h0 h' ∧ ∃ x : Int32, v = some (.int x) ∧ -2 ≤ x.toInt ∧ x.toInt ≤ 60
set_option maxRecDepth 100000 in
set_option maxHeartbeats 4000000 in
theorem wg_in {d u : Nat} {h0 : xh_H} (hn : 72 ≤ h0.1.length) (hu : u ≤ 60) : ∀ (n i : Nat) (h : xh_H), i + n = 12 → hk wg_md h0 h → xt_P d xi_X10_weigh xmi_X10_weigh 84 [(0, .ref 39), (1, .int (nI u)), (3, .int (nI i))] [] h (wg_Q h0) := by
  have fin : ∀ h, hk wg_md h0 h → xt_P d xi_X10_weigh xmi_X10_weigh 115 [(0, .ref 39), (1, .int (nI u))] [] h (wg_Q h0) := by
    intro h hk0
    have b50 := a_flx (c := 39) (k := 50) (lo := -2147483648) (hi := 100000) hk0.1.1 (hk_n hk0 hn) rfl rfl (by decide)
    refine xa_tn 126 [0, 1] [(0, .ref 39), (1, .int (nI u))] [] (xh_ui h 58 (12 : Int32).toNatClampNeg (xg 0 h.2.1 39 50)) [] 8 (hk_q hk0 hn) rfl ⟨by decide, trivial⟩ (fun _ => ?_)
    have hk1 : hk wg_md h0 (xh_ui h 58 (12 : Int32).toNatClampNeg (xg 0 h.2.1 39 50)) := hk_ui (s := (1, 13)) (lo := -2147483648) (hi := 100000) hk0 hn rfl rfl b50.1 b50.2 rfl rfl
    generalize xh_ui h 58 (12 : Int32).toNatClampNeg (xg 0 h.2.1 39 50) = h1 at hk1 ⊢
    have b4 := a_flx (c := 39) (k := 4) (lo := 1) (hi := 12) hk1.1.1 (hk_n hk1 hn) rfl rfl (by decide)
    refine xa_tn 134 [0, 1] [(0, .ref 39), (1, .int (nI u))] [] (xh_ui h1 39 52 (xg 0 h1.2.1 39 4)) [] 6 (hk_q hk1 hn) rfl trivial (fun _ => ?_)
    have hk2 : hk wg_md h0 (xh_ui h1 39 52 (xg 0 h1.2.1 39 4)) := hk_ui (s := (0, 10)) (lo := 0) (hi := 12) hk1 hn rfl rfl (by omega) b4.2 rfl rfl
    generalize xh_ui h1 39 52 (xg 0 h1.2.1 39 4) = h2 at hk2 ⊢
    refine xa_tn 140 [] [] [.int (nI u)] (xh_ui h2 39 51 (Int32.ofInt 1)) [] 6 (hk_q hk2 hn) rfl ⟨Or.inr rfl, trivial⟩ (fun _ => ?_)
    have ui := nI_toInt (n := u) (by omega)
    exact xp_ret rfl rfl rfl ⟨hk_ui (s := (0, 10)) (lo := 0) (hi := 1) hk2 hn rfl rfl (by decide) (by decide) rfl rfl, _, rfl, by omega, by omega⟩
  intro n
  induction n with
  | zero =>
    intro i h hi hk0
    have e : i = 12 := by omega
    subst e
    have b4 := a_flx (c := 39) (k := 4) (lo := 1) (hi := 12) hk0.1.1 (hk_n hk0 hn) rfl rfl (by decide)
    refine xa_tn 115 [0, 1] [(0, .ref 39), (1, .int (nI u))] [] h [true] 6 (hk_q hk0 hn) rfl ⟨xge_t (show (xg 0 h.2.1 39 4).toInt ≤ (12 : Int) by omega), trivial⟩ (fun _ => ?_)
    exact fin h hk0
  | succ n ih =>
    intro i h hi hk0
    cases c1 : xe_c .ge (nI i) (xg 0 h.2.1 39 4) with
    | true =>
      refine xa_tn 115 [0, 1] [(0, .ref 39), (1, .int (nI u))] [] h [true] 6 (hk_q hk0 hn) rfl ⟨c1, trivial⟩ (fun _ => ?_)
      exact fin h hk0
    | false =>
      have e1 : nI i + Int32.ofInt 1 = nI (i + 1) := nI_1 i
      have eic : (nI i).toNatClampNeg = i := nI_clamp (by omega)
      have g54 := a_elx (c := 54) (k := i) (lo := 0) (hi := 11) hk0.1.1 (hk_n hk0 hn) rfl rfl (by omega)
      obtain ⟨t, et, t11, t31⟩ := a_nk (x := xg 0 h.2.1 54 i) (m := 11) g54.1 g54.2
      have g57 := a_elx (c := 57) (k := t) (lo := 0) (hi := 100) hk0.1.1 (hk_n hk0 hn) rfl rfl (by omega)
      refine xa_tn 84 [0, 1, 3] [(0, .ref 39), (1, .int (nI u)), (3, .int ((nI i) + Int32.ofInt 1))] [] (xh_ui h 58 (nI i).toNatClampNeg (xg 0 h.2.1 57 (xg 0 h.2.1 54 (nI i).toNatClampNeg).toNatClampNeg)) [false] 19 (hk_q hk0 hn) rfl ⟨c1, xin_n (by omega) (by omega), (show xe_in (xg 0 h.2.1 54 (nI i).toNatClampNeg) 12 = true by rw [eic, et]; exact xin_n (by omega) (by omega)), xin_n (by omega) (by omega), trivial⟩ (fun _ => ?_)
      rw [e1, eic, et, nI_clamp t31]
      exact ih (i + 1) _ (by omega) (hk_ui (s := (1, 13)) (lo := -2147483648) (hi := 100000) hk0 hn rfl rfl (by omega) (by omega) rfl rfl)
set_option maxRecDepth 100000 in
set_option maxHeartbeats 4000000 in
theorem wg_loop {d : Nat} {h0 : xh_H} (hn : 72 ≤ h0.1.length) : ∀ (n u : Nat) (h : xh_H), u + n = 61 → hk wg_md h0 h → xt_P (d + 3) xi_X10_weigh xmi_X10_weigh 56 [(0, .ref 39), (1, .int (nI u))] [] h (wg_Q h0) := by
  intro n
  induction n with
  | zero =>
    intro u h hu hk0
    have e : u = 61 := by omega
    subst e
    refine xa_tn 148 [] [] [.int (Int32.ofInt (-1))] h [true] 6 (hk_q hk0 hn) rfl ⟨by decide, trivial⟩ (fun _ => ?_)
    exact xp_ret rfl rfl rfl ⟨hk0, _, rfl, by decide, by decide⟩
  | succ n ih =>
    intro u h hu hk0
    have ui := nI_toInt (n := u) (by omega)
    have e1 : nI u + Int32.ofInt 1 = nI (u + 1) := nI_1 u
    refine xa_tn 64 [0, 1] [(0, .ref 39), (1, .int (nI u))] [.int (nI u), .ref 39] h [false] 7 (hk_q hk0 hn) rfl ⟨xgt_f (show (nI u).toInt ≤ (60 : Int) by omega), trivial⟩ (fun hq => ?_)
    refine xp_int (C := aC_h_X10_trySum) (lo := -2) (hi := 1) (σ := fun _ => 0) as_h_X10_trySum hq hk0.1 rfl rfl rfl (by show 2 ≤ d + 2; omega) ⟨a_av (by decide) hq.1, a_ai (by omega) (by omega), trivial⟩ a_fp0 rfl (fun v h1 v1 v2 i1 l1 f1 q1 => ?_)
    have hk1 : hk wg_md h0 h1 := hk_c hk0 i1 l1 f1 (by decide)
    cases c1 : xe_c .ne v 0 with
    | false =>
      refine xa_tn 56 [0, 1] [(0, .ref 39), (1, .int ((nI u) + Int32.ofInt 1))] [] h1 [false] 8 q1 rfl ⟨c1, trivial⟩ (fun _ => ?_)
      rw [e1]
      exact ih (u + 1) h1 (by omega) hk1
    | true =>
      cases c2 : xe_c .ge v 0 with
      | false =>
        refine xa_tn 81 [] [] [.int (-2)] h1 [true, false] 8 q1 rfl ⟨c1, c2, trivial⟩ (fun _ => ?_)
        exact xp_ret rfl rfl rfl ⟨hk1, _, rfl, by decide, by decide⟩
      | true =>
        refine xa_tn 84 [0, 1, 3] [(0, .ref 39), (1, .int (nI u)), (3, .int (Int32.ofInt 0))] [] h1 [true, true] 9 q1 rfl ⟨c1, c2, trivial⟩ (fun _ => ?_)
        exact wg_in hn (by omega) 12 0 h1 rfl hk1
/-- X10.weigh -/
def aC_r_X10_weigh : aC := (xi_X10_weigh, 3, [(2, 39, 0, none, [], [])], [(some (0, -2, 60, none, [], []), [])], wg_md, [])
set_option maxRecDepth 100000 in
set_option maxHeartbeats 4000000 in
theorem as_r_X10_weigh : a_spec a_tb aC_r_X10_weigh := by
  refine sp_of (mi := xmi_X10_weigh) rfl ?_
  intro d vs h σ hd hi hn ha _
  match vs, ha with
  | [v0], ha =>
    obtain ⟨⟨q, rfl, hq⟩, -⟩ := ha
    have eq : q = 39 := a_r_ob (t := 39) (by decide) hq
    subst eq
    have hd : 3 ≤ d := hd
    obtain ⟨d, rfl⟩ : ∃ d', d = d' + 3 := ⟨d - 3, by omega⟩
    have main : xt_P (d + 3) xi_X10_weigh xmi_X10_weigh 0 [(0, .ref 39)] [] h (wg_Q h) := by
      refine xa_tn 6 [0] [(0, .ref 39)] [.ref 39] (xh_ui h 39 0 (Int32.ofInt 0)) [] 6 (a_rq_of hi.1 hn) rfl trivial (fun q1 => ?_)
      have hk1 : hk wg_md h (xh_ui h 39 0 (Int32.ofInt 0)) := hk_ui (s := (0, 10)) (lo := 0) (hi := 1) (hk_0 hi) hn rfl rfl (by decide) (by decide) rfl rfl
      generalize xh_ui h 39 0 (Int32.ofInt 0) = h1 at hk1 q1 ⊢
      refine xp_run q1 rfl rfl (ly_run (d := d + 1) hk1.1 q1.1) ?_
      rintro v h2 ⟨rfl, k2, m, m4, m1, m12, m35⟩
      have hk2 : hk wg_md h h2 := hk_t hk1 k2 (by decide)
      have q2 := hk_q hk2 hn
      refine xa_tn 10 [0] [(0, .ref 39)] [.ref 39] h2 [] 3 q2 rfl trivial (fun _ => ?_)
      refine xp_int (C := aC_m_X10_isLined) (lo := 0) (hi := 1) (σ := fun _ => 0) as_m_X10_isLined q2 hk2.1 rfl rfl rfl (by show 1 ≤ d + 2; omega) ⟨a_av (by decide) q2.1, trivial⟩ a_fp0 rfl (fun x h3 x1 x2 i3 l3 f3 q3 => ?_)
      have hk3 : hk wg_md h h3 := hk_c hk2 i3 l3 f3 (fun _ z => nomatch z)
      have n4 : xg 0 h3.2.1 39 4 = nI m := by rw [fr_nil f3 rfl]; exact m4
      have n35 : xg 0 h3.2.1 39 35 = nI (2 ^ m) := by rw [fr_nil f3 rfl]; exact m35
      have p12m : 2 ^ m ≤ 4096 := Nat.pow_le_pow_right (n := 2) (by decide) m12
      have pm0 : 0 < 2 ^ m := Nat.pow_pos (by decide)
      have e35 : xg 0 h3.2.1 39 35 - Int32.ofInt 1 = nI (2 ^ m - 1) := by
        obtain ⟨j, ej⟩ : ∃ j, 2 ^ m = j + 1 := ⟨2 ^ m - 1, by omega⟩
        rw [n35, ej]
        exact nI_sub1
      have hin : xe_in ((xg 0 h3.2.1 39 35) - (Int32.ofInt 1)) 4096 = true := by rw [e35]; exact xin_n (by omega) (by omega)
      cases c1 : xe_c .eq x 0 with
      | true =>
        refine xa_tn 40 [] [] [.int (Int32.ofInt (-1))] h3 [true] 4 q3 rfl ⟨c1, trivial⟩ (fun _ => ?_)
        exact xp_ret rfl rfl rfl ⟨hk3, _, rfl, by decide, by decide⟩
      | false =>
        cases c2 : xe_c .ne (xg 0 h3.2.1 53 (Int32.ofInt 0).toNatClampNeg) 0 with
        | true =>
          refine xa_tn 40 [] [] [.int (Int32.ofInt (-1))] h3 [false, true] 9 q3 rfl ⟨c1, by decide, c2, trivial⟩ (fun _ => ?_)
          exact xp_ret rfl rfl rfl ⟨hk3, _, rfl, by decide, by decide⟩
        | false =>
          cases c3 : xe_c .ne (xg 0 h3.2.1 53 ((xg 0 h3.2.1 39 35) - (Int32.ofInt 1)).toNatClampNeg) 0 with
          | false =>
            refine xa_tn 40 [] [] [.int (Int32.ofInt (-1))] h3 [false, false, false] 17 q3 rfl ⟨c1, by decide, c2, hin, c3, trivial⟩ (fun _ => ?_)
            exact xp_ret rfl rfl rfl ⟨hk3, _, rfl, by decide, by decide⟩
          | true =>
            refine xa_tn 42 [0] [(0, .ref 39)] [.ref 39] h3 [false, false, true] 17 q3 rfl ⟨c1, by decide, c2, hin, c3, trivial⟩ (fun _ => ?_)
            refine xp_void (C := aC_h_X10_findSorts) (σ := fun _ => 0) (P := []) as_h_X10_findSorts q3 hk3.1 rfl rfl rfl (by show 1 ≤ d + 2; omega) ⟨a_av (by decide) q3.1, trivial⟩ a_fp0 rfl (fun h4 _ i4 l4 f4 q4 => ?_)
            have hk4 : hk wg_md h h4 := hk_c hk3 i4 l4 f4 (by decide)
            have o4 : xg 0 h4.2.1 39 4 = nI m := by rw [fr_g f4 rfl rfl]; exact n4
            have o35 : xg 0 h4.2.1 39 35 = nI (2 ^ m) := by rw [fr_g f4 rfl rfl]; exact n35
            refine xa_tn 46 [0] [(0, .ref 39)] [.ref 39] h4 [] 3 q4 rfl trivial (fun _ => ?_)
            refine xp_run q4 rfl rfl (en_run (d := d) i4 q4.1 m12 o4 o35) ?_
            rintro v h5 ⟨rfl, k5⟩
            have hk5 : hk wg_md h h5 := hk_t hk4 k5 (by decide)
            refine xa_tn 56 [0, 1] [(0, .ref 39), (1, .int (Int32.ofInt 0))] [] (xh_ui h5 39 49 (Int32.ofInt 0)) [] 7 (hk_q hk5 hn) rfl trivial (fun _ => ?_)
            exact wg_loop hn 61 0 _ rfl (hk_ui (s := (0, 10)) (lo := -2147483648) (hi := 2147483647) hk5 hn rfl rfl (by decide) (by decide) rfl rfl)
    exact xp_mono main (fun v h' g => by
      obtain ⟨g1, x, rfl, x1, x2⟩ := g
      exact ⟨g1, rok_i x1 x2⟩)
end XWH
end
section
section XSH
variable {tb : aT} {mid d : Nat} {mi : xm_M} {pc : Nat} {lv : List (Nat × Value)} {st : List Value} {h : xh_H} {Q : Option Value → xh_H → Prop}
/-- a call that answers a long, by its contract -/
theorem xp_long {C : aC} {r : xr_R} {mj : xm_M} {As q : List Value} {σ : aN → Int} {lo hi : Int} (hC : a_spec tb C) (hq : a_rq tb h) (hi0 : a_inv tb h) (hr : xC mid pc = some r) (hid : C.1 = r.2.2.1) (he : xa_c r st = some (mj, As, q)) (hd : C.2.1 ≤ d) (ha : a_st σ h.1.length C.2.2.1 As) (hp : a_fp C.2.2.2.2.2 h) (hret : C.2.2.2.1 = [(some (1, lo, hi, none, [], []), [])])
    (k : ∀ (x : Int64) (h' : xh_H), a_inv tb h' → h'.1 = h.1 → a_fr C.2.2.2.2.1 h h' → a_rq tb h' → xt_P (d + 1) mid mi (pc + 3) lv (.long x :: q) h' Q) : xt_P (d + 1) mid mi pc lv st h Q := by
  refine xp_by hC hq hi0 hr hid he hd ha hp (fun v h' p hq' => ?_)
  obtain ⟨p1, p2, ⟨t, ht, p3⟩, p4⟩ := p
  rw [hret] at ht
  cases List.mem_singleton.mp ht
  obtain ⟨⟨w, rfl, x, rfl, -⟩, -⟩ := p3
  exact k x h' p1 p2 p4 hq'
theorem lr (x : Int64) : -9223372036854775808 ≤ x.toInt ∧ x.toInt ≤ 9223372036854775807 := by
  have h1 := x.le_toInt
  have h2 := x.toInt_lt
  omega
theorem a_al {σ : aN → Int} {n : Nat} {x : Int64} : a_v σ n (1, -9223372036854775808, 9223372036854775807, none, [], []) (.long x) := ⟨x, rfl, (lr x).1, (lr x).2⟩
theorem pcr_lt {s k : Nat} (hk : s.testBit k = false) : ∀ j, k < j → pcr s j + 1 ≤ j := by
  intro j
  induction j with
  | zero => intro h; omega
  | succ j ih =>
    intro h
    show pcr s j + (s.testBit j).toNat + 1 ≤ j + 1
    have h1 : (s.testBit j).toNat ≤ 1 := by cases s.testBit j <;> decide
    by_cases e : k = j
    · subst e
      rw [hk]
      have := pcr_le s k
      show pcr s k + 0 + 1 ≤ k + 1
      omega
    · have := ih (by omega)
      omega
theorem pcr_hi {s m : Nat} (hs : s < 2 ^ m) : ∀ j, pcr s (m + j) = pcr s m := by
  intro j
  induction j with
  | zero => rfl
  | succ j ih =>
    show pcr s (m + j) + (s.testBit (m + j)).toNat = _
    rw [ih, Nat.testBit_lt_two_pow (Nat.lt_of_lt_of_le hs (Nat.pow_le_pow_right (by decide) (by omega)))]
    rfl
set_option maxRecDepth 100000 in
set_option maxHeartbeats 4000000 in
theorem or_loop {d k m : Nat} {h0 : xh_H} (hn : 72 ≤ h0.1.length) (hm : m ≤ 12) (hkm : k < m) (hmm : xg 0 h0.2.1 14 7 = nI m) (hf : xg 0 h0.2.1 14 8 = nI (2 ^ m - 1)) : ∀ (n s : Nat) (f : Int64) (h : xh_H), s + n = 2 ^ m → hk [] h0 h → xt_P (d + 2) xi_X2_ordersOf xmi_X2_ordersOf 5 [(0, .ref 14), (1, .int (nI k)), (2, .long f), (4, .int (nI s))] [] h (fun v h' => hk [] h0 h' ∧ ∃ x : Int64, v = some (.long x)) := by
  have p12m : 2 ^ m ≤ 4096 := Nat.pow_le_pow_right (n := 2) (by decide) hm
  have pm0 : 0 < 2 ^ m := Nat.pow_pos (by decide)
  have fi := nI_toInt (n := 2 ^ m - 1) (by omega)
  have ki := nI_toInt (n := k) (by omega)
  intro n
  induction n with
  | zero =>
    intro s f h hs hk0
    have si := nI_toInt (n := s) (by omega)
    refine xa_tn 61 [] [] [.long f] h [true] 7 (hk_q hk0 hn) rfl ⟨xgt_t (show (xg 0 h.2.1 14 8).toInt < (nI s).toInt by rw [hk_g (c := 14) (k := 8) hk0 rfl rfl, hf, fi, si]; omega), trivial⟩ (fun _ => ?_)
    exact xp_ret rfl rfl rfl ⟨hk0, f, rfl⟩
  | succ n ih =>
    intro s f h hs hk0
    have si := nI_toInt (n := s) (by omega)
    have e1 : nI s + Int32.ofInt 1 = nI (s + 1) := nI_1 s
    refine xa_tn 18 [0, 1, 2, 4] [(0, .ref 14), (1, .int (nI k)), (2, .long f), (4, .int (nI s))] [.int (nI k), .int (nI s), .ref 14] h [false] 9 (hk_q hk0 hn) rfl ⟨xgt_f (show (nI s).toInt ≤ (xg 0 h.2.1 14 8).toInt by rw [hk_g (c := 14) (k := 8) hk0 rfl rfl, hf, fi, si]; omega), trivial⟩ (fun hq => ?_)
    cases ts : s.testBit k with
    | true =>
      have t0 : xt_P (d + 1) xi_X2_turnsBy xmi_X2_turnsBy 0 [(0, .ref 14), (1, .int (nI s)), (2, .int (nI k))] [] h (fun v h' => h = h' ∧ v = some (.int 0)) := by
        have bb := nI_b0 (a := s) (k := k) (by omega) (by omega)
        rw [ts] at bb
        refine xa_tn 39 [] [] [.int (Int32.ofInt 0)] h [true] 9 hq rfl ⟨(show xe_c .ne (((nI s) >>> ((nI k) &&& 31)) &&& (Int32.ofInt 1)) 0 = true by rw [bb]; rfl), trivial⟩ (fun _ => ?_)
        exact xp_ret rfl rfl rfl ⟨rfl, rfl⟩
      refine xp_run hq rfl rfl t0 ?_
      rintro v h1 ⟨rfl, rfl⟩
      refine xa_tn 5 [0, 1, 2, 4] [(0, .ref 14), (1, .int (nI k)), (2, .long f), (4, .int ((nI s) + Int32.ofInt 1))] [] h [true] 5 hq rfl ⟨rfl, trivial⟩ (fun _ => ?_)
      rw [e1]
      exact ih (s + 1) f h (by omega) hk0
    | false =>
      refine xp_int (C := aC_m_X2_turnsBy) (lo := 0) (hi := 1) (σ := fun _ => 0) as_m_X2_turnsBy hq hk0.1 rfl rfl rfl (by show 1 ≤ d + 1; omega) ⟨a_av (by decide) hq.1, a_ai (by omega) (by omega), a_ai (by omega) (by omega), trivial⟩ a_fp0 rfl (fun x h1 x1 x2 i1 l1 f1 q1 => ?_)
      have hk1 : hk [] h0 h1 := hk_c hk0 i1 l1 f1 (fun _ z => z)
      cases c1 : xe_c .eq x 0 with
      | true =>
        refine xa_tn 5 [0, 1, 2, 4] [(0, .ref 14), (1, .int (nI k)), (2, .long f), (4, .int ((nI s) + Int32.ofInt 1))] [] h1 [true] 5 q1 rfl ⟨c1, trivial⟩ (fun _ => ?_)
        rw [e1]
        exact ih (s + 1) f h1 (by omega) hk1
      | false =>
        refine xa_tn 26 [0, 1, 2, 4] [(0, .ref 14), (1, .int (nI k)), (2, .long f), (4, .int (nI s))] [.int (nI s)] h1 [false] 4 q1 rfl ⟨c1, trivial⟩ (fun _ => ?_)
        refine xp_run (Q1 := fun v h' => h1 = h' ∧ v = some (.int (bc (nI s)))) q1 rfl rfl ⟨_, _, bc_run (d + 1) (nI s) h1, rfl, rfl⟩ ?_
        rintro v h2 ⟨rfl, rfl⟩
        have eb : bc (nI s) = nI (pcr s 12) := of_decide_eq_true (List.all_eq_true.mp bc_pc s (List.mem_range.mpr (by omega)))
        have es : pcr s 12 = pcr s m := by
          have := pcr_hi (s := s) (m := m) (by omega) (12 - m)
          rw [show m + (12 - m) = 12 by omega] at this
          exact this
        have lt := pcr_lt ts m hkm
        rw [eb, es]
        generalize pcr s m = b at lt
        have m7 : xg 0 h1.2.1 14 7 = nI m := (hk_g (c := 14) (k := 7) hk1 rfl rfl).trans hmm
        have e5 : (xg 0 h1.2.1 14 7 - Int32.ofInt 1) - nI b = nI (m - 1 - b) := by
          obtain ⟨j, ej⟩ : ∃ j, m = (j + b) + 1 := ⟨m - 1 - b, by omega⟩
          have e6 : m - 1 - b = j := by omega
          rw [m7, e6, ej, nI_sub1, ← nI_add, Int32.add_sub_cancel]
        refine xa_tn 5 [0, 1, 2, 4] [(0, .ref 14), (1, .int (nI k)), (2, .long (f + ((xo_f (nI b).toNatClampNeg) * (xo_f (((xg 0 h1.2.1 14 7) - (Int32.ofInt 1)) - (nI b)).toNatClampNeg)))), (4, .int ((nI s) + Int32.ofInt 1))] [] h1 [] 20 q1 rfl ⟨xin_n (by omega) (by omega), (show xe_in (((xg 0 h1.2.1 14 7) - (Int32.ofInt 1)) - (nI b)) 13 = true by rw [e5]; exact xin_n (by omega) (by omega)), trivial⟩ (fun _ => ?_)
        rw [e1]
        exact ih (s + 1) _ h1 (by omega) hk1
set_option maxRecDepth 100000 in
set_option maxHeartbeats 4000000 in
/-- Powers.upperShare of a member -/
theorem us_run {d k m : Nat} {w : Int32} {h : xh_H} (hi : a_inv a_tb h) (hn : 72 ≤ h.1.length) (hm : m ≤ 12) (hkm : k < m) (hmm : xg 0 h.2.1 14 7 = nI m) : xt_P (d + 3) xi_X2_upperShare xmi_X2_upperShare 0 [(0, .ref 14), (1, .int (nI k)), (2, .int w)] [] h (fun v h' => hk [] h h' ∧ ∃ x : Int64, v = some (.long x)) := by
  have hq := a_rq_of hi.1 hn
  have ki := nI_toInt (n := k) (by omega)
  have p12m : 2 ^ m ≤ 4096 := Nat.pow_le_pow_right (n := 2) (by decide) hm
  have pm0 : 0 < 2 ^ m := Nat.pow_pos (by decide)
  have hf : xg 0 h.2.1 14 8 = nI (2 ^ m - 1) := by
    apply Int32.toInt_inj.mp
    rw [hi.2.1, hmm, nI_toInt (by omega), nI_toInt (by omega)]
    show ((2 ^ m : Nat) : Int) - 1 = ((2 ^ m - 1 : Nat) : Int)
    omega
  cases c1 : xe_c .ne w 0 with
  | false =>
    refine xa_tn 11 [] [] [.long ((xg 0 h.2.1 17 (nI k).toNatClampNeg).toInt64)] h [false] 9 hq rfl ⟨c1, xin_n (by omega) (by omega), trivial⟩ (fun _ => ?_)
    exact xp_ret rfl rfl rfl ⟨hk_0 hi, _, rfl⟩
  | true =>
    cases c2 : xe_c .ne w (Int32.ofInt 1) with
    | false =>
      refine xa_tn 19 [] [] [.int (nI k), .ref 14] h [true, false] 9 hq rfl ⟨c1, c2, trivial⟩ (fun _ => ?_)
      have oo : xt_P (d + 2) xi_X2_ordersOf xmi_X2_ordersOf 0 [(0, .ref 14), (1, .int (nI k))] [] h (fun v h' => hk [] h h' ∧ ∃ x : Int64, v = some (.long x)) := by
        refine xa_tn 5 [0, 1, 2, 4] [(0, .ref 14), (1, .int (nI k)), (2, .long 0), (4, .int (Int32.ofInt 0))] [] h [] 6 hq rfl trivial (fun _ => ?_)
        exact or_loop hn hm hkm hmm hf (2 ^ m) 0 0 h (by omega) (hk_0 hi)
      refine xp_run hq rfl rfl oo ?_
      rintro v h1 ⟨k1, x, rfl⟩
      refine xa_tn 30 [] [] [.long x] h1 [] 3 (hk_q k1 hn) rfl trivial (fun _ => ?_)
      exact xp_ret rfl rfl rfl ⟨k1, x, rfl⟩
    | true =>
      refine xa_tn 27 [] [] [.int (nI k), .ref 14] h [true, true] 9 hq rfl ⟨c1, c2, trivial⟩ (fun _ => ?_)
      refine xp_long (C := aC_m_X2_partsOf) (σ := fun _ => 0) as_m_X2_partsOf hq hi rfl rfl rfl (by show 1 ≤ d + 2; omega) ⟨a_av (by decide) hq.1, a_ai (by omega) (by omega), trivial⟩ a_fp0 rfl (fun x h1 i1 l1 f1 q1 => ?_)
      exact xp_ret rfl rfl rfl ⟨hk_c (hk_0 hi) i1 l1 f1 (fun _ z => z), x, rfl⟩
set_option maxRecDepth 100000 in
set_option maxHeartbeats 4000000 in
/-- X9.powersToday -/
theorem pt_run {d : Nat} {h : xh_H} (hi : a_inv a_tb h) (hn : 72 ≤ h.1.length) : xt_P (d + 5) xi_X9_powersToday xmi_X9_powersToday 0 [(0, .ref 0)] [] h (fun v h' => hk st_md h h' ∧ v = some (.ref 14) ∧ xg 0 h'.2.1 14 7 = xg 0 h.2.1 0 9) := by
  have hq := a_rq_of hi.1 hn
  refine xa_tn 9 [0] [(0, .ref 0)] [.int (xg 0 h.2.1 0 10), .ref 0, .ref 14] h [] 7 hq rfl trivial (fun _ => ?_)
  have dr := ar_rng (xg 0 h.2.1 0 10)
  refine xp_ref (C := aC_m_X9_inForce) (t := 11) (σ := fun _ => 0) as_m_X9_inForce hq hi rfl rfl rfl (Nat.zero_le _) ⟨a_av (by decide) hq.1, a_ai dr.1 dr.2, trivial⟩ a_fp0 rfl (fun lw h1 lw1 i1 l1 f1 q1 => ?_)
  have hk1 : hk st_md h h1 := hk_c (hk_0 hi) i1 l1 f1 (fun _ z => nomatch z)
  have sb := a_flx (c := 0) (k := 9) (lo := 1) (hi := 12) i1.1 q1.1 rfl rfl (by decide)
  have e9 : xg 0 h1.2.1 0 9 = xg 0 h.2.1 0 9 := fr_nil f1 rfl
  refine xa_tn 16 [0] [(0, .ref 0)] [.int (xg 0 h1.2.1 0 9), .ref lw, .ref 14] h1 [] 4 q1 rfl trivial (fun _ => ?_)
  obtain ⟨m, em, m12, m31⟩ := a_nk (x := xg 0 h1.2.1 0 9) (m := 12) (by omega) sb.2
  have mi := nI_toInt (n := m) m31
  rw [em] at sb
  rw [em]
  refine xp_run q1 rfl rfl (sy_run (d := d) (m := m) i1 q1.1 (by rw [l1]; exact lw1) (by omega) m12) ?_
  rintro v h2 ⟨rfl, k2, e7⟩
  have hk2 : hk st_md h h2 := hk_t hk1 k2 (fun _ z => z)
  refine xa_tn 23 [] [] [.ref 14] h2 [] 4 (hk_q hk2 hn) rfl trivial (fun _ => ?_)
  exact xp_ret rfl rfl rfl ⟨hk2, rfl, by rw [e7, ← em, e9]⟩
theorem lg_ne {g : Int64} (c : xe_c .gt (lg_cmp g 0) 0 = true) : g ≠ 0 := by
  intro e
  rw [e] at c
  revert c
  decide
set_option maxRecDepth 100000 in
set_option maxHeartbeats 4000000 in
/-- X9.share, where it answers -/
theorem s9_run {d k w z : Nat} {h : xh_H} (hi : a_inv a_tb h) (hn : 72 ≤ h.1.length) (hk' : (k : Int) < (xg 0 h.2.1 0 9).toInt) (hw : w ≤ 2) (hz : z ≤ 1) : xt_P (d + 6) xi_X9_share xmi_X9_share 0 [(0, .ref 0), (1, .int (nI k)), (2, .int (nI w)), (3, .int (nI z))] [] h (fun v h' => hk st_md h h' ∧ ∃ x : Int64, v = some (.long x)) := by
  have hq := a_rq_of hi.1 hn
  have sb := a_flx (c := 0) (k := 9) (lo := 1) (hi := 12) hi.1 hn rfl rfl (by decide)
  obtain ⟨m, em, m12, m31⟩ := a_nk (x := xg 0 h.2.1 0 9) (m := 12) (by omega) sb.2
  have mi := nI_toInt (n := m) m31
  rw [em, mi] at hk'
  have ki := nI_toInt (n := k) (by omega)
  have wi := nI_toInt (n := w) (by omega)
  have zi := nI_toInt (n := z) (by omega)
  have z0 : (0 : Int32).toInt = 0 := rfl
  have im : xt_P (d + 5) xi_X9_isMember xmi_X9_isMember 0 [(0, .ref 0), (1, .int (nI k))] [] h (fun v h' => h = h' ∧ v = some (.int 1)) := by
    refine xa_tn 17 [] [] [.int (Int32.ofInt 1)] h [false, false] 10 hq rfl ⟨xlt_f (by omega), xge_f (show (nI k).toInt < (xg 0 h.2.1 0 9).toInt by rw [em, mi]; omega), trivial⟩ (fun _ => ?_)
    exact xp_ret rfl rfl rfl ⟨rfl, rfl⟩
  refine xa_tn 2 [0, 1, 2, 3] [(0, .ref 0), (1, .int (nI k)), (2, .int (nI w)), (3, .int (nI z))] [.int (nI k), .ref 0] h [] 4 hq rfl trivial (fun _ => ?_)
  refine xp_run hq rfl rfl im ?_
  rintro v h1 ⟨rfl, rfl⟩
  refine xa_tn 35 [0, 1, 2, 3] [(0, .ref 0), (1, .int (nI k)), (2, .int (nI w)), (3, .int (nI z))] [.ref 0] h [false, false, false, false, true] 14 hq rfl ⟨by decide, xlt_f (by omega), xgt_f (show (nI w).toInt ≤ (2 : Int) by omega), xlt_f (by omega), xle_t (show (nI z).toInt ≤ (1 : Int) by omega), trivial⟩ (fun _ => ?_)
  refine xp_run hq rfl rfl (pt_run (d := d) hi hn) ?_
  rintro v h1 ⟨hk1, rfl, e7⟩
  have q1 := hk_q hk1 hn
  refine xa_tn 44 [2, 3, 4] [(2, .int (nI w)), (3, .int (nI z)), (4, .ref 14)] [.int (nI w), .int (nI k), .ref 14] h1 [] 6 q1 rfl trivial (fun _ => ?_)
  refine xp_run q1 rfl rfl (us_run (d := d + 2) (k := k) (m := m) (w := nI w) hk1.1 q1.1 m12 (by omega) (e7.trans em)) ?_
  rintro v h2 ⟨k2, u, rfl⟩
  have hk2 : hk st_md h h2 := hk_t hk1 k2 (fun _ z => nomatch z)
  have q2 := hk_q hk2 hn
  refine xa_tn 52 [3, 5] [(3, .int (nI z)), (5, .long u)] [.int (nI w), .ref 14] h2 [] 5 q2 rfl trivial (fun _ => ?_)
  refine xp_long (C := aC_m_X2_lowerShare) (σ := fun _ => 0) as_m_X2_lowerShare q2 hk2.1 rfl rfl rfl (Nat.zero_le _) ⟨a_av (by decide) q2.1, a_ai (by omega) (by omega), trivial⟩ a_fp0 rfl (fun l h3 i3 l3 f3 q3 => ?_)
  have hk3 : hk st_md h h3 := hk_c hk2 i3 l3 f3 (fun _ z => nomatch z)
  refine xa_tn 61 [3, 5, 7] [(3, .int (nI z)), (5, .long u), (7, .long l)] [.long l, .long u] h3 [] 5 q3 rfl trivial (fun _ => ?_)
  refine xp_long (C := aC_gcd) (σ := fun _ => 0) as_gcd q3 i3 rfl rfl rfl (Nat.zero_le _) ⟨a_al, a_al, trivial⟩ a_fp0 rfl (fun g h4 i4 l4 f4 q4 => ?_)
  have hk4 : hk st_md h h4 := hk_c hk3 i4 l4 f4 (fun _ z => nomatch z)
  refine xa_tn 70 [3, 5, 7, 9] [(3, .int (nI z)), (5, .long u), (7, .long l), (9, .long g)] [.int (lg_cmp u 0)] h4 [] 6 q4 rfl trivial (fun _ => ?_)
  have small : xt_P (d + 6) xi_X9_share xmi_X9_share 80 [(3, .int (nI z))] [] h4 (fun v h' => hk st_md h h' ∧ ∃ x : Int64, v = some (.long x)) := by
    cases c3 : xe_c .ne (nI z) 0 with
    | false =>
      refine xa_tn 89 [] [] [.long 0] h4 [false] 6 q4 rfl ⟨c3, trivial⟩ (fun _ => ?_)
      exact xp_ret rfl rfl rfl ⟨hk4, _, rfl⟩
    | true =>
      refine xa_tn 89 [] [] [.long 1] h4 [true] 5 q4 rfl ⟨c3, trivial⟩ (fun _ => ?_)
      exact xp_ret rfl rfl rfl ⟨hk4, _, rfl⟩
  cases c1 : xe_c .eq (lg_cmp u 0) 0 with
  | true =>
    refine xa_tn 80 [3] [(3, .int (nI z))] [] h4 [true] 3 q4 rfl ⟨c1, trivial⟩ (fun _ => ?_)
    exact small
  | false =>
    cases c2 : xe_c .gt (lg_cmp g 0) 0 with
    | false =>
      refine xa_tn 80 [3] [(3, .int (nI z))] [] h4 [false, false] 7 q4 rfl ⟨c1, c2, trivial⟩ (fun _ => ?_)
      exact small
    | true =>
      refine xa_tn 90 [3, 5, 7, 9] [(3, .int (nI z)), (5, .long u), (7, .long l), (9, .long g)] [] h4 [false, true] 7 q4 rfl ⟨c1, c2, trivial⟩ (fun _ => ?_)
      have gn := lg_ne c2
      cases c3 : xe_c .ne (nI z) 0 with
      | false =>
        refine xa_tn 107 [] [] [.long (u / g)] h4 [false] 8 q4 rfl ⟨c3, gn, trivial⟩ (fun _ => ?_)
        exact xp_ret rfl rfl rfl ⟨hk4, _, rfl⟩
      | true =>
        refine xa_tn 107 [] [] [.long (l / g)] h4 [true] 7 q4 rfl ⟨c3, gn, trivial⟩ (fun _ => ?_)
        exact xp_ret rfl rfl rfl ⟨hk4, _, rfl⟩
end XSH
end
section
section XRW
abbrev rr_md : List (Nat × Nat) := [(39, 0), (39, 35), (53, 0), (63, 0), (64, 0), (66, 0), (67, 0), (39, 59)]
/-- the order, by a function: all seven once -/
def od (h : xh_H) (f : Nat → Nat) : Prop := (∀ k, k < 7 → xg 0 h.2.1 66 k = nI (f k)) ∧ (∀ k, k < 7 → f k ≤ 6) ∧ ∀ a b, a < 7 → b < 7 → f a = f b → a = b
def lx (f : Nat → Nat) : Nat := f 0 * 117649 + f 1 * 16807 + f 2 * 2401 + f 3 * 343 + f 4 * 49 + f 5 * 7 + f 6
def sp (f : Nat → Nat) (a b : Nat) : Nat → Nat := fun k => if k = a then f b else if k = b then f a else f k
theorem lx_le {f : Nat → Nat} (h : ∀ k, k < 7 → f k ≤ 6) : lx f ≤ 823542 := by
  have h0 := h 0 (by decide)
  have h1 := h 1 (by decide)
  have h2 := h 2 (by decide)
  have h3 := h 3 (by decide)
  have h4 := h 4 (by decide)
  have h5 := h 5 (by decide)
  have h6 := h 6 (by decide)
  unfold lx
  omega
theorem lx_lt {f g : Nat → Nat} {i : Nat} (hi : i < 6) (hg : ∀ k, k < 7 → f k ≤ 6) (he : ∀ k, k < i → g k = f k) (hl : f i + 1 ≤ g i) : lx f < lx g := by
  have h0 := hg 0 (by decide)
  have h1 := hg 1 (by decide)
  have h2 := hg 2 (by decide)
  have h3 := hg 3 (by decide)
  have h4 := hg 4 (by decide)
  have h5 := hg 5 (by decide)
  have h6 := hg 6 (by decide)
  unfold lx
  match i, hi, he, hl with
  | 0, _, he, hl => omega
  | 1, _, he, hl =>
    have e0 := he 0 (by decide)
    omega
  | 2, _, he, hl =>
    have e0 := he 0 (by decide)
    have e1 := he 1 (by decide)
    omega
  | 3, _, he, hl =>
    have e0 := he 0 (by decide)
    have e1 := he 1 (by decide)
    have e2 := he 2 (by decide)
    omega
  | 4, _, he, hl =>
    have e0 := he 0 (by decide)
    have e1 := he 1 (by decide)
    have e2 := he 2 (by decide)
    have e3 := he 3 (by decide)
    omega
  | 5, _, he, hl =>
    have e0 := he 0 (by decide)
    have e1 := he 1 (by decide)
    have e2 := he 2 (by decide)
    have e3 := he 3 (by decide)
    have e4 := he 4 (by decide)
    omega
/-- two of them change their places -/
theorem od_sw {h : xh_H} {f : Nat → Nat} {a b : Nat} (ha : a < 7) (hb : b < 7) (g : od h f) : od (xh_ui (xh_ui h 66 a (nI (f b))) 66 b (nI (f a))) (sp f a b) := by
  obtain ⟨g1, g2, g3⟩ := g
  refine ⟨fun k hk' => ?_, fun k hk' => ?_, fun x y hx hy e => ?_⟩
  · unfold sp
    by_cases e1 : k = b
    · subst e1
      rw [gx_s]
      by_cases e2 : k = a
      · rw [if_pos e2, e2]
      · rw [if_neg e2, if_pos rfl]
    · rw [gx_k e1]
      by_cases e2 : k = a
      · subst e2
        rw [gx_s, if_pos rfl]
      · rw [gx_k e2, if_neg e2, if_neg e1]
        exact g1 k hk'
  · unfold sp
    split
    · exact g2 b hb
    · split
      · exact g2 a ha
      · exact g2 k hk'
  · unfold sp at e
    by_cases x1 : x = a
    · by_cases y1 : y = a
      · rw [x1, y1]
      · rw [if_pos x1, if_neg y1] at e
        by_cases y2 : y = b
        · rw [if_pos y2] at e
          have := g3 b a hb ha e
          omega
        · rw [if_neg y2] at e
          have := g3 b y hb hy e
          omega
    · rw [if_neg x1] at e
      by_cases x2 : x = b
      · rw [if_pos x2] at e
        by_cases y1 : y = a
        · rw [if_pos y1] at e
          have := g3 a b ha hb e
          omega
        · rw [if_neg y1] at e
          by_cases y2 : y = b
          · rw [x2, y2]
          · rw [if_neg y2] at e
            have := g3 a y ha hy e
            omega
      · rw [if_neg x2] at e
        by_cases y1 : y = a
        · rw [if_pos y1] at e
          have := g3 x b hx hb e
          omega
        · rw [if_neg y1] at e
          by_cases y2 : y = b
          · rw [if_pos y2] at e
            have := g3 x a hx ha e
            omega
          · rw [if_neg y2] at e
            exact g3 x y hx hy e
theorem hk_sw {h0 h : xh_H} {f : Nat → Nat} {a b : Nat} (hn : 72 ≤ h0.1.length) (hk0 : hk rr_md h0 h) (ha : f a ≤ 6) (hb : f b ≤ 6) : hk rr_md h0 (xh_ui (xh_ui h 66 a (nI (f b))) 66 b (nI (f a))) := by
  have ai := nI_toInt (n := f a) (by omega)
  have bi := nI_toInt (n := f b) (by omega)
  exact hk_ui (s := (1, 7)) (lo := 0) (hi := 6) (hk_ui (s := (1, 7)) (lo := 0) (hi := 6) hk0 hn rfl rfl (by omega) (by omega) rfl rfl) hn rfl rfl (by omega) (by omega) rfl rfl
/-- what goOn leaves -/
def go_Q (h0 : xh_H) (f : Nat → Nat) (v : Option Value) (h' : xh_H) : Prop := hk rr_md h0 h' ∧ ((v = some (.int 0) ∧ od h' f) ∨ (v = some (.int 1) ∧ ∃ g, od h' g ∧ lx f < lx g))
set_option maxRecDepth 100000 in
set_option maxHeartbeats 4000000 in
/-- the rest is turned round -/
theorem gn_4 {d i : Nat} {h0 : xh_H} {f0 : Nat → Nat} (hn : 72 ≤ h0.1.length) (hi : i < 6) (hf0 : ∀ k, k < 7 → f0 k ≤ 6) : ∀ (n a b : Nat) (f : Nat → Nat) (h : xh_H), b ≤ a + n → i < a → a ≤ 10 → b ≤ 6 → hk rr_md h0 h → od h f → (∀ k, k < i → f k = f0 k) → f0 i + 1 ≤ f i → xt_P d xi_X10_goOn xmi_X10_goOn 94 [(0, .ref 39), (4, .int (nI a)), (5, .int (nI b))] [] h (go_Q h0 f0) := by
  intro n
  induction n with
  | zero =>
    intro a b f h hab hia ha hb hk0 ho he hl
    refine xa_tn 141 [] [] [.int (Int32.ofInt 1)] h [true] 6 (hk_q hk0 hn) rfl ⟨nge_t (by omega) (by omega) (by omega), trivial⟩ (fun _ => ?_)
    exact xp_ret rfl rfl rfl ⟨hk0, Or.inr ⟨rfl, f, ho, lx_lt hi hf0 he hl⟩⟩
  | succ n ih =>
    intro a b f h hab hia ha hb hk0 ho he hl
    by_cases hge : b ≤ a
    · refine xa_tn 141 [] [] [.int (Int32.ofInt 1)] h [true] 6 (hk_q hk0 hn) rfl ⟨nge_t (by omega) (by omega) hge, trivial⟩ (fun _ => ?_)
      exact xp_ret rfl rfl rfl ⟨hk0, Or.inr ⟨rfl, f, ho, lx_lt hi hf0 he hl⟩⟩
    · have ina := xin_n (k := a) (n := 7) (by omega) (by omega)
      have inb := xin_n (k := b) (n := 7) (by omega) (by omega)
      obtain ⟨b', rfl⟩ : ∃ b', b = b' + 1 := ⟨b - 1, by omega⟩
      refine xa_tn 94 [0, 4, 5] [(0, .ref 39), (4, .int ((nI a) + Int32.ofInt 1)), (5, .int ((nI (b' + 1)) + Int32.ofInt (-1)))] [] (xh_ui (xh_ui h 66 (nI a).toNatClampNeg (xg 0 h.2.1 66 (nI (b' + 1)).toNatClampNeg)) 66 (nI (b' + 1)).toNatClampNeg (xg 0 h.2.1 66 (nI a).toNatClampNeg)) [false] 26 (hk_q hk0 hn) rfl ⟨nge_f (by omega) (by omega) (by omega), ina, inb, ina, inb, trivial⟩ (fun _ => ?_)
      have e1 : nI a + Int32.ofInt 1 = nI (a + 1) := nI_1 a
      rw [nI_clamp (n := a) (by omega), nI_clamp (n := b' + 1) (by omega), ho.1 a (by omega), ho.1 (b' + 1) (by omega), e1, nI_dec2]
      refine ih (a + 1) b' (sp f a (b' + 1)) _ (by omega) (by omega) (by omega) (by omega) (hk_sw hn hk0 (ho.2.1 a (by omega)) (ho.2.1 (b' + 1) (by omega))) (od_sw (by omega) (by omega) ho) (fun k hk' => ?_) ?_
      · unfold sp
        rw [if_neg (by omega), if_neg (by omega)]
        exact he k hk'
      · unfold sp
        rw [if_neg (by omega), if_neg (by omega)]
        exact hl
set_option maxRecDepth 100000 in
set_option maxHeartbeats 4000000 in
theorem gn_2 {d i : Nat} {h0 : xh_H} {f : Nat → Nat} (hn : 72 ≤ h0.1.length) (hi : i < 6) {h : xh_H} (hk0 : hk rr_md h0 h) (ho : od h f) (hlt : f i < f (i + 1)) : ∀ (n j : Nat), j = i + 1 + n → j ≤ 6 → xt_P d xi_X10_goOn xmi_X10_goOn 38 [(0, .ref 39), (1, .int (nI i)), (2, .int (nI j))] [] h (go_Q h0 f) := by
  have ini := xin_n (k := i) (n := 7) (by omega) (by omega)
  have eic : (nI i).toNatClampNeg = i := nI_clamp (by omega)
  have fi6 := ho.2.1 i (by omega)
  have ei := nI_toInt (n := f i) (by omega)
  have e1 : nI i + Int32.ofInt 1 = nI (i + 1) := nI_1 i
  have fin : ∀ j, i < j → j ≤ 6 → f i < f j → xt_P d xi_X10_goOn xmi_X10_goOn 59 [(0, .ref 39), (1, .int (nI i)), (2, .int (nI j))] [] h (go_Q h0 f) := by
    intro j hij hj hlt2
    have inj := xin_n (k := j) (n := 7) (by omega) (by omega)
    refine xa_tn 94 [0, 4, 5] [(0, .ref 39), (4, .int ((nI i) + (Int32.ofInt 1))), (5, .int 6)] [] (xh_ui (xh_ui h 66 (nI i).toNatClampNeg (xg 0 h.2.1 66 (nI j).toNatClampNeg)) 66 (nI j).toNatClampNeg (xg 0 h.2.1 66 (nI i).toNatClampNeg)) [] 26 (hk_q hk0 hn) rfl ⟨ini, inj, ini, inj, trivial⟩ (fun _ => ?_)
    rw [eic, nI_clamp (n := j) (by omega), ho.1 i (by omega), ho.1 j (by omega), e1]
    refine gn_4 (f0 := f) hn hi ho.2.1 6 (i + 1) 6 (sp f i j) _ (by omega) (by omega) (by omega) (by omega) (hk_sw hn hk0 fi6 (ho.2.1 j (by omega))) (od_sw (by omega) (by omega) ho) (fun k hk' => ?_) ?_
    · unfold sp
      rw [if_neg (by omega), if_neg (by omega)]
    · unfold sp
      rw [if_pos rfl]
      omega
  intro n
  induction n with
  | zero =>
    intro j hj hj6
    have e : j = i + 1 := by omega
    subst e
    have ej := nI_toInt (n := f (i + 1)) (by have := ho.2.1 (i + 1) (by omega); omega)
    refine xa_tn 59 [0, 1, 2] [(0, .ref 39), (1, .int (nI i)), (2, .int (nI (i + 1)))] [] h [true] 11 (hk_q hk0 hn) rfl ⟨xin_n (by omega) (by omega), ini, xge_t (show (xg 0 h.2.1 66 (nI i).toNatClampNeg).toInt ≤ (xg 0 h.2.1 66 (nI (i + 1)).toNatClampNeg).toInt by rw [eic, nI_clamp (n := i + 1) (by omega), ho.1 i (by omega), ho.1 (i + 1) (by omega), ei, ej]; omega), trivial⟩ (fun _ => ?_)
    exact fin (i + 1) (by omega) hj6 hlt
  | succ n ih =>
    intro j hj hj6
    have inj := xin_n (k := j) (n := 7) (by omega) (by omega)
    have fj6 := ho.2.1 j (by omega)
    have ej := nI_toInt (n := f j) (by omega)
    have ejc : (nI j).toNatClampNeg = j := nI_clamp (by omega)
    by_cases hc : f i ≤ f j
    · refine xa_tn 59 [0, 1, 2] [(0, .ref 39), (1, .int (nI i)), (2, .int (nI j))] [] h [true] 11 (hk_q hk0 hn) rfl ⟨inj, ini, xge_t (show (xg 0 h.2.1 66 (nI i).toNatClampNeg).toInt ≤ (xg 0 h.2.1 66 (nI j).toNatClampNeg).toInt by rw [eic, ejc, ho.1 i (by omega), ho.1 j (by omega), ei, ej]; omega), trivial⟩ (fun _ => ?_)
      refine fin j (by omega) hj6 ?_
      apply Classical.byContradiction
      intro hno
      have := ho.2.2 i j (by omega) (by omega) (by omega)
      omega
    · refine xa_tn 38 [0, 1, 2] [(0, .ref 39), (1, .int (nI i)), (2, .int ((nI j) + Int32.ofInt (-1)))] [] h [false] 13 (hk_q hk0 hn) rfl ⟨inj, ini, xge_f (show (xg 0 h.2.1 66 (nI j).toNatClampNeg).toInt < (xg 0 h.2.1 66 (nI i).toNatClampNeg).toInt by rw [eic, ejc, ho.1 i (by omega), ho.1 j (by omega), ei, ej]; omega), trivial⟩ (fun _ => ?_)
      obtain ⟨j', rfl⟩ : ∃ j', j = j' + 1 := ⟨j - 1, by omega⟩
      rw [nI_dec2]
      exact ih j' (by omega) (by omega)
set_option maxRecDepth 100000 in
set_option maxHeartbeats 4000000 in
theorem gn_1 {d : Nat} {h0 : xh_H} {f : Nat → Nat} (hn : 72 ≤ h0.1.length) {h : xh_H} (hk0 : hk rr_md h0 h) (ho : od h f) : ∀ (K : Nat), K ≤ 6 → xt_P d xi_X10_goOn xmi_X10_goOn 2 [(0, .ref 39), (1, .int (nI K + Int32.ofInt (-1)))] [] h (go_Q h0 f) := by
  intro K
  induction K with
  | zero =>
    intro _
    refine xa_tn 34 [] [] [.int (Int32.ofInt 0)] h [true, false] 7 (hk_q hk0 hn) rfl ⟨by decide, by decide, trivial⟩ (fun _ => ?_)
    exact xp_ret rfl rfl rfl ⟨hk0, Or.inl ⟨rfl, ho⟩⟩
  | succ i ih =>
    intro hi
    rw [nI_dec2]
    have ii := nI_toInt (n := i) (by omega)
    have z0 : (0 : Int32).toInt = 0 := rfl
    have hlt0 : xe_c .lt (nI i) 0 = false := xlt_f (by omega)
    have ini := xin_n (k := i) (n := 7) (by omega) (by omega)
    have e1 : nI i + Int32.ofInt 1 = nI (i + 1) := nI_1 i
    have ini1 : xe_in ((nI i) + (Int32.ofInt 1)) 7 = true := by rw [e1]; exact xin_n (by omega) (by omega)
    have eic : (nI i).toNatClampNeg = i := nI_clamp (by omega)
    have eic1 : (nI i + Int32.ofInt 1).toNatClampNeg = i + 1 := by rw [e1]; exact nI_clamp (by omega)
    have f1 := ho.2.1 i (by omega)
    have f2 := ho.2.1 (i + 1) (by omega)
    have x1 := nI_toInt (n := f i) (by omega)
    have x2 := nI_toInt (n := f (i + 1)) (by omega)
    by_cases hc : f i ≤ f (i + 1)
    · refine xa_tn 29 [0, 1] [(0, .ref 39), (1, .int (nI i))] [] h [false, true] 15 (hk_q hk0 hn) rfl ⟨hlt0, ini, ini1, xle_t (show (xg 0 h.2.1 66 (nI i).toNatClampNeg).toInt ≤ (xg 0 h.2.1 66 ((nI i) + (Int32.ofInt 1)).toNatClampNeg).toInt by rw [eic, eic1, ho.1 i (by omega), ho.1 (i + 1) (by omega), x1, x2]; omega), trivial⟩ (fun _ => ?_)
      refine xa_tn 38 [0, 1, 2] [(0, .ref 39), (1, .int (nI i)), (2, .int 6)] [] h [true] 6 (hk_q hk0 hn) rfl ⟨xge_t (by omega), trivial⟩ (fun _ => ?_)
      refine gn_2 hn (by omega) hk0 ho ?_ (5 - i) 6 (by omega) (by omega)
      apply Classical.byContradiction
      intro hno
      have := ho.2.2 i (i + 1) (by omega) (by omega) (by omega)
      omega
    · refine xa_tn 2 [0, 1] [(0, .ref 39), (1, .int ((nI i) + Int32.ofInt (-1)))] [] h [false, false] 17 (hk_q hk0 hn) rfl ⟨hlt0, ini, ini1, xle_f (show (xg 0 h.2.1 66 ((nI i) + (Int32.ofInt 1)).toNatClampNeg).toInt < (xg 0 h.2.1 66 (nI i).toNatClampNeg).toInt by rw [eic, eic1, ho.1 i (by omega), ho.1 (i + 1) (by omega), x1, x2]; omega), trivial⟩ (fun _ => ?_)
      exact ih (by omega)
set_option maxRecDepth 100000 in
/-- the next order, if there is one -/
theorem gn_run {d : Nat} {h0 h : xh_H} {f : Nat → Nat} (hn : 72 ≤ h0.1.length) (hk0 : hk rr_md h0 h) (ho : od h f) : xt_P d xi_X10_goOn xmi_X10_goOn 0 [(0, .ref 39)] [] h (go_Q h0 f) := by
  refine xa_tn 2 [0, 1] [(0, .ref 39), (1, .int (Int32.ofInt 5))] [] h [] 4 (hk_q hk0 hn) rfl trivial (fun _ => ?_)
  exact gn_1 hn hk0 ho 6 (Nat.le_refl _)
def rr_Q (h0 : xh_H) (v : Option Value) (h' : xh_H) : Prop := hk rr_md h0 h' ∧ ∃ x : Int32, v = some (.int x)
theorem od_o {h : xh_H} {f : Nat → Nat} {c k : Nat} {x : Int32} (hc : c ≠ 66) (g : od h f) : od (xh_ui h c k x) f := ⟨fun j hj => by rw [gx_o (Ne.symm hc)]; exact g.1 j hj, g.2.1, g.2.2⟩
set_option maxRecDepth 100000 in
set_option maxHeartbeats 4000000 in
theorem rr_in {d : Nat} {x n : Int32} {h0 : xh_H} {f : Nat → Nat} {Q : Option Value → xh_H → Prop} (hn : 72 ≤ h0.1.length) (K : ∀ h', hk rr_md h0 h' → od h' f → xt_P d xi_X10_rows xmi_X10_rows 91 [(0, .ref 39), (1, .int x), (2, .int n)] [] h' Q) : ∀ (m i : Nat) (h : xh_H), i + m = 7 → hk rr_md h0 h → od h f → xt_P d xi_X10_rows xmi_X10_rows 60 [(0, .ref 39), (1, .int x), (2, .int n), (4, .int (nI i))] [] h Q := by
  intro m
  induction m with
  | zero =>
    intro i h hi hk0 ho
    have e : i = 7 := by omega
    subst e
    refine xa_tn 91 [0, 1, 2] [(0, .ref 39), (1, .int x), (2, .int n)] [] h [true] 5 (hk_q hk0 hn) rfl ⟨by decide, trivial⟩ (fun _ => ?_)
    exact K h hk0 ho
  | succ m ih =>
    intro i h hi hk0 ho
    have hge : xe_c .ge (nI i) 7 = false := nge_f (b := 7) (by omega) (by omega) (by omega)
    cases c1 : xe_c .ne n 0 with
    | true =>
      refine xa_tn 91 [0, 1, 2] [(0, .ref 39), (1, .int x), (2, .int n)] [] h [false, true] 7 (hk_q hk0 hn) rfl ⟨hge, c1, trivial⟩ (fun _ => ?_)
      exact K h hk0 ho
    | false =>
      have ini := xin_n (k := i) (n := 7) (by omega) (by omega)
      have eic : (nI i).toNatClampNeg = i := nI_clamp (by omega)
      have e1 : nI i + Int32.ofInt 1 = nI (i + 1) := nI_1 i
      have f1 := ho.2.1 i (by omega)
      have x1 := nI_toInt (n := f i) (by omega)
      refine xa_tn 60 [0, 1, 2, 4] [(0, .ref 39), (1, .int x), (2, .int n), (4, .int ((nI i) + Int32.ofInt 1))] [] (xh_ui h 67 (nI i).toNatClampNeg (xg 0 h.2.1 66 (nI i).toNatClampNeg)) [false, false] 17 (hk_q hk0 hn) rfl ⟨hge, c1, ini, ini, trivial⟩ (fun _ => ?_)
      rw [e1, eic, ho.1 i (by omega)]
      exact ih (i + 1) _ (by omega) (hk_ui (s := (1, 7)) (lo := 0) (hi := 6) hk0 hn rfl rfl (by omega) (by omega) rfl rfl) (od_o (by decide) ho)
set_option maxRecDepth 100000 in
set_option maxHeartbeats 4000000 in
theorem rr_loop {d : Nat} {x : Int32} {h0 : xh_H} (hn : 72 ≤ h0.1.length) : ∀ (N : Nat) (n mo : Int32) (f : Nat → Nat) (h : xh_H), 823543 - lx f < N → hk rr_md h0 h → od h f → xt_P (d + 1) xi_X10_rows xmi_X10_rows 43 [(0, .ref 39), (1, .int x), (2, .int n), (3, .int mo)] [] h (rr_Q h0) := by
  intro N
  induction N with
  | zero => intro n mo f h hN; omega
  | succ N ih =>
    intro n mo f h hN hk0 ho
    cases c1 : xe_c .eq mo 0 with
    | true =>
      refine xa_tn 108 [] [] [.int n] h [true] 5 (hk_q hk0 hn) rfl ⟨c1, trivial⟩ (fun _ => ?_)
      exact xp_ret rfl rfl rfl ⟨hk0, n, rfl⟩
    | false =>
      refine xa_tn 50 [0, 1, 2] [(0, .ref 39), (1, .int x), (2, .int n)] [.int 7, .ref 39] h [false] 6 (hk_q hk0 hn) rfl ⟨c1, trivial⟩ (fun hq => ?_)
      refine xp_int (C := aC_m_X10_endOf) (lo := 0) (hi := 6) (σ := fun _ => 0) as_m_X10_endOf hq hk0.1 rfl rfl rfl (Nat.zero_le _) ⟨a_av (by decide) hq.1, a_ai (by decide) (by decide), trivial⟩ a_fp0 rfl (fun e h1 e1 e2 i1 l1 f1 q1 => ?_)
      have hk1 : hk rr_md h0 h1 := hk_c hk0 i1 l1 f1 (fun _ z => nomatch z)
      have ho1 : od h1 f := ⟨fun j hj => by rw [fr_nil f1 rfl]; exact ho.1 j hj, ho.2.1, ho.2.2⟩
      have next : ∀ (n : Int32) (h2 : xh_H), hk rr_md h0 h2 → od h2 f → xt_P (d + 1) xi_X10_rows xmi_X10_rows 100 [(0, .ref 39), (1, .int x), (2, .int n)] [.ref 39] h2 (rr_Q h0) := by
        intro n h2 hk2 ho2
        refine xp_run (hk_q hk2 hn) rfl rfl (gn_run (d := d) hn hk2 ho2) ?_
        rintro v h3 ⟨hk3, g⟩
        have q3 := hk_q hk3 hn
        rcases g with ⟨rfl, ho3⟩ | ⟨rfl, g, ho3, hl⟩
        · refine xa_tn 43 [0, 1, 2, 3] [(0, .ref 39), (1, .int x), (2, .int n), (3, .int 0)] [] h3 [] 4 q3 rfl trivial (fun _ => ?_)
          refine xa_tn 108 [] [] [.int n] h3 [true] 5 q3 rfl ⟨by decide, trivial⟩ (fun _ => ?_)
          exact xp_ret rfl rfl rfl ⟨hk3, n, rfl⟩
        · refine xa_tn 43 [0, 1, 2, 3] [(0, .ref 39), (1, .int x), (2, .int n), (3, .int 1)] [] h3 [] 4 q3 rfl trivial (fun _ => ?_)
          have := lx_le ho3.2.1
          exact ih n 1 g h3 (by omega) hk3 ho3
      cases c2 : xe_c .ne e x with
      | true =>
        refine xa_tn 100 [0, 1, 2] [(0, .ref 39), (1, .int x), (2, .int n)] [.ref 39] h1 [true] 5 q1 rfl ⟨c2, trivial⟩ (fun _ => ?_)
        exact next n h1 hk1 ho1
      | false =>
        refine xa_tn 60 [0, 1, 2, 4] [(0, .ref 39), (1, .int x), (2, .int n), (4, .int (Int32.ofInt 0))] [] h1 [false] 6 q1 rfl ⟨c2, trivial⟩ (fun _ => ?_)
        refine rr_in hn ?_ 7 0 h1 rfl hk1 ho1
        intro h2 hk2 ho2
        refine xa_tn 100 [0, 1, 2] [(0, .ref 39), (1, .int x), (2, .int (n + Int32.ofInt 1))] [.ref 39] (xh_ui h2 39 59 (Int32.ofInt 1)) [] 7 (hk_q hk2 hn) rfl ⟨Or.inr rfl, trivial⟩ (fun _ => ?_)
        exact next _ _ (hk_ui (s := (0, 10)) (lo := 0) (hi := 1) hk2 hn rfl rfl (by decide) (by decide) rfl rfl) (od_o (by decide) ho2)
set_option maxRecDepth 100000 in
set_option maxHeartbeats 4000000 in
theorem rr_0 {d : Nat} {x : Int32} {h0 : xh_H} (hn : 72 ≤ h0.1.length) : ∀ (m i : Nat) (h : xh_H), i + m = 7 → hk rr_md h0 h → (∀ k, k < i → xg 0 h.2.1 66 k = nI k) → xt_P (d + 1) xi_X10_rows xmi_X10_rows 20 [(0, .ref 39), (1, .int x), (2, .int (nI i))] [] h (rr_Q h0) := by
  intro m
  induction m with
  | zero =>
    intro i h hi hk0 ho
    have e : i = 7 := by omega
    subst e
    refine xa_tn 43 [0, 1, 2, 3] [(0, .ref 39), (1, .int x), (2, .int (Int32.ofInt 0)), (3, .int (Int32.ofInt 1))] [] h [true] 9 (hk_q hk0 hn) rfl ⟨by decide, trivial⟩ (fun _ => ?_)
    exact rr_loop hn _ _ _ (fun k => k) h (Nat.lt_succ_self _) hk0 ⟨ho, fun k hk' => (show k ≤ 6 by omega), fun a b _ _ e => e⟩
  | succ m ih =>
    intro i h hi hk0 ho
    have eic : (nI i).toNatClampNeg = i := nI_clamp (by omega)
    have e1 : nI i + Int32.ofInt 1 = nI (i + 1) := nI_1 i
    have ii := nI_toInt (n := i) (by omega)
    refine xa_tn 20 [0, 1, 2] [(0, .ref 39), (1, .int x), (2, .int ((nI i) + Int32.ofInt 1))] [] (xh_ui h 66 (nI i).toNatClampNeg (nI i)) [false] 12 (hk_q hk0 hn) rfl ⟨nge_f (b := 7) (by omega) (by omega) (by omega), xin_n (by omega) (by omega), trivial⟩ (fun _ => ?_)
    rw [e1, eic]
    refine ih (i + 1) _ (by omega) (hk_ui (s := (1, 7)) (lo := 0) (hi := 6) hk0 hn rfl rfl (by omega) (by omega) rfl rfl) (fun k hk' => ?_)
    by_cases e : k = i
    · subst e
      exact gx_s
    · rw [gx_k e]
      exact ho k (by omega)
/-- X10.rows -/
def aC_r_X10_rows : aC := (xi_X10_rows, 3, [(2, 39, 0, none, [], []), (0, (-2147483648), 2147483647, none, [], [])], [(some (0, (-2147483648), 2147483647, none, [], []), [])], rr_md, [])
set_option maxRecDepth 100000 in
set_option maxHeartbeats 4000000 in
theorem as_r_X10_rows : a_spec a_tb aC_r_X10_rows := by
  refine sp_of (mi := xmi_X10_rows) rfl ?_
  intro d vs h σ hd hi hn ha _
  match vs, ha with
  | [v0, v1], ha =>
    obtain ⟨⟨q, rfl, hq⟩, ⟨x, rfl, -⟩, -⟩ := ha
    have eq : q = 39 := a_r_ob (t := 39) (by decide) hq
    subst eq
    have hd : 3 ≤ d := hd
    obtain ⟨d, rfl⟩ : ∃ d', d = d' + 3 := ⟨d - 3, by omega⟩
    have main : xt_P (d + 3) xi_X10_rows xmi_X10_rows 0 [(0, .ref 39), (1, .int x)] [] h (rr_Q h) := by
      refine xa_tn 6 [0, 1] [(0, .ref 39), (1, .int x)] [.int x] (xh_ui h 39 0 (Int32.ofInt 0)) [] 6 (a_rq_of hi.1 hn) rfl trivial (fun q1 => ?_)
      have hk1 : hk rr_md h (xh_ui h 39 0 (Int32.ofInt 0)) := hk_ui (s := (0, 10)) (lo := 0) (hi := 1) (hk_0 hi) hn rfl rfl (by decide) (by decide) rfl rfl
      generalize xh_ui h 39 0 (Int32.ofInt 0) = h1 at hk1 q1 ⊢
      have xr := ar_rng x
      refine xp_int (C := aC_m_X10_isOption) (lo := 0) (hi := 1) (σ := fun _ => 0) as_m_X10_isOption q1 hk1.1 rfl rfl rfl (Nat.zero_le _) ⟨a_ai xr.1 xr.2, trivial⟩ a_fp0 rfl (fun y h2 y1 y2 i2 l2 f2 q2 => ?_)
      have hk2 : hk rr_md h h2 := hk_c hk1 i2 l2 f2 (fun _ z => nomatch z)
      cases c1 : xe_c .ne y 0 with
      | false =>
        refine xa_tn 13 [] [] [.int (Int32.ofInt (-1))] h2 [false] 4 q2 rfl ⟨c1, trivial⟩ (fun _ => ?_)
        exact xp_ret rfl rfl rfl ⟨hk2, _, rfl⟩
      | true =>
        refine xa_tn 15 [0, 1] [(0, .ref 39), (1, .int x)] [.ref 39] h2 [true] 4 q2 rfl ⟨c1, trivial⟩ (fun _ => ?_)
        refine xp_void (C := aC_m_X10_layOptions) (σ := fun _ => 0) (P := [((39, 35), 2, 4096)]) as_m_X10_layOptions q2 hk2.1 rfl rfl rfl (by show 2 ≤ d + 2; omega) ⟨a_av (by decide) q2.1, trivial⟩ a_fp0 rfl (fun h3 _ i3 l3 f3 q3 => ?_)
        have hk3 : hk rr_md h h3 := hk_c hk2 i3 l3 f3 (by decide)
        refine xa_tn 20 [0, 1, 2] [(0, .ref 39), (1, .int x), (2, .int (Int32.ofInt 0))] [] h3 [] 4 q3 rfl trivial (fun _ => ?_)
        exact rr_0 hn 7 0 h3 rfl hk3 (fun k hk' => absurd hk' (Nat.not_lt_zero k))
    exact xp_mono main (fun v h' g => by
      obtain ⟨g1, x, rfl⟩ := g
      have xr := ar_rng x
      exact ⟨g1, rok_i xr.1 xr.2⟩)
end XRW
end
section
section XTK
theorem lg0 {x y : Int64} : lg_cmp x y = 0 ↔ x = y := by
  unfold lg_cmp
  constructor
  · intro h
    split at h
    · cases h
    · split at h
      · assumption
      · cases h
  · intro h
    subst h
    rw [if_neg (fun z => by have := Int64.lt_iff_toInt_lt.mp z; omega), if_pos rfl]
def bl (b : Bool) : Int32 := cond b 1 0
theorem bl_ne {b : Bool} : xe_c .ne (bl b) 0 = b := by cases b <;> rfl
theorem bl_eq {b : Bool} : xe_c .eq (bl b) 0 = !b := by cases b <;> rfl
variable {d : Nat} {h : xh_H} {c : Int32}
def isL (c : Int32) : Bool := decide (97 ≤ c.toInt) && decide (c.toInt ≤ 122)
def isD (c : Int32) : Bool := decide (48 ≤ c.toInt) && decide (c.toInt ≤ 57)
set_option maxRecDepth 100000 in
theorem isL_run (hq : a_rq a_tb h) : xt_P d xi_X10_isLetter xmi_X10_isLetter 0 [(0, .int c)] [] h (fun v h' => h = h' ∧ v = some (.int (bl (isL c)))) := by
  have zl : (97 : Int32).toInt = 97 := rfl
  have zh : (122 : Int32).toInt = 122 := rfl
  cases c1 : xe_c .lt c 97 with
  | true =>
    have b1 : c.toInt < (97 : Int32).toInt := a_ce c1
    refine xa_tn 17 [] [] [.int (Int32.ofInt 0)] h [true] 6 hq rfl ⟨c1, trivial⟩ (fun _ => ?_)
    refine xp_ret rfl rfl rfl ⟨rfl, ?_⟩
    unfold isL
    rw [decide_eq_false (by omega)]
    rfl
  | false =>
    have b1 : (97 : Int32).toInt ≤ c.toInt := a_ce (a_neg_ok c1)
    cases c2 : xe_c .gt c 122 with
    | true =>
      have b2 : (122 : Int32).toInt < c.toInt := a_ce c2
      refine xa_tn 17 [] [] [.int (Int32.ofInt 0)] h [false, true] 9 hq rfl ⟨c1, c2, trivial⟩ (fun _ => ?_)
      refine xp_ret rfl rfl rfl ⟨rfl, ?_⟩
      unfold isL
      rw [decide_eq_false (show ¬ c.toInt ≤ 122 by omega), Bool.and_false]
      rfl
    | false =>
      have b2 : c.toInt ≤ (122 : Int32).toInt := a_ce (a_neg_ok c2)
      refine xa_tn 17 [] [] [.int (Int32.ofInt 1)] h [false, false] 10 hq rfl ⟨c1, c2, trivial⟩ (fun _ => ?_)
      refine xp_ret rfl rfl rfl ⟨rfl, ?_⟩
      unfold isL
      rw [decide_eq_true (show 97 ≤ c.toInt by omega), decide_eq_true (show c.toInt ≤ 122 by omega)]
      rfl
set_option maxRecDepth 100000 in
theorem isD_run (hq : a_rq a_tb h) : xt_P d xi_X10_isDigit xmi_X10_isDigit 0 [(0, .int c)] [] h (fun v h' => h = h' ∧ v = some (.int (bl (isD c)))) := by
  have zl : (48 : Int32).toInt = 48 := rfl
  have zh : (57 : Int32).toInt = 57 := rfl
  cases c1 : xe_c .lt c 48 with
  | true =>
    have b1 : c.toInt < (48 : Int32).toInt := a_ce c1
    refine xa_tn 17 [] [] [.int (Int32.ofInt 0)] h [true] 6 hq rfl ⟨c1, trivial⟩ (fun _ => ?_)
    refine xp_ret rfl rfl rfl ⟨rfl, ?_⟩
    unfold isD
    rw [decide_eq_false (by omega)]
    rfl
  | false =>
    have b1 : (48 : Int32).toInt ≤ c.toInt := a_ce (a_neg_ok c1)
    cases c2 : xe_c .gt c 57 with
    | true =>
      have b2 : (57 : Int32).toInt < c.toInt := a_ce c2
      refine xa_tn 17 [] [] [.int (Int32.ofInt 0)] h [false, true] 9 hq rfl ⟨c1, c2, trivial⟩ (fun _ => ?_)
      refine xp_ret rfl rfl rfl ⟨rfl, ?_⟩
      unfold isD
      rw [decide_eq_false (show ¬ c.toInt ≤ 57 by omega), Bool.and_false]
      rfl
    | false =>
      have b2 : c.toInt ≤ (57 : Int32).toInt := a_ce (a_neg_ok c2)
      refine xa_tn 17 [] [] [.int (Int32.ofInt 1)] h [false, false] 10 hq rfl ⟨c1, c2, trivial⟩ (fun _ => ?_)
      refine xp_ret rfl rfl rfl ⟨rfl, ?_⟩
      unfold isD
      rw [decide_eq_true (show 48 ≤ c.toInt by omega), decide_eq_true (show c.toInt ≤ 57 by omega)]
      rfl
set_option maxRecDepth 100000 in
/-- byteAt -/
theorem ba_run {p sz : Nat} (hq : a_rq a_tb h) (hsz : xg 0 h.2.1 39 6 = nI sz) (s640 : sz ≤ 640) (p640 : p ≤ 640) : xt_P d xi_X10_byteAt xmi_X10_byteAt 0 [(0, .ref 39), (1, .int (nI p))] [] h (fun v h' => h = h' ∧ v = some (.int (if p < sz then xg 0 h.2.1 40 p else 0))) := by
  by_cases hp : p < sz
  · refine xa_tn 18 [] [] [.int (xg 0 h.2.1 40 (nI p).toNatClampNeg)] h [false] 11 hq rfl ⟨(show xe_c .ge (nI p) (xg 0 h.2.1 39 6) = false by rw [hsz]; exact nge_f (by omega) (by omega) hp), xin_n (by omega) (by omega), trivial⟩ (fun _ => ?_)
    rw [nI_clamp (by omega)]
    exact xp_ret rfl rfl rfl ⟨rfl, by rw [if_pos hp]⟩
  · refine xa_tn 18 [] [] [.int (Int32.ofInt 0)] h [true] 7 hq rfl ⟨(show xe_c .ge (nI p) (xg 0 h.2.1 39 6) = true by rw [hsz]; exact nge_t (by omega) (by omega) (by omega)), trivial⟩ (fun _ => ?_)
    exact xp_ret rfl rfl rfl ⟨rfl, by rw [if_neg hp]; rfl⟩
theorem xne_i {x y : Int32} (z : xe_c .ne x y = true) : x ≠ y := by
  have z : (!decide (x = y)) = true := z
  rw [Bool.not_eq_true'] at z
  exact of_decide_eq_false z
theorem xne_j {x y : Int32} (z : xe_c .ne x y = false) : x = y := by
  have z : (!decide (x = y)) = false := z
  rw [Bool.not_eq_false'] at z
  exact of_decide_eq_true z
/-- the token is a sign -/
def sgb (h : xh_H) (c : Int32) : Bool := decide (xg 0 h.2.1 39 9 = 4) && decide (xg 0 h.2.1 39 11 = c)
set_option maxRecDepth 100000 in
theorem sg_run (hq : a_rq a_tb h) : xt_P d xi_X10_isSign xmi_X10_isSign 0 [(0, .ref 39), (1, .int c)] [] h (fun v h' => h = h' ∧ v = some (.int (bl (sgb h c)))) := by
  cases c1 : xe_c .ne (xg 0 h.2.1 39 9) (Int32.ofInt 4) with
  | true =>
    refine xa_tn 21 [] [] [.int (Int32.ofInt 0)] h [true] 7 hq rfl ⟨c1, trivial⟩ (fun _ => ?_)
    refine xp_ret rfl rfl rfl ⟨rfl, ?_⟩
    unfold sgb
    rw [decide_eq_false (show ¬ xg 0 h.2.1 39 9 = 4 from xne_i c1)]
    rfl
  | false =>
    cases c2 : xe_c .ne (xg 0 h.2.1 39 11) c with
    | true =>
      refine xa_tn 21 [] [] [.int (Int32.ofInt 0)] h [false, true] 11 hq rfl ⟨c1, c2, trivial⟩ (fun _ => ?_)
      refine xp_ret rfl rfl rfl ⟨rfl, ?_⟩
      unfold sgb
      rw [decide_eq_false (xne_i c2), Bool.and_false]
      rfl
    | false =>
      refine xa_tn 21 [] [] [.int (Int32.ofInt 1)] h [false, false] 12 hq rfl ⟨c1, c2, trivial⟩ (fun _ => ?_)
      refine xp_ret rfl rfl rfl ⟨rfl, ?_⟩
      unfold sgb
      rw [decide_eq_true (show xg 0 h.2.1 39 9 = 4 from xne_j c1), decide_eq_true (xne_j c2)]
      rfl
/-- the token is a word -/
def kyb (h : xh_H) (w : Int64) : Bool := decide (xg 0 h.2.1 39 9 = 2) && decide (xg 0 h.2.2.1 39 15 = w)
set_option maxRecDepth 100000 in
theorem ky_run {w : Int64} (hq : a_rq a_tb h) : xt_P d xi_X10_isKey xmi_X10_isKey 0 [(0, .ref 39), (1, .long w)] [] h (fun v h' => h = h' ∧ v = some (.int (bl (kyb h w)))) := by
  cases c1 : xe_c .ne (xg 0 h.2.1 39 9) (Int32.ofInt 2) with
  | true =>
    refine xa_tn 22 [] [] [.int (Int32.ofInt 0)] h [true] 7 hq rfl ⟨c1, trivial⟩ (fun _ => ?_)
    refine xp_ret rfl rfl rfl ⟨rfl, ?_⟩
    unfold kyb
    rw [decide_eq_false (show ¬ xg 0 h.2.1 39 9 = 2 from xne_i c1)]
    rfl
  | false =>
    cases c2 : xe_c .ne (lg_cmp (xg 0 h.2.2.1 39 15) w) 0 with
    | true =>
      refine xa_tn 22 [] [] [.int (Int32.ofInt 0)] h [false, true] 12 hq rfl ⟨c1, c2, trivial⟩ (fun _ => ?_)
      refine xp_ret rfl rfl rfl ⟨rfl, ?_⟩
      unfold kyb
      rw [decide_eq_false (fun z => xne_i c2 (lg0.mpr z)), Bool.and_false]
      rfl
    | false =>
      refine xa_tn 22 [] [] [.int (Int32.ofInt 1)] h [false, false] 13 hq rfl ⟨c1, c2, trivial⟩ (fun _ => ?_)
      refine xp_ret rfl rfl rfl ⟨rfl, ?_⟩
      unfold kyb
      rw [decide_eq_true (show xg 0 h.2.1 39 9 = 2 from xne_j c1), decide_eq_true (lg0.mp (xne_j c2))]
      rfl
set_option maxRecDepth 100000 in
set_option maxHeartbeats 4000000 in
/-- 'body' -/
theorem isBody_run (hq : a_rq a_tb h) : xt_P (d + 1) xi_X10_isBody xmi_X10_isBody 0 [(0, .ref 39)] [] h (fun v h' => h = h' ∧ v = some (.int (bl (kyb h 50434)))) := by
  refine xa_tn 10 [] [] [.int (Int32.ofInt 0), .int 121, .int 100, .int 111, .int 98, .ref 39] h [] 8 hq rfl trivial (fun _ => ?_)
  refine xp_run (d := d) (Q1 := fun v h' => h = h' ∧ v = some (.long 50434)) hq rfl rfl ?_ ?_
  · refine xa_tn 81 [] [] [.long (((27 * (((27 * (((27 * ((98 : Int32).toInt64 - 96)) + (111 : Int32).toInt64) - 96)) + (100 : Int32).toInt64) - 96)) + (121 : Int32).toInt64) - 96)] h [false, false, true] 39 hq rfl ⟨by decide, by decide, by decide, trivial⟩ (fun _ => ?_)
    exact xp_ret rfl rfl rfl ⟨rfl, by decide +kernel⟩
  · rintro v h1 ⟨rfl, rfl⟩
    refine xp_run hq rfl rfl (ky_run (d := d) hq) ?_
    rintro v h1 ⟨rfl, rfl⟩
    exact xp_ret rfl rfl (by cases kyb h 50434 <;> rfl) ⟨rfl, rfl⟩
set_option maxRecDepth 100000 in
set_option maxHeartbeats 4000000 in
/-- 'carry' -/
theorem isCarry_run (hq : a_rq a_tb h) : xt_P (d + 1) xi_X10_isCarry xmi_X10_isCarry 0 [(0, .ref 39)] [] h (fun v h' => h = h' ∧ v = some (.int (bl (kyb h 1627639)))) := by
  refine xa_tn 11 [] [] [.int 121, .int 114, .int 114, .int 97, .int 99, .ref 39] h [] 8 hq rfl trivial (fun _ => ?_)
  refine xp_run (d := d) (Q1 := fun v h' => h = h' ∧ v = some (.long 1627639)) hq rfl rfl ?_ ?_
  · refine xa_tn 81 [] [] [.long (((27 * (((27 * (((27 * (((27 * ((99 : Int32).toInt64 - 96)) + (97 : Int32).toInt64) - 96)) + (114 : Int32).toInt64) - 96)) + (114 : Int32).toInt64) - 96)) + (121 : Int32).toInt64) - 96)] h [false, false, false] 47 hq rfl ⟨by decide, by decide, by decide, trivial⟩ (fun _ => ?_)
    exact xp_ret rfl rfl rfl ⟨rfl, by decide +kernel⟩
  · rintro v h1 ⟨rfl, rfl⟩
    refine xp_run hq rfl rfl (ky_run (d := d) hq) ?_
    rintro v h1 ⟨rfl, rfl⟩
    exact xp_ret rfl rfl (by cases kyb h 1627639 <;> rfl) ⟨rfl, rfl⟩
set_option maxRecDepth 100000 in
set_option maxHeartbeats 4000000 in
/-- 'and' -/
theorem isAnd_run (hq : a_rq a_tb h) : xt_P (d + 1) xi_X10_isAnd xmi_X10_isAnd 0 [(0, .ref 39)] [] h (fun v h' => h = h' ∧ v = some (.int (bl (kyb h 1111)))) := by
  refine xa_tn 9 [] [] [.int (Int32.ofInt 0), .int (Int32.ofInt 0), .int 100, .int 110, .int 97, .ref 39] h [] 8 hq rfl trivial (fun _ => ?_)
  refine xp_run (d := d) (Q1 := fun v h' => h = h' ∧ v = some (.long 1111)) hq rfl rfl ?_ ?_
  · refine xa_tn 81 [] [] [.long (((27 * (((27 * ((97 : Int32).toInt64 - 96)) + (110 : Int32).toInt64) - 96)) + (100 : Int32).toInt64) - 96)] h [false, true, true] 30 hq rfl ⟨by decide, by decide, by decide, trivial⟩ (fun _ => ?_)
    exact xp_ret rfl rfl rfl ⟨rfl, by decide +kernel⟩
  · rintro v h1 ⟨rfl, rfl⟩
    refine xp_run hq rfl rfl (ky_run (d := d) hq) ?_
    rintro v h1 ⟨rfl, rfl⟩
    exact xp_ret rfl rfl (by cases kyb h 1111 <;> rfl) ⟨rfl, rfl⟩
set_option maxRecDepth 100000 in
set_option maxHeartbeats 4000000 in
/-- 'or' -/
theorem isOr_run (hq : a_rq a_tb h) : xt_P (d + 1) xi_X10_isOr xmi_X10_isOr 0 [(0, .ref 39)] [] h (fun v h' => h = h' ∧ v = some (.int (bl (kyb h 423)))) := by
  refine xa_tn 8 [] [] [.int (Int32.ofInt 0), .int (Int32.ofInt 0), .int (Int32.ofInt 0), .int 114, .int 111, .ref 39] h [] 8 hq rfl trivial (fun _ => ?_)
  refine xp_run (d := d) (Q1 := fun v h' => h = h' ∧ v = some (.long 423)) hq rfl rfl ?_ ?_
  · refine xa_tn 81 [] [] [.long (((27 * ((111 : Int32).toInt64 - 96)) + (114 : Int32).toInt64) - 96)] h [true, true, true] 21 hq rfl ⟨by decide, by decide, by decide, trivial⟩ (fun _ => ?_)
    exact xp_ret rfl rfl rfl ⟨rfl, by decide +kernel⟩
  · rintro v h1 ⟨rfl, rfl⟩
    refine xp_run hq rfl rfl (ky_run (d := d) hq) ?_
    rintro v h1 ⟨rfl, rfl⟩
    exact xp_ret rfl rfl (by cases kyb h 423 <;> rfl) ⟨rfl, rfl⟩
set_option maxRecDepth 100000 in
set_option maxHeartbeats 4000000 in
/-- 'of' -/
theorem isOf_run (hq : a_rq a_tb h) : xt_P (d + 1) xi_X10_isOf xmi_X10_isOf 0 [(0, .ref 39)] [] h (fun v h' => h = h' ∧ v = some (.int (bl (kyb h 411)))) := by
  refine xa_tn 8 [] [] [.int (Int32.ofInt 0), .int (Int32.ofInt 0), .int (Int32.ofInt 0), .int 102, .int 111, .ref 39] h [] 8 hq rfl trivial (fun _ => ?_)
  refine xp_run (d := d) (Q1 := fun v h' => h = h' ∧ v = some (.long 411)) hq rfl rfl ?_ ?_
  · refine xa_tn 81 [] [] [.long (((27 * ((111 : Int32).toInt64 - 96)) + (102 : Int32).toInt64) - 96)] h [true, true, true] 21 hq rfl ⟨by decide, by decide, by decide, trivial⟩ (fun _ => ?_)
    exact xp_ret rfl rfl rfl ⟨rfl, by decide +kernel⟩
  · rintro v h1 ⟨rfl, rfl⟩
    refine xp_run hq rfl rfl (ky_run (d := d) hq) ?_
    rintro v h1 ⟨rfl, rfl⟩
    exact xp_ret rfl rfl (by cases kyb h 411 <;> rfl) ⟨rfl, rfl⟩
/-- the token is a name -/
def nmb (h : xh_H) : Bool := decide (xg 0 h.2.1 39 9 = 2) && (decide (1 < (xg 0 h.2.1 39 12).toInt) && (!(kyb h 50434) && (!(kyb h 1627639) && (!(kyb h 1111) && (!(kyb h 423) && !(kyb h 411))))))
set_option maxRecDepth 100000 in
set_option maxHeartbeats 4000000 in
theorem nm_run (hq : a_rq a_tb h) : xt_P (d + 2) xi_X10_isName xmi_X10_isName 0 [(0, .ref 39)] [] h (fun v h' => h = h' ∧ v = some (.int (bl (nmb h)))) := by
  unfold nmb
  cases c1 : xe_c .ne (xg 0 h.2.1 39 9) (Int32.ofInt 2) with
  | true =>
    refine xa_tn 56 [] [] [.int (Int32.ofInt 0)] h [true] 7 hq rfl ⟨c1, trivial⟩ (fun _ => ?_)
    refine xp_ret rfl rfl rfl ⟨rfl, ?_⟩
    rw [decide_eq_false (show ¬ xg 0 h.2.1 39 9 = 2 from xne_i c1)]
    rfl
  | false =>
    rw [decide_eq_true (show xg 0 h.2.1 39 9 = 2 from xne_j c1)]
    cases c2 : xe_c .le (xg 0 h.2.1 39 12) (Int32.ofInt 1) with
    | true =>
      have b2 : (xg 0 h.2.1 39 12).toInt ≤ (1 : Int) := a_ce c2
      refine xa_tn 56 [] [] [.int (Int32.ofInt 0)] h [false, true] 11 hq rfl ⟨c1, c2, trivial⟩ (fun _ => ?_)
      refine xp_ret rfl rfl rfl ⟨rfl, ?_⟩
      rw [decide_eq_false (show ¬ 1 < (xg 0 h.2.1 39 12).toInt by omega)]
      rfl
    | false =>
      have b2 : (1 : Int) < (xg 0 h.2.1 39 12).toInt := a_ce (a_neg_ok c2)
      rw [decide_eq_true b2]
      refine xa_tn 17 [0] [(0, .ref 39)] [.ref 39] h [false, false] 11 hq rfl ⟨c1, c2, trivial⟩ (fun _ => ?_)
      refine xp_run hq rfl rfl (isBody_run (d := d) hq) ?_
      rintro v h1 ⟨rfl, rfl⟩
      cases kyb h 50434 with
      | true =>
        refine xa_tn 56 [] [] [.int (Int32.ofInt 0)] h [true] 4 hq rfl ⟨rfl, trivial⟩ (fun _ => ?_)
        exact xp_ret rfl rfl rfl ⟨rfl, rfl⟩
      | false =>
        refine xa_tn 24 [0] [(0, .ref 39)] [.ref 39] h [false] 4 hq rfl ⟨rfl, trivial⟩ (fun _ => ?_)
        refine xp_run hq rfl rfl (isCarry_run (d := d) hq) ?_
        rintro v h1 ⟨rfl, rfl⟩
        cases kyb h 1627639 with
        | true =>
          refine xa_tn 56 [] [] [.int (Int32.ofInt 0)] h [true] 4 hq rfl ⟨rfl, trivial⟩ (fun _ => ?_)
          exact xp_ret rfl rfl rfl ⟨rfl, rfl⟩
        | false =>
          refine xa_tn 31 [0] [(0, .ref 39)] [.ref 39] h [false] 4 hq rfl ⟨rfl, trivial⟩ (fun _ => ?_)
          refine xp_run hq rfl rfl (isAnd_run (d := d) hq) ?_
          rintro v h1 ⟨rfl, rfl⟩
          cases kyb h 1111 with
          | true =>
            refine xa_tn 56 [] [] [.int (Int32.ofInt 0)] h [true] 4 hq rfl ⟨rfl, trivial⟩ (fun _ => ?_)
            exact xp_ret rfl rfl rfl ⟨rfl, rfl⟩
          | false =>
            refine xa_tn 38 [0] [(0, .ref 39)] [.ref 39] h [false] 4 hq rfl ⟨rfl, trivial⟩ (fun _ => ?_)
            refine xp_run hq rfl rfl (isOr_run (d := d) hq) ?_
            rintro v h1 ⟨rfl, rfl⟩
            cases kyb h 423 with
            | true =>
              refine xa_tn 56 [] [] [.int (Int32.ofInt 0)] h [true] 4 hq rfl ⟨rfl, trivial⟩ (fun _ => ?_)
              exact xp_ret rfl rfl rfl ⟨rfl, rfl⟩
            | false =>
              refine xa_tn 45 [0] [(0, .ref 39)] [.ref 39] h [false] 4 hq rfl ⟨rfl, trivial⟩ (fun _ => ?_)
              refine xp_run hq rfl rfl (isOf_run (d := d) hq) ?_
              rintro v h1 ⟨rfl, rfl⟩
              cases kyb h 411 with
              | true =>
                refine xa_tn 56 [] [] [.int (Int32.ofInt 0)] h [true] 4 hq rfl ⟨rfl, trivial⟩ (fun _ => ?_)
                exact xp_ret rfl rfl rfl ⟨rfl, rfl⟩
              | false =>
                refine xa_tn 56 [] [] [.int (Int32.ofInt 1)] h [false] 5 hq rfl ⟨rfl, trivial⟩ (fun _ => ?_)
                exact xp_ret rfl rfl rfl ⟨rfl, rfl⟩
/-- the name at hand was told as the k-th -/
def nhp (h : xh_H) (k : Nat) : Prop := xg 0 h.2.2.1 50 k = xg 0 h.2.2.1 39 15
set_option maxRecDepth 100000 in
set_option maxHeartbeats 4000000 in
theorem nh_loop {n : Nat} (hq : a_rq a_tb h) (hn : xg 0 h.2.1 39 26 = nI n) (n16 : n ≤ 16) : ∀ (m k : Nat), k + m = n → (∀ j, j < k → ¬ nhp h j) → xt_P d xi_X10_nameAtHand xmi_X10_nameAtHand 2 [(0, .ref 39), (1, .int (nI k))] [] h (fun v h' => h = h' ∧ ((v = some (.int (Int32.ofInt (-1))) ∧ ∀ j, j < n → ¬ nhp h j) ∨ ∃ k, k < n ∧ v = some (.int (nI k)) ∧ nhp h k)) := by
  intro m
  induction m with
  | zero =>
    intro k hk' hall
    have e : k = n := by omega
    subst e
    refine xa_tn 33 [] [] [.int (Int32.ofInt (-1))] h [true] 7 hq rfl ⟨(show xe_c .ge (nI k) (xg 0 h.2.1 39 26) = true by rw [hn]; exact nge_t (by omega) (by omega) (Nat.le_refl _)), trivial⟩ (fun _ => ?_)
    exact xp_ret rfl rfl rfl ⟨rfl, Or.inl ⟨rfl, hall⟩⟩
  | succ m ih =>
    intro k hk' hall
    have hge : xe_c .ge (nI k) (xg 0 h.2.1 39 26) = false := by rw [hn]; exact nge_f (by omega) (by omega) (by omega)
    have hin := xin_n (k := k) (n := 16) (by omega) (by omega)
    have ekc : (nI k).toNatClampNeg = k := nI_clamp (by omega)
    have e1 : nI k + Int32.ofInt 1 = nI (k + 1) := nI_1 k
    cases c1 : xe_c .ne (lg_cmp (xg 0 h.2.2.1 50 (nI k).toNatClampNeg) (xg 0 h.2.2.1 39 15)) 0 with
    | false =>
      refine xa_tn 25 [] [] [.int (nI k)] h [false, false] 15 hq rfl ⟨hge, hin, c1, trivial⟩ (fun _ => ?_)
      refine xp_ret rfl rfl rfl ⟨rfl, Or.inr ⟨k, by omega, rfl, ?_⟩⟩
      have := lg0.mp (xne_j c1)
      rw [ekc] at this
      exact this
    | true =>
      refine xa_tn 2 [0, 1] [(0, .ref 39), (1, .int ((nI k) + Int32.ofInt 1))] [] h [false, true] 16 hq rfl ⟨hge, hin, c1, trivial⟩ (fun _ => ?_)
      rw [e1]
      refine ih (k + 1) (by omega) (fun j hj z => ?_)
      by_cases e : j = k
      · subst e
        rw [ekc] at c1
        exact xne_i c1 (lg0.mpr z)
      · exact hall j (by omega) z
set_option maxRecDepth 100000 in
theorem nh_run {n : Nat} (hq : a_rq a_tb h) (hn : xg 0 h.2.1 39 26 = nI n) (n16 : n ≤ 16) : xt_P d xi_X10_nameAtHand xmi_X10_nameAtHand 0 [(0, .ref 39)] [] h (fun v h' => h = h' ∧ ((v = some (.int (Int32.ofInt (-1))) ∧ ∀ j, j < n → ¬ nhp h j) ∨ ∃ k, k < n ∧ v = some (.int (nI k)) ∧ nhp h k)) := by
  refine xa_tn 2 [0, 1] [(0, .ref 39), (1, .int (Int32.ofInt 0))] [] h [] 4 hq rfl trivial (fun _ => ?_)
  exact nh_loop hq hn n16 n 0 (by omega) (fun j hj => absurd hj (Nat.not_lt_zero j))
end XTK
end
section
section XGO
abbrev go_md : List (Nat × Nat) := [(39, 7), (39, 8), (39, 9), (39, 10), (39, 11), (39, 12)]
theorem hk_ul {md : List (Nat × Nat)} {h0 h : xh_H} {c k : Nat} {x : Int64} {s : Nat × Nat} (hk0 : hk md h0 h) (hn : 72 ≤ h0.1.length) (hs : a_sh[c]? = some s) (he : a_ent a_tb s c k = (1, -9223372036854775808, 9223372036854775807)) : hk md h0 (xh_ul h c k x) := by
  have hc := a_sh_lt hs
  exact ⟨a_inv_ul (lo := -9223372036854775808) (hi := 9223372036854775807) hk0.1 ((hk_q hk0 hn).2.1 c s hs) (by rw [a_tg_lt hc]; exact he) (lr x).1 (lr x).2, hk0.2.1, hk0.2.2⟩
/-- where the reference reads: how far it is, the token's beginning, its kind -/
def go_P (h' : xh_H) (sz t0 : Nat) : Prop := ∃ t f k : Nat, xg 0 h'.2.1 39 7 = nI t ∧ xg 0 h'.2.1 39 8 = nI f ∧ xg 0 h'.2.1 39 9 = nI k ∧ k ≤ 4 ∧ t0 ≤ t ∧ t ≤ sz ∧ f ≤ 640 ∧ (t0 ≤ f ∨ (600 < sz ∧ 600 ≤ f)) ∧ (2 ≤ k → f < t ∧ (600 < sz → f < 600)) ∧ (k = 3 → 0 ≤ (xg 0 h'.2.1 39 10).toInt ∧ (xg 0 h'.2.1 39 10).toInt ≤ 999)
def gq (h0 : xh_H) (sz t0 : Nat) (v : Option Value) (h' : xh_H) : Prop := v = none ∧ hk go_md h0 h' ∧ go_P h' sz t0
theorem fi {h : xh_H} {c k c' k' : Nat} {x : Int32} (e : ¬ (c' = c ∧ k' = k)) : xg 0 (xh_ui h c k x).2.1 c' k' = xg 0 h.2.1 c' k' := gx_i e
set_option maxRecDepth 100000 in
set_option maxHeartbeats 8000000 in
/-- the end of a run of letters and digits -/
theorem gE {d sz t0 t f : Nat} {h0 h : xh_H} {w g : Bool} (hn : 72 ≤ h0.1.length) (hk0 : hk go_md h0 h) (h7 : xg 0 h.2.1 39 7 = nI t) (h8 : xg 0 h.2.1 39 8 = nI f) (hft : f < t) (htz : t ≤ sz) (s640 : sz ≤ 640) (h0f : t0 ≤ f) (f600 : 600 < sz → f < 600) (hnum : g = true → w = false → 0 ≤ (xg 0 h.2.1 39 10).toInt ∧ (xg 0 h.2.1 39 10).toInt ≤ 999) : xt_P d xi_X10_go xmi_X10_go 318 [(0, .ref 39), (2, .int (bl w)), (3, .int (bl g))] [] h (gq h0 sz t0) := by
  refine xa_tn 331 [0, 2, 3] [(0, .ref 39), (2, .int (bl w)), (3, .int (bl g))] [] (xh_ui h 39 12 ((xg 0 h.2.1 39 7) - (xg 0 h.2.1 39 8))) [] 9 (hk_q hk0 hn) rfl trivial (fun _ => ?_)
  have el : nI t - nI f = nI (t - f) := by
    obtain ⟨j, rfl⟩ : ∃ j, t = j + f := ⟨t - f, by omega⟩
    rw [← nI_add, Int32.add_sub_cancel, Nat.add_sub_cancel]
  rw [h7, h8, el]
  have li := nI_toInt (n := t - f) (by omega)
  have hk1 : hk go_md h0 (xh_ui h 39 12 (nI (t - f))) := hk_ui (s := (0, 10)) (lo := -640) (hi := 640) hk0 hn rfl rfl (by omega) (by omega) rfl rfl
  have g7 : xg 0 (xh_ui h 39 12 (nI (t - f))).2.1 39 7 = nI t := by rw [gx_k (by decide)]; exact h7
  have g8 : xg 0 (xh_ui h 39 12 (nI (t - f))).2.1 39 8 = nI f := by rw [gx_k (by decide)]; exact h8
  have g10 : xg 0 (xh_ui h 39 12 (nI (t - f))).2.1 39 10 = xg 0 h.2.1 39 10 := gx_k (by decide)
  have g12 : xg 0 (xh_ui h 39 12 (nI (t - f))).2.1 39 12 = nI (t - f) := gx_s
  generalize xh_ui h 39 12 (nI (t - f)) = h1 at hk1 g7 g8 g10 g12 ⊢
  have q1 := hk_q hk1 hn
  have fin : ∀ k : Nat, k ≤ 4 → (k = 3 → g = true ∧ w = false) → gq h0 sz t0 none (xh_ui h1 39 9 (nI k)) := by
    intro k k4 k3
    have ki := nI_toInt (n := k) (by omega)
    refine ⟨rfl, hk_ui (s := (0, 10)) (lo := 0) (hi := 4) hk1 hn rfl rfl (by omega) (by omega) rfl rfl, t, f, k, by rw [gx_k (by decide)]; exact g7, by rw [gx_k (by decide)]; exact g8, gx_s, k4, by omega, htz, by omega, Or.inl h0f, fun _ => ⟨hft, f600⟩, fun e => ?_⟩
    rw [gx_k (by decide), g10]
    obtain ⟨z1, z2⟩ := k3 e
    exact hnum z1 z2
  cases g with
  | false =>
    refine xa_tn 369 [] [] [] (xh_ui h1 39 9 (Int32.ofInt 1)) [true] 8 q1 rfl ⟨rfl, trivial⟩ (fun _ => ?_)
    exact xp_ret rfl rfl rfl (fin 1 (by decide) (fun z => by cases z))
  | true =>
    cases w with
    | false =>
      cases c1 : xe_c .le (xg 0 h1.2.1 39 12) (Int32.ofInt 3) with
      | false =>
        refine xa_tn 369 [] [] [] (xh_ui h1 39 9 (Int32.ofInt 1)) [false, true, false] 14 q1 rfl ⟨rfl, rfl, c1, trivial⟩ (fun _ => ?_)
        exact xp_ret rfl rfl rfl (fin 1 (by decide) (fun z => by cases z))
      | true =>
        refine xa_tn 369 [] [] [] (xh_ui h1 39 9 (Int32.ofInt 3)) [false, true, true, true] 17 q1 rfl ⟨rfl, rfl, c1, rfl, trivial⟩ (fun _ => ?_)
        exact xp_ret rfl rfl rfl (fin 3 (by decide) (fun _ => ⟨rfl, rfl⟩))
    | true =>
      cases c1 : xe_c .le (xg 0 h1.2.1 39 12) 8 with
      | false =>
        refine xa_tn 369 [] [] [] (xh_ui h1 39 9 (Int32.ofInt 1)) [false, false, false] 15 q1 rfl ⟨rfl, rfl, c1, trivial⟩ (fun _ => ?_)
        exact xp_ret rfl rfl rfl (fin 1 (by decide) (fun z => by cases z))
      | true =>
        refine xa_tn 369 [] [] [] (xh_ui h1 39 9 (Int32.ofInt 2)) [false, false, true, false] 17 q1 rfl ⟨rfl, rfl, c1, rfl, trivial⟩ (fun _ => ?_)
        exact xp_ret rfl rfl rfl (fin 2 (by decide) (fun z => by cases z))
theorem tp_b {h : xh_H} {k : Nat} (hi : a_inw a_tb h) (hn : 72 ≤ h.1.length) (hk' : k < 640) : 0 ≤ (xg 0 h.2.1 40 k).toInt ∧ (xg 0 h.2.1 40 k).toInt ≤ 255 := a_elx (c := 40) (k := k) (lo := 0) (hi := 255) hi hn rfl rfl hk'
theorem isD_b {c : Int32} (h : isD c = true) : 48 ≤ c.toInt ∧ c.toInt ≤ 57 := by
  unfold isD at h
  rw [Bool.and_eq_true, decide_eq_true_eq, decide_eq_true_eq] at h
  exact h
theorem isL_0 : isL 0 = false := by decide
theorem isD_0 : isD 0 = false := by decide
set_option maxRecDepth 100000 in
set_option maxHeartbeats 8000000 in
/-- a run of letters and digits -/
theorem gB {d sz t0 f : Nat} {h0 : xh_H} {w : Bool} (hn : 72 ≤ h0.1.length) (s640 : sz ≤ 640) (hsz : xg 0 h0.2.1 39 6 = nI sz) (h0f : t0 ≤ f) (f600 : 600 < sz → f < 600) (hf1 : f < sz) (hal : isL (xg 0 h0.2.1 40 f) = true ∨ isD (xg 0 h0.2.1 40 f) = true) : ∀ (n t : Nat) (g : Bool) (h : xh_H), t + n = sz → f ≤ t → hk go_md h0 h → xg 0 h.2.1 39 7 = nI t → xg 0 h.2.1 39 8 = nI f → (g = true → w = false → 0 ≤ (xg 0 h.2.1 39 10).toInt ∧ ((t = f → (xg 0 h.2.1 39 10).toInt ≤ 0) ∧ (t = f + 1 → (xg 0 h.2.1 39 10).toInt ≤ 9) ∧ (t = f + 2 → (xg 0 h.2.1 39 10).toInt ≤ 99) ∧ (xg 0 h.2.1 39 10).toInt ≤ 999)) → xt_P (d + 1) xi_X10_go xmi_X10_go 183 [(0, .ref 39), (2, .int (bl w)), (3, .int (bl g))] [] h (gq h0 sz t0) := by
  intro n
  induction n with
  | zero =>
    intro t g h ht hft hk0 h7 h8 hnum
    have e : t = sz := by omega
    subst e
    have hq := hk_q hk0 hn
    have h6 : xg 0 h.2.1 39 6 = nI t := (hk_g (c := 39) (k := 6) hk0 rfl rfl).trans hsz
    refine xa_tn 188 [0, 2, 3] [(0, .ref 39), (2, .int (bl w)), (3, .int (bl g))] [.int (xg 0 h.2.1 39 7), .ref 39] h [] 5 hq rfl trivial (fun _ => ?_)
    rw [h7]
    refine xp_run hq rfl rfl (ba_run (d := d) (p := t) (sz := t) hq h6 s640 s640) ?_
    rintro v h1 ⟨rfl, rfl⟩
    rw [if_neg (Nat.lt_irrefl t)]
    refine xp_run hq rfl rfl (isL_run (d := d) hq) ?_
    rintro v h1 ⟨rfl, rfl⟩
    refine xa_tn 202 [0, 2, 3] [(0, .ref 39), (2, .int (bl w)), (3, .int (bl g))] [.int (xg 0 h.2.1 39 7), .ref 39] h [false] 6 hq rfl ⟨rfl, trivial⟩ (fun _ => ?_)
    rw [h7]
    refine xp_run hq rfl rfl (ba_run (d := d) (p := t) (sz := t) hq h6 s640 s640) ?_
    rintro v h1 ⟨rfl, rfl⟩
    rw [if_neg (Nat.lt_irrefl t)]
    refine xp_run hq rfl rfl (isD_run (d := d) hq) ?_
    rintro v h1 ⟨rfl, rfl⟩
    refine xa_tn 318 [0, 2, 3] [(0, .ref 39), (2, .int (bl w)), (3, .int (bl g))] [] h [true] 3 hq rfl ⟨rfl, trivial⟩ (fun _ => ?_)
    exact gE hn hk0 h7 h8 hf1 (Nat.le_refl _) s640 h0f f600 (fun z1 z2 => ⟨(hnum z1 z2).1, (hnum z1 z2).2.2.2.2⟩)
  | succ n ih =>
    intro t g h ht hft hk0 h7 h8 hnum
    have htz : t < sz := by omega
    have hq := hk_q hk0 hn
    have h6 : xg 0 h.2.1 39 6 = nI sz := (hk_g (c := 39) (k := 6) hk0 rfl rfl).trans hsz
    have ht0 : xg 0 h.2.1 40 t = xg 0 h0.2.1 40 t := hk_g hk0 rfl rfl
    have tb := tp_b (k := t) hk0.1.1 (hk_n hk0 hn) (by omega)
    -- a letter or digit more
    have body : (isL (xg 0 h.2.1 40 t) = true ∨ isD (xg 0 h.2.1 40 t) = true) → xt_P (d + 1) xi_X10_go xmi_X10_go 211 [(0, .ref 39), (2, .int (bl w)), (3, .int (bl g))] [] h (gq h0 sz t0) := by
      intro hcl
      refine xa_tn 222 [0, 2, 3, 4] [(0, .ref 39), (2, .int (bl w)), (3, .int (bl g)), (4, .int (xg 0 h.2.1 40 (xg 0 h.2.1 39 7).toNatClampNeg))] [] h [] 8 hq rfl ⟨(show xe_in (xg 0 h.2.1 39 7) 640 = true by rw [h7]; exact xin_n (by omega) (by omega)), trivial⟩ (fun _ => ?_)
      rw [h7, nI_clamp (by omega)]
      generalize hc : xg 0 h.2.1 40 t = c at hcl tb
      -- behind the test of its kind
      have rest : ∀ g2 : Bool, (g2 = true → w = false → g = true ∧ isD c = true) → xt_P (d + 1) xi_X10_go xmi_X10_go 241 [(0, .ref 39), (2, .int (bl w)), (3, .int (bl g2)), (4, .int c)] [] h (gq h0 sz t0) := by
        intro g2 hg2
        have ediff : nI t - nI f = nI (t - f) := by
          obtain ⟨j, rfl⟩ : ∃ j, t = j + f := ⟨t - f, by omega⟩
          rw [← nI_add, Int32.add_sub_cancel, Nat.add_sub_cancel]
        have di := nI_toInt (n := t - f) (by omega)
        have e1 : nI t + Int32.ofInt 1 = nI (t + 1) := nI_1 t
        have ti := nI_toInt (n := t + 1) (by omega)
        -- the word
        have wd : ∀ h1 : xh_H, hk go_md h0 h1 → (∀ k, xg 0 h1.2.1 39 k = xg 0 h.2.1 39 k) → xt_P (d + 1) xi_X10_go xmi_X10_go 275 [(0, .ref 39), (2, .int (bl w)), (3, .int (bl g2)), (4, .int c)] [] h1 (gq h0 sz t0) := by
          intro h1 hk1 e39
          have q1 := hk_q hk1 hn
          cases c1 : xe_c .ge (nI (t - f)) (Int32.ofInt 3) with
          | true =>
            have b1 : (3 : Int) ≤ (nI (t - f)).toInt := a_ce c1
            refine xa_tn 305 [0, 2, 3, 4] [(0, .ref 39), (2, .int (bl w)), (3, .int (bl g2)), (4, .int c)] [] h1 [true] 9 q1 rfl ⟨(show xe_c .ge ((xg 0 h1.2.1 39 7) - (xg 0 h1.2.1 39 8)) (Int32.ofInt 3) = true by rw [e39, e39, h7, h8, ediff]; exact c1), trivial⟩ (fun _ => ?_)
            refine xa_tn 183 [0, 2, 3] [(0, .ref 39), (2, .int (bl w)), (3, .int (bl g2))] [] (xh_ui h1 39 7 ((xg 0 h1.2.1 39 7) + (Int32.ofInt 1))) [] 9 q1 rfl trivial (fun _ => ?_)
            rw [e39, h7, e1]
            refine ih (t + 1) g2 _ (by omega) (by omega) (hk_ui (s := (0, 10)) (lo := 0) (hi := 640) hk1 hn rfl rfl (by omega) (by omega) rfl rfl) gx_s (by rw [gx_k (by decide), e39]; exact h8) (fun z1 z2 => ?_)
            rw [gx_k (by decide), e39]
            have := hnum (hg2 z1 z2).1 z2
            exact ⟨this.1, fun z => by omega, fun z => by omega, fun z => by omega, this.2.2.2.2⟩
          | false =>
            have b1 : (nI (t - f)).toInt < (3 : Int) := a_ce (a_neg_ok c1)
            refine xa_tn 305 [0, 2, 3, 4] [(0, .ref 39), (2, .int (bl w)), (3, .int (bl g2)), (4, .int c)] [] (xh_ui h1 39 10 (((10 * (xg 0 h1.2.1 39 10)) + c) - 48)) [false] 19 q1 rfl ⟨(show xe_c .ge ((xg 0 h1.2.1 39 7) - (xg 0 h1.2.1 39 8)) (Int32.ofInt 3) = false by rw [e39, e39, h7, h8, ediff]; exact c1), trivial⟩ (fun _ => ?_)
            rw [e39]
            have nr := ar_rng (((10 * (xg 0 h.2.1 39 10)) + c) - 48)
            have hk2 : hk go_md h0 (xh_ui h1 39 10 (((10 * (xg 0 h.2.1 39 10)) + c) - 48)) := hk_ui (s := (0, 10)) (lo := -2147483648) (hi := 2147483647) hk1 hn rfl rfl nr.1 nr.2 rfl rfl
            have k7 : xg 0 (xh_ui h1 39 10 (((10 * (xg 0 h.2.1 39 10)) + c) - 48)).2.1 39 7 = nI t := by rw [gx_k (by decide), e39]; exact h7
            have k8 : xg 0 (xh_ui h1 39 10 (((10 * (xg 0 h.2.1 39 10)) + c) - 48)).2.1 39 8 = nI f := by rw [gx_k (by decide), e39]; exact h8
            have k10 : xg 0 (xh_ui h1 39 10 (((10 * (xg 0 h.2.1 39 10)) + c) - 48)).2.1 39 10 = ((10 * (xg 0 h.2.1 39 10)) + c) - 48 := gx_s
            generalize xh_ui h1 39 10 (((10 * (xg 0 h.2.1 39 10)) + c) - 48) = h2 at hk2 k7 k8 k10 ⊢
            refine xa_tn 183 [0, 2, 3] [(0, .ref 39), (2, .int (bl w)), (3, .int (bl g2))] [] (xh_ui h2 39 7 ((xg 0 h2.2.1 39 7) + (Int32.ofInt 1))) [] 9 (hk_q hk2 hn) rfl trivial (fun _ => ?_)
            rw [k7, e1]
            refine ih (t + 1) g2 _ (by omega) (by omega) (hk_ui (s := (0, 10)) (lo := 0) (hi := 640) hk2 hn rfl rfl (by omega) (by omega) rfl rfl) gx_s (by rw [gx_k (by decide)]; exact k8) (fun z1 z2 => ?_)
            rw [gx_k (by decide), k10]
            obtain ⟨zg, zd⟩ := hg2 z1 z2
            have nb := hnum zg z2
            have db := isD_b zd
            have t10 : (10 : Int32).toInt = 10 := rfl
            have t48 : (48 : Int32).toInt = 48 := rfl
            have a1 : (10 * (xg 0 h.2.1 39 10)).toInt = 10 * (xg 0 h.2.1 39 10).toInt := by
              rw [ar_mul (x := (10 : Int32)) (by rw [t10]; omega) (by rw [t10]; omega), t10]
            have a2 : ((10 * (xg 0 h.2.1 39 10)) + c).toInt = 10 * (xg 0 h.2.1 39 10).toInt + c.toInt := by
              rw [ar_add (by rw [a1]; omega) (by rw [a1]; omega), a1]
            have a3 : (((10 * (xg 0 h.2.1 39 10)) + c) - 48).toInt = 10 * (xg 0 h.2.1 39 10).toInt + c.toInt - 48 := by
              rw [ar_sub (by rw [a2, t48]; omega) (by rw [a2, t48]; omega), a2, t48]
            rw [a3]
            have h3 : t = f ∨ t = f + 1 ∨ t = f + 2 := by omega
            rcases h3 with z | z | z
            · have := nb.2.1 z
              exact ⟨by omega, fun z => by omega, fun z => by omega, fun z => by omega, by omega⟩
            · have := nb.2.2.1 z
              exact ⟨by omega, fun z => by omega, fun z => by omega, fun z => by omega, by omega⟩
            · have := nb.2.2.2.1 z
              exact ⟨by omega, fun z => by omega, fun z => by omega, fun z => by omega, by omega⟩
        cases c1 : xe_c .ge (nI (t - f)) 8 with
        | true =>
          refine xa_tn 275 [0, 2, 3, 4] [(0, .ref 39), (2, .int (bl w)), (3, .int (bl g2)), (4, .int c)] [] h [true] 9 hq rfl ⟨(show xe_c .ge ((xg 0 h.2.1 39 7) - (xg 0 h.2.1 39 8)) 8 = true by rw [h7, h8, ediff]; exact c1), trivial⟩ (fun _ => ?_)
          exact wd h hk0 (fun _ => rfl)
        | false =>
          refine xa_tn 275 [0, 2, 3, 4] [(0, .ref 39), (2, .int (bl w)), (3, .int (bl g2)), (4, .int c)] [] (xh_ul h 39 15 (((27 * (xg 0 h.2.2.1 39 15)) + c.toInt64) - 96)) [false] 20 hq rfl ⟨(show xe_c .ge ((xg 0 h.2.1 39 7) - (xg 0 h.2.1 39 8)) 8 = false by rw [h7, h8, ediff]; exact c1), trivial⟩ (fun _ => ?_)
          exact wd _ (hk_ul (s := (0, 10)) hk0 hn rfl rfl) (fun _ => rfl)
      cases g with
      | false =>
        refine xa_tn 241 [0, 2, 3, 4] [(0, .ref 39), (2, .int (bl w)), (3, .int (Int32.ofInt 0)), (4, .int c)] [] h [true] 6 hq rfl ⟨rfl, trivial⟩ (fun _ => ?_)
        exact rest false (fun z => by cases z)
      | true =>
        refine xa_tn 228 [0, 2, 3, 4] [(0, .ref 39), (2, .int (bl w)), (3, .int (bl true)), (4, .int c)] [.int c] h [false] 5 hq rfl ⟨rfl, trivial⟩ (fun _ => ?_)
        refine xp_run hq rfl rfl (isL_run (d := d) (c := c) hq) ?_
        rintro v h1 ⟨rfl, rfl⟩
        cases hL : isL c with
        | true =>
          cases w with
          | true =>
            refine xa_tn 241 [0, 2, 3, 4] [(0, .ref 39), (2, .int (bl true)), (3, .int (Int32.ofInt 1)), (4, .int c)] [] h [false] 7 hq rfl ⟨rfl, trivial⟩ (fun _ => ?_)
            exact rest true (fun _ z => by cases z)
          | false =>
            refine xa_tn 241 [0, 2, 3, 4] [(0, .ref 39), (2, .int (bl false)), (3, .int (Int32.ofInt 0)), (4, .int c)] [] h [true] 6 hq rfl ⟨rfl, trivial⟩ (fun _ => ?_)
            exact rest false (fun z => by cases z)
        | false =>
          have hD : isD c = true := by
            rcases hcl with z | z
            · rw [hL] at z; cases z
            · exact z
          cases w with
          | true =>
            refine xa_tn 241 [0, 2, 3, 4] [(0, .ref 39), (2, .int (bl true)), (3, .int (Int32.ofInt 0)), (4, .int c)] [] h [true] 6 hq rfl ⟨rfl, trivial⟩ (fun _ => ?_)
            exact rest false (fun z => by cases z)
          | false =>
            refine xa_tn 241 [0, 2, 3, 4] [(0, .ref 39), (2, .int (bl false)), (3, .int (Int32.ofInt 1)), (4, .int c)] [] h [false] 7 hq rfl ⟨rfl, trivial⟩ (fun _ => ?_)
            exact rest true (fun _ _ => ⟨rfl, hD⟩)
    refine xa_tn 188 [0, 2, 3] [(0, .ref 39), (2, .int (bl w)), (3, .int (bl g))] [.int (xg 0 h.2.1 39 7), .ref 39] h [] 5 hq rfl trivial (fun _ => ?_)
    rw [h7]
    refine xp_run hq rfl rfl (ba_run (d := d) (p := t) (sz := sz) hq h6 s640 (by omega)) ?_
    rintro v h1 ⟨rfl, rfl⟩
    rw [if_pos htz]
    refine xp_run hq rfl rfl (isL_run (d := d) hq) ?_
    rintro v h1 ⟨rfl, rfl⟩
    cases hL : isL (xg 0 h.2.1 40 t) with
    | true =>
      refine xa_tn 211 [0, 2, 3] [(0, .ref 39), (2, .int (bl w)), (3, .int (bl g))] [] h [true] 3 hq rfl ⟨rfl, trivial⟩ (fun _ => ?_)
      exact body (Or.inl hL)
    | false =>
      refine xa_tn 202 [0, 2, 3] [(0, .ref 39), (2, .int (bl w)), (3, .int (bl g))] [.int (xg 0 h.2.1 39 7), .ref 39] h [false] 6 hq rfl ⟨rfl, trivial⟩ (fun _ => ?_)
      rw [h7]
      refine xp_run hq rfl rfl (ba_run (d := d) (p := t) (sz := sz) hq h6 s640 (by omega)) ?_
      rintro v h1 ⟨rfl, rfl⟩
      rw [if_pos htz]
      refine xp_run hq rfl rfl (isD_run (d := d) hq) ?_
      rintro v h1 ⟨rfl, rfl⟩
      cases hD : isD (xg 0 h.2.1 40 t) with
      | true =>
        refine xa_tn 211 [0, 2, 3] [(0, .ref 39), (2, .int (bl w)), (3, .int (bl g))] [] h [false] 3 hq rfl ⟨rfl, trivial⟩ (fun _ => ?_)
        exact body (Or.inr hD)
      | false =>
        refine xa_tn 318 [0, 2, 3] [(0, .ref 39), (2, .int (bl w)), (3, .int (bl g))] [] h [true] 3 hq rfl ⟨rfl, trivial⟩ (fun _ => ?_)
        have hne : t ≠ f := by
          intro e
          rw [ht0, e] at hL hD
          rcases hal with z | z
          · rw [hL] at z; cases z
          · rw [hD] at z; cases z
        exact gE hn hk0 h7 h8 (by omega) (by omega) s640 h0f f600 (fun z1 z2 => ⟨(hnum z1 z2).1, (hnum z1 z2).2.2.2.2⟩)
set_option maxRecDepth 100000 in
set_option maxHeartbeats 8000000 in
/-- behind the blanks -/
theorem gA {d sz t0 t : Nat} {h0 h : xh_H} (hn : 72 ≤ h0.1.length) (s640 : sz ≤ 640) (hsz : xg 0 h0.2.1 39 6 = nI sz) (h0t : t0 ≤ t) (htz : t ≤ sz) (hk0 : hk go_md h0 h) (h7 : xg 0 h.2.1 39 7 = nI t) : xt_P (d + 1) xi_X10_go xmi_X10_go 52 [(0, .ref 39)] [] h (gq h0 sz t0) := by
  have si := nI_toInt (n := sz) (by omega)
  have ti := nI_toInt (n := t) (by omega)
  refine xa_tn 60 [0] [(0, .ref 39)] [] (xh_ui h 39 8 (xg 0 h.2.1 39 7)) [] 6 (hk_q hk0 hn) rfl trivial (fun _ => ?_)
  rw [h7]
  have hk1 : hk go_md h0 (xh_ui h 39 8 (nI t)) := hk_ui (s := (0, 10)) (lo := 0) (hi := 640) hk0 hn rfl rfl (by omega) (by omega) rfl rfl
  have g7 : xg 0 (xh_ui h 39 8 (nI t)).2.1 39 7 = nI t := by rw [gx_k (by decide)]; exact h7
  have g8 : xg 0 (xh_ui h 39 8 (nI t)).2.1 39 8 = nI t := gx_s
  generalize xh_ui h 39 8 (nI t) = h1 at hk1 g7 g8 ⊢
  have q1 := hk_q hk1 hn
  have h6 : xg 0 h1.2.1 39 6 = nI sz := (hk_g (c := 39) (k := 6) hk1 rfl rfl).trans hsz
  have t600 : (600 : Int32).toInt = 600 := rfl
  have main : (600 < sz → t < 600) → xt_P (d + 1) xi_X10_go xmi_X10_go 93 [(0, .ref 39)] [] h1 (gq h0 sz t0) := by
    intro f600
    by_cases hlt : t < sz
    · have tb := tp_b (k := t) hk1.1.1 (hk_n hk1 hn) (by omega)
      have et : xg 0 h1.2.1 40 t = xg 0 h0.2.1 40 t := hk_g hk1 rfl rfl
      refine xa_tn 121 [0, 1] [(0, .ref 39), (1, .int (xg 0 h1.2.1 40 (xg 0 h1.2.1 39 7).toNatClampNeg))] [.int (xg 0 h1.2.1 40 (xg 0 h1.2.1 39 7).toNatClampNeg)] h1 [true] 14 q1 rfl ⟨xlt_t (show (xg 0 h1.2.1 39 7).toInt < (xg 0 h1.2.1 39 6).toInt by rw [g7, h6, ti, si]; omega), (show xe_in (xg 0 h1.2.1 39 7) 640 = true by rw [g7]; exact xin_n (by omega) (by omega)), trivial⟩ (fun _ => ?_)
      rw [g7, nI_clamp (by omega)]
      generalize hc : xg 0 h1.2.1 40 t = c at tb et
      have word : (isL c = true ∨ isD c = true) → xt_P (d + 1) xi_X10_go xmi_X10_go 167 [(0, .ref 39), (1, .int c)] [.int c] h1 (gq h0 sz t0) := by
        intro hcl
        refine xp_run q1 rfl rfl (isL_run (d := d) (c := c) q1) ?_
        rintro v h2 ⟨rfl, rfl⟩
        refine xa_tn 173 [0, 2, 3] [(0, .ref 39), (2, .int (bl (isL c))), (3, .int (Int32.ofInt 1))] [] h1 [] 5 q1 rfl trivial (fun _ => ?_)
        refine xa_tn 183 [0, 2, 3] [(0, .ref 39), (2, .int (bl (isL c))), (3, .int (Int32.ofInt 1))] [] (xh_ui (xh_ul h1 39 15 0) 39 10 (Int32.ofInt 0)) [] 8 q1 rfl trivial (fun _ => ?_)
        have hk2 : hk go_md h0 (xh_ul h1 39 15 0) := hk_ul (s := (0, 10)) hk1 hn rfl rfl
        refine gB hn s640 hsz h0t f600 hlt (by rw [← et]; exact hcl) (sz - t) t true _ (by omega) (Nat.le_refl _) (hk_ui (s := (0, 10)) (lo := -2147483648) (hi := 2147483647) hk2 hn rfl rfl (by decide) (by decide) rfl rfl) (by rw [gx_k (by decide)]; exact g7) (by rw [gx_k (by decide)]; exact g8) (fun _ _ => ?_)
        rw [gx_s]
        exact ⟨by decide, fun _ => by decide, fun z => by omega, fun z => by omega, by decide⟩
      refine xp_run q1 rfl rfl (isL_run (d := d) (c := c) q1) ?_
      rintro v h2 ⟨rfl, rfl⟩
      cases hL : isL c with
      | true =>
        refine xa_tn 167 [0, 1] [(0, .ref 39), (1, .int c)] [.int c] h1 [true] 4 q1 rfl ⟨rfl, trivial⟩ (fun _ => ?_)
        exact word (Or.inl hL)
      | false =>
        refine xa_tn 128 [0, 1] [(0, .ref 39), (1, .int c)] [.int c] h1 [false] 4 q1 rfl ⟨rfl, trivial⟩ (fun _ => ?_)
        refine xp_run q1 rfl rfl (isD_run (d := d) (c := c) q1) ?_
        rintro v h2 ⟨rfl, rfl⟩
        cases hD : isD c with
        | true =>
          refine xa_tn 167 [0, 1] [(0, .ref 39), (1, .int c)] [.int c] h1 [true] 4 q1 rfl ⟨rfl, trivial⟩ (fun _ => ?_)
          exact word (Or.inr hD)
        | false =>
          refine xa_tn 136 [0, 1] [(0, .ref 39), (1, .int c)] [.int c, .ref 39] h1 [false] 5 q1 rfl ⟨rfl, trivial⟩ (fun _ => ?_)
          refine xp_int (C := aC_m_X10_isMark) (lo := 0) (hi := 1) (σ := fun _ => 0) as_m_X10_isMark q1 hk1.1 rfl rfl rfl (Nat.zero_le _) ⟨a_ai tb.1 tb.2, trivial⟩ a_fp0 rfl (fun x h2 x1 x2 i2 l2 f2 q2 => ?_)
          have hk2 : hk go_md h0 h2 := hk_c hk1 i2 l2 f2 (fun _ z => nomatch z)
          have k7 : xg 0 h2.2.1 39 7 = nI t := by rw [fr_nil f2 rfl]; exact g7
          have k8 : xg 0 h2.2.1 39 8 = nI t := by rw [fr_nil f2 rfl]; exact g8
          have e1 : nI t + Int32.ofInt 1 = nI (t + 1) := nI_1 t
          have ti1 := nI_toInt (n := t + 1) (by omega)
          have fin : ∀ k : Nat, k ≤ 4 → k ≠ 3 → xt_P (d + 1) xi_X10_go xmi_X10_go 155 [(0, .ref 39), (1, .int c)] [] (xh_ui (xh_ui h2 39 9 (nI k)) 39 11 c) (gq h0 sz t0) := by
            intro k k4 k3
            have ki := nI_toInt (n := k) (by omega)
            have hk3 : hk go_md h0 (xh_ui (xh_ui h2 39 9 (nI k)) 39 11 c) := hk_ui (s := (0, 10)) (lo := 0) (hi := 255) (hk_ui (s := (0, 10)) (lo := 0) (hi := 4) hk2 hn rfl rfl (by omega) (by omega) rfl rfl) hn rfl rfl tb.1 tb.2 rfl rfl
            have j7 : xg 0 (xh_ui (xh_ui h2 39 9 (nI k)) 39 11 c).2.1 39 7 = nI t := by rw [gx_k (by decide), gx_k (by decide)]; exact k7
            have j8 : xg 0 (xh_ui (xh_ui h2 39 9 (nI k)) 39 11 c).2.1 39 8 = nI t := by rw [gx_k (by decide), gx_k (by decide)]; exact k8
            have j9 : xg 0 (xh_ui (xh_ui h2 39 9 (nI k)) 39 11 c).2.1 39 9 = nI k := by rw [gx_k (by decide)]; exact gx_s
            generalize xh_ui (xh_ui h2 39 9 (nI k)) 39 11 c = h3 at hk3 j7 j8 j9 ⊢
            refine xa_tn 165 [] [] [] (xh_ui h3 39 7 ((xg 0 h3.2.1 39 7) + (Int32.ofInt 1))) [] 8 (hk_q hk3 hn) rfl trivial (fun _ => ?_)
            rw [j7, e1]
            exact xp_ret rfl rfl rfl ⟨rfl, hk_ui (s := (0, 10)) (lo := 0) (hi := 640) hk3 hn rfl rfl (by omega) (by omega) rfl rfl, t + 1, t, k, gx_s, by rw [gx_k (by decide)]; exact j8, by rw [gx_k (by decide)]; exact j9, k4, by omega, by omega, by omega, Or.inl h0t, fun _ => ⟨by omega, f600⟩, fun z => absurd z k3⟩
          cases c1 : xe_c .eq x 0 with
          | true =>
            refine xa_tn 155 [0, 1] [(0, .ref 39), (1, .int c)] [] (xh_ui (xh_ui h2 39 9 (Int32.ofInt 1)) 39 11 c) [true] 8 q2 rfl ⟨c1, trivial⟩ (fun _ => ?_)
            exact fin 1 (by decide) (by decide)
          | false =>
            refine xa_tn 155 [0, 1] [(0, .ref 39), (1, .int c)] [] (xh_ui (xh_ui h2 39 9 (Int32.ofInt 4)) 39 11 c) [false] 9 q2 rfl ⟨c1, trivial⟩ (fun _ => ?_)
            exact fin 4 (by decide) (by decide)
    · refine xa_tn 109 [] [] [] (xh_ui h1 39 9 (Int32.ofInt 0)) [false] 10 q1 rfl ⟨xlt_f (show (xg 0 h1.2.1 39 6).toInt ≤ (xg 0 h1.2.1 39 7).toInt by rw [g7, h6, ti, si]; omega), trivial⟩ (fun _ => ?_)
      exact xp_ret rfl rfl rfl ⟨rfl, hk_ui (s := (0, 10)) (lo := 0) (hi := 4) hk1 hn rfl rfl (by decide) (by decide) rfl rfl, t, t, 0, by rw [gx_k (by decide)]; exact g7, by rw [gx_k (by decide)]; exact g8, gx_s, by decide, h0t, htz, by omega, Or.inl h0t, fun z => by omega, fun z => by cases z⟩
  by_cases hs : sz ≤ 600
  · refine xa_tn 93 [0] [(0, .ref 39)] [] h1 [true] 6 q1 rfl ⟨xle_t (show (xg 0 h1.2.1 39 6).toInt ≤ (600 : Int32).toInt by rw [h6, si, t600]; omega), trivial⟩ (fun _ => ?_)
    exact main (fun z => by omega)
  · by_cases ht : t < 600
    · refine xa_tn 93 [0] [(0, .ref 39)] [] h1 [false, true] 10 q1 rfl ⟨xle_f (show (600 : Int32).toInt < (xg 0 h1.2.1 39 6).toInt by rw [h6, si, t600]; omega), xlt_t (show (xg 0 h1.2.1 39 8).toInt < (600 : Int32).toInt by rw [g8, ti, t600]; omega), trivial⟩ (fun _ => ?_)
      exact main (fun _ => ht)
    · refine xa_tn 92 [] [] [] (xh_ui (xh_ui h1 39 8 600) 39 9 (Int32.ofInt 1)) [false, false] 16 q1 rfl ⟨xle_f (show (600 : Int32).toInt < (xg 0 h1.2.1 39 6).toInt by rw [h6, si, t600]; omega), xlt_f (show (600 : Int32).toInt ≤ (xg 0 h1.2.1 39 8).toInt by rw [g8, ti, t600]; omega), trivial⟩ (fun _ => ?_)
      exact xp_ret rfl rfl rfl ⟨rfl, hk_ui (s := (0, 10)) (lo := 0) (hi := 4) (hk_ui (s := (0, 10)) (lo := 0) (hi := 640) hk1 hn rfl rfl (by decide) (by decide) rfl rfl) hn rfl rfl (by decide) (by decide) rfl rfl, t, 600, 1, by rw [gx_k (by decide), gx_k (by decide)]; exact g7, by rw [gx_k (by decide)]; exact gx_s, gx_s, by decide, h0t, htz, by decide, Or.inr ⟨by omega, by decide⟩, fun z => by omega, fun z => by cases z⟩
set_option maxRecDepth 100000 in
set_option maxHeartbeats 8000000 in
/-- the blanks -/
theorem g0 {d sz t0 : Nat} {h0 : xh_H} (hn : 72 ≤ h0.1.length) (s640 : sz ≤ 640) (hsz : xg 0 h0.2.1 39 6 = nI sz) : ∀ (n t : Nat) (h : xh_H), t + n = sz → t0 ≤ t → hk go_md h0 h → xg 0 h.2.1 39 7 = nI t → xt_P (d + 1) xi_X10_go xmi_X10_go 0 [(0, .ref 39)] [] h (gq h0 sz t0) := by
  intro n
  induction n with
  | zero =>
    intro t h ht h0t hk0 h7
    have h6 : xg 0 h.2.1 39 6 = nI sz := (hk_g (c := 39) (k := 6) hk0 rfl rfl).trans hsz
    refine xa_tn 52 [0] [(0, .ref 39)] [] h [true] 7 (hk_q hk0 hn) rfl ⟨(show xe_c .ge (xg 0 h.2.1 39 7) (xg 0 h.2.1 39 6) = true by rw [h7, h6]; exact nge_t (by omega) (by omega) (by omega)), trivial⟩ (fun _ => ?_)
    exact gA hn s640 hsz h0t (by omega) hk0 h7
  | succ n ih =>
    intro t h ht h0t hk0 h7
    have h6 : xg 0 h.2.1 39 6 = nI sz := (hk_g (c := 39) (k := 6) hk0 rfl rfl).trans hsz
    have hge : xe_c .ge (xg 0 h.2.1 39 7) (xg 0 h.2.1 39 6) = false := by rw [h7, h6]; exact nge_f (by omega) (by omega) (by omega)
    have hin : xe_in (xg 0 h.2.1 39 7) 640 = true := by rw [h7]; exact xin_n (by omega) (by omega)
    have e1 : nI t + Int32.ofInt 1 = nI (t + 1) := nI_1 t
    have ti1 := nI_toInt (n := t + 1) (by omega)
    have go1 : xt_P (d + 1) xi_X10_go xmi_X10_go 0 [(0, .ref 39)] [] (xh_ui h 39 7 (nI (t + 1))) (gq h0 sz t0) := ih (t + 1) _ (by omega) (by omega) (hk_ui (s := (0, 10)) (lo := 0) (hi := 640) hk0 hn rfl rfl (by omega) (by omega) rfl rfl) gx_s
    cases c1 : xe_c .eq (xg 0 h.2.1 40 (xg 0 h.2.1 39 7).toNatClampNeg) 32 with
    | true =>
      refine xa_tn 0 [0] [(0, .ref 39)] [] (xh_ui h 39 7 ((xg 0 h.2.1 39 7) + (Int32.ofInt 1))) [false, true] 21 (hk_q hk0 hn) rfl ⟨hge, hin, c1, trivial⟩ (fun _ => ?_)
      rw [h7, e1]
      exact go1
    | false =>
      cases c2 : xe_c .ne (xg 0 h.2.1 40 (xg 0 h.2.1 39 7).toNatClampNeg) 10 with
      | false =>
        refine xa_tn 0 [0] [(0, .ref 39)] [] (xh_ui h 39 7 ((xg 0 h.2.1 39 7) + (Int32.ofInt 1))) [false, false, false] 28 (hk_q hk0 hn) rfl ⟨hge, hin, c1, hin, c2, trivial⟩ (fun _ => ?_)
        rw [h7, e1]
        exact go1
      | true =>
        refine xa_tn 52 [0] [(0, .ref 39)] [] h [false, false, true] 21 (hk_q hk0 hn) rfl ⟨hge, hin, c1, hin, c2, trivial⟩ (fun _ => ?_)
        exact gA hn s640 hsz h0t (by omega) hk0 h7
end XGO
end
section
section XRL
/-- a row of an array has been written, from its first place on -/
def rl (h0 : xh_H) (c B : Nat) (F : Nat → Int32) (s : Nat) (h : xh_H) : Prop := h.1 = h0.1 ∧ h.2.2 = h0.2.2 ∧ ∀ c' k', xg 0 h.2.1 c' k' = if c' = c ∧ B ≤ k' ∧ k' < B + s then F (k' - B) else xg 0 h0.2.1 c' k'
variable {h0 h hh : xh_H} {c B s : Nat} {F : Nat → Int32} {tb : aT} {md : List (Nat × Nat)}
theorem rl_0 : rl h0 c B F 0 h0 := ⟨rfl, rfl, fun c' k' => by rw [if_neg (by omega)]⟩
theorem rl_s (g : rl h0 c B F s h) : rl h0 c B F (s + 1) (xh_ui h c (B + s) (F s)) := by
  obtain ⟨g1, g2, g3⟩ := g
  refine ⟨g1, g2, fun c' k' => ?_⟩
  by_cases e : c' = c ∧ k' = B + s
  · obtain ⟨rfl, rfl⟩ := e
    rw [gx_s, if_pos ⟨rfl, by omega, by omega⟩, Nat.add_sub_cancel_left]
  · rw [gx_i e, g3]
    by_cases e2 : c' = c ∧ B ≤ k' ∧ k' < B + s
    · rw [if_pos e2, if_pos ⟨e2.1, e2.2.1, by omega⟩]
    · rw [if_neg e2, if_neg]
      rintro ⟨z1, z2, z3⟩
      by_cases z4 : k' = B + s
      · exact e ⟨z1, z4⟩
      · exact e2 ⟨z1, z2, by omega⟩
theorem rl_o {c' k' : Nat} (g : rl h0 c B F s h) (hk' : ¬ (c' = c ∧ B ≤ k' ∧ k' < B + s)) : xg 0 h.2.1 c' k' = xg 0 h0.2.1 c' k' := by rw [g.2.2, if_neg hk']
theorem rl_i {j : Nat} (g : rl h0 c B F s h) (hj : j < s) : xg 0 h.2.1 c (B + j) = F j := by rw [g.2.2, if_pos ⟨rfl, by omega, by omega⟩, Nat.add_sub_cancel_left]
theorem rl_q (g : rl h0 c B F s h) (hq : a_rq tb h0) : a_rq tb h := by
  obtain ⟨g1, g2, -⟩ := g
  refine ⟨by rw [g1]; exact hq.1, fun c s hs => by rw [g1]; exact hq.2.1 c s hs, fun c k ci t h1 h2 => ?_⟩
  rw [g2]
  exact hq.2.2 c k ci t h1 h2
/-- .. and the heap keeps its bounds -/
theorem rl_hk {kd sz : Nat} {lo hi : Int} (g : rl h0 c B F s h) (hk0 : hk md hh h0) (hn : 72 ≤ hh.1.length) (hs : a_sh[c]? = some (kd, sz)) (hkd : kd ≠ 0) (he : a_ent a_tb (kd, sz) c 0 = (0, lo, hi)) (hF : ∀ j, j < s → lo ≤ (F j).toInt ∧ (F j).toInt ≤ hi) (hj : ∀ k, a_jc c k = false) (hm : ∀ k, a_mb md c k = true) : hk md hh h := by
  obtain ⟨g1, g2, g3⟩ := g
  have hc := a_sh_lt hs
  refine ⟨⟨?_, a_J_of hk0.1.2 (fun c' k' e => ?_)⟩, g1.trans hk0.2.1, fun c' k' hz hm' => ?_⟩
  · intro c' s' hs'
    rw [g1] at hs'
    obtain ⟨a1, a2⟩ := hk0.1.1 c' s' hs'
    refine ⟨a1, fun k hk' => ?_⟩
    have a3 := a2 k hk'
    by_cases e : c' = c
    · subst e
      have e3 : s' = (kd, sz) := by
        rw [a_tg_lt hc, hs] at a1
        exact (Option.some.inj a1).symm
      subst e3
      rw [a_tg_lt hc, a_ent0 hkd, he] at a3 ⊢
      have a3 : lo ≤ (xg 0 h0.2.1 c' k).toInt ∧ (xg 0 h0.2.1 c' k).toInt ≤ hi := a3
      show lo ≤ (xg 0 h.2.1 c' k).toInt ∧ (xg 0 h.2.1 c' k).toInt ≤ hi
      rw [g3]
      split
      · rename_i z
        exact hF _ (by omega)
      · exact a3
    · have ex : xg 0 h.2.1 c' k = xg 0 h0.2.1 c' k := by rw [g3, if_neg (fun z => e z.1)]
      unfold a_e at a3 ⊢
      rw [ex, g2, g1]
      exact a3
  · rw [g3, if_neg]
    rintro ⟨rfl, -⟩
    rw [hj] at e
    cases e
  · rw [g3, if_neg]
    · exact hk0.2.2 c' k' hz hm'
    · rintro ⟨rfl, -⟩
      exact hm' (a_mb_t (hm k'))
/-- a counting loop that writes a row -/
theorem rl_loop {N : Nat} {P : Nat → xh_H → Prop} (step : ∀ s h, s < N → rl h0 c B F s h → P (s + 1) (xh_ui h c (B + s) (F s)) → P s h) (fin : ∀ h, rl h0 c B F N h → P N h) : P 0 h0 := by
  have main : ∀ n s h, s + n = N → rl h0 c B F s h → P s h := by
    intro n
    induction n with
    | zero =>
      intro s h hs g
      have e : s = N := by omega
      subst e
      exact fin h g
    | succ n ih =>
      intro s h hs g
      exact step s h (by omega) g (ih (s + 1) _ (by omega) (rl_s g))
  exact main N 0 h0 (by omega) rl_0
/-- .. two rows at once: the second is written over the first one's heap -/
def rl2 (h0 : xh_H) (c1 c2 B : Nat) (F1 F2 : Nat → Int32) (s : Nat) (h : xh_H) : Prop := h.1 = h0.1 ∧ h.2.2 = h0.2.2 ∧ ∀ c' k', xg 0 h.2.1 c' k' = if c' = c1 ∧ B ≤ k' ∧ k' < B + s then F1 (k' - B) else if c' = c2 ∧ B ≤ k' ∧ k' < B + s then F2 (k' - B) else xg 0 h0.2.1 c' k'
variable {c1 c2 : Nat} {F1 F2 : Nat → Int32}
theorem rl2_s (hne : c1 ≠ c2) (g : rl2 h0 c1 c2 B F1 F2 s h) : rl2 h0 c1 c2 B F1 F2 (s + 1) (xh_ui (xh_ui h c1 (B + s) (F1 s)) c2 (B + s) (F2 s)) := by
  obtain ⟨g1, g2, g3⟩ := g
  refine ⟨g1, g2, fun c' k' => ?_⟩
  by_cases e : c' = c2 ∧ k' = B + s
  · obtain ⟨rfl, rfl⟩ := e
    rw [gx_s, if_neg (fun z => hne z.1.symm), if_pos ⟨rfl, by omega, by omega⟩, Nat.add_sub_cancel_left]
  · rw [gx_i e]
    by_cases e1 : c' = c1 ∧ k' = B + s
    · obtain ⟨rfl, rfl⟩ := e1
      rw [gx_s, if_pos ⟨rfl, by omega, by omega⟩, Nat.add_sub_cancel_left]
    · rw [gx_i e1, g3]
      by_cases e2 : c' = c1 ∧ B ≤ k' ∧ k' < B + s
      · rw [if_pos e2, if_pos ⟨e2.1, e2.2.1, by omega⟩]
      · have n2 : ¬ (c' = c1 ∧ B ≤ k' ∧ k' < B + (s + 1)) := by
          rintro ⟨z1, z2, z3⟩
          by_cases z4 : k' = B + s
          · exact e1 ⟨z1, z4⟩
          · exact e2 ⟨z1, z2, by omega⟩
        rw [if_neg e2, if_neg n2]
        by_cases e3 : c' = c2 ∧ B ≤ k' ∧ k' < B + s
        · rw [if_pos e3, if_pos ⟨e3.1, e3.2.1, by omega⟩]
        · rw [if_neg e3, if_neg]
          rintro ⟨z1, z2, z3⟩
          by_cases z4 : k' = B + s
          · exact e ⟨z1, z4⟩
          · exact e3 ⟨z1, z2, by omega⟩
theorem rl2_q (g : rl2 h0 c1 c2 B F1 F2 s h) (hq : a_rq tb h0) : a_rq tb h := by
  obtain ⟨g1, g2, -⟩ := g
  refine ⟨by rw [g1]; exact hq.1, fun c s hs => by rw [g1]; exact hq.2.1 c s hs, fun c k ci t h1 h2 => ?_⟩
  rw [g2]
  exact hq.2.2 c k ci t h1 h2
theorem rl2_o {c' k' : Nat} (g : rl2 h0 c1 c2 B F1 F2 s h) (n1 : ¬ (c' = c1 ∧ B ≤ k' ∧ k' < B + s)) (n2 : ¬ (c' = c2 ∧ B ≤ k' ∧ k' < B + s)) : xg 0 h.2.1 c' k' = xg 0 h0.2.1 c' k' := by rw [g.2.2, if_neg n1, if_neg n2]
theorem rl2_1 {j : Nat} (g : rl2 h0 c1 c2 B F1 F2 s h) (hj : j < s) : xg 0 h.2.1 c1 (B + j) = F1 j := by rw [g.2.2, if_pos ⟨rfl, by omega, by omega⟩, Nat.add_sub_cancel_left]
theorem rl2_2 {j : Nat} (hne : c1 ≠ c2) (g : rl2 h0 c1 c2 B F1 F2 s h) (hj : j < s) : xg 0 h.2.1 c2 (B + j) = F2 j := by rw [g.2.2, if_neg (fun z => hne z.1.symm), if_pos ⟨rfl, by omega, by omega⟩, Nat.add_sub_cancel_left]
theorem rl2_loop {N : Nat} {P : Nat → xh_H → Prop} (hne : c1 ≠ c2) (step : ∀ s h, s < N → rl2 h0 c1 c2 B F1 F2 s h → P (s + 1) (xh_ui (xh_ui h c1 (B + s) (F1 s)) c2 (B + s) (F2 s)) → P s h) (fin : ∀ h, rl2 h0 c1 c2 B F1 F2 N h → P N h) : P 0 h0 := by
  have main : ∀ n s h, s + n = N → rl2 h0 c1 c2 B F1 F2 s h → P s h := by
    intro n
    induction n with
    | zero =>
      intro s h hs g
      have e : s = N := by omega
      subst e
      exact fin h g
    | succ n ih =>
      intro s h hs g
      exact step s h (by omega) g (ih (s + 1) _ (by omega) (rl2_s hne g))
  exact main N 0 h0 (by omega) ⟨rfl, rfl, fun c' k' => by rw [if_neg (by omega), if_neg (by omega)]⟩
/-- two rows are one row, and another one over it -/
theorem rl2_hk {k1 z1 k2 z2 : Nat} {l1 u1 l2 u2 : Int} (hne : c1 ≠ c2) (g : rl2 h0 c1 c2 B F1 F2 s h) (hk0 : hk md hh h0) (hn : 72 ≤ hh.1.length) (hs1 : a_sh[c1]? = some (k1, z1)) (hs2 : a_sh[c2]? = some (k2, z2)) (hd1 : k1 ≠ 0) (hd2 : k2 ≠ 0) (he1 : a_ent a_tb (k1, z1) c1 0 = (0, l1, u1)) (he2 : a_ent a_tb (k2, z2) c2 0 = (0, l2, u2)) (hF1 : ∀ j, j < s → l1 ≤ (F1 j).toInt ∧ (F1 j).toInt ≤ u1) (hF2 : ∀ j, j < s → l2 ≤ (F2 j).toInt ∧ (F2 j).toInt ≤ u2) (hj1 : ∀ k, a_jc c1 k = false) (hj2 : ∀ k, a_jc c2 k = false) (hm1 : ∀ k, a_mb md c1 k = true) (hm2 : ∀ k, a_mb md c2 k = true) : hk md hh h := by
  have mid : ∀ s, ∃ m : xh_H, rl h0 c1 B F1 s m := by
    intro s
    induction s with
    | zero => exact ⟨h0, rl_0⟩
    | succ s ih =>
      obtain ⟨m, hm⟩ := ih
      exact ⟨_, rl_s hm⟩
  obtain ⟨m, hm⟩ := mid s
  have hkm := rl_hk hm hk0 hn hs1 hd1 he1 hF1 hj1 hm1
  refine rl_hk (h0 := m) (c := c2) (B := B) (F := F2) (s := s) ⟨g.1.trans hm.1.symm, g.2.1.trans hm.2.1.symm, fun c' k' => ?_⟩ hkm hn hs2 hd2 he2 hF2 hj2 hm2
  rw [g.2.2, hm.2.2]
  by_cases e1 : c' = c1 ∧ B ≤ k' ∧ k' < B + s
  · rw [if_pos e1, if_neg (fun z => hne (e1.1.symm.trans z.1)), if_pos e1]
  · rw [if_neg e1, if_neg e1]
end XRL
end
section
section XPI
abbrev bg_md : List (Nat × Nat) := [(39, 7), (39, 8), (39, 9), (39, 10), (39, 11), (39, 12), (39, 13), (39, 14), (39, 27), (39, 28), (39, 29), (41, 0), (42, 0), (45, 0), (46, 0), (47, 0), (48, 0), (49, 0)]
/-- a row of sets that is monotone -/
def mo (h : xh_H) (c B : Nat) : Prop := a_mono (fun s => (xg 0 h.2.1 c (B + s)).toInt) 4096
/-- within a text: where it is read, which names were told -/
def pi (h : xh_H) (sz : Nat) : Prop := a_inv a_tb h ∧ sz ≤ 640 ∧ xg 0 h.2.1 39 6 = nI sz ∧ go_P h sz 0 ∧ ∃ nn : Nat, xg 0 h.2.1 39 26 = nI nn ∧ nn ≤ 16 ∧ ∀ k, k < nn → mo h 43 (4096 * k)
/-- a level of a rule: a list's sums, or what was joined so far -/
def lvo (h : xh_H) (t : Nat) (B : Int) : Prop := (xg 0 h.2.1 47 t = 2 → mo h 46 (4096 * t) ∧ ∀ s, s < 4096 → 0 ≤ (xg 0 h.2.1 46 (4096 * t + s)).toInt ∧ (xg 0 h.2.1 46 (4096 * t + s)).toInt ≤ B) ∧ (xg 0 h.2.1 47 t ≠ 2 → mo h 41 (4096 * t) ∧ mo h 42 (4096 * t))
def rI (h : xh_H) (sz : Nat) (B : Int) : Prop := pi h sz ∧ xg 0 h.2.1 47 0 = 0 ∧ ∃ tp : Nat, xg 0 h.2.1 39 28 = nI tp ∧ tp ≤ 12 ∧ ∀ t, t ≤ tp → lvo h t B
def fr (h : xh_H) : Nat := (xg 0 h.2.1 39 8).toInt.toNat
def kd (h : xh_H) : Nat := (xg 0 h.2.1 39 9).toInt.toNat
theorem go_P0 {h : xh_H} {sz t : Nat} (g : go_P h sz t) : go_P h sz 0 := by
  obtain ⟨t', f, k, g1, g2, g3, g4, g5, g6, g7, g8, g9, g10⟩ := g
  exact ⟨t', f, k, g1, g2, g3, g4, Nat.zero_le _, g6, g7, Or.inl (Nat.zero_le _), g9, g10⟩
/-- where the token begins and what it is, again -/
theorem go_Pc {h h' : xh_H} {sz : Nat} (g : go_P h sz 0) (e : ∀ k, 7 ≤ k → k ≤ 10 → xg 0 h'.2.1 39 k = xg 0 h.2.1 39 k) : go_P h' sz 0 := by
  obtain ⟨t', f, k, g1, g2, g3, g4, g5, g6, g7, g8, g9, g10⟩ := g
  refine ⟨t', f, k, by rw [e 7 (by decide) (by decide)]; exact g1, by rw [e 8 (by decide) (by decide)]; exact g2, by rw [e 9 (by decide) (by decide)]; exact g3, g4, g5, g6, g7, g8, g9, fun z => ?_⟩
  rw [e 10 (by decide) (by decide)]
  exact g10 z
theorem mo_c {h h' : xh_H} {c B : Nat} (g : mo h c B) (e : ∀ s, s < 4096 → xg 0 h'.2.1 c (B + s) = xg 0 h.2.1 c (B + s)) : mo h' c B := by
  intro s t hs ht hst
  have := g s t hs ht hst
  dsimp only at this ⊢
  rw [e s hs, e t ht]
  exact this
theorem pi_tr {h h' : xh_H} {sz : Nat} (g : pi h sz) (hk0 : hk bg_md h h') (gp : go_P h' sz 0) : pi h' sz := by
  obtain ⟨g1, g2, g3, g4, nn, g5, g6, g7⟩ := g
  refine ⟨hk0.1, g2, by rw [hk_g (c := 39) (k := 6) hk0 rfl rfl]; exact g3, gp, nn, by rw [hk_g (c := 39) (k := 26) hk0 rfl rfl]; exact g5, g6, fun k hk' => ?_⟩
  exact mo_c (g7 k hk') (fun s _ => hk_g hk0 rfl rfl)
theorem lvo_c {h h' : xh_H} {t : Nat} {B : Int} (g : lvo h t B) (e41 : ∀ s, s < 4096 → xg 0 h'.2.1 41 (4096 * t + s) = xg 0 h.2.1 41 (4096 * t + s)) (e42 : ∀ s, s < 4096 → xg 0 h'.2.1 42 (4096 * t + s) = xg 0 h.2.1 42 (4096 * t + s)) (e46 : ∀ s, s < 4096 → xg 0 h'.2.1 46 (4096 * t + s) = xg 0 h.2.1 46 (4096 * t + s)) (e47 : xg 0 h'.2.1 47 t = xg 0 h.2.1 47 t) : lvo h' t B := by
  obtain ⟨g1, g2⟩ := g
  refine ⟨fun z => ?_, fun z => ?_⟩
  · rw [e47] at z
    obtain ⟨a, b⟩ := g1 z
    exact ⟨mo_c a e46, fun s hs => by rw [e46 s hs]; exact b s hs⟩
  · rw [e47] at z
    obtain ⟨a, b⟩ := g2 z
    exact ⟨mo_c a e41, mo_c b e42⟩
theorem kd_fr {h : xh_H} {sz : Nat} (g : go_P h sz 0) : fr h ≤ 640 ∧ kd h ≤ 4 := by
  obtain ⟨t', f, k, g1, g2, g3, g4, g5, g6, g7, g8, g9, g10⟩ := g
  unfold fr kd
  rw [g2, g3, nI_toInt (by omega), nI_toInt (by omega)]
  omega
set_option maxRecDepth 100000 in
/-- the next token -/
theorem pg {d sz : Nat} {h : xh_H} (hn : 72 ≤ h.1.length) (g : pi h sz) : xt_P (d + 1) xi_X10_go xmi_X10_go 0 [(0, .ref 39)] [] h (fun v h' => v = none ∧ hk go_md h h' ∧ pi h' sz ∧ (2 ≤ kd h → fr h < fr h')) := by
  have g0' := g
  obtain ⟨g1, g2, g3, ⟨t, f, k, a1, a2, a3, a4, a5, a6, a7, a8, a9, a10⟩, g5⟩ := g
  refine xp_mono (g0 (d := d) (t0 := t) hn g2 g3 (sz - t) t h (by omega) (Nat.le_refl _) (hk_0 g1) a1) (fun v h' q => ?_)
  obtain ⟨rfl, q1, q2⟩ := q
  have q3 : hk bg_md h h' := hk_t (hk_0 g1) q1 (by decide)
  refine ⟨rfl, q1, pi_tr g0' q3 (go_P0 q2), fun z => ?_⟩
  obtain ⟨t', f', k', b1, b2, b3, b4, b5, b6, b7, b8, b9, b10⟩ := q2
  unfold kd at z
  unfold fr
  rw [a3, nI_toInt (by omega)] at z
  rw [a2, b2, nI_toInt (by omega), nI_toInt (by omega)]
  have := a9 (by omega)
  omega
/-- go leaves the levels as they are -/
theorem rI_go {h h' : xh_H} {sz : Nat} {B : Int} (g : rI h sz B) (hk0 : hk go_md h h') (p : pi h' sz) : rI h' sz B := by
  obtain ⟨g1, g2, tp, g3, g4, g5⟩ := g
  refine ⟨p, by rw [hk_g (c := 47) (k := 0) hk0 rfl rfl]; exact g2, tp, by rw [hk_g (c := 39) (k := 28) hk0 rfl rfl]; exact g3, g4, fun t ht => ?_⟩
  exact lvo_c (g5 t ht) (fun _ _ => hk_g hk0 rfl rfl) (fun _ _ => hk_g hk0 rfl rfl) (fun _ _ => hk_g hk0 rfl rfl) (hk_g hk0 rfl rfl)
theorem mo_k {h : xh_H} {c B : Nat} {x : Int32} (e : ∀ s, s < 4096 → xg 0 h.2.1 c (B + s) = x) : mo h c B := by
  intro s t hs ht _
  dsimp only
  rw [e s hs, e t ht]
  exact Int.le_refl _
end XPI
end
section
section XOP
theorem i4096 {tp s : Nat} : (4096 : Int32) * nI tp + nI s = nI (4096 * tp + s) := by rw [show (4096 : Int32) = nI 4096 from rfl, ← nI_mul2, nI_add]
/-- what opening a rule or a list leaves -/
def op_Q (h : xh_H) (sz : Nat) (B : Int) (v : Option Value) (h' : xh_H) : Prop := v = none ∧ hk bg_md h h' ∧ rI h' sz B ∧ xg 0 h'.2.1 39 29 = 1 ∧ (2 ≤ kd h → fr h < fr h')
set_option maxRecDepth 100000 in
set_option maxHeartbeats 8000000 in
theorem opr_run {d sz tp : Nat} {B : Int} {ty : Int32} {h : xh_H} (hn : 72 ≤ h.1.length) (g : pi h sz) (htp : xg 0 h.2.1 39 28 = nI tp) (t12 : tp ≤ 12) (hlv : ∀ t, t < tp → lvo h t B) (hty : 0 ≤ ty.toInt ∧ ty.toInt ≤ 1) (h47 : (tp = 0 ∧ ty = 0) ∨ (1 ≤ tp ∧ xg 0 h.2.1 47 0 = 0)) : xt_P (d + 2) xi_X10_openRule xmi_X10_openRule 0 [(0, .ref 39), (1, .int ty)] [] h (op_Q h sz B) := by
  have hq := a_rq_of g.1.1 hn
  have etc : (nI tp).toNatClampNeg = tp := nI_clamp (by omega)
  refine xa_tn 12 [0, 2] [(0, .ref 39), (2, .int (Int32.ofInt 0))] [] (xh_ui h 47 (xg 0 h.2.1 39 28).toNatClampNeg ty) [] 10 hq rfl ⟨(show xe_in (xg 0 h.2.1 39 28) 13 = true by rw [htp]; exact xin_n (by omega) (by omega)), trivial⟩ (fun _ => ?_)
  rw [htp, etc]
  have hk1 : hk bg_md h (xh_ui h 47 tp ty) := hk_ui (s := (1, 13)) (lo := 0) (hi := 2) (hk_0 g.1) hn rfl rfl (by omega) (by omega) rfl rfl
  have a28 : xg 0 (xh_ui h 47 tp ty).2.1 39 28 = nI tp := by rw [gx_o (by decide)]; exact htp
  have a47 : xg 0 (xh_ui h 47 tp ty).2.1 47 tp = ty := gx_s
  have a47o : ∀ t, t ≠ tp → xg 0 (xh_ui h 47 tp ty).2.1 47 t = xg 0 h.2.1 47 t := fun t ht => gx_k ht
  have ao : ∀ c k, c ≠ 47 → xg 0 (xh_ui h 47 tp ty).2.1 c k = xg 0 h.2.1 c k := fun c k hc => gx_o hc
  generalize xh_ui h 47 tp ty = h1 at hk1 a28 a47 a47o ao ⊢
  have q1 := hk_q hk1 hn
  refine rl2_loop (h0 := h1) (c1 := 41) (c2 := 42) (B := 4096 * tp) (F1 := fun _ => 0) (F2 := fun _ => 1) (N := 4096) (P := fun s h' => xt_P (d + 2) xi_X10_openRule xmi_X10_openRule 12 [(0, .ref 39), (2, .int (nI s))] [] h' (op_Q h sz B)) (by decide) ?_ ?_
  · intro s h2 hs gl K
    have q2 := rl2_q gl q1
    have b28 : xg 0 h2.2.1 39 28 = nI tp := by rw [rl2_o gl (by omega) (by omega)]; exact a28
    have hin : xe_in ((4096 * (xg 0 h2.2.1 39 28)) + (nI s)) 53248 = true := by rw [b28, i4096]; exact xin_n (by omega) (by omega)
    have e1 : nI s + Int32.ofInt 1 = nI (s + 1) := nI_1 s
    have ecl : (nI (4096 * tp + s)).toNatClampNeg = 4096 * tp + s := nI_clamp (by omega)
    have c28 : xg 0 (xh_ui h2 41 ((4096 * (xg 0 h2.2.1 39 28)) + (nI s)).toNatClampNeg (vp_nar .boolean (Int32.ofInt 0))).2.1 39 28 = nI tp := by rw [gx_o (by decide)]; exact b28
    refine xa_tn 12 [0, 2] [(0, .ref 39), (2, .int ((nI s) + Int32.ofInt 1))] [] (xh_ui (xh_ui h2 41 ((4096 * (xg 0 h2.2.1 39 28)) + (nI s)).toNatClampNeg (vp_nar .boolean (Int32.ofInt 0))) 42 ((4096 * (xg 0 (xh_ui h2 41 ((4096 * (xg 0 h2.2.1 39 28)) + (nI s)).toNatClampNeg (vp_nar .boolean (Int32.ofInt 0))).2.1 39 28)) + (nI s)).toNatClampNeg (vp_nar .boolean (Int32.ofInt 1))) [false] 27 q2 rfl ⟨nge_f (b := 4096) (by omega) (by omega) hs, hin, (show xe_in ((4096 * (xg 0 (xh_ui h2 41 ((4096 * (xg 0 h2.2.1 39 28)) + (nI s)).toNatClampNeg (vp_nar .boolean (Int32.ofInt 0))).2.1 39 28)) + (nI s)) 53248 = true by rw [c28, i4096]; exact xin_n (by omega) (by omega)), trivial⟩ (fun _ => ?_)
    rw [c28, b28, i4096, ecl, e1]
    exact K
  · intro h2 gl
    have q2 := rl2_q gl q1
    have hk2 : hk bg_md h h2 := rl2_hk (k1 := 3) (z1 := 53248) (k2 := 3) (z2 := 53248) (l1 := 0) (u1 := 1) (l2 := 0) (u2 := 1) (by decide) gl hk1 hn rfl rfl (by decide) (by decide) rfl rfl (fun _ _ => by decide) (fun _ _ => by decide) (fun _ => rfl) (fun _ => rfl) (fun _ => rfl) (fun _ => rfl)
    refine xa_tn 63 [] [] [.ref 39] (xh_ui h2 39 29 (Int32.ofInt 1)) [true] 9 q2 rfl ⟨by decide, Or.inr rfl, trivial⟩ (fun _ => ?_)
    have hk3 : hk bg_md h (xh_ui h2 39 29 (Int32.ofInt 1)) := hk_ui (s := (0, 10)) (lo := 0) (hi := 1) hk2 hn rfl rfl (by decide) (by decide) rfl rfl
    have z29 : xg 0 (xh_ui h2 39 29 (Int32.ofInt 1)).2.1 39 29 = 1 := gx_s
    have zo : ∀ c k, ¬ (c = 39 ∧ k = 29) → xg 0 (xh_ui h2 39 29 (Int32.ofInt 1)).2.1 c k = xg 0 h2.2.1 c k := fun c k e => gx_i e
    generalize xh_ui h2 39 29 (Int32.ofInt 1) = h3 at hk3 z29 zo ⊢
    have e39 : ∀ k, k ≠ 29 → xg 0 h3.2.1 39 k = xg 0 h.2.1 39 k := fun k hk' => by rw [zo 39 k (fun z => hk' z.2), rl2_o gl (by omega) (by omega), ao 39 k (by decide)]
    have p3 : pi h3 sz := pi_tr g hk3 (go_Pc g.2.2.2.1 (fun k k1 k2 => e39 k (by omega)))
    refine xp_run (hk_q hk3 hn) rfl rfl (pg (d := d) (hk_n hk3 hn) p3) ?_
    rintro v h4 ⟨rfl, k4, p4, f4⟩
    have e47 : ∀ t, xg 0 h4.2.1 47 t = xg 0 h1.2.1 47 t := fun t => by rw [hk_g (c := 47) (k := t) k4 rfl rfl, zo 47 t (by omega), rl2_o gl (by omega) (by omega)]
    have e41 : ∀ k, xg 0 h4.2.1 41 k = xg 0 h2.2.1 41 k := fun k => by rw [hk_g (c := 41) (k := k) k4 rfl rfl, zo 41 k (by omega)]
    have e42 : ∀ k, xg 0 h4.2.1 42 k = xg 0 h2.2.1 42 k := fun k => by rw [hk_g (c := 42) (k := k) k4 rfl rfl, zo 42 k (by omega)]
    have e46 : ∀ k, xg 0 h4.2.1 46 k = xg 0 h.2.1 46 k := fun k => by rw [hk_g (c := 46) (k := k) k4 rfl rfl, zo 46 k (by omega), rl2_o gl (by omega) (by omega), ao 46 k (by decide)]
    refine xp_ret rfl rfl rfl ⟨rfl, hk_t hk3 k4 (by decide), ⟨p4, ?_, tp, ?_, t12, ?_⟩, ?_, ?_⟩
    · rw [e47]
      rcases h47 with ⟨z1, z2⟩ | ⟨z1, z2⟩
      · subst z1
        rw [a47, z2]
      · rw [a47o 0 (by omega)]
        exact z2
    · rw [hk_g (c := 39) (k := 28) k4 rfl rfl, e39 28 (by decide)]
      exact htp
    · intro t ht
      by_cases et : t = tp
      · subst et
        refine ⟨fun z => ?_, fun _ => ⟨mo_k (x := 0) (fun s hs => by rw [e41]; exact rl2_1 gl hs), mo_k (x := 1) (fun s hs => by rw [e42]; exact rl2_2 (by decide) gl hs)⟩⟩
        rw [e47, a47] at z
        rw [z] at hty
        exact absurd hty (by decide)
      · refine lvo_c (hlv t (by omega)) (fun s hs => ?_) (fun s hs => ?_) (fun s hs => e46 _) (by rw [e47, a47o t et])
        · rw [e41, rl2_o gl (by omega) (by omega), ao 41 _ (by decide)]
        · rw [e42, rl2_o gl (by omega) (by omega), ao 42 _ (by decide)]
    · rw [hk_g (c := 39) (k := 29) k4 rfl rfl]
      exact z29
    · intro z
      have f5 := f4 (by unfold kd at z ⊢; rw [e39 9 (by decide)]; exact z)
      unfold fr at f5 ⊢
      rw [e39 8 (by decide)] at f5
      exact f5
set_option maxRecDepth 100000 in
set_option maxHeartbeats 8000000 in
theorem opl_run {d sz tp n : Nat} {B : Int} {h : xh_H} (hB : 0 ≤ B) (hn : 72 ≤ h.1.length) (g : pi h sz) (htp : xg 0 h.2.1 39 28 = nI tp) (t1 : 1 ≤ tp) (t12 : tp ≤ 12) (hlv : ∀ t, t < tp → lvo h t B) (hn9 : n ≤ 999) (h47 : xg 0 h.2.1 47 0 = 0) : xt_P (d + 2) xi_X10_openList xmi_X10_openList 0 [(0, .ref 39), (1, .int (nI n))] [] h (op_Q h sz B) := by
  have hq := a_rq_of g.1.1 hn
  have etc : (nI tp).toNatClampNeg = tp := nI_clamp (by omega)
  have ni := nI_toInt (n := n) (by omega)
  have hin13 : ∀ h' : xh_H, xg 0 h'.2.1 39 28 = nI tp → xe_in (xg 0 h'.2.1 39 28) 13 = true := fun h' e => by rw [e]; exact xin_n (by omega) (by omega)
  refine xa_tn 10 [0, 1] [(0, .ref 39), (1, .int (nI n))] [] (xh_ui h 47 (xg 0 h.2.1 39 28).toNatClampNeg (Int32.ofInt 2)) [] 8 hq rfl ⟨hin13 h htp, trivial⟩ (fun _ => ?_)
  rw [htp, etc]
  have hk0 : hk bg_md h (xh_ui h 47 tp (Int32.ofInt 2)) := hk_ui (s := (1, 13)) (lo := 0) (hi := 2) (hk_0 g.1) hn rfl rfl (by decide) (by decide) rfl rfl
  have a28 : xg 0 (xh_ui h 47 tp (Int32.ofInt 2)).2.1 39 28 = nI tp := by rw [gx_o (by decide)]; exact htp
  refine xa_tn 20 [0, 1] [(0, .ref 39), (1, .int (nI n))] [] (xh_ui (xh_ui h 47 tp (Int32.ofInt 2)) 49 (xg 0 (xh_ui h 47 tp (Int32.ofInt 2)).2.1 39 28).toNatClampNeg (nI n)) [] 8 (hk_q hk0 hn) rfl ⟨hin13 _ a28, trivial⟩ (fun _ => ?_)
  rw [a28, etc]
  have hk0b : hk bg_md h (xh_ui (xh_ui h 47 tp (Int32.ofInt 2)) 49 tp (nI n)) := hk_ui (s := (1, 13)) (lo := -2147483648) (hi := 2147483647) hk0 hn rfl rfl (by omega) (by omega) rfl rfl
  have b28 : xg 0 (xh_ui (xh_ui h 47 tp (Int32.ofInt 2)) 49 tp (nI n)).2.1 39 28 = nI tp := by rw [gx_o (by decide)]; exact a28
  refine xa_tn 32 [0, 2] [(0, .ref 39), (2, .int (Int32.ofInt 0))] [] (xh_ui (xh_ui (xh_ui h 47 tp (Int32.ofInt 2)) 49 tp (nI n)) 48 (xg 0 (xh_ui (xh_ui h 47 tp (Int32.ofInt 2)) 49 tp (nI n)).2.1 39 28).toNatClampNeg (Int32.ofInt 1)) [] 10 (hk_q hk0b hn) rfl ⟨hin13 _ b28, trivial⟩ (fun _ => ?_)
  rw [b28, etc]
  have hk1 : hk bg_md h (xh_ui (xh_ui (xh_ui h 47 tp (Int32.ofInt 2)) 49 tp (nI n)) 48 tp (Int32.ofInt 1)) := hk_ui (s := (1, 13)) (lo := 0) (hi := 9999) hk0b hn rfl rfl (by decide) (by decide) rfl rfl
  have c28 : xg 0 (xh_ui (xh_ui (xh_ui h 47 tp (Int32.ofInt 2)) 49 tp (nI n)) 48 tp (Int32.ofInt 1)).2.1 39 28 = nI tp := by rw [gx_o (by decide)]; exact b28
  have a47 : xg 0 (xh_ui (xh_ui (xh_ui h 47 tp (Int32.ofInt 2)) 49 tp (nI n)) 48 tp (Int32.ofInt 1)).2.1 47 tp = 2 := by rw [gx_o (by decide), gx_o (by decide), gx_s]; rfl
  have a47o : ∀ t, t ≠ tp → xg 0 (xh_ui (xh_ui (xh_ui h 47 tp (Int32.ofInt 2)) 49 tp (nI n)) 48 tp (Int32.ofInt 1)).2.1 47 t = xg 0 h.2.1 47 t := fun t ht => by rw [gx_o (by decide), gx_o (by decide), gx_k ht]
  have ao : ∀ c k, c ≠ 47 → c ≠ 48 → c ≠ 49 → xg 0 (xh_ui (xh_ui (xh_ui h 47 tp (Int32.ofInt 2)) 49 tp (nI n)) 48 tp (Int32.ofInt 1)).2.1 c k = xg 0 h.2.1 c k := fun c k z1 z2 z3 => by rw [gx_o z2, gx_o z3, gx_o z1]
  generalize xh_ui (xh_ui (xh_ui h 47 tp (Int32.ofInt 2)) 49 tp (nI n)) 48 tp (Int32.ofInt 1) = h1 at hk1 c28 a47 a47o ao ⊢
  have q1 := hk_q hk1 hn
  refine rl_loop (h0 := h1) (c := 46) (B := 4096 * tp) (F := fun _ => 0) (N := 4096) (P := fun s h' => xt_P (d + 2) xi_X10_openList xmi_X10_openList 32 [(0, .ref 39), (2, .int (nI s))] [] h' (op_Q h sz B)) ?_ ?_
  · intro s h2 hs gl K
    have q2 := rl_q gl q1
    have d28 : xg 0 h2.2.1 39 28 = nI tp := by rw [rl_o gl (by omega)]; exact c28
    have e1 : nI s + Int32.ofInt 1 = nI (s + 1) := nI_1 s
    have ecl : (nI (4096 * tp + s)).toNatClampNeg = 4096 * tp + s := nI_clamp (by omega)
    refine xa_tn 32 [0, 2] [(0, .ref 39), (2, .int ((nI s) + Int32.ofInt 1))] [] (xh_ui h2 46 ((4096 * (xg 0 h2.2.1 39 28)) + (nI s)).toNatClampNeg (Int32.ofInt 0)) [false] 17 q2 rfl ⟨nge_f (b := 4096) (by omega) (by omega) hs, (show xe_in ((4096 * (xg 0 h2.2.1 39 28)) + (nI s)) 53248 = true by rw [d28, i4096]; exact xin_n (by omega) (by omega)), trivial⟩ (fun _ => ?_)
    rw [d28, i4096, ecl, e1]
    exact K
  · intro h2 gl
    have q2 := rl_q gl q1
    have hk2 : hk bg_md h h2 := rl_hk (kd := 1) (sz := 53248) (lo := -2147483648) (hi := 2147483647) gl hk1 hn rfl (by decide) rfl (fun _ _ => by decide) (fun _ => rfl) (fun _ => rfl)
    refine xa_tn 67 [] [] [.ref 39] (xh_ui h2 39 29 (Int32.ofInt 1)) [true] 9 q2 rfl ⟨by decide, Or.inr rfl, trivial⟩ (fun _ => ?_)
    have hk3 : hk bg_md h (xh_ui h2 39 29 (Int32.ofInt 1)) := hk_ui (s := (0, 10)) (lo := 0) (hi := 1) hk2 hn rfl rfl (by decide) (by decide) rfl rfl
    have z29 : xg 0 (xh_ui h2 39 29 (Int32.ofInt 1)).2.1 39 29 = 1 := gx_s
    have zo : ∀ c k, ¬ (c = 39 ∧ k = 29) → xg 0 (xh_ui h2 39 29 (Int32.ofInt 1)).2.1 c k = xg 0 h2.2.1 c k := fun c k e => gx_i e
    generalize xh_ui h2 39 29 (Int32.ofInt 1) = h3 at hk3 z29 zo ⊢
    have e39 : ∀ k, k ≠ 29 → xg 0 h3.2.1 39 k = xg 0 h.2.1 39 k := fun k hk' => by rw [zo 39 k (fun z => hk' z.2), rl_o gl (by omega), ao 39 k (by decide) (by decide) (by decide)]
    have p3 : pi h3 sz := pi_tr g hk3 (go_Pc g.2.2.2.1 (fun k k1 k2 => e39 k (by omega)))
    refine xp_run (hk_q hk3 hn) rfl rfl (pg (d := d) (hk_n hk3 hn) p3) ?_
    rintro v h4 ⟨rfl, k4, p4, f4⟩
    have e47 : ∀ t, xg 0 h4.2.1 47 t = xg 0 h1.2.1 47 t := fun t => by rw [hk_g (c := 47) (k := t) k4 rfl rfl, zo 47 t (by omega), rl_o gl (by omega)]
    have e46 : ∀ k, xg 0 h4.2.1 46 k = xg 0 h2.2.1 46 k := fun k => by rw [hk_g (c := 46) (k := k) k4 rfl rfl, zo 46 k (by omega)]
    have e41 : ∀ k, xg 0 h4.2.1 41 k = xg 0 h.2.1 41 k := fun k => by rw [hk_g (c := 41) (k := k) k4 rfl rfl, zo 41 k (by omega), rl_o gl (by omega), ao 41 k (by decide) (by decide) (by decide)]
    have e42 : ∀ k, xg 0 h4.2.1 42 k = xg 0 h.2.1 42 k := fun k => by rw [hk_g (c := 42) (k := k) k4 rfl rfl, zo 42 k (by omega), rl_o gl (by omega), ao 42 k (by decide) (by decide) (by decide)]
    refine xp_ret rfl rfl rfl ⟨rfl, hk_t hk3 k4 (by decide), ⟨p4, ?_, tp, ?_, t12, ?_⟩, ?_, ?_⟩
    · rw [e47, a47o 0 (by omega)]
      exact h47
    · rw [hk_g (c := 39) (k := 28) k4 rfl rfl, e39 28 (by decide)]
      exact htp
    · intro t ht
      by_cases et : t = tp
      · subst et
        refine ⟨fun _ => ⟨mo_k (x := 0) (fun s hs => by rw [e46]; exact rl_i gl hs), fun s hs => ?_⟩, fun z => absurd (by rw [e47]; exact a47) z⟩
        rw [e46, rl_i gl hs]
        exact ⟨by decide, hB⟩
      · refine lvo_c (hlv t (by omega)) (fun s hs => e41 _) (fun s hs => e42 _) (fun s hs => ?_) (by rw [e47, a47o t et])
        rw [e46, rl_o gl (by omega), ao 46 _ (by decide) (by decide) (by decide)]
    · rw [hk_g (c := 39) (k := 29) k4 rfl rfl]
      exact z29
    · intro z
      have f5 := f4 (by unfold kd at z ⊢; rw [e39 9 (by decide)]; exact z)
      unfold fr at f5 ⊢
      rw [e39 8 (by decide)] at f5
      exact f5
end XOP
end
section
section XBG
/-- what a beginning leaves -/
def bg_Q (h : xh_H) (sz : Nat) (B : Int) (v : Option Value) (h' : xh_H) : Prop := hk bg_md h h' ∧ (v = some (.int 0) ∨ (v = some (.int 1) ∧ rI h' sz B ∧ fr h < fr h' ∧ (xg 0 h'.2.1 39 29 = 1 ∨ (xg 0 h'.2.1 39 29 = 0 ∧ mo h' 45 0))))
theorem i00 {x : Int32} (h1 : 0 ≤ x.toInt) (h2 : x.toInt ≤ 0) : x = 0 := Int32.toInt_inj.mp (by have : (0 : Int32).toInt = 0 := rfl; omega)
theorem rI_tr {h h' : xh_H} {sz : Nat} {B : Int} (g : rI h sz B) (hk0 : hk bg_md h h') (gp : go_P h' sz 0) (e28 : xg 0 h'.2.1 39 28 = xg 0 h.2.1 39 28) (e41 : ∀ k, xg 0 h'.2.1 41 k = xg 0 h.2.1 41 k) (e42 : ∀ k, xg 0 h'.2.1 42 k = xg 0 h.2.1 42 k) (e46 : ∀ k, xg 0 h'.2.1 46 k = xg 0 h.2.1 46 k) (e47 : ∀ k, xg 0 h'.2.1 47 k = xg 0 h.2.1 47 k) : rI h' sz B := by
  obtain ⟨g1, g2, tp, g3, g4, g5⟩ := g
  exact ⟨pi_tr g1 hk0 gp, by rw [e47]; exact g2, tp, by rw [e28]; exact g3, g4, fun t ht => lvo_c (g5 t ht) (fun _ _ => e41 _) (fun _ _ => e42 _) (fun _ _ => e46 _) (e47 t)⟩
/-- one field more, that the levels don't speak of -/
theorem rI_ui {h : xh_H} {sz c k : Nat} {B : Int} {x : Int32} (g : rI h sz B) (hk0 : hk bg_md h (xh_ui h c k x)) (h1 : ¬ (c = 39 ∧ (7 ≤ k ∧ k ≤ 10 ∨ k = 28))) (h2 : c ≠ 41 ∧ c ≠ 42 ∧ c ≠ 46 ∧ c ≠ 47) : rI (xh_ui h c k x) sz B := by
  refine rI_tr g hk0 (go_Pc g.1.2.2.2.1 (fun j j1 j2 => gx_i (fun z => h1 ⟨z.1.symm, Or.inl ⟨by omega, by omega⟩⟩))) (gx_i (fun z => h1 ⟨z.1.symm, Or.inr z.2.symm⟩)) (fun _ => gx_o (Ne.symm h2.1)) (fun _ => gx_o (Ne.symm h2.2.1)) (fun _ => gx_o (Ne.symm h2.2.2.1)) (fun _ => gx_o (Ne.symm h2.2.2.2))
theorem kyb_2 {h : xh_H} {w : Int64} (z : kyb h w = true) : xg 0 h.2.1 39 9 = 2 := by
  unfold kyb at z
  rw [Bool.and_eq_true] at z
  exact of_decide_eq_true z.1
theorem sgb_4 {h : xh_H} {c : Int32} (z : sgb h c = true) : xg 0 h.2.1 39 9 = 4 := by
  unfold sgb at z
  rw [Bool.and_eq_true] at z
  exact of_decide_eq_true z.1
theorem nmb_2 {h : xh_H} (z : nmb h = true) : xg 0 h.2.1 39 9 = 2 := by
  unfold nmb at z
  rw [Bool.and_eq_true] at z
  exact of_decide_eq_true z.1
theorem kd_e {h : xh_H} {k : Nat} (hk' : k < 5) (z : xg 0 h.2.1 39 9 = nI k) : kd h = k := by
  unfold kd
  rw [z, nI_toInt (by omega)]
  rfl
theorem fr_c {h h' : xh_H} (e : xg 0 h'.2.1 39 8 = xg 0 h.2.1 39 8) : fr h' = fr h := by
  unfold fr
  rw [e]
theorem num_3 {h : xh_H} {sz : Nat} (g : go_P h sz 0) (z : xg 0 h.2.1 39 9 = 3) : ∃ n : Nat, xg 0 h.2.1 39 10 = nI n ∧ n ≤ 999 := by
  obtain ⟨t', f, k, g1, g2, g3, g4, g5, g6, g7, g8, g9, g10⟩ := g
  rw [g3] at z
  have e : k = 3 := (nI_eq (by omega) (by decide)).mp z
  obtain ⟨b1, b2⟩ := g10 e
  obtain ⟨n, e1, e2, -⟩ := a_nk (x := xg 0 h.2.1 39 10) (m := 999) b1 b2
  exact ⟨n, e1, e2⟩
set_option maxRecDepth 100000 in
set_option maxHeartbeats 8000000 in
/-- X10.beginList -/
theorem bl_run {d sz n : Nat} {B : Int} {h : xh_H} (hB : 0 ≤ B) (hn : 72 ≤ h.1.length) (g : rI h sz B) (n999 : n ≤ 999) : xt_P (d + 3) xi_X10_beginList xmi_X10_beginList 0 [(0, .ref 39), (1, .int (nI n))] [] h (bg_Q h sz B) := by
  have hq := a_rq_of g.1.1.1 hn
  refine xa_tn 1 [0, 1] [(0, .ref 39), (1, .int (nI n))] [.ref 39] h [] 3 hq rfl trivial (fun _ => ?_)
  refine xp_run hq rfl rfl (isOf_run (d := d + 1) hq) ?_
  rintro v h1 ⟨rfl, rfl⟩
  cases hof : kyb h 411 with
  | false =>
    refine xa_tn 9 [] [] [.int (Int32.ofInt 1), .ref 39] h [false] 5 hq rfl ⟨rfl, trivial⟩ (fun _ => ?_)
    refine xp_int (C := aC_m_X10_bad) (lo := 0) (hi := 0) (σ := fun _ => 0) as_m_X10_bad hq g.1.1 rfl rfl rfl (Nat.zero_le _) ⟨a_av (by decide) hq.1, a_ai (by decide) (by decide), trivial⟩ a_fp0 rfl (fun x h1 x1 x2 i1 l1 f1 q1 => ?_)
    cases i00 x1 x2
    exact xp_ret rfl rfl rfl ⟨hk_c (hk_0 g.1.1) i1 l1 f1 (by decide), Or.inl rfl⟩
  | true =>
    have k2 := kd_e (k := 2) (by decide) (kyb_2 hof)
    refine xa_tn 14 [0, 1] [(0, .ref 39), (1, .int (nI n))] [.ref 39] h [true] 4 hq rfl ⟨rfl, trivial⟩ (fun _ => ?_)
    refine xp_run hq rfl rfl (pg (d := d + 1) hn g.1) ?_
    rintro v h1 ⟨rfl, kg1, p1, f1⟩
    have r1 : rI h1 sz B := rI_go g kg1 p1
    have hk1 : hk bg_md h h1 := hk_t (hk_0 g.1.1) kg1 (by decide)
    have q1 := hk_q hk1 hn
    have hn1 := hk_n hk1 hn
    have fr1 := f1 (by omega)
    refine xa_tn 20 [0, 1] [(0, .ref 39), (1, .int (nI n))] [.int 91, .ref 39] h1 [] 4 q1 rfl trivial (fun _ => ?_)
    refine xp_run q1 rfl rfl (sg_run (d := d + 2) (c := 91) q1) ?_
    rintro v h2 ⟨rfl, rfl⟩
    cases hsg : sgb h1 91 with
    | false =>
      refine xa_tn 28 [] [] [.int (Int32.ofInt 1), .ref 39] h1 [false] 5 q1 rfl ⟨rfl, trivial⟩ (fun _ => ?_)
      refine xp_int (C := aC_m_X10_bad) (lo := 0) (hi := 0) (σ := fun _ => 0) as_m_X10_bad q1 p1.1 rfl rfl rfl (Nat.zero_le _) ⟨a_av (by decide) q1.1, a_ai (by decide) (by decide), trivial⟩ a_fp0 rfl (fun x h2 x1 x2 i2 l2 f2 q2 => ?_)
      cases i00 x1 x2
      exact xp_ret rfl rfl rfl ⟨hk_c hk1 i2 l2 f2 (by decide), Or.inl rfl⟩
    | true =>
      have k4 := kd_e (k := 4) (by decide) (sgb_4 hsg)
      obtain ⟨-, r2, tp, r3, r4, r5⟩ := r1
      have tpi := nI_toInt (n := tp) (by omega)
      have t12 : (12 : Int32).toInt = 12 := rfl
      by_cases ht : tp = 12
      · refine xa_tn 43 [] [] [.int (Int32.ofInt 4), .ref 39] h1 [true, false] 9 q1 rfl ⟨rfl, xne_f (show (xg 0 h1.2.1 39 28).toInt = (12 : Int32).toInt by rw [r3, tpi, ht]; rfl), trivial⟩ (fun _ => ?_)
        refine xp_int (C := aC_m_X10_bad) (lo := 0) (hi := 0) (σ := fun _ => 0) as_m_X10_bad q1 p1.1 rfl rfl rfl (Nat.zero_le _) ⟨a_av (by decide) q1.1, a_ai (by decide) (by decide), trivial⟩ a_fp0 rfl (fun x h2 x1 x2 i2 l2 f2 q2 => ?_)
        cases i00 x1 x2
        exact xp_ret rfl rfl rfl ⟨hk_c hk1 i2 l2 f2 (by decide), Or.inl rfl⟩
      · refine xa_tn 59 [] [] [.int (nI n), .ref 39] (xh_ui h1 39 28 ((xg 0 h1.2.1 39 28) + (Int32.ofInt 1))) [true, true] 15 q1 rfl ⟨rfl, xne_t (show (xg 0 h1.2.1 39 28).toInt ≠ (12 : Int32).toInt by rw [r3, tpi, t12]; omega), trivial⟩ (fun _ => ?_)
        have e1 : nI tp + Int32.ofInt 1 = nI (tp + 1) := nI_1 tp
        rw [r3, e1]
        have tp1 := nI_toInt (n := tp + 1) (by omega)
        have hk2' : hk bg_md h1 (xh_ui h1 39 28 (nI (tp + 1))) := hk_ui (s := (0, 10)) (lo := 0) (hi := 12) (hk_0 p1.1) hn1 rfl rfl (by omega) (by omega) rfl rfl
        have p2 : pi (xh_ui h1 39 28 (nI (tp + 1))) sz := pi_tr p1 hk2' (go_Pc p1.2.2.2.1 (fun j j1 j2 => gx_k (by omega)))
        have e28 : xg 0 (xh_ui h1 39 28 (nI (tp + 1))).2.1 39 28 = nI (tp + 1) := gx_s
        have eo : ∀ c k, ¬ (c = 39 ∧ k = 28) → xg 0 (xh_ui h1 39 28 (nI (tp + 1))).2.1 c k = xg 0 h1.2.1 c k := fun c k e => gx_i e
        generalize xh_ui h1 39 28 (nI (tp + 1)) = h2 at hk2' p2 e28 eo ⊢
        refine xp_run (hk_q hk2' hn1) rfl rfl (opl_run (d := d) (tp := tp + 1) hB (hk_n hk2' hn1) p2 e28 (by omega) (by omega) (fun t ht' => lvo_c (r5 t (by omega)) (fun _ _ => eo _ _ (by omega)) (fun _ _ => eo _ _ (by omega)) (fun _ _ => eo _ _ (by omega)) (eo _ _ (by omega))) n999 (by rw [eo 47 0 (by omega)]; exact r2)) ?_
        rintro v h3 ⟨rfl, kk3, r3', aw3, f3⟩
        have hk3 : hk bg_md h h3 := hk_t (hk_t hk1 hk2' (fun _ z => z)) kk3 (fun _ z => z)
        refine xa_tn 63 [] [] [.int (Int32.ofInt 1)] h3 [] 3 (hk_q hk3 hn) rfl trivial (fun _ => ?_)
        refine xp_ret rfl rfl rfl ⟨hk3, Or.inr ⟨rfl, r3', ?_, Or.inl aw3⟩⟩
        have f4 := f3 (by unfold kd at k4 ⊢; rw [eo 39 9 (by omega)]; omega)
        rw [fr_c (h := h1) (h' := h2) (eo 39 8 (by omega))] at f4
        omega
end XBG
end
section
section XB1
/-- the token is a member's letter -/
def onb (h : xh_H) : Bool := decide (xg 0 h.2.1 39 9 = 2) && decide (xg 0 h.2.1 39 12 = 1)
theorem onb_2 {h : xh_H} (z : onb h = true) : xg 0 h.2.1 39 9 = 2 := by
  unfold onb at z
  rw [Bool.and_eq_true] at z
  exact of_decide_eq_true z.1
/-- the sets with a member -/
def on_F (m : Nat) (s : Nat) : Int32 := bl (s.testBit m)
theorem on_mo {m : Nat} : a_mono (fun s => (on_F m s).toInt) 4096 := by
  intro s t _ _ hst
  have h1 : (s.testBit m && t.testBit m) = s.testBit m := by rw [← Nat.testBit_and, hst]
  dsimp only
  unfold on_F
  cases hs : s.testBit m with
  | false => cases t.testBit m <;> decide
  | true =>
    rw [hs] at h1
    cases ht : t.testBit m with
    | true => decide
    | false => rw [ht] at h1; cases h1
theorem b01 {x : Int32} (h1 : 0 ≤ x.toInt) (h2 : x.toInt ≤ 1) : vp_nar .boolean x = x := vn_01 h1 h2
set_option maxRecDepth 100000 in
set_option maxHeartbeats 16000000 in
/-- X10.beginOne, behind its tests -/
theorem b1_tail {d sz nn : Nat} {B : Int} {h : xh_H} (hB : 0 ≤ B) (hn : 72 ≤ h.1.length) (g : rI h sz B) (hnn : xg 0 h.2.1 39 26 = nI nn) (n16 : nn ≤ 16) (hkd : 2 ≤ kd h) (hor : xg 0 h.2.1 39 9 = 3 ∨ sgb h 40 = true ∨ onb h = true ∨ nmb h = true) (hmem : onb h = true → 0 ≤ ((xg 0 h.2.2.1 39 15).toInt32 - Int32.ofInt 1).toInt ∧ ((xg 0 h.2.2.1 39 15).toInt32 - Int32.ofInt 1).toInt ≤ 11) (hnam : nmb h = true → ∃ k, k < nn ∧ nhp h k) (hone : (xg 0 h.2.1 39 27).toInt ≤ 119) (htop : xg 0 h.2.1 39 9 = 4 → xg 0 h.2.1 39 28 ≠ 12) : xt_P (d + 4) xi_X10_beginOne xmi_X10_beginOne 161 [(0, .ref 39), (1, .int (bl (onb h)))] [] h (bg_Q h sz B) := by
  have hq := a_rq_of g.1.1.1 hn
  have ob := a_flx (c := 39) (k := 27) (lo := 0) (hi := 120) g.1.1.1 hn rfl rfl (by decide)
  have oi := i_inc (x := xg 0 h.2.1 39 27) (by omega)
  refine xa_tn 171 [0, 1] [(0, .ref 39), (1, .int (bl (onb h)))] [] (xh_ui h 39 27 ((xg 0 h.2.1 39 27) + (Int32.ofInt 1))) [] 8 hq rfl trivial (fun _ => ?_)
  have hk1 : hk bg_md h (xh_ui h 39 27 ((xg 0 h.2.1 39 27) + (Int32.ofInt 1))) := hk_ui (s := (0, 10)) (lo := 0) (hi := 120) (hk_0 g.1.1) hn rfl rfl (by omega) (by omega) rfl rfl
  have r1 : rI (xh_ui h 39 27 ((xg 0 h.2.1 39 27) + (Int32.ofInt 1))) sz B := rI_ui g hk1 (by omega) (by decide)
  have eo : ∀ c k, ¬ (c = 39 ∧ k = 27) → xg 0 (xh_ui h 39 27 ((xg 0 h.2.1 39 27) + (Int32.ofInt 1))).2.1 c k = xg 0 h.2.1 c k := fun c k e => gx_i e
  have el : (xh_ui h 39 27 ((xg 0 h.2.1 39 27) + (Int32.ofInt 1))).2.2 = h.2.2 := rfl
  generalize xh_ui h 39 27 ((xg 0 h.2.1 39 27) + (Int32.ofInt 1)) = h1 at hk1 r1 eo el ⊢
  have q1 := hk_q hk1 hn
  have hn1 := hk_n hk1 hn
  have fr01 : fr h1 = fr h := fr_c (eo 39 8 (by omega))
  have kd01 : kd h1 = kd h := by unfold kd; rw [eo 39 9 (by omega)]
  cases c3 : xe_c .ne (xg 0 h1.2.1 39 9) (Int32.ofInt 3) with
  | false =>
    have e3 : xg 0 h1.2.1 39 9 = 3 := xne_j c3
    obtain ⟨n, en, n999⟩ := num_3 r1.1.2.2.2.1 e3
    refine xa_tn 185 [0, 2] [(0, .ref 39), (2, .int (xg 0 h1.2.1 39 10))] [.ref 39] h1 [false] 10 q1 rfl ⟨c3, trivial⟩ (fun _ => ?_)
    rw [en]
    refine xp_run q1 rfl rfl (pg (d := d + 2) hn1 r1.1) ?_
    rintro v h2 ⟨rfl, kg2, p2, f2⟩
    have r2 : rI h2 sz B := rI_go r1 kg2 p2
    have hk2 : hk bg_md h h2 := hk_t hk1 kg2 (by decide)
    have fr2 := f2 (by omega)
    refine xa_tn 190 [] [] [.int (nI n), .ref 39] h2 [] 4 (hk_q hk2 hn) rfl trivial (fun _ => ?_)
    refine xp_run (hk_q hk2 hn) rfl rfl (bl_run (d := d) hB (hk_n hk2 hn) r2 n999) ?_
    rintro v h3 ⟨kk3, g3⟩
    have hk3 : hk bg_md h h3 := hk_t hk2 kk3 (fun _ z => z)
    rcases g3 with rfl | ⟨rfl, r3, f3, a3⟩
    · exact xp_ret rfl rfl rfl ⟨hk3, Or.inl rfl⟩
    · exact xp_ret rfl rfl rfl ⟨hk3, Or.inr ⟨rfl, r3, by omega, a3⟩⟩
  | true =>
    have n3 : xg 0 h1.2.1 39 9 ≠ 3 := xne_i c3
    refine xa_tn 194 [0, 1] [(0, .ref 39), (1, .int (bl (onb h)))] [] h1 [true] 6 q1 rfl ⟨c3, trivial⟩ (fun _ => ?_)
    cases c4 : xe_c .ne (xg 0 h1.2.1 39 9) (Int32.ofInt 4) with
    | false =>
      have e4 : xg 0 h1.2.1 39 9 = 4 := xne_j c4
      have e4' : xg 0 h.2.1 39 9 = 4 := by rw [← eo 39 9 (by omega)]; exact e4
      obtain ⟨p1, r2, tp, r3, r4, r5⟩ := r1
      have tne : tp ≠ 12 := by
        intro z
        refine htop e4' ?_
        rw [← eo 39 28 (by omega), r3, z]
        rfl
      refine xa_tn 214 [] [] [.int (Int32.ofInt 1), .ref 39] (xh_ui h1 39 28 ((xg 0 h1.2.1 39 28) + (Int32.ofInt 1))) [false] 14 q1 rfl ⟨c4, trivial⟩ (fun _ => ?_)
      have e1 : nI tp + Int32.ofInt 1 = nI (tp + 1) := nI_1 tp
      rw [r3, e1]
      have tp1 := nI_toInt (n := tp + 1) (by omega)
      have hk2' : hk bg_md h1 (xh_ui h1 39 28 (nI (tp + 1))) := hk_ui (s := (0, 10)) (lo := 0) (hi := 12) (hk_0 p1.1) hn1 rfl rfl (by omega) (by omega) rfl rfl
      have p2 : pi (xh_ui h1 39 28 (nI (tp + 1))) sz := pi_tr p1 hk2' (go_Pc p1.2.2.2.1 (fun j j1 j2 => gx_k (by omega)))
      have e28 : xg 0 (xh_ui h1 39 28 (nI (tp + 1))).2.1 39 28 = nI (tp + 1) := gx_s
      have eo2 : ∀ c k, ¬ (c = 39 ∧ k = 28) → xg 0 (xh_ui h1 39 28 (nI (tp + 1))).2.1 c k = xg 0 h1.2.1 c k := fun c k e => gx_i e
      generalize xh_ui h1 39 28 (nI (tp + 1)) = h2 at hk2' p2 e28 eo2 ⊢
      refine xp_run (hk_q hk2' hn1) rfl rfl (opr_run (d := d + 1) (tp := tp + 1) (B := B) (ty := Int32.ofInt 1) (hk_n hk2' hn1) p2 e28 (by omega) (fun t ht' => lvo_c (r5 t (by omega)) (fun _ _ => eo2 _ _ (by omega)) (fun _ _ => eo2 _ _ (by omega)) (fun _ _ => eo2 _ _ (by omega)) (eo2 _ _ (by omega))) (by decide) (Or.inr ⟨by omega, by rw [eo2 47 0 (by omega)]; exact r2⟩)) ?_
      rintro v h3 ⟨rfl, kk3, r3', aw3, f3⟩
      have hk3 : hk bg_md h h3 := hk_t (hk_t hk1 hk2' (fun _ z => z)) kk3 (fun _ z => z)
      refine xa_tn 218 [] [] [.int (Int32.ofInt 1)] h3 [] 3 (hk_q hk3 hn) rfl trivial (fun _ => ?_)
      refine xp_ret rfl rfl rfl ⟨hk3, Or.inr ⟨rfl, r3', ?_, Or.inl aw3⟩⟩
      have k2 : kd h2 = kd h1 := by unfold kd; rw [eo2 39 9 (by omega)]
      have f4 := f3 (by omega)
      rw [fr_c (h := h1) (h' := h2) (eo2 39 8 (by omega))] at f4
      omega
    | true =>
      have n4 : xg 0 h1.2.1 39 9 ≠ 4 := xne_i c4
      refine xa_tn 228 [0, 1, 2] [(0, .ref 39), (1, .int (bl (onb h))), (2, .int (((xg 0 h1.2.2.1 39 15).toInt32) - (Int32.ofInt 1)))] [.ref 39] h1 [true] 13 q1 rfl ⟨c4, trivial⟩ (fun _ => ?_)
      refine xp_run q1 rfl rfl (nh_run (d := d + 3) (n := nn) q1 (by rw [eo 39 26 (by omega)]; exact hnn) n16) ?_
      rintro v h2 ⟨rfl, hv⟩
      have nhe : ∀ k, nhp h1 k ↔ nhp h k := fun k => by unfold nhp; rw [el]
      have loop : ∀ (nm : Int32) (F : Nat → Int32), (∀ s, s < 4096 → 0 ≤ (F s).toInt ∧ (F s).toInt ≤ 1) → a_mono (fun s => (F s).toInt) 4096 → ((onb h = true ∧ ∃ m : Nat, (xg 0 h1.2.2.1 39 15).toInt32 - Int32.ofInt 1 = nI m ∧ m ≤ 11 ∧ F = on_F m) ∨ (onb h = false ∧ ∃ k : Nat, nm = nI k ∧ k < 16 ∧ F = fun s => xg 0 h1.2.1 43 (4096 * k + s))) → xt_P (d + 4) xi_X10_beginOne xmi_X10_beginOne 231 [(0, .ref 39), (1, .int (bl (onb h))), (2, .int (((xg 0 h1.2.2.1 39 15).toInt32) - (Int32.ofInt 1)))] [.int nm] h1 (bg_Q h sz B) := by
        intro nm F hF hmo hcase
        generalize ((xg 0 h1.2.2.1 39 15).toInt32) - (Int32.ofInt 1) = m0 at hcase
        refine xa_tn 235 [0, 1, 2, 3, 4] [(0, .ref 39), (1, .int (bl (onb h))), (2, .int m0), (3, .int nm), (4, .int (Int32.ofInt 0))] [] h1 [] 5 q1 rfl trivial (fun _ => ?_)
        refine rl_loop (h0 := h1) (c := 45) (B := 0) (F := F) (N := 4096) (P := fun s h' => xt_P (d + 4) xi_X10_beginOne xmi_X10_beginOne 235 [(0, .ref 39), (1, .int (bl (onb h))), (2, .int m0), (3, .int nm), (4, .int (nI s))] [] h' (bg_Q h sz B)) ?_ ?_
        · intro s h2 hs gl K
          have q2 := rl_q gl q1
          have hge : xe_c .ge (nI s) 4096 = false := nge_f (b := 4096) (by omega) (by omega) hs
          have hin := xin_n (k := s) (n := 4096) hs (by omega)
          have e1 : nI s + Int32.ofInt 1 = nI (s + 1) := nI_1 s
          have ecl : (nI s).toNatClampNeg = s := nI_clamp (by omega)
          rw [Nat.zero_add] at K
          rcases hcase with ⟨z1, m, z2, z3, z4⟩ | ⟨z1, k, z2, z3, z4⟩
          · have bb := nI_b0 (a := s) (k := m) (by omega) (by omega)
            have eF : F s = bl (s.testBit m) := by rw [z4]; rfl
            subst z2
            have z1' : xe_c .eq (bl (onb h)) 0 = false := by rw [z1]; rfl
            cases ts : s.testBit m with
            | false =>
              rw [ts] at bb eF
              refine xa_tn 235 [0, 1, 2, 3, 4] [(0, .ref 39), (1, .int (bl (onb h))), (2, .int (nI m)), (3, .int nm), (4, .int ((nI s) + Int32.ofInt 1))] [] (xh_ui h2 45 (nI s).toNatClampNeg (vp_nar .boolean (Int32.ofInt 0))) [false, false, true] 22 q2 rfl ⟨hge, z1', (show xe_c .ne (((nI s) >>> (nI m &&& 31)) &&& (Int32.ofInt 1)) (Int32.ofInt 1) = true by rw [bb]; rfl), hin, trivial⟩ (fun _ => ?_)
              rw [ecl, e1]
              rw [eF] at K
              exact K
            | true =>
              rw [ts] at bb eF
              refine xa_tn 235 [0, 1, 2, 3, 4] [(0, .ref 39), (1, .int (bl (onb h))), (2, .int (nI m)), (3, .int nm), (4, .int ((nI s) + Int32.ofInt 1))] [] (xh_ui h2 45 (nI s).toNatClampNeg (vp_nar .boolean (Int32.ofInt 1))) [false, false, false] 22 q2 rfl ⟨hge, z1', (show xe_c .ne (((nI s) >>> (nI m &&& 31)) &&& (Int32.ofInt 1)) (Int32.ofInt 1) = false by rw [bb]; rfl), hin, trivial⟩ (fun _ => ?_)
              rw [ecl, e1]
              rw [eF] at K
              exact K
          · subst z2
            have z1' : xe_c .eq (bl (onb h)) 0 = true := by rw [z1]; rfl
            have e43 : xg 0 h2.2.1 43 (4096 * k + s) = F s := by rw [rl_o gl (by omega), z4]
            have bF := hF s hs
            refine xa_tn 235 [0, 1, 2, 3, 4] [(0, .ref 39), (1, .int (bl (onb h))), (2, .int m0), (3, .int (nI k)), (4, .int ((nI s) + Int32.ofInt 1))] [] (xh_ui h2 45 (nI s).toNatClampNeg (vp_nar .boolean (xg 0 h2.2.1 43 ((4096 * (nI k)) + (nI s)).toNatClampNeg))) [false, true] 21 q2 rfl ⟨hge, z1', (show xe_in ((4096 * (nI k)) + (nI s)) 65536 = true by rw [i4096]; exact xin_n (by omega) (by omega)), hin, trivial⟩ (fun _ => ?_)
            rw [ecl, e1, i4096, nI_clamp (n := 4096 * k + s) (by omega), e43, b01 bF.1 bF.2]
            exact K
        · intro h2 gl
          have q2 := rl_q gl q1
          have hk2 : hk bg_md h h2 := rl_hk (kd := 3) (sz := 4096) (lo := 0) (hi := 1) gl hk1 hn rfl (by decide) rfl hF (fun _ => rfl) (fun _ => rfl)
          have r2 : rI h2 sz B := rI_tr r1 (rl_hk (kd := 3) (sz := 4096) (lo := 0) (hi := 1) gl (hk_0 r1.1.1) hn1 rfl (by decide) rfl hF (fun _ => rfl) (fun _ => rfl)) (go_Pc r1.1.2.2.2.1 (fun j j1 j2 => rl_o gl (by omega))) (rl_o gl (by omega)) (fun _ => rl_o gl (by omega)) (fun _ => rl_o gl (by omega)) (fun _ => rl_o gl (by omega)) (fun _ => rl_o gl (by omega))
          refine xa_tn 292 [0] [(0, .ref 39)] [.ref 39] h2 [true] 6 q2 rfl ⟨by decide, trivial⟩ (fun _ => ?_)
          refine xp_run q2 rfl rfl (pg (d := d + 2) (hk_n hk2 hn) r2.1) ?_
          rintro v h3 ⟨rfl, kg3, p3, f3⟩
          have r3 : rI h3 sz B := rI_go r2 kg3 p3
          have hk3 : hk bg_md h h3 := hk_t hk2 kg3 (by decide)
          have k2 : kd h2 = kd h1 := by unfold kd; rw [rl_o gl (by omega)]
          have fr2 : fr h2 = fr h1 := fr_c (rl_o gl (by omega))
          have f4 := f3 (by omega)
          refine xa_tn 301 [] [] [.int (Int32.ofInt 1)] (xh_ui h3 39 29 (Int32.ofInt 0)) [] 6 (hk_q hk3 hn) rfl ⟨Or.inl rfl, trivial⟩ (fun _ => ?_)
          have hk4' : hk bg_md h3 (xh_ui h3 39 29 (Int32.ofInt 0)) := hk_ui (s := (0, 10)) (lo := 0) (hi := 1) (hk_0 p3.1) (hk_n hk3 hn) rfl rfl (by decide) (by decide) rfl rfl
          refine xp_ret rfl rfl rfl ⟨hk_t hk3 hk4' (fun _ z => z), Or.inr ⟨rfl, rI_ui r3 hk4' (by omega) (by decide), ?_, Or.inr ⟨gx_s, ?_⟩⟩⟩
          · have : fr (xh_ui h3 39 29 (Int32.ofInt 0)) = fr h3 := fr_c (gx_k (by decide))
            omega
          · intro s t hs ht hst
            have := hmo s t hs ht hst
            dsimp only at this ⊢
            rw [Nat.zero_add, Nat.zero_add, gx_o (by decide), gx_o (by decide), hk_g (c := 45) (k := s) kg3 rfl rfl, hk_g (c := 45) (k := t) kg3 rfl rfl]
            have es : xg 0 h2.2.1 45 s = F s := by
              have := rl_i gl hs
              rw [Nat.zero_add] at this
              exact this
            have et : xg 0 h2.2.1 45 t = F t := by
              have := rl_i gl ht
              rw [Nat.zero_add] at this
              exact this
            rw [es, et]
            exact this
      cases hp : onb h with
      | true =>
        have hm := hmem hp
        obtain ⟨m, em, m11, -⟩ := a_nk (x := (xg 0 h.2.2.1 39 15).toInt32 - Int32.ofInt 1) (m := 11) hm.1 hm.2
        have lp : ∀ nm, xt_P (d + 4) xi_X10_beginOne xmi_X10_beginOne 231 [(0, .ref 39), (1, .int (bl (onb h))), (2, .int (((xg 0 h1.2.2.1 39 15).toInt32) - (Int32.ofInt 1)))] [.int nm] h1 (bg_Q h sz B) := fun nm => loop nm (on_F m) (fun s _ => by unfold on_F; cases s.testBit m <;> decide) on_mo (Or.inl ⟨hp, m, by rw [el]; exact em, m11, rfl⟩)
        rw [hp] at lp
        rcases hv with ⟨rfl, -⟩ | ⟨k, -, rfl, -⟩
        · exact lp _
        · exact lp _
      | false =>
        have hname : nmb h = true := by
          rcases hor with z | z | z | z
          · exact absurd (by rw [eo 39 9 (by omega)]; exact z) n3
          · exact absurd (by rw [eo 39 9 (by omega)]; exact sgb_4 z) n4
          · rw [hp] at z; cases z
          · exact z
        obtain ⟨k0, k0n, hk0⟩ := hnam hname
        rcases hv with ⟨-, hno⟩ | ⟨k, kn, rfl, -⟩
        · exact absurd ((nhe k0).mpr hk0) (hno k0 k0n)
        · have lp := loop (nI k) (fun s => xg 0 h1.2.1 43 (4096 * k + s)) (fun s hs => a_blx (c := 43) (k := 4096 * k + s) (lo := 0) (hi := 1) r1.1.1.1 hn1 rfl rfl (by omega)) (by
            obtain ⟨nn', e1', e2', e3'⟩ := r1.1.2.2.2.2
            have en : nn' = nn := (nI_eq (by omega) (by omega)).mp (by rw [← e1', eo 39 26 (by omega)]; exact hnn)
            subst en
            exact e3' k kn) (Or.inr ⟨hp, k, rfl, by omega, rfl⟩)
          rw [hp] at lp
          exact lp
end XB1
end
section
section XB2
set_option maxRecDepth 100000 in
/-- the reference's isMember -/
theorem im_run {d : Nat} {m : Int32} {h : xh_H} (hi : a_inw a_tb h) (hn : 72 ≤ h.1.length) : xt_P d xi_X10_isMember xmi_X10_isMember 0 [(0, .ref 39), (1, .int m)] [] h (fun v h' => h = h' ∧ ∃ p : Bool, v = some (.int (bl p)) ∧ (p = true → 0 ≤ m.toInt ∧ m.toInt ≤ 11)) := by
  have hq := a_rq_of hi hn
  have mb := a_flx (c := 39) (k := 4) (lo := 1) (hi := 12) hi hn rfl rfl (by decide)
  have z0 : (0 : Int32).toInt = 0 := rfl
  cases c1 : xe_c .lt m 0 with
  | true =>
    refine xa_tn 17 [] [] [.int (Int32.ofInt 0)] h [true] 10 hq rfl ⟨c1, trivial⟩ (fun _ => ?_)
    exact xp_ret rfl rfl rfl ⟨rfl, false, rfl, fun z => Bool.noConfusion z⟩
  | false =>
    have b1 : (0 : Int32).toInt ≤ m.toInt := a_ce (a_neg_ok c1)
    cases c2 : xe_c .ge m (xg 0 h.2.1 39 4) with
    | true =>
      refine xa_tn 17 [] [] [.int (Int32.ofInt 0)] h [false, true] 12 hq rfl ⟨c1, c2, trivial⟩ (fun _ => ?_)
      exact xp_ret rfl rfl rfl ⟨rfl, false, rfl, fun z => Bool.noConfusion z⟩
    | false =>
      have b2 : m.toInt < (xg 0 h.2.1 39 4).toInt := a_ce (a_neg_ok c2)
      refine xa_tn 17 [] [] [.int (Int32.ofInt 1)] h [false, false] 12 hq rfl ⟨c1, c2, trivial⟩ (fun _ => ?_)
      exact xp_ret rfl rfl rfl ⟨rfl, true, rfl, fun _ => ⟨by omega, by omega⟩⟩
set_option maxRecDepth 100000 in
set_option maxHeartbeats 16000000 in
/-- X10.beginOne -/
theorem b1_run {d sz : Nat} {B : Int} {h : xh_H} (hB : 0 ≤ B) (hn : 72 ≤ h.1.length) (g : rI h sz B) : xt_P (d + 4) xi_X10_beginOne xmi_X10_beginOne 0 [(0, .ref 39)] [] h (bg_Q h sz B) := by
  have hq := a_rq_of g.1.1.1 hn
  have k0 : hk bg_md h h := hk_0 g.1.1
  obtain ⟨nn, hnn, n16, -⟩ := g.1.2.2.2.2
  -- from 122 on
  have s122 : 2 ≤ kd h → (xg 0 h.2.1 39 9 = 3 ∨ sgb h 40 = true ∨ onb h = true ∨ nmb h = true) → (onb h = true → 0 ≤ ((xg 0 h.2.2.1 39 15).toInt32 - Int32.ofInt 1).toInt ∧ ((xg 0 h.2.2.1 39 15).toInt32 - Int32.ofInt 1).toInt ≤ 11) → (nmb h = true → ∃ k, k < nn ∧ nhp h k) → xt_P (d + 4) xi_X10_beginOne xmi_X10_beginOne 122 [(0, .ref 39), (1, .int (bl (onb h)))] [] h (bg_Q h sz B) := by
    intro hkd hor hmem hnam
    have ob := a_flx (c := 39) (k := 27) (lo := 0) (hi := 120) g.1.1.1 hn rfl rfl (by decide)
    have z120 : (120 : Int32).toInt = 120 := rfl
    cases c1 : xe_c .ne (xg 0 h.2.1 39 27) 120 with
    | false =>
      refine xa_tn 133 [] [] [.int (Int32.ofInt 4), .ref 39] h [false] 8 hq rfl ⟨c1, trivial⟩ (fun _ => ?_)
      refine xp_int (C := aC_m_X10_bad) (lo := 0) (hi := 0) (σ := fun _ => 0) as_m_X10_bad hq g.1.1 rfl rfl rfl (Nat.zero_le _) ⟨a_av (by decide) hq.1, a_ai (by decide) (by decide), trivial⟩ a_fp0 rfl (fun x hx x1 x2 ix lx fx qx => ?_)
      cases i00 x1 x2
      exact xp_ret rfl rfl rfl ⟨hk_c k0 ix lx fx (by decide), Or.inl rfl⟩
    | true =>
      have o119 : (xg 0 h.2.1 39 27).toInt ≤ 119 := by
        have := a_ce c1
        dsimp only at this
        omega
      refine xa_tn 140 [0, 1] [(0, .ref 39), (1, .int (bl (onb h)))] [.int 40, .ref 39] h [true] 8 hq rfl ⟨c1, trivial⟩ (fun _ => ?_)
      refine xp_run hq rfl rfl (sg_run (d := d + 3) (c := 40) hq) ?_
      rintro v h2 ⟨rfl, rfl⟩
      cases hs : sgb h 40 with
      | false =>
        refine xa_tn 161 [0, 1] [(0, .ref 39), (1, .int (bl (onb h)))] [] h [true] 3 hq rfl ⟨rfl, trivial⟩ (fun _ => ?_)
        refine b1_tail hB hn g hnn n16 hkd hor hmem hnam o119 (fun z => ?_)
        -- a sign that is no opening
        exfalso
        rcases hor with w | w | w | w
        · rw [z] at w; exact absurd w (by decide)
        · rw [hs] at w; cases w
        · have := onb_2 w; rw [z] at this; exact absurd this (by decide)
        · have := nmb_2 w; rw [z] at this; exact absurd this (by decide)
      | true =>
        cases c2 : xe_c .ne (xg 0 h.2.1 39 28) 12 with
        | false =>
          refine xa_tn 157 [] [] [.int (Int32.ofInt 4), .ref 39] h [false, false] 9 hq rfl ⟨rfl, c2, trivial⟩ (fun _ => ?_)
          refine xp_int (C := aC_m_X10_bad) (lo := 0) (hi := 0) (σ := fun _ => 0) as_m_X10_bad hq g.1.1 rfl rfl rfl (Nat.zero_le _) ⟨a_av (by decide) hq.1, a_ai (by decide) (by decide), trivial⟩ a_fp0 rfl (fun x hx x1 x2 ix lx fx qx => ?_)
          cases i00 x1 x2
          exact xp_ret rfl rfl rfl ⟨hk_c k0 ix lx fx (by decide), Or.inl rfl⟩
        | true =>
          refine xa_tn 161 [0, 1] [(0, .ref 39), (1, .int (bl (onb h)))] [] h [false, true] 7 hq rfl ⟨rfl, c2, trivial⟩ (fun _ => ?_)
          exact b1_tail hB hn g hnn n16 hkd hor hmem hnam o119 (fun _ => xne_i c2)
  -- from 102 on
  have s102 : 2 ≤ kd h → (xg 0 h.2.1 39 9 = 3 ∨ sgb h 40 = true ∨ onb h = true ∨ nmb h = true) → (onb h = true → 0 ≤ ((xg 0 h.2.2.1 39 15).toInt32 - Int32.ofInt 1).toInt ∧ ((xg 0 h.2.2.1 39 15).toInt32 - Int32.ofInt 1).toInt ≤ 11) → xt_P (d + 4) xi_X10_beginOne xmi_X10_beginOne 102 [(0, .ref 39), (1, .int (bl (onb h)))] [.ref 39] h (bg_Q h sz B) := by
    intro hkd hor hmem
    refine xp_run hq rfl rfl (nm_run (d := d + 1) hq) ?_
    rintro v h2 ⟨rfl, rfl⟩
    cases hnm : nmb h with
    | false =>
      refine xa_tn 122 [0, 1] [(0, .ref 39), (1, .int (bl (onb h)))] [] h [true] 3 hq rfl ⟨rfl, trivial⟩ (fun _ => ?_)
      exact s122 hkd hor hmem (fun z => by rw [hnm] at z; cases z)
    | true =>
      refine xa_tn 109 [0, 1] [(0, .ref 39), (1, .int (bl (onb h)))] [.ref 39] h [false] 4 hq rfl ⟨rfl, trivial⟩ (fun _ => ?_)
      refine xp_run hq rfl rfl (nh_run (d := d + 3) (n := nn) hq hnn n16) ?_
      rintro v h2 ⟨rfl, hv⟩
      rcases hv with ⟨rfl, -⟩ | ⟨k, kn, rfl, hp⟩
      · refine xa_tn 118 [] [] [.int (Int32.ofInt 3), .ref 39] h [false] 6 hq rfl ⟨by decide, trivial⟩ (fun _ => ?_)
        refine xp_int (C := aC_m_X10_bad) (lo := 0) (hi := 0) (σ := fun _ => 0) as_m_X10_bad hq g.1.1 rfl rfl rfl (Nat.zero_le _) ⟨a_av (by decide) hq.1, a_ai (by decide) (by decide), trivial⟩ a_fp0 rfl (fun x hx x1 x2 ix lx fx qx => ?_)
        cases i00 x1 x2
        exact xp_ret rfl rfl rfl ⟨hk_c k0 ix lx fx (by decide), Or.inl rfl⟩
      · refine xa_tn 122 [0, 1] [(0, .ref 39), (1, .int (bl (onb h)))] [] h [true] 4 hq rfl ⟨xne_t (by rw [nI_toInt (by omega)]; show (k : Int) ≠ -1; omega), trivial⟩ (fun _ => ?_)
        exact s122 hkd hor hmem (fun _ => ⟨k, kn, hp⟩)
  -- from 56 on
  have s56 : 2 ≤ kd h → (xg 0 h.2.1 39 9 = 3 ∨ sgb h 40 = true ∨ onb h = true ∨ nmb h = true) → xt_P (d + 4) xi_X10_beginOne xmi_X10_beginOne 56 [(0, .ref 39), (1, .int (bl (onb h)))] [] h (bg_Q h sz B) := by
    intro hkd hor
    have s77 : xt_P (d + 4) xi_X10_beginOne xmi_X10_beginOne 77 [(0, .ref 39), (1, .int (bl (onb h)))] [] h (bg_Q h sz B) := by
      cases hp : onb h with
      | false =>
        refine xa_tn 102 [0, 1] [(0, .ref 39), (1, .int (bl false))] [.ref 39] h [true] 5 hq rfl ⟨rfl, trivial⟩ (fun _ => ?_)
        have := s102 hkd hor (fun z => by rw [hp] at z; cases z)
        rw [hp] at this
        exact this
      | true =>
        refine xa_tn 89 [0, 1] [(0, .ref 39), (1, .int (bl true))] [.int (((xg 0 h.2.2.1 39 15).toInt32) - (Int32.ofInt 1)), .ref 39] h [false] 10 hq rfl ⟨rfl, trivial⟩ (fun _ => ?_)
        have mr := ar_rng (((xg 0 h.2.2.1 39 15).toInt32) - (Int32.ofInt 1))
        refine xp_run hq rfl rfl (im_run (d := d + 3) (m := ((xg 0 h.2.2.1 39 15).toInt32) - (Int32.ofInt 1)) g.1.1.1 hn) ?_
        rintro v h2 ⟨rfl, p, rfl, hm⟩
        cases p with
        | false =>
          refine xa_tn 97 [] [] [.int (Int32.ofInt 2), .ref 39] h [false] 5 hq rfl ⟨rfl, trivial⟩ (fun _ => ?_)
          refine xp_int (C := aC_m_X10_bad) (lo := 0) (hi := 0) (σ := fun _ => 0) as_m_X10_bad hq g.1.1 rfl rfl rfl (Nat.zero_le _) ⟨a_av (by decide) hq.1, a_ai (by decide) (by decide), trivial⟩ a_fp0 rfl (fun x hx x1 x2 ix lx fx qx => ?_)
          cases i00 x1 x2
          exact xp_ret rfl rfl rfl ⟨hk_c k0 ix lx fx (by decide), Or.inl rfl⟩
        | true =>
          refine xa_tn 102 [0, 1] [(0, .ref 39), (1, .int (bl true))] [.ref 39] h [true] 4 hq rfl ⟨rfl, trivial⟩ (fun _ => ?_)
          have := s102 hkd hor (fun _ => hm rfl)
          rw [hp] at this
          exact this
    cases c1 : xe_c .ne (xg 0 h.2.1 39 9) (Int32.ofInt 3) with
    | true =>
      refine xa_tn 77 [0, 1] [(0, .ref 39), (1, .int (bl (onb h)))] [] h [true] 6 hq rfl ⟨c1, trivial⟩ (fun _ => ?_)
      exact s77
    | false =>
      cases c2 : xe_c .ne (xg 0 h.2.1 39 10) 0 with
      | true =>
        refine xa_tn 77 [0, 1] [(0, .ref 39), (1, .int (bl (onb h)))] [] h [false, true] 9 hq rfl ⟨c1, c2, trivial⟩ (fun _ => ?_)
        exact s77
      | false =>
        refine xa_tn 73 [] [] [.int (Int32.ofInt 2), .ref 39] h [false, false] 11 hq rfl ⟨c1, c2, trivial⟩ (fun _ => ?_)
        refine xp_int (C := aC_m_X10_bad) (lo := 0) (hi := 0) (σ := fun _ => 0) as_m_X10_bad hq g.1.1 rfl rfl rfl (Nat.zero_le _) ⟨a_av (by decide) hq.1, a_ai (by decide) (by decide), trivial⟩ a_fp0 rfl (fun x hx x1 x2 ix lx fx qx => ?_)
        cases i00 x1 x2
        exact xp_ret rfl rfl rfl ⟨hk_c k0 ix lx fx (by decide), Or.inl rfl⟩
  -- from 22 on
  have s22 : xt_P (d + 4) xi_X10_beginOne xmi_X10_beginOne 22 [(0, .ref 39), (1, .int (bl (onb h)))] [] h (bg_Q h sz B) := by
    cases c1 : xe_c .eq (xg 0 h.2.1 39 9) (Int32.ofInt 3) with
    | true =>
      have e3 : xg 0 h.2.1 39 9 = 3 := of_decide_eq_true c1
      refine xa_tn 56 [0, 1] [(0, .ref 39), (1, .int (bl (onb h)))] [] h [true] 6 hq rfl ⟨c1, trivial⟩ (fun _ => ?_)
      exact s56 (by rw [kd_e (k := 3) (by decide) e3]; decide) (Or.inl e3)
    | false =>
      refine xa_tn 33 [0, 1] [(0, .ref 39), (1, .int (bl (onb h)))] [.int 40, .ref 39] h [false] 8 hq rfl ⟨c1, trivial⟩ (fun _ => ?_)
      refine xp_run hq rfl rfl (sg_run (d := d + 3) (c := 40) hq) ?_
      rintro v h2 ⟨rfl, rfl⟩
      cases hs : sgb h 40 with
      | true =>
        refine xa_tn 56 [0, 1] [(0, .ref 39), (1, .int (bl (onb h)))] [] h [true] 3 hq rfl ⟨rfl, trivial⟩ (fun _ => ?_)
        exact s56 (by rw [kd_e (k := 4) (by decide) (sgb_4 hs)]; decide) (Or.inr (Or.inl hs))
      | false =>
        cases hp : onb h with
        | true =>
          refine xa_tn 56 [0, 1] [(0, .ref 39), (1, .int (bl true))] [] h [false, true] 5 hq rfl ⟨rfl, rfl, trivial⟩ (fun _ => ?_)
          have := s56 (by rw [kd_e (k := 2) (by decide) (onb_2 hp)]; decide) (Or.inr (Or.inr (Or.inl hp)))
          rw [hp] at this
          exact this
        | false =>
          refine xa_tn 44 [0, 1] [(0, .ref 39), (1, .int (bl false))] [.ref 39] h [false, false] 6 hq rfl ⟨rfl, rfl, trivial⟩ (fun _ => ?_)
          refine xp_run hq rfl rfl (nm_run (d := d + 1) hq) ?_
          rintro v h2 ⟨rfl, rfl⟩
          cases hnm : nmb h with
          | true =>
            refine xa_tn 56 [0, 1] [(0, .ref 39), (1, .int (bl false))] [] h [true] 3 hq rfl ⟨rfl, trivial⟩ (fun _ => ?_)
            have := s56 (by rw [kd_e (k := 2) (by decide) (nmb_2 hnm)]; decide) (Or.inr (Or.inr (Or.inr hnm)))
            rw [hp] at this
            exact this
          | false =>
            refine xa_tn 52 [] [] [.int (Int32.ofInt 1), .ref 39] h [false] 5 hq rfl ⟨rfl, trivial⟩ (fun _ => ?_)
            refine xp_int (C := aC_m_X10_bad) (lo := 0) (hi := 0) (σ := fun _ => 0) as_m_X10_bad hq g.1.1 rfl rfl rfl (Nat.zero_le _) ⟨a_av (by decide) hq.1, a_ai (by decide) (by decide), trivial⟩ a_fp0 rfl (fun x hx x1 x2 ix lx fx qx => ?_)
            cases i00 x1 x2
            exact xp_ret rfl rfl rfl ⟨hk_c k0 ix lx fx (by decide), Or.inl rfl⟩
  cases c1 : xe_c .ne (xg 0 h.2.1 39 9) (Int32.ofInt 2) with
  | true =>
    have hp : onb h = false := by
      unfold onb
      rw [decide_eq_false (show ¬ xg 0 h.2.1 39 9 = 2 from xne_i c1)]
      rfl
    rw [hp] at s22
    refine xa_tn 22 [0, 1] [(0, .ref 39), (1, .int (Int32.ofInt 0))] [] h [true] 8 hq rfl ⟨c1, trivial⟩ (fun _ => ?_)
    exact s22
  | false =>
    cases c2 : xe_c .ne (xg 0 h.2.1 39 12) (Int32.ofInt 1) with
    | true =>
      have hp : onb h = false := by
        unfold onb
        rw [decide_eq_false (show ¬ xg 0 h.2.1 39 12 = 1 from xne_i c2), Bool.and_false]
      rw [hp] at s22
      refine xa_tn 22 [0, 1] [(0, .ref 39), (1, .int (Int32.ofInt 0))] [] h [false, true] 12 hq rfl ⟨c1, c2, trivial⟩ (fun _ => ?_)
      exact s22
    | false =>
      have hp : onb h = true := by
        unfold onb
        rw [decide_eq_true (show xg 0 h.2.1 39 9 = 2 from xne_j c1), decide_eq_true (show xg 0 h.2.1 39 12 = 1 from xne_j c2)]
        rfl
      rw [hp] at s22
      refine xa_tn 22 [0, 1] [(0, .ref 39), (1, .int (Int32.ofInt 1))] [] h [false, false] 13 hq rfl ⟨c1, c2, trivial⟩ (fun _ => ?_)
      exact s22
set_option maxRecDepth 100000 in
set_option maxHeartbeats 16000000 in
/-- X10.beginItem -/
theorem bi_run {d sz : Nat} {B : Int} {h : xh_H} (hB : 0 ≤ B) (hn : 72 ≤ h.1.length) (g : rI h sz B) (h3 : xg 0 h.2.1 39 9 = 3) : xt_P (d + 5) xi_X10_beginItem xmi_X10_beginItem 0 [(0, .ref 39)] [] h (bg_Q h sz B) := by
  have hq := a_rq_of g.1.1.1 hn
  obtain ⟨n, en, n999⟩ := num_3 g.1.2.2.2.1 h3
  have ni := nI_toInt (n := n) (by omega)
  have k3 := kd_e (k := 3) (by decide) h3
  have at0 := a_flx (c := 39) (k := 8) (lo := 0) (hi := 640) g.1.1.1 hn rfl rfl (by decide)
  refine xa_tn 11 [0, 1, 2] [(0, .ref 39), (1, .int (xg 0 h.2.1 39 10)), (2, .int (xg 0 h.2.1 39 8))] [.ref 39] h [] 9 hq rfl trivial (fun _ => ?_)
  rw [en]
  generalize ha : xg 0 h.2.1 39 8 = at1 at at0
  refine xp_run hq rfl rfl (pg (d := d + 3) hn g.1) ?_
  rintro v h1 ⟨rfl, kg1, p1, f1⟩
  have r1 : rI h1 sz B := rI_go g kg1 p1
  have hk1 : hk bg_md h h1 := hk_t (hk_0 g.1.1) kg1 (by decide)
  have q1 := hk_q hk1 hn
  have hn1 := hk_n hk1 hn
  have fr1 := f1 (by omega)
  obtain ⟨tp, t28, t12⟩ : ∃ tp : Nat, xg 0 h1.2.1 39 28 = nI tp ∧ tp ≤ 12 := by
    obtain ⟨-, -, tp, a, b, -⟩ := r1
    exact ⟨tp, a, b⟩
  have hin : xe_in (xg 0 h1.2.1 39 28) 13 = true := by rw [t28]; exact xin_n (by omega) (by omega)
  have etc : (nI tp).toNatClampNeg = tp := nI_clamp (by omega)
  refine xa_tn 17 [0, 1, 2] [(0, .ref 39), (1, .int (nI n)), (2, .int at1)] [.int 42, .ref 39] h1 [] 4 q1 rfl trivial (fun _ => ?_)
  refine xp_run q1 rfl rfl (sg_run (d := d + 4) (c := 42) q1) ?_
  rintro v h2 ⟨rfl, rfl⟩
  cases hs : sgb h1 42 with
  | true =>
    refine xa_tn 34 [0] [(0, .ref 39)] [.ref 39] (xh_ui h1 48 (xg 0 h1.2.1 39 28).toNatClampNeg (nI n)) [false] 10 q1 rfl ⟨rfl, hin, trivial⟩ (fun _ => ?_)
    rw [t28, etc]
    have hk2' : hk bg_md h1 (xh_ui h1 48 tp (nI n)) := hk_ui (s := (1, 13)) (lo := 0) (hi := 9999) (hk_0 p1.1) hn1 rfl rfl (by omega) (by omega) rfl rfl
    have r2 : rI (xh_ui h1 48 tp (nI n)) sz B := rI_ui r1 hk2' (by omega) (by decide)
    have kd2 : kd (xh_ui h1 48 tp (nI n)) = 4 := by
      have := kd_e (k := 4) (by decide) (sgb_4 hs)
      unfold kd at this ⊢
      rw [gx_o (by decide)]
      exact this
    have fr2 : fr (xh_ui h1 48 tp (nI n)) = fr h1 := fr_c (gx_o (by decide))
    generalize xh_ui h1 48 tp (nI n) = h2 at hk2' r2 kd2 fr2 ⊢
    refine xp_run (hk_q hk2' hn1) rfl rfl (pg (d := d + 3) (hk_n hk2' hn1) r2.1) ?_
    rintro v h3' ⟨rfl, kg3, p3, f3⟩
    have r3 : rI h3' sz B := rI_go r2 kg3 p3
    have hk3 : hk bg_md h h3' := hk_t (hk_t hk1 hk2' (fun _ z => z)) kg3 (by decide)
    have fr3 := f3 (by omega)
    refine xa_tn 38 [] [] [.ref 39] h3' [] 3 (hk_q hk3 hn) rfl trivial (fun _ => ?_)
    refine xp_run (hk_q hk3 hn) rfl rfl (b1_run (d := d) hB (hk_n hk3 hn) r3) ?_
    rintro v h4 ⟨kk4, g4⟩
    have hk4 : hk bg_md h h4 := hk_t hk3 kk4 (fun _ z => z)
    rcases g4 with rfl | ⟨rfl, r4, f4, a4⟩
    · exact xp_ret rfl rfl rfl ⟨hk4, Or.inl rfl⟩
    · exact xp_ret rfl rfl rfl ⟨hk4, Or.inr ⟨rfl, r4, by omega, a4⟩⟩
  | false =>
    refine xa_tn 53 [0, 1, 2] [(0, .ref 39), (1, .int (nI n)), (2, .int at1)] [.ref 39] (xh_ui h1 48 (xg 0 h1.2.1 39 28).toNatClampNeg (Int32.ofInt 1)) [true] 10 q1 rfl ⟨rfl, hin, trivial⟩ (fun _ => ?_)
    rw [t28, etc]
    have hk2' : hk bg_md h1 (xh_ui h1 48 tp (Int32.ofInt 1)) := hk_ui (s := (1, 13)) (lo := 0) (hi := 9999) (hk_0 p1.1) hn1 rfl rfl (by decide) (by decide) rfl rfl
    have r2 : rI (xh_ui h1 48 tp (Int32.ofInt 1)) sz B := rI_ui r1 hk2' (by omega) (by decide)
    have fr2 : fr (xh_ui h1 48 tp (Int32.ofInt 1)) = fr h1 := fr_c (gx_o (by decide))
    generalize xh_ui h1 48 tp (Int32.ofInt 1) = h2 at hk2' r2 fr2 ⊢
    have hk2 : hk bg_md h h2 := hk_t hk1 hk2' (fun _ z => z)
    have q2 := hk_q hk2 hn
    refine xp_run q2 rfl rfl (isOf_run (d := d + 3) q2) ?_
    rintro v h3' ⟨rfl, rfl⟩
    cases hof : kyb h2 411 with
    | false =>
      refine xa_tn 61 [] [] [.int (Int32.ofInt 1), .ref 39] h2 [false] 5 q2 rfl ⟨rfl, trivial⟩ (fun _ => ?_)
      refine xp_int (C := aC_m_X10_bad) (lo := 0) (hi := 0) (σ := fun _ => 0) as_m_X10_bad q2 r2.1.1 rfl rfl rfl (Nat.zero_le _) ⟨a_av (by decide) q2.1, a_ai (by decide) (by decide), trivial⟩ a_fp0 rfl (fun x hx x1 x2 ix lx fx qx => ?_)
      cases i00 x1 x2
      exact xp_ret rfl rfl rfl ⟨hk_c hk2 ix lx fx (by decide), Or.inl rfl⟩
    | true =>
      refine xa_tn 65 [0, 1, 2] [(0, .ref 39), (1, .int (nI n)), (2, .int at1)] [] h2 [true] 3 q2 rfl ⟨rfl, trivial⟩ (fun _ => ?_)
      cases c1 : xe_c .ne (nI n) 0 with
      | false =>
        refine xa_tn 72 [] [] [.int at1, .int (Int32.ofInt 2), .ref 39] h2 [false] 7 q2 rfl ⟨c1, trivial⟩ (fun _ => ?_)
        refine xp_int (C := aC_m_X10_badAt) (lo := 0) (hi := 0) (σ := fun _ => 0) as_m_X10_badAt q2 r2.1.1 rfl rfl rfl (Nat.zero_le _) ⟨a_av (by decide) q2.1, a_ai (by decide) (by decide), a_ai at0.1 at0.2, trivial⟩ a_fp0 rfl (fun x hx x1 x2 ix lx fx qx => ?_)
        cases i00 x1 x2
        exact xp_ret rfl rfl rfl ⟨hk_c hk2 ix lx fx (by decide), Or.inl rfl⟩
      | true =>
        cases c2 : xe_c .ne (xg 0 h2.2.1 39 27) 120 with
        | false =>
          refine xa_tn 88 [] [] [.int at1, .int (Int32.ofInt 4), .ref 39] h2 [true, false] 11 q2 rfl ⟨c1, c2, trivial⟩ (fun _ => ?_)
          refine xp_int (C := aC_m_X10_badAt) (lo := 0) (hi := 0) (σ := fun _ => 0) as_m_X10_badAt q2 r2.1.1 rfl rfl rfl (Nat.zero_le _) ⟨a_av (by decide) q2.1, a_ai (by decide) (by decide), a_ai at0.1 at0.2, trivial⟩ a_fp0 rfl (fun x hx x1 x2 ix lx fx qx => ?_)
          cases i00 x1 x2
          exact xp_ret rfl rfl rfl ⟨hk_c hk2 ix lx fx (by decide), Or.inl rfl⟩
        | true =>
          have ob := a_flx (c := 39) (k := 27) (lo := 0) (hi := 120) r2.1.1.1 (hk_n hk2 hn) rfl rfl (by decide)
          have z120 : (120 : Int32).toInt = 120 := rfl
          have o119 : (xg 0 h2.2.1 39 27).toInt ≤ 119 := by
            have := a_ce c2
            dsimp only at this
            omega
          have oi := i_inc (x := xg 0 h2.2.1 39 27) (by omega)
          refine xa_tn 104 [] [] [.int (nI n), .ref 39] (xh_ui h2 39 27 ((xg 0 h2.2.1 39 27) + (Int32.ofInt 1))) [true, true] 16 q2 rfl ⟨c1, c2, trivial⟩ (fun _ => ?_)
          have hk3' : hk bg_md h2 (xh_ui h2 39 27 ((xg 0 h2.2.1 39 27) + (Int32.ofInt 1))) := hk_ui (s := (0, 10)) (lo := 0) (hi := 120) (hk_0 r2.1.1) (hk_n hk2 hn) rfl rfl (by omega) (by omega) rfl rfl
          have r3 := rI_ui r2 hk3' (by omega) (by decide)
          have fr3 : fr (xh_ui h2 39 27 ((xg 0 h2.2.1 39 27) + (Int32.ofInt 1))) = fr h2 := fr_c (gx_k (by decide))
          generalize xh_ui h2 39 27 ((xg 0 h2.2.1 39 27) + (Int32.ofInt 1)) = h3' at hk3' r3 fr3 ⊢
          have hk3 : hk bg_md h h3' := hk_t hk2 hk3' (fun _ z => z)
          refine xp_run (hk_q hk3 hn) rfl rfl (bl_run (d := d + 1) hB (hk_n hk3 hn) r3 n999) ?_
          rintro v h4 ⟨kk4, g4⟩
          have hk4 : hk bg_md h h4 := hk_t hk3 kk4 (fun _ z => z)
          rcases g4 with rfl | ⟨rfl, r4, f4, a4⟩
          · exact xp_ret rfl rfl rfl ⟨hk4, Or.inl rfl⟩
          · exact xp_ret rfl rfl rfl ⟨hk4, Or.inr ⟨rfl, r4, by omega, a4⟩⟩
set_option maxRecDepth 100000 in
set_option maxHeartbeats 16000000 in
/-- X10.begin -/
theorem be_run {d sz : Nat} {B : Int} {h : xh_H} (hB : 0 ≤ B) (hn : 72 ≤ h.1.length) (g : rI h sz B) : xt_P (d + 6) xi_X10_begin xmi_X10_begin 0 [(0, .ref 39)] [] h (bg_Q h sz B) := by
  have hq := a_rq_of g.1.1.1 hn
  obtain ⟨tp, t28, t12⟩ : ∃ tp : Nat, xg 0 h.2.1 39 28 = nI tp ∧ tp ≤ 12 := by
    obtain ⟨-, -, tp, a, b, -⟩ := g
    exact ⟨tp, a, b⟩
  have hin : xe_in (xg 0 h.2.1 39 28) 13 = true := by rw [t28]; exact xin_n (by omega) (by omega)
  have one : xt_P (d + 6) xi_X10_begin xmi_X10_begin 27 [] [.ref 39] h (bg_Q h sz B) := by
    refine xp_run hq rfl rfl (b1_run (d := d + 1) hB hn g) ?_
    rintro v h1 ⟨kk1, g1⟩
    rcases g1 with rfl | ⟨rfl, r1⟩
    · exact xp_ret rfl rfl rfl ⟨kk1, Or.inl rfl⟩
    · exact xp_ret rfl rfl rfl ⟨kk1, Or.inr ⟨rfl, r1⟩⟩
  cases c1 : xe_c .ne (xg 0 h.2.1 47 (xg 0 h.2.1 39 28).toNatClampNeg) (Int32.ofInt 2) with
  | true =>
    refine xa_tn 27 [] [] [.ref 39] h [true] 10 hq rfl ⟨hin, c1, trivial⟩ (fun _ => ?_)
    exact one
  | false =>
    cases c2 : xe_c .ne (xg 0 h.2.1 39 9) (Int32.ofInt 3) with
    | true =>
      refine xa_tn 27 [] [] [.ref 39] h [false, true] 14 hq rfl ⟨hin, c1, c2, trivial⟩ (fun _ => ?_)
      exact one
    | false =>
      refine xa_tn 22 [] [] [.ref 39] h [false, false] 14 hq rfl ⟨hin, c1, c2, trivial⟩ (fun _ => ?_)
      refine xp_run hq rfl rfl (bi_run (d := d) hB hn g (xne_j c2)) ?_
      rintro v h1 ⟨kk1, g1⟩
      rcases g1 with rfl | ⟨rfl, r1⟩
      · exact xp_ret rfl rfl rfl ⟨kk1, Or.inl rfl⟩
      · exact xp_ret rfl rfl rfl ⟨kk1, Or.inr ⟨rfl, r1⟩⟩
end XB2
end
section
section XED
theorem rl_k {h0 h : xh_H} {c B s : Nat} {F : Nat → Int32} (g : rl h0 c B F s h) (e : F s = xg 0 h0.2.1 c (B + s)) : rl h0 c B F (s + 1) h := by
  obtain ⟨g1, g2, g3⟩ := g
  refine ⟨g1, g2, fun c' k' => ?_⟩
  rw [g3]
  by_cases e2 : c' = c ∧ B ≤ k' ∧ k' < B + s
  · rw [if_pos e2, if_pos ⟨e2.1, e2.2.1, by omega⟩]
  · rw [if_neg e2]
    by_cases e3 : c' = c ∧ B ≤ k' ∧ k' < B + (s + 1)
    · rw [if_pos e3]
      have ek : k' = B + s := by
        have := e3
        omega
      rw [ek, Nat.add_sub_cancel_left, e, e3.1]
    · rw [if_neg e3]
theorem rl_loop' {h0 : xh_H} {c B : Nat} {F : Nat → Int32} {N : Nat} {P : Nat → xh_H → Prop} (step : ∀ s h, s < N → rl h0 c B F s h → (∀ h', rl h0 c B F (s + 1) h' → P (s + 1) h') → P s h) (fin : ∀ h, rl h0 c B F N h → P N h) : P 0 h0 := by
  have main : ∀ n s h, s + n = N → rl h0 c B F s h → P s h := by
    intro n
    induction n with
    | zero =>
      intro s h hs g
      have e : s = N := by omega
      subst e
      exact fin h g
    | succ n ih =>
      intro s h hs g
      exact step s h (by omega) g (fun h' g' => ih (s + 1) h' (by omega) g')
  exact main N 0 h0 (by omega) rl_0
theorem nz_mo {f : Nat → Int32} {s t : Nat} (hm : a_mono (fun s => (f s).toInt) 4096) (h0 : 0 ≤ (f s).toInt) (hs : s < 4096) (ht : t < 4096) (hst : s &&& t = s) (hne : f s ≠ 0) : f t ≠ 0 := by
  have h1 := hm s t hs ht hst
  dsimp only at h1
  intro z
  rw [z] at h1
  have z0 : (0 : Int32).toInt = 0 := rfl
  exact hne (Int32.toInt_inj.mp (by omega))
theorem bl_mo {p : Nat → Bool} (h : ∀ s t, s < 4096 → t < 4096 → s &&& t = s → p s = true → p t = true) : a_mono (fun s => (bl (p s)).toInt) 4096 := by
  intro s t hs ht hst
  have := h s t hs ht hst
  dsimp only
  cases hp : p s with
  | false => cases p t <;> decide
  | true =>
    rw [this hp]
    exact Int.le_refl _
theorem bl_b {p : Bool} : 0 ≤ (bl p).toInt ∧ (bl p).toInt ≤ 1 := by cases p <;> decide
theorem bl_n {p : Bool} : vp_nar .boolean (bl p) = bl p := by cases p <;> rfl
abbrev ed_md : List (Nat × Nat) := (39, 30) :: bg_md
/-- what an ending leaves -/
def ed_Q (h : xh_H) (sz : Nat) (B : Int) (v : Option Value) (h' : xh_H) : Prop := hk ed_md h h' ∧ (v = some (.int 0) ∨ (v = some (.int 1) ∧ ((xg 0 h'.2.1 39 30 = 1 ∧ pi h' sz ∧ mo h' 45 0 ∧ kd h' = 4 ∧ fr h' = fr h) ∨ (xg 0 h'.2.1 39 30 = 0 ∧ rI h' sz (B + 9999) ∧ ((fr h < fr h' ∧ (xg 0 h'.2.1 39 29 = 1 ∨ (xg 0 h'.2.1 39 29 = 0 ∧ mo h' 45 0))) ∨ (fr h' = fr h ∧ xg 0 h'.2.1 39 29 = 1))))))
theorem lvo_B {h : xh_H} {t : Nat} {B B' : Int} (hB : B ≤ B') (g : lvo h t B) : lvo h t B' := ⟨fun z => ⟨(g.1 z).1, fun s hs => ⟨((g.1 z).2 s hs).1, by have := ((g.1 z).2 s hs).2; omega⟩⟩, g.2⟩
theorem rI_B {h : xh_H} {sz : Nat} {B B' : Int} (hB : B ≤ B') (g : rI h sz B) : rI h sz B' := by
  obtain ⟨g1, g2, tp, g3, g4, g5⟩ := g
  exact ⟨g1, g2, tp, g3, g4, fun t ht => lvo_B hB (g5 t ht)⟩
/-- a level is closed -/
theorem rI_dn {h : xh_H} {sz tp : Nat} {B : Int} (g : rI h sz B) (htp : xg 0 h.2.1 39 28 = nI (tp + 1)) (hk0 : hk bg_md h (xh_ui h 39 28 (nI tp))) (t12 : tp + 1 ≤ 12) : rI (xh_ui h 39 28 (nI tp)) sz B := by
  obtain ⟨g1, g2, tp', g3, g4, g5⟩ := g
  have e : tp' = tp + 1 := (nI_eq (by omega) (by omega)).mp (by rw [← g3]; exact htp)
  subst e
  exact ⟨pi_tr g1 hk0 (go_Pc g1.2.2.2.1 (fun j j1 j2 => gx_k (by omega))), by rw [gx_o (by decide)]; exact g2, tp, gx_s, by omega, fun t ht => lvo_c (g5 t (by omega)) (fun _ _ => gx_o (by decide)) (fun _ _ => gx_o (by decide)) (fun _ _ => gx_o (by decide)) (gx_o (by decide))⟩
theorem nIa {a s : Nat} : nI a + nI s = nI (a + s) := nI_add a s
set_option maxRecDepth 100000 in
set_option maxHeartbeats 16000000 in
/-- X10.end of a list's item -/
theorem el_run {d sz tp : Nat} {B : Int} {h : xh_H} (hB0 : 0 ≤ B) (hB : B ≤ 20000000) (hn : 72 ≤ h.1.length) (g : rI h sz B) (h45 : mo h 45 0) (h30 : xg 0 h.2.1 39 30 = 0) (h29 : xg 0 h.2.1 39 29 = 0) (htp : xg 0 h.2.1 39 28 = nI tp) (t12 : tp ≤ 12) (h47 : xg 0 h.2.1 47 tp = 2) : xt_P (d + 2) xi_X10_end_ xmi_X10_end_ 24 [(0, .ref 39), (1, .int (nI (4096 * tp))), (2, .int (Int32.ofInt 0))] [] h (ed_Q h sz B) := by
  have hq := a_rq_of g.1.1.1 hn
  have etc : (nI tp).toNatClampNeg = tp := nI_clamp (by omega)
  have hlv : lvo h tp B := by
    obtain ⟨-, -, tp', a, b, c⟩ := g
    have e : tp' = tp := (nI_eq (by omega) (by omega)).mp (by rw [← a]; exact htp)
    subst e
    exact c tp' (Nat.le_refl _)
  obtain ⟨sm, sb⟩ := hlv.1 h47
  have wb := a_elx (c := 48) (k := tp) (lo := 0) (hi := 9999) g.1.1.1 hn rfl rfl (by omega)
  have tp0 : 1 ≤ tp := by
    rcases Nat.eq_zero_or_pos tp with z | z
    · subst z
      rw [g.2.1] at h47
      exact absurd h47 (by decide)
    · exact z
  generalize hw : xg 0 h.2.1 48 tp = w at wb
  have ob : ∀ s, s < 4096 → 0 ≤ (xg 0 h.2.1 45 s).toInt ∧ (xg 0 h.2.1 45 s).toInt ≤ 1 := fun s hs => a_blx (c := 45) (k := s) (lo := 0) (hi := 1) g.1.1.1 hn rfl rfl hs
  have F1b : ∀ s, s < 4096 → (cond (decide (xg 0 h.2.1 45 s = 0)) (xg 0 h.2.1 46 (4096 * tp + s)) (xg 0 h.2.1 46 (4096 * tp + s) + w)).toInt = (xg 0 h.2.1 46 (4096 * tp + s)).toInt + (if xg 0 h.2.1 45 s = 0 then 0 else w.toInt) := by
    intro s hs
    by_cases z : xg 0 h.2.1 45 s = 0
    · rw [decide_eq_true z, if_pos z]
      show (xg 0 h.2.1 46 (4096 * tp + s)).toInt = _
      omega
    · rw [decide_eq_false z, if_neg z]
      have := sb s hs
      exact i_add (by omega) (by omega)
  have m45 : a_mono (fun s => (xg 0 h.2.1 45 s).toInt) 4096 := by
    intro s t hs ht hst
    have := h45 s t hs ht hst
    dsimp only at this ⊢
    rw [Nat.zero_add, Nat.zero_add] at this
    exact this
  refine rl_loop' (h0 := h) (c := 46) (B := 4096 * tp) (F := fun s => cond (decide (xg 0 h.2.1 45 s = 0)) (xg 0 h.2.1 46 (4096 * tp + s)) (xg 0 h.2.1 46 (4096 * tp + s) + w)) (N := 4096) (P := fun s h' => xt_P (d + 2) xi_X10_end_ xmi_X10_end_ 24 [(0, .ref 39), (1, .int (nI (4096 * tp))), (2, .int (nI s))] [] h' (ed_Q h sz B)) ?_ ?_
  · intro s h2 hs gl K
    have q2 := rl_q gl hq
    have hge : xe_c .ge (nI s) 4096 = false := nge_f (b := 4096) (by omega) (by omega) hs
    have hin := xin_n (k := s) (n := 4096) hs (by omega)
    have e1 : nI s + Int32.ofInt 1 = nI (s + 1) := nI_1 s
    have ecl : (nI s).toNatClampNeg = s := nI_clamp (by omega)
    have e45 : xg 0 h2.2.1 45 s = xg 0 h.2.1 45 s := rl_o gl (by omega)
    have e46 : xg 0 h2.2.1 46 (4096 * tp + s) = xg 0 h.2.1 46 (4096 * tp + s) := rl_o gl (by omega)
    have e28 : xg 0 h2.2.1 39 28 = nI tp := by rw [rl_o gl (by omega)]; exact htp
    have e48 : xg 0 h2.2.1 48 tp = w := by rw [rl_o gl (by omega)]; exact hw
    cases c1 : xe_c .eq (xg 0 h.2.1 45 s) 0 with
    | true =>
      refine xa_tn 24 [0, 1, 2] [(0, .ref 39), (1, .int (nI (4096 * tp))), (2, .int ((nI s) + Int32.ofInt 1))] [] h2 [false, true] 12 q2 rfl ⟨hge, hin, (show xe_c .eq (xg 0 h2.2.1 45 (nI s).toNatClampNeg) 0 = true by rw [ecl, e45]; exact c1), trivial⟩ (fun _ => ?_)
      rw [e1]
      exact K h2 (rl_k gl (by rw [show decide (xg 0 h.2.1 45 s = 0) = true from c1]; rfl))
    | false =>
      have hin2 : xe_in ((nI (4096 * tp)) + (nI s)) 53248 = true := by rw [nIa]; exact xin_n (by omega) (by omega)
      refine xa_tn 24 [0, 1, 2] [(0, .ref 39), (1, .int (nI (4096 * tp))), (2, .int ((nI s) + Int32.ofInt 1))] [] (xh_ui h2 46 ((nI (4096 * tp)) + (nI s)).toNatClampNeg ((xg 0 h2.2.1 46 ((nI (4096 * tp)) + (nI s)).toNatClampNeg) + (xg 0 h2.2.1 48 (xg 0 h2.2.1 39 28).toNatClampNeg))) [false, false] 26 q2 rfl ⟨hge, hin, (show xe_c .eq (xg 0 h2.2.1 45 (nI s).toNatClampNeg) 0 = false by rw [ecl, e45]; exact c1), hin2, (show xe_in (xg 0 h2.2.1 39 28) 13 = true by rw [e28]; exact xin_n (by omega) (by omega)), hin2, trivial⟩ (fun _ => ?_)
      rw [nIa, nI_clamp (n := 4096 * tp + s) (by omega), e28, etc, e48, e46, e1]
      refine K _ ?_
      have := rl_s gl
      rw [show decide (xg 0 h.2.1 45 s = 0) = false from c1] at this
      exact this
  · intro h2 gl
    have q2 := rl_q gl hq
    have F1r : ∀ s, s < 4096 → -2147483648 ≤ (cond (decide (xg 0 h.2.1 45 s = 0)) (xg 0 h.2.1 46 (4096 * tp + s)) (xg 0 h.2.1 46 (4096 * tp + s) + w)).toInt ∧ (cond (decide (xg 0 h.2.1 45 s = 0)) (xg 0 h.2.1 46 (4096 * tp + s)) (xg 0 h.2.1 46 (4096 * tp + s) + w)).toInt ≤ 2147483647 := fun s _ => ar_rng _
    have hk2 : hk bg_md h h2 := rl_hk (kd := 1) (sz := 53248) (lo := -2147483648) (hi := 2147483647) gl (hk_0 g.1.1) hn rfl (by decide) rfl F1r (fun _ => rfl) (fun _ => rfl)
    have e28 : xg 0 h2.2.1 39 28 = nI tp := by rw [rl_o gl (by omega)]; exact htp
    refine xa_tn 66 [0, 1] [(0, .ref 39), (1, .int (nI (4096 * tp)))] [] h2 [true] 5 q2 rfl ⟨by decide, trivial⟩ (fun _ => ?_)
    refine xa_tn 79 [0, 1] [(0, .ref 39), (1, .int (nI (4096 * tp)))] [.int 93, .ref 39] (xh_ui h2 48 (xg 0 h2.2.1 39 28).toNatClampNeg (Int32.ofInt 1)) [] 10 q2 rfl ⟨(show xe_in (xg 0 h2.2.1 39 28) 13 = true by rw [e28]; exact xin_n (by omega) (by omega)), trivial⟩ (fun _ => ?_)
    rw [e28, etc]
    have hk3 : hk bg_md h (xh_ui h2 48 tp (Int32.ofInt 1)) := hk_ui (s := (1, 13)) (lo := 0) (hi := 9999) hk2 hn rfl rfl (by decide) (by decide) rfl rfl
    have eo : ∀ c k, c ≠ 48 → xg 0 (xh_ui h2 48 tp (Int32.ofInt 1)).2.1 c k = xg 0 h2.2.1 c k := fun c k hc => gx_o hc
    generalize xh_ui h2 48 tp (Int32.ofInt 1) = h3 at hk3 eo ⊢
    have q3 := hk_q hk3 hn
    have hn3 := hk_n hk3 hn
    have e39 : ∀ k, xg 0 h3.2.1 39 k = xg 0 h.2.1 39 k := fun k => by rw [eo 39 k (by decide), rl_o gl (by omega)]
    have e47 : ∀ k, xg 0 h3.2.1 47 k = xg 0 h.2.1 47 k := fun k => by rw [eo 47 k (by decide), rl_o gl (by omega)]
    have e45 : ∀ k, xg 0 h3.2.1 45 k = xg 0 h.2.1 45 k := fun k => by rw [eo 45 k (by decide), rl_o gl (by omega)]
    have e46i : ∀ s, s < 4096 → xg 0 h3.2.1 46 (4096 * tp + s) = cond (decide (xg 0 h.2.1 45 s = 0)) (xg 0 h.2.1 46 (4096 * tp + s)) (xg 0 h.2.1 46 (4096 * tp + s) + w) := fun s hs => by rw [eo 46 _ (by decide)]; exact rl_i gl hs
    have m46 : mo h3 46 (4096 * tp) := by
      intro s t hs ht hst
      have a1 := sm s t hs ht hst
      dsimp only at a1 ⊢
      rw [e46i s hs, e46i t ht, F1b s hs, F1b t ht]
      by_cases z : xg 0 h.2.1 45 s = 0
      · rw [if_pos z]
        split <;> omega
      · have z2 : xg 0 h.2.1 45 t ≠ 0 := nz_mo (f := fun s => xg 0 h.2.1 45 s) m45 (ob s hs).1 hs ht hst z
        rw [if_neg z, if_neg z2]
        omega
    have b46 : ∀ s, s < 4096 → 0 ≤ (xg 0 h3.2.1 46 (4096 * tp + s)).toInt ∧ (xg 0 h3.2.1 46 (4096 * tp + s)).toInt ≤ B + 9999 := by
      intro s hs
      rw [e46i s hs, F1b s hs]
      have := sb s hs
      split <;> omega
    have r3 : rI h3 sz (B + 9999) := by
      obtain ⟨p, z47, tp', a, b, c⟩ := g
      have e : tp' = tp := (nI_eq (by omega) (by omega)).mp (by rw [← a]; exact htp)
      subst e
      refine ⟨pi_tr p hk3 (go_Pc p.2.2.2.1 (fun j _ _ => e39 j)), by rw [e47]; exact z47, tp', by rw [e39]; exact a, b, fun t ht => ?_⟩
      by_cases et : t = tp'
      · subst et
        exact ⟨fun _ => ⟨m46, b46⟩, fun z => absurd (by rw [e47]; exact h47) z⟩
      · refine lvo_B (by omega) (lvo_c (c t ht) (fun s hs => ?_) (fun s hs => ?_) (fun s hs => ?_) (e47 t))
        · rw [eo 41 _ (by decide), rl_o gl (by omega)]
        · rw [eo 42 _ (by decide), rl_o gl (by omega)]
        · rw [eo 46 _ (by decide), rl_o gl (by omega)]
    have fr3 : fr h3 = fr h := fr_c (e39 8)
    refine xp_run q3 rfl rfl (sg_run (d := d + 1) (c := 93) q3) ?_
    rintro v h4 ⟨rfl, rfl⟩
    cases hs : sgb h3 93 with
    | false =>
      refine xa_tn 91 [] [] [.int (Int32.ofInt 1)] (xh_ui h3 39 29 (Int32.ofInt 1)) [false] 7 q3 rfl ⟨rfl, Or.inr rfl, trivial⟩ (fun _ => ?_)
      have hk4' : hk bg_md h3 (xh_ui h3 39 29 (Int32.ofInt 1)) := hk_ui (s := (0, 10)) (lo := 0) (hi := 1) (hk_0 r3.1.1) hn3 rfl rfl (by decide) (by decide) rfl rfl
      refine xp_ret rfl rfl rfl ⟨hk_t (hk_t (hk_0 g.1.1) hk3 (by decide)) hk4' (by decide), Or.inr ⟨rfl, Or.inr ⟨?_, rI_ui r3 hk4' (by omega) (by decide), Or.inr ⟨?_, gx_s⟩⟩⟩⟩
      · rw [gx_k (by decide), e39]
        exact h30
      · rw [fr_c (h := h3) (gx_k (by decide)), fr3]
    | true =>
      have k4 := kd_e (k := 4) (by decide) (sgb_4 hs)
      refine xa_tn 94 [0, 1, 2] [(0, .ref 39), (1, .int (nI (4096 * tp))), (2, .int (Int32.ofInt 0))] [] h3 [true] 5 q3 rfl ⟨rfl, trivial⟩ (fun _ => ?_)
      have f28 : xg 0 h3.2.1 39 28 = nI tp := by rw [e39]; exact htp
      generalize hnd : xg 0 h3.2.1 49 tp = nd
      refine rl_loop (h0 := h3) (c := 45) (B := 0) (F := fun s => bl (decide (nd.toInt ≤ (xg 0 h3.2.1 46 (4096 * tp + s)).toInt))) (N := 4096) (P := fun s h' => xt_P (d + 2) xi_X10_end_ xmi_X10_end_ 94 [(0, .ref 39), (1, .int (nI (4096 * tp))), (2, .int (nI s))] [] h' (ed_Q h sz B)) ?_ ?_
      · intro s h5 hs5 gl5 K
        have q5 := rl_q gl5 q3
        have hge : xe_c .ge (nI s) 4096 = false := nge_f (b := 4096) (by omega) (by omega) hs5
        have hin := xin_n (k := s) (n := 4096) hs5 (by omega)
        have e1 : nI s + Int32.ofInt 1 = nI (s + 1) := nI_1 s
        have ecl : (nI s).toNatClampNeg = s := nI_clamp (by omega)
        have g46 : xg 0 h5.2.1 46 (4096 * tp + s) = xg 0 h3.2.1 46 (4096 * tp + s) := rl_o gl5 (by omega)
        have g28 : xg 0 h5.2.1 39 28 = nI tp := by rw [rl_o gl5 (by omega)]; exact f28
        have g49 : xg 0 h5.2.1 49 tp = nd := by rw [rl_o gl5 (by omega)]; exact hnd
        have hin2 : xe_in ((nI (4096 * tp)) + (nI s)) 53248 = true := by rw [nIa]; exact xin_n (by omega) (by omega)
        have hin3 : xe_in (xg 0 h5.2.1 39 28) 13 = true := by rw [g28]; exact xin_n (by omega) (by omega)
        have ecl2 : (nI (4096 * tp + s)).toNatClampNeg = 4096 * tp + s := nI_clamp (by omega)
        rw [Nat.zero_add] at K
        by_cases hc : nd.toInt ≤ (xg 0 h3.2.1 46 (4096 * tp + s)).toInt
        · rw [decide_eq_true hc] at K
          refine xa_tn 94 [0, 1, 2] [(0, .ref 39), (1, .int (nI (4096 * tp))), (2, .int ((nI s) + Int32.ofInt 1))] [] (xh_ui h5 45 (nI s).toNatClampNeg (vp_nar .boolean (Int32.ofInt 1))) [false, false] 25 q5 rfl ⟨hge, hin2, hin3, xlt_f (show (xg 0 h5.2.1 49 (xg 0 h5.2.1 39 28).toNatClampNeg).toInt ≤ (xg 0 h5.2.1 46 ((nI (4096 * tp)) + (nI s)).toNatClampNeg).toInt by rw [nIa, ecl2, g28, etc, g49, g46]; exact hc), hin, trivial⟩ (fun _ => ?_)
          rw [ecl, e1]
          exact K
        · rw [decide_eq_false hc] at K
          refine xa_tn 94 [0, 1, 2] [(0, .ref 39), (1, .int (nI (4096 * tp))), (2, .int ((nI s) + Int32.ofInt 1))] [] (xh_ui h5 45 (nI s).toNatClampNeg (vp_nar .boolean (Int32.ofInt 0))) [false, true] 24 q5 rfl ⟨hge, hin2, hin3, xlt_t (show (xg 0 h5.2.1 46 ((nI (4096 * tp)) + (nI s)).toNatClampNeg).toInt < (xg 0 h5.2.1 49 (xg 0 h5.2.1 39 28).toNatClampNeg).toInt by rw [nIa, ecl2, g28, etc, g49, g46]; omega), hin, trivial⟩ (fun _ => ?_)
          rw [ecl, e1]
          exact K
      · intro h5 gl5
        have q5 := rl_q gl5 q3
        have hk5' : hk bg_md h3 h5 := rl_hk (kd := 3) (sz := 4096) (lo := 0) (hi := 1) gl5 (hk_0 r3.1.1) hn3 rfl (by decide) rfl (fun _ _ => bl_b) (fun _ => rfl) (fun _ => rfl)
        have hn5 := hk_n hk5' hn3
        have r5 : rI h5 sz (B + 9999) := rI_tr r3 hk5' (go_Pc r3.1.2.2.2.1 (fun j _ _ => rl_o gl5 (by omega))) (rl_o gl5 (by omega)) (fun _ => rl_o gl5 (by omega)) (fun _ => rl_o gl5 (by omega)) (fun _ => rl_o gl5 (by omega)) (fun _ => rl_o gl5 (by omega))
        obtain ⟨t', rfl⟩ : ∃ t', tp = t' + 1 := ⟨tp - 1, by omega⟩
        have g28 : xg 0 h5.2.1 39 28 = nI (t' + 1) := by rw [rl_o gl5 (by omega)]; exact f28
        refine xa_tn 138 [0] [(0, .ref 39)] [] h5 [true] 5 q5 rfl ⟨by decide, trivial⟩ (fun _ => ?_)
        refine xa_tn 149 [] [] [.ref 39] (xh_ui h5 39 28 ((xg 0 h5.2.1 39 28) - (Int32.ofInt 1))) [] 9 q5 rfl trivial (fun _ => ?_)
        rw [g28, nI_sub1]
        have ti := nI_toInt (n := t') (by omega)
        have hk6' : hk bg_md h5 (xh_ui h5 39 28 (nI t')) := hk_ui (s := (0, 10)) (lo := 0) (hi := 12) (hk_0 r5.1.1) hn5 rfl rfl (by omega) (by omega) rfl rfl
        have r6 := rI_dn r5 g28 hk6' (by omega)
        have eo6 : ∀ c k, ¬ (c = 39 ∧ k = 28) → xg 0 (xh_ui h5 39 28 (nI t')).2.1 c k = xg 0 h5.2.1 c k := fun c k e => gx_i e
        generalize xh_ui h5 39 28 (nI t') = h6 at hk6' r6 eo6 ⊢
        refine xp_run (hk_q hk6' hn5) rfl rfl (pg (d := d) (hk_n hk6' hn5) r6.1) ?_
        rintro v h7 ⟨rfl, kg7, p7, f7⟩
        have r7 : rI h7 sz (B + 9999) := rI_go r6 kg7 p7
        have hk7 : hk bg_md h h7 := hk_t (hk_t (hk_t hk3 hk5' (fun _ z => z)) hk6' (fun _ z => z)) kg7 (by decide)
        refine xa_tn 153 [] [] [.int (Int32.ofInt 1)] h7 [] 3 (hk_q hk7 hn) rfl trivial (fun _ => ?_)
        have kd6 : kd h6 = 4 := by
          unfold kd at k4 ⊢
          rw [eo6 39 9 (by omega), rl_o gl5 (by omega)]
          exact k4
        have fr6 : fr h6 = fr h := by
          rw [fr_c (h := h5) (h' := h6) (eo6 39 8 (by omega)), fr_c (h := h3) (h' := h5) (rl_o gl5 (by omega)), fr3]
        have f8 := f7 (by omega)
        refine xp_ret rfl rfl rfl ⟨hk_t (hk_0 g.1.1) hk7 (by decide), Or.inr ⟨rfl, Or.inr ⟨?_, r7, Or.inl ⟨by omega, Or.inr ⟨?_, ?_⟩⟩⟩⟩⟩
        · rw [hk_g (c := 39) (k := 30) hk7 rfl rfl]
          exact h30
        · rw [hk_g (c := 39) (k := 29) kg7 rfl rfl, eo6 39 29 (by omega), rl_o gl5 (by omega), e39]
          exact h29
        · have hm := bl_mo (p := fun s => decide (nd.toInt ≤ (xg 0 h3.2.1 46 (4096 * (t' + 1) + s)).toInt)) (fun s t hs ht hst z => by
            have z1 := of_decide_eq_true z
            have := m46 s t hs ht hst
            dsimp only at this
            exact decide_eq_true (by omega))
          intro s t hs ht hst
          have h1 := hm s t hs ht hst
          dsimp only at h1 ⊢
          have e5 : ∀ s, s < 4096 → xg 0 h7.2.1 45 (0 + s) = bl (decide (nd.toInt ≤ (xg 0 h3.2.1 46 (4096 * (t' + 1) + s)).toInt)) := fun s hs => by rw [hk_g (c := 45) (k := 0 + s) kg7 rfl rfl, eo6 45 _ (by omega)]; exact rl_i gl5 hs
          rw [e5 s hs, e5 t ht]
          exact h1
end XED
end
