section XLD
abbrev ld_md : List (Nat × Nat) := [(39, 0), (39, 2), (39, 35), (53, 0), (63, 0), (64, 0), (65, 0), (66, 0)]
/-- what leads leaves -/
def ld_Q (md : List (Nat × Nat)) (h0 : xh_H) (v : Option Value) (h' : xh_H) : Prop := hk md h0 h' ∧ ∃ x : Int32, v = some (.int x) ∧ -1 ≤ x.toInt ∧ x.toInt ≤ 6
set_option maxRecDepth 100000 in
set_option maxHeartbeats 4000000 in
/-- as they come: the row is laid, its end is asked -/
theorem ld_1 {d n : Nat} {h0 : xh_H} (hn : 72 ≤ h0.1.length) (n1 : 1 ≤ n) (n7' : n ≤ 7) : ∀ (m i : Nat) (h : xh_H), i + m = n → hk ld_md h0 h → (∀ k, k < n → (xg 0 h.2.1 40 k).toInt ≤ 6) → xt_P (d + 1) xi_X10_leads xmi_X10_leads 40 [(0, .ref 39), (2, .int (nI n)), (3, .int (nI i))] [] h (ld_Q ld_md h0) := by
  intro m
  induction m with
  | zero =>
    intro i h hi hk0 ho
    have e : i = n := by omega
    subst e
    refine xa_tn 65 [] [] [.int (nI i), .ref 39] h [true] 7 (hk_q hk0 hn) rfl ⟨nge_t (by omega) (by omega) (Nat.le_refl _), trivial⟩ (fun hq => ?_)
    have ei := nI_toInt (n := i) (by omega)
    refine xp_int (C := aC_m_X10_endOf) (lo := 0) (hi := 6) (σ := fun _ => 0) as_m_X10_endOf hq hk0.1 rfl rfl rfl (Nat.zero_le _) ⟨a_av (by decide) hq.1, a_ai (by omega) (by omega), trivial⟩ a_fp0 rfl (fun x h1 x1 x2 i1 l1 f1 q1 => ?_)
    exact xp_ret rfl rfl rfl ⟨hk_c hk0 i1 l1 f1 (fun _ z => nomatch z), x, rfl, by omega, x2⟩
  | succ m ih =>
    intro i h hi hk0 ho
    obtain ⟨t, et, t6⟩ := tp_o (k := i) hk0.1.1 (hk_n hk0 hn) (show i < n by omega) n7' ho
    have eic : (nI i).toNatClampNeg = i := nI_clamp (by omega)
    have e1 : nI i + Int32.ofInt 1 = nI (i + 1) := nI_1 i
    refine xa_tn 40 [0, 2, 3] [(0, .ref 39), (2, .int (nI n)), (3, .int ((nI i) + Int32.ofInt 1))] [] (xh_ui h 66 (nI i).toNatClampNeg (xg 0 h.2.1 40 (nI i).toNatClampNeg)) [false] 15 (hk_q hk0 hn) rfl ⟨nge_f (by omega) (by omega) (by omega), xin_n (by omega) (by omega), xin_n (by omega) (by omega), trivial⟩ (fun _ => ?_)
    rw [eic, et, e1]
    have ti := nI_toInt (n := t) (by omega)
    refine ih (i + 1) _ (by omega) (hk_ui (s := (1, 7)) (lo := 0) (hi := 6) hk0 hn rfl rfl (by omega) (by omega) rfl rfl) (fun k hk' => ?_)
    rw [gx_o (by decide)]
    exact ho k hk'
set_option maxRecDepth 100000 in
set_option maxHeartbeats 4000000 in
/-- foreseen: one step back -/
theorem ld_3 {d n k : Nat} {h0 : xh_H} {Q : Option Value → xh_H → Prop} (hn : 72 ≤ h0.1.length) (n7' : n ≤ 7) (hk1 : 1 ≤ k) (hkn : k < n) (K : ∀ h', hk ld_md h0 h' → (∀ k, k < n → (xg 0 h'.2.1 40 k).toInt ≤ 6) → xt_P d xi_X10_leads xmi_X10_leads 99 [(0, .ref 39), (3, .int (nI k + Int32.ofInt (-1)))] [] h' Q) : ∀ (m s : Nat) (h : xh_H), s + m = 7 → hk ld_md h0 h → (∀ k, k < n → (xg 0 h.2.1 40 k).toInt ≤ 6) → xt_P d xi_X10_leads xmi_X10_leads 106 [(0, .ref 39), (3, .int (nI k)), (4, .int (nI s))] [] h Q := by
  have ekc : (nI k).toNatClampNeg = k := nI_clamp (by omega)
  intro m
  induction m with
  | zero =>
    intro s h hs hk0 ho
    have e : s = 7 := by omega
    subst e
    refine xa_tn 99 [0, 3] [(0, .ref 39), (3, .int ((nI k) + Int32.ofInt (-1)))] [] h [true] 7 (hk_q hk0 hn) rfl ⟨by decide, trivial⟩ (fun _ => ?_)
    exact K h hk0 ho
  | succ m ih =>
    intro s h hs hk0 ho
    obtain ⟨t, et, t6⟩ := tp_o (k := k) hk0.1.1 (hk_n hk0 hn) hkn n7' ho
    have e1 : nI s + Int32.ofInt 1 = nI (s + 1) := nI_1 s
    have ea : ∀ u : Nat, (7 * nI k + 7) + nI u = nI (7 * k + 7 + u) := by
      intro u
      rw [show (7 : Int32) * nI k + 7 = nI (7 * k + 7) from n7 k 7, nI_add]
    have c1 := a_elx (c := 65) (k := 7 * k + 7 + t) (lo := 0) (hi := 6) hk0.1.1 (hk_n hk0 hn) rfl rfl (by omega)
    have c2 := a_elx (c := 65) (k := 7 * k + 7 + s) (lo := 0) (hi := 6) hk0.1.1 (hk_n hk0 hn) rfl rfl (by omega)
    obtain ⟨x, ex, x6, x31⟩ := a_nk (x := xg 0 h.2.1 65 (7 * k + 7 + t)) (m := 6) c1.1 c1.2
    obtain ⟨y, ey, y6, y31⟩ := a_nk (x := xg 0 h.2.1 65 (7 * k + 7 + s)) (m := 6) c2.1 c2.2
    refine xa_tn 151 [0, 3, 4, 5, 6] [(0, .ref 39), (3, .int (nI k)), (4, .int (nI s)), (5, .int (xg 0 h.2.1 65 (((7 * (nI k)) + 7) + (xg 0 h.2.1 40 (nI k).toNatClampNeg)).toNatClampNeg)), (6, .int (xg 0 h.2.1 65 (((7 * (nI k)) + 7) + (nI s)).toNatClampNeg))] [] h [false] 30 (hk_q hk0 hn) rfl ⟨nge_f (b := 7) (by omega) (by omega) (by omega), xin_n (by omega) (by omega), (show xe_in (((7 * (nI k)) + 7) + (xg 0 h.2.1 40 (nI k).toNatClampNeg)) 56 = true by rw [ekc, et, ea]; exact xin_n (by omega) (by omega)), (show xe_in (((7 * (nI k)) + 7) + (nI s)) 56 = true by rw [ea]; exact xin_n (by omega) (by omega)), trivial⟩ (fun _ => ?_)
    rw [ekc, et, ea, ea, nI_clamp (by omega), nI_clamp (by omega), ex, ey]
    have xi := nI_toInt (n := x) x31
    have yi := nI_toInt (n := y) y31
    have hin : xe_in ((7 * (nI k)) + (nI s)) 56 = true := by rw [n7]; exact xin_n (by omega) (by omega)
    have fin : ∀ z : Nat, z ≤ 6 → xt_P d xi_X10_leads xmi_X10_leads 106 [(0, .ref 39), (3, .int (nI k)), (4, .int (nI (s + 1)))] [] (xh_ui h 65 (7 * k + s) (nI z)) Q := by
      intro z z6
      have zi := nI_toInt (n := z) (by omega)
      refine ih (s + 1) _ (by omega) (hk_ui (s := (1, 56)) (lo := 0) (hi := 6) hk0 hn rfl rfl (by omega) (by omega) rfl rfl) (fun k hk' => ?_)
      rw [gx_o (by decide)]
      exact ho k hk'
    cases c3 : xe_c .eq (nI x) (nI y) with
    | true =>
      refine xa_tn 106 [0, 3, 4] [(0, .ref 39), (3, .int (nI k)), (4, .int ((nI s) + Int32.ofInt 1))] [] (xh_ui h 65 ((7 * (nI k)) + (nI s)).toNatClampNeg (nI y)) [true] 16 (hk_q hk0 hn) rfl ⟨c3, hin, trivial⟩ (fun _ => ?_)
      rw [n7, nI_clamp (by omega), e1]
      exact fin y y6
    | false =>
      have hin2 : xe_in ((7 * (nI x)) + (nI y)) 49 = true := by rw [n7]; exact xin_n (by omega) (by omega)
      cases c4 : xe_c .eq (xg 0 h.2.1 63 ((7 * (nI x)) + (nI y)).toNatClampNeg) 0 with
      | true =>
        refine xa_tn 106 [0, 3, 4] [(0, .ref 39), (3, .int (nI k)), (4, .int ((nI s) + Int32.ofInt 1))] [] (xh_ui h 65 ((7 * (nI k)) + (nI s)).toNatClampNeg (nI y)) [false, true] 25 (hk_q hk0 hn) rfl ⟨c3, hin2, c4, hin, trivial⟩ (fun _ => ?_)
        rw [n7 k s, nI_clamp (by omega), e1]
        exact fin y y6
      | false =>
        refine xa_tn 106 [0, 3, 4] [(0, .ref 39), (3, .int (nI k)), (4, .int ((nI s) + Int32.ofInt 1))] [] (xh_ui h 65 ((7 * (nI k)) + (nI s)).toNatClampNeg (nI x)) [false, false] 26 (hk_q hk0 hn) rfl ⟨c3, hin2, c4, hin, trivial⟩ (fun _ => ?_)
        rw [n7 k s, nI_clamp (by omega), e1]
        exact fin x x6
set_option maxRecDepth 100000 in
set_option maxHeartbeats 4000000 in
/-- foreseen: all steps back -/
theorem ld_2 {d n : Nat} {h0 : xh_H} (hn : 72 ≤ h0.1.length) (n1 : 1 ≤ n) (n7' : n ≤ 7) : ∀ (k : Nat) (h : xh_H), k < n → hk ld_md h0 h → (∀ k, k < n → (xg 0 h.2.1 40 k).toInt ≤ 6) → xt_P d xi_X10_leads xmi_X10_leads 99 [(0, .ref 39), (3, .int (nI k))] [] h (ld_Q ld_md h0) := by
  intro k
  induction k with
  | zero =>
    intro h hkn hk0 ho
    obtain ⟨t, et, t6⟩ := tp_o (k := 0) hk0.1.1 (hk_n hk0 hn) hkn n7' ho
    have e7 : (7 : Int32) + nI t = nI (7 + t) := nI_add 7 t
    have c1 := a_elx (c := 65) (k := 7 + t) (lo := 0) (hi := 6) hk0.1.1 (hk_n hk0 hn) rfl rfl (by omega)
    have et2 : xg 0 h.2.1 40 (Int32.ofInt 0).toNatClampNeg = nI t := et
    refine xa_tn 219 [] [] [.int (xg 0 h.2.1 65 (7 + (xg 0 h.2.1 40 (Int32.ofInt 0).toNatClampNeg)).toNatClampNeg)] h [true] 13 (hk_q hk0 hn) rfl ⟨by decide, by decide, (show xe_in (7 + (xg 0 h.2.1 40 (Int32.ofInt 0).toNatClampNeg)) 56 = true by rw [et2, e7]; exact xin_n (by omega) (by omega)), trivial⟩ (fun _ => ?_)
    rw [et2, e7, nI_clamp (by omega)]
    exact xp_ret rfl rfl rfl ⟨hk0, _, rfl, by omega, c1.2⟩
  | succ k ih =>
    intro h hkn hk0 ho
    have ki := nI_toInt (n := k + 1) (by omega)
    have z0 : (0 : Int32).toInt = 0 := rfl
    refine xa_tn 106 [0, 3, 4] [(0, .ref 39), (3, .int (nI (k + 1))), (4, .int (Int32.ofInt 0))] [] h [false] 6 (hk_q hk0 hn) rfl ⟨xle_f (by omega), trivial⟩ (fun _ => ?_)
    refine ld_3 hn n7' (by omega) hkn ?_ 7 0 h rfl hk0 ho
    intro h1 hk1 ho1
    rw [nI_dec2]
    exact ih h1 (by omega) hk1 ho1
set_option maxRecDepth 100000 in
set_option maxHeartbeats 4000000 in
/-- foreseen: the last row -/
theorem ld_0 {d n : Nat} {h0 : xh_H} (hn : 72 ≤ h0.1.length) (n1 : 1 ≤ n) (n7' : n ≤ 7) : ∀ (m i : Nat) (h : xh_H), i + m = 7 → hk ld_md h0 h → (∀ k, k < n → (xg 0 h.2.1 40 k).toInt ≤ 6) → xt_P d xi_X10_leads xmi_X10_leads 71 [(0, .ref 39), (2, .int (nI n)), (3, .int (nI i))] [] h (ld_Q ld_md h0) := by
  intro m
  induction m with
  | zero =>
    intro i h hi hk0 ho
    have e : i = 7 := by omega
    subst e
    refine xa_tn 99 [0, 3] [(0, .ref 39), (3, .int ((nI n) - (Int32.ofInt 1)))] [] h [true] 9 (hk_q hk0 hn) rfl ⟨by decide, trivial⟩ (fun _ => ?_)
    obtain ⟨j, rfl⟩ : ∃ j, n = j + 1 := ⟨n - 1, by omega⟩
    rw [nI_sub1]
    exact ld_2 hn n1 n7' j h (by omega) hk0 ho
  | succ m ih =>
    intro i h hi hk0 ho
    have e1 : nI i + Int32.ofInt 1 = nI (i + 1) := nI_1 i
    have ii := nI_toInt (n := i) (by omega)
    refine xa_tn 71 [0, 2, 3] [(0, .ref 39), (2, .int (nI n)), (3, .int ((nI i) + Int32.ofInt 1))] [] (xh_ui h 65 ((7 * (nI n)) + (nI i)).toNatClampNeg (nI i)) [false] 16 (hk_q hk0 hn) rfl ⟨nge_f (b := 7) (by omega) (by omega) (by omega), (show xe_in ((7 * (nI n)) + (nI i)) 56 = true by rw [n7]; exact xin_n (by omega) (by omega)), trivial⟩ (fun _ => ?_)
    rw [n7, nI_clamp (by omega), e1]
    refine ih (i + 1) _ (by omega) (hk_ui (s := (1, 56)) (lo := 0) (hi := 6) hk0 hn rfl rfl (by omega) (by omega) rfl rfl) (fun k hk' => ?_)
    rw [gx_o (by decide)]
    exact ho k hk'
/-- X10.leads -/
def aC_r_X10_leads : aC := (xi_X10_leads, 3, [(2, 39, 0, none, [], []), (0, 0, 1, none, [], [])], [(some (0, -1, 6, none, [], []), [])], ld_md, [])
set_option maxRecDepth 100000 in
set_option maxHeartbeats 4000000 in
theorem as_r_X10_leads : a_spec a_tb aC_r_X10_leads := by
  refine sp_of (mi := xmi_X10_leads) rfl ?_
  intro d vs h σ hd hi hn ha _
  match vs, ha with
  | [v0, v1], ha =>
    obtain ⟨⟨q, rfl, hq⟩, ⟨f, rfl, -⟩, -⟩ := ha
    have eq : q = 39 := a_r_ob (t := 39) (by decide) hq
    subst eq
    have hd : 3 ≤ d := hd
    obtain ⟨d, rfl⟩ : ∃ d', d = d' + 3 := ⟨d - 3, by omega⟩
    have main : xt_P (d + 3) xi_X10_leads xmi_X10_leads 0 [(0, .ref 39), (1, .int f)] [] h (ld_Q ld_md h) := by
      refine xa_tn 6 [0, 1] [(0, .ref 39), (1, .int f)] [.ref 39] (xh_ui h 39 0 (Int32.ofInt 0)) [] 6 (a_rq_of hi.1 hn) rfl trivial (fun q1 => ?_)
      have hk1 : hk ld_md h (xh_ui h 39 0 (Int32.ofInt 0)) := hk_ui (s := (0, 10)) (lo := 0) (hi := 1) (hk_0 hi) hn rfl rfl (by decide) (by decide) rfl rfl
      generalize xh_ui h 39 0 (Int32.ofInt 0) = h1 at hk1 q1 ⊢
      refine xp_int (C := aC_m_X10_take) (lo := 0) (hi := 640) (σ := fun _ => 0) as_m_X10_take q1 hk1.1 rfl rfl rfl (Nat.zero_le _) ⟨a_av (by decide) q1.1, trivial⟩ a_fp0 rfl (fun t h2 t1 t2 i2 l2 f2 q2 => ?_)
      have hk2 : hk ld_md h h2 := hk_c hk1 i2 l2 f2 (by decide)
      refine xa_tn 14 [0, 1, 2] [(0, .ref 39), (1, .int f), (2, .int t)] [.int 7, .int (Int32.ofInt 1), .int t] h2 [] 6 q2 rfl trivial (fun _ => ?_)
      refine xp_intf (C := aC_m_X10_isIn_1_1_7_7) (lo := 0) (hi := 1) (σ := fun _ => 0) as_m_X10_isIn_1_1_7_7 q2 hk2.1 rfl rfl rfl (Nat.zero_le _) ⟨a_ai t1 t2, a_ai (by decide) (by decide), a_ai (by decide) (by decide), trivial⟩ a_fp0 rfl (fun x h3 x1 x2 xf _ i3 l3 f3 q3 => ?_)
      have hk3 : hk ld_md h h3 := hk_c hk2 i3 l3 f3 (fun _ z => nomatch z)
      cases c1 : xe_c .eq x 0 with
      | true =>
        refine xa_tn 29 [] [] [.int (Int32.ofInt (-1))] h3 [true] 4 q3 rfl ⟨c1, trivial⟩ (fun _ => ?_)
        exact xp_ret rfl rfl rfl ⟨hk3, _, rfl, by decide, by decide⟩
      | false =>
        have tf : 1 ≤ t.toInt ∧ t.toInt ≤ 7 := xf (of_decide_eq_false c1) _ (List.mem_singleton.mpr rfl)
        obtain ⟨n, rfl, n7', n31⟩ := a_nk (x := t) (m := 7) (by omega) tf.2
        rw [nI_toInt n31] at tf
        have n1 : 1 ≤ n := by omega
        refine xa_tn 22 [0, 1, 2] [(0, .ref 39), (1, .int f), (2, .int (nI n))] [.int (nI n), .ref 39] h3 [false] 5 q3 rfl ⟨c1, trivial⟩ (fun _ => ?_)
        refine xp_run q3 rfl rfl (ao_run (d := d + 2) (n := n) i3.1 q3.1 n7') ?_
        rintro v h4 ⟨rfl, p, rfl, hp⟩
        cases p with
        | false =>
          refine xa_tn 29 [] [] [.int (Int32.ofInt (-1))] h3 [false] 4 q3 rfl ⟨rfl, trivial⟩ (fun _ => ?_)
          exact xp_ret rfl rfl rfl ⟨hk3, _, rfl, by decide, by decide⟩
        | true =>
          refine xa_tn 31 [0, 1, 2] [(0, .ref 39), (1, .int f), (2, .int (nI n))] [.ref 39] h3 [true] 4 q3 rfl ⟨rfl, trivial⟩ (fun _ => ?_)
          refine xp_void (C := aC_m_X10_layOptions) (σ := fun _ => 0) (P := [((39, 35), 2, 4096)]) as_m_X10_layOptions q3 hk3.1 rfl rfl rfl (by show 2 ≤ d + 2; omega) ⟨a_av (by decide) q3.1, trivial⟩ a_fp0 rfl (fun h5 _ i5 l5 f5 q5 => ?_)
          have hk5 : hk ld_md h h5 := hk_c hk3 i5 l5 f5 (by decide)
          have ho : ∀ k, k < n → (xg 0 h5.2.1 40 k).toInt ≤ 6 := fun k hk' => by
            rw [fr_g f5 rfl rfl]
            exact hp rfl k hk'
          cases c2 : xe_c .ne f 0 with
          | false =>
            refine xa_tn 40 [0, 2, 3] [(0, .ref 39), (2, .int (nI n)), (3, .int (Int32.ofInt 0))] [] h5 [false] 6 q5 rfl ⟨c2, trivial⟩ (fun _ => ?_)
            exact ld_1 hn n1 n7' n 0 h5 (by omega) hk5 ho
          | true =>
            refine xa_tn 71 [0, 2, 3] [(0, .ref 39), (2, .int (nI n)), (3, .int (Int32.ofInt 0))] [] h5 [true] 6 q5 rfl ⟨c2, trivial⟩ (fun _ => ?_)
            exact ld_0 hn n1 n7' 7 0 h5 rfl hk5 ho
    exact xp_mono main (fun v h' g => by
      obtain ⟨g1, x, rfl, x1, x2⟩ := g
      exact ⟨g1, rok_i x1 x2⟩)
end XLD
