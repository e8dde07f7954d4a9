section XLT
set_option maxRecDepth 100000 in
set_option maxHeartbeats 8000000 in
/-- X9.leads takes the tape -/
theorem l9_run2 {d : Nat} {f : Int32} {h : xh_H} (hn : 72 ≤ h.1.length) (hi : a_inv a_tb h) : xt_P (d + 3) xi_X9_leads xmi_X9_leads 0 [(0, .ref 0), (1, .int f)] [] h (fun v h' => ld_Q l9_md h v h' ∧ xg 0 h'.2.1 1 1 = 0) := by
  have hq := a_rq_of hi.1 hn
  refine xa_tn 10 [0, 1, 2] [(0, .ref 0), (1, .int f), (2, .int (Int32.ofInt (-1)))] [.ref 1, .ref 28] h [] 8 hq rfl trivial (fun _ => ?_)
  refine xp_run hq rfl rfl (ir_run (d := d + 1) hi.1 hn) ?_
  rintro v h1 ⟨rfl, p, rfl, hp⟩
  cases p with
  | false =>
    refine xa_tn 74 [] [] [.int (Int32.ofInt (-1))] (xh_ui h 1 1 (Int32.ofInt 0)) [true] 8 hq rfl ⟨rfl, trivial⟩ (fun _ => ?_)
    exact xp_ret rfl rfl rfl ⟨⟨hk_ui (s := (0, 8)) (lo := 0) (hi := 640) (hk_0 hi) hn rfl rfl (by decide) (by decide) rfl rfl, _, rfl, by decide, by decide⟩, gx_s⟩
  | true =>
    obtain ⟨n, ho⟩ := hp rfl
    have ho : l9_o h n := ho
    refine xa_tn 25 [0, 1] [(0, .ref 0), (1, .int f)] [.int (xg 0 h.2.1 0 10), .ref 0, .ref 28] h [false] 8 hq rfl ⟨rfl, trivial⟩ (fun _ => ?_)
    have dr := ar_rng (xg 0 h.2.1 0 10)
    refine xp_ref (C := aC_m_X9_inForce) (t := 11) (σ := fun _ => 0) as_m_X9_inForce hq hi rfl rfl rfl (Nat.zero_le _) ⟨a_av (by decide) hq.1, a_ai dr.1 dr.2, trivial⟩ a_fp0 rfl (fun lw h1 lw1 i1 l1 f1 q1 => ?_)
    have hk1 : hk l9_md h h1 := hk_c (hk_0 hi) i1 l1 f1 (fun _ z => nomatch z)
    have ho1 := l9_fr ho f1 rfl (fun _ => rfl)
    refine xa_tn 32 [0, 1] [(0, .ref 0), (1, .int f)] [.int (xg 0 h1.2.1 0 9), .ref lw, .ref 28] h1 [] 4 q1 rfl trivial (fun _ => ?_)
    have sb := a_flx (c := 0) (k := 9) (lo := 1) (hi := 12) i1.1 q1.1 rfl rfl (by decide)
    refine xp_void (C := aC_m_X0_match) (σ := fun _ => 0) (P := []) as_m_X0_match q1 i1 rfl rfl rfl (by show 1 ≤ d + 2; omega) ⟨a_av (by decide) q1.1, ⟨lw, rfl, by rw [l1]; exact lw1⟩, a_ai sb.1 sb.2, trivial⟩ a_fp0 rfl (fun h2 _ i2 l2 f2 q2 => ?_)
    have hk2 : hk l9_md h h2 := hk_c hk1 i2 l2 f2 (by decide)
    have ho2 := l9_fr ho1 f2 rfl (fun _ => rfl)
    have fin : ∀ (x : Int32) (h3 : xh_H), hk l9_md h h3 → 0 ≤ x.toInt → x.toInt ≤ 6 → ld_Q l9_md h (some (.int x)) (xh_ui h3 1 1 (Int32.ofInt 0)) := by
      intro x h3 hk3 x1 x2
      exact ⟨hk_ui (s := (0, 8)) (lo := 0) (hi := 640) hk3 hn rfl rfl (by decide) (by decide) rfl rfl, x, rfl, by omega, x2⟩
    cases c2 : xe_c .eq f 0 with
    | true =>
      refine xa_tn 61 [0] [(0, .ref 0)] [.ref 1, .ref 28] h2 [true] 8 q2 rfl ⟨c2, trivial⟩ (fun _ => ?_)
      refine xp_run q2 rfl rfl (fo_run (d := d) i2 q2.1 ho2) ?_
      rintro v h3 ⟨k3, x, rfl, x1, x2⟩
      have hk3 : hk l9_md h h3 := hk_t hk2 k3 (fun _ z => nomatch z)
      refine xa_tn 74 [] [] [.int x] (xh_ui h3 1 1 (Int32.ofInt 0)) [] 8 (hk_q hk3 hn) rfl trivial (fun _ => ?_)
      exact xp_ret rfl rfl rfl ⟨fin x h3 hk3 x1 x2, gx_s⟩
    | false =>
      refine xa_tn 47 [0] [(0, .ref 0)] [.ref 1, .ref 28] h2 [false] 8 q2 rfl ⟨c2, trivial⟩ (fun _ => ?_)
      have fe : xt_P (d + 2) xi_X0_foresee xmi_X0_foresee 0 [(0, .ref 28), (1, .ref 1)] [] h2 (fe_Q h2) := by
        refine xa_tn 2 [0, 1, 2] [(0, .ref 28), (1, .ref 1), (2, .int (Int32.ofInt 0))] [] h2 [] 4 q2 rfl trivial (fun _ => ?_)
        exact fe_0 q2.1 7 0 h2 rfl (hk_0 i2) ho2
      refine xp_run q2 rfl rfl fe ?_
      rintro v h3 ⟨k3, x, rfl, x1, x2⟩
      have hk3 : hk l9_md h h3 := hk_t hk2 k3 (by decide)
      refine xa_tn 74 [] [] [.int x] (xh_ui h3 1 1 (Int32.ofInt 0)) [] 9 (hk_q hk3 hn) rfl trivial (fun _ => ?_)
      exact xp_ret rfl rfl rfl ⟨fin x h3 hk3 x1 x2, gx_s⟩
abbrev ld_md2 : List (Nat × Nat) := [(39, 0), (39, 35), (53, 0), (63, 0), (64, 0), (65, 0), (66, 0)]
set_option maxRecDepth 100000 in
set_option maxHeartbeats 4000000 in
/-- as they come: the row is laid, its end is asked -/
theorem ld_12 {d n : Nat} {h0 : xh_H} (hn : 72 ≤ h0.1.length) (n1 : 1 ≤ n) (n7' : n ≤ 7) : ∀ (m i : Nat) (h : xh_H), i + m = n → hk ld_md2 h0 h → (∀ k, k < n → (xg 0 h.2.1 40 k).toInt ≤ 6) → xt_P (d + 1) xi_X10_leads xmi_X10_leads 40 [(0, .ref 39), (2, .int (nI n)), (3, .int (nI i))] [] h (ld_Q ld_md2 h0) := by
  intro m
  induction m with
  | zero =>
    intro i h hi hk0 ho
    have e : i = n := by omega
    subst e
    refine xa_tn 65 [] [] [.int (nI i), .ref 39] h [true] 7 (hk_q hk0 hn) rfl ⟨nge_t (by omega) (by omega) (Nat.le_refl _), trivial⟩ (fun hq => ?_)
    have ei := nI_toInt (n := i) (by omega)
    refine xp_int (C := aC_m_X10_endOf) (lo := 0) (hi := 6) (σ := fun _ => 0) as_m_X10_endOf hq hk0.1 rfl rfl rfl (Nat.zero_le _) ⟨a_av (by decide) hq.1, a_ai (by omega) (by omega), trivial⟩ a_fp0 rfl (fun x h1 x1 x2 i1 l1 f1 q1 => ?_)
    exact xp_ret rfl rfl rfl ⟨hk_c hk0 i1 l1 f1 (fun _ z => nomatch z), x, rfl, by omega, x2⟩
  | succ m ih =>
    intro i h hi hk0 ho
    obtain ⟨t, et, t6⟩ := tp_o (k := i) hk0.1.1 (hk_n hk0 hn) (show i < n by omega) n7' ho
    have eic : (nI i).toNatClampNeg = i := nI_clamp (by omega)
    have e1 : nI i + Int32.ofInt 1 = nI (i + 1) := nI_1 i
    refine xa_tn 40 [0, 2, 3] [(0, .ref 39), (2, .int (nI n)), (3, .int ((nI i) + Int32.ofInt 1))] [] (xh_ui h 66 (nI i).toNatClampNeg (xg 0 h.2.1 40 (nI i).toNatClampNeg)) [false] 15 (hk_q hk0 hn) rfl ⟨nge_f (by omega) (by omega) (by omega), xin_n (by omega) (by omega), xin_n (by omega) (by omega), trivial⟩ (fun _ => ?_)
    rw [eic, et, e1]
    have ti := nI_toInt (n := t) (by omega)
    refine ih (i + 1) _ (by omega) (hk_ui (s := (1, 7)) (lo := 0) (hi := 6) hk0 hn rfl rfl (by omega) (by omega) rfl rfl) (fun k hk' => ?_)
    rw [gx_o (by decide)]
    exact ho k hk'
set_option maxRecDepth 100000 in
set_option maxHeartbeats 4000000 in
/-- foreseen: one step back -/
theorem ld_32 {d n k : Nat} {h0 : xh_H} {Q : Option Value → xh_H → Prop} (hn : 72 ≤ h0.1.length) (n7' : n ≤ 7) (hk1 : 1 ≤ k) (hkn : k < n) (K : ∀ h', hk ld_md2 h0 h' → (∀ k, k < n → (xg 0 h'.2.1 40 k).toInt ≤ 6) → xt_P d xi_X10_leads xmi_X10_leads 99 [(0, .ref 39), (3, .int (nI k + Int32.ofInt (-1)))] [] h' Q) : ∀ (m s : Nat) (h : xh_H), s + m = 7 → hk ld_md2 h0 h → (∀ k, k < n → (xg 0 h.2.1 40 k).toInt ≤ 6) → xt_P d xi_X10_leads xmi_X10_leads 106 [(0, .ref 39), (3, .int (nI k)), (4, .int (nI s))] [] h Q := by
  have ekc : (nI k).toNatClampNeg = k := nI_clamp (by omega)
  intro m
  induction m with
  | zero =>
    intro s h hs hk0 ho
    have e : s = 7 := by omega
    subst e
    refine xa_tn 99 [0, 3] [(0, .ref 39), (3, .int ((nI k) + Int32.ofInt (-1)))] [] h [true] 7 (hk_q hk0 hn) rfl ⟨by decide, trivial⟩ (fun _ => ?_)
    exact K h hk0 ho
  | succ m ih =>
    intro s h hs hk0 ho
    obtain ⟨t, et, t6⟩ := tp_o (k := k) hk0.1.1 (hk_n hk0 hn) hkn n7' ho
    have e1 : nI s + Int32.ofInt 1 = nI (s + 1) := nI_1 s
    have ea : ∀ u : Nat, (7 * nI k + 7) + nI u = nI (7 * k + 7 + u) := by
      intro u
      rw [show (7 : Int32) * nI k + 7 = nI (7 * k + 7) from n7 k 7, nI_add]
    have c1 := a_elx (c := 65) (k := 7 * k + 7 + t) (lo := 0) (hi := 6) hk0.1.1 (hk_n hk0 hn) rfl rfl (by omega)
    have c2 := a_elx (c := 65) (k := 7 * k + 7 + s) (lo := 0) (hi := 6) hk0.1.1 (hk_n hk0 hn) rfl rfl (by omega)
    obtain ⟨x, ex, x6, x31⟩ := a_nk (x := xg 0 h.2.1 65 (7 * k + 7 + t)) (m := 6) c1.1 c1.2
    obtain ⟨y, ey, y6, y31⟩ := a_nk (x := xg 0 h.2.1 65 (7 * k + 7 + s)) (m := 6) c2.1 c2.2
    refine xa_tn 151 [0, 3, 4, 5, 6] [(0, .ref 39), (3, .int (nI k)), (4, .int (nI s)), (5, .int (xg 0 h.2.1 65 (((7 * (nI k)) + 7) + (xg 0 h.2.1 40 (nI k).toNatClampNeg)).toNatClampNeg)), (6, .int (xg 0 h.2.1 65 (((7 * (nI k)) + 7) + (nI s)).toNatClampNeg))] [] h [false] 30 (hk_q hk0 hn) rfl ⟨nge_f (b := 7) (by omega) (by omega) (by omega), xin_n (by omega) (by omega), (show xe_in (((7 * (nI k)) + 7) + (xg 0 h.2.1 40 (nI k).toNatClampNeg)) 56 = true by rw [ekc, et, ea]; exact xin_n (by omega) (by omega)), (show xe_in (((7 * (nI k)) + 7) + (nI s)) 56 = true by rw [ea]; exact xin_n (by omega) (by omega)), trivial⟩ (fun _ => ?_)
    rw [ekc, et, ea, ea, nI_clamp (by omega), nI_clamp (by omega), ex, ey]
    have xi := nI_toInt (n := x) x31
    have yi := nI_toInt (n := y) y31
    have hin : xe_in ((7 * (nI k)) + (nI s)) 56 = true := by rw [n7]; exact xin_n (by omega) (by omega)
    have fin : ∀ z : Nat, z ≤ 6 → xt_P d xi_X10_leads xmi_X10_leads 106 [(0, .ref 39), (3, .int (nI k)), (4, .int (nI (s + 1)))] [] (xh_ui h 65 (7 * k + s) (nI z)) Q := by
      intro z z6
      have zi := nI_toInt (n := z) (by omega)
      refine ih (s + 1) _ (by omega) (hk_ui (s := (1, 56)) (lo := 0) (hi := 6) hk0 hn rfl rfl (by omega) (by omega) rfl rfl) (fun k hk' => ?_)
      rw [gx_o (by decide)]
      exact ho k hk'
    cases c3 : xe_c .eq (nI x) (nI y) with
    | true =>
      refine xa_tn 106 [0, 3, 4] [(0, .ref 39), (3, .int (nI k)), (4, .int ((nI s) + Int32.ofInt 1))] [] (xh_ui h 65 ((7 * (nI k)) + (nI s)).toNatClampNeg (nI y)) [true] 16 (hk_q hk0 hn) rfl ⟨c3, hin, trivial⟩ (fun _ => ?_)
      rw [n7, nI_clamp (by omega), e1]
      exact fin y y6
    | false =>
      have hin2 : xe_in ((7 * (nI x)) + (nI y)) 49 = true := by rw [n7]; exact xin_n (by omega) (by omega)
      cases c4 : xe_c .eq (xg 0 h.2.1 63 ((7 * (nI x)) + (nI y)).toNatClampNeg) 0 with
      | true =>
        refine xa_tn 106 [0, 3, 4] [(0, .ref 39), (3, .int (nI k)), (4, .int ((nI s) + Int32.ofInt 1))] [] (xh_ui h 65 ((7 * (nI k)) + (nI s)).toNatClampNeg (nI y)) [false, true] 25 (hk_q hk0 hn) rfl ⟨c3, hin2, c4, hin, trivial⟩ (fun _ => ?_)
        rw [n7 k s, nI_clamp (by omega), e1]
        exact fin y y6
      | false =>
        refine xa_tn 106 [0, 3, 4] [(0, .ref 39), (3, .int (nI k)), (4, .int ((nI s) + Int32.ofInt 1))] [] (xh_ui h 65 ((7 * (nI k)) + (nI s)).toNatClampNeg (nI x)) [false, false] 26 (hk_q hk0 hn) rfl ⟨c3, hin2, c4, hin, trivial⟩ (fun _ => ?_)
        rw [n7 k s, nI_clamp (by omega), e1]
        exact fin x x6
set_option maxRecDepth 100000 in
set_option maxHeartbeats 4000000 in
/-- foreseen: all steps back -/
theorem ld_22 {d n : Nat} {h0 : xh_H} (hn : 72 ≤ h0.1.length) (n1 : 1 ≤ n) (n7' : n ≤ 7) : ∀ (k : Nat) (h : xh_H), k < n → hk ld_md2 h0 h → (∀ k, k < n → (xg 0 h.2.1 40 k).toInt ≤ 6) → xt_P d xi_X10_leads xmi_X10_leads 99 [(0, .ref 39), (3, .int (nI k))] [] h (ld_Q ld_md2 h0) := by
  intro k
  induction k with
  | zero =>
    intro h hkn hk0 ho
    obtain ⟨t, et, t6⟩ := tp_o (k := 0) hk0.1.1 (hk_n hk0 hn) hkn n7' ho
    have e7 : (7 : Int32) + nI t = nI (7 + t) := nI_add 7 t
    have c1 := a_elx (c := 65) (k := 7 + t) (lo := 0) (hi := 6) hk0.1.1 (hk_n hk0 hn) rfl rfl (by omega)
    have et2 : xg 0 h.2.1 40 (Int32.ofInt 0).toNatClampNeg = nI t := et
    refine xa_tn 219 [] [] [.int (xg 0 h.2.1 65 (7 + (xg 0 h.2.1 40 (Int32.ofInt 0).toNatClampNeg)).toNatClampNeg)] h [true] 13 (hk_q hk0 hn) rfl ⟨by decide, by decide, (show xe_in (7 + (xg 0 h.2.1 40 (Int32.ofInt 0).toNatClampNeg)) 56 = true by rw [et2, e7]; exact xin_n (by omega) (by omega)), trivial⟩ (fun _ => ?_)
    rw [et2, e7, nI_clamp (by omega)]
    exact xp_ret rfl rfl rfl ⟨hk0, _, rfl, by omega, c1.2⟩
  | succ k ih =>
    intro h hkn hk0 ho
    have ki := nI_toInt (n := k + 1) (by omega)
    have z0 : (0 : Int32).toInt = 0 := rfl
    refine xa_tn 106 [0, 3, 4] [(0, .ref 39), (3, .int (nI (k + 1))), (4, .int (Int32.ofInt 0))] [] h [false] 6 (hk_q hk0 hn) rfl ⟨xle_f (by omega), trivial⟩ (fun _ => ?_)
    refine ld_32 hn n7' (by omega) hkn ?_ 7 0 h rfl hk0 ho
    intro h1 hk1 ho1
    rw [nI_dec2]
    exact ih h1 (by omega) hk1 ho1
set_option maxRecDepth 100000 in
set_option maxHeartbeats 4000000 in
/-- foreseen: the last row -/
theorem ld_02 {d n : Nat} {h0 : xh_H} (hn : 72 ≤ h0.1.length) (n1 : 1 ≤ n) (n7' : n ≤ 7) : ∀ (m i : Nat) (h : xh_H), i + m = 7 → hk ld_md2 h0 h → (∀ k, k < n → (xg 0 h.2.1 40 k).toInt ≤ 6) → xt_P d xi_X10_leads xmi_X10_leads 71 [(0, .ref 39), (2, .int (nI n)), (3, .int (nI i))] [] h (ld_Q ld_md2 h0) := by
  intro m
  induction m with
  | zero =>
    intro i h hi hk0 ho
    have e : i = 7 := by omega
    subst e
    refine xa_tn 99 [0, 3] [(0, .ref 39), (3, .int ((nI n) - (Int32.ofInt 1)))] [] h [true] 9 (hk_q hk0 hn) rfl ⟨by decide, trivial⟩ (fun _ => ?_)
    obtain ⟨j, rfl⟩ : ∃ j, n = j + 1 := ⟨n - 1, by omega⟩
    rw [nI_sub1]
    exact ld_22 hn n1 n7' j h (by omega) hk0 ho
  | succ m ih =>
    intro i h hi hk0 ho
    have e1 : nI i + Int32.ofInt 1 = nI (i + 1) := nI_1 i
    have ii := nI_toInt (n := i) (by omega)
    refine xa_tn 71 [0, 2, 3] [(0, .ref 39), (2, .int (nI n)), (3, .int ((nI i) + Int32.ofInt 1))] [] (xh_ui h 65 ((7 * (nI n)) + (nI i)).toNatClampNeg (nI i)) [false] 16 (hk_q hk0 hn) rfl ⟨nge_f (b := 7) (by omega) (by omega) (by omega), (show xe_in ((7 * (nI n)) + (nI i)) 56 = true by rw [n7]; exact xin_n (by omega) (by omega)), trivial⟩ (fun _ => ?_)
    rw [n7, nI_clamp (by omega), e1]
    refine ih (i + 1) _ (by omega) (hk_ui (s := (1, 56)) (lo := 0) (hi := 6) hk0 hn rfl rfl (by omega) (by omega) rfl rfl) (fun k hk' => ?_)
    rw [gx_o (by decide)]
    exact ho k hk'
set_option maxRecDepth 100000 in
set_option maxHeartbeats 8000000 in
theorem l10_rest {d : Nat} {f t : Int32} {h : xh_H} (hn : 72 ≤ h.1.length) (hi : a_inv a_tb h) (t1 : 0 ≤ t.toInt) (t2 : t.toInt ≤ 640) : xt_P (d + 3) xi_X10_leads xmi_X10_leads 9 [(0, .ref 39), (1, .int f)] [.int t] h (ld_Q ld_md2 h) := by
  have hq := a_rq_of hi.1 hn
  refine xa_tn 14 [0, 1, 2] [(0, .ref 39), (1, .int f), (2, .int t)] [.int 7, .int (Int32.ofInt 1), .int t] h [] 6 hq rfl trivial (fun _ => ?_)
  refine xp_intf (C := aC_m_X10_isIn_1_1_7_7) (lo := 0) (hi := 1) (σ := fun _ => 0) as_m_X10_isIn_1_1_7_7 hq hi rfl rfl rfl (Nat.zero_le _) ⟨a_ai t1 t2, a_ai (by decide) (by decide), a_ai (by decide) (by decide), trivial⟩ a_fp0 rfl (fun x h3 x1 x2 xf _ i3 l3 f3 q3 => ?_)
  have hk3 : hk ld_md2 h h3 := hk_c (hk_0 hi) i3 l3 f3 (fun _ z => nomatch z)
  cases c1 : xe_c .eq x 0 with
  | true =>
    refine xa_tn 29 [] [] [.int (Int32.ofInt (-1))] h3 [true] 4 q3 rfl ⟨c1, trivial⟩ (fun _ => ?_)
    exact xp_ret rfl rfl rfl ⟨hk3, _, rfl, by decide, by decide⟩
  | false =>
    have tf : 1 ≤ t.toInt ∧ t.toInt ≤ 7 := xf (of_decide_eq_false c1) _ (List.mem_singleton.mpr rfl)
    obtain ⟨n, rfl, n7', n31⟩ := a_nk (x := t) (m := 7) (by omega) tf.2
    rw [nI_toInt n31] at tf
    have n1 : 1 ≤ n := by omega
    refine xa_tn 22 [0, 1, 2] [(0, .ref 39), (1, .int f), (2, .int (nI n))] [.int (nI n), .ref 39] h3 [false] 5 q3 rfl ⟨c1, trivial⟩ (fun _ => ?_)
    refine xp_run q3 rfl rfl (ao_run (d := d + 2) (n := n) i3.1 q3.1 n7') ?_
    rintro v h4 ⟨rfl, p, rfl, hp⟩
    cases p with
    | false =>
      refine xa_tn 29 [] [] [.int (Int32.ofInt (-1))] h3 [false] 4 q3 rfl ⟨rfl, trivial⟩ (fun _ => ?_)
      exact xp_ret rfl rfl rfl ⟨hk3, _, rfl, by decide, by decide⟩
    | true =>
      refine xa_tn 31 [0, 1, 2] [(0, .ref 39), (1, .int f), (2, .int (nI n))] [.ref 39] h3 [true] 4 q3 rfl ⟨rfl, trivial⟩ (fun _ => ?_)
      refine xp_void (C := aC_m_X10_layOptions) (σ := fun _ => 0) (P := [((39, 35), 2, 4096)]) as_m_X10_layOptions q3 hk3.1 rfl rfl rfl (by show 2 ≤ d + 2; omega) ⟨a_av (by decide) q3.1, trivial⟩ a_fp0 rfl (fun h5 _ i5 l5 f5 q5 => ?_)
      have hk5 : hk ld_md2 h h5 := hk_c hk3 i5 l5 f5 (by decide)
      have ho : ∀ k, k < n → (xg 0 h5.2.1 40 k).toInt ≤ 6 := fun k hk' => by
        rw [fr_g f5 rfl rfl]
        exact hp rfl k hk'
      cases c2 : xe_c .ne f 0 with
      | false =>
        refine xa_tn 40 [0, 2, 3] [(0, .ref 39), (2, .int (nI n)), (3, .int (Int32.ofInt 0))] [] h5 [false] 6 q5 rfl ⟨c2, trivial⟩ (fun _ => ?_)
        exact ld_12 hn n1 n7' n 0 h5 (by omega) hk5 ho
      | true =>
        refine xa_tn 71 [0, 2, 3] [(0, .ref 39), (2, .int (nI n)), (3, .int (Int32.ofInt 0))] [] h5 [true] 6 q5 rfl ⟨c2, trivial⟩ (fun _ => ?_)
        exact ld_02 hn n1 n7' 7 0 h5 rfl hk5 ho
set_option maxRecDepth 100000 in
/-- X10.leads takes the tape -/
theorem l10_run2 {d : Nat} {f : Int32} {h : xh_H} (hn : 72 ≤ h.1.length) (hi : a_inv a_tb h) : xt_P (d + 3) xi_X10_leads xmi_X10_leads 0 [(0, .ref 39), (1, .int f)] [] h (fun v h' => ld_Q ld_md h v h' ∧ xg 0 h'.2.1 39 2 = 0) := by
  refine xa_tn 6 [0, 1] [(0, .ref 39), (1, .int f)] [.ref 39] (xh_ui h 39 0 (Int32.ofInt 0)) [] 6 (a_rq_of hi.1 hn) rfl trivial (fun q1 => ?_)
  have hk1 : hk ld_md h (xh_ui h 39 0 (Int32.ofInt 0)) := hk_ui (s := (0, 10)) (lo := 0) (hi := 1) (hk_0 hi) hn rfl rfl (by decide) (by decide) rfl rfl
  generalize xh_ui h 39 0 (Int32.ofInt 0) = h1 at hk1 q1 ⊢
  have tb := a_flx (c := 39) (k := 2) (lo := 0) (hi := 640) hk1.1.1 (hk_n hk1 hn) rfl rfl (by decide)
  refine xp_run q1 rfl rfl (tk_run (d := d + 2) q1) ?_
  rintro v h2 ⟨rfl, e2⟩
  have hk2 : hk ld_md h h2 := by
    rw [e2]
    exact hk_ui (s := (0, 10)) (lo := 0) (hi := 640) hk1 hn rfl rfl (by decide) (by decide) rfl rfl
  have z2 : xg 0 h2.2.1 39 2 = 0 := by rw [e2]; exact gx_s
  refine xp_mono (l10_rest (d := d) (f := f) (hk_n hk2 hn) hk2.1 tb.1 tb.2) (fun v h' q => ?_)
  exact ⟨⟨hk_t hk2 q.1 (by decide), q.2⟩, (hk_g (c := 39) (k := 2) q.1 rfl rfl).trans z2⟩
end XLT
