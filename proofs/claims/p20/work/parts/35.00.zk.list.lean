section XBZ
theorem a_r_sh {n t q : Nat} (h1 : t < 72) (h2 : t ≠ 11) (h3 : t ≠ 12) (h : a_r n t q) : q = t := by
  by_cases hq : q < 72
  · rw [← h.2, a_tg_lt hq]
  · rcases a_tg_ge hq with e | e
    · exact absurd (h.2.symm.trans e) h2
    · exact absurd (h.2.symm.trans e) h3
set_option maxRecDepth 100000 in
set_option maxHeartbeats 4000000 in
/-- X2.list over cell 15: the first loop -/
theorem li15_1 {d : Nat} {h0 : xh_H} {b : Int32} {Q : Option Value → xh_H → Prop} (hn : 72 ≤ h0.1.length) (K : ∀ h', hw [(15, 0), (18, 0)] h0 h' → (∀ j, j < 14 → (xg 0 h'.2.1 18 j).toInt = 0) → xt_P d xi_X2_list xmi_X2_list 24 [(0, .ref 14), (1, .ref 15), (2, .int b)] [] h' Q) : ∀ (n i : Nat) (h : xh_H), i + n = 14 → hw [(15, 0), (18, 0)] h0 h → (∀ j, j < i → (xg 0 h.2.1 18 j).toInt = 0) → xt_P d xi_X2_list xmi_X2_list 2 [(0, .ref 14), (1, .ref 15), (2, .int b), (3, .int (nI i))] [] h Q := by
  intro n
  induction n with
  | zero =>
    intro i h hi hk0 hz
    have e : i = 14 := by omega
    subst e
    refine xa_tn 24 [0, 1, 2] [(0, .ref 14), (1, .ref 15), (2, .int b)] [] h [true] 7 (hw_q hk0 hn) rfl ⟨by decide, trivial⟩ (fun _ => ?_)
    exact K h hk0 hz
  | succ n ih =>
    intro i h hi hk0 hz
    have e14 : i < 14 := by omega
    refine xa_tn 2 [0, 1, 2, 3] [(0, .ref 14), (1, .ref 15), (2, .int b), (3, .int ((nI i) + Int32.ofInt 1))] [] (xh_ui h 18 (nI i).toNatClampNeg (Int32.ofInt 0)) [false] 14 (hw_q hk0 hn) rfl ⟨nge_f (b := 14) (by omega) (by omega) e14, xin_n e14 (by omega), trivial⟩ (fun _ => ?_)
    rw [nI_clamp (by omega)]
    have e : nI i + Int32.ofInt 1 = nI (i + 1) := nI_1 i
    rw [e]
    refine ih (i + 1) _ (by omega) (hw_ui (s := (1, 14)) (lo := 0) (hi := 1000000) hk0 hn rfl rfl (by decide) (by decide) rfl rfl) ?_
    intro j hj
    by_cases ej : j = i
    · subst ej
      rw [gx_s]
      rfl
    · rw [gx_k ej]
      exact hz j (by omega)
set_option maxRecDepth 100000 in
set_option maxHeartbeats 4000000 in
/-- .. the second -/
theorem li15_2 {d : Nat} {h0 : xh_H} {b : Int32} {Q : Option Value → xh_H → Prop} (hn : 72 ≤ h0.1.length) (hb1 : 0 ≤ b.toInt) (hb2 : b.toInt ≤ 1) (hd : 3 ≤ d) (K : ∀ h', hw [(15, 0), (18, 0)] h0 h' → (∀ j, j < 14 → 0 ≤ (xg 0 h'.2.1 18 j).toInt ∧ (xg 0 h'.2.1 18 j).toInt ≤ 4096) → xt_P d xi_X2_list xmi_X2_list 64 [(0, .ref 14), (1, .ref 15), (2, .int b)] [] h' Q) : ∀ (n s : Nat) (h : xh_H), (s : Int) + n = (xg 0 h0.2.1 14 8).toInt + 1 → hw [(15, 0), (18, 0)] h0 h → (∀ j, j < 14 → 0 ≤ (xg 0 h.2.1 18 j).toInt ∧ (xg 0 h.2.1 18 j).toInt ≤ s) → xt_P d xi_X2_list xmi_X2_list 26 [(0, .ref 14), (1, .ref 15), (2, .int b), (3, .int (nI s))] [] h Q := by
  obtain ⟨d, rfl⟩ : ∃ d', d = d' + 1 := ⟨d - 1, by omega⟩
  intro n
  induction n with
  | zero =>
    intro s h hs hk0 hz
    have ef := hw_g (c := 14) (k := 8) hk0 rfl rfl
    have fb := a_flw (c := 14) (k := 8) (lo := 0) (hi := 4095) hk0.1.1 (hw_n hk0 hn) rfl rfl (by decide)
    rw [ef] at fb
    have es := nI_toInt (n := s) (by omega)
    refine xa_tn 64 [0, 1, 2] [(0, .ref 14), (1, .ref 15), (2, .int b)] [] h [true] 6 (hw_q hk0 hn) rfl ⟨xgt_t (by rw [ef, es]; omega), trivial⟩ (fun _ => ?_)
    refine K h hk0 (fun j hj => ?_)
    have := hz j hj
    omega
  | succ n ih =>
    intro s h hs hk0 hz
    have ef := hw_g (c := 14) (k := 8) hk0 rfl rfl
    have fb := a_flw (c := 14) (k := 8) (lo := 0) (hi := 4095) hk0.1.1 (hw_n hk0 hn) rfl rfl (by decide)
    rw [ef] at fb
    have es := nI_toInt (n := s) (by omega)
    have e : nI s + Int32.ofInt 1 = nI (s + 1) := nI_1 s
    refine xa_tn 37 [0, 1, 2, 3] [(0, .ref 14), (1, .ref 15), (2, .int b), (3, .int (nI s))] [.int b, .int (nI s), .ref 14] h [false] 9 (hw_q hk0 hn) rfl ⟨xgt_f (by rw [ef, es]; omega), trivial⟩ (fun hq => ?_)
    refine xp_int (C := aC_m_X2_isMinimal) (lo := 0) (hi := 1) (σ := fun _ => 0) as_w_X2_isMinimal hq hk0.1 rfl rfl rfl (by show 2 ≤ d; omega) ⟨a_av (by decide) hq.1, a_ai (by omega) (by omega), a_ai hb1 hb2, trivial⟩ a_fp0 rfl (fun x h1 x1 x2 i1 l1 f1 q1 => ?_)
    have hk1 : hw [(15, 0), (18, 0)] h0 h1 := hw_c hk0 i1 l1 f1 (fun _ z => nomatch z)
    have g1 : ∀ j, xg 0 h1.2.1 18 j = xg 0 h.2.1 18 j := fun j => fr_nil f1 rfl
    cases hc : xe_c .eq x 0 with
    | true =>
      refine xa_tn 26 [0, 1, 2, 3] [(0, .ref 14), (1, .ref 15), (2, .int b), (3, .int ((nI s) + Int32.ofInt 1))] [] h1 [true] 5 q1 rfl ⟨hc, trivial⟩ (fun _ => ?_)
      rw [e]
      refine ih (s + 1) h1 (by omega) hk1 (fun j hj => ?_)
      rw [g1]
      have := hz j hj
      omega
    | false =>
      refine xa_tn 48 [0, 1, 2, 3] [(0, .ref 14), (1, .ref 15), (2, .int b), (3, .int (nI s))] [.int (nI s), .ref 18] h1 [false] 6 q1 rfl ⟨hc, trivial⟩ (fun _ => ?_)
      refine xp_int (C := aC_bit) (lo := 0) (hi := 12) (σ := fun _ => 0) as_bit q1 i1 rfl rfl rfl (Nat.zero_le _) ⟨a_ai (by omega) (by omega), trivial⟩ a_fp0 rfl (fun y h2 y1 y2 i2 l2 f2 q2 => ?_)
      have hk2 : hw [(15, 0), (18, 0)] h0 h2 := hw_c hk1 i2 l2 f2 (fun _ z => nomatch z)
      have g2 : ∀ j, xg 0 h2.2.1 18 j = xg 0 h.2.1 18 j := fun j => by rw [← g1]; exact fr_nil f2 rfl
      obtain ⟨k, rfl, hk12, hk31⟩ := a_nk (m := 12) y1 y2
      have ek : nI k + Int32.ofInt 1 = nI (k + 1) := nI_1 k
      have hin : xe_in (nI k + Int32.ofInt 1) 14 = true := by rw [ek]; exact xin_n (by omega) (by omega)
      refine xa_tn 26 [0, 1, 2, 3] [(0, .ref 14), (1, .ref 15), (2, .int b), (3, .int ((nI s) + Int32.ofInt 1))] [] (xh_ui h2 18 (nI k + (Int32.ofInt 1)).toNatClampNeg ((xg 0 h2.2.1 18 (nI k + (Int32.ofInt 1)).toNatClampNeg) + (Int32.ofInt 1))) [] 11 q2 rfl ⟨hin, hin, trivial⟩ (fun _ => ?_)
      rw [e, ek, nI_clamp (by omega), g2]
      have hz1 := hz (k + 1) (by omega)
      have ei := i_inc (x := xg 0 h.2.1 18 (k + 1)) (by omega)
      refine ih (s + 1) _ (by omega) (hw_ui (s := (1, 14)) (lo := 0) (hi := 1000000) hk2 hn rfl rfl (by omega) (by omega) rfl rfl) ?_
      intro j hj
      by_cases ej : j = k + 1
      · subst ej
        rw [gx_s]
        omega
      · rw [gx_k ej, g2]
        have := hz j hj
        omega
set_option maxRecDepth 100000 in
set_option maxHeartbeats 4000000 in
/-- .. the third -/
theorem li15_3 {d : Nat} {h0 : xh_H} {b : Int32} {Q : Option Value → xh_H → Prop} (hn : 72 ≤ h0.1.length) (K : ∀ h', hw [(15, 0), (18, 0)] h0 h' → (∀ j, j < 14 → 0 ≤ (xg 0 h'.2.1 18 j).toInt ∧ (xg 0 h'.2.1 18 j).toInt ≤ 57344) → xt_P d xi_X2_list xmi_X2_list 98 [(0, .ref 14), (1, .ref 15), (2, .int b)] [] h' Q) : ∀ (n i : Nat) (h : xh_H), i + n = 14 → 1 ≤ i → hw [(15, 0), (18, 0)] h0 h → (∀ j, j < i → 0 ≤ (xg 0 h.2.1 18 j).toInt ∧ (xg 0 h.2.1 18 j).toInt ≤ 4096 * ((j : Int) + 1)) → (∀ j, i ≤ j → j < 14 → 0 ≤ (xg 0 h.2.1 18 j).toInt ∧ (xg 0 h.2.1 18 j).toInt ≤ 4096) → xt_P d xi_X2_list xmi_X2_list 66 [(0, .ref 14), (1, .ref 15), (2, .int b), (3, .int (nI i))] [] h Q := by
  intro n
  induction n with
  | zero =>
    intro i h hi h1 hk0 hz hy
    have e : i = 14 := by omega
    subst e
    refine xa_tn 98 [0, 1, 2] [(0, .ref 14), (1, .ref 15), (2, .int b)] [] h [true] 7 (hw_q hk0 hn) rfl ⟨by decide, trivial⟩ (fun _ => ?_)
    refine K h hk0 (fun j hj => ?_)
    have := hz j hj
    omega
  | succ n ih =>
    intro i h hi h1 hk0 hz hy
    have e14 : i < 14 := by omega
    have e : nI i + Int32.ofInt 1 = nI (i + 1) := nI_1 i
    obtain ⟨j0, rfl⟩ : ∃ j0, i = j0 + 1 := ⟨i - 1, by omega⟩
    have e0 : nI (j0 + 1) - Int32.ofInt 1 = nI j0 := by
      rw [show nI (j0 + 1) = nI j0 + Int32.ofInt 1 from (nI_1 j0).symm, Int32.add_sub_cancel]
    have hin := xin_n (k := j0 + 1) (n := 14) e14 (by omega)
    refine xa_tn 66 [0, 1, 2, 3] [(0, .ref 14), (1, .ref 15), (2, .int b), (3, .int ((nI (j0 + 1)) + Int32.ofInt 1))] [] (xh_ui h 18 (nI (j0 + 1)).toNatClampNeg ((xg 0 h.2.1 18 (nI (j0 + 1)).toNatClampNeg) + (xg 0 h.2.1 18 ((nI (j0 + 1)) - (Int32.ofInt 1)).toNatClampNeg))) [false] 22 (hw_q hk0 hn) rfl ⟨nge_f (b := 14) (by omega) (by omega) e14, hin, by rw [e0]; exact xin_n (by omega) (by omega), hin, trivial⟩ (fun _ => ?_)
    rw [e0, nI_clamp (by omega), nI_clamp (by omega), e]
    have z1 := hz j0 (by omega)
    have z2 := hy (j0 + 1) (Nat.le_refl _) e14
    have ea := i_add (x := xg 0 h.2.1 18 (j0 + 1)) (y := xg 0 h.2.1 18 j0) (by omega) (by omega)
    refine ih (j0 + 1 + 1) _ (by omega) (by omega) (hw_ui (s := (1, 14)) (lo := 0) (hi := 1000000) hk0 hn rfl rfl (by omega) (by omega) rfl rfl) ?_ ?_
    · intro j hj
      by_cases ej : j = j0 + 1
      · subst ej
        rw [gx_s]
        omega
      · rw [gx_k ej]
        exact hz j (by omega)
    · intro j hj1 hj2
      rw [gx_k (by omega)]
      exact hy j (by omega) hj2
set_option maxRecDepth 100000 in
set_option maxHeartbeats 4000000 in
/-- .. the last -/
theorem li15_4 {d : Nat} {h0 : xh_H} {b : Int32} {Q : Option Value → xh_H → Prop} (hn : 72 ≤ h0.1.length) (hb1 : 0 ≤ b.toInt) (hb2 : b.toInt ≤ 1) (hd : 3 ≤ d) (K : ∀ h' (f : Int32), hw [(15, 0), (18, 0)] h0 h' → xt_P d xi_X2_list xmi_X2_list 164 [] [.int 924, .int f] h' Q) : ∀ (n s : Nat) (f : Int32) (h : xh_H), (s : Int) + n = (xg 0 h0.2.1 14 8).toInt + 1 → hw [(15, 0), (18, 0)] h0 h → (∀ j, j < 14 → 0 ≤ (xg 0 h.2.1 18 j).toInt ∧ (xg 0 h.2.1 18 j).toInt ≤ 57344 + s) → xt_P d xi_X2_list xmi_X2_list 103 [(0, .ref 14), (1, .ref 15), (2, .int b), (3, .int f), (4, .int (nI s))] [] h Q := by
  obtain ⟨d, rfl⟩ : ∃ d', d = d' + 1 := ⟨d - 1, by omega⟩
  intro n
  induction n with
  | zero =>
    intro s f h hs hk0 hz
    have ef := hw_g (c := 14) (k := 8) hk0 rfl rfl
    have fb := a_flw (c := 14) (k := 8) (lo := 0) (hi := 4095) hk0.1.1 (hw_n hk0 hn) rfl rfl (by decide)
    rw [ef] at fb
    have es := nI_toInt (n := s) (by omega)
    refine xa_tn 164 [] [] [.int 924, .int f] h [true] 9 (hw_q hk0 hn) rfl ⟨xgt_t (by rw [ef, es]; omega), trivial⟩ (fun _ => ?_)
    exact K h f hk0
  | succ n ih =>
    intro s f h hs hk0 hz
    have ef := hw_g (c := 14) (k := 8) hk0 rfl rfl
    have fb := a_flw (c := 14) (k := 8) (lo := 0) (hi := 4095) hk0.1.1 (hw_n hk0 hn) rfl rfl (by decide)
    rw [ef] at fb
    have es := nI_toInt (n := s) (by omega)
    have e : nI s + Int32.ofInt 1 = nI (s + 1) := nI_1 s
    refine xa_tn 116 [0, 1, 2, 3, 4] [(0, .ref 14), (1, .ref 15), (2, .int b), (3, .int f), (4, .int (nI s))] [.int b, .int (nI s), .ref 14] h [false] 9 (hw_q hk0 hn) rfl ⟨xgt_f (by rw [ef, es]; omega), trivial⟩ (fun hq => ?_)
    refine xp_int (C := aC_m_X2_isMinimal) (lo := 0) (hi := 1) (σ := fun _ => 0) as_w_X2_isMinimal hq hk0.1 rfl rfl rfl (by show 2 ≤ d; omega) ⟨a_av (by decide) hq.1, a_ai (by omega) (by omega), a_ai hb1 hb2, trivial⟩ a_fp0 rfl (fun x h1 x1 x2 i1 l1 f1 q1 => ?_)
    have hk1 : hw [(15, 0), (18, 0)] h0 h1 := hw_c hk0 i1 l1 f1 (fun _ z => nomatch z)
    have g1 : ∀ j, xg 0 h1.2.1 18 j = xg 0 h.2.1 18 j := fun j => fr_nil f1 rfl
    cases hc : xe_c .eq x 0 with
    | true =>
      refine xa_tn 103 [0, 1, 2, 3, 4] [(0, .ref 14), (1, .ref 15), (2, .int b), (3, .int f), (4, .int ((nI s) + Int32.ofInt 1))] [] h1 [true] 5 q1 rfl ⟨hc, trivial⟩ (fun _ => ?_)
      rw [e]
      refine ih (s + 1) f h1 (by omega) hk1 (fun j hj => ?_)
      rw [g1]
      have := hz j hj
      omega
    | false =>
      refine xa_tn 128 [0, 1, 2, 3, 4] [(0, .ref 14), (1, .ref 15), (2, .int b), (3, .int f), (4, .int (nI s))] [.int (nI s), .ref 18] h1 [false] 6 q1 rfl ⟨hc, trivial⟩ (fun _ => ?_)
      refine xp_int (C := aC_bit) (lo := 0) (hi := 12) (σ := fun _ => 0) as_bit q1 i1 rfl rfl rfl (Nat.zero_le _) ⟨a_ai (by omega) (by omega), trivial⟩ a_fp0 rfl (fun y h2 y1 y2 i2 l2 f2 q2 => ?_)
      have hk2 : hw [(15, 0), (18, 0)] h0 h2 := hw_c hk1 i2 l2 f2 (fun _ z => nomatch z)
      have g2 : ∀ j, xg 0 h2.2.1 18 j = xg 0 h.2.1 18 j := fun j => by rw [← g1]; exact fr_nil f2 rfl
      obtain ⟨k, rfl, hk12, hk31⟩ := a_nk (m := 12) y1 y2
      have hin : xe_in (nI k) 14 = true := xin_n (by omega) (by omega)
      have ecl : (nI k).toNatClampNeg = k := nI_clamp hk31
      have hz1 := hz k (by omega)
      have ei := i_inc (x := xg 0 h.2.1 18 k) (by omega)
      have hk3 : hw [(15, 0), (18, 0)] h0 (xh_ui h2 18 k (xg 0 h.2.1 18 k + Int32.ofInt 1)) := hw_ui (s := (1, 14)) (lo := 0) (hi := 1000000) hk2 hn rfl rfl (by omega) (by omega) rfl rfl
      have hz3 : ∀ j, j < 14 → 0 ≤ (xg 0 (xh_ui h2 18 k (xg 0 h.2.1 18 k + Int32.ofInt 1)).2.1 18 j).toInt ∧ (xg 0 (xh_ui h2 18 k (xg 0 h.2.1 18 k + Int32.ofInt 1)).2.1 18 j).toInt ≤ 57344 + ((s + 1 : Nat) : Int) := by
        intro j hj
        by_cases ej : j = k
        · subst ej
          rw [gx_s]
          omega
        · rw [gx_k ej, g2]
          have := hz j hj
          omega
      cases hp : xe_c .ge (xg 0 h.2.1 18 k) 924 with
      | true =>
        refine xa_tn 103 [0, 1, 2, 3, 4] [(0, .ref 14), (1, .ref 15), (2, .int b), (3, .int (f + Int32.ofInt 1)), (4, .int ((nI s) + Int32.ofInt 1))] [] (xh_ui h2 18 (nI k).toNatClampNeg ((xg 0 h2.2.1 18 (nI k).toNatClampNeg) + (Int32.ofInt 1))) [true] 16 q2 rfl ⟨hin, hin, by rw [ecl, g2]; exact hp, trivial⟩ (fun _ => ?_)
        rw [e, ecl, g2]
        exact ih (s + 1) _ _ (by omega) hk3 hz3
      | false =>
        have hp2 : (xg 0 h.2.1 18 k).toInt < 924 := by
          have := a_ce (a_neg_ok hp)
          exact this
        obtain ⟨pl, epl, pl1, pl2⟩ := a_nk (x := xg 0 h.2.1 18 k) (m := 923) hz1.1 (by omega)
        refine xa_tn 103 [0, 1, 2, 3, 4] [(0, .ref 14), (1, .ref 15), (2, .int b), (3, .int (f + Int32.ofInt 1)), (4, .int ((nI s) + Int32.ofInt 1))] [] (xh_ui (xh_ui h2 18 (nI k).toNatClampNeg ((xg 0 h2.2.1 18 (nI k).toNatClampNeg) + (Int32.ofInt 1))) 15 (xg 0 h2.2.1 18 (nI k).toNatClampNeg).toNatClampNeg (nI s)) [false] 20 q2 rfl ⟨hin, hin, by rw [ecl, g2]; exact hp, by rw [ecl, g2, epl]; exact xin_n (by omega) pl2, trivial⟩ (fun _ => ?_)
        rw [e, ecl, g2]
        refine ih (s + 1) _ _ (by omega) (hw_ui (s := (1, 924)) (lo := 0) (hi := 4095) hk3 hn rfl rfl (by omega) (by omega) rfl rfl) ?_
        intro j hj
        rw [gx_o (by decide)]
        exact hz3 j hj
set_option maxRecDepth 100000 in
set_option maxHeartbeats 4000000 in
theorem li15_all {d : Nat} {h : xh_H} {b : Int32} (hi : a_inv a_tb2 h) (hn : 72 ≤ h.1.length) (hb1 : 0 ≤ b.toInt) (hb2 : b.toInt ≤ 1) (hd : 3 ≤ d) : xt_P d xi_X2_list xmi_X2_list 0 [(0, .ref 14), (1, .ref 15), (2, .int b)] [] h (fun v h' => hw [(15, 0), (18, 0)] h h' ∧ ∃ x : Int32, v = some (.int x) ∧ x.toInt ≤ 924) := by
  have fb := a_flw (c := 14) (k := 8) (lo := 0) (hi := 4095) hi.1 hn rfl rfl (by decide)
  refine xa_tn 2 [0, 1, 2, 3] [(0, .ref 14), (1, .ref 15), (2, .int b), (3, .int (Int32.ofInt 0))] [] h [] 4 (a_rq_of hi.1 hn) rfl trivial (fun _ => ?_)
  refine li15_1 hn ?_ 14 0 h rfl (hw_0 hi) (fun j hj => absurd hj (Nat.not_lt_zero j))
  intro h1 k1 z1
  refine xa_tn 26 [0, 1, 2, 3] [(0, .ref 14), (1, .ref 15), (2, .int b), (3, .int (Int32.ofInt 0))] [] h1 [] 4 (hw_q k1 hn) rfl trivial (fun _ => ?_)
  refine li15_2 hn hb1 hb2 hd ?_ ((xg 0 h.2.1 14 8).toInt.toNat + 1) 0 h1 (by omega) k1 (fun j hj => by have := z1 j hj; omega)
  intro h2 k2 z2
  refine xa_tn 66 [0, 1, 2, 3] [(0, .ref 14), (1, .ref 15), (2, .int b), (3, .int (Int32.ofInt 1))] [] h2 [] 4 (hw_q k2 hn) rfl trivial (fun _ => ?_)
  refine li15_3 hn ?_ 13 1 h2 rfl (Nat.le_refl _) k2 (fun j hj => by have := z2 j (by omega); omega) (fun j h1 hj => z2 j hj)
  intro h3 k3 z3
  refine xa_tn 103 [0, 1, 2, 3, 4] [(0, .ref 14), (1, .ref 15), (2, .int b), (3, .int (Int32.ofInt 0)), (4, .int (Int32.ofInt 0))] [] h3 [] 6 (hw_q k3 hn) rfl trivial (fun _ => ?_)
  refine li15_4 hn hb1 hb2 hd ?_ ((xg 0 h.2.1 14 8).toInt.toNat + 1) 0 (Int32.ofInt 0) h3 (by omega) k3 (fun j hj => by have := z3 j hj; omega)
  intro h4 f k4
  obtain ⟨d, rfl⟩ : ∃ d', d = d' + 1 := ⟨d - 1, by omega⟩
  refine xp_step (pc1 := 167) (lv1 := []) (st1 := [.int (if (924 : Int32) < f then 924 else f)]) (h1 := h4) rfl rfl rfl ?_
  refine xp_ret rfl rfl rfl ⟨k4, _, rfl, ?_⟩
  split
  · exact Int.le_refl _
  · rename_i hlt
    rw [Int32.lt_iff_toInt_lt] at hlt
    have : (924 : Int32).toInt = 924 := rfl
    omega
set_option maxRecDepth 100000 in
set_option maxHeartbeats 4000000 in
/-- X2.list over cell 16: the first loop -/
theorem li16_1 {d : Nat} {h0 : xh_H} {b : Int32} {Q : Option Value → xh_H → Prop} (hn : 72 ≤ h0.1.length) (K : ∀ h', hw [(16, 0), (18, 0)] h0 h' → (∀ j, j < 14 → (xg 0 h'.2.1 18 j).toInt = 0) → xt_P d xi_X2_list xmi_X2_list 24 [(0, .ref 14), (1, .ref 16), (2, .int b)] [] h' Q) : ∀ (n i : Nat) (h : xh_H), i + n = 14 → hw [(16, 0), (18, 0)] h0 h → (∀ j, j < i → (xg 0 h.2.1 18 j).toInt = 0) → xt_P d xi_X2_list xmi_X2_list 2 [(0, .ref 14), (1, .ref 16), (2, .int b), (3, .int (nI i))] [] h Q := by
  intro n
  induction n with
  | zero =>
    intro i h hi hk0 hz
    have e : i = 14 := by omega
    subst e
    refine xa_tn 24 [0, 1, 2] [(0, .ref 14), (1, .ref 16), (2, .int b)] [] h [true] 7 (hw_q hk0 hn) rfl ⟨by decide, trivial⟩ (fun _ => ?_)
    exact K h hk0 hz
  | succ n ih =>
    intro i h hi hk0 hz
    have e14 : i < 14 := by omega
    refine xa_tn 2 [0, 1, 2, 3] [(0, .ref 14), (1, .ref 16), (2, .int b), (3, .int ((nI i) + Int32.ofInt 1))] [] (xh_ui h 18 (nI i).toNatClampNeg (Int32.ofInt 0)) [false] 14 (hw_q hk0 hn) rfl ⟨nge_f (b := 14) (by omega) (by omega) e14, xin_n e14 (by omega), trivial⟩ (fun _ => ?_)
    rw [nI_clamp (by omega)]
    have e : nI i + Int32.ofInt 1 = nI (i + 1) := nI_1 i
    rw [e]
    refine ih (i + 1) _ (by omega) (hw_ui (s := (1, 14)) (lo := 0) (hi := 1000000) hk0 hn rfl rfl (by decide) (by decide) rfl rfl) ?_
    intro j hj
    by_cases ej : j = i
    · subst ej
      rw [gx_s]
      rfl
    · rw [gx_k ej]
      exact hz j (by omega)
set_option maxRecDepth 100000 in
set_option maxHeartbeats 4000000 in
/-- .. the second -/
theorem li16_2 {d : Nat} {h0 : xh_H} {b : Int32} {Q : Option Value → xh_H → Prop} (hn : 72 ≤ h0.1.length) (hb1 : 0 ≤ b.toInt) (hb2 : b.toInt ≤ 1) (hd : 3 ≤ d) (K : ∀ h', hw [(16, 0), (18, 0)] h0 h' → (∀ j, j < 14 → 0 ≤ (xg 0 h'.2.1 18 j).toInt ∧ (xg 0 h'.2.1 18 j).toInt ≤ 4096) → xt_P d xi_X2_list xmi_X2_list 64 [(0, .ref 14), (1, .ref 16), (2, .int b)] [] h' Q) : ∀ (n s : Nat) (h : xh_H), (s : Int) + n = (xg 0 h0.2.1 14 8).toInt + 1 → hw [(16, 0), (18, 0)] h0 h → (∀ j, j < 14 → 0 ≤ (xg 0 h.2.1 18 j).toInt ∧ (xg 0 h.2.1 18 j).toInt ≤ s) → xt_P d xi_X2_list xmi_X2_list 26 [(0, .ref 14), (1, .ref 16), (2, .int b), (3, .int (nI s))] [] h Q := by
  obtain ⟨d, rfl⟩ : ∃ d', d = d' + 1 := ⟨d - 1, by omega⟩
  intro n
  induction n with
  | zero =>
    intro s h hs hk0 hz
    have ef := hw_g (c := 14) (k := 8) hk0 rfl rfl
    have fb := a_flw (c := 14) (k := 8) (lo := 0) (hi := 4095) hk0.1.1 (hw_n hk0 hn) rfl rfl (by decide)
    rw [ef] at fb
    have es := nI_toInt (n := s) (by omega)
    refine xa_tn 64 [0, 1, 2] [(0, .ref 14), (1, .ref 16), (2, .int b)] [] h [true] 6 (hw_q hk0 hn) rfl ⟨xgt_t (by rw [ef, es]; omega), trivial⟩ (fun _ => ?_)
    refine K h hk0 (fun j hj => ?_)
    have := hz j hj
    omega
  | succ n ih =>
    intro s h hs hk0 hz
    have ef := hw_g (c := 14) (k := 8) hk0 rfl rfl
    have fb := a_flw (c := 14) (k := 8) (lo := 0) (hi := 4095) hk0.1.1 (hw_n hk0 hn) rfl rfl (by decide)
    rw [ef] at fb
    have es := nI_toInt (n := s) (by omega)
    have e : nI s + Int32.ofInt 1 = nI (s + 1) := nI_1 s
    refine xa_tn 37 [0, 1, 2, 3] [(0, .ref 14), (1, .ref 16), (2, .int b), (3, .int (nI s))] [.int b, .int (nI s), .ref 14] h [false] 9 (hw_q hk0 hn) rfl ⟨xgt_f (by rw [ef, es]; omega), trivial⟩ (fun hq => ?_)
    refine xp_int (C := aC_m_X2_isMinimal) (lo := 0) (hi := 1) (σ := fun _ => 0) as_w_X2_isMinimal hq hk0.1 rfl rfl rfl (by show 2 ≤ d; omega) ⟨a_av (by decide) hq.1, a_ai (by omega) (by omega), a_ai hb1 hb2, trivial⟩ a_fp0 rfl (fun x h1 x1 x2 i1 l1 f1 q1 => ?_)
    have hk1 : hw [(16, 0), (18, 0)] h0 h1 := hw_c hk0 i1 l1 f1 (fun _ z => nomatch z)
    have g1 : ∀ j, xg 0 h1.2.1 18 j = xg 0 h.2.1 18 j := fun j => fr_nil f1 rfl
    cases hc : xe_c .eq x 0 with
    | true =>
      refine xa_tn 26 [0, 1, 2, 3] [(0, .ref 14), (1, .ref 16), (2, .int b), (3, .int ((nI s) + Int32.ofInt 1))] [] h1 [true] 5 q1 rfl ⟨hc, trivial⟩ (fun _ => ?_)
      rw [e]
      refine ih (s + 1) h1 (by omega) hk1 (fun j hj => ?_)
      rw [g1]
      have := hz j hj
      omega
    | false =>
      refine xa_tn 48 [0, 1, 2, 3] [(0, .ref 14), (1, .ref 16), (2, .int b), (3, .int (nI s))] [.int (nI s), .ref 18] h1 [false] 6 q1 rfl ⟨hc, trivial⟩ (fun _ => ?_)
      refine xp_int (C := aC_bit) (lo := 0) (hi := 12) (σ := fun _ => 0) as_bit q1 i1 rfl rfl rfl (Nat.zero_le _) ⟨a_ai (by omega) (by omega), trivial⟩ a_fp0 rfl (fun y h2 y1 y2 i2 l2 f2 q2 => ?_)
      have hk2 : hw [(16, 0), (18, 0)] h0 h2 := hw_c hk1 i2 l2 f2 (fun _ z => nomatch z)
      have g2 : ∀ j, xg 0 h2.2.1 18 j = xg 0 h.2.1 18 j := fun j => by rw [← g1]; exact fr_nil f2 rfl
      obtain ⟨k, rfl, hk12, hk31⟩ := a_nk (m := 12) y1 y2
      have ek : nI k + Int32.ofInt 1 = nI (k + 1) := nI_1 k
      have hin : xe_in (nI k + Int32.ofInt 1) 14 = true := by rw [ek]; exact xin_n (by omega) (by omega)
      refine xa_tn 26 [0, 1, 2, 3] [(0, .ref 14), (1, .ref 16), (2, .int b), (3, .int ((nI s) + Int32.ofInt 1))] [] (xh_ui h2 18 (nI k + (Int32.ofInt 1)).toNatClampNeg ((xg 0 h2.2.1 18 (nI k + (Int32.ofInt 1)).toNatClampNeg) + (Int32.ofInt 1))) [] 11 q2 rfl ⟨hin, hin, trivial⟩ (fun _ => ?_)
      rw [e, ek, nI_clamp (by omega), g2]
      have hz1 := hz (k + 1) (by omega)
      have ei := i_inc (x := xg 0 h.2.1 18 (k + 1)) (by omega)
      refine ih (s + 1) _ (by omega) (hw_ui (s := (1, 14)) (lo := 0) (hi := 1000000) hk2 hn rfl rfl (by omega) (by omega) rfl rfl) ?_
      intro j hj
      by_cases ej : j = k + 1
      · subst ej
        rw [gx_s]
        omega
      · rw [gx_k ej, g2]
        have := hz j hj
        omega
set_option maxRecDepth 100000 in
set_option maxHeartbeats 4000000 in
/-- .. the third -/
theorem li16_3 {d : Nat} {h0 : xh_H} {b : Int32} {Q : Option Value → xh_H → Prop} (hn : 72 ≤ h0.1.length) (K : ∀ h', hw [(16, 0), (18, 0)] h0 h' → (∀ j, j < 14 → 0 ≤ (xg 0 h'.2.1 18 j).toInt ∧ (xg 0 h'.2.1 18 j).toInt ≤ 57344) → xt_P d xi_X2_list xmi_X2_list 98 [(0, .ref 14), (1, .ref 16), (2, .int b)] [] h' Q) : ∀ (n i : Nat) (h : xh_H), i + n = 14 → 1 ≤ i → hw [(16, 0), (18, 0)] h0 h → (∀ j, j < i → 0 ≤ (xg 0 h.2.1 18 j).toInt ∧ (xg 0 h.2.1 18 j).toInt ≤ 4096 * ((j : Int) + 1)) → (∀ j, i ≤ j → j < 14 → 0 ≤ (xg 0 h.2.1 18 j).toInt ∧ (xg 0 h.2.1 18 j).toInt ≤ 4096) → xt_P d xi_X2_list xmi_X2_list 66 [(0, .ref 14), (1, .ref 16), (2, .int b), (3, .int (nI i))] [] h Q := by
  intro n
  induction n with
  | zero =>
    intro i h hi h1 hk0 hz hy
    have e : i = 14 := by omega
    subst e
    refine xa_tn 98 [0, 1, 2] [(0, .ref 14), (1, .ref 16), (2, .int b)] [] h [true] 7 (hw_q hk0 hn) rfl ⟨by decide, trivial⟩ (fun _ => ?_)
    refine K h hk0 (fun j hj => ?_)
    have := hz j hj
    omega
  | succ n ih =>
    intro i h hi h1 hk0 hz hy
    have e14 : i < 14 := by omega
    have e : nI i + Int32.ofInt 1 = nI (i + 1) := nI_1 i
    obtain ⟨j0, rfl⟩ : ∃ j0, i = j0 + 1 := ⟨i - 1, by omega⟩
    have e0 : nI (j0 + 1) - Int32.ofInt 1 = nI j0 := by
      rw [show nI (j0 + 1) = nI j0 + Int32.ofInt 1 from (nI_1 j0).symm, Int32.add_sub_cancel]
    have hin := xin_n (k := j0 + 1) (n := 14) e14 (by omega)
    refine xa_tn 66 [0, 1, 2, 3] [(0, .ref 14), (1, .ref 16), (2, .int b), (3, .int ((nI (j0 + 1)) + Int32.ofInt 1))] [] (xh_ui h 18 (nI (j0 + 1)).toNatClampNeg ((xg 0 h.2.1 18 (nI (j0 + 1)).toNatClampNeg) + (xg 0 h.2.1 18 ((nI (j0 + 1)) - (Int32.ofInt 1)).toNatClampNeg))) [false] 22 (hw_q hk0 hn) rfl ⟨nge_f (b := 14) (by omega) (by omega) e14, hin, by rw [e0]; exact xin_n (by omega) (by omega), hin, trivial⟩ (fun _ => ?_)
    rw [e0, nI_clamp (by omega), nI_clamp (by omega), e]
    have z1 := hz j0 (by omega)
    have z2 := hy (j0 + 1) (Nat.le_refl _) e14
    have ea := i_add (x := xg 0 h.2.1 18 (j0 + 1)) (y := xg 0 h.2.1 18 j0) (by omega) (by omega)
    refine ih (j0 + 1 + 1) _ (by omega) (by omega) (hw_ui (s := (1, 14)) (lo := 0) (hi := 1000000) hk0 hn rfl rfl (by omega) (by omega) rfl rfl) ?_ ?_
    · intro j hj
      by_cases ej : j = j0 + 1
      · subst ej
        rw [gx_s]
        omega
      · rw [gx_k ej]
        exact hz j (by omega)
    · intro j hj1 hj2
      rw [gx_k (by omega)]
      exact hy j (by omega) hj2
set_option maxRecDepth 100000 in
set_option maxHeartbeats 4000000 in
/-- .. the last -/
theorem li16_4 {d : Nat} {h0 : xh_H} {b : Int32} {Q : Option Value → xh_H → Prop} (hn : 72 ≤ h0.1.length) (hb1 : 0 ≤ b.toInt) (hb2 : b.toInt ≤ 1) (hd : 3 ≤ d) (K : ∀ h' (f : Int32), hw [(16, 0), (18, 0)] h0 h' → xt_P d xi_X2_list xmi_X2_list 164 [] [.int 924, .int f] h' Q) : ∀ (n s : Nat) (f : Int32) (h : xh_H), (s : Int) + n = (xg 0 h0.2.1 14 8).toInt + 1 → hw [(16, 0), (18, 0)] h0 h → (∀ j, j < 14 → 0 ≤ (xg 0 h.2.1 18 j).toInt ∧ (xg 0 h.2.1 18 j).toInt ≤ 57344 + s) → xt_P d xi_X2_list xmi_X2_list 103 [(0, .ref 14), (1, .ref 16), (2, .int b), (3, .int f), (4, .int (nI s))] [] h Q := by
  obtain ⟨d, rfl⟩ : ∃ d', d = d' + 1 := ⟨d - 1, by omega⟩
  intro n
  induction n with
  | zero =>
    intro s f h hs hk0 hz
    have ef := hw_g (c := 14) (k := 8) hk0 rfl rfl
    have fb := a_flw (c := 14) (k := 8) (lo := 0) (hi := 4095) hk0.1.1 (hw_n hk0 hn) rfl rfl (by decide)
    rw [ef] at fb
    have es := nI_toInt (n := s) (by omega)
    refine xa_tn 164 [] [] [.int 924, .int f] h [true] 9 (hw_q hk0 hn) rfl ⟨xgt_t (by rw [ef, es]; omega), trivial⟩ (fun _ => ?_)
    exact K h f hk0
  | succ n ih =>
    intro s f h hs hk0 hz
    have ef := hw_g (c := 14) (k := 8) hk0 rfl rfl
    have fb := a_flw (c := 14) (k := 8) (lo := 0) (hi := 4095) hk0.1.1 (hw_n hk0 hn) rfl rfl (by decide)
    rw [ef] at fb
    have es := nI_toInt (n := s) (by omega)
    have e : nI s + Int32.ofInt 1 = nI (s + 1) := nI_1 s
    refine xa_tn 116 [0, 1, 2, 3, 4] [(0, .ref 14), (1, .ref 16), (2, .int b), (3, .int f), (4, .int (nI s))] [.int b, .int (nI s), .ref 14] h [false] 9 (hw_q hk0 hn) rfl ⟨xgt_f (by rw [ef, es]; omega), trivial⟩ (fun hq => ?_)
    refine xp_int (C := aC_m_X2_isMinimal) (lo := 0) (hi := 1) (σ := fun _ => 0) as_w_X2_isMinimal hq hk0.1 rfl rfl rfl (by show 2 ≤ d; omega) ⟨a_av (by decide) hq.1, a_ai (by omega) (by omega), a_ai hb1 hb2, trivial⟩ a_fp0 rfl (fun x h1 x1 x2 i1 l1 f1 q1 => ?_)
    have hk1 : hw [(16, 0), (18, 0)] h0 h1 := hw_c hk0 i1 l1 f1 (fun _ z => nomatch z)
    have g1 : ∀ j, xg 0 h1.2.1 18 j = xg 0 h.2.1 18 j := fun j => fr_nil f1 rfl
    cases hc : xe_c .eq x 0 with
    | true =>
      refine xa_tn 103 [0, 1, 2, 3, 4] [(0, .ref 14), (1, .ref 16), (2, .int b), (3, .int f), (4, .int ((nI s) + Int32.ofInt 1))] [] h1 [true] 5 q1 rfl ⟨hc, trivial⟩ (fun _ => ?_)
      rw [e]
      refine ih (s + 1) f h1 (by omega) hk1 (fun j hj => ?_)
      rw [g1]
      have := hz j hj
      omega
    | false =>
      refine xa_tn 128 [0, 1, 2, 3, 4] [(0, .ref 14), (1, .ref 16), (2, .int b), (3, .int f), (4, .int (nI s))] [.int (nI s), .ref 18] h1 [false] 6 q1 rfl ⟨hc, trivial⟩ (fun _ => ?_)
      refine xp_int (C := aC_bit) (lo := 0) (hi := 12) (σ := fun _ => 0) as_bit q1 i1 rfl rfl rfl (Nat.zero_le _) ⟨a_ai (by omega) (by omega), trivial⟩ a_fp0 rfl (fun y h2 y1 y2 i2 l2 f2 q2 => ?_)
      have hk2 : hw [(16, 0), (18, 0)] h0 h2 := hw_c hk1 i2 l2 f2 (fun _ z => nomatch z)
      have g2 : ∀ j, xg 0 h2.2.1 18 j = xg 0 h.2.1 18 j := fun j => by rw [← g1]; exact fr_nil f2 rfl
      obtain ⟨k, rfl, hk12, hk31⟩ := a_nk (m := 12) y1 y2
      have hin : xe_in (nI k) 14 = true := xin_n (by omega) (by omega)
      have ecl : (nI k).toNatClampNeg = k := nI_clamp hk31
      have hz1 := hz k (by omega)
      have ei := i_inc (x := xg 0 h.2.1 18 k) (by omega)
      have hk3 : hw [(16, 0), (18, 0)] h0 (xh_ui h2 18 k (xg 0 h.2.1 18 k + Int32.ofInt 1)) := hw_ui (s := (1, 14)) (lo := 0) (hi := 1000000) hk2 hn rfl rfl (by omega) (by omega) rfl rfl
      have hz3 : ∀ j, j < 14 → 0 ≤ (xg 0 (xh_ui h2 18 k (xg 0 h.2.1 18 k + Int32.ofInt 1)).2.1 18 j).toInt ∧ (xg 0 (xh_ui h2 18 k (xg 0 h.2.1 18 k + Int32.ofInt 1)).2.1 18 j).toInt ≤ 57344 + ((s + 1 : Nat) : Int) := by
        intro j hj
        by_cases ej : j = k
        · subst ej
          rw [gx_s]
          omega
        · rw [gx_k ej, g2]
          have := hz j hj
          omega
      cases hp : xe_c .ge (xg 0 h.2.1 18 k) 924 with
      | true =>
        refine xa_tn 103 [0, 1, 2, 3, 4] [(0, .ref 14), (1, .ref 16), (2, .int b), (3, .int (f + Int32.ofInt 1)), (4, .int ((nI s) + Int32.ofInt 1))] [] (xh_ui h2 18 (nI k).toNatClampNeg ((xg 0 h2.2.1 18 (nI k).toNatClampNeg) + (Int32.ofInt 1))) [true] 16 q2 rfl ⟨hin, hin, by rw [ecl, g2]; exact hp, trivial⟩ (fun _ => ?_)
        rw [e, ecl, g2]
        exact ih (s + 1) _ _ (by omega) hk3 hz3
      | false =>
        have hp2 : (xg 0 h.2.1 18 k).toInt < 924 := by
          have := a_ce (a_neg_ok hp)
          exact this
        obtain ⟨pl, epl, pl1, pl2⟩ := a_nk (x := xg 0 h.2.1 18 k) (m := 923) hz1.1 (by omega)
        refine xa_tn 103 [0, 1, 2, 3, 4] [(0, .ref 14), (1, .ref 16), (2, .int b), (3, .int (f + Int32.ofInt 1)), (4, .int ((nI s) + Int32.ofInt 1))] [] (xh_ui (xh_ui h2 18 (nI k).toNatClampNeg ((xg 0 h2.2.1 18 (nI k).toNatClampNeg) + (Int32.ofInt 1))) 16 (xg 0 h2.2.1 18 (nI k).toNatClampNeg).toNatClampNeg (nI s)) [false] 20 q2 rfl ⟨hin, hin, by rw [ecl, g2]; exact hp, by rw [ecl, g2, epl]; exact xin_n (by omega) pl2, trivial⟩ (fun _ => ?_)
        rw [e, ecl, g2]
        refine ih (s + 1) _ _ (by omega) (hw_ui (s := (1, 924)) (lo := 0) (hi := 4095) hk3 hn rfl rfl (by omega) (by omega) rfl rfl) ?_
        intro j hj
        rw [gx_o (by decide)]
        exact hz3 j hj
set_option maxRecDepth 100000 in
set_option maxHeartbeats 4000000 in
theorem li16_all {d : Nat} {h : xh_H} {b : Int32} (hi : a_inv a_tb2 h) (hn : 72 ≤ h.1.length) (hb1 : 0 ≤ b.toInt) (hb2 : b.toInt ≤ 1) (hd : 3 ≤ d) : xt_P d xi_X2_list xmi_X2_list 0 [(0, .ref 14), (1, .ref 16), (2, .int b)] [] h (fun v h' => hw [(16, 0), (18, 0)] h h' ∧ ∃ x : Int32, v = some (.int x) ∧ x.toInt ≤ 924) := by
  have fb := a_flw (c := 14) (k := 8) (lo := 0) (hi := 4095) hi.1 hn rfl rfl (by decide)
  refine xa_tn 2 [0, 1, 2, 3] [(0, .ref 14), (1, .ref 16), (2, .int b), (3, .int (Int32.ofInt 0))] [] h [] 4 (a_rq_of hi.1 hn) rfl trivial (fun _ => ?_)
  refine li16_1 hn ?_ 14 0 h rfl (hw_0 hi) (fun j hj => absurd hj (Nat.not_lt_zero j))
  intro h1 k1 z1
  refine xa_tn 26 [0, 1, 2, 3] [(0, .ref 14), (1, .ref 16), (2, .int b), (3, .int (Int32.ofInt 0))] [] h1 [] 4 (hw_q k1 hn) rfl trivial (fun _ => ?_)
  refine li16_2 hn hb1 hb2 hd ?_ ((xg 0 h.2.1 14 8).toInt.toNat + 1) 0 h1 (by omega) k1 (fun j hj => by have := z1 j hj; omega)
  intro h2 k2 z2
  refine xa_tn 66 [0, 1, 2, 3] [(0, .ref 14), (1, .ref 16), (2, .int b), (3, .int (Int32.ofInt 1))] [] h2 [] 4 (hw_q k2 hn) rfl trivial (fun _ => ?_)
  refine li16_3 hn ?_ 13 1 h2 rfl (Nat.le_refl _) k2 (fun j hj => by have := z2 j (by omega); omega) (fun j h1 hj => z2 j hj)
  intro h3 k3 z3
  refine xa_tn 103 [0, 1, 2, 3, 4] [(0, .ref 14), (1, .ref 16), (2, .int b), (3, .int (Int32.ofInt 0)), (4, .int (Int32.ofInt 0))] [] h3 [] 6 (hw_q k3 hn) rfl trivial (fun _ => ?_)
  refine li16_4 hn hb1 hb2 hd ?_ ((xg 0 h.2.1 14 8).toInt.toNat + 1) 0 (Int32.ofInt 0) h3 (by omega) k3 (fun j hj => by have := z3 j hj; omega)
  intro h4 f k4
  obtain ⟨d, rfl⟩ : ∃ d', d = d' + 1 := ⟨d - 1, by omega⟩
  refine xp_step (pc1 := 167) (lv1 := []) (st1 := [.int (if (924 : Int32) < f then 924 else f)]) (h1 := h4) rfl rfl rfl ?_
  refine xp_ret rfl rfl rfl ⟨k4, _, rfl, ?_⟩
  split
  · exact Int.le_refl _
  · rename_i hlt
    rw [Int32.lt_iff_toInt_lt] at hlt
    have : (924 : Int32).toInt = 924 := rfl
    omega
end XBZ
