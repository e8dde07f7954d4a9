section XRB
abbrev rb_md : List (Nat × Nat) := (39, 26) :: (43, 0) :: ed_md
/-- what reading a body leaves -/
def rb_Q (h0 : xh_H) (sz : Nat) (v : Option Value) (h' : xh_H) : Prop := hk rb_md h0 h' ∧ (v = some (.int 0) ∨ (v = some (.int 1) ∧ pi h' sz ∧ fr h0 < fr h'))
set_option maxRecDepth 100000 in
set_option maxHeartbeats 8000000 in
/-- X10.readBody -/
theorem rb_run {d sz : Nat} {h : xh_H} (hn : 72 ≤ h.1.length) (g : pi h sz) (hkd : 2 ≤ kd h) : xt_P (d + 8) xi_X10_readBody xmi_X10_readBody 0 [(0, .ref 39)] [] h (rb_Q h sz) := by
  have hq := a_rq_of g.1.1 hn
  refine xa_tn 1 [0] [(0, .ref 39)] [.ref 39] h [] 3 hq rfl trivial (fun _ => ?_)
  refine xp_run hq rfl rfl (pg (d := d + 6) hn g) ?_
  rintro v h1 ⟨rfl, kg1, p1, f1⟩
  have fr1 := f1 hkd
  have hk1 : hk rb_md h h1 := hk_t (hk_0 g.1) kg1 (by decide)
  have q1 := hk_q hk1 hn
  have hn1 := hk_n hk1 hn
  refine xa_tn 5 [0] [(0, .ref 39)] [.ref 39] h1 [] 3 q1 rfl trivial (fun _ => ?_)
  refine xp_run q1 rfl rfl (nm_run (d := d + 5) q1) ?_
  rintro v h2 ⟨rfl, rfl⟩
  cases hnm : nmb h1 with
  | false =>
    refine xa_tn 13 [] [] [.int (Int32.ofInt 1), .ref 39] h1 [false] 5 q1 rfl ⟨rfl, trivial⟩ (fun _ => ?_)
    refine xp_int (C := aC_m_X10_bad) (lo := 0) (hi := 0) (σ := fun _ => 0) as_m_X10_bad q1 p1.1 rfl rfl rfl (Nat.zero_le _) ⟨a_av (by decide) q1.1, a_ai (by decide) (by decide), trivial⟩ a_fp0 rfl (fun x hx x1 x2 ix lx fx qx => ?_)
    cases i00 x1 x2
    exact xp_ret rfl rfl rfl ⟨hk_c hk1 ix lx fx (by decide), Or.inl rfl⟩
  | true =>
    have k2 := kd_e (k := 2) (by decide) (nmb_2 hnm)
    obtain ⟨nn, hnn, n16, -⟩ := p1.2.2.2.2
    have nni := nI_toInt (n := nn) (by omega)
    have z16 : (16 : Int32).toInt = 16 := rfl
    refine xa_tn 18 [0] [(0, .ref 39)] [.ref 39] h1 [true] 4 q1 rfl ⟨rfl, trivial⟩ (fun _ => ?_)
    refine xp_run q1 rfl rfl (nh_run (d := d + 7) q1 hnn n16) ?_
    rintro v h2 ⟨rfl, hv⟩
    rcases hv with ⟨rfl, -⟩ | ⟨k, hk', rfl, -⟩
    rotate_left
    · have ki := nI_toInt (n := k) (by omega)
      refine xa_tn 27 [] [] [.int (Int32.ofInt 3), .ref 39] h1 [false] 6 q1 rfl ⟨xeq_f (show (nI k).toInt ≠ (-1 : Int) by rw [ki]; omega), trivial⟩ (fun _ => ?_)
      refine xp_int (C := aC_m_X10_bad) (lo := 0) (hi := 0) (σ := fun _ => 0) as_m_X10_bad q1 p1.1 rfl rfl rfl (Nat.zero_le _) ⟨a_av (by decide) q1.1, a_ai (by decide) (by decide), trivial⟩ a_fp0 rfl (fun x hx x1 x2 ix lx fx qx => ?_)
      cases i00 x1 x2
      exact xp_ret rfl rfl rfl ⟨hk_c hk1 ix lx fx (by decide), Or.inl rfl⟩
    by_cases e16 : nn = 16
    · refine xa_tn 42 [] [] [.int (Int32.ofInt 4), .ref 39] h1 [true, false] 10 q1 rfl ⟨by decide, xne_f (show (xg 0 h1.2.1 39 26).toInt = (16 : Int32).toInt by rw [hnn, nni, e16]; rfl), trivial⟩ (fun _ => ?_)
      refine xp_int (C := aC_m_X10_bad) (lo := 0) (hi := 0) (σ := fun _ => 0) as_m_X10_bad q1 p1.1 rfl rfl rfl (Nat.zero_le _) ⟨a_av (by decide) q1.1, a_ai (by decide) (by decide), trivial⟩ a_fp0 rfl (fun x hx x1 x2 ix lx fx qx => ?_)
      cases i00 x1 x2
      exact xp_ret rfl rfl rfl ⟨hk_c hk1 ix lx fx (by decide), Or.inl rfl⟩
    refine xa_tn 52 [0, 1] [(0, .ref 39), (1, .long (xg 0 h1.2.2.1 39 15))] [.ref 39] h1 [true, true] 12 q1 rfl ⟨by decide, xne_t (show (xg 0 h1.2.1 39 26).toInt ≠ (16 : Int32).toInt by rw [hnn, nni, z16]; omega), trivial⟩ (fun _ => ?_)
    generalize xg 0 h1.2.2.1 39 15 = w
    refine xp_run q1 rfl rfl (pg (d := d + 6) hn1 p1) ?_
    rintro v h2 ⟨rfl, kg2, p2, f2⟩
    have fr2 := f2 (by omega)
    have hk2 : hk rb_md h h2 := hk_t hk1 kg2 (by decide)
    have q2 := hk_q hk2 hn
    have hn2 := hk_n hk2 hn
    refine xa_tn 58 [0, 1] [(0, .ref 39), (1, .long w)] [.int 58, .ref 39] h2 [] 4 q2 rfl trivial (fun _ => ?_)
    refine xp_run q2 rfl rfl (sg_run (d := d + 7) (c := 58) q2) ?_
    rintro v h3 ⟨rfl, rfl⟩
    cases hsg : sgb h2 58 with
    | false =>
      refine xa_tn 66 [] [] [.int (Int32.ofInt 1), .ref 39] h2 [false] 5 q2 rfl ⟨rfl, trivial⟩ (fun _ => ?_)
      refine xp_int (C := aC_m_X10_bad) (lo := 0) (hi := 0) (σ := fun _ => 0) as_m_X10_bad q2 p2.1 rfl rfl rfl (Nat.zero_le _) ⟨a_av (by decide) q2.1, a_ai (by decide) (by decide), trivial⟩ a_fp0 rfl (fun x hx x1 x2 ix lx fx qx => ?_)
      cases i00 x1 x2
      exact xp_ret rfl rfl rfl ⟨hk_c hk2 ix lx fx (by decide), Or.inl rfl⟩
    | true =>
      have k4 := kd_e (k := 4) (by decide) (sgb_4 hsg)
      refine xa_tn 71 [0, 1] [(0, .ref 39), (1, .long w)] [.ref 39] h2 [true] 4 q2 rfl ⟨rfl, trivial⟩ (fun _ => ?_)
      refine xp_run q2 rfl rfl (rd_run (d := d) hn2 p2 (by omega)) ?_
      rintro v h3 ⟨kk3, g3⟩
      have hk3 : hk rb_md h h3 := hk_t hk2 kk3 (by decide)
      have q3 := hk_q hk3 hn
      rcases g3 with rfl | ⟨rfl, p3, m45, fr3⟩
      · refine xa_tn 78 [] [] [.int (Int32.ofInt 0)] h3 [false] 4 q3 rfl ⟨rfl, trivial⟩ (fun _ => ?_)
        exact xp_ret rfl rfl rfl ⟨hk3, Or.inl rfl⟩
      · have e26 : xg 0 h3.2.1 39 26 = nI nn := by rw [hk_g (c := 39) (k := 26) kk3 rfl rfl, hk_g (c := 39) (k := 26) kg2 rfl rfl]; exact hnn
        obtain ⟨nn', e26', n16', hrow⟩ := p3.2.2.2.2
        have een : nn' = nn := (nI_eq (by omega) (by omega)).mp (by rw [← e26']; exact e26)
        subst een
        have encl : (nI nn').toNatClampNeg = nn' := nI_clamp (by omega)
        refine xa_tn 91 [0, 3] [(0, .ref 39), (3, .int (Int32.ofInt 0))] [] (xh_ul h3 50 (xg 0 h3.2.1 39 26).toNatClampNeg w) [true] 11 q3 rfl ⟨rfl, (show xe_in (xg 0 h3.2.1 39 26) 16 = true by rw [e26]; exact xin_n (by omega) (by omega)), trivial⟩ (fun _ => ?_)
        rw [e26, encl]
        have hk4 : hk rb_md h (xh_ul h3 50 nn' w) := hk_ul (s := (4, 16)) hk3 hn rfl rfl
        have eo4 : ∀ c k, xg 0 (xh_ul h3 50 nn' w).2.1 c k = xg 0 h3.2.1 c k := fun _ _ => rfl
        generalize xh_ul h3 50 nn' w = h4 at hk4 eo4 ⊢
        have q4 := hk_q hk4 hn
        have b45 : ∀ s, s < 4096 → 0 ≤ (xg 0 h4.2.1 45 s).toInt ∧ (xg 0 h4.2.1 45 s).toInt ≤ 1 := fun s hs => a_blx (c := 45) (k := s) (lo := 0) (hi := 1) hk4.1.1 (hk_n hk4 hn) rfl rfl hs
        refine rl_loop (h0 := h4) (c := 43) (B := 4096 * nn') (F := fun s => xg 0 h4.2.1 45 s) (N := 4096) (P := fun s h' => xt_P (d + 8) xi_X10_readBody xmi_X10_readBody 91 [(0, .ref 39), (3, .int (nI s))] [] h' (rb_Q h sz)) ?_ ?_
        · intro s h5 hs gl K
          have q5 := rl_q gl q4
          have c26 : xg 0 h5.2.1 39 26 = nI nn' := by rw [rl_o gl (by omega), eo4]; exact e26
          have c45 : xg 0 h5.2.1 45 s = xg 0 h4.2.1 45 s := rl_o gl (by omega)
          have e1 : nI s + Int32.ofInt 1 = nI (s + 1) := nI_1 s
          have ecl : (nI s).toNatClampNeg = s := nI_clamp (by omega)
          have ecl2 : (nI (4096 * nn' + s)).toNatClampNeg = 4096 * nn' + s := nI_clamp (by omega)
          refine xa_tn 91 [0, 3] [(0, .ref 39), (3, .int ((nI s) + Int32.ofInt 1))] [] (xh_ui h5 43 ((4096 * (xg 0 h5.2.1 39 26)) + (nI s)).toNatClampNeg (vp_nar .boolean (xg 0 h5.2.1 45 (nI s).toNatClampNeg))) [false] 20 q5 rfl ⟨nge_f (b := 4096) (by omega) (by omega) hs, xin_n (by omega) (by omega), (show xe_in ((4096 * (xg 0 h5.2.1 39 26)) + (nI s)) 65536 = true by rw [c26, i4096]; exact xin_n (by omega) (by omega)), trivial⟩ (fun _ => ?_)
          rw [c26, i4096, ecl2, ecl, c45, b01 (b45 s hs).1 (b45 s hs).2, e1]
          exact K
        · intro h5 gl
          have q5 := rl_q gl q4
          have hk5 : hk rb_md h h5 := rl_hk (kd := 3) (sz := 65536) (lo := 0) (hi := 1) gl hk4 hn rfl (by decide) rfl (fun s hs => b45 s hs) (fun _ => rfl) (fun _ => rfl)
          have c39 : ∀ k, xg 0 h5.2.1 39 k = xg 0 h3.2.1 39 k := fun k => by rw [rl_o gl (by omega), eo4]
          refine xa_tn 125 [0] [(0, .ref 39)] [] h5 [true] 5 q5 rfl ⟨by decide, trivial⟩ (fun _ => ?_)
          refine xa_tn 136 [] [] [.int (Int32.ofInt 1)] (xh_ui h5 39 26 ((xg 0 h5.2.1 39 26) + (Int32.ofInt 1))) [] 9 q5 rfl trivial (fun _ => ?_)
          have e1 : nI nn' + Int32.ofInt 1 = nI (nn' + 1) := nI_1 nn'
          have n1i := nI_toInt (n := nn' + 1) (by omega)
          rw [c39, e26, e1]
          have hk6 : hk rb_md h (xh_ui h5 39 26 (nI (nn' + 1))) := hk_ui (s := (0, 10)) (lo := 0) (hi := 16) hk5 hn rfl rfl (by omega) (by omega) rfl rfl
          refine xp_ret rfl rfl rfl ⟨hk6, Or.inr ⟨rfl, ⟨hk6.1, p3.2.1, ?_, ?_, nn' + 1, gx_s, by omega, fun k hk' => ?_⟩, ?_⟩⟩
          · rw [gx_k (by decide), c39]
            exact p3.2.2.1
          · exact go_Pc p3.2.2.2.1 (fun j j1 j2 => by rw [gx_k (by omega), c39])
          · by_cases ek : k = nn'
            · subst ek
              intro s t hs ht hst
              have a1 := m45 s t hs ht hst
              dsimp only at a1 ⊢
              rw [gx_o (by decide), gx_o (by decide), rl_i gl hs, rl_i gl ht, eo4, eo4]
              rw [Nat.zero_add, Nat.zero_add] at a1
              exact a1
            · exact mo_c (hrow k (by omega)) (fun s hs => by rw [gx_o (by decide), rl_o gl (by omega), eo4])
          · have ef := fr_c (h := h3) (h' := xh_ui h5 39 26 (nI (nn' + 1))) (by rw [gx_k (by decide), c39])
            omega
end XRB
