section XST
theorem a_J_s {tb : aT} {h h' : xh_H} (hj : a_J tb h) (he : ∀ c k, a_jc c k = true → ¬ (c = 39 ∧ k = 33) → c ≠ 44 → xg 0 h'.2.1 c k = xg 0 h.2.1 c k) (h2 : ∀ k : Nat, (k : Int) < (xg 0 h'.2.1 39 33).toInt → mo h' 44 (4096 * k)) : a_J tb h' := by
  obtain ⟨h1, -, h3, h4⟩ := hj
  refine ⟨?_, h2, ?_, ?_⟩
  · rw [he 14 8 rfl (by omega) (by decide), he 14 7 rfl (by omega) (by decide)]
    exact h1
  · intro s t hs ht hst
    rw [he 39 35 rfl (by omega) (by decide)] at hs ht
    have g := h3 s t hs ht hst
    dsimp only at g ⊢
    rw [he 53 s rfl (by omega) (by decide), he 53 t rfl (by omega) (by decide)]
    exact g
  · intro tl a b c ha hb hc hab hbc
    rw [he 14 7 rfl (by omega) (by decide)] at ha hb hc
    unfold a_ge at hab hbc ⊢
    rw [he 19 a rfl (by omega) (by decide)] at hab ⊢
    rw [he 19 b rfl (by omega) (by decide)] at hbc
    exact h4 tl a b c ha hb hc hab hbc
theorem hk_uj {md : List (Nat × Nat)} {h0 h : xh_H} {c k : Nat} {x : Int32} {s : Nat × Nat} {lo hi : Int} (hk0 : hk md h0 h) (hn : 72 ≤ h0.1.length) (hs : a_sh[c]? = some s) (he : a_ent a_tb s c k = (0, lo, hi)) (h1 : lo ≤ x.toInt) (h2 : x.toInt ≤ hi) (hJ : a_J a_tb (xh_ui h c k x)) (hm : a_mb md c k = true) : hk md h0 (xh_ui h c k x) := by
  have hc := a_sh_lt hs
  refine ⟨⟨a_inw_ui hk0.1.1 ((hk_q hk0 hn).2.1 c s hs) (by rw [a_tg_lt hc]; exact he) h1 h2, hJ⟩, hk0.2.1, ?_⟩
  intro c' k' hz hm'
  rw [← hk0.2.2 c' k' hz hm']
  by_cases e : c' = c
  · subst e
    by_cases e2 : k' = k
    · subst e2
      exact absurd (a_mb_t hm) hm'
    · exact xh_up_k e2
  · exact congrFun (xh_up_o e) k'
theorem rl_hkj {md : List (Nat × Nat)} {hh h0 h : xh_H} {c B s : Nat} {F : Nat → Int32} {kd sz : Nat} {lo hi : Int} (g : rl h0 c B F s h) (hk0 : hk md hh h0) (hs : a_sh[c]? = some (kd, sz)) (hkd : kd ≠ 0) (he : a_ent a_tb (kd, sz) c 0 = (0, lo, hi)) (hF : ∀ j, j < s → lo ≤ (F j).toInt ∧ (F j).toInt ≤ hi) (hJ : a_J a_tb h) (hm : ∀ k, a_mb md c k = true) : hk md hh h := by
  obtain ⟨g1, g2, g3⟩ := g
  have hc := a_sh_lt hs
  refine ⟨⟨?_, hJ⟩, g1.trans hk0.2.1, fun c' k' hz hm' => ?_⟩
  · intro c' s' hs'
    rw [g1] at hs'
    obtain ⟨a1, a2⟩ := hk0.1.1 c' s' hs'
    refine ⟨a1, fun k hk' => ?_⟩
    have a3 := a2 k hk'
    by_cases e : c' = c
    · subst e
      have e3 : s' = (kd, sz) := by
        rw [a_tg_lt hc, hs] at a1
        exact (Option.some.inj a1).symm
      subst e3
      rw [a_tg_lt hc, a_ent0 hkd, he] at a3 ⊢
      have a3 : lo ≤ (xg 0 h0.2.1 c' k).toInt ∧ (xg 0 h0.2.1 c' k).toInt ≤ hi := a3
      show lo ≤ (xg 0 h.2.1 c' k).toInt ∧ (xg 0 h.2.1 c' k).toInt ≤ hi
      rw [g3]
      split
      · rename_i z
        exact hF _ (by omega)
      · exact a3
    · have ex : xg 0 h.2.1 c' k = xg 0 h0.2.1 c' k := by rw [g3, if_neg (fun z => e z.1)]
      unfold a_e at a3 ⊢
      rw [ex, g2, g1]
      exact a3
  · rw [g3, if_neg]
    · exact hk0.2.2 c' k' hz hm'
    · rintro ⟨rfl, -⟩
      exact hm' (a_mb_t (hm k'))
set_option maxRecDepth 100000 in
theorem isi_run {d : Nat} {x lo hi : Int32} {h : xh_H} (hq : a_rq a_tb h) : xt_P d xi_X10_isIn xmi_X10_isIn 0 [(0, .int x), (1, .int lo), (2, .int hi)] [] h (fun v h' => h = h' ∧ ∃ p : Bool, v = some (.int (bl p)) ∧ (p = true → x.toInt ≤ hi.toInt)) := by
  cases c1 : xe_c .lt x lo with
  | true =>
    refine xa_tn 15 [] [] [.int (Int32.ofInt 0)] h [true] 6 hq rfl ⟨c1, trivial⟩ (fun _ => ?_)
    exact xp_ret rfl rfl rfl ⟨rfl, false, rfl, fun z => Bool.noConfusion z⟩
  | false =>
    cases c2 : xe_c .gt x hi with
    | true =>
      refine xa_tn 15 [] [] [.int (Int32.ofInt 0)] h [false, true] 9 hq rfl ⟨c1, c2, trivial⟩ (fun _ => ?_)
      exact xp_ret rfl rfl rfl ⟨rfl, false, rfl, fun z => Bool.noConfusion z⟩
    | false =>
      have b2 : x.toInt ≤ hi.toInt := a_ce (a_neg_ok c2)
      refine xa_tn 15 [] [] [.int (Int32.ofInt 1)] h [false, false] 10 hq rfl ⟨c1, c2, trivial⟩ (fun _ => ?_)
      exact xp_ret rfl rfl rfl ⟨rfl, true, rfl, fun _ => b2⟩
abbrev xs_md : List (Nat × Nat) := (39, 0) :: (39, 6) :: (39, 33) :: (44, 0) :: (51, 0) :: (52, 0) :: rb_md
def xs_Q (h0 : xh_H) (v : Option Value) (h' : xh_H) : Prop := hk xs_md h0 h' ∧ ∃ x, v = some (.int x)
set_option maxRecDepth 100000 in
set_option maxHeartbeats 8000000 in
/-- it becomes a statute -/
theorem xs_end {d S : Nat} {f : Int32} {h0 h : xh_H} (hn : 72 ≤ h0.1.length) (hk0 : hk xs_md h0 h) (m45 : mo h 45 0) (hS : xg 0 h.2.1 39 33 = nI S) (S8 : S < 8) (f9 : f.toInt ≤ 999) : xt_P d xi_X10_statute xmi_X10_statute 141 [(0, .ref 39), (1, .int f), (3, .int (Int32.ofInt 0))] [] h (xs_Q h0) := by
  have hq := hk_q hk0 hn
  have Si := nI_toInt (n := S) (by omega)
  have S1i := nI_toInt (n := S + 1) (by omega)
  have Sc : (nI S).toNatClampNeg = S := nI_clamp (by omega)
  have b45 : ∀ s, s < 4096 → 0 ≤ (xg 0 h.2.1 45 s).toInt ∧ (xg 0 h.2.1 45 s).toInt ≤ 1 := fun s hs => a_blx (c := 45) (k := s) (lo := 0) (hi := 1) hk0.1.1 (hk_n hk0 hn) rfl rfl hs
  refine rl_loop (h0 := h) (c := 44) (B := 4096 * S) (F := fun s => xg 0 h.2.1 45 s) (N := 4096) (P := fun s h' => xt_P d xi_X10_statute xmi_X10_statute 141 [(0, .ref 39), (1, .int f), (3, .int (nI s))] [] h' (xs_Q h0)) ?_ ?_
  · intro s h5 hs gl K
    have q5 := rl_q gl hq
    have c33 : xg 0 h5.2.1 39 33 = nI S := by rw [rl_o gl (by omega)]; exact hS
    have c45 : xg 0 h5.2.1 45 s = xg 0 h.2.1 45 s := rl_o gl (by omega)
    have e1 : nI s + Int32.ofInt 1 = nI (s + 1) := nI_1 s
    have ecl : (nI s).toNatClampNeg = s := nI_clamp (by omega)
    have ecl2 : (nI (4096 * S + s)).toNatClampNeg = 4096 * S + s := nI_clamp (by omega)
    refine xa_tn 141 [0, 1, 3] [(0, .ref 39), (1, .int f), (3, .int ((nI s) + Int32.ofInt 1))] [] (xh_ui h5 44 ((4096 * (xg 0 h5.2.1 39 33)) + (nI s)).toNatClampNeg (vp_nar .boolean (xg 0 h5.2.1 45 (nI s).toNatClampNeg))) [false] 20 q5 rfl ⟨nge_f (b := 4096) (by omega) (by omega) hs, xin_n (by omega) (by omega), (show xe_in ((4096 * (xg 0 h5.2.1 39 33)) + (nI s)) 32768 = true by rw [c33, i4096]; exact xin_n (by omega) (by omega)), trivial⟩ (fun _ => ?_)
    rw [c33, i4096, ecl2, ecl, c45, b01 (b45 s hs).1 (b45 s hs).2, e1]
    exact K
  · intro h1 gl
    have q1 := rl_q gl hq
    have c39 : ∀ k, xg 0 h1.2.1 39 k = xg 0 h.2.1 39 k := fun k => rl_o gl (by omega)
    have e33 : xg 0 h1.2.1 39 33 = nI S := by rw [c39]; exact hS
    have J1 : a_J a_tb h1 := a_J_s hk0.1.2 (fun c k _ _ e => rl_o gl (by omega)) (fun k hk' => by
      rw [e33, Si] at hk'
      exact mo_c (h := h) (c := 44) (B := 4096 * k) (hk0.1.2.2.1 k (by rw [hS, Si]; exact hk')) (fun s hs => rl_o gl (by omega)))
    have hk1 : hk xs_md h0 h1 := rl_hkj (kd := 3) (sz := 32768) (lo := 0) (hi := 1) gl hk0 rfl (by decide) rfl (fun s hs => b45 s hs) J1 (fun _ => rfl)
    refine xa_tn 175 [0, 1] [(0, .ref 39), (1, .int f)] [] h1 [true] 5 q1 rfl ⟨by decide, trivial⟩ (fun _ => ?_)
    have hin8 : xe_in (xg 0 h1.2.1 39 33) 8 = true := by rw [e33]; exact xin_n (by omega) (by omega)
    have e33b : xg 0 (xh_ui h1 51 (xg 0 h1.2.1 39 33).toNatClampNeg f).2.1 39 33 = nI S := by rw [gx_o (by decide)]; exact e33
    refine xa_tn 198 [0] [(0, .ref 39)] [] (xh_ui (xh_ui h1 51 (xg 0 h1.2.1 39 33).toNatClampNeg f) 52 (xg 0 (xh_ui h1 51 (xg 0 h1.2.1 39 33).toNatClampNeg f).2.1 39 33).toNatClampNeg (xg 0 (xh_ui h1 51 (xg 0 h1.2.1 39 33).toNatClampNeg f).2.1 39 3)) [] 15 q1 rfl ⟨hin8, (show xe_in (xg 0 (xh_ui h1 51 (xg 0 h1.2.1 39 33).toNatClampNeg f).2.1 39 33) 8 = true by rw [e33b]; exact xin_n (by omega) (by omega)), trivial⟩ (fun _ => ?_)
    rw [e33b, e33, Sc]
    generalize xg 0 (xh_ui h1 51 S f).2.1 39 3 = td
    have hk2 : hk xs_md h0 (xh_ui h1 51 S f) := hk_ui (s := (1, 8)) (lo := -2147483648) (hi := 999) hk1 hn rfl rfl (ar_rng f).1 f9 rfl rfl
    have hk3 : hk xs_md h0 (xh_ui (xh_ui h1 51 S f) 52 S td) := hk_ui (s := (1, 8)) (lo := -2147483648) (hi := 2147483647) hk2 hn rfl rfl (ar_rng td).1 (ar_rng td).2 rfl rfl
    have o3 : ∀ c k, c ≠ 51 → c ≠ 52 → xg 0 (xh_ui (xh_ui h1 51 S f) 52 S td).2.1 c k = xg 0 h1.2.1 c k := fun c k z1 z2 => by rw [gx_o z2, gx_o z1]
    generalize xh_ui (xh_ui h1 51 S f) 52 S td = h3 at hk3 o3 ⊢
    have f33 : xg 0 h3.2.1 39 33 = nI S := by rw [o3 39 33 (by decide) (by decide)]; exact e33
    have e1 : nI S + Int32.ofInt 1 = nI (S + 1) := nI_1 S
    refine xa_tn 212 [] [] [.int (xg 0 (xh_ui h3 39 33 ((xg 0 h3.2.1 39 33) + (Int32.ofInt 1))).2.1 39 26)] (xh_ui h3 39 33 ((xg 0 h3.2.1 39 33) + (Int32.ofInt 1))) [] 10 (hk_q hk3 hn) rfl trivial (fun _ => ?_)
    rw [f33, e1]
    have J : a_J a_tb (xh_ui h3 39 33 (nI (S + 1))) := a_J_s hk3.1.2 (fun c k _ z1 _ => gx_i z1) (fun k hk' => by
      rw [gx_s, S1i] at hk'
      by_cases ek : k = S
      · subst ek
        intro s t hs ht hst
        have a1 := m45 s t hs ht hst
        dsimp only at a1 ⊢
        rw [gx_o (by decide), gx_o (by decide), o3 44 _ (by decide) (by decide), o3 44 _ (by decide) (by decide), rl_i gl hs, rl_i gl ht]
        rw [Nat.zero_add, Nat.zero_add] at a1
        exact a1
      · exact mo_c (h := h3) (c := 44) (B := 4096 * k) (hk3.1.2.2.1 k (by rw [f33, Si]; omega)) (fun s hs => gx_o (by decide)))
    exact xp_ret rfl rfl rfl ⟨hk_uj (s := (0, 10)) (lo := 0) (hi := 8) hk3 hn rfl rfl (by omega) (by omega) J rfl, _, rfl⟩
set_option maxRecDepth 100000 in
set_option maxHeartbeats 8000000 in
theorem xs_bod {d sz S : Nat} {f : Int32} {h0 : xh_H} (hn : 72 ≤ h0.1.length) (S8 : S < 8) (f9 : f.toInt ≤ 999) : ∀ (n : Nat) (h : xh_H), 641 - fr h ≤ n → hk xs_md h0 h → pi h sz → xg 0 h.2.1 39 33 = nI S → xt_P (d + 9) xi_X10_statute xmi_X10_statute 64 [(0, .ref 39), (1, .int f)] [] h (xs_Q h0) := by
  intro n
  induction n with
  | zero =>
    intro h hf hk0 p e33
    have := (kd_fr p.2.2.2.1).1
    omega
  | succ n ih =>
    intro h hf hk0 p e33
    have hq := hk_q hk0 hn
    have hn1 := hk_n hk0 hn
    have f640 := (kd_fr p.2.2.2.1).1
    refine xa_tn 65 [0, 1] [(0, .ref 39), (1, .int f)] [.ref 39] h [] 3 hq rfl trivial (fun _ => ?_)
    refine xp_run hq rfl rfl (isBody_run (d := d + 7) hq) ?_
    rintro v h1 ⟨rfl, rfl⟩
    cases hb : kyb h 50434 with
    | true =>
      have k2 := kd_e (k := 2) (by decide) (kyb_2 hb)
      refine xa_tn 72 [0, 1] [(0, .ref 39), (1, .int f)] [.ref 39] h [false] 4 hq rfl ⟨rfl, trivial⟩ (fun _ => ?_)
      refine xp_run hq rfl rfl (rb_run (d := d) hn1 p (by omega)) ?_
      rintro v h1 ⟨kk1, g1⟩
      have hk1 : hk xs_md h0 h1 := hk_t hk0 kk1 (by decide)
      rcases g1 with rfl | ⟨rfl, p1, f1⟩
      · refine xa_tn 84 [] [] [.int ((Int32.ofInt (-1)) - (xg 0 h1.2.1 39 14))] h1 [false] 7 (hk_q hk1 hn) rfl ⟨rfl, trivial⟩ (fun _ => ?_)
        exact xp_ret rfl rfl rfl ⟨hk1, _, rfl⟩
      · refine xa_tn 64 [0, 1] [(0, .ref 39), (1, .int f)] [] h1 [true] 3 (hk_q hk1 hn) rfl ⟨rfl, trivial⟩ (fun _ => ?_)
        exact ih h1 (by omega) hk1 p1 (by rw [hk_g (c := 39) (k := 33) kk1 rfl rfl]; exact e33)
    | false =>
      refine xa_tn 86 [0, 1] [(0, .ref 39), (1, .int f)] [.ref 39] h [true] 4 hq rfl ⟨rfl, trivial⟩ (fun _ => ?_)
      refine xp_run hq rfl rfl (isCarry_run (d := d + 7) hq) ?_
      rintro v h1 ⟨rfl, rfl⟩
      cases hc : kyb h 1627639 with
      | false =>
        refine xa_tn 94 [0, 1] [(0, .ref 39), (1, .int f)] [.int (Int32.ofInt 1), .ref 39] h [false] 5 hq rfl ⟨rfl, trivial⟩ (fun _ => ?_)
        refine xp_int (C := aC_m_X10_bad) (lo := 0) (hi := 0) (σ := fun _ => 0) as_m_X10_bad hq p.1 rfl rfl rfl (Nat.zero_le _) ⟨a_av (by decide) hq.1, a_ai (by decide) (by decide), trivial⟩ a_fp0 rfl (fun x hx x1 x2 ix lx fx qx => ?_)
        cases i00 x1 x2
        refine xa_tn 138 [] [] [.int ((Int32.ofInt (-1)) - (xg 0 hx.2.1 39 14))] hx [true, true] 11 qx rfl ⟨rfl, by decide, trivial⟩ (fun _ => ?_)
        exact xp_ret rfl rfl rfl ⟨hk_c hk0 ix lx fx (by decide), _, rfl⟩
      | true =>
        have k2 := kd_e (k := 2) (by decide) (kyb_2 hc)
        refine xa_tn 111 [0, 1] [(0, .ref 39), (1, .int f)] [.ref 39] h [true, false] 9 hq rfl ⟨rfl, by decide, trivial⟩ (fun _ => ?_)
        refine xp_run hq rfl rfl (rd_run (d := d + 1) hn1 p (by omega)) ?_
        rintro v h1 ⟨kk1, g1⟩
        have hk1 : hk xs_md h0 h1 := hk_t hk0 kk1 (by decide)
        have q1 := hk_q hk1 hn
        rcases g1 with rfl | ⟨rfl, p1, m45, f1⟩
        · refine xa_tn 138 [] [] [.int ((Int32.ofInt (-1)) - (xg 0 h1.2.1 39 14))] h1 [true] 7 q1 rfl ⟨rfl, trivial⟩ (fun _ => ?_)
          exact xp_ret rfl rfl rfl ⟨hk1, _, rfl⟩
        · cases c9 : xe_c .eq (xg 0 h1.2.1 39 9) 0 with
          | true =>
            refine xa_tn 141 [0, 1, 3] [(0, .ref 39), (1, .int f), (3, .int (Int32.ofInt 0))] [] h1 [false, true] 8 q1 rfl ⟨rfl, c9, trivial⟩ (fun _ => ?_)
            exact xs_end hn hk1 m45 (by rw [hk_g (c := 39) (k := 33) kk1 rfl rfl]; exact e33) S8 f9
          | false =>
            refine xa_tn 126 [0, 1] [(0, .ref 39), (1, .int f)] [.int (Int32.ofInt 1), .ref 39] h1 [false, false] 8 q1 rfl ⟨rfl, c9, trivial⟩ (fun _ => ?_)
            refine xp_int (C := aC_m_X10_bad) (lo := 0) (hi := 0) (σ := fun _ => 0) as_m_X10_bad q1 p1.1 rfl rfl rfl (Nat.zero_le _) ⟨a_av (by decide) q1.1, a_ai (by decide) (by decide), trivial⟩ a_fp0 rfl (fun x hx x1 x2 ix lx fx qx => ?_)
            cases i00 x1 x2
            refine xa_tn 138 [] [] [.int ((Int32.ofInt (-1)) - (xg 0 hx.2.1 39 14))] hx [false] 7 qx rfl ⟨rfl, trivial⟩ (fun _ => ?_)
            exact xp_ret rfl rfl rfl ⟨hk_c hk1 ix lx fx (by decide), _, rfl⟩
set_option maxRecDepth 100000 in
set_option maxHeartbeats 8000000 in
/-- X10.statute, from the tape's length on -/
theorem xs_r10 {d : Nat} {f t : Int32} {h : xh_H} (hn : 72 ≤ h.1.length) (hi : a_inv a_tb h) (t1 : 0 ≤ t.toInt) (t2 : t.toInt ≤ 640) : xt_P (d + 9) xi_X10_statute xmi_X10_statute 10 [(0, .ref 39), (1, .int f)] [.int t, .ref 39] h (xs_Q h) := by
  have hq := a_rq_of hi.1 hn
  obtain ⟨sz, et, s640, -⟩ := a_nk (m := 640) t1 t2
  refine xa_tn 13 [0, 1] [(0, .ref 39), (1, .int f)] [] (xh_ui h 39 6 t) [] 3 hq rfl trivial (fun _ => ?_)
  rw [et]
  have szi := nI_toInt (n := sz) (by omega)
  have hk3 : hk xs_md h (xh_ui h 39 6 (nI sz)) := hk_ui (s := (0, 10)) (lo := 0) (hi := 640) (hk_0 hi) hn rfl rfl (by omega) (by omega) rfl rfl
  have e6 : xg 0 (xh_ui h 39 6 (nI sz)).2.1 39 6 = nI sz := gx_s
  generalize xh_ui h 39 6 (nI sz) = h3 at hk3 e6 ⊢
  have q3 := hk_q hk3 hn
  have b33 := a_flx (c := 39) (k := 33) (lo := 0) (hi := 8) hk3.1.1 (hk_n hk3 hn) rfl rfl (by decide)
  obtain ⟨S, eS, S8, -⟩ := a_nk (m := 8) b33.1 b33.2
  have Si := nI_toInt (n := S) (by omega)
  have z8 : (8 : Int32).toInt = 8 := rfl
  by_cases e8 : S = 8
  · refine xa_tn 39 [] [] [.int (-1000)] h3 [true] 7 q3 rfl ⟨xeq_t (show (xg 0 h3.2.1 39 33).toInt = (8 : Int32).toInt by rw [eS, Si, e8]; rfl), trivial⟩ (fun _ => ?_)
    exact xp_ret rfl rfl rfl ⟨hk3, _, rfl⟩
  · refine xa_tn 30 [0, 1] [(0, .ref 39), (1, .int f)] [.int 999, .int (xg 0 h3.2.1 39 3), .int f] h3 [false] 10 q3 rfl ⟨xeq_f (show (xg 0 h3.2.1 39 33).toInt ≠ (8 : Int32).toInt by rw [eS, Si, z8]; omega), trivial⟩ (fun _ => ?_)
    refine xp_run q3 rfl rfl (isi_run (d := d + 8) (x := f) (lo := xg 0 h3.2.1 39 3) (hi := 999) q3) ?_
    rintro v h4 ⟨rfl, p, rfl, hp⟩
    cases p with
    | false =>
      refine xa_tn 39 [] [] [.int (-1000)] h3 [false] 4 q3 rfl ⟨rfl, trivial⟩ (fun _ => ?_)
      exact xp_ret rfl rfl rfl ⟨hk3, _, rfl⟩
    | true =>
      have f9 : f.toInt ≤ 999 := hp rfl
      refine xa_tn 61 [0, 1] [(0, .ref 39), (1, .int f)] [.ref 39] (xh_ui (xh_ui (xh_ui (xh_ui h3 39 13 (Int32.ofInt 0)) 39 26 (Int32.ofInt 0)) 39 27 (Int32.ofInt 0)) 39 7 (Int32.ofInt 0)) [true] 16 q3 rfl ⟨rfl, trivial⟩ (fun _ => ?_)
      have ka : hk xs_md h (xh_ui h3 39 13 (Int32.ofInt 0)) := hk_ui (s := (0, 10)) (lo := 0) (hi := 4) hk3 hn rfl rfl (by decide) (by decide) rfl rfl
      have kb : hk xs_md h (xh_ui (xh_ui h3 39 13 (Int32.ofInt 0)) 39 26 (Int32.ofInt 0)) := hk_ui (s := (0, 10)) (lo := 0) (hi := 16) ka hn rfl rfl (by decide) (by decide) rfl rfl
      have kc : hk xs_md h (xh_ui (xh_ui (xh_ui h3 39 13 (Int32.ofInt 0)) 39 26 (Int32.ofInt 0)) 39 27 (Int32.ofInt 0)) := hk_ui (s := (0, 10)) (lo := 0) (hi := 120) kb hn rfl rfl (by decide) (by decide) rfl rfl
      have hk4 : hk xs_md h (xh_ui (xh_ui (xh_ui (xh_ui h3 39 13 (Int32.ofInt 0)) 39 26 (Int32.ofInt 0)) 39 27 (Int32.ofInt 0)) 39 7 (Int32.ofInt 0)) := hk_ui (s := (0, 10)) (lo := 0) (hi := 640) kc hn rfl rfl (by decide) (by decide) rfl rfl
      have g6 : xg 0 (xh_ui (xh_ui (xh_ui (xh_ui h3 39 13 (Int32.ofInt 0)) 39 26 (Int32.ofInt 0)) 39 27 (Int32.ofInt 0)) 39 7 (Int32.ofInt 0)).2.1 39 6 = nI sz := by rw [gx_k (by decide), gx_k (by decide), gx_k (by decide), gx_k (by decide)]; exact e6
      have g33 : xg 0 (xh_ui (xh_ui (xh_ui (xh_ui h3 39 13 (Int32.ofInt 0)) 39 26 (Int32.ofInt 0)) 39 27 (Int32.ofInt 0)) 39 7 (Int32.ofInt 0)).2.1 39 33 = nI S := by rw [gx_k (by decide), gx_k (by decide), gx_k (by decide), gx_k (by decide)]; exact eS
      have g26 : xg 0 (xh_ui (xh_ui (xh_ui (xh_ui h3 39 13 (Int32.ofInt 0)) 39 26 (Int32.ofInt 0)) 39 27 (Int32.ofInt 0)) 39 7 (Int32.ofInt 0)).2.1 39 26 = nI 0 := by rw [gx_k (by decide), gx_k (by decide), gx_s]; rfl
      have g7 : xg 0 (xh_ui (xh_ui (xh_ui (xh_ui h3 39 13 (Int32.ofInt 0)) 39 26 (Int32.ofInt 0)) 39 27 (Int32.ofInt 0)) 39 7 (Int32.ofInt 0)).2.1 39 7 = nI 0 := gx_s
      generalize xh_ui (xh_ui (xh_ui (xh_ui h3 39 13 (Int32.ofInt 0)) 39 26 (Int32.ofInt 0)) 39 27 (Int32.ofInt 0)) 39 7 (Int32.ofInt 0) = h4 at hk4 g6 g33 g26 g7 ⊢
      refine xp_run (hk_q hk4 hn) rfl rfl (g0 (d := d + 7) (t0 := 0) (hk_n hk4 hn) s640 g6 sz 0 h4 (by omega) (Nat.le_refl _) (hk_0 hk4.1) g7) ?_
      rintro v h5 ⟨rfl, kg5, gp5⟩
      have hk5 : hk xs_md h h5 := hk_t hk4 kg5 (by decide)
      have p5 : pi h5 sz := ⟨hk5.1, s640, by rw [hk_g (c := 39) (k := 6) kg5 rfl rfl]; exact g6, gp5, 0, by rw [hk_g (c := 39) (k := 26) kg5 rfl rfl]; exact g26, by decide, fun k hk' => absurd hk' (Nat.not_lt_zero k)⟩
      exact xs_bod (S := S) hn (by omega) f9 641 h5 (by omega) hk5 p5 (by rw [hk_g (c := 39) (k := 33) kg5 rfl rfl]; exact g33)
set_option maxRecDepth 100000 in
theorem tk_run {d : Nat} {h : xh_H} (hq : a_rq a_tb h) : xt_P d xi_X10_take xmi_X10_take 0 [(0, .ref 39)] [] h (fun v h' => v = some (.int (xg 0 h.2.1 39 2)) ∧ h' = xh_ui h 39 2 (Int32.ofInt 0)) := by
  refine xa_tn 11 [] [] [.int (xg 0 h.2.1 39 2)] (xh_ui h 39 2 (Int32.ofInt 0)) [] 9 hq rfl trivial (fun _ => ?_)
  exact xp_ret rfl rfl rfl ⟨rfl, rfl⟩
set_option maxRecDepth 100000 in
set_option maxHeartbeats 8000000 in
/-- X10.statute: it takes the tape -/
theorem xs_run {d : Nat} {f : Int32} {h : xh_H} (hn : 72 ≤ h.1.length) (hi : a_inv a_tb h) : xt_P (d + 9) xi_X10_statute xmi_X10_statute 0 [(0, .ref 39), (1, .int f)] [] h (fun v h' => hk ((39, 2) :: xs_md) h h' ∧ (∃ x, v = some (.int x)) ∧ xg 0 h'.2.1 39 2 = 0) := by
  have hq := a_rq_of hi.1 hn
  refine xa_tn 7 [0, 1] [(0, .ref 39), (1, .int f)] [.ref 39, .ref 39] (xh_ui h 39 0 (Int32.ofInt 0)) [] 7 hq rfl trivial (fun _ => ?_)
  have hk1 : hk ((39, 2) :: xs_md) h (xh_ui h 39 0 (Int32.ofInt 0)) := hk_ui (s := (0, 10)) (lo := 0) (hi := 1) (hk_0 hi) hn rfl rfl (by decide) (by decide) rfl rfl
  generalize xh_ui h 39 0 (Int32.ofInt 0) = h1 at hk1 ⊢
  have q1 := hk_q hk1 hn
  have tb := a_flx (c := 39) (k := 2) (lo := 0) (hi := 640) hk1.1.1 (hk_n hk1 hn) rfl rfl (by decide)
  refine xp_run q1 rfl rfl (tk_run (d := d + 8) q1) ?_
  rintro v h2 ⟨rfl, e2⟩
  have hk2 : hk ((39, 2) :: xs_md) h h2 := by
    rw [e2]
    exact hk_ui (s := (0, 10)) (lo := 0) (hi := 640) hk1 hn rfl rfl (by decide) (by decide) rfl rfl
  have z2 : xg 0 h2.2.1 39 2 = 0 := by rw [e2]; exact gx_s
  refine xp_mono (xs_r10 (d := d) (f := f) (hk_n hk2 hn) hk2.1 tb.1 tb.2) (fun v h' q => ?_)
  exact ⟨hk_t hk2 q.1 (fun _ z => List.mem_cons_of_mem _ z), q.2, (hk_g (c := 39) (k := 2) q.1 rfl rfl).trans z2⟩
end XST
