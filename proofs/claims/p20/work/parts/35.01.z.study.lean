section XSY
theorem xe_ac {nL d pc x y len ra rb rK ri : Nat} {off : Int} {lv : List (Nat × Value)} {q : List Value} {h : xh_H} (hx : x < h.1.length) (hy : y < h.1.length) : xe_2 none nL (.if_acmp .ne off, len, ra, rb, rK, ri) d pc lv (.ref y :: .ref x :: q) h 0 0 = some (cond (Nat.beq x y) (pc + 3) ra, lv, q, h, 0, 0) := by
  have e1 : xe_1 nL (.if_acmp .ne off, len, ra, rb, rK, ri) pc lv (.ref y :: .ref x :: q) h 0 0 = some (cond (Nat.beq x y) (pc + 3) ra, lv, q, h, 0, 0) := by
    show (cond (Nat.ble (x + 1) h.1.length && Nat.ble (y + 1) h.1.length) (cond (Nat.beq x y) (some (pc + 3, lv, q, h, 0, 0)) (some (ra, lv, q, h, 0, 0))) none) = _
    rw [Nat.ble_eq_true_of_le (show x + 1 ≤ h.1.length by omega), Nat.ble_eq_true_of_le (show y + 1 ≤ h.1.length by omega)]
    cases Nat.beq x y <;> rfl
  unfold xe_2
  rw [e1]
set_option maxRecDepth 100000 in
set_option maxHeartbeats 4000000 in
/-- Powers.isOf -/
theorem io_run {d q l m : Nat} {h : xh_H} (hi : a_inw a_tb h) (hn : 72 ≤ h.1.length) (hl : xg none h.2.2.2 14 6 = some l) (hl2 : l < h.1.length) (hq2 : q < h.1.length) (hm : m ≤ 12) : xt_P d xi_X2_isOf xmi_X2_isOf 0 [(0, .ref 14), (1, .ref q), (2, .int (nI m))] [] h (fun v h' => h = h' ∧ ∃ p : Bool, v = some (.int (cond p 1 0)) ∧ (p = true ↔ l = q ∧ xg 0 h.2.1 14 7 = nI m)) := by
  have hq := a_rq_of hi hn
  have hs14 : h.1[14]? = some (0, 2) := hq.2.1 14 _ rfl
  refine xa_tn 1 [0, 1, 2] [(0, .ref 14), (1, .ref q), (2, .int (nI m))] [.ref 14] h [] 3 hq rfl trivial (fun _ => ?_)
  refine xp_step rfl rfl (xe_gr hs14 rfl hl) ?_
  refine xa_tn 5 [0, 1, 2] [(0, .ref 14), (1, .ref q), (2, .int (nI m))] [.ref q, .ref l] h [] 3 hq rfl trivial (fun _ => ?_)
  refine xp_step rfl rfl (xe_ac hl2 hq2) ?_
  cases hb : Nat.beq l q with
  | true =>
    have e := Nat.eq_of_beq_eq_true hb
    cases hc : xe_c .ne (xg 0 h.2.1 14 7) (nI m) with
    | true =>
      refine xa_tn 21 [] [] [.int (Int32.ofInt 0)] h [true] 8 hq rfl ⟨hc, trivial⟩ (fun _ => ?_)
      refine xp_ret rfl rfl rfl ⟨rfl, false, rfl, Iff.intro (fun z => Bool.noConfusion z) (fun z => ?_)⟩
      rw [z.2] at hc
      have hc : (!decide (nI m = nI m)) = true := hc
      rw [decide_eq_true rfl] at hc
      cases hc
    | false =>
      refine xa_tn 21 [] [] [.int (Int32.ofInt 1)] h [false] 8 hq rfl ⟨hc, trivial⟩ (fun _ => ?_)
      refine xp_ret rfl rfl rfl ⟨rfl, true, rfl, Iff.intro (fun _ => ⟨e, ?_⟩) (fun _ => rfl)⟩
      have hc : (!decide (xg 0 h.2.1 14 7 = nI m)) = false := hc
      rw [Bool.not_eq_false'] at hc
      exact of_decide_eq_true hc
  | false =>
    refine xa_tn 21 [] [] [.int (Int32.ofInt 0)] h [] 4 hq rfl trivial (fun _ => ?_)
    refine xp_ret rfl rfl rfl ⟨rfl, false, rfl, Iff.intro (fun z => Bool.noConfusion z) (fun z => ?_)⟩
    rw [z.1, Nat.beq_refl] at hb
    cases hb
abbrev st_md : List (Nat × Nat) := [(14, 7), (14, 8), (14, 9), (14, 10), (14, 11), (14, 12), (15, 0), (16, 0), (17, 0), (18, 0), (19, 0)]
/-- within study: the numbers are told, the table isn't ready -/
def sw (h0 h : xh_H) (m : Nat) : Prop := hw st_md h0 h ∧ xg 0 h.2.1 14 7 = nI m ∧ xg 0 h.2.1 14 8 = nI (2 ^ m - 1)
theorem sw_c {h0 h h' : xh_H} {m : Nat} {md : List (Nat × Nat)} (g : sw h0 h m) (hi : a_inv a_tb2 h') (hl : h'.1 = h.1) (hf : a_fr md h h') (hs : ∀ q, q ∈ md → q ∈ st_md) (h7 : a_mb md 14 7 = false) (h8 : a_mb md 14 8 = false) : sw h0 h' m := ⟨hw_c g.1 hi hl hf hs, (fr_g hf rfl h7).trans g.2.1, (fr_g hf rfl h8).trans g.2.2⟩
theorem sw_ui {h0 h : xh_H} {m c k : Nat} {x : Int32} {s : Nat × Nat} {lo hi : Int} (g : sw h0 h m) (hn : 72 ≤ h0.1.length) (hs : a_sh[c]? = some s) (he : a_ent a_tb2 s c k = (0, lo, hi)) (h1 : lo ≤ x.toInt) (h2 : x.toInt ≤ hi) (hj : a_jc c k = false) (hm : a_mb st_md c k = true) : sw h0 (xh_ui h c k x) m := by
  refine ⟨hw_ui g.1 hn hs he h1 h2 hj hm, ?_, ?_⟩
  · rw [gx_i (fun z => by rw [← z.1, ← z.2] at hj; cases hj)]
    exact g.2.1
  · rw [gx_i (fun z => by rw [← z.1, ← z.2] at hj; cases hj)]
    exact g.2.2
set_option maxRecDepth 100000 in
set_option maxHeartbeats 8000000 in
theorem sy_loop {d m : Nat} {h0 : xh_H} {Q : Option Value → xh_H → Prop} (hn : 72 ≤ h0.1.length) (hm : m ≤ 12) (K : ∀ h', sw h0 h' m → xt_P (d + 3) xi_X2_study xmi_X2_study 87 [] [.ref 14] h' Q) : ∀ (n i : Nat) (h : xh_H), i + n = m → sw h0 h m → xt_P (d + 3) xi_X2_study xmi_X2_study 61 [(0, .ref 14), (3, .int (nI i))] [] h Q := by
  intro n
  induction n with
  | zero =>
    intro i h hi g
    have e : i = m := by omega
    subst e
    refine xa_tn 87 [] [] [.ref 14] h [true] 7 (hw_q g.1 hn) rfl ⟨(show xe_c .ge (nI i) (xg 0 h.2.1 14 7) = true by rw [g.2.1]; exact nge_t (by omega) (by omega) (Nat.le_refl _)), trivial⟩ (fun _ => ?_)
    exact K h g
  | succ n ih =>
    intro i h hi g
    have ei := nI_toInt (n := i) (by omega)
    have e1 : nI i + Int32.ofInt 1 = nI (i + 1) := nI_1 i
    refine xa_tn 76 [0, 3] [(0, .ref 14), (3, .int (nI i))] [.int (nI i), .ref 14, .int (nI i), .ref 17] h [false] 11 (hw_q g.1 hn) rfl ⟨(show xe_c .ge (nI i) (xg 0 h.2.1 14 7) = false by rw [g.2.1]; exact nge_f (by omega) (by omega) (by omega)), trivial⟩ (fun hq => ?_)
    refine xp_int (C := aC_m_X2_countSwings) (lo := -2147483648) (hi := 2147483647) (σ := fun _ => 0) as_w_X2_countSwings hq g.1.1 rfl rfl rfl (by show 2 ≤ d + 2; omega) ⟨a_av (by decide) hq.1, a_ai (by omega) (by omega), trivial⟩ a_fp0 rfl (fun x h1 x1 x2 i1 l1 f1 q1 => ?_)
    refine xa_tn 61 [0, 3] [(0, .ref 14), (3, .int ((nI i) + Int32.ofInt 1))] [] (xh_ui h1 17 (nI i).toNatClampNeg x) [] 5 q1 rfl ⟨xin_n (by omega) (by omega), trivial⟩ (fun _ => ?_)
    rw [e1, nI_clamp (by omega)]
    exact ih (i + 1) _ (by omega) (sw_ui (s := (1, 12)) (lo := -2147483648) (hi := 2147483647) (sw_c g i1 l1 f1 (fun _ z => nomatch z) rfl rfl) hn rfl rfl x1 x2 rfl rfl)
theorem nI_sub1 {k : Nat} : nI (k + 1) - Int32.ofInt 1 = nI k := by
  rw [show nI (k + 1) = nI k + Int32.ofInt 1 from (nI_1 k).symm, Int32.add_sub_cancel]
set_option maxRecDepth 100000 in
set_option maxHeartbeats 8000000 in
/-- Powers.study -/
theorem sy_run {d q m : Nat} {h : xh_H} (hi : a_inv a_tb h) (hn : 72 ≤ h.1.length) (hq2 : a_r h.1.length 11 q) (hm1 : 1 ≤ m) (hm : m ≤ 12) : xt_P (d + 4) xi_X2_study xmi_X2_study 0 [(0, .ref 14), (1, .ref q), (2, .int (nI m))] [] h (fun v h' => v = none ∧ hk st_md h h' ∧ xg 0 h'.2.1 14 7 = nI m) := by
  have hq := a_rq_of hi.1 hn
  have hs14 : h.1[14]? = some (0, 2) := hq.2.1 14 _ rfl
  have mi := nI_toInt (n := m) (by omega)
  have p12m : 2 ^ m ≤ 4096 := Nat.pow_le_pow_right (n := 2) (by decide) hm
  have pm0 : 0 < 2 ^ m := Nat.pow_pos (by decide)
  have fi := nI_toInt (n := 2 ^ m - 1) (by omega)
  obtain ⟨l, l1, l2⟩ : ∃ l, xg none h.2.2.2 14 6 = some l ∧ a_r h.1.length 11 l := (hi.1 14 _ hs14).2 6 (by decide)
  refine xa_tn 3 [0, 1, 2] [(0, .ref 14), (1, .ref q), (2, .int (nI m))] [.int (nI m), .ref q, .ref 14] h [] 5 hq rfl trivial (fun _ => ?_)
  refine xp_run hq rfl rfl (io_run (d := d + 3) hi.1 hn l1 l2.1 hq2.1 hm) ?_
  rintro v h1 ⟨rfl, p, rfl, hp⟩
  cases p with
  | true =>
    refine xa_tn 9 [] [] [] h [false] 3 hq rfl ⟨rfl, trivial⟩ (fun _ => ?_)
    exact xp_ret rfl rfl rfl ⟨rfl, hk_0 hi, (hp.mp rfl).2⟩
  | false =>
    refine xa_tn 12 [0, 1, 2] [(0, .ref 14), (1, .ref q), (2, .int (nI m))] [.ref q, .ref 14] h [true] 5 hq rfl ⟨rfl, trivial⟩ (fun _ => ?_)
    refine xp_step rfl rfl (xe_pr hs14 rfl) ?_
    have hi1 : a_inv a_tb (xh_ur h 14 6 (some q)) := a_inv_ur (e := (2, 11, 0)) hi hs14 (by rw [a_tg_lt (by decide)]; rfl) (Or.inl rfl) hq2
    have hx1 : ∀ c k, xg 0 (xh_ur h 14 6 (some q)).2.1 c k = xg 0 h.2.1 c k := fun _ _ => rfl
    have hl1 : (xh_ur h 14 6 (some q)).1 = h.1 := rfl
    generalize xh_ur h 14 6 (some q) = h1 at hi1 hx1 hl1 ⊢
    have hn1 : 72 ≤ h1.1.length := by rw [hl1]; exact hn
    have q1 := a_rq_of hi1.1 hn1
    have hs141 : h1.1[14]? = some (0, 2) := q1.2.1 14 _ rfl
    refine xa_tn 20 [0, 1, 2] [(0, .ref 14), (1, .ref q), (2, .int (nI m))] [] (xh_ui h1 14 7 (nI m)) [] 5 q1 rfl trivial (fun q2 => ?_)
    refine xa_tn 29 [0, 1, 2] [(0, .ref 14), (1, .ref q), (2, .int (nI m))] [] (xh_ui (xh_ui h1 14 7 (nI m)) 14 8 (((Int32.ofInt 1) <<< ((nI m) &&& 31)) - (Int32.ofInt 1))) [] 9 q2 rfl trivial (fun _ => ?_)
    have ef : ((Int32.ofInt 1) <<< ((nI m) &&& 31)) - (Int32.ofInt 1) = nI (2 ^ m - 1) := by
      rw [sh1 m (by omega)]
      obtain ⟨j, ej⟩ : ∃ j, 2 ^ m = j + 1 := ⟨2 ^ m - 1, by omega⟩
      rw [ej]
      exact nI_sub1
    rw [ef]
    have iw : a_inw a_tb (xh_ui (xh_ui h1 14 7 (nI m)) 14 8 (nI (2 ^ m - 1))) := a_inw_ui (s := (0, 2)) (lo := 0) (hi := 4095) (a_inw_ui (s := (0, 2)) (lo := 0) (hi := 12) hi1.1 hs141 (by rw [a_tg_lt (by decide)]; rfl) (by omega) (by omega)) hs141 (by rw [a_tg_lt (by decide)]; rfl) (by omega) (by omega)
    have x7 : xg 0 (xh_ui (xh_ui h1 14 7 (nI m)) 14 8 (nI (2 ^ m - 1))).2.1 14 7 = nI m := by rw [gx_k (by decide), gx_s]
    have x8 : xg 0 (xh_ui (xh_ui h1 14 7 (nI m)) 14 8 (nI (2 ^ m - 1))).2.1 14 8 = nI (2 ^ m - 1) := gx_s
    have xo : ∀ c k, ¬ (c = 14 ∧ (k = 7 ∨ k = 8)) → xg 0 (xh_ui (xh_ui h1 14 7 (nI m)) 14 8 (nI (2 ^ m - 1))).2.1 c k = xg 0 h.2.1 c k := by
      intro c k hck
      rw [gx_i (fun z => hck ⟨z.1, Or.inr z.2⟩), gx_i (fun z => hck ⟨z.1, Or.inl z.2⟩), hx1]
    have xl : (xh_ui (xh_ui h1 14 7 (nI m)) 14 8 (nI (2 ^ m - 1))).1 = h.1 := hl1
    generalize xh_ui (xh_ui h1 14 7 (nI m)) 14 8 (nI (2 ^ m - 1)) = h3 at iw x7 x8 xo xl ⊢
    have g3 : sw h h3 m := by
      refine ⟨⟨⟨a_inw2.mpr iw, ?_, ?_, ?_, fun z => absurd z (by decide)⟩, xl, ?_⟩, x7, x8⟩
      · rw [x7, x8, fi, mi]
        show ((2 ^ m - 1 : Nat) : Int) = ((2 ^ m : Nat) : Int) - 1
        omega
      · intro k hk s t hs ht hst
        rw [xo 39 33 (by omega)] at hk
        have g := hi.2.2.1 k hk s t hs ht hst
        dsimp only at g ⊢
        rw [xo 44 _ (by omega), xo 44 _ (by omega)]
        exact g
      · intro s t hs ht hst
        rw [xo 39 35 (by omega)] at hs ht
        have g := hi.2.2.2.1 s t hs ht hst
        dsimp only at g ⊢
        rw [xo 53 _ (by omega), xo 53 _ (by omega)]
        exact g
      · intro c k hz hmd
        refine xo c k (fun z => hmd ?_)
        obtain ⟨z1, z2⟩ := z
        subst z1
        rcases z2 with z2 | z2
        · subst z2
          decide
        · subst z2
          decide
    refine xa_tn 36 [0] [(0, .ref 14)] [.int (Int32.ofInt 0), .ref 15, .ref 14, .ref 14] h3 [] 7 (hw_q g3.1 hn) rfl trivial (fun hq3 => ?_)
    refine xp_run hq3 rfl rfl (li15_all (d := d + 3) (b := Int32.ofInt 0) g3.1.1 hq3.1 (by decide) (by decide) (by omega)) ?_
    rintro v h4 ⟨k4, x, rfl, x924⟩
    have g4 : sw h h4 m := sw_c g3 k4.1 k4.2.1 k4.2.2 (by decide) rfl rfl
    have xr := ar_rng x
    refine xa_tn 42 [0] [(0, .ref 14)] [] (xh_ui h4 14 9 x) [] 3 (hw_q g4.1 hn) rfl trivial (fun _ => ?_)
    have g5 : sw h (xh_ui h4 14 9 x) m := sw_ui (s := (0, 2)) (lo := -2147483648) (hi := 924) g4 hn rfl rfl xr.1 x924 rfl rfl
    generalize xh_ui h4 14 9 x = h5 at g5 ⊢
    refine xa_tn 49 [0] [(0, .ref 14)] [.int (Int32.ofInt 1), .ref 16, .ref 14, .ref 14] h5 [] 7 (hw_q g5.1 hn) rfl trivial (fun hq5 => ?_)
    refine xp_run hq5 rfl rfl (li16_all (d := d + 3) (b := Int32.ofInt 1) g5.1.1 hq5.1 (by decide) (by decide) (by omega)) ?_
    rintro v h6 ⟨k6, y, rfl, y924⟩
    have g6 : sw h h6 m := sw_c g5 k6.1 k6.2.1 k6.2.2 (by decide) rfl rfl
    have yr := ar_rng y
    refine xa_tn 56 [0] [(0, .ref 14)] [.ref 14] (xh_ui h6 14 10 y) [] 4 (hw_q g6.1 hn) rfl trivial (fun _ => ?_)
    have g7 : sw h (xh_ui h6 14 10 y) m := sw_ui (s := (0, 2)) (lo := -2147483648) (hi := 924) g6 hn rfl rfl yr.1 y924 rfl rfl
    generalize xh_ui h6 14 10 y = h7 at g7 ⊢
    have hq7 := hw_q g7.1 hn
    refine xp_void (C := aC_m_X2_markNeeded) (σ := fun _ => 0) (P := []) as_w_X2_markNeeded hq7 g7.1.1 rfl rfl rfl (Nat.zero_le _) ⟨a_av (by decide) hq7.1, trivial⟩ a_fp0 rfl (fun h8 _ i8 l8 f8 q8 => ?_)
    have g8 : sw h h8 m := sw_c g7 i8 l8 f8 (by decide) rfl rfl
    refine xa_tn 61 [0, 3] [(0, .ref 14), (3, .int (Int32.ofInt 0))] [] h8 [] 4 q8 rfl trivial (fun _ => ?_)
    refine sy_loop hn hm ?_ m 0 h8 (by omega) g8
    intro h9 g9
    have hq9 := hw_q g9.1 hn
    have hn9 := hw_n g9.1 hn
    have iw9 : a_inw a_tb h9 := a_inw2.mp g9.1.1.1
    have hs149 : h9.1[14]? = some (0, 2) := hq9.2.1 14 _ rfl
    obtain ⟨l9, la, lb⟩ : ∃ l, xg none h9.2.2.2 14 6 = some l ∧ a_r h9.1.length 11 l := (iw9 14 _ hs149).2 6 (by decide)
    obtain ⟨sq, r, rb, sr⟩ := law_sh iw9 lb
    refine xp_run hq9 rfl rfl (ca_run (d := d + 1) (m := m) iw9 hn9 hm g9.2.1 g9.2.2 la sq rb sr) ?_
    rintro v h10 ⟨rfl, hc10, al10⟩
    refine xp_ret rfl rfl rfl ⟨rfl, ⟨⟨hc10.1, ?_, ?_, ?_, ?_⟩, hc10.2.1.trans g9.1.2.1, ?_⟩, by rw [hc10.2.2.2 14 7 (by decide)]; exact g9.2.1⟩
    · rw [hc10.2.2.2 14 7 (by decide), hc10.2.2.2 14 8 (by decide)]
      exact g9.1.1.2.1
    · intro k hk s t hs ht hst
      rw [hc10.2.2.2 39 33 (by decide)] at hk
      have g := g9.1.1.2.2.1 k hk s t hs ht hst
      dsimp only at g ⊢
      rw [hc10.2.2.2 44 _ (by decide), hc10.2.2.2 44 _ (by decide)]
      exact g
    · intro s t hs ht hst
      rw [hc10.2.2.2 39 35 (by decide)] at hs ht
      have g := g9.1.1.2.2.2.1 s t hs ht hst
      dsimp only at g ⊢
      rw [hc10.2.2.2 53 _ (by decide), hc10.2.2.2 53 _ (by decide)]
      exact g
    · intro _ a b c ha hb hc2 hab hbc
      rw [hc10.2.2.2 14 7 (by decide), g9.2.1, mi] at ha hb hc2
      have ha : a < m := by omega
      have hb : b < m := by omega
      have hc2 : c < m := by omega
      exact (al10 a c ha hc2).mpr (al_tr ha hb hc2 ((al10 a b ha hb).mp hab) ((al10 b c hb hc2).mp hbc))
    · intro c k hz hmd
      rw [hc10.2.2.2 c k (fun z => hmd (by subst z; show (19, 0) ∈ st_md; decide))]
      exact g9.1.2.2 c k hz hmd
set_option maxRecDepth 100000 in
theorem as_h_X2_study : a_spec a_tb aC_h_X2_study := by
  intro d mi vs h σ hd hM hi hn ha _
  cases hM
  match vs, ha with
  | [v0, v1, v2], ha =>
    obtain ⟨⟨q, rfl, hq⟩, ⟨q2, rfl, hq2⟩, ⟨b, rfl, b1, b2, -⟩, -⟩ := ha
    have eq : q = 14 := a_r_ob (t := 14) (by decide) hq
    subst eq
    have b1 : 1 ≤ b.toInt := b1
    have b2 : b.toInt ≤ 12 := b2
    obtain ⟨m, rfl, m12, m31⟩ := a_nk (x := b) (m := 12) (by omega) b2
    rw [nI_toInt m31] at b1
    have hd : 4 ≤ d := hd
    obtain ⟨d, rfl⟩ : ∃ d', d = d' + 4 := ⟨d - 4, by omega⟩
    obtain ⟨v, h', r, rfl, hk0, -⟩ := sy_run (d := d) (m := m) hi hn hq2 (by omega) m12
    exact ⟨none, h', r, hk0.1, hk0.2.1, ⟨_, List.mem_singleton.mpr rfl, rfl, a_fp0⟩, hk0.2.2⟩
end XSY
