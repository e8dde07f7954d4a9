section XFS
abbrev fs_md : List (Nat × Nat) := [(39, 46), (54, 0), (55, 0), (56, 0), (61, 0)]
set_option maxRecDepth 100000 in
set_option maxHeartbeats 8000000 in
/-- the inner loop: a sort that is alike; sortOf[m] is -1 meanwhile -/
theorem fs_in {d m sr : Nat} {h0 hg : xh_H} {Q : Option Value → xh_H → Prop} (hn : 72 ≤ h0.1.length) (hm : m ≤ 11) (hk0 : hk fs_md h0 hg) (hsr : xg 0 hg.2.1 39 46 = nI sr) (hs12 : sr ≤ m)
    (K1 : xt_P (d + 1) xi_X10_findSorts xmi_X10_findSorts 70 [(0, .ref 39), (1, .int (nI m))] [] (xh_ui hg 54 m (Int32.ofInt (-1))) Q)
    (K2 : ∀ k h', k < sr → hk fs_md h0 h' → xg 0 h'.2.1 39 46 = nI sr → xg 0 h'.2.1 54 m = nI k → xt_P (d + 1) xi_X10_findSorts xmi_X10_findSorts 70 [(0, .ref 39), (1, .int (nI m))] [] h' Q) :
    ∀ (j k : Nat), k + j = sr → xt_P (d + 1) xi_X10_findSorts xmi_X10_findSorts 24 [(0, .ref 39), (1, .int (nI m)), (2, .int (nI k))] [] (xh_ui hg 54 m (Int32.ofInt (-1))) Q := by
  have hq0 := hk_q hk0 hn
  have hqb : a_rq a_tb (xh_ui hg 54 m (Int32.ofInt (-1))) := a_rq_ui hq0
  have b46 : xg 0 (xh_ui hg 54 m (Int32.ofInt (-1))).2.1 39 46 = nI sr := by rw [gx_o (by decide)]; exact hsr
  have b54 : xg 0 (xh_ui hg 54 m (Int32.ofInt (-1))).2.1 54 m = Int32.ofInt (-1) := gx_s
  have b56 : ∀ k, xg 0 (xh_ui hg 54 m (Int32.ofInt (-1))).2.1 56 k = xg 0 hg.2.1 56 k := fun k => gx_o (by decide)
  have b35 : xg 0 (xh_ui hg 54 m (Int32.ofInt (-1))).2.1 39 35 = xg 0 hg.2.1 39 35 := gx_o (by decide)
  have eall := a_flx (c := 39) (k := 35) (lo := 0) (hi := 4096) hk0.1.1 (hk_n hk0 hn) rfl rfl (by decide)
  obtain ⟨n, en, n4096, n31⟩ := a_nk (x := xg 0 hg.2.1 39 35) (m := 4096) eall.1 eall.2
  have ecl : (nI m).toNatClampNeg = m := nI_clamp (by omega)
  have hin := xin_n (k := m) (n := 12) (by omega) (by omega)
  intro j
  induction j with
  | zero =>
    intro k hkj
    have e : k = sr := by omega
    subst e
    refine xa_tn 70 [0, 1] [(0, .ref 39), (1, .int (nI m))] [] (xh_ui hg 54 m (Int32.ofInt (-1))) [true] 6 hqb rfl ⟨by rw [b46]; exact nge_t (by omega) (by omega) (Nat.le_refl _), trivial⟩ (fun _ => ?_)
    exact K1
  | succ j ih =>
    intro k hkj
    have ek : nI k + Int32.ofInt 1 = nI (k + 1) := nI_1 k
    have ekc : (nI k).toNatClampNeg = k := nI_clamp (by omega)
    have g56 := a_elx (c := 56) (k := k) (lo := 0) (hi := 11) hk0.1.1 (hk_n hk0 hn) rfl rfl (by omega)
    obtain ⟨f, ef, f11, f31⟩ := a_nk (x := xg 0 hg.2.1 56 k) (m := 11) g56.1 g56.2
    refine xa_tn 50 [0, 1, 2] [(0, .ref 39), (1, .int (nI m)), (2, .int (nI k))] [.int (xg 0 (xh_ui hg 54 m (Int32.ofInt (-1))).2.1 56 (nI k).toNatClampNeg), .int (nI m), .ref 39] (xh_ui hg 54 m (Int32.ofInt (-1))) [false, false] 18 hqb rfl ⟨by rw [b46]; exact nge_f (by omega) (by omega) (by omega), hin, (show xe_c .ne (xg 0 (xh_ui hg 54 m (Int32.ofInt (-1))).2.1 54 (nI m).toNatClampNeg) (Int32.ofInt (-1)) = false by rw [ecl, b54]; rfl), xin_n (by omega) (by omega), trivial⟩ (fun _ => ?_)
    rw [ekc, b56, ef]
    refine xp_run hqb rfl rfl (hd_run (d := d) (a := m) (b := f) (n := n) hqb hm f11 n4096 (by rw [b35]; exact en)) ?_
    rintro v h1 ⟨rfl, p, q, rfl, -, -⟩
    cases hx : xe_c .ne (hd_v p q) (Int32.ofInt 3) with
    | true =>
      refine xa_tn 24 [0, 1, 2] [(0, .ref 39), (1, .int (nI m)), (2, .int ((nI k) + Int32.ofInt 1))] [] (xh_ui hg 54 m (Int32.ofInt (-1))) [true] 6 hqb rfl ⟨hx, trivial⟩ (fun _ => ?_)
      rw [ek]
      exact ih (k + 1) (by omega)
    | false =>
      refine xa_tn 24 [0, 1, 2] [(0, .ref 39), (1, .int (nI m)), (2, .int ((nI k) + Int32.ofInt 1))] [] (xh_ui (xh_ui hg 54 m (Int32.ofInt (-1))) 54 (nI m).toNatClampNeg (nI k)) [false] 11 hqb rfl ⟨hx, hin, trivial⟩ (fun _ => ?_)
      rw [ek, ecl]
      have hkc : hk fs_md h0 (xh_ui (xh_ui hg 54 m (Int32.ofInt (-1))) 54 m (nI k)) := hk_ext (h := xh_ui hg 54 m (nI k)) (hk_ui (s := (1, 12)) (lo := 0) (hi := 11) hk0 hn rfl rfl (by rw [nI_toInt (by omega)]; omega) (by rw [nI_toInt (by omega)]; omega) rfl rfl) rfl rfl (fun c k => gx_2)
      have c54 : xg 0 (xh_ui (xh_ui hg 54 m (Int32.ofInt (-1))) 54 m (nI k)).2.1 54 m = nI k := gx_s
      have c46 : xg 0 (xh_ui (xh_ui hg 54 m (Int32.ofInt (-1))) 54 m (nI k)).2.1 39 46 = nI sr := by rw [gx_o (by decide)]; exact b46
      generalize xh_ui (xh_ui hg 54 m (Int32.ofInt (-1))) 54 m (nI k) = h2 at hkc c54 c46 ⊢
      have q2 := hk_q hkc hn
      cases hc : xe_c .ge (nI (k + 1)) (xg 0 h2.2.1 39 46) with
      | true =>
        refine xa_tn 70 [0, 1] [(0, .ref 39), (1, .int (nI m))] [] h2 [true] 6 q2 rfl ⟨hc, trivial⟩ (fun _ => ?_)
        exact K2 k h2 (by omega) hkc c46 c54
      | false =>
        refine xa_tn 70 [0, 1] [(0, .ref 39), (1, .int (nI m))] [] h2 [false, true] 12 q2 rfl ⟨hc, hin, xne_t (show (xg 0 h2.2.1 54 (nI m).toNatClampNeg).toInt ≠ (Int32.ofInt (-1)).toInt by
          rw [ecl, c54, nI_toInt (by omega)]
          show (k : Int) ≠ -1
          omega), trivial⟩ (fun _ => ?_)
        exact K2 k h2 (by omega) hkc c46 c54
set_option maxRecDepth 100000 in
set_option maxHeartbeats 8000000 in
/-- the first loop: every member has a sort -/
theorem fs_1 {d : Nat} {h0 : xh_H} {Q : Option Value → xh_H → Prop} (hn : 72 ≤ h0.1.length) (K : ∀ h', hk fs_md h0 h' → xt_P (d + 1) xi_X10_findSorts xmi_X10_findSorts 146 [(0, .ref 39), (1, .int (Int32.ofInt 0))] [] h' Q) : ∀ (n m : Nat) (h : xh_H) (sr : Nat), (m : Int) + n = (xg 0 h0.2.1 39 4).toInt → hk fs_md h0 h → xg 0 h.2.1 39 46 = nI sr → sr ≤ m → xt_P (d + 1) xi_X10_findSorts xmi_X10_findSorts 7 [(0, .ref 39), (1, .int (nI m))] [] h Q := by
  intro n
  induction n with
  | zero =>
    intro m h sr hm hk0 hsr hs
    have em := hk_g (c := 39) (k := 4) hk0 rfl rfl
    have eb := a_flx (c := 39) (k := 4) (lo := 1) (hi := 12) hk0.1.1 (hk_n hk0 hn) rfl rfl (by decide)
    rw [em] at eb
    refine xa_tn 146 [0, 1] [(0, .ref 39), (1, .int (Int32.ofInt 0))] [] h [true] 8 (hk_q hk0 hn) rfl ⟨xge_t (by rw [em, nI_toInt (by omega)]; omega), trivial⟩ (fun _ => ?_)
    exact K h hk0
  | succ n ih =>
    intro m h sr hm hk0 hsr hs
    have em := hk_g (c := 39) (k := 4) hk0 rfl rfl
    have eb := a_flx (c := 39) (k := 4) (lo := 1) (hi := 12) hk0.1.1 (hk_n hk0 hn) rfl rfl (by decide)
    rw [em] at eb
    have m11 : m ≤ 11 := by omega
    have ecl : (nI m).toNatClampNeg = m := nI_clamp (by omega)
    have emi := nI_toInt (n := m) (by omega)
    have hin := xin_n (k := m) (n := 12) (by omega) (by omega)
    have ek : nI m + Int32.ofInt 1 = nI (m + 1) := nI_1 m
    refine xa_tn 24 [0, 1, 2] [(0, .ref 39), (1, .int (nI m)), (2, .int (Int32.ofInt 0))] [] (xh_ui h 54 (nI m).toNatClampNeg (Int32.ofInt (-1))) [false] 13 (hk_q hk0 hn) rfl ⟨xge_f (by rw [em, emi]; omega), hin, trivial⟩ (fun hqb => ?_)
    rw [ecl] at hqb ⊢
    refine fs_in hn m11 hk0 hsr hs ?_ ?_ sr 0 (by omega)
    · -- none is alike
      have b46 : xg 0 (xh_ui h 54 m (Int32.ofInt (-1))).2.1 39 46 = nI sr := by rw [gx_o (by decide)]; exact hsr
      have b54 : xg 0 (xh_ui h 54 m (Int32.ofInt (-1))).2.1 54 m = Int32.ofInt (-1) := gx_s
      refine xa_tn 108 [0, 1] [(0, .ref 39), (1, .int (nI m))] [] (xh_ui (xh_ui h 54 m (Int32.ofInt (-1))) 54 (nI m).toNatClampNeg (xg 0 (xh_ui h 54 m (Int32.ofInt (-1))).2.1 39 46)) [true] 14 hqb rfl ⟨hin, (show xe_c .eq (xg 0 (xh_ui h 54 m (Int32.ofInt (-1))).2.1 54 (nI m).toNatClampNeg) (Int32.ofInt (-1)) = true by rw [ecl, b54]; rfl), hin, trivial⟩ (fun _ => ?_)
      rw [ecl, b46]
      have esr := nI_toInt (n := sr) (by omega)
      have esc : (nI sr).toNatClampNeg = sr := nI_clamp (by omega)
      have hins := xin_n (k := sr) (n := 12) (by omega) (by omega)
      have hk2 : hk fs_md h0 (xh_ui (xh_ui h 54 m (Int32.ofInt (-1))) 54 m (nI sr)) := hk_ext (h := xh_ui h 54 m (nI sr)) (hk_ui (s := (1, 12)) (lo := 0) (hi := 11) hk0 hn rfl rfl (by omega) (by omega) rfl rfl) rfl rfl (fun c k => gx_2)
      have c46 : xg 0 (xh_ui (xh_ui h 54 m (Int32.ofInt (-1))) 54 m (nI sr)).2.1 39 46 = nI sr := by rw [gx_o (by decide)]; exact b46
      generalize xh_ui (xh_ui h 54 m (Int32.ofInt (-1))) 54 m (nI sr) = h2 at hk2 c46 ⊢
      refine xa_tn 118 [0, 1] [(0, .ref 39), (1, .int (nI m))] [] (xh_ui h2 56 (xg 0 h2.2.1 39 46).toNatClampNeg (nI m)) [] 8 (hk_q hk2 hn) rfl ⟨by rw [c46]; exact hins, trivial⟩ (fun _ => ?_)
      rw [c46, esc]
      have hk3 : hk fs_md h0 (xh_ui h2 56 sr (nI m)) := hk_ui (s := (1, 12)) (lo := 0) (hi := 11) hk2 hn rfl rfl (by omega) (by omega) rfl rfl
      have d46 : xg 0 (xh_ui h2 56 sr (nI m)).2.1 39 46 = nI sr := by rw [gx_o (by decide)]; exact c46
      generalize xh_ui h2 56 sr (nI m) = h3 at hk3 d46 ⊢
      refine xa_tn 128 [0, 1] [(0, .ref 39), (1, .int (nI m))] [] (xh_ui h3 55 (xg 0 h3.2.1 39 46).toNatClampNeg (Int32.ofInt 1)) [] 8 (hk_q hk3 hn) rfl ⟨by rw [d46]; exact hins, trivial⟩ (fun _ => ?_)
      rw [d46, esc]
      have hk4 : hk fs_md h0 (xh_ui h3 55 sr (Int32.ofInt 1)) := hk_ui (s := (1, 12)) (lo := -2147483648) (hi := 2147483647) hk3 hn rfl rfl (by decide) (by decide) rfl rfl
      have e46 : xg 0 (xh_ui h3 55 sr (Int32.ofInt 1)).2.1 39 46 = nI sr := by rw [gx_o (by decide)]; exact d46
      generalize xh_ui h3 55 sr (Int32.ofInt 1) = h4 at hk4 e46 ⊢
      refine xa_tn 7 [0, 1] [(0, .ref 39), (1, .int ((nI m) + Int32.ofInt 1))] [] (xh_ui h4 39 46 ((xg 0 h4.2.1 39 46) + (Int32.ofInt 1))) [] 10 (hk_q hk4 hn) rfl trivial (fun _ => ?_)
      have es1 : nI sr + Int32.ofInt 1 = nI (sr + 1) := nI_1 sr
      rw [ek, e46, es1]
      have es2 := nI_toInt (n := sr + 1) (by omega)
      exact ih (m + 1) _ (sr + 1) (by omega) (hk_ui (s := (0, 10)) (lo := 0) (hi := 12) hk4 hn rfl rfl (by omega) (by omega) rfl rfl) gx_s (by omega)
    · -- one is alike
      intro k h2 hks hk2 c46 c54
      have esc : (nI k).toNatClampNeg = k := nI_clamp (by omega)
      have hink := xin_n (k := k) (n := 12) (by omega) (by omega)
      refine xa_tn 7 [0, 1] [(0, .ref 39), (1, .int ((nI m) + Int32.ofInt 1))] [] (xh_ui h2 55 (xg 0 h2.2.1 54 (nI m).toNatClampNeg).toNatClampNeg ((xg 0 h2.2.1 55 (xg 0 h2.2.1 54 (nI m).toNatClampNeg).toNatClampNeg) + (Int32.ofInt 1))) [false] 22 (hk_q hk2 hn) rfl ⟨hin, xeq_f (show (xg 0 h2.2.1 54 (nI m).toNatClampNeg).toInt ≠ (Int32.ofInt (-1)).toInt by
        rw [ecl, c54, nI_toInt (by omega)]
        show (k : Int) ≠ -1
        omega), hin, (show xe_in (xg 0 h2.2.1 54 (nI m).toNatClampNeg) 12 = true by rw [ecl, c54]; exact hink), (show xe_in (xg 0 h2.2.1 54 (nI m).toNatClampNeg) 12 = true by rw [ecl, c54]; exact hink), trivial⟩ (fun _ => ?_)
      rw [ecl, c54, esc, ek]
      have xr := ar_rng (xg 0 h2.2.1 55 k + Int32.ofInt 1)
      exact ih (m + 1) _ sr (by omega) (hk_ui (s := (1, 12)) (lo := -2147483648) (hi := 2147483647) hk2 hn rfl rfl xr.1 xr.2 rfl rfl) (by rw [gx_o (by decide)]; exact c46) (by omega)
set_option maxRecDepth 100000 in
set_option maxHeartbeats 8000000 in
/-- the last loops: who is above whom -/
theorem fs_3 {d : Nat} {h0 : xh_H} {Q : Option Value → xh_H → Prop} (hn : 72 ≤ h0.1.length) {a : Nat} (ha : a ≤ 11) (K : ∀ h', hk fs_md h0 h' → xt_P (d + 1) xi_X10_findSorts xmi_X10_findSorts 146 [(0, .ref 39), (1, .int (nI (a + 1)))] [] h' Q) : ∀ (n b : Nat) (h : xh_H), b + n = 12 → hk fs_md h0 h → xt_P (d + 1) xi_X10_findSorts xmi_X10_findSorts 156 [(0, .ref 39), (1, .int (nI a)), (2, .int (nI b))] [] h Q := by
  have e1 : nI a + Int32.ofInt 1 = nI (a + 1) := nI_1 a
  intro n
  induction n with
  | zero =>
    intro b h hb hk0
    have e : b = 12 := by omega
    subst e
    have sb := a_flx (c := 39) (k := 46) (lo := 0) (hi := 12) hk0.1.1 (hk_n hk0 hn) rfl rfl (by decide)
    refine xa_tn 146 [0, 1] [(0, .ref 39), (1, .int ((nI a) + Int32.ofInt 1))] [] h [true] 8 (hk_q hk0 hn) rfl ⟨xge_t (show (xg 0 h.2.1 39 46).toInt ≤ (12 : Int) by omega), trivial⟩ (fun _ => ?_)
    rw [e1]
    exact K h hk0
  | succ n ih =>
    intro b h hb hk0
    have sb := a_flx (c := 39) (k := 46) (lo := 0) (hi := 12) hk0.1.1 (hk_n hk0 hn) rfl rfl (by decide)
    have eb : nI b + Int32.ofInt 1 = nI (b + 1) := nI_1 b
    have ei : (12 : Int32) * nI a + nI b = nI (12 * a + b) := by
      rw [show (12 : Int32) = nI 12 from rfl, ← nI_add, nI_mul2]
    have hin : xe_in ((12 : Int32) * nI a + nI b) 144 = true := by rw [ei]; exact xin_n (by omega) (by omega)
    have ecl : ((12 : Int32) * nI a + nI b).toNatClampNeg = 12 * a + b := by rw [ei]; exact nI_clamp (by omega)
    have n0 : vp_nar .boolean (Int32.ofInt 0) = 0 := rfl
    have n1 : vp_nar .boolean (Int32.ofInt 1) = 1 := rfl
    cases hc : xe_c .ge (nI b) (xg 0 h.2.1 39 46) with
    | true =>
      refine xa_tn 146 [0, 1] [(0, .ref 39), (1, .int ((nI a) + Int32.ofInt 1))] [] h [true] 8 (hk_q hk0 hn) rfl ⟨hc, trivial⟩ (fun _ => ?_)
      rw [e1]
      exact K h hk0
    | false =>
      cases he : xe_c .eq (nI a) (nI b) with
      | true =>
        refine xa_tn 156 [0, 1, 2] [(0, .ref 39), (1, .int (nI a)), (2, .int ((nI b) + Int32.ofInt 1))] [] (xh_ui h 61 ((12 * (nI a)) + (nI b)).toNatClampNeg (vp_nar .boolean (Int32.ofInt 0))) [false, true] 20 (hk_q hk0 hn) rfl ⟨hc, he, hin, trivial⟩ (fun _ => ?_)
        rw [eb, ecl, n0]
        exact ih (b + 1) _ (by omega) (hk_ui (s := (3, 144)) (lo := 0) (hi := 1) hk0 hn rfl rfl (by decide) (by decide) rfl rfl)
      | false =>
        have eac : (nI a).toNatClampNeg = a := nI_clamp (by omega)
        have ebc : (nI b).toNatClampNeg = b := nI_clamp (by omega)
        have ga := a_elx (c := 56) (k := a) (lo := 0) (hi := 11) hk0.1.1 (hk_n hk0 hn) rfl rfl (by omega)
        have gb := a_elx (c := 56) (k := b) (lo := 0) (hi := 11) hk0.1.1 (hk_n hk0 hn) rfl rfl (by omega)
        refine xa_tn 192 [0, 1, 2] [(0, .ref 39), (1, .int (nI a)), (2, .int (nI b))] [.int (xg 0 h.2.1 56 (nI b).toNatClampNeg), .int (xg 0 h.2.1 56 (nI a).toNatClampNeg), .ref 39, .int ((12 * (nI a)) + (nI b)), .ref 61] h [false, false] 25 (hk_q hk0 hn) rfl ⟨hc, he, xin_n (by omega) (by omega), xin_n (by omega) (by omega), trivial⟩ (fun hq => ?_)
        rw [eac, ebc]
        refine xp_int (C := aC_m_X10_held) (lo := 0) (hi := 3) (σ := fun _ => 0) as_m_X10_held hq hk0.1 rfl rfl rfl (Nat.zero_le _) ⟨a_av (by decide) hq.1, a_ai ga.1 ga.2, a_ai gb.1 gb.2, trivial⟩ a_fp0 rfl (fun x h1 x1 x2 i1 l1 f1 q1 => ?_)
        have hk1 : hk fs_md h0 h1 := hk_c hk0 i1 l1 f1 (fun _ z => nomatch z)
        cases hx : xe_c .ne x (Int32.ofInt 1) with
        | true =>
          refine xa_tn 156 [0, 1, 2] [(0, .ref 39), (1, .int (nI a)), (2, .int ((nI b) + Int32.ofInt 1))] [] (xh_ui h1 61 ((12 * (nI a)) + (nI b)).toNatClampNeg (vp_nar .boolean (Int32.ofInt 0))) [true] 8 q1 rfl ⟨hx, hin, trivial⟩ (fun _ => ?_)
          rw [eb, ecl, n0]
          exact ih (b + 1) _ (by omega) (hk_ui (s := (3, 144)) (lo := 0) (hi := 1) hk1 hn rfl rfl (by decide) (by decide) rfl rfl)
        | false =>
          refine xa_tn 156 [0, 1, 2] [(0, .ref 39), (1, .int (nI a)), (2, .int ((nI b) + Int32.ofInt 1))] [] (xh_ui h1 61 ((12 * (nI a)) + (nI b)).toNatClampNeg (vp_nar .boolean (Int32.ofInt 1))) [false] 9 q1 rfl ⟨hx, hin, trivial⟩ (fun _ => ?_)
          rw [eb, ecl, n1]
          exact ih (b + 1) _ (by omega) (hk_ui (s := (3, 144)) (lo := 0) (hi := 1) hk1 hn rfl rfl (by decide) (by decide) rfl rfl)
set_option maxRecDepth 100000 in
set_option maxHeartbeats 8000000 in
theorem fs_2 {d : Nat} {h0 : xh_H} (hn : 72 ≤ h0.1.length) : ∀ (n a : Nat) (h : xh_H), a + n = 12 → hk fs_md h0 h → xt_P (d + 1) xi_X10_findSorts xmi_X10_findSorts 146 [(0, .ref 39), (1, .int (nI a))] [] h (fun v h' => v = none ∧ hk fs_md h0 h') := by
  intro n
  induction n with
  | zero =>
    intro a h ha hk0
    have e : a = 12 := by omega
    subst e
    have sb := a_flx (c := 39) (k := 46) (lo := 0) (hi := 12) hk0.1.1 (hk_n hk0 hn) rfl rfl (by decide)
    refine xa_tn 217 [] [] [] h [true] 6 (hk_q hk0 hn) rfl ⟨xge_t (show (xg 0 h.2.1 39 46).toInt ≤ (12 : Int) by omega), trivial⟩ (fun _ => ?_)
    exact xp_ret rfl rfl rfl ⟨rfl, hk0⟩
  | succ n ih =>
    intro a h ha hk0
    cases hc : xe_c .ge (nI a) (xg 0 h.2.1 39 46) with
    | true =>
      refine xa_tn 217 [] [] [] h [true] 6 (hk_q hk0 hn) rfl ⟨hc, trivial⟩ (fun _ => ?_)
      exact xp_ret rfl rfl rfl ⟨rfl, hk0⟩
    | false =>
      refine xa_tn 156 [0, 1, 2] [(0, .ref 39), (1, .int (nI a)), (2, .int (Int32.ofInt 0))] [] h [false] 8 (hk_q hk0 hn) rfl ⟨hc, trivial⟩ (fun _ => ?_)
      exact fs_3 hn (by omega) (fun h' hk' => ih (a + 1) h' (by omega) hk') 12 0 h (by omega) hk0
set_option maxRecDepth 100000 in
theorem as_h_X10_findSorts : a_spec a_tb aC_h_X10_findSorts := by
  intro d mi vs h σ hd hM hi hn ha _
  cases hM
  match vs, ha with
  | [v0], ha =>
    obtain ⟨⟨q, rfl, hq⟩, -⟩ := ha
    have eq : q = 39 := a_r_ob (t := 39) (by decide) hq
    subst eq
    have hd : 1 ≤ d := hd
    obtain ⟨d, rfl⟩ : ∃ d', d = d' + 1 := ⟨d - 1, by omega⟩
    have eb := a_flx (c := 39) (k := 4) (lo := 1) (hi := 12) hi.1 hn rfl rfl (by decide)
    have main : xt_P (d + 1) xi_X10_findSorts xmi_X10_findSorts 0 [(0, .ref 39)] [] h (fun v h' => v = none ∧ hk fs_md h h') := by
      refine xa_tn 7 [0, 1] [(0, .ref 39), (1, .int (Int32.ofInt 0))] [] (xh_ui h 39 46 (Int32.ofInt 0)) [] 7 (a_rq_of hi.1 hn) rfl trivial (fun _ => ?_)
      refine fs_1 hn (fun h' hk' => fs_2 hn 12 0 h' rfl hk') (xg 0 h.2.1 39 4).toInt.toNat 0 _ 0 (by omega) (hk_ui (s := (0, 10)) (lo := 0) (hi := 12) (hk_0 hi) hn rfl rfl (by decide) (by decide) rfl rfl) gx_s (Nat.le_refl _)
    obtain ⟨v, h', r, rfl, hk0⟩ := main
    exact ⟨none, h', r, hk0.1, hk0.2.1, ⟨_, List.mem_singleton.mpr rfl, rfl, a_fp0⟩, hk0.2.2⟩
end XFS
