section XE3
set_option maxRecDepth 100000 in
set_option maxHeartbeats 16000000 in
/-- X10.end of a rule's one, from 'or' on -/
theorem er_3 {d sz tp : Nat} {B : Int} {h0 h : xh_H} (hi0 : a_inv a_tb h0) (hn0 : 72 ≤ h0.1.length) (hk0 : hk bg_md h0 h) (g : rI h sz B) (h30 : xg 0 h.2.1 39 30 = 0) (h29 : xg 0 h.2.1 39 29 = 0) (htp : xg 0 h.2.1 39 28 = nI tp) (t12 : tp ≤ 12) (h47 : xg 0 h.2.1 47 tp ≠ 2) (efr : fr h = fr h0) : xt_P (d + 2) xi_X10_end_ xmi_X10_end_ 222 [(0, .ref 39), (1, .int (nI (4096 * tp))), (2, .int (Int32.ofInt 0))] [] h (ed_Q h0 sz B) := by
  have hn := hk_n hk0 hn0
  have hq := a_rq_of g.1.1.1 hn
  have hlv : lvo h tp B := by
    obtain ⟨-, -, tp', a, b, c⟩ := g
    have e : tp' = tp := (nI_eq (by omega) (by omega)).mp (by rw [← a]; exact htp)
    subst e
    exact c tp' (Nat.le_refl _)
  obtain ⟨m41, m42⟩ := hlv.2 h47
  have b41 : ∀ s, s < 4096 → 0 ≤ (xg 0 h.2.1 41 (4096 * tp + s)).toInt ∧ (xg 0 h.2.1 41 (4096 * tp + s)).toInt ≤ 1 := fun s hs => a_blx (c := 41) (k := 4096 * tp + s) (lo := 0) (hi := 1) g.1.1.1 hn rfl rfl (by omega)
  have b42 : ∀ s, s < 4096 → 0 ≤ (xg 0 h.2.1 42 (4096 * tp + s)).toInt ∧ (xg 0 h.2.1 42 (4096 * tp + s)).toInt ≤ 1 := fun s hs => a_blx (c := 42) (k := 4096 * tp + s) (lo := 0) (hi := 1) g.1.1.1 hn rfl rfl (by omega)
  refine rl2_loop (h0 := h) (c1 := 41) (c2 := 42) (B := 4096 * tp) (F1 := fun s => bl (!(decide (xg 0 h.2.1 41 (4096 * tp + s) = 0)) || !(decide (xg 0 h.2.1 42 (4096 * tp + s) = 0)))) (F2 := fun _ => 1) (N := 4096) (P := fun s h' => xt_P (d + 2) xi_X10_end_ xmi_X10_end_ 222 [(0, .ref 39), (1, .int (nI (4096 * tp))), (2, .int (nI s))] [] h' (ed_Q h0 sz B)) (by decide) ?_ ?_
  · intro s h2 hs gl K
    have q2 := rl2_q gl hq
    have hge : xe_c .ge (nI s) 4096 = false := nge_f (b := 4096) (by omega) (by omega) hs
    have e1 : nI s + Int32.ofInt 1 = nI (s + 1) := nI_1 s
    have ecl2 : (nI (4096 * tp) + nI s).toNatClampNeg = 4096 * tp + s := by rw [nIa]; exact nI_clamp (by omega)
    have hin2 : xe_in ((nI (4096 * tp)) + (nI s)) 53248 = true := by rw [nIa]; exact xin_n (by omega) (by omega)
    have g41 : xg 0 h2.2.1 41 (4096 * tp + s) = xg 0 h.2.1 41 (4096 * tp + s) := rl2_o gl (by omega) (by omega)
    have g42 : xg 0 h2.2.1 42 (4096 * tp + s) = xg 0 h.2.1 42 (4096 * tp + s) := rl2_o gl (by omega) (by omega)
    cases c1 : xe_c .ne (xg 0 h.2.1 41 (4096 * tp + s)) 0 with
    | true =>
      rw [decide_eq_false (show ¬ xg 0 h.2.1 41 (4096 * tp + s) = 0 from xne_i c1)] at K
      refine xa_tn 222 [0, 1, 2] [(0, .ref 39), (1, .int (nI (4096 * tp))), (2, .int ((nI s) + Int32.ofInt 1))] [] (xh_ui (xh_ui h2 41 ((nI (4096 * tp)) + (nI s)).toNatClampNeg (vp_nar .boolean (Int32.ofInt 1))) 42 ((nI (4096 * tp)) + (nI s)).toNatClampNeg (vp_nar .boolean (Int32.ofInt 1))) [false, true] 29 q2 rfl ⟨hge, hin2, (show xe_c .ne (xg 0 h2.2.1 41 ((nI (4096 * tp)) + (nI s)).toNatClampNeg) 0 = true by rw [ecl2, g41]; exact c1), hin2, hin2, trivial⟩ (fun _ => ?_)
      rw [ecl2, e1]
      exact K
    | false =>
      rw [decide_eq_true (show xg 0 h.2.1 41 (4096 * tp + s) = 0 from xne_j c1)] at K
      cases c2 : xe_c .eq (xg 0 h.2.1 42 (4096 * tp + s)) 0 with
      | true =>
        rw [show decide (xg 0 h.2.1 42 (4096 * tp + s) = 0) = true from c2] at K
        refine xa_tn 222 [0, 1, 2] [(0, .ref 39), (1, .int (nI (4096 * tp))), (2, .int ((nI s) + Int32.ofInt 1))] [] (xh_ui (xh_ui h2 41 ((nI (4096 * tp)) + (nI s)).toNatClampNeg (vp_nar .boolean (Int32.ofInt 0))) 42 ((nI (4096 * tp)) + (nI s)).toNatClampNeg (vp_nar .boolean (Int32.ofInt 1))) [false, false, true] 35 q2 rfl ⟨hge, hin2, (show xe_c .ne (xg 0 h2.2.1 41 ((nI (4096 * tp)) + (nI s)).toNatClampNeg) 0 = false by rw [ecl2, g41]; exact c1), hin2, (show xe_c .eq (xg 0 h2.2.1 42 ((nI (4096 * tp)) + (nI s)).toNatClampNeg) 0 = true by rw [ecl2, g42]; exact c2), hin2, hin2, trivial⟩ (fun _ => ?_)
        rw [ecl2, e1]
        exact K
      | false =>
        rw [show decide (xg 0 h.2.1 42 (4096 * tp + s) = 0) = false from c2] at K
        refine xa_tn 222 [0, 1, 2] [(0, .ref 39), (1, .int (nI (4096 * tp))), (2, .int ((nI s) + Int32.ofInt 1))] [] (xh_ui (xh_ui h2 41 ((nI (4096 * tp)) + (nI s)).toNatClampNeg (vp_nar .boolean (Int32.ofInt 1))) 42 ((nI (4096 * tp)) + (nI s)).toNatClampNeg (vp_nar .boolean (Int32.ofInt 1))) [false, false, false] 36 q2 rfl ⟨hge, hin2, (show xe_c .ne (xg 0 h2.2.1 41 ((nI (4096 * tp)) + (nI s)).toNatClampNeg) 0 = false by rw [ecl2, g41]; exact c1), hin2, (show xe_c .eq (xg 0 h2.2.1 42 ((nI (4096 * tp)) + (nI s)).toNatClampNeg) 0 = false by rw [ecl2, g42]; exact c2), hin2, hin2, trivial⟩ (fun _ => ?_)
        rw [ecl2, e1]
        exact K
  · intro h2 gl
    have q2 := rl2_q gl hq
    have hk2' : hk bg_md h h2 := rl2_hk (k1 := 3) (z1 := 53248) (k2 := 3) (z2 := 53248) (l1 := 0) (u1 := 1) (l2 := 0) (u2 := 1) (by decide) gl (hk_0 g.1.1) hn rfl rfl (by decide) (by decide) rfl rfl (fun _ _ => bl_b) (fun _ _ => by decide) (fun _ => rfl) (fun _ => rfl) (fun _ => rfl) (fun _ => rfl)
    have hn2 := hk_n hk2' hn
    have hk2 : hk bg_md h0 h2 := hk_t hk0 hk2' (fun _ z => z)
    have e39 : ∀ k, xg 0 h2.2.1 39 k = xg 0 h.2.1 39 k := fun k => rl2_o gl (by omega) (by omega)
    have e47 : ∀ k, xg 0 h2.2.1 47 k = xg 0 h.2.1 47 k := fun k => rl2_o gl (by omega) (by omega)
    have r2 : rI h2 sz B := by
      obtain ⟨p, z47, tp', a, b, c⟩ := g
      have e : tp' = tp := (nI_eq (by omega) (by omega)).mp (by rw [← a]; exact htp)
      subst e
      refine ⟨pi_tr p hk2' (go_Pc p.2.2.2.1 (fun j _ _ => e39 j)), by rw [e47]; exact z47, tp', by rw [e39]; exact a, b, fun t ht => ?_⟩
      by_cases et : t = tp'
      · subst et
        refine ⟨fun z => absurd (by rw [← e47]; exact z) h47, fun _ => ⟨?_, mo_k (x := 1) (fun s hs => rl2_2 (by decide) gl hs)⟩⟩
        have hm := bl_mo (p := fun s => !(decide (xg 0 h.2.1 41 (4096 * t + s) = 0)) || !(decide (xg 0 h.2.1 42 (4096 * t + s) = 0))) (fun s u hs hu hsu z => by
          rw [Bool.or_eq_true, Bool.not_eq_true', Bool.not_eq_true'] at z ⊢
          rcases z with z | z
          · exact Or.inl (decide_eq_false (nz_mo (f := fun s => xg 0 h.2.1 41 (4096 * t + s)) m41 (b41 s hs).1 hs hu hsu (of_decide_eq_false z)))
          · exact Or.inr (decide_eq_false (nz_mo (f := fun s => xg 0 h.2.1 42 (4096 * t + s)) m42 (b42 s hs).1 hs hu hsu (of_decide_eq_false z))))
        intro s u hs hu hsu
        have h1 := hm s u hs hu hsu
        dsimp only at h1 ⊢
        rw [rl2_1 gl hs, rl2_1 gl hu]
        exact h1
      · exact lvo_c (c t ht) (fun s hs => rl2_o gl (by omega) (by omega)) (fun s hs => rl2_o gl (by omega) (by omega)) (fun s hs => rl2_o gl (by omega) (by omega)) (e47 t)
    have fr2 : fr h2 = fr h0 := (fr_c (e39 8)).trans efr
    refine xa_tn 279 [0, 1] [(0, .ref 39), (1, .int (nI (4096 * tp)))] [] h2 [true] 5 q2 rfl ⟨by decide, trivial⟩ (fun _ => ?_)
    refine xa_tn 280 [0, 1] [(0, .ref 39), (1, .int (nI (4096 * tp)))] [.ref 39] h2 [] 3 q2 rfl trivial (fun _ => ?_)
    refine xp_run q2 rfl rfl (isOr_run (d := d) q2) ?_
    rintro v h3 ⟨rfl, rfl⟩
    cases hor : kyb h2 423 with
    | true =>
      have k2 := kd_e (k := 2) (by decide) (kyb_2 hor)
      refine xa_tn 292 [] [] [.ref 39] (xh_ui h2 39 29 (Int32.ofInt 1)) [false] 7 q2 rfl ⟨rfl, Or.inr rfl, trivial⟩ (fun _ => ?_)
      have hk3' : hk bg_md h2 (xh_ui h2 39 29 (Int32.ofInt 1)) := hk_ui (s := (0, 10)) (lo := 0) (hi := 1) (hk_0 r2.1.1) hn2 rfl rfl (by decide) (by decide) rfl rfl
      have r3 := rI_ui r2 hk3' (by omega) (by decide)
      have eo : ∀ c k, ¬ (c = 39 ∧ k = 29) → xg 0 (xh_ui h2 39 29 (Int32.ofInt 1)).2.1 c k = xg 0 h2.2.1 c k := fun c k e => gx_i e
      have e29 : xg 0 (xh_ui h2 39 29 (Int32.ofInt 1)).2.1 39 29 = 1 := gx_s
      generalize xh_ui h2 39 29 (Int32.ofInt 1) = h3 at hk3' r3 eo e29 ⊢
      refine xp_run (hk_q hk3' hn2) rfl rfl (pg (d := d) (hk_n hk3' hn2) r3.1) ?_
      rintro v h5 ⟨rfl, kg5, p5, f5⟩
      have r5 : rI h5 sz B := rI_go r3 kg5 p5
      have hk5 : hk bg_md h0 h5 := hk_t (hk_t hk2 hk3' (fun _ z => z)) kg5 (by decide)
      refine xa_tn 296 [] [] [.int (Int32.ofInt 1)] h5 [] 3 (hk_q hk5 hn0) rfl trivial (fun _ => ?_)
      have kd3 : kd h3 = 2 := by
        unfold kd at k2 ⊢
        rw [eo 39 9 (by omega)]
        exact k2
      have fr3 : fr h3 = fr h0 := (fr_c (eo 39 8 (by omega))).trans fr2
      have f6 := f5 (by omega)
      refine xp_ret rfl rfl rfl ⟨hk_t (hk_0 hi0) hk5 (by decide), Or.inr ⟨rfl, Or.inr ⟨?_, rI_B (by omega) r5, Or.inl ⟨by omega, Or.inl ?_⟩⟩⟩⟩
      · rw [hk_g (c := 39) (k := 30) kg5 rfl rfl, eo 39 30 (by omega), e39]
        exact h30
      · rw [hk_g (c := 39) (k := 29) kg5 rfl rfl]
        exact e29
    | false =>
      refine xa_tn 299 [0, 1, 2] [(0, .ref 39), (1, .int (nI (4096 * tp))), (2, .int (Int32.ofInt 0))] [] h2 [true] 5 q2 rfl ⟨rfl, trivial⟩ (fun _ => ?_)
      exact er_4 hi0 hn0 hk2 r2 (by rw [e39]; exact h30) (by rw [e39]; exact h29) (by rw [e39]; exact htp) t12 (by rw [e47]; exact h47) fr2
set_option maxRecDepth 100000 in
set_option maxHeartbeats 16000000 in
/-- X10.end of a rule's one -/
theorem er_2 {d sz tp : Nat} {B : Int} {h : xh_H} (hn : 72 ≤ h.1.length) (g : rI h sz B) (h45 : mo h 45 0) (h30 : xg 0 h.2.1 39 30 = 0) (h29 : xg 0 h.2.1 39 29 = 0) (htp : xg 0 h.2.1 39 28 = nI tp) (t12 : tp ≤ 12) (h47 : xg 0 h.2.1 47 tp ≠ 2) : xt_P (d + 2) xi_X10_end_ xmi_X10_end_ 156 [(0, .ref 39), (1, .int (nI (4096 * tp))), (2, .int (Int32.ofInt 0))] [] h (ed_Q h sz B) := by
  have hq := a_rq_of g.1.1.1 hn
  have hlv : lvo h tp B := by
    obtain ⟨-, -, tp', a, b, c⟩ := g
    have e : tp' = tp := (nI_eq (by omega) (by omega)).mp (by rw [← a]; exact htp)
    subst e
    exact c tp' (Nat.le_refl _)
  obtain ⟨m41, m42⟩ := hlv.2 h47
  have b42 : ∀ s, s < 4096 → 0 ≤ (xg 0 h.2.1 42 (4096 * tp + s)).toInt ∧ (xg 0 h.2.1 42 (4096 * tp + s)).toInt ≤ 1 := fun s hs => a_blx (c := 42) (k := 4096 * tp + s) (lo := 0) (hi := 1) g.1.1.1 hn rfl rfl (by omega)
  have b45 : ∀ s, s < 4096 → 0 ≤ (xg 0 h.2.1 45 s).toInt ∧ (xg 0 h.2.1 45 s).toInt ≤ 1 := fun s hs => a_blx (c := 45) (k := s) (lo := 0) (hi := 1) g.1.1.1 hn rfl rfl hs
  have m45 : a_mono (fun s => (xg 0 h.2.1 45 s).toInt) 4096 := by
    intro s t hs ht hst
    have := h45 s t hs ht hst
    dsimp only at this ⊢
    rw [Nat.zero_add, Nat.zero_add] at this
    exact this
  refine rl_loop (h0 := h) (c := 42) (B := 4096 * tp) (F := fun s => bl (!(decide (xg 0 h.2.1 42 (4096 * tp + s) = 0)) && !(decide (xg 0 h.2.1 45 s = 0)))) (N := 4096) (P := fun s h' => xt_P (d + 2) xi_X10_end_ xmi_X10_end_ 156 [(0, .ref 39), (1, .int (nI (4096 * tp))), (2, .int (nI s))] [] h' (ed_Q h sz B)) ?_ ?_
  · intro s h2 hs gl K
    have q2 := rl_q gl hq
    have hge : xe_c .ge (nI s) 4096 = false := nge_f (b := 4096) (by omega) (by omega) hs
    have hin := xin_n (k := s) (n := 4096) hs (by omega)
    have ecl : (nI s).toNatClampNeg = s := nI_clamp (by omega)
    have e1 : nI s + Int32.ofInt 1 = nI (s + 1) := nI_1 s
    have ecl2 : (nI (4096 * tp) + nI s).toNatClampNeg = 4096 * tp + s := by rw [nIa]; exact nI_clamp (by omega)
    have hin2 : xe_in ((nI (4096 * tp)) + (nI s)) 53248 = true := by rw [nIa]; exact xin_n (by omega) (by omega)
    have g42 : xg 0 h2.2.1 42 (4096 * tp + s) = xg 0 h.2.1 42 (4096 * tp + s) := rl_o gl (by omega)
    have g45 : xg 0 h2.2.1 45 s = xg 0 h.2.1 45 s := rl_o gl (by omega)
    cases c1 : xe_c .eq (xg 0 h.2.1 42 (4096 * tp + s)) 0 with
    | true =>
      rw [show decide (xg 0 h.2.1 42 (4096 * tp + s) = 0) = true from c1] at K
      refine xa_tn 156 [0, 1, 2] [(0, .ref 39), (1, .int (nI (4096 * tp))), (2, .int ((nI s) + Int32.ofInt 1))] [] (xh_ui h2 42 ((nI (4096 * tp)) + (nI s)).toNatClampNeg (vp_nar .boolean (Int32.ofInt 0))) [false, true] 21 q2 rfl ⟨hge, hin2, (show xe_c .eq (xg 0 h2.2.1 42 ((nI (4096 * tp)) + (nI s)).toNatClampNeg) 0 = true by rw [ecl2, g42]; exact c1), hin2, trivial⟩ (fun _ => ?_)
      rw [ecl2, e1]
      exact K
    | false =>
      rw [show decide (xg 0 h.2.1 42 (4096 * tp + s) = 0) = false from c1] at K
      cases c2 : xe_c .eq (xg 0 h.2.1 45 s) 0 with
      | true =>
        rw [show decide (xg 0 h.2.1 45 s = 0) = true from c2] at K
        refine xa_tn 156 [0, 1, 2] [(0, .ref 39), (1, .int (nI (4096 * tp))), (2, .int ((nI s) + Int32.ofInt 1))] [] (xh_ui h2 42 ((nI (4096 * tp)) + (nI s)).toNatClampNeg (vp_nar .boolean (Int32.ofInt 0))) [false, false, true] 26 q2 rfl ⟨hge, hin2, (show xe_c .eq (xg 0 h2.2.1 42 ((nI (4096 * tp)) + (nI s)).toNatClampNeg) 0 = false by rw [ecl2, g42]; exact c1), hin, (show xe_c .eq (xg 0 h2.2.1 45 (nI s).toNatClampNeg) 0 = true by rw [ecl, g45]; exact c2), hin2, trivial⟩ (fun _ => ?_)
        rw [ecl2, e1]
        exact K
      | false =>
        rw [show decide (xg 0 h.2.1 45 s = 0) = false from c2] at K
        refine xa_tn 156 [0, 1, 2] [(0, .ref 39), (1, .int (nI (4096 * tp))), (2, .int ((nI s) + Int32.ofInt 1))] [] (xh_ui h2 42 ((nI (4096 * tp)) + (nI s)).toNatClampNeg (vp_nar .boolean (Int32.ofInt 1))) [false, false, false] 27 q2 rfl ⟨hge, hin2, (show xe_c .eq (xg 0 h2.2.1 42 ((nI (4096 * tp)) + (nI s)).toNatClampNeg) 0 = false by rw [ecl2, g42]; exact c1), hin, (show xe_c .eq (xg 0 h2.2.1 45 (nI s).toNatClampNeg) 0 = false by rw [ecl, g45]; exact c2), hin2, trivial⟩ (fun _ => ?_)
        rw [ecl2, e1]
        exact K
  · intro h2 gl
    have q2 := rl_q gl hq
    have hk2 : hk bg_md h h2 := rl_hk (kd := 3) (sz := 53248) (lo := 0) (hi := 1) gl (hk_0 g.1.1) hn rfl (by decide) rfl (fun _ _ => bl_b) (fun _ => rfl) (fun _ => rfl)
    have hn2 := hk_n hk2 hn
    have e39 : ∀ k, xg 0 h2.2.1 39 k = xg 0 h.2.1 39 k := fun k => rl_o gl (by omega)
    have e47 : ∀ k, xg 0 h2.2.1 47 k = xg 0 h.2.1 47 k := fun k => rl_o gl (by omega)
    have r2 : rI h2 sz B := by
      obtain ⟨p, z47, tp', a, b, c⟩ := g
      have e : tp' = tp := (nI_eq (by omega) (by omega)).mp (by rw [← a]; exact htp)
      subst e
      refine ⟨pi_tr p hk2 (go_Pc p.2.2.2.1 (fun j _ _ => e39 j)), by rw [e47]; exact z47, tp', by rw [e39]; exact a, b, fun t ht => ?_⟩
      by_cases et : t = tp'
      · subst et
        refine ⟨fun z => absurd (by rw [← e47]; exact z) h47, fun _ => ⟨mo_c m41 (fun s hs => rl_o gl (by omega)), ?_⟩⟩
        have hm := bl_mo (p := fun s => !(decide (xg 0 h.2.1 42 (4096 * t + s) = 0)) && !(decide (xg 0 h.2.1 45 s = 0))) (fun s u hs hu hsu z => by
          rw [Bool.and_eq_true, Bool.not_eq_true', Bool.not_eq_true'] at z ⊢
          exact ⟨decide_eq_false (nz_mo (f := fun s => xg 0 h.2.1 42 (4096 * t + s)) m42 (b42 s hs).1 hs hu hsu (of_decide_eq_false z.1)), decide_eq_false (nz_mo (f := fun s => xg 0 h.2.1 45 s) m45 (b45 s hs).1 hs hu hsu (of_decide_eq_false z.2))⟩)
        intro s u hs hu hsu
        have h1 := hm s u hs hu hsu
        dsimp only at h1 ⊢
        rw [rl_i gl hs, rl_i gl hu]
        exact h1
      · exact lvo_c (c t ht) (fun s hs => rl_o gl (by omega)) (fun s hs => rl_o gl (by omega)) (fun s hs => rl_o gl (by omega)) (e47 t)
    have fr2 : fr h2 = fr h := fr_c (e39 8)
    refine xa_tn 202 [0, 1] [(0, .ref 39), (1, .int (nI (4096 * tp)))] [] h2 [true] 5 q2 rfl ⟨by decide, trivial⟩ (fun _ => ?_)
    refine xa_tn 203 [0, 1] [(0, .ref 39), (1, .int (nI (4096 * tp)))] [.ref 39] h2 [] 3 q2 rfl trivial (fun _ => ?_)
    refine xp_run q2 rfl rfl (isAnd_run (d := d) q2) ?_
    rintro v h3 ⟨rfl, rfl⟩
    cases hand : kyb h2 1111 with
    | true =>
      have k2 := kd_e (k := 2) (by decide) (kyb_2 hand)
      refine xa_tn 215 [] [] [.ref 39] (xh_ui h2 39 29 (Int32.ofInt 1)) [false] 7 q2 rfl ⟨rfl, Or.inr rfl, trivial⟩ (fun _ => ?_)
      have hk3' : hk bg_md h2 (xh_ui h2 39 29 (Int32.ofInt 1)) := hk_ui (s := (0, 10)) (lo := 0) (hi := 1) (hk_0 r2.1.1) hn2 rfl rfl (by decide) (by decide) rfl rfl
      have r3 := rI_ui r2 hk3' (by omega) (by decide)
      have eo : ∀ c k, ¬ (c = 39 ∧ k = 29) → xg 0 (xh_ui h2 39 29 (Int32.ofInt 1)).2.1 c k = xg 0 h2.2.1 c k := fun c k e => gx_i e
      have e29 : xg 0 (xh_ui h2 39 29 (Int32.ofInt 1)).2.1 39 29 = 1 := gx_s
      generalize xh_ui h2 39 29 (Int32.ofInt 1) = h3 at hk3' r3 eo e29 ⊢
      refine xp_run (hk_q hk3' hn2) rfl rfl (pg (d := d) (hk_n hk3' hn2) r3.1) ?_
      rintro v h5 ⟨rfl, kg5, p5, f5⟩
      have r5 : rI h5 sz B := rI_go r3 kg5 p5
      have hk5 : hk bg_md h h5 := hk_t (hk_t hk2 hk3' (fun _ z => z)) kg5 (by decide)
      refine xa_tn 219 [] [] [.int (Int32.ofInt 1)] h5 [] 3 (hk_q hk5 hn) rfl trivial (fun _ => ?_)
      have kd3 : kd h3 = 2 := by
        unfold kd at k2 ⊢
        rw [eo 39 9 (by omega)]
        exact k2
      have fr3 : fr h3 = fr h := (fr_c (eo 39 8 (by omega))).trans fr2
      have f6 := f5 (by omega)
      refine xp_ret rfl rfl rfl ⟨hk_t (hk_0 g.1.1) hk5 (by decide), Or.inr ⟨rfl, Or.inr ⟨?_, rI_B (by omega) r5, Or.inl ⟨by omega, Or.inl ?_⟩⟩⟩⟩
      · rw [hk_g (c := 39) (k := 30) kg5 rfl rfl, eo 39 30 (by omega), e39]
        exact h30
      · rw [hk_g (c := 39) (k := 29) kg5 rfl rfl]
        exact e29
    | false =>
      refine xa_tn 222 [0, 1, 2] [(0, .ref 39), (1, .int (nI (4096 * tp))), (2, .int (Int32.ofInt 0))] [] h2 [true] 5 q2 rfl ⟨rfl, trivial⟩ (fun _ => ?_)
      exact er_3 g.1.1 hn hk2 r2 (by rw [e39]; exact h30) (by rw [e39]; exact h29) (by rw [e39]; exact htp) t12 (by rw [e47]; exact h47) fr2
set_option maxRecDepth 100000 in
set_option maxHeartbeats 16000000 in
/-- X10.end -/
theorem en_run' {d sz : Nat} {B : Int} {h : xh_H} (hB0 : 0 ≤ B) (hB : B ≤ 20000000) (hn : 72 ≤ h.1.length) (g : rI h sz B) (h45 : mo h 45 0) (h30 : xg 0 h.2.1 39 30 = 0) (h29 : xg 0 h.2.1 39 29 = 0) : xt_P (d + 2) xi_X10_end_ xmi_X10_end_ 0 [(0, .ref 39)] [] h (ed_Q h sz B) := by
  have hq := a_rq_of g.1.1.1 hn
  obtain ⟨tp, t28, t12⟩ : ∃ tp : Nat, xg 0 h.2.1 39 28 = nI tp ∧ tp ≤ 12 := by
    obtain ⟨-, -, tp, a, b, -⟩ := g
    exact ⟨tp, a, b⟩
  have hin : xe_in (xg 0 h.2.1 39 28) 13 = true := by rw [t28]; exact xin_n (by omega) (by omega)
  have etc : (nI tp).toNatClampNeg = tp := nI_clamp (by omega)
  have e4 : (4096 : Int32) * nI tp = nI (4096 * tp) := by rw [nI_mul2]; rfl
  cases c1 : xe_c .ne (xg 0 h.2.1 47 (xg 0 h.2.1 39 28).toNatClampNeg) (Int32.ofInt 2) with
  | false =>
    refine xa_tn 24 [0, 1, 2] [(0, .ref 39), (1, .int (4096 * (xg 0 h.2.1 39 28))), (2, .int (Int32.ofInt 0))] [] h [false] 16 hq rfl ⟨hin, c1, trivial⟩ (fun _ => ?_)
    have z := xne_j c1
    rw [t28, etc] at z
    rw [t28, e4]
    exact el_run hB0 hB hn g h45 h30 h29 t28 t12 z
  | true =>
    refine xa_tn 156 [0, 1, 2] [(0, .ref 39), (1, .int (4096 * (xg 0 h.2.1 39 28))), (2, .int (Int32.ofInt 0))] [] h [true] 16 hq rfl ⟨hin, c1, trivial⟩ (fun _ => ?_)
    have z := xne_i c1
    rw [t28, etc] at z
    rw [t28, e4]
    exact er_2 hn g h45 h30 h29 t28 t12 z
end XE3
