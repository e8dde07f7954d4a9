section
section XE2
/-- the levels but the last one -/
def lvs (h : xh_H) (tp : Nat) (B : Int) : Prop := ∀ t, t < tp → lvo h t B
set_option maxRecDepth 100000 in
set_option maxHeartbeats 16000000 in
/-- X10.end of a rule's one, from the end of 'or' on -/
theorem er_4 {d sz tp : Nat} {B : Int} {h0 h : xh_H} (hi0 : a_inv a_tb h0) (hn0 : 72 ≤ h0.1.length) (hk0 : hk bg_md h0 h) (g : rI h sz B) (h30 : xg 0 h.2.1 39 30 = 0) (h29 : xg 0 h.2.1 39 29 = 0) (htp : xg 0 h.2.1 39 28 = nI tp) (t12 : tp ≤ 12) (h47 : xg 0 h.2.1 47 tp ≠ 2) (efr : fr h = fr h0) : xt_P (d + 2) xi_X10_end_ xmi_X10_end_ 299 [(0, .ref 39), (1, .int (nI (4096 * tp))), (2, .int (Int32.ofInt 0))] [] h (ed_Q h0 sz B) := by
  have hn := hk_n hk0 hn0
  have hq := a_rq_of g.1.1.1 hn
  have etc : (nI tp).toNatClampNeg = tp := nI_clamp (by omega)
  have hlv : lvo h tp B := by
    obtain ⟨-, -, tp', a, b, c⟩ := g
    have e : tp' = tp := (nI_eq (by omega) (by omega)).mp (by rw [← a]; exact htp)
    subst e
    exact c tp' (Nat.le_refl _)
  have m41 := (hlv.2 h47).1
  have b41 : ∀ s, s < 4096 → 0 ≤ (xg 0 h.2.1 41 (4096 * tp + s)).toInt ∧ (xg 0 h.2.1 41 (4096 * tp + s)).toInt ≤ 1 := fun s hs => a_blx (c := 41) (k := 4096 * tp + s) (lo := 0) (hi := 1) g.1.1.1 hn rfl rfl (by omega)
  refine rl_loop (h0 := h) (c := 45) (B := 0) (F := fun s => xg 0 h.2.1 41 (4096 * tp + s)) (N := 4096) (P := fun s h' => xt_P (d + 2) xi_X10_end_ xmi_X10_end_ 299 [(0, .ref 39), (1, .int (nI (4096 * tp))), (2, .int (nI s))] [] h' (ed_Q h0 sz B)) ?_ ?_
  · intro s h2 hs gl K
    have q2 := rl_q gl hq
    have e1 : nI s + Int32.ofInt 1 = nI (s + 1) := nI_1 s
    have ecl : (nI s).toNatClampNeg = s := nI_clamp (by omega)
    have ecl2 : (nI (4096 * tp + s)).toNatClampNeg = 4096 * tp + s := nI_clamp (by omega)
    have g41 : xg 0 h2.2.1 41 (4096 * tp + s) = xg 0 h.2.1 41 (4096 * tp + s) := rl_o gl (by omega)
    rw [Nat.zero_add] at K
    refine xa_tn 299 [0, 1, 2] [(0, .ref 39), (1, .int (nI (4096 * tp))), (2, .int ((nI s) + Int32.ofInt 1))] [] (xh_ui h2 45 (nI s).toNatClampNeg (vp_nar .boolean (xg 0 h2.2.1 41 ((nI (4096 * tp)) + (nI s)).toNatClampNeg))) [false] 17 q2 rfl ⟨nge_f (b := 4096) (by omega) (by omega) hs, (show xe_in ((nI (4096 * tp)) + (nI s)) 53248 = true by rw [nIa]; exact xin_n (by omega) (by omega)), xin_n hs (by omega), trivial⟩ (fun _ => ?_)
    rw [nIa, ecl, ecl2, g41, b01 (b41 s hs).1 (b41 s hs).2, e1]
    exact K
  · intro h2 gl
    have q2 := rl_q gl hq
    have hk2' : hk bg_md h h2 := rl_hk (kd := 3) (sz := 4096) (lo := 0) (hi := 1) gl (hk_0 g.1.1) hn rfl (by decide) rfl b41 (fun _ => rfl) (fun _ => rfl)
    have hn2 := hk_n hk2' hn
    have hk2 : hk bg_md h0 h2 := hk_t hk0 hk2' (fun _ z => z)
    have r2 : rI h2 sz B := rI_tr g hk2' (go_Pc g.1.2.2.2.1 (fun j _ _ => rl_o gl (by omega))) (rl_o gl (by omega)) (fun _ => rl_o gl (by omega)) (fun _ => rl_o gl (by omega)) (fun _ => rl_o gl (by omega)) (fun _ => rl_o gl (by omega))
    have e39 : ∀ k, xg 0 h2.2.1 39 k = xg 0 h.2.1 39 k := fun k => rl_o gl (by omega)
    have m45 : mo h2 45 0 := by
      intro s t hs ht hst
      have h1 := m41 s t hs ht hst
      dsimp only at h1 ⊢
      rw [rl_i gl hs, rl_i gl ht]
      exact h1
    have e28 : xg 0 h2.2.1 39 28 = nI tp := by rw [e39]; exact htp
    have hin : xe_in (xg 0 h2.2.1 39 28) 13 = true := by rw [e28]; exact xin_n (by omega) (by omega)
    have fr2 : fr h2 = fr h0 := (fr_c (e39 8)).trans efr
    refine xa_tn 326 [0] [(0, .ref 39)] [] h2 [true] 5 q2 rfl ⟨by decide, trivial⟩ (fun _ => ?_)
    cases c1 : xe_c .ne (xg 0 h2.2.1 47 (xg 0 h2.2.1 39 28).toNatClampNeg) 0 with
    | false =>
      refine xa_tn 346 [0] [(0, .ref 39)] [.int 59, .ref 39] (xh_ui h2 39 30 (Int32.ofInt 1)) [false] 13 q2 rfl ⟨hin, c1, Or.inr rfl, trivial⟩ (fun _ => ?_)
      have hk3' : hk ed_md h2 (xh_ui h2 39 30 (Int32.ofInt 1)) := hk_ui (s := (0, 10)) (lo := 0) (hi := 1) (hk_0 r2.1.1) hn2 rfl rfl (by decide) (by decide) rfl rfl
      have eo : ∀ c k, ¬ (c = 39 ∧ k = 30) → xg 0 (xh_ui h2 39 30 (Int32.ofInt 1)).2.1 c k = xg 0 h2.2.1 c k := fun c k e => gx_i e
      have e30 : xg 0 (xh_ui h2 39 30 (Int32.ofInt 1)).2.1 39 30 = 1 := gx_s
      have i3 : a_inv a_tb (xh_ui h2 39 30 (Int32.ofInt 1)) := hk3'.1
      generalize xh_ui h2 39 30 (Int32.ofInt 1) = h3 at hk3' eo e30 i3 ⊢
      have hk3 : hk ed_md h0 h3 := hk_t (hk_t (hk_0 (h := h0) (md := ed_md) hi0) hk2 (by decide)) hk3' (fun _ z => z)
      have q3 := hk_q hk3 hn0
      refine xp_run q3 rfl rfl (sg_run (d := d + 1) (c := 59) q3) ?_
      rintro v h4 ⟨rfl, rfl⟩
      cases hs : sgb h3 59 with
      | true =>
        have k4 := kd_e (k := 4) (by decide) (sgb_4 hs)
        refine xa_tn 365 [] [] [.int (Int32.ofInt 1)] h3 [true] 5 q3 rfl ⟨rfl, trivial⟩ (fun _ => ?_)
        refine xp_ret rfl rfl rfl ⟨hk3, Or.inr ⟨rfl, Or.inl ⟨e30, ?_, mo_c m45 (fun s _ => eo 45 _ (by omega)), k4, (fr_c (eo 39 8 (by omega))).trans fr2⟩⟩⟩
        obtain ⟨p1, p2, p3, p4, nn, p5, p6, p7⟩ := r2.1
        exact ⟨i3, p2, by rw [eo 39 6 (by omega)]; exact p3, go_Pc p4 (fun j _ _ => eo 39 j (by omega)), nn, by rw [eo 39 26 (by omega)]; exact p5, p6, fun k hk' => mo_c (p7 k hk') (fun s _ => eo 43 _ (by omega))⟩
      | false =>
        refine xa_tn 354 [] [] [.int (Int32.ofInt 1), .ref 39] h3 [false] 5 q3 rfl ⟨rfl, trivial⟩ (fun _ => ?_)
        refine xp_int (C := aC_m_X10_bad) (lo := 0) (hi := 0) (σ := fun _ => 0) as_m_X10_bad q3 i3 rfl rfl rfl (Nat.zero_le _) ⟨a_av (by decide) q3.1, a_ai (by decide) (by decide), trivial⟩ a_fp0 rfl (fun x hx x1 x2 ix lx fx qx => ?_)
        cases i00 x1 x2
        refine xa_tn 365 [] [] [.int (Int32.ofInt 0)] hx [true] 4 qx rfl ⟨rfl, trivial⟩ (fun _ => ?_)
        exact xp_ret rfl rfl rfl ⟨hk_c hk3 ix lx fx (by decide), Or.inl rfl⟩
    | true =>
      refine xa_tn 369 [0] [(0, .ref 39)] [.int 41, .ref 39] h2 [true] 10 q2 rfl ⟨hin, c1, trivial⟩ (fun _ => ?_)
      refine xp_run q2 rfl rfl (sg_run (d := d + 1) (c := 41) q2) ?_
      rintro v h4 ⟨rfl, rfl⟩
      cases hs : sgb h2 41 with
      | false =>
        refine xa_tn 377 [] [] [.int (Int32.ofInt 1), .ref 39] h2 [false] 5 q2 rfl ⟨rfl, trivial⟩ (fun _ => ?_)
        refine xp_int (C := aC_m_X10_bad) (lo := 0) (hi := 0) (σ := fun _ => 0) as_m_X10_bad q2 r2.1.1 rfl rfl rfl (Nat.zero_le _) ⟨a_av (by decide) q2.1, a_ai (by decide) (by decide), trivial⟩ a_fp0 rfl (fun x hx x1 x2 ix lx fx qx => ?_)
        cases i00 x1 x2
        exact xp_ret rfl rfl rfl ⟨hk_t (hk_0 hi0) (hk_c hk2 ix lx fx (by decide)) (by decide), Or.inl rfl⟩
      | true =>
        have k4 := kd_e (k := 4) (by decide) (sgb_4 hs)
        have tp1 : 1 ≤ tp := by
          rcases Nat.eq_zero_or_pos tp with z | z
          · exfalso
            rw [e28, z] at c1
            have c2 := xne_i c1
            exact c2 r2.2.1
          · exact z
        obtain ⟨t', rfl⟩ : ∃ t', tp = t' + 1 := ⟨tp - 1, by omega⟩
        refine xa_tn 392 [] [] [.ref 39] (xh_ui h2 39 28 ((xg 0 h2.2.1 39 28) - (Int32.ofInt 1))) [true] 10 q2 rfl ⟨rfl, trivial⟩ (fun _ => ?_)
        rw [e28, nI_sub1]
        have ti := nI_toInt (n := t') (by omega)
        have hk3' : hk bg_md h2 (xh_ui h2 39 28 (nI t')) := hk_ui (s := (0, 10)) (lo := 0) (hi := 12) (hk_0 r2.1.1) hn2 rfl rfl (by omega) (by omega) rfl rfl
        have r3 := rI_dn r2 e28 hk3' (by omega)
        have eo : ∀ c k, ¬ (c = 39 ∧ k = 28) → xg 0 (xh_ui h2 39 28 (nI t')).2.1 c k = xg 0 h2.2.1 c k := fun c k e => gx_i e
        generalize xh_ui h2 39 28 (nI t') = h3 at hk3' r3 eo ⊢
        refine xp_run (hk_q hk3' hn2) rfl rfl (pg (d := d) (hk_n hk3' hn2) r3.1) ?_
        rintro v h5 ⟨rfl, kg5, p5, f5⟩
        have r5 : rI h5 sz B := rI_go r3 kg5 p5
        have hk5 : hk bg_md h0 h5 := hk_t (hk_t hk2 hk3' (fun _ z => z)) kg5 (by decide)
        refine xa_tn 396 [] [] [.int (Int32.ofInt 1)] h5 [] 3 (hk_q hk5 hn0) rfl trivial (fun _ => ?_)
        have kd3 : kd h3 = 4 := by
          unfold kd at k4 ⊢
          rw [eo 39 9 (by omega)]
          exact k4
        have fr3 : fr h3 = fr h0 := (fr_c (eo 39 8 (by omega))).trans fr2
        have f6 := f5 (by omega)
        refine xp_ret rfl rfl rfl ⟨hk_t (hk_0 hi0) hk5 (by decide), Or.inr ⟨rfl, Or.inr ⟨?_, rI_B (by omega) r5, Or.inl ⟨by omega, Or.inr ⟨?_, ?_⟩⟩⟩⟩⟩
        · rw [hk_g (c := 39) (k := 30) kg5 rfl rfl, eo 39 30 (by omega), e39]
          exact h30
        · rw [hk_g (c := 39) (k := 29) kg5 rfl rfl, eo 39 29 (by omega), e39]
          exact h29
        · exact mo_c m45 (fun s _ => by rw [hk_g (c := 45) (k := 0 + s) kg5 rfl rfl, eo 45 _ (by omega)])
end XE2
end
section
section XE3
set_option maxRecDepth 100000 in
set_option maxHeartbeats 16000000 in
/-- X10.end of a rule's one, from 'or' on -/
theorem er_3 {d sz tp : Nat} {B : Int} {h0 h : xh_H} (hi0 : a_inv a_tb h0) (hn0 : 72 ≤ h0.1.length) (hk0 : hk bg_md h0 h) (g : rI h sz B) (h30 : xg 0 h.2.1 39 30 = 0) (h29 : xg 0 h.2.1 39 29 = 0) (htp : xg 0 h.2.1 39 28 = nI tp) (t12 : tp ≤ 12) (h47 : xg 0 h.2.1 47 tp ≠ 2) (efr : fr h = fr h0) : xt_P (d + 2) xi_X10_end_ xmi_X10_end_ 222 [(0, .ref 39), (1, .int (nI (4096 * tp))), (2, .int (Int32.ofInt 0))] [] h (ed_Q h0 sz B) := by
  have hn := hk_n hk0 hn0
  have hq := a_rq_of g.1.1.1 hn
  have hlv : lvo h tp B := by
    obtain ⟨-, -, tp', a, b, c⟩ := g
    have e : tp' = tp := (nI_eq (by omega) (by omega)).mp (by rw [← a]; exact htp)
    subst e
    exact c tp' (Nat.le_refl _)
  obtain ⟨m41, m42⟩ := hlv.2 h47
  have b41 : ∀ s, s < 4096 → 0 ≤ (xg 0 h.2.1 41 (4096 * tp + s)).toInt ∧ (xg 0 h.2.1 41 (4096 * tp + s)).toInt ≤ 1 := fun s hs => a_blx (c := 41) (k := 4096 * tp + s) (lo := 0) (hi := 1) g.1.1.1 hn rfl rfl (by omega)
  have b42 : ∀ s, s < 4096 → 0 ≤ (xg 0 h.2.1 42 (4096 * tp + s)).toInt ∧ (xg 0 h.2.1 42 (4096 * tp + s)).toInt ≤ 1 := fun s hs => a_blx (c := 42) (k := 4096 * tp + s) (lo := 0) (hi := 1) g.1.1.1 hn rfl rfl (by omega)
  refine rl2_loop (h0 := h) (c1 := 41) (c2 := 42) (B := 4096 * tp) (F1 := fun s => bl (!(decide (xg 0 h.2.1 41 (4096 * tp + s) = 0)) || !(decide (xg 0 h.2.1 42 (4096 * tp + s) = 0)))) (F2 := fun _ => 1) (N := 4096) (P := fun s h' => xt_P (d + 2) xi_X10_end_ xmi_X10_end_ 222 [(0, .ref 39), (1, .int (nI (4096 * tp))), (2, .int (nI s))] [] h' (ed_Q h0 sz B)) (by decide) ?_ ?_
  · intro s h2 hs gl K
    have q2 := rl2_q gl hq
    have hge : xe_c .ge (nI s) 4096 = false := nge_f (b := 4096) (by omega) (by omega) hs
    have e1 : nI s + Int32.ofInt 1 = nI (s + 1) := nI_1 s
    have ecl2 : (nI (4096 * tp) + nI s).toNatClampNeg = 4096 * tp + s := by rw [nIa]; exact nI_clamp (by omega)
    have hin2 : xe_in ((nI (4096 * tp)) + (nI s)) 53248 = true := by rw [nIa]; exact xin_n (by omega) (by omega)
    have g41 : xg 0 h2.2.1 41 (4096 * tp + s) = xg 0 h.2.1 41 (4096 * tp + s) := rl2_o gl (by omega) (by omega)
    have g42 : xg 0 h2.2.1 42 (4096 * tp + s) = xg 0 h.2.1 42 (4096 * tp + s) := rl2_o gl (by omega) (by omega)
    cases c1 : xe_c .ne (xg 0 h.2.1 41 (4096 * tp + s)) 0 with
    | true =>
      rw [decide_eq_false (show ¬ xg 0 h.2.1 41 (4096 * tp + s) = 0 from xne_i c1)] at K
      refine xa_tn 222 [0, 1, 2] [(0, .ref 39), (1, .int (nI (4096 * tp))), (2, .int ((nI s) + Int32.ofInt 1))] [] (xh_ui (xh_ui h2 41 ((nI (4096 * tp)) + (nI s)).toNatClampNeg (vp_nar .boolean (Int32.ofInt 1))) 42 ((nI (4096 * tp)) + (nI s)).toNatClampNeg (vp_nar .boolean (Int32.ofInt 1))) [false, true] 29 q2 rfl ⟨hge, hin2, (show xe_c .ne (xg 0 h2.2.1 41 ((nI (4096 * tp)) + (nI s)).toNatClampNeg) 0 = true by rw [ecl2, g41]; exact c1), hin2, hin2, trivial⟩ (fun _ => ?_)
      rw [ecl2, e1]
      exact K
    | false =>
      rw [decide_eq_true (show xg 0 h.2.1 41 (4096 * tp + s) = 0 from xne_j c1)] at K
      cases c2 : xe_c .eq (xg 0 h.2.1 42 (4096 * tp + s)) 0 with
      | true =>
        rw [show decide (xg 0 h.2.1 42 (4096 * tp + s) = 0) = true from c2] at K
        refine xa_tn 222 [0, 1, 2] [(0, .ref 39), (1, .int (nI (4096 * tp))), (2, .int ((nI s) + Int32.ofInt 1))] [] (xh_ui (xh_ui h2 41 ((nI (4096 * tp)) + (nI s)).toNatClampNeg (vp_nar .boolean (Int32.ofInt 0))) 42 ((nI (4096 * tp)) + (nI s)).toNatClampNeg (vp_nar .boolean (Int32.ofInt 1))) [false, false, true] 35 q2 rfl ⟨hge, hin2, (show xe_c .ne (xg 0 h2.2.1 41 ((nI (4096 * tp)) + (nI s)).toNatClampNeg) 0 = false by rw [ecl2, g41]; exact c1), hin2, (show xe_c .eq (xg 0 h2.2.1 42 ((nI (4096 * tp)) + (nI s)).toNatClampNeg) 0 = true by rw [ecl2, g42]; exact c2), hin2, hin2, trivial⟩ (fun _ => ?_)
        rw [ecl2, e1]
        exact K
      | false =>
        rw [show decide (xg 0 h.2.1 42 (4096 * tp + s) = 0) = false from c2] at K
        refine xa_tn 222 [0, 1, 2] [(0, .ref 39), (1, .int (nI (4096 * tp))), (2, .int ((nI s) + Int32.ofInt 1))] [] (xh_ui (xh_ui h2 41 ((nI (4096 * tp)) + (nI s)).toNatClampNeg (vp_nar .boolean (Int32.ofInt 1))) 42 ((nI (4096 * tp)) + (nI s)).toNatClampNeg (vp_nar .boolean (Int32.ofInt 1))) [false, false, false] 36 q2 rfl ⟨hge, hin2, (show xe_c .ne (xg 0 h2.2.1 41 ((nI (4096 * tp)) + (nI s)).toNatClampNeg) 0 = false by rw [ecl2, g41]; exact c1), hin2, (show xe_c .eq (xg 0 h2.2.1 42 ((nI (4096 * tp)) + (nI s)).toNatClampNeg) 0 = false by rw [ecl2, g42]; exact c2), hin2, hin2, trivial⟩ (fun _ => ?_)
        rw [ecl2, e1]
        exact K
  · intro h2 gl
    have q2 := rl2_q gl hq
    have hk2' : hk bg_md h h2 := rl2_hk (k1 := 3) (z1 := 53248) (k2 := 3) (z2 := 53248) (l1 := 0) (u1 := 1) (l2 := 0) (u2 := 1) (by decide) gl (hk_0 g.1.1) hn rfl rfl (by decide) (by decide) rfl rfl (fun _ _ => bl_b) (fun _ _ => by decide) (fun _ => rfl) (fun _ => rfl) (fun _ => rfl) (fun _ => rfl)
    have hn2 := hk_n hk2' hn
    have hk2 : hk bg_md h0 h2 := hk_t hk0 hk2' (fun _ z => z)
    have e39 : ∀ k, xg 0 h2.2.1 39 k = xg 0 h.2.1 39 k := fun k => rl2_o gl (by omega) (by omega)
    have e47 : ∀ k, xg 0 h2.2.1 47 k = xg 0 h.2.1 47 k := fun k => rl2_o gl (by omega) (by omega)
    have r2 : rI h2 sz B := by
      obtain ⟨p, z47, tp', a, b, c⟩ := g
      have e : tp' = tp := (nI_eq (by omega) (by omega)).mp (by rw [← a]; exact htp)
      subst e
      refine ⟨pi_tr p hk2' (go_Pc p.2.2.2.1 (fun j _ _ => e39 j)), by rw [e47]; exact z47, tp', by rw [e39]; exact a, b, fun t ht => ?_⟩
      by_cases et : t = tp'
      · subst et
        refine ⟨fun z => absurd (by rw [← e47]; exact z) h47, fun _ => ⟨?_, mo_k (x := 1) (fun s hs => rl2_2 (by decide) gl hs)⟩⟩
        have hm := bl_mo (p := fun s => !(decide (xg 0 h.2.1 41 (4096 * t + s) = 0)) || !(decide (xg 0 h.2.1 42 (4096 * t + s) = 0))) (fun s u hs hu hsu z => by
          rw [Bool.or_eq_true, Bool.not_eq_true', Bool.not_eq_true'] at z ⊢
          rcases z with z | z
          · exact Or.inl (decide_eq_false (nz_mo (f := fun s => xg 0 h.2.1 41 (4096 * t + s)) m41 (b41 s hs).1 hs hu hsu (of_decide_eq_false z)))
          · exact Or.inr (decide_eq_false (nz_mo (f := fun s => xg 0 h.2.1 42 (4096 * t + s)) m42 (b42 s hs).1 hs hu hsu (of_decide_eq_false z))))
        intro s u hs hu hsu
        have h1 := hm s u hs hu hsu
        dsimp only at h1 ⊢
        rw [rl2_1 gl hs, rl2_1 gl hu]
        exact h1
      · exact lvo_c (c t ht) (fun s hs => rl2_o gl (by omega) (by omega)) (fun s hs => rl2_o gl (by omega) (by omega)) (fun s hs => rl2_o gl (by omega) (by omega)) (e47 t)
    have fr2 : fr h2 = fr h0 := (fr_c (e39 8)).trans efr
    refine xa_tn 279 [0, 1] [(0, .ref 39), (1, .int (nI (4096 * tp)))] [] h2 [true] 5 q2 rfl ⟨by decide, trivial⟩ (fun _ => ?_)
    refine xa_tn 280 [0, 1] [(0, .ref 39), (1, .int (nI (4096 * tp)))] [.ref 39] h2 [] 3 q2 rfl trivial (fun _ => ?_)
    refine xp_run q2 rfl rfl (isOr_run (d := d) q2) ?_
    rintro v h3 ⟨rfl, rfl⟩
    cases hor : kyb h2 423 with
    | true =>
      have k2 := kd_e (k := 2) (by decide) (kyb_2 hor)
      refine xa_tn 292 [] [] [.ref 39] (xh_ui h2 39 29 (Int32.ofInt 1)) [false] 7 q2 rfl ⟨rfl, Or.inr rfl, trivial⟩ (fun _ => ?_)
      have hk3' : hk bg_md h2 (xh_ui h2 39 29 (Int32.ofInt 1)) := hk_ui (s := (0, 10)) (lo := 0) (hi := 1) (hk_0 r2.1.1) hn2 rfl rfl (by decide) (by decide) rfl rfl
      have r3 := rI_ui r2 hk3' (by omega) (by decide)
      have eo : ∀ c k, ¬ (c = 39 ∧ k = 29) → xg 0 (xh_ui h2 39 29 (Int32.ofInt 1)).2.1 c k = xg 0 h2.2.1 c k := fun c k e => gx_i e
      have e29 : xg 0 (xh_ui h2 39 29 (Int32.ofInt 1)).2.1 39 29 = 1 := gx_s
      generalize xh_ui h2 39 29 (Int32.ofInt 1) = h3 at hk3' r3 eo e29 ⊢
      refine xp_run (hk_q hk3' hn2) rfl rfl (pg (d := d) (hk_n hk3' hn2) r3.1) ?_
      rintro v h5 ⟨rfl, kg5, p5, f5⟩
      have r5 : rI h5 sz B := rI_go r3 kg5 p5
      have hk5 : hk bg_md h0 h5 := hk_t (hk_t hk2 hk3' (fun _ z => z)) kg5 (by decide)
      refine xa_tn 296 [] [] [.int (Int32.ofInt 1)] h5 [] 3 (hk_q hk5 hn0) rfl trivial (fun _ => ?_)
      have kd3 : kd h3 = 2 := by
        unfold kd at k2 ⊢
        rw [eo 39 9 (by omega)]
        exact k2
      have fr3 : fr h3 = fr h0 := (fr_c (eo 39 8 (by omega))).trans fr2
      have f6 := f5 (by omega)
      refine xp_ret rfl rfl rfl ⟨hk_t (hk_0 hi0) hk5 (by decide), Or.inr ⟨rfl, Or.inr ⟨?_, rI_B (by omega) r5, Or.inl ⟨by omega, Or.inl ?_⟩⟩⟩⟩
      · rw [hk_g (c := 39) (k := 30) kg5 rfl rfl, eo 39 30 (by omega), e39]
        exact h30
      · rw [hk_g (c := 39) (k := 29) kg5 rfl rfl]
        exact e29
    | false =>
      refine xa_tn 299 [0, 1, 2] [(0, .ref 39), (1, .int (nI (4096 * tp))), (2, .int (Int32.ofInt 0))] [] h2 [true] 5 q2 rfl ⟨rfl, trivial⟩ (fun _ => ?_)
      exact er_4 hi0 hn0 hk2 r2 (by rw [e39]; exact h30) (by rw [e39]; exact h29) (by rw [e39]; exact htp) t12 (by rw [e47]; exact h47) fr2
set_option maxRecDepth 100000 in
set_option maxHeartbeats 16000000 in
/-- X10.end of a rule's one -/
theorem er_2 {d sz tp : Nat} {B : Int} {h : xh_H} (hn : 72 ≤ h.1.length) (g : rI h sz B) (h45 : mo h 45 0) (h30 : xg 0 h.2.1 39 30 = 0) (h29 : xg 0 h.2.1 39 29 = 0) (htp : xg 0 h.2.1 39 28 = nI tp) (t12 : tp ≤ 12) (h47 : xg 0 h.2.1 47 tp ≠ 2) : xt_P (d + 2) xi_X10_end_ xmi_X10_end_ 156 [(0, .ref 39), (1, .int (nI (4096 * tp))), (2, .int (Int32.ofInt 0))] [] h (ed_Q h sz B) := by
  have hq := a_rq_of g.1.1.1 hn
  have hlv : lvo h tp B := by
    obtain ⟨-, -, tp', a, b, c⟩ := g
    have e : tp' = tp := (nI_eq (by omega) (by omega)).mp (by rw [← a]; exact htp)
    subst e
    exact c tp' (Nat.le_refl _)
  obtain ⟨m41, m42⟩ := hlv.2 h47
  have b42 : ∀ s, s < 4096 → 0 ≤ (xg 0 h.2.1 42 (4096 * tp + s)).toInt ∧ (xg 0 h.2.1 42 (4096 * tp + s)).toInt ≤ 1 := fun s hs => a_blx (c := 42) (k := 4096 * tp + s) (lo := 0) (hi := 1) g.1.1.1 hn rfl rfl (by omega)
  have b45 : ∀ s, s < 4096 → 0 ≤ (xg 0 h.2.1 45 s).toInt ∧ (xg 0 h.2.1 45 s).toInt ≤ 1 := fun s hs => a_blx (c := 45) (k := s) (lo := 0) (hi := 1) g.1.1.1 hn rfl rfl hs
  have m45 : a_mono (fun s => (xg 0 h.2.1 45 s).toInt) 4096 := by
    intro s t hs ht hst
    have := h45 s t hs ht hst
    dsimp only at this ⊢
    rw [Nat.zero_add, Nat.zero_add] at this
    exact this
  refine rl_loop (h0 := h) (c := 42) (B := 4096 * tp) (F := fun s => bl (!(decide (xg 0 h.2.1 42 (4096 * tp + s) = 0)) && !(decide (xg 0 h.2.1 45 s = 0)))) (N := 4096) (P := fun s h' => xt_P (d + 2) xi_X10_end_ xmi_X10_end_ 156 [(0, .ref 39), (1, .int (nI (4096 * tp))), (2, .int (nI s))] [] h' (ed_Q h sz B)) ?_ ?_
  · intro s h2 hs gl K
    have q2 := rl_q gl hq
    have hge : xe_c .ge (nI s) 4096 = false := nge_f (b := 4096) (by omega) (by omega) hs
    have hin := xin_n (k := s) (n := 4096) hs (by omega)
    have ecl : (nI s).toNatClampNeg = s := nI_clamp (by omega)
    have e1 : nI s + Int32.ofInt 1 = nI (s + 1) := nI_1 s
    have ecl2 : (nI (4096 * tp) + nI s).toNatClampNeg = 4096 * tp + s := by rw [nIa]; exact nI_clamp (by omega)
    have hin2 : xe_in ((nI (4096 * tp)) + (nI s)) 53248 = true := by rw [nIa]; exact xin_n (by omega) (by omega)
    have g42 : xg 0 h2.2.1 42 (4096 * tp + s) = xg 0 h.2.1 42 (4096 * tp + s) := rl_o gl (by omega)
    have g45 : xg 0 h2.2.1 45 s = xg 0 h.2.1 45 s := rl_o gl (by omega)
    cases c1 : xe_c .eq (xg 0 h.2.1 42 (4096 * tp + s)) 0 with
    | true =>
      rw [show decide (xg 0 h.2.1 42 (4096 * tp + s) = 0) = true from c1] at K
      refine xa_tn 156 [0, 1, 2] [(0, .ref 39), (1, .int (nI (4096 * tp))), (2, .int ((nI s) + Int32.ofInt 1))] [] (xh_ui h2 42 ((nI (4096 * tp)) + (nI s)).toNatClampNeg (vp_nar .boolean (Int32.ofInt 0))) [false, true] 21 q2 rfl ⟨hge, hin2, (show xe_c .eq (xg 0 h2.2.1 42 ((nI (4096 * tp)) + (nI s)).toNatClampNeg) 0 = true by rw [ecl2, g42]; exact c1), hin2, trivial⟩ (fun _ => ?_)
      rw [ecl2, e1]
      exact K
    | false =>
      rw [show decide (xg 0 h.2.1 42 (4096 * tp + s) = 0) = false from c1] at K
      cases c2 : xe_c .eq (xg 0 h.2.1 45 s) 0 with
      | true =>
        rw [show decide (xg 0 h.2.1 45 s = 0) = true from c2] at K
        refine xa_tn 156 [0, 1, 2] [(0, .ref 39), (1, .int (nI (4096 * tp))), (2, .int ((nI s) + Int32.ofInt 1))] [] (xh_ui h2 42 ((nI (4096 * tp)) + (nI s)).toNatClampNeg (vp_nar .boolean (Int32.ofInt 0))) [false, false, true] 26 q2 rfl ⟨hge, hin2, (show xe_c .eq (xg 0 h2.2.1 42 ((nI (4096 * tp)) + (nI s)).toNatClampNeg) 0 = false by rw [ecl2, g42]; exact c1), hin, (show xe_c .eq (xg 0 h2.2.1 45 (nI s).toNatClampNeg) 0 = true by rw [ecl, g45]; exact c2), hin2, trivial⟩ (fun _ => ?_)
        rw [ecl2, e1]
        exact K
      | false =>
        rw [show decide (xg 0 h.2.1 45 s = 0) = false from c2] at K
        refine xa_tn 156 [0, 1, 2] [(0, .ref 39), (1, .int (nI (4096 * tp))), (2, .int ((nI s) + Int32.ofInt 1))] [] (xh_ui h2 42 ((nI (4096 * tp)) + (nI s)).toNatClampNeg (vp_nar .boolean (Int32.ofInt 1))) [false, false, false] 27 q2 rfl ⟨hge, hin2, (show xe_c .eq (xg 0 h2.2.1 42 ((nI (4096 * tp)) + (nI s)).toNatClampNeg) 0 = false by rw [ecl2, g42]; exact c1), hin, (show xe_c .eq (xg 0 h2.2.1 45 (nI s).toNatClampNeg) 0 = false by rw [ecl, g45]; exact c2), hin2, trivial⟩ (fun _ => ?_)
        rw [ecl2, e1]
        exact K
  · intro h2 gl
    have q2 := rl_q gl hq
    have hk2 : hk bg_md h h2 := rl_hk (kd := 3) (sz := 53248) (lo := 0) (hi := 1) gl (hk_0 g.1.1) hn rfl (by decide) rfl (fun _ _ => bl_b) (fun _ => rfl) (fun _ => rfl)
    have hn2 := hk_n hk2 hn
    have e39 : ∀ k, xg 0 h2.2.1 39 k = xg 0 h.2.1 39 k := fun k => rl_o gl (by omega)
    have e47 : ∀ k, xg 0 h2.2.1 47 k = xg 0 h.2.1 47 k := fun k => rl_o gl (by omega)
    have r2 : rI h2 sz B := by
      obtain ⟨p, z47, tp', a, b, c⟩ := g
      have e : tp' = tp := (nI_eq (by omega) (by omega)).mp (by rw [← a]; exact htp)
      subst e
      refine ⟨pi_tr p hk2 (go_Pc p.2.2.2.1 (fun j _ _ => e39 j)), by rw [e47]; exact z47, tp', by rw [e39]; exact a, b, fun t ht => ?_⟩
      by_cases et : t = tp'
      · subst et
        refine ⟨fun z => absurd (by rw [← e47]; exact z) h47, fun _ => ⟨mo_c m41 (fun s hs => rl_o gl (by omega)), ?_⟩⟩
        have hm := bl_mo (p := fun s => !(decide (xg 0 h.2.1 42 (4096 * t + s) = 0)) && !(decide (xg 0 h.2.1 45 s = 0))) (fun s u hs hu hsu z => by
          rw [Bool.and_eq_true, Bool.not_eq_true', Bool.not_eq_true'] at z ⊢
          exact ⟨decide_eq_false (nz_mo (f := fun s => xg 0 h.2.1 42 (4096 * t + s)) m42 (b42 s hs).1 hs hu hsu (of_decide_eq_false z.1)), decide_eq_false (nz_mo (f := fun s => xg 0 h.2.1 45 s) m45 (b45 s hs).1 hs hu hsu (of_decide_eq_false z.2))⟩)
        intro s u hs hu hsu
        have h1 := hm s u hs hu hsu
        dsimp only at h1 ⊢
        rw [rl_i gl hs, rl_i gl hu]
        exact h1
      · exact lvo_c (c t ht) (fun s hs => rl_o gl (by omega)) (fun s hs => rl_o gl (by omega)) (fun s hs => rl_o gl (by omega)) (e47 t)
    have fr2 : fr h2 = fr h := fr_c (e39 8)
    refine xa_tn 202 [0, 1] [(0, .ref 39), (1, .int (nI (4096 * tp)))] [] h2 [true] 5 q2 rfl ⟨by decide, trivial⟩ (fun _ => ?_)
    refine xa_tn 203 [0, 1] [(0, .ref 39), (1, .int (nI (4096 * tp)))] [.ref 39] h2 [] 3 q2 rfl trivial (fun _ => ?_)
    refine xp_run q2 rfl rfl (isAnd_run (d := d) q2) ?_
    rintro v h3 ⟨rfl, rfl⟩
    cases hand : kyb h2 1111 with
    | true =>
      have k2 := kd_e (k := 2) (by decide) (kyb_2 hand)
      refine xa_tn 215 [] [] [.ref 39] (xh_ui h2 39 29 (Int32.ofInt 1)) [false] 7 q2 rfl ⟨rfl, Or.inr rfl, trivial⟩ (fun _ => ?_)
      have hk3' : hk bg_md h2 (xh_ui h2 39 29 (Int32.ofInt 1)) := hk_ui (s := (0, 10)) (lo := 0) (hi := 1) (hk_0 r2.1.1) hn2 rfl rfl (by decide) (by decide) rfl rfl
      have r3 := rI_ui r2 hk3' (by omega) (by decide)
      have eo : ∀ c k, ¬ (c = 39 ∧ k = 29) → xg 0 (xh_ui h2 39 29 (Int32.ofInt 1)).2.1 c k = xg 0 h2.2.1 c k := fun c k e => gx_i e
      have e29 : xg 0 (xh_ui h2 39 29 (Int32.ofInt 1)).2.1 39 29 = 1 := gx_s
      generalize xh_ui h2 39 29 (Int32.ofInt 1) = h3 at hk3' r3 eo e29 ⊢
      refine xp_run (hk_q hk3' hn2) rfl rfl (pg (d := d) (hk_n hk3' hn2) r3.1) ?_
      rintro v h5 ⟨rfl, kg5, p5, f5⟩
      have r5 : rI h5 sz B := rI_go r3 kg5 p5
      have hk5 : hk bg_md h h5 := hk_t (hk_t hk2 hk3' (fun _ z => z)) kg5 (by decide)
      refine xa_tn 219 [] [] [.int (Int32.ofInt 1)] h5 [] 3 (hk_q hk5 hn) rfl trivial (fun _ => ?_)
      have kd3 : kd h3 = 2 := by
        unfold kd at k2 ⊢
        rw [eo 39 9 (by omega)]
        exact k2
      have fr3 : fr h3 = fr h := (fr_c (eo 39 8 (by omega))).trans fr2
      have f6 := f5 (by omega)
      refine xp_ret rfl rfl rfl ⟨hk_t (hk_0 g.1.1) hk5 (by decide), Or.inr ⟨rfl, Or.inr ⟨?_, rI_B (by omega) r5, Or.inl ⟨by omega, Or.inl ?_⟩⟩⟩⟩
      · rw [hk_g (c := 39) (k := 30) kg5 rfl rfl, eo 39 30 (by omega), e39]
        exact h30
      · rw [hk_g (c := 39) (k := 29) kg5 rfl rfl]
        exact e29
    | false =>
      refine xa_tn 222 [0, 1, 2] [(0, .ref 39), (1, .int (nI (4096 * tp))), (2, .int (Int32.ofInt 0))] [] h2 [true] 5 q2 rfl ⟨rfl, trivial⟩ (fun _ => ?_)
      exact er_3 g.1.1 hn hk2 r2 (by rw [e39]; exact h30) (by rw [e39]; exact h29) (by rw [e39]; exact htp) t12 (by rw [e47]; exact h47) fr2
set_option maxRecDepth 100000 in
set_option maxHeartbeats 16000000 in
/-- X10.end -/
theorem en_run' {d sz : Nat} {B : Int} {h : xh_H} (hB0 : 0 ≤ B) (hB : B ≤ 20000000) (hn : 72 ≤ h.1.length) (g : rI h sz B) (h45 : mo h 45 0) (h30 : xg 0 h.2.1 39 30 = 0) (h29 : xg 0 h.2.1 39 29 = 0) : xt_P (d + 2) xi_X10_end_ xmi_X10_end_ 0 [(0, .ref 39)] [] h (ed_Q h sz B) := by
  have hq := a_rq_of g.1.1.1 hn
  obtain ⟨tp, t28, t12⟩ : ∃ tp : Nat, xg 0 h.2.1 39 28 = nI tp ∧ tp ≤ 12 := by
    obtain ⟨-, -, tp, a, b, -⟩ := g
    exact ⟨tp, a, b⟩
  have hin : xe_in (xg 0 h.2.1 39 28) 13 = true := by rw [t28]; exact xin_n (by omega) (by omega)
  have etc : (nI tp).toNatClampNeg = tp := nI_clamp (by omega)
  have e4 : (4096 : Int32) * nI tp = nI (4096 * tp) := by rw [nI_mul2]; rfl
  cases c1 : xe_c .ne (xg 0 h.2.1 47 (xg 0 h.2.1 39 28).toNatClampNeg) (Int32.ofInt 2) with
  | false =>
    refine xa_tn 24 [0, 1, 2] [(0, .ref 39), (1, .int (4096 * (xg 0 h.2.1 39 28))), (2, .int (Int32.ofInt 0))] [] h [false] 16 hq rfl ⟨hin, c1, trivial⟩ (fun _ => ?_)
    have z := xne_j c1
    rw [t28, etc] at z
    rw [t28, e4]
    exact el_run hB0 hB hn g h45 h30 h29 t28 t12 z
  | true =>
    refine xa_tn 156 [0, 1, 2] [(0, .ref 39), (1, .int (4096 * (xg 0 h.2.1 39 28))), (2, .int (Int32.ofInt 0))] [] h [true] 16 hq rfl ⟨hin, c1, trivial⟩ (fun _ => ?_)
    have z := xne_i c1
    rw [t28, etc] at z
    rw [t28, e4]
    exact er_2 hn g h45 h30 h29 t28 t12 z
end XE3
end
section
section XRR
theorem pi_trm {md : List (Nat × Nat)} {h h' : xh_H} {sz : Nat} (g : pi h sz) (hk0 : hk md h h') (gp : go_P h' sz 0) (m6 : a_mb md 39 6 = false) (m26 : a_mb md 39 26 = false) (m43 : ∀ k, a_mb md 43 k = false) : pi h' sz := by
  obtain ⟨g1, g2, g3, g4, nn, g5, g6, g7⟩ := g
  refine ⟨hk0.1, g2, by rw [hk_g (c := 39) (k := 6) hk0 rfl m6]; exact g3, gp, nn, by rw [hk_g (c := 39) (k := 26) hk0 rfl m26]; exact g5, g6, fun k hk' => ?_⟩
  exact mo_c (g7 k hk') (fun s _ => hk_g hk0 rfl (m43 _))
/-- what reading a rule leaves -/
def rd_Q (h0 : xh_H) (sz : Nat) (v : Option Value) (h' : xh_H) : Prop := hk ed_md h0 h' ∧ (v = some (.int 0) ∨ (v = some (.int 1) ∧ pi h' sz ∧ mo h' 45 0 ∧ fr h0 < fr h'))
set_option maxRecDepth 100000 in
set_option maxHeartbeats 8000000 in
theorem rd_lp {d sz : Nat} {h0 : xh_H} (hn : 72 ≤ h0.1.length) : ∀ (n : Nat) (h : xh_H) (B : Int), 0 ≤ B → B + 9999 * (n : Int) ≤ 12998700 → hk ed_md h0 h → rI h sz B → fr h0 < fr h → xg 0 h.2.1 39 30 = 0 → ((xg 0 h.2.1 39 29 = 1 ∧ 2 * (641 - fr h) ≤ n) ∨ (xg 0 h.2.1 39 29 = 0 ∧ mo h 45 0 ∧ 2 * (641 - fr h) + 1 ≤ n)) → xt_P (d + 7) xi_X10_readRule xmi_X10_readRule 15 [(0, .ref 39)] [] h (rd_Q h0 sz) := by
  intro n
  induction n with
  | zero =>
    intro h B hB hBn hk0 g hf h30 hm
    have := (kd_fr g.1.2.2.2.1).1
    omega
  | succ n ih =>
    intro h B hB hBn hk0 g hf h30 hm
    have hq := hk_q hk0 hn
    have hn1 := hk_n hk0 hn
    have f640 := (kd_fr g.1.2.2.2.1).1
    rcases hm with ⟨h29, hm⟩ | ⟨h29, h45, hm⟩
    · refine xa_tn 30 [0] [(0, .ref 39)] [.ref 39] h [false, false] 9 hq rfl ⟨(show xe_c .ne (xg 0 h.2.1 39 30) 0 = false by rw [h30]; rfl), (show xe_c .eq (xg 0 h.2.1 39 29) 0 = false by rw [h29]; rfl), trivial⟩ (fun _ => ?_)
      refine xp_run hq rfl rfl (be_run (d := d) hB hn1 g) ?_
      rintro v h1 ⟨kk1, g1⟩
      have hk1 : hk ed_md h0 h1 := hk_t hk0 kk1 (by decide)
      rcases g1 with rfl | ⟨rfl, r1, f1, a1⟩
      · refine xa_tn 47 [] [] [.int (Int32.ofInt 0)] h1 [true] 4 (hk_q hk1 hn) rfl ⟨rfl, trivial⟩ (fun _ => ?_)
        exact xp_ret rfl rfl rfl ⟨hk1, Or.inl rfl⟩
      · refine xa_tn 15 [0] [(0, .ref 39)] [] h1 [false] 4 (hk_q hk1 hn) rfl ⟨rfl, trivial⟩ (fun _ => ?_)
        have f2 := (kd_fr r1.1.2.2.2.1).1
        refine ih h1 B hB (by omega) hk1 r1 (by omega) (by rw [hk_g (c := 39) (k := 30) kk1 rfl rfl]; exact h30) ?_
        rcases a1 with z | ⟨z1, z2⟩
        · exact Or.inl ⟨z, by omega⟩
        · exact Or.inr ⟨z1, z2, by omega⟩
    · refine xa_tn 40 [0] [(0, .ref 39)] [.ref 39] h [false, true] 9 hq rfl ⟨(show xe_c .ne (xg 0 h.2.1 39 30) 0 = false by rw [h30]; rfl), (show xe_c .eq (xg 0 h.2.1 39 29) 0 = true by rw [h29]; rfl), trivial⟩ (fun _ => ?_)
      refine xp_run hq rfl rfl (en_run' (d := d + 4) hB (by omega) hn1 g h45 h30 h29) ?_
      rintro v h1 ⟨kk1, g1⟩
      have hk1 : hk ed_md h0 h1 := hk_t hk0 kk1 (fun _ z => z)
      rcases g1 with rfl | ⟨rfl, g1⟩
      · refine xa_tn 47 [] [] [.int (Int32.ofInt 0)] h1 [false] 4 (hk_q hk1 hn) rfl ⟨rfl, trivial⟩ (fun _ => ?_)
        exact xp_ret rfl rfl rfl ⟨hk1, Or.inl rfl⟩
      · refine xa_tn 15 [0] [(0, .ref 39)] [] h1 [true] 3 (hk_q hk1 hn) rfl ⟨rfl, trivial⟩ (fun _ => ?_)
        rcases g1 with ⟨d1, p1, m1, k1, e1⟩ | ⟨d1, r1, g2⟩
        · refine xa_tn 49 [] [] [.ref 39] h1 [true] 6 (hk_q hk1 hn) rfl ⟨(show xe_c .ne (xg 0 h1.2.1 39 30) 0 = true by rw [d1]; rfl), trivial⟩ (fun _ => ?_)
          refine xp_run (hk_q hk1 hn) rfl rfl (pg (d := d + 5) (hk_n hk1 hn) p1) ?_
          rintro v h2 ⟨rfl, k2, p2, f2⟩
          have hk2 : hk ed_md h0 h2 := hk_t hk1 k2 (by decide)
          refine xa_tn 53 [] [] [.int (Int32.ofInt 1)] h2 [] 3 (hk_q hk2 hn) rfl trivial (fun _ => ?_)
          have f3 := f2 (by omega)
          exact xp_ret rfl rfl rfl ⟨hk2, Or.inr ⟨rfl, p2, mo_c m1 (fun s _ => hk_g k2 rfl rfl), by omega⟩⟩
        · have f2 := (kd_fr r1.1.2.2.2.1).1
          refine ih h1 (B + 9999) (by omega) (by omega) hk1 r1 (by omega) d1 ?_
          rcases g2 with ⟨f1, z | ⟨z1, z2⟩⟩ | ⟨f1, z⟩
          · exact Or.inl ⟨z, by omega⟩
          · exact Or.inr ⟨z1, z2, by omega⟩
          · exact Or.inl ⟨z, by omega⟩
set_option maxRecDepth 100000 in
set_option maxHeartbeats 8000000 in
/-- X10.readRule -/
theorem rd_run {d sz : Nat} {h : xh_H} (hn : 72 ≤ h.1.length) (g : pi h sz) (hkd : 2 ≤ kd h) : xt_P (d + 7) xi_X10_readRule xmi_X10_readRule 0 [(0, .ref 39)] [] h (rd_Q h sz) := by
  have hq := a_rq_of g.1.1 hn
  refine xa_tn 12 [0] [(0, .ref 39)] [.int (Int32.ofInt 0), .ref 39] (xh_ui (xh_ui h 39 28 (Int32.ofInt 0)) 39 30 (Int32.ofInt 0)) [] 10 hq rfl ⟨Or.inl rfl, trivial⟩ (fun _ => ?_)
  have hk0 : hk ed_md h (xh_ui h 39 28 (Int32.ofInt 0)) := hk_ui (s := (0, 10)) (lo := 0) (hi := 12) (hk_0 g.1) hn rfl rfl (by decide) (by decide) rfl rfl
  have hk1 : hk ed_md h (xh_ui (xh_ui h 39 28 (Int32.ofInt 0)) 39 30 (Int32.ofInt 0)) := hk_ui (s := (0, 10)) (lo := 0) (hi := 1) hk0 hn rfl rfl (by decide) (by decide) rfl rfl
  have e28 : xg 0 (xh_ui (xh_ui h 39 28 (Int32.ofInt 0)) 39 30 (Int32.ofInt 0)).2.1 39 28 = nI 0 := by rw [gx_k (by decide), gx_s]; rfl
  have e30 : xg 0 (xh_ui (xh_ui h 39 28 (Int32.ofInt 0)) 39 30 (Int32.ofInt 0)).2.1 39 30 = 0 := gx_s
  have eo : ∀ c k, ¬ (c = 39 ∧ (k = 28 ∨ k = 30)) → xg 0 (xh_ui (xh_ui h 39 28 (Int32.ofInt 0)) 39 30 (Int32.ofInt 0)).2.1 c k = xg 0 h.2.1 c k := fun c k e => by rw [gx_i (by omega), gx_i (by omega)]
  generalize xh_ui (xh_ui h 39 28 (Int32.ofInt 0)) 39 30 (Int32.ofInt 0) = h1 at hk1 e28 e30 eo ⊢
  have hn1 := hk_n hk1 hn
  have p1 : pi h1 sz := pi_trm g hk1 (go_Pc g.2.2.2.1 (fun k k1 k2 => eo 39 k (by omega))) rfl rfl (fun _ => rfl)
  refine xp_run (hk_q hk1 hn) rfl rfl (opr_run (d := d + 4) (tp := 0) (B := 0) (ty := Int32.ofInt 0) hn1 p1 e28 (by decide) (fun t ht => absurd ht (Nat.not_lt_zero t)) (by decide) (Or.inl ⟨rfl, rfl⟩)) ?_
  rintro v h2 ⟨rfl, kk2, r2, aw, f2⟩
  have hk2 : hk ed_md h h2 := hk_t hk1 kk2 (by decide)
  have f3 := f2 (by unfold kd at hkd ⊢; rw [eo 39 9 (by omega)]; exact hkd)
  rw [fr_c (h := h) (h' := h1) (eo 39 8 (by omega))] at f3
  exact rd_lp hn 1282 h2 0 (by decide) (by decide) hk2 r2 f3 (by rw [hk_g (c := 39) (k := 30) kk2 rfl rfl]; exact e30) (Or.inl ⟨aw, by omega⟩)
end XRR
end
section
section XRB
abbrev rb_md : List (Nat × Nat) := (39, 26) :: (43, 0) :: ed_md
/-- what reading a body leaves -/
def rb_Q (h0 : xh_H) (sz : Nat) (v : Option Value) (h' : xh_H) : Prop := hk rb_md h0 h' ∧ (v = some (.int 0) ∨ (v = some (.int 1) ∧ pi h' sz ∧ fr h0 < fr h'))
set_option maxRecDepth 100000 in
set_option maxHeartbeats 8000000 in
/-- X10.readBody -/
theorem rb_run {d sz : Nat} {h : xh_H} (hn : 72 ≤ h.1.length) (g : pi h sz) (hkd : 2 ≤ kd h) : xt_P (d + 8) xi_X10_readBody xmi_X10_readBody 0 [(0, .ref 39)] [] h (rb_Q h sz) := by
  have hq := a_rq_of g.1.1 hn
  refine xa_tn 1 [0] [(0, .ref 39)] [.ref 39] h [] 3 hq rfl trivial (fun _ => ?_)
  refine xp_run hq rfl rfl (pg (d := d + 6) hn g) ?_
  rintro v h1 ⟨rfl, kg1, p1, f1⟩
  have fr1 := f1 hkd
  have hk1 : hk rb_md h h1 := hk_t (hk_0 g.1) kg1 (by decide)
  have q1 := hk_q hk1 hn
  have hn1 := hk_n hk1 hn
  refine xa_tn 5 [0] [(0, .ref 39)] [.ref 39] h1 [] 3 q1 rfl trivial (fun _ => ?_)
  refine xp_run q1 rfl rfl (nm_run (d := d + 5) q1) ?_
  rintro v h2 ⟨rfl, rfl⟩
  cases hnm : nmb h1 with
  | false =>
    refine xa_tn 13 [] [] [.int (Int32.ofInt 1), .ref 39] h1 [false] 5 q1 rfl ⟨rfl, trivial⟩ (fun _ => ?_)
    refine xp_int (C := aC_m_X10_bad) (lo := 0) (hi := 0) (σ := fun _ => 0) as_m_X10_bad q1 p1.1 rfl rfl rfl (Nat.zero_le _) ⟨a_av (by decide) q1.1, a_ai (by decide) (by decide), trivial⟩ a_fp0 rfl (fun x hx x1 x2 ix lx fx qx => ?_)
    cases i00 x1 x2
    exact xp_ret rfl rfl rfl ⟨hk_c hk1 ix lx fx (by decide), Or.inl rfl⟩
  | true =>
    have k2 := kd_e (k := 2) (by decide) (nmb_2 hnm)
    obtain ⟨nn, hnn, n16, -⟩ := p1.2.2.2.2
    have nni := nI_toInt (n := nn) (by omega)
    have z16 : (16 : Int32).toInt = 16 := rfl
    refine xa_tn 18 [0] [(0, .ref 39)] [.ref 39] h1 [true] 4 q1 rfl ⟨rfl, trivial⟩ (fun _ => ?_)
    refine xp_run q1 rfl rfl (nh_run (d := d + 7) q1 hnn n16) ?_
    rintro v h2 ⟨rfl, hv⟩
    rcases hv with ⟨rfl, -⟩ | ⟨k, hk', rfl, -⟩
    rotate_left
    · have ki := nI_toInt (n := k) (by omega)
      refine xa_tn 27 [] [] [.int (Int32.ofInt 3), .ref 39] h1 [false] 6 q1 rfl ⟨xeq_f (show (nI k).toInt ≠ (-1 : Int) by rw [ki]; omega), trivial⟩ (fun _ => ?_)
      refine xp_int (C := aC_m_X10_bad) (lo := 0) (hi := 0) (σ := fun _ => 0) as_m_X10_bad q1 p1.1 rfl rfl rfl (Nat.zero_le _) ⟨a_av (by decide) q1.1, a_ai (by decide) (by decide), trivial⟩ a_fp0 rfl (fun x hx x1 x2 ix lx fx qx => ?_)
      cases i00 x1 x2
      exact xp_ret rfl rfl rfl ⟨hk_c hk1 ix lx fx (by decide), Or.inl rfl⟩
    by_cases e16 : nn = 16
    · refine xa_tn 42 [] [] [.int (Int32.ofInt 4), .ref 39] h1 [true, false] 10 q1 rfl ⟨by decide, xne_f (show (xg 0 h1.2.1 39 26).toInt = (16 : Int32).toInt by rw [hnn, nni, e16]; rfl), trivial⟩ (fun _ => ?_)
      refine xp_int (C := aC_m_X10_bad) (lo := 0) (hi := 0) (σ := fun _ => 0) as_m_X10_bad q1 p1.1 rfl rfl rfl (Nat.zero_le _) ⟨a_av (by decide) q1.1, a_ai (by decide) (by decide), trivial⟩ a_fp0 rfl (fun x hx x1 x2 ix lx fx qx => ?_)
      cases i00 x1 x2
      exact xp_ret rfl rfl rfl ⟨hk_c hk1 ix lx fx (by decide), Or.inl rfl⟩
    refine xa_tn 52 [0, 1] [(0, .ref 39), (1, .long (xg 0 h1.2.2.1 39 15))] [.ref 39] h1 [true, true] 12 q1 rfl ⟨by decide, xne_t (show (xg 0 h1.2.1 39 26).toInt ≠ (16 : Int32).toInt by rw [hnn, nni, z16]; omega), trivial⟩ (fun _ => ?_)
    generalize xg 0 h1.2.2.1 39 15 = w
    refine xp_run q1 rfl rfl (pg (d := d + 6) hn1 p1) ?_
    rintro v h2 ⟨rfl, kg2, p2, f2⟩
    have fr2 := f2 (by omega)
    have hk2 : hk rb_md h h2 := hk_t hk1 kg2 (by decide)
    have q2 := hk_q hk2 hn
    have hn2 := hk_n hk2 hn
    refine xa_tn 58 [0, 1] [(0, .ref 39), (1, .long w)] [.int 58, .ref 39] h2 [] 4 q2 rfl trivial (fun _ => ?_)
    refine xp_run q2 rfl rfl (sg_run (d := d + 7) (c := 58) q2) ?_
    rintro v h3 ⟨rfl, rfl⟩
    cases hsg : sgb h2 58 with
    | false =>
      refine xa_tn 66 [] [] [.int (Int32.ofInt 1), .ref 39] h2 [false] 5 q2 rfl ⟨rfl, trivial⟩ (fun _ => ?_)
      refine xp_int (C := aC_m_X10_bad) (lo := 0) (hi := 0) (σ := fun _ => 0) as_m_X10_bad q2 p2.1 rfl rfl rfl (Nat.zero_le _) ⟨a_av (by decide) q2.1, a_ai (by decide) (by decide), trivial⟩ a_fp0 rfl (fun x hx x1 x2 ix lx fx qx => ?_)
      cases i00 x1 x2
      exact xp_ret rfl rfl rfl ⟨hk_c hk2 ix lx fx (by decide), Or.inl rfl⟩
    | true =>
      have k4 := kd_e (k := 4) (by decide) (sgb_4 hsg)
      refine xa_tn 71 [0, 1] [(0, .ref 39), (1, .long w)] [.ref 39] h2 [true] 4 q2 rfl ⟨rfl, trivial⟩ (fun _ => ?_)
      refine xp_run q2 rfl rfl (rd_run (d := d) hn2 p2 (by omega)) ?_
      rintro v h3 ⟨kk3, g3⟩
      have hk3 : hk rb_md h h3 := hk_t hk2 kk3 (by decide)
      have q3 := hk_q hk3 hn
      rcases g3 with rfl | ⟨rfl, p3, m45, fr3⟩
      · refine xa_tn 78 [] [] [.int (Int32.ofInt 0)] h3 [false] 4 q3 rfl ⟨rfl, trivial⟩ (fun _ => ?_)
        exact xp_ret rfl rfl rfl ⟨hk3, Or.inl rfl⟩
      · have e26 : xg 0 h3.2.1 39 26 = nI nn := by rw [hk_g (c := 39) (k := 26) kk3 rfl rfl, hk_g (c := 39) (k := 26) kg2 rfl rfl]; exact hnn
        obtain ⟨nn', e26', n16', hrow⟩ := p3.2.2.2.2
        have een : nn' = nn := (nI_eq (by omega) (by omega)).mp (by rw [← e26']; exact e26)
        subst een
        have encl : (nI nn').toNatClampNeg = nn' := nI_clamp (by omega)
        refine xa_tn 91 [0, 3] [(0, .ref 39), (3, .int (Int32.ofInt 0))] [] (xh_ul h3 50 (xg 0 h3.2.1 39 26).toNatClampNeg w) [true] 11 q3 rfl ⟨rfl, (show xe_in (xg 0 h3.2.1 39 26) 16 = true by rw [e26]; exact xin_n (by omega) (by omega)), trivial⟩ (fun _ => ?_)
        rw [e26, encl]
        have hk4 : hk rb_md h (xh_ul h3 50 nn' w) := hk_ul (s := (4, 16)) hk3 hn rfl rfl
        have eo4 : ∀ c k, xg 0 (xh_ul h3 50 nn' w).2.1 c k = xg 0 h3.2.1 c k := fun _ _ => rfl
        generalize xh_ul h3 50 nn' w = h4 at hk4 eo4 ⊢
        have q4 := hk_q hk4 hn
        have b45 : ∀ s, s < 4096 → 0 ≤ (xg 0 h4.2.1 45 s).toInt ∧ (xg 0 h4.2.1 45 s).toInt ≤ 1 := fun s hs => a_blx (c := 45) (k := s) (lo := 0) (hi := 1) hk4.1.1 (hk_n hk4 hn) rfl rfl hs
        refine rl_loop (h0 := h4) (c := 43) (B := 4096 * nn') (F := fun s => xg 0 h4.2.1 45 s) (N := 4096) (P := fun s h' => xt_P (d + 8) xi_X10_readBody xmi_X10_readBody 91 [(0, .ref 39), (3, .int (nI s))] [] h' (rb_Q h sz)) ?_ ?_
        · intro s h5 hs gl K
          have q5 := rl_q gl q4
          have c26 : xg 0 h5.2.1 39 26 = nI nn' := by rw [rl_o gl (by omega), eo4]; exact e26
          have c45 : xg 0 h5.2.1 45 s = xg 0 h4.2.1 45 s := rl_o gl (by omega)
          have e1 : nI s + Int32.ofInt 1 = nI (s + 1) := nI_1 s
          have ecl : (nI s).toNatClampNeg = s := nI_clamp (by omega)
          have ecl2 : (nI (4096 * nn' + s)).toNatClampNeg = 4096 * nn' + s := nI_clamp (by omega)
          refine xa_tn 91 [0, 3] [(0, .ref 39), (3, .int ((nI s) + Int32.ofInt 1))] [] (xh_ui h5 43 ((4096 * (xg 0 h5.2.1 39 26)) + (nI s)).toNatClampNeg (vp_nar .boolean (xg 0 h5.2.1 45 (nI s).toNatClampNeg))) [false] 20 q5 rfl ⟨nge_f (b := 4096) (by omega) (by omega) hs, xin_n (by omega) (by omega), (show xe_in ((4096 * (xg 0 h5.2.1 39 26)) + (nI s)) 65536 = true by rw [c26, i4096]; exact xin_n (by omega) (by omega)), trivial⟩ (fun _ => ?_)
          rw [c26, i4096, ecl2, ecl, c45, b01 (b45 s hs).1 (b45 s hs).2, e1]
          exact K
        · intro h5 gl
          have q5 := rl_q gl q4
          have hk5 : hk rb_md h h5 := rl_hk (kd := 3) (sz := 65536) (lo := 0) (hi := 1) gl hk4 hn rfl (by decide) rfl (fun s hs => b45 s hs) (fun _ => rfl) (fun _ => rfl)
          have c39 : ∀ k, xg 0 h5.2.1 39 k = xg 0 h3.2.1 39 k := fun k => by rw [rl_o gl (by omega), eo4]
          refine xa_tn 125 [0] [(0, .ref 39)] [] h5 [true] 5 q5 rfl ⟨by decide, trivial⟩ (fun _ => ?_)
          refine xa_tn 136 [] [] [.int (Int32.ofInt 1)] (xh_ui h5 39 26 ((xg 0 h5.2.1 39 26) + (Int32.ofInt 1))) [] 9 q5 rfl trivial (fun _ => ?_)
          have e1 : nI nn' + Int32.ofInt 1 = nI (nn' + 1) := nI_1 nn'
          have n1i := nI_toInt (n := nn' + 1) (by omega)
          rw [c39, e26, e1]
          have hk6 : hk rb_md h (xh_ui h5 39 26 (nI (nn' + 1))) := hk_ui (s := (0, 10)) (lo := 0) (hi := 16) hk5 hn rfl rfl (by omega) (by omega) rfl rfl
          refine xp_ret rfl rfl rfl ⟨hk6, Or.inr ⟨rfl, ⟨hk6.1, p3.2.1, ?_, ?_, nn' + 1, gx_s, by omega, fun k hk' => ?_⟩, ?_⟩⟩
          · rw [gx_k (by decide), c39]
            exact p3.2.2.1
          · exact go_Pc p3.2.2.2.1 (fun j j1 j2 => by rw [gx_k (by omega), c39])
          · by_cases ek : k = nn'
            · subst ek
              intro s t hs ht hst
              have a1 := m45 s t hs ht hst
              dsimp only at a1 ⊢
              rw [gx_o (by decide), gx_o (by decide), rl_i gl hs, rl_i gl ht, eo4, eo4]
              rw [Nat.zero_add, Nat.zero_add] at a1
              exact a1
            · exact mo_c (hrow k (by omega)) (fun s hs => by rw [gx_o (by decide), rl_o gl (by omega), eo4])
          · have ef := fr_c (h := h3) (h' := xh_ui h5 39 26 (nI (nn' + 1))) (by rw [gx_k (by decide), c39])
            omega
end XRB
end
section
section XST
theorem a_J_s {tb : aT} {h h' : xh_H} (hj : a_J tb h) (he : ∀ c k, a_jc c k = true → ¬ (c = 39 ∧ k = 33) → c ≠ 44 → xg 0 h'.2.1 c k = xg 0 h.2.1 c k) (h2 : ∀ k : Nat, (k : Int) < (xg 0 h'.2.1 39 33).toInt → mo h' 44 (4096 * k)) : a_J tb h' := by
  obtain ⟨h1, -, h3, h4⟩ := hj
  refine ⟨?_, h2, ?_, ?_⟩
  · rw [he 14 8 rfl (by omega) (by decide), he 14 7 rfl (by omega) (by decide)]
    exact h1
  · intro s t hs ht hst
    rw [he 39 35 rfl (by omega) (by decide)] at hs ht
    have g := h3 s t hs ht hst
    dsimp only at g ⊢
    rw [he 53 s rfl (by omega) (by decide), he 53 t rfl (by omega) (by decide)]
    exact g
  · intro tl a b c ha hb hc hab hbc
    rw [he 14 7 rfl (by omega) (by decide)] at ha hb hc
    unfold a_ge at hab hbc ⊢
    rw [he 19 a rfl (by omega) (by decide)] at hab ⊢
    rw [he 19 b rfl (by omega) (by decide)] at hbc
    exact h4 tl a b c ha hb hc hab hbc
theorem hk_uj {md : List (Nat × Nat)} {h0 h : xh_H} {c k : Nat} {x : Int32} {s : Nat × Nat} {lo hi : Int} (hk0 : hk md h0 h) (hn : 72 ≤ h0.1.length) (hs : a_sh[c]? = some s) (he : a_ent a_tb s c k = (0, lo, hi)) (h1 : lo ≤ x.toInt) (h2 : x.toInt ≤ hi) (hJ : a_J a_tb (xh_ui h c k x)) (hm : a_mb md c k = true) : hk md h0 (xh_ui h c k x) := by
  have hc := a_sh_lt hs
  refine ⟨⟨a_inw_ui hk0.1.1 ((hk_q hk0 hn).2.1 c s hs) (by rw [a_tg_lt hc]; exact he) h1 h2, hJ⟩, hk0.2.1, ?_⟩
  intro c' k' hz hm'
  rw [← hk0.2.2 c' k' hz hm']
  by_cases e : c' = c
  · subst e
    by_cases e2 : k' = k
    · subst e2
      exact absurd (a_mb_t hm) hm'
    · exact xh_up_k e2
  · exact congrFun (xh_up_o e) k'
theorem rl_hkj {md : List (Nat × Nat)} {hh h0 h : xh_H} {c B s : Nat} {F : Nat → Int32} {kd sz : Nat} {lo hi : Int} (g : rl h0 c B F s h) (hk0 : hk md hh h0) (hs : a_sh[c]? = some (kd, sz)) (hkd : kd ≠ 0) (he : a_ent a_tb (kd, sz) c 0 = (0, lo, hi)) (hF : ∀ j, j < s → lo ≤ (F j).toInt ∧ (F j).toInt ≤ hi) (hJ : a_J a_tb h) (hm : ∀ k, a_mb md c k = true) : hk md hh h := by
  obtain ⟨g1, g2, g3⟩ := g
  have hc := a_sh_lt hs
  refine ⟨⟨?_, hJ⟩, g1.trans hk0.2.1, fun c' k' hz hm' => ?_⟩
  · intro c' s' hs'
    rw [g1] at hs'
    obtain ⟨a1, a2⟩ := hk0.1.1 c' s' hs'
    refine ⟨a1, fun k hk' => ?_⟩
    have a3 := a2 k hk'
    by_cases e : c' = c
    · subst e
      have e3 : s' = (kd, sz) := by
        rw [a_tg_lt hc, hs] at a1
        exact (Option.some.inj a1).symm
      subst e3
      rw [a_tg_lt hc, a_ent0 hkd, he] at a3 ⊢
      have a3 : lo ≤ (xg 0 h0.2.1 c' k).toInt ∧ (xg 0 h0.2.1 c' k).toInt ≤ hi := a3
      show lo ≤ (xg 0 h.2.1 c' k).toInt ∧ (xg 0 h.2.1 c' k).toInt ≤ hi
      rw [g3]
      split
      · rename_i z
        exact hF _ (by omega)
      · exact a3
    · have ex : xg 0 h.2.1 c' k = xg 0 h0.2.1 c' k := by rw [g3, if_neg (fun z => e z.1)]
      unfold a_e at a3 ⊢
      rw [ex, g2, g1]
      exact a3
  · rw [g3, if_neg]
    · exact hk0.2.2 c' k' hz hm'
    · rintro ⟨rfl, -⟩
      exact hm' (a_mb_t (hm k'))
set_option maxRecDepth 100000 in
theorem isi_run {d : Nat} {x lo hi : Int32} {h : xh_H} (hq : a_rq a_tb h) : xt_P d xi_X10_isIn xmi_X10_isIn 0 [(0, .int x), (1, .int lo), (2, .int hi)] [] h (fun v h' => h = h' ∧ ∃ p : Bool, v = some (.int (bl p)) ∧ (p = true → x.toInt ≤ hi.toInt)) := by
  cases c1 : xe_c .lt x lo with
  | true =>
    refine xa_tn 15 [] [] [.int (Int32.ofInt 0)] h [true] 6 hq rfl ⟨c1, trivial⟩ (fun _ => ?_)
    exact xp_ret rfl rfl rfl ⟨rfl, false, rfl, fun z => Bool.noConfusion z⟩
  | false =>
    cases c2 : xe_c .gt x hi with
    | true =>
      refine xa_tn 15 [] [] [.int (Int32.ofInt 0)] h [false, true] 9 hq rfl ⟨c1, c2, trivial⟩ (fun _ => ?_)
      exact xp_ret rfl rfl rfl ⟨rfl, false, rfl, fun z => Bool.noConfusion z⟩
    | false =>
      have b2 : x.toInt ≤ hi.toInt := a_ce (a_neg_ok c2)
      refine xa_tn 15 [] [] [.int (Int32.ofInt 1)] h [false, false] 10 hq rfl ⟨c1, c2, trivial⟩ (fun _ => ?_)
      exact xp_ret rfl rfl rfl ⟨rfl, true, rfl, fun _ => b2⟩
abbrev xs_md : List (Nat × Nat) := (39, 0) :: (39, 6) :: (39, 33) :: (44, 0) :: (51, 0) :: (52, 0) :: rb_md
def xs_Q (h0 : xh_H) (v : Option Value) (h' : xh_H) : Prop := hk xs_md h0 h' ∧ ∃ x, v = some (.int x)
set_option maxRecDepth 100000 in
set_option maxHeartbeats 8000000 in
/-- it becomes a statute -/
theorem xs_end {d S : Nat} {f : Int32} {h0 h : xh_H} (hn : 72 ≤ h0.1.length) (hk0 : hk xs_md h0 h) (m45 : mo h 45 0) (hS : xg 0 h.2.1 39 33 = nI S) (S8 : S < 8) (f9 : f.toInt ≤ 999) : xt_P d xi_X10_statute xmi_X10_statute 141 [(0, .ref 39), (1, .int f), (3, .int (Int32.ofInt 0))] [] h (xs_Q h0) := by
  have hq := hk_q hk0 hn
  have Si := nI_toInt (n := S) (by omega)
  have S1i := nI_toInt (n := S + 1) (by omega)
  have Sc : (nI S).toNatClampNeg = S := nI_clamp (by omega)
  have b45 : ∀ s, s < 4096 → 0 ≤ (xg 0 h.2.1 45 s).toInt ∧ (xg 0 h.2.1 45 s).toInt ≤ 1 := fun s hs => a_blx (c := 45) (k := s) (lo := 0) (hi := 1) hk0.1.1 (hk_n hk0 hn) rfl rfl hs
  refine rl_loop (h0 := h) (c := 44) (B := 4096 * S) (F := fun s => xg 0 h.2.1 45 s) (N := 4096) (P := fun s h' => xt_P d xi_X10_statute xmi_X10_statute 141 [(0, .ref 39), (1, .int f), (3, .int (nI s))] [] h' (xs_Q h0)) ?_ ?_
  · intro s h5 hs gl K
    have q5 := rl_q gl hq
    have c33 : xg 0 h5.2.1 39 33 = nI S := by rw [rl_o gl (by omega)]; exact hS
    have c45 : xg 0 h5.2.1 45 s = xg 0 h.2.1 45 s := rl_o gl (by omega)
    have e1 : nI s + Int32.ofInt 1 = nI (s + 1) := nI_1 s
    have ecl : (nI s).toNatClampNeg = s := nI_clamp (by omega)
    have ecl2 : (nI (4096 * S + s)).toNatClampNeg = 4096 * S + s := nI_clamp (by omega)
    refine xa_tn 141 [0, 1, 3] [(0, .ref 39), (1, .int f), (3, .int ((nI s) + Int32.ofInt 1))] [] (xh_ui h5 44 ((4096 * (xg 0 h5.2.1 39 33)) + (nI s)).toNatClampNeg (vp_nar .boolean (xg 0 h5.2.1 45 (nI s).toNatClampNeg))) [false] 20 q5 rfl ⟨nge_f (b := 4096) (by omega) (by omega) hs, xin_n (by omega) (by omega), (show xe_in ((4096 * (xg 0 h5.2.1 39 33)) + (nI s)) 32768 = true by rw [c33, i4096]; exact xin_n (by omega) (by omega)), trivial⟩ (fun _ => ?_)
    rw [c33, i4096, ecl2, ecl, c45, b01 (b45 s hs).1 (b45 s hs).2, e1]
    exact K
  · intro h1 gl
    have q1 := rl_q gl hq
    have c39 : ∀ k, xg 0 h1.2.1 39 k = xg 0 h.2.1 39 k := fun k => rl_o gl (by omega)
    have e33 : xg 0 h1.2.1 39 33 = nI S := by rw [c39]; exact hS
    have J1 : a_J a_tb h1 := a_J_s hk0.1.2 (fun c k _ _ e => rl_o gl (by omega)) (fun k hk' => by
      rw [e33, Si] at hk'
      exact mo_c (h := h) (c := 44) (B := 4096 * k) (hk0.1.2.2.1 k (by rw [hS, Si]; exact hk')) (fun s hs => rl_o gl (by omega)))
    have hk1 : hk xs_md h0 h1 := rl_hkj (kd := 3) (sz := 32768) (lo := 0) (hi := 1) gl hk0 rfl (by decide) rfl (fun s hs => b45 s hs) J1 (fun _ => rfl)
    refine xa_tn 175 [0, 1] [(0, .ref 39), (1, .int f)] [] h1 [true] 5 q1 rfl ⟨by decide, trivial⟩ (fun _ => ?_)
    have hin8 : xe_in (xg 0 h1.2.1 39 33) 8 = true := by rw [e33]; exact xin_n (by omega) (by omega)
    have e33b : xg 0 (xh_ui h1 51 (xg 0 h1.2.1 39 33).toNatClampNeg f).2.1 39 33 = nI S := by rw [gx_o (by decide)]; exact e33
    refine xa_tn 198 [0] [(0, .ref 39)] [] (xh_ui (xh_ui h1 51 (xg 0 h1.2.1 39 33).toNatClampNeg f) 52 (xg 0 (xh_ui h1 51 (xg 0 h1.2.1 39 33).toNatClampNeg f).2.1 39 33).toNatClampNeg (xg 0 (xh_ui h1 51 (xg 0 h1.2.1 39 33).toNatClampNeg f).2.1 39 3)) [] 15 q1 rfl ⟨hin8, (show xe_in (xg 0 (xh_ui h1 51 (xg 0 h1.2.1 39 33).toNatClampNeg f).2.1 39 33) 8 = true by rw [e33b]; exact xin_n (by omega) (by omega)), trivial⟩ (fun _ => ?_)
    rw [e33b, e33, Sc]
    generalize xg 0 (xh_ui h1 51 S f).2.1 39 3 = td
    have hk2 : hk xs_md h0 (xh_ui h1 51 S f) := hk_ui (s := (1, 8)) (lo := -2147483648) (hi := 999) hk1 hn rfl rfl (ar_rng f).1 f9 rfl rfl
    have hk3 : hk xs_md h0 (xh_ui (xh_ui h1 51 S f) 52 S td) := hk_ui (s := (1, 8)) (lo := -2147483648) (hi := 2147483647) hk2 hn rfl rfl (ar_rng td).1 (ar_rng td).2 rfl rfl
    have o3 : ∀ c k, c ≠ 51 → c ≠ 52 → xg 0 (xh_ui (xh_ui h1 51 S f) 52 S td).2.1 c k = xg 0 h1.2.1 c k := fun c k z1 z2 => by rw [gx_o z2, gx_o z1]
    generalize xh_ui (xh_ui h1 51 S f) 52 S td = h3 at hk3 o3 ⊢
    have f33 : xg 0 h3.2.1 39 33 = nI S := by rw [o3 39 33 (by decide) (by decide)]; exact e33
    have e1 : nI S + Int32.ofInt 1 = nI (S + 1) := nI_1 S
    refine xa_tn 212 [] [] [.int (xg 0 (xh_ui h3 39 33 ((xg 0 h3.2.1 39 33) + (Int32.ofInt 1))).2.1 39 26)] (xh_ui h3 39 33 ((xg 0 h3.2.1 39 33) + (Int32.ofInt 1))) [] 10 (hk_q hk3 hn) rfl trivial (fun _ => ?_)
    rw [f33, e1]
    have J : a_J a_tb (xh_ui h3 39 33 (nI (S + 1))) := a_J_s hk3.1.2 (fun c k _ z1 _ => gx_i z1) (fun k hk' => by
      rw [gx_s, S1i] at hk'
      by_cases ek : k = S
      · subst ek
        intro s t hs ht hst
        have a1 := m45 s t hs ht hst
        dsimp only at a1 ⊢
        rw [gx_o (by decide), gx_o (by decide), o3 44 _ (by decide) (by decide), o3 44 _ (by decide) (by decide), rl_i gl hs, rl_i gl ht]
        rw [Nat.zero_add, Nat.zero_add] at a1
        exact a1
      · exact mo_c (h := h3) (c := 44) (B := 4096 * k) (hk3.1.2.2.1 k (by rw [f33, Si]; omega)) (fun s hs => gx_o (by decide)))
    exact xp_ret rfl rfl rfl ⟨hk_uj (s := (0, 10)) (lo := 0) (hi := 8) hk3 hn rfl rfl (by omega) (by omega) J rfl, _, rfl⟩
set_option maxRecDepth 100000 in
set_option maxHeartbeats 8000000 in
theorem xs_bod {d sz S : Nat} {f : Int32} {h0 : xh_H} (hn : 72 ≤ h0.1.length) (S8 : S < 8) (f9 : f.toInt ≤ 999) : ∀ (n : Nat) (h : xh_H), 641 - fr h ≤ n → hk xs_md h0 h → pi h sz → xg 0 h.2.1 39 33 = nI S → xt_P (d + 9) xi_X10_statute xmi_X10_statute 64 [(0, .ref 39), (1, .int f)] [] h (xs_Q h0) := by
  intro n
  induction n with
  | zero =>
    intro h hf hk0 p e33
    have := (kd_fr p.2.2.2.1).1
    omega
  | succ n ih =>
    intro h hf hk0 p e33
    have hq := hk_q hk0 hn
    have hn1 := hk_n hk0 hn
    have f640 := (kd_fr p.2.2.2.1).1
    refine xa_tn 65 [0, 1] [(0, .ref 39), (1, .int f)] [.ref 39] h [] 3 hq rfl trivial (fun _ => ?_)
    refine xp_run hq rfl rfl (isBody_run (d := d + 7) hq) ?_
    rintro v h1 ⟨rfl, rfl⟩
    cases hb : kyb h 50434 with
    | true =>
      have k2 := kd_e (k := 2) (by decide) (kyb_2 hb)
      refine xa_tn 72 [0, 1] [(0, .ref 39), (1, .int f)] [.ref 39] h [false] 4 hq rfl ⟨rfl, trivial⟩ (fun _ => ?_)
      refine xp_run hq rfl rfl (rb_run (d := d) hn1 p (by omega)) ?_
      rintro v h1 ⟨kk1, g1⟩
      have hk1 : hk xs_md h0 h1 := hk_t hk0 kk1 (by decide)
      rcases g1 with rfl | ⟨rfl, p1, f1⟩
      · refine xa_tn 84 [] [] [.int ((Int32.ofInt (-1)) - (xg 0 h1.2.1 39 14))] h1 [false] 7 (hk_q hk1 hn) rfl ⟨rfl, trivial⟩ (fun _ => ?_)
        exact xp_ret rfl rfl rfl ⟨hk1, _, rfl⟩
      · refine xa_tn 64 [0, 1] [(0, .ref 39), (1, .int f)] [] h1 [true] 3 (hk_q hk1 hn) rfl ⟨rfl, trivial⟩ (fun _ => ?_)
        exact ih h1 (by omega) hk1 p1 (by rw [hk_g (c := 39) (k := 33) kk1 rfl rfl]; exact e33)
    | false =>
      refine xa_tn 86 [0, 1] [(0, .ref 39), (1, .int f)] [.ref 39] h [true] 4 hq rfl ⟨rfl, trivial⟩ (fun _ => ?_)
      refine xp_run hq rfl rfl (isCarry_run (d := d + 7) hq) ?_
      rintro v h1 ⟨rfl, rfl⟩
      cases hc : kyb h 1627639 with
      | false =>
        refine xa_tn 94 [0, 1] [(0, .ref 39), (1, .int f)] [.int (Int32.ofInt 1), .ref 39] h [false] 5 hq rfl ⟨rfl, trivial⟩ (fun _ => ?_)
        refine xp_int (C := aC_m_X10_bad) (lo := 0) (hi := 0) (σ := fun _ => 0) as_m_X10_bad hq p.1 rfl rfl rfl (Nat.zero_le _) ⟨a_av (by decide) hq.1, a_ai (by decide) (by decide), trivial⟩ a_fp0 rfl (fun x hx x1 x2 ix lx fx qx => ?_)
        cases i00 x1 x2
        refine xa_tn 138 [] [] [.int ((Int32.ofInt (-1)) - (xg 0 hx.2.1 39 14))] hx [true, true] 11 qx rfl ⟨rfl, by decide, trivial⟩ (fun _ => ?_)
        exact xp_ret rfl rfl rfl ⟨hk_c hk0 ix lx fx (by decide), _, rfl⟩
      | true =>
        have k2 := kd_e (k := 2) (by decide) (kyb_2 hc)
        refine xa_tn 111 [0, 1] [(0, .ref 39), (1, .int f)] [.ref 39] h [true, false] 9 hq rfl ⟨rfl, by decide, trivial⟩ (fun _ => ?_)
        refine xp_run hq rfl rfl (rd_run (d := d + 1) hn1 p (by omega)) ?_
        rintro v h1 ⟨kk1, g1⟩
        have hk1 : hk xs_md h0 h1 := hk_t hk0 kk1 (by decide)
        have q1 := hk_q hk1 hn
        rcases g1 with rfl | ⟨rfl, p1, m45, f1⟩
        · refine xa_tn 138 [] [] [.int ((Int32.ofInt (-1)) - (xg 0 h1.2.1 39 14))] h1 [true] 7 q1 rfl ⟨rfl, trivial⟩ (fun _ => ?_)
          exact xp_ret rfl rfl rfl ⟨hk1, _, rfl⟩
        · cases c9 : xe_c .eq (xg 0 h1.2.1 39 9) 0 with
          | true =>
            refine xa_tn 141 [0, 1, 3] [(0, .ref 39), (1, .int f), (3, .int (Int32.ofInt 0))] [] h1 [false, true] 8 q1 rfl ⟨rfl, c9, trivial⟩ (fun _ => ?_)
            exact xs_end hn hk1 m45 (by rw [hk_g (c := 39) (k := 33) kk1 rfl rfl]; exact e33) S8 f9
          | false =>
            refine xa_tn 126 [0, 1] [(0, .ref 39), (1, .int f)] [.int (Int32.ofInt 1), .ref 39] h1 [false, false] 8 q1 rfl ⟨rfl, c9, trivial⟩ (fun _ => ?_)
            refine xp_int (C := aC_m_X10_bad) (lo := 0) (hi := 0) (σ := fun _ => 0) as_m_X10_bad q1 p1.1 rfl rfl rfl (Nat.zero_le _) ⟨a_av (by decide) q1.1, a_ai (by decide) (by decide), trivial⟩ a_fp0 rfl (fun x hx x1 x2 ix lx fx qx => ?_)
            cases i00 x1 x2
            refine xa_tn 138 [] [] [.int ((Int32.ofInt (-1)) - (xg 0 hx.2.1 39 14))] hx [false] 7 qx rfl ⟨rfl, trivial⟩ (fun _ => ?_)
            exact xp_ret rfl rfl rfl ⟨hk_c hk1 ix lx fx (by decide), _, rfl⟩
set_option maxRecDepth 100000 in
set_option maxHeartbeats 8000000 in
/-- X10.statute, from the tape's length on -/
theorem xs_r10 {d : Nat} {f t : Int32} {h : xh_H} (hn : 72 ≤ h.1.length) (hi : a_inv a_tb h) (t1 : 0 ≤ t.toInt) (t2 : t.toInt ≤ 640) : xt_P (d + 9) xi_X10_statute xmi_X10_statute 10 [(0, .ref 39), (1, .int f)] [.int t, .ref 39] h (xs_Q h) := by
  have hq := a_rq_of hi.1 hn
  obtain ⟨sz, et, s640, -⟩ := a_nk (m := 640) t1 t2
  refine xa_tn 13 [0, 1] [(0, .ref 39), (1, .int f)] [] (xh_ui h 39 6 t) [] 3 hq rfl trivial (fun _ => ?_)
  rw [et]
  have szi := nI_toInt (n := sz) (by omega)
  have hk3 : hk xs_md h (xh_ui h 39 6 (nI sz)) := hk_ui (s := (0, 10)) (lo := 0) (hi := 640) (hk_0 hi) hn rfl rfl (by omega) (by omega) rfl rfl
  have e6 : xg 0 (xh_ui h 39 6 (nI sz)).2.1 39 6 = nI sz := gx_s
  generalize xh_ui h 39 6 (nI sz) = h3 at hk3 e6 ⊢
  have q3 := hk_q hk3 hn
  have b33 := a_flx (c := 39) (k := 33) (lo := 0) (hi := 8) hk3.1.1 (hk_n hk3 hn) rfl rfl (by decide)
  obtain ⟨S, eS, S8, -⟩ := a_nk (m := 8) b33.1 b33.2
  have Si := nI_toInt (n := S) (by omega)
  have z8 : (8 : Int32).toInt = 8 := rfl
  by_cases e8 : S = 8
  · refine xa_tn 39 [] [] [.int (-1000)] h3 [true] 7 q3 rfl ⟨xeq_t (show (xg 0 h3.2.1 39 33).toInt = (8 : Int32).toInt by rw [eS, Si, e8]; rfl), trivial⟩ (fun _ => ?_)
    exact xp_ret rfl rfl rfl ⟨hk3, _, rfl⟩
  · refine xa_tn 30 [0, 1] [(0, .ref 39), (1, .int f)] [.int 999, .int (xg 0 h3.2.1 39 3), .int f] h3 [false] 10 q3 rfl ⟨xeq_f (show (xg 0 h3.2.1 39 33).toInt ≠ (8 : Int32).toInt by rw [eS, Si, z8]; omega), trivial⟩ (fun _ => ?_)
    refine xp_run q3 rfl rfl (isi_run (d := d + 8) (x := f) (lo := xg 0 h3.2.1 39 3) (hi := 999) q3) ?_
    rintro v h4 ⟨rfl, p, rfl, hp⟩
    cases p with
    | false =>
      refine xa_tn 39 [] [] [.int (-1000)] h3 [false] 4 q3 rfl ⟨rfl, trivial⟩ (fun _ => ?_)
      exact xp_ret rfl rfl rfl ⟨hk3, _, rfl⟩
    | true =>
      have f9 : f.toInt ≤ 999 := hp rfl
      refine xa_tn 61 [0, 1] [(0, .ref 39), (1, .int f)] [.ref 39] (xh_ui (xh_ui (xh_ui (xh_ui h3 39 13 (Int32.ofInt 0)) 39 26 (Int32.ofInt 0)) 39 27 (Int32.ofInt 0)) 39 7 (Int32.ofInt 0)) [true] 16 q3 rfl ⟨rfl, trivial⟩ (fun _ => ?_)
      have ka : hk xs_md h (xh_ui h3 39 13 (Int32.ofInt 0)) := hk_ui (s := (0, 10)) (lo := 0) (hi := 4) hk3 hn rfl rfl (by decide) (by decide) rfl rfl
      have kb : hk xs_md h (xh_ui (xh_ui h3 39 13 (Int32.ofInt 0)) 39 26 (Int32.ofInt 0)) := hk_ui (s := (0, 10)) (lo := 0) (hi := 16) ka hn rfl rfl (by decide) (by decide) rfl rfl
      have kc : hk xs_md h (xh_ui (xh_ui (xh_ui h3 39 13 (Int32.ofInt 0)) 39 26 (Int32.ofInt 0)) 39 27 (Int32.ofInt 0)) := hk_ui (s := (0, 10)) (lo := 0) (hi := 120) kb hn rfl rfl (by decide) (by decide) rfl rfl
      have hk4 : hk xs_md h (xh_ui (xh_ui (xh_ui (xh_ui h3 39 13 (Int32.ofInt 0)) 39 26 (Int32.ofInt 0)) 39 27 (Int32.ofInt 0)) 39 7 (Int32.ofInt 0)) := hk_ui (s := (0, 10)) (lo := 0) (hi := 640) kc hn rfl rfl (by decide) (by decide) rfl rfl
      have g6 : xg 0 (xh_ui (xh_ui (xh_ui (xh_ui h3 39 13 (Int32.ofInt 0)) 39 26 (Int32.ofInt 0)) 39 27 (Int32.ofInt 0)) 39 7 (Int32.ofInt 0)).2.1 39 6 = nI sz := by rw [gx_k (by decide), gx_k (by decide), gx_k (by decide), gx_k (by decide)]; exact e6
      have g33 : xg 0 (xh_ui (xh_ui (xh_ui (xh_ui h3 39 13 (Int32.ofInt 0)) 39 26 (Int32.ofInt 0)) 39 27 (Int32.ofInt 0)) 39 7 (Int32.ofInt 0)).2.1 39 33 = nI S := by rw [gx_k (by decide), gx_k (by decide), gx_k (by decide), gx_k (by decide)]; exact eS
      have g26 : xg 0 (xh_ui (xh_ui (xh_ui (xh_ui h3 39 13 (Int32.ofInt 0)) 39 26 (Int32.ofInt 0)) 39 27 (Int32.ofInt 0)) 39 7 (Int32.ofInt 0)).2.1 39 26 = nI 0 := by rw [gx_k (by decide), gx_k (by decide), gx_s]; rfl
      have g7 : xg 0 (xh_ui (xh_ui (xh_ui (xh_ui h3 39 13 (Int32.ofInt 0)) 39 26 (Int32.ofInt 0)) 39 27 (Int32.ofInt 0)) 39 7 (Int32.ofInt 0)).2.1 39 7 = nI 0 := gx_s
      generalize xh_ui (xh_ui (xh_ui (xh_ui h3 39 13 (Int32.ofInt 0)) 39 26 (Int32.ofInt 0)) 39 27 (Int32.ofInt 0)) 39 7 (Int32.ofInt 0) = h4 at hk4 g6 g33 g26 g7 ⊢
      refine xp_run (hk_q hk4 hn) rfl rfl (g0 (d := d + 7) (t0 := 0) (hk_n hk4 hn) s640 g6 sz 0 h4 (by omega) (Nat.le_refl _) (hk_0 hk4.1) g7) ?_
      rintro v h5 ⟨rfl, kg5, gp5⟩
      have hk5 : hk xs_md h h5 := hk_t hk4 kg5 (by decide)
      have p5 : pi h5 sz := ⟨hk5.1, s640, by rw [hk_g (c := 39) (k := 6) kg5 rfl rfl]; exact g6, gp5, 0, by rw [hk_g (c := 39) (k := 26) kg5 rfl rfl]; exact g26, by decide, fun k hk' => absurd hk' (Nat.not_lt_zero k)⟩
      exact xs_bod (S := S) hn (by omega) f9 641 h5 (by omega) hk5 p5 (by rw [hk_g (c := 39) (k := 33) kg5 rfl rfl]; exact g33)
set_option maxRecDepth 100000 in
theorem tk_run {d : Nat} {h : xh_H} (hq : a_rq a_tb h) : xt_P d xi_X10_take xmi_X10_take 0 [(0, .ref 39)] [] h (fun v h' => v = some (.int (xg 0 h.2.1 39 2)) ∧ h' = xh_ui h 39 2 (Int32.ofInt 0)) := by
  refine xa_tn 11 [] [] [.int (xg 0 h.2.1 39 2)] (xh_ui h 39 2 (Int32.ofInt 0)) [] 9 hq rfl trivial (fun _ => ?_)
  exact xp_ret rfl rfl rfl ⟨rfl, rfl⟩
set_option maxRecDepth 100000 in
set_option maxHeartbeats 8000000 in
/-- X10.statute: it takes the tape -/
theorem xs_run {d : Nat} {f : Int32} {h : xh_H} (hn : 72 ≤ h.1.length) (hi : a_inv a_tb h) : xt_P (d + 9) xi_X10_statute xmi_X10_statute 0 [(0, .ref 39), (1, .int f)] [] h (fun v h' => hk ((39, 2) :: xs_md) h h' ∧ (∃ x, v = some (.int x)) ∧ xg 0 h'.2.1 39 2 = 0) := by
  have hq := a_rq_of hi.1 hn
  refine xa_tn 7 [0, 1] [(0, .ref 39), (1, .int f)] [.ref 39, .ref 39] (xh_ui h 39 0 (Int32.ofInt 0)) [] 7 hq rfl trivial (fun _ => ?_)
  have hk1 : hk ((39, 2) :: xs_md) h (xh_ui h 39 0 (Int32.ofInt 0)) := hk_ui (s := (0, 10)) (lo := 0) (hi := 1) (hk_0 hi) hn rfl rfl (by decide) (by decide) rfl rfl
  generalize xh_ui h 39 0 (Int32.ofInt 0) = h1 at hk1 ⊢
  have q1 := hk_q hk1 hn
  have tb := a_flx (c := 39) (k := 2) (lo := 0) (hi := 640) hk1.1.1 (hk_n hk1 hn) rfl rfl (by decide)
  refine xp_run q1 rfl rfl (tk_run (d := d + 8) q1) ?_
  rintro v h2 ⟨rfl, e2⟩
  have hk2 : hk ((39, 2) :: xs_md) h h2 := by
    rw [e2]
    exact hk_ui (s := (0, 10)) (lo := 0) (hi := 640) hk1 hn rfl rfl (by decide) (by decide) rfl rfl
  have z2 : xg 0 h2.2.1 39 2 = 0 := by rw [e2]; exact gx_s
  refine xp_mono (xs_r10 (d := d) (f := f) (hk_n hk2 hn) hk2.1 tb.1 tb.2) (fun v h' q => ?_)
  exact ⟨hk_t hk2 q.1 (fun _ z => List.mem_cons_of_mem _ z), q.2, (hk_g (c := 39) (k := 2) q.1 rfl rfl).trans z2⟩
end XST
end
section
section XAD
def xs_ad (c s : Nat) (o : xs_S) : xs_S := (o.1, o.2.1, o.2.2.1, o.2.2.2.1, c + o.2.2.2.2.1, s + o.2.2.2.2.2)
theorem cd_map {α β : Type} {f : α → β} {b : Bool} {x y : Option α} : (cond b x y).map f = cond b (x.map f) (y.map f) := by cases b <;> rfl
set_option maxHeartbeats 4000000 in
theorem xe_1_ad {nL : Nat} {r : xr_R} {pc : Nat} {lv : List (Nat × Value)} {st : List Value} {h : xh_H} {c s c0 s0 : Nat} : xe_1 nL r pc lv st h (c + c0) (s + s0) = (xe_1 nL r pc lv st h c0 s0).map (xs_ad c s) := by
  unfold xe_1
  split <;> (try unfold xe_ld) <;> (try unfold xe_st1) <;> (try unfold xe_st2) <;> (try unfold xp_ii) <;> (try unfold xp_ll) <;> (try unfold xp_il) <;> (try unfold xp_i) <;> (try unfold xp_l) <;> (try unfold xp_r) <;> (try unfold xp_vr) <;> (try unfold xp_ir) <;> (try unfold xp_iir) <;> (try unfold xp_lir) <;> (try unfold xp_rir) <;> (repeat' split) <;> (try dsimp only) <;> (repeat' split) <;> (try dsimp only) <;> first | rfl | (simp only [cd_map, Option.map_some, Option.map_none, Option.map_map, xs_ad, Nat.add_assoc]; done) | (simp only [cd_map, Option.map_some, Option.map_none, Option.map_map, xs_ad, Nat.add_assoc]; rfl) | (simp only [cd_map, Option.map_some, Option.map_none, Option.map_map, xs_ad, Nat.add_assoc]; split <;> simp only [cd_map, Option.map_some, Option.map_none, Option.map_map, xs_ad, Nat.add_assoc])
theorem xe_o_ad {scr : Option (Nat × (Nat → Int32))} {r : xr_R} {pc : Nat} {lv : List (Nat × Value)} {st : List Value} {h : xh_H} {c s c0 s0 : Nat} : xe_o scr r pc lv st h (c + c0) (s + s0) = (xe_o scr r pc lv st h c0 s0).map (xs_ad c s) := by
  unfold xe_o
  split <;> (repeat' split) <;> first | rfl | (simp only [cd_map, Option.map_some, Option.map_none, xs_ad])
theorem xe_oi_ad {r : xr_R} {pc d : Nat} {lv : List (Nat × Value)} {st : List Value} {h : xh_H} {c s c0 s0 : Nat} : xe_oi r pc d lv st h (c + c0) (s + s0) = (xe_oi r pc d lv st h c0 s0).map (xs_ad c s) := by
  unfold xe_oi
  split <;> (repeat' split) <;> first | rfl | (simp only [cd_map, Option.map_some, Option.map_none, xs_ad])
theorem xe_2_ad {scr : Option (Nat × (Nat → Int32))} {nL : Nat} {r : xr_R} {d pc : Nat} {lv : List (Nat × Value)} {st : List Value} {h : xh_H} {c s c0 s0 : Nat} : xe_2 scr nL r d pc lv st h (c + c0) (s + s0) = (xe_2 scr nL r d pc lv st h c0 s0).map (xs_ad c s) := by
  unfold xe_2
  rw [xe_1_ad, xe_o_ad, xe_oi_ad]
  cases xe_1 nL r pc lv st h c0 s0 with
  | some o => rfl
  | none =>
    cases xe_o scr r pc lv st h c0 s0 with
    | some o => rfl
    | none => rfl
/-- what was made before a run only adds to what it makes -/
theorem xe_x_ad {scr : Option (Nat × (Nat → Int32))} {mid : Nat} {mi : xm_M} : ∀ (f d pc : Nat) (lv : List (Nat × Value)) (st : List Value) (h : xh_H) (c0 s0 : Nat) (v : Option Value) (h' : xh_H) (c' s' : Nat), xe_x xM xC scr f d mid mi (pc, lv, st, h, c0, s0) = some (v, h', c', s') → ∀ c s, xe_x xM xC scr f d mid mi (pc, lv, st, h, c + c0, s + s0) = some (v, h', c + c', s + s') := by
  intro f
  induction f with
  | zero => intro d pc lv st h c0 s0 v h' c' s' he; cases he
  | succ f ih =>
    intro d pc lv st h c0 s0 v h' c' s' he c s
    unfold xe_x at he ⊢
    cases hr : xC mid pc with
    | none => rw [hr] at he; cases he
    | some r =>
      rw [hr] at he
      dsimp only at he ⊢
      cases hi : xe_isr r.1 with
      | true =>
        rw [hi] at he
        simp only [cond_true] at he ⊢
        cases hv : xe_rv r.1 mi.2.2.2.2.1 st with
        | none => rw [hv] at he; cases he
        | some w => rw [hv] at he; cases he; rfl
      | false =>
        rw [hi] at he
        simp only [cond_false] at he ⊢
        rw [xe_2_ad]
        cases h2 : xe_2 scr mi.2.2.2.1 r d pc lv st h c0 s0 with
        | some o =>
          rw [h2] at he
          obtain ⟨pc1, lv1, st1, h1, c1, s1⟩ := o
          exact ih _ _ _ _ _ _ _ _ _ _ _ he c s
        | none =>
          rw [h2] at he
          dsimp only [Option.map_none] at he ⊢
          cases d with
          | zero => cases he
          | succ d' =>
            dsimp only at he ⊢
            cases hcl : xe_cl xM r st h with
            | none => rw [hcl] at he; cases he
            | some t =>
              obtain ⟨mj, As, q⟩ := t
              rw [hcl] at he
              dsimp only at he ⊢
              cases hx : xe_x xM xC none f d' r.2.2.1 mj (0, lv_args 0 As, [], h, 0, 0) with
              | none => rw [hx] at he; cases he
              | some t =>
                obtain ⟨v1, h1, mc, ms⟩ := t
                rw [hx] at he
                dsimp only at he ⊢
                rw [Nat.add_assoc, Nat.add_assoc]
                exact ih _ _ _ _ _ _ _ _ _ _ _ he c s
theorem xR_ad {scr : Option (Nat × (Nat → Int32))} {d mid : Nat} {mi : xm_M} {pc : Nat} {lv : List (Nat × Value)} {st : List Value} {h h' : xh_H} {v : Option Value} {c' s' : Nat} (k : xR scr d mid mi (pc, lv, st, h, 0, 0) (v, h', c', s')) (c s : Nat) : xR scr d mid mi (pc, lv, st, h, c, s) (v, h', c + c', s + s') := by
  obtain ⟨f, hf⟩ := k
  exact ⟨f, xe_x_ad f _ _ _ _ _ _ _ _ _ _ _ hf c s⟩
end XAD
end
section
section XNS
theorem a_e_mono {h h' : xh_H} {c k : Nat} {e : Nat × Int × Int} (ei : xg 0 h'.2.1 c k = xg 0 h.2.1 c k) (el : xg 0 h'.2.2.1 c k = xg 0 h.2.2.1 c k) (er : xg none h'.2.2.2 c k = xg none h.2.2.2 c k) (hn : h.1.length ≤ h'.1.length) (a : a_e h c k e) : a_e h' c k e := by
  obtain ⟨t, lo, hi⟩ := e
  match t, a with
  | 0, a =>
    show lo ≤ (xg 0 h'.2.1 c k).toInt ∧ (xg 0 h'.2.1 c k).toInt ≤ hi
    rw [ei]
    exact a
  | 1, a =>
    show lo ≤ (xg 0 h'.2.2.1 c k).toInt ∧ (xg 0 h'.2.2.1 c k).toInt ≤ hi
    rw [el]
    exact a
  | 2, a =>
    obtain ⟨q, q1, q2, q3⟩ := a
    exact ⟨q, by rw [er]; exact q1, by omega, q3⟩
  | 3, a =>
    intro q hq
    rw [er] at hq
    have g := a q hq
    exact ⟨by have := g.1; omega, g.2⟩
  | n + 4, _ => trivial
/-- a new Statute -/
def ns_h (h : xh_H) (f : Int32) : xh_H := xh_ur (xh_nw (xh_ui (xh_nw h (0, 7)) h.1.length 0 f) (4, 64)) h.1.length 1 (some (h.1.length + 1))
variable {h : xh_H} {f : Int32}
theorem ns_1 : (ns_h h f).1 = (h.1 ++ [(0, 7)]) ++ [(4, 64)] := rfl
theorem ns_n : (ns_h h f).1.length = h.1.length + 2 := by rw [ns_1, List.length_append, List.length_append]; rfl
theorem ns_lo {c : Nat} (hc : c < h.1.length) : (ns_h h f).1[c]? = h.1[c]? := by
  rw [ns_1, List.getElem?_append_left (by rw [List.length_append]; omega), List.getElem?_append_left hc]
theorem ns_s0 : (ns_h h f).1[h.1.length]? = some (0, 7) := by
  rw [ns_1, List.getElem?_append_left (by rw [List.length_append]; exact Nat.lt_succ_self _), List.getElem?_append_right (Nat.le_refl _), Nat.sub_self]
  rfl
theorem ns_s1 : (ns_h h f).1[h.1.length + 1]? = some (4, 64) := by
  rw [ns_1, List.getElem?_append_right (by rw [List.length_append]; exact Nat.le_refl _), List.length_append]
  show ([(4, 64)] : List (Nat × Nat))[h.1.length + 1 - (h.1.length + 1)]? = _
  rw [Nat.sub_self]
  rfl
theorem ns_l1 : (h.1 ++ [((0, 7) : Nat × Nat)]).length = h.1.length + 1 := by rw [List.length_append]; rfl
theorem ns_i {c k : Nat} (hc : c < h.1.length) : xg 0 (ns_h h f).2.1 c k = xg 0 h.2.1 c k := by
  show xg 0 (xh_rs (xh_up 0 (xh_rs h.2.1 h.1.length) h.1.length 0 f) (h.1 ++ [((0, 7) : Nat × Nat)]).length) c k = _
  rw [xh_rs_o (by rw [ns_l1]; omega), xh_up_o (by omega), xh_rs_o (by omega)]
theorem ns_f : xg 0 (ns_h h f).2.1 h.1.length 0 = f := by
  show xg 0 (xh_rs (xh_up 0 (xh_rs h.2.1 h.1.length) h.1.length 0 f) (h.1 ++ [((0, 7) : Nat × Nat)]).length) h.1.length 0 = _
  rw [xh_rs_o (by rw [ns_l1]; omega), xh_up_s]
theorem ns_g {c k : Nat} (hc : c < h.1.length) : xg 0 (ns_h h f).2.2.1 c k = xg 0 h.2.2.1 c k := by
  show xg 0 (xh_rs (xh_rs h.2.2.1 h.1.length) (h.1 ++ [((0, 7) : Nat × Nat)]).length) c k = _
  rw [xh_rs_o (by rw [ns_l1]; omega), xh_rs_o (by omega)]
theorem ns_r {c k : Nat} (hc : c < h.1.length) : xg none (ns_h h f).2.2.2 c k = xg none h.2.2.2 c k := by
  show xg none (xh_up none (xh_rs (xh_rs h.2.2.2 h.1.length) (h.1 ++ [((0, 7) : Nat × Nat)]).length) h.1.length 1 (some (h.1.length + 1))) c k = _
  rw [xh_up_o (by omega), xh_rs_o (by rw [ns_l1]; omega), xh_rs_o (by omega)]
theorem ns_r1 : xg none (ns_h h f).2.2.2 h.1.length 1 = some (h.1.length + 1) := by
  show xg none (xh_up none (xh_rs (xh_rs h.2.2.2 h.1.length) (h.1 ++ [((0, 7) : Nat × Nat)]).length) h.1.length 1 (some (h.1.length + 1))) h.1.length 1 = _
  rw [xh_up_s]
theorem a_tg_e {q : Nat} (h1 : 72 ≤ q) (h2 : q % 2 = 0) : a_tg q = 11 := by
  unfold a_tg
  rw [show Nat.blt q 72 = false from by rw [Bool.eq_false_iff]; intro z; have := Nat.blt_eq.mp z; omega, h2]
  rfl
theorem a_tg_o {q : Nat} (h1 : 72 ≤ q) (h2 : q % 2 = 1) : a_tg q = 12 := by
  unfold a_tg
  rw [show Nat.blt q 72 = false from by rw [Bool.eq_false_iff]; intro z; have := Nat.blt_eq.mp z; omega, h2]
  rfl
theorem a_jc_72 {c k : Nat} (hj : a_jc c k = true) : c < 72 := by
  by_cases hc : c < 72
  · exact hc
  · rw [a_jc_ar (b := c) (t := 0) (k := k) (by omega) (by omega) (fun z => absurd z hc) rfl] at hj
    cases hj
/-- .. and the heap keeps its bounds -/
theorem ns_inv (hi : a_inv a_tb h) (hn : 72 ≤ h.1.length) (hp : h.1.length % 2 = 0) (f9 : f.toInt ≤ 999) : a_inv a_tb (ns_h h f) := by
  refine ⟨fun c s hs => ?_, a_J_of hi.2 (fun c k hj => ns_i (by have := a_jc_72 hj; omega))⟩
  by_cases hc : c < h.1.length
  · rw [ns_lo hc] at hs
    obtain ⟨a1, a2⟩ := hi.1 c s hs
    exact ⟨a1, fun k hk' => a_e_mono (ns_i hc) (ns_g hc) (ns_r hc) (by rw [ns_n]; omega) (a2 k hk')⟩
  · by_cases e : c = h.1.length
    · subst e
      rw [ns_s0] at hs
      cases hs
      rw [a_tg_e hn hp]
      refine ⟨rfl, fun k hk' => ?_⟩
      have hk' : k < 2 := hk'
      have h01 : k = 0 ∨ k = 1 := by omega
      rcases h01 with rfl | rfl
      · show (-2147483648 : Int) ≤ (xg 0 (ns_h h f).2.1 h.1.length 0).toInt ∧ (xg 0 (ns_h h f).2.1 h.1.length 0).toInt ≤ 999
        rw [ns_f]
        exact ⟨(ar_rng f).1, f9⟩
      · exact ⟨h.1.length + 1, ns_r1, by rw [ns_n]; omega, a_tg_o (by omega) (by omega)⟩
    · by_cases e2 : c = h.1.length + 1
      · subst e2
        rw [ns_s1] at hs
        cases hs
        rw [a_tg_o (by omega) (by omega)]
        refine ⟨rfl, fun k hk' => ?_⟩
        show (-9223372036854775808 : Int) ≤ (xg 0 (ns_h h f).2.2.1 (h.1.length + 1) k).toInt ∧ (xg 0 (ns_h h f).2.2.1 (h.1.length + 1) k).toInt ≤ 9223372036854775807
        exact lr _
      · rw [List.getElem?_eq_none (by rw [ns_n]; omega)] at hs
        cases hs
theorem xR_pf {scr : Option (Nat × (Nat → Int32))} {d mid : Nat} {mi : xm_M} {pc a ix ci k K i : Nat} {lv : List (Nat × Value)} {q : List Value} {v : Value} {h h1 : xh_H} {c s : Nat} {o : Option Value × xh_H × Nat × Nat} (hr : xC mid pc = some (.putfield ix, 3, ci, k, K, i)) (hs : h.1[a]? = some (0, ci)) (hp : xe_put h a (xh_ty ci k) k v = some h1) (kk : xR scr d mid mi (pc + 3, lv, q, h1, c, s) o) : xR scr d mid mi (pc, lv, v :: .ref a :: q, h, c, s) o := xR_step hr rfl (by simp [xe_2, xe_1, xp_vr, hs, hp]) kk
set_option maxRecDepth 100000 in
theorem ns_init {d : Nat} : xR none (d + 1) xi_X7_init xmi_X7_init (0, lv_args 0 [.ref h.1.length, .int f], [], xh_nw h (0, 7), 0, 0) (none, ns_h h f, 1, 64) := by
  refine xR_step (o1 := (1, lv_args 0 [.ref h.1.length, .int f], [.ref h.1.length], xh_nw h (0, 7), 0, 0)) rfl rfl rfl ?_
  refine xR_step (o1 := (4, lv_args 0 [.ref h.1.length, .int f], [], xh_nw h (0, 7), 0, 0)) rfl rfl rfl ?_
  refine xR_step (o1 := (5, lv_args 0 [.ref h.1.length, .int f], [.ref h.1.length], xh_nw h (0, 7), 0, 0)) rfl rfl rfl ?_
  refine xR_step (o1 := (6, lv_args 0 [.ref h.1.length, .int f], [.int f, .ref h.1.length], xh_nw h (0, 7), 0, 0)) rfl rfl rfl ?_
  refine xR_pf (h1 := xh_ui (xh_nw h (0, 7)) h.1.length 0 f) rfl (show (h.1 ++ [((0, 7) : Nat × Nat)])[h.1.length]? = some (0, 7) by rw [List.getElem?_append_right (Nat.le_refl _), Nat.sub_self]; rfl) rfl ?_
  refine xR_step (o1 := (10, lv_args 0 [.ref h.1.length, .int f], [.ref h.1.length], xh_ui (xh_nw h (0, 7)) h.1.length 0 f, 0, 0)) rfl rfl rfl ?_
  refine xR_step (o1 := (12, lv_args 0 [.ref h.1.length, .int f], [.int 64, .ref h.1.length], xh_ui (xh_nw h (0, 7)) h.1.length 0 f, 0, 0)) rfl rfl rfl ?_
  refine xR_step (o1 := (14, lv_args 0 [.ref h.1.length, .int f], [.ref (h.1 ++ [((0, 7) : Nat × Nat)]).length, .ref h.1.length], xh_nw (xh_ui (xh_nw h (0, 7)) h.1.length 0 f) (4, 64), 1, 64)) rfl rfl rfl ?_
  rw [ns_l1]
  refine xR_pf (h1 := ns_h h f) rfl (show (h.1 ++ [((0, 7) : Nat × Nat)] ++ [((4, 64) : Nat × Nat)])[h.1.length]? = some (0, 7) from ns_s0 (f := f)) rfl ?_
  exact xR_ret rfl rfl rfl
end XNS
end
section
section XS9
/-- a run that may make cells comes to an end of which Q holds -/
def xt_B (d mid : Nat) (mi : xm_M) (pc : Nat) (lv : List (Nat × Value)) (st : List Value) (h : xh_H) (Q : Option Value → xh_H → Nat → Nat → Prop) : Prop := ∃ v h' c s, xR none d mid mi (pc, lv, st, h, 0, 0) (v, h', c, s) ∧ Q v h' c s
section
variable {tb : aT} {mid d : Nat} {mi : xm_M} {pc : Nat} {lv : List (Nat × Value)} {st : List Value} {h : xh_H} {Q : Option Value → xh_H → Nat → Nat → Prop}
theorem xb_tn (pc1 : Nat) (ks : List Nat) (lv1 : List (Nat × Value)) (st1 : List Value) (h1 : xh_H) (p : List Bool) (f : Nat) {P : Prop} (hq : a_rq tb h) (he : xa_n tb mid mi.2.2.2.1 pc1 f p ks pc lv st h = some ((pc1, lv1, st1, h1), P)) (hP : P) (k : a_rq tb h1 → xt_B d mid mi pc1 lv1 st1 h1 Q) : xt_B d mid mi pc lv st h Q := by
  unfold xa_n at he
  obtain ⟨n1, he⟩ := xw_c he
  split at he
  · rename_i pc2 lv2 st2 h2 P2 hx
    split at he
    · rename_i l hl
      cases he
      obtain ⟨k1, k2⟩ := xa_ok (d := d) f false p pc lv st h _ _ hx hq hP
      obtain ⟨v, h', c, s, r, q⟩ := k k1
      obtain ⟨e1, e2⟩ := xl_pk_ok hl
      refine ⟨v, h', c, s, k2 _ (xR_sb ⟨?_, e2⟩ r), q⟩
      rw [e1]
      exact xl_nd_ok n1
    · cases he
  · cases he
theorem xb_P {Q1 : Option Value → xh_H → Prop} (h1 : xt_P d mid mi pc lv st h Q1) (h2 : ∀ v h', Q1 v h' → Q v h' 0 0) : xt_B d mid mi pc lv st h Q := by
  obtain ⟨v, h', r, q⟩ := h1
  exact ⟨v, h', 0, 0, r, h2 v h' q⟩
theorem xb_void {C : aC} {r : xr_R} {mj : xm_M} {As q : List Value} {σ : aN → Int} {P : aP} (hC : a_spec tb C) (hq : a_rq tb h) (hi0 : a_inv tb h) (hr : xC mid pc = some r) (hid : C.1 = r.2.2.1) (he : xa_c r st = some (mj, As, q)) (hd : C.2.1 ≤ d) (ha : a_st σ h.1.length C.2.2.1 As) (hp : a_fp C.2.2.2.2.2 h) (hret : C.2.2.2.1 = [(none, P)])
    (k : ∀ (h' : xh_H), a_fp P h' → a_inv tb h' → h'.1 = h.1 → a_fr C.2.2.2.2.1 h h' → a_rq tb h' → xt_B (d + 1) mid mi (pc + 3) lv q h' Q) : xt_B (d + 1) mid mi pc lv st h Q := by
  obtain ⟨e1, e2, e3, e4⟩ := xa_c_ok (d := d) (pc := pc) (lv := lv) (nL := mi.2.2.2.1) hq he
  obtain ⟨v, h', r1, p1, p2, ⟨t, ht, p3⟩, p4⟩ := hC d mj As h σ hd (by rw [hid]; exact e4) hi0 hq.1 ha hp
  rw [hret] at ht
  cases List.mem_singleton.mp ht
  obtain ⟨g1, g2⟩ := p3
  cases g1
  obtain ⟨v2, h2, c, s, r2, q2⟩ := k h' g2 p1 p2 p4 (a_rq_of p1.1 (by rw [p2]; exact hq.1))
  have r3 := xR_call (v := none) (h' := h') (mc := 0) (ms := 0) hr e3 e2 e1 (by rw [← hid]; exact r1) r2
  exact ⟨v2, h2, c, s, r3, q2⟩
end
/-- what may change: the heap keeps its bounds, cells come in pairs -/
def hl (md : List (Nat × Nat)) (h0 h : xh_H) : Prop := a_inv a_tb h ∧ 72 ≤ h.1.length ∧ h.1.length % 2 = 0 ∧ a_fr md h0 h
theorem hl_hk {md : List (Nat × Nat)} {h0 h : xh_H} (hk0 : hk md h0 h) (hn : 72 ≤ h0.1.length) (hp : h0.1.length % 2 = 0) : hl md h0 h := ⟨hk0.1, hk_n hk0 hn, by rw [hk0.2.1]; exact hp, hk0.2.2⟩
theorem a_fr_t {md md' : List (Nat × Nat)} {h0 h1 h2 : xh_H} (a : a_fr md h0 h1) (b : a_fr md' h1 h2) (hs : ∀ q, q ∈ md' → q ∈ md) : a_fr md h0 h2 := fun c k hz hm => (b c k hz (fun z => hm (hs _ z))).trans (a c k hz hm)
abbrev ss_md : List (Nat × Nat) := [(0, 8), (0, 11), (1, 1), (7, 0), (3, 4), (3, 5), (3, 6), (3, 7), (3, 8), (3, 9), (4, 3), (5, 0), (6, 0), (8, 1), (8, 2), (8, 3), (8, 4), (8, 5), (8, 6), (9, 0), (10, 0)]
set_option maxRecDepth 100000 in
set_option maxHeartbeats 8000000 in
/-- from the new Statute on -/
theorem s9_rest {d n : Nat} {f : Int32} {h : xh_H} (hn : 72 ≤ h.1.length) (hi : a_inv a_tb h) (n72 : 72 ≤ n) (hpn : n % 2 = 0) (hnl : n < h.1.length) (hsn : h.1[n]? = some (0, 7)) (h8 : (xg 0 h.2.1 0 8).toInt < 8) : xt_P (d + 49) xi_X9_statute xmi_X9_statute 91 [(0, .ref 0), (1, .int f)] [.ref n] h (fun v h' => hk ss_md h h' ∧ (∃ x, v = some (.int x)) ∧ xg 0 h'.2.1 1 1 = xg 0 h.2.1 1 1) := by
  have hq := a_rq_of hi.1 hn
  have mb := a_flx (c := 0) (k := 9) (lo := 1) (hi := 12) hi.1 hn rfl rfl (by decide)
  have cb := a_flx (c := 0) (k := 8) (lo := 0) (hi := 8) hi.1 hn rfl rfl (by decide)
  refine xa_tn 104 [0, 2] [(0, .ref 0), (2, .ref n)] [.int (xg 0 h.2.1 0 9), .ref n, .ref 4] h [] 9 hq rfl trivial (fun _ => ?_)
  refine xp_void (C := aC_m_X3_fill) (P := []) (σ := fun _ => 0) as_m_X3_fill hq hi rfl rfl rfl (by show 2 ≤ d + 48; omega) ⟨a_av (t := 4) (by decide) hq.1, ⟨n, rfl, hnl, a_tg_e n72 hpn⟩, a_ai mb.1 mb.2, trivial⟩ a_fp0 rfl (fun h2 _ i2 l2 f2 q2 => ?_)
  have hk2 : hk ss_md h h2 := hk_c (hk_0 hi) i2 l2 f2 (by decide)
  have e8 : xg 0 h2.2.1 0 8 = xg 0 h.2.1 0 8 := fr_g f2 rfl rfl
  refine xa_tn 116 [0, 2] [(0, .ref 0), (2, .ref n)] [.ref n, .int (xg 0 h2.2.1 0 8), .ref 13] h2 [] 7 q2 rfl trivial (fun _ => ?_)
  obtain ⟨k, ek, k8, -⟩ := a_nk (m := 7) cb.1 (by omega)
  rw [e8, ek]
  have hin : xe_in (nI k) 8 = true := xin_n (by omega) (by omega)
  have ecl : (nI k).toNatClampNeg = k := nI_clamp (by omega)
  have ki := nI_toInt (n := k + 1) (by omega)
  have s13 : h2.1[13]? = some (5, 8) := q2.2.1 13 _ rfl
  have sn2 : h2.1[n]? = some (0, 7) := by rw [l2]; exact hsn
  refine xp_step (pc1 := 117) (lv1 := [(0, .ref 0), (2, .ref n)]) (st1 := []) (h1 := xh_ur h2 13 k (some n)) (r := _) rfl rfl (by simp [xe_2, xe_1, xp_rir, s13, sn2, hin, ecl]) ?_
  have i3 : a_inv a_tb (xh_ur h2 13 k (some n)) := a_inv_ur (s := (5, 8)) (e := (3, 11, 0)) i2 s13 rfl (Or.inr rfl) ⟨by rw [l2]; exact hnl, a_tg_e n72 hpn⟩
  have hk3 : hk ss_md h (xh_ur h2 13 k (some n)) := ⟨i3, l2, hk2.2.2⟩
  have e11 : xg 0 (xh_ur h2 13 k (some n)).2.1 1 1 = xg 0 h.2.1 1 1 := fr_g f2 rfl rfl
  have e83 : xg 0 (xh_ur h2 13 k (some n)).2.1 0 8 = nI k := by
    show xg 0 h2.2.1 0 8 = nI k
    rw [e8]
    exact ek
  generalize xh_ur h2 13 k (some n) = h3 at hk3 e83 e11 ⊢
  refine xa_tn 134 [] [] [.int (xg 0 (xh_ui h3 0 8 ((xg 0 h3.2.1 0 8) + (Int32.ofInt 1))).2.1 3 7)] (xh_ui h3 0 8 ((xg 0 h3.2.1 0 8) + (Int32.ofInt 1))) [] 11 (hk_q hk3 hn) rfl trivial (fun _ => ?_)
  have e1 : nI k + Int32.ofInt 1 = nI (k + 1) := nI_1 k
  rw [e83, e1]
  exact xp_ret rfl rfl rfl ⟨hk_ui (s := (0, 9)) (lo := 0) (hi := 8) hk3 hn rfl rfl (by omega) (by omega) rfl rfl, ⟨_, rfl⟩, (gx_o (by decide)).trans e11⟩
set_option maxRecDepth 100000 in
set_option maxHeartbeats 8000000 in
/-- .. with its making -/
theorem s9_new {d : Nat} {f : Int32} {h : xh_H} (hn : 72 ≤ h.1.length) (hp : h.1.length % 2 = 0) (hi : a_inv a_tb h) (h8 : (xg 0 h.2.1 0 8).toInt < 8) (f9 : f.toInt ≤ 999) : xt_B (d + 49) xi_X9_statute xmi_X9_statute 83 [(0, .ref 0), (1, .int f)] [] h (fun v h' c s => hl ss_md h h' ∧ ((∃ x, v = some (.int x)) ∧ xg 0 h'.2.1 1 1 = xg 0 h.2.1 1 1) ∧ c ≤ 2 ∧ s ≤ 66) := by
  have i1 := ns_inv hi hn hp f9
  have n1 : (ns_h h f).1.length = h.1.length + 2 := ns_n
  obtain ⟨v, h', r, q1, q2⟩ := s9_rest (d := d) (n := h.1.length) (f := f) (h := ns_h h f) (by omega) i1 hn hp (by omega) ns_s0 (by rw [ns_i (by omega)]; exact h8)
  refine ⟨v, h', 2, 66, ?_, ⟨q1.1, by rw [q1.2.1]; omega, by rw [q1.2.1]; omega, a_fr_t (fun c k hz _ => ns_i (by have := a_fz_lt hz; omega)) q1.2.2 (fun _ z => z)⟩, ⟨q2.1, q2.2.trans (ns_i (by omega))⟩, Nat.le_refl _, Nat.le_refl _⟩
  refine xR_step (o1 := (86, [(0, .ref 0), (1, .int f)], [.ref h.1.length], xh_nw h (0, 7), 1, 2)) rfl rfl rfl ?_
  refine xR_step (o1 := (87, [(0, .ref 0), (1, .int f)], [.ref h.1.length, .ref h.1.length], xh_nw h (0, 7), 1, 2)) rfl rfl rfl ?_
  refine xR_step (o1 := (88, [(0, .ref 0), (1, .int f)], [.int f, .ref h.1.length, .ref h.1.length], xh_nw h (0, 7), 1, 2)) rfl rfl rfl ?_
  refine xR_call (d := d + 48) (v := none) (h' := ns_h h f) (mc := 1) (ms := 64) (As := [.ref h.1.length, .int f]) (q := [.ref h.1.length]) (mj := xmi_X7_init) rfl rfl rfl rfl (ns_init (d := d + 47)) ?_
  exact xR_ad r 2 66
set_option maxRecDepth 100000 in
set_option maxHeartbeats 8000000 in
/-- X9.statute -/
theorem s9s_run {d : Nat} {f : Int32} {h : xh_H} (hn : 72 ≤ h.1.length) (hp : h.1.length % 2 = 0) (hi : a_inv a_tb h) : xt_B (d + 49) xi_X9_statute xmi_X9_statute 0 [(0, .ref 0), (1, .int f)] [] h (fun v h' c s => hl ss_md h h' ∧ ((∃ x, v = some (.int x)) ∧ xg 0 h'.2.1 1 1 = 0) ∧ c ≤ 2 ∧ s ≤ 66) := by
  have hq := a_rq_of hi.1 hn
  have mb := a_flx (c := 0) (k := 9) (lo := 1) (hi := 12) hi.1 hn rfl rfl (by decide)
  have bad : xt_B (d + 49) xi_X9_statute xmi_X9_statute 24 [(0, .ref 0), (1, .int f)] [] h (fun v h' c s => hl ss_md h h' ∧ ((∃ x, v = some (.int x)) ∧ xg 0 h'.2.1 1 1 = 0) ∧ c ≤ 2 ∧ s ≤ 66) := by
    refine xb_P (Q1 := fun v h' => hk ss_md h h' ∧ (∃ x, v = some (.int x)) ∧ xg 0 h'.2.1 1 1 = 0) ?_ (fun v h' z => ⟨hl_hk z.1 hn hp, z.2, by decide, by decide⟩)
    refine xa_tn 35 [] [] [.int (-1000)] (xh_ui h 1 1 (Int32.ofInt 0)) [] 7 hq rfl trivial (fun _ => ?_)
    exact xp_ret rfl rfl rfl ⟨hk_ui (s := (0, 8)) (lo := 0) (hi := 640) (hk_0 hi) hn rfl rfl (by decide) (by decide) rfl rfl, ⟨_, rfl⟩, gx_s⟩
  cases c1 : xe_c .ge (xg 0 h.2.1 0 8) 8 with
  | true => exact xb_tn 24 [0, 1] [(0, .ref 0), (1, .int f)] [] h [true] 6 hq rfl ⟨c1, trivial⟩ (fun _ => bad)
  | false =>
    have b8 : (xg 0 h.2.1 0 8).toInt < (8 : Int) := a_ce (a_neg_ok c1)
    cases c2 : xe_c .lt f (xg 0 h.2.1 0 10) with
    | true => exact xb_tn 24 [0, 1] [(0, .ref 0), (1, .int f)] [] h [false, true] 10 hq rfl ⟨c1, c2, trivial⟩ (fun _ => bad)
    | false =>
      cases c3 : xe_c .le f 999 with
      | false => exact xb_tn 24 [0, 1] [(0, .ref 0), (1, .int f)] [] h [false, false, false] 13 hq rfl ⟨c1, c2, c3, trivial⟩ (fun _ => bad)
      | true =>
        have f9 : f.toInt ≤ (999 : Int) := a_ce c3
        refine xb_tn 44 [0, 1] [(0, .ref 0), (1, .int f)] [.int (xg 0 h.2.1 0 9), .ref 3] h [false, false, true] 17 hq rfl ⟨c1, c2, c3, trivial⟩ (fun _ => ?_)
        refine xb_void (C := aC_m_X4_read) (P := []) (σ := fun _ => 0) as_m_X4_read hq hi rfl rfl rfl (by show 48 ≤ d + 48; omega) ⟨a_av (t := 3) (by decide) hq.1, a_ai mb.1 mb.2, trivial⟩ a_fp0 rfl (fun h1 _ i1 l1 f1 q1 => ?_)
        have hk1 : hk ss_md h h1 := hk_c (hk_0 hi) i1 l1 f1 (by decide)
        have hn1 := hk_n hk1 hn
        have ka : hk ss_md h (xh_ui h1 1 1 (Int32.ofInt 0)) := hk_ui (s := (0, 8)) (lo := 0) (hi := 640) hk1 hn rfl rfl (by decide) (by decide) rfl rfl
        have b38 := a_flx (c := 3) (k := 8) (lo := 0) (hi := 4) ka.1.1 (hk_n ka hn) rfl rfl (by decide)
        have kb : hk ss_md h (xh_ui (xh_ui h1 1 1 (Int32.ofInt 0)) 0 11 (xg 0 (xh_ui h1 1 1 (Int32.ofInt 0)).2.1 3 8)) := hk_ui (s := (0, 9)) (lo := 0) (hi := 4) ka hn rfl rfl b38.1 b38.2 rfl rfl
        cases c4 : xe_c .eq (xg 0 (xh_ui (xh_ui h1 1 1 (Int32.ofInt 0)) 0 11 (xg 0 (xh_ui h1 1 1 (Int32.ofInt 0)).2.1 3 8)).2.1 0 11) 0 with
        | false =>
          refine xb_P (Q1 := fun v h' => hk ss_md h h' ∧ (∃ x, v = some (.int x)) ∧ xg 0 h'.2.1 1 1 = 0) ?_ (fun v h' z => ⟨hl_hk z.1 hn hp, z.2, by decide, by decide⟩)
          refine xa_tn 82 [] [] [.int ((Int32.ofInt (-1)) - (xg 0 (xh_ui (xh_ui h1 1 1 (Int32.ofInt 0)) 0 11 (xg 0 (xh_ui h1 1 1 (Int32.ofInt 0)).2.1 3 8)).2.1 3 9))] (xh_ui (xh_ui h1 1 1 (Int32.ofInt 0)) 0 11 (xg 0 (xh_ui h1 1 1 (Int32.ofInt 0)).2.1 3 8)) [false] 19 q1 rfl ⟨c4, trivial⟩ (fun _ => ?_)
          exact xp_ret rfl rfl rfl ⟨kb, ⟨_, rfl⟩, (gx_o (by decide)).trans gx_s⟩
        | true =>
          refine xb_tn 83 [0, 1] [(0, .ref 0), (1, .int f)] [] (xh_ui (xh_ui h1 1 1 (Int32.ofInt 0)) 0 11 (xg 0 (xh_ui h1 1 1 (Int32.ofInt 0)).2.1 3 8)) [true] 14 q1 rfl ⟨c4, trivial⟩ (fun _ => ?_)
          have e8 : xg 0 (xh_ui (xh_ui h1 1 1 (Int32.ofInt 0)) 0 11 (xg 0 (xh_ui h1 1 1 (Int32.ofInt 0)).2.1 3 8)).2.1 0 8 = xg 0 h.2.1 0 8 := by rw [gx_k (by decide), gx_o (by decide), hk_g (c := 0) (k := 8) (md := aC_m_X4_read.2.2.2.2.1) (hk_c (hk_0 hi) i1 l1 f1 (fun _ z => z)) rfl rfl]
          have e11 : xg 0 (xh_ui (xh_ui h1 1 1 (Int32.ofInt 0)) 0 11 (xg 0 (xh_ui h1 1 1 (Int32.ofInt 0)).2.1 3 8)).2.1 1 1 = 0 := (gx_o (by decide)).trans gx_s
          generalize xh_ui (xh_ui h1 1 1 (Int32.ofInt 0)) 0 11 (xg 0 (xh_ui h1 1 1 (Int32.ofInt 0)).2.1 3 8) = h2 at kb e8 e11 ⊢
          obtain ⟨v, h', c, s, r, z1, z2⟩ := s9_new (d := d) (f := f) (hk_n kb hn) (by rw [kb.2.1]; exact hp) kb.1 (by rw [e8]; exact b8) f9
          exact ⟨v, h', c, s, r, ⟨z1.1, z1.2.1, z1.2.2.1, a_fr_t kb.2.2 z1.2.2.2 (fun _ z => z)⟩, ⟨z2.1.1, z2.1.2.trans e11⟩, z2.2⟩
end XS9
end
section
section XTP
abbrev pu_md : List (Nat × Nat) := [(1, 1), (2, 0)]
abbrev cm_md : List (Nat × Nat) := [(39, 0), (39, 2), (40, 0)]
set_option maxRecDepth 100000 in
theorem pu_step {d t : Nat} {w k : Int32} {h0 h : xh_H} {Q : Option Value → xh_H → Prop} (hn : 72 ≤ h0.1.length) (hk0 : hk pu_md h0 h) (ht : xg 0 h.2.1 1 1 = nI t) (t6 : t < 640) (hkp : xe_c .lt k 0 = false) (kk : ∀ h', hk pu_md h0 h' → xg 0 h'.2.1 1 1 = nI (t + 1) → xt_P d xi_X8_put xmi_X8_put 3 [(0, .ref 1), (1, .int w), (2, .int (k + Int32.ofInt (-8)))] [] h' Q) : xt_P d xi_X8_put xmi_X8_put 3 [(0, .ref 1), (1, .int w), (2, .int k)] [] h Q := by
  have hq := hk_q hk0 hn
  have tc : (nI t).toNatClampNeg = t := nI_clamp (by omega)
  have e1 : nI t + Int32.ofInt 1 = nI (t + 1) := nI_1 t
  have ti := nI_toInt (n := t + 1) (by omega)
  have s2 : h.1[2]? = some (2, 640) := hq.2.1 2 _ rfl
  have hin : xe_in (nI t) 640 = true := xin_n t6 (by omega)
  refine xa_tn 29 [0, 1, 2] [(0, .ref 1), (1, .int w), (2, .int k)] [.int ((w >>> (k &&& 31)).toInt8.toInt32), .int (xg 0 h.2.1 1 1), .ref 2] h [false, false] 16 hq rfl ⟨hkp, (show xe_c .ge (xg 0 h.2.1 1 1) 640 = false by rw [ht]; exact nge_f (b := 640) (by omega) (by omega) t6), trivial⟩ (fun _ => ?_)
  rw [ht]
  have b8 := vp_nar8 ((w >>> (k &&& 31)).toInt8.toInt32)
  refine xp_step (pc1 := 30) (lv1 := [(0, .ref 1), (1, .int w), (2, .int k)]) (st1 := []) (h1 := xh_ui h 2 t (vp_nar .byte ((w >>> (k &&& 31)).toInt8.toInt32))) (r := _) rfl rfl (by simp [xe_2, xe_1, xp_iir, s2, hin, tc]) ?_
  generalize vp_nar .byte ((w >>> (k &&& 31)).toInt8.toInt32) = y at b8
  have k1 : hk pu_md h0 (xh_ui h 2 t y) := hk_ui (s := (2, 640)) (lo := -128) (hi := 127) hk0 hn rfl rfl b8.1 b8.2 rfl rfl
  have e11 : xg 0 (xh_ui h 2 t y).2.1 1 1 = nI t := by rw [gx_o (by decide)]; exact ht
  generalize xh_ui h 2 t y = h2 at k1 e11 ⊢
  refine xa_tn 3 [0, 1, 2] [(0, .ref 1), (1, .int w), (2, .int (k + Int32.ofInt (-8)))] [] (xh_ui h2 1 1 ((xg 0 h2.2.1 1 1) + (Int32.ofInt 1))) [] 10 (hk_q k1 hn) rfl trivial (fun _ => ?_)
  rw [e11, e1]
  exact kk _ (hk_ui (s := (0, 8)) (lo := 0) (hi := 640) k1 hn rfl rfl (by omega) (by omega) rfl rfl) gx_s
set_option maxRecDepth 100000 in
/-- Tape.put: four bytes more -/
theorem pu_run {d t : Nat} {w : Int32} {h0 h : xh_H} (hn : 72 ≤ h0.1.length) (hk0 : hk pu_md h0 h) (ht : xg 0 h.2.1 1 1 = nI t) (t6 : t + 4 ≤ 640) : xt_P d xi_X8_put xmi_X8_put 0 [(0, .ref 1), (1, .int w)] [] h (fun v h' => v = none ∧ hk pu_md h0 h' ∧ xg 0 h'.2.1 1 1 = nI (t + 4)) := by
  refine xa_tn 3 [0, 1, 2] [(0, .ref 1), (1, .int w), (2, .int 24)] [] h [] 4 (hk_q hk0 hn) rfl trivial (fun _ => ?_)
  refine pu_step hn hk0 ht (by omega) (by decide) (fun h1 k1 e1 => ?_)
  refine pu_step hn k1 e1 (by omega) (by decide) (fun h2 k2 e2 => ?_)
  refine pu_step hn k2 e2 (by omega) (by decide) (fun h3 k3 e3 => ?_)
  refine pu_step hn k3 e3 (by omega) (by decide) (fun h4 k4 e4 => ?_)
  refine xa_tn 46 [] [] [] h4 [true] 4 (hk_q k4 hn) rfl ⟨by decide, trivial⟩ (fun _ => ?_)
  exact xp_ret rfl rfl rfl ⟨rfl, k4, e4⟩
/-- what feed answers, and the tape's length behind it -/
def fe_a (t : Nat) : Int32 := if t + 20 ≤ 640 then nI (t + 20) else Int32.ofInt (-1)
def fe_t (t : Nat) : Nat := if t + 20 ≤ 640 then t + 20 else t
theorem fe_s {t : Nat} (h : t ≤ 640) : (nI t + 20).toInt = (t : Int) + 20 := by
  have ti := nI_toInt (n := t) (by omega)
  have e : (20 : Int32).toInt = 20 := rfl
  rw [i_add (by rw [ti, e]; omega) (by rw [ti, e]; omega), ti, e]
set_option maxRecDepth 100000 in
theorem hr_run {d t : Nat} {h : xh_H} (hq : a_rq a_tb h) (ht : xg 0 h.2.1 1 1 = nI t) (t6 : t ≤ 640) : xt_P d xi_X8_hasRoom xmi_X8_hasRoom 0 [(0, .ref 1)] [] h (fun v h' => h = h' ∧ v = some (.int (bl (decide (t + 20 ≤ 640))))) := by
  have z : (640 : Int32).toInt = 640 := rfl
  by_cases hr : t + 20 ≤ 640
  · refine xa_tn 18 [] [] [.int (Int32.ofInt 1)] h [false] 10 hq rfl ⟨xgt_f (show ((xg 0 h.2.1 1 1) + 20).toInt ≤ (640 : Int32).toInt by rw [ht, fe_s t6, z]; omega), trivial⟩ (fun _ => ?_)
    refine xp_ret rfl rfl rfl ⟨rfl, ?_⟩
    rw [decide_eq_true hr]
    rfl
  · refine xa_tn 18 [] [] [.int (Int32.ofInt 0)] h [true] 9 hq rfl ⟨xgt_t (show (640 : Int32).toInt < ((xg 0 h.2.1 1 1) + 20).toInt by rw [ht, fe_s t6, z]; omega), trivial⟩ (fun _ => ?_)
    refine xp_ret rfl rfl rfl ⟨rfl, ?_⟩
    rw [decide_eq_false hr]
    rfl
set_option maxRecDepth 100000 in
set_option maxHeartbeats 4000000 in
/-- X9.feed -/
theorem f9_run {d t : Nat} {a b c d4 e5 : Int32} {h : xh_H} (hn : 72 ≤ h.1.length) (hi : a_inv a_tb h) (ht : xg 0 h.2.1 1 1 = nI t) (t6 : t ≤ 640) : xt_P (d + 1) xi_X9_feed xmi_X9_feed 0 [(0, .ref 0), (1, .int a), (2, .int b), (3, .int c), (4, .int d4), (5, .int e5)] [] h (fun v h' => hk pu_md h h' ∧ v = some (.int (fe_a t)) ∧ xg 0 h'.2.1 1 1 = nI (fe_t t)) := by
  have hq := a_rq_of hi.1 hn
  refine xa_tn 4 [0, 1, 2, 3, 4, 5] [(0, .ref 0), (1, .int a), (2, .int b), (3, .int c), (4, .int d4), (5, .int e5)] [.ref 1] h [] 4 hq rfl trivial (fun _ => ?_)
  refine xp_run hq rfl rfl (hr_run (d := d) hq ht t6) ?_
  rintro v h1 ⟨rfl, rfl⟩
  unfold fe_a fe_t
  by_cases hr : t + 20 ≤ 640
  · rw [decide_eq_true hr, if_pos hr, if_pos hr]
    refine xa_tn 17 [0, 1, 2, 3, 4, 5] [(0, .ref 0), (1, .int a), (2, .int b), (3, .int c), (4, .int d4), (5, .int e5)] [.int a, .ref 1] h [true] 6 hq rfl ⟨rfl, trivial⟩ (fun _ => ?_)
    refine xp_run hq rfl rfl (pu_run (d := d) (h0 := h) hn (hk_0 hi) ht (by omega)) ?_
    rintro v g1 ⟨rfl, k1, e1⟩
    refine xa_tn 25 [0, 1, 2, 3, 4, 5] [(0, .ref 0), (1, .int a), (2, .int b), (3, .int c), (4, .int d4), (5, .int e5)] [.int b, .ref 1] g1 [] 5 (hk_q k1 hn) rfl trivial (fun _ => ?_)
    refine xp_run (hk_q k1 hn) rfl rfl (pu_run (d := d) (h0 := h) hn k1 e1 (by omega)) ?_
    rintro v g2 ⟨rfl, k2, e2⟩
    refine xa_tn 33 [0, 1, 2, 3, 4, 5] [(0, .ref 0), (1, .int a), (2, .int b), (3, .int c), (4, .int d4), (5, .int e5)] [.int c, .ref 1] g2 [] 5 (hk_q k2 hn) rfl trivial (fun _ => ?_)
    refine xp_run (hk_q k2 hn) rfl rfl (pu_run (d := d) (h0 := h) hn k2 e2 (by omega)) ?_
    rintro v g3 ⟨rfl, k3, e3⟩
    refine xa_tn 42 [0, 1, 2, 3, 4, 5] [(0, .ref 0), (1, .int a), (2, .int b), (3, .int c), (4, .int d4), (5, .int e5)] [.int d4, .ref 1] g3 [] 5 (hk_q k3 hn) rfl trivial (fun _ => ?_)
    refine xp_run (hk_q k3 hn) rfl rfl (pu_run (d := d) (h0 := h) hn k3 e3 (by omega)) ?_
    rintro v g4 ⟨rfl, k4, e4⟩
    refine xa_tn 51 [0, 1, 2, 3, 4, 5] [(0, .ref 0), (1, .int a), (2, .int b), (3, .int c), (4, .int d4), (5, .int e5)] [.int e5, .ref 1] g4 [] 5 (hk_q k4 hn) rfl trivial (fun _ => ?_)
    refine xp_run (hk_q k4 hn) rfl rfl (pu_run (d := d) (h0 := h) hn k4 e4 (by omega)) ?_
    rintro v g5 ⟨rfl, k5, e5'⟩
    refine xa_tn 61 [] [] [.int (xg 0 g5.2.1 1 1)] g5 [] 5 (hk_q k5 hn) rfl trivial (fun _ => ?_)
    exact xp_ret rfl rfl rfl ⟨k5, by rw [e5'], e5'⟩
  · rw [decide_eq_false hr, if_neg hr, if_neg hr]
    refine xa_tn 11 [] [] [.int (Int32.ofInt (-1))] h [false] 4 hq rfl ⟨rfl, trivial⟩ (fun _ => ?_)
    exact xp_ret rfl rfl rfl ⟨hk_0 hi, rfl, ht⟩
set_option maxRecDepth 100000 in
theorem cm_step {d t : Nat} {w k : Int32} {h0 h : xh_H} {Q : Option Value → xh_H → Prop} (hn : 72 ≤ h0.1.length) (hk0 : hk cm_md h0 h) (ht : xg 0 h.2.1 39 2 = nI t) (t6 : t < 640) (hkp : xe_c .lt k 0 = false) (kk : ∀ h', hk cm_md h0 h' → xg 0 h'.2.1 39 2 = nI (t + 1) → xt_P d xi_X10_come xmi_X10_come 3 [(0, .ref 39), (1, .int w), (2, .int (k + Int32.ofInt (-8)))] [] h' Q) : xt_P d xi_X10_come xmi_X10_come 3 [(0, .ref 39), (1, .int w), (2, .int k)] [] h Q := by
  have hq := hk_q hk0 hn
  have tc : (nI t).toNatClampNeg = t := nI_clamp (by omega)
  have e1 : nI t + Int32.ofInt 1 = nI (t + 1) := nI_1 t
  have ti := nI_toInt (n := t + 1) (by omega)
  refine xa_tn 3 [0, 1, 2] [(0, .ref 39), (1, .int w), (2, .int (k + Int32.ofInt (-8)))] [] (xh_ui (xh_ui h 40 (xg 0 h.2.1 39 2).toNatClampNeg (((w.toUInt32 >>> (k.toUInt32 &&& Int32.toUInt32 31)).toInt32) &&& 255)) 39 2 ((xg 0 (xh_ui h 40 (xg 0 h.2.1 39 2).toNatClampNeg (((w.toUInt32 >>> (k.toUInt32 &&& Int32.toUInt32 31)).toInt32) &&& 255)).2.1 39 2) + (Int32.ofInt 1))) [false] 22 hq rfl ⟨hkp, (show xe_in (xg 0 h.2.1 39 2) 640 = true by rw [ht]; exact xin_n t6 (by omega)), trivial⟩ (fun _ => ?_)
  have b8 := ar_and1 (x := (w.toUInt32 >>> (k.toUInt32 &&& Int32.toUInt32 31)).toInt32) (y := 255) (by decide)
  have z : (255 : Int32).toInt = 255 := rfl
  generalize ((w.toUInt32 >>> (k.toUInt32 &&& Int32.toUInt32 31)).toInt32) &&& 255 = y at b8
  rw [gx_o (by decide), ht, tc, e1]
  have k1 : hk cm_md h0 (xh_ui h 40 t y) := hk_ui (s := (1, 640)) (lo := 0) (hi := 255) hk0 hn rfl rfl b8.1 (by omega) rfl rfl
  exact kk _ (hk_ui (s := (0, 10)) (lo := 0) (hi := 640) k1 hn rfl rfl (by omega) (by omega) rfl rfl) gx_s
set_option maxRecDepth 100000 in
/-- X10.come: four bytes more -/
theorem cm_run {d t : Nat} {w : Int32} {h0 h : xh_H} (hn : 72 ≤ h0.1.length) (hk0 : hk cm_md h0 h) (ht : xg 0 h.2.1 39 2 = nI t) (t6 : t + 4 ≤ 640) : xt_P d xi_X10_come xmi_X10_come 0 [(0, .ref 39), (1, .int w)] [] h (fun v h' => v = none ∧ hk cm_md h0 h' ∧ xg 0 h'.2.1 39 2 = nI (t + 4)) := by
  refine xa_tn 3 [0, 1, 2] [(0, .ref 39), (1, .int w), (2, .int 24)] [] h [] 4 (hk_q hk0 hn) rfl trivial (fun _ => ?_)
  refine cm_step hn hk0 ht (by omega) (by decide) (fun h1 k1 e1 => ?_)
  refine cm_step hn k1 e1 (by omega) (by decide) (fun h2 k2 e2 => ?_)
  refine cm_step hn k2 e2 (by omega) (by decide) (fun h3 k3 e3 => ?_)
  refine cm_step hn k3 e3 (by omega) (by decide) (fun h4 k4 e4 => ?_)
  refine xa_tn 39 [] [] [] h4 [true] 4 (hk_q k4 hn) rfl ⟨by decide, trivial⟩ (fun _ => ?_)
  exact xp_ret rfl rfl rfl ⟨rfl, k4, e4⟩
set_option maxRecDepth 100000 in
set_option maxHeartbeats 4000000 in
/-- X10.feed -/
theorem f10_run {d t : Nat} {a b c d4 e5 : Int32} {h : xh_H} (hn : 72 ≤ h.1.length) (hi : a_inv a_tb h) (ht : xg 0 h.2.1 39 2 = nI t) (t6 : t ≤ 640) : xt_P (d + 1) xi_X10_feed xmi_X10_feed 0 [(0, .ref 39), (1, .int a), (2, .int b), (3, .int c), (4, .int d4), (5, .int e5)] [] h (fun v h' => hk cm_md h h' ∧ v = some (.int (fe_a t)) ∧ xg 0 h'.2.1 39 2 = nI (fe_t t)) := by
  have hq := a_rq_of hi.1 hn
  have z : (640 : Int32).toInt = 640 := rfl
  have hk0 : hk cm_md h (xh_ui h 39 0 (Int32.ofInt 0)) := hk_ui (s := (0, 10)) (lo := 0) (hi := 1) (hk_0 hi) hn rfl rfl (by decide) (by decide) rfl rfl
  have e0 : xg 0 (xh_ui h 39 0 (Int32.ofInt 0)).2.1 39 2 = nI t := by rw [gx_k (by decide)]; exact ht
  unfold fe_a fe_t
  by_cases hr : t + 20 ≤ 640
  · rw [if_pos hr, if_pos hr]
    refine xa_tn 22 [0, 1, 2, 3, 4, 5] [(0, .ref 39), (1, .int a), (2, .int b), (3, .int c), (4, .int d4), (5, .int e5)] [.int a, .ref 39] (xh_ui h 39 0 (Int32.ofInt 0)) [true] 13 hq rfl ⟨xle_t (show ((xg 0 (xh_ui h 39 0 (Int32.ofInt 0)).2.1 39 2) + 20).toInt ≤ (640 : Int32).toInt by rw [e0, fe_s t6, z]; omega), trivial⟩ (fun _ => ?_)
    refine xp_run (hk_q hk0 hn) rfl rfl (cm_run (d := d) (h0 := h) hn hk0 e0 (by omega)) ?_
    rintro v g1 ⟨rfl, k1, e1⟩
    refine xa_tn 27 [0, 1, 2, 3, 4, 5] [(0, .ref 39), (1, .int a), (2, .int b), (3, .int c), (4, .int d4), (5, .int e5)] [.int b, .ref 39] g1 [] 4 (hk_q k1 hn) rfl trivial (fun _ => ?_)
    refine xp_run (hk_q k1 hn) rfl rfl (cm_run (d := d) (h0 := h) hn k1 e1 (by omega)) ?_
    rintro v g2 ⟨rfl, k2, e2⟩
    refine xa_tn 32 [0, 1, 2, 3, 4, 5] [(0, .ref 39), (1, .int a), (2, .int b), (3, .int c), (4, .int d4), (5, .int e5)] [.int c, .ref 39] g2 [] 4 (hk_q k2 hn) rfl trivial (fun _ => ?_)
    refine xp_run (hk_q k2 hn) rfl rfl (cm_run (d := d) (h0 := h) hn k2 e2 (by omega)) ?_
    rintro v g3 ⟨rfl, k3, e3⟩
    refine xa_tn 38 [0, 1, 2, 3, 4, 5] [(0, .ref 39), (1, .int a), (2, .int b), (3, .int c), (4, .int d4), (5, .int e5)] [.int d4, .ref 39] g3 [] 4 (hk_q k3 hn) rfl trivial (fun _ => ?_)
    refine xp_run (hk_q k3 hn) rfl rfl (cm_run (d := d) (h0 := h) hn k3 e3 (by omega)) ?_
    rintro v g4 ⟨rfl, k4, e4⟩
    refine xa_tn 44 [0, 1, 2, 3, 4, 5] [(0, .ref 39), (1, .int a), (2, .int b), (3, .int c), (4, .int d4), (5, .int e5)] [.int e5, .ref 39] g4 [] 4 (hk_q k4 hn) rfl trivial (fun _ => ?_)
    refine xp_run (hk_q k4 hn) rfl rfl (cm_run (d := d) (h0 := h) hn k4 e4 (by omega)) ?_
    rintro v g5 ⟨rfl, k5, e5'⟩
    refine xa_tn 51 [] [] [.int (xg 0 g5.2.1 39 2)] g5 [] 4 (hk_q k5 hn) rfl trivial (fun _ => ?_)
    exact xp_ret rfl rfl rfl ⟨k5, by rw [e5'], e5'⟩
  · rw [if_neg hr, if_neg hr]
    refine xa_tn 19 [] [] [.int (Int32.ofInt (-1))] (xh_ui h 39 0 (Int32.ofInt 0)) [false] 12 hq rfl ⟨xle_f (show (640 : Int32).toInt < ((xg 0 (xh_ui h 39 0 (Int32.ofInt 0)).2.1 39 2) + 20).toInt by rw [e0, fe_s t6, z]; omega), trivial⟩ (fun _ => ?_)
    exact xp_ret rfl rfl rfl ⟨hk0, rfl, e0⟩
/-- what end answers, and the tape's length behind it -/
def en_ok (t : Nat) (n : Int32) : Bool := decide (0 ≤ n.toInt ∧ n.toInt ≤ (t : Int))
def en_t (t : Nat) (n : Int32) : Nat := cond (en_ok t n) n.toInt.toNat t
theorem en_t6 {t : Nat} {n : Int32} (h : t ≤ 640) : en_t t n ≤ 640 := by
  unfold en_t
  cases hb : en_ok t n with
  | false => exact h
  | true =>
    have := of_decide_eq_true hb
    show n.toInt.toNat ≤ 640
    omega
theorem en_n {t : Nat} {n : Int32} (h1 : 0 ≤ n.toInt) : n = nI n.toInt.toNat := by
  obtain ⟨e, l⟩ := a_nIx h1
  exact e
set_option maxRecDepth 100000 in
theorem e9_run {d t : Nat} {n : Int32} {h : xh_H} (hn : 72 ≤ h.1.length) (hi : a_inv a_tb h) (ht : xg 0 h.2.1 1 1 = nI t) (t6 : t ≤ 640) : xt_P d xi_X9_end xmi_X9_end 0 [(0, .ref 0), (1, .int n)] [] h (fun v h' => hk [(1, 1)] h h' ∧ v = some (.int (bl (en_ok t n))) ∧ xg 0 h'.2.1 1 1 = nI (en_t t n)) := by
  have hq := a_rq_of hi.1 hn
  have ti := nI_toInt (n := t) (by omega)
  unfold en_t
  cases c1 : xe_c .lt n 0 with
  | true =>
    have b1 : n.toInt < (0 : Int) := a_ce c1
    have eb : en_ok t n = false := decide_eq_false (by omega)
    rw [eb]
    refine xa_tn 16 [] [] [.int (Int32.ofInt 0)] h [true] 5 hq rfl ⟨c1, trivial⟩ (fun _ => ?_)
    exact xp_ret rfl rfl rfl ⟨hk_0 hi, rfl, ht⟩
  | false =>
    have b1 : (0 : Int) ≤ n.toInt := a_ce (a_neg_ok c1)
    by_cases hr : n.toInt ≤ (t : Int)
    · have eb : en_ok t n = true := decide_eq_true ⟨b1, hr⟩
      rw [eb]
      refine xa_tn 26 [] [] [.int (Int32.ofInt 1)] (xh_ui h 1 1 n) [false, true] 14 hq rfl ⟨c1, xle_t (show n.toInt ≤ (xg 0 h.2.1 1 1).toInt by rw [ht, ti]; exact hr), trivial⟩ (fun _ => ?_)
      exact xp_ret rfl rfl rfl ⟨hk_ui (s := (0, 8)) (lo := 0) (hi := 640) (hk_0 hi) hn rfl rfl (by omega) (by omega) rfl rfl, rfl, gx_s.trans (en_n (t := t) b1)⟩
    · have eb : en_ok t n = false := decide_eq_false (by omega)
      rw [eb]
      refine xa_tn 16 [] [] [.int (Int32.ofInt 0)] h [false, false] 10 hq rfl ⟨c1, xle_f (show (xg 0 h.2.1 1 1).toInt < n.toInt by rw [ht, ti]; omega), trivial⟩ (fun _ => ?_)
      exact xp_ret rfl rfl rfl ⟨hk_0 hi, rfl, ht⟩
set_option maxRecDepth 100000 in
theorem e10_run {d t : Nat} {n : Int32} {h : xh_H} (hn : 72 ≤ h.1.length) (hi : a_inv a_tb h) (ht : xg 0 h.2.1 39 2 = nI t) (t6 : t ≤ 640) : xt_P d xi_X10_end xmi_X10_end 0 [(0, .ref 39), (1, .int n)] [] h (fun v h' => hk [(39, 0), (39, 2)] h h' ∧ v = some (.int (bl (en_ok t n))) ∧ xg 0 h'.2.1 39 2 = nI (en_t t n)) := by
  have hq := a_rq_of hi.1 hn
  have ti := nI_toInt (n := t) (by omega)
  have hk0 : hk [(39, 0), (39, 2)] h (xh_ui h 39 0 (Int32.ofInt 0)) := hk_ui (s := (0, 10)) (lo := 0) (hi := 1) (hk_0 hi) hn rfl rfl (by decide) (by decide) rfl rfl
  have e0 : xg 0 (xh_ui h 39 0 (Int32.ofInt 0)).2.1 39 2 = nI t := by rw [gx_k (by decide)]; exact ht
  unfold en_t
  cases c1 : xe_c .lt n 0 with
  | true =>
    have b1 : n.toInt < (0 : Int) := a_ce c1
    have eb : en_ok t n = false := decide_eq_false (by omega)
    rw [eb]
    refine xa_tn 18 [] [] [.int (Int32.ofInt 0)] (xh_ui h 39 0 (Int32.ofInt 0)) [true] 8 hq rfl ⟨c1, trivial⟩ (fun _ => ?_)
    exact xp_ret rfl rfl rfl ⟨hk0, rfl, e0⟩
  | false =>
    have b1 : (0 : Int) ≤ n.toInt := a_ce (a_neg_ok c1)
    by_cases hr : n.toInt ≤ (t : Int)
    · have eb : en_ok t n = true := decide_eq_true ⟨b1, hr⟩
      rw [eb]
      refine xa_tn 25 [] [] [.int (Int32.ofInt 1)] (xh_ui (xh_ui h 39 0 (Int32.ofInt 0)) 39 2 n) [false, true] 15 hq rfl ⟨c1, xle_t (show n.toInt ≤ (xg 0 (xh_ui h 39 0 (Int32.ofInt 0)).2.1 39 2).toInt by rw [e0, ti]; exact hr), trivial⟩ (fun _ => ?_)
      exact xp_ret rfl rfl rfl ⟨hk_ui (s := (0, 10)) (lo := 0) (hi := 640) hk0 hn rfl rfl (by omega) (by omega) rfl rfl, rfl, gx_s.trans (en_n (t := t) b1)⟩
    · have eb : en_ok t n = false := decide_eq_false (by omega)
      rw [eb]
      refine xa_tn 18 [] [] [.int (Int32.ofInt 0)] (xh_ui h 39 0 (Int32.ofInt 0)) [false, false] 12 hq rfl ⟨c1, xle_f (show (xg 0 (xh_ui h 39 0 (Int32.ofInt 0)).2.1 39 2).toInt < n.toInt by rw [e0, ti]; omega), trivial⟩ (fun _ => ?_)
      exact xp_ret rfl rfl rfl ⟨hk0, rfl, e0⟩
end XTP
end
section
section XRT
abbrev rk2_md : List (Nat × Nat) := [(39, 0), (39, 5), (62, 0)]
set_option maxRecDepth 100000 in
set_option maxHeartbeats 4000000 in
theorem rk2_loop {d m : Nat} {h0 : xh_H} (hn : 72 ≤ h0.1.length) (hm : m ≤ 11) : ∀ (n i : Nat) (h : xh_H), i + n = 7 → hk rk2_md h0 h → (∀ k, k < 7 → (xg 0 h.2.1 40 k).toInt ≤ 6) → xt_P d xi_X10_rank xmi_X10_rank 36 [(0, .ref 39), (1, .int (nI m)), (3, .int (nI i))] [] h (fun v h' => hk rk2_md h0 h' ∧ ∃ x : Int32, v = some (.int x) ∧ 0 ≤ x.toInt ∧ x.toInt ≤ 1) := by
  intro n
  induction n with
  | zero =>
    intro i h hi hk0 ho
    have e : i = 7 := by omega
    subst e
    refine xa_tn 71 [] [] [.int (Int32.ofInt 1)] (xh_ui h 39 5 (Int32.ofInt 1)) [true] 9 (hk_q hk0 hn) rfl ⟨by decide, Or.inr rfl, trivial⟩ (fun _ => ?_)
    exact xp_ret rfl rfl rfl ⟨hk_ui (s := (0, 10)) (lo := 0) (hi := 1) hk0 hn rfl rfl (by decide) (by decide) rfl rfl, _, rfl, by decide, by decide⟩
  | succ n ih =>
    intro i h hi hk0 ho
    obtain ⟨t, et, t6⟩ := tp_o (k := i) hk0.1.1 (hk_n hk0 hn) (show i < 7 by omega) (Nat.le_refl _) ho
    have eic : (nI i).toNatClampNeg = i := nI_clamp (by omega)
    have ei := nI_toInt (n := i) (by omega)
    have e1 : nI i + Int32.ofInt 1 = nI (i + 1) := nI_1 i
    refine xa_tn 36 [0, 1, 3] [(0, .ref 39), (1, .int (nI m)), (3, .int ((nI i) + Int32.ofInt 1))] [] (xh_ui h 62 ((7 * (nI m)) + (xg 0 h.2.1 40 (nI i).toNatClampNeg)).toNatClampNeg (nI i)) [false] 19 (hk_q hk0 hn) rfl ⟨nge_f (b := 7) (by omega) (by omega) (by omega), xin_n (by omega) (by omega), (show xe_in ((7 * (nI m)) + (xg 0 h.2.1 40 (nI i).toNatClampNeg)) 84 = true by rw [eic, et, n7]; exact xin_n (by omega) (by omega)), trivial⟩ (fun _ => ?_)
    rw [eic, et, n7, nI_clamp (by omega), e1]
    refine ih (i + 1) _ (by omega) (hk_ui (s := (1, 84)) (lo := 0) (hi := 6) hk0 hn rfl rfl (by omega) (by omega) rfl rfl) (fun k hk' => ?_)
    rw [gx_o (by decide)]
    exact ho k hk'
set_option maxRecDepth 100000 in
set_option maxHeartbeats 4000000 in
theorem r10_rest {d : Nat} {m t : Int32} {h : xh_H} (hn : 72 ≤ h.1.length) (hi : a_inv a_tb h) : xt_P (d + 1) xi_X10_rank xmi_X10_rank 9 [(0, .ref 39), (1, .int m)] [.int t] h (fun v h' => hk rk2_md h h' ∧ ∃ x : Int32, v = some (.int x) ∧ 0 ≤ x.toInt ∧ x.toInt ≤ 1) := by
  have hq := a_rq_of hi.1 hn
  refine xa_tn 12 [0, 1, 2] [(0, .ref 39), (1, .int m), (2, .int t)] [.int m, .ref 39] h [] 5 hq rfl trivial (fun _ => ?_)
  have mr := ar_rng m
  refine xp_intf (C := aC_m_X10_isMember) (lo := 0) (hi := 1) (σ := fun _ => 0) as_m_X10_isMember hq hi rfl rfl rfl (Nat.zero_le _) ⟨a_av (by decide) hq.1, a_ai mr.1 mr.2, trivial⟩ a_fp0 rfl (fun x h3 x1 x2 xf _ i3 l3 f3 q3 => ?_)
  have hk3 : hk rk2_md h h3 := hk_c (hk_0 hi) i3 l3 f3 (fun _ z => nomatch z)
  cases c1 : xe_c .eq x 0 with
  | true =>
    refine xa_tn 33 [] [] [.int (Int32.ofInt 0)] h3 [true] 4 q3 rfl ⟨c1, trivial⟩ (fun _ => ?_)
    exact xp_ret rfl rfl rfl ⟨hk3, _, rfl, by decide, by decide⟩
  | false =>
    have mf : 0 ≤ m.toInt ∧ m.toInt ≤ 11 := xf (of_decide_eq_false c1) _ (List.mem_singleton.mpr rfl)
    obtain ⟨m, rfl, m11, m31⟩ := a_nk (x := m) (m := 11) mf.1 mf.2
    cases c2 : xe_c .ne t 7 with
    | true =>
      refine xa_tn 33 [] [] [.int (Int32.ofInt 0)] h3 [false, true] 7 q3 rfl ⟨c1, c2, trivial⟩ (fun _ => ?_)
      exact xp_ret rfl rfl rfl ⟨hk3, _, rfl, by decide, by decide⟩
    | false =>
      have et : t = nI 7 := by
        have c2 : (!decide (t = 7)) = false := c2
        rw [Bool.not_eq_false'] at c2
        exact of_decide_eq_true c2
      subst et
      refine xa_tn 26 [0, 1, 2] [(0, .ref 39), (1, .int (nI m)), (2, .int (nI 7))] [.int (nI 7), .ref 39] h3 [false, false] 8 q3 rfl ⟨c1, c2, trivial⟩ (fun _ => ?_)
      refine xp_run q3 rfl rfl (ao_run (d := d) (n := 7) i3.1 q3.1 (by decide)) ?_
      rintro v h4 ⟨rfl, p, rfl, hp⟩
      cases p with
      | false =>
        refine xa_tn 33 [] [] [.int (Int32.ofInt 0)] h3 [false] 4 q3 rfl ⟨rfl, trivial⟩ (fun _ => ?_)
        exact xp_ret rfl rfl rfl ⟨hk3, _, rfl, by decide, by decide⟩
      | true =>
        refine xa_tn 36 [0, 1, 3] [(0, .ref 39), (1, .int (nI m)), (3, .int (Int32.ofInt 0))] [] h3 [true] 5 q3 rfl ⟨rfl, trivial⟩ (fun _ => ?_)
        exact rk2_loop hn m11 7 0 h3 rfl hk3 (hp rfl)
set_option maxRecDepth 100000 in
/-- X10.rank takes the tape -/
theorem r10_run {d : Nat} {m : Int32} {h : xh_H} (hn : 72 ≤ h.1.length) (hi : a_inv a_tb h) : xt_P (d + 1) xi_X10_rank xmi_X10_rank 0 [(0, .ref 39), (1, .int m)] [] h (fun v h' => hk rk_md h h' ∧ (∃ x : Int32, v = some (.int x)) ∧ xg 0 h'.2.1 39 2 = 0) := by
  refine xa_tn 6 [0, 1] [(0, .ref 39), (1, .int m)] [.ref 39] (xh_ui h 39 0 (Int32.ofInt 0)) [] 6 (a_rq_of hi.1 hn) rfl trivial (fun q1 => ?_)
  have hk1 : hk rk_md h (xh_ui h 39 0 (Int32.ofInt 0)) := hk_ui (s := (0, 10)) (lo := 0) (hi := 1) (hk_0 hi) hn rfl rfl (by decide) (by decide) rfl rfl
  generalize xh_ui h 39 0 (Int32.ofInt 0) = h1 at hk1 q1 ⊢
  refine xp_run q1 rfl rfl (tk_run (d := d) q1) ?_
  rintro v h2 ⟨rfl, e2⟩
  have hk2 : hk rk_md h h2 := by
    rw [e2]
    exact hk_ui (s := (0, 10)) (lo := 0) (hi := 640) hk1 hn rfl rfl (by decide) (by decide) rfl rfl
  have z2 : xg 0 h2.2.1 39 2 = 0 := by rw [e2]; exact gx_s
  refine xp_mono (r10_rest (d := d) (m := m) (t := xg 0 h1.2.1 39 2) (hk_n hk2 hn) hk2.1) (fun v h' q => ?_)
  obtain ⟨q1, x, rfl, -⟩ := q
  exact ⟨hk_t hk2 q1 (by decide), ⟨x, rfl⟩, (hk_g (c := 39) (k := 2) q1 rfl rfl).trans z2⟩
abbrev r9_md : List (Nat × Nat) := [(1, 1), (28, 1), (30, 0)]
set_option maxRecDepth 100000 in
set_option maxHeartbeats 4000000 in
/-- X9.rank takes the tape -/
theorem r9_run {d : Nat} {m : Int32} {h : xh_H} (hn : 72 ≤ h.1.length) (hi : a_inv a_tb h) : xt_P (d + 2) xi_X9_rank xmi_X9_rank 0 [(0, .ref 0), (1, .int m)] [] h (fun v h' => hk r9_md h h' ∧ (∃ x : Int32, v = some (.int x)) ∧ xg 0 h'.2.1 1 1 = 0) := by
  have hq := a_rq_of hi.1 hn
  have fin : ∀ (h' : xh_H) (p : Bool), hk r9_md h h' → xt_P (d + 2) xi_X9_rank xmi_X9_rank 56 [(0, .ref 0), (2, .int (bl p))] [] h' (fun v h' => hk r9_md h h' ∧ (∃ x : Int32, v = some (.int x)) ∧ xg 0 h'.2.1 1 1 = 0) := by
    intro h' p k
    refine xa_tn 65 [] [] [.int (bl p)] (xh_ui h' 1 1 (Int32.ofInt 0)) [] 7 (hk_q k hn) rfl trivial (fun _ => ?_)
    refine xp_ret rfl rfl (by cases p <;> rfl) ⟨hk_ui (s := (0, 8)) (lo := 0) (hi := 640) k hn rfl rfl (by decide) (by decide) rfl rfl, ⟨_, rfl⟩, gx_s⟩
  refine xa_tn 2 [0, 1] [(0, .ref 0), (1, .int m)] [.int m, .ref 0] h [] 4 hq rfl trivial (fun _ => ?_)
  refine xp_intf (C := aC_m_X9_isMember) (lo := 0) (hi := 1) (σ := fun _ => 0) as_m_X9_isMember hq hi rfl rfl rfl (Nat.zero_le _) ⟨a_av (t := 0) (by decide) hq.1, a_ai (ar_rng m).1 (ar_rng m).2, trivial⟩ a_fp0 rfl (fun x h1 x1 x2 xf _ i1 l1 f1 q1 => ?_)
  have k1 : hk r9_md h h1 := hk_c (hk_0 hi) i1 l1 f1 (fun _ z => nomatch z)
  cases c1 : xe_c .eq x 0 with
  | true =>
    refine xa_tn 56 [0, 2] [(0, .ref 0), (2, .int (Int32.ofInt 0))] [] h1 [true, true] 7 q1 rfl ⟨c1, by decide, trivial⟩ (fun _ => ?_)
    exact fin h1 false k1
  | false =>
    have mf : 0 ≤ m.toInt ∧ m.toInt ≤ 11 := xf (of_decide_eq_false c1) _ (List.mem_singleton.mpr rfl)
    cases c2 : xe_c .ne (xg 0 h1.2.1 1 1) 7 with
    | true =>
      refine xa_tn 56 [0, 2] [(0, .ref 0), (2, .int (Int32.ofInt 0))] [] h1 [false, true, true] 12 q1 rfl ⟨c1, c2, by decide, trivial⟩ (fun _ => ?_)
      exact fin h1 false k1
    | false =>
      refine xa_tn 28 [0, 1] [(0, .ref 0), (1, .int m)] [.ref 1, .ref 28] h1 [false, false] 12 q1 rfl ⟨c1, c2, trivial⟩ (fun _ => ?_)
      refine xp_int (C := aC_m_X0_isRow_r1) (lo := 0) (hi := 1) (σ := fun _ => 0) as_m_X0_isRow_r1 q1 i1 rfl rfl rfl (by show 1 ≤ d + 1; omega) ⟨a_av (t := 28) (by decide) q1.1, a_av (t := 1) (by decide) q1.1, trivial⟩ a_fp0 rfl (fun y h2 y1 y2 i2 l2 f2 q2 => ?_)
      have k2 : hk r9_md h h2 := hk_c k1 i2 l2 f2 (fun _ z => nomatch z)
      cases c3 : xe_c .eq y 0 with
      | true =>
        refine xa_tn 56 [0, 2] [(0, .ref 0), (2, .int (Int32.ofInt 0))] [] h2 [true, true] 7 q2 rfl ⟨c3, by decide, trivial⟩ (fun _ => ?_)
        exact fin h2 false k2
      | false =>
        refine xa_tn 53 [0, 2] [(0, .ref 0), (2, .int (Int32.ofInt 1))] [.ref 1, .int m, .ref 28] h2 [false, false] 13 q2 rfl ⟨c3, by decide, trivial⟩ (fun _ => ?_)
        refine xp_void (C := aC_m_X0_order_r1) (P := []) (σ := fun _ => 0) as_m_X0_order_r1 q2 i2 rfl rfl rfl (by show 1 ≤ d + 1; omega) ⟨a_av (t := 28) (by decide) q2.1, a_ai mf.1 mf.2, a_av (t := 1) (by decide) q2.1, trivial⟩ a_fp0 rfl (fun h3 _ i3 l3 f3 q3 => ?_)
        exact fin h3 true (hk_c k2 i3 l3 f3 (by decide))
end XRT
end
section
section XLT
set_option maxRecDepth 100000 in
set_option maxHeartbeats 8000000 in
/-- X9.leads takes the tape -/
theorem l9_run2 {d : Nat} {f : Int32} {h : xh_H} (hn : 72 ≤ h.1.length) (hi : a_inv a_tb h) : xt_P (d + 3) xi_X9_leads xmi_X9_leads 0 [(0, .ref 0), (1, .int f)] [] h (fun v h' => ld_Q l9_md h v h' ∧ xg 0 h'.2.1 1 1 = 0) := by
  have hq := a_rq_of hi.1 hn
  refine xa_tn 10 [0, 1, 2] [(0, .ref 0), (1, .int f), (2, .int (Int32.ofInt (-1)))] [.ref 1, .ref 28] h [] 8 hq rfl trivial (fun _ => ?_)
  refine xp_run hq rfl rfl (ir_run (d := d + 1) hi.1 hn) ?_
  rintro v h1 ⟨rfl, p, rfl, hp⟩
  cases p with
  | false =>
    refine xa_tn 74 [] [] [.int (Int32.ofInt (-1))] (xh_ui h 1 1 (Int32.ofInt 0)) [true] 8 hq rfl ⟨rfl, trivial⟩ (fun _ => ?_)
    exact xp_ret rfl rfl rfl ⟨⟨hk_ui (s := (0, 8)) (lo := 0) (hi := 640) (hk_0 hi) hn rfl rfl (by decide) (by decide) rfl rfl, _, rfl, by decide, by decide⟩, gx_s⟩
  | true =>
    obtain ⟨n, ho⟩ := hp rfl
    have ho : l9_o h n := ho
    refine xa_tn 25 [0, 1] [(0, .ref 0), (1, .int f)] [.int (xg 0 h.2.1 0 10), .ref 0, .ref 28] h [false] 8 hq rfl ⟨rfl, trivial⟩ (fun _ => ?_)
    have dr := ar_rng (xg 0 h.2.1 0 10)
    refine xp_ref (C := aC_m_X9_inForce) (t := 11) (σ := fun _ => 0) as_m_X9_inForce hq hi rfl rfl rfl (Nat.zero_le _) ⟨a_av (by decide) hq.1, a_ai dr.1 dr.2, trivial⟩ a_fp0 rfl (fun lw h1 lw1 i1 l1 f1 q1 => ?_)
    have hk1 : hk l9_md h h1 := hk_c (hk_0 hi) i1 l1 f1 (fun _ z => nomatch z)
    have ho1 := l9_fr ho f1 rfl (fun _ => rfl)
    refine xa_tn 32 [0, 1] [(0, .ref 0), (1, .int f)] [.int (xg 0 h1.2.1 0 9), .ref lw, .ref 28] h1 [] 4 q1 rfl trivial (fun _ => ?_)
    have sb := a_flx (c := 0) (k := 9) (lo := 1) (hi := 12) i1.1 q1.1 rfl rfl (by decide)
    refine xp_void (C := aC_m_X0_match) (σ := fun _ => 0) (P := []) as_m_X0_match q1 i1 rfl rfl rfl (by show 1 ≤ d + 2; omega) ⟨a_av (by decide) q1.1, ⟨lw, rfl, by rw [l1]; exact lw1⟩, a_ai sb.1 sb.2, trivial⟩ a_fp0 rfl (fun h2 _ i2 l2 f2 q2 => ?_)
    have hk2 : hk l9_md h h2 := hk_c hk1 i2 l2 f2 (by decide)
    have ho2 := l9_fr ho1 f2 rfl (fun _ => rfl)
    have fin : ∀ (x : Int32) (h3 : xh_H), hk l9_md h h3 → 0 ≤ x.toInt → x.toInt ≤ 6 → ld_Q l9_md h (some (.int x)) (xh_ui h3 1 1 (Int32.ofInt 0)) := by
      intro x h3 hk3 x1 x2
      exact ⟨hk_ui (s := (0, 8)) (lo := 0) (hi := 640) hk3 hn rfl rfl (by decide) (by decide) rfl rfl, x, rfl, by omega, x2⟩
    cases c2 : xe_c .eq f 0 with
    | true =>
      refine xa_tn 61 [0] [(0, .ref 0)] [.ref 1, .ref 28] h2 [true] 8 q2 rfl ⟨c2, trivial⟩ (fun _ => ?_)
      refine xp_run q2 rfl rfl (fo_run (d := d) i2 q2.1 ho2) ?_
      rintro v h3 ⟨k3, x, rfl, x1, x2⟩
      have hk3 : hk l9_md h h3 := hk_t hk2 k3 (fun _ z => nomatch z)
      refine xa_tn 74 [] [] [.int x] (xh_ui h3 1 1 (Int32.ofInt 0)) [] 8 (hk_q hk3 hn) rfl trivial (fun _ => ?_)
      exact xp_ret rfl rfl rfl ⟨fin x h3 hk3 x1 x2, gx_s⟩
    | false =>
      refine xa_tn 47 [0] [(0, .ref 0)] [.ref 1, .ref 28] h2 [false] 8 q2 rfl ⟨c2, trivial⟩ (fun _ => ?_)
      have fe : xt_P (d + 2) xi_X0_foresee xmi_X0_foresee 0 [(0, .ref 28), (1, .ref 1)] [] h2 (fe_Q h2) := by
        refine xa_tn 2 [0, 1, 2] [(0, .ref 28), (1, .ref 1), (2, .int (Int32.ofInt 0))] [] h2 [] 4 q2 rfl trivial (fun _ => ?_)
        exact fe_0 q2.1 7 0 h2 rfl (hk_0 i2) ho2
      refine xp_run q2 rfl rfl fe ?_
      rintro v h3 ⟨k3, x, rfl, x1, x2⟩
      have hk3 : hk l9_md h h3 := hk_t hk2 k3 (by decide)
      refine xa_tn 74 [] [] [.int x] (xh_ui h3 1 1 (Int32.ofInt 0)) [] 9 (hk_q hk3 hn) rfl trivial (fun _ => ?_)
      exact xp_ret rfl rfl rfl ⟨fin x h3 hk3 x1 x2, gx_s⟩
abbrev ld_md2 : List (Nat × Nat) := [(39, 0), (39, 35), (53, 0), (63, 0), (64, 0), (65, 0), (66, 0)]
set_option maxRecDepth 100000 in
set_option maxHeartbeats 4000000 in
/-- as they come: the row is laid, its end is asked -/
theorem ld_12 {d n : Nat} {h0 : xh_H} (hn : 72 ≤ h0.1.length) (n1 : 1 ≤ n) (n7' : n ≤ 7) : ∀ (m i : Nat) (h : xh_H), i + m = n → hk ld_md2 h0 h → (∀ k, k < n → (xg 0 h.2.1 40 k).toInt ≤ 6) → xt_P (d + 1) xi_X10_leads xmi_X10_leads 40 [(0, .ref 39), (2, .int (nI n)), (3, .int (nI i))] [] h (ld_Q ld_md2 h0) := by
  intro m
  induction m with
  | zero =>
    intro i h hi hk0 ho
    have e : i = n := by omega
    subst e
    refine xa_tn 65 [] [] [.int (nI i), .ref 39] h [true] 7 (hk_q hk0 hn) rfl ⟨nge_t (by omega) (by omega) (Nat.le_refl _), trivial⟩ (fun hq => ?_)
    have ei := nI_toInt (n := i) (by omega)
    refine xp_int (C := aC_m_X10_endOf) (lo := 0) (hi := 6) (σ := fun _ => 0) as_m_X10_endOf hq hk0.1 rfl rfl rfl (Nat.zero_le _) ⟨a_av (by decide) hq.1, a_ai (by omega) (by omega), trivial⟩ a_fp0 rfl (fun x h1 x1 x2 i1 l1 f1 q1 => ?_)
    exact xp_ret rfl rfl rfl ⟨hk_c hk0 i1 l1 f1 (fun _ z => nomatch z), x, rfl, by omega, x2⟩
  | succ m ih =>
    intro i h hi hk0 ho
    obtain ⟨t, et, t6⟩ := tp_o (k := i) hk0.1.1 (hk_n hk0 hn) (show i < n by omega) n7' ho
    have eic : (nI i).toNatClampNeg = i := nI_clamp (by omega)
    have e1 : nI i + Int32.ofInt 1 = nI (i + 1) := nI_1 i
    refine xa_tn 40 [0, 2, 3] [(0, .ref 39), (2, .int (nI n)), (3, .int ((nI i) + Int32.ofInt 1))] [] (xh_ui h 66 (nI i).toNatClampNeg (xg 0 h.2.1 40 (nI i).toNatClampNeg)) [false] 15 (hk_q hk0 hn) rfl ⟨nge_f (by omega) (by omega) (by omega), xin_n (by omega) (by omega), xin_n (by omega) (by omega), trivial⟩ (fun _ => ?_)
    rw [eic, et, e1]
    have ti := nI_toInt (n := t) (by omega)
    refine ih (i + 1) _ (by omega) (hk_ui (s := (1, 7)) (lo := 0) (hi := 6) hk0 hn rfl rfl (by omega) (by omega) rfl rfl) (fun k hk' => ?_)
    rw [gx_o (by decide)]
    exact ho k hk'
set_option maxRecDepth 100000 in
set_option maxHeartbeats 4000000 in
/-- foreseen: one step back -/
theorem ld_32 {d n k : Nat} {h0 : xh_H} {Q : Option Value → xh_H → Prop} (hn : 72 ≤ h0.1.length) (n7' : n ≤ 7) (hk1 : 1 ≤ k) (hkn : k < n) (K : ∀ h', hk ld_md2 h0 h' → (∀ k, k < n → (xg 0 h'.2.1 40 k).toInt ≤ 6) → xt_P d xi_X10_leads xmi_X10_leads 99 [(0, .ref 39), (3, .int (nI k + Int32.ofInt (-1)))] [] h' Q) : ∀ (m s : Nat) (h : xh_H), s + m = 7 → hk ld_md2 h0 h → (∀ k, k < n → (xg 0 h.2.1 40 k).toInt ≤ 6) → xt_P d xi_X10_leads xmi_X10_leads 106 [(0, .ref 39), (3, .int (nI k)), (4, .int (nI s))] [] h Q := by
  have ekc : (nI k).toNatClampNeg = k := nI_clamp (by omega)
  intro m
  induction m with
  | zero =>
    intro s h hs hk0 ho
    have e : s = 7 := by omega
    subst e
    refine xa_tn 99 [0, 3] [(0, .ref 39), (3, .int ((nI k) + Int32.ofInt (-1)))] [] h [true] 7 (hk_q hk0 hn) rfl ⟨by decide, trivial⟩ (fun _ => ?_)
    exact K h hk0 ho
  | succ m ih =>
    intro s h hs hk0 ho
    obtain ⟨t, et, t6⟩ := tp_o (k := k) hk0.1.1 (hk_n hk0 hn) hkn n7' ho
    have e1 : nI s + Int32.ofInt 1 = nI (s + 1) := nI_1 s
    have ea : ∀ u : Nat, (7 * nI k + 7) + nI u = nI (7 * k + 7 + u) := by
      intro u
      rw [show (7 : Int32) * nI k + 7 = nI (7 * k + 7) from n7 k 7, nI_add]
    have c1 := a_elx (c := 65) (k := 7 * k + 7 + t) (lo := 0) (hi := 6) hk0.1.1 (hk_n hk0 hn) rfl rfl (by omega)
    have c2 := a_elx (c := 65) (k := 7 * k + 7 + s) (lo := 0) (hi := 6) hk0.1.1 (hk_n hk0 hn) rfl rfl (by omega)
    obtain ⟨x, ex, x6, x31⟩ := a_nk (x := xg 0 h.2.1 65 (7 * k + 7 + t)) (m := 6) c1.1 c1.2
    obtain ⟨y, ey, y6, y31⟩ := a_nk (x := xg 0 h.2.1 65 (7 * k + 7 + s)) (m := 6) c2.1 c2.2
    refine xa_tn 151 [0, 3, 4, 5, 6] [(0, .ref 39), (3, .int (nI k)), (4, .int (nI s)), (5, .int (xg 0 h.2.1 65 (((7 * (nI k)) + 7) + (xg 0 h.2.1 40 (nI k).toNatClampNeg)).toNatClampNeg)), (6, .int (xg 0 h.2.1 65 (((7 * (nI k)) + 7) + (nI s)).toNatClampNeg))] [] h [false] 30 (hk_q hk0 hn) rfl ⟨nge_f (b := 7) (by omega) (by omega) (by omega), xin_n (by omega) (by omega), (show xe_in (((7 * (nI k)) + 7) + (xg 0 h.2.1 40 (nI k).toNatClampNeg)) 56 = true by rw [ekc, et, ea]; exact xin_n (by omega) (by omega)), (show xe_in (((7 * (nI k)) + 7) + (nI s)) 56 = true by rw [ea]; exact xin_n (by omega) (by omega)), trivial⟩ (fun _ => ?_)
    rw [ekc, et, ea, ea, nI_clamp (by omega), nI_clamp (by omega), ex, ey]
    have xi := nI_toInt (n := x) x31
    have yi := nI_toInt (n := y) y31
    have hin : xe_in ((7 * (nI k)) + (nI s)) 56 = true := by rw [n7]; exact xin_n (by omega) (by omega)
    have fin : ∀ z : Nat, z ≤ 6 → xt_P d xi_X10_leads xmi_X10_leads 106 [(0, .ref 39), (3, .int (nI k)), (4, .int (nI (s + 1)))] [] (xh_ui h 65 (7 * k + s) (nI z)) Q := by
      intro z z6
      have zi := nI_toInt (n := z) (by omega)
      refine ih (s + 1) _ (by omega) (hk_ui (s := (1, 56)) (lo := 0) (hi := 6) hk0 hn rfl rfl (by omega) (by omega) rfl rfl) (fun k hk' => ?_)
      rw [gx_o (by decide)]
      exact ho k hk'
    cases c3 : xe_c .eq (nI x) (nI y) with
    | true =>
      refine xa_tn 106 [0, 3, 4] [(0, .ref 39), (3, .int (nI k)), (4, .int ((nI s) + Int32.ofInt 1))] [] (xh_ui h 65 ((7 * (nI k)) + (nI s)).toNatClampNeg (nI y)) [true] 16 (hk_q hk0 hn) rfl ⟨c3, hin, trivial⟩ (fun _ => ?_)
      rw [n7, nI_clamp (by omega), e1]
      exact fin y y6
    | false =>
      have hin2 : xe_in ((7 * (nI x)) + (nI y)) 49 = true := by rw [n7]; exact xin_n (by omega) (by omega)
      cases c4 : xe_c .eq (xg 0 h.2.1 63 ((7 * (nI x)) + (nI y)).toNatClampNeg) 0 with
      | true =>
        refine xa_tn 106 [0, 3, 4] [(0, .ref 39), (3, .int (nI k)), (4, .int ((nI s) + Int32.ofInt 1))] [] (xh_ui h 65 ((7 * (nI k)) + (nI s)).toNatClampNeg (nI y)) [false, true] 25 (hk_q hk0 hn) rfl ⟨c3, hin2, c4, hin, trivial⟩ (fun _ => ?_)
        rw [n7 k s, nI_clamp (by omega), e1]
        exact fin y y6
      | false =>
        refine xa_tn 106 [0, 3, 4] [(0, .ref 39), (3, .int (nI k)), (4, .int ((nI s) + Int32.ofInt 1))] [] (xh_ui h 65 ((7 * (nI k)) + (nI s)).toNatClampNeg (nI x)) [false, false] 26 (hk_q hk0 hn) rfl ⟨c3, hin2, c4, hin, trivial⟩ (fun _ => ?_)
        rw [n7 k s, nI_clamp (by omega), e1]
        exact fin x x6
set_option maxRecDepth 100000 in
set_option maxHeartbeats 4000000 in
/-- foreseen: all steps back -/
theorem ld_22 {d n : Nat} {h0 : xh_H} (hn : 72 ≤ h0.1.length) (n1 : 1 ≤ n) (n7' : n ≤ 7) : ∀ (k : Nat) (h : xh_H), k < n → hk ld_md2 h0 h → (∀ k, k < n → (xg 0 h.2.1 40 k).toInt ≤ 6) → xt_P d xi_X10_leads xmi_X10_leads 99 [(0, .ref 39), (3, .int (nI k))] [] h (ld_Q ld_md2 h0) := by
  intro k
  induction k with
  | zero =>
    intro h hkn hk0 ho
    obtain ⟨t, et, t6⟩ := tp_o (k := 0) hk0.1.1 (hk_n hk0 hn) hkn n7' ho
    have e7 : (7 : Int32) + nI t = nI (7 + t) := nI_add 7 t
    have c1 := a_elx (c := 65) (k := 7 + t) (lo := 0) (hi := 6) hk0.1.1 (hk_n hk0 hn) rfl rfl (by omega)
    have et2 : xg 0 h.2.1 40 (Int32.ofInt 0).toNatClampNeg = nI t := et
    refine xa_tn 219 [] [] [.int (xg 0 h.2.1 65 (7 + (xg 0 h.2.1 40 (Int32.ofInt 0).toNatClampNeg)).toNatClampNeg)] h [true] 13 (hk_q hk0 hn) rfl ⟨by decide, by decide, (show xe_in (7 + (xg 0 h.2.1 40 (Int32.ofInt 0).toNatClampNeg)) 56 = true by rw [et2, e7]; exact xin_n (by omega) (by omega)), trivial⟩ (fun _ => ?_)
    rw [et2, e7, nI_clamp (by omega)]
    exact xp_ret rfl rfl rfl ⟨hk0, _, rfl, by omega, c1.2⟩
  | succ k ih =>
    intro h hkn hk0 ho
    have ki := nI_toInt (n := k + 1) (by omega)
    have z0 : (0 : Int32).toInt = 0 := rfl
    refine xa_tn 106 [0, 3, 4] [(0, .ref 39), (3, .int (nI (k + 1))), (4, .int (Int32.ofInt 0))] [] h [false] 6 (hk_q hk0 hn) rfl ⟨xle_f (by omega), trivial⟩ (fun _ => ?_)
    refine ld_32 hn n7' (by omega) hkn ?_ 7 0 h rfl hk0 ho
    intro h1 hk1 ho1
    rw [nI_dec2]
    exact ih h1 (by omega) hk1 ho1
set_option maxRecDepth 100000 in
set_option maxHeartbeats 4000000 in
/-- foreseen: the last row -/
theorem ld_02 {d n : Nat} {h0 : xh_H} (hn : 72 ≤ h0.1.length) (n1 : 1 ≤ n) (n7' : n ≤ 7) : ∀ (m i : Nat) (h : xh_H), i + m = 7 → hk ld_md2 h0 h → (∀ k, k < n → (xg 0 h.2.1 40 k).toInt ≤ 6) → xt_P d xi_X10_leads xmi_X10_leads 71 [(0, .ref 39), (2, .int (nI n)), (3, .int (nI i))] [] h (ld_Q ld_md2 h0) := by
  intro m
  induction m with
  | zero =>
    intro i h hi hk0 ho
    have e : i = 7 := by omega
    subst e
    refine xa_tn 99 [0, 3] [(0, .ref 39), (3, .int ((nI n) - (Int32.ofInt 1)))] [] h [true] 9 (hk_q hk0 hn) rfl ⟨by decide, trivial⟩ (fun _ => ?_)
    obtain ⟨j, rfl⟩ : ∃ j, n = j + 1 := ⟨n - 1, by omega⟩
    rw [nI_sub1]
    exact ld_22 hn n1 n7' j h (by omega) hk0 ho
  | succ m ih =>
    intro i h hi hk0 ho
    have e1 : nI i + Int32.ofInt 1 = nI (i + 1) := nI_1 i
    have ii := nI_toInt (n := i) (by omega)
    refine xa_tn 71 [0, 2, 3] [(0, .ref 39), (2, .int (nI n)), (3, .int ((nI i) + Int32.ofInt 1))] [] (xh_ui h 65 ((7 * (nI n)) + (nI i)).toNatClampNeg (nI i)) [false] 16 (hk_q hk0 hn) rfl ⟨nge_f (b := 7) (by omega) (by omega) (by omega), (show xe_in ((7 * (nI n)) + (nI i)) 56 = true by rw [n7]; exact xin_n (by omega) (by omega)), trivial⟩ (fun _ => ?_)
    rw [n7, nI_clamp (by omega), e1]
    refine ih (i + 1) _ (by omega) (hk_ui (s := (1, 56)) (lo := 0) (hi := 6) hk0 hn rfl rfl (by omega) (by omega) rfl rfl) (fun k hk' => ?_)
    rw [gx_o (by decide)]
    exact ho k hk'
set_option maxRecDepth 100000 in
set_option maxHeartbeats 8000000 in
theorem l10_rest {d : Nat} {f t : Int32} {h : xh_H} (hn : 72 ≤ h.1.length) (hi : a_inv a_tb h) (t1 : 0 ≤ t.toInt) (t2 : t.toInt ≤ 640) : xt_P (d + 3) xi_X10_leads xmi_X10_leads 9 [(0, .ref 39), (1, .int f)] [.int t] h (ld_Q ld_md2 h) := by
  have hq := a_rq_of hi.1 hn
  refine xa_tn 14 [0, 1, 2] [(0, .ref 39), (1, .int f), (2, .int t)] [.int 7, .int (Int32.ofInt 1), .int t] h [] 6 hq rfl trivial (fun _ => ?_)
  refine xp_intf (C := aC_m_X10_isIn_1_1_7_7) (lo := 0) (hi := 1) (σ := fun _ => 0) as_m_X10_isIn_1_1_7_7 hq hi rfl rfl rfl (Nat.zero_le _) ⟨a_ai t1 t2, a_ai (by decide) (by decide), a_ai (by decide) (by decide), trivial⟩ a_fp0 rfl (fun x h3 x1 x2 xf _ i3 l3 f3 q3 => ?_)
  have hk3 : hk ld_md2 h h3 := hk_c (hk_0 hi) i3 l3 f3 (fun _ z => nomatch z)
  cases c1 : xe_c .eq x 0 with
  | true =>
    refine xa_tn 29 [] [] [.int (Int32.ofInt (-1))] h3 [true] 4 q3 rfl ⟨c1, trivial⟩ (fun _ => ?_)
    exact xp_ret rfl rfl rfl ⟨hk3, _, rfl, by decide, by decide⟩
  | false =>
    have tf : 1 ≤ t.toInt ∧ t.toInt ≤ 7 := xf (of_decide_eq_false c1) _ (List.mem_singleton.mpr rfl)
    obtain ⟨n, rfl, n7', n31⟩ := a_nk (x := t) (m := 7) (by omega) tf.2
    rw [nI_toInt n31] at tf
    have n1 : 1 ≤ n := by omega
    refine xa_tn 22 [0, 1, 2] [(0, .ref 39), (1, .int f), (2, .int (nI n))] [.int (nI n), .ref 39] h3 [false] 5 q3 rfl ⟨c1, trivial⟩ (fun _ => ?_)
    refine xp_run q3 rfl rfl (ao_run (d := d + 2) (n := n) i3.1 q3.1 n7') ?_
    rintro v h4 ⟨rfl, p, rfl, hp⟩
    cases p with
    | false =>
      refine xa_tn 29 [] [] [.int (Int32.ofInt (-1))] h3 [false] 4 q3 rfl ⟨rfl, trivial⟩ (fun _ => ?_)
      exact xp_ret rfl rfl rfl ⟨hk3, _, rfl, by decide, by decide⟩
    | true =>
      refine xa_tn 31 [0, 1, 2] [(0, .ref 39), (1, .int f), (2, .int (nI n))] [.ref 39] h3 [true] 4 q3 rfl ⟨rfl, trivial⟩ (fun _ => ?_)
      refine xp_void (C := aC_m_X10_layOptions) (σ := fun _ => 0) (P := [((39, 35), 2, 4096)]) as_m_X10_layOptions q3 hk3.1 rfl rfl rfl (by show 2 ≤ d + 2; omega) ⟨a_av (by decide) q3.1, trivial⟩ a_fp0 rfl (fun h5 _ i5 l5 f5 q5 => ?_)
      have hk5 : hk ld_md2 h h5 := hk_c hk3 i5 l5 f5 (by decide)
      have ho : ∀ k, k < n → (xg 0 h5.2.1 40 k).toInt ≤ 6 := fun k hk' => by
        rw [fr_g f5 rfl rfl]
        exact hp rfl k hk'
      cases c2 : xe_c .ne f 0 with
      | false =>
        refine xa_tn 40 [0, 2, 3] [(0, .ref 39), (2, .int (nI n)), (3, .int (Int32.ofInt 0))] [] h5 [false] 6 q5 rfl ⟨c2, trivial⟩ (fun _ => ?_)
        exact ld_12 hn n1 n7' n 0 h5 (by omega) hk5 ho
      | true =>
        refine xa_tn 71 [0, 2, 3] [(0, .ref 39), (2, .int (nI n)), (3, .int (Int32.ofInt 0))] [] h5 [true] 6 q5 rfl ⟨c2, trivial⟩ (fun _ => ?_)
        exact ld_02 hn n1 n7' 7 0 h5 rfl hk5 ho
set_option maxRecDepth 100000 in
/-- X10.leads takes the tape -/
theorem l10_run2 {d : Nat} {f : Int32} {h : xh_H} (hn : 72 ≤ h.1.length) (hi : a_inv a_tb h) : xt_P (d + 3) xi_X10_leads xmi_X10_leads 0 [(0, .ref 39), (1, .int f)] [] h (fun v h' => ld_Q ld_md h v h' ∧ xg 0 h'.2.1 39 2 = 0) := by
  refine xa_tn 6 [0, 1] [(0, .ref 39), (1, .int f)] [.ref 39] (xh_ui h 39 0 (Int32.ofInt 0)) [] 6 (a_rq_of hi.1 hn) rfl trivial (fun q1 => ?_)
  have hk1 : hk ld_md h (xh_ui h 39 0 (Int32.ofInt 0)) := hk_ui (s := (0, 10)) (lo := 0) (hi := 1) (hk_0 hi) hn rfl rfl (by decide) (by decide) rfl rfl
  generalize xh_ui h 39 0 (Int32.ofInt 0) = h1 at hk1 q1 ⊢
  have tb := a_flx (c := 39) (k := 2) (lo := 0) (hi := 640) hk1.1.1 (hk_n hk1 hn) rfl rfl (by decide)
  refine xp_run q1 rfl rfl (tk_run (d := d + 2) q1) ?_
  rintro v h2 ⟨rfl, e2⟩
  have hk2 : hk ld_md h h2 := by
    rw [e2]
    exact hk_ui (s := (0, 10)) (lo := 0) (hi := 640) hk1 hn rfl rfl (by decide) (by decide) rfl rfl
  have z2 : xg 0 h2.2.1 39 2 = 0 := by rw [e2]; exact gx_s
  refine xp_mono (l10_rest (d := d) (f := f) (hk_n hk2 hn) hk2.1 tb.1 tb.2) (fun v h' q => ?_)
  exact ⟨⟨hk_t hk2 q.1 (by decide), q.2⟩, (hk_g (c := 39) (k := 2) q.1 rfl rfl).trans z2⟩
end XLT
end
section
section XPQ
/-! what holds of a run's end, if it comes to one: no bounds, no measure, no depth is asked -/
theorem xe_x_am {scr : Option (Nat × (Nat → Int32))} {mid : Nat} {mi : xm_M} : ∀ (f d pc : Nat) (lv : List (Nat × Value)) (st : List Value) (h : xh_H) (c s c0 s0 : Nat), xe_x xM xC scr f d mid mi (pc, lv, st, h, c + c0, s + s0) = (xe_x xM xC scr f d mid mi (pc, lv, st, h, c0, s0)).map (fun o => (o.1, o.2.1, c + o.2.2.1, s + o.2.2.2)) := by
  intro f
  induction f with
  | zero => intro d pc lv st h c s c0 s0; rfl
  | succ f ih =>
    intro d pc lv st h c s c0 s0
    unfold xe_x
    cases hr : xC mid pc with
    | none => rfl
    | some r =>
      dsimp only
      cases hi : xe_isr r.1 with
      | true =>
        simp only [cond_true]
        cases hv : xe_rv r.1 mi.2.2.2.2.1 st with
        | none => rfl
        | some w => rfl
      | false =>
        simp only [cond_false]
        rw [xe_2_ad]
        cases h2 : xe_2 scr mi.2.2.2.1 r d pc lv st h c0 s0 with
        | some o =>
          obtain ⟨pc1, lv1, st1, h1, c1, s1⟩ := o
          exact ih d pc1 lv1 st1 h1 c s c1 s1
        | none =>
          dsimp only [Option.map_none]
          cases d with
          | zero => rfl
          | succ d' =>
            dsimp only
            cases hcl : xe_cl xM r st h with
            | none => rfl
            | some t =>
              obtain ⟨mj, As, q⟩ := t
              dsimp only
              cases hx : xe_x xM xC none f d' r.2.2.1 mj (0, lv_args 0 As, [], h, 0, 0) with
              | none => rfl
              | some t =>
                obtain ⟨v1, h1, mc, ms⟩ := t
                dsimp only
                rw [Nat.add_assoc, Nat.add_assoc]
                exact ih _ _ _ _ _ _ _ _ _
/-- WHAT HOLDS OF A RUN'S END -/
def xq (f mid : Nat) (mi : xm_M) (pc : Nat) (lv : List (Nat × Value)) (st : List Value) (h : xh_H) (Q : Option Value → xh_H → Prop) : Prop := ∀ d lw v h' c s, xl_sb lv lw → xe_x xM xC none f d mid mi (pc, lw, st, h, 0, 0) = some (v, h', c, s) → Q v h'
variable {tb : aT} {f mid : Nat} {mi : xm_M} {pc : Nat} {lv : List (Nat × Value)} {st : List Value} {h : xh_H} {Q : Option Value → xh_H → Prop}
theorem xq_le {g : Nat} (hg : g ≤ f) (k : xq f mid mi pc lv st h Q) : xq g mid mi pc lv st h Q := fun d lw v h' c s hs he => k d lw v h' c s hs (xe_x_le hg he)
theorem xq_mono {Q1 : Option Value → xh_H → Prop} (k : xq f mid mi pc lv st h Q1) (m : ∀ v h', Q1 v h' → Q v h') : xq f mid mi pc lv st h Q := fun d lw v h' c s hs he => m v h' (k d lw v h' c s hs he)
theorem xq_and {Q1 Q2 : Option Value → xh_H → Prop} (k1 : xq f mid mi pc lv st h Q1) (k2 : xq f mid mi pc lv st h Q2) : xq f mid mi pc lv st h (fun v h' => Q1 v h' ∧ Q2 v h') := fun d lw v h' c s hs he => ⟨k1 d lw v h' c s hs he, k2 d lw v h' c s hs he⟩
theorem xq_s {r : xr_R} {d : Nat} {R : Option Value × xh_H × Nat × Nat} (hr : xC mid pc = some r) (hi : xe_isr r.1 = false) (he : xe_x xM xC none f d mid mi (pc, lv, st, h, 0, 0) = some R) : ∃ g, f = g + 1 ∧ ((∃ o', xe_2 none mi.2.2.2.1 r d pc lv st h 0 0 = some o' ∧ xe_x xM xC none g d mid mi o' = some R) ∨ (xe_2 none mi.2.2.2.1 r d pc lv st h 0 0 = none ∧ ∃ d' mj As q v1 h1 mc ms, d = d' + 1 ∧ xe_cl xM r st h = some (mj, As, q) ∧ xe_x xM xC none g d' r.2.2.1 mj (0, lv_args 0 As, [], h, 0, 0) = some (v1, h1, mc, ms) ∧ xe_x xM xC none g (d' + 1) mid mi (pc + 3, lv, v1.toList ++ q, h1, 0 + mc, 0 + ms) = some R)) := by
  cases f with
  | zero => cases he
  | succ g =>
    unfold xe_x at he
    rw [hr] at he
    dsimp only at he
    rw [hi] at he
    simp only [cond_false] at he
    refine ⟨g, rfl, ?_⟩
    cases h2 : xe_2 none mi.2.2.2.1 r d pc lv st h 0 0 with
    | some o' =>
      rw [h2] at he
      exact Or.inl ⟨o', rfl, he⟩
    | none =>
      rw [h2] at he
      dsimp only at he
      cases d with
      | zero => cases he
      | succ d' =>
        dsimp only at he
        cases hcl : xe_cl xM r st h with
        | none => rw [hcl] at he; cases he
        | some t =>
          obtain ⟨mj, As, q⟩ := t
          rw [hcl] at he
          dsimp only at he
          cases hx : xe_x xM xC none g d' r.2.2.1 mj (0, lv_args 0 As, [], h, 0, 0) with
          | none => rw [hx] at he; cases he
          | some t =>
            obtain ⟨v1, h1, mc, ms⟩ := t
            rw [hx] at he
            exact Or.inr ⟨rfl, d', mj, As, q, v1, h1, mc, ms, rfl, rfl, hx, he⟩
def xa_iv (i : Instr) : Bool := match i with
  | .invokestatic _ => true
  | .invokevirtual _ => true
  | .invokespecial _ => true
  | _ => false
theorem xb_ncl {r : xr_R} (hv : xa_iv r.1 = false) : xe_cl xM r st h = none := by
  obtain ⟨i, len, ra, rb, rK, ri⟩ := r
  unfold xe_cl
  cases xM (i, len, ra, rb, rK, ri).2.2.1 with
  | none => rfl
  | some m => cases i <;> first | rfl | cases hv
/-- the heap's instructions; nothing is asked -/
def xb_h (tb : aT) (r : xr_R) (pc : Nat) (st : List Value) (h : xh_H) : Option (Nat × List Value × xh_H) := match r.1 with
  | .getfield _ => (match st with
    | .ref c :: q => (match a_sh[c]? with
      | some (0, ci) => cond (Nat.beq ci r.2.2.1) (match xh_ty r.2.2.1 r.2.2.2.1 with
        | .int => some (pc + 3, .int (xg 0 h.2.1 c r.2.2.2.1) :: q, h)
        | .boolean => some (pc + 3, .int (xg 0 h.2.1 c r.2.2.2.1) :: q, h)
        | .long => some (pc + 3, .long (xg 0 h.2.2.1 c r.2.2.2.1) :: q, h)
        | .object _ => (match a_rfk tb c ci r.2.2.2.1 with
          | some t => some (pc + 3, .ref t :: q, h)
          | none => some (pc + 3, va_rf (xg none h.2.2.2 c r.2.2.2.1) :: q, h))
        | .array _ => (match a_rfk tb c ci r.2.2.2.1 with
          | some t => some (pc + 3, .ref t :: q, h)
          | none => some (pc + 3, va_rf (xg none h.2.2.2 c r.2.2.2.1) :: q, h))
        | _ => none) none
      | _ => none)
    | _ => none)
  | .putfield _ => (match st with
    | .int x :: .ref c :: q => (match a_sh[c]? with
      | some (0, ci) => cond (Nat.beq ci r.2.2.1) (match xh_ty r.2.2.1 r.2.2.2.1 with
        | .int => some (pc + 3, q, xh_ui h c r.2.2.2.1 x)
        | .boolean => some (pc + 3, q, xh_ui h c r.2.2.2.1 x)
        | _ => none) none
      | _ => none)
    | .long x :: .ref c :: q => (match a_sh[c]? with
      | some (0, ci) => cond (Nat.beq ci r.2.2.1) (match xh_ty r.2.2.1 r.2.2.2.1 with
        | .long => some (pc + 3, q, xh_ul h c r.2.2.2.1 x)
        | _ => none) none
      | _ => none)
    | _ => none)
  | .iaload => (match st with
    | .int i :: .ref c :: q => (match a_sh[c]? with
      | some (1, _) => some (pc + 1, .int (xg 0 h.2.1 c i.toNatClampNeg) :: q, h)
      | _ => none)
    | _ => none)
  | .baload => (match st with
    | .int i :: .ref c :: q => (match a_sh[c]? with
      | some (2, _) => some (pc + 1, .int (xg 0 h.2.1 c i.toNatClampNeg) :: q, h)
      | some (3, _) => some (pc + 1, .int (xg 0 h.2.1 c i.toNatClampNeg) :: q, h)
      | _ => none)
    | _ => none)
  | .laload => (match st with
    | .int i :: .ref c :: q => (match a_sh[c]? with
      | some (4, _) => some (pc + 1, .long (xg 0 h.2.2.1 c i.toNatClampNeg) :: q, h)
      | _ => none)
    | .int i :: .float _ :: q => some (pc + 1, .long (xo_f i.toNatClampNeg) :: q, h)
    | _ => none)
  | .aaload => (match st with
    | .int i :: .ref c :: q => (match a_sh[c]? with
      | some (5, _) => some (pc + 1, va_rf (xg none h.2.2.2 c i.toNatClampNeg) :: q, h)
      | _ => none)
    | _ => none)
  | .getstatic _ => some (pc + 3, .float 1 :: st, h)
  | .ldiv => (match st with
    | .long y :: .long x :: q => some (pc + 1, .long (x / y) :: q, h)
    | _ => none)
  | .lrem => (match st with
    | .long y :: .long x :: q => some (pc + 1, .long (x - x / y * y) :: q, h)
    | _ => none)
  | .iastore => (match st with
    | .int x :: .int i :: .ref c :: q => (match a_sh[c]? with
      | some (1, _) => some (pc + 1, q, xh_ui h c i.toNatClampNeg x)
      | _ => none)
    | _ => none)
  | .bastore => (match st with
    | .int x :: .int i :: .ref c :: q => (match a_sh[c]? with
      | some (2, _) => some (pc + 1, q, xh_ui h c i.toNatClampNeg (vp_nar .byte x))
      | some (3, _) => some (pc + 1, q, xh_ui h c i.toNatClampNeg (vp_nar .boolean x))
      | _ => none)
    | _ => none)
  | .lastore => (match st with
    | .long x :: .int i :: .ref c :: q => (match a_sh[c]? with
      | some (4, _) => some (pc + 1, q, xh_ul h c i.toNatClampNeg x)
      | _ => none)
    | _ => none)
  | .arraylength => (match st with
    | .ref c :: q => (match a_sh[c]? with
      | some (_ + 1, n) => some (pc + 1, .int (Int32.ofNat n) :: q, h)
      | _ => none)
    | _ => none)
  | .invokestatic _ => cond (Nat.beq r.2.2.2.1 2) (match st with
    | .int y :: .int x :: q => some (pc + 3, .int (if y < x then y else x) :: q, h)
    | _ => none) none
  | .invokevirtual _ => (match xM r.2.2.1 with
    | none => (match st with
      | .float u :: q => cond (Nat.beq r.2.2.2.1 3) (some (pc + 3, .int (js_len (u.toNat - 2)) :: q, h)) none
      | .int k :: .float u :: q => cond (Nat.beq r.2.2.2.1 4) (some (pc + 3, .int (js_ch (u.toNat - 2) k.toNatClampNeg) :: q, h)) none
      | _ => none)
    | some _ => none)
  | _ => none
theorem xb_cd {α : Type} {b : Bool} {x o : α} (z : cond b (some x) none = some o) : o = x := by
  cases b
  · cases z
  · cases z; rfl
theorem xe_2i {nL d : Nat} {r : xr_R} {lw : List (Nat × Value)} {o' : xs_S} {X : Option xs_S} (h1 : xe_1 nL r pc lw st h 0 0 = X) (h2 : xe_o none r pc lw st h 0 0 = none) (h3 : xe_oi r pc d lw st h 0 0 = none) (ho : xe_2 none nL r d pc lw st h 0 0 = some o') : X = some o' := by
  unfold xe_2 at ho
  rw [h1, h2, h3] at ho
  cases X with
  | none => cases ho
  | some x => exact ho
set_option maxHeartbeats 8000000 in
theorem xb_h_ok {nL d : Nat} {r : xr_R} {lw : List (Nat × Value)} {pc1 : Nat} {st1 : List Value} {h1 : xh_H} (hq : a_rq tb h) (he : xb_h tb r pc st h = some (pc1, st1, h1)) : a_rq tb h1 ∧ xe_cl xM r st h = none ∧ ∀ o', xe_2 none nL r d pc lw st h 0 0 = some o' → o' = (pc1, lw, st1, h1, 0, 0) := by
  obtain ⟨i, len, ra, rb, rK, ri⟩ := r
  unfold xb_h at he
  cases i
  case getfield idx =>
    dsimp only at he
    split at he
    · rename_i c q
      split at he
      · rename_i ci hs
        obtain ⟨g1, g2⟩ := xw_c he
        have hs2 := hq.2.1 c _ hs
        have base : ∀ v, xh_get h c (xh_ty ra rb) rb = v → ∀ o', xe_2 none nL (.getfield idx, len, ra, rb, rK, ri) d pc lw (.ref c :: q) h 0 0 = some o' → o' = (pc + 3, lw, v :: q, h, 0, 0) := by
          intro v hv o' ho
          subst hv
          have e := xe_2i (X := cond (Nat.beq ci ra) (some (pc + 3, lw, xh_get h c (xh_ty ra rb) rb :: q, h, 0, 0)) none) (by unfold xe_1 xp_r; try dsimp only; rw [hs2]; try rfl) rfl rfl ho
          exact xb_cd e
        split at g2
        · rename_i hty
          cases g2
          exact ⟨hq, xb_ncl rfl, base _ (by rw [hty]; rfl)⟩
        · rename_i hty
          cases g2
          exact ⟨hq, xb_ncl rfl, base _ (by rw [hty]; rfl)⟩
        · rename_i hty
          cases g2
          exact ⟨hq, xb_ncl rfl, base _ (by rw [hty]; rfl)⟩
        · rename_i x hty
          split at g2
          · rename_i t ht
            cases g2
            refine ⟨hq, xb_ncl rfl, base _ ?_⟩
            rw [hty]
            show va_rf (xg none h.2.2.2 c rb) = .ref t
            rw [hq.2.2 c rb ci t hs ht]
            rfl
          · cases g2
            refine ⟨hq, xb_ncl rfl, base _ ?_⟩
            rw [hty]
            rfl
        · rename_i x hty
          split at g2
          · rename_i t ht
            cases g2
            refine ⟨hq, xb_ncl rfl, base _ ?_⟩
            rw [hty]
            show va_rf (xg none h.2.2.2 c rb) = .ref t
            rw [hq.2.2 c rb ci t hs ht]
            rfl
          · cases g2
            refine ⟨hq, xb_ncl rfl, base _ ?_⟩
            rw [hty]
            rfl
        · cases g2
      · cases he
    · cases he
  case putfield idx =>
    dsimp only at he
    split at he
    · rename_i x c q
      split at he
      · rename_i ci hs
        obtain ⟨g1, g2⟩ := xw_c he
        have hs2 := hq.2.1 c _ hs
        have base : ∀ o', xe_2 none nL (.putfield idx, len, ra, rb, rK, ri) d pc lw (.int x :: .ref c :: q) h 0 0 = some o' → (xe_put h c (xh_ty ra rb) rb (.int x)).map (fun h' => (pc + 3, lw, q, h', 0, 0)) = some o' := fun o' ho => xe_2i (by unfold xe_1 xp_vr; try dsimp only; rw [hs2]; show (cond (Nat.beq ci ra) _ _) = _; rw [g1]; rfl) rfl rfl ho
        split at g2
        · rename_i hty
          cases g2
          refine ⟨hq, xb_ncl rfl, fun o' ho => ?_⟩
          have e := base o' ho
          rw [hty] at e
          cases e
          rfl
        · rename_i hty
          cases g2
          refine ⟨hq, xb_ncl rfl, fun o' ho => ?_⟩
          have e := base o' ho
          rw [hty] at e
          have e : (cond (decide (x = 0) || decide (x = 1)) (some (xh_ui h c rb x)) none).map (fun h' => (pc + 3, lw, st1, h', 0, 0)) = some o' := e
          cases hB : (decide (x = 0) || decide (x = 1)) with
          | true => rw [hB] at e; cases e; rfl
          | false => rw [hB] at e; cases e
        · cases g2
      · cases he
    · rename_i x c q
      split at he
      · rename_i ci hs
        obtain ⟨g1, g2⟩ := xw_c he
        have hs2 := hq.2.1 c _ hs
        have base : ∀ o', xe_2 none nL (.putfield idx, len, ra, rb, rK, ri) d pc lw (.long x :: .ref c :: q) h 0 0 = some o' → (xe_put h c (xh_ty ra rb) rb (.long x)).map (fun h' => (pc + 3, lw, q, h', 0, 0)) = some o' := fun o' ho => xe_2i (by unfold xe_1 xp_vr; try dsimp only; rw [hs2]; show (cond (Nat.beq ci ra) _ _) = _; rw [g1]; rfl) rfl rfl ho
        split at g2
        · rename_i hty
          cases g2
          refine ⟨hq, xb_ncl rfl, fun o' ho => ?_⟩
          have e := base o' ho
          rw [hty] at e
          cases e
          rfl
        · cases g2
      · cases he
    · cases he
  case iaload =>
    dsimp only at he
    split at he
    · rename_i i c q
      split at he
      · rename_i n hs
        cases he
        refine ⟨hq, xb_ncl rfl, fun o' ho => xb_cd (b := xe_in i n) (xe_2i (X := cond (xe_in i n) (some (pc + 1, lw, .int (xg 0 h.2.1 c i.toNatClampNeg) :: q, h, 0, 0)) none) (by unfold xe_1 xp_ir; try dsimp only; rw [hq.2.1 c _ hs]; try rfl) rfl rfl ho)⟩
      · cases he
    · cases he
  case baload =>
    dsimp only at he
    split at he
    · rename_i i c q
      split at he
      · rename_i n hs
        cases he
        refine ⟨hq, xb_ncl rfl, fun o' ho => xb_cd (b := xe_in i n) (xe_2i (X := cond (xe_in i n) (some (pc + 1, lw, .int (xg 0 h.2.1 c i.toNatClampNeg) :: q, h, 0, 0)) none) (by unfold xe_1 xp_ir; try dsimp only; rw [hq.2.1 c _ hs]; try rfl) rfl rfl ho)⟩
      · rename_i n hs
        cases he
        refine ⟨hq, xb_ncl rfl, fun o' ho => xb_cd (b := xe_in i n) (xe_2i (X := cond (xe_in i n) (some (pc + 1, lw, .int (xg 0 h.2.1 c i.toNatClampNeg) :: q, h, 0, 0)) none) (by unfold xe_1 xp_ir; try dsimp only; rw [hq.2.1 c _ hs]; try rfl) rfl rfl ho)⟩
      · cases he
    · cases he
  case laload =>
    dsimp only at he
    split at he
    · rename_i i c q
      split at he
      · rename_i n hs
        cases he
        refine ⟨hq, xb_ncl rfl, fun o' ho => xb_cd (b := xe_in i n) (xe_2i (X := cond (xe_in i n) (some (pc + 1, lw, .long (xg 0 h.2.2.1 c i.toNatClampNeg) :: q, h, 0, 0)) none) (by unfold xe_1 xp_ir; try dsimp only; rw [hq.2.1 c _ hs]; try rfl) rfl rfl ho)⟩
      · cases he
    · rename_i i u q
      cases he
      refine ⟨hq, xb_ncl rfl, fun o' ho => ?_⟩
      have ho : (match cond (Nat.beq u.toNat 1 && xe_in i 13) (some ((pc + 1, lw, .long (xo_f i.toNatClampNeg) :: q, h, 0, 0) : xs_S)) none with | some o => some o | none => none) = some o' := ho
      cases hB : (Nat.beq u.toNat 1 && xe_in i 13) with
      | true => rw [hB] at ho; cases ho; rfl
      | false => rw [hB] at ho; cases ho
    · cases he
  case aaload =>
    dsimp only at he
    split at he
    · rename_i i c q
      split at he
      · rename_i n hs
        cases he
        refine ⟨hq, xb_ncl rfl, fun o' ho => xb_cd (b := xe_in i n) (xe_2i (X := cond (xe_in i n) (some (pc + 1, lw, va_rf (xg none h.2.2.2 c i.toNatClampNeg) :: q, h, 0, 0)) none) (by unfold xe_1 xp_ir; try dsimp only; rw [hq.2.1 c _ hs]; try rfl) rfl rfl ho)⟩
      · cases he
    · cases he
  case getstatic idx =>
    cases he
    exact ⟨hq, xb_ncl rfl, fun o' ho => by cases ho; rfl⟩
  case ldiv =>
    dsimp only at he
    split at he
    · rename_i y x q
      cases he
      refine ⟨hq, xb_ncl rfl, fun o' ho => ?_⟩
      have e := xe_2i (X := cond (decide (y = 0)) none (some (pc + 1, lw, .long (x / y) :: q, h, 0, 0))) (by unfold xe_1 xp_ll; try dsimp only; try rfl) rfl rfl ho
      cases hB : decide (y = 0) with
      | true => rw [hB] at e; cases e
      | false => rw [hB] at e; cases e; rfl
    · cases he
  case lrem =>
    dsimp only at he
    split at he
    · rename_i y x q
      cases he
      refine ⟨hq, xb_ncl rfl, fun o' ho => ?_⟩
      have e := xe_2i (X := cond (decide (y = 0)) none (some (pc + 1, lw, .long (x - x / y * y) :: q, h, 0, 0))) (by unfold xe_1 xp_ll; try dsimp only; try rfl) rfl rfl ho
      cases hB : decide (y = 0) with
      | true => rw [hB] at e; cases e
      | false => rw [hB] at e; cases e; rfl
    · cases he
  case iastore =>
    dsimp only at he
    split at he
    · rename_i x i c q
      split at he
      · rename_i n hs
        cases he
        refine ⟨hq, xb_ncl rfl, fun o' ho => xb_cd (b := xe_in i n) (xe_2i (X := cond (xe_in i n) (some (pc + 1, lw, st1, xh_ui h c i.toNatClampNeg x, 0, 0)) none) (by unfold xe_1 xp_iir; try dsimp only; rw [hq.2.1 c _ hs]; try rfl) rfl rfl ho)⟩
      · cases he
    · cases he
  case bastore =>
    dsimp only at he
    split at he
    · rename_i x i c q
      split at he
      · rename_i n hs
        cases he
        refine ⟨hq, xb_ncl rfl, fun o' ho => xb_cd (b := xe_in i n) (xe_2i (X := cond (xe_in i n) (some (pc + 1, lw, st1, xh_ui h c i.toNatClampNeg (vp_nar .byte x), 0, 0)) none) (by unfold xe_1 xp_iir; try dsimp only; rw [hq.2.1 c _ hs]; try rfl) rfl rfl ho)⟩
      · rename_i n hs
        cases he
        refine ⟨hq, xb_ncl rfl, fun o' ho => xb_cd (b := xe_in i n) (xe_2i (X := cond (xe_in i n) (some (pc + 1, lw, st1, xh_ui h c i.toNatClampNeg (vp_nar .boolean x), 0, 0)) none) (by unfold xe_1 xp_iir; try dsimp only; rw [hq.2.1 c _ hs]; try rfl) rfl rfl ho)⟩
      · cases he
    · cases he
  case lastore =>
    dsimp only at he
    split at he
    · rename_i x i c q
      split at he
      · rename_i n hs
        cases he
        refine ⟨hq, xb_ncl rfl, fun o' ho => xb_cd (b := xe_in i n) (xe_2i (X := cond (xe_in i n) (some (pc + 1, lw, st1, xh_ul h c i.toNatClampNeg x, 0, 0)) none) (by unfold xe_1 xp_lir; try dsimp only; rw [hq.2.1 c _ hs]; try rfl) rfl rfl ho)⟩
      · cases he
    · cases he
  case arraylength =>
    dsimp only at he
    split at he
    · rename_i c q
      split at he
      · rename_i k n hs
        cases he
        refine ⟨hq, xb_ncl rfl, fun o' ho => xb_cd (b := Nat.ble (k + 1) 5) (xe_2i (X := cond (Nat.ble (k + 1) 5) (some (pc + 1, lw, .int (Int32.ofNat n) :: q, h, 0, 0)) none) (by unfold xe_1 xp_r; try dsimp only; rw [hq.2.1 c _ hs]; try rfl) rfl rfl ho)⟩
      · cases he
    · cases he
  case invokestatic idx =>
    obtain ⟨g1, g2⟩ := xw_c he
    have g1 : rb = 2 := xw_beq g1
    subst g1
    split at g2
    · rename_i y x q
      cases g2
      refine ⟨hq, ?_, fun o' ho => ?_⟩
      · unfold xe_cl
        try dsimp only
        cases xM ra with
        | none => rfl
        | some m => rfl
      · cases d with
        | zero => cases ho
        | succ d =>
          exact xb_cd (b := Nat.ble (xm_cat q) 8) ho
    · cases g2
  case invokevirtual idx =>
    dsimp only at he
    split at he
    · rename_i hM
      have ncl : ∀ st, xe_cl xM (.invokevirtual idx, len, ra, rb, rK, ri) st h = none := by
        intro st
        unfold xe_cl
        try dsimp only
        rw [hM]
      split at he
      · rename_i u q
        obtain ⟨g1, g2⟩ := xw_c he
        have g1 : rb = 3 := xw_beq g1
        subst g1
        cases g2
        refine ⟨hq, ncl _, fun o' ho => ?_⟩
        match d, ho with
        | 0, ho => cases ho
        | 1, ho => cases ho
        | d + 2, ho => exact xb_cd (b := js_ok u && Nat.ble (xm_cat q) 8) ho
      · rename_i k u q
        obtain ⟨g1, g2⟩ := xw_c he
        have g1 : rb = 4 := xw_beq g1
        subst g1
        cases g2
        refine ⟨hq, ncl _, fun o' ho => ?_⟩
        match d, ho with
        | 0, ho => cases ho
        | 1, ho => cases ho
        | 2, ho => cases ho
        | 3, ho => cases ho
        | d + 4, ho => exact xb_cd (b := js_ok u && (xe_in k (js_lens.getD (u.toNat - 2) 0) && Nat.ble (xm_cat q) 8)) ho
      · cases he
    · cases he
  all_goals cases he
/-- a piece of code, along a path: where it comes to, and which way its branches go -/
def xb (tb : aT) (mid nL stop : Nat) : Nat → Bool → List Bool → Nat → List (Nat × Value) → List Value → xh_H → Option (xa_S × Prop)
  | 0, _, _, _, _, _, _ => none
  | n + 1, b, p, pc, lv, st, h => cond (b && (Nat.beq pc stop && p.isEmpty)) (some ((pc, lv, st, h), True)) (match xC mid pc with
    | none => none
    | some r => cond (xe_isr r.1) none (match r.1 with
      | .ifCond k _ => (match st with
        | .int x :: q => (match p with
          | t :: p => (match xb tb mid nL stop n true p (cond t r.2.2.1 (pc + 3)) lv q h with
            | some (o, P) => some (o, xe_c k x 0 = t ∧ P)
            | none => none)
          | [] => none)
        | _ => none)
      | .if_icmp k _ => (match st with
        | .int y :: .int x :: q => (match p with
          | t :: p => (match xb tb mid nL stop n true p (cond t r.2.2.1 (pc + 3)) lv q h with
            | some (o, P) => some (o, xe_c k x y = t ∧ P)
            | none => none)
          | [] => none)
        | _ => none)
      | _ => cond (xa_p r.1) (match xe_1 nL r pc lv st h 0 0 with
        | some (pc1, lv1, st1, _) => xb tb mid nL stop n true p pc1 lv1 st1 h
        | none => none) (match xb_h tb r pc st h with
        | some (pc1, st1, h1) => xb tb mid nL stop n true p pc1 lv st1 h1
        | none => none)))
set_option maxHeartbeats 4000000 in
theorem xb_ok {tb : aT} {mid stop : Nat} {mi : xm_M} : ∀ (n : Nat) (b : Bool) (p : List Bool) (pc : Nat) (lv : List (Nat × Value)) (st : List Value) (h : xh_H) (o : xa_S) (P : Prop), xb tb mid mi.2.2.2.1 stop n b p pc lv st h = some (o, P) → a_rq tb h → P → a_rq tb o.2.2.2 ∧ ∀ f d lw R, xl_sb lv lw → xe_x xM xC none f d mid mi (pc, lw, st, h, 0, 0) = some R → ∃ g lw', g + cond b 0 1 ≤ f ∧ xl_sb o.2.1 lw' ∧ xe_x xM xC none g d mid mi (o.1, lw', o.2.2.1, o.2.2.2, 0, 0) = some R := by
  intro n
  induction n with
  | zero => intro b p pc lv st h o P he; cases he
  | succ n ih =>
    intro b p pc lv st h o P he hq hP
    unfold xb at he
    cases hb : (b && (Nat.beq pc stop && p.isEmpty)) with
    | true =>
      rw [hb] at he
      cases he
      obtain ⟨b1, -⟩ := xw_bb hb
      subst b1
      exact ⟨hq, fun f d lw R hs hx => ⟨f, lw, Nat.le_refl _, hs, hx⟩⟩
    | false =>
      rw [hb] at he
      dsimp only [cond_false] at he
      cases hr : xC mid pc with
      | none => rw [hr] at he; cases he
      | some r =>
        rw [hr] at he
        dsimp only at he
        cases hi : xe_isr r.1 with
        | true => rw [hi] at he; cases he
        | false =>
          rw [hi] at he
          dsimp only [cond_false] at he
          have wrap : ∀ (pc1 : Nat) (lv1 : List (Nat × Value)) (st1 : List Value) (h1 : xh_H) (p1 : List Bool) (P1 : Prop), xb tb mid mi.2.2.2.1 stop n true p1 pc1 lv1 st1 h1 = some (o, P1) → a_rq tb h1 → P1 → (∀ d lw, xl_sb lv lw → xe_cl xM r st h = none ∧ ∃ lw1, xl_sb lv1 lw1 ∧ ∀ o', xe_2 none mi.2.2.2.1 r d pc lw st h 0 0 = some o' → o' = (pc1, lw1, st1, h1, 0, 0)) → a_rq tb o.2.2.2 ∧ ∀ f d lw R, xl_sb lv lw → xe_x xM xC none f d mid mi (pc, lw, st, h, 0, 0) = some R → ∃ g lw', g + cond b 0 1 ≤ f ∧ xl_sb o.2.1 lw' ∧ xe_x xM xC none g d mid mi (o.1, lw', o.2.2.1, o.2.2.2, 0, 0) = some R := by
            intro pc1 lv1 st1 h1 p1 P1 e1 q1 hP1 hst
            obtain ⟨k1, k2⟩ := ih _ _ _ _ _ _ _ _ e1 q1 hP1
            refine ⟨k1, fun f d lw R hs hx => ?_⟩
            obtain ⟨hcl, lw1, hs1, hst1⟩ := hst d lw hs
            obtain ⟨g, rfl, ⟨o', e2, e3⟩ | ⟨-, d', mj, As, q, v1, h1', mc, ms, -, e5, -⟩⟩ := xq_s hr hi hx
            · rw [hst1 o' e2] at e3
              obtain ⟨g', lw', a1, a2, a3⟩ := k2 g d lw1 R hs1 e3
              refine ⟨g', lw', ?_, a2, a3⟩
              have a1 : g' + 0 ≤ g := a1
              cases b
              · show g' + 1 ≤ g + 1; omega
              · show g' + 0 ≤ g + 1; omega
            · rw [hcl] at e5
              cases e5
          split at he
          · rename_i k off hk
            split at he
            · rename_i x q
              split at he
              · rename_i t p
                split at he
                · rename_i o1 P1 h1
                  cases he
                  obtain ⟨hc, hP⟩ := hP
                  refine wrap _ _ _ _ _ _ h1 hq hP (fun d lw hs => ⟨xb_ncl (by rw [hk]; rfl), lw, hs, fun o' ho => ?_⟩)
                  obtain ⟨i, len, ra, rb, rK, ri⟩ := r
                  dsimp only at hk
                  subst hk
                  unfold xe_2 xe_1 xp_i at ho
                  dsimp only at ho
                  rw [hc] at ho
                  cases t <;> (cases ho; rfl)
                · cases he
              · cases he
            · cases he
          · rename_i k off hk
            split at he
            · rename_i y x q
              split at he
              · rename_i t p
                split at he
                · rename_i o1 P1 h1
                  cases he
                  obtain ⟨hc, hP⟩ := hP
                  refine wrap _ _ _ _ _ _ h1 hq hP (fun d lw hs => ⟨xb_ncl (by rw [hk]; rfl), lw, hs, fun o' ho => ?_⟩)
                  obtain ⟨i, len, ra, rb, rK, ri⟩ := r
                  dsimp only at hk
                  subst hk
                  unfold xe_2 xe_1 xp_ii at ho
                  dsimp only at ho
                  rw [hc] at ho
                  cases t <;> (cases ho; rfl)
                · cases he
              · cases he
            · cases he
          · cases hp : xa_p r.1 with
            | true =>
              rw [hp] at he
              dsimp only [cond_true] at he
              split at he
              · rename_i pc1 lv1 st1 x hx
                obtain ⟨h1, c1, s1⟩ := x
                obtain ⟨e1, e2, e3⟩ := xe_1_pure hx hp
                subst e1
                subst e2
                subst e3
                refine wrap _ _ _ _ _ _ he hq hP (fun d lw hs => ⟨xb_ncl ?_, ?_⟩)
                · cases hiv : xa_iv r.1 with
                  | false => rfl
                  | true =>
                    obtain ⟨i, len, ra, rb, rK, ri⟩ := r
                    cases i <;> first | (cases hiv; done) | (cases hp; done)
                · obtain ⟨lw1, e4, e5⟩ := xe_2_sb (scr := none) (d := d) hs (show xe_2 none mi.2.2.2.1 r d pc lv st _ 0 0 = some (pc1, lv1, st1, _, 0, 0) by unfold xe_2; rw [hx])
                  refine ⟨lw1, e5, fun o' ho => ?_⟩
                  rw [e4] at ho
                  cases ho
                  rfl
              · cases he
            | false =>
              rw [hp] at he
              dsimp only [cond_false] at he
              split at he
              · rename_i pc1 st1 h1 hx
                have g0 := xb_h_ok (nL := mi.2.2.2.1) (d := 0) (lw := lv) hq hx
                refine wrap _ _ _ _ _ _ he g0.1 hP (fun d lw hs => ⟨g0.2.1, lw, hs, ?_⟩)
                exact (xb_h_ok (nL := mi.2.2.2.1) (d := d) (lw := lw) hq hx).2.2
              · cases he
/-- .. and the locals that are kept -/
def xb_n (tb : aT) (mid nL stop n : Nat) (p : List Bool) (ks : List Nat) (pc : Nat) (lv : List (Nat × Value)) (st : List Value) (h : xh_H) : Option (xa_S × Prop) := cond (xl_nd ks) (match xb tb mid nL stop n false p pc lv st h with
  | some ((pc1, lv1, st1, h1), P) => (match xl_pk ks lv1 with
    | some l => some ((pc1, l, st1, h1), P)
    | none => none)
  | none => none) none
theorem xl_sb_t {a b c : List (Nat × Value)} (hn : (a.map (fun q => q.1)).Nodup) (h1 : ∀ i v, xl_get a i = some v → xl_get b i = some v) (h2 : xl_sb b c) : xl_sb a c := ⟨hn, fun i v e => h2.2 i v (h1 i v e)⟩
/-- walk along a path; a step at least is done -/
theorem xq_m (pc1 : Nat) (ks : List Nat) (lv1 : List (Nat × Value)) (st1 : List Value) (h1 : xh_H) (p : List Bool) (n : Nat) {P : Prop} (hq : a_rq tb h) (he : xb_n tb mid mi.2.2.2.1 pc1 n p ks pc lv st h = some ((pc1, lv1, st1, h1), P)) (hP : P) (k : a_rq tb h1 → xq f mid mi pc1 lv1 st1 h1 Q) : xq (f + 1) mid mi pc lv st h Q := by
  intro d lw v h' c s hs hx
  unfold xb_n at he
  obtain ⟨n1, he⟩ := xw_c he
  split at he
  · rename_i pc2 lv2 st2 h2 P2 hx2
    split at he
    · rename_i l hl
      cases he
      obtain ⟨k1, k2⟩ := xb_ok n false p pc lv st h _ _ hx2 hq hP
      obtain ⟨g, lw', a1, a2, a3⟩ := k2 _ _ _ _ hs hx
      obtain ⟨e1, e2⟩ := xl_pk_ok hl
      have a1 : g + 1 ≤ f + 1 := a1
      exact k k1 d lw' v h' c s (xl_sb_t (by rw [e1]; exact xl_nd_ok n1) e2 a2) (xe_x_le (by omega) a3)
    · cases he
  · cases he
theorem xq_n (pc1 : Nat) (ks : List Nat) (lv1 : List (Nat × Value)) (st1 : List Value) (h1 : xh_H) (p : List Bool) (n : Nat) {P : Prop} (hq : a_rq tb h) (he : xb_n tb mid mi.2.2.2.1 pc1 n p ks pc lv st h = some ((pc1, lv1, st1, h1), P)) (hP : P) (k : a_rq tb h1 → xq f mid mi pc1 lv1 st1 h1 Q) : xq f mid mi pc lv st h Q := xq_le (Nat.le_succ f) (xq_m pc1 ks lv1 st1 h1 p n hq he hP k)
/-- what a method returns, whatever its type -/
def xe_rw (i : Instr) (st : List Value) : Option (Option Value) := match i with
  | .ireturn => (match st with
    | [.int x] => some (some (.int x))
    | _ => none)
  | .lreturn => (match st with
    | [.long x] => some (some (.long x))
    | _ => none)
  | .areturn => (match st with
    | [v] => some (some v)
    | _ => none)
  | .return_ => (match st with
    | [] => some none
    | _ => none)
  | _ => none
theorem xe_rw_ok {i : Instr} {ret : Option FieldType} {v w : Option Value} (h1 : xe_rw i st = some v) (h2 : xe_rv i ret st = some w) : w = v := by
  unfold xe_rw at h1
  unfold xe_rv at h2
  split at h1
  · split at h1
    · dsimp only at h2
      cases h1
      split at h2
      · cases h2; rfl
      · exact (xb_cd h2)
      · cases h2
    · cases h1
  · split at h1
    · dsimp only at h2
      cases h1
      split at h2
      · cases h2; rfl
      · cases h2
    · cases h1
  · split at h1
    · dsimp only at h2
      cases h1
      split at h2
      · split at h2
        · cases h2
          rename_i hv _ _
          cases hv
          rfl
        · cases h2
      · cases h2
    · cases h1
  · split at h1
    · dsimp only at h2
      cases h1
      split at h2
      · cases h2; rfl
      · cases h2
    · cases h1
  · cases h1
theorem xq_ret {r : xr_R} {v : Option Value} (hr : xC mid pc = some r) (hi : xe_isr r.1 = true) (hv : xe_rw r.1 st = some v) (hQ : Q v h) : xq f mid mi pc lv st h Q := by
  intro d lw w h' c s hs hx
  cases f with
  | zero => cases hx
  | succ g =>
    unfold xe_x at hx
    rw [hr] at hx
    dsimp only at hx
    rw [hi] at hx
    simp only [cond_true] at hx
    cases h2 : xe_rv r.1 mi.2.2.2.2.1 st with
    | none => rw [h2] at hx; cases hx
    | some w' =>
      rw [h2] at hx
      cases hx
      rw [xe_rw_ok hv h2]
      exact hQ
theorem lv_args_ge : ∀ {As : List Value} {i j : Nat}, j ∈ (lv_args i As).map (fun q => q.1) → i ≤ j := by
  intro As
  induction As with
  | nil => intro i j hj; cases hj
  | cons a t ih =>
    intro i j hj
    unfold lv_args at hj
    rw [List.map_cons, List.mem_cons] at hj
    rcases hj with rfl | hj
    · exact Nat.le_refl _
    · have := ih hj
      split at this <;> omega
theorem lv_args_nd : ∀ {As : List Value} {i : Nat}, ((lv_args i As).map (fun q => q.1)).Nodup := by
  intro As
  induction As with
  | nil => intro i; exact List.nodup_nil
  | cons a t ih =>
    intro i
    unfold lv_args
    rw [List.map_cons, List.nodup_cons]
    refine ⟨fun hm => ?_, ih⟩
    have := lv_args_ge hm
    dsimp only at this
    split at this <;> omega
theorem xe_oi0 {r : xr_R} : xe_oi r pc 0 lv st h 0 0 = none := by
  unfold xe_oi
  repeat' split
  all_goals first | rfl | contradiction
theorem xa_c_2 {r : xr_R} {mj : xm_M} {As q : List Value} {nL d : Nat} (hq : a_rq tb h) (he : xa_c r st = some (mj, As, q)) : xe_2 none nL r d pc lv st h 0 0 = none := by
  cases d with
  | succ d => exact (xa_c_ok (d := d) hq he).2.1
  | zero =>
    have e := (xa_c_ok (d := 0) (pc := pc) (lv := lv) (nL := nL) hq he).2.1
    unfold xe_2 at e ⊢
    cases h1 : xe_1 nL r pc lv st h 0 0 with
    | some o => rw [h1] at e; cases e
    | none =>
      rw [h1] at e
      dsimp only at e ⊢
      cases h2 : xe_o none r pc lv st h 0 0 with
      | some o => rw [h2] at e; cases e
      | none => exact xe_oi0
/-- a call -/
theorem xq_call {r : xr_R} {mj : xm_M} {As q : List Value} {Q1 : Option Value → xh_H → Prop} (hq : a_rq tb h) (hr : xC mid pc = some r) (he : xa_c r st = some (mj, As, q)) (hm : xq f r.2.2.1 mj 0 (lv_args 0 As) [] h Q1) (k : ∀ v h', Q1 v h' → xq f mid mi (pc + 3) lv (v.toList ++ q) h' Q) : xq (f + 1) mid mi pc lv st h Q := by
  intro d lw w h' c s hs hx
  have hcl := (xa_c_ok (d := 0) (pc := pc) (lv := lv) (nL := mi.2.2.2.1) hq he)
  obtain ⟨g, eg, ⟨o', e2, -⟩ | ⟨-, d', mj', As', q', v1, h1, mc, ms, rfl, e5, e6, e7⟩⟩ := xq_s hr hcl.2.2.1 hx
  · rw [xa_c_2 hq he] at e2
    cases e2
  · cases eg
    rw [hcl.1] at e5
    cases e5
    have q1 := hm d' _ v1 h1 mc ms ⟨lv_args_nd, fun i v e => e⟩ e6
    rw [Nat.zero_add, Nat.zero_add] at e7
    have e8 : xe_x xM xC none f (d' + 1) mid mi (pc + 3, lw, v1.toList ++ q, h1, mc, ms) = _ := xe_x_am (scr := none) (mid := mid) (mi := mi) f (d' + 1) (pc + 3) lw (v1.toList ++ q) h1 mc ms 0 0
    rw [e7] at e8
    cases h9 : xe_x xM xC none f (d' + 1) mid mi (pc + 3, lw, v1.toList ++ q, h1, 0, 0) with
    | none => rw [h9] at e8; cases e8
    | some t =>
      obtain ⟨v2, h2, c2, s2⟩ := t
      rw [h9] at e8
      cases e8
      exact k v1 h1 q1 (d' + 1) lw v2 h2 c2 s2 hs h9
theorem xq_run {r : xr_R} {mj : xm_M} {As q : List Value} {Q1 : Option Value → xh_H → Prop} (hq : a_rq tb h) (hr : xC mid pc = some r) (he : xa_c r st = some (mj, As, q)) (hm : xq f r.2.2.1 mj 0 (lv_args 0 As) [] h Q1) (k : ∀ v h', Q1 v h' → xq f mid mi (pc + 3) lv (v.toList ++ q) h' Q) : xq f mid mi pc lv st h Q := xq_le (Nat.le_succ f) (xq_call hq hr he hm k)
/-- a run that is known to come to an end -/
theorem xq_R {d : Nat} {v : Option Value} {h' : xh_H} {c s : Nat} (hn : (lv.map (fun q => q.1)).Nodup) (k : xR none d mid mi (pc, lv, st, h, 0, 0) (v, h', c, s)) (hq : ∀ f, xq f mid mi pc lv st h Q) : Q v h' := by
  obtain ⟨f, hf⟩ := k
  exact hq f d lv v h' c s ⟨hn, fun i v e => e⟩ hf
theorem xqP {d : Nat} {Q1 : Option Value → xh_H → Prop} (hn : (lv.map (fun q => q.1)).Nodup) (k : xt_P d mid mi pc lv st h Q1) (hq : ∀ f, xq f mid mi pc lv st h Q) : xt_P d mid mi pc lv st h (fun v h' => Q1 v h' ∧ Q v h') := by
  obtain ⟨v, h', r, q⟩ := k
  exact ⟨v, h', r, q, xq_R hn r hq⟩
/-- a loop, or a recursion: less is left of the run -/
theorem xq_ind {P : Nat → Prop} (z : P 0) (s : ∀ f, P f → P (f + 1)) : ∀ f, P f := by
  intro f
  induction f with
  | zero => exact z
  | succ f ih => exact s f ih
theorem xq_0 : xq 0 mid mi pc lv st h Q := fun d lw v h' c s hs hx => by cases hx
end XPQ
end
section
section XFX
/-- what a run may have changed: ints in S, longs in L; shapes and references are as they were -/
def fx (S L : Nat → Nat → Bool) (h h' : xh_H) : Prop := h'.1 = h.1 ∧ h'.2.2.2 = h.2.2.2 ∧ (∀ c k, S c k = false → xg 0 h'.2.1 c k = xg 0 h.2.1 c k) ∧ ∀ c k, L c k = false → xg 0 h'.2.2.1 c k = xg 0 h.2.2.1 c k
def fN (_ _ : Nat) : Bool := false
variable {S L S' L' : Nat → Nat → Bool} {h0 h h' h1 h2 : xh_H} {c k : Nat} {tb : aT}
theorem fx_0 : fx S L h h := ⟨rfl, rfl, fun _ _ _ => rfl, fun _ _ _ => rfl⟩
theorem fx_i (g : fx S L h h') (e : S c k = false) : xg 0 h'.2.1 c k = xg 0 h.2.1 c k := g.2.2.1 c k e
theorem fx_l (g : fx S L h h') (e : L c k = false) : xg 0 h'.2.2.1 c k = xg 0 h.2.2.1 c k := g.2.2.2 c k e
theorem fx_t (a : fx S L h0 h1) (b : fx S L h1 h2) : fx S L h0 h2 := ⟨b.1.trans a.1, b.2.1.trans a.2.1, fun c k e => (b.2.2.1 c k e).trans (a.2.2.1 c k e), fun c k e => (b.2.2.2 c k e).trans (a.2.2.2 c k e)⟩
theorem fx_w (a : fx S L h h') (s : ∀ c k, S' c k = false → S c k = false) (l : ∀ c k, L' c k = false → L c k = false) : fx S' L' h h' := ⟨a.1, a.2.1, fun c k e => a.2.2.1 c k (s c k e), fun c k e => a.2.2.2 c k (l c k e)⟩
theorem fx_ui {x : Int32} (g : fx S L h0 h) (e : S c k = true) : fx S L h0 (xh_ui h c k x) := by
  refine ⟨g.1, g.2.1, fun c' k' e' => ?_, g.2.2.2⟩
  rw [gx_i, g.2.2.1 c' k' e']
  rintro ⟨rfl, rfl⟩
  rw [e] at e'
  cases e'
theorem gl_s {x : Int64} : xg 0 (xh_ul h c k x).2.2.1 c k = x := xh_up_s
theorem gl_k {x : Int64} {k' : Nat} (e : k' ≠ k) : xg 0 (xh_ul h c k x).2.2.1 c k' = xg 0 h.2.2.1 c k' := xh_up_k e
theorem gl_o {x : Int64} {c' k' : Nat} (e : c' ≠ c) : xg 0 (xh_ul h c k x).2.2.1 c' k' = xg 0 h.2.2.1 c' k' := congrFun (xh_up_o e) k'
theorem gl_i {x : Int64} {c' k' : Nat} (e : ¬ (c' = c ∧ k' = k)) : xg 0 (xh_ul h c k x).2.2.1 c' k' = xg 0 h.2.2.1 c' k' := by
  by_cases e1 : c' = c
  · subst e1
    exact gl_k (fun z => e ⟨rfl, z⟩)
  · exact gl_o e1
theorem fx_ul {x : Int64} (g : fx S L h0 h) (e : L c k = true) : fx S L h0 (xh_ul h c k x) := by
  refine ⟨g.1, g.2.1, g.2.2.1, fun c' k' e' => ?_⟩
  rw [gl_i, g.2.2.2 c' k' e']
  rintro ⟨rfl, rfl⟩
  rw [e] at e'
  cases e'
theorem fx_q (g : fx S L h h') (hq : a_rq tb h) : a_rq tb h' := by
  refine ⟨by rw [g.1]; exact hq.1, fun c s hs => by rw [g.1]; exact hq.2.1 c s hs, fun c k ci t h1 h2 => ?_⟩
  rw [g.2.1]
  exact hq.2.2 c k ci t h1 h2
/-! comparisons of numbers -/
variable {a b : Nat}
theorem nq_ltt (ha : a < 2 ^ 31) (hb : b < 2 ^ 31) (z : xe_c .lt (nI a) (nI b) = true) : a < b := by
  have := a_ce z
  rw [nI_toInt ha, nI_toInt hb] at this
  omega
theorem nq_ltf (ha : a < 2 ^ 31) (hb : b < 2 ^ 31) (z : xe_c .lt (nI a) (nI b) = false) : a ≥ b := by
  have := a_ce (a_neg_ok z)
  dsimp only [a_neg] at this
  rw [nI_toInt ha, nI_toInt hb] at this
  omega
theorem nq_get (ha : a < 2 ^ 31) (hb : b < 2 ^ 31) (z : xe_c .ge (nI a) (nI b) = true) : a ≥ b := by
  have := a_ce z
  dsimp only at this
  rw [nI_toInt ha, nI_toInt hb] at this
  omega
theorem nq_gef (ha : a < 2 ^ 31) (hb : b < 2 ^ 31) (z : xe_c .ge (nI a) (nI b) = false) : a < b := by
  have := a_ce (a_neg_ok z)
  dsimp only [a_neg] at this
  rw [nI_toInt ha, nI_toInt hb] at this
  omega
theorem nq_gtt (ha : a < 2 ^ 31) (hb : b < 2 ^ 31) (z : xe_c .gt (nI a) (nI b) = true) : a > b := by
  have := a_ce z
  dsimp only at this
  rw [nI_toInt ha, nI_toInt hb] at this
  omega
theorem nq_gtf (ha : a < 2 ^ 31) (hb : b < 2 ^ 31) (z : xe_c .gt (nI a) (nI b) = false) : a ≤ b := by
  have := a_ce (a_neg_ok z)
  dsimp only [a_neg] at this
  rw [nI_toInt ha, nI_toInt hb] at this
  omega
theorem nq_let (ha : a < 2 ^ 31) (hb : b < 2 ^ 31) (z : xe_c .le (nI a) (nI b) = true) : a ≤ b := by
  have := a_ce z
  dsimp only at this
  rw [nI_toInt ha, nI_toInt hb] at this
  omega
theorem nq_lef (ha : a < 2 ^ 31) (hb : b < 2 ^ 31) (z : xe_c .le (nI a) (nI b) = false) : a > b := by
  have := a_ce (a_neg_ok z)
  dsimp only [a_neg] at this
  rw [nI_toInt ha, nI_toInt hb] at this
  omega
theorem nq_eqt (ha : a < 2 ^ 31) (hb : b < 2 ^ 31) (z : xe_c .eq (nI a) (nI b) = true) : a = b := (nI_eq ha hb).mp (of_decide_eq_true z)
theorem nq_eqf (ha : a < 2 ^ 31) (hb : b < 2 ^ 31) (z : xe_c .eq (nI a) (nI b) = false) : a ≠ b := fun e => of_decide_eq_false z (by rw [e])
theorem nq_net (ha : a < 2 ^ 31) (hb : b < 2 ^ 31) (z : xe_c .ne (nI a) (nI b) = true) : a ≠ b := fun e => xne_i z (by rw [e])
theorem nq_nef (ha : a < 2 ^ 31) (hb : b < 2 ^ 31) (z : xe_c .ne (nI a) (nI b) = false) : a = b := (nI_eq ha hb).mp (xne_j z)
theorem xc_ne {x y : Int32} : xe_c .ne x y = !(xe_c .eq x y) := rfl
theorem xc_eq {x y : Int32} : xe_c .eq x y = !(xe_c .ne x y) := by
  show decide (x = y) = !(!decide (x = y))
  rw [Bool.not_not]
theorem i64_inj {a b : Nat} (ha : a < 9223372036854775808) (hb : b < 9223372036854775808) (h : Int64.ofNat a = Int64.ofNat b) : a = b := by
  have e := congrArg Int64.toInt h
  rw [Int64.toInt_ofNat_of_lt ha, Int64.toInt_ofNat_of_lt hb] at e
  omega
end XFX
end
section
section XTX
/-! the tokens of a text, as pure functions of its bytes T and how many there are, n -/
def p_bk (c : Nat) : Bool := decide (c = 32 ∨ c = 10)
def p_lt (c : Nat) : Bool := decide (97 ≤ c ∧ c ≤ 122)
def p_dg (c : Nat) : Bool := decide (48 ≤ c ∧ c ≤ 57)
def p_an (c : Nat) : Bool := decide ((97 ≤ c ∧ c ≤ 122) ∨ (48 ≤ c ∧ c ≤ 57))
def p_sn (c : Nat) : Bool := decide (c = 59 ∨ c = 58 ∨ c = 42 ∨ c = 40 ∨ c = 41 ∨ c = 91 ∨ c = 93)
/-- the first place from p on where g does not hold, F places on at most -/
def skp (g : Nat → Bool) : Nat → Nat → Nat
  | 0, p => p
  | F + 1, p => cond (g p) (skp g F (p + 1)) p
theorem skp_ge {g : Nat → Bool} : ∀ {F p : Nat}, p ≤ skp g F p := by
  intro F
  induction F with
  | zero => intro p; exact Nat.le_refl _
  | succ F ih =>
    intro p
    unfold skp
    cases g p
    · exact Nat.le_refl _
    · have := ih (p := p + 1)
      show p ≤ skp g F (p + 1)
      omega
theorem skp_le {g : Nat → Bool} : ∀ {F p : Nat}, skp g F p ≤ p + F := by
  intro F
  induction F with
  | zero => intro p; exact Nat.le_refl _
  | succ F ih =>
    intro p
    unfold skp
    cases g p
    · show p ≤ p + (F + 1); omega
    · have := ih (p := p + 1)
      show skp g F (p + 1) ≤ p + (F + 1)
      omega
theorem skp_eq {g : Nat → Bool} : ∀ {m F p : Nat}, (∀ k, p ≤ k → k < p + m → g k = true) → m ≤ F → (m = F ∨ g (p + m) = false) → skp g F p = p + m := by
  intro m
  induction m with
  | zero =>
    intro F p _ _ h3
    cases F with
    | zero => rfl
    | succ F =>
      rcases h3 with h3 | h3
      · omega
      · unfold skp
        rw [show g p = false from h3]
        rfl
  | succ m ih =>
    intro F p h1 h2 h3
    cases F with
    | zero => omega
    | succ F =>
      unfold skp
      rw [h1 p (Nat.le_refl _) (by omega)]
      show skp g F (p + 1) = p + (m + 1)
      rw [ih (fun k z1 z2 => h1 k (by omega) (by omega)) (by omega) (by
        rcases h3 with h3 | h3
        · exact Or.inl (by omega)
        · exact Or.inr (by rw [show p + 1 + m = p + (m + 1) by omega]; exact h3))]
      omega
theorem skp_in {g : Nat → Bool} : ∀ {F p k : Nat}, p ≤ k → k < skp g F p → g k = true := by
  intro F
  induction F with
  | zero => intro p k h1 h2; have h2 : k < p := h2; omega
  | succ F ih =>
    intro p k h1 h2
    unfold skp at h2
    cases hg : g p with
    | false => rw [hg] at h2; have h2 : k < p := h2; omega
    | true =>
      rw [hg] at h2
      by_cases e : k = p
      · subst e; exact hg
      · exact ih (p := p + 1) (by omega) h2
theorem skp_at {g : Nat → Bool} : ∀ {F p : Nat}, skp g F p < p + F → g (skp g F p) = false := by
  intro F
  induction F with
  | zero => intro p h; have h : p < p + 0 := h; omega
  | succ F ih =>
    intro p h
    unfold skp at h ⊢
    cases hg : g p with
    | false => exact hg
    | true =>
      rw [hg] at h
      exact ih (p := p + 1) (by have h : skp g F (p + 1) < p + (F + 1) := h; omega)
variable (T : Nat → Nat) (n : Nat)
def cL (q : Nat) : Nat → Nat
  | 0 => 0
  | m + 1 => cL q m + cond (p_lt (T (q + m))) 1 0
def cD (q : Nat) : Nat → Nat
  | 0 => 0
  | m + 1 => cD q m + cond (p_dg (T (q + m))) 1 0
/-- a number's value, by its first three digits -/
def vf (q : Nat) : Nat → Nat
  | 0 => 0
  | m + 1 => cond (p_dg (T (q + m)) && Nat.ble (cD T q (m + 1)) 3) (vf q m * 10 + (T (q + m) - 48)) (vf q m)
/-- a word's value, letters as digits 1 to 26 -/
def wv (q : Nat) : Nat → Nat
  | 0 => 0
  | m + 1 => 27 * wv q m + (T (q + m) - 96)
/-- the end of a run of letters and digits -/
def rn (q : Nat) : Nat := skp (fun k => p_an (T k)) (n - q) q
def kw (l d : Nat) : Nat := if d = 0 ∧ l ≤ 8 then 2 else if l = 0 ∧ d ≤ 3 then 3 else 1
/-- where the token begins that is read from p on; its kind; its end -/
def tks (p : Nat) : Nat := min (skp (fun k => p_bk (T k)) (n - p) p) (min n 600)
def kq (q : Nat) : Nat := if min n 600 ≤ q then 0 else if p_an (T q) = true then kw (cL T q (rn T n q - q)) (cD T q (rn T n q - q)) else if p_sn (T q) = true then T q else 1
def eq_ (q : Nat) : Nat := if p_an (T q) = true then rn T n q else q + 1
def tkk (p : Nat) : Nat := kq T n (tks T n p)
def tke (p : Nat) : Nat := eq_ T n (tks T n p)
/-- a number's value; a word's -/
def tkn (p : Nat) : Nat := vf T (tks T n p) (tke T n p - tks T n p)
def tkw (p : Nat) : Nat := wv T (tks T n p) (tke T n p - tks T n p)
variable {T : Nat → Nat} {n : Nat}
theorem tks_b {p : Nat} (hp : p < n) (hb : p_bk (T p) = true) : tks T n p = tks T n (p + 1) := by
  unfold tks
  obtain ⟨F, e⟩ : ∃ F, n - p = F + 1 := ⟨n - p - 1, by omega⟩
  rw [e, show n - (p + 1) = F by omega, skp, hb]
  rfl
theorem tks_n {p : Nat} (hp : min n 600 ≤ p) : tks T n p = min n 600 := by
  unfold tks
  have := skp_ge (g := fun k => p_bk (T k)) (F := n - p) (p := p)
  omega
theorem tks_s {p : Nat} (hp : p < min n 600) (hb : p_bk (T p) = false) : tks T n p = p := by
  unfold tks
  rw [skp_eq (g := fun k => p_bk (T k)) (m := 0) (p := p) (fun k z1 z2 => by omega) (Nat.zero_le _) (Or.inr hb)]
  omega
theorem tks_le {p : Nat} : tks T n p ≤ min n 600 := by
  unfold tks
  omega
theorem tks_ge {p : Nat} (hp : p ≤ min n 600) : p ≤ tks T n p := by
  unfold tks
  have := skp_ge (g := fun k => p_bk (T k)) (F := n - p) (p := p)
  omega
theorem rn_le {q : Nat} (hq : q ≤ n) : rn T n q ≤ n := by
  unfold rn
  have := skp_le (g := fun k => p_an (T k)) (F := n - q) (p := q)
  omega
theorem rn_ge {q : Nat} : q ≤ rn T n q := skp_ge
theorem rn_gt {q : Nat} (hq : q < n) (h : p_an (T q) = true) : q < rn T n q := by
  unfold rn
  obtain ⟨F, e⟩ : ∃ F, n - q = F + 1 := ⟨n - q - 1, by omega⟩
  rw [e, skp, h]
  have := skp_ge (g := fun k => p_an (T k)) (F := F) (p := q + 1)
  show q < skp _ F (q + 1)
  omega
theorem rn_eq {q m : Nat} (h1 : ∀ k, q ≤ k → k < q + m → p_an (T k) = true) (h2 : q + m ≤ n) (h3 : q + m = n ∨ p_an (T (q + m)) = false) : rn T n q = q + m := skp_eq h1 (by omega) (by
  rcases h3 with h3 | h3
  · exact Or.inl (by omega)
  · exact Or.inr h3)
theorem cLD {q : Nat} : ∀ {m : Nat}, (∀ k, q ≤ k → k < q + m → p_an (T k) = true) → cL T q m + cD T q m = m := by
  intro m
  induction m with
  | zero => intro _; rfl
  | succ m ih =>
    intro h
    have e := ih (fun k z1 z2 => h k z1 (by omega))
    have g := h (q + m) (by omega) (by omega)
    unfold p_an at g
    have g := of_decide_eq_true g
    unfold cL cD
    rcases g with g | g
    · rw [show p_lt (T (q + m)) = true from decide_eq_true g, show p_dg (T (q + m)) = false from decide_eq_false (by omega)]
      dsimp only [cond]
      omega
    · rw [show p_dg (T (q + m)) = true from decide_eq_true g, show p_lt (T (q + m)) = false from decide_eq_false (by omega)]
      dsimp only [cond]
      omega
theorem vf_lt {q : Nat} : ∀ {m : Nat}, vf T q m < 10 ^ min (cD T q m) 3 := by
  intro m
  induction m with
  | zero => show 0 < 10 ^ min 0 3; decide
  | succ m ih =>
    unfold vf
    have e : cD T q (m + 1) = cD T q m + cond (p_dg (T (q + m))) 1 0 := rfl
    cases hd : p_dg (T (q + m)) with
    | false =>
      rw [hd] at e
      rw [e]
      exact ih
    | true =>
      rw [hd] at e
      have e : cD T q (m + 1) = cD T q m + 1 := e
      cases hb : Nat.ble (cD T q (m + 1)) 3 with
      | false =>
        have hb : ¬ cD T q (m + 1) ≤ 3 := fun z => by rw [Nat.ble_eq.mpr z] at hb; cases hb
        show vf T q m < _
        rw [show min (cD T q (m + 1)) 3 = min (cD T q m) 3 by omega]
        exact ih
      | true =>
        have hb := Nat.ble_eq.mp hb
        show vf T q m * 10 + (T (q + m) - 48) < _
        have g := of_decide_eq_true hd
        rw [show min (cD T q (m + 1)) 3 = min (cD T q m) 3 + 1 by omega, Nat.pow_succ]
        omega
theorem vf_999 {q m : Nat} : vf T q m ≤ 999 := by
  have h1 := vf_lt (T := T) (q := q) (m := m)
  have h2 : 10 ^ min (cD T q m) 3 ≤ 10 ^ 3 := Nat.pow_le_pow_right (by decide) (by omega)
  have h3 : (10 : Nat) ^ 3 = 1000 := rfl
  omega
end XTX
end
section
section XSC
set_option maxRecDepth 100000 in
set_option maxHeartbeats 4000000 in
theorem bk_q {f c : Nat} {h : xh_H} (hc : c < 256) (hq : a_rq a_tb h) : xq f xi_X6_isBlank xmi_X6_isBlank 0 [(0, .int (nI c))] [] h (fun v h' => h = h' ∧ v = some (.int (bl (p_bk c)))) := by
  cases c1 : xe_c .eq (nI c) 32 with
  | true =>
    have z1 : c = 32 := nq_eqt (a := c) (b := 32) (by omega) (by omega) c1
    refine xq_n 17 [] [] [.int (Int32.ofInt 1)] h [true] 7 hq rfl ⟨c1, trivial⟩ (fun hq => ?_)
    exact xq_ret rfl rfl rfl ⟨rfl, by rw [show p_bk c = true from decide_eq_true (by omega)]; rfl⟩
  | false =>
    have z1 : c ≠ 32 := nq_eqf (a := c) (b := 32) (by omega) (by omega) c1
    cases c2 : xe_c .ne (nI c) 10 with
    | true =>
      have z2 : c ≠ 10 := nq_net (a := c) (b := 10) (by omega) (by omega) c2
      refine xq_n 17 [] [] [.int (Int32.ofInt 0)] h [false, true] 9 hq rfl ⟨c1, c2, trivial⟩ (fun hq => ?_)
      exact xq_ret rfl rfl rfl ⟨rfl, by rw [show p_bk c = false from decide_eq_false (by omega)]; rfl⟩
    | false =>
      have z2 : c = 10 := nq_nef (a := c) (b := 10) (by omega) (by omega) c2
      refine xq_n 17 [] [] [.int (Int32.ofInt 1)] h [false, false] 10 hq rfl ⟨c1, c2, trivial⟩ (fun hq => ?_)
      exact xq_ret rfl rfl rfl ⟨rfl, by rw [show p_bk c = true from decide_eq_true (by omega)]; rfl⟩
set_option maxRecDepth 100000 in
set_option maxHeartbeats 4000000 in
theorem lt_q {f c : Nat} {h : xh_H} (hc : c < 256) (hq : a_rq a_tb h) : xq f xi_X6_isLetter xmi_X6_isLetter 0 [(0, .int (nI c))] [] h (fun v h' => h = h' ∧ v = some (.int (bl (p_lt c)))) := by
  cases c1 : xe_c .lt (nI c) 97 with
  | true =>
    have z1 : c < 97 := nq_ltt (a := c) (b := 97) (by omega) (by omega) c1
    refine xq_n 17 [] [] [.int (Int32.ofInt 0)] h [true] 6 hq rfl ⟨c1, trivial⟩ (fun hq => ?_)
    exact xq_ret rfl rfl rfl ⟨rfl, by rw [show p_lt c = false from decide_eq_false (by omega)]; rfl⟩
  | false =>
    have z1 : c ≥ 97 := nq_ltf (a := c) (b := 97) (by omega) (by omega) c1
    cases c2 : xe_c .gt (nI c) 122 with
    | true =>
      have z2 : c > 122 := nq_gtt (a := c) (b := 122) (by omega) (by omega) c2
      refine xq_n 17 [] [] [.int (Int32.ofInt 0)] h [false, true] 9 hq rfl ⟨c1, c2, trivial⟩ (fun hq => ?_)
      exact xq_ret rfl rfl rfl ⟨rfl, by rw [show p_lt c = false from decide_eq_false (by omega)]; rfl⟩
    | false =>
      have z2 : c ≤ 122 := nq_gtf (a := c) (b := 122) (by omega) (by omega) c2
      refine xq_n 17 [] [] [.int (Int32.ofInt 1)] h [false, false] 10 hq rfl ⟨c1, c2, trivial⟩ (fun hq => ?_)
      exact xq_ret rfl rfl rfl ⟨rfl, by rw [show p_lt c = true from decide_eq_true (by omega)]; rfl⟩
set_option maxRecDepth 100000 in
set_option maxHeartbeats 4000000 in
theorem dg_q {f c : Nat} {h : xh_H} (hc : c < 256) (hq : a_rq a_tb h) : xq f xi_X6_isDigit xmi_X6_isDigit 0 [(0, .int (nI c))] [] h (fun v h' => h = h' ∧ v = some (.int (bl (p_dg c)))) := by
  cases c1 : xe_c .lt (nI c) 48 with
  | true =>
    have z1 : c < 48 := nq_ltt (a := c) (b := 48) (by omega) (by omega) c1
    refine xq_n 17 [] [] [.int (Int32.ofInt 0)] h [true] 6 hq rfl ⟨c1, trivial⟩ (fun hq => ?_)
    exact xq_ret rfl rfl rfl ⟨rfl, by rw [show p_dg c = false from decide_eq_false (by omega)]; rfl⟩
  | false =>
    have z1 : c ≥ 48 := nq_ltf (a := c) (b := 48) (by omega) (by omega) c1
    cases c2 : xe_c .gt (nI c) 57 with
    | true =>
      have z2 : c > 57 := nq_gtt (a := c) (b := 57) (by omega) (by omega) c2
      refine xq_n 17 [] [] [.int (Int32.ofInt 0)] h [false, true] 9 hq rfl ⟨c1, c2, trivial⟩ (fun hq => ?_)
      exact xq_ret rfl rfl rfl ⟨rfl, by rw [show p_dg c = false from decide_eq_false (by omega)]; rfl⟩
    | false =>
      have z2 : c ≤ 57 := nq_gtf (a := c) (b := 57) (by omega) (by omega) c2
      refine xq_n 17 [] [] [.int (Int32.ofInt 1)] h [false, false] 10 hq rfl ⟨c1, c2, trivial⟩ (fun hq => ?_)
      exact xq_ret rfl rfl rfl ⟨rfl, by rw [show p_dg c = true from decide_eq_true (by omega)]; rfl⟩
set_option maxRecDepth 100000 in
set_option maxHeartbeats 4000000 in
theorem sn_q {f c : Nat} {h : xh_H} (hc : c < 256) (hq : a_rq a_tb h) : xq f xi_X6_isSign xmi_X6_isSign 0 [(0, .int (nI c))] [] h (fun v h' => h = h' ∧ v = some (.int (bl (p_sn c)))) := by
  cases c1 : xe_c .eq (nI c) 59 with
  | true =>
    have z1 : c = 59 := nq_eqt (a := c) (b := 59) (by omega) (by omega) c1
    refine xq_n 47 [] [] [.int (Int32.ofInt 1)] h [true] 7 hq rfl ⟨c1, trivial⟩ (fun hq => ?_)
    exact xq_ret rfl rfl rfl ⟨rfl, by rw [show p_sn c = true from decide_eq_true (by omega)]; rfl⟩
  | false =>
    have z1 : c ≠ 59 := nq_eqf (a := c) (b := 59) (by omega) (by omega) c1
    cases c2 : xe_c .eq (nI c) 58 with
    | true =>
      have z2 : c = 58 := nq_eqt (a := c) (b := 58) (by omega) (by omega) c2
      refine xq_n 47 [] [] [.int (Int32.ofInt 1)] h [false, true] 10 hq rfl ⟨c1, c2, trivial⟩ (fun hq => ?_)
      exact xq_ret rfl rfl rfl ⟨rfl, by rw [show p_sn c = true from decide_eq_true (by omega)]; rfl⟩
    | false =>
      have z2 : c ≠ 58 := nq_eqf (a := c) (b := 58) (by omega) (by omega) c2
      cases c3 : xe_c .eq (nI c) 42 with
      | true =>
        have z3 : c = 42 := nq_eqt (a := c) (b := 42) (by omega) (by omega) c3
        refine xq_n 47 [] [] [.int (Int32.ofInt 1)] h [false, false, true] 13 hq rfl ⟨c1, c2, c3, trivial⟩ (fun hq => ?_)
        exact xq_ret rfl rfl rfl ⟨rfl, by rw [show p_sn c = true from decide_eq_true (by omega)]; rfl⟩
      | false =>
        have z3 : c ≠ 42 := nq_eqf (a := c) (b := 42) (by omega) (by omega) c3
        cases c4 : xe_c .eq (nI c) 40 with
        | true =>
          have z4 : c = 40 := nq_eqt (a := c) (b := 40) (by omega) (by omega) c4
          refine xq_n 47 [] [] [.int (Int32.ofInt 1)] h [false, false, false, true] 16 hq rfl ⟨c1, c2, c3, c4, trivial⟩ (fun hq => ?_)
          exact xq_ret rfl rfl rfl ⟨rfl, by rw [show p_sn c = true from decide_eq_true (by omega)]; rfl⟩
        | false =>
          have z4 : c ≠ 40 := nq_eqf (a := c) (b := 40) (by omega) (by omega) c4
          cases c5 : xe_c .eq (nI c) 41 with
          | true =>
            have z5 : c = 41 := nq_eqt (a := c) (b := 41) (by omega) (by omega) c5
            refine xq_n 47 [] [] [.int (Int32.ofInt 1)] h [false, false, false, false, true] 19 hq rfl ⟨c1, c2, c3, c4, c5, trivial⟩ (fun hq => ?_)
            exact xq_ret rfl rfl rfl ⟨rfl, by rw [show p_sn c = true from decide_eq_true (by omega)]; rfl⟩
          | false =>
            have z5 : c ≠ 41 := nq_eqf (a := c) (b := 41) (by omega) (by omega) c5
            cases c6 : xe_c .eq (nI c) 91 with
            | true =>
              have z6 : c = 91 := nq_eqt (a := c) (b := 91) (by omega) (by omega) c6
              refine xq_n 47 [] [] [.int (Int32.ofInt 1)] h [false, false, false, false, false, true] 22 hq rfl ⟨c1, c2, c3, c4, c5, c6, trivial⟩ (fun hq => ?_)
              exact xq_ret rfl rfl rfl ⟨rfl, by rw [show p_sn c = true from decide_eq_true (by omega)]; rfl⟩
            | false =>
              have z6 : c ≠ 91 := nq_eqf (a := c) (b := 91) (by omega) (by omega) c6
              cases c7 : xe_c .ne (nI c) 93 with
              | true =>
                have z7 : c ≠ 93 := nq_net (a := c) (b := 93) (by omega) (by omega) c7
                refine xq_n 47 [] [] [.int (Int32.ofInt 0)] h [false, false, false, false, false, false, true] 24 hq rfl ⟨c1, c2, c3, c4, c5, c6, c7, trivial⟩ (fun hq => ?_)
                exact xq_ret rfl rfl rfl ⟨rfl, by rw [show p_sn c = false from decide_eq_false (by omega)]; rfl⟩
              | false =>
                have z7 : c = 93 := nq_nef (a := c) (b := 93) (by omega) (by omega) c7
                refine xq_n 47 [] [] [.int (Int32.ofInt 1)] h [false, false, false, false, false, false, false] 25 hq rfl ⟨c1, c2, c3, c4, c5, c6, c7, trivial⟩ (fun hq => ?_)
                exact xq_ret rfl rfl rfl ⟨rfl, by rw [show p_sn c = true from decide_eq_true (by omega)]; rfl⟩
/-- the class's tape -/
def ct (h : xh_H) (T : Nat → Nat) (n : Nat) : Prop := xg 0 h.2.1 1 1 = nI n ∧ n ≤ 640 ∧ ∀ k, k < n → T k < 256 ∧ xg 0 h.2.1 2 k &&& 255 = nI (T k)
theorem ct_f {S L : Nat → Nat → Bool} {h h' : xh_H} {T : Nat → Nat} {n : Nat} (hc : ct h T n) (g : fx S L h h') (e1 : S 1 1 = false) (e2 : ∀ k, S 2 k = false) : ct h' T n := by
  refine ⟨by rw [fx_i g e1]; exact hc.1, hc.2.1, fun k hk' => ?_⟩
  rw [fx_i g (e2 k)]
  exact hc.2.2 k hk'
set_option maxRecDepth 100000 in
set_option maxHeartbeats 4000000 in
theorem at_q {f p n : Nat} {T : Nat → Nat} {h : xh_H} (hc : ct h T n) (hp : p < n) (hq : a_rq a_tb h) : xq f xi_X8_at xmi_X8_at 0 [(0, .ref 1), (1, .int (nI p))] [] h (fun v h' => h = h' ∧ v = some (.int (nI (T p)))) := by
  have n6 := hc.2.1
  cases c1 : xe_c .lt (nI p) 0 with
  | true =>
    have z1 : p < 0 := nq_ltt (a := p) (b := 0) (by omega) (by omega) c1
    omega
  | false =>
    have z1 : p ≥ 0 := nq_ltf (a := p) (b := 0) (by omega) (by omega) c1
    cases c2 : xe_c .ge (nI p) (nI n) with
    | true =>
      have z2 : p ≥ n := nq_get (a := p) (b := n) (by omega) (by omega) c2
      omega
    | false =>
      have z2 : p < n := nq_gef (a := p) (b := n) (by omega) (by omega) c2
      refine xq_n 26 [] [] [.int ((xg 0 h.2.1 2 ((nI p).toNatClampNeg)) &&& 255)] h [false, false] 15 hq rfl ⟨c1, (show xe_c .ge (nI p) (xg 0 h.2.1 1 1) = false by rw [show (xg 0 h.2.1 1 1) = (nI n) from hc.1]; exact c2), trivial⟩ (fun hq => ?_)
      rw [show (xg 0 h.2.1 2 ((nI p).toNatClampNeg)) = xg 0 h.2.1 2 p from (by rw [show ((nI p).toNatClampNeg) = p from nI_clamp (by omega)])]
      exact xq_ret rfl rfl rfl ⟨rfl, by rw [(hc.2.2 p hp).2]⟩
/-- the scanner's fields that reading changes -/
def sS (c k : Nat) : Bool := Nat.beq c 8 && Nat.ble 2 k
theorem nI_val {v c : Nat} (hc : 48 ≤ c) : nI v * 10 + nI c - 48 = nI (v * 10 + (c - 48)) := by
  obtain ⟨j, rfl⟩ : ∃ j, c = j + 48 := ⟨c - 48, by omega⟩
  rw [show (10 : Int32) = nI 10 from rfl, show (48 : Int32) = nI 48 from rfl, ← nI_mul2, Nat.add_sub_cancel, ← nI_add j 48, ← Int32.add_assoc, Int32.add_sub_cancel, nI_add]
/-- what a run of letters and digits leaves -/
def tr_Q (h0 : xh_H) (T : Nat → Nat) (n q : Nat) (v : Option Value) (h' : xh_H) : Prop := v = none ∧ fx sS fN h0 h' ∧ xg 0 h'.2.1 8 2 = nI (rn T n q) ∧ xg 0 h'.2.1 8 3 = nI (kw (cL T q (rn T n q - q)) (cD T q (rn T n q - q))) ∧ xg 0 h'.2.1 8 4 = xg 0 h0.2.1 8 4 ∧ xg 0 h'.2.1 8 6 = nI (vf T q (rn T n q - q))
set_option maxRecDepth 100000 in
set_option maxHeartbeats 4000000 in
theorem tr_end {f n q m l dd v : Nat} {T : Nat → Nat} {h0 h : xh_H} (hq : a_rq a_tb h) (g0 : fx sS fN h0 h) (m6 : m ≤ 640) (hl : l ≤ m) (hd : dd ≤ m) (el : cL T q m = l) (ed : cD T q m = dd) (ev : vf T q m = v) (er : rn T n q = q + m) (e2 : xg 0 h.2.1 8 2 = nI (q + m)) (e4 : xg 0 h.2.1 8 4 = xg 0 h0.2.1 8 4) (e6 : xg 0 h.2.1 8 6 = nI v) : xq f xi_X6_takeRun xmi_X6_takeRun 99 [(0, .ref 8), (1, .int (nI l)), (2, .int (nI dd))] [] h (tr_Q h0 T n q) := by
  cases c1 : xe_c .ne (nI dd) 0 with
  | true =>
    have z1 : dd ≠ 0 := nq_net (a := dd) (b := 0) (by omega) (by omega) c1
    cases c2 : xe_c .ne (nI l) 0 with
    | true =>
      have z2 : l ≠ 0 := nq_net (a := l) (b := 0) (by omega) (by omega) c2
      refine xq_n 136 [] [] [] (xh_ui h 8 3 (Int32.ofInt 1)) [true, true] 9 hq rfl ⟨c1, c2, trivial⟩ (fun _ => ?_)
      have hq : a_rq a_tb (xh_ui h 8 3 (Int32.ofInt 1)) := a_rq_ui hq
      have ek : kw l dd = 1 := by unfold kw; rw [if_neg (by omega), if_neg (by omega)]
      exact xq_ret rfl rfl rfl ⟨rfl, fx_ui (g0) rfl, by rw [er, gx_k (by decide), e2], by rw [er, Nat.add_sub_cancel_left, el, ed, ek, gx_s]; rfl, by rw [gx_k (by decide)]; exact e4, by rw [er, Nat.add_sub_cancel_left, ev, gx_k (by decide), e6]⟩
    | false =>
      have z2 : l = 0 := nq_nef (a := l) (b := 0) (by omega) (by omega) c2
      cases c3 : xe_c .gt (nI dd) (Int32.ofInt 3) with
      | true =>
        have z3 : dd > 3 := nq_gtt (a := dd) (b := 3) (by omega) (by omega) c3
        refine xq_n 136 [] [] [] (xh_ui h 8 3 (Int32.ofInt 1)) [true, false, true] 12 hq rfl ⟨c1, c2, c3, trivial⟩ (fun _ => ?_)
        have hq : a_rq a_tb (xh_ui h 8 3 (Int32.ofInt 1)) := a_rq_ui hq
        have ek : kw l dd = 1 := by unfold kw; rw [if_neg (by omega), if_neg (by omega)]
        exact xq_ret rfl rfl rfl ⟨rfl, fx_ui (g0) rfl, by rw [er, gx_k (by decide), e2], by rw [er, Nat.add_sub_cancel_left, el, ed, ek, gx_s]; rfl, by rw [gx_k (by decide)]; exact e4, by rw [er, Nat.add_sub_cancel_left, ev, gx_k (by decide), e6]⟩
      | false =>
        have z3 : dd ≤ 3 := nq_gtf (a := dd) (b := 3) (by omega) (by omega) c3
        refine xq_n 136 [] [] [] (xh_ui (xh_ui h 8 3 (Int32.ofInt 1)) 8 3 (Int32.ofInt 3)) [true, false, false] 15 hq rfl ⟨c1, c2, c3, trivial⟩ (fun _ => ?_)
        have hq : a_rq a_tb (xh_ui (xh_ui h 8 3 (Int32.ofInt 1)) 8 3 (Int32.ofInt 3)) := a_rq_ui (a_rq_ui hq)
        have ek : kw l dd = 3 := by unfold kw; rw [if_neg (by omega), if_pos (by omega)]
        exact xq_ret rfl rfl rfl ⟨rfl, fx_ui (fx_ui (g0) rfl) rfl, by rw [er, gx_k (by decide), gx_k (by decide), e2], by rw [er, Nat.add_sub_cancel_left, el, ed, ek, gx_s]; rfl, by rw [gx_k (by decide), gx_k (by decide)]; exact e4, by rw [er, Nat.add_sub_cancel_left, ev, gx_k (by decide), gx_k (by decide), e6]⟩
  | false =>
    have z1 : dd = 0 := nq_nef (a := dd) (b := 0) (by omega) (by omega) c1
    cases c4 : xe_c .gt (nI l) 8 with
    | true =>
      have z4 : l > 8 := nq_gtt (a := l) (b := 8) (by omega) (by omega) c4
      cases c5 : xe_c .ne (nI l) 0 with
      | true =>
        have z5 : l ≠ 0 := nq_net (a := l) (b := 0) (by omega) (by omega) c5
        refine xq_n 136 [] [] [] (xh_ui h 8 3 (Int32.ofInt 1)) [false, true, true] 12 hq rfl ⟨c1, c4, c5, trivial⟩ (fun _ => ?_)
        have hq : a_rq a_tb (xh_ui h 8 3 (Int32.ofInt 1)) := a_rq_ui hq
        have ek : kw l dd = 1 := by unfold kw; rw [if_neg (by omega), if_neg (by omega)]
        exact xq_ret rfl rfl rfl ⟨rfl, fx_ui (g0) rfl, by rw [er, gx_k (by decide), e2], by rw [er, Nat.add_sub_cancel_left, el, ed, ek, gx_s]; rfl, by rw [gx_k (by decide)]; exact e4, by rw [er, Nat.add_sub_cancel_left, ev, gx_k (by decide), e6]⟩
      | false =>
        have z5 : l = 0 := nq_nef (a := l) (b := 0) (by omega) (by omega) c5
        refine xq_n 136 [] [] [] (xh_ui (xh_ui h 8 3 (Int32.ofInt 1)) 8 3 (Int32.ofInt 3)) [false, true, false, false] 18 hq rfl ⟨c1, c4, c5, (show xe_c .gt (nI dd) (Int32.ofInt 3) = false by rw [z1]; rfl), trivial⟩ (fun _ => ?_)
        have hq : a_rq a_tb (xh_ui (xh_ui h 8 3 (Int32.ofInt 1)) 8 3 (Int32.ofInt 3)) := a_rq_ui (a_rq_ui hq)
        have ek : kw l dd = 3 := by unfold kw; rw [if_neg (by omega), if_pos (by omega)]
        exact xq_ret rfl rfl rfl ⟨rfl, fx_ui (fx_ui (g0) rfl) rfl, by rw [er, gx_k (by decide), gx_k (by decide), e2], by rw [er, Nat.add_sub_cancel_left, el, ed, ek, gx_s]; rfl, by rw [gx_k (by decide), gx_k (by decide)]; exact e4, by rw [er, Nat.add_sub_cancel_left, ev, gx_k (by decide), gx_k (by decide), e6]⟩
    | false =>
      have z4 : l ≤ 8 := nq_gtf (a := l) (b := 8) (by omega) (by omega) c4
      refine xq_n 136 [] [] [] (xh_ui (xh_ui h 8 3 (Int32.ofInt 1)) 8 3 (Int32.ofInt 2)) [false, false] 14 hq rfl ⟨c1, c4, trivial⟩ (fun _ => ?_)
      have hq : a_rq a_tb (xh_ui (xh_ui h 8 3 (Int32.ofInt 1)) 8 3 (Int32.ofInt 2)) := a_rq_ui (a_rq_ui hq)
      have ek : kw l dd = 2 := by unfold kw; rw [if_pos (by omega)]
      exact xq_ret rfl rfl rfl ⟨rfl, fx_ui (fx_ui (g0) rfl) rfl, by rw [er, gx_k (by decide), gx_k (by decide), e2], by rw [er, Nat.add_sub_cancel_left, el, ed, ek, gx_s]; rfl, by rw [gx_k (by decide), gx_k (by decide)]; exact e4, by rw [er, Nat.add_sub_cancel_left, ev, gx_k (by decide), gx_k (by decide), e6]⟩
set_option maxRecDepth 100000 in
set_option maxHeartbeats 4000000 in
theorem tr_lp {n q : Nat} {T : Nat → Nat} {h0 : xh_H} (hT : ∀ k, k < n → T k < 256) : ∀ (f m l dd v : Nat) (h : xh_H), a_rq a_tb h → fx sS fN h0 h → q + m ≤ n → l ≤ m → dd ≤ m → cL T q m = l → cD T q m = dd → vf T q m = v → (∀ k, q ≤ k → k < q + m → p_an (T k) = true) → xg 0 h.2.1 8 2 = nI (q + m) → xg 0 h.2.1 8 4 = xg 0 h0.2.1 8 4 → xg 0 h.2.1 8 6 = nI v → ct h T n → xq f xi_X6_takeRun xmi_X6_takeRun 9 [(0, .ref 8), (1, .int (nI l)), (2, .int (nI dd))] [] h (tr_Q h0 T n q) := by
  intro f
  induction f with
  | zero => intros; exact xq_0
  | succ f ih =>
    intro m l dd v h hq g0 hm hl hd el ed ev ha e2 e4 e6 hc
    have n6 := hc.2.1
    have hv9 : v ≤ 999 := ev ▸ vf_999
    cases c1 : xe_c .ge (nI (q + m)) (nI n) with
    | true =>
      have z1 : (q + m) ≥ n := nq_get (a := (q + m)) (b := n) (by omega) (by omega) c1
      refine xq_m 99 [0, 1, 2] [(0, .ref 8), (1, .int (nI l)), (2, .int (nI dd))] [] h [true] 8 hq rfl ⟨(show xe_c .ge (xg 0 h.2.1 8 2) (xg 0 h.2.1 1 1) = true by rw [show (xg 0 h.2.1 8 2) = (nI (q + m)) from e2, show (xg 0 h.2.1 1 1) = (nI n) from hc.1]; exact c1), trivial⟩ (fun hq => ?_)
      exact tr_end hq g0 (by omega) (by omega) (by omega) el ed ev (rn_eq ha (by omega) (Or.inl (by omega))) e2 e4 e6
    | false =>
      have z1 : (q + m) < n := nq_gef (a := (q + m)) (b := n) (by omega) (by omega) c1
      refine xq_m 31 [0, 1, 2] [(0, .ref 8), (1, .int (nI l)), (2, .int (nI dd))] [.int (xg 0 h.2.1 8 2), .ref 1] h [false] 12 hq rfl ⟨(show xe_c .ge (xg 0 h.2.1 8 2) (xg 0 h.2.1 1 1) = false by rw [show (xg 0 h.2.1 8 2) = (nI (q + m)) from e2, show (xg 0 h.2.1 1 1) = (nI n) from hc.1]; exact c1), trivial⟩ (fun hq => ?_)
      rw [show (xg 0 h.2.1 8 2) = (nI (q + m)) from e2]
      refine xq_run hq rfl rfl (at_q hc (p := (q + m)) (by omega) hq) ?_
      rintro v2 h_v2 ⟨rfl, rfl⟩
      have tv2 := hT (q + m) (by omega)
      refine xq_n 36 [0, 1, 2, 3] [(0, .ref 8), (1, .int (nI l)), (2, .int (nI dd)), (3, .int (nI (T (q + m))))] [.int (nI (T (q + m)))] h [] 4 hq rfl trivial (fun hq => ?_)
      refine xq_run hq rfl rfl (lt_q (c := T (q + m)) (hT _ (by omega)) hq) ?_
      rintro v3 h_v3 ⟨rfl, rfl⟩
      cases b4 : (p_lt (T (q + m))) with
      | true =>
        refine xq_n 9 [0, 1, 2] [(0, .ref 8), (1, .int ((nI l) + Int32.ofInt 1)), (2, .int (nI dd))] [] (xh_ui h 8 2 ((xg 0 h.2.1 8 2) + (Int32.ofInt 1))) [false] 12 hq rfl ⟨rfl, trivial⟩ (fun _ => ?_)
        rw [show (xg 0 h.2.1 8 2) = (nI (q + m)) from e2]
        rw [show ((nI l) + Int32.ofInt 1) = nI (l + 1) from nI_1 _]
        rw [show ((nI (q + m)) + (Int32.ofInt 1)) = nI (q + m + 1) from nI_1 _]
        have hq : a_rq a_tb (xh_ui h 8 2 (nI (q + m + 1))) := a_rq_ui hq
        have hlt : p_lt (T (q + m)) = true := by assumption
        have hdg : p_dg (T (q + m)) = false := by have z := of_decide_eq_true hlt; exact decide_eq_false (by omega)
        have hcl : cL T q (m + 1) = l + 1 := by show cL T q m + cond (p_lt (T (q + m))) 1 0 = _; rw [hlt, el]; rfl
        have hcd : cD T q (m + 1) = dd := by show cD T q m + cond (p_dg (T (q + m))) 1 0 = _; rw [hdg, ed]; rfl
        refine ih (m + 1) (l + 1) dd v _ hq (fx_ui (g0) rfl) (by omega) (by omega) (by omega) hcl hcd (by show cond (p_dg (T (q + m)) && Nat.ble (cD T q (m + 1)) 3) _ _ = _; rw [hdg]; exact ev) ?_ (by rw [show q + (m + 1) = q + m + 1 from rfl]; exact gx_s) (by rw [gx_k (by decide)]; exact e4) ((gx_k (by decide)).trans (e6)) (ct_f (S := sS) (L := fN) hc (fx_ui (fx_0) rfl) rfl (fun _ => rfl))
        intro k z1 z2
        by_cases ek : k = q + m
        · rw [ek]; have z := of_decide_eq_true hlt; exact decide_eq_true (by omega)
        · exact ha k z1 (by omega)
      | false =>
        refine xq_n 49 [0, 1, 2, 3] [(0, .ref 8), (1, .int (nI l)), (2, .int (nI dd)), (3, .int (nI (T (q + m))))] [.int (nI (T (q + m)))] h [true] 4 hq rfl ⟨rfl, trivial⟩ (fun hq => ?_)
        refine xq_run hq rfl rfl (dg_q (c := T (q + m)) (hT _ (by omega)) hq) ?_
        rintro v5 h_v5 ⟨rfl, rfl⟩
        cases b6 : (p_dg (T (q + m))) with
        | true =>
          cases c7 : xe_c .gt (nI (dd + 1)) (Int32.ofInt 3) with
          | true =>
            have z7 : (dd + 1) > 3 := nq_gtt (a := (dd + 1)) (b := 3) (by omega) (by omega) c7
            refine xq_n 9 [0, 1, 2] [(0, .ref 8), (1, .int (nI l)), (2, .int ((nI dd) + Int32.ofInt 1))] [] (xh_ui (xh_ui h 8 6 (xg 0 h.2.1 8 6)) 8 2 ((xg 0 (xh_ui h 8 6 (xg 0 h.2.1 8 6)).2.1 8 2) + (Int32.ofInt 1))) [false, true] 18 hq rfl ⟨rfl, (show xe_c .gt ((nI dd) + Int32.ofInt 1) (Int32.ofInt 3) = true by rw [show ((nI dd) + Int32.ofInt 1) = nI (dd + 1) from nI_1 _]; exact c7), trivial⟩ (fun _ => ?_)
            rw [show (xg 0 (xh_ui h 8 6 (xg 0 h.2.1 8 6)).2.1 8 2) = (nI (q + m)) from (gx_k (by decide)).trans (e2)]
            rw [show (xg 0 h.2.1 8 6) = (nI v) from e6]
            rw [show ((nI dd) + Int32.ofInt 1) = nI (dd + 1) from nI_1 _]
            rw [show ((nI (q + m)) + (Int32.ofInt 1)) = nI (q + m + 1) from nI_1 _]
            have hq : a_rq a_tb (xh_ui (xh_ui h 8 6 (nI v)) 8 2 (nI (q + m + 1))) := a_rq_ui (a_rq_ui hq)
            have hlt : p_lt (T (q + m)) = false := by assumption
            have hdg : p_dg (T (q + m)) = true := by assumption
            have hcl : cL T q (m + 1) = l := by show cL T q m + cond (p_lt (T (q + m))) 1 0 = _; rw [hlt, el]; rfl
            have hcd : cD T q (m + 1) = dd + 1 := by show cD T q m + cond (p_dg (T (q + m))) 1 0 = _; rw [hdg, ed]; rfl
            refine ih (m + 1) l (dd + 1) v _ hq (fx_ui (fx_ui (g0) rfl) rfl) (by omega) (by omega) (by omega) hcl hcd (by show cond (p_dg (T (q + m)) && Nat.ble (cD T q (m + 1)) 3) _ _ = _; rw [hdg, hcd, show Nat.ble (dd + 1) 3 = false from by rw [Bool.eq_false_iff]; intro z; have := Nat.ble_eq.mp z; omega]; exact ev) ?_ (by rw [show q + (m + 1) = q + m + 1 from rfl]; exact gx_s) (by rw [gx_k (by decide), gx_k (by decide)]; exact e4) ((gx_k (by decide)).trans (gx_s)) (ct_f (S := sS) (L := fN) hc (fx_ui (fx_ui (fx_0) rfl) rfl) rfl (fun _ => rfl))
            intro k z1 z2
            by_cases ek : k = q + m
            · rw [ek]; have z := of_decide_eq_true hdg; exact decide_eq_true (by omega)
            · exact ha k z1 (by omega)
          | false =>
            have z7 : (dd + 1) ≤ 3 := nq_gtf (a := (dd + 1)) (b := 3) (by omega) (by omega) c7
            refine xq_n 9 [0, 1, 2] [(0, .ref 8), (1, .int (nI l)), (2, .int ((nI dd) + Int32.ofInt 1))] [] (xh_ui (xh_ui h 8 6 ((((xg 0 h.2.1 8 6) * 10) + (nI (T (q + m)))) - 48)) 8 2 ((xg 0 (xh_ui h 8 6 ((((xg 0 h.2.1 8 6) * 10) + (nI (T (q + m)))) - 48)).2.1 8 2) + (Int32.ofInt 1))) [false, false] 25 hq rfl ⟨rfl, (show xe_c .gt ((nI dd) + Int32.ofInt 1) (Int32.ofInt 3) = false by rw [show ((nI dd) + Int32.ofInt 1) = nI (dd + 1) from nI_1 _]; exact c7), trivial⟩ (fun _ => ?_)
            rw [show (xg 0 (xh_ui h 8 6 ((((xg 0 h.2.1 8 6) * 10) + (nI (T (q + m)))) - 48)).2.1 8 2) = (nI (q + m)) from (gx_k (by decide)).trans (e2)]
            rw [show (xg 0 h.2.1 8 6) = (nI v) from e6]
            rw [show ((((nI v) * 10) + (nI (T (q + m)))) - 48) = nI (v * 10 + (T (q + m) - 48)) from nI_val (by have z := of_decide_eq_true (show p_dg (T (q + m)) = true by assumption); omega)]
            rw [show ((nI dd) + Int32.ofInt 1) = nI (dd + 1) from nI_1 _]
            rw [show ((nI (q + m)) + (Int32.ofInt 1)) = nI (q + m + 1) from nI_1 _]
            have hq : a_rq a_tb (xh_ui (xh_ui h 8 6 (nI (v * 10 + (T (q + m) - 48)))) 8 2 (nI (q + m + 1))) := a_rq_ui (a_rq_ui hq)
            have hlt : p_lt (T (q + m)) = false := by assumption
            have hdg : p_dg (T (q + m)) = true := by assumption
            have hcl : cL T q (m + 1) = l := by show cL T q m + cond (p_lt (T (q + m))) 1 0 = _; rw [hlt, el]; rfl
            have hcd : cD T q (m + 1) = dd + 1 := by show cD T q m + cond (p_dg (T (q + m))) 1 0 = _; rw [hdg, ed]; rfl
            refine ih (m + 1) l (dd + 1) (v * 10 + (T (q + m) - 48)) _ hq (fx_ui (fx_ui (g0) rfl) rfl) (by omega) (by omega) (by omega) hcl hcd (by show cond (p_dg (T (q + m)) && Nat.ble (cD T q (m + 1)) 3) (vf T q m * 10 + (T (q + m) - 48)) _ = _; rw [hdg, hcd, show Nat.ble (dd + 1) 3 = true from Nat.ble_eq.mpr (by omega), ev]; rfl) ?_ (by rw [show q + (m + 1) = q + m + 1 from rfl]; exact gx_s) (by rw [gx_k (by decide), gx_k (by decide)]; exact e4) ((gx_k (by decide)).trans (gx_s)) (ct_f (S := sS) (L := fN) hc (fx_ui (fx_ui (fx_0) rfl) rfl) rfl (fun _ => rfl))
            intro k z1 z2
            by_cases ek : k = q + m
            · rw [ek]; have z := of_decide_eq_true hdg; exact decide_eq_true (by omega)
            · exact ha k z1 (by omega)
        | false =>
          refine xq_n 99 [0, 1, 2] [(0, .ref 8), (1, .int (nI l)), (2, .int (nI dd))] [] h [true] 3 hq rfl ⟨rfl, trivial⟩ (fun hq => ?_)
          refine tr_end hq g0 (by omega) (by omega) (by omega) el ed ev (rn_eq ha (by omega) (Or.inr ?_)) e2 e4 e6
          have y1 : p_lt (T (q + m)) = false := by assumption
          have y2 : p_dg (T (q + m)) = false := by assumption
          have y1 := of_decide_eq_false y1
          have y2 := of_decide_eq_false y2
          exact decide_eq_false (by omega)
set_option maxRecDepth 100000 in
set_option maxHeartbeats 4000000 in
theorem tr_q {f n q : Nat} {T : Nat → Nat} {h : xh_H} (hq : a_rq a_tb h) (hT : ∀ k, k < n → T k < 256) (hc : ct h T n) (hn : q ≤ n) (e2 : xg 0 h.2.1 8 2 = nI q) : xq f xi_X6_takeRun xmi_X6_takeRun 0 [(0, .ref 8)] [] h (tr_Q h T n q) := by
  refine xq_n 9 [0, 1, 2] [(0, .ref 8), (1, .int (Int32.ofInt 0)), (2, .int (Int32.ofInt 0))] [] (xh_ui h 8 6 (Int32.ofInt 0)) [] 9 hq rfl trivial (fun hq => ?_)
  exact tr_lp hT f 0 0 0 0 _ hq (fx_ui fx_0 rfl) (by omega) (by omega) (by omega) rfl rfl rfl (fun k z1 z2 => by omega) (by rw [gx_k (by decide)]; exact e2) (by rw [gx_k (by decide)]) gx_s (ct_f (S := sS) (L := fN) hc (fx_ui fx_0 rfl) rfl (fun _ => rfl))
theorem nI_min {a b : Nat} (ha : a < 2 ^ 31) (hb : b < 2 ^ 31) : (if nI b < nI a then nI b else nI a) = nI (min a b) := by
  have e1 := nI_toInt ha
  have e2 := nI_toInt hb
  split
  · rename_i z
    have z := Int32.lt_iff_toInt_lt.mp z
    rw [show min a b = b by omega]
  · rename_i z
    have z : ¬ (nI b).toInt < (nI a).toInt := fun y => z (Int32.lt_iff_toInt_lt.mpr y)
    rw [show min a b = a by omega]
/-- the token at hand, read from p on -/
def tok (h : xh_H) (T : Nat → Nat) (n p : Nat) : Prop := xg 0 h.2.1 8 3 = nI (tkk T n p) ∧ xg 0 h.2.1 8 4 = nI (tks T n p) ∧ (tkk T n p ≠ 0 → xg 0 h.2.1 8 2 = nI (tke T n p) ∧ xg 0 h.2.1 8 5 = nI (tke T n p)) ∧ (tkk T n p = 3 → xg 0 h.2.1 8 6 = nI (tkn T n p)) ∧ ∃ e, e ≤ 640 ∧ xg 0 h.2.1 8 2 = nI e
def adv_Q (h0 : xh_H) (T : Nat → Nat) (n p : Nat) (v : Option Value) (h' : xh_H) : Prop := v = none ∧ fx sS fN h0 h' ∧ tok h' T n p
set_option maxRecDepth 100000 in
set_option maxHeartbeats 4000000 in
theorem adv_e {f n q p : Nat} {T : Nat → Nat} {h0 h : xh_H} (hq : a_rq a_tb h) (hc : ct h T n) (hl : xg 0 h.2.1 8 1 = nI (min n 600)) (e2 : xg 0 h.2.1 8 2 = nI q) (q6 : q ≤ 640) (g0 : fx sS fN h0 h) (hL : min n 600 ≤ q) (et : tks T n p = min n 600) : xq f xi_X6_advance xmi_X6_advance 41 [(0, .ref 8)] [] h (adv_Q h0 T n p) := by
  have n6 := hc.2.1
  have ek : tkk T n p = 0 := by unfold tkk kq; rw [et, if_pos (Nat.le_refl _)]
  cases c1 : xe_c .lt (nI q) (nI (min n 600)) with
  | true =>
    have z1 : q < (min n 600) := nq_ltt (a := q) (b := (min n 600)) (by omega) (by omega) c1
    omega
  | false =>
    have z1 : q ≥ (min n 600) := nq_ltf (a := q) (b := (min n 600)) (by omega) (by omega) c1
    refine xq_n 170 [] [] [] (xh_ui (xh_ui (xh_ui h 8 4 (if (xg 0 h.2.1 8 1) < (xg 0 h.2.1 8 2) then (xg 0 h.2.1 8 1) else (xg 0 h.2.1 8 2))) 8 3 (Int32.ofInt 0)) 8 5 (xg 0 (xh_ui (xh_ui h 8 4 (if (xg 0 h.2.1 8 1) < (xg 0 h.2.1 8 2) then (xg 0 h.2.1 8 1) else (xg 0 h.2.1 8 2))) 8 3 (Int32.ofInt 0)).2.1 8 2)) [false] 22 hq rfl ⟨(show xe_c .lt (xg 0 (xh_ui h 8 4 (if (xg 0 h.2.1 8 1) < (xg 0 h.2.1 8 2) then (xg 0 h.2.1 8 1) else (xg 0 h.2.1 8 2))).2.1 8 2) (xg 0 (xh_ui h 8 4 (if (xg 0 h.2.1 8 1) < (xg 0 h.2.1 8 2) then (xg 0 h.2.1 8 1) else (xg 0 h.2.1 8 2))).2.1 8 1) = false by rw [show (xg 0 (xh_ui h 8 4 (if (xg 0 h.2.1 8 1) < (xg 0 h.2.1 8 2) then (xg 0 h.2.1 8 1) else (xg 0 h.2.1 8 2))).2.1 8 2) = (nI q) from (gx_k (by decide)).trans (e2), show (xg 0 (xh_ui h 8 4 (if (xg 0 h.2.1 8 1) < (xg 0 h.2.1 8 2) then (xg 0 h.2.1 8 1) else (xg 0 h.2.1 8 2))).2.1 8 1) = (nI (min n 600)) from (gx_k (by decide)).trans (hl)]; exact c1), trivial⟩ (fun _ => ?_)
    rw [show (xg 0 (xh_ui (xh_ui h 8 4 (if (xg 0 h.2.1 8 1) < (xg 0 h.2.1 8 2) then (xg 0 h.2.1 8 1) else (xg 0 h.2.1 8 2))) 8 3 (Int32.ofInt 0)).2.1 8 2) = (nI q) from (gx_k (by decide)).trans ((gx_k (by decide)).trans (e2))]
    rw [show (xg 0 h.2.1 8 2) = (nI q) from e2]
    rw [show (xg 0 h.2.1 8 1) = (nI (min n 600)) from hl]
    rw [show (if (nI (min n 600)) < (nI q) then (nI (min n 600)) else (nI q)) = nI (min q (min n 600)) from nI_min (by omega) (by omega)]
    have hq : a_rq a_tb (xh_ui (xh_ui (xh_ui h 8 4 (nI (min q (min n 600)))) 8 3 (Int32.ofInt 0)) 8 5 (nI q)) := a_rq_ui (a_rq_ui (a_rq_ui hq))
    refine xq_ret rfl rfl rfl ⟨rfl, fx_ui (fx_ui (fx_ui (g0) rfl) rfl) rfl, ?_, ?_, fun z => absurd ek z, fun z => (by rw [ek] at z; cases z), q, q6, (gx_k (by decide)).trans ((gx_k (by decide)).trans ((gx_k (by decide)).trans (e2)))⟩
    · rw [ek]; exact (gx_k (by decide)).trans (gx_s)
    · rw [et]; exact ((gx_k (by decide)).trans ((gx_k (by decide)).trans (gx_s))).trans (congrArg nI (by omega))
set_option maxRecDepth 100000 in
set_option maxHeartbeats 4000000 in
theorem adv_t {f n q p : Nat} {T : Nat → Nat} {h0 h : xh_H} (hq : a_rq a_tb h) (hc : ct h T n) (hT : ∀ k, k < n → T k < 256) (hl : xg 0 h.2.1 8 1 = nI (min n 600)) (e2 : xg 0 h.2.1 8 2 = nI q) (g0 : fx sS fN h0 h) (hL : q < min n 600) (et : tks T n p = q) : xq f xi_X6_advance xmi_X6_advance 41 [(0, .ref 8)] [] h (adv_Q h0 T n p) := by
  have n6 := hc.2.1
  have emin : nI (min q (min n 600)) = nI q := by rw [show min q (min n 600) = q by omega]
  cases c1 : xe_c .lt (nI q) (nI (min n 600)) with
  | true =>
    have z1 : q < (min n 600) := nq_ltt (a := q) (b := (min n 600)) (by omega) (by omega) c1
    refine xq_n 83 [0] [(0, .ref 8)] [.int (xg 0 (xh_ui h 8 4 (if (xg 0 h.2.1 8 1) < (xg 0 h.2.1 8 2) then (xg 0 h.2.1 8 1) else (xg 0 h.2.1 8 2))).2.1 8 2), .ref 1] (xh_ui h 8 4 (if (xg 0 h.2.1 8 1) < (xg 0 h.2.1 8 2) then (xg 0 h.2.1 8 1) else (xg 0 h.2.1 8 2))) [true] 18 hq rfl ⟨(show xe_c .lt (xg 0 (xh_ui h 8 4 (if (xg 0 h.2.1 8 1) < (xg 0 h.2.1 8 2) then (xg 0 h.2.1 8 1) else (xg 0 h.2.1 8 2))).2.1 8 2) (xg 0 (xh_ui h 8 4 (if (xg 0 h.2.1 8 1) < (xg 0 h.2.1 8 2) then (xg 0 h.2.1 8 1) else (xg 0 h.2.1 8 2))).2.1 8 1) = true by rw [show (xg 0 (xh_ui h 8 4 (if (xg 0 h.2.1 8 1) < (xg 0 h.2.1 8 2) then (xg 0 h.2.1 8 1) else (xg 0 h.2.1 8 2))).2.1 8 2) = (nI q) from (gx_k (by decide)).trans (e2), show (xg 0 (xh_ui h 8 4 (if (xg 0 h.2.1 8 1) < (xg 0 h.2.1 8 2) then (xg 0 h.2.1 8 1) else (xg 0 h.2.1 8 2))).2.1 8 1) = (nI (min n 600)) from (gx_k (by decide)).trans (hl)]; exact c1), trivial⟩ (fun _ => ?_)
    rw [show (xg 0 (xh_ui h 8 4 (if (xg 0 h.2.1 8 1) < (xg 0 h.2.1 8 2) then (xg 0 h.2.1 8 1) else (xg 0 h.2.1 8 2))).2.1 8 2) = (nI q) from (gx_k (by decide)).trans (e2)]
    rw [show (xg 0 h.2.1 8 2) = (nI q) from e2]
    rw [show (xg 0 h.2.1 8 1) = (nI (min n 600)) from hl]
    rw [show (if (nI (min n 600)) < (nI q) then (nI (min n 600)) else (nI q)) = nI (min q (min n 600)) from nI_min (by omega) (by omega)]
    have hq : a_rq a_tb (xh_ui h 8 4 (nI (min q (min n 600)))) := a_rq_ui hq
    refine xq_run hq rfl rfl (at_q (ct_f (S := sS) (L := fN) hc (fx_ui (fx_0) rfl) rfl (fun _ => rfl)) (p := q) (by omega) hq) ?_
    rintro v2 h_v2 ⟨rfl, rfl⟩
    have tv2 := hT q (by omega)
    refine xq_run hq rfl rfl (lt_q (c := T q) (hT _ (by omega)) hq) ?_
    rintro v3 h_v3 ⟨rfl, rfl⟩
    cases b4 : (p_lt (T q)) with
    | true =>
      refine xq_n 110 [0] [(0, .ref 8)] [.ref 8] (xh_ui h 8 4 (nI (min q (min n 600)))) [true] 4 hq rfl ⟨rfl, trivial⟩ (fun hq => ?_)
      refine xq_run hq rfl rfl (tr_q (q := q) hq hT (ct_f (S := sS) (L := fN) hc (fx_ui (fx_0) rfl) rfl (fun _ => rfl)) (by omega) ((gx_k (by decide)).trans (e2))) ?_
      rintro v5 h5 ⟨rfl, g5, r25, r35, r45, r65⟩
      have hq := fx_q g5 hq
      refine xq_n 170 [] [] [] (xh_ui h5 8 5 (xg 0 h5.2.1 8 2)) [] 7 hq rfl trivial (fun _ => ?_)
      rw [show (xg 0 h5.2.1 8 2) = (nI (rn T n q)) from r25]
      have hq : a_rq a_tb (xh_ui h5 8 5 (nI (rn T n q))) := a_rq_ui hq
      have han : p_an (T q) = true := by
        first
        | (have z := of_decide_eq_true (show p_lt (T q) = true by assumption); exact decide_eq_true (by omega))
        | (have z := of_decide_eq_true (show p_dg (T q) = true by assumption); exact decide_eq_true (by omega))
      have ek : tkk T n p = kw (cL T q (rn T n q - q)) (cD T q (rn T n q - q)) := by unfold tkk kq; rw [et, if_neg (by omega), if_pos han]
      have ee : tke T n p = rn T n q := by unfold tke eq_; rw [et, if_pos han]
      refine xq_ret rfl rfl rfl ⟨rfl, fx_ui (fx_t (fx_ui (g0) rfl) (g5)) rfl, ?_, ?_, fun _ => ⟨?_, ?_⟩, fun _ => ?_, rn T n q, Nat.le_trans (rn_le (by omega)) n6, (gx_k (by decide)).trans (r25)⟩
      · rw [ek]; exact (gx_k (by decide)).trans (r35)
      · rw [et, ← emin]; exact (gx_k (by decide)).trans (r45.trans (gx_s))
      · rw [ee]; exact (gx_k (by decide)).trans (r25)
      · rw [ee]; exact gx_s
      · unfold tkn; rw [ee, et]; exact (gx_k (by decide)).trans (r65)
    | false =>
      refine xq_n 100 [0] [(0, .ref 8)] [.int (xg 0 (xh_ui h 8 4 (nI (min q (min n 600)))).2.1 8 2), .ref 1] (xh_ui h 8 4 (nI (min q (min n 600)))) [false] 7 hq rfl ⟨rfl, trivial⟩ (fun hq => ?_)
      rw [show (xg 0 (xh_ui h 8 4 (nI (min q (min n 600)))).2.1 8 2) = (nI q) from (gx_k (by decide)).trans (e2)]
      refine xq_run hq rfl rfl (at_q (ct_f (S := sS) (L := fN) hc (fx_ui (fx_0) rfl) rfl (fun _ => rfl)) (p := q) (by omega) hq) ?_
      rintro v6 h_v6 ⟨rfl, rfl⟩
      have tv6 := hT q (by omega)
      refine xq_run hq rfl rfl (dg_q (c := T q) (hT _ (by omega)) hq) ?_
      rintro v7 h_v7 ⟨rfl, rfl⟩
      cases b8 : (p_dg (T q)) with
      | true =>
        refine xq_n 110 [0] [(0, .ref 8)] [.ref 8] (xh_ui h 8 4 (nI (min q (min n 600)))) [false] 4 hq rfl ⟨rfl, trivial⟩ (fun hq => ?_)
        refine xq_run hq rfl rfl (tr_q (q := q) hq hT (ct_f (S := sS) (L := fN) hc (fx_ui (fx_0) rfl) rfl (fun _ => rfl)) (by omega) ((gx_k (by decide)).trans (e2))) ?_
        rintro v9 h9 ⟨rfl, g9, r29, r39, r49, r69⟩
        have hq := fx_q g9 hq
        refine xq_n 170 [] [] [] (xh_ui h9 8 5 (xg 0 h9.2.1 8 2)) [] 7 hq rfl trivial (fun _ => ?_)
        rw [show (xg 0 h9.2.1 8 2) = (nI (rn T n q)) from r29]
        have hq : a_rq a_tb (xh_ui h9 8 5 (nI (rn T n q))) := a_rq_ui hq
        have han : p_an (T q) = true := by
          first
          | (have z := of_decide_eq_true (show p_lt (T q) = true by assumption); exact decide_eq_true (by omega))
          | (have z := of_decide_eq_true (show p_dg (T q) = true by assumption); exact decide_eq_true (by omega))
        have ek : tkk T n p = kw (cL T q (rn T n q - q)) (cD T q (rn T n q - q)) := by unfold tkk kq; rw [et, if_neg (by omega), if_pos han]
        have ee : tke T n p = rn T n q := by unfold tke eq_; rw [et, if_pos han]
        refine xq_ret rfl rfl rfl ⟨rfl, fx_ui (fx_t (fx_ui (g0) rfl) (g9)) rfl, ?_, ?_, fun _ => ⟨?_, ?_⟩, fun _ => ?_, rn T n q, Nat.le_trans (rn_le (by omega)) n6, (gx_k (by decide)).trans (r29)⟩
        · rw [ek]; exact (gx_k (by decide)).trans (r39)
        · rw [et, ← emin]; exact (gx_k (by decide)).trans (r49.trans (gx_s))
        · rw [ee]; exact (gx_k (by decide)).trans (r29)
        · rw [ee]; exact gx_s
        · unfold tkn; rw [ee, et]; exact (gx_k (by decide)).trans (r69)
      | false =>
        refine xq_n 125 [0] [(0, .ref 8)] [.int (xg 0 (xh_ui h 8 4 (nI (min q (min n 600)))).2.1 8 2), .ref 1, .ref 8] (xh_ui h 8 4 (nI (min q (min n 600)))) [true] 8 hq rfl ⟨rfl, trivial⟩ (fun hq => ?_)
        rw [show (xg 0 (xh_ui h 8 4 (nI (min q (min n 600)))).2.1 8 2) = (nI q) from (gx_k (by decide)).trans (e2)]
        refine xq_run hq rfl rfl (at_q (ct_f (S := sS) (L := fN) hc (fx_ui (fx_0) rfl) rfl (fun _ => rfl)) (p := q) (by omega) hq) ?_
        rintro v10 h_v10 ⟨rfl, rfl⟩
        have tv10 := hT q (by omega)
        refine xq_run hq rfl rfl (sn_q (c := T q) (hT _ (by omega)) hq) ?_
        rintro v11 h_v11 ⟨rfl, rfl⟩
        cases b12 : (p_sn (T q)) with
        | true =>
          refine xq_n 142 [0] [(0, .ref 8)] [.int (xg 0 (xh_ui h 8 4 (nI (min q (min n 600)))).2.1 8 2), .ref 1, .ref 8] (xh_ui h 8 4 (nI (min q (min n 600)))) [false] 7 hq rfl ⟨rfl, trivial⟩ (fun hq => ?_)
          rw [show (xg 0 (xh_ui h 8 4 (nI (min q (min n 600)))).2.1 8 2) = (nI q) from (gx_k (by decide)).trans (e2)]
          refine xq_run hq rfl rfl (at_q (ct_f (S := sS) (L := fN) hc (fx_ui (fx_0) rfl) rfl (fun _ => rfl)) (p := q) (by omega) hq) ?_
          rintro v13 h_v13 ⟨rfl, rfl⟩
          have tv13 := hT q (by omega)
          refine xq_n 170 [] [] [] (xh_ui (xh_ui (xh_ui (xh_ui h 8 4 (nI (min q (min n 600)))) 8 3 (nI (T q))) 8 2 ((xg 0 (xh_ui (xh_ui h 8 4 (nI (min q (min n 600)))) 8 3 (nI (T q))).2.1 8 2) + (Int32.ofInt 1))) 8 5 (xg 0 (xh_ui (xh_ui (xh_ui h 8 4 (nI (min q (min n 600)))) 8 3 (nI (T q))) 8 2 ((xg 0 (xh_ui (xh_ui h 8 4 (nI (min q (min n 600)))) 8 3 (nI (T q))).2.1 8 2) + (Int32.ofInt 1))).2.1 8 2)) [] 14 hq rfl trivial (fun _ => ?_)
          rw [show (xg 0 (xh_ui (xh_ui (xh_ui h 8 4 (nI (min q (min n 600)))) 8 3 (nI (T q))) 8 2 ((xg 0 (xh_ui (xh_ui h 8 4 (nI (min q (min n 600)))) 8 3 (nI (T q))).2.1 8 2) + (Int32.ofInt 1))).2.1 8 2) = ((xg 0 (xh_ui (xh_ui h 8 4 (nI (min q (min n 600)))) 8 3 (nI (T q))).2.1 8 2) + (Int32.ofInt 1)) from gx_s]
          rw [show (xg 0 (xh_ui (xh_ui h 8 4 (nI (min q (min n 600)))) 8 3 (nI (T q))).2.1 8 2) = (nI q) from (gx_k (by decide)).trans ((gx_k (by decide)).trans (e2))]
          rw [show ((nI q) + (Int32.ofInt 1)) = nI (q + 1) from nI_1 _]
          have hq : a_rq a_tb (xh_ui (xh_ui (xh_ui (xh_ui h 8 4 (nI (min q (min n 600)))) 8 3 (nI (T q))) 8 2 (nI (q + 1))) 8 5 (nI (q + 1))) := a_rq_ui (a_rq_ui (a_rq_ui hq))
          have hna : ¬ p_an (T q) = true := by
            intro z
            have z := of_decide_eq_true z
            have y1 := of_decide_eq_false (show p_lt (T q) = false by assumption)
            have y2 := of_decide_eq_false (show p_dg (T q) = false by assumption)
            omega
          have ek : tkk T n p = T q := by unfold tkk kq; rw [et, if_neg (by omega), if_neg hna, if_pos (by assumption)]
          have ee : tke T n p = q + 1 := by unfold tke eq_; rw [et, if_neg hna]
          refine xq_ret rfl rfl rfl ⟨rfl, fx_ui (fx_ui (fx_ui (fx_ui (g0) rfl) rfl) rfl) rfl, ?_, ?_, fun _ => ⟨?_, ?_⟩, fun z => (by rw [ek] at z; have y := of_decide_eq_true (show p_sn (T q) = true by assumption); omega), q + 1, by omega, (gx_k (by decide)).trans (gx_s)⟩
          · rw [ek]; exact (gx_k (by decide)).trans ((gx_k (by decide)).trans (gx_s))
          · rw [et, ← emin]; exact (gx_k (by decide)).trans ((gx_k (by decide)).trans ((gx_k (by decide)).trans (gx_s)))
          · rw [ee]; exact (gx_k (by decide)).trans (gx_s)
          · rw [ee]; exact gx_s
        | false =>
          refine xq_n 170 [] [] [] (xh_ui (xh_ui (xh_ui (xh_ui h 8 4 (nI (min q (min n 600)))) 8 3 (Int32.ofInt 1)) 8 2 ((xg 0 (xh_ui (xh_ui h 8 4 (nI (min q (min n 600)))) 8 3 (Int32.ofInt 1)).2.1 8 2) + (Int32.ofInt 1))) 8 5 (xg 0 (xh_ui (xh_ui (xh_ui h 8 4 (nI (min q (min n 600)))) 8 3 (Int32.ofInt 1)) 8 2 ((xg 0 (xh_ui (xh_ui h 8 4 (nI (min q (min n 600)))) 8 3 (Int32.ofInt 1)).2.1 8 2) + (Int32.ofInt 1))).2.1 8 2)) [true] 15 hq rfl ⟨rfl, trivial⟩ (fun _ => ?_)
          rw [show (xg 0 (xh_ui (xh_ui (xh_ui h 8 4 (nI (min q (min n 600)))) 8 3 (Int32.ofInt 1)) 8 2 ((xg 0 (xh_ui (xh_ui h 8 4 (nI (min q (min n 600)))) 8 3 (Int32.ofInt 1)).2.1 8 2) + (Int32.ofInt 1))).2.1 8 2) = ((xg 0 (xh_ui (xh_ui h 8 4 (nI (min q (min n 600)))) 8 3 (Int32.ofInt 1)).2.1 8 2) + (Int32.ofInt 1)) from gx_s]
          rw [show (xg 0 (xh_ui (xh_ui h 8 4 (nI (min q (min n 600)))) 8 3 (Int32.ofInt 1)).2.1 8 2) = (nI q) from (gx_k (by decide)).trans ((gx_k (by decide)).trans (e2))]
          rw [show ((nI q) + (Int32.ofInt 1)) = nI (q + 1) from nI_1 _]
          have hq : a_rq a_tb (xh_ui (xh_ui (xh_ui (xh_ui h 8 4 (nI (min q (min n 600)))) 8 3 (Int32.ofInt 1)) 8 2 (nI (q + 1))) 8 5 (nI (q + 1))) := a_rq_ui (a_rq_ui (a_rq_ui hq))
          have hna : ¬ p_an (T q) = true := by
            intro z
            have z := of_decide_eq_true z
            have y1 := of_decide_eq_false (show p_lt (T q) = false by assumption)
            have y2 := of_decide_eq_false (show p_dg (T q) = false by assumption)
            omega
          have ek : tkk T n p = 1 := by unfold tkk kq; rw [et, if_neg (by omega), if_neg hna, if_neg (by simp only [*]; decide)]
          have ee : tke T n p = q + 1 := by unfold tke eq_; rw [et, if_neg hna]
          refine xq_ret rfl rfl rfl ⟨rfl, fx_ui (fx_ui (fx_ui (fx_ui (g0) rfl) rfl) rfl) rfl, ?_, ?_, fun _ => ⟨?_, ?_⟩, fun z => (by rw [ek] at z; cases z), q + 1, by omega, (gx_k (by decide)).trans (gx_s)⟩
          · rw [ek]; exact (gx_k (by decide)).trans ((gx_k (by decide)).trans (gx_s))
          · rw [et, ← emin]; exact (gx_k (by decide)).trans ((gx_k (by decide)).trans ((gx_k (by decide)).trans (gx_s)))
          · rw [ee]; exact (gx_k (by decide)).trans (gx_s)
          · rw [ee]; exact gx_s
  | false =>
    have z1 : q ≥ (min n 600) := nq_ltf (a := q) (b := (min n 600)) (by omega) (by omega) c1
    omega
set_option maxRecDepth 100000 in
set_option maxHeartbeats 4000000 in
theorem adv_lp {n p : Nat} {T : Nat → Nat} {h0 : xh_H} (hT : ∀ k, k < n → T k < 256) : ∀ (f q : Nat) (h : xh_H), a_rq a_tb h → ct h T n → xg 0 h.2.1 8 1 = nI (min n 600) → xg 0 h.2.1 8 2 = nI q → q ≤ 640 → fx sS fN h0 h → tks T n q = tks T n p → xq f xi_X6_advance xmi_X6_advance 0 [(0, .ref 8)] [] h (adv_Q h0 T n p) := by
  intro f
  induction f with
  | zero => intros; exact xq_0
  | succ f ih =>
    intro q h hq hc hl e2 q6 g0 et
    have n6 := hc.2.1
    cases c1 : xe_c .ge (nI q) (nI (min n 600)) with
    | true =>
      have z1 : q ≥ (min n 600) := nq_get (a := q) (b := (min n 600)) (by omega) (by omega) c1
      refine xq_m 41 [0] [(0, .ref 8)] [] h [true] 7 hq rfl ⟨(show xe_c .ge (xg 0 h.2.1 8 2) (xg 0 h.2.1 8 1) = true by rw [show (xg 0 h.2.1 8 2) = (nI q) from e2, show (xg 0 h.2.1 8 1) = (nI (min n 600)) from hl]; exact c1), trivial⟩ (fun hq => ?_)
      exact adv_e hq hc hl e2 (by omega) g0 (by omega) (et.symm.trans (tks_n (by omega)))
    | false =>
      have z1 : q < (min n 600) := nq_gef (a := q) (b := (min n 600)) (by omega) (by omega) c1
      refine xq_m 19 [0] [(0, .ref 8)] [.int (xg 0 h.2.1 8 2), .ref 1] h [false] 11 hq rfl ⟨(show xe_c .ge (xg 0 h.2.1 8 2) (xg 0 h.2.1 8 1) = false by rw [show (xg 0 h.2.1 8 2) = (nI q) from e2, show (xg 0 h.2.1 8 1) = (nI (min n 600)) from hl]; exact c1), trivial⟩ (fun hq => ?_)
      rw [show (xg 0 h.2.1 8 2) = (nI q) from e2]
      refine xq_run hq rfl rfl (at_q hc (p := q) (by omega) hq) ?_
      rintro v2 h_v2 ⟨rfl, rfl⟩
      have tv2 := hT q (by omega)
      refine xq_run hq rfl rfl (bk_q (c := T q) (hT _ (by omega)) hq) ?_
      rintro v3 h_v3 ⟨rfl, rfl⟩
      cases b4 : (p_bk (T q)) with
      | true =>
        refine xq_n 0 [0] [(0, .ref 8)] [] (xh_ui h 8 2 ((xg 0 h.2.1 8 2) + (Int32.ofInt 1))) [false] 10 hq rfl ⟨rfl, trivial⟩ (fun _ => ?_)
        rw [show (xg 0 h.2.1 8 2) = (nI q) from e2]
        rw [show ((nI q) + (Int32.ofInt 1)) = nI (q + 1) from nI_1 _]
        have hq : a_rq a_tb (xh_ui h 8 2 (nI (q + 1))) := a_rq_ui hq
        exact ih (q + 1) _ hq (ct_f (S := sS) (L := fN) hc (fx_ui (fx_0) rfl) rfl (fun _ => rfl)) ((gx_k (by decide)).trans (hl)) (gx_s) (by omega) (fx_ui (g0) rfl) ((tks_b (by omega) (by assumption)).symm.trans et)
      | false =>
        refine xq_n 41 [0] [(0, .ref 8)] [] h [true] 3 hq rfl ⟨rfl, trivial⟩ (fun hq => ?_)
        exact adv_t hq hc hT hl e2 g0 (by omega) (et.symm.trans (tks_s (by omega) (by assumption)))
/-- the next token -/
theorem adv_q {f n p : Nat} {T : Nat → Nat} {h : xh_H} (hq : a_rq a_tb h) (hT : ∀ k, k < n → T k < 256) (hc : ct h T n) (hl : xg 0 h.2.1 8 1 = nI (min n 600)) (e2 : xg 0 h.2.1 8 2 = nI p) (p6 : p ≤ 640) : xq f xi_X6_advance xmi_X6_advance 0 [(0, .ref 8)] [] h (adv_Q h T n p) := adv_lp hT f p h hq hc hl e2 p6 fx_0 rfl
end XSC
end
section
section XWD
variable {T : Nat → Nat} {n p : Nat}
theorem cD_0 {q : Nat} : ∀ {m : Nat}, cD T q m = 0 → ∀ k, k < m → p_dg (T (q + k)) = false := by
  intro m
  induction m with
  | zero => intro _ k hk'; omega
  | succ m ih =>
    intro h k hk'
    have h : cD T q m + cond (p_dg (T (q + m))) 1 0 = 0 := h
    by_cases e : k = m
    · subst e
      cases hd : p_dg (T (q + k)) with
      | false => rfl
      | true => rw [hd] at h; dsimp only [cond] at h; omega
    · exact ih (by omega) k (by omega)
theorem cL_0 {q : Nat} : ∀ {m : Nat}, cL T q m = 0 → ∀ k, k < m → p_lt (T (q + k)) = false := by
  intro m
  induction m with
  | zero => intro _ k hk'; omega
  | succ m ih =>
    intro h k hk'
    have h : cL T q m + cond (p_lt (T (q + m))) 1 0 = 0 := h
    by_cases e : k = m
    · subst e
      cases hd : p_lt (T (q + k)) with
      | false => rfl
      | true => rw [hd] at h; dsimp only [cond] at h; omega
    · exact ih (by omega) k (by omega)
theorem p_an_or {c : Nat} (h : p_an c = true) : p_lt c = true ∨ p_dg c = true := by
  rcases of_decide_eq_true h with z | z
  · exact Or.inl (decide_eq_true z)
  · exact Or.inr (decide_eq_true z)
theorem sn_ge {c : Nat} (h : p_sn c = true) : 40 ≤ c := by
  have := of_decide_eq_true h
  omega
theorem sn_na {c : Nat} (h : p_sn c = true) : p_an c = false := by
  have := of_decide_eq_true h
  exact decide_eq_false (by omega)
theorem rn_in {q k : Nat} (h1 : q ≤ k) (h2 : k < rn T n q) : p_an (T k) = true := skp_in (g := fun k => p_an (T k)) h1 h2
theorem kw_le {l d : Nat} : kw l d = 2 ∨ kw l d = 3 ∨ kw l d = 1 := by
  unfold kw
  split
  · exact Or.inl rfl
  · split
    · exact Or.inr (Or.inl rfl)
    · exact Or.inr (Or.inr rfl)
/-- what a token's kind says -/
theorem tkk_cs : (min n 600 ≤ tks T n p ∧ tkk T n p = 0) ∨ (tks T n p < min n 600 ∧ p_an (T (tks T n p)) = true ∧ tkk T n p = kw (cL T (tks T n p) (rn T n (tks T n p) - tks T n p)) (cD T (tks T n p) (rn T n (tks T n p) - tks T n p)) ∧ tke T n p = rn T n (tks T n p)) ∨ (tks T n p < min n 600 ∧ p_sn (T (tks T n p)) = true ∧ tkk T n p = T (tks T n p) ∧ tke T n p = tks T n p + 1) ∨ (tks T n p < min n 600 ∧ tkk T n p = 1 ∧ p_an (T (tks T n p)) = false ∧ p_sn (T (tks T n p)) = false ∧ tke T n p = tks T n p + 1) := by
  unfold tkk tke kq eq_
  by_cases h1 : min n 600 ≤ tks T n p
  · exact Or.inl ⟨h1, by rw [if_pos h1]⟩
  · rw [if_neg h1]
    cases h2 : p_an (T (tks T n p)) with
    | true => exact Or.inr (Or.inl ⟨by omega, rfl, by rw [if_pos rfl], by rw [if_pos rfl]⟩)
    | false =>
      rw [if_neg (show ¬ (false = true) by decide), if_neg (show ¬ (false = true) by decide)]
      cases h3 : p_sn (T (tks T n p)) with
      | true => exact Or.inr (Or.inr (Or.inl ⟨by omega, rfl, by rw [if_pos rfl], rfl⟩))
      | false => exact Or.inr (Or.inr (Or.inr ⟨by omega, by rw [if_neg (by decide)], rfl, rfl, rfl⟩))
theorem tkk_lt (hT : ∀ k, k < n → T k < 256) : tkk T n p < 256 := by
  rcases tkk_cs (T := T) (n := n) (p := p) with ⟨-, e⟩ | ⟨-, -, e, -⟩ | ⟨h1, -, e, -⟩ | ⟨-, e, -⟩
  · omega
  · rcases kw_le (l := cL T (tks T n p) (rn T n (tks T n p) - tks T n p)) (d := cD T (tks T n p) (rn T n (tks T n p) - tks T n p)) with z | z | z <;> omega
  · have := hT (tks T n p) (by omega)
    omega
  · omega
/-- a token ends behind its beginning -/
theorem tke_gt (h : tkk T n p ≠ 0) : tks T n p < tke T n p ∧ tke T n p ≤ n ∧ tks T n p < min n 600 := by
  rcases tkk_cs (T := T) (n := n) (p := p) with ⟨-, e⟩ | ⟨h1, h2, -, e⟩ | ⟨h1, -, -, e⟩ | ⟨h1, -, -, -, e⟩
  · exact absurd e h
  · rw [e]
    exact ⟨rn_gt (by omega) h2, rn_le (by omega), h1⟩
  · omega
  · omega
theorem tk2 (h : tkk T n p = 2) : cD T (tks T n p) (tke T n p - tks T n p) = 0 ∧ tke T n p - tks T n p ≤ 8 ∧ ∀ k, tks T n p ≤ k → k < tke T n p → 97 ≤ T k ∧ T k ≤ 122 := by
  rcases tkk_cs (T := T) (n := n) (p := p) with ⟨-, e⟩ | ⟨h1, h2, e, e2⟩ | ⟨h1, h2, e, -⟩ | ⟨h1, e, -⟩
  · omega
  · rw [e2]
    have e3 := cLD (T := T) (q := tks T n p) (m := rn T n (tks T n p) - tks T n p) (fun k z1 z2 => rn_in (n := n) z1 (by omega))
    rw [h] at e
    unfold kw at e
    split at e
    · rename_i z
      refine ⟨z.1, by omega, fun k z1 z2 => ?_⟩
      have y := cD_0 z.1 (k - tks T n p) (by omega)
      rw [show tks T n p + (k - tks T n p) = k by omega] at y
      rcases p_an_or (rn_in z1 z2) with w | w
      · exact of_decide_eq_true w
      · rw [w] at y; cases y
    · split at e
      · cases e
      · cases e
  · have := sn_ge h2
    omega
  · omega
theorem tk3 (h : tkk T n p = 3) : cL T (tks T n p) (tke T n p - tks T n p) = 0 ∧ tke T n p - tks T n p ≤ 3 ∧ ∀ k, tks T n p ≤ k → k < tke T n p → 48 ≤ T k ∧ T k ≤ 57 := by
  rcases tkk_cs (T := T) (n := n) (p := p) with ⟨-, e⟩ | ⟨h1, h2, e, e2⟩ | ⟨h1, h2, e, -⟩ | ⟨h1, e, -⟩
  · omega
  · rw [e2]
    have e3 := cLD (T := T) (q := tks T n p) (m := rn T n (tks T n p) - tks T n p) (fun k z1 z2 => rn_in (n := n) z1 (by omega))
    rw [h] at e
    unfold kw at e
    split at e
    · cases e
    · split at e
      · rename_i z
        refine ⟨z.1, by omega, fun k z1 z2 => ?_⟩
        have y := cL_0 z.1 (k - tks T n p) (by omega)
        rw [show tks T n p + (k - tks T n p) = k by omega] at y
        rcases p_an_or (rn_in z1 z2) with w | w
        · rw [w] at y; cases y
        · exact of_decide_eq_true w
      · cases e
  · have := sn_ge h2
    omega
  · omega
theorem wv_inj {A B : Nat → Nat} {q r : Nat} : ∀ {l m : Nat}, (∀ k, k < l → 97 ≤ A (q + k) ∧ A (q + k) ≤ 122) → (∀ k, k < m → 97 ≤ B (r + k) ∧ B (r + k) ≤ 122) → wv A q l = wv B r m → l = m ∧ ∀ k, k < l → A (q + k) = B (r + k) := by
  intro l
  induction l with
  | zero =>
    intro m _ hb e
    cases m with
    | zero => exact ⟨rfl, fun k hk' => by omega⟩
    | succ m =>
      have := hb m (by omega)
      have e : 0 = 27 * wv B r m + (B (r + m) - 96) := e
      omega
  | succ l ih =>
    intro m ha hb e
    have h1 := ha l (by omega)
    cases m with
    | zero =>
      have e : 27 * wv A q l + (A (q + l) - 96) = 0 := e
      omega
    | succ m =>
      have h2 := hb m (by omega)
      have e : 27 * wv A q l + (A (q + l) - 96) = 27 * wv B r m + (B (r + m) - 96) := e
      obtain ⟨e1, e2⟩ := ih (m := m) (fun k hk' => ha k (by omega)) (fun k hk' => hb k (by omega)) (by omega)
      subst e1
      refine ⟨rfl, fun k hk' => ?_⟩
      by_cases ek : k = l
      · subst ek
        omega
      · exact e2 k (by omega)
theorem wv_c {A B : Nat → Nat} {q r : Nat} : ∀ {l : Nat}, (∀ k, k < l → A (q + k) = B (r + k)) → wv A q l = wv B r l := by
  intro l
  induction l with
  | zero => intro _; rfl
  | succ l ih =>
    intro h
    show 27 * wv A q l + (A (q + l) - 96) = 27 * wv B r l + (B (r + l) - 96)
    rw [ih (fun k hk' => h k (by omega)), h l (by omega)]
/-- body, carry, and, or, of -/
def sL : List (List Nat) := [[98, 111, 100, 121], [99, 97, 114, 114, 121], [97, 110, 100], [111, 114], [111, 102]]
def sC (i k : Nat) : Nat := (sL.getD i []).getD k 0
def sN (i : Nat) : Nat := (sL.getD i []).length
def sW (i : Nat) : Nat := wv (sC i) 0 (sN i)
theorem sC_b : ∀ i, i < 5 → ∀ k, k < sN i → 97 ≤ sC i (0 + k) ∧ sC i (0 + k) ≤ 122 := by decide
theorem sW_e : sW 0 = 50434 ∧ sW 1 = 1627639 ∧ sW 2 = 1111 ∧ sW 3 = 423 ∧ sW 4 = 411 := by decide
theorem js_sC : ∀ i, i < 5 → ∀ k, k < sN i → js_ch i k = nI (sC i k) := by decide +kernel
theorem wd_iff {i : Nat} (hi : i < 5) (h : tkk T n p = 2) : tkw T n p = sW i ↔ tke T n p - tks T n p = sN i ∧ ∀ k, k < sN i → T (tks T n p + k) = sC i k := by
  have h2 := (tk2 h).2.2
  have h3 := tke_gt (show tkk T n p ≠ 0 by omega)
  constructor
  · intro e
    obtain ⟨e1, e2⟩ := wv_inj (A := T) (B := sC i) (q := tks T n p) (r := 0) (l := tke T n p - tks T n p) (m := sN i) (fun k hk' => h2 _ (by omega) (by omega)) (sC_b i hi) e
    refine ⟨e1, fun k hk' => ?_⟩
    rw [e2 k (by omega), Nat.zero_add]
  · intro ⟨e1, e2⟩
    unfold tkw sW
    rw [e1]
    exact wv_c (fun k hk' => by rw [e2 k hk', Nat.zero_add])
/-- the token is the i-th of the words that are no names; a name -/
def ky (T : Nat → Nat) (n p i : Nat) : Bool := decide (tkk T n p = 2 ∧ tkw T n p = sW i)
def nmt (T : Nat → Nat) (n p : Nat) : Bool := decide (tkk T n p = 2 ∧ 2 ≤ tke T n p - tks T n p ∧ tkw T n p ≠ sW 0 ∧ tkw T n p ≠ sW 1 ∧ tkw T n p ≠ sW 2 ∧ tkw T n p ≠ sW 3 ∧ tkw T n p ≠ sW 4)
def lone (T : Nat → Nat) (n p : Nat) : Bool := decide (tkk T n p = 2 ∧ tke T n p - tks T n p = 1)
theorem nI_sub {a b : Nat} (h : b ≤ a) : nI a - nI b = nI (a - b) := by
  obtain ⟨j, rfl⟩ : ∃ j, a = j + b := ⟨a - b, by omega⟩
  rw [← nI_add, Int32.add_sub_cancel, Nat.add_sub_cancel]
end XWD
end
