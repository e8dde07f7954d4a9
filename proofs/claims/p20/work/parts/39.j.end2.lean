section XE2
/-- the levels but the last one -/
def lvs (h : xh_H) (tp : Nat) (B : Int) : Prop := ∀ t, t < tp → lvo h t B
set_option maxRecDepth 100000 in
set_option maxHeartbeats 16000000 in
/-- X10.end of a rule's one, from the end of 'or' on -/
theorem er_4 {d sz tp : Nat} {B : Int} {h0 h : xh_H} (hi0 : a_inv a_tb h0) (hn0 : 72 ≤ h0.1.length) (hk0 : hk bg_md h0 h) (g : rI h sz B) (h30 : xg 0 h.2.1 39 30 = 0) (h29 : xg 0 h.2.1 39 29 = 0) (htp : xg 0 h.2.1 39 28 = nI tp) (t12 : tp ≤ 12) (h47 : xg 0 h.2.1 47 tp ≠ 2) (efr : fr h = fr h0) : xt_P (d + 2) xi_X10_end_ xmi_X10_end_ 299 [(0, .ref 39), (1, .int (nI (4096 * tp))), (2, .int (Int32.ofInt 0))] [] h (ed_Q h0 sz B) := by
  have hn := hk_n hk0 hn0
  have hq := a_rq_of g.1.1.1 hn
  have etc : (nI tp).toNatClampNeg = tp := nI_clamp (by omega)
  have hlv : lvo h tp B := by
    obtain ⟨-, -, tp', a, b, c⟩ := g
    have e : tp' = tp := (nI_eq (by omega) (by omega)).mp (by rw [← a]; exact htp)
    subst e
    exact c tp' (Nat.le_refl _)
  have m41 := (hlv.2 h47).1
  have b41 : ∀ s, s < 4096 → 0 ≤ (xg 0 h.2.1 41 (4096 * tp + s)).toInt ∧ (xg 0 h.2.1 41 (4096 * tp + s)).toInt ≤ 1 := fun s hs => a_blx (c := 41) (k := 4096 * tp + s) (lo := 0) (hi := 1) g.1.1.1 hn rfl rfl (by omega)
  refine rl_loop (h0 := h) (c := 45) (B := 0) (F := fun s => xg 0 h.2.1 41 (4096 * tp + s)) (N := 4096) (P := fun s h' => xt_P (d + 2) xi_X10_end_ xmi_X10_end_ 299 [(0, .ref 39), (1, .int (nI (4096 * tp))), (2, .int (nI s))] [] h' (ed_Q h0 sz B)) ?_ ?_
  · intro s h2 hs gl K
    have q2 := rl_q gl hq
    have e1 : nI s + Int32.ofInt 1 = nI (s + 1) := nI_1 s
    have ecl : (nI s).toNatClampNeg = s := nI_clamp (by omega)
    have ecl2 : (nI (4096 * tp + s)).toNatClampNeg = 4096 * tp + s := nI_clamp (by omega)
    have g41 : xg 0 h2.2.1 41 (4096 * tp + s) = xg 0 h.2.1 41 (4096 * tp + s) := rl_o gl (by omega)
    rw [Nat.zero_add] at K
    refine xa_tn 299 [0, 1, 2] [(0, .ref 39), (1, .int (nI (4096 * tp))), (2, .int ((nI s) + Int32.ofInt 1))] [] (xh_ui h2 45 (nI s).toNatClampNeg (vp_nar .boolean (xg 0 h2.2.1 41 ((nI (4096 * tp)) + (nI s)).toNatClampNeg))) [false] 17 q2 rfl ⟨nge_f (b := 4096) (by omega) (by omega) hs, (show xe_in ((nI (4096 * tp)) + (nI s)) 53248 = true by rw [nIa]; exact xin_n (by omega) (by omega)), xin_n hs (by omega), trivial⟩ (fun _ => ?_)
    rw [nIa, ecl, ecl2, g41, b01 (b41 s hs).1 (b41 s hs).2, e1]
    exact K
  · intro h2 gl
    have q2 := rl_q gl hq
    have hk2' : hk bg_md h h2 := rl_hk (kd := 3) (sz := 4096) (lo := 0) (hi := 1) gl (hk_0 g.1.1) hn rfl (by decide) rfl b41 (fun _ => rfl) (fun _ => rfl)
    have hn2 := hk_n hk2' hn
    have hk2 : hk bg_md h0 h2 := hk_t hk0 hk2' (fun _ z => z)
    have r2 : rI h2 sz B := rI_tr g hk2' (go_Pc g.1.2.2.2.1 (fun j _ _ => rl_o gl (by omega))) (rl_o gl (by omega)) (fun _ => rl_o gl (by omega)) (fun _ => rl_o gl (by omega)) (fun _ => rl_o gl (by omega)) (fun _ => rl_o gl (by omega))
    have e39 : ∀ k, xg 0 h2.2.1 39 k = xg 0 h.2.1 39 k := fun k => rl_o gl (by omega)
    have m45 : mo h2 45 0 := by
      intro s t hs ht hst
      have h1 := m41 s t hs ht hst
      dsimp only at h1 ⊢
      rw [rl_i gl hs, rl_i gl ht]
      exact h1
    have e28 : xg 0 h2.2.1 39 28 = nI tp := by rw [e39]; exact htp
    have hin : xe_in (xg 0 h2.2.1 39 28) 13 = true := by rw [e28]; exact xin_n (by omega) (by omega)
    have fr2 : fr h2 = fr h0 := (fr_c (e39 8)).trans efr
    refine xa_tn 326 [0] [(0, .ref 39)] [] h2 [true] 5 q2 rfl ⟨by decide, trivial⟩ (fun _ => ?_)
    cases c1 : xe_c .ne (xg 0 h2.2.1 47 (xg 0 h2.2.1 39 28).toNatClampNeg) 0 with
    | false =>
      refine xa_tn 346 [0] [(0, .ref 39)] [.int 59, .ref 39] (xh_ui h2 39 30 (Int32.ofInt 1)) [false] 13 q2 rfl ⟨hin, c1, Or.inr rfl, trivial⟩ (fun _ => ?_)
      have hk3' : hk ed_md h2 (xh_ui h2 39 30 (Int32.ofInt 1)) := hk_ui (s := (0, 10)) (lo := 0) (hi := 1) (hk_0 r2.1.1) hn2 rfl rfl (by decide) (by decide) rfl rfl
      have eo : ∀ c k, ¬ (c = 39 ∧ k = 30) → xg 0 (xh_ui h2 39 30 (Int32.ofInt 1)).2.1 c k = xg 0 h2.2.1 c k := fun c k e => gx_i e
      have e30 : xg 0 (xh_ui h2 39 30 (Int32.ofInt 1)).2.1 39 30 = 1 := gx_s
      have i3 : a_inv a_tb (xh_ui h2 39 30 (Int32.ofInt 1)) := hk3'.1
      generalize xh_ui h2 39 30 (Int32.ofInt 1) = h3 at hk3' eo e30 i3 ⊢
      have hk3 : hk ed_md h0 h3 := hk_t (hk_t (hk_0 (h := h0) (md := ed_md) hi0) hk2 (by decide)) hk3' (fun _ z => z)
      have q3 := hk_q hk3 hn0
      refine xp_run q3 rfl rfl (sg_run (d := d + 1) (c := 59) q3) ?_
      rintro v h4 ⟨rfl, rfl⟩
      cases hs : sgb h3 59 with
      | true =>
        have k4 := kd_e (k := 4) (by decide) (sgb_4 hs)
        refine xa_tn 365 [] [] [.int (Int32.ofInt 1)] h3 [true] 5 q3 rfl ⟨rfl, trivial⟩ (fun _ => ?_)
        refine xp_ret rfl rfl rfl ⟨hk3, Or.inr ⟨rfl, Or.inl ⟨e30, ?_, mo_c m45 (fun s _ => eo 45 _ (by omega)), k4, (fr_c (eo 39 8 (by omega))).trans fr2⟩⟩⟩
        obtain ⟨p1, p2, p3, p4, nn, p5, p6, p7⟩ := r2.1
        exact ⟨i3, p2, by rw [eo 39 6 (by omega)]; exact p3, go_Pc p4 (fun j _ _ => eo 39 j (by omega)), nn, by rw [eo 39 26 (by omega)]; exact p5, p6, fun k hk' => mo_c (p7 k hk') (fun s _ => eo 43 _ (by omega))⟩
      | false =>
        refine xa_tn 354 [] [] [.int (Int32.ofInt 1), .ref 39] h3 [false] 5 q3 rfl ⟨rfl, trivial⟩ (fun _ => ?_)
        refine xp_int (C := aC_m_X10_bad) (lo := 0) (hi := 0) (σ := fun _ => 0) as_m_X10_bad q3 i3 rfl rfl rfl (Nat.zero_le _) ⟨a_av (by decide) q3.1, a_ai (by decide) (by decide), trivial⟩ a_fp0 rfl (fun x hx x1 x2 ix lx fx qx => ?_)
        cases i00 x1 x2
        refine xa_tn 365 [] [] [.int (Int32.ofInt 0)] hx [true] 4 qx rfl ⟨rfl, trivial⟩ (fun _ => ?_)
        exact xp_ret rfl rfl rfl ⟨hk_c hk3 ix lx fx (by decide), Or.inl rfl⟩
    | true =>
      refine xa_tn 369 [0] [(0, .ref 39)] [.int 41, .ref 39] h2 [true] 10 q2 rfl ⟨hin, c1, trivial⟩ (fun _ => ?_)
      refine xp_run q2 rfl rfl (sg_run (d := d + 1) (c := 41) q2) ?_
      rintro v h4 ⟨rfl, rfl⟩
      cases hs : sgb h2 41 with
      | false =>
        refine xa_tn 377 [] [] [.int (Int32.ofInt 1), .ref 39] h2 [false] 5 q2 rfl ⟨rfl, trivial⟩ (fun _ => ?_)
        refine xp_int (C := aC_m_X10_bad) (lo := 0) (hi := 0) (σ := fun _ => 0) as_m_X10_bad q2 r2.1.1 rfl rfl rfl (Nat.zero_le _) ⟨a_av (by decide) q2.1, a_ai (by decide) (by decide), trivial⟩ a_fp0 rfl (fun x hx x1 x2 ix lx fx qx => ?_)
        cases i00 x1 x2
        exact xp_ret rfl rfl rfl ⟨hk_t (hk_0 hi0) (hk_c hk2 ix lx fx (by decide)) (by decide), Or.inl rfl⟩
      | true =>
        have k4 := kd_e (k := 4) (by decide) (sgb_4 hs)
        have tp1 : 1 ≤ tp := by
          rcases Nat.eq_zero_or_pos tp with z | z
          · exfalso
            rw [e28, z] at c1
            have c2 := xne_i c1
            exact c2 r2.2.1
          · exact z
        obtain ⟨t', rfl⟩ : ∃ t', tp = t' + 1 := ⟨tp - 1, by omega⟩
        refine xa_tn 392 [] [] [.ref 39] (xh_ui h2 39 28 ((xg 0 h2.2.1 39 28) - (Int32.ofInt 1))) [true] 10 q2 rfl ⟨rfl, trivial⟩ (fun _ => ?_)
        rw [e28, nI_sub1]
        have ti := nI_toInt (n := t') (by omega)
        have hk3' : hk bg_md h2 (xh_ui h2 39 28 (nI t')) := hk_ui (s := (0, 10)) (lo := 0) (hi := 12) (hk_0 r2.1.1) hn2 rfl rfl (by omega) (by omega) rfl rfl
        have r3 := rI_dn r2 e28 hk3' (by omega)
        have eo : ∀ c k, ¬ (c = 39 ∧ k = 28) → xg 0 (xh_ui h2 39 28 (nI t')).2.1 c k = xg 0 h2.2.1 c k := fun c k e => gx_i e
        generalize xh_ui h2 39 28 (nI t') = h3 at hk3' r3 eo ⊢
        refine xp_run (hk_q hk3' hn2) rfl rfl (pg (d := d) (hk_n hk3' hn2) r3.1) ?_
        rintro v h5 ⟨rfl, kg5, p5, f5⟩
        have r5 : rI h5 sz B := rI_go r3 kg5 p5
        have hk5 : hk bg_md h0 h5 := hk_t (hk_t hk2 hk3' (fun _ z => z)) kg5 (by decide)
        refine xa_tn 396 [] [] [.int (Int32.ofInt 1)] h5 [] 3 (hk_q hk5 hn0) rfl trivial (fun _ => ?_)
        have kd3 : kd h3 = 4 := by
          unfold kd at k4 ⊢
          rw [eo 39 9 (by omega)]
          exact k4
        have fr3 : fr h3 = fr h0 := (fr_c (eo 39 8 (by omega))).trans fr2
        have f6 := f5 (by omega)
        refine xp_ret rfl rfl rfl ⟨hk_t (hk_0 hi0) hk5 (by decide), Or.inr ⟨rfl, Or.inr ⟨?_, rI_B (by omega) r5, Or.inl ⟨by omega, Or.inr ⟨?_, ?_⟩⟩⟩⟩⟩
        · rw [hk_g (c := 39) (k := 30) kg5 rfl rfl, eo 39 30 (by omega), e39]
          exact h30
        · rw [hk_g (c := 39) (k := 29) kg5 rfl rfl, eo 39 29 (by omega), e39]
          exact h29
        · exact mo_c m45 (fun s _ => by rw [hk_g (c := 45) (k := 0 + s) kg5 rfl rfl, eo 45 _ (by omega)])
end XE2
