section XB1
/-- the token is a member's letter -/
def onb (h : xh_H) : Bool := decide (xg 0 h.2.1 39 9 = 2) && decide (xg 0 h.2.1 39 12 = 1)
theorem onb_2 {h : xh_H} (z : onb h = true) : xg 0 h.2.1 39 9 = 2 := by
  unfold onb at z
  rw [Bool.and_eq_true] at z
  exact of_decide_eq_true z.1
/-- the sets with a member -/
def on_F (m : Nat) (s : Nat) : Int32 := bl (s.testBit m)
theorem on_mo {m : Nat} : a_mono (fun s => (on_F m s).toInt) 4096 := by
  intro s t _ _ hst
  have h1 : (s.testBit m && t.testBit m) = s.testBit m := by rw [← Nat.testBit_and, hst]
  dsimp only
  unfold on_F
  cases hs : s.testBit m with
  | false => cases t.testBit m <;> decide
  | true =>
    rw [hs] at h1
    cases ht : t.testBit m with
    | true => decide
    | false => rw [ht] at h1; cases h1
theorem b01 {x : Int32} (h1 : 0 ≤ x.toInt) (h2 : x.toInt ≤ 1) : vp_nar .boolean x = x := vn_01 h1 h2
set_option maxRecDepth 100000 in
set_option maxHeartbeats 16000000 in
/-- X10.beginOne, behind its tests -/
theorem b1_tail {d sz nn : Nat} {B : Int} {h : xh_H} (hB : 0 ≤ B) (hn : 72 ≤ h.1.length) (g : rI h sz B) (hnn : xg 0 h.2.1 39 26 = nI nn) (n16 : nn ≤ 16) (hkd : 2 ≤ kd h) (hor : xg 0 h.2.1 39 9 = 3 ∨ sgb h 40 = true ∨ onb h = true ∨ nmb h = true) (hmem : onb h = true → 0 ≤ ((xg 0 h.2.2.1 39 15).toInt32 - Int32.ofInt 1).toInt ∧ ((xg 0 h.2.2.1 39 15).toInt32 - Int32.ofInt 1).toInt ≤ 11) (hnam : nmb h = true → ∃ k, k < nn ∧ nhp h k) (hone : (xg 0 h.2.1 39 27).toInt ≤ 119) (htop : xg 0 h.2.1 39 9 = 4 → xg 0 h.2.1 39 28 ≠ 12) : xt_P (d + 4) xi_X10_beginOne xmi_X10_beginOne 161 [(0, .ref 39), (1, .int (bl (onb h)))] [] h (bg_Q h sz B) := by
  have hq := a_rq_of g.1.1.1 hn
  have ob := a_flx (c := 39) (k := 27) (lo := 0) (hi := 120) g.1.1.1 hn rfl rfl (by decide)
  have oi := i_inc (x := xg 0 h.2.1 39 27) (by omega)
  refine xa_tn 171 [0, 1] [(0, .ref 39), (1, .int (bl (onb h)))] [] (xh_ui h 39 27 ((xg 0 h.2.1 39 27) + (Int32.ofInt 1))) [] 8 hq rfl trivial (fun _ => ?_)
  have hk1 : hk bg_md h (xh_ui h 39 27 ((xg 0 h.2.1 39 27) + (Int32.ofInt 1))) := hk_ui (s := (0, 10)) (lo := 0) (hi := 120) (hk_0 g.1.1) hn rfl rfl (by omega) (by omega) rfl rfl
  have r1 : rI (xh_ui h 39 27 ((xg 0 h.2.1 39 27) + (Int32.ofInt 1))) sz B := rI_ui g hk1 (by omega) (by decide)
  have eo : ∀ c k, ¬ (c = 39 ∧ k = 27) → xg 0 (xh_ui h 39 27 ((xg 0 h.2.1 39 27) + (Int32.ofInt 1))).2.1 c k = xg 0 h.2.1 c k := fun c k e => gx_i e
  have el : (xh_ui h 39 27 ((xg 0 h.2.1 39 27) + (Int32.ofInt 1))).2.2 = h.2.2 := rfl
  generalize xh_ui h 39 27 ((xg 0 h.2.1 39 27) + (Int32.ofInt 1)) = h1 at hk1 r1 eo el ⊢
  have q1 := hk_q hk1 hn
  have hn1 := hk_n hk1 hn
  have fr01 : fr h1 = fr h := fr_c (eo 39 8 (by omega))
  have kd01 : kd h1 = kd h := by unfold kd; rw [eo 39 9 (by omega)]
  cases c3 : xe_c .ne (xg 0 h1.2.1 39 9) (Int32.ofInt 3) with
  | false =>
    have e3 : xg 0 h1.2.1 39 9 = 3 := xne_j c3
    obtain ⟨n, en, n999⟩ := num_3 r1.1.2.2.2.1 e3
    refine xa_tn 185 [0, 2] [(0, .ref 39), (2, .int (xg 0 h1.2.1 39 10))] [.ref 39] h1 [false] 10 q1 rfl ⟨c3, trivial⟩ (fun _ => ?_)
    rw [en]
    refine xp_run q1 rfl rfl (pg (d := d + 2) hn1 r1.1) ?_
    rintro v h2 ⟨rfl, kg2, p2, f2⟩
    have r2 : rI h2 sz B := rI_go r1 kg2 p2
    have hk2 : hk bg_md h h2 := hk_t hk1 kg2 (by decide)
    have fr2 := f2 (by omega)
    refine xa_tn 190 [] [] [.int (nI n), .ref 39] h2 [] 4 (hk_q hk2 hn) rfl trivial (fun _ => ?_)
    refine xp_run (hk_q hk2 hn) rfl rfl (bl_run (d := d) hB (hk_n hk2 hn) r2 n999) ?_
    rintro v h3 ⟨kk3, g3⟩
    have hk3 : hk bg_md h h3 := hk_t hk2 kk3 (fun _ z => z)
    rcases g3 with rfl | ⟨rfl, r3, f3, a3⟩
    · exact xp_ret rfl rfl rfl ⟨hk3, Or.inl rfl⟩
    · exact xp_ret rfl rfl rfl ⟨hk3, Or.inr ⟨rfl, r3, by omega, a3⟩⟩
  | true =>
    have n3 : xg 0 h1.2.1 39 9 ≠ 3 := xne_i c3
    refine xa_tn 194 [0, 1] [(0, .ref 39), (1, .int (bl (onb h)))] [] h1 [true] 6 q1 rfl ⟨c3, trivial⟩ (fun _ => ?_)
    cases c4 : xe_c .ne (xg 0 h1.2.1 39 9) (Int32.ofInt 4) with
    | false =>
      have e4 : xg 0 h1.2.1 39 9 = 4 := xne_j c4
      have e4' : xg 0 h.2.1 39 9 = 4 := by rw [← eo 39 9 (by omega)]; exact e4
      obtain ⟨p1, r2, tp, r3, r4, r5⟩ := r1
      have tne : tp ≠ 12 := by
        intro z
        refine htop e4' ?_
        rw [← eo 39 28 (by omega), r3, z]
        rfl
      refine xa_tn 214 [] [] [.int (Int32.ofInt 1), .ref 39] (xh_ui h1 39 28 ((xg 0 h1.2.1 39 28) + (Int32.ofInt 1))) [false] 14 q1 rfl ⟨c4, trivial⟩ (fun _ => ?_)
      have e1 : nI tp + Int32.ofInt 1 = nI (tp + 1) := nI_1 tp
      rw [r3, e1]
      have tp1 := nI_toInt (n := tp + 1) (by omega)
      have hk2' : hk bg_md h1 (xh_ui h1 39 28 (nI (tp + 1))) := hk_ui (s := (0, 10)) (lo := 0) (hi := 12) (hk_0 p1.1) hn1 rfl rfl (by omega) (by omega) rfl rfl
      have p2 : pi (xh_ui h1 39 28 (nI (tp + 1))) sz := pi_tr p1 hk2' (go_Pc p1.2.2.2.1 (fun j j1 j2 => gx_k (by omega)))
      have e28 : xg 0 (xh_ui h1 39 28 (nI (tp + 1))).2.1 39 28 = nI (tp + 1) := gx_s
      have eo2 : ∀ c k, ¬ (c = 39 ∧ k = 28) → xg 0 (xh_ui h1 39 28 (nI (tp + 1))).2.1 c k = xg 0 h1.2.1 c k := fun c k e => gx_i e
      generalize xh_ui h1 39 28 (nI (tp + 1)) = h2 at hk2' p2 e28 eo2 ⊢
      refine xp_run (hk_q hk2' hn1) rfl rfl (opr_run (d := d + 1) (tp := tp + 1) (B := B) (ty := Int32.ofInt 1) (hk_n hk2' hn1) p2 e28 (by omega) (fun t ht' => lvo_c (r5 t (by omega)) (fun _ _ => eo2 _ _ (by omega)) (fun _ _ => eo2 _ _ (by omega)) (fun _ _ => eo2 _ _ (by omega)) (eo2 _ _ (by omega))) (by decide) (Or.inr ⟨by omega, by rw [eo2 47 0 (by omega)]; exact r2⟩)) ?_
      rintro v h3 ⟨rfl, kk3, r3', aw3, f3⟩
      have hk3 : hk bg_md h h3 := hk_t (hk_t hk1 hk2' (fun _ z => z)) kk3 (fun _ z => z)
      refine xa_tn 218 [] [] [.int (Int32.ofInt 1)] h3 [] 3 (hk_q hk3 hn) rfl trivial (fun _ => ?_)
      refine xp_ret rfl rfl rfl ⟨hk3, Or.inr ⟨rfl, r3', ?_, Or.inl aw3⟩⟩
      have k2 : kd h2 = kd h1 := by unfold kd; rw [eo2 39 9 (by omega)]
      have f4 := f3 (by omega)
      rw [fr_c (h := h1) (h' := h2) (eo2 39 8 (by omega))] at f4
      omega
    | true =>
      have n4 : xg 0 h1.2.1 39 9 ≠ 4 := xne_i c4
      refine xa_tn 228 [0, 1, 2] [(0, .ref 39), (1, .int (bl (onb h))), (2, .int (((xg 0 h1.2.2.1 39 15).toInt32) - (Int32.ofInt 1)))] [.ref 39] h1 [true] 13 q1 rfl ⟨c4, trivial⟩ (fun _ => ?_)
      refine xp_run q1 rfl rfl (nh_run (d := d + 3) (n := nn) q1 (by rw [eo 39 26 (by omega)]; exact hnn) n16) ?_
      rintro v h2 ⟨rfl, hv⟩
      have nhe : ∀ k, nhp h1 k ↔ nhp h k := fun k => by unfold nhp; rw [el]
      have loop : ∀ (nm : Int32) (F : Nat → Int32), (∀ s, s < 4096 → 0 ≤ (F s).toInt ∧ (F s).toInt ≤ 1) → a_mono (fun s => (F s).toInt) 4096 → ((onb h = true ∧ ∃ m : Nat, (xg 0 h1.2.2.1 39 15).toInt32 - Int32.ofInt 1 = nI m ∧ m ≤ 11 ∧ F = on_F m) ∨ (onb h = false ∧ ∃ k : Nat, nm = nI k ∧ k < 16 ∧ F = fun s => xg 0 h1.2.1 43 (4096 * k + s))) → xt_P (d + 4) xi_X10_beginOne xmi_X10_beginOne 231 [(0, .ref 39), (1, .int (bl (onb h))), (2, .int (((xg 0 h1.2.2.1 39 15).toInt32) - (Int32.ofInt 1)))] [.int nm] h1 (bg_Q h sz B) := by
        intro nm F hF hmo hcase
        generalize ((xg 0 h1.2.2.1 39 15).toInt32) - (Int32.ofInt 1) = m0 at hcase
        refine xa_tn 235 [0, 1, 2, 3, 4] [(0, .ref 39), (1, .int (bl (onb h))), (2, .int m0), (3, .int nm), (4, .int (Int32.ofInt 0))] [] h1 [] 5 q1 rfl trivial (fun _ => ?_)
        refine rl_loop (h0 := h1) (c := 45) (B := 0) (F := F) (N := 4096) (P := fun s h' => xt_P (d + 4) xi_X10_beginOne xmi_X10_beginOne 235 [(0, .ref 39), (1, .int (bl (onb h))), (2, .int m0), (3, .int nm), (4, .int (nI s))] [] h' (bg_Q h sz B)) ?_ ?_
        · intro s h2 hs gl K
          have q2 := rl_q gl q1
          have hge : xe_c .ge (nI s) 4096 = false := nge_f (b := 4096) (by omega) (by omega) hs
          have hin := xin_n (k := s) (n := 4096) hs (by omega)
          have e1 : nI s + Int32.ofInt 1 = nI (s + 1) := nI_1 s
          have ecl : (nI s).toNatClampNeg = s := nI_clamp (by omega)
          rw [Nat.zero_add] at K
          rcases hcase with ⟨z1, m, z2, z3, z4⟩ | ⟨z1, k, z2, z3, z4⟩
          · have bb := nI_b0 (a := s) (k := m) (by omega) (by omega)
            have eF : F s = bl (s.testBit m) := by rw [z4]; rfl
            subst z2
            have z1' : xe_c .eq (bl (onb h)) 0 = false := by rw [z1]; rfl
            cases ts : s.testBit m with
            | false =>
              rw [ts] at bb eF
              refine xa_tn 235 [0, 1, 2, 3, 4] [(0, .ref 39), (1, .int (bl (onb h))), (2, .int (nI m)), (3, .int nm), (4, .int ((nI s) + Int32.ofInt 1))] [] (xh_ui h2 45 (nI s).toNatClampNeg (vp_nar .boolean (Int32.ofInt 0))) [false, false, true] 22 q2 rfl ⟨hge, z1', (show xe_c .ne (((nI s) >>> (nI m &&& 31)) &&& (Int32.ofInt 1)) (Int32.ofInt 1) = true by rw [bb]; rfl), hin, trivial⟩ (fun _ => ?_)
              rw [ecl, e1]
              rw [eF] at K
              exact K
            | true =>
              rw [ts] at bb eF
              refine xa_tn 235 [0, 1, 2, 3, 4] [(0, .ref 39), (1, .int (bl (onb h))), (2, .int (nI m)), (3, .int nm), (4, .int ((nI s) + Int32.ofInt 1))] [] (xh_ui h2 45 (nI s).toNatClampNeg (vp_nar .boolean (Int32.ofInt 1))) [false, false, false] 22 q2 rfl ⟨hge, z1', (show xe_c .ne (((nI s) >>> (nI m &&& 31)) &&& (Int32.ofInt 1)) (Int32.ofInt 1) = false by rw [bb]; rfl), hin, trivial⟩ (fun _ => ?_)
              rw [ecl, e1]
              rw [eF] at K
              exact K
          · subst z2
            have z1' : xe_c .eq (bl (onb h)) 0 = true := by rw [z1]; rfl
            have e43 : xg 0 h2.2.1 43 (4096 * k + s) = F s := by rw [rl_o gl (by omega), z4]
            have bF := hF s hs
            refine xa_tn 235 [0, 1, 2, 3, 4] [(0, .ref 39), (1, .int (bl (onb h))), (2, .int m0), (3, .int (nI k)), (4, .int ((nI s) + Int32.ofInt 1))] [] (xh_ui h2 45 (nI s).toNatClampNeg (vp_nar .boolean (xg 0 h2.2.1 43 ((4096 * (nI k)) + (nI s)).toNatClampNeg))) [false, true] 21 q2 rfl ⟨hge, z1', (show xe_in ((4096 * (nI k)) + (nI s)) 65536 = true by rw [i4096]; exact xin_n (by omega) (by omega)), hin, trivial⟩ (fun _ => ?_)
            rw [ecl, e1, i4096, nI_clamp (n := 4096 * k + s) (by omega), e43, b01 bF.1 bF.2]
            exact K
        · intro h2 gl
          have q2 := rl_q gl q1
          have hk2 : hk bg_md h h2 := rl_hk (kd := 3) (sz := 4096) (lo := 0) (hi := 1) gl hk1 hn rfl (by decide) rfl hF (fun _ => rfl) (fun _ => rfl)
          have r2 : rI h2 sz B := rI_tr r1 (rl_hk (kd := 3) (sz := 4096) (lo := 0) (hi := 1) gl (hk_0 r1.1.1) hn1 rfl (by decide) rfl hF (fun _ => rfl) (fun _ => rfl)) (go_Pc r1.1.2.2.2.1 (fun j j1 j2 => rl_o gl (by omega))) (rl_o gl (by omega)) (fun _ => rl_o gl (by omega)) (fun _ => rl_o gl (by omega)) (fun _ => rl_o gl (by omega)) (fun _ => rl_o gl (by omega))
          refine xa_tn 292 [0] [(0, .ref 39)] [.ref 39] h2 [true] 6 q2 rfl ⟨by decide, trivial⟩ (fun _ => ?_)
          refine xp_run q2 rfl rfl (pg (d := d + 2) (hk_n hk2 hn) r2.1) ?_
          rintro v h3 ⟨rfl, kg3, p3, f3⟩
          have r3 : rI h3 sz B := rI_go r2 kg3 p3
          have hk3 : hk bg_md h h3 := hk_t hk2 kg3 (by decide)
          have k2 : kd h2 = kd h1 := by unfold kd; rw [rl_o gl (by omega)]
          have fr2 : fr h2 = fr h1 := fr_c (rl_o gl (by omega))
          have f4 := f3 (by omega)
          refine xa_tn 301 [] [] [.int (Int32.ofInt 1)] (xh_ui h3 39 29 (Int32.ofInt 0)) [] 6 (hk_q hk3 hn) rfl ⟨Or.inl rfl, trivial⟩ (fun _ => ?_)
          have hk4' : hk bg_md h3 (xh_ui h3 39 29 (Int32.ofInt 0)) := hk_ui (s := (0, 10)) (lo := 0) (hi := 1) (hk_0 p3.1) (hk_n hk3 hn) rfl rfl (by decide) (by decide) rfl rfl
          refine xp_ret rfl rfl rfl ⟨hk_t hk3 hk4' (fun _ z => z), Or.inr ⟨rfl, rI_ui r3 hk4' (by omega) (by decide), ?_, Or.inr ⟨gx_s, ?_⟩⟩⟩
          · have : fr (xh_ui h3 39 29 (Int32.ofInt 0)) = fr h3 := fr_c (gx_k (by decide))
            omega
          · intro s t hs ht hst
            have := hmo s t hs ht hst
            dsimp only at this ⊢
            rw [Nat.zero_add, Nat.zero_add, gx_o (by decide), gx_o (by decide), hk_g (c := 45) (k := s) kg3 rfl rfl, hk_g (c := 45) (k := t) kg3 rfl rfl]
            have es : xg 0 h2.2.1 45 s = F s := by
              have := rl_i gl hs
              rw [Nat.zero_add] at this
              exact this
            have et : xg 0 h2.2.1 45 t = F t := by
              have := rl_i gl ht
              rw [Nat.zero_add] at this
              exact this
            rw [es, et]
            exact this
      cases hp : onb h with
      | true =>
        have hm := hmem hp
        obtain ⟨m, em, m11, -⟩ := a_nk (x := (xg 0 h.2.2.1 39 15).toInt32 - Int32.ofInt 1) (m := 11) hm.1 hm.2
        have lp : ∀ nm, xt_P (d + 4) xi_X10_beginOne xmi_X10_beginOne 231 [(0, .ref 39), (1, .int (bl (onb h))), (2, .int (((xg 0 h1.2.2.1 39 15).toInt32) - (Int32.ofInt 1)))] [.int nm] h1 (bg_Q h sz B) := fun nm => loop nm (on_F m) (fun s _ => by unfold on_F; cases s.testBit m <;> decide) on_mo (Or.inl ⟨hp, m, by rw [el]; exact em, m11, rfl⟩)
        rw [hp] at lp
        rcases hv with ⟨rfl, -⟩ | ⟨k, -, rfl, -⟩
        · exact lp _
        · exact lp _
      | false =>
        have hname : nmb h = true := by
          rcases hor with z | z | z | z
          · exact absurd (by rw [eo 39 9 (by omega)]; exact z) n3
          · exact absurd (by rw [eo 39 9 (by omega)]; exact sgb_4 z) n4
          · rw [hp] at z; cases z
          · exact z
        obtain ⟨k0, k0n, hk0⟩ := hnam hname
        rcases hv with ⟨-, hno⟩ | ⟨k, kn, rfl, -⟩
        · exact absurd ((nhe k0).mpr hk0) (hno k0 k0n)
        · have lp := loop (nI k) (fun s => xg 0 h1.2.1 43 (4096 * k + s)) (fun s hs => a_blx (c := 43) (k := 4096 * k + s) (lo := 0) (hi := 1) r1.1.1.1 hn1 rfl rfl (by omega)) (by
            obtain ⟨nn', e1', e2', e3'⟩ := r1.1.2.2.2.2
            have en : nn' = nn := (nI_eq (by omega) (by omega)).mp (by rw [← e1', eo 39 26 (by omega)]; exact hnn)
            subst en
            exact e3' k kn) (Or.inr ⟨hp, k, rfl, by omega, rfl⟩)
          rw [hp] at lp
          exact lp
end XB1
