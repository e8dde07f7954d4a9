section XB2
set_option maxRecDepth 100000 in
/-- the reference's isMember -/
theorem im_run {d : Nat} {m : Int32} {h : xh_H} (hi : a_inw a_tb h) (hn : 72 ≤ h.1.length) : xt_P d xi_X10_isMember xmi_X10_isMember 0 [(0, .ref 39), (1, .int m)] [] h (fun v h' => h = h' ∧ ∃ p : Bool, v = some (.int (bl p)) ∧ (p = true → 0 ≤ m.toInt ∧ m.toInt ≤ 11)) := by
  have hq := a_rq_of hi hn
  have mb := a_flx (c := 39) (k := 4) (lo := 1) (hi := 12) hi hn rfl rfl (by decide)
  have z0 : (0 : Int32).toInt = 0 := rfl
  cases c1 : xe_c .lt m 0 with
  | true =>
    refine xa_tn 17 [] [] [.int (Int32.ofInt 0)] h [true] 10 hq rfl ⟨c1, trivial⟩ (fun _ => ?_)
    exact xp_ret rfl rfl rfl ⟨rfl, false, rfl, fun z => Bool.noConfusion z⟩
  | false =>
    have b1 : (0 : Int32).toInt ≤ m.toInt := a_ce (a_neg_ok c1)
    cases c2 : xe_c .ge m (xg 0 h.2.1 39 4) with
    | true =>
      refine xa_tn 17 [] [] [.int (Int32.ofInt 0)] h [false, true] 12 hq rfl ⟨c1, c2, trivial⟩ (fun _ => ?_)
      exact xp_ret rfl rfl rfl ⟨rfl, false, rfl, fun z => Bool.noConfusion z⟩
    | false =>
      have b2 : m.toInt < (xg 0 h.2.1 39 4).toInt := a_ce (a_neg_ok c2)
      refine xa_tn 17 [] [] [.int (Int32.ofInt 1)] h [false, false] 12 hq rfl ⟨c1, c2, trivial⟩ (fun _ => ?_)
      exact xp_ret rfl rfl rfl ⟨rfl, true, rfl, fun _ => ⟨by omega, by omega⟩⟩
set_option maxRecDepth 100000 in
set_option maxHeartbeats 16000000 in
/-- X10.beginOne -/
theorem b1_run {d sz : Nat} {B : Int} {h : xh_H} (hB : 0 ≤ B) (hn : 72 ≤ h.1.length) (g : rI h sz B) : xt_P (d + 4) xi_X10_beginOne xmi_X10_beginOne 0 [(0, .ref 39)] [] h (bg_Q h sz B) := by
  have hq := a_rq_of g.1.1.1 hn
  have k0 : hk bg_md h h := hk_0 g.1.1
  obtain ⟨nn, hnn, n16, -⟩ := g.1.2.2.2.2
  -- from 122 on
  have s122 : 2 ≤ kd h → (xg 0 h.2.1 39 9 = 3 ∨ sgb h 40 = true ∨ onb h = true ∨ nmb h = true) → (onb h = true → 0 ≤ ((xg 0 h.2.2.1 39 15).toInt32 - Int32.ofInt 1).toInt ∧ ((xg 0 h.2.2.1 39 15).toInt32 - Int32.ofInt 1).toInt ≤ 11) → (nmb h = true → ∃ k, k < nn ∧ nhp h k) → xt_P (d + 4) xi_X10_beginOne xmi_X10_beginOne 122 [(0, .ref 39), (1, .int (bl (onb h)))] [] h (bg_Q h sz B) := by
    intro hkd hor hmem hnam
    have ob := a_flx (c := 39) (k := 27) (lo := 0) (hi := 120) g.1.1.1 hn rfl rfl (by decide)
    have z120 : (120 : Int32).toInt = 120 := rfl
    cases c1 : xe_c .ne (xg 0 h.2.1 39 27) 120 with
    | false =>
      refine xa_tn 133 [] [] [.int (Int32.ofInt 4), .ref 39] h [false] 8 hq rfl ⟨c1, trivial⟩ (fun _ => ?_)
      refine xp_int (C := aC_m_X10_bad) (lo := 0) (hi := 0) (σ := fun _ => 0) as_m_X10_bad hq g.1.1 rfl rfl rfl (Nat.zero_le _) ⟨a_av (by decide) hq.1, a_ai (by decide) (by decide), trivial⟩ a_fp0 rfl (fun x hx x1 x2 ix lx fx qx => ?_)
      cases i00 x1 x2
      exact xp_ret rfl rfl rfl ⟨hk_c k0 ix lx fx (by decide), Or.inl rfl⟩
    | true =>
      have o119 : (xg 0 h.2.1 39 27).toInt ≤ 119 := by
        have := a_ce c1
        dsimp only at this
        omega
      refine xa_tn 140 [0, 1] [(0, .ref 39), (1, .int (bl (onb h)))] [.int 40, .ref 39] h [true] 8 hq rfl ⟨c1, trivial⟩ (fun _ => ?_)
      refine xp_run hq rfl rfl (sg_run (d := d + 3) (c := 40) hq) ?_
      rintro v h2 ⟨rfl, rfl⟩
      cases hs : sgb h 40 with
      | false =>
        refine xa_tn 161 [0, 1] [(0, .ref 39), (1, .int (bl (onb h)))] [] h [true] 3 hq rfl ⟨rfl, trivial⟩ (fun _ => ?_)
        refine b1_tail hB hn g hnn n16 hkd hor hmem hnam o119 (fun z => ?_)
        -- a sign that is no opening
        exfalso
        rcases hor with w | w | w | w
        · rw [z] at w; exact absurd w (by decide)
        · rw [hs] at w; cases w
        · have := onb_2 w; rw [z] at this; exact absurd this (by decide)
        · have := nmb_2 w; rw [z] at this; exact absurd this (by decide)
      | true =>
        cases c2 : xe_c .ne (xg 0 h.2.1 39 28) 12 with
        | false =>
          refine xa_tn 157 [] [] [.int (Int32.ofInt 4), .ref 39] h [false, false] 9 hq rfl ⟨rfl, c2, trivial⟩ (fun _ => ?_)
          refine xp_int (C := aC_m_X10_bad) (lo := 0) (hi := 0) (σ := fun _ => 0) as_m_X10_bad hq g.1.1 rfl rfl rfl (Nat.zero_le _) ⟨a_av (by decide) hq.1, a_ai (by decide) (by decide), trivial⟩ a_fp0 rfl (fun x hx x1 x2 ix lx fx qx => ?_)
          cases i00 x1 x2
          exact xp_ret rfl rfl rfl ⟨hk_c k0 ix lx fx (by decide), Or.inl rfl⟩
        | true =>
          refine xa_tn 161 [0, 1] [(0, .ref 39), (1, .int (bl (onb h)))] [] h [false, true] 7 hq rfl ⟨rfl, c2, trivial⟩ (fun _ => ?_)
          exact b1_tail hB hn g hnn n16 hkd hor hmem hnam o119 (fun _ => xne_i c2)
  -- from 102 on
  have s102 : 2 ≤ kd h → (xg 0 h.2.1 39 9 = 3 ∨ sgb h 40 = true ∨ onb h = true ∨ nmb h = true) → (onb h = true → 0 ≤ ((xg 0 h.2.2.1 39 15).toInt32 - Int32.ofInt 1).toInt ∧ ((xg 0 h.2.2.1 39 15).toInt32 - Int32.ofInt 1).toInt ≤ 11) → xt_P (d + 4) xi_X10_beginOne xmi_X10_beginOne 102 [(0, .ref 39), (1, .int (bl (onb h)))] [.ref 39] h (bg_Q h sz B) := by
    intro hkd hor hmem
    refine xp_run hq rfl rfl (nm_run (d := d + 1) hq) ?_
    rintro v h2 ⟨rfl, rfl⟩
    cases hnm : nmb h with
    | false =>
      refine xa_tn 122 [0, 1] [(0, .ref 39), (1, .int (bl (onb h)))] [] h [true] 3 hq rfl ⟨rfl, trivial⟩ (fun _ => ?_)
      exact s122 hkd hor hmem (fun z => by rw [hnm] at z; cases z)
    | true =>
      refine xa_tn 109 [0, 1] [(0, .ref 39), (1, .int (bl (onb h)))] [.ref 39] h [false] 4 hq rfl ⟨rfl, trivial⟩ (fun _ => ?_)
      refine xp_run hq rfl rfl (nh_run (d := d + 3) (n := nn) hq hnn n16) ?_
      rintro v h2 ⟨rfl, hv⟩
      rcases hv with ⟨rfl, -⟩ | ⟨k, kn, rfl, hp⟩
      · refine xa_tn 118 [] [] [.int (Int32.ofInt 3), .ref 39] h [false] 6 hq rfl ⟨by decide, trivial⟩ (fun _ => ?_)
        refine xp_int (C := aC_m_X10_bad) (lo := 0) (hi := 0) (σ := fun _ => 0) as_m_X10_bad hq g.1.1 rfl rfl rfl (Nat.zero_le _) ⟨a_av (by decide) hq.1, a_ai (by decide) (by decide), trivial⟩ a_fp0 rfl (fun x hx x1 x2 ix lx fx qx => ?_)
        cases i00 x1 x2
        exact xp_ret rfl rfl rfl ⟨hk_c k0 ix lx fx (by decide), Or.inl rfl⟩
      · refine xa_tn 122 [0, 1] [(0, .ref 39), (1, .int (bl (onb h)))] [] h [true] 4 hq rfl ⟨xne_t (by rw [nI_toInt (by omega)]; show (k : Int) ≠ -1; omega), trivial⟩ (fun _ => ?_)
        exact s122 hkd hor hmem (fun _ => ⟨k, kn, hp⟩)
  -- from 56 on
  have s56 : 2 ≤ kd h → (xg 0 h.2.1 39 9 = 3 ∨ sgb h 40 = true ∨ onb h = true ∨ nmb h = true) → xt_P (d + 4) xi_X10_beginOne xmi_X10_beginOne 56 [(0, .ref 39), (1, .int (bl (onb h)))] [] h (bg_Q h sz B) := by
    intro hkd hor
    have s77 : xt_P (d + 4) xi_X10_beginOne xmi_X10_beginOne 77 [(0, .ref 39), (1, .int (bl (onb h)))] [] h (bg_Q h sz B) := by
      cases hp : onb h with
      | false =>
        refine xa_tn 102 [0, 1] [(0, .ref 39), (1, .int (bl false))] [.ref 39] h [true] 5 hq rfl ⟨rfl, trivial⟩ (fun _ => ?_)
        have := s102 hkd hor (fun z => by rw [hp] at z; cases z)
        rw [hp] at this
        exact this
      | true =>
        refine xa_tn 89 [0, 1] [(0, .ref 39), (1, .int (bl true))] [.int (((xg 0 h.2.2.1 39 15).toInt32) - (Int32.ofInt 1)), .ref 39] h [false] 10 hq rfl ⟨rfl, trivial⟩ (fun _ => ?_)
        have mr := ar_rng (((xg 0 h.2.2.1 39 15).toInt32) - (Int32.ofInt 1))
        refine xp_run hq rfl rfl (im_run (d := d + 3) (m := ((xg 0 h.2.2.1 39 15).toInt32) - (Int32.ofInt 1)) g.1.1.1 hn) ?_
        rintro v h2 ⟨rfl, p, rfl, hm⟩
        cases p with
        | false =>
          refine xa_tn 97 [] [] [.int (Int32.ofInt 2), .ref 39] h [false] 5 hq rfl ⟨rfl, trivial⟩ (fun _ => ?_)
          refine xp_int (C := aC_m_X10_bad) (lo := 0) (hi := 0) (σ := fun _ => 0) as_m_X10_bad hq g.1.1 rfl rfl rfl (Nat.zero_le _) ⟨a_av (by decide) hq.1, a_ai (by decide) (by decide), trivial⟩ a_fp0 rfl (fun x hx x1 x2 ix lx fx qx => ?_)
          cases i00 x1 x2
          exact xp_ret rfl rfl rfl ⟨hk_c k0 ix lx fx (by decide), Or.inl rfl⟩
        | true =>
          refine xa_tn 102 [0, 1] [(0, .ref 39), (1, .int (bl true))] [.ref 39] h [true] 4 hq rfl ⟨rfl, trivial⟩ (fun _ => ?_)
          have := s102 hkd hor (fun _ => hm rfl)
          rw [hp] at this
          exact this
    cases c1 : xe_c .ne (xg 0 h.2.1 39 9) (Int32.ofInt 3) with
    | true =>
      refine xa_tn 77 [0, 1] [(0, .ref 39), (1, .int (bl (onb h)))] [] h [true] 6 hq rfl ⟨c1, trivial⟩ (fun _ => ?_)
      exact s77
    | false =>
      cases c2 : xe_c .ne (xg 0 h.2.1 39 10) 0 with
      | true =>
        refine xa_tn 77 [0, 1] [(0, .ref 39), (1, .int (bl (onb h)))] [] h [false, true] 9 hq rfl ⟨c1, c2, trivial⟩ (fun _ => ?_)
        exact s77
      | false =>
        refine xa_tn 73 [] [] [.int (Int32.ofInt 2), .ref 39] h [false, false] 11 hq rfl ⟨c1, c2, trivial⟩ (fun _ => ?_)
        refine xp_int (C := aC_m_X10_bad) (lo := 0) (hi := 0) (σ := fun _ => 0) as_m_X10_bad hq g.1.1 rfl rfl rfl (Nat.zero_le _) ⟨a_av (by decide) hq.1, a_ai (by decide) (by decide), trivial⟩ a_fp0 rfl (fun x hx x1 x2 ix lx fx qx => ?_)
        cases i00 x1 x2
        exact xp_ret rfl rfl rfl ⟨hk_c k0 ix lx fx (by decide), Or.inl rfl⟩
  -- from 22 on
  have s22 : xt_P (d + 4) xi_X10_beginOne xmi_X10_beginOne 22 [(0, .ref 39), (1, .int (bl (onb h)))] [] h (bg_Q h sz B) := by
    cases c1 : xe_c .eq (xg 0 h.2.1 39 9) (Int32.ofInt 3) with
    | true =>
      have e3 : xg 0 h.2.1 39 9 = 3 := of_decide_eq_true c1
      refine xa_tn 56 [0, 1] [(0, .ref 39), (1, .int (bl (onb h)))] [] h [true] 6 hq rfl ⟨c1, trivial⟩ (fun _ => ?_)
      exact s56 (by rw [kd_e (k := 3) (by decide) e3]; decide) (Or.inl e3)
    | false =>
      refine xa_tn 33 [0, 1] [(0, .ref 39), (1, .int (bl (onb h)))] [.int 40, .ref 39] h [false] 8 hq rfl ⟨c1, trivial⟩ (fun _ => ?_)
      refine xp_run hq rfl rfl (sg_run (d := d + 3) (c := 40) hq) ?_
      rintro v h2 ⟨rfl, rfl⟩
      cases hs : sgb h 40 with
      | true =>
        refine xa_tn 56 [0, 1] [(0, .ref 39), (1, .int (bl (onb h)))] [] h [true] 3 hq rfl ⟨rfl, trivial⟩ (fun _ => ?_)
        exact s56 (by rw [kd_e (k := 4) (by decide) (sgb_4 hs)]; decide) (Or.inr (Or.inl hs))
      | false =>
        cases hp : onb h with
        | true =>
          refine xa_tn 56 [0, 1] [(0, .ref 39), (1, .int (bl true))] [] h [false, true] 5 hq rfl ⟨rfl, rfl, trivial⟩ (fun _ => ?_)
          have := s56 (by rw [kd_e (k := 2) (by decide) (onb_2 hp)]; decide) (Or.inr (Or.inr (Or.inl hp)))
          rw [hp] at this
          exact this
        | false =>
          refine xa_tn 44 [0, 1] [(0, .ref 39), (1, .int (bl false))] [.ref 39] h [false, false] 6 hq rfl ⟨rfl, rfl, trivial⟩ (fun _ => ?_)
          refine xp_run hq rfl rfl (nm_run (d := d + 1) hq) ?_
          rintro v h2 ⟨rfl, rfl⟩
          cases hnm : nmb h with
          | true =>
            refine xa_tn 56 [0, 1] [(0, .ref 39), (1, .int (bl false))] [] h [true] 3 hq rfl ⟨rfl, trivial⟩ (fun _ => ?_)
            have := s56 (by rw [kd_e (k := 2) (by decide) (nmb_2 hnm)]; decide) (Or.inr (Or.inr (Or.inr hnm)))
            rw [hp] at this
            exact this
          | false =>
            refine xa_tn 52 [] [] [.int (Int32.ofInt 1), .ref 39] h [false] 5 hq rfl ⟨rfl, trivial⟩ (fun _ => ?_)
            refine xp_int (C := aC_m_X10_bad) (lo := 0) (hi := 0) (σ := fun _ => 0) as_m_X10_bad hq g.1.1 rfl rfl rfl (Nat.zero_le _) ⟨a_av (by decide) hq.1, a_ai (by decide) (by decide), trivial⟩ a_fp0 rfl (fun x hx x1 x2 ix lx fx qx => ?_)
            cases i00 x1 x2
            exact xp_ret rfl rfl rfl ⟨hk_c k0 ix lx fx (by decide), Or.inl rfl⟩
  cases c1 : xe_c .ne (xg 0 h.2.1 39 9) (Int32.ofInt 2) with
  | true =>
    have hp : onb h = false := by
      unfold onb
      rw [decide_eq_false (show ¬ xg 0 h.2.1 39 9 = 2 from xne_i c1)]
      rfl
    rw [hp] at s22
    refine xa_tn 22 [0, 1] [(0, .ref 39), (1, .int (Int32.ofInt 0))] [] h [true] 8 hq rfl ⟨c1, trivial⟩ (fun _ => ?_)
    exact s22
  | false =>
    cases c2 : xe_c .ne (xg 0 h.2.1 39 12) (Int32.ofInt 1) with
    | true =>
      have hp : onb h = false := by
        unfold onb
        rw [decide_eq_false (show ¬ xg 0 h.2.1 39 12 = 1 from xne_i c2), Bool.and_false]
      rw [hp] at s22
      refine xa_tn 22 [0, 1] [(0, .ref 39), (1, .int (Int32.ofInt 0))] [] h [false, true] 12 hq rfl ⟨c1, c2, trivial⟩ (fun _ => ?_)
      exact s22
    | false =>
      have hp : onb h = true := by
        unfold onb
        rw [decide_eq_true (show xg 0 h.2.1 39 9 = 2 from xne_j c1), decide_eq_true (show xg 0 h.2.1 39 12 = 1 from xne_j c2)]
        rfl
      rw [hp] at s22
      refine xa_tn 22 [0, 1] [(0, .ref 39), (1, .int (Int32.ofInt 1))] [] h [false, false] 13 hq rfl ⟨c1, c2, trivial⟩ (fun _ => ?_)
      exact s22
set_option maxRecDepth 100000 in
set_option maxHeartbeats 16000000 in
/-- X10.beginItem -/
theorem bi_run {d sz : Nat} {B : Int} {h : xh_H} (hB : 0 ≤ B) (hn : 72 ≤ h.1.length) (g : rI h sz B) (h3 : xg 0 h.2.1 39 9 = 3) : xt_P (d + 5) xi_X10_beginItem xmi_X10_beginItem 0 [(0, .ref 39)] [] h (bg_Q h sz B) := by
  have hq := a_rq_of g.1.1.1 hn
  obtain ⟨n, en, n999⟩ := num_3 g.1.2.2.2.1 h3
  have ni := nI_toInt (n := n) (by omega)
  have k3 := kd_e (k := 3) (by decide) h3
  have at0 := a_flx (c := 39) (k := 8) (lo := 0) (hi := 640) g.1.1.1 hn rfl rfl (by decide)
  refine xa_tn 11 [0, 1, 2] [(0, .ref 39), (1, .int (xg 0 h.2.1 39 10)), (2, .int (xg 0 h.2.1 39 8))] [.ref 39] h [] 9 hq rfl trivial (fun _ => ?_)
  rw [en]
  generalize ha : xg 0 h.2.1 39 8 = at1 at at0
  refine xp_run hq rfl rfl (pg (d := d + 3) hn g.1) ?_
  rintro v h1 ⟨rfl, kg1, p1, f1⟩
  have r1 : rI h1 sz B := rI_go g kg1 p1
  have hk1 : hk bg_md h h1 := hk_t (hk_0 g.1.1) kg1 (by decide)
  have q1 := hk_q hk1 hn
  have hn1 := hk_n hk1 hn
  have fr1 := f1 (by omega)
  obtain ⟨tp, t28, t12⟩ : ∃ tp : Nat, xg 0 h1.2.1 39 28 = nI tp ∧ tp ≤ 12 := by
    obtain ⟨-, -, tp, a, b, -⟩ := r1
    exact ⟨tp, a, b⟩
  have hin : xe_in (xg 0 h1.2.1 39 28) 13 = true := by rw [t28]; exact xin_n (by omega) (by omega)
  have etc : (nI tp).toNatClampNeg = tp := nI_clamp (by omega)
  refine xa_tn 17 [0, 1, 2] [(0, .ref 39), (1, .int (nI n)), (2, .int at1)] [.int 42, .ref 39] h1 [] 4 q1 rfl trivial (fun _ => ?_)
  refine xp_run q1 rfl rfl (sg_run (d := d + 4) (c := 42) q1) ?_
  rintro v h2 ⟨rfl, rfl⟩
  cases hs : sgb h1 42 with
  | true =>
    refine xa_tn 34 [0] [(0, .ref 39)] [.ref 39] (xh_ui h1 48 (xg 0 h1.2.1 39 28).toNatClampNeg (nI n)) [false] 10 q1 rfl ⟨rfl, hin, trivial⟩ (fun _ => ?_)
    rw [t28, etc]
    have hk2' : hk bg_md h1 (xh_ui h1 48 tp (nI n)) := hk_ui (s := (1, 13)) (lo := 0) (hi := 9999) (hk_0 p1.1) hn1 rfl rfl (by omega) (by omega) rfl rfl
    have r2 : rI (xh_ui h1 48 tp (nI n)) sz B := rI_ui r1 hk2' (by omega) (by decide)
    have kd2 : kd (xh_ui h1 48 tp (nI n)) = 4 := by
      have := kd_e (k := 4) (by decide) (sgb_4 hs)
      unfold kd at this ⊢
      rw [gx_o (by decide)]
      exact this
    have fr2 : fr (xh_ui h1 48 tp (nI n)) = fr h1 := fr_c (gx_o (by decide))
    generalize xh_ui h1 48 tp (nI n) = h2 at hk2' r2 kd2 fr2 ⊢
    refine xp_run (hk_q hk2' hn1) rfl rfl (pg (d := d + 3) (hk_n hk2' hn1) r2.1) ?_
    rintro v h3' ⟨rfl, kg3, p3, f3⟩
    have r3 : rI h3' sz B := rI_go r2 kg3 p3
    have hk3 : hk bg_md h h3' := hk_t (hk_t hk1 hk2' (fun _ z => z)) kg3 (by decide)
    have fr3 := f3 (by omega)
    refine xa_tn 38 [] [] [.ref 39] h3' [] 3 (hk_q hk3 hn) rfl trivial (fun _ => ?_)
    refine xp_run (hk_q hk3 hn) rfl rfl (b1_run (d := d) hB (hk_n hk3 hn) r3) ?_
    rintro v h4 ⟨kk4, g4⟩
    have hk4 : hk bg_md h h4 := hk_t hk3 kk4 (fun _ z => z)
    rcases g4 with rfl | ⟨rfl, r4, f4, a4⟩
    · exact xp_ret rfl rfl rfl ⟨hk4, Or.inl rfl⟩
    · exact xp_ret rfl rfl rfl ⟨hk4, Or.inr ⟨rfl, r4, by omega, a4⟩⟩
  | false =>
    refine xa_tn 53 [0, 1, 2] [(0, .ref 39), (1, .int (nI n)), (2, .int at1)] [.ref 39] (xh_ui h1 48 (xg 0 h1.2.1 39 28).toNatClampNeg (Int32.ofInt 1)) [true] 10 q1 rfl ⟨rfl, hin, trivial⟩ (fun _ => ?_)
    rw [t28, etc]
    have hk2' : hk bg_md h1 (xh_ui h1 48 tp (Int32.ofInt 1)) := hk_ui (s := (1, 13)) (lo := 0) (hi := 9999) (hk_0 p1.1) hn1 rfl rfl (by decide) (by decide) rfl rfl
    have r2 : rI (xh_ui h1 48 tp (Int32.ofInt 1)) sz B := rI_ui r1 hk2' (by omega) (by decide)
    have fr2 : fr (xh_ui h1 48 tp (Int32.ofInt 1)) = fr h1 := fr_c (gx_o (by decide))
    generalize xh_ui h1 48 tp (Int32.ofInt 1) = h2 at hk2' r2 fr2 ⊢
    have hk2 : hk bg_md h h2 := hk_t hk1 hk2' (fun _ z => z)
    have q2 := hk_q hk2 hn
    refine xp_run q2 rfl rfl (isOf_run (d := d + 3) q2) ?_
    rintro v h3' ⟨rfl, rfl⟩
    cases hof : kyb h2 411 with
    | false =>
      refine xa_tn 61 [] [] [.int (Int32.ofInt 1), .ref 39] h2 [false] 5 q2 rfl ⟨rfl, trivial⟩ (fun _ => ?_)
      refine xp_int (C := aC_m_X10_bad) (lo := 0) (hi := 0) (σ := fun _ => 0) as_m_X10_bad q2 r2.1.1 rfl rfl rfl (Nat.zero_le _) ⟨a_av (by decide) q2.1, a_ai (by decide) (by decide), trivial⟩ a_fp0 rfl (fun x hx x1 x2 ix lx fx qx => ?_)
      cases i00 x1 x2
      exact xp_ret rfl rfl rfl ⟨hk_c hk2 ix lx fx (by decide), Or.inl rfl⟩
    | true =>
      refine xa_tn 65 [0, 1, 2] [(0, .ref 39), (1, .int (nI n)), (2, .int at1)] [] h2 [true] 3 q2 rfl ⟨rfl, trivial⟩ (fun _ => ?_)
      cases c1 : xe_c .ne (nI n) 0 with
      | false =>
        refine xa_tn 72 [] [] [.int at1, .int (Int32.ofInt 2), .ref 39] h2 [false] 7 q2 rfl ⟨c1, trivial⟩ (fun _ => ?_)
        refine xp_int (C := aC_m_X10_badAt) (lo := 0) (hi := 0) (σ := fun _ => 0) as_m_X10_badAt q2 r2.1.1 rfl rfl rfl (Nat.zero_le _) ⟨a_av (by decide) q2.1, a_ai (by decide) (by decide), a_ai at0.1 at0.2, trivial⟩ a_fp0 rfl (fun x hx x1 x2 ix lx fx qx => ?_)
        cases i00 x1 x2
        exact xp_ret rfl rfl rfl ⟨hk_c hk2 ix lx fx (by decide), Or.inl rfl⟩
      | true =>
        cases c2 : xe_c .ne (xg 0 h2.2.1 39 27) 120 with
        | false =>
          refine xa_tn 88 [] [] [.int at1, .int (Int32.ofInt 4), .ref 39] h2 [true, false] 11 q2 rfl ⟨c1, c2, trivial⟩ (fun _ => ?_)
          refine xp_int (C := aC_m_X10_badAt) (lo := 0) (hi := 0) (σ := fun _ => 0) as_m_X10_badAt q2 r2.1.1 rfl rfl rfl (Nat.zero_le _) ⟨a_av (by decide) q2.1, a_ai (by decide) (by decide), a_ai at0.1 at0.2, trivial⟩ a_fp0 rfl (fun x hx x1 x2 ix lx fx qx => ?_)
          cases i00 x1 x2
          exact xp_ret rfl rfl rfl ⟨hk_c hk2 ix lx fx (by decide), Or.inl rfl⟩
        | true =>
          have ob := a_flx (c := 39) (k := 27) (lo := 0) (hi := 120) r2.1.1.1 (hk_n hk2 hn) rfl rfl (by decide)
          have z120 : (120 : Int32).toInt = 120 := rfl
          have o119 : (xg 0 h2.2.1 39 27).toInt ≤ 119 := by
            have := a_ce c2
            dsimp only at this
            omega
          have oi := i_inc (x := xg 0 h2.2.1 39 27) (by omega)
          refine xa_tn 104 [] [] [.int (nI n), .ref 39] (xh_ui h2 39 27 ((xg 0 h2.2.1 39 27) + (Int32.ofInt 1))) [true, true] 16 q2 rfl ⟨c1, c2, trivial⟩ (fun _ => ?_)
          have hk3' : hk bg_md h2 (xh_ui h2 39 27 ((xg 0 h2.2.1 39 27) + (Int32.ofInt 1))) := hk_ui (s := (0, 10)) (lo := 0) (hi := 120) (hk_0 r2.1.1) (hk_n hk2 hn) rfl rfl (by omega) (by omega) rfl rfl
          have r3 := rI_ui r2 hk3' (by omega) (by decide)
          have fr3 : fr (xh_ui h2 39 27 ((xg 0 h2.2.1 39 27) + (Int32.ofInt 1))) = fr h2 := fr_c (gx_k (by decide))
          generalize xh_ui h2 39 27 ((xg 0 h2.2.1 39 27) + (Int32.ofInt 1)) = h3' at hk3' r3 fr3 ⊢
          have hk3 : hk bg_md h h3' := hk_t hk2 hk3' (fun _ z => z)
          refine xp_run (hk_q hk3 hn) rfl rfl (bl_run (d := d + 1) hB (hk_n hk3 hn) r3 n999) ?_
          rintro v h4 ⟨kk4, g4⟩
          have hk4 : hk bg_md h h4 := hk_t hk3 kk4 (fun _ z => z)
          rcases g4 with rfl | ⟨rfl, r4, f4, a4⟩
          · exact xp_ret rfl rfl rfl ⟨hk4, Or.inl rfl⟩
          · exact xp_ret rfl rfl rfl ⟨hk4, Or.inr ⟨rfl, r4, by omega, a4⟩⟩
set_option maxRecDepth 100000 in
set_option maxHeartbeats 16000000 in
/-- X10.begin -/
theorem be_run {d sz : Nat} {B : Int} {h : xh_H} (hB : 0 ≤ B) (hn : 72 ≤ h.1.length) (g : rI h sz B) : xt_P (d + 6) xi_X10_begin xmi_X10_begin 0 [(0, .ref 39)] [] h (bg_Q h sz B) := by
  have hq := a_rq_of g.1.1.1 hn
  obtain ⟨tp, t28, t12⟩ : ∃ tp : Nat, xg 0 h.2.1 39 28 = nI tp ∧ tp ≤ 12 := by
    obtain ⟨-, -, tp, a, b, -⟩ := g
    exact ⟨tp, a, b⟩
  have hin : xe_in (xg 0 h.2.1 39 28) 13 = true := by rw [t28]; exact xin_n (by omega) (by omega)
  have one : xt_P (d + 6) xi_X10_begin xmi_X10_begin 27 [] [.ref 39] h (bg_Q h sz B) := by
    refine xp_run hq rfl rfl (b1_run (d := d + 1) hB hn g) ?_
    rintro v h1 ⟨kk1, g1⟩
    rcases g1 with rfl | ⟨rfl, r1⟩
    · exact xp_ret rfl rfl rfl ⟨kk1, Or.inl rfl⟩
    · exact xp_ret rfl rfl rfl ⟨kk1, Or.inr ⟨rfl, r1⟩⟩
  cases c1 : xe_c .ne (xg 0 h.2.1 47 (xg 0 h.2.1 39 28).toNatClampNeg) (Int32.ofInt 2) with
  | true =>
    refine xa_tn 27 [] [] [.ref 39] h [true] 10 hq rfl ⟨hin, c1, trivial⟩ (fun _ => ?_)
    exact one
  | false =>
    cases c2 : xe_c .ne (xg 0 h.2.1 39 9) (Int32.ofInt 3) with
    | true =>
      refine xa_tn 27 [] [] [.ref 39] h [false, true] 14 hq rfl ⟨hin, c1, c2, trivial⟩ (fun _ => ?_)
      exact one
    | false =>
      refine xa_tn 22 [] [] [.ref 39] h [false, false] 14 hq rfl ⟨hin, c1, c2, trivial⟩ (fun _ => ?_)
      refine xp_run hq rfl rfl (bi_run (d := d) hB hn g (xne_j c2)) ?_
      rintro v h1 ⟨kk1, g1⟩
      rcases g1 with rfl | ⟨rfl, r1⟩
      · exact xp_ret rfl rfl rfl ⟨kk1, Or.inl rfl⟩
      · exact xp_ret rfl rfl rfl ⟨kk1, Or.inr ⟨rfl, r1⟩⟩
end XB2
