section
section XPP
theorem xq_sw {f mid : Nat} {mi : xm_M} {pc : Nat} {lv : List (Nat × Value)} {st : List Value} {h : xh_H} {Q : Option Value → xh_H → Prop} {dflt lo hi : Int} {offs : Array Int} {len ra rb rK ri : Nat} {x : Int32} (hr : xC mid pc = some (.tableswitch dflt lo hi offs, len, ra, rb, rK, ri)) (K0 : (x.toInt < lo ∨ hi < x.toInt) → xq f mid mi ((pc : Int) + dflt).toNat lv st h Q) (K1 : ∀ (i : Nat) (off : Int), offs[i]? = some off → x.toInt = lo + i → xq f mid mi ((pc : Int) + off).toNat lv st h Q) : xq f mid mi pc lv (.int x :: st) h Q := by
  intro d lw w h' c s hs hx
  obtain ⟨g, eg, ⟨o', e2, e3⟩ | ⟨e2, d', mj, As, q, -, -, -, -, -, e, -⟩⟩ := xq_s hr rfl hx
  · have e1 : xe_1 mi.2.2.2.1 (.tableswitch dflt lo hi offs, len, ra, rb, rK, ri) pc lw (.int x :: st) h 0 0 = some o' := by
      unfold xe_2 at e2
      cases z : xe_1 mi.2.2.2.1 (.tableswitch dflt lo hi offs, len, ra, rb, rK, ri) pc lw (.int x :: st) h 0 0 with
      | some o => rw [z] at e2; exact e2
      | none => rw [z] at e2; cases e2
    have e1 : (cond (decide (x.toInt < lo) || decide (hi < x.toInt))
      (cond (decide (0 ≤ (pc : Int) + dflt)) (some (((pc : Int) + dflt).toNat, lw, st, h, 0, 0)) none)
      (match offs[(x.toInt - lo).toNat]? with
        | some off => cond (decide (0 ≤ (pc : Int) + off)) (some (((pc : Int) + off).toNat, lw, st, h, 0, 0)) none
        | none => none)) = some o' := e1
    cases hb : (decide (x.toInt < lo) || decide (hi < x.toInt)) with
    | true =>
      rw [hb] at e1
      obtain ⟨-, e1⟩ := xw_c e1
      cases e1
      rw [Bool.or_eq_true] at hb
      exact K0 (hb.imp of_decide_eq_true of_decide_eq_true) d lw w h' c s hs (xe_x_le (by omega) e3)
    | false =>
      rw [hb] at e1
      rw [Bool.or_eq_false_iff] at hb
      have b1 := of_decide_eq_false hb.1
      cases ho : offs[(x.toInt - lo).toNat]? with
      | none => rw [ho] at e1; cases e1
      | some off =>
        rw [ho] at e1
        obtain ⟨-, e1⟩ := xw_c e1
        cases e1
        exact K1 _ off ho (by omega) d lw w h' c s hs (xe_x_le (by omega) e3)
  · unfold xe_cl at e
    split at e <;> cases e
theorem xq_no {f mid : Nat} {mi : xm_M} {pc : Nat} {lv : List (Nat × Value)} {st : List Value} {h : xh_H} {Q : Option Value → xh_H → Prop} (hr : xC mid pc = none) : xq f mid mi pc lv st h Q := by
  intro d lw w h' c s hs hx
  cases f with
  | zero => cases hx
  | succ f =>
    unfold xe_x at hx
    rw [hr] at hx
    cases hx
/-- a call that leaves Powers -/
theorem pu_i {f : Nat} {C : aC} {mi : xm_M} {A : List Value} {h : xh_H} {lo hi : Int} {o : Option (aN × Int)} {ft ff : aF} (P : PI h) (i : a_inv a_tb h) (l : 72 ≤ h.1.length) (hC : a_spec a_tb C) (hM : xM C.1 = some mi) (ha : a_st (fun _ => 0) h.1.length C.2.2.1 A) (hp : C.2.2.2.2.2 = []) (hret : C.2.2.2.1 = [(some (0, lo, hi, o, ft, ff), [])]) (pm : pwM C.2.2.2.2.1 = true) (fm : fzM C.1 = true) (qm : qzM C.1 = true) : xq f C.1 mi 0 (lv_args 0 A) [] h (fun v h' => (∃ x, v = some (.int x)) ∧ a_inv a_tb h' ∧ 72 ≤ h'.1.length ∧ PI h') := by
  obtain ⟨v, h', r1, p1, p2, ⟨t, ht, p3⟩, p4⟩ := hC C.2.1 mi A h (fun _ => 0) (Nat.le_refl _) hM i l ha (by rw [hp]; exact a_fp0)
  rw [hret] at ht
  cases List.mem_singleton.mp ht
  obtain ⟨⟨w, rfl, x, rfl, -⟩, -⟩ := p3
  exact xq_of (d := C.2.1) ⟨_, hM⟩ ⟨_, h', r1, ⟨x, rfl⟩, p1, by rw [p2]; exact l, PI_t i l (Fs_z (a_rq_of i.1 l) (fz_run fm r1)) (qz_run qm r1) p4 pm P⟩
theorem pu_l {f : Nat} {C : aC} {mi : xm_M} {A : List Value} {h : xh_H} {lo hi : Int} {o : Option (aN × Int)} {ft ff : aF} (P : PI h) (i : a_inv a_tb h) (l : 72 ≤ h.1.length) (hC : a_spec a_tb C) (hM : xM C.1 = some mi) (ha : a_st (fun _ => 0) h.1.length C.2.2.1 A) (hp : C.2.2.2.2.2 = []) (hret : C.2.2.2.1 = [(some (1, lo, hi, o, ft, ff), [])]) (pm : pwM C.2.2.2.2.1 = true) (fm : fzM C.1 = true) (qm : qzM C.1 = true) : xq f C.1 mi 0 (lv_args 0 A) [] h (fun v h' => (∃ x, v = some (.long x)) ∧ a_inv a_tb h' ∧ 72 ≤ h'.1.length ∧ PI h') := by
  obtain ⟨v, h', r1, p1, p2, ⟨t, ht, p3⟩, p4⟩ := hC C.2.1 mi A h (fun _ => 0) (Nat.le_refl _) hM i l ha (by rw [hp]; exact a_fp0)
  rw [hret] at ht
  cases List.mem_singleton.mp ht
  obtain ⟨⟨w, rfl, x, rfl, -⟩, -⟩ := p3
  exact xq_of (d := C.2.1) ⟨_, hM⟩ ⟨_, h', r1, ⟨x, rfl⟩, p1, by rw [p2]; exact l, PI_t i l (Fs_z (a_rq_of i.1 l) (fz_run fm r1)) (qz_run qm r1) p4 pm P⟩
section
variable {mem sc : Nat} {d : Int32} {h : xh_H}
theorem pti_q {f : Nat} (hi : a_inv a_tb h) (hn : 72 ≤ h.1.length) (e9 : xg 0 h.2.1 0 9 = nI mem) (m1 : 1 ≤ mem) (m12 : mem ≤ 12) (e8 : xg 0 h.2.1 0 8 = nI sc) (sc8 : sc ≤ 8) (e10 : xg 0 h.2.1 0 10 = d) (si : SI h) (pi : PI h) : xq f xi_X9_powersToday xmi_X9_powersToday 0 [(0, .ref 0)] [] h (fun v h' => v = some (.ref 14) ∧ a_inv a_tb h' ∧ 72 ≤ h'.1.length ∧ PI h' ∧ xg 0 h'.2.1 14 7 = nI mem) :=
  xq_mono (xq_and (xq_of (d := 5) ⟨_, rfl⟩ (pt_run (d := 0) hi hn)) (pt9_q hi hn e9 m1 m12 e8 sc8 e10 si pi)) (fun v h' e => ⟨e.2.1, e.1.1.1, hk_n e.1.1 hn, e.2.2.2.1, e.1.2.2.trans e9⟩)
set_option maxRecDepth 100000 in
set_option maxHeartbeats 4000000 in
theorem ma9_p {f : Nat} {x : Int32} (hi : a_inv a_tb h) (hn : 72 ≤ h.1.length) (e9 : xg 0 h.2.1 0 9 = nI mem) (m1 : 1 ≤ mem) (m12 : mem ≤ 12) (e8 : xg 0 h.2.1 0 8 = nI sc) (sc8 : sc ≤ 8) (e10 : xg 0 h.2.1 0 10 = d) (si : SI h) (pi : PI h) : xq f xi_X9_many xmi_X9_many 0 [(0, .ref 0), (1, .int x)] [] h (fun v h' => PI h') := by
  have hq := a_rq_of hi.1 hn
  refine xq_n 1 [1] [(1, .int x)] [.ref 0] h [] 60 hq rfl trivial (fun _ => ?_)
  refine xq_run hq rfl rfl (pti_q hi hn e9 m1 m12 e8 sc8 e10 si pi) ?_
  rintro v h1 ⟨rfl, i1, l1, P1, -⟩
  have hq1 := a_rq_of i1.1 l1
  refine xq_n 6 [2] [(2, .ref 14)] [.int x] h1 [] 60 hq1 rfl trivial (fun _ => ?_)
  have bo : ∀ c, xg 0 h1.2.1 14 c = xg 0 h1.2.1 14 c := fun _ => rfl
  refine xq_sw rfl (fun _ => ?_) (fun i off ho _ => ?_)
  · show xq f _ _ 122 _ _ _ _
    refine xq_n 123 [] [] [.int (Int32.ofInt (-1))] h1 [] 60 hq1 rfl trivial (fun _ => ?_)
    exact xq_ret rfl rfl rfl P1
  · match i, ho with
    | 0, rfl =>
      show xq f _ _ 52 _ _ _ _
      refine xq_n 53 [] [] [.ref 14] h1 [] 60 hq1 rfl trivial (fun _ => ?_)
      refine xq_run hq1 rfl rfl (pu_i (C := aC_m_X2_countCarrying) (mi := xmi_X2_countCarrying) P1 i1 l1 as_m_X2_countCarrying rfl ⟨a_av (by decide) l1, trivial⟩ rfl rfl rfl (by decide +kernel) (by decide +kernel)) ?_
      rintro v h2 ⟨⟨y, rfl⟩, i2, l2, P2⟩
      exact xq_ret rfl rfl rfl P2
    | 1, rfl =>
      show xq f _ _ 57 _ _ _ _
      refine xq_n 61 [] [] [.int (xg 0 h1.2.1 14 9)] h1 [] 60 hq1 rfl trivial (fun _ => ?_)
      exact xq_ret rfl rfl rfl P1
    | 2, rfl =>
      show xq f _ _ 62 _ _ _ _
      refine xq_n 66 [] [] [.int (xg 0 h1.2.1 14 10)] h1 [] 60 hq1 rfl trivial (fun _ => ?_)
      exact xq_ret rfl rfl rfl P1
    | 3, rfl =>
      show xq f _ _ 67 _ _ _ _
      refine xq_n 71 [] [] [.int (xg 0 h1.2.1 14 11)] h1 [] 60 hq1 rfl trivial (fun _ => ?_)
      refine xq_run hq1 rfl rfl (bcn_q hq1) ?_
      rintro v h2 ⟨rfl, y, rfl⟩
      exact xq_ret rfl rfl rfl P1
    | 4, rfl =>
      show xq f _ _ 75 _ _ _ _
      refine xq_n 79 [] [] [.int (xg 0 h1.2.1 14 12)] h1 [] 60 hq1 rfl trivial (fun _ => ?_)
      refine xq_run hq1 rfl rfl (bcn_q hq1) ?_
      rintro v h2 ⟨rfl, y, rfl⟩
      exact xq_ret rfl rfl rfl P1
    | 5, rfl =>
      show xq f _ _ 83 _ _ _ _
      refine xq_n 84 [] [] [.ref 14] h1 [] 60 hq1 rfl trivial (fun _ => ?_)
      refine xq_run hq1 rfl rfl (pu_i (C := aC_m_X2_isProper) (mi := xmi_X2_isProper) P1 i1 l1 as_m_X2_isProper rfl ⟨a_av (by decide) l1, trivial⟩ rfl rfl rfl (by decide +kernel) (by decide +kernel)) ?_
      rintro v h2 ⟨⟨y, rfl⟩, i2, l2, P2⟩
      have hq2 := a_rq_of i2.1 l2
      cases c : xe_c .eq y 0 with
      | true =>
        refine xq_n 95 [] [] [.int (Int32.ofInt 0)] h2 [true] 60 hq2 rfl ⟨c, trivial⟩ (fun _ => ?_)
        exact xq_ret rfl rfl rfl P2
      | false =>
        refine xq_n 95 [] [] [.int (Int32.ofInt 1)] h2 [false] 60 hq2 rfl ⟨c, trivial⟩ (fun _ => ?_)
        exact xq_ret rfl rfl rfl P2
    | 6, rfl =>
      show xq f _ _ 96 _ _ _ _
      refine xq_n 97 [] [] [.ref 14] h1 [] 60 hq1 rfl trivial (fun _ => ?_)
      refine xq_run hq1 rfl rfl (pu_i (C := aC_m_X2_isStrong) (mi := xmi_X2_isStrong) P1 i1 l1 as_m_X2_isStrong rfl ⟨a_av (by decide) l1, trivial⟩ rfl rfl rfl (by decide +kernel) (by decide +kernel)) ?_
      rintro v h2 ⟨⟨y, rfl⟩, i2, l2, P2⟩
      have hq2 := a_rq_of i2.1 l2
      cases c : xe_c .eq y 0 with
      | true =>
        refine xq_n 108 [] [] [.int (Int32.ofInt 0)] h2 [true] 60 hq2 rfl ⟨c, trivial⟩ (fun _ => ?_)
        exact xq_ret rfl rfl rfl P2
      | false =>
        refine xq_n 108 [] [] [.int (Int32.ofInt 1)] h2 [false] 60 hq2 rfl ⟨c, trivial⟩ (fun _ => ?_)
        exact xq_ret rfl rfl rfl P2
    | 7, rfl =>
      show xq f _ _ 109 _ _ _ _
      refine xq_n 110 [] [] [.ref 14] h1 [] 60 hq1 rfl trivial (fun _ => ?_)
      refine xq_run hq1 rfl rfl (pu_i (C := aC_m_X2_isLined) (mi := xmi_X2_isLined) P1 i1 l1 as_m_X2_isLined rfl ⟨a_av (by decide) l1, trivial⟩ rfl rfl rfl (by decide +kernel) (by decide +kernel)) ?_
      rintro v h2 ⟨⟨y, rfl⟩, i2, l2, P2⟩
      have hq2 := a_rq_of i2.1 l2
      cases c : xe_c .eq y 0 with
      | true =>
        refine xq_n 121 [] [] [.int (Int32.ofInt 0)] h2 [true] 60 hq2 rfl ⟨c, trivial⟩ (fun _ => ?_)
        exact xq_ret rfl rfl rfl P2
      | false =>
        refine xq_n 121 [] [] [.int (Int32.ofInt 1)] h2 [false] 60 hq2 rfl ⟨c, trivial⟩ (fun _ => ?_)
        exact xq_ret rfl rfl rfl P2
    | n + 8, ho => cases ho
set_option maxRecDepth 100000 in
set_option maxHeartbeats 4000000 in
theorem sa9_p {f : Nat} {x y : Int32} (hi : a_inv a_tb h) (hn : 72 ≤ h.1.length) (e9 : xg 0 h.2.1 0 9 = nI mem) (m1 : 1 ≤ mem) (m12 : mem ≤ 12) (e8 : xg 0 h.2.1 0 8 = nI sc) (sc8 : sc ≤ 8) (e10 : xg 0 h.2.1 0 10 = d) (si : SI h) (pi : PI h) : xq f xi_X9_setAt xmi_X9_setAt 0 [(0, .ref 0), (1, .int x), (2, .int y)] [] h (fun v h' => PI h') := by
  have hq := a_rq_of hi.1 hn
  refine xq_n 1 [1, 2] [(1, .int x), (2, .int y)] [.ref 0] h [] 60 hq rfl trivial (fun _ => ?_)
  refine xq_run hq rfl rfl (pti_q hi hn e9 m1 m12 e8 sc8 e10 si pi) ?_
  rintro v h1 ⟨rfl, i1, l1, P1, -⟩
  have hq1 := a_rq_of i1.1 l1
  refine xq_n 6 [2, 3] [(2, .int y), (3, .ref 14)] [.int x] h1 [] 60 hq1 rfl trivial (fun _ => ?_)
  refine xq_sw rfl (fun _ => ?_) (fun i off ho _ => ?_)
  · show xq f _ _ 108 _ _ _ _
    refine xq_n 109 [] [] [.int (Int32.ofInt (-1))] h1 [] 60 hq1 rfl trivial (fun _ => ?_)
    exact xq_ret rfl rfl rfl P1
  · match i, ho with
    | 0, rfl =>
      show xq f _ _ 36 _ _ _ _
      cases c1 : xe_c .lt y 0 with
      | true =>
        refine xq_n 58 [] [] [.int (Int32.ofInt (-1))] h1 [true] 60 hq1 rfl ⟨c1, trivial⟩ (fun _ => ?_)
        exact xq_ret rfl rfl rfl P1
      | false =>
        cases c2 : xe_c .ge y (xg 0 h1.2.1 14 9) with
        | true =>
          refine xq_n 58 [] [] [.int (Int32.ofInt (-1))] h1 [false, true] 60 hq1 rfl ⟨c1, c2, trivial⟩ (fun _ => ?_)
          exact xq_ret rfl rfl rfl P1
        | false =>
          refine xq_n 58 [] [] [.int (xg 0 h1.2.1 15 y.toNatClampNeg)] h1 [false, false] 60 hq1 rfl ⟨c1, c2, trivial⟩ (fun _ => ?_)
          exact xq_ret rfl rfl rfl P1
    | 1, rfl =>
      show xq f _ _ 59 _ _ _ _
      cases c1 : xe_c .lt y 0 with
      | true =>
        refine xq_n 81 [] [] [.int (Int32.ofInt (-1))] h1 [true] 60 hq1 rfl ⟨c1, trivial⟩ (fun _ => ?_)
        exact xq_ret rfl rfl rfl P1
      | false =>
        cases c2 : xe_c .ge y (xg 0 h1.2.1 14 10) with
        | true =>
          refine xq_n 81 [] [] [.int (Int32.ofInt (-1))] h1 [false, true] 60 hq1 rfl ⟨c1, c2, trivial⟩ (fun _ => ?_)
          exact xq_ret rfl rfl rfl P1
        | false =>
          refine xq_n 81 [] [] [.int (xg 0 h1.2.1 16 y.toNatClampNeg)] h1 [false, false] 60 hq1 rfl ⟨c1, c2, trivial⟩ (fun _ => ?_)
          exact xq_ret rfl rfl rfl P1
    | 2, rfl =>
      show xq f _ _ 82 _ _ _ _
      cases c1 : xe_c .ne y 0 with
      | true =>
        refine xq_n 94 [] [] [.int (Int32.ofInt (-1))] h1 [true] 60 hq1 rfl ⟨c1, trivial⟩ (fun _ => ?_)
        exact xq_ret rfl rfl rfl P1
      | false =>
        refine xq_n 94 [] [] [.int (xg 0 h1.2.1 14 11)] h1 [false] 60 hq1 rfl ⟨c1, trivial⟩ (fun _ => ?_)
        exact xq_ret rfl rfl rfl P1
    | 3, rfl =>
      show xq f _ _ 95 _ _ _ _
      cases c1 : xe_c .ne y 0 with
      | true =>
        refine xq_n 107 [] [] [.int (Int32.ofInt (-1))] h1 [true] 60 hq1 rfl ⟨c1, trivial⟩ (fun _ => ?_)
        exact xq_ret rfl rfl rfl P1
      | false =>
        refine xq_n 107 [] [] [.int (xg 0 h1.2.1 14 12)] h1 [false] 60 hq1 rfl ⟨c1, trivial⟩ (fun _ => ?_)
        exact xq_ret rfl rfl rfl P1
    | n + 4, ho => cases ho
set_option maxRecDepth 100000 in
set_option maxHeartbeats 4000000 in
theorem ch9_p {f : Nat} {x : Int32} (hi : a_inv a_tb h) (hn : 72 ≤ h.1.length) (e9 : xg 0 h.2.1 0 9 = nI mem) (m1 : 1 ≤ mem) (m12 : mem ≤ 12) (e8 : xg 0 h.2.1 0 8 = nI sc) (sc8 : sc ≤ 8) (e10 : xg 0 h.2.1 0 10 = d) (si : SI h) (pi : PI h) : xq f xi_X9_chance xmi_X9_chance 0 [(0, .ref 0), (1, .int x)] [] h (fun v h' => PI h') := by
  have hq := a_rq_of hi.1 hn
  cases c1 : xe_c .lt x 0 with
  | true =>
    refine xq_n 24 [] [] [.long 18446744073709551615] h [true] 5 hq rfl ⟨c1, trivial⟩ (fun _ => ?_)
    exact xq_ret rfl rfl rfl pi
  | false =>
    cases c2 : xe_c .le x 10 with
    | false =>
      refine xq_n 24 [] [] [.long 18446744073709551615] h [false, false] 8 hq rfl ⟨c1, c2, trivial⟩ (fun _ => ?_)
      exact xq_ret rfl rfl rfl pi
    | true =>
      refine xq_n 17 [1] [(1, .int x)] [.ref 0] h [false, true] 7 hq rfl ⟨c1, c2, trivial⟩ (fun _ => ?_)
      refine xq_run hq rfl rfl (pti_q hi hn e9 m1 m12 e8 sc8 e10 si pi) ?_
      rintro v h1 ⟨rfl, i1, l1, P1, -⟩
      have hq1 := a_rq_of i1.1 l1
      obtain ⟨q, e, rq⟩ : a_e h1 14 6 (2, 11, 0) := ((i1.1 14 (0, 2) (hq1.2.1 14 (0, 2) rfl)).2 6 (by decide))
      obtain ⟨g1, r, g2, g3⟩ := law_sh i1.1 rq
      refine xq_n 21 [] [] [.int x, .ref 14] h1 [] 3 hq1 rfl trivial (fun _ => ?_)
      refine xq_run hq1 rfl rfl (cho_q e g1 g2 g3 hq1) ?_
      rintro v h2 ⟨g4, y, rfl⟩
      refine xq_ret rfl rfl rfl (PI_s i1 l1 (fun c k z _ => g4.2.2.2 c k (nbeq_f (fun w => ?_))) (fun c k _ => by rw [g4.2.1]) (by rw [g4.2.1]) (fun c k _ => fx_i g4 rfl) P1)
      rw [w, hq1.2.1 20 _ rfl] at z
      cases z
set_option maxRecDepth 100000 in
set_option maxHeartbeats 4000000 in
theorem we9_p {f : Nat} (hi : a_inv a_tb h) (hn : 72 ≤ h.1.length) (e9 : xg 0 h.2.1 0 9 = nI mem) (m1 : 1 ≤ mem) (m12 : mem ≤ 12) (e8 : xg 0 h.2.1 0 8 = nI sc) (sc8 : sc ≤ 8) (e10 : xg 0 h.2.1 0 10 = d) (si : SI h) (pi : PI h) : xq f xi_X9_weigh xmi_X9_weigh 0 [(0, .ref 0)] [] h (fun v h' => PI h') := by
  have hq := a_rq_of hi.1 hn
  refine xq_n 1 [0] [(0, .ref 0)] [.ref 0] h [] 60 hq rfl trivial (fun _ => ?_)
  refine xq_run hq rfl rfl (pti_q hi hn e9 m1 m12 e8 sc8 e10 si pi) ?_
  rintro v h1 ⟨rfl, i1, l1, P1, -⟩
  have hq1 := a_rq_of i1.1 l1
  refine xq_n 9 [] [] [.ref 21] h1 [] 60 hq1 rfl trivial (fun _ => ?_)
  refine xq_run hq1 rfl rfl (pu_i (C := aC_m_X5_look) (mi := xmi_X5_look) P1 i1 l1 as_m_X5_look rfl ⟨a_av (by decide) l1, trivial⟩ rfl rfl rfl (by decide +kernel) (by decide +kernel)) ?_
  rintro v h2 ⟨⟨y, rfl⟩, i2, l2, P2⟩
  exact xq_ret rfl rfl rfl P2
set_option maxRecDepth 100000 in
set_option maxHeartbeats 4000000 in
/-- X2.upperShare leaves all -/
theorem us_p {f k m : Nat} {w : Int32} (P : PI h) (i : a_inv a_tb h) (l : 72 ≤ h.1.length) (m12 : m ≤ 12) (hk' : k < m) (e7 : xg 0 h.2.1 14 7 = nI m) : xq f xi_X2_upperShare xmi_X2_upperShare 0 [(0, .ref 14), (1, .int (nI k)), (2, .int w)] [] h (fun v h' => (∃ x, v = some (.long x)) ∧ a_inv a_tb h' ∧ 72 ≤ h'.1.length ∧ PI h') :=
  xq_mono (xq_and (xq_of (d := 3) ⟨_, rfl⟩ (us_run (d := 0) (k := k) (m := m) (w := w) i l m12 hk' e7)) (xq_and (xq_fz (by decide +kernel)) (xq_qz (by decide +kernel)))) (fun v h' e => ⟨e.1.2, e.1.1.1, hk_n e.1.1 l, PI_t i l (Fs_z (a_rq_of i.1 l) e.2.1) e.2.2 e.1.1.2.2 rfl P⟩)
set_option maxRecDepth 100000 in
set_option maxHeartbeats 4000000 in
theorem sh9_p {f k : Nat} {x w z : Int32} (hi : a_inv a_tb h) (hn : 72 ≤ h.1.length) (e9 : xg 0 h.2.1 0 9 = nI mem) (m1 : 1 ≤ mem) (m12 : mem ≤ 12) (e8 : xg 0 h.2.1 0 8 = nI sc) (sc8 : sc ≤ 8) (e10 : xg 0 h.2.1 0 10 = d) (si : SI h) (pi : PI h) : xq f xi_X9_share xmi_X9_share 0 [(0, .ref 0), (1, .int x), (2, .int w), (3, .int z)] [] h (fun v h' => PI h') := by
  have hq := a_rq_of hi.1 hn
  refine xq_n 2 [0, 1, 2, 3] [(0, .ref 0), (1, .int x), (2, .int w), (3, .int z)] [.int x, .ref 0] h [] 60 hq rfl trivial (fun _ => ?_)
  refine xq_run hq rfl rfl (mem9_q (z := nI mem) e9 hq) ?_
  rintro v h1 ⟨rfl, rfl⟩
  have th : ∀ f, xq f xi_X9_share xmi_X9_share 26 [] [] h (fun v h' => PI h') := fun f => xq_no rfl
  cases c1 : (!xe_c .lt x 0 && !xe_c .ge x (nI mem)) with
  | false =>
    refine xq_n 26 [] [] [] h [true] 60 hq rfl ⟨rfl, trivial⟩ (fun _ => ?_)
    exact th f
  | true =>
    obtain ⟨a, rfl, al, ea⟩ := mb_n m12 c1
    cases c2 : xe_c .lt w 0 with
    | true =>
      refine xq_n 26 [] [] [] h [false, true] 60 hq rfl ⟨rfl, c2, trivial⟩ (fun _ => ?_)
      exact th f
    | false =>
      cases c3 : xe_c .gt w (Int32.ofInt 2) with
      | true =>
        refine xq_n 26 [] [] [] h [false, false, true] 60 hq rfl ⟨rfl, c2, c3, trivial⟩ (fun _ => ?_)
        exact th f
      | false =>
        cases c4 : xe_c .lt z 0 with
        | true =>
          refine xq_n 26 [] [] [] h [false, false, false, true] 60 hq rfl ⟨rfl, c2, c3, c4, trivial⟩ (fun _ => ?_)
          exact th f
        | false =>
          cases c5 : xe_c .le z (Int32.ofInt 1) with
          | false =>
            refine xq_n 26 [] [] [] h [false, false, false, false, false] 60 hq rfl ⟨rfl, c2, c3, c4, c5, trivial⟩ (fun _ => ?_)
            exact th f
          | true =>
            have w1 : (0 : Int) ≤ w.toInt := a_ce (a_neg_ok c2)
            have w2 : w.toInt ≤ (2 : Int) := a_ce (a_neg_ok c3)
            refine xq_n 35 [1, 2, 3] [(1, .int (nI a)), (2, .int w), (3, .int z)] [.ref 0] h [false, false, false, false, true] 60 hq rfl ⟨rfl, c2, c3, c4, c5, trivial⟩ (fun _ => ?_)
            refine xq_run hq rfl rfl (pti_q hi hn e9 m1 m12 e8 sc8 e10 si pi) ?_
            rintro v h1 ⟨rfl, i1, l1, P1, e7⟩
            have hq1 := a_rq_of i1.1 l1
            refine xq_n 44 [2, 3, 4] [(2, .int w), (3, .int z), (4, .ref 14)] [.int w, .int (nI a), .ref 14] h1 [] 60 hq1 rfl trivial (fun _ => ?_)
            refine xq_run hq1 rfl rfl (us_p P1 i1 l1 m12 al e7) ?_
            rintro v h2 ⟨⟨u, rfl⟩, i2, l2, P2⟩
            have hq2 := a_rq_of i2.1 l2
            refine xq_n 52 [3, 5] [(3, .int z), (5, .long u)] [.int w, .ref 14] h2 [] 60 hq2 rfl trivial (fun _ => ?_)
            refine xq_run hq2 rfl rfl (pu_l (C := aC_m_X2_lowerShare) (mi := xmi_X2_lowerShare) P2 i2 l2 as_m_X2_lowerShare rfl ⟨a_av (by decide) l2, a_ai w1 w2, trivial⟩ rfl rfl rfl (by decide +kernel) (by decide +kernel)) ?_
            rintro v h3 ⟨⟨g, rfl⟩, i3, l3, P3⟩
            have hq3 := a_rq_of i3.1 l3
            refine xq_n 61 [3, 5, 7] [(3, .int z), (5, .long u), (7, .long g)] [.long g, .long u] h3 [] 60 hq3 rfl trivial (fun _ => ?_)
            refine xq_run hq3 rfl rfl (pu_l (C := aC_gcd) (mi := xmi_X9_commonDivisor) P3 i3 l3 as_gcd rfl ⟨a_al, a_al, trivial⟩ rfl rfl rfl (by decide +kernel) (by decide +kernel)) ?_
            rintro v h4 ⟨⟨gg, rfl⟩, i4, l4, P4⟩
            have hq4 := a_rq_of i4.1 l4
            refine xq_n 70 [3, 5, 7, 9] [(3, .int z), (5, .long u), (7, .long g), (9, .long gg)] [.int (lg_cmp u 0)] h4 [] 60 hq4 rfl trivial (fun _ => ?_)
            have sm : ∀ f, xq f xi_X9_share xmi_X9_share 80 [(3, .int z)] [] h4 (fun v h' => PI h') := fun f => by
              cases c6 : xe_c .ne z 0 with
              | true =>
                refine xq_n 89 [] [] [.long 1] h4 [true] 60 hq4 rfl ⟨c6, trivial⟩ (fun _ => ?_)
                exact xq_ret rfl rfl rfl P4
              | false =>
                refine xq_n 89 [] [] [.long 0] h4 [false] 60 hq4 rfl ⟨c6, trivial⟩ (fun _ => ?_)
                exact xq_ret rfl rfl rfl P4
            cases c6 : xe_c .eq (lg_cmp u 0) 0 with
            | true =>
              refine xq_n 80 [3] [(3, .int z)] [] h4 [true] 60 hq4 rfl ⟨c6, trivial⟩ (fun _ => ?_)
              exact sm f
            | false =>
              cases c7 : xe_c .gt (lg_cmp gg 0) 0 with
              | false =>
                refine xq_n 80 [3] [(3, .int z)] [] h4 [false, false] 60 hq4 rfl ⟨c6, c7, trivial⟩ (fun _ => ?_)
                exact sm f
              | true =>
                cases c8 : xe_c .ne z 0 with
                | true =>
                  refine xq_n 107 [] [] [.long (g / gg)] h4 [false, true, true] 60 hq4 rfl ⟨c6, c7, c8, trivial⟩ (fun _ => ?_)
                  exact xq_ret rfl rfl rfl P4
                | false =>
                  refine xq_n 107 [] [] [.long (u / gg)] h4 [false, true, false] 60 hq4 rfl ⟨c6, c7, c8, trivial⟩ (fun _ => ?_)
                  exact xq_ret rfl rfl rfl P4
end
end XPP
end
section
section XOD
/-- more members never carry less -/
def Wm (W : Nat → Bool) (m : Nat) : Prop := ∀ s t, s < 2 ^ m → t < 2 ^ m → s &&& t = s → W s = true → W t = true
theorem sub_tb {s t i : Nat} (h : s &&& t = s) (hi : s.testBit i = true) : t.testBit i = true := by
  have e := congrArg (fun n => Nat.testBit n i) h
  simp only [Nat.testBit_and, hi, Bool.true_and] at e
  exact e
theorem tb_sub {s t : Nat} (h : ∀ i, s.testBit i = true → t.testBit i = true) : s &&& t = s := Nat.eq_of_testBit_eq (fun i => by
  rw [Nat.testBit_and]
  cases c : s.testBit i with
  | false => rfl
  | true => rw [h i c]; rfl)
theorem dz_m {W : Nat → Bool} {m : Nat} {hd : Bool} (M : Wm W m) : Wm (dz W m hd) m := by
  intro s t hs ht h
  cases hd with
  | false => exact M s t hs ht h
  | true =>
    intro z
    show (!W (co m t)) = true
    have z : (!W (co m s)) = true := z
    cases c : W (co m t) with
    | false => rfl
    | true =>
      have := M (co m t) (co m s) co_lt co_lt (tb_sub (fun i hi => by
        rw [co_tb ht, Bool.and_eq_true, Bool.not_eq_true'] at hi
        rw [co_tb hs, hi.1, Bool.true_and]
        cases c2 : s.testBit i with
        | false => rfl
        | true => exact absurd ((sub_tb h c2).symm.trans hi.2) (by decide))) c
      rw [this] at z
      exact z
theorem aln_g {P : Nat → Bool} : ∀ {n : Nat}, aln P n = true → ∀ k, k < n → P k = true := by
  intro n
  induction n with
  | zero => intro _ k hk'; omega
  | succ n ih =>
    intro h k hk'
    have h : (aln P n && P n) = true := h
    rw [Bool.and_eq_true] at h
    by_cases z : k = n
    · rw [z]; exact h.2
    · exact ih h.1 k (by omega)
theorem aln_i {P : Nat → Bool} : ∀ {n : Nat}, (∀ k, k < n → P k = true) → aln P n = true := by
  intro n
  induction n with
  | zero => intro _; rfl
  | succ n ih => intro h; exact aln_s (ih (fun k hk' => h k (by omega))) (h n (by omega))
theorem tb_lt {s m i : Nat} (hs : s < 2 ^ m) (h : s.testBit i = true) : i < m := by
  by_cases z : i < m
  · exact z
  · rw [Nat.testBit_lt_two_pow (Nat.lt_of_lt_of_le hs (Nat.pow_le_pow_right (by decide) (by omega)))] at h
    cases h
/-- of two least ones none is inside the other -/
theorem mi_a {W : Nat → Bool} {m : Nat} {hd : Bool} (M : Wm W m) {a b : Nat} (ha : a < 2 ^ m) (hb : b < 2 ^ m) (pa : mi W m hd a = true) (pb : mi W m hd b = true) (h : a &&& b = a) : a = b := by
  unfold mi at pa pb
  rw [Bool.and_eq_true] at pa pb
  refine Nat.eq_of_testBit_eq (fun i => ?_)
  cases c : a.testBit i with
  | true => exact (sub_tb h c).symm
  | false =>
    cases c2 : b.testBit i with
    | false => rfl
    | true =>
      have g := aln_g pb.2 i (tb_lt hb c2)
      have : dz W m hd (rmb b i) = true := dz_m M a (rmb b i) ha (rmb_lt hb) (tb_sub (fun j hj => by
        rw [rmb_tb, sub_tb h hj, Bool.true_and]
        by_cases z : i = j
        · rw [← z, c] at hj; cases hj
        · rw [decide_eq_false z]; rfl)) pa.1
      rw [c2, this] at g
      exact absurd g (by decide)
theorem cnt_fl {P : Nat → Bool} : ∀ n, cnt P n = ((List.range n).filter P).length := by
  intro n
  induction n with
  | zero => rfl
  | succ n ih =>
    rw [List.range_succ, List.filter_append, List.length_append, ← ih]
    cases c : P n with
    | true => rw [cnt_t c]; simp [c]
    | false => rw [cnt_f c]; simp [c]
theorem mi_924 {W : Nat → Bool} {m : Nat} {hd : Bool} (m12 : m ≤ 12) (M : Wm W m) : cnt (mi W m hd) (2 ^ m) ≤ 924 := by
  have p12 : 2 ^ m ≤ 4096 := show 2 ^ m ≤ 2 ^ 12 from Nat.pow_le_pow_right (by decide) m12
  have e : cnt (mi W m hd) (2 ^ m) = cnt (fun s => decide (s < 2 ^ m) && mi W m hd s) (2 ^ m) := cnt_c _ (fun k hk' => by rw [decide_eq_true hk', Bool.true_and])
  rw [e]
  refine Nat.le_trans (cnt_m p12) ?_
  rw [cnt_fl]
  refine sperner (fun a b ha hb h => ?_)
  rw [Bool.and_eq_true] at ha hb
  exact mi_a M (of_decide_eq_true ha.1) (of_decide_eq_true hb.1) ha.2 hb.2 h
theorem lcn_e {W : Nat → Bool} {m : Nat} {hd : Bool} (m12 : m ≤ 12) (M : Wm W m) : lcn (mi W m hd) (2 ^ m) = cnt (mi W m hd) (2 ^ m) := Nat.min_eq_left (mi_924 m12 M)
/-- all in the order of size, then of number -/
def qp (P : Nat → Bool) (N p : Nat) : Bool := P (p % N) && decide (sz (p % N) = p / N)
theorem cnt_ad {P : Nat → Bool} {a : Nat} : ∀ n, cnt P (a + n) = cnt P a + cnt (fun t => P (a + t)) n := by
  intro n
  induction n with
  | zero => rfl
  | succ n ih =>
    show (if P (a + n) = true then cnt P (a + n) + 1 else cnt P (a + n)) = cnt P a + (if P (a + n) = true then cnt (fun t => P (a + t)) n + 1 else cnt (fun t => P (a + t)) n)
    rw [ih]
    split <;> omega
theorem qp_k {P : Nat → Bool} {N k t : Nat} (ht : t < N) : qp P N (N * k + t) = qk P k t := by
  unfold qp qk
  rw [Nat.mul_add_mod, Nat.mod_eq_of_lt ht, Nat.mul_add_div (by omega), Nat.div_eq_of_lt ht, Nat.add_zero]
theorem cq_k {P : Nat → Bool} {N : Nat} : ∀ k, cnt (qp P N) (N * k) = cum P N k := by
  intro k
  induction k with
  | zero => rfl
  | succ k ih =>
    rw [Nat.mul_succ, cnt_ad, ih]
    show _ = cum P N k + cnt (qk P k) N
    rw [cnt_c N (fun t ht => qp_k ht)]
theorem cq_t {P : Nat → Bool} {N k t : Nat} (ht : t ≤ N) : cnt (qp P N) (N * k + t) = cum P N k + cnt (qk P k) t := by
  rw [cnt_ad, cq_k, cnt_c t (fun j hj => qp_k (by omega))]
theorem rk_q {P : Nat → Bool} {N t : Nat} (ht : t < N) : rk P N t = cnt (qp P N) (N * sz t + t) := (cq_t (Nat.le_of_lt ht)).symm
theorem cum_n {P : Nat → Bool} {n : Nat} : ∀ j, cum P (n + 1) j = cum P n j + (if P n = true ∧ sz n < j then 1 else 0) := by
  intro j
  induction j with
  | zero => rw [if_neg (by omega)]; rfl
  | succ j ih =>
    show cum P (n + 1) j + cnt (qk P j) (n + 1) = cum P n j + cnt (qk P j) n + _
    rw [ih]
    cases c : P n with
    | false =>
      rw [cnt_f (show qk P j n = false by unfold qk; rw [c]; rfl), if_neg (fun z => absurd z.1 (by decide)), if_neg (fun z => absurd z.1 (by decide))]
      omega
    | true =>
      by_cases z : sz n = j
      · rw [cnt_t (show qk P j n = true by unfold qk; rw [c, decide_eq_true z]; rfl), if_neg (by omega), if_pos ⟨rfl, by omega⟩]
        omega
      · rw [cnt_f (show qk P j n = false by unfold qk; rw [c, decide_eq_false z]; rfl)]
        by_cases y : sz n < j
        · rw [if_pos ⟨rfl, y⟩, if_pos ⟨rfl, by omega⟩]; omega
        · rw [if_neg (by omega), if_neg (by omega)]; omega
theorem cum_13 {P : Nat → Bool} : ∀ n, cum P n 13 = cnt P n := by
  intro n
  induction n with
  | zero => rfl
  | succ n ih =>
    rw [cum_n, ih]
    have := sz_le (s := n)
    cases c : P n with
    | true => rw [cnt_t c, if_pos ⟨rfl, by omega⟩]
    | false => rw [cnt_f c, if_neg (fun y => absurd y.1 (by decide))]; rfl
theorem cnt_sur {P : Nat → Bool} {j : Nat} : ∀ n, j < cnt P n → ∃ p, p < n ∧ P p = true ∧ cnt P p = j := by
  intro n
  induction n with
  | zero => intro h; exact absurd h (Nat.not_lt_zero j)
  | succ n ih =>
    intro h
    cases c : P n with
    | false =>
      rw [cnt_f c] at h
      obtain ⟨p, p1, p2⟩ := ih h
      exact ⟨p, by omega, p2⟩
    | true =>
      rw [cnt_t c] at h
      by_cases z : j = cnt P n
      · exact ⟨n, by omega, c, z.symm⟩
      · obtain ⟨p, p1, p2⟩ := ih (by omega)
        exact ⟨p, by omega, p2⟩
/-- every place is some set's -/
theorem rk_sur {P : Nat → Bool} {N j : Nat} (N0 : 0 < N) (h : j < cnt P N) : ∃ t, t < N ∧ P t = true ∧ rk P N t = j := by
  rw [← cum_13, ← cq_k] at h
  obtain ⟨p, p1, p2, p3⟩ := cnt_sur _ h
  unfold qp at p2
  rw [Bool.and_eq_true] at p2
  have e := of_decide_eq_true p2.2
  refine ⟨p % N, Nat.mod_lt _ N0, p2.1, ?_⟩
  rw [rk_q (Nat.mod_lt _ N0), e, Nat.div_add_mod]
  exact p3
theorem rk_tot {P : Nat → Bool} {N t : Nat} (h : P t = true) (ht : t < N) : rk P N t < cnt P N := by
  rw [← cum_13]
  have := cum_m (P := P) (N := N) (show sz t + 1 ≤ 13 by have := sz_le (s := t); omega)
  have := rk_lt h ht
  omega
/-- a row holds just those sets -/
theorem rw_all {W : Nat → Bool} {m c : Nat} {hd : Bool} {h : xh_H} (m12 : m ≤ 12) (M : Wm W m) (R : rwQ (mi W m hd) (2 ^ m) c h) : (∀ t, t < 2 ^ m → mi W m hd t = true → ∃ j, j < cnt (mi W m hd) (2 ^ m) ∧ xg 0 h.2.1 c j = nI t) ∧ ∀ j, j < cnt (mi W m hd) (2 ^ m) → ∃ t, t < 2 ^ m ∧ mi W m hd t = true ∧ rk (mi W m hd) (2 ^ m) t = j ∧ xg 0 h.2.1 c j = nI t := by
  have b := mi_924 (hd := hd) m12 M
  refine ⟨fun t ht p => ?_, fun j hj => ?_⟩
  · have l := rk_tot p ht
    exact ⟨_, l, R t ht p (by omega)⟩
  · obtain ⟨t, t1, t2, t3⟩ := rk_sur (Nat.two_pow_pos m) hj
    exact ⟨t, t1, t2, t3, by rw [← t3]; exact R t t1 t2 (by rw [t3]; omega)⟩
/-- in all of them -/
def inA (P : Nat → Bool) (N a : Nat) : Bool := aln (fun s => !P s || s.testBit a) N
/-- in none of them -/
def inN (P : Nat → Bool) (N a : Nat) : Bool := aln (fun s => !P s || !s.testBit a) N
theorem msk_f {n : Nat} : msk (fun _ => true) n = 2 ^ n - 1 := by
  refine Nat.eq_of_testBit_eq (fun i => ?_)
  rw [msk_tb, Nat.testBit_two_pow_sub_one, Bool.and_true]
theorem msk_e {f : Nat → Bool} {n x : Nat} (hx : ∀ i, x.testBit i = (decide (i < n) && f i)) : x = msk f n := Nat.eq_of_testBit_eq (fun i => by rw [hx, msk_tb])
theorem nf_m {R : Nat → Int32} {T : Nat → Nat} {m : Nat} : ∀ L, (∀ j, j < L → R j = nI (T j)) → nf R (nI (2 ^ m - 1)) L = nI (msk (fun a => aln (fun j => (T j).testBit a) L) m) := by
  intro L
  induction L with
  | zero =>
    intro _
    show nI (2 ^ m - 1) = _
    rw [← msk_f]
    rfl
  | succ L ih =>
    intro h
    show nf R _ L &&& R L = _
    rw [ih (fun j hj => h j (by omega)), h L (by omega), nI_and]
    congr 1
    refine msk_e (fun i => ?_)
    rw [Nat.testBit_and, msk_tb]
    show _ = (decide (i < m) && (aln (fun j => (T j).testBit i) L && (T L).testBit i))
    rw [Bool.and_assoc]
theorem idf_m {R : Nat → Int32} {T : Nat → Nat} {m : Nat} : ∀ L, (∀ j, j < L → R j = nI (T j)) → idf R (nI (2 ^ m - 1)) L = nI (msk (fun a => aln (fun j => !(T j).testBit a) L) m) := by
  intro L
  induction L with
  | zero =>
    intro _
    show nI (2 ^ m - 1) = _
    rw [← msk_f]
    rfl
  | succ L ih =>
    intro h
    show idf R _ L &&& (R L ^^^ Int32.ofInt (-1)) = _
    rw [ih (fun j hj => h j (by omega)), h L (by omega)]
    refine nI_andn (fun i _ => ?_)
    rw [msk_tb, msk_tb]
    show _ = (decide (i < m) && (aln (fun j => !(T j).testBit i) L && !(T L).testBit i))
    rw [Bool.and_assoc]
/-- who is needed, who is idle -/
def ndN (P : Nat → Bool) (N m : Nat) : Nat := if cnt P N = 0 then 0 else msk (inA P N) m
def idN (P : Nat → Bool) (N m : Nat) : Nat := msk (inN P N) m
theorem nd_idx {P : Nat → Bool} {N : Nat} (f : Nat → Bool) {T : Nat → Nat} {L : Nat} (h1 : ∀ t, t < N → P t = true → ∃ j, j < L ∧ T j = t) (h2 : ∀ j, j < L → T j < N ∧ P (T j) = true) : aln (fun j => f (T j)) L = aln (fun s => !P s || f s) N := by
  refine Bool.eq_iff_iff.mpr ⟨fun h => aln_i (fun s hs => ?_), fun h => aln_i (fun j hj => ?_)⟩
  · cases c : P s with
    | false => rfl
    | true =>
      obtain ⟨j, j1, j2⟩ := h1 s hs c
      have := aln_g h j j1
      rw [j2] at this
      rw [this]; rfl
  · obtain ⟨a, b⟩ := h2 j hj
    have := aln_g h _ a
    rw [b] at this
    exact this
theorem nd_e {W : Nat → Bool} {m : Nat} {h : xh_H} (m12 : m ≤ 12) (M : Wm W m) (P : PD W m h) : xg 0 h.2.1 14 11 = nI (ndN (mi W m false) (2 ^ m) m) ∧ xg 0 h.2.1 14 12 = nI (idN (mi W m false) (2 ^ m) m) := by
  obtain ⟨-, -, ⟨p3, p4⟩, -, p7, p8⟩ := P
  obtain ⟨r1, r2⟩ := rw_all m12 M p4
  rw [lcn_e m12 M] at p7 p8
  have T : ∃ T : Nat → Nat, ∀ j, j < cnt (mi W m false) (2 ^ m) → T j < 2 ^ m ∧ mi W m false (T j) = true ∧ xg 0 h.2.1 15 j = nI (T j) := by
    refine ⟨fun j => (xg 0 h.2.1 15 j).toNatClampNeg, fun j hj => ?_⟩
    obtain ⟨t, t1, t2, -, t3⟩ := r2 j hj
    have p12 : 2 ^ m ≤ 4096 := show 2 ^ m ≤ 2 ^ 12 from Nat.pow_le_pow_right (by decide) m12
    show (xg 0 h.2.1 15 j).toNatClampNeg < _ ∧ mi W m false (xg 0 h.2.1 15 j).toNatClampNeg = true ∧ _ = nI (xg 0 h.2.1 15 j).toNatClampNeg
    rw [t3, nI_clamp (by omega)]
    exact ⟨t1, t2, rfl⟩
  obtain ⟨T, hT⟩ := T
  have p12 : 2 ^ m ≤ 4096 := show 2 ^ m ≤ 2 ^ 12 from Nat.pow_le_pow_right (by decide) m12
  have h1 : ∀ t, t < 2 ^ m → mi W m false t = true → ∃ j, j < cnt (mi W m false) (2 ^ m) ∧ T j = t := fun t ht p => by
    obtain ⟨j, j1, j2⟩ := r1 t ht p
    obtain ⟨a, -, b⟩ := hT j j1
    rw [j2] at b
    exact ⟨j, j1, ((nI_eq (by omega) (by omega)).mp b).symm⟩
  have h2 : ∀ j, j < cnt (mi W m false) (2 ^ m) → T j < 2 ^ m ∧ mi W m false (T j) = true := fun j hj => ⟨(hT j hj).1, (hT j hj).2.1⟩
  have c9 := cnt_le (P := mi W m false) (2 ^ m)
  constructor
  · rw [p7]
    unfold ndN
    by_cases z : cnt (mi W m false) (2 ^ m) = 0
    · rw [if_pos z, z]; rfl
    · rw [if_neg z, show xe_c .le (nI (cnt (mi W m false) (2 ^ m))) 0 = false from xle_f (by rw [nI_toInt (by omega)]; show (0 : Int) < _; omega)]
      show nf _ (nI (2 ^ m - 1)) _ = _
      rw [nf_m (T := T) _ (fun j hj => (hT j hj).2.2)]
      congr 1
      exact msk_c m (fun a _ => nd_idx (fun s => s.testBit a) h1 h2)
  · rw [p8, idf_m (T := T) _ (fun j hj => (hT j hj).2.2)]
    unfold idN
    congr 1
    exact msk_c m (fun a _ => nd_idx (fun s => !s.testBit a) h1 h2)
/-- today's statute never carries less with more -/
theorem cv_m {h : xh_H} {mem sc : Nat} {d : Int32} (hi : a_inv a_tb h) (m12 : mem ≤ 12) (e33 : xg 0 h.2.1 39 33 = nI sc) (sc8 : sc ≤ 8) (hb : ∀ k s, k < sc → s < 2 ^ mem → ∃ b : Bool, xg 0 h.2.1 44 (4096 * k + s) = bl b) : Wm (cvB (fun k => xg 0 h.2.1 51 k) (fun k => xg 0 h.2.1 44 k) mem sc d) mem := by
  have p12 : 2 ^ mem ≤ 4096 := show 2 ^ mem ≤ 2 ^ 12 from Nat.pow_le_pow_right (by decide) m12
  intro s t hs ht hst
  unfold cvB
  cases o : iF (fun k => xg 0 h.2.1 51 k) (fun _ => true) d sc with
  | none =>
    intro z
    have z := of_decide_eq_true (show decide (s = 2 ^ mem - 1) = true from z)
    show decide (t = 2 ^ mem - 1) = true
    refine decide_eq_true (Nat.eq_of_testBit_eq (fun i => ?_))
    cases c : t.testBit i with
    | true => rw [Nat.testBit_two_pow_sub_one, decide_eq_true (tb_lt ht c)]
    | false =>
      cases c2 : (2 ^ mem - 1).testBit i with
      | false => rfl
      | true => rw [← z] at c2; rw [sub_tb hst c2] at c; exact absurd c (by decide)
  | some k =>
    have kl := iF_lt o
    intro z
    have z := of_decide_eq_true (show decide (xg 0 h.2.1 44 (4096 * k + s) = 1) = true from z)
    show decide (xg 0 h.2.1 44 (4096 * k + t) = 1) = true
    have J := hi.2.2.1 k (by rw [e33, nI_toInt (by omega)]; omega) s t (by omega) (by omega) hst
    dsimp only at J
    rw [z] at J
    obtain ⟨b, e⟩ := hb k t kl ht
    rw [e] at J ⊢
    cases b with
    | true => rfl
    | false => exact absurd J (by decide)
end XOD
end
section
section XMA
section
variable {W : Nat → Bool} {m q r : Nat} {h : xh_H}
set_option maxRecDepth 100000 in
set_option maxHeartbeats 4000000 in
/-- Powers.countCarrying -/
theorem cca_l (A : LA W m q r h) (m12 : m ≤ 12) (hq : a_rq a_tb h) : ∀ (n f s : Nat), s + n = 2 ^ m → xq f xi_X2_countCarrying xmi_X2_countCarrying 4 [(0, .ref 14), (1, .int (nI (cnt W s))), (2, .int (nI s))] [] h (fun v h' => h = h' ∧ v = some (.int (nI (cnt W (2 ^ m))))) := by
  intro n
  induction n with
  | zero =>
    intro f s sn
    have e : s = 2 ^ m := by omega
    subst e
    refine xq_n 33 [] [] [.int (nI (cnt W (2 ^ m)))] h [true] 60 hq rfl ⟨gtt A m12, trivial⟩ (fun _ => ?_)
    exact xq_ret rfl rfl rfl ⟨rfl, rfl⟩
  | succ n ih =>
    intro f s sn
    have r := ih f (s + 1) (by omega)
    refine xq_n 17 [0, 1, 2] [(0, .ref 14), (1, .int (nI (cnt W s))), (2, .int (nI s))] [.int (nI s), va_rf (xg none h.2.2.2 14 6)] h [false] 60 hq rfl ⟨gtf A m12 (by omega), trivial⟩ (fun _ => ?_)
    rw [A.1]
    refine xq_cr (As := [.ref q, .int (nI (s))]) (mj := xmi_X7_holds) (q := []) rfl rfl (fun _ _ => rfl) (xa_cs_ok (d := 0) (pc := 0) (lv := []) (nL := 0) A.2.1 rfl).1 (fun f => hl_q A m12 (by omega) hq) ?_
    rintro v h1 ⟨rfl, rfl⟩
    cases c : W s with
    | true =>
      rw [cnt_t c] at r
      refine xq_n 4 [0, 1, 2] [(0, .ref 14), (1, .int (nI (cnt W s) + Int32.ofInt 1)), (2, .int (nI s + Int32.ofInt 1))] [] h [false] 60 hq rfl ⟨rfl, trivial⟩ (fun _ => ?_)
      rw [nI_1', nI_1']
      exact r
    | false =>
      rw [cnt_f c] at r
      refine xq_n 4 [0, 1, 2] [(0, .ref 14), (1, .int (nI (cnt W s))), (2, .int (nI s + Int32.ofInt 1))] [] h [true] 60 hq rfl ⟨rfl, trivial⟩ (fun _ => ?_)
      rw [nI_1']
      exact r
theorem cca_q {f : Nat} (A : LA W m q r h) (m12 : m ≤ 12) (hq : a_rq a_tb h) : xq f xi_X2_countCarrying xmi_X2_countCarrying 0 [(0, .ref 14)] [] h (fun v h' => h = h' ∧ v = some (.int (nI (cnt W (2 ^ m))))) := by
  refine xq_n 4 [0, 1, 2] [(0, .ref 14), (1, .int (Int32.ofInt 0)), (2, .int (Int32.ofInt 0))] [] h [] 60 hq rfl trivial (fun _ => ?_)
  exact cca_l A m12 hq (2 ^ m) f 0 (by omega)
/-- a set and all others -/
def prP (W : Nat → Bool) (m s : Nat) : Bool := !(W s && W (co m s))
def sgP (W : Nat → Bool) (m s : Nat) : Bool := W s || W (co m s)
set_option maxRecDepth 100000 in
set_option maxHeartbeats 4000000 in
theorem ipr_l (A : LA W m q r h) (m12 : m ≤ 12) (hq : a_rq a_tb h) : ∀ (n f s : Nat), s + n = 2 ^ m → aln (prP W m) s = true → xq f xi_X2_isProper xmi_X2_isProper 2 [(0, .ref 14), (1, .int (nI s))] [] h (fun v h' => h = h' ∧ v = some (.int (bl (aln (prP W m) (2 ^ m))))) := by
  intro n
  induction n with
  | zero =>
    intro f s sn w
    have e : s = 2 ^ m := by omega
    subst e
    refine xq_n 48 [] [] [.int (Int32.ofInt 1)] h [true] 60 hq rfl ⟨gtt A m12, trivial⟩ (fun _ => ?_)
    exact xq_ret rfl rfl rfl ⟨rfl, by rw [w]; rfl⟩
  | succ n ih =>
    intro f s sn w
    have hs : s < 2 ^ m := by omega
    refine xq_n 15 [0, 1] [(0, .ref 14), (1, .int (nI s))] [.int (nI s), va_rf (xg none h.2.2.2 14 6)] h [false] 60 hq rfl ⟨gtf A m12 hs, trivial⟩ (fun _ => ?_)
    rw [A.1]
    refine xq_cr (As := [.ref q, .int (nI (s))]) (mj := xmi_X7_holds) (q := []) rfl rfl (fun _ _ => rfl) (xa_cs_ok (d := 0) (pc := 0) (lv := []) (nL := 0) A.2.1 rfl).1 (fun f => hl_q A m12 (hs) hq) ?_
    rintro v h1 ⟨rfl, rfl⟩
    cases c : W s with
    | false =>
      refine xq_n 2 [0, 1] [(0, .ref 14), (1, .int (nI s + Int32.ofInt 1))] [] h [true] 60 hq rfl ⟨rfl, trivial⟩ (fun _ => ?_)
      rw [nI_1']
      exact ih f (s + 1) (by omega) (aln_s w (by unfold prP; rw [c]; rfl))
    | true =>
      refine xq_n 33 [0, 1] [(0, .ref 14), (1, .int (nI s))] [.int (xg 0 h.2.1 14 8 &&& (nI s ^^^ Int32.ofInt (-1))), va_rf (xg none h.2.2.2 14 6)] h [false] 60 hq rfl ⟨rfl, trivial⟩ (fun _ => ?_)
      rw [A.1, A.2.2.2.2.2.1, coc_n m12 hs]
      refine xq_cr (As := [.ref q, .int (nI (co m s))]) (mj := xmi_X7_holds) (q := []) rfl rfl (fun _ _ => rfl) (xa_cs_ok (d := 0) (pc := 0) (lv := []) (nL := 0) A.2.1 rfl).1 (fun f => hl_q A m12 (co_lt) hq) ?_
      rintro v h1 ⟨rfl, rfl⟩
      cases c2 : W (co m s) with
      | false =>
        refine xq_n 2 [0, 1] [(0, .ref 14), (1, .int (nI s + Int32.ofInt 1))] [] h [true] 60 hq rfl ⟨rfl, trivial⟩ (fun _ => ?_)
        rw [nI_1']
        exact ih f (s + 1) (by omega) (aln_s w (by unfold prP; rw [c, c2]; rfl))
      | true =>
        refine xq_n 40 [] [] [.int (Int32.ofInt 0)] h [false] 60 hq rfl ⟨rfl, trivial⟩ (fun _ => ?_)
        exact xq_ret rfl rfl rfl ⟨rfl, by rw [aln_f (show prP W m s = false by unfold prP; rw [c, c2]; rfl) (2 ^ m) hs]; rfl⟩
theorem ipr_q {f : Nat} (A : LA W m q r h) (m12 : m ≤ 12) (hq : a_rq a_tb h) : xq f xi_X2_isProper xmi_X2_isProper 0 [(0, .ref 14)] [] h (fun v h' => h = h' ∧ v = some (.int (bl (aln (prP W m) (2 ^ m))))) := by
  refine xq_n 2 [0, 1] [(0, .ref 14), (1, .int (Int32.ofInt 0))] [] h [] 60 hq rfl trivial (fun _ => ?_)
  exact ipr_l A m12 hq (2 ^ m) f 0 (by omega) rfl
set_option maxRecDepth 100000 in
set_option maxHeartbeats 4000000 in
theorem isg_l (A : LA W m q r h) (m12 : m ≤ 12) (hq : a_rq a_tb h) : ∀ (n f s : Nat), s + n = 2 ^ m → aln (sgP W m) s = true → xq f xi_X2_isStrong xmi_X2_isStrong 2 [(0, .ref 14), (1, .int (nI s))] [] h (fun v h' => h = h' ∧ v = some (.int (bl (aln (sgP W m) (2 ^ m))))) := by
  intro n
  induction n with
  | zero =>
    intro f s sn w
    have e : s = 2 ^ m := by omega
    subst e
    refine xq_n 48 [] [] [.int (Int32.ofInt 1)] h [true] 60 hq rfl ⟨gtt A m12, trivial⟩ (fun _ => ?_)
    exact xq_ret rfl rfl rfl ⟨rfl, by rw [w]; rfl⟩
  | succ n ih =>
    intro f s sn w
    have hs : s < 2 ^ m := by omega
    refine xq_n 15 [0, 1] [(0, .ref 14), (1, .int (nI s))] [.int (nI s), va_rf (xg none h.2.2.2 14 6)] h [false] 60 hq rfl ⟨gtf A m12 hs, trivial⟩ (fun _ => ?_)
    rw [A.1]
    refine xq_cr (As := [.ref q, .int (nI (s))]) (mj := xmi_X7_holds) (q := []) rfl rfl (fun _ _ => rfl) (xa_cs_ok (d := 0) (pc := 0) (lv := []) (nL := 0) A.2.1 rfl).1 (fun f => hl_q A m12 (hs) hq) ?_
    rintro v h1 ⟨rfl, rfl⟩
    cases c : W s with
    | true =>
      refine xq_n 2 [0, 1] [(0, .ref 14), (1, .int (nI s + Int32.ofInt 1))] [] h [true] 60 hq rfl ⟨rfl, trivial⟩ (fun _ => ?_)
      rw [nI_1']
      exact ih f (s + 1) (by omega) (aln_s w (by unfold sgP; rw [c]; rfl))
    | false =>
      refine xq_n 33 [0, 1] [(0, .ref 14), (1, .int (nI s))] [.int (xg 0 h.2.1 14 8 &&& (nI s ^^^ Int32.ofInt (-1))), va_rf (xg none h.2.2.2 14 6)] h [false] 60 hq rfl ⟨rfl, trivial⟩ (fun _ => ?_)
      rw [A.1, A.2.2.2.2.2.1, coc_n m12 hs]
      refine xq_cr (As := [.ref q, .int (nI (co m s))]) (mj := xmi_X7_holds) (q := []) rfl rfl (fun _ _ => rfl) (xa_cs_ok (d := 0) (pc := 0) (lv := []) (nL := 0) A.2.1 rfl).1 (fun f => hl_q A m12 (co_lt) hq) ?_
      rintro v h1 ⟨rfl, rfl⟩
      cases c2 : W (co m s) with
      | true =>
        refine xq_n 2 [0, 1] [(0, .ref 14), (1, .int (nI s + Int32.ofInt 1))] [] h [true] 60 hq rfl ⟨rfl, trivial⟩ (fun _ => ?_)
        rw [nI_1']
        exact ih f (s + 1) (by omega) (aln_s w (by unfold sgP; rw [c, c2]; rfl))
      | false =>
        refine xq_n 40 [] [] [.int (Int32.ofInt 0)] h [false] 60 hq rfl ⟨rfl, trivial⟩ (fun _ => ?_)
        exact xq_ret rfl rfl rfl ⟨rfl, by rw [aln_f (show sgP W m s = false by unfold sgP; rw [c, c2]; rfl) (2 ^ m) hs]; rfl⟩
theorem isg_q {f : Nat} (A : LA W m q r h) (m12 : m ≤ 12) (hq : a_rq a_tb h) : xq f xi_X2_isStrong xmi_X2_isStrong 0 [(0, .ref 14)] [] h (fun v h' => h = h' ∧ v = some (.int (bl (aln (sgP W m) (2 ^ m))))) := by
  refine xq_n 2 [0, 1] [(0, .ref 14), (1, .int (Int32.ofInt 0))] [] h [] 60 hq rfl trivial (fun _ => ?_)
  exact isg_l A m12 hq (2 ^ m) f 0 (by omega) rfl
/-- one of two is no weaker -/
def ge1 (W : Nat → Bool) (m a b : Nat) : Bool := aln (gp W a b) (2 ^ m) || aln (gp W b a) (2 ^ m)
theorem ge1_s {a b : Nat} : ge1 W m a b = ge1 W m b a := Bool.or_comm _ _
def lnd (W : Nat → Bool) (m : Nat) : Bool := aln (fun a => aln (ge1 W m a) a) m
theorem cmv_2 {o u : Bool} : xe_c .ne (cmv o u) (Int32.ofInt 2) = (o || u) := by cases o <;> cases u <;> decide
set_option maxRecDepth 100000 in
set_option maxHeartbeats 4000000 in
theorem iln_in (m12 : m ≤ 12) (e7 : xg 0 h.2.1 14 7 = nI m) (P : PD W m h) (hq : a_rq a_tb h) {a : Nat} (ha : a < m) (K : ∀ f, aln (ge1 W m a) a = true → xq f xi_X2_isLined xmi_X2_isLined 2 [(0, .ref 14), (1, .int (nI (a + 1)))] [] h (fun v h' => h = h' ∧ v = some (.int (bl (lnd W m))))) : ∀ (n f b : Nat), b + n = a → aln (ge1 W m a) b = true → xq f xi_X2_isLined xmi_X2_isLined 12 [(0, .ref 14), (1, .int (nI a)), (2, .int (nI b))] [] h (fun v h' => h = h' ∧ v = some (.int (bl (lnd W m)))) := by
  intro n
  induction n with
  | zero =>
    intro f b bn w
    have e : b = a := by omega
    subst e
    refine xq_n 2 [0, 1] [(0, .ref 14), (1, .int (nI b + Int32.ofInt 1))] [] h [true] 60 hq rfl ⟨nge_t (by omega) (by omega) (Nat.le_refl _), trivial⟩ (fun _ => ?_)
    rw [nI_1']
    exact K f w
  | succ n ih =>
    intro f b bn w
    refine xq_n 20 [0, 1, 2] [(0, .ref 14), (1, .int (nI a)), (2, .int (nI b))] [.int (nI b), .int (nI a), .ref 14] h [false] 60 hq rfl ⟨nge_f (by omega) (by omega) (by omega), trivial⟩ (fun _ => ?_)
    refine xq_run hq rfl rfl (cmp_q m12 P ha (show b < m by omega) hq) ?_
    rintro v h1 ⟨rfl, rfl⟩
    have g := cmv_2 (o := aln (gp W a b) (2 ^ m)) (u := aln (gp W b a) (2 ^ m))
    cases c : (aln (gp W a b) (2 ^ m) || aln (gp W b a) (2 ^ m)) with
    | true =>
      rw [c] at g
      refine xq_n 12 [0, 1, 2] [(0, .ref 14), (1, .int (nI a)), (2, .int (nI b + Int32.ofInt 1))] [] h [true] 60 hq rfl ⟨g, trivial⟩ (fun _ => ?_)
      rw [nI_1']
      exact ih f (b + 1) (by omega) (aln_s w c)
    | false =>
      rw [c] at g
      refine xq_n 28 [] [] [.int (Int32.ofInt 0)] h [false] 60 hq rfl ⟨g, trivial⟩ (fun _ => ?_)
      refine xq_ret rfl rfl rfl ⟨rfl, ?_⟩
      unfold lnd
      rw [aln_f (P := fun a => aln (ge1 W m a) a) (k := a) (aln_f (P := ge1 W m a) (k := b) c a (by omega)) m ha]
      rfl
set_option maxRecDepth 100000 in
set_option maxHeartbeats 4000000 in
theorem iln_l (m12 : m ≤ 12) (e7 : xg 0 h.2.1 14 7 = nI m) (P : PD W m h) (hq : a_rq a_tb h) : ∀ (n f a : Nat), a + n = m → aln (fun a => aln (ge1 W m a) a) a = true → xq f xi_X2_isLined xmi_X2_isLined 2 [(0, .ref 14), (1, .int (nI a))] [] h (fun v h' => h = h' ∧ v = some (.int (bl (lnd W m)))) := by
  intro n
  induction n with
  | zero =>
    intro f a an w
    have e : a = m := by omega
    subst e
    refine xq_n 42 [] [] [.int (Int32.ofInt 1)] h [true] 60 hq rfl ⟨(show xe_c .ge (nI a) (xg 0 h.2.1 14 7) = true by rw [e7]; exact nge_t (by omega) (by omega) (Nat.le_refl _)), trivial⟩ (fun _ => ?_)
    exact xq_ret rfl rfl rfl ⟨rfl, by unfold lnd; rw [w]; rfl⟩
  | succ n ih =>
    intro f a an w
    refine xq_n 12 [0, 1, 2] [(0, .ref 14), (1, .int (nI a)), (2, .int (Int32.ofInt 0))] [] h [false] 60 hq rfl ⟨(show xe_c .ge (nI a) (xg 0 h.2.1 14 7) = false by rw [e7]; exact nge_f (by omega) (by omega) (by omega)), trivial⟩ (fun _ => ?_)
    exact iln_in m12 e7 P hq (show a < m by omega) (fun f w2 => ih f (a + 1) (by omega) (aln_s w w2)) a f 0 (by omega) rfl
theorem iln_q {f : Nat} (m12 : m ≤ 12) (e7 : xg 0 h.2.1 14 7 = nI m) (P : PD W m h) (hq : a_rq a_tb h) : xq f xi_X2_isLined xmi_X2_isLined 0 [(0, .ref 14)] [] h (fun v h' => h = h' ∧ v = some (.int (bl (lnd W m)))) := by
  refine xq_n 2 [0, 1] [(0, .ref 14), (1, .int (Int32.ofInt 0))] [] h [] 60 hq rfl trivial (fun _ => ?_)
  exact iln_l m12 e7 P hq m f 0 (by omega) rfl
end
/-- what many answers -/
def maV (W : Nat → Bool) (m : Nat) : Nat → Int32
  | 0 => nI (cnt W (2 ^ m))
  | 1 => nI (cnt (mi W m false) (2 ^ m))
  | 2 => nI (cnt (mi W m true) (2 ^ m))
  | 3 => nI (sz (ndN (mi W m false) (2 ^ m) m))
  | 4 => nI (sz (idN (mi W m false) (2 ^ m) m))
  | 5 => bl (aln (prP W m) (2 ^ m))
  | 6 => bl (aln (sgP W m) (2 ^ m))
  | 7 => bl (lnd W m)
  | _ => Int32.ofInt (-1)
def maA (W : Nat → Bool) (m : Nat) (x : Int32) : Int32 := if x.toInt < 0 ∨ 7 < x.toInt then Int32.ofInt (-1) else maV W m x.toInt.toNat
theorem maA_o {W : Nat → Bool} {m : Nat} {x : Int32} (h : x.toInt < 0 ∨ 7 < x.toInt) : maA W m x = Int32.ofInt (-1) := if_pos h
theorem maA_i {W : Nat → Bool} {m : Nat} {x : Int32} {i : Nat} (i8 : i < 8) (h : x.toInt = 0 + (i : Int)) : maA W m x = maV W m i := by
  unfold maA
  rw [if_neg (by omega), show x.toInt.toNat = i by omega]
theorem nd_lt {P : Nat → Bool} {N m : Nat} (m12 : m ≤ 12) : ndN P N m < 4096 := by
  have p12 : 2 ^ m ≤ 4096 := show 2 ^ m ≤ 2 ^ 12 from Nat.pow_le_pow_right (by decide) m12
  unfold ndN
  split
  · decide
  · exact Nat.lt_of_lt_of_le (msk_lt m) p12
theorem id_lt {P : Nat → Bool} {N m : Nat} (m12 : m ≤ 12) : idN P N m < 4096 := by
  have p12 : 2 ^ m ≤ 4096 := show 2 ^ m ≤ 2 ^ 12 from Nat.pow_le_pow_right (by decide) m12
  exact Nat.lt_of_lt_of_le (msk_lt m) p12
section
variable {mem sc : Nat} {d : Int32} {h : xh_H}
set_option maxRecDepth 100000 in
set_option maxHeartbeats 4000000 in
theorem ma9_q {f : Nat} {x : Int32} (hi : a_inv a_tb h) (hn : 72 ≤ h.1.length) (e9 : xg 0 h.2.1 0 9 = nI mem) (m1 : 1 ≤ mem) (m12 : mem ≤ 12) (e8 : xg 0 h.2.1 0 8 = nI sc) (sc8 : sc ≤ 8) (e10 : xg 0 h.2.1 0 10 = d) (si : SI h) (pi : PI h) (M : Wm (cvB (fun k => xg 0 h.2.1 51 k) (fun k => xg 0 h.2.1 44 k) mem sc d) mem) : xq f xi_X9_many xmi_X9_many 0 [(0, .ref 0), (1, .int x)] [] h (fun v h' => v = some (.int (maA (cvB (fun k => xg 0 h.2.1 51 k) (fun k => xg 0 h.2.1 44 k) mem sc d) mem x)) ∧ PI h') := by
  have hq := a_rq_of hi.1 hn
  refine xq_n 1 [1] [(1, .int x)] [.ref 0] h [] 60 hq rfl trivial (fun _ => ?_)
  refine xq_run hq rfl rfl (pt9_q hi hn e9 m1 m12 e8 sc8 e10 si pi) ?_
  rintro v h1 ⟨rfl, Y, PP, q, r, A, P⟩
  have hq1 := Yf_q hi hn Y
  obtain ⟨n1, n2⟩ := nd_e m12 M P
  refine xq_n 6 [2] [(2, .ref 14)] [.int x] h1 [] 60 hq1 rfl trivial (fun _ => ?_)
  refine xq_sw rfl (fun hx => ?_) (fun i off ho hx => ?_)
  · rw [maA_o hx]
    show xq f _ _ 122 _ _ _ _
    refine xq_n 123 [] [] [.int (Int32.ofInt (-1))] h1 [] 60 hq1 rfl trivial (fun _ => ?_)
    exact xq_ret rfl rfl rfl ⟨rfl, PP⟩
  · match i, ho with
    | 0, rfl =>
      rw [maA_i (by decide) hx]
      show xq f _ _ 52 _ _ _ _
      refine xq_n 53 [] [] [.ref 14] h1 [] 60 hq1 rfl trivial (fun _ => ?_)
      refine xq_run hq1 rfl rfl (cca_q A m12 hq1) ?_
      rintro v h2 ⟨rfl, rfl⟩
      exact xq_ret rfl rfl rfl ⟨rfl, PP⟩
    | 1, rfl =>
      rw [maA_i (by decide) hx]
      show xq f _ _ 57 _ _ _ _
      refine xq_n 61 [] [] [.int (xg 0 h1.2.1 14 9)] h1 [] 60 hq1 rfl trivial (fun _ => ?_)
      exact xq_ret rfl rfl rfl ⟨by rw [P.2.2.1.1, lcn_e m12 M]; rfl, PP⟩
    | 2, rfl =>
      rw [maA_i (by decide) hx]
      show xq f _ _ 62 _ _ _ _
      refine xq_n 66 [] [] [.int (xg 0 h1.2.1 14 10)] h1 [] 60 hq1 rfl trivial (fun _ => ?_)
      exact xq_ret rfl rfl rfl ⟨by rw [P.2.2.2.1.1, lcn_e m12 M]; rfl, PP⟩
    | 3, rfl =>
      rw [maA_i (by decide) hx]
      show xq f _ _ 67 _ _ _ _
      refine xq_n 71 [] [] [.int (xg 0 h1.2.1 14 11)] h1 [] 60 hq1 rfl trivial (fun _ => ?_)
      rw [n1]
      refine xq_run hq1 rfl rfl (bit_q (nd_lt m12) hq1) ?_
      rintro v h2 ⟨rfl, rfl⟩
      exact xq_ret rfl rfl rfl ⟨rfl, PP⟩
    | 4, rfl =>
      rw [maA_i (by decide) hx]
      show xq f _ _ 75 _ _ _ _
      refine xq_n 79 [] [] [.int (xg 0 h1.2.1 14 12)] h1 [] 60 hq1 rfl trivial (fun _ => ?_)
      rw [n2]
      refine xq_run hq1 rfl rfl (bit_q (id_lt m12) hq1) ?_
      rintro v h2 ⟨rfl, rfl⟩
      exact xq_ret rfl rfl rfl ⟨rfl, PP⟩
    | 5, rfl =>
      rw [maA_i (by decide) hx]
      show xq f _ _ 83 _ _ _ _
      refine xq_n 84 [] [] [.ref 14] h1 [] 60 hq1 rfl trivial (fun _ => ?_)
      refine xq_run hq1 rfl rfl (ipr_q A m12 hq1) ?_
      rintro v h2 ⟨rfl, rfl⟩
      show xq f _ _ _ _ _ _ (fun v h' => v = some (.int (bl (aln (prP (cvB (fun k => xg 0 h.2.1 51 k) (fun k => xg 0 h.2.1 44 k) mem sc d) mem) (2 ^ mem)))) ∧ PI h')
      cases aln (prP (cvB (fun k => xg 0 h.2.1 51 k) (fun k => xg 0 h.2.1 44 k) mem sc d) mem) (2 ^ mem) with
      | false =>
        refine xq_n 95 [] [] [.int (Int32.ofInt 0)] h1 [true] 60 hq1 rfl ⟨rfl, trivial⟩ (fun _ => ?_)
        exact xq_ret rfl rfl rfl ⟨rfl, PP⟩
      | true =>
        refine xq_n 95 [] [] [.int (Int32.ofInt 1)] h1 [false] 60 hq1 rfl ⟨rfl, trivial⟩ (fun _ => ?_)
        exact xq_ret rfl rfl rfl ⟨rfl, PP⟩
    | 6, rfl =>
      rw [maA_i (by decide) hx]
      show xq f _ _ 96 _ _ _ _
      refine xq_n 97 [] [] [.ref 14] h1 [] 60 hq1 rfl trivial (fun _ => ?_)
      refine xq_run hq1 rfl rfl (isg_q A m12 hq1) ?_
      rintro v h2 ⟨rfl, rfl⟩
      show xq f _ _ _ _ _ _ (fun v h' => v = some (.int (bl (aln (sgP (cvB (fun k => xg 0 h.2.1 51 k) (fun k => xg 0 h.2.1 44 k) mem sc d) mem) (2 ^ mem)))) ∧ PI h')
      cases aln (sgP (cvB (fun k => xg 0 h.2.1 51 k) (fun k => xg 0 h.2.1 44 k) mem sc d) mem) (2 ^ mem) with
      | false =>
        refine xq_n 108 [] [] [.int (Int32.ofInt 0)] h1 [true] 60 hq1 rfl ⟨rfl, trivial⟩ (fun _ => ?_)
        exact xq_ret rfl rfl rfl ⟨rfl, PP⟩
      | true =>
        refine xq_n 108 [] [] [.int (Int32.ofInt 1)] h1 [false] 60 hq1 rfl ⟨rfl, trivial⟩ (fun _ => ?_)
        exact xq_ret rfl rfl rfl ⟨rfl, PP⟩
    | 7, rfl =>
      rw [maA_i (by decide) hx]
      show xq f _ _ 109 _ _ _ _
      refine xq_n 110 [] [] [.ref 14] h1 [] 60 hq1 rfl trivial (fun _ => ?_)
      refine xq_run hq1 rfl rfl (iln_q m12 A.2.2.2.2.1 P hq1) ?_
      rintro v h2 ⟨rfl, rfl⟩
      show xq f _ _ _ _ _ _ (fun v h' => v = some (.int (bl (lnd (cvB (fun k => xg 0 h.2.1 51 k) (fun k => xg 0 h.2.1 44 k) mem sc d) mem))) ∧ PI h')
      cases lnd (cvB (fun k => xg 0 h.2.1 51 k) (fun k => xg 0 h.2.1 44 k) mem sc d) mem with
      | false =>
        refine xq_n 121 [] [] [.int (Int32.ofInt 0)] h1 [true] 60 hq1 rfl ⟨rfl, trivial⟩ (fun _ => ?_)
        exact xq_ret rfl rfl rfl ⟨rfl, PP⟩
      | true =>
        refine xq_n 121 [] [] [.int (Int32.ofInt 1)] h1 [false] 60 hq1 rfl ⟨rfl, trivial⟩ (fun _ => ?_)
        exact xq_ret rfl rfl rfl ⟨rfl, PP⟩
    | n + 8, ho => cases ho
end
end XMA
end
section
section XMR
section
variable {W : Nat → Bool} {m : Nat} {h : xh_H}
theorem rwc {s : Nat} (A : RA W m h) (m12 : m ≤ 12) (hs : s < 2 ^ m) : xg 0 h.2.1 53 (xg 0 h.2.1 39 35 - Int32.ofInt 1 &&& (nI s ^^^ Int32.ofInt (-1))).toNatClampNeg = bl (W (co m s)) := by
  rw [A.2.1, show nI (2 ^ m) - Int32.ofInt 1 = nI (2 ^ m - 1) from nI_sub (b := 1) (Nat.two_pow_pos m), coc_n m12 hs]
  exact rw0 A m12 co_lt
theorem rwr {s a : Nat} (A : RA W m h) (m12 : m ≤ 12) (hs : s < 2 ^ m) (ha : a < m) : xg 0 h.2.1 53 (nI s &&& ((Int32.ofInt 1 <<< (nI a &&& 31)) ^^^ Int32.ofInt (-1))).toNatClampNeg = bl (W (rmb s a)) := by
  rw [rmb_n (by omega)]
  exact rw0 A m12 (rmb_lt hs)
set_option maxRecDepth 100000 in
set_option maxHeartbeats 4000000 in
/-- X10.isLeast -/
theorem rle_l {s : Nat} (A : RA W m h) (m12 : m ≤ 12) (hs : s < 2 ^ m) (c0 : W s = true) (hq : a_rq a_tb h) : ∀ (j f a : Nat), a + j = m → aln (fun a => !(s.testBit a && dz W m false (rmb s a))) a = true → xq f xi_X10_isLeast xmi_X10_isLeast 13 [(0, .ref 39), (1, .int (nI s)), (2, .int (nI a))] [] h (fun v h' => h = h' ∧ v = some (.int (bl (mi W m false s)))) := by
  intro j
  induction j with
  | zero =>
    intro f a aj w
    have e : a = m := by omega
    subst e
    refine xq_n 54 [] [] [.int (Int32.ofInt 1)] h [true] 60 hq rfl ⟨(show xe_c .ge (nI a) (xg 0 h.2.1 39 4) = true by rw [A.1]; exact nge_t (by omega) (by omega) (Nat.le_refl _)), trivial⟩ (fun _ => ?_)
    exact xq_ret rfl rfl rfl ⟨rfl, by unfold mi; rw [w, show dz W a false s = true from c0]; rfl⟩
  | succ j ih =>
    intro f a aj w
    have ha : a < m := by omega
    have g0 : xe_c .ge (nI a) (xg 0 h.2.1 39 4) = false := by rw [A.1]; exact nge_f (by omega) (by omega) (by omega)
    have g1 := bn1 (rb0 m12 hs ha)
    have g2 := be' (rwr A m12 hs ha)
    cases c1 : s.testBit a with
    | false =>
      rw [c1] at g1
      refine xq_n 13 [0, 1, 2] [(0, .ref 39), (1, .int (nI s)), (2, .int (nI a + Int32.ofInt 1))] [] h [false, true] 60 hq rfl ⟨g0, g1, trivial⟩ (fun _ => ?_)
      rw [nI_1']
      exact ih f (a + 1) (by omega) (aln_s w (by rw [c1]; rfl))
    | true =>
      rw [c1] at g1
      cases c2 : W (rmb s a) with
      | true =>
        rw [c2] at g2
        refine xq_n 46 [] [] [.int (Int32.ofInt 0)] h [false, false, false] 60 hq rfl ⟨g0, g1, g2, trivial⟩ (fun _ => ?_)
        exact xq_ret rfl rfl rfl ⟨rfl, by unfold mi; rw [aln_f (k := a) (show (!(s.testBit a && dz W m false (rmb s a))) = false by rw [c1, show dz W m false (rmb s a) = true from c2]; rfl) m ha, Bool.and_false]; rfl⟩
      | false =>
        rw [c2] at g2
        refine xq_n 13 [0, 1, 2] [(0, .ref 39), (1, .int (nI s)), (2, .int (nI a + Int32.ofInt 1))] [] h [false, false, true] 60 hq rfl ⟨g0, g1, g2, trivial⟩ (fun _ => ?_)
        rw [nI_1']
        exact ih f (a + 1) (by omega) (aln_s w (by rw [show dz W m false (rmb s a) = false from c2, Bool.and_false]; rfl))
set_option maxRecDepth 100000 in
set_option maxHeartbeats 4000000 in
theorem rle_q {f s : Nat} (A : RA W m h) (m12 : m ≤ 12) (hs : s < 2 ^ m) (hq : a_rq a_tb h) : xq f xi_X10_isLeast xmi_X10_isLeast 0 [(0, .ref 39), (1, .int (nI s))] [] h (fun v h' => h = h' ∧ v = some (.int (bl (mi W m false s)))) := by
  have g := bn (rw0 A m12 hs)
  cases c0 : W s with
  | false =>
    rw [c0] at g
    refine xq_n 10 [] [] [.int (Int32.ofInt 0)] h [false] 60 hq rfl ⟨g, trivial⟩ (fun _ => ?_)
    exact xq_ret rfl rfl rfl ⟨rfl, by unfold mi; rw [show dz W m false s = false from c0]; rfl⟩
  | true =>
    rw [c0] at g
    refine xq_n 13 [0, 1, 2] [(0, .ref 39), (1, .int (nI s)), (2, .int (Int32.ofInt 0))] [] h [true] 60 hq rfl ⟨g, trivial⟩ (fun _ => ?_)
    exact rle_l A m12 hs c0 hq m f 0 (by omega) rfl
/-- X10.hinders -/
theorem rhi_q {f s : Nat} (A : RA W m h) (m12 : m ≤ 12) (hs : s < 2 ^ m) (hq : a_rq a_tb h) : xq f xi_X10_hinders xmi_X10_hinders 0 [(0, .ref 39), (1, .int (nI s))] [] h (fun v h' => h = h' ∧ v = some (.int (bl (dz W m true s)))) := by
  have g := bn (rwc A m12 hs)
  show xq f _ _ _ _ _ _ (fun v h' => h = h' ∧ v = some (.int (bl (!W (co m s)))))
  cases c0 : W (co m s) with
  | true =>
    rw [c0] at g
    refine xq_n 23 [] [] [.int (Int32.ofInt 0)] h [true] 60 hq rfl ⟨g, trivial⟩ (fun _ => ?_)
    exact xq_ret rfl rfl rfl ⟨rfl, rfl⟩
  | false =>
    rw [c0] at g
    refine xq_n 23 [] [] [.int (Int32.ofInt 1)] h [false] 60 hq rfl ⟨g, trivial⟩ (fun _ => ?_)
    exact xq_ret rfl rfl rfl ⟨rfl, rfl⟩
set_option maxRecDepth 100000 in
set_option maxHeartbeats 4000000 in
/-- X10.isLeastHinder -/
theorem rlh_l {s : Nat} (A : RA W m h) (m12 : m ≤ 12) (hs : s < 2 ^ m) (c0 : dz W m true s = true) (hq : a_rq a_tb h) : ∀ (j f a : Nat), a + j = m → aln (fun a => !(s.testBit a && dz W m true (rmb s a))) a = true → xq f xi_X10_isLeastHinder xmi_X10_isLeastHinder 12 [(0, .ref 39), (1, .int (nI s)), (2, .int (nI a))] [] h (fun v h' => h = h' ∧ v = some (.int (bl (mi W m true s)))) := by
  intro j
  induction j with
  | zero =>
    intro f a aj w
    have e : a = m := by omega
    subst e
    refine xq_n 52 [] [] [.int (Int32.ofInt 1)] h [true] 60 hq rfl ⟨(show xe_c .ge (nI a) (xg 0 h.2.1 39 4) = true by rw [A.1]; exact nge_t (by omega) (by omega) (Nat.le_refl _)), trivial⟩ (fun _ => ?_)
    exact xq_ret rfl rfl rfl ⟨rfl, by unfold mi; rw [w, c0]; rfl⟩
  | succ j ih =>
    intro f a aj w
    have ha : a < m := by omega
    have g0 : xe_c .ge (nI a) (xg 0 h.2.1 39 4) = false := by rw [A.1]; exact nge_f (by omega) (by omega) (by omega)
    have g1 := bn1 (rb0 m12 hs ha)
    cases c1 : s.testBit a with
    | false =>
      rw [c1] at g1
      refine xq_n 12 [0, 1, 2] [(0, .ref 39), (1, .int (nI s)), (2, .int (nI a + Int32.ofInt 1))] [] h [false, true] 60 hq rfl ⟨g0, g1, trivial⟩ (fun _ => ?_)
      rw [nI_1']
      exact ih f (a + 1) (by omega) (aln_s w (by rw [c1]; rfl))
    | true =>
      rw [c1] at g1
      refine xq_n 37 [0, 1, 2] [(0, .ref 39), (1, .int (nI s)), (2, .int (nI a))] [.int (nI s &&& ((Int32.ofInt 1 <<< (nI a &&& 31)) ^^^ Int32.ofInt (-1))), .ref 39] h [false, false] 60 hq rfl ⟨g0, g1, trivial⟩ (fun _ => ?_)
      rw [rmb_n (by omega)]
      refine xq_run hq rfl rfl (rhi_q A m12 (rmb_lt hs) hq) ?_
      rintro v h1 ⟨rfl, rfl⟩
      cases c2 : dz W m true (rmb s a) with
      | true =>
        refine xq_n 44 [] [] [.int (Int32.ofInt 0)] h [false] 60 hq rfl ⟨rfl, trivial⟩ (fun _ => ?_)
        exact xq_ret rfl rfl rfl ⟨rfl, by unfold mi; rw [aln_f (k := a) (show (!(s.testBit a && dz W m true (rmb s a))) = false by rw [c1, c2]; rfl) m ha, Bool.and_false]; rfl⟩
      | false =>
        refine xq_n 12 [0, 1, 2] [(0, .ref 39), (1, .int (nI s)), (2, .int (nI a + Int32.ofInt 1))] [] h [true] 60 hq rfl ⟨rfl, trivial⟩ (fun _ => ?_)
        rw [nI_1']
        exact ih f (a + 1) (by omega) (aln_s w (by rw [c2, Bool.and_false]; rfl))
theorem rlh_q {f s : Nat} (A : RA W m h) (m12 : m ≤ 12) (hs : s < 2 ^ m) (hq : a_rq a_tb h) : xq f xi_X10_isLeastHinder xmi_X10_isLeastHinder 0 [(0, .ref 39), (1, .int (nI s))] [] h (fun v h' => h = h' ∧ v = some (.int (bl (mi W m true s)))) := by
  refine xq_n 2 [0, 1] [(0, .ref 39), (1, .int (nI s))] [.int (nI s), .ref 39] h [] 60 hq rfl trivial (fun _ => ?_)
  refine xq_run hq rfl rfl (rhi_q A m12 hs hq) ?_
  rintro v h1 ⟨rfl, rfl⟩
  cases c0 : dz W m true s with
  | false =>
    refine xq_n 9 [] [] [.int (Int32.ofInt 0)] h [false] 60 hq rfl ⟨rfl, trivial⟩ (fun _ => ?_)
    exact xq_ret rfl rfl rfl ⟨rfl, by unfold mi; rw [c0]; rfl⟩
  | true =>
    refine xq_n 12 [0, 1, 2] [(0, .ref 39), (1, .int (nI s)), (2, .int (Int32.ofInt 0))] [] h [true] 60 hq rfl ⟨rfl, trivial⟩ (fun _ => ?_)
    exact rlh_l A m12 hs c0 hq m f 0 (by omega) rfl
/-- X10.isOfKind -/
theorem rik_q {f s : Nat} {x : Int32} (A : RA W m h) (m12 : m ≤ 12) (hs : s < 2 ^ m) (hq : a_rq a_tb h) : xq f xi_X10_isOfKind xmi_X10_isOfKind 0 [(0, .ref 39), (1, .int (nI s)), (2, .int x)] [] h (fun v h' => h = h' ∧ v = some (.int (bl (mi W m (xe_c .ne x (Int32.ofInt 1)) s)))) := by
  cases c : xe_c .ne x (Int32.ofInt 1) with
  | false =>
    refine xq_n 7 [] [] [.int (nI s), .ref 39] h [false] 60 hq rfl ⟨c, trivial⟩ (fun _ => ?_)
    refine xq_run hq rfl rfl (rle_q A m12 hs hq) ?_
    rintro v h1 ⟨rfl, rfl⟩
    refine xq_n 18 [] [] [.int (bl (mi W m false s))] h [] 60 hq rfl trivial (fun _ => ?_)
    exact xq_ret rfl rfl rfl ⟨rfl, rfl⟩
  | true =>
    refine xq_n 15 [] [] [.int (nI s), .ref 39] h [true] 60 hq rfl ⟨c, trivial⟩ (fun _ => ?_)
    refine xq_run hq rfl rfl (rlh_q A m12 hs hq) ?_
    rintro v h1 ⟨rfl, rfl⟩
    exact xq_ret rfl rfl rfl ⟨rfl, rfl⟩
set_option maxRecDepth 100000 in
set_option maxHeartbeats 4000000 in
/-- X10.countOf -/
theorem rco_l {x : Int32} (A : RA W m h) (m12 : m ≤ 12) (hq : a_rq a_tb h) : ∀ (n f s : Nat), s + n = 2 ^ m → xq f xi_X10_countOf xmi_X10_countOf 4 [(0, .ref 39), (1, .int x), (2, .int (nI (cnt (mi W m (xe_c .ne x (Int32.ofInt 1))) s))), (3, .int (nI s))] [] h (fun v h' => h = h' ∧ v = some (.int (nI (cnt (mi W m (xe_c .ne x (Int32.ofInt 1))) (2 ^ m))))) := by
  intro n
  induction n with
  | zero =>
    intro f s sn
    have e : s = 2 ^ m := by omega
    subst e
    refine xq_n 31 [] [] [.int (nI (cnt (mi W m (xe_c .ne x (Int32.ofInt 1))) (2 ^ m)))] h [true] 60 hq rfl ⟨rgt A m12, trivial⟩ (fun _ => ?_)
    exact xq_ret rfl rfl rfl ⟨rfl, rfl⟩
  | succ n ih =>
    intro f s sn
    have r := ih f (s + 1) (by omega)
    refine xq_n 15 [0, 1, 2, 3] [(0, .ref 39), (1, .int x), (2, .int (nI (cnt (mi W m (xe_c .ne x (Int32.ofInt 1))) s))), (3, .int (nI s))] [.int x, .int (nI s), .ref 39] h [false] 60 hq rfl ⟨rgf A m12 (by omega), trivial⟩ (fun _ => ?_)
    refine xq_run hq rfl rfl (rik_q A m12 (by omega) hq) ?_
    rintro v h1 ⟨rfl, rfl⟩
    cases c : mi W m (xe_c .ne x (Int32.ofInt 1)) s with
    | true =>
      rw [cnt_t c] at r
      refine xq_n 4 [0, 1, 2, 3] [(0, .ref 39), (1, .int x), (2, .int (nI (cnt (mi W m (xe_c .ne x (Int32.ofInt 1))) s) + Int32.ofInt 1)), (3, .int (nI s + Int32.ofInt 1))] [] h [false] 60 hq rfl ⟨rfl, trivial⟩ (fun _ => ?_)
      rw [nI_1', nI_1']
      exact r
    | false =>
      rw [cnt_f c] at r
      refine xq_n 4 [0, 1, 2, 3] [(0, .ref 39), (1, .int x), (2, .int (nI (cnt (mi W m (xe_c .ne x (Int32.ofInt 1))) s))), (3, .int (nI s + Int32.ofInt 1))] [] h [true] 60 hq rfl ⟨rfl, trivial⟩ (fun _ => ?_)
      rw [nI_1']
      exact r
theorem rco_q {f : Nat} {x : Int32} (A : RA W m h) (m12 : m ≤ 12) (hq : a_rq a_tb h) : xq f xi_X10_countOf xmi_X10_countOf 0 [(0, .ref 39), (1, .int x)] [] h (fun v h' => h = h' ∧ v = some (.int (nI (cnt (mi W m (xe_c .ne x (Int32.ofInt 1))) (2 ^ m))))) := by
  refine xq_n 4 [0, 1, 2, 3] [(0, .ref 39), (1, .int x), (2, .int (Int32.ofInt 0)), (3, .int (Int32.ofInt 0))] [] h [] 60 hq rfl trivial (fun _ => ?_)
  exact rco_l A m12 hq (2 ^ m) f 0 (by omega)
/-- in one of them -/
def inO (P : Nat → Bool) (N a : Nat) : Bool := !inN P N a
set_option maxRecDepth 100000 in
set_option maxHeartbeats 4000000 in
/-- X10.whoIs -/
theorem rwh_l {x : Int32} (A : RA W m h) (m12 : m ≤ 12) (hq : a_rq a_tb h) {Q : Option Value → xh_H → Prop} (K : ∀ f, xq f xi_X10_whoIs xmi_X10_whoIs 55 [(0, .ref 39), (1, .int x), (2, .int (nI (msk (inA (mi W m false) (2 ^ m)) m))), (3, .int (nI (msk (inO (mi W m false) (2 ^ m)) m))), (4, .int (bl (decide (cnt (mi W m false) (2 ^ m) ≠ 0))))] [] h Q) : ∀ (n f s : Nat), s + n = 2 ^ m → xq f xi_X10_whoIs xmi_X10_whoIs 15 [(0, .ref 39), (1, .int x), (2, .int (nI (msk (inA (mi W m false) s) m))), (3, .int (nI (msk (inO (mi W m false) s) m))), (4, .int (bl (decide (cnt (mi W m false) s ≠ 0)))), (5, .int (nI s))] [] h Q := by
  have p12 : 2 ^ m ≤ 4096 := show 2 ^ m ≤ 2 ^ 12 from Nat.pow_le_pow_right (by decide) m12
  intro n
  induction n with
  | zero =>
    intro f s sn
    have e : s = 2 ^ m := by omega
    subst e
    refine xq_n 55 [0, 1, 2, 3, 4] [(0, .ref 39), (1, .int x), (2, .int (nI (msk (inA (mi W m false) (2 ^ m)) m))), (3, .int (nI (msk (inO (mi W m false) (2 ^ m)) m))), (4, .int (bl (decide (cnt (mi W m false) (2 ^ m) ≠ 0))))] [] h [true] 60 hq rfl ⟨rgt A m12, trivial⟩ (fun _ => ?_)
    exact K f
  | succ n ih =>
    intro f s sn
    have hs : s < 2 ^ m := by omega
    have r := ih f (s + 1) (by omega)
    refine xq_n 27 [0, 1, 2, 3, 4, 5] [(0, .ref 39), (1, .int x), (2, .int (nI (msk (inA (mi W m false) s) m))), (3, .int (nI (msk (inO (mi W m false) s) m))), (4, .int (bl (decide (cnt (mi W m false) s ≠ 0)))), (5, .int (nI s))] [.int (nI s), .ref 39] h [false] 60 hq rfl ⟨rgf A m12 hs, trivial⟩ (fun _ => ?_)
    refine xq_run hq rfl rfl (rle_q A m12 hs hq) ?_
    rintro v h1 ⟨rfl, rfl⟩
    cases c : mi W m false s with
    | false =>
      have e2 : msk (inA (mi W m false) (s + 1)) m = msk (inA (mi W m false) s) m := msk_c m (fun a _ => aln_1 (by rw [c]; rfl))
      have e3 : msk (inO (mi W m false) (s + 1)) m = msk (inO (mi W m false) s) m := msk_c m (fun a _ => congrArg (fun b => !b) (aln_1 (by rw [c]; rfl)))
      rw [e2, e3, cnt_f c] at r
      refine xq_n 15 [0, 1, 2, 3, 4, 5] [(0, .ref 39), (1, .int x), (2, .int (nI (msk (inA (mi W m false) s) m))), (3, .int (nI (msk (inO (mi W m false) s) m))), (4, .int (bl (decide (cnt (mi W m false) s ≠ 0)))), (5, .int (nI s + Int32.ofInt 1))] [] h [false] 60 hq rfl ⟨rfl, trivial⟩ (fun _ => ?_)
      rw [nI_1']
      exact r
    | true =>
      have e2 : nI (msk (inA (mi W m false) s) m) &&& nI s = nI (msk (inA (mi W m false) (s + 1)) m) := by
        rw [nI_and]
        congr 1
        refine msk_e (fun i => ?_)
        rw [Nat.testBit_and, msk_tb]
        show _ = (decide (i < m) && (inA (mi W m false) s i && (!mi W m false s || s.testBit i)))
        rw [c, Bool.and_assoc]
        rfl
      have e3 : nI (msk (inO (mi W m false) s) m) ||| nI s = nI (msk (inO (mi W m false) (s + 1)) m) := by
        rw [nI_or]
        congr 1
        refine msk_e (fun i => ?_)
        rw [Nat.testBit_or, msk_tb]
        show _ = (decide (i < m) && !(inN (mi W m false) s i && (!mi W m false s || !s.testBit i)))
        rw [c]
        show (decide (i < m) && !inN (mi W m false) s i || s.testBit i) = (decide (i < m) && !(inN (mi W m false) s i && !s.testBit i))
        cases z : s.testBit i with
        | false => cases decide (i < m) <;> cases inN (mi W m false) s i <;> rfl
        | true => rw [decide_eq_true (tb_lt hs z)]; cases inN (mi W m false) s i <;> rfl
      rw [cnt_t c, decide_eq_true (show cnt (mi W m false) s + 1 ≠ 0 by omega)] at r
      refine xq_n 15 [0, 1, 2, 3, 4, 5] [(0, .ref 39), (1, .int x), (2, .int (nI (msk (inA (mi W m false) s) m) &&& nI s)), (3, .int (nI (msk (inO (mi W m false) s) m) ||| nI s)), (4, .int (Int32.ofInt 1)), (5, .int (nI s + Int32.ofInt 1))] [] h [true] 60 hq rfl ⟨rfl, trivial⟩ (fun _ => ?_)
      rw [nI_1', e2, e3]
      exact r
set_option maxRecDepth 100000 in
set_option maxHeartbeats 4000000 in
theorem rwh_q {f : Nat} {x : Int32} (A : RA W m h) (m12 : m ≤ 12) (hq : a_rq a_tb h) : xq f xi_X10_whoIs xmi_X10_whoIs 0 [(0, .ref 39), (1, .int x)] [] h (fun v h' => h = h' ∧ v = some (.int (nI (cond (xe_c .eq x 0) (ndN (mi W m false) (2 ^ m) m) (idN (mi W m false) (2 ^ m) m))))) := by
  refine xq_n 15 [0, 1, 2, 3, 4, 5] [(0, .ref 39), (1, .int x), (2, .int (xg 0 h.2.1 39 35 - Int32.ofInt 1)), (3, .int (Int32.ofInt 0)), (4, .int (Int32.ofInt 0)), (5, .int (Int32.ofInt 0))] [] h [] 60 hq rfl trivial (fun _ => ?_)
  have ea : xg 0 h.2.1 39 35 - Int32.ofInt 1 = nI (2 ^ m - 1) := by rw [A.2.1]; exact nI_sub (b := 1) (Nat.two_pow_pos m)
  rw [ea]
  have s0 : nI (2 ^ m - 1) = nI (msk (inA (mi W m false) 0) m) := by rw [← msk_f]; rfl
  have z0 : Int32.ofInt 0 = nI (msk (inO (mi W m false) 0) m) := by
    rw [show msk (inO (mi W m false) 0) m = 0 from Nat.eq_of_testBit_eq (fun i => by rw [msk_tb, Nat.zero_testBit]; exact Bool.and_false _)]
    rfl
  have r := rwh_l (x := x) (Q := fun v h' => h = h' ∧ v = some (.int (nI (cond (xe_c .eq x 0) (ndN (mi W m false) (2 ^ m) m) (idN (mi W m false) (2 ^ m) m))))) A m12 hq (fun f => ?_) (2 ^ m) f 0 (by omega)
  · rw [← s0, ← z0] at r
    exact r
  cases c : xe_c .eq x 0 with
  | false =>
    refine xq_n 82 [] [] [.int (xg 0 h.2.1 39 35 - Int32.ofInt 1 &&& (nI (msk (inO (mi W m false) (2 ^ m)) m) ^^^ Int32.ofInt (-1)))] h [false] 60 hq rfl ⟨c, trivial⟩ (fun _ => ?_)
    refine xq_ret rfl rfl rfl ⟨rfl, ?_⟩
    rw [ea]
    congr 2
    refine nI_andn (fun i _ => ?_)
    show _ = (idN (mi W m false) (2 ^ m) m).testBit i
    unfold idN
    rw [msk_tb, msk_tb, Nat.testBit_two_pow_sub_one]
    unfold inO
    cases decide (i < m) <;> cases inN (mi W m false) (2 ^ m) i <;> rfl
  | true =>
    unfold ndN
    by_cases z : cnt (mi W m false) (2 ^ m) = 0
    · rw [decide_eq_false (fun y => y z)]
      refine xq_n 82 [] [] [.int (Int32.ofInt 0)] h [true, true] 60 hq rfl ⟨c, rfl, trivial⟩ (fun _ => ?_)
      exact xq_ret rfl rfl rfl ⟨rfl, by show _ = some (Value.int (nI (if _ then _ else _))); rw [if_pos z]; rfl⟩
    · rw [decide_eq_true z]
      refine xq_n 82 [] [] [.int (nI (msk (inA (mi W m false) (2 ^ m)) m))] h [true, false] 60 hq rfl ⟨c, rfl, trivial⟩ (fun _ => ?_)
      exact xq_ret rfl rfl rfl ⟨rfl, by show _ = some (Value.int (nI (if _ then _ else _))); rw [if_neg z]⟩
set_option maxRecDepth 100000 in
set_option maxHeartbeats 4000000 in
theorem rpr_l (A : RA W m h) (m12 : m ≤ 12) (hq : a_rq a_tb h) : ∀ (n f s : Nat), s + n = 2 ^ m → aln (prP W m) s = true → xq f xi_X10_isProper xmi_X10_isProper 2 [(0, .ref 39), (1, .int (nI s))] [] h (fun v h' => h = h' ∧ v = some (.int (bl (aln (prP W m) (2 ^ m))))) := by
  intro n
  induction n with
  | zero =>
    intro f s sn w
    have e : s = 2 ^ m := by omega
    subst e
    refine xq_n 46 [] [] [.int (Int32.ofInt 1)] h [true] 60 hq rfl ⟨rgt A m12, trivial⟩ (fun _ => ?_)
    exact xq_ret rfl rfl rfl ⟨rfl, by rw [w]; rfl⟩
  | succ n ih =>
    intro f s sn w
    have hs : s < 2 ^ m := by omega
    have g1 := be' (rw0 A m12 hs)
    have g2 := be' (rwc A m12 hs)
    cases c : W s with
    | false =>
      rw [c] at g1
      refine xq_n 2 [0, 1] [(0, .ref 39), (1, .int (nI s + Int32.ofInt 1))] [] h [false, true] 60 hq rfl ⟨rgf A m12 hs, g1, trivial⟩ (fun _ => ?_)
      rw [nI_1']
      exact ih f (s + 1) (by omega) (aln_s w (by unfold prP; rw [c]; rfl))
    | true =>
      rw [c] at g1
      cases c2 : W (co m s) with
      | false =>
        rw [c2] at g2
        refine xq_n 2 [0, 1] [(0, .ref 39), (1, .int (nI s + Int32.ofInt 1))] [] h [false, false, true] 60 hq rfl ⟨rgf A m12 hs, g1, g2, trivial⟩ (fun _ => ?_)
        rw [nI_1']
        exact ih f (s + 1) (by omega) (aln_s w (by unfold prP; rw [c, c2]; rfl))
      | true =>
        rw [c2] at g2
        refine xq_n 38 [] [] [.int (Int32.ofInt 0)] h [false, false, false] 60 hq rfl ⟨rgf A m12 hs, g1, g2, trivial⟩ (fun _ => ?_)
        exact xq_ret rfl rfl rfl ⟨rfl, by rw [aln_f (show prP W m s = false by unfold prP; rw [c, c2]; rfl) (2 ^ m) hs]; rfl⟩
theorem rpr_q {f : Nat} (A : RA W m h) (m12 : m ≤ 12) (hq : a_rq a_tb h) : xq f xi_X10_isProper xmi_X10_isProper 0 [(0, .ref 39)] [] h (fun v h' => h = h' ∧ v = some (.int (bl (aln (prP W m) (2 ^ m))))) := by
  refine xq_n 2 [0, 1] [(0, .ref 39), (1, .int (Int32.ofInt 0))] [] h [] 60 hq rfl trivial (fun _ => ?_)
  exact rpr_l A m12 hq (2 ^ m) f 0 (by omega) rfl
set_option maxRecDepth 100000 in
set_option maxHeartbeats 4000000 in
theorem rstr_l (A : RA W m h) (m12 : m ≤ 12) (hq : a_rq a_tb h) : ∀ (n f s : Nat), s + n = 2 ^ m → aln (sgP W m) s = true → xq f xi_X10_isStrong xmi_X10_isStrong 2 [(0, .ref 39), (1, .int (nI s))] [] h (fun v h' => h = h' ∧ v = some (.int (bl (aln (sgP W m) (2 ^ m))))) := by
  intro n
  induction n with
  | zero =>
    intro f s sn w
    have e : s = 2 ^ m := by omega
    subst e
    refine xq_n 46 [] [] [.int (Int32.ofInt 1)] h [true] 60 hq rfl ⟨rgt A m12, trivial⟩ (fun _ => ?_)
    exact xq_ret rfl rfl rfl ⟨rfl, by rw [w]; rfl⟩
  | succ n ih =>
    intro f s sn w
    have hs : s < 2 ^ m := by omega
    have g1 := bn (rw0 A m12 hs)
    have g2 := bn (rwc A m12 hs)
    cases c : W s with
    | true =>
      rw [c] at g1
      refine xq_n 2 [0, 1] [(0, .ref 39), (1, .int (nI s + Int32.ofInt 1))] [] h [false, true] 60 hq rfl ⟨rgf A m12 hs, g1, trivial⟩ (fun _ => ?_)
      rw [nI_1']
      exact ih f (s + 1) (by omega) (aln_s w (by unfold sgP; rw [c]; rfl))
    | false =>
      rw [c] at g1
      cases c2 : W (co m s) with
      | true =>
        rw [c2] at g2
        refine xq_n 2 [0, 1] [(0, .ref 39), (1, .int (nI s + Int32.ofInt 1))] [] h [false, false, true] 60 hq rfl ⟨rgf A m12 hs, g1, g2, trivial⟩ (fun _ => ?_)
        rw [nI_1']
        exact ih f (s + 1) (by omega) (aln_s w (by unfold sgP; rw [c, c2]; rfl))
      | false =>
        rw [c2] at g2
        refine xq_n 38 [] [] [.int (Int32.ofInt 0)] h [false, false, false] 60 hq rfl ⟨rgf A m12 hs, g1, g2, trivial⟩ (fun _ => ?_)
        exact xq_ret rfl rfl rfl ⟨rfl, by rw [aln_f (show sgP W m s = false by unfold sgP; rw [c, c2]; rfl) (2 ^ m) hs]; rfl⟩
theorem rstr_q {f : Nat} (A : RA W m h) (m12 : m ≤ 12) (hq : a_rq a_tb h) : xq f xi_X10_isStrong xmi_X10_isStrong 0 [(0, .ref 39)] [] h (fun v h' => h = h' ∧ v = some (.int (bl (aln (sgP W m) (2 ^ m))))) := by
  refine xq_n 2 [0, 1] [(0, .ref 39), (1, .int (Int32.ofInt 0))] [] h [] 60 hq rfl trivial (fun _ => ?_)
  exact rstr_l A m12 hq (2 ^ m) f 0 (by omega) rfl
theorem hdv_0 {o u : Bool} : xe_c .ne (hdv o u) 0 = (o || u) := by cases o <;> cases u <;> decide
theorem lnd_t (h : ∀ a b, a < b → b < m → ge1 W m a b = true) : lnd W m = true := aln_i (fun a ha => aln_i (fun b hb => by rw [ge1_s]; exact h b a hb ha))
theorem lnd_f {a b : Nat} (hab : a < b) (hb : b < m) (h : ge1 W m a b = false) : lnd W m = false := aln_f (P := fun a => aln (ge1 W m a) a) (k := b) (aln_f (P := ge1 W m b) (k := a) (by rw [ge1_s]; exact h) b hab) m hb
set_option maxRecDepth 100000 in
set_option maxHeartbeats 4000000 in
theorem rln_in (A : RA W m h) (m12 : m ≤ 12) (hq : a_rq a_tb h) {a : Nat} (ha : a < m) (K : ∀ f, (∀ b, a < b → b < m → ge1 W m a b = true) → xq f xi_X10_isLined xmi_X10_isLined 2 [(0, .ref 39), (1, .int (nI (a + 1)))] [] h (fun v h' => h = h' ∧ v = some (.int (bl (lnd W m))))) : ∀ (n f b : Nat), b + n = m → a < b → (∀ b', a < b' → b' < b → ge1 W m a b' = true) → xq f xi_X10_isLined xmi_X10_isLined 14 [(0, .ref 39), (1, .int (nI a)), (2, .int (nI b))] [] h (fun v h' => h = h' ∧ v = some (.int (bl (lnd W m)))) := by
  intro n
  induction n with
  | zero =>
    intro f b bn ab w
    have e : b = m := by omega
    subst e
    refine xq_n 2 [0, 1] [(0, .ref 39), (1, .int (nI a + Int32.ofInt 1))] [] h [true] 60 hq rfl ⟨(show xe_c .ge (nI b) (xg 0 h.2.1 39 4) = true by rw [A.1]; exact nge_t (by omega) (by omega) (Nat.le_refl _)), trivial⟩ (fun _ => ?_)
    rw [nI_1']
    exact K f w
  | succ n ih =>
    intro f b bn ab w
    have hb : b < m := by omega
    refine xq_n 25 [0, 1, 2] [(0, .ref 39), (1, .int (nI a)), (2, .int (nI b))] [.int (nI b), .int (nI a), .ref 39] h [false] 60 hq rfl ⟨(show xe_c .ge (nI b) (xg 0 h.2.1 39 4) = false by rw [A.1]; exact nge_f (by omega) (by omega) hb), trivial⟩ (fun _ => ?_)
    refine xq_run hq rfl rfl (hel_q A m12 ha hb hq) ?_
    rintro v h1 ⟨rfl, rfl⟩
    have g := hdv_0 (o := aln (gp W a b) (2 ^ m)) (u := aln (gp W b a) (2 ^ m))
    cases c : (aln (gp W a b) (2 ^ m) || aln (gp W b a) (2 ^ m)) with
    | true =>
      rw [c] at g
      refine xq_n 14 [0, 1, 2] [(0, .ref 39), (1, .int (nI a)), (2, .int (nI b + Int32.ofInt 1))] [] h [true] 60 hq rfl ⟨g, trivial⟩ (fun _ => ?_)
      rw [nI_1']
      refine ih f (b + 1) (by omega) (by omega) (fun b' h1 h2 => ?_)
      by_cases z : b' = b
      · rw [z]; exact c
      · exact w b' h1 (by omega)
    | false =>
      rw [c] at g
      refine xq_n 32 [] [] [.int (Int32.ofInt 0)] h [false] 60 hq rfl ⟨g, trivial⟩ (fun _ => ?_)
      exact xq_ret rfl rfl rfl ⟨rfl, by rw [lnd_f ab hb c]; rfl⟩
set_option maxRecDepth 100000 in
set_option maxHeartbeats 4000000 in
theorem rln_l (A : RA W m h) (m12 : m ≤ 12) (hq : a_rq a_tb h) : ∀ (n f a : Nat), a + n = m → (∀ a' b, a' < a → a' < b → b < m → ge1 W m a' b = true) → xq f xi_X10_isLined xmi_X10_isLined 2 [(0, .ref 39), (1, .int (nI a))] [] h (fun v h' => h = h' ∧ v = some (.int (bl (lnd W m)))) := by
  intro n
  induction n with
  | zero =>
    intro f a an w
    have e : a = m := by omega
    subst e
    refine xq_n 46 [] [] [.int (Int32.ofInt 1)] h [true] 60 hq rfl ⟨(show xe_c .ge (nI a) (xg 0 h.2.1 39 4) = true by rw [A.1]; exact nge_t (by omega) (by omega) (Nat.le_refl _)), trivial⟩ (fun _ => ?_)
    exact xq_ret rfl rfl rfl ⟨rfl, by rw [lnd_t (fun a' b h1 h2 => w a' b (by omega) h1 h2)]; rfl⟩
  | succ n ih =>
    intro f a an w
    refine xq_n 14 [0, 1, 2] [(0, .ref 39), (1, .int (nI a)), (2, .int (nI a + Int32.ofInt 1))] [] h [false] 60 hq rfl ⟨(show xe_c .ge (nI a) (xg 0 h.2.1 39 4) = false by rw [A.1]; exact nge_f (by omega) (by omega) (by omega)), trivial⟩ (fun _ => ?_)
    rw [nI_1']
    refine rln_in A m12 hq (show a < m by omega) (fun f w2 => ih f (a + 1) (by omega) (fun a' b h1 h2 h3 => ?_)) n f (a + 1) (by omega) (by omega) (fun b' h1 h2 => by omega)
    by_cases z : a' = a
    · rw [z]; rw [z] at h2; exact w2 b h2 h3
    · exact w a' b (by omega) h2 h3
theorem rln_q {f : Nat} (A : RA W m h) (m12 : m ≤ 12) (hq : a_rq a_tb h) : xq f xi_X10_isLined xmi_X10_isLined 0 [(0, .ref 39)] [] h (fun v h' => h = h' ∧ v = some (.int (bl (lnd W m)))) := by
  refine xq_n 2 [0, 1] [(0, .ref 39), (1, .int (Int32.ofInt 0))] [] h [] 60 hq rfl trivial (fun _ => ?_)
  exact rln_l A m12 hq m f 0 (by omega) (fun a' b h1 => absurd h1 (Nat.not_lt_zero a'))
end
set_option maxRecDepth 100000 in
set_option maxHeartbeats 4000000 in
/-- X10.sizeOf -/
theorem rso_l {s : Nat} {h : xh_H} (hs : s < 4096) (hq : a_rq a_tb h) : ∀ (n f i : Nat), i + n = 12 → xq f xi_X10_sizeOf xmi_X10_sizeOf 4 [(0, .int (nI s)), (1, .int (nI (cnt (fun i => s.testBit i) i))), (2, .int (nI i))] [] h (fun v h' => h = h' ∧ v = some (.int (nI (sz s)))) := by
  intro n
  induction n with
  | zero =>
    intro f i hn
    have e : i = 12 := by omega
    subst e
    refine xq_n 25 [] [] [.int (nI (sz s))] h [true] 60 hq rfl ⟨rfl, trivial⟩ (fun _ => ?_)
    exact xq_ret rfl rfl rfl ⟨rfl, rfl⟩
  | succ n ih =>
    intro f i hn
    have r := ih f (i + 1) (by omega)
    refine xq_n 4 [0, 1, 2] [(0, .int (nI s)), (1, .int (nI (cnt (fun i => s.testBit i) i) + ((nI s >>> (nI i &&& 31)) &&& Int32.ofInt 1))), (2, .int (nI i + Int32.ofInt 1))] [] h [false] 60 hq rfl ⟨nge_f (b := 12) (by omega) (by decide) (by omega), trivial⟩ (fun _ => ?_)
    rw [nI_1', nI_b0 (by omega) (by omega), nI_add]
    cases c : s.testBit i with
    | true =>
      rw [cnt_t (P := fun i => s.testBit i) c] at r
      exact r
    | false =>
      rw [cnt_f (P := fun i => s.testBit i) c] at r
      exact r
theorem rso_q {f s : Nat} {h : xh_H} (hs : s < 4096) (hq : a_rq a_tb h) : xq f xi_X10_sizeOf xmi_X10_sizeOf 0 [(0, .int (nI s))] [] h (fun v h' => h = h' ∧ v = some (.int (nI (sz s)))) := by
  refine xq_n 4 [0, 1, 2] [(0, .int (nI s)), (1, .int (Int32.ofInt 0)), (2, .int (Int32.ofInt 0))] [] h [] 60 hq rfl trivial (fun _ => ?_)
  exact rso_l hs hq 12 f 0 (by omega)
section
variable {mem sc : Nat} {FR RW : Nat → Int32} {d : Int32} {h : xh_H}
set_option maxRecDepth 100000 in
set_option maxHeartbeats 4000000 in
theorem rca_l {W : Nat → Bool} {m : Nat} (A : RA W m h) (m12 : m ≤ 12) (hq : a_rq a_tb h) : ∀ (n f s : Nat), s + n = 2 ^ m → xq f xi_X10_many xmi_X10_many 62 [(0, .ref 39), (2, .int (nI (cnt W s))), (3, .int (nI s))] [] h (fun v h' => v = some (.int (nI (cnt W (2 ^ m))))) := by
  intro n
  induction n with
  | zero =>
    intro f s sn
    have e : s = 2 ^ m := by omega
    subst e
    refine xq_n 89 [] [] [.int (nI (cnt W (2 ^ m)))] h [true] 60 hq rfl ⟨rgt A m12, trivial⟩ (fun _ => ?_)
    exact xq_ret rfl rfl rfl rfl
  | succ n ih =>
    intro f s sn
    have r := ih f (s + 1) (by omega)
    have hs : s < 2 ^ m := by omega
    have g := be' (rw0 A m12 hs)
    cases c : W s with
    | true =>
      rw [c] at g
      rw [cnt_t c] at r
      refine xq_n 62 [0, 2, 3] [(0, .ref 39), (2, .int (nI (cnt W s) + Int32.ofInt 1)), (3, .int (nI s + Int32.ofInt 1))] [] h [false, false] 60 hq rfl ⟨rgf A m12 hs, g, trivial⟩ (fun _ => ?_)
      rw [nI_1', nI_1']
      exact r
    | false =>
      rw [c] at g
      rw [cnt_f c] at r
      refine xq_n 62 [0, 2, 3] [(0, .ref 39), (2, .int (nI (cnt W s))), (3, .int (nI s + Int32.ofInt 1))] [] h [false, true] 60 hq rfl ⟨rgf A m12 hs, g, trivial⟩ (fun _ => ?_)
      rw [nI_1']
      exact r
set_option maxRecDepth 100000 in
set_option maxHeartbeats 4000000 in
theorem ma10_q {f : Nat} {x : Int32} (m12 : mem ≤ 12) (e4 : xg 0 h.2.1 39 4 = nI mem) (e33 : xg 0 h.2.1 39 33 = nI sc) (sc8 : sc ≤ 8) (e3 : xg 0 h.2.1 39 3 = d) (hF : ∀ k, k < sc → xg 0 h.2.1 51 k = FR k) (hT : ∀ k, k < sc → (xg 0 h.2.1 52 k).toInt ≤ 999) (hR : ∀ k s, k < sc → s < 2 ^ mem → ∃ b : Bool, RW (4096 * k + s) = bl b ∧ xg 0 h.2.1 44 (4096 * k + s) = bl b) (hq : a_rq a_tb h) : xq f xi_X10_many xmi_X10_many 0 [(0, .ref 39), (1, .int x)] [] h (fun v h' => v = some (.int (maA (cvB FR RW mem sc d) mem x))) := by
  refine xq_n 6 [0, 1] [(0, .ref 39), (1, .int x)] [.ref 39] (xh_ui h 39 0 (Int32.ofInt 0)) [] 60 hq rfl trivial (fun _ => ?_)
  have hq : a_rq a_tb (xh_ui h 39 0 (Int32.ofInt 0)) := a_rq_ui hq
  refine xq_run hq rfl rfl (ly_q m12 e4 e33 sc8 e3 hF hT hR hq) ?_
  rintro v h1 ⟨rfl, g1, A⟩
  have hq := fx_q g1 hq
  refine xq_n 12 [0, 1, 2] [(0, .ref 39), (1, .int x), (2, .int (Int32.ofInt 0))] [.int x] h1 [] 60 hq rfl trivial (fun _ => ?_)
  refine xq_sw rfl (fun hx => ?_) (fun i off ho hx => ?_)
  · rw [maA_o hx]
    show xq f _ _ 153 _ _ _ _
    refine xq_n 154 [] [] [.int (Int32.ofInt (-1))] h1 [] 60 hq rfl trivial (fun _ => ?_)
    exact xq_ret rfl rfl rfl rfl
  · match i, ho with
    | 0, rfl =>
      rw [maA_i (by decide) hx]
      show xq f _ _ 60 _ _ _ _
      refine xq_n 62 [0, 2, 3] [(0, .ref 39), (2, .int (Int32.ofInt 0)), (3, .int (Int32.ofInt 0))] [] h1 [] 60 hq rfl trivial (fun _ => ?_)
      exact rca_l A m12 hq (2 ^ mem) f 0 (by omega)
    | 1, rfl =>
      rw [maA_i (by decide) hx]
      have ex : x = nI 1 := Int32.toInt_inj.mp (by rw [hx]; rfl)
      subst ex
      show xq f _ _ 90 _ _ _ _
      refine xq_n 92 [] [] [.int (nI 1), .ref 39] h1 [] 60 hq rfl trivial (fun _ => ?_)
      refine xq_run hq rfl rfl (rco_q A m12 hq) ?_
      rintro v h2 ⟨rfl, rfl⟩
      exact xq_ret rfl rfl rfl rfl
    | 2, rfl =>
      rw [maA_i (by decide) hx]
      have ex : x = nI 2 := Int32.toInt_inj.mp (by rw [hx]; rfl)
      subst ex
      show xq f _ _ 90 _ _ _ _
      refine xq_n 92 [] [] [.int (nI 2), .ref 39] h1 [] 60 hq rfl trivial (fun _ => ?_)
      refine xq_run hq rfl rfl (rco_q A m12 hq) ?_
      rintro v h2 ⟨rfl, rfl⟩
      exact xq_ret rfl rfl rfl rfl
    | 3, rfl =>
      rw [maA_i (by decide) hx]
      show xq f _ _ 96 _ _ _ _
      refine xq_n 98 [] [] [.int (Int32.ofInt 0), .ref 39] h1 [] 60 hq rfl trivial (fun _ => ?_)
      refine xq_run hq rfl rfl (rwh_q A m12 hq) ?_
      rintro v h2 ⟨rfl, rfl⟩
      refine xq_run hq rfl rfl (rso_q (s := ndN (mi (cvB FR RW mem sc d) mem false) (2 ^ mem) mem) (nd_lt m12) hq) ?_
      rintro v h2 ⟨rfl, rfl⟩
      exact xq_ret rfl rfl rfl rfl
    | 4, rfl =>
      rw [maA_i (by decide) hx]
      show xq f _ _ 105 _ _ _ _
      refine xq_n 107 [] [] [.int (Int32.ofInt 1), .ref 39] h1 [] 60 hq rfl trivial (fun _ => ?_)
      refine xq_run hq rfl rfl (rwh_q A m12 hq) ?_
      rintro v h2 ⟨rfl, rfl⟩
      refine xq_run hq rfl rfl (rso_q (s := idN (mi (cvB FR RW mem sc d) mem false) (2 ^ mem) mem) (id_lt m12) hq) ?_
      rintro v h2 ⟨rfl, rfl⟩
      exact xq_ret rfl rfl rfl rfl
    | 5, rfl =>
      rw [maA_i (by decide) hx]
      show xq f _ _ 114 _ _ _ _
      refine xq_n 115 [] [] [.ref 39] h1 [] 60 hq rfl trivial (fun _ => ?_)
      refine xq_run hq rfl rfl (rpr_q A m12 hq) ?_
      rintro v h2 ⟨rfl, rfl⟩
      show xq f _ _ _ _ _ _ (fun v h' => v = some (.int (bl (aln (prP (cvB FR RW mem sc d) mem) (2 ^ mem)))))
      cases aln (prP (cvB FR RW mem sc d) mem) (2 ^ mem) with
      | false =>
        refine xq_n 126 [] [] [.int (Int32.ofInt 0)] h1 [true] 60 hq rfl ⟨rfl, trivial⟩ (fun _ => ?_)
        exact xq_ret rfl rfl rfl rfl
      | true =>
        refine xq_n 126 [] [] [.int (Int32.ofInt 1)] h1 [false] 60 hq rfl ⟨rfl, trivial⟩ (fun _ => ?_)
        exact xq_ret rfl rfl rfl rfl
    | 6, rfl =>
      rw [maA_i (by decide) hx]
      show xq f _ _ 127 _ _ _ _
      refine xq_n 128 [] [] [.ref 39] h1 [] 60 hq rfl trivial (fun _ => ?_)
      refine xq_run hq rfl rfl (rstr_q A m12 hq) ?_
      rintro v h2 ⟨rfl, rfl⟩
      show xq f _ _ _ _ _ _ (fun v h' => v = some (.int (bl (aln (sgP (cvB FR RW mem sc d) mem) (2 ^ mem)))))
      cases aln (sgP (cvB FR RW mem sc d) mem) (2 ^ mem) with
      | false =>
        refine xq_n 139 [] [] [.int (Int32.ofInt 0)] h1 [true] 60 hq rfl ⟨rfl, trivial⟩ (fun _ => ?_)
        exact xq_ret rfl rfl rfl rfl
      | true =>
        refine xq_n 139 [] [] [.int (Int32.ofInt 1)] h1 [false] 60 hq rfl ⟨rfl, trivial⟩ (fun _ => ?_)
        exact xq_ret rfl rfl rfl rfl
    | 7, rfl =>
      rw [maA_i (by decide) hx]
      show xq f _ _ 140 _ _ _ _
      refine xq_n 141 [] [] [.ref 39] h1 [] 60 hq rfl trivial (fun _ => ?_)
      refine xq_run hq rfl rfl (rln_q A m12 hq) ?_
      rintro v h2 ⟨rfl, rfl⟩
      show xq f _ _ _ _ _ _ (fun v h' => v = some (.int (bl (lnd (cvB FR RW mem sc d) mem))))
      cases lnd (cvB FR RW mem sc d) mem with
      | false =>
        refine xq_n 152 [] [] [.int (Int32.ofInt 0)] h1 [true] 60 hq rfl ⟨rfl, trivial⟩ (fun _ => ?_)
        exact xq_ret rfl rfl rfl rfl
      | true =>
        refine xq_n 152 [] [] [.int (Int32.ofInt 1)] h1 [false] 60 hq rfl ⟨rfl, trivial⟩ (fun _ => ?_)
        exact xq_ret rfl rfl rfl rfl
    | n + 8, ho => cases ho
end
end XMR
end
section
section XSA
/-- the j-th of them below n -/
def sl (P : Nat → Bool) (N j : Nat) : Nat → Int32
  | 0 => Int32.ofInt (-1)
  | n + 1 => if qp P N n = true ∧ cnt (qp P N) n = j then nI (n % N) else sl P N j n
theorem sl_u {P : Nat → Bool} {N j p : Nat} (h : qp P N p = true) (e : cnt (qp P N) p = j) : ∀ n, p < n → sl P N j n = nI (p % N) := by
  intro n
  induction n with
  | zero => intro h; omega
  | succ n ih =>
    intro hn
    show (if _ then _ else _) = _
    by_cases z : p = n
    · rw [← z, if_pos ⟨h, e⟩]
    · rw [if_neg (fun y => ?_), ih (by omega)]
      have := cnt_lt h (show p < n by omega)
      omega
theorem sl_n {P : Nat → Bool} {N j : Nat} : ∀ n, cnt (qp P N) n ≤ j → sl P N j n = Int32.ofInt (-1) := by
  intro n
  induction n with
  | zero => intro _; rfl
  | succ n ih =>
    intro h
    have m := cnt_m (P := qp P N) (show n ≤ n + 1 by omega)
    show (if _ then _ else _) = _
    rw [if_neg (fun y => ?_), ih (by omega)]
    rw [cnt_t y.1] at h
    omega
theorem sz_m {m s : Nat} (m12 : m ≤ 12) (hs : s < 2 ^ m) : sz s ≤ m := by
  unfold sz
  rw [show (12 : Nat) = m + (12 - m) by omega, cnt_ad, cnt_c (P' := fun _ => false) (12 - m) (fun k _ => ?_)]
  · have z : ∀ n, cnt (fun _ => false) n = 0 := fun n => by
      induction n with
      | zero => rfl
      | succ n ih => rw [cnt_f rfl]; exact ih
    rw [z]
    exact cnt_le m
  · exact Nat.testBit_lt_two_pow (Nat.lt_of_lt_of_le hs (Nat.pow_le_pow_right (by decide) (by omega)))
theorem cum_hi {P : Nat → Bool} {m : Nat} (m12 : m ≤ 12) : ∀ j, m + 1 ≤ j → cum P (2 ^ m) j = cum P (2 ^ m) (m + 1) := by
  intro j
  induction j with
  | zero => intro h; omega
  | succ j ih =>
    intro h
    by_cases z : j = m
    · rw [z]
    · show cum P (2 ^ m) j + cnt (qk P j) (2 ^ m) = _
      rw [ih (by omega), cnt_c (P' := fun _ => false) (2 ^ m) (fun k hk' => by
        have := sz_m m12 hk'
        unfold qk
        rw [decide_eq_false (by omega), Bool.and_false])]
      have z : ∀ n, cnt (fun _ => false) n = 0 := fun n => by
        induction n with
        | zero => rfl
        | succ n ih => rw [cnt_f rfl]; exact ih
      rw [z]
      rfl
theorem cq_tot {P : Nat → Bool} {m : Nat} (m12 : m ≤ 12) : cnt (qp P (2 ^ m)) (2 ^ m * (m + 1)) = cnt P (2 ^ m) := by
  rw [cq_k, ← cum_hi m12 13 (by omega), cum_13]
/-- what setAt answers -/
def seV (W : Nat → Bool) (m : Nat) (y : Int32) : Nat → Int32
  | 0 => if y.toInt < 0 then Int32.ofInt (-1) else sl (mi W m false) (2 ^ m) y.toInt.toNat (2 ^ m * (m + 1))
  | 1 => if y.toInt < 0 then Int32.ofInt (-1) else sl (mi W m true) (2 ^ m) y.toInt.toNat (2 ^ m * (m + 1))
  | 2 => cond (xe_c .ne y 0) (Int32.ofInt (-1)) (nI (ndN (mi W m false) (2 ^ m) m))
  | _ => cond (xe_c .ne y 0) (Int32.ofInt (-1)) (nI (idN (mi W m false) (2 ^ m) m))
def seA (W : Nat → Bool) (m : Nat) (x y : Int32) : Int32 := if x.toInt < 1 ∨ 4 < x.toInt then Int32.ofInt (-1) else seV W m y (x.toInt - 1).toNat
theorem seA_o {W : Nat → Bool} {m : Nat} {x y : Int32} (h : x.toInt < 1 ∨ 4 < x.toInt) : seA W m x y = Int32.ofInt (-1) := if_pos h
theorem seA_i {W : Nat → Bool} {m : Nat} {x y : Int32} {i : Nat} (i4 : i < 4) (h : x.toInt = 1 + (i : Int)) : seA W m x y = seV W m y i := by
  unfold seA
  rw [if_neg (by omega), show (x.toInt - 1).toNat = i by omega]
/-- the row's place is the order's -/
theorem row_sl {W : Nat → Bool} {m c j : Nat} {hd : Bool} {h : xh_H} (m12 : m ≤ 12) (M : Wm W m) (R : rwQ (mi W m hd) (2 ^ m) c h) (hj : j < cnt (mi W m hd) (2 ^ m)) : xg 0 h.2.1 c j = sl (mi W m hd) (2 ^ m) j (2 ^ m * (m + 1)) := by
  obtain ⟨t, t1, t2, t3, t4⟩ := (rw_all m12 M R).2 j hj
  rw [rk_q t1] at t3
  have s1 := sz_m m12 t1
  have q1 : qp (mi W m hd) (2 ^ m) (2 ^ m * sz t + t) = true := by rw [qp_k t1]; exact qk_s t2
  have lt : 2 ^ m * sz t + t < 2 ^ m * (m + 1) := by
    have a : 2 ^ m * (sz t + 1) ≤ 2 ^ m * (m + 1) := Nat.mul_le_mul_left _ (by omega)
    rw [Nat.mul_succ] at a
    omega
  rw [t4, sl_u q1 t3 _ lt, Nat.mul_add_mod, Nat.mod_eq_of_lt t1]
section
variable {mem sc : Nat} {d : Int32} {h : xh_H}
set_option maxRecDepth 100000 in
set_option maxHeartbeats 4000000 in
theorem sa9_q {f : Nat} {x y : Int32} (hi : a_inv a_tb h) (hn : 72 ≤ h.1.length) (e9 : xg 0 h.2.1 0 9 = nI mem) (m1 : 1 ≤ mem) (m12 : mem ≤ 12) (e8 : xg 0 h.2.1 0 8 = nI sc) (sc8 : sc ≤ 8) (e10 : xg 0 h.2.1 0 10 = d) (si : SI h) (pi : PI h) (M : Wm (cvB (fun k => xg 0 h.2.1 51 k) (fun k => xg 0 h.2.1 44 k) mem sc d) mem) : xq f xi_X9_setAt xmi_X9_setAt 0 [(0, .ref 0), (1, .int x), (2, .int y)] [] h (fun v h' => v = some (.int (seA (cvB (fun k => xg 0 h.2.1 51 k) (fun k => xg 0 h.2.1 44 k) mem sc d) mem x y)) ∧ PI h') := by
  have hq := a_rq_of hi.1 hn
  have p12 : 2 ^ mem ≤ 4096 := show 2 ^ mem ≤ 2 ^ 12 from Nat.pow_le_pow_right (by decide) m12
  refine xq_n 1 [1, 2] [(1, .int x), (2, .int y)] [.ref 0] h [] 60 hq rfl trivial (fun _ => ?_)
  refine xq_run hq rfl rfl (pt9_q hi hn e9 m1 m12 e8 sc8 e10 si pi) ?_
  rintro v h1 ⟨rfl, Y, PP, q, r, A, P⟩
  have hq1 := Yf_q hi hn Y
  obtain ⟨n1, n2⟩ := nd_e m12 M P
  refine xq_n 6 [2, 3] [(2, .int y), (3, .ref 14)] [.int x] h1 [] 60 hq1 rfl trivial (fun _ => ?_)
  refine xq_sw rfl (fun hx => ?_) (fun i off ho hx => ?_)
  · rw [seA_o hx]
    show xq f _ _ 108 _ _ _ _
    refine xq_n 109 [] [] [.int (Int32.ofInt (-1))] h1 [] 60 hq1 rfl trivial (fun _ => ?_)
    exact xq_ret rfl rfl rfl ⟨rfl, PP⟩
  · match i, ho with
    | 0, rfl =>
      rw [seA_i (by decide) hx]
      show xq f _ _ 36 _ _ _ (fun v h' => v = some (.int (if y.toInt < 0 then Int32.ofInt (-1) else sl (mi (cvB (fun k => xg 0 h.2.1 51 k) (fun k => xg 0 h.2.1 44 k) mem sc d) mem false) (2 ^ mem) y.toInt.toNat (2 ^ mem * (mem + 1)))) ∧ PI h')
      cases c1 : xe_c .lt y 0 with
      | true =>
        have b1 : y.toInt < (0 : Int) := a_ce c1
        refine xq_n 58 [] [] [.int (Int32.ofInt (-1))] h1 [true] 60 hq1 rfl ⟨c1, trivial⟩ (fun _ => ?_)
        exact xq_ret rfl rfl rfl ⟨by rw [if_pos b1], PP⟩
      | false =>
        have b1 : (0 : Int) ≤ y.toInt := a_ce (a_neg_ok c1)
        rw [if_neg (by omega)]
        have eL := (P.2.2.1.1).trans (congrArg nI (lcn_e (hd := false) m12 M))
        have cl := mi_924 (hd := false) m12 M
        have eLi : (xg 0 h1.2.1 14 9).toInt = ((cnt (mi (cvB (fun k => xg 0 h.2.1 51 k) (fun k => xg 0 h.2.1 44 k) mem sc d) mem false) (2 ^ mem) : Nat) : Int) := by rw [eL, nI_toInt (by omega)]
        cases c2 : xe_c .ge y (xg 0 h1.2.1 14 9) with
        | true =>
          have b2 : (xg 0 h1.2.1 14 9).toInt ≤ y.toInt := a_ce c2
          refine xq_n 58 [] [] [.int (Int32.ofInt (-1))] h1 [false, true] 60 hq1 rfl ⟨c1, c2, trivial⟩ (fun _ => ?_)
          exact xq_ret rfl rfl rfl ⟨by rw [sl_n _ (by rw [cq_tot m12]; omega)], PP⟩
        | false =>
          have b2 : y.toInt < (xg 0 h1.2.1 14 9).toInt := a_ce (a_neg_ok c2)
          refine xq_n 58 [] [] [.int (xg 0 h1.2.1 15 y.toNatClampNeg)] h1 [false, false] 60 hq1 rfl ⟨c1, c2, trivial⟩ (fun _ => ?_)
          exact xq_ret rfl rfl rfl ⟨by rw [show y.toNatClampNeg = y.toInt.toNat from rfl, row_sl m12 M P.2.2.1.2 (by omega)], PP⟩
    | 1, rfl =>
      rw [seA_i (by decide) hx]
      show xq f _ _ 59 _ _ _ (fun v h' => v = some (.int (if y.toInt < 0 then Int32.ofInt (-1) else sl (mi (cvB (fun k => xg 0 h.2.1 51 k) (fun k => xg 0 h.2.1 44 k) mem sc d) mem true) (2 ^ mem) y.toInt.toNat (2 ^ mem * (mem + 1)))) ∧ PI h')
      cases c1 : xe_c .lt y 0 with
      | true =>
        have b1 : y.toInt < (0 : Int) := a_ce c1
        refine xq_n 81 [] [] [.int (Int32.ofInt (-1))] h1 [true] 60 hq1 rfl ⟨c1, trivial⟩ (fun _ => ?_)
        exact xq_ret rfl rfl rfl ⟨by rw [if_pos b1], PP⟩
      | false =>
        have b1 : (0 : Int) ≤ y.toInt := a_ce (a_neg_ok c1)
        rw [if_neg (by omega)]
        have eL := (P.2.2.2.1.1).trans (congrArg nI (lcn_e (hd := true) m12 M))
        have cl := mi_924 (hd := true) m12 M
        have eLi : (xg 0 h1.2.1 14 10).toInt = ((cnt (mi (cvB (fun k => xg 0 h.2.1 51 k) (fun k => xg 0 h.2.1 44 k) mem sc d) mem true) (2 ^ mem) : Nat) : Int) := by rw [eL, nI_toInt (by omega)]
        cases c2 : xe_c .ge y (xg 0 h1.2.1 14 10) with
        | true =>
          have b2 : (xg 0 h1.2.1 14 10).toInt ≤ y.toInt := a_ce c2
          refine xq_n 81 [] [] [.int (Int32.ofInt (-1))] h1 [false, true] 60 hq1 rfl ⟨c1, c2, trivial⟩ (fun _ => ?_)
          exact xq_ret rfl rfl rfl ⟨by rw [sl_n _ (by rw [cq_tot m12]; omega)], PP⟩
        | false =>
          have b2 : y.toInt < (xg 0 h1.2.1 14 10).toInt := a_ce (a_neg_ok c2)
          refine xq_n 81 [] [] [.int (xg 0 h1.2.1 16 y.toNatClampNeg)] h1 [false, false] 60 hq1 rfl ⟨c1, c2, trivial⟩ (fun _ => ?_)
          exact xq_ret rfl rfl rfl ⟨by rw [show y.toNatClampNeg = y.toInt.toNat from rfl, row_sl m12 M P.2.2.2.1.2 (by omega)], PP⟩
    | 2, rfl =>
      rw [seA_i (by decide) hx]
      show xq f _ _ 82 _ _ _ (fun v h' => v = some (.int (cond (xe_c .ne y 0) (Int32.ofInt (-1)) (nI (ndN (mi (cvB (fun k => xg 0 h.2.1 51 k) (fun k => xg 0 h.2.1 44 k) mem sc d) mem false) (2 ^ mem) mem)))) ∧ PI h')
      cases c1 : xe_c .ne y 0 with
      | true =>
        refine xq_n 94 [] [] [.int (Int32.ofInt (-1))] h1 [true] 60 hq1 rfl ⟨c1, trivial⟩ (fun _ => ?_)
        exact xq_ret rfl rfl rfl ⟨rfl, PP⟩
      | false =>
        refine xq_n 94 [] [] [.int (xg 0 h1.2.1 14 11)] h1 [false] 60 hq1 rfl ⟨c1, trivial⟩ (fun _ => ?_)
        exact xq_ret rfl rfl rfl ⟨by rw [n1]; rfl, PP⟩
    | 3, rfl =>
      rw [seA_i (by decide) hx]
      show xq f _ _ 95 _ _ _ (fun v h' => v = some (.int (cond (xe_c .ne y 0) (Int32.ofInt (-1)) (nI (idN (mi (cvB (fun k => xg 0 h.2.1 51 k) (fun k => xg 0 h.2.1 44 k) mem sc d) mem false) (2 ^ mem) mem)))) ∧ PI h')
      cases c1 : xe_c .ne y 0 with
      | true =>
        refine xq_n 107 [] [] [.int (Int32.ofInt (-1))] h1 [true] 60 hq1 rfl ⟨c1, trivial⟩ (fun _ => ?_)
        exact xq_ret rfl rfl rfl ⟨rfl, PP⟩
      | false =>
        refine xq_n 107 [] [] [.int (xg 0 h1.2.1 14 12)] h1 [false] 60 hq1 rfl ⟨c1, trivial⟩ (fun _ => ?_)
        exact xq_ret rfl rfl rfl ⟨by rw [n2]; rfl, PP⟩
    | n + 4, ho => cases ho
end
section
variable {W : Nat → Bool} {m j : Nat} {x : Int32} {h : xh_H}
set_option maxRecDepth 100000 in
set_option maxHeartbeats 4000000 in
theorem rsa_in (A : RA W m h) (m12 : m ≤ 12) (j31 : j < 2 ^ 31) (hq : a_rq a_tb h) {i : Nat} (hi : i ≤ m) (K : ∀ f, cnt (qp (mi W m (xe_c .ne x (Int32.ofInt 1))) (2 ^ m)) (2 ^ m * (i + 1)) ≤ j → xq f xi_X10_setAt xmi_X10_setAt 57 [(0, .ref 39), (1, .int x), (3, .int (nI (j - cnt (qp (mi W m (xe_c .ne x (Int32.ofInt 1))) (2 ^ m)) (2 ^ m * (i + 1))))), (4, .int (nI (i + 1)))] [] h (fun v h' => v = some (.int (sl (mi W m (xe_c .ne x (Int32.ofInt 1))) (2 ^ m) j (2 ^ m * (m + 1)))))) : ∀ (n f s : Nat), s + n = 2 ^ m → cnt (qp (mi W m (xe_c .ne x (Int32.ofInt 1))) (2 ^ m)) (2 ^ m * i + s) ≤ j → xq f xi_X10_setAt xmi_X10_setAt 69 [(0, .ref 39), (1, .int x), (3, .int (nI (j - cnt (qp (mi W m (xe_c .ne x (Int32.ofInt 1))) (2 ^ m)) (2 ^ m * i + s)))), (4, .int (nI i)), (5, .int (nI s))] [] h (fun v h' => v = some (.int (sl (mi W m (xe_c .ne x (Int32.ofInt 1))) (2 ^ m) j (2 ^ m * (m + 1))))) := by
  have p12 : 2 ^ m ≤ 4096 := show 2 ^ m ≤ 2 ^ 12 from Nat.pow_le_pow_right (by decide) m12
  intro n
  induction n with
  | zero =>
    intro f s sn w
    have e : s = 2 ^ m := by omega
    subst e
    refine xq_n 57 [0, 1, 3, 4] [(0, .ref 39), (1, .int x), (3, .int (nI (j - cnt (qp (mi W m (xe_c .ne x (Int32.ofInt 1))) (2 ^ m)) (2 ^ m * i + 2 ^ m)))), (4, .int (nI i + Int32.ofInt 1))] [] h [true] 60 hq rfl ⟨rgt A m12, trivial⟩ (fun _ => ?_)
    rw [nI_1', ← Nat.mul_succ]
    exact K f (by rw [← Nat.mul_succ] at w; exact w)
  | succ n ih =>
    intro f s sn w
    have hs : s < 2 ^ m := by omega
    have r := ih f (s + 1) (by omega)
    rw [show 2 ^ m * i + (s + 1) = 2 ^ m * i + s + 1 from rfl] at r
    have eq := qp_k (P := (mi W m (xe_c .ne x (Int32.ofInt 1)))) (k := i) hs
    refine xq_n 80 [0, 1, 3, 4, 5] [(0, .ref 39), (1, .int x), (3, .int (nI (j - cnt (qp (mi W m (xe_c .ne x (Int32.ofInt 1))) (2 ^ m)) (2 ^ m * i + s)))), (4, .int (nI i)), (5, .int (nI s))] [.int (nI s)] h [false] 60 hq rfl ⟨rgf A m12 hs, trivial⟩ (fun _ => ?_)
    refine xq_run hq rfl rfl (rso_q (by omega) hq) ?_
    rintro v h1 ⟨rfl, rfl⟩
    have sl' := sz_le (s := s)
    by_cases z : sz s = i
    · refine xq_n 92 [0, 1, 3, 4, 5] [(0, .ref 39), (1, .int x), (3, .int (nI (j - cnt (qp (mi W m (xe_c .ne x (Int32.ofInt 1))) (2 ^ m)) (2 ^ m * i + s)))), (4, .int (nI i)), (5, .int (nI s))] [.int x, .int (nI s), .ref 39] h [false] 60 hq rfl ⟨nne_f (by omega) (by omega) z, trivial⟩ (fun _ => ?_)
      refine xq_run hq rfl rfl (rik_q A m12 hs hq) ?_
      rintro v h1 ⟨rfl, rfl⟩
      cases c : (mi W m (xe_c .ne x (Int32.ofInt 1))) s with
      | false =>
        have q0 : qp (mi W m (xe_c .ne x (Int32.ofInt 1))) (2 ^ m) (2 ^ m * i + s) = false := by rw [eq]; unfold qk; rw [c]; rfl
        rw [cnt_f q0] at r
        refine xq_n 69 [0, 1, 3, 4, 5] [(0, .ref 39), (1, .int x), (3, .int (nI (j - cnt (qp (mi W m (xe_c .ne x (Int32.ofInt 1))) (2 ^ m)) (2 ^ m * i + s)))), (4, .int (nI i)), (5, .int (nI s + Int32.ofInt 1))] [] h [false] 60 hq rfl ⟨rfl, trivial⟩ (fun _ => ?_)
        rw [nI_1']
        exact r w
      | true =>
        have q1 : qp (mi W m (xe_c .ne x (Int32.ofInt 1))) (2 ^ m) (2 ^ m * i + s) = true := by rw [eq]; unfold qk; rw [c, decide_eq_true z]; rfl
        rw [cnt_t q1] at r
        by_cases y : cnt (qp (mi W m (xe_c .ne x (Int32.ofInt 1))) (2 ^ m)) (2 ^ m * i + s) = j
        · have lt : 2 ^ m * i + s < 2 ^ m * (m + 1) := by
            have a : 2 ^ m * (i + 1) ≤ 2 ^ m * (m + 1) := Nat.mul_le_mul_left _ (by omega)
            rw [Nat.mul_succ] at a
            omega
          refine xq_n 107 [] [] [.int (nI s)] h [true, false] 60 hq rfl ⟨rfl, nne_f (b := 0) (by omega) (by decide) (by omega), trivial⟩ (fun _ => ?_)
          exact xq_ret rfl rfl rfl (by rw [sl_u q1 y _ lt, Nat.mul_add_mod, Nat.mod_eq_of_lt hs])
        · refine xq_n 69 [0, 1, 3, 4, 5] [(0, .ref 39), (1, .int x), (3, .int (nI (j - cnt (qp (mi W m (xe_c .ne x (Int32.ofInt 1))) (2 ^ m)) (2 ^ m * i + s)) + Int32.ofInt (-1))), (4, .int (nI i)), (5, .int (nI s + Int32.ofInt 1))] [] h [true, true] 60 hq rfl ⟨rfl, nne_t (b := 0) (by omega) (by decide) (by omega), trivial⟩ (fun _ => ?_)
          rw [nI_1', show j - cnt (qp (mi W m (xe_c .ne x (Int32.ofInt 1))) (2 ^ m)) (2 ^ m * i + s) = (j - (cnt (qp (mi W m (xe_c .ne x (Int32.ofInt 1))) (2 ^ m)) (2 ^ m * i + s) + 1)) + 1 by omega, nI_dec]
          exact r (by omega)
    · have q0 : qp (mi W m (xe_c .ne x (Int32.ofInt 1))) (2 ^ m) (2 ^ m * i + s) = false := by rw [eq]; unfold qk; rw [decide_eq_false z, Bool.and_false]
      rw [cnt_f q0] at r
      refine xq_n 69 [0, 1, 3, 4, 5] [(0, .ref 39), (1, .int x), (3, .int (nI (j - cnt (qp (mi W m (xe_c .ne x (Int32.ofInt 1))) (2 ^ m)) (2 ^ m * i + s)))), (4, .int (nI i)), (5, .int (nI s + Int32.ofInt 1))] [] h [true] 60 hq rfl ⟨nne_t (by omega) (by omega) z, trivial⟩ (fun _ => ?_)
      rw [nI_1']
      exact r w
set_option maxRecDepth 100000 in
set_option maxHeartbeats 4000000 in
theorem rsa_l (A : RA W m h) (m12 : m ≤ 12) (j31 : j < 2 ^ 31) (hq : a_rq a_tb h) : ∀ (n f i : Nat), i + n = m + 1 → cnt (qp (mi W m (xe_c .ne x (Int32.ofInt 1))) (2 ^ m)) (2 ^ m * i) ≤ j → xq f xi_X10_setAt xmi_X10_setAt 57 [(0, .ref 39), (1, .int x), (3, .int (nI (j - cnt (qp (mi W m (xe_c .ne x (Int32.ofInt 1))) (2 ^ m)) (2 ^ m * i)))), (4, .int (nI i))] [] h (fun v h' => v = some (.int (sl (mi W m (xe_c .ne x (Int32.ofInt 1))) (2 ^ m) j (2 ^ m * (m + 1))))) := by
  intro n
  induction n with
  | zero =>
    intro f i hn w
    have e : i = m + 1 := by omega
    subst e
    refine xq_n 124 [] [] [.int (Int32.ofInt (-1))] h [true] 60 hq rfl ⟨(show xe_c .gt (nI (m + 1)) (xg 0 h.2.1 39 4) = true by rw [A.1]; exact xgt_t (by rw [nI_toInt (by omega), nI_toInt (by omega)]; omega)), trivial⟩ (fun _ => ?_)
    exact xq_ret rfl rfl rfl (by rw [sl_n _ w])
  | succ n ih =>
    intro f i hn w
    refine xq_n 69 [0, 1, 3, 4, 5] [(0, .ref 39), (1, .int x), (3, .int (nI (j - cnt (qp (mi W m (xe_c .ne x (Int32.ofInt 1))) (2 ^ m)) (2 ^ m * i)))), (4, .int (nI i)), (5, .int (Int32.ofInt 0))] [] h [false] 60 hq rfl ⟨(show xe_c .gt (nI i) (xg 0 h.2.1 39 4) = false by rw [A.1]; exact xgt_f (by rw [nI_toInt (by omega), nI_toInt (by omega)]; omega)), trivial⟩ (fun _ => ?_)
    exact rsa_in A m12 j31 hq (by omega) (fun f w => ih f (i + 1) (by omega) w) (2 ^ m) f 0 (by omega) w
end
section
variable {mem sc : Nat} {FR RW : Nat → Int32} {d : Int32} {h : xh_H}
set_option maxRecDepth 100000 in
set_option maxHeartbeats 4000000 in
theorem sa10_q {f : Nat} {x y : Int32} (m12 : mem ≤ 12) (e4 : xg 0 h.2.1 39 4 = nI mem) (e33 : xg 0 h.2.1 39 33 = nI sc) (sc8 : sc ≤ 8) (e3 : xg 0 h.2.1 39 3 = d) (hF : ∀ k, k < sc → xg 0 h.2.1 51 k = FR k) (hT : ∀ k, k < sc → (xg 0 h.2.1 52 k).toInt ≤ 999) (hR : ∀ k s, k < sc → s < 2 ^ mem → ∃ b : Bool, RW (4096 * k + s) = bl b ∧ xg 0 h.2.1 44 (4096 * k + s) = bl b) (hq : a_rq a_tb h) : xq f xi_X10_setAt xmi_X10_setAt 0 [(0, .ref 39), (1, .int x), (2, .int y)] [] h (fun v h' => v = some (.int (seA (cvB FR RW mem sc d) mem x y))) := by
  refine xq_n 8 [0, 1, 2] [(0, .ref 39), (1, .int x), (2, .int y)] [.int (Int32.ofInt 4), .int (Int32.ofInt 1), .int x] (xh_ui h 39 0 (Int32.ofInt 0)) [] 60 hq rfl trivial (fun _ => ?_)
  have hq : a_rq a_tb (xh_ui h 39 0 (Int32.ofInt 0)) := a_rq_ui hq
  refine xq_run hq rfl rfl (isIn_q hq) ?_
  rintro v h2 ⟨rfl, rfl⟩
  by_cases z : (Int32.ofInt 1).toInt ≤ x.toInt ∧ x.toInt ≤ (Int32.ofInt 4).toInt
  · have z' : (1 : Int) ≤ x.toInt ∧ x.toInt ≤ (4 : Int) := z
    rw [decide_eq_true z]
    cases c2 : xe_c .ge y 0 with
    | false =>
      have b2 : y.toInt < (0 : Int) := a_ce (a_neg_ok c2)
      refine xq_n 19 [] [] [.int (Int32.ofInt (-1))] (xh_ui h 39 0 (Int32.ofInt 0)) [false, false] 60 hq rfl ⟨rfl, c2, trivial⟩ (fun _ => ?_)
      refine xq_ret rfl rfl rfl ?_
      have yn : xe_c .ne y 0 = true := by
        cases c3 : xe_c .ne y 0 with
        | true => rfl
        | false =>
          have : y.toInt = (0 : Int) := a_ce (a_neg_ok c3)
          omega
      obtain ⟨i, i4, hx⟩ : ∃ i : Nat, i < 4 ∧ x.toInt = 1 + (i : Int) := ⟨(x.toInt - 1).toNat, by omega, by omega⟩
      rw [seA_i i4 hx]
      match i, i4 with
      | 0, _ => show _ = some (Value.int (if _ then _ else _)); rw [if_pos b2]
      | 1, _ => show _ = some (Value.int (if _ then _ else _)); rw [if_pos b2]
      | 2, _ => show _ = some (Value.int (cond _ _ _)); rw [yn]; rfl
      | 3, _ => show _ = some (Value.int (cond _ _ _)); rw [yn]; rfl
    | true =>
      have b2 : (0 : Int) ≤ y.toInt := a_ce c2
      have y31 := (ar_rng y).2
      have yN : nI y.toInt.toNat = y := Int32.toInt_inj.mp (by rw [nI_toInt (by omega)]; omega)
      refine xq_n 21 [0, 1, 2] [(0, .ref 39), (1, .int x), (2, .int y)] [.ref 39] (xh_ui h 39 0 (Int32.ofInt 0)) [false, true] 60 hq rfl ⟨rfl, c2, trivial⟩ (fun _ => ?_)
      refine xq_run hq rfl rfl (ly_q m12 e4 e33 sc8 e3 hF hT hR hq) ?_
      rintro v h1 ⟨rfl, g1, A⟩
      have hq := fx_q g1 hq
      obtain ⟨i, i4, hx⟩ : ∃ i : Nat, i < 4 ∧ x.toInt = 1 + (i : Int) := ⟨(x.toInt - 1).toNat, by omega, by omega⟩
      match i, hx, i4 with
      | 0, hx, _ =>
        have ex : x = nI 1 := Int32.toInt_inj.mp (by rw [hx]; rfl)
        subst ex
        rw [seA_i (i := 0) (by decide) hx]
        show xq f _ _ _ _ _ _ (fun v h' => v = some (.int (if y.toInt < 0 then Int32.ofInt (-1) else sl (mi (cvB FR RW mem sc d) mem false) (2 ^ mem) y.toInt.toNat (2 ^ mem * (mem + 1)))))
        rw [if_neg (by omega)]
        refine xq_n 57 [0, 1, 3, 4] [(0, .ref 39), (1, .int (nI 1)), (3, .int y), (4, .int (Int32.ofInt 0))] [] h1 [true] 60 hq rfl ⟨rfl, trivial⟩ (fun _ => ?_)
        have r := rsa_l (x := nI 1) (j := y.toInt.toNat) A m12 (by omega) hq (mem + 1) f 0 (by omega) (Nat.zero_le _)
        rw [show nI (y.toInt.toNat - cnt (qp (mi (cvB FR RW mem sc d) mem (xe_c .ne (nI 1) (Int32.ofInt 1))) (2 ^ mem)) (2 ^ mem * 0)) = y from yN] at r
        exact r
      | 1, hx, _ =>
        have ex : x = nI 2 := Int32.toInt_inj.mp (by rw [hx]; rfl)
        subst ex
        rw [seA_i (i := 1) (by decide) hx]
        show xq f _ _ _ _ _ _ (fun v h' => v = some (.int (if y.toInt < 0 then Int32.ofInt (-1) else sl (mi (cvB FR RW mem sc d) mem true) (2 ^ mem) y.toInt.toNat (2 ^ mem * (mem + 1)))))
        rw [if_neg (by omega)]
        refine xq_n 57 [0, 1, 3, 4] [(0, .ref 39), (1, .int (nI 2)), (3, .int y), (4, .int (Int32.ofInt 0))] [] h1 [true] 60 hq rfl ⟨rfl, trivial⟩ (fun _ => ?_)
        have r := rsa_l (x := nI 2) (j := y.toInt.toNat) A m12 (by omega) hq (mem + 1) f 0 (by omega) (Nat.zero_le _)
        rw [show nI (y.toInt.toNat - cnt (qp (mi (cvB FR RW mem sc d) mem (xe_c .ne (nI 2) (Int32.ofInt 1))) (2 ^ mem)) (2 ^ mem * 0)) = y from yN] at r
        exact r
      | 2, hx, _ =>
        have ex : x = nI 3 := Int32.toInt_inj.mp (by rw [hx]; rfl)
        subst ex
        rw [seA_i (i := 2) (by decide) hx]
        show xq f _ _ _ _ _ _ (fun v h' => v = some (.int (cond (xe_c .ne y 0) (Int32.ofInt (-1)) (nI (ndN (mi (cvB FR RW mem sc d) mem false) (2 ^ mem) mem)))))
        cases c3 : xe_c .ne y 0 with
        | true =>
          refine xq_n 51 [] [] [.int (Int32.ofInt (-1))] h1 [false, true] 60 hq rfl ⟨rfl, c3, trivial⟩ (fun _ => ?_)
          exact xq_ret rfl rfl rfl rfl
        | false =>
          refine xq_n 44 [] [] [.int (Int32.ofInt 0), .ref 39] h1 [false, false, true] 60 hq rfl ⟨rfl, c3, rfl, trivial⟩ (fun _ => ?_)
          refine xq_run hq rfl rfl (rwh_q A m12 hq) ?_
          rintro v h2 ⟨rfl, rfl⟩
          refine xq_n 51 [] [] [.int (nI (ndN (mi (cvB FR RW mem sc d) mem false) (2 ^ mem) mem))] h1 [] 60 hq rfl trivial (fun _ => ?_)
          exact xq_ret rfl rfl rfl rfl
      | 3, hx, _ =>
        have ex : x = nI 4 := Int32.toInt_inj.mp (by rw [hx]; rfl)
        subst ex
        rw [seA_i (i := 3) (by decide) hx]
        show xq f _ _ _ _ _ _ (fun v h' => v = some (.int (cond (xe_c .ne y 0) (Int32.ofInt (-1)) (nI (idN (mi (cvB FR RW mem sc d) mem false) (2 ^ mem) mem)))))
        cases c3 : xe_c .ne y 0 with
        | true =>
          refine xq_n 51 [] [] [.int (Int32.ofInt (-1))] h1 [false, true] 60 hq rfl ⟨rfl, c3, trivial⟩ (fun _ => ?_)
          exact xq_ret rfl rfl rfl rfl
        | false =>
          refine xq_n 44 [] [] [.int (Int32.ofInt 1), .ref 39] h1 [false, false, false] 60 hq rfl ⟨rfl, c3, rfl, trivial⟩ (fun _ => ?_)
          refine xq_run hq rfl rfl (rwh_q A m12 hq) ?_
          rintro v h2 ⟨rfl, rfl⟩
          refine xq_n 51 [] [] [.int (nI (idN (mi (cvB FR RW mem sc d) mem false) (2 ^ mem) mem))] h1 [] 60 hq rfl trivial (fun _ => ?_)
          exact xq_ret rfl rfl rfl rfl
  · rw [decide_eq_false z]
    have z' : ¬ ((1 : Int) ≤ x.toInt ∧ x.toInt ≤ (4 : Int)) := z
    refine xq_n 19 [] [] [.int (Int32.ofInt (-1))] (xh_ui h 39 0 (Int32.ofInt 0)) [true] 60 hq rfl ⟨rfl, trivial⟩ (fun _ => ?_)
    exact xq_ret rfl rfl rfl (by rw [seA_o (by omega)])
end
end XSA
end
section
section XCV
def pwv (b : Int64) : Nat → Int64
  | 0 => 1
  | n + 1 => pwv b n * b
/-- how many, as a long -/
def cLg (P : Nat → Bool) : Nat → Int64
  | 0 => 0
  | n + 1 => if P n = true then cLg P n + 1 else cLg P n
def tA (x : Int32) (m i : Nat) : Int64 := pwv x.toInt64 i * pwv (10 - x).toInt64 (m - i)
def rs (W : Nat → Bool) (m : Nat) (x : Int32) : Nat → Int64
  | 0 => 0
  | s + 1 => if W s = true then rs W m x s + tA x m (sz s) else rs W m x s
def cs (c : Nat → Int64) (m : Nat) (x : Int32) : Nat → Int64
  | 0 => 0
  | i + 1 => cs c m x i + (c i * pwv x.toInt64 i) * pwv (10 - x).toInt64 (m - i)
theorem cs_0 {m : Nat} {x : Int32} : ∀ j, cs (fun _ => 0) m x j = 0 := by
  intro j
  induction j with
  | zero => rfl
  | succ j ih =>
    show cs (fun _ => 0) m x j + ((0 : Int64) * _) * _ = 0
    rw [ih, Int64.zero_mul, Int64.zero_mul]
    rfl
theorem cs_c {c c' : Nat → Int64} {m : Nat} {x : Int32} (e : ∀ i, c i = c' i) (j : Nat) : cs c m x j = cs c' m x j := by rw [show c = c' from funext e]
theorem cs_1 {c c' : Nat → Int64} {m k : Nat} {x : Int32} (e : ∀ i, c' i = if i = k then c i + 1 else c i) : ∀ j, cs c' m x j = if k < j then cs c m x j + tA x m k else cs c m x j := by
  intro j
  induction j with
  | zero => rw [if_neg (by omega)]; rfl
  | succ j ih =>
    show cs c' m x j + (c' j * _) * _ = _
    rw [ih, e j]
    show _ = if k < j + 1 then (cs c m x j + (c j * pwv x.toInt64 j) * pwv (10 - x).toInt64 (m - j)) + tA x m k else (cs c m x j + (c j * pwv x.toInt64 j) * pwv (10 - x).toInt64 (m - j))
    by_cases z : j = k
    · rw [if_pos z, if_neg (by omega), if_pos (by omega), Int64.add_mul, Int64.one_mul, Int64.add_mul, z]
      unfold tA
      rw [Int64.add_assoc]
    · rw [if_neg z]
      by_cases y : k < j
      · rw [if_pos y, if_pos (by omega), Int64.add_assoc, Int64.add_comm (tA x m k), ← Int64.add_assoc]
      · rw [if_neg y, if_neg (by omega)]
theorem cs_r {W : Nat → Bool} {m : Nat} {x : Int32} (m12 : m ≤ 12) : ∀ n, n ≤ 2 ^ m → cs (fun i => cLg (qk W i) n) m x (m + 1) = rs W m x n := by
  intro n
  induction n with
  | zero => intro _; exact cs_0 _
  | succ n ih =>
    intro h
    have s := sz_m m12 (show n < 2 ^ m by omega)
    have r := ih (by omega)
    show _ = if W n = true then rs W m x n + tA x m (sz n) else rs W m x n
    cases c : W n with
    | false =>
      rw [if_neg (by decide), ← r]
      exact cs_c (fun i => if_neg (by unfold qk; rw [c]; exact (fun z => by cases z))) _
    | true =>
      rw [if_pos rfl, ← r, cs_1 (c := fun i => cLg (qk W i) n) (k := sz n) (fun i => ?_), if_pos (by omega)]
      by_cases z : i = sz n
      · rw [if_pos z]; exact if_pos (by rw [z]; exact qk_s c)
      · rw [if_neg z]; exact if_neg (by unfold qk; rw [decide_eq_false (fun e => z e.symm), Bool.and_false]; decide)
set_option maxRecDepth 100000 in
set_option maxHeartbeats 4000000 in
/-- Powers.power -/
theorem pwc_l {x : Int32} {e : Nat} {h : xh_H} (e12 : e ≤ 12) (hq : a_rq a_tb h) : ∀ (n f i : Nat), i + n = e → xq f xi_X2_power xmi_X2_power 5 [(0, .int x), (1, .int (nI e)), (2, .long (pwv x.toInt64 i)), (4, .int (nI i))] [] h (fun v h' => h = h' ∧ v = some (.long (pwv x.toInt64 e))) := by
  intro n
  induction n with
  | zero =>
    intro f i hn
    have e0 : i = e := by omega
    subst e0
    refine xq_n 23 [] [] [.long (pwv x.toInt64 i)] h [true] 60 hq rfl ⟨nge_t (by omega) (by omega) (Nat.le_refl _), trivial⟩ (fun _ => ?_)
    exact xq_ret rfl rfl rfl ⟨rfl, rfl⟩
  | succ n ih =>
    intro f i hn
    refine xq_n 5 [0, 1, 2, 4] [(0, .int x), (1, .int (nI e)), (2, .long (pwv x.toInt64 i * x.toInt64)), (4, .int (nI i + Int32.ofInt 1))] [] h [false] 60 hq rfl ⟨nge_f (by omega) (by omega) (by omega), trivial⟩ (fun _ => ?_)
    rw [nI_1']
    exact ih f (i + 1) (by omega)
theorem pwc_q {f : Nat} {x : Int32} {e : Nat} {h : xh_H} (e12 : e ≤ 12) (hq : a_rq a_tb h) : xq f xi_X2_power xmi_X2_power 0 [(0, .int x), (1, .int (nI e))] [] h (fun v h' => h = h' ∧ v = some (.long (pwv x.toInt64 e))) := by
  refine xq_n 5 [0, 1, 2, 4] [(0, .int x), (1, .int (nI e)), (2, .long 1), (4, .int (Int32.ofInt 0))] [] h [] 60 hq rfl trivial (fun _ => ?_)
  exact pwc_l e12 hq e f 0 (by omega)
set_option maxRecDepth 100000 in
set_option maxHeartbeats 4000000 in
/-- X10.power -/
theorem pwr'_l {b : Int64} {e : Nat} {h : xh_H} (e12 : e ≤ 12) (hq : a_rq a_tb h) : ∀ (n f i : Nat), i + n = e → xq f xi_X10_power xmi_X10_power 5 [(0, .long b), (2, .int (nI e)), (3, .long (pwv b i)), (5, .int (nI i))] [] h (fun v h' => h = h' ∧ v = some (.long (pwv b e))) := by
  intro n
  induction n with
  | zero =>
    intro f i hn
    have e0 : i = e := by omega
    subst e0
    refine xq_n 22 [] [] [.long (pwv b i)] h [true] 60 hq rfl ⟨nge_t (by omega) (by omega) (Nat.le_refl _), trivial⟩ (fun _ => ?_)
    exact xq_ret rfl rfl rfl ⟨rfl, rfl⟩
  | succ n ih =>
    intro f i hn
    refine xq_n 5 [0, 2, 3, 5] [(0, .long b), (2, .int (nI e)), (3, .long (pwv b i * b)), (5, .int (nI i + Int32.ofInt 1))] [] h [false] 60 hq rfl ⟨nge_f (by omega) (by omega) (by omega), trivial⟩ (fun _ => ?_)
    rw [nI_1']
    exact ih f (i + 1) (by omega)
theorem pwr'_q {f : Nat} {b : Int64} {e : Nat} {h : xh_H} (e12 : e ≤ 12) (hq : a_rq a_tb h) : xq f xi_X10_power xmi_X10_power 0 [(0, .long b), (2, .int (nI e))] [] h (fun v h' => h = h' ∧ v = some (.long (pwv b e))) := by
  refine xq_n 5 [0, 2, 3, 5] [(0, .long b), (2, .int (nI e)), (3, .long 1), (5, .int (Int32.ofInt 0))] [] h [] 60 hq rfl trivial (fun _ => ?_)
  exact pwr'_l e12 hq e f 0 (by omega)
theorem LA_g {W : Nat → Bool} {m q r : Nat} {S L : Nat → Nat → Bool} {h h' : xh_H} (A : LA W m q r h) (g : fx S L h h') (e7 : S 14 7 = false) (e8 : S 14 8 = false) (hL : ∀ k, L r k = false) : LA W m q r h' := by
  obtain ⟨a1, a2, a3, a4, a5, a6, a7⟩ := A
  exact ⟨by rw [g.2.1]; exact a1, by rw [g.1]; exact a2, by rw [g.2.1]; exact a3, by rw [g.1]; exact a4, (fx_i g e7).trans a5, (fx_i g e8).trans a6, fun s hs => (hv_ee (fun k => g.2.2.2 r k (hL k))).trans (a7 s hs)⟩
theorem r20 {W : Nat → Bool} {m q r : Nat} {h : xh_H} (A : LA W m q r h) (hq : a_rq a_tb h) (k : Nat) : Lr 20 r k = false := nbeq_f (fun w => by
  have := A.2.2.2.1
  rw [w, hq.2.1 20 _ rfl] at this
  cases this)
section
variable {W : Nat → Bool} {m q r : Nat} {x : Int32} {hb : xh_H}
set_option maxRecDepth 100000 in
set_option maxHeartbeats 4000000 in
theorem cv_C (m12 : m ≤ 12) (e7 : xg 0 hb.2.1 14 7 = nI m) {c : Nat → Int64} (hc : ∀ i, i ≤ m → xg 0 hb.2.2.1 20 i = c i) (hq : a_rq a_tb hb) : ∀ (n f i : Nat), i + n = m + 1 → xq f xi_X2_chanceOf xmi_X2_chanceOf 68 [(0, .ref 14), (1, .int x), (2, .long (cs c m x i)), (4, .int (nI i))] [] hb (fun v h' => hb = h' ∧ v = some (.long (cs c m x (m + 1)))) := by
  intro n
  induction n with
  | zero =>
    intro f i hn
    have e : i = m + 1 := by omega
    subst e
    refine xq_n 116 [] [] [.long (cs c m x (m + 1))] hb [true] 60 hq rfl ⟨(show xe_c .gt (nI (m + 1)) (xg 0 hb.2.1 14 7) = true by rw [e7]; exact xgt_t (by rw [nI_toInt (by omega), nI_toInt (by omega)]; omega)), trivial⟩ (fun _ => ?_)
    exact xq_ret rfl rfl rfl ⟨rfl, rfl⟩
  | succ n ih =>
    intro f i hn
    refine xq_n 88 [0, 1, 2, 4] [(0, .ref 14), (1, .int x), (2, .long (cs c m x i)), (4, .int (nI i))] [.int (nI i), .int x, .long (xg 0 hb.2.2.1 20 (nI i).toNatClampNeg), .long (cs c m x i)] hb [false] 60 hq rfl ⟨(show xe_c .gt (nI i) (xg 0 hb.2.1 14 7) = false by rw [e7]; exact xgt_f (by rw [nI_toInt (by omega), nI_toInt (by omega)]; omega)), trivial⟩ (fun _ => ?_)
    rw [nI_clamp (by omega), hc i (by omega)]
    refine xq_run hq rfl rfl (pwc_q (by omega) hq) ?_
    rintro v h1 ⟨rfl, rfl⟩
    refine xq_n 103 [0, 1, 2, 4] [(0, .ref 14), (1, .int x), (2, .long (cs c m x i)), (4, .int (nI i))] [.int (xg 0 hb.2.1 14 7 - nI i), .int (10 - x), .long (c i * pwv x.toInt64 i), .long (cs c m x i)] hb [] 60 hq rfl trivial (fun _ => ?_)
    rw [e7, nI_sub (by omega)]
    refine xq_run hq rfl rfl (pwc_q (by omega) hq) ?_
    rintro v h1 ⟨rfl, rfl⟩
    refine xq_n 68 [0, 1, 2, 4] [(0, .ref 14), (1, .int x), (2, .long (cs c m x i + (c i * pwv x.toInt64 i) * pwv (10 - x).toInt64 (m - i))), (4, .int (nI i + Int32.ofInt 1))] [] hb [] 60 hq rfl trivial (fun _ => ?_)
    rw [nI_1']
    exact ih f (i + 1) (by omega)
set_option maxRecDepth 100000 in
set_option maxHeartbeats 4000000 in
theorem cv_B (A : LA W m q r hb) (m12 : m ≤ 12) (hq0 : a_rq a_tb hb) : ∀ (n f s : Nat) (h : xh_H), s + n = 2 ^ m → a_rq a_tb h → fx fN (Lr 20) hb h → (∀ i, i ≤ m → xg 0 h.2.2.1 20 i = cLg (qk W i) s) → xq f xi_X2_chanceOf xmi_X2_chanceOf 25 [(0, .ref 14), (1, .int x), (2, .int (nI s))] [] h (fun v h' => fx fN (Lr 20) hb h' ∧ v = some (.long (rs W m x (2 ^ m)))) := by
  have p12 : 2 ^ m ≤ 4096 := show 2 ^ m ≤ 2 ^ 12 from Nat.pow_le_pow_right (by decide) m12
  intro n
  induction n with
  | zero =>
    intro f s h hn hq ge w
    have e : s = 2 ^ m := by omega
    subst e
    have A' := LA_g A ge rfl rfl (r20 A hq0)
    refine xq_n 68 [0, 1, 2, 4] [(0, .ref 14), (1, .int x), (2, .long 0), (4, .int (Int32.ofInt 0))] [] h [true] 60 hq rfl ⟨gtt A' m12, trivial⟩ (fun _ => ?_)
    refine xq_mono (cv_C (c := fun i => cLg (qk W i) (2 ^ m)) m12 A'.2.2.2.2.1 w hq (m + 1) f 0 (by omega)) (fun v h' e => ?_)
    obtain ⟨rfl, e⟩ := e
    exact ⟨ge, by rw [e, cs_r m12 _ (Nat.le_refl _)]⟩
  | succ n ih =>
    intro f s h hn hq ge w
    have hs : s < 2 ^ m := by omega
    have A' := LA_g A ge rfl rfl (r20 A hq0)
    refine xq_n 38 [0, 1, 2] [(0, .ref 14), (1, .int x), (2, .int (nI s))] [.int (nI s), va_rf (xg none h.2.2.2 14 6)] h [false] 60 hq rfl ⟨gtf A' m12 hs, trivial⟩ (fun _ => ?_)
    rw [A'.1]
    refine xq_cr (As := [.ref q, .int (nI (s))]) (mj := xmi_X7_holds) (q := []) rfl rfl (fun _ _ => rfl) (xa_cs_ok (d := 0) (pc := 0) (lv := []) (nL := 0) A'.2.1 rfl).1 (fun f => hl_q A' m12 (hs) hq) ?_
    rintro v h1 ⟨rfl, rfl⟩
    cases c : W s with
    | false =>
      refine xq_n 25 [0, 1, 2] [(0, .ref 14), (1, .int x), (2, .int (nI s + Int32.ofInt 1))] [] h [true] 60 hq rfl ⟨rfl, trivial⟩ (fun _ => ?_)
      rw [nI_1']
      exact ih f (s + 1) h (by omega) hq ge (fun i hi => (w i hi).trans (if_neg (by unfold qk; rw [c]; exact (fun z => by cases z))).symm)
    | true =>
      have sl := sz_m m12 hs
      refine xq_n 49 [0, 1, 2] [(0, .ref 14), (1, .int x), (2, .int (nI s))] [.int (nI s), .ref 20] h [false] 60 hq rfl ⟨rfl, trivial⟩ (fun _ => ?_)
      refine xq_run hq rfl rfl (bit_q (by omega) hq) ?_
      rintro v h1 ⟨rfl, rfl⟩
      refine xq_n 25 [0, 1, 2] [(0, .ref 14), (1, .int x), (2, .int (nI s + Int32.ofInt 1))] [] (xh_ul h 20 (nI (sz s)).toNatClampNeg (xg 0 h.2.2.1 20 (nI (sz s)).toNatClampNeg + 1)) [] 60 hq rfl trivial (fun _ => ?_)
      rw [nI_1', show (nI (sz s)).toNatClampNeg = sz s from nI_clamp (by omega), w (sz s) sl]
      refine ih f (s + 1) _ (by omega) (a_rq_ul hq) (fx_ul ge rfl) (fun i hi => ?_)
      by_cases z : i = sz s
      · rw [z, gl_s]; exact (if_pos (qk_s c)).symm
      · exact (gl_k z).trans ((w i hi).trans (if_neg (by unfold qk; rw [decide_eq_false (fun e => z e.symm), Bool.and_false]; decide)).symm)
set_option maxRecDepth 100000 in
set_option maxHeartbeats 4000000 in
theorem cv_A (A : LA W m q r hb) (m12 : m ≤ 12) (hq0 : a_rq a_tb hb) : ∀ (n f i : Nat) (h : xh_H), i + n = m + 1 → a_rq a_tb h → fx fN (Lr 20) hb h → (∀ j, j < i → xg 0 h.2.2.1 20 j = 0) → xq f xi_X2_chanceOf xmi_X2_chanceOf 2 [(0, .ref 14), (1, .int x), (2, .int (nI i))] [] h (fun v h' => fx fN (Lr 20) hb h' ∧ v = some (.long (rs W m x (2 ^ m)))) := by
  intro n
  induction n with
  | zero =>
    intro f i h hn hq ge w
    have e : i = m + 1 := by omega
    subst e
    have A' := LA_g A ge rfl rfl (r20 A hq0)
    refine xq_n 25 [0, 1, 2] [(0, .ref 14), (1, .int x), (2, .int (Int32.ofInt 0))] [] h [true] 60 hq rfl ⟨(show xe_c .gt (nI (m + 1)) (xg 0 h.2.1 14 7) = true by rw [A'.2.2.2.2.1]; exact xgt_t (by rw [nI_toInt (by omega), nI_toInt (by omega)]; omega)), trivial⟩ (fun _ => ?_)
    exact cv_B A m12 hq0 (2 ^ m) f 0 h (by omega) hq ge (fun i hi => w i (by omega))
  | succ n ih =>
    intro f i h hn hq ge w
    have A' := LA_g A ge rfl rfl (r20 A hq0)
    refine xq_n 2 [0, 1, 2] [(0, .ref 14), (1, .int x), (2, .int (nI i + Int32.ofInt 1))] [] (xh_ul h 20 (nI i).toNatClampNeg 0) [false] 60 hq rfl ⟨(show xe_c .gt (nI i) (xg 0 h.2.1 14 7) = false by rw [A'.2.2.2.2.1]; exact xgt_f (by rw [nI_toInt (by omega), nI_toInt (by omega)]; omega)), trivial⟩ (fun _ => ?_)
    rw [nI_1', show (nI i).toNatClampNeg = i from nI_clamp (by omega)]
    refine ih f (i + 1) _ (by omega) (a_rq_ul hq) (fx_ul ge rfl) (fun j hj => ?_)
    by_cases z : j = i
    · rw [z, gl_s]
    · exact (gl_k z).trans (w j (by omega))
theorem cv_q {f : Nat} (A : LA W m q r hb) (m12 : m ≤ 12) (hq : a_rq a_tb hb) : xq f xi_X2_chanceOf xmi_X2_chanceOf 0 [(0, .ref 14), (1, .int x)] [] hb (fun v h' => fx fN (Lr 20) hb h' ∧ v = some (.long (rs W m x (2 ^ m)))) := by
  refine xq_n 2 [0, 1, 2] [(0, .ref 14), (1, .int x), (2, .int (Int32.ofInt 0))] [] hb [] 60 hq rfl trivial (fun _ => ?_)
  exact cv_A A m12 hq (m + 1) f 0 hb (by omega) hq fx_0 (fun j hj => absurd hj (Nat.not_lt_zero j))
set_option maxRecDepth 100000 in
set_option maxHeartbeats 4000000 in
/-- X10.chance -/
theorem cr_l {h : xh_H} (A : RA W m h) (m12 : m ≤ 12) (hq : a_rq a_tb h) : ∀ (n f s : Nat), s + n = 2 ^ m → xq f xi_X10_chance xmi_X10_chance 28 [(0, .ref 39), (1, .int x), (2, .long (rs W m x s)), (4, .int (nI s))] [] h (fun v h' => v = some (.long (rs W m x (2 ^ m)))) := by
  have p12 : 2 ^ m ≤ 4096 := show 2 ^ m ≤ 2 ^ 12 from Nat.pow_le_pow_right (by decide) m12
  intro n
  induction n with
  | zero =>
    intro f s sn
    have e : s = 2 ^ m := by omega
    subst e
    refine xq_n 86 [] [] [.long (rs W m x (2 ^ m))] h [true] 60 hq rfl ⟨rgt A m12, trivial⟩ (fun _ => ?_)
    exact xq_ret rfl rfl rfl rfl
  | succ n ih =>
    intro f s sn
    have hs : s < 2 ^ m := by omega
    have g := be' (rw0 A m12 hs)
    have r := ih f (s + 1) (by omega)
    cases c : W s with
    | false =>
      rw [c] at g
      rw [show rs W m x (s + 1) = rs W m x s from if_neg (by rw [c]; decide)] at r
      refine xq_n 28 [0, 1, 2, 4] [(0, .ref 39), (1, .int x), (2, .long (rs W m x s)), (4, .int (nI s + Int32.ofInt 1))] [] h [false, true] 60 hq rfl ⟨rgf A m12 hs, g, trivial⟩ (fun _ => ?_)
      rw [nI_1']
      exact r
    | true =>
      rw [c] at g
      have sl := sz_m m12 hs
      rw [show rs W m x (s + 1) = rs W m x s + tA x m (sz s) from if_pos c] at r
      refine xq_n 52 [0, 1, 2, 4] [(0, .ref 39), (1, .int x), (2, .long (rs W m x s)), (4, .int (nI s))] [.int (nI s), .long x.toInt64, .long (rs W m x s)] h [false, false] 60 hq rfl ⟨rgf A m12 hs, g, trivial⟩ (fun _ => ?_)
      refine xq_run hq rfl rfl (rso_q (by omega) hq) ?_
      rintro v h1 ⟨rfl, rfl⟩
      refine xq_run hq rfl rfl (pwr'_q (by omega) hq) ?_
      rintro v h1 ⟨rfl, rfl⟩
      refine xq_n 69 [0, 1, 2, 4] [(0, .ref 39), (1, .int x), (2, .long (rs W m x s)), (4, .int (nI s))] [.int (nI s), .int (xg 0 h.2.1 39 4), .long (10 - x).toInt64, .long (pwv x.toInt64 (sz s)), .long (rs W m x s)] h [] 60 hq rfl trivial (fun _ => ?_)
      rw [A.1]
      refine xq_run hq rfl rfl (rso_q (by omega) hq) ?_
      rintro v h1 ⟨rfl, rfl⟩
      refine xq_n 73 [0, 1, 2, 4] [(0, .ref 39), (1, .int x), (2, .long (rs W m x s)), (4, .int (nI s))] [.int (nI m - nI (sz s)), .long (10 - x).toInt64, .long (pwv x.toInt64 (sz s)), .long (rs W m x s)] h [] 60 hq rfl trivial (fun _ => ?_)
      rw [nI_sub sl]
      refine xq_run hq rfl rfl (pwr'_q (by omega) hq) ?_
      rintro v h1 ⟨rfl, rfl⟩
      refine xq_n 28 [0, 1, 2, 4] [(0, .ref 39), (1, .int x), (2, .long (rs W m x s + pwv x.toInt64 (sz s) * pwv (10 - x).toInt64 (m - sz s))), (4, .int (nI s + Int32.ofInt 1))] [] h [] 60 hq rfl trivial (fun _ => ?_)
      rw [nI_1']
      exact r
end
/-- what chance answers -/
def chV (W : Nat → Bool) (m : Nat) (x : Int32) : Int64 := cond (!xe_c .lt x 0 && xe_c .le x 10) (rs W m x (2 ^ m)) 18446744073709551615
section
variable {mem sc : Nat} {d : Int32} {h : xh_H}
set_option maxRecDepth 100000 in
set_option maxHeartbeats 4000000 in
theorem cv9_q {f : Nat} {x : Int32} (hi : a_inv a_tb h) (hn : 72 ≤ h.1.length) (e9 : xg 0 h.2.1 0 9 = nI mem) (m1 : 1 ≤ mem) (m12 : mem ≤ 12) (e8 : xg 0 h.2.1 0 8 = nI sc) (sc8 : sc ≤ 8) (e10 : xg 0 h.2.1 0 10 = d) (si : SI h) (pi : PI h) : xq f xi_X9_chance xmi_X9_chance 0 [(0, .ref 0), (1, .int x)] [] h (fun v h' => v = some (.long (chV (cvB (fun k => xg 0 h.2.1 51 k) (fun k => xg 0 h.2.1 44 k) mem sc d) mem x))) := by
  have hq := a_rq_of hi.1 hn
  unfold chV
  cases c1 : xe_c .lt x 0 with
  | true =>
    refine xq_n 24 [] [] [.long 18446744073709551615] h [true] 5 hq rfl ⟨c1, trivial⟩ (fun _ => ?_)
    exact xq_ret rfl rfl rfl rfl
  | false =>
    cases c2 : xe_c .le x 10 with
    | false =>
      refine xq_n 24 [] [] [.long 18446744073709551615] h [false, false] 8 hq rfl ⟨c1, c2, trivial⟩ (fun _ => ?_)
      exact xq_ret rfl rfl rfl rfl
    | true =>
      refine xq_n 17 [1] [(1, .int x)] [.ref 0] h [false, true] 7 hq rfl ⟨c1, c2, trivial⟩ (fun _ => ?_)
      refine xq_run hq rfl rfl (pt9_q hi hn e9 m1 m12 e8 sc8 e10 si pi) ?_
      rintro v h1 ⟨rfl, Y, PP, q, r, A, P⟩
      have hq1 := Yf_q hi hn Y
      refine xq_n 21 [] [] [.int x, .ref 14] h1 [] 3 hq1 rfl trivial (fun _ => ?_)
      refine xq_run hq1 rfl rfl (cv_q A m12 hq1) ?_
      rintro v h2 ⟨g4, rfl⟩
      exact xq_ret rfl rfl rfl rfl
end
section
variable {mem sc : Nat} {FR RW : Nat → Int32} {d : Int32} {h : xh_H}
set_option maxRecDepth 100000 in
set_option maxHeartbeats 4000000 in
theorem cv10_q {f : Nat} {x : Int32} (m12 : mem ≤ 12) (e4 : xg 0 h.2.1 39 4 = nI mem) (e33 : xg 0 h.2.1 39 33 = nI sc) (sc8 : sc ≤ 8) (e3 : xg 0 h.2.1 39 3 = d) (hF : ∀ k, k < sc → xg 0 h.2.1 51 k = FR k) (hT : ∀ k, k < sc → (xg 0 h.2.1 52 k).toInt ≤ 999) (hR : ∀ k s, k < sc → s < 2 ^ mem → ∃ b : Bool, RW (4096 * k + s) = bl b ∧ xg 0 h.2.1 44 (4096 * k + s) = bl b) (hq : a_rq a_tb h) : xq f xi_X10_chance xmi_X10_chance 0 [(0, .ref 39), (1, .int x)] [] h (fun v h' => v = some (.long (chV (cvB FR RW mem sc d) mem x))) := by
  refine xq_n 9 [0, 1] [(0, .ref 39), (1, .int x)] [.int 10, .int (Int32.ofInt 0), .int x] (xh_ui h 39 0 (Int32.ofInt 0)) [] 60 hq rfl trivial (fun _ => ?_)
  have hq : a_rq a_tb (xh_ui h 39 0 (Int32.ofInt 0)) := a_rq_ui hq
  refine xq_run hq rfl rfl (isIn_q hq) ?_
  rintro v h2 ⟨rfl, rfl⟩
  have ev : decide ((Int32.ofInt 0).toInt ≤ x.toInt ∧ x.toInt ≤ (10 : Int32).toInt) = (!xe_c .lt x 0 && xe_c .le x 10) := by
    cases c1 : xe_c .lt x 0 with
    | true => have b : x.toInt < (0 : Int) := a_ce c1; exact decide_eq_false (fun z => by have z1 : (0 : Int) ≤ x.toInt := z.1; omega)
    | false =>
      have b : (0 : Int) ≤ x.toInt := a_ce (a_neg_ok c1)
      cases c2 : xe_c .le x 10 with
      | true => have b2 : x.toInt ≤ (10 : Int) := a_ce c2; exact decide_eq_true ⟨b, b2⟩
      | false => have b2 : (10 : Int) < x.toInt := a_ce (a_neg_ok c2); exact decide_eq_false (fun z => by have z1 : x.toInt ≤ (10 : Int) := z.2; omega)
  rw [ev]
  unfold chV
  cases (!xe_c .lt x 0 && xe_c .le x 10) with
  | false =>
    refine xq_n 18 [] [] [.long 18446744073709551615] (xh_ui h 39 0 (Int32.ofInt 0)) [false] 60 hq rfl ⟨rfl, trivial⟩ (fun _ => ?_)
    exact xq_ret rfl rfl rfl rfl
  | true =>
    refine xq_n 20 [0, 1] [(0, .ref 39), (1, .int x)] [.ref 39] (xh_ui h 39 0 (Int32.ofInt 0)) [true] 60 hq rfl ⟨rfl, trivial⟩ (fun _ => ?_)
    refine xq_run hq rfl rfl (ly_q m12 e4 e33 sc8 e3 hF hT hR hq) ?_
    rintro v h1 ⟨rfl, g1, A⟩
    have hq := fx_q g1 hq
    refine xq_n 28 [0, 1, 2, 4] [(0, .ref 39), (1, .int x), (2, .long (0)), (4, .int (Int32.ofInt 0))] [] h1 [] 60 hq rfl trivial (fun _ => ?_)
    exact cr_l A m12 hq (2 ^ mem) f 0 (by omega)
end
end XCV
end
section
/-! ===== BEGIN exceptions that leave a method, and their catching by the caller (launches without stack traces) ===== -/
section VXA
/-! The laws vx_back, vx_callV, vx_callS, vx_callSW, vx_throw0, vx_throwS follow proofs of the library, with one case more: JvmDerived/Free/Laws.lean (Back.of_free), Shelf42/LK1.lean (callV, callS), Shelf/KitTraced.lean (throwNew0V, throwNewS). -/

/-- where a method has thrown q: the class by its name, the cell, what was written, the world -/
def vx_T (XC : String → State → State → Prop) (st : State) (q : Addr) (t : State) (mc ms : Nat) (free : Addr → Prop) : Prop :=
  ∃ (E : String) (ce : Cell) (L : List Loc), XC E st t ∧ t.heap[q]? = some ce ∧ ce.vm = .none ∧ st.vm.findClass E = some ce.cls ∧ st.WarmedH t.vm ∧ st.sameButNew ({ t with vm := st.vm } : State) L mc ms ∧ ∀ z ∈ L, free z.base
def vx_Q (Qc : Array Value → State → Outcome → State → Prop) (XC : String → State → State → Prop) (mc ms : Nat) (free : Addr → Prop) : Array Value → State → Outcome → State → Prop := fun a st o t =>
  (Qc a st o t ∧ ∃ L, FrameEnd st o t L mc ms ∧ ∀ q ∈ L, free q.base) ∨ ∃ q, o = .threw q ∧ vx_T XC st q t mc ms free
/-- a callee that returns or throws -/
def vx_Met (l : Launch) (y : MethodName) (ws : List Cond) (rm : Room) (Pc : Array Value → State → Prop) (Qc : Array Value → State → Outcome → State → Prop) (XC : String → State → State → Prop) (mc ms : Nat) (free : Addr → Prop) : Prop :=
  MetFree l y (headSpec ws rm) Pc (fun _ _ _ _ _ => True) (vx_Q Qc XC mc ms free)
def vx_Post (XC : String → State → State → Prop) (mc ms : Nat) (free : Addr → Prop) : Pt → Array Value → Addr → Pt → Prop := fun A a q B =>
  ∃ (g : JFrame) (mk : MethodId) (t : State) (L : List Loc) (E : String) (ce : Cell), B.U.heap = t.heap ∧ B.U.vm = t.vm ∧ XC E (A.U.calling g mk a) t ∧ t.heap[q]? = some ce ∧ ce.vm = .none ∧ A.U.vm.findClass E = some ce.cls ∧ B.locs = A.locs ++ L ∧ (∀ z ∈ L, free z.base) ∧ B.cells = A.cells + mc ∧ B.slots = A.slots + ms
def vx_Back (l : Launch) (R : Room) (p : Program) (e : Env) (below : List Frame) (s : State) (sargs : Array Value) (y : MethodName) (len W9 : Nat)
    (Pre : Pt → Array Value → Prop) (Post : Pt → Array Value → Option Value → Pt → Prop) (PostX : Pt → Array Value → Addr → Pt → Prop) : Prop :=
  ∀ (m : MethodId) (meth : Method) (c : Code) (A : Pt) (g : JFrame) (ig : Instr) (mk : MethodId) (a : Array Value),
    Stand p l e R s m sargs below meth c A.U A.locs A.cells A.slots → g.method = m → g.locals.size = c.maxLocals → decode c.code g.pc = .ok (ig, len) →
    2 * g.monitorRoom + (g.stack.map fun v => v.category).sum ≤ W9 → A.U.methodNamed? y = some mk → Pre A a →
    (∃ (v : Option Value) (B : Pt), Stand p l e R s m sargs below meth c B.U B.locs B.cells B.slots ∧ Post A a v B ∧
      Steps p.tables e below (doInvoke e (A.U.setTop g) [] mk a).1 (B.U.setTop { g with pc := g.pc + len, stack := v.toList ++ g.stack })) ∨
    (∃ (q : Addr) (B : Pt), Stand p l e R s m sargs below meth c B.U B.locs B.cells B.slots ∧ PostX A a q B ∧
      Steps p.tables e below (doInvoke e (A.U.setTop g) [] mk a).1 ((B.U.setTop g).pushFrame (.throwing q)))
section Payer
variable {l : Launch} {R : Room} {p : Program} {e : Env} {below : List Frame} {s : State} {sargs : Array Value} {y : MethodName} {len W9 : Nat}
theorem vx_back {ws : List Cond} {rm : Room} {Pc : Array Value → State → Prop} {Qc : Array Value → State → Outcome → State → Prop} {XC : String → State → State → Prop} {mc ms : Nat} {free : Addr → Prop} {bytes : ByteArray} {maxL : Nat} {ret : Option FieldType}
    (hM : vx_Met l y ws rm Pc Qc XC mc ms free) (hblind : FrameBlind Pc) (hrc : rm.cells = mc) (hrs : rm.slots = ms)
    (hframes : rm.frames + 1 ≤ R.frames) (hlocals : W9 + (maxL + 11) + rm.locals ≤ R.locals)
    (hws : ∀ w ∈ ws, ∀ a' U, s.WarmedH U.vm → w.before a' U = true) (hcode : Cond.code y bytes maxL ret ∈ ws) (hinit : ∀ a' U, s.WarmedH U.vm → (Cond.initialized y.cls).before a' U = true) :
    vx_Back l R p e below s sargs y len W9 (PreOf R mc ms Pc) (PostOf Qc mc ms free) (vx_Post XC mc ms free) := by
  intro m meth c A g ig mk a X hg hsize hdg hW hn hp
  have h1 : (headSpec ws rm).pre.before a A.U = true := atoms_intro fun w hw => hws w hw _ _ X.warmed
  have h2 : (Cond.code y bytes maxL ret).before a A.U = true := hws _ hcode _ _ X.warmed
  have h3 : (Cond.initialized y.cls).before a A.U = true := hinit _ _ X.warmed
  have h4 : A.cells + (headSpec ws rm).room.cells ≤ R.cells := by rw [show (headSpec ws rm).room.cells = mc from hrc]; exact hp.1
  have h5 : A.slots + (headSpec ws rm).room.slots ≤ R.slots := by rw [show (headSpec ws rm).room.slots = ms from hrs]; exact hp.2.1
  have hPc : Pc a (A.U.calling g mk a) := hblind _ _ _ _ hp.2.2
  obtain ⟨U, Ls, c0, s0⟩ := A
  dsimp only [Pt.U, Pt.locs, Pt.cells, Pt.slots] at h1 h2 h3 h4 h5 X hn hPc ⊢
  obtain ⟨methY, cY, hmY, hcY, -, hlY, -, -, -, -⟩ := Cond.code_spec hn h2
  obtain ⟨kY, hkY, -⟩ := className_of_methodNamed hn
  have hinitY : kY.init = .initialized := Cond.initialized_spec (findClass_of_methodNamed hn) hkY h3
  have h : At U g.method c below := by rw [hg]; exact X.here
  have hlocals9 : W9 + (maxL + 11) + (headSpec ws rm).room.locals ≤ R.locals := hlocals
  have happ : (headSpec ws rm).appliesLoose y e.platform (U.calling g mk a) = true :=
    Spec.appliesLoose_calling (g := g) h hdg hn hkY hinitY
      (X.room_calling (g := g) (R' := (headSpec ws rm).room) hsize hmY hcY hframes (by rw [hlY]; omega) h4 h5) h1
  obtain ⟨mid, hmid⟩ := h.above
  have hfr : (U.setTop g).frames = (.java g :: mid) ++ below := by rw [State.frames_setTop' g h.top, hmid]; rfl
  obtain ⟨o, s₂, hsteps, -, hend, hq⟩ := Steps.callFree hM p X.admits X.cas X.clock (acts := []) hfr happ hPc trivial
  have hq' : vx_Q Qc XC mc ms free a (U.calling g mk a) o s₂ := hq
  rw [State.frames_setTop' g h.top] at hend
  obtain ⟨g₀, hg0⟩ := Option.isSome_iff_exists.mp h.top
  obtain ⟨r, hr⟩ := State.topJava?_eq_some.mp hg0
  have hr' : (({ U with heap := s₂.heap, slotsUsed := s₂.slotsUsed } : State).setVm s₂.vm).frames = .java g₀ :: r := hr
  rcases hq' with ⟨hqc, L, hfe, hL⟩ | ⟨q, rfl, E, ce, L, hx, hce, hcv, hcl, hW₂, hsm, hL⟩
  · obtain ⟨⟨v, rfl⟩, hW₂, e2, q2, q3, q4, q5, q6⟩ := id hfe
    have e3 : s₂ = ({ (U.calling g mk a).setFrames s₂.frames with heap := s₂.heap, slotsUsed := s₂.slotsUsed } : State).setVm s₂.vm := by
      have : s₂ = ({ s₂ with vm := (U.calling g mk a).vm } : State).setVm s₂.vm := rfl
      rw [e2] at this
      exact this
    obtain ⟨c₂, i₂, len₂, hc₂, hd₂, hf₂⟩ := hend
    have hW' : U.WarmedH s₂.vm := hW₂
    have hcc : c₂ = c := by
      have h1 : s₂.code? g.method = U.code? g.method := by
        rw [State.code?_eq, State.code?_eq, hW'.alike.method?]
      exact Option.some.inj (hc₂.symm.trans (h1.trans h.code))
    subst hcc
    have hlen : len₂ = len := by rw [hdg] at hd₂; cases hd₂; rfl
    subst hlen
    have hs₂ : s₂ = (({ U with heap := s₂.heap, slotsUsed := s₂.slotsUsed } : State).setVm s₂.vm).setTop { g with pc := g.pc + len₂, stack := v.toList ++ g.stack } := by
      refine e3.trans ?_
      rw [hf₂, State.calling_eq h.top, State.setFrames_setFrames, State.setTop_of_frames _ hr', hr]
      rfl
    have hsame : U.sameButNew ({ U with heap := s₂.heap, slotsUsed := s₂.slotsUsed } : State) L mc ms := by
      refine ⟨?_, q2, q3, q4, q5, q6⟩
      obtain ⟨t, ht, -⟩ := State.frames_cons hr
      show ({ U with heap := s₂.heap, slotsUsed := s₂.slotsUsed } : State) = { U.setFrames U.frames with heap := s₂.heap, slotsUsed := s₂.slotsUsed }
      rw [State.setFrames_self ht]
    subst hg
    refine Or.inl ⟨v, ⟨(({ U with heap := s₂.heap, slotsUsed := s₂.slotsUsed } : State).setVm s₂.vm), Ls ++ L, c0 + mc, s0 + ms⟩,
      ⟨X.admits, X.cas, X.clock, X.frames, X.room, X.hears, X.method, X.code, (X.here.setHeapUsed s₂.heap s₂.slotsUsed).setVm hW'.alike, X.tail, State.WarmedH.trans X.warmed hW', X.limits, X.bytes, X.same.trans (hsame.setVm s.vm)⟩,
      ⟨g, mk, s₂, L, rfl, rfl, hqc, rfl, hL, rfl, rfl⟩, ?_⟩
    show Steps p.tables e below _ ((({ U with heap := s₂.heap, slotsUsed := s₂.slotsUsed } : State).setVm s₂.vm).setTop { g with pc := g.pc + len₂, stack := v.toList ++ g.stack })
    rw [← hs₂]
    exact hsteps
  · obtain ⟨e2, q2, q3, q4, q5, q6⟩ := id hsm
    have e3 : s₂ = ({ (U.calling g mk a).setFrames s₂.frames with heap := s₂.heap, slotsUsed := s₂.slotsUsed } : State).setVm s₂.vm := by
      have : s₂ = ({ s₂ with vm := (U.calling g mk a).vm } : State).setVm s₂.vm := rfl
      rw [e2] at this
      exact this
    have hf₂ : s₂.frames = .throwing q :: .java g :: U.frames.tail := hend
    have hW' : U.WarmedH s₂.vm := hW₂
    have hs₂ : s₂ = ((({ U with heap := s₂.heap, slotsUsed := s₂.slotsUsed } : State).setVm s₂.vm).setTop g).pushFrame (.throwing q) := by
      refine e3.trans ?_
      rw [hf₂, State.calling_eq h.top, State.setFrames_setFrames, State.pushFrame, State.frames_setTop _ hr', State.setTop_of_frames _ hr', State.setFrames_setFrames, hr]
      rfl
    have hsame : U.sameButNew ({ U with heap := s₂.heap, slotsUsed := s₂.slotsUsed } : State) L mc ms := by
      refine ⟨?_, q2, q3, q4, q5, q6⟩
      obtain ⟨t, ht, -⟩ := State.frames_cons hr
      show ({ U with heap := s₂.heap, slotsUsed := s₂.slotsUsed } : State) = { U.setFrames U.frames with heap := s₂.heap, slotsUsed := s₂.slotsUsed }
      rw [State.setFrames_self ht]
    subst hg
    refine Or.inr ⟨q, ⟨(({ U with heap := s₂.heap, slotsUsed := s₂.slotsUsed } : State).setVm s₂.vm), Ls ++ L, c0 + mc, s0 + ms⟩,
      ⟨X.admits, X.cas, X.clock, X.frames, X.room, X.hears, X.method, X.code, (X.here.setHeapUsed s₂.heap s₂.slotsUsed).setVm hW'.alike, X.tail, State.WarmedH.trans X.warmed hW', X.limits, X.bytes, X.same.trans (hsame.setVm s.vm)⟩,
      ⟨g, mk, s₂, L, E, ce, rfl, rfl, hx, hce, hcv, hcl, rfl, hL, rfl, rfl⟩, ?_⟩
    show Steps p.tables e below _ (((({ U with heap := s₂.heap, slotsUsed := s₂.slotsUsed } : State).setVm s₂.vm).setTop g).pushFrame (.throwing q))
    rw [← hs₂]
    exact hsteps
end Payer
section Calls
variable {p : Program} {l : Launch} {e : Env} {R : Room} {s : State} {m : MethodId} {args : Array Value} {below : List Frame} {meth : Method} {c : Code} {T : State} {locs : List Loc} {cells slots : Nat}
theorem vx_callV (X : Stand p l e R s m args below meth c T locs cells slots) (hexec : p.tables.exec = Jvm.exec) {own C : String} {index : Nat} {y : MethodName} {bytes : ByteArray} {maxL : Nat} {ret : Option FieldType}
    (hown : s.vm.findClass own = some m.cls) (hlink : (Cond.methodLink own index y).before args s = true) (hinst : (Cond.instanceMethod y).before args s = true) (hsel : (Cond.selects C y y).before args s = true)
    (hcode : (Cond.code y bytes maxL ret).before args s = true) (hy : y.cls ≠ "java/lang/invoke/MethodHandle" ∧ y.cls ≠ "java/lang/invoke/VarHandle")
    {W9 : Nat} {Pre : Pt → Array Value → Prop} {Post : Pt → Array Value → Option Value → Pt → Prop} {PostX : Pt → Array Value → Addr → Pt → Prop} (hK : vx_Back l R p e below s args y 3 W9 Pre Post PostX)
    {b : Addr} {cellB : Cell} (hcell : T.heap[b]? = some cellB) (hobj : cellB.vm.isStatics = false) (hcls : s.vm.findClass C = some cellB.cls)
    {g : JFrame} (hg : g.method = m) (hsize : g.locals.size = c.maxLocals) {argsL rest : List Value} (hlen : ∀ sig, parseMethodDescriptor y.desc = some sig → argsL.length = sig.parameters.length)
    (hstack : g.stack = argsL.reverse ++ .ref b :: rest) (hW : 2 * g.monitorRoom + (rest.map fun v => v.category).sum ≤ W9) (hdg : decode c.code g.pc = .ok (.invokevirtual index, 3))
    (hpre : ∀ vm₁, s.WarmedH vm₁ → Pre ⟨T.setVm vm₁, locs, cells, slots⟩ (Value.ref b :: argsL).toArray) :
    (∃ (v : Option Value) (vm₁ : Vm) (B : Pt), s.WarmedH vm₁ ∧ Stand p l e R s m args below meth c B.U B.locs B.cells B.slots ∧ Post ⟨T.setVm vm₁, locs, cells, slots⟩ (Value.ref b :: argsL).toArray v B ∧
      ∀ target, Steps p.tables e below (B.U.setTop { g with pc := g.pc + 3, stack := v.toList ++ rest }) target → Steps p.tables e below (T.setTop g) target) ∨
    (∃ (q : Addr) (vm₁ : Vm) (B : Pt), s.WarmedH vm₁ ∧ Stand p l e R s m args below meth c B.U B.locs B.cells B.slots ∧ PostX ⟨T.setVm vm₁, locs, cells, slots⟩ (Value.ref b :: argsL).toArray q B ∧
      Steps p.tables e below (T.setTop g) ((B.U.setTop { g with stack := rest }).pushFrame (.throwing q))) := by
  obtain ⟨mk, methM, hnamed, hmethM, hstM, habM⟩ := Cond.instanceMethod_spec hinst
  obtain ⟨methM', cM, hmethM', -, -, -, -, -, -, hsigM⟩ := Cond.code_spec hnamed hcode
  cases hmethM.symm.trans hmethM'
  obtain ⟨c2, r2, m2, q1, q2, q3, q4, kP, hkP, hkPi⟩ := Cond.selects_spec hsel
  cases hcls.symm.trans q1
  cases (State.methodFound?_of_named hnamed hy).symm.trans q2
  cases hnamed.symm.trans q3
  have hselP : selectMethod e.platform s.vm cellB.cls mk = .method mk := by rw [Launch.admits_selectMethod X.admits]; exact q4
  obtain ⟨vm₁, X₁, hstep₁⟩ := X.invokevirtual hexec hown hlink hnamed hmethM hstM hkP hkPi hy (a := b) (cell := cellB) hcell
    (fun z h => by rw [h] at hobj; cases hobj) hselP hmethM habM hkP hkPi (g := g) hg (argsL := argsL) (rest := rest) (hlen _ hsigM) hstack hdg
  rcases hK m meth c ⟨T.setVm vm₁, locs, cells, slots⟩ { g with stack := rest } (.invokevirtual index) mk (Value.ref b :: argsL).toArray X₁ hg hsize hdg hW (X₁.named hnamed) (hpre vm₁ X₁.warmed) with ⟨v, B, X', hpost, hsteps⟩ | ⟨q, B, X', hpost, hsteps⟩
  · exact Or.inl ⟨v, vm₁, B, X₁.warmed, X', hpost, fun target h => hstep₁ _ fun acts => by rw [doInvoke_state]; exact hsteps.trans h⟩
  · exact Or.inr ⟨q, vm₁, B, X₁.warmed, X', hpost, hstep₁ _ fun acts => by rw [doInvoke_state]; exact hsteps⟩
theorem vx_callS (X : Stand p l e R s m args below meth c T locs cells slots) (hexec : p.tables.exec = Jvm.exec) {own : String} {index : Nat} {y : MethodName} {bytes : ByteArray} {maxL : Nat} {ret : Option FieldType}
    (hown : s.vm.findClass own = some m.cls) (hlink : (Cond.methodLink own index y).before args s = true) (hstat : (Cond.static y).before args s = true) (hinit : (Cond.initialized y.cls).before args s = true)
    (hcode : (Cond.code y bytes maxL ret).before args s = true) (hy : y.cls ≠ "java/lang/invoke/MethodHandle" ∧ y.cls ≠ "java/lang/invoke/VarHandle")
    {W9 : Nat} {Pre : Pt → Array Value → Prop} {Post : Pt → Array Value → Option Value → Pt → Prop} {PostX : Pt → Array Value → Addr → Pt → Prop} (hK : vx_Back l R p e below s args y 3 W9 Pre Post PostX)
    {g : JFrame} (hg : g.method = m) (hsize : g.locals.size = c.maxLocals) {argsL rest : List Value} (hlen : ∀ sig, parseMethodDescriptor y.desc = some sig → argsL.length = sig.parameters.length)
    (hstack : g.stack = argsL.reverse ++ rest) (hW : 2 * g.monitorRoom + (rest.map fun v => v.category).sum ≤ W9) (hdg : decode c.code g.pc = .ok (.invokestatic index, 3))
    (hpre : ∀ vm₁, s.WarmedH vm₁ → Pre ⟨T.setVm vm₁, locs, cells, slots⟩ argsL.toArray) :
    (∃ (v : Option Value) (vm₁ : Vm) (B : Pt), s.WarmedH vm₁ ∧ Stand p l e R s m args below meth c B.U B.locs B.cells B.slots ∧ Post ⟨T.setVm vm₁, locs, cells, slots⟩ argsL.toArray v B ∧
      ∀ target, Steps p.tables e below (B.U.setTop { g with pc := g.pc + 3, stack := v.toList ++ rest }) target → Steps p.tables e below (T.setTop g) target) ∨
    (∃ (q : Addr) (vm₁ : Vm) (B : Pt), s.WarmedH vm₁ ∧ Stand p l e R s m args below meth c B.U B.locs B.cells B.slots ∧ PostX ⟨T.setVm vm₁, locs, cells, slots⟩ argsL.toArray q B ∧
      Steps p.tables e below (T.setTop g) ((B.U.setTop { g with stack := rest }).pushFrame (.throwing q))) := by
  obtain ⟨mk, hnamed⟩ := Cond.code_named hcode
  obtain ⟨methM, cM, hmethM, -, -, -, -, -, -, hsigM⟩ := Cond.code_spec hnamed hcode
  have hstatic : methM.isStatic = true := Cond.static_spec hnamed hmethM hstat
  obtain ⟨kP, hkP, -⟩ := className_of_methodNamed hnamed
  have hinitP : kP.init = .initialized := Cond.initialized_spec (findClass_of_methodNamed hnamed) hkP hinit
  obtain ⟨vm₁, X₁, hstep₁⟩ := X.invokestatic hexec hown hlink hnamed hmethM hstatic hkP hinitP hy (g := g) hg (argsL := argsL) (rest := rest) (hlen _ hsigM) hstack hdg
  rcases hK m meth c ⟨T.setVm vm₁, locs, cells, slots⟩ { g with stack := rest } (.invokestatic index) mk argsL.toArray X₁ hg hsize hdg hW (X₁.named hnamed) (hpre vm₁ X₁.warmed) with ⟨v, B, X', hpost, hsteps⟩ | ⟨q, B, X', hpost, hsteps⟩
  · exact Or.inl ⟨v, vm₁, B, X₁.warmed, X', hpost, fun target h => hstep₁ _ fun acts => by rw [doInvoke_state]; exact hsteps.trans h⟩
  · exact Or.inr ⟨q, vm₁, B, X₁.warmed, X', hpost, hstep₁ _ fun acts => by rw [doInvoke_state]; exact hsteps⟩
end Calls
theorem vx_cls {s : State} {T : State} {vm₁ : Vm} {E : String} {k : ClassId} (hW : s.WarmedH vm₁) (h : (T.setVm vm₁).vm.findClass E = some k) : s.vm.findClass E = some k := by
  have h1 : vm₁.findClass E = some k := h
  rw [hW.alike.findClass] at h1
  exact h1
/-- the method's frame g, with q thrown over it -/
def vx_W (p : Program) (l : Launch) (e : Env) (R : Room) (s : State) (m : MethodId) (args : Array Value) (below : List Frame) (meth : Method) (c : Code) (H : Heap) (locs : List Loc) (cells slots : Nat) (Q : State → Prop) (g : JFrame) (q : Addr) : Prop :=
  ∀ T : State, T.heap = H → Stand p l e R s m args below meth c T locs cells slots → ∃ t, Steps p.tables e below ((T.setTop g).pushFrame (.throwing q)) t ∧ Q t
def vx_Run (p : Program) (l : Launch) (e : Env) (R : Room) (s : State) (m : MethodId) (args : Array Value) (below : List Frame) (meth : Method) (c : Code) (H : Heap) (locs : List Loc) (cells slots mc ms : Nat) (g : JFrame) (rest : List Value) (Qa : State → Outcome → State → Prop) (XC : String → State → State → Prop) (free : Addr → Prop) : Prop :=
  ∀ T : State, T.heap = H → Stand p l e R s m args below meth c T locs cells slots →
    (∃ (v : Option Value) (st₀ t T' : State) (L : List Loc), st₀.heap = H ∧ Stand p l e R s m args below meth c T' (locs ++ L) (cells + mc) (slots + ms) ∧ (∀ q ∈ L, free q.base) ∧ T'.heap = t.heap ∧ T'.vm = t.vm ∧ Qa st₀ (.returned v) t ∧
      Goes p e below T g T' { g with pc := g.pc + 3, stack := v.toList ++ rest }) ∨
    (∃ (q : Addr) (st₀ t T' : State) (L : List Loc) (E : String) (ce : Cell), st₀.heap = H ∧ Stand p l e R s m args below meth c T' (locs ++ L) (cells + mc) (slots + ms) ∧ (∀ z ∈ L, free z.base) ∧ T'.heap = t.heap ∧ T'.vm = t.vm ∧ XC E st₀ t ∧ t.heap[q]? = some ce ∧ ce.vm = .none ∧ s.vm.findClass E = some ce.cls ∧
      Steps p.tables e below (T.setTop g) ((T'.setTop { g with stack := rest }).pushFrame (.throwing q)))
def vx_X {S : Type} (px : S → Prop) (B : String → S → State → Prop) (A : Nat → Prop) : String → State → State → Prop := fun E st t => ∃ u : S, px u ∧ B E u t ∧ va_F A st t
section Runs
variable {p : Program} {l : Launch} {e : Env} {R : Room} {s : State} {m : MethodId} {args : Array Value} {below : List Frame} {meth : Method} {c : Code} {H : Heap} {locs : List Loc} {cells slots : Nat}
variable {y : MethodName} {bytes cc : ByteArray} {maxL nL mc ms n index : Nat} {ret : Option FieldType} {ws : List Cond} {rm : Room} {Pc : Array Value → State → Prop} {Qc : Array Value → State → Outcome → State → Prop} {XC : String → State → State → Prop} {free : Addr → Prop} {Ts : List Cond} {own C : String} {b : Addr} {As rest : List Value} {g : JFrame}
theorem vx_callBack (cb : CallB R s args own index y bytes maxL ret ws rm mc ms n) (hM : vx_Met l y ws rm Pc Qc XC mc ms free) (hbl : FrameBlind Pc) : vx_Back l R p e below s args y 3 8 (PreOf R mc ms Pc) (PostOf Qc mc ms free) (vx_Post XC mc ms free) := by
  obtain ⟨hrc, hrs, hfr, hlo, hws, hcw, -, hini, -⟩ := cb
  exact vx_back (bytes := bytes) (maxL := maxL) (ret := ret) hM hbl hrc hrs hfr hlo hws hcw (fun a' U hW => word_at hW (Or.inl (by first | rfl | simp [Cond.onTables, Cond.keeps, Cond.steady])) hini)
theorem vx_runV (S : CallFix p m c cc nL s args Ts own) (hM : vx_Met l y ws rm Pc Qc XC mc ms free) (cw : CallW R s args own C index y bytes maxL ret ws rm mc ms n) (hp : PreV s H C b Pc As)
    (hg : g.method = m) (hn : As.length = n) (hsize : g.locals.size = nL) (hstack : g.stack = As.reverse ++ .ref b :: rest) (hW : 2 * g.monitorRoom + (rest.map fun v => v.category).sum ≤ 8) (hdg : decode cc g.pc = .ok (.invokevirtual index, 3)) (hf : cells + mc ≤ R.cells ∧ slots + ms ≤ R.slots) :
    vx_Run p l e R s m args below meth c H locs cells slots mc ms g rest (Qc (Value.ref b :: As).toArray) XC free := by
  have hK : vx_Back l R p e below s args y 3 8 (PreOf R mc ms Pc) (PostOf Qc mc ms free) (vx_Post XC mc ms free) := vx_callBack cw.1 hM hp.1
  obtain ⟨⟨-, -, -, -, -, -, hcode, -, hy, hlen, hl⟩, hin, hse⟩ := cw
  obtain ⟨hx, hb, hml, ho, -⟩ := S
  obtain ⟨-, ⟨cellB, hcB, hoB, hclB⟩, hPc⟩ := hp
  intro T hT X
  rcases vx_callV X hx (C := C) (bytes := bytes) (maxL := maxL) (ret := ret) ho hl hin hse hcode hy hK (by rw [hT]; exact hcB) hoB hclB hg (hsize.trans hml.symm) (argsL := As) (rest := rest) (fun sig h => hn.trans (hlen sig h)) hstack hW (by rw [hb]; exact hdg)
    (fun vm₁ hW₁ => ⟨hf.1, hf.2, hPc (T.setVm vm₁) hT hW₁⟩) with ⟨v, vm₁, ⟨U', l2, c2, s2⟩, hW₁, X', ⟨g', mk, t, L, e1, e2, hq, h1, hL, h2, h3⟩, st⟩ | ⟨q, vm₁, ⟨U', l2, c2, s2⟩, hW₁, X', ⟨g', mk, t, L, E, ce, e1, e2, hq, hce, hcv, hcl, h1, hL, h2, h3⟩, st⟩
  · dsimp only [Pt.U, Pt.locs, Pt.cells, Pt.slots] at X' e1 e2 h1 h2 h3 st
    subst h1; subst h2; subst h3
    exact Or.inl ⟨v, (T.setVm vm₁).calling g' mk (Value.ref b :: As).toArray, t, U', L, hT, X', hL, e1, e2, hq, st⟩
  · dsimp only [Pt.U, Pt.locs, Pt.cells, Pt.slots] at X' e1 e2 h1 h2 h3 st hcl
    subst h1; subst h2; subst h3
    exact Or.inr ⟨q, (T.setVm vm₁).calling g' mk (Value.ref b :: As).toArray, t, U', L, E, ce, hT, X', hL, e1, e2, hq, hce, hcv, vx_cls hW₁ hcl, st⟩
theorem vx_runS (S : CallFix p m c cc nL s args Ts own) (hM : vx_Met l y ws rm Pc Qc XC mc ms free) (cw : CallB R s args own index y bytes maxL ret ws rm mc ms n ∧ (Cond.static y).before args s = true) (hp : PreS s H Pc As)
    (hg : g.method = m) (hn : As.length = n) (hsize : g.locals.size = nL) (hstack : g.stack = As.reverse ++ rest) (hW : 2 * g.monitorRoom + (rest.map fun v => v.category).sum ≤ 8) (hdg : decode cc g.pc = .ok (.invokestatic index, 3)) (hf : cells + mc ≤ R.cells ∧ slots + ms ≤ R.slots) :
    vx_Run p l e R s m args below meth c H locs cells slots mc ms g rest (Qc As.toArray) XC free := by
  have hK : vx_Back l R p e below s args y 3 8 (PreOf R mc ms Pc) (PostOf Qc mc ms free) (vx_Post XC mc ms free) := vx_callBack cw.1 hM hp.1
  obtain ⟨⟨-, -, -, -, -, -, hcode, hini, hy, hlen, hl⟩, hstt⟩ := cw
  obtain ⟨hx, hb, hml, ho, -⟩ := S
  intro T hT X
  rcases vx_callS X hx (bytes := bytes) (maxL := maxL) (ret := ret) ho hl hstt hini hcode hy hK hg (hsize.trans hml.symm) (argsL := As) (rest := rest) (fun sig h => hn.trans (hlen sig h)) hstack hW (by rw [hb]; exact hdg)
    (fun vm₁ hW₁ => ⟨hf.1, hf.2, hp.2 (T.setVm vm₁) hT hW₁⟩) with ⟨v, vm₁, ⟨U', l2, c2, s2⟩, hW₁, X', ⟨g', mk, t, L, e1, e2, hq, h1, hL, h2, h3⟩, st⟩ | ⟨q, vm₁, ⟨U', l2, c2, s2⟩, hW₁, X', ⟨g', mk, t, L, E, ce, e1, e2, hq, hce, hcv, hcl, h1, hL, h2, h3⟩, st⟩
  · dsimp only [Pt.U, Pt.locs, Pt.cells, Pt.slots] at X' e1 e2 h1 h2 h3 st
    subst h1; subst h2; subst h3
    exact Or.inl ⟨v, (T.setVm vm₁).calling g' mk As.toArray, t, U', L, hT, X', hL, e1, e2, hq, st⟩
  · dsimp only [Pt.U, Pt.locs, Pt.cells, Pt.slots] at X' e1 e2 h1 h2 h3 st hcl
    subst h1; subst h2; subst h3
    exact Or.inr ⟨q, (T.setVm vm₁).calling g' mk As.toArray, t, U', L, E, ce, hT, X', hL, e1, e2, hq, hce, hcv, vx_cls hW₁ hcl, st⟩
end Runs
section Rows
variable {p : Program} {l : Launch} {e : Env} {R : Room} {s : State} {m : MethodId} {args : Array Value} {below : List Frame} {meth : Method} {c : Code} {H : Heap} {locs : List Loc} {cells slots : Nat} {Q : State → Prop}
variable {mc ms : Nat} {free : Addr → Prop} {A0 A1 : Nat → Prop} {H0 : Heap} {a : Array Value} {pc : Nat} {ls : Array Slot} {st0 rest : List Value}
theorem vx_keep {st₀ t T' : State} {L : List Loc} (h0 : st₀.heap = H) (e1 : T'.heap = t.heap) (hS : va_S A0 H0 H locs) (hA : ∀ q, q < H.size → A1 q → A0 q) (hf : ∀ q, free q → A0 q) (hL : ∀ q ∈ L, free q.base) (hF : va_F A1 st₀ t) :
    H.size ≤ T'.heap.size ∧ (∀ q : Nat, q < H.size → ¬ A1 q → T'.heap[q]? = H[q]?) ∧ va_S A0 H0 T'.heap (locs ++ L) := by
  obtain ⟨hz, hk⟩ := hF
  rw [h0] at hz hk
  exact ⟨by rw [e1]; exact hz, fun q h1 h2 => by rw [e1]; exact hk q h1 h2,
    ⟨Nat.le_trans hS.1 (by rw [e1]; exact hz), fun q h1 h2 => by rw [e1, hk q (Nat.lt_of_lt_of_le h1 hS.1) (fun z => h2 (hA q (Nat.lt_of_lt_of_le h1 hS.1) z))]; exact hS.2.1 q h1 h2, fun q hq => by
      rcases List.mem_append.mp hq with h | h
      · exact hS.2.2 q h
      · exact hf _ (hL q h)⟩⟩
theorem vx_calli {S SX : Type} {post : Int32 → S → Prop} {px : SX → Prop} {B : S → State → Prop} {BX : String → SX → State → Prop} {AX : Nat → Prop} (hr : vx_Run p l e R s m args below meth c H locs cells slots mc ms (F0 m pc ls st0) rest (va_Qi post B A1 a) (vx_X px BX AX) free) (hS : va_S A0 H0 H locs) (hA : ∀ q, q < H.size → A1 q → A0 q) (hf : ∀ q, free q → A0 q) (hAX : ∀ q, q < H.size → AX q → A0 q)
    (kx : ∀ (E : String) (ce : Cell) (q9 : Addr) (u : SX) (t : State) (H1 : Heap) (locs1 : List Loc), t.heap = H1 → s.vm.Alike t.vm → px u → BX E u t → H.size ≤ H1.size → (∀ q : Nat, q < H.size → ¬ AX q → H1[q]? = H[q]?) → va_S A0 H0 H1 locs1 → H1[q9]? = some ce → ce.vm = .none → s.vm.findClass E = some ce.cls → vx_W p l e R s m args below meth c H1 locs1 (cells + mc) (slots + ms) Q (F0 m pc ls rest) q9)
    (kk : ∀ (r : Int32) (u : S) (t : State) (H1 : Heap) (locs1 : List Loc), t.heap = H1 → s.vm.Alike t.vm → post r u → B u t → H.size ≤ H1.size → (∀ q : Nat, q < H.size → ¬ A1 q → H1[q]? = H[q]?) → va_S A0 H0 H1 locs1 → W p l e R s m args below meth c H1 locs1 (cells + mc) (slots + ms) Q (F0 m (pc + 3) ls (.int r :: rest))) : W p l e R s m args below meth c H locs cells slots Q (F0 m pc ls st0) := by
  intro T hT X
  rcases hr T hT X with ⟨v, st₀, t, T', L, h0, X', hL, e1, e2, ⟨⟨r, u, hv, hp, hb⟩, hF⟩, st⟩ | ⟨q, st₀, t, T', L, E, ce, h0, X', hL, e1, e2, ⟨u, hp, hb, hF⟩, hce, hcv, hcl, st⟩
  · cases hv
    obtain ⟨k1, k2, k3⟩ := vx_keep h0 e1 hS hA hf hL hF
    obtain ⟨t2, a1, b1⟩ := kk r u t T'.heap (locs ++ L) e1.symm (by rw [← e2]; exact X'.warmed.alike) hp hb k1 k2 k3 T' rfl X'
    exact ⟨t2, st t2 a1, b1⟩
  · obtain ⟨k1, k2, k3⟩ := vx_keep h0 e1 hS hAX hf hL hF
    obtain ⟨t2, a1, b1⟩ := kx E ce q u t T'.heap (locs ++ L) e1.symm (by rw [← e2]; exact X'.warmed.alike) hp hb k1 k2 k3 (by rw [e1]; exact hce) hcv hcl T' rfl X'
    exact ⟨t2, st.trans a1, b1⟩
theorem vx_calll {S SX : Type} {post : Int64 → S → Prop} {px : SX → Prop} {B : S → State → Prop} {BX : String → SX → State → Prop} {AX : Nat → Prop} (hr : vx_Run p l e R s m args below meth c H locs cells slots mc ms (F0 m pc ls st0) rest (va_Ql post B A1 a) (vx_X px BX AX) free) (hS : va_S A0 H0 H locs) (hA : ∀ q, q < H.size → A1 q → A0 q) (hf : ∀ q, free q → A0 q) (hAX : ∀ q, q < H.size → AX q → A0 q)
    (kx : ∀ (E : String) (ce : Cell) (q9 : Addr) (u : SX) (t : State) (H1 : Heap) (locs1 : List Loc), t.heap = H1 → s.vm.Alike t.vm → px u → BX E u t → H.size ≤ H1.size → (∀ q : Nat, q < H.size → ¬ AX q → H1[q]? = H[q]?) → va_S A0 H0 H1 locs1 → H1[q9]? = some ce → ce.vm = .none → s.vm.findClass E = some ce.cls → vx_W p l e R s m args below meth c H1 locs1 (cells + mc) (slots + ms) Q (F0 m pc ls rest) q9)
    (kk : ∀ (r : Int64) (u : S) (t : State) (H1 : Heap) (locs1 : List Loc), t.heap = H1 → s.vm.Alike t.vm → post r u → B u t → H.size ≤ H1.size → (∀ q : Nat, q < H.size → ¬ A1 q → H1[q]? = H[q]?) → va_S A0 H0 H1 locs1 → W p l e R s m args below meth c H1 locs1 (cells + mc) (slots + ms) Q (F0 m (pc + 3) ls (.long r :: rest))) : W p l e R s m args below meth c H locs cells slots Q (F0 m pc ls st0) := by
  intro T hT X
  rcases hr T hT X with ⟨v, st₀, t, T', L, h0, X', hL, e1, e2, ⟨⟨r, u, hv, hp, hb⟩, hF⟩, st⟩ | ⟨q, st₀, t, T', L, E, ce, h0, X', hL, e1, e2, ⟨u, hp, hb, hF⟩, hce, hcv, hcl, st⟩
  · cases hv
    obtain ⟨k1, k2, k3⟩ := vx_keep h0 e1 hS hA hf hL hF
    obtain ⟨t2, a1, b1⟩ := kk r u t T'.heap (locs ++ L) e1.symm (by rw [← e2]; exact X'.warmed.alike) hp hb k1 k2 k3 T' rfl X'
    exact ⟨t2, st t2 a1, b1⟩
  · obtain ⟨k1, k2, k3⟩ := vx_keep h0 e1 hS hAX hf hL hF
    obtain ⟨t2, a1, b1⟩ := kx E ce q u t T'.heap (locs ++ L) e1.symm (by rw [← e2]; exact X'.warmed.alike) hp hb k1 k2 k3 (by rw [e1]; exact hce) hcv hcl T' rfl X'
    exact ⟨t2, st.trans a1, b1⟩
theorem vx_callf {S SX : Type} {post : UInt32 → S → Prop} {px : SX → Prop} {B : S → State → Prop} {BX : String → SX → State → Prop} {AX : Nat → Prop} (hr : vx_Run p l e R s m args below meth c H locs cells slots mc ms (F0 m pc ls st0) rest (va_Qf post B A1 a) (vx_X px BX AX) free) (hS : va_S A0 H0 H locs) (hA : ∀ q, q < H.size → A1 q → A0 q) (hf : ∀ q, free q → A0 q) (hAX : ∀ q, q < H.size → AX q → A0 q)
    (kx : ∀ (E : String) (ce : Cell) (q9 : Addr) (u : SX) (t : State) (H1 : Heap) (locs1 : List Loc), t.heap = H1 → s.vm.Alike t.vm → px u → BX E u t → H.size ≤ H1.size → (∀ q : Nat, q < H.size → ¬ AX q → H1[q]? = H[q]?) → va_S A0 H0 H1 locs1 → H1[q9]? = some ce → ce.vm = .none → s.vm.findClass E = some ce.cls → vx_W p l e R s m args below meth c H1 locs1 (cells + mc) (slots + ms) Q (F0 m pc ls rest) q9)
    (kk : ∀ (r : UInt32) (u : S) (t : State) (H1 : Heap) (locs1 : List Loc), t.heap = H1 → s.vm.Alike t.vm → post r u → B u t → H.size ≤ H1.size → (∀ q : Nat, q < H.size → ¬ A1 q → H1[q]? = H[q]?) → va_S A0 H0 H1 locs1 → W p l e R s m args below meth c H1 locs1 (cells + mc) (slots + ms) Q (F0 m (pc + 3) ls (.float r :: rest))) : W p l e R s m args below meth c H locs cells slots Q (F0 m pc ls st0) := by
  intro T hT X
  rcases hr T hT X with ⟨v, st₀, t, T', L, h0, X', hL, e1, e2, ⟨⟨r, u, hv, hp, hb⟩, hF⟩, st⟩ | ⟨q, st₀, t, T', L, E, ce, h0, X', hL, e1, e2, ⟨u, hp, hb, hF⟩, hce, hcv, hcl, st⟩
  · cases hv
    obtain ⟨k1, k2, k3⟩ := vx_keep h0 e1 hS hA hf hL hF
    obtain ⟨t2, a1, b1⟩ := kk r u t T'.heap (locs ++ L) e1.symm (by rw [← e2]; exact X'.warmed.alike) hp hb k1 k2 k3 T' rfl X'
    exact ⟨t2, st t2 a1, b1⟩
  · obtain ⟨k1, k2, k3⟩ := vx_keep h0 e1 hS hAX hf hL hF
    obtain ⟨t2, a1, b1⟩ := kx E ce q u t T'.heap (locs ++ L) e1.symm (by rw [← e2]; exact X'.warmed.alike) hp hb k1 k2 k3 (by rw [e1]; exact hce) hcv hcl T' rfl X'
    exact ⟨t2, st.trans a1, b1⟩
theorem vx_calld {S SX : Type} {post : UInt64 → S → Prop} {px : SX → Prop} {B : S → State → Prop} {BX : String → SX → State → Prop} {AX : Nat → Prop} (hr : vx_Run p l e R s m args below meth c H locs cells slots mc ms (F0 m pc ls st0) rest (va_Qd post B A1 a) (vx_X px BX AX) free) (hS : va_S A0 H0 H locs) (hA : ∀ q, q < H.size → A1 q → A0 q) (hf : ∀ q, free q → A0 q) (hAX : ∀ q, q < H.size → AX q → A0 q)
    (kx : ∀ (E : String) (ce : Cell) (q9 : Addr) (u : SX) (t : State) (H1 : Heap) (locs1 : List Loc), t.heap = H1 → s.vm.Alike t.vm → px u → BX E u t → H.size ≤ H1.size → (∀ q : Nat, q < H.size → ¬ AX q → H1[q]? = H[q]?) → va_S A0 H0 H1 locs1 → H1[q9]? = some ce → ce.vm = .none → s.vm.findClass E = some ce.cls → vx_W p l e R s m args below meth c H1 locs1 (cells + mc) (slots + ms) Q (F0 m pc ls rest) q9)
    (kk : ∀ (r : UInt64) (u : S) (t : State) (H1 : Heap) (locs1 : List Loc), t.heap = H1 → s.vm.Alike t.vm → post r u → B u t → H.size ≤ H1.size → (∀ q : Nat, q < H.size → ¬ A1 q → H1[q]? = H[q]?) → va_S A0 H0 H1 locs1 → W p l e R s m args below meth c H1 locs1 (cells + mc) (slots + ms) Q (F0 m (pc + 3) ls (.double r :: rest))) : W p l e R s m args below meth c H locs cells slots Q (F0 m pc ls st0) := by
  intro T hT X
  rcases hr T hT X with ⟨v, st₀, t, T', L, h0, X', hL, e1, e2, ⟨⟨r, u, hv, hp, hb⟩, hF⟩, st⟩ | ⟨q, st₀, t, T', L, E, ce, h0, X', hL, e1, e2, ⟨u, hp, hb, hF⟩, hce, hcv, hcl, st⟩
  · cases hv
    obtain ⟨k1, k2, k3⟩ := vx_keep h0 e1 hS hA hf hL hF
    obtain ⟨t2, a1, b1⟩ := kk r u t T'.heap (locs ++ L) e1.symm (by rw [← e2]; exact X'.warmed.alike) hp hb k1 k2 k3 T' rfl X'
    exact ⟨t2, st t2 a1, b1⟩
  · obtain ⟨k1, k2, k3⟩ := vx_keep h0 e1 hS hAX hf hL hF
    obtain ⟨t2, a1, b1⟩ := kx E ce q u t T'.heap (locs ++ L) e1.symm (by rw [← e2]; exact X'.warmed.alike) hp hb k1 k2 k3 (by rw [e1]; exact hce) hcv hcl T' rfl X'
    exact ⟨t2, st.trans a1, b1⟩
theorem vx_callv {S SX : Type} {post : S → Prop} {px : SX → Prop} {B : S → State → Prop} {BX : String → SX → State → Prop} {AX : Nat → Prop} (hr : vx_Run p l e R s m args below meth c H locs cells slots mc ms (F0 m pc ls st0) rest (va_Qv post B A1 a) (vx_X px BX AX) free) (hS : va_S A0 H0 H locs) (hA : ∀ q, q < H.size → A1 q → A0 q) (hf : ∀ q, free q → A0 q) (hAX : ∀ q, q < H.size → AX q → A0 q)
    (kx : ∀ (E : String) (ce : Cell) (q9 : Addr) (u : SX) (t : State) (H1 : Heap) (locs1 : List Loc), t.heap = H1 → s.vm.Alike t.vm → px u → BX E u t → H.size ≤ H1.size → (∀ q : Nat, q < H.size → ¬ AX q → H1[q]? = H[q]?) → va_S A0 H0 H1 locs1 → H1[q9]? = some ce → ce.vm = .none → s.vm.findClass E = some ce.cls → vx_W p l e R s m args below meth c H1 locs1 (cells + mc) (slots + ms) Q (F0 m pc ls rest) q9)
    (kk : ∀ (u : S) (t : State) (H1 : Heap) (locs1 : List Loc), t.heap = H1 → s.vm.Alike t.vm → post u → B u t → H.size ≤ H1.size → (∀ q : Nat, q < H.size → ¬ A1 q → H1[q]? = H[q]?) → va_S A0 H0 H1 locs1 → W p l e R s m args below meth c H1 locs1 (cells + mc) (slots + ms) Q (F0 m (pc + 3) ls (rest))) : W p l e R s m args below meth c H locs cells slots Q (F0 m pc ls st0) := by
  intro T hT X
  rcases hr T hT X with ⟨v, st₀, t, T', L, h0, X', hL, e1, e2, ⟨⟨u, hv, hp, hb⟩, hF⟩, st⟩ | ⟨q, st₀, t, T', L, E, ce, h0, X', hL, e1, e2, ⟨u, hp, hb, hF⟩, hce, hcv, hcl, st⟩
  · cases hv
    obtain ⟨k1, k2, k3⟩ := vx_keep h0 e1 hS hA hf hL hF
    obtain ⟨t2, a1, b1⟩ := kk u t T'.heap (locs ++ L) e1.symm (by rw [← e2]; exact X'.warmed.alike) hp hb k1 k2 k3 T' rfl X'
    exact ⟨t2, st t2 a1, b1⟩
  · obtain ⟨k1, k2, k3⟩ := vx_keep h0 e1 hS hAX hf hL hF
    obtain ⟨t2, a1, b1⟩ := kx E ce q u t T'.heap (locs ++ L) e1.symm (by rw [← e2]; exact X'.warmed.alike) hp hb k1 k2 k3 (by rw [e1]; exact hce) hcv hcl T' rfl X'
    exact ⟨t2, st.trans a1, b1⟩
/-- caught by the row x of this method's table; the rows ahead don't take it -/
theorem vx_catch {own name : String} {E : String} {ce : Cell} {q : Addr} (hown : s.vm.findClass own = some m.cls) (pre : List ExceptionTableEntry) (x : ExceptionTableEntry) (suf : List ExceptionTableEntry) (hsplit : c.exceptionTable.toList = pre ++ x :: suf)
    (hpass : ∀ z ∈ pre, covers z pc = false ∨ (z.catchType ≠ 0 ∧ ∃ nm : String, (Cond.classLink own z.catchType nm).before args s = true ∧ va_Nc E nm s)) (hx : covers x pc = true) (h0 : x.catchType ≠ 0)
    (hlink : (Cond.classLink own x.catchType name).before args s = true) (hcast : (Cond.castable E name).before args s = true) (hcell : H[q]? = some ce) (hv : ce.vm = .none) (hcl : s.vm.findClass E = some ce.cls)
    (kk : W p l e R s m args below meth c H locs cells slots Q (F0 m x.handlerPc ls [.ref q])) : vx_W p l e R s m args below meth c H locs cells slots Q (F0 m pc ls rest) q := by
  intro T hT X
  have hpl : e.platform.magicAccessors = ({} : Platform).magicAccessors := by rw [X.admits.platform]
  obtain ⟨c3, c4, hc3, hc4, hasg⟩ := Cond.castable_spec hcast
  cases Option.some.inj (hc3.symm.trans hcl)
  obtain ⟨c5, hc5, hcl5⟩ := Cond.classLink_spec hown hlink e.platform hpl
  cases Option.some.inj (hc4.symm.trans hc5)
  obtain ⟨vm', X', st⟩ := Stand.thenCaughtThrough X q (g := F0 m pc ls rest) rfl (Steps.refl _) (by rw [hT]; exact hcell) (by rw [hv]; rfl) (by obtain ⟨k9, h9, -⟩ := Vm.findClass_spec hcl; exact ⟨k9, h9⟩) pre x suf hsplit
    (fun z hz => by
      rcases hpass z hz with h | ⟨hz0, nm, hl1, hn1⟩
      · exact Or.inl h
      · obtain ⟨c6, hc6, hcl6⟩ := Cond.classLink_spec hown hl1 e.platform hpl
        obtain ⟨a8, b8, h1, h2, h3⟩ := hn1
        cases Option.some.inj (h1.symm.trans hcl)
        cases Option.some.inj (h2.symm.trans hc6)
        exact Or.inr ⟨hz0, _, hcl6, h3⟩) hx (Or.inr ⟨h0, c4, hcl5, hasg⟩)
  obtain ⟨t, a1, b1⟩ := kk (T.setVm vm') hT X'
  exact ⟨t, st.trans a1, b1⟩
end Rows
section Ends
variable {p : Program} {l : Launch} {e : Env} {R : Room} {s : State} {m : MethodId} {args : Array Value} {below : List Frame} {meth : Method} {c : Code} {H : Heap} {locs : List Loc} {cells slots : Nat} {Q : State → Prop}
variable {mc ms : Nat} {free : Addr → Prop} {A0 A1 : Nat → Prop} {H0 : Heap} {a : Array Value} {ls : Array Slot} {st0 rest : List Value}
variable {Qc : Array Value → State → Outcome → State → Prop} {XC : String → State → State → Prop}
/-- what a body that may throw owes at its end -/
def vx_MQ (below : List Frame) (Qc : Array Value → State → Outcome → State → Prop) (XC : String → State → State → Prop) (a : Array Value) (s : State) (mc ms : Nat) (free : Addr → Prop) : State → Prop := fun t =>
  ∃ o, t.status = .running ∧ Ended t below o ∧ vx_Q Qc XC mc ms free a s o t
theorem vx_ret {g : JFrame} {mc ms : Nat} (k : W p l e R s m args below meth c H locs cells slots (MQ below Qc args s mc ms free) g) : W p l e R s m args below meth c H locs cells slots (vx_MQ below Qc XC args s mc ms free) g := by
  intro T hT X
  obtain ⟨t, a1, o, b1, b2, b3, b4⟩ := k T hT X
  exact ⟨t, a1, o, b1, b2, Or.inl ⟨b3, b4⟩⟩
/-- not caught here: it goes on to the caller -/
theorem vx_widen {g : JFrame} {q : Addr} {k n : Nat} (h1 : cells ≤ k) (h2 : slots ≤ n) (kk : vx_W p l e R s m args below meth c H locs k n Q g q) : vx_W p l e R s m args below meth c H locs cells slots Q g q := fun T hT X => kk T hT (stand_widen X h1 h2)
theorem vx_out {pc : Nat} {E : String} {ce : Cell} {q : Addr} {mc ms : Nat} (hout : ∀ x ∈ c.exceptionTable.toList, covers x pc = false) (hlocks : meth.locks = false) (hcell : H[q]? = some ce) (hv : ce.vm = .none) (hcl : s.vm.findClass E = some ce.cls)
    (hx : ∀ t : State, t.heap = H → s.vm.Alike t.vm → XC E s t) (hf : ∀ z ∈ locs, free z.base) (hc : cells ≤ mc) (hs : slots ≤ ms) :
    vx_W p l e R s m args below meth c H locs cells slots (vx_MQ below Qc XC args s mc ms free) (F0 m pc ls rest) q := by
  intro T hT X
  obtain ⟨st1, hrun, hend, hW, hsm⟩ := X.leaveThrown q (g := F0 m pc ls rest) rfl rfl rfl hout hlocks
  have hcell9 : (T.setFrames (.throwing q :: below)).heap[q]? = some ce := by
    show T.heap[q]? = some ce
    rw [hT]; exact hcell
  exact ⟨_, st1, .threw q, hrun, hend, Or.inr ⟨q, rfl, E, ce, locs, hx _ hT hW.alike, hcell9, hv, hcl, hW, hsm.mono hc hs, hf⟩⟩
theorem vx_frame {U : State} {k n : Nat} (h : s.sameButNew ({ U with vm := s.vm } : State) locs k n) : s.heap.size ≤ U.heap.size ∧ ∀ q : Nat, q < s.heap.size → (∀ z ∈ locs, z.base ≠ q) → U.heap[q]? = s.heap[q]? := by
  obtain ⟨-, h2, -, -, -, h6⟩ := h
  refine ⟨h2, fun q hq hz => ?_⟩
  obtain ⟨c9, e1, e2, e3, e4⟩ := h6 q _ (Array.getElem?_eq_getElem hq)
  have hs : c9.slots = (s.heap[q]).slots := Array.ext_getElem? fun i => e4 i fun hm => hz _ hm rfl
  have h9 : c9 = s.heap[q] := by
    rw [hs] at e2
    exact e2
  have e5 : U.heap[q]? = some c9 := e1
  rw [e5, h9, Array.getElem?_eq_getElem hq]
/-- the words of a throw but the four that speak of the heap -/
def vx_no (w : Cond) : Bool := decide (w ≠ .isRef (.static Bundle.tN "UNASSIGNED_STACK" Bundle.steD)) && decide (w ≠ .isRef (.static Bundle.tN "SUPPRESSED_SENTINEL" Bundle.listD)) && decide (w ≠ .laysStatic Bundle.tN "UNASSIGNED_STACK" Bundle.steD) && decide (w ≠ .laysStatic Bundle.tN "SUPPRESSED_SENTINEL" Bundle.listD)
def vx_at0 (own : String) (ic : Nat) (X : String) (names : List String) : List Cond := (Bundle.ownAtoms0 own ic X names).filter vx_no
def vx_atS (own : String) (ic : Nat) (X : String) (names : List String) : List Cond := (Bundle.ownAtoms own ic X names).filter vx_no
/-- a word that the tables alone decide, or a good one -/
def vx_ot (w : Cond) : Bool := w.onTables || goodWord w
theorem vx_ot_at {args a' : Array Value} {s U : State} {w : Cond} (hW : s.WarmedH U.vm) (hvm : s.vm = U.vm) (hg : vx_ot w = true) (h : w.before args s = true) : w.before a' U = true := by
  simp only [vx_ot, Bool.or_eq_true] at hg
  rcases hg with hg | hg
  · exact va_tabs hg hvm h
  · exact word_at hW (good_of_word hg) h
/-- a list's words: the good ones out of the method's own list, the others by premises of their own -/
theorem vx_hat {args : Array Value} {s : State} {L B : List Cond} (h1 : ∀ w ∈ L.filter goodWord, w.before args s = true) (h2 : ∀ w ∈ L.filter (fun w => !goodWord w), w ∈ B) (h3 : ∀ w ∈ B, w.before args s = true) : ∀ w ∈ L, w.before args s = true := by
  intro w hw
  by_cases g : goodWord w = true
  · exact h1 w (List.mem_filter.mpr ⟨hw, g⟩)
  · refine h3 w (h2 w (List.mem_filter.mpr ⟨hw, ?_⟩))
    show (!goodWord w) = true
    cases hgw : goodWord w
    · rfl
    · exact absurd hgw g
theorem vx_c {args : Array Value} {s : State} {w : Cond} {B : List Cond} (h : w.before args s = true) (t : ∀ w ∈ B, w.before args s = true) : ∀ w' ∈ w :: B, w'.before args s = true := fun w' h' => (List.mem_cons.mp h').elim (fun e => by rw [e]; exact h) (t w')
theorem vx_n {args : Array Value} {s : State} : ∀ w ∈ ([] : List Cond), w.before args s = true := fun _ h => nomatch h
theorem vx_own {args : Array Value} {s : State} {L : List Cond} (h1 : ∀ w ∈ L.filter vx_no, w.before args s = true)
    (hU : (Cond.isRef (.static Bundle.tN "UNASSIGNED_STACK" Bundle.steD)).before args s = true) (hN : (Cond.isRef (.static Bundle.tN "SUPPRESSED_SENTINEL" Bundle.listD)).before args s = true)
    (lU : (Cond.laysStatic Bundle.tN "UNASSIGNED_STACK" Bundle.steD).before args s = true) (lN : (Cond.laysStatic Bundle.tN "SUPPRESSED_SENTINEL" Bundle.listD).before args s = true) : ∀ w ∈ L, w.before args s = true := by
  intro w hw
  by_cases e1 : w = .isRef (.static Bundle.tN "UNASSIGNED_STACK" Bundle.steD)
  · rw [e1]; exact hU
  · by_cases e2 : w = .isRef (.static Bundle.tN "SUPPRESSED_SENTINEL" Bundle.listD)
    · rw [e2]; exact hN
    · by_cases e3 : w = .laysStatic Bundle.tN "UNASSIGNED_STACK" Bundle.steD
      · rw [e3]; exact lU
      · by_cases e4 : w = .laysStatic Bundle.tN "SUPPRESSED_SENTINEL" Bundle.listD
        · rw [e4]; exact lN
        · exact h1 w (List.mem_filter.mpr ⟨hw, by unfold vx_no; rw [decide_eq_true e1, decide_eq_true e2, decide_eq_true e3, decide_eq_true e4]; rfl⟩)
/-- where a static field lies, its class's statics cell in H -/
def vx_L (C n d : String) (A : Nat → Prop) (U : State) (H : Heap) : Prop := ∃ (c : ClassId) (k : Class) (i : Nat) (f : Field) (a : Nat) (cell : Cell), U.vm.findClass C = some c ∧ U.fieldFound? C n d = some (c, k, i, f) ∧ f.isStatic = true ∧ k.statics = some a ∧ H[a]? = some cell ∧ cell.vm.isStatics = true ∧ cell.cls = c ∧ f.slot < cell.slots.size ∧ k.staticTypes[f.slot]? = some f.type ∧ ¬ A a
theorem vx_L.moved {C n d : String} {A : Nat → Prop} {u U : State} {H : Heap} (hvm : u.vm.Alike U.vm) (h : vx_L C n d A u H) : vx_L C n d A U H := by
  obtain ⟨c, k, i, f, a, cell, h1, h2, h3, h4, h5, h6, h7, h8, h9, h10⟩ := h
  obtain ⟨k', hi', he⟩ := State.fieldFound?_setVm hvm h2
  exact ⟨c, k', i, f, a, cell, by rw [hvm.findClass]; exact h1, hi', h3, by rw [he]; exact h4, h5, h6, h7, h8, by rw [he]; exact h9, h10⟩
theorem vx_L.kept {C n d : String} {A : Nat → Prop} {U : State} {H H1 : Heap} (h : vx_L C n d A U H) (hq : ∀ a : Nat, a < H.size → ¬ A a → H1[a]? = H[a]?) : vx_L C n d A U H1 := by
  obtain ⟨c, k, i, f, a, cell, h1, h2, h3, h4, h5, h6, h7, h8, h9, h10⟩ := h
  exact ⟨c, k, i, f, a, cell, h1, h2, h3, h4, by rw [hq a (Array.getElem?_eq_some_iff.mp h5).1 h10]; exact h5, h6, h7, h8, h9, h10⟩
theorem vx_L.narrow {C n d : String} {A B : Nat → Prop} {U : State} {H : Heap} (h : vx_L C n d A U H) (hAB : ∀ q, B q → A q) : vx_L C n d B U H := by
  obtain ⟨c, k, i, f, a, cell, h1, h2, h3, h4, h5, h6, h7, h8, h9, h10⟩ := h
  exact ⟨c, k, i, f, a, cell, h1, h2, h3, h4, h5, h6, h7, h8, h9, fun z => h10 (hAB _ z)⟩
theorem vx_L.word {C n d : String} {A : Nat → Prop} {s : State} {args : Array Value} (h : vx_L C n d A s s.heap) : (Cond.laysStatic C n d).before args s = true := by
  obtain ⟨c, k, i, f, a, cell, h1, h2, h3, h4, h5, h6, h7, h8, h9, -⟩ := h
  show (Cond.laysStatic C n d).holds args s none s [] = true
  exact Cond.laysStatic_of h1 h2 h3 h4 h5 h6 h7 h8 h9
/-- .. and what it holds: null or some reference -/
def vx_Zq (C n d : String) (A : Nat → Prop) (U : State) (H : Heap) : Prop := va_Zq C n d A U H ∧ vx_L C n d A U H
theorem vx_Zq.moved {C n d : String} {A : Nat → Prop} {u U : State} {H : Heap} (hvm : u.vm.Alike U.vm) (h : vx_Zq C n d A u H) : vx_Zq C n d A U H := ⟨va_Zq.moved hvm h.1, vx_L.moved hvm h.2⟩
theorem vx_Zq.kept {C n d : String} {A : Nat → Prop} {U : State} {H H1 : Heap} (h : vx_Zq C n d A U H) (hq : ∀ a : Nat, a < H.size → ¬ A a → H1[a]? = H[a]?) : vx_Zq C n d A U H1 := ⟨va_Zq.kept h.1 hq, vx_L.kept h.2 hq⟩
theorem vx_Zq.narrow {C n d : String} {A B : Nat → Prop} {U : State} {H : Heap} (h : vx_Zq C n d A U H) (hAB : ∀ q, B q → A q) : vx_Zq C n d B U H := ⟨va_Zq.narrow h.1 hAB, vx_L.narrow h.2 hAB⟩
theorem vx_Zqof {args : Array Value} {s : State} {C n d : String} {A : Nat → Prop} (hl : (Cond.laysStatic C n d).before args s = true) (hini : (Cond.initialized C).before args s = true) (h : (Cond.isRef (.static C n d)).before args s = true) (hA : ∀ a : Nat, a < s.heap.size → ¬ A a) : vx_Zq C n d A s s.heap := by
  refine ⟨va_Zqof hl hini h hA, ?_⟩
  obtain ⟨c, k, i, f, a, cell, h1, h2, h3, h4, h5, h6, h7, h8, h9⟩ := Cond.laysStatic_spec hl
  exact ⟨c, k, i, f, a, cell, h1, h2, h3, h4, h5, h6, h7, h8, h9, hA a (Array.getElem?_eq_some_iff.mp h5).1⟩
theorem vx_isRef {C n d : String} {v : Value} {A : Nat → Prop} {s : State} {args : Array Value} (h : va_Z C n d v A s s.heap) (hv : v.isRef = true) : (Cond.isRef (.static C n d)).before args s = true := by
  obtain ⟨cf, kf, fi, f, a, cell, h1, h2, h3, h4, h5, h6, h7, -⟩ := h
  have he : (Term.static C n d).eval args s none [] s = some v := by
    simp [Term.eval, State.fieldNamed?, h1, h2, h4, h5, h6, h7]
  simp only [Cond.before, Cond.holds, Cond.value, he]
  cases v <;> simp_all [Value.isRef]
theorem vx_isRefq {C n d : String} {A : Nat → Prop} {s : State} {args : Array Value} (h : va_Zq C n d A s s.heap) : (Cond.isRef (.static C n d)).before args s = true := by
  rcases h with h | ⟨t, h⟩
  · exact vx_isRef h rfl
  · exact vx_isRef h rfl
/-- the same frame, seen from here: as if the method were called anew in this heap -/
theorem vx_rebase {T : State} (X : Stand p l e R s m args below meth c T locs cells slots) {R' : Room} (hf : R'.frames ≤ R.frames) (hl : R'.locals ≤ R.locals) (hc : cells + R'.cells ≤ R.cells) (hs : slots + R'.slots ≤ R.slots) :
    Stand p l e R' ((T.setVm s.vm).setFrames (.invoking m args :: below)) m args below meth c T [] 0 0 := by
  have htop : (T.setVm s.vm).topJava?.isSome := X.here.top
  have hF : ((T.setVm s.vm).setFrames (.invoking m args :: below)).frames = .invoking m args :: below := State.frames_setFrames _ (State.cur_lt_of_top htop)
  obtain ⟨g₀, hg0⟩ := Option.isSome_iff_exists.mp htop
  obtain ⟨r, hr⟩ := State.topJava?_eq_some.mp hg0
  have hl9 : e.platform.stackLimits (T.setVm s.vm).me = e.platform.stackLimits s.me := X.limits
  have hb9 : (T.setVm s.vm).me.stackBytes = s.me.stackBytes := X.bytes
  refine ⟨X.admits, X.cas, X.clock, hF, ?_, X.hears, X.method, X.code, X.here, X.tail, X.warmed, ?_, ?_, ?_⟩
  · have h := X.room
    have hU : ((T.setVm s.vm).setFrames (.invoking m args :: below)).localsInUse = s.localsInUse := by
      rw [State.localsInUse_invoking hF (meth := meth) (c := c) X.method X.code, State.localsInUse_invoking X.frames X.method X.code]
    simp only [State.hasRoom, Bool.and_eq_true, decide_eq_true_eq] at h ⊢
    obtain ⟨⟨⟨⟨h1, h2, h3, h4, h5, h6⟩, h7⟩, h8⟩, h9⟩ := h
    rw [X.frames, List.length_cons] at h2 h3
    have q1 := X.heapSize
    have q2 := X.used
    simp only [hF, hU, List.length_cons, State.stackLimits_setFrames, State.stackBytes_setFrames, hl9, hb9]
    refine ⟨⟨⟨⟨by omega, by omega, by omega, by omega, by omega, h6⟩, ?_⟩, ?_⟩, X.book⟩
    · show T.heap.size + R'.cells ≤ e.platform.maxCells
      omega
    · show T.slotsUsed + R'.slots ≤ e.platform.maxSlots
      omega
  · rw [State.stackLimits_setFrames]; rfl
  · rw [State.stackBytes_setFrames]; rfl
  · refine ⟨?_, Nat.le_refl _, Nat.le_refl _, ?_, ?_, fun a c9 h9 => ⟨c9, h9, rfl, rfl, fun _ _ => rfl⟩⟩
    · obtain ⟨t, ht, -⟩ := State.frames_cons hr
      show T.setVm s.vm = { ((T.setVm s.vm).setFrames (.invoking m args :: below)).setFrames (T.setVm s.vm).frames with heap := T.heap, slotsUsed := T.slotsUsed }
      rw [State.setFrames_setFrames, State.setFrames_self ht]
      rfl
    · show T.slotsUsed = T.slotsUsed + ((T.heap.toList.drop T.heap.size).map (·.slots.size)).sum
      rw [List.drop_eq_nil_of_le (Nat.le_of_eq Array.length_toList)]
      rfl
    · show ((T.heap.toList.drop T.heap.size).map (·.slots.size)).sum ≤ 0
      rw [List.drop_eq_nil_of_le (Nat.le_of_eq Array.length_toList)]
      exact Nat.le_refl _
/-- 'throw new E()': new; dup; invokespecial; athrow -/
theorem vx_throw0 {cc : ByteArray} {pc : Nat} (hexec : p.tables.exec = Jvm.exec) (hb : c.code = cc) (hl : l.stackTraces = false) {own cls : String} {names : List String} {ik ic mc ms : Nat} {A : Nat → Prop}
    (hown : s.vm.findClass own = some m.cls) (hcls : Bundle.fit cls = true) (hnames : ∀ n ∈ names, Bundle.fit n = true)
    (hk : (Cond.classLink own ik cls).before args s = true) (hini : (Cond.initialized cls).before args s = true) (hat : ∀ w ∈ vx_at0 own ic cls names, w.before args s = true)
    (hgood : ∀ w ∈ Cond.classLink own ik cls :: Cond.initialized cls :: vx_at0 own ic cls names, vx_ot w = true)
    (hU : vx_Zq Bundle.tN "UNASSIGNED_STACK" Bundle.steD A s s.heap) (hN : vx_Zq Bundle.tN "SUPPRESSED_SENTINEL" Bundle.listD A s s.heap) (hS : va_S A s.heap H locs) (hsize : ls.size = c.maxLocals)
    (d0 : decode cc pc = .ok (.new ik, 3)) (d3 : decode cc (pc + 3) = .ok (.dup, 1)) (d4 : decode cc (pc + 4) = .ok (.invokespecial ic, 3)) (d7 : decode cc (pc + 7) = .ok (.athrow, 1))
    (hout : ∀ x ∈ c.exceptionTable.toList, covers x (pc + 7) = false)
    (hRframes : names.length + 3 < R.frames) (hRlocals : (rest.map fun v => v.category).sum + (13 * (names.length + 1) + 42) ≤ R.locals) (hRcells : cells + 1 ≤ R.cells) (hRslots : slots + 6 ≤ R.slots) (hlocks : meth.locks = false)
    (hx : ∀ t : State, s.vm.Alike t.vm → H.size ≤ t.heap.size → (∀ q : Nat, q < H.size → t.heap[q]? = H[q]?) → XC cls s t)
    (hf : ∀ z ∈ locs, free z.base) (hc : cells + 1 ≤ mc) (hs : slots + 6 ≤ ms) :
    W p l e R s m args below meth c H locs cells slots (vx_MQ below Qc XC args s mc ms free) (F0 m pc ls rest) := by
  intro T hT X
  have htr : e.platform.stackTraces = false := (show e.platform.stackTraces = l.stackTraces by rw [X.admits.platform]).trans hl
  have Y := vx_rebase X (R' := { frames := R.frames, locals := R.locals, cells := 1, slots := 6 }) (Nat.le_refl _) (Nat.le_refl _) hRcells hRslots
  obtain ⟨s', hA⟩ : ∃ z, z = (T.setVm s.vm).setFrames (.invoking m args :: below) := ⟨_, rfl⟩
  rw [← hA] at Y
  have hvm : s'.vm = s.vm := by rw [hA]; rfl
  have hhp : s'.heap = H := by rw [hA]; exact hT
  have hW0 : s.WarmedH s'.vm := by rw [hvm]; exact State.WarmedH.refl s
  have hat' : ∀ w ∈ vx_at0 own ic cls names, w.before args s' = true := fun w hw => vx_ot_at hW0 hvm.symm (hgood w (List.mem_cons_of_mem _ (List.mem_cons_of_mem _ hw))) (hat w hw)
  have hk' : (Cond.classLink own ik cls).before args s' = true := vx_ot_at hW0 hvm.symm (hgood _ List.mem_cons_self) hk
  have hini' : (Cond.initialized cls).before args s' = true := vx_ot_at hW0 hvm.symm (hgood _ (List.mem_cons_of_mem _ List.mem_cons_self)) hini
  have hU' : vx_Zq Bundle.tN "UNASSIGNED_STACK" Bundle.steD A s' s'.heap := by rw [hhp]; exact vx_Zq.moved hW0.alike (hU.kept hS.2.1)
  have hN' : vx_Zq Bundle.tN "SUPPRESSED_SENTINEL" Bundle.listD A s' s'.heap := by rw [hhp]; exact vx_Zq.moved hW0.alike (hN.kept hS.2.1)
  have h : ∀ w ∈ Bundle.ownAtoms0 own ic cls names, w.before args s' = true := vx_own hat' (vx_isRefq hU'.1) (vx_isRefq hN'.1) hU'.2.word hN'.2.word
  have hown' : s'.vm.findClass own = some m.cls := by rw [hvm]; exact hown
  have hins : (Cond.instantiable cls 6).before args s' = true := h _ (by simp [Bundle.ownAtoms0])
  obtain ⟨vm₁, cX, kX, hfX, hkX, -, -, X₁, st1⟩ := Y.newCold hexec (own := own) (C := cls) (index := ik) (n := 6) hown' hk' hins hini'
    (g := F0 m pc ls rest) rfl (by rw [hb]; exact d0) (Nat.le_refl _) (Nat.le_refl _)
  generalize hT1 : (T.setVm vm₁).pushCell { cls := cX, slots := kX.instanceTypes.map defaultValue, vm := .none } = T1 at X₁ st1
  have hcat : (Value.ref T.heap.size).category = 1 := rfl
  have hcellA : T1.heap[T.heap.size]? = some (freshCell cX kX) := by rw [← hT1]; exact State.heap_pushCell_size _ _
  have d3' : decode c.code (pc + 3) = .ok (.dup, 1) := by rw [hb]; exact d3
  obtain ⟨U, hsteps, hrun, hend, hW, hsame, ce, hce, hO⟩ := X₁.ctorThrow0 hexec htr (own := own) (cls := cls) (names := names) (ic := ic) hown' hcls hnames h (fun x hx => nomatch hx) hfX hkX hcellA (by rw [hhp, hT]; exact Nat.le_refl _)
    (g := { method := m, pc := pc + 4, locals := ls, stack := .ref T.heap.size :: .ref T.heap.size :: rest, locked := none }) rfl hsize rfl rfl (rest := rest) rfl
    (by rw [hb]; exact d4) (by rw [hb]; exact d7) hout hRframes (by simp only [List.map_cons, List.sum_cons, hcat]; omega) hlocks
  obtain ⟨f1, f2⟩ := vx_frame hsame
  rw [hhp] at f1 f2
  have hWs : s.WarmedH U.vm := State.WarmedH.trans hW0 hW
  have hcl : s.vm.findClass cls = some ce.cls := by
    have h9 := hO.cls
    rw [hvm] at h9
    exact h9
  have hall : s.sameButNew ({ U with vm := s.vm } : State) locs mc ms := by
    subst hA
    obtain ⟨e1, e2⟩ := hsame
    rw [State.setFrames_setFrames] at e1
    have h2 : (T.setVm s.vm).sameButNew ({ U with vm := s.vm } : State) [] (0 + 1) (0 + 6) := ⟨e1, e2⟩
    have h3 := X.same.trans h2
    rw [List.append_nil] at h3
    exact h3.mono hc hs
  refine ⟨U, ?_, .threw T.heap.size, hrun, hend, Or.inr ⟨T.heap.size, rfl, cls, ce, locs, hx U hWs.alike f1 (fun q hq => f2 q hq (fun z hz => nomatch hz)), hce, hO.vm, hcl, hWs, hall, hf⟩⟩
  refine st1 _ ?_
  show Steps p.tables e below (T1.setTop { method := m, pc := pc + 3, locals := ls, stack := .ref T.heap.size :: rest, locked := none }) _
  jvm_step X₁.here [X₁.here.top, hexec, d3', Value.category]
  exact hsteps
/-- 'throw new E("text")': new; dup; ldc; invokespecial; athrow -/
theorem vx_throwS {cc : ByteArray} {pc : Nat} (hexec : p.tables.exec = Jvm.exec) (hb : c.code = cc) (hl : l.stackTraces = false) {own cls text : String} {names : List String} {ik is ic mc ms sa : Nat} {A : Nat → Prop}
    (hown : s.vm.findClass own = some m.cls) (hcls : Bundle.fit cls = true) (hnames : ∀ n ∈ names, Bundle.fit n = true)
    (hk : (Cond.classLink own ik cls).before args s = true) (hini : (Cond.initialized cls).before args s = true) (hstr : vk_R own is text sa s) (hat : ∀ w ∈ vx_atS own ic cls names, w.before args s = true)
    (hgood : ∀ w ∈ Cond.classLink own ik cls :: Cond.initialized cls :: vx_atS own ic cls names, vx_ot w = true)
    (hU : vx_Zq Bundle.tN "UNASSIGNED_STACK" Bundle.steD A s s.heap) (hN : vx_Zq Bundle.tN "SUPPRESSED_SENTINEL" Bundle.listD A s s.heap) (hS : va_S A s.heap H locs) (hsize : ls.size = c.maxLocals)
    (d0 : decode cc pc = .ok (.new ik, 3)) (d3 : decode cc (pc + 3) = .ok (.dup, 1)) (d4 : decode cc (pc + 4) = .ok (.ldc is, 2)) (d6 : decode cc (pc + 6) = .ok (.invokespecial ic, 3)) (d9 : decode cc (pc + 9) = .ok (.athrow, 1))
    (hout : ∀ x ∈ c.exceptionTable.toList, covers x (pc + 9) = false)
    (hRframes : names.length + 3 < R.frames) (hRlocals : (rest.map fun v => v.category).sum + (13 * (names.length + 1) + 43) ≤ R.locals) (hRcells : cells + 1 ≤ R.cells) (hRslots : slots + 6 ≤ R.slots) (hlocks : meth.locks = false)
    (hx : ∀ t : State, s.vm.Alike t.vm → H.size ≤ t.heap.size → (∀ q : Nat, q < H.size → t.heap[q]? = H[q]?) → XC cls s t)
    (hf : ∀ z ∈ locs, free z.base) (hc : cells + 1 ≤ mc) (hs : slots + 6 ≤ ms) :
    W p l e R s m args below meth c H locs cells slots (vx_MQ below Qc XC args s mc ms free) (F0 m pc ls rest) := by
  intro T hT X
  have htr : e.platform.stackTraces = false := (show e.platform.stackTraces = l.stackTraces by rw [X.admits.platform]).trans hl
  have Y := vx_rebase X (R' := { frames := R.frames, locals := R.locals, cells := 1, slots := 6 }) (Nat.le_refl _) (Nat.le_refl _) hRcells hRslots
  obtain ⟨s', hA⟩ : ∃ z, z = (T.setVm s.vm).setFrames (.invoking m args :: below) := ⟨_, rfl⟩
  rw [← hA] at Y
  have hvm : s'.vm = s.vm := by rw [hA]; rfl
  have hhp : s'.heap = H := by rw [hA]; exact hT
  have hW0 : s.WarmedH s'.vm := by rw [hvm]; exact State.WarmedH.refl s
  have hat' : ∀ w ∈ vx_atS own ic cls names, w.before args s' = true := fun w hw => vx_ot_at hW0 hvm.symm (hgood w (List.mem_cons_of_mem _ (List.mem_cons_of_mem _ hw))) (hat w hw)
  have hk' : (Cond.classLink own ik cls).before args s' = true := vx_ot_at hW0 hvm.symm (hgood _ List.mem_cons_self) hk
  have hini' : (Cond.initialized cls).before args s' = true := vx_ot_at hW0 hvm.symm (hgood _ (List.mem_cons_of_mem _ List.mem_cons_self)) hini
  have hU' : vx_Zq Bundle.tN "UNASSIGNED_STACK" Bundle.steD A s' s'.heap := by rw [hhp]; exact vx_Zq.moved hW0.alike (hU.kept hS.2.1)
  have hN' : vx_Zq Bundle.tN "SUPPRESSED_SENTINEL" Bundle.listD A s' s'.heap := by rw [hhp]; exact vx_Zq.moved hW0.alike (hN.kept hS.2.1)
  have h : ∀ w ∈ Bundle.ownAtoms own ic cls names, w.before args s' = true := vx_own hat' (vx_isRefq hU'.1) (vx_isRefq hN'.1) hU'.2.word hN'.2.word
  have hown' : s'.vm.findClass own = some m.cls := by rw [hvm]; exact hown
  have hins : (Cond.instantiable cls 6).before args s' = true := h _ (by simp [Bundle.ownAtoms])
  obtain ⟨vm₁, cX, kX, hfX, hkX, -, -, X₁, st1⟩ := Y.newCold hexec (own := own) (C := cls) (index := ik) (n := 6) hown' hk' hins hini'
    (g := F0 m pc ls rest) rfl (by rw [hb]; exact d0) (Nat.le_refl _) (Nat.le_refl _)
  generalize hT1 : (T.setVm vm₁).pushCell { cls := cX, slots := kX.instanceTypes.map defaultValue, vm := .none } = T1 at X₁ st1
  have hcat : (Value.ref T.heap.size).category = 1 := rfl
  have hcellA : T1.heap[T.heap.size]? = some (freshCell cX kX) := by rw [← hT1]; exact State.heap_pushCell_size _ _
  have d3' : decode c.code (pc + 3) = .ok (.dup, 1) := by rw [hb]; exact d3
  have d4' : decode c.code (pc + 4) = .ok (.ldc is, 2) := by rw [hb]; exact d4
  have hstr' : vk_R own is text sa s' := vk_R.warm hW0 hstr
  obtain ⟨U, hsteps, hrun, hend, hW, hsame, ce, hce, hO⟩ := X₁.ctorThrowS hexec htr (own := own) (cls := cls) (names := names) (ic := ic) hown' hcls hnames h (fun x hx => nomatch hx) hfX hkX hcellA (by rw [hhp, hT]; exact Nat.le_refl _) (msg := .ref sa) rfl
    (g := { method := m, pc := pc + 6, locals := ls, stack := .ref sa :: .ref T.heap.size :: .ref T.heap.size :: rest, locked := none }) rfl hsize rfl rfl (rest := rest) rfl
    (by rw [hb]; exact d6) (by rw [hb]; exact d9) hout hRframes (by simp only [List.map_cons, List.sum_cons, hcat]; omega) hlocks
  obtain ⟨f1, f2⟩ := vx_frame hsame
  rw [hhp] at f1 f2
  have hWs : s.WarmedH U.vm := State.WarmedH.trans hW0 hW
  have hcl : s.vm.findClass cls = some ce.cls := by
    have h9 := hO.cls
    rw [hvm] at h9
    exact h9
  have hall : s.sameButNew ({ U with vm := s.vm } : State) locs mc ms := by
    subst hA
    obtain ⟨e1, e2⟩ := hsame
    rw [State.setFrames_setFrames] at e1
    have h2 : (T.setVm s.vm).sameButNew ({ U with vm := s.vm } : State) [] (0 + 1) (0 + 6) := ⟨e1, e2⟩
    have h3 := X.same.trans h2
    rw [List.append_nil] at h3
    exact h3.mono hc hs
  refine ⟨U, ?_, .threw T.heap.size, hrun, hend, Or.inr ⟨T.heap.size, rfl, cls, ce, locs, hx U hWs.alike f1 (fun q hq => f2 q hq (fun z hz => nomatch hz)), hce, hO.vm, hcl, hWs, hall, hf⟩⟩
  refine st1 _ ?_
  show Steps p.tables e below (T1.setTop { method := m, pc := pc + 3, locals := ls, stack := .ref T.heap.size :: rest, locked := none }) _
  jvm_step X₁.here [X₁.here.top, hexec, d3', Value.category]
  exact X₁.ldcString hexec (own := own) (text := text) (index := is) (a := sa) hown' hstr'.1 hstr'.2
    (g := { method := m, pc := pc + 4, locals := ls, stack := .ref T.heap.size :: .ref T.heap.size :: rest, locked := none }) rfl d4' _ hsteps
/-- 'throw new E("text")', the text by a wide index -/
theorem vx_throwSW {cc : ByteArray} {pc : Nat} (hexec : p.tables.exec = Jvm.exec) (hb : c.code = cc) (hl : l.stackTraces = false) {own cls text : String} {names : List String} {ik is ic mc ms sa : Nat} {A : Nat → Prop}
    (hown : s.vm.findClass own = some m.cls) (hcls : Bundle.fit cls = true) (hnames : ∀ n ∈ names, Bundle.fit n = true)
    (hk : (Cond.classLink own ik cls).before args s = true) (hini : (Cond.initialized cls).before args s = true) (hstr : vk_R own is text sa s) (hat : ∀ w ∈ vx_atS own ic cls names, w.before args s = true)
    (hgood : ∀ w ∈ Cond.classLink own ik cls :: Cond.initialized cls :: vx_atS own ic cls names, vx_ot w = true)
    (hU : vx_Zq Bundle.tN "UNASSIGNED_STACK" Bundle.steD A s s.heap) (hN : vx_Zq Bundle.tN "SUPPRESSED_SENTINEL" Bundle.listD A s s.heap) (hS : va_S A s.heap H locs) (hsize : ls.size = c.maxLocals)
    (d0 : decode cc pc = .ok (.new ik, 3)) (d3 : decode cc (pc + 3) = .ok (.dup, 1)) (d4 : decode cc (pc + 4) = .ok (.ldc_w is, 3)) (d7 : decode cc (pc + 7) = .ok (.invokespecial ic, 3)) (d10 : decode cc (pc + 10) = .ok (.athrow, 1))
    (hout : ∀ x ∈ c.exceptionTable.toList, covers x (pc + 10) = false)
    (hRframes : names.length + 3 < R.frames) (hRlocals : (rest.map fun v => v.category).sum + (13 * (names.length + 1) + 43) ≤ R.locals) (hRcells : cells + 1 ≤ R.cells) (hRslots : slots + 6 ≤ R.slots) (hlocks : meth.locks = false)
    (hx : ∀ t : State, s.vm.Alike t.vm → H.size ≤ t.heap.size → (∀ q : Nat, q < H.size → t.heap[q]? = H[q]?) → XC cls s t)
    (hf : ∀ z ∈ locs, free z.base) (hc : cells + 1 ≤ mc) (hs : slots + 6 ≤ ms) :
    W p l e R s m args below meth c H locs cells slots (vx_MQ below Qc XC args s mc ms free) (F0 m pc ls rest) := by
  intro T hT X
  have htr : e.platform.stackTraces = false := (show e.platform.stackTraces = l.stackTraces by rw [X.admits.platform]).trans hl
  have Y := vx_rebase X (R' := { frames := R.frames, locals := R.locals, cells := 1, slots := 6 }) (Nat.le_refl _) (Nat.le_refl _) hRcells hRslots
  obtain ⟨s', hA⟩ : ∃ z, z = (T.setVm s.vm).setFrames (.invoking m args :: below) := ⟨_, rfl⟩
  rw [← hA] at Y
  have hvm : s'.vm = s.vm := by rw [hA]; rfl
  have hhp : s'.heap = H := by rw [hA]; exact hT
  have hW0 : s.WarmedH s'.vm := by rw [hvm]; exact State.WarmedH.refl s
  have hat' : ∀ w ∈ vx_atS own ic cls names, w.before args s' = true := fun w hw => vx_ot_at hW0 hvm.symm (hgood w (List.mem_cons_of_mem _ (List.mem_cons_of_mem _ hw))) (hat w hw)
  have hk' : (Cond.classLink own ik cls).before args s' = true := vx_ot_at hW0 hvm.symm (hgood _ List.mem_cons_self) hk
  have hini' : (Cond.initialized cls).before args s' = true := vx_ot_at hW0 hvm.symm (hgood _ (List.mem_cons_of_mem _ List.mem_cons_self)) hini
  have hU' : vx_Zq Bundle.tN "UNASSIGNED_STACK" Bundle.steD A s' s'.heap := by rw [hhp]; exact vx_Zq.moved hW0.alike (hU.kept hS.2.1)
  have hN' : vx_Zq Bundle.tN "SUPPRESSED_SENTINEL" Bundle.listD A s' s'.heap := by rw [hhp]; exact vx_Zq.moved hW0.alike (hN.kept hS.2.1)
  have h : ∀ w ∈ Bundle.ownAtoms own ic cls names, w.before args s' = true := vx_own hat' (vx_isRefq hU'.1) (vx_isRefq hN'.1) hU'.2.word hN'.2.word
  have hown' : s'.vm.findClass own = some m.cls := by rw [hvm]; exact hown
  have hins : (Cond.instantiable cls 6).before args s' = true := h _ (by simp [Bundle.ownAtoms])
  obtain ⟨vm₁, cX, kX, hfX, hkX, -, -, X₁, st1⟩ := Y.newCold hexec (own := own) (C := cls) (index := ik) (n := 6) hown' hk' hins hini'
    (g := F0 m pc ls rest) rfl (by rw [hb]; exact d0) (Nat.le_refl _) (Nat.le_refl _)
  generalize hT1 : (T.setVm vm₁).pushCell { cls := cX, slots := kX.instanceTypes.map defaultValue, vm := .none } = T1 at X₁ st1
  have hcat : (Value.ref T.heap.size).category = 1 := rfl
  have hcellA : T1.heap[T.heap.size]? = some (freshCell cX kX) := by rw [← hT1]; exact State.heap_pushCell_size _ _
  have d3' : decode c.code (pc + 3) = .ok (.dup, 1) := by rw [hb]; exact d3
  have d4' : decode c.code (pc + 4) = .ok (.ldc_w is, 3) := by rw [hb]; exact d4
  have hstr' : vk_R own is text sa s' := vk_R.warm hW0 hstr
  obtain ⟨U, hsteps, hrun, hend, hW, hsame, ce, hce, hO⟩ := X₁.ctorThrowS hexec htr (own := own) (cls := cls) (names := names) (ic := ic) hown' hcls hnames h (fun x hx => nomatch hx) hfX hkX hcellA (by rw [hhp, hT]; exact Nat.le_refl _) (msg := .ref sa) rfl
    (g := { method := m, pc := pc + 7, locals := ls, stack := .ref sa :: .ref T.heap.size :: .ref T.heap.size :: rest, locked := none }) rfl hsize rfl rfl (rest := rest) rfl
    (by rw [hb]; exact d7) (by rw [hb]; exact d10) hout hRframes (by simp only [List.map_cons, List.sum_cons, hcat]; omega) hlocks
  obtain ⟨f1, f2⟩ := vx_frame hsame
  rw [hhp] at f1 f2
  have hWs : s.WarmedH U.vm := State.WarmedH.trans hW0 hW
  have hcl : s.vm.findClass cls = some ce.cls := by
    have h9 := hO.cls
    rw [hvm] at h9
    exact h9
  have hall : s.sameButNew ({ U with vm := s.vm } : State) locs mc ms := by
    subst hA
    obtain ⟨e1, e2⟩ := hsame
    rw [State.setFrames_setFrames] at e1
    have h2 : (T.setVm s.vm).sameButNew ({ U with vm := s.vm } : State) [] (0 + 1) (0 + 6) := ⟨e1, e2⟩
    have h3 := X.same.trans h2
    rw [List.append_nil] at h3
    exact h3.mono hc hs
  refine ⟨U, ?_, .threw T.heap.size, hrun, hend, Or.inr ⟨T.heap.size, rfl, cls, ce, locs, hx U hWs.alike f1 (fun q hq => f2 q hq (fun z hz => nomatch hz)), hce, hO.vm, hcl, hWs, hall, hf⟩⟩
  refine st1 _ ?_
  show Steps p.tables e below (T1.setTop { method := m, pc := pc + 3, locals := ls, stack := .ref T.heap.size :: rest, locked := none }) _
  jvm_step X₁.here [X₁.here.top, hexec, d3', Value.category]
  exact X₁.ldcStringW hexec (own := own) (text := text) (index := is) (a := sa) hown' hstr'.1 hstr'.2
    (g := { method := m, pc := pc + 4, locals := ls, stack := .ref T.heap.size :: .ref T.heap.size :: rest, locked := none }) rfl d4' _ hsteps
end Ends
section Bodies
variable {l : Launch}
theorem vx_ofW {y : MethodName} {ws ws' : List Cond} {rm : Room} {Pc : Array Value → State → Prop} {Qc : Array Value → State → Outcome → State → Prop} {XC : String → State → State → Prop} {mc ms : Nat} {free : Addr → Prop} {cc : ByteArray} {maxL : Nat} {ret : Option FieldType}
    (hy : plainName y.cls = true) (hw : ws = Cond.code y cc maxL ret :: ws')
    (body : ∀ p e s m args below meth c s₁, BodyLoose p l y (headSpec ws rm) cc maxL ret e s m args below meth c s₁ → c.maxLocals = maxL → (∀ x ∈ c.exceptionTable.toList, False) → Pc args s →
      W p l e (headSpec ws rm).room s m args below meth c s.heap [] 0 0 (vx_MQ below Qc XC args s mc ms free) (entryFrame m args maxL)) : vx_Met l y ws rm Pc Qc XC mc ms free := by
  refine MetFree.of_bodyS (code := cc) (maxLocals := maxL) (ret := ret) hy ?_ ?_
  · intro args s m h hn
    obtain ⟨meth, c, h1, h2, h3, h4, h5, h6, -, -⟩ := Cond.code_spec hn (atoms_spec (ws := ws) h _ (by rw [hw]; exact List.mem_cons_self))
    exact ⟨meth, c, h1, h2, h3, h4, h5, h6⟩
  · intro p e s m args below meth c s₁ B hml hP _
    have hh0 : s₁.heap = s.heap := by rw [B.state]; rfl
    have ht : ∀ x ∈ c.exceptionTable.toList, False := by
      obtain ⟨meth9, c9, h1, h2, -, -, -, -, h7, -⟩ := Cond.code_spec B.named (atoms_spec (ws := ws) B.pre _ (by rw [hw]; exact List.mem_cons_self))
      cases Option.some.inj (h1.symm.trans B.method)
      cases Option.some.inj (h2.symm.trans (Stand.of_body B).code)
      intro x hx
      rw [Array.isEmpty_iff.mp h7] at hx
      cases hx
    obtain ⟨t, a1, o, b1, b2, b3⟩ := body p e s m args below meth c s₁ B hml ht hP s₁ hh0 (Stand.of_body B)
    exact ⟨t, o, a1, b1, b2, b3⟩
/-- the table of a body with handlers -/
theorem vx_table {p : Program} {x y : MethodName} {S : Spec} {cc bytes : ByteArray} {maxL maxL' : Nat} {ret ret' : Option FieldType} {e : Env} {s s₁ : State} {m : MethodId} {args : Array Value} {below : List Frame} {meth : Method} {c : Code} {hh : List (Nat × Nat × Nat × Nat)}
    (B : BodyLoose p l y S cc maxL ret e s m args below meth c s₁) (h : (Cond.codeWith y bytes maxL' ret' hh).before args s = true) : c.exceptionTable.toList = tableOf hh := by
  obtain ⟨m9, meth9, c9, hn9, h1, h2, -, -, h6, -⟩ := Cond.codeWith_spec h
  cases Option.some.inj (hn9.symm.trans B.named)
  cases Option.some.inj (h1.symm.trans B.method)
  cases Option.some.inj (h2.symm.trans (Stand.of_body B).code)
  rw [← h6, table_eq]
end Bodies
end VXA
/-! ===== END ===== -/
/-! ===== BEGIN a static call of a method with an exception table ===== -/
section VXS
variable {p : Program} {l : Launch} {e : Env} {R : Room} {s : State} {m : MethodId} {args : Array Value} {below : List Frame} {meth : Method} {c : Code} {T : State} {H : Heap} {locs : List Loc} {cells slots : Nat}
abbrev vx_CSW (R : Room) (s : State) (args : Array Value) (own : String) (index : Nat) (y : MethodName) (bytes : ByteArray) (maxL : Nat) (ret : Option FieldType) (hh : List (Nat × Nat × Nat × Nat)) (ws : List Cond) (rm : Room) (mc ms n : Nat) : Prop :=
  (rm.cells = mc ∧ rm.slots = ms ∧ rm.frames + 1 ≤ R.frames ∧ 8 + (maxL + 11) + rm.locals ≤ R.locals ∧ (∀ w ∈ ws, ∀ (a' : Array Value) (U : State), s.WarmedH U.vm → w.before a' U = true) ∧ Cond.codeWith y bytes maxL ret hh ∈ ws) ∧
  (Cond.codeWith y bytes maxL ret hh).before args s = true ∧ (Cond.initialized y.cls).before args s = true ∧ (y.cls ≠ "java/lang/invoke/MethodHandle" ∧ y.cls ≠ "java/lang/invoke/VarHandle") ∧
  (∀ sig, parseMethodDescriptor y.desc = some sig → n = sig.parameters.length) ∧ (Cond.methodLink own index y).before args s = true ∧ (Cond.static y).before args s = true
theorem vx_cwSW {own : String} {index maxL mc ms : Nat} {y : MethodName} {bytes : ByteArray} {ret : Option FieldType} {hh : List (Nat × Nat × Nat × Nat)} {Ts ws ws' : List Cond} {rm : Room} (n : Nat) (ht : ∀ w ∈ Ts, w.before args s = true) (hT : GoodIn Ts (va_wsS own index y ws)) (hw : ws = Cond.codeWith y bytes maxL ret hh :: ws') (hrc : rm.cells = mc) (hrs : rm.slots = ms)
    (hd : y.cls ≠ "java/lang/invoke/MethodHandle" ∧ y.cls ≠ "java/lang/invoke/VarHandle" ∧ (parseMethodDescriptor y.desc).map (fun d => d.parameters.length) = some n) (hR : rm.frames + 1 ≤ R.frames ∧ 8 + (maxL + 11) + rm.locals ≤ R.locals) :
    vx_CSW R s args own index y bytes maxL ret hh ws rm mc ms n := by
  have ok : ∀ w ∈ va_wsS own index y ws, w.before args s = true := fun w h => ht w (hT w h).1
  have hG : GoodIn Ts ws := fun w h => hT w (by unfold va_wsS; exact List.mem_append_right _ h)
  have hc : Cond.codeWith y bytes maxL ret hh ∈ ws := by rw [hw]; exact List.mem_cons_self
  refine ⟨⟨hrc, hrs, hR.1, hR.2, pay_in ht hG, hc⟩, ht _ (hG _ hc).1, ok _ (by simp [va_wsS]), ⟨hd.1, hd.2.1⟩, fun sig h => ?_, ok _ (by simp [va_wsS]), ok _ (by simp [va_wsS])⟩
  have h2 := hd.2.2
  rw [h] at h2
  exact (Option.some.inj h2).symm
theorem vx_callSW (X : Stand p l e R s m args below meth c T locs cells slots) (hexec : p.tables.exec = Jvm.exec) {own : String} {index : Nat} {y : MethodName} {bytes : ByteArray} {maxL : Nat} {ret : Option FieldType} {hh : List (Nat × Nat × Nat × Nat)}
    (hown : s.vm.findClass own = some m.cls) (hlink : (Cond.methodLink own index y).before args s = true) (hstat : (Cond.static y).before args s = true) (hinit : (Cond.initialized y.cls).before args s = true)
    (hcode : (Cond.codeWith y bytes maxL ret hh).before args s = true) (hy : y.cls ≠ "java/lang/invoke/MethodHandle" ∧ y.cls ≠ "java/lang/invoke/VarHandle")
    {W9 : Nat} {Pre : Pt → Array Value → Prop} {Post : Pt → Array Value → Option Value → Pt → Prop} (hK : Back l R p e below s args y 3 W9 Pre Post)
    {g : JFrame} (hg : g.method = m) (hsize : g.locals.size = c.maxLocals) {argsL rest : List Value} (hlen : ∀ sig, parseMethodDescriptor y.desc = some sig → argsL.length = sig.parameters.length)
    (hstack : g.stack = argsL.reverse ++ rest) (hW : 2 * g.monitorRoom + (rest.map fun v => v.category).sum ≤ W9) (hdg : decode c.code g.pc = .ok (.invokestatic index, 3))
    (hpre : ∀ vm₁, s.WarmedH vm₁ → Pre ⟨T.setVm vm₁, locs, cells, slots⟩ argsL.toArray) :
    ∃ (v : Option Value) (vm₁ : Vm) (B : Pt), s.WarmedH vm₁ ∧ Stand p l e R s m args below meth c B.U B.locs B.cells B.slots ∧ Post ⟨T.setVm vm₁, locs, cells, slots⟩ argsL.toArray v B ∧
      ∀ target, Steps p.tables e below (B.U.setTop { g with pc := g.pc + 3, stack := v.toList ++ rest }) target → Steps p.tables e below (T.setTop g) target := by
  obtain ⟨mk, methM, cM, hnamed, hmethM, -, -, -, -, -, -, hsigM⟩ := Cond.codeWith_spec hcode
  have hstatic : methM.isStatic = true := Cond.static_spec hnamed hmethM hstat
  obtain ⟨kP, hkP, -⟩ := className_of_methodNamed hnamed
  have hinitP : kP.init = .initialized := Cond.initialized_spec (findClass_of_methodNamed hnamed) hkP hinit
  obtain ⟨vm₁, X₁, hstep₁⟩ := X.invokestatic hexec hown hlink hnamed hmethM hstatic hkP hinitP hy (g := g) hg (argsL := argsL) (rest := rest) (hlen _ hsigM) hstack hdg
  obtain ⟨v, B, X', hpost, hsteps⟩ := hK m meth c ⟨T.setVm vm₁, locs, cells, slots⟩ { g with stack := rest } (.invokestatic index) mk argsL.toArray X₁ hg hsize hdg hW (X₁.named hnamed) (hpre vm₁ X₁.warmed)
  exact ⟨v, vm₁, B, X₁.warmed, X', hpost, fun target h => hstep₁ _ fun acts => by rw [doInvoke_state]; exact hsteps.trans h⟩
theorem vx_runSW {y : MethodName} {bytes cc : ByteArray} {maxL nL mc ms n index : Nat} {ret : Option FieldType} {hh : List (Nat × Nat × Nat × Nat)} {ws : List Cond} {rm : Room} {Pc : Array Value → State → Prop} {Qc : Array Value → State → Outcome → State → Prop} {free : Addr → Prop} {Ts : List Cond} {own : String} {As rest : List Value} {g : JFrame}
    (S : CallFix p m c cc nL s args Ts own) (hM : Met l y ws rm Pc Qc mc ms free) (cw : vx_CSW R s args own index y bytes maxL ret hh ws rm mc ms n) (hp : PreS s H Pc As)
    (hg : g.method = m) (hn : As.length = n) (hsize : g.locals.size = nL) (hstack : g.stack = As.reverse ++ rest) (hW : 2 * g.monitorRoom + (rest.map fun v => v.category).sum ≤ 8) (hdg : decode cc g.pc = .ok (.invokestatic index, 3)) (hf : cells + mc ≤ R.cells ∧ slots + ms ≤ R.slots) :
    va_Run p l e R s m args below meth c H locs cells slots mc ms g rest (Qc As.toArray) (free) := by
  obtain ⟨⟨hrc, hrs, hfr, hlo, hws, hcw⟩, hcode, hini, hy, hlen, hl, hstt⟩ := cw
  have hK : Back l R p e below s args y 3 8 (PreOf R mc ms Pc) (PostOf Qc mc ms free) := va_backW (hh := hh) (bytes := bytes) (maxL := maxL) (ret := ret) hM hp.1 hrc hrs hfr hlo hws hcw (fun a' U hW => word_at hW (Or.inl (by first | rfl | simp [Cond.onTables, Cond.keeps, Cond.steady])) hini)
  obtain ⟨hx, hb, hml, ho, -⟩ := S
  intro T hT X
  obtain ⟨v, vm₁, ⟨U', l2, c2, s2⟩, hW₁, X', ⟨g', mk, t, L, e1, e2, hq, h1, hL, h2, h3⟩, st⟩ := vx_callSW X hx (hh := hh) (bytes := bytes) (maxL := maxL) (ret := ret) ho hl hstt hini hcode hy hK hg (hsize.trans hml.symm) (argsL := As) (rest := rest) (fun sig h => hn.trans (hlen sig h)) hstack hW (by rw [hb]; exact hdg)
    (fun vm₁ hW₁ => ⟨hf.1, hf.2, hp.2 (T.setVm vm₁) hT hW₁⟩)
  dsimp only [Pt.U, Pt.locs, Pt.cells, Pt.slots] at X' e1 e2 h1 h2 h3 st
  subst h1; subst h2; subst h3
  exact ⟨v, (T.setVm vm₁).calling g' mk As.toArray, t, U', L, hT, X', hL, e1, e2, hq, st⟩
/-- not caught here, past rows that name other classes: it goes on to the caller -/
theorem vx_outP {p : Program} {l : Launch} {e : Env} {R : Room} {s : State} {m : MethodId} {args : Array Value} {below : List Frame} {meth : Method} {c : Code} {H : Heap} {locs : List Loc} {cells slots : Nat} {free : Addr → Prop} {ls : Array Slot} {rest : List Value} {Qc : Array Value → State → Outcome → State → Prop} {XC : String → State → State → Prop}
    {pc : Nat} {own E : String} {ce : Cell} {q : Addr} {mc ms : Nat} (hown : s.vm.findClass own = some m.cls) (hlocks : meth.locks = false)
    (hpass : ∀ z ∈ c.exceptionTable.toList, covers z pc = false ∨ (z.catchType ≠ 0 ∧ ∃ nm : String, (Cond.classLink own z.catchType nm).before args s = true ∧ va_Nc E nm s)) (hcell : H[q]? = some ce) (hv : ce.vm = .none) (hcl : s.vm.findClass E = some ce.cls)
    (hx : ∀ t : State, t.heap = H → s.vm.Alike t.vm → XC E s t) (hf : ∀ z ∈ locs, free z.base) (hc : cells ≤ mc) (hs : slots ≤ ms) :
    vx_W p l e R s m args below meth c H locs cells slots (vx_MQ below Qc XC args s mc ms free) (F0 m pc ls rest) q := by
  intro T hT X
  have hpl : e.platform.magicAccessors = ({} : Platform).magicAccessors := by rw [X.admits.platform]
  obtain ⟨vm', hW', X', st⟩ := Stand.outThrough X hlocks q (g := F0 m pc ls rest) rfl rfl rfl (cell := ce) (by rw [hT]; exact hcell) (by rw [hv]; rfl)
    (by obtain ⟨k9, h9, -⟩ := Vm.findClass_spec hcl; exact ⟨k9, h9⟩) (fun z hz => by
      rcases hpass z hz with h | ⟨hz0, nm, hl1, hn1⟩
      · exact Or.inl h
      · obtain ⟨c6, hc6, hcl6⟩ := Cond.classLink_spec hown hl1 e.platform hpl
        obtain ⟨a8, b8, h1, h2, h3⟩ := hn1
        cases Option.some.inj (h1.symm.trans hcl)
        cases Option.some.inj (h2.symm.trans hc6)
        exact Or.inr ⟨hz0, _, hcl6, h3⟩)
  obtain ⟨g₀, hfr⟩ := X'.frames_eq
  have hcell9 : ((T.setVm vm').setFrames (.throwing q :: below)).heap[q]? = some ce := by
    show T.heap[q]? = some ce
    rw [hT]; exact hcell
  have hend : Ended ((T.setVm vm').setFrames (.throwing q :: below)) below (.threw q) := State.frames_setFrames _ (State.cur_lt_of_frames hfr)
  refine ⟨(T.setVm vm').setFrames (.throwing q :: below), ?_, .threw q, X'.here.running, hend, Or.inr ⟨q, rfl, E, ce, locs, hx _ hT (X'.ends _).1.alike, hcell9, hv, hcl, (X'.ends _).1, (X'.ends _).2.mono hc hs, hf⟩⟩
  rw [X.pushThrowing_eq]
  exact st
/-- a thing of a world lies in the heap -/
theorem vx_lt {D : va_G} {cl : List vw_C} {ws : va_W} {H1 : Heap} (h : va_P D cl ws H1) {k : Nat} {q : Nat × va_E} (hk : ws[k]? = some q) : q.1 < H1.size := (h k q hk).lt
end VXS
/-! ===== END ===== -/
/-! ===== BEGIN methods with a table of their own: called by a name, returning or throwing ===== -/
section VXH
/-! vx_backW, vx_callVX, vx_callSX, vx_callVW, vx_runVW, vx_runVX, vx_runSX, vx_ofWH follow the same proofs as their sisters above (Free/Laws.lean, Shelf42/LK1.lean); vx_outP calls Shelf42/NT130.lean (outThrough). -/
section
variable {l : Launch} {R : Room} {p : Program} {e : Env} {below : List Frame} {s : State} {sargs : Array Value} {y : MethodName} {len W9 : Nat}
theorem vx_backW {ws : List Cond} {rm : Room} {Pc : Array Value → State → Prop} {Qc : Array Value → State → Outcome → State → Prop} {XC : String → State → State → Prop} {mc ms : Nat} {free : Addr → Prop} {bytes : ByteArray} {maxL : Nat} {ret : Option FieldType} {hh : List (Nat × Nat × Nat × Nat)}
    (hM : vx_Met l y ws rm Pc Qc XC mc ms free) (hblind : FrameBlind Pc) (hrc : rm.cells = mc) (hrs : rm.slots = ms)
    (hframes : rm.frames + 1 ≤ R.frames) (hlocals : W9 + (maxL + 11) + rm.locals ≤ R.locals)
    (hws : ∀ w ∈ ws, ∀ a' U, s.WarmedH U.vm → w.before a' U = true) (hcode : Cond.codeWith y bytes maxL ret hh ∈ ws) (hinit : ∀ a' U, s.WarmedH U.vm → (Cond.initialized y.cls).before a' U = true) :
    vx_Back l R p e below s sargs y len W9 (PreOf R mc ms Pc) (PostOf Qc mc ms free) (vx_Post XC mc ms free) := by
  intro m meth c A g ig mk a X hg hsize hdg hW hn hp
  have h1 : (headSpec ws rm).pre.before a A.U = true := atoms_intro fun w hw => hws w hw _ _ X.warmed
  have h2 : (Cond.codeWith y bytes maxL ret hh).before a A.U = true := hws _ hcode _ _ X.warmed
  have h3 : (Cond.initialized y.cls).before a A.U = true := hinit _ _ X.warmed
  have h4 : A.cells + (headSpec ws rm).room.cells ≤ R.cells := by rw [show (headSpec ws rm).room.cells = mc from hrc]; exact hp.1
  have h5 : A.slots + (headSpec ws rm).room.slots ≤ R.slots := by rw [show (headSpec ws rm).room.slots = ms from hrs]; exact hp.2.1
  have hPc : Pc a (A.U.calling g mk a) := hblind _ _ _ _ hp.2.2
  obtain ⟨U, Ls, c0, s0⟩ := A
  dsimp only [Pt.U, Pt.locs, Pt.cells, Pt.slots] at h1 h2 h3 h4 h5 X hn hPc ⊢
  obtain ⟨m9, methY, cY, hn9, hmY, hcY, -, hlY, -⟩ := Cond.codeWith_spec h2
  cases Option.some.inj (hn9.symm.trans hn)
  obtain ⟨kY, hkY, -⟩ := className_of_methodNamed hn
  have hinitY : kY.init = .initialized := Cond.initialized_spec (findClass_of_methodNamed hn) hkY h3
  have h : At U g.method c below := by rw [hg]; exact X.here
  have hlocals9 : W9 + (maxL + 11) + (headSpec ws rm).room.locals ≤ R.locals := hlocals
  have happ : (headSpec ws rm).appliesLoose y e.platform (U.calling g mk a) = true :=
    Spec.appliesLoose_calling (g := g) h hdg hn hkY hinitY
      (X.room_calling (g := g) (R' := (headSpec ws rm).room) hsize hmY hcY hframes (by rw [hlY]; omega) h4 h5) h1
  obtain ⟨mid, hmid⟩ := h.above
  have hfr : (U.setTop g).frames = (.java g :: mid) ++ below := by rw [State.frames_setTop' g h.top, hmid]; rfl
  obtain ⟨o, s₂, hsteps, -, hend, hq⟩ := Steps.callFree hM p X.admits X.cas X.clock (acts := []) hfr happ hPc trivial
  have hq' : vx_Q Qc XC mc ms free a (U.calling g mk a) o s₂ := hq
  rw [State.frames_setTop' g h.top] at hend
  obtain ⟨g₀, hg0⟩ := Option.isSome_iff_exists.mp h.top
  obtain ⟨r, hr⟩ := State.topJava?_eq_some.mp hg0
  have hr' : (({ U with heap := s₂.heap, slotsUsed := s₂.slotsUsed } : State).setVm s₂.vm).frames = .java g₀ :: r := hr
  rcases hq' with ⟨hqc, L, hfe, hL⟩ | ⟨q, rfl, E, ce, L, hx, hce, hcv, hcl, hW₂, hsm, hL⟩
  · obtain ⟨⟨v, rfl⟩, hW₂, e2, q2, q3, q4, q5, q6⟩ := id hfe
    have e3 : s₂ = ({ (U.calling g mk a).setFrames s₂.frames with heap := s₂.heap, slotsUsed := s₂.slotsUsed } : State).setVm s₂.vm := by
      have : s₂ = ({ s₂ with vm := (U.calling g mk a).vm } : State).setVm s₂.vm := rfl
      rw [e2] at this
      exact this
    obtain ⟨c₂, i₂, len₂, hc₂, hd₂, hf₂⟩ := hend
    have hW' : U.WarmedH s₂.vm := hW₂
    have hcc : c₂ = c := by
      have h1 : s₂.code? g.method = U.code? g.method := by
        rw [State.code?_eq, State.code?_eq, hW'.alike.method?]
      exact Option.some.inj (hc₂.symm.trans (h1.trans h.code))
    subst hcc
    have hlen : len₂ = len := by rw [hdg] at hd₂; cases hd₂; rfl
    subst hlen
    have hs₂ : s₂ = (({ U with heap := s₂.heap, slotsUsed := s₂.slotsUsed } : State).setVm s₂.vm).setTop { g with pc := g.pc + len₂, stack := v.toList ++ g.stack } := by
      refine e3.trans ?_
      rw [hf₂, State.calling_eq h.top, State.setFrames_setFrames, State.setTop_of_frames _ hr', hr]
      rfl
    have hsame : U.sameButNew ({ U with heap := s₂.heap, slotsUsed := s₂.slotsUsed } : State) L mc ms := by
      refine ⟨?_, q2, q3, q4, q5, q6⟩
      obtain ⟨t, ht, -⟩ := State.frames_cons hr
      show ({ U with heap := s₂.heap, slotsUsed := s₂.slotsUsed } : State) = { U.setFrames U.frames with heap := s₂.heap, slotsUsed := s₂.slotsUsed }
      rw [State.setFrames_self ht]
    subst hg
    refine Or.inl ⟨v, ⟨(({ U with heap := s₂.heap, slotsUsed := s₂.slotsUsed } : State).setVm s₂.vm), Ls ++ L, c0 + mc, s0 + ms⟩,
      ⟨X.admits, X.cas, X.clock, X.frames, X.room, X.hears, X.method, X.code, (X.here.setHeapUsed s₂.heap s₂.slotsUsed).setVm hW'.alike, X.tail, State.WarmedH.trans X.warmed hW', X.limits, X.bytes, X.same.trans (hsame.setVm s.vm)⟩,
      ⟨g, mk, s₂, L, rfl, rfl, hqc, rfl, hL, rfl, rfl⟩, ?_⟩
    show Steps p.tables e below _ ((({ U with heap := s₂.heap, slotsUsed := s₂.slotsUsed } : State).setVm s₂.vm).setTop { g with pc := g.pc + len₂, stack := v.toList ++ g.stack })
    rw [← hs₂]
    exact hsteps
  · obtain ⟨e2, q2, q3, q4, q5, q6⟩ := id hsm
    have e3 : s₂ = ({ (U.calling g mk a).setFrames s₂.frames with heap := s₂.heap, slotsUsed := s₂.slotsUsed } : State).setVm s₂.vm := by
      have : s₂ = ({ s₂ with vm := (U.calling g mk a).vm } : State).setVm s₂.vm := rfl
      rw [e2] at this
      exact this
    have hf₂ : s₂.frames = .throwing q :: .java g :: U.frames.tail := hend
    have hW' : U.WarmedH s₂.vm := hW₂
    have hs₂ : s₂ = ((({ U with heap := s₂.heap, slotsUsed := s₂.slotsUsed } : State).setVm s₂.vm).setTop g).pushFrame (.throwing q) := by
      refine e3.trans ?_
      rw [hf₂, State.calling_eq h.top, State.setFrames_setFrames, State.pushFrame, State.frames_setTop _ hr', State.setTop_of_frames _ hr', State.setFrames_setFrames, hr]
      rfl
    have hsame : U.sameButNew ({ U with heap := s₂.heap, slotsUsed := s₂.slotsUsed } : State) L mc ms := by
      refine ⟨?_, q2, q3, q4, q5, q6⟩
      obtain ⟨t, ht, -⟩ := State.frames_cons hr
      show ({ U with heap := s₂.heap, slotsUsed := s₂.slotsUsed } : State) = { U.setFrames U.frames with heap := s₂.heap, slotsUsed := s₂.slotsUsed }
      rw [State.setFrames_self ht]
    subst hg
    refine Or.inr ⟨q, ⟨(({ U with heap := s₂.heap, slotsUsed := s₂.slotsUsed } : State).setVm s₂.vm), Ls ++ L, c0 + mc, s0 + ms⟩,
      ⟨X.admits, X.cas, X.clock, X.frames, X.room, X.hears, X.method, X.code, (X.here.setHeapUsed s₂.heap s₂.slotsUsed).setVm hW'.alike, X.tail, State.WarmedH.trans X.warmed hW', X.limits, X.bytes, X.same.trans (hsame.setVm s.vm)⟩,
      ⟨g, mk, s₂, L, E, ce, rfl, rfl, hx, hce, hcv, hcl, rfl, hL, rfl, rfl⟩, ?_⟩
    show Steps p.tables e below _ (((({ U with heap := s₂.heap, slotsUsed := s₂.slotsUsed } : State).setVm s₂.vm).setTop g).pushFrame (.throwing q))
    rw [← hs₂]
    exact hsteps
end
variable {p : Program} {l : Launch} {e : Env} {R : Room} {s : State} {m : MethodId} {args : Array Value} {below : List Frame} {meth : Method} {c : Code} {T : State} {H : Heap} {locs : List Loc} {cells slots : Nat}
theorem vx_callVX (X : Stand p l e R s m args below meth c T locs cells slots) (hexec : p.tables.exec = Jvm.exec) {own C : String} {index : Nat} {y : MethodName} {bytes : ByteArray} {maxL : Nat} {ret : Option FieldType} {hh : List (Nat × Nat × Nat × Nat)}
    (hown : s.vm.findClass own = some m.cls) (hlink : (Cond.methodLink own index y).before args s = true) (hinst : (Cond.instanceMethod y).before args s = true) (hsel : (Cond.selects C y y).before args s = true)
    (hcode : (Cond.codeWith y bytes maxL ret hh).before args s = true) (hy : y.cls ≠ "java/lang/invoke/MethodHandle" ∧ y.cls ≠ "java/lang/invoke/VarHandle")
    {W9 : Nat} {Pre : Pt → Array Value → Prop} {Post : Pt → Array Value → Option Value → Pt → Prop} {PostX : Pt → Array Value → Addr → Pt → Prop} (hK : vx_Back l R p e below s args y 3 W9 Pre Post PostX)
    {b : Addr} {cellB : Cell} (hcell : T.heap[b]? = some cellB) (hobj : cellB.vm.isStatics = false) (hcls : s.vm.findClass C = some cellB.cls)
    {g : JFrame} (hg : g.method = m) (hsize : g.locals.size = c.maxLocals) {argsL rest : List Value} (hlen : ∀ sig, parseMethodDescriptor y.desc = some sig → argsL.length = sig.parameters.length)
    (hstack : g.stack = argsL.reverse ++ .ref b :: rest) (hW : 2 * g.monitorRoom + (rest.map fun v => v.category).sum ≤ W9) (hdg : decode c.code g.pc = .ok (.invokevirtual index, 3))
    (hpre : ∀ vm₁, s.WarmedH vm₁ → Pre ⟨T.setVm vm₁, locs, cells, slots⟩ (Value.ref b :: argsL).toArray) :
    (∃ (v : Option Value) (vm₁ : Vm) (B : Pt), s.WarmedH vm₁ ∧ Stand p l e R s m args below meth c B.U B.locs B.cells B.slots ∧ Post ⟨T.setVm vm₁, locs, cells, slots⟩ (Value.ref b :: argsL).toArray v B ∧
      ∀ target, Steps p.tables e below (B.U.setTop { g with pc := g.pc + 3, stack := v.toList ++ rest }) target → Steps p.tables e below (T.setTop g) target) ∨
    (∃ (q : Addr) (vm₁ : Vm) (B : Pt), s.WarmedH vm₁ ∧ Stand p l e R s m args below meth c B.U B.locs B.cells B.slots ∧ PostX ⟨T.setVm vm₁, locs, cells, slots⟩ (Value.ref b :: argsL).toArray q B ∧
      Steps p.tables e below (T.setTop g) ((B.U.setTop { g with stack := rest }).pushFrame (.throwing q))) := by
  obtain ⟨mk, methM, hnamed, hmethM, hstM, habM⟩ := Cond.instanceMethod_spec hinst
  obtain ⟨m8, methM', cM, hn8, hmethM', -, -, -, -, -, -, hsigM⟩ := Cond.codeWith_spec hcode
  cases Option.some.inj (hn8.symm.trans hnamed)
  cases hmethM.symm.trans hmethM'
  obtain ⟨c2, r2, m2, q1, q2, q3, q4, kP, hkP, hkPi⟩ := Cond.selects_spec hsel
  cases hcls.symm.trans q1
  cases (State.methodFound?_of_named hnamed hy).symm.trans q2
  cases hnamed.symm.trans q3
  have hselP : selectMethod e.platform s.vm cellB.cls mk = .method mk := by rw [Launch.admits_selectMethod X.admits]; exact q4
  obtain ⟨vm₁, X₁, hstep₁⟩ := X.invokevirtual hexec hown hlink hnamed hmethM hstM hkP hkPi hy (a := b) (cell := cellB) hcell
    (fun z h => by rw [h] at hobj; cases hobj) hselP hmethM habM hkP hkPi (g := g) hg (argsL := argsL) (rest := rest) (hlen _ hsigM) hstack hdg
  rcases hK m meth c ⟨T.setVm vm₁, locs, cells, slots⟩ { g with stack := rest } (.invokevirtual index) mk (Value.ref b :: argsL).toArray X₁ hg hsize hdg hW (X₁.named hnamed) (hpre vm₁ X₁.warmed) with ⟨v, B, X', hpost, hsteps⟩ | ⟨q, B, X', hpost, hsteps⟩
  · exact Or.inl ⟨v, vm₁, B, X₁.warmed, X', hpost, fun target h => hstep₁ _ fun acts => by rw [doInvoke_state]; exact hsteps.trans h⟩
  · exact Or.inr ⟨q, vm₁, B, X₁.warmed, X', hpost, hstep₁ _ fun acts => by rw [doInvoke_state]; exact hsteps⟩
theorem vx_callSX (X : Stand p l e R s m args below meth c T locs cells slots) (hexec : p.tables.exec = Jvm.exec) {own : String} {index : Nat} {y : MethodName} {bytes : ByteArray} {maxL : Nat} {ret : Option FieldType} {hh : List (Nat × Nat × Nat × Nat)}
    (hown : s.vm.findClass own = some m.cls) (hlink : (Cond.methodLink own index y).before args s = true) (hstat : (Cond.static y).before args s = true) (hinit : (Cond.initialized y.cls).before args s = true)
    (hcode : (Cond.codeWith y bytes maxL ret hh).before args s = true) (hy : y.cls ≠ "java/lang/invoke/MethodHandle" ∧ y.cls ≠ "java/lang/invoke/VarHandle")
    {W9 : Nat} {Pre : Pt → Array Value → Prop} {Post : Pt → Array Value → Option Value → Pt → Prop} {PostX : Pt → Array Value → Addr → Pt → Prop} (hK : vx_Back l R p e below s args y 3 W9 Pre Post PostX)
    {g : JFrame} (hg : g.method = m) (hsize : g.locals.size = c.maxLocals) {argsL rest : List Value} (hlen : ∀ sig, parseMethodDescriptor y.desc = some sig → argsL.length = sig.parameters.length)
    (hstack : g.stack = argsL.reverse ++ rest) (hW : 2 * g.monitorRoom + (rest.map fun v => v.category).sum ≤ W9) (hdg : decode c.code g.pc = .ok (.invokestatic index, 3))
    (hpre : ∀ vm₁, s.WarmedH vm₁ → Pre ⟨T.setVm vm₁, locs, cells, slots⟩ argsL.toArray) :
    (∃ (v : Option Value) (vm₁ : Vm) (B : Pt), s.WarmedH vm₁ ∧ Stand p l e R s m args below meth c B.U B.locs B.cells B.slots ∧ Post ⟨T.setVm vm₁, locs, cells, slots⟩ argsL.toArray v B ∧
      ∀ target, Steps p.tables e below (B.U.setTop { g with pc := g.pc + 3, stack := v.toList ++ rest }) target → Steps p.tables e below (T.setTop g) target) ∨
    (∃ (q : Addr) (vm₁ : Vm) (B : Pt), s.WarmedH vm₁ ∧ Stand p l e R s m args below meth c B.U B.locs B.cells B.slots ∧ PostX ⟨T.setVm vm₁, locs, cells, slots⟩ argsL.toArray q B ∧
      Steps p.tables e below (T.setTop g) ((B.U.setTop { g with stack := rest }).pushFrame (.throwing q))) := by
  obtain ⟨mk, methM, cM, hnamed, hmethM, -, -, -, -, -, -, hsigM⟩ := Cond.codeWith_spec hcode
  have hstatic : methM.isStatic = true := Cond.static_spec hnamed hmethM hstat
  obtain ⟨kP, hkP, -⟩ := className_of_methodNamed hnamed
  have hinitP : kP.init = .initialized := Cond.initialized_spec (findClass_of_methodNamed hnamed) hkP hinit
  obtain ⟨vm₁, X₁, hstep₁⟩ := X.invokestatic hexec hown hlink hnamed hmethM hstatic hkP hinitP hy (g := g) hg (argsL := argsL) (rest := rest) (hlen _ hsigM) hstack hdg
  rcases hK m meth c ⟨T.setVm vm₁, locs, cells, slots⟩ { g with stack := rest } (.invokestatic index) mk argsL.toArray X₁ hg hsize hdg hW (X₁.named hnamed) (hpre vm₁ X₁.warmed) with ⟨v, B, X', hpost, hsteps⟩ | ⟨q, B, X', hpost, hsteps⟩
  · exact Or.inl ⟨v, vm₁, B, X₁.warmed, X', hpost, fun target h => hstep₁ _ fun acts => by rw [doInvoke_state]; exact hsteps.trans h⟩
  · exact Or.inr ⟨q, vm₁, B, X₁.warmed, X', hpost, hstep₁ _ fun acts => by rw [doInvoke_state]; exact hsteps⟩
theorem vx_callVW (X : Stand p l e R s m args below meth c T locs cells slots) (hexec : p.tables.exec = Jvm.exec) {own C : String} {index : Nat} {y : MethodName} {bytes : ByteArray} {maxL : Nat} {ret : Option FieldType} {hh : List (Nat × Nat × Nat × Nat)}
    (hown : s.vm.findClass own = some m.cls) (hlink : (Cond.methodLink own index y).before args s = true) (hinst : (Cond.instanceMethod y).before args s = true) (hsel : (Cond.selects C y y).before args s = true)
    (hcode : (Cond.codeWith y bytes maxL ret hh).before args s = true) (hy : y.cls ≠ "java/lang/invoke/MethodHandle" ∧ y.cls ≠ "java/lang/invoke/VarHandle")
    {W9 : Nat} {Pre : Pt → Array Value → Prop} {Post : Pt → Array Value → Option Value → Pt → Prop} (hK : Back l R p e below s args y 3 W9 Pre Post)
    {b : Addr} {cellB : Cell} (hcell : T.heap[b]? = some cellB) (hobj : cellB.vm.isStatics = false) (hcls : s.vm.findClass C = some cellB.cls)
    {g : JFrame} (hg : g.method = m) (hsize : g.locals.size = c.maxLocals) {argsL rest : List Value} (hlen : ∀ sig, parseMethodDescriptor y.desc = some sig → argsL.length = sig.parameters.length)
    (hstack : g.stack = argsL.reverse ++ .ref b :: rest) (hW : 2 * g.monitorRoom + (rest.map fun v => v.category).sum ≤ W9) (hdg : decode c.code g.pc = .ok (.invokevirtual index, 3))
    (hpre : ∀ vm₁, s.WarmedH vm₁ → Pre ⟨T.setVm vm₁, locs, cells, slots⟩ (Value.ref b :: argsL).toArray) :
    ∃ (v : Option Value) (vm₁ : Vm) (B : Pt), s.WarmedH vm₁ ∧ Stand p l e R s m args below meth c B.U B.locs B.cells B.slots ∧ Post ⟨T.setVm vm₁, locs, cells, slots⟩ (Value.ref b :: argsL).toArray v B ∧
      ∀ target, Steps p.tables e below (B.U.setTop { g with pc := g.pc + 3, stack := v.toList ++ rest }) target → Steps p.tables e below (T.setTop g) target := by
  obtain ⟨mk, methM, hnamed, hmethM, hstM, habM⟩ := Cond.instanceMethod_spec hinst
  obtain ⟨m8, methM', cM, hn8, hmethM', -, -, -, -, -, -, hsigM⟩ := Cond.codeWith_spec hcode
  cases Option.some.inj (hn8.symm.trans hnamed)
  cases hmethM.symm.trans hmethM'
  obtain ⟨c2, r2, m2, q1, q2, q3, q4, kP, hkP, hkPi⟩ := Cond.selects_spec hsel
  cases hcls.symm.trans q1
  cases (State.methodFound?_of_named hnamed hy).symm.trans q2
  cases hnamed.symm.trans q3
  have hselP : selectMethod e.platform s.vm cellB.cls mk = .method mk := by rw [Launch.admits_selectMethod X.admits]; exact q4
  obtain ⟨vm₁, X₁, hstep₁⟩ := X.invokevirtual hexec hown hlink hnamed hmethM hstM hkP hkPi hy (a := b) (cell := cellB) hcell
    (fun z h => by rw [h] at hobj; cases hobj) hselP hmethM habM hkP hkPi (g := g) hg (argsL := argsL) (rest := rest) (hlen _ hsigM) hstack hdg
  obtain ⟨v, B, X', hpost, hsteps⟩ := hK m meth c ⟨T.setVm vm₁, locs, cells, slots⟩ { g with stack := rest } (.invokevirtual index) mk (Value.ref b :: argsL).toArray X₁ hg hsize hdg hW (X₁.named hnamed) (hpre vm₁ X₁.warmed)
  exact ⟨v, vm₁, B, X₁.warmed, X', hpost, fun target h => hstep₁ _ fun acts => by rw [doInvoke_state]; exact hsteps.trans h⟩
abbrev vx_CVW (R : Room) (s : State) (args : Array Value) (own C : String) (index : Nat) (y : MethodName) (bytes : ByteArray) (maxL : Nat) (ret : Option FieldType) (hh : List (Nat × Nat × Nat × Nat)) (ws : List Cond) (rm : Room) (mc ms n : Nat) : Prop :=
  (rm.cells = mc ∧ rm.slots = ms ∧ rm.frames + 1 ≤ R.frames ∧ 8 + (maxL + 11) + rm.locals ≤ R.locals ∧ (∀ w ∈ ws, ∀ (a' : Array Value) (U : State), s.WarmedH U.vm → w.before a' U = true) ∧ Cond.codeWith y bytes maxL ret hh ∈ ws) ∧
  (Cond.codeWith y bytes maxL ret hh).before args s = true ∧ (Cond.initialized y.cls).before args s = true ∧ (y.cls ≠ "java/lang/invoke/MethodHandle" ∧ y.cls ≠ "java/lang/invoke/VarHandle") ∧
  (∀ sig, parseMethodDescriptor y.desc = some sig → n = sig.parameters.length) ∧ (Cond.methodLink own index y).before args s = true ∧ (Cond.instanceMethod y).before args s = true ∧ (Cond.selects C y y).before args s = true
theorem vx_cwVW {own C : String} {index maxL mc ms : Nat} {y : MethodName} {bytes : ByteArray} {ret : Option FieldType} {hh : List (Nat × Nat × Nat × Nat)} {Ts ws ws' : List Cond} {rm : Room} (n : Nat) (ht : ∀ w ∈ Ts, w.before args s = true) (hT : GoodIn Ts (wsV own index C y ws)) (hw : ws = Cond.codeWith y bytes maxL ret hh :: ws') (hrc : rm.cells = mc) (hrs : rm.slots = ms)
    (hd : y.cls = C ∧ y.cls ≠ "java/lang/invoke/MethodHandle" ∧ y.cls ≠ "java/lang/invoke/VarHandle" ∧ (parseMethodDescriptor y.desc).map (fun d => d.parameters.length) = some n) (hR : rm.frames + 1 ≤ R.frames ∧ 8 + (maxL + 11) + rm.locals ≤ R.locals) :
    vx_CVW R s args own C index y bytes maxL ret hh ws rm mc ms n := by
  obtain ⟨hC, hd⟩ := hd
  subst hC
  have ok : ∀ w ∈ wsV own index y.cls y ws, w.before args s = true := fun w h => ht w (hT w h).1
  have hG : GoodIn Ts ws := fun w h => hT w (by unfold wsV; exact List.mem_append_right _ h)
  have hc : Cond.codeWith y bytes maxL ret hh ∈ ws := by rw [hw]; exact List.mem_cons_self
  refine ⟨⟨hrc, hrs, hR.1, hR.2, pay_in ht hG, hc⟩, ht _ (hG _ hc).1, ok _ (by simp [wsV]), ⟨hd.1, hd.2.1⟩, fun sig h => ?_, ok _ (by simp [wsV]), ok _ (by simp [wsV]), ok _ (by simp [wsV])⟩
  have h2 := hd.2.2
  rw [h] at h2
  exact (Option.some.inj h2).symm
theorem vx_runVW {y : MethodName} {bytes cc : ByteArray} {maxL nL mc ms n index : Nat} {ret : Option FieldType} {hh : List (Nat × Nat × Nat × Nat)} {ws : List Cond} {rm : Room} {Pc : Array Value → State → Prop} {Qc : Array Value → State → Outcome → State → Prop} {free : Addr → Prop} {Ts : List Cond} {own C : String} {b : Addr} {As rest : List Value} {g : JFrame}
    (S : CallFix p m c cc nL s args Ts own) (hM : Met l y ws rm Pc Qc mc ms free) (cw : vx_CVW R s args own C index y bytes maxL ret hh ws rm mc ms n) (hp : PreV s H C b Pc As)
    (hg : g.method = m) (hn : As.length = n) (hsize : g.locals.size = nL) (hstack : g.stack = As.reverse ++ .ref b :: rest) (hW : 2 * g.monitorRoom + (rest.map fun v => v.category).sum ≤ 8) (hdg : decode cc g.pc = .ok (.invokevirtual index, 3)) (hf : cells + mc ≤ R.cells ∧ slots + ms ≤ R.slots) :
    va_Run p l e R s m args below meth c H locs cells slots mc ms g rest (Qc (Value.ref b :: As).toArray) free := by
  obtain ⟨⟨hrc, hrs, hfr, hlo, hws, hcw⟩, hcode, hini, hy, hlen, hl, hin, hse⟩ := cw
  have hK : Back l R p e below s args y 3 8 (PreOf R mc ms Pc) (PostOf Qc mc ms free) := va_backW (hh := hh) (bytes := bytes) (maxL := maxL) (ret := ret) hM hp.1 hrc hrs hfr hlo hws hcw (fun a' U hW => word_at hW (Or.inl (by first | rfl | simp [Cond.onTables, Cond.keeps, Cond.steady])) hini)
  obtain ⟨hx, hb, hml, ho, -⟩ := S
  obtain ⟨-, ⟨cellB, hcB, hoB, hclB⟩, hPc⟩ := hp
  intro T hT X
  obtain ⟨v, vm₁, ⟨U', l2, c2, s2⟩, hW₁, X', ⟨g', mk, t, L, e1, e2, hq, h1, hL, h2, h3⟩, st⟩ := vx_callVW X hx (C := C) (hh := hh) (bytes := bytes) (maxL := maxL) (ret := ret) ho hl hin hse hcode hy hK (by rw [hT]; exact hcB) hoB hclB hg (hsize.trans hml.symm) (argsL := As) (rest := rest) (fun sig h => hn.trans (hlen sig h)) hstack hW (by rw [hb]; exact hdg)
    (fun vm₁ hW₁ => ⟨hf.1, hf.2, hPc (T.setVm vm₁) hT hW₁⟩)
  dsimp only [Pt.U, Pt.locs, Pt.cells, Pt.slots] at X' e1 e2 h1 h2 h3 st
  subst h1; subst h2; subst h3
  exact ⟨v, (T.setVm vm₁).calling g' mk (Value.ref b :: As).toArray, t, U', L, hT, X', hL, e1, e2, hq, st⟩
section
variable {y : MethodName} {bytes cc : ByteArray} {maxL nL mc ms n index : Nat} {ret : Option FieldType} {ws : List Cond} {rm : Room} {Pc : Array Value → State → Prop} {Qc : Array Value → State → Outcome → State → Prop} {XC : String → State → State → Prop} {free : Addr → Prop} {Ts : List Cond} {own C : String} {b : Addr} {As rest : List Value} {g : JFrame}
theorem vx_runVX {hh : List (Nat × Nat × Nat × Nat)} (S : CallFix p m c cc nL s args Ts own) (hM : vx_Met l y ws rm Pc Qc XC mc ms free) (cw : vx_CVW R s args own C index y bytes maxL ret hh ws rm mc ms n) (hp : PreV s H C b Pc As)
    (hg : g.method = m) (hn : As.length = n) (hsize : g.locals.size = nL) (hstack : g.stack = As.reverse ++ .ref b :: rest) (hW : 2 * g.monitorRoom + (rest.map fun v => v.category).sum ≤ 8) (hdg : decode cc g.pc = .ok (.invokevirtual index, 3)) (hf : cells + mc ≤ R.cells ∧ slots + ms ≤ R.slots) :
    vx_Run p l e R s m args below meth c H locs cells slots mc ms g rest (Qc (Value.ref b :: As).toArray) XC free := by
  obtain ⟨⟨hrc, hrs, hfr, hlo, hws, hcw⟩, hcode, hini, hy, hlen, hl, hin, hse⟩ := cw
  have hK : vx_Back l R p e below s args y 3 8 (PreOf R mc ms Pc) (PostOf Qc mc ms free) (vx_Post XC mc ms free) := vx_backW (hh := hh) (bytes := bytes) (maxL := maxL) (ret := ret) hM hp.1 hrc hrs hfr hlo hws hcw (fun a' U hW => word_at hW (Or.inl (by first | rfl | simp [Cond.onTables, Cond.keeps, Cond.steady])) hini)
  obtain ⟨hx, hb, hml, ho, -⟩ := S
  obtain ⟨-, ⟨cellB, hcB, hoB, hclB⟩, hPc⟩ := hp
  intro T hT X
  rcases vx_callVX X hx (C := C) (hh := hh) (bytes := bytes) (maxL := maxL) (ret := ret) ho hl hin hse hcode hy hK (by rw [hT]; exact hcB) hoB hclB hg (hsize.trans hml.symm) (argsL := As) (rest := rest) (fun sig h => hn.trans (hlen sig h)) hstack hW (by rw [hb]; exact hdg)
    (fun vm₁ hW₁ => ⟨hf.1, hf.2, hPc (T.setVm vm₁) hT hW₁⟩) with ⟨v, vm₁, ⟨U', l2, c2, s2⟩, hW₁, X', ⟨g', mk, t, L, e1, e2, hq, h1, hL, h2, h3⟩, st⟩ | ⟨q, vm₁, ⟨U', l2, c2, s2⟩, hW₁, X', ⟨g', mk, t, L, E, ce, e1, e2, hq, hce, hcv, hcl, h1, hL, h2, h3⟩, st⟩
  · dsimp only [Pt.U, Pt.locs, Pt.cells, Pt.slots] at X' e1 e2 h1 h2 h3 st
    subst h1; subst h2; subst h3
    exact Or.inl ⟨v, (T.setVm vm₁).calling g' mk (Value.ref b :: As).toArray, t, U', L, hT, X', hL, e1, e2, hq, st⟩
  · dsimp only [Pt.U, Pt.locs, Pt.cells, Pt.slots] at X' e1 e2 h1 h2 h3 st hcl
    subst h1; subst h2; subst h3
    exact Or.inr ⟨q, (T.setVm vm₁).calling g' mk (Value.ref b :: As).toArray, t, U', L, E, ce, hT, X', hL, e1, e2, hq, hce, hcv, vx_cls hW₁ hcl, st⟩
theorem vx_runSX {hh : List (Nat × Nat × Nat × Nat)} (S : CallFix p m c cc nL s args Ts own) (hM : vx_Met l y ws rm Pc Qc XC mc ms free) (cw : vx_CSW R s args own index y bytes maxL ret hh ws rm mc ms n) (hp : PreS s H Pc As)
    (hg : g.method = m) (hn : As.length = n) (hsize : g.locals.size = nL) (hstack : g.stack = As.reverse ++ rest) (hW : 2 * g.monitorRoom + (rest.map fun v => v.category).sum ≤ 8) (hdg : decode cc g.pc = .ok (.invokestatic index, 3)) (hf : cells + mc ≤ R.cells ∧ slots + ms ≤ R.slots) :
    vx_Run p l e R s m args below meth c H locs cells slots mc ms g rest (Qc As.toArray) XC free := by
  obtain ⟨⟨hrc, hrs, hfr, hlo, hws, hcw⟩, hcode, hini, hy, hlen, hl, hstt⟩ := cw
  have hK : vx_Back l R p e below s args y 3 8 (PreOf R mc ms Pc) (PostOf Qc mc ms free) (vx_Post XC mc ms free) := vx_backW (hh := hh) (bytes := bytes) (maxL := maxL) (ret := ret) hM hp.1 hrc hrs hfr hlo hws hcw (fun a' U hW => word_at hW (Or.inl (by first | rfl | simp [Cond.onTables, Cond.keeps, Cond.steady])) hini)
  obtain ⟨hx, hb, hml, ho, -⟩ := S
  intro T hT X
  rcases vx_callSX X hx (hh := hh) (bytes := bytes) (maxL := maxL) (ret := ret) ho hl hstt hini hcode hy hK hg (hsize.trans hml.symm) (argsL := As) (rest := rest) (fun sig h => hn.trans (hlen sig h)) hstack hW (by rw [hb]; exact hdg)
    (fun vm₁ hW₁ => ⟨hf.1, hf.2, hp.2 (T.setVm vm₁) hT hW₁⟩) with ⟨v, vm₁, ⟨U', l2, c2, s2⟩, hW₁, X', ⟨g', mk, t, L, e1, e2, hq, h1, hL, h2, h3⟩, st⟩ | ⟨q, vm₁, ⟨U', l2, c2, s2⟩, hW₁, X', ⟨g', mk, t, L, E, ce, e1, e2, hq, hce, hcv, hcl, h1, hL, h2, h3⟩, st⟩
  · dsimp only [Pt.U, Pt.locs, Pt.cells, Pt.slots] at X' e1 e2 h1 h2 h3 st
    subst h1; subst h2; subst h3
    exact Or.inl ⟨v, (T.setVm vm₁).calling g' mk As.toArray, t, U', L, hT, X', hL, e1, e2, hq, st⟩
  · dsimp only [Pt.U, Pt.locs, Pt.cells, Pt.slots] at X' e1 e2 h1 h2 h3 st hcl
    subst h1; subst h2; subst h3
    exact Or.inr ⟨q, (T.setVm vm₁).calling g' mk As.toArray, t, U', L, E, ce, hT, X', hL, e1, e2, hq, hce, hcv, vx_cls hW₁ hcl, st⟩
end
end VXH
theorem vx_ofWH {l : Launch} {y : MethodName} {ws ws' : List Cond} {rm : Room} {Pc : Array Value → State → Prop} {Qc : Array Value → State → Outcome → State → Prop} {XC : String → State → State → Prop} {mc ms : Nat} {free : Addr → Prop} {cc : ByteArray} {maxL : Nat} {ret : Option FieldType} {hh : List (Nat × Nat × Nat × Nat)}
    (hy : plainName y.cls = true) (hw : ws = Cond.codeWith y cc maxL ret hh :: ws')
    (body : ∀ p e s m args below meth c s₁, BodyLoose p l y (headSpec ws rm) cc maxL ret e s m args below meth c s₁ → c.maxLocals = maxL → Pc args s →
      W p l e (headSpec ws rm).room s m args below meth c s.heap [] 0 0 (vx_MQ below Qc XC args s mc ms free) (entryFrame m args maxL)) : vx_Met l y ws rm Pc Qc XC mc ms free := by
  refine MetFree.of_bodyS (code := cc) (maxLocals := maxL) (ret := ret) hy ?_ ?_
  · intro args s m h hn
    obtain ⟨m9, meth, c, hn9, h1, h2, h3, h4, -, h5, h6, -⟩ := Cond.codeWith_spec (atoms_spec (ws := ws) h _ (by rw [hw]; exact List.mem_cons_self))
    cases hn.symm.trans hn9
    exact ⟨meth, c, h1, h2, h3, h4, h5, h6⟩
  · intro p e s m args below meth c s₁ B hml hP _
    have hh0 : s₁.heap = s.heap := by rw [B.state]; rfl
    obtain ⟨t, a1, o, b1, b2, b3⟩ := body p e s m args below meth c s₁ B hml hP s₁ hh0 (Stand.of_body B)
    exact ⟨t, o, a1, b1, b2, b3⟩
/-! ===== END ===== -/
end
section
section XSU
set_option maxHeartbeats 4000000 in
set_option maxRecDepth 100000 in
/-- A CALL, ON THE MACHINE: behind it goes on whatever is known of the state there -/
theorem xe_call_ok {M : Nat → Option xm_M} {Cd : Nat → Nat → Option xr_R} {f : Nat} (hP : xP_ok M Cd) (hf : xS_ok M Cd f) {p : Program} {l : Launch} {e : Env} {R : Room} {s : State} {m : MethodId} {args : Array Value} {below : List Frame} {meth : Method} {c : Code} {H : Heap} {locs : List Loc} {Q : State → Prop} {ls : Array Slot} {D : va_G} {A : Nat → Prop} {ad sp : Nat → Nat} {cy : Nat → ClassId} {mi : xm_M} {pc d' : Nat} {lv : List (Nat × Value)} {st : List Value} {h : xh_H} {cells slots : Nat} {r : xr_R} {mj : xm_M} {As q : List Value} {v1 : Option Value} {h1 : xh_H} {mc ms : Nat}
    (hrb : xr_b mi.1 (xm_ini mi) mi.2.2.1 pc r = true) (hrc : xr_c M mi.1 r = true) (hcl : xe_cl M r st h = some (mj, As, q)) (hx1 : xe_x M Cd none f d' r.2.2.1 mj (0, lv_args 0 As, [], h, 0, 0) = some (v1, h1, mc, ms)) (X : xc_X p s m args meth c mi.2.2.1 mi.2.2.2.1 mi.1 (xm_ini mi) D cy A sp) (hR : d' + 1 ≤ R.frames ∧ 40 * (d' + 1) ≤ R.locals) (hcap0 : cells + mc ≤ R.cells ∧ slots + ms ≤ R.slots) (S : xc_S D cy ad sp A s mi.2.2.2.1 h lv H locs ls)
    (kk : ∀ (H1 : Heap) (locs1 : List Loc), xc_S D cy ad sp A s mi.2.2.2.1 h1 lv H1 locs1 ls → W p l e R s m args below meth c H1 locs1 (cells + mc) (slots + ms) Q (F0 m (pc + 3) ls ((v1.toList ++ q).map (xh_v ad sp)))) :
    W p l e R s m args below meth c H locs cells slots Q (F0 m pc ls (st.map (xh_v ad sp))) := by
  have X0 := X
  obtain ⟨hx, hb, hml, hown, hts, hK, hA, hO, hini⟩ := X
  obtain ⟨hat, hS, hl⟩ := S
  have hfree := xq_free hat hS hA
  have go : ∀ (H1 : Heap) (locs1 : List Loc), xh_at D cy ad A h1 H1 → va_S A s.heap H1 locs1 → W p l e R s m args below meth c H1 locs1 (cells + mc) (slots + ms) Q (F0 m (pc + 3) ls ((v1.map (xh_v ad sp)).toList ++ q.map (xh_v ad sp))) := by
    intro H1 locs1 a1 a2
    have K := kk H1 locs1 ⟨a1, a2, hl⟩
    rw [List.map_append] at K
    cases v1 with
    | none => exact K
    | some w => exact K
  have hcap : cells + mc ≤ R.cells ∧ slots + ms ≤ R.slots := hcap0
  unfold xe_cl at hcl
  split at hcl
  · cases hcl
  · rename_i mk hmk
    have hk3 : mk.2.2.2.2.2.1 ≠ 3 := by
      intro z
      rw [z] at hcl
      split at hcl
      · obtain ⟨_, z2⟩ := xw_bb (xw_c hcl).1
        cases (xw_bb z2).1
      · split at hcl
        · split at hcl
          · obtain ⟨_, z2⟩ := xw_bb (xw_c hcl).1
            cases (xw_bb z2).1
          · cases hcl
        · cases hcl
      · split at hcl
        · obtain ⟨_, z2⟩ := xw_bb (xw_c hcl).1
          cases (xw_bb z2).1
        · cases hcl
      · cases hcl
    have hok' := (hP.1 _ _ hmk).1 hk3
    have hgi := xG_in hok'
    have hok2 := hok'
    obtain ⟨j1, j2, j3, j4, j5, j6, j7, j8, j9⟩ := hok'
    have hRm : ∀ mc ms : Nat, (xm_rm d' mc ms).frames + 1 ≤ R.frames ∧ 8 + (mk.2.2.2.1 + 11) + (xm_rm d' mc ms).locals ≤ R.locals := by
      intro mc ms
      have a1 := hR.1
      have a2 := hR.2
      refine ⟨a1, ?_⟩
      show 8 + (mk.2.2.2.1 + 11) + 40 * d' ≤ R.locals
      omega
    split at hcl
    · rename_i idx hi1
      obtain ⟨b1, b2⟩ := xw_c hcl
      cases b2
      obtain ⟨b0, b1⟩ := xw_bb b1
      obtain ⟨b1, b3⟩ := xw_bb b1
      obtain ⟨b3, b4⟩ := xw_bb b3
      obtain ⟨b4, b5⟩ := xw_bb b4
      replace b0 := xw_beq b0
      replace b1 := xw_beq b1
      replace b3 := xw_beq b3
      replace b4 := xw_ble b4
      replace b5 := xw_ble b5
      have hlk : Cond.methodLink mi.1 idx mj.2.1 ∈ xG := by
        unfold xr_c at hrc
        rw [hi1] at hrc
        dsimp only at hrc
        rw [b0] at hrc
        try dsimp only at hrc
        rw [hmk] at hrc
        exact xw_in hrc
      have hd := xr_len3 hrb (by rw [hi1]; rfl) (by rw [hi1]; intro a b d e z; cases z)
      rw [hi1] at hd
      have hM := xe_met (D := D) (cy := cy) (ad := ad) (sp := sp) hP hf hx1 hmk hok2 b5 l H.size
      have hst : st.map (xh_v ad sp) = ((st.take mj.2.2.2.2.2.2.1).reverse.map (xh_v ad sp)).reverse ++ (st.drop mj.2.2.2.2.2.2.1).map (xh_v ad sp) := by
        rw [← List.map_reverse, List.reverse_reverse, ← List.map_append, List.take_append_drop]
      refine xa_call (va_runS (As := (st.take mj.2.2.2.2.2.2.1).reverse.map (xh_v ad sp)) ⟨hx, hb, hml, hown, hts⟩ hM ⟨callB_of mj.2.2.2.2.2.2.1 hts hgi rfl rfl rfl (hts _ j2) (hts _ hlk) j5 (hRm mc ms), hts _ (j8 b1)⟩ ⟨xq_blind _ _ _, xq_pre X0 hat hS⟩ rfl (by rw [List.length_map, List.length_reverse]; exact b3) hl.1 hst (lv_room ?_) hd hcap) hS hfree go
      show xm_cat ((st.drop mj.2.2.2.2.2.2.1).map (xh_v ad sp)) ≤ 8
      rw [xm_cat_m]
      exact b4
    · rename_i idx hi1
      split at hcl
      · rename_i bb q2 hdrop
        split at hcl
        · rename_i ci hci
          obtain ⟨b1, b2⟩ := xw_c hcl
          cases b2
          obtain ⟨b0, b1⟩ := xw_bb b1
          obtain ⟨b1, b3⟩ := xw_bb b1
          obtain ⟨b3, b4⟩ := xw_bb b3
          obtain ⟨b4, b5⟩ := xw_bb b4
          replace b0 := xw_beq b0
          replace b1 := xw_beq b1
          replace b3 := xw_beq b3
          replace b4 := xw_ble b4
          replace b5 := xw_ble b5
          have hlk : Cond.methodLink mi.1 idx mj.2.1 ∈ xG := by
            unfold xr_c at hrc
            rw [hi1] at hrc
            dsimp only at hrc
            split at hrc
            · rw [hmk] at hrc
              cases (xw_bb hrc).2
            · rw [hmk] at hrc
              cases (xw_bb hrc).2
            · rw [hmk] at hrc
              exact xw_in hrc
          have hd := xr_len3 hrb (by rw [hi1]; rfl) (by rw [hi1]; intro a b d e z; cases z)
          rw [hi1] at hd
          have hM := xe_met (D := D) (cy := cy) (ad := ad) (sp := sp) hP hf hx1 hmk hok2 b5 l H.size
          have hst : st.map (xh_v ad sp) = ((st.take mj.2.2.2.2.2.2.1).reverse.map (xh_v ad sp)).reverse ++ .ref (ad bb) :: q.map (xh_v ad sp) := by
            rw [← List.map_reverse, List.reverse_reverse]
            have : st = st.take mj.2.2.2.2.2.2.1 ++ .ref bb :: q := by rw [← hdrop, List.take_append_drop]
            conv => lhs; rw [this]
            rw [List.map_append]
            rfl
          obtain ⟨T, N, hv⟩ := (j7 b1).2.2
          rw [← b0] at hv
          refine xa_call (va_runV (C := mj.2.1.cls) (b := ad bb) (As := (st.take mj.2.2.2.2.2.2.1).reverse.map (xh_v ad sp)) ⟨hx, hb, hml, hown, hts⟩ hM ⟨callB_of mj.2.2.2.2.2.2.1 hts hgi rfl rfl rfl (hts _ j2) (hts _ hlk) j5 (hRm mc ms), hts _ (j7 b1).1, hts _ (j7 b1).2.1⟩ ⟨xq_blind _ _ _, va_recv hK hat.1 hv (xh_ws_at hci), xq_pre X0 hat hS⟩ rfl (by rw [List.length_map, List.length_reverse]; exact b3) hl.1 hst (lv_room ?_) hd hcap) hS hfree go
          show xm_cat (q.map (xh_v ad sp)) ≤ 8
          rw [xm_cat_m]
          exact b4
        · cases hcl
      · cases hcl
    · rename_i idx hi1
      split at hcl
      · rename_i bb q2 hdrop
        obtain ⟨b1, b2⟩ := xw_c hcl
        cases b2
        obtain ⟨b0, b1⟩ := xw_bb b1
        obtain ⟨b1, b3⟩ := xw_bb b1
        obtain ⟨b3, b4⟩ := xw_bb b3
        obtain ⟨b4, b5⟩ := xw_bb b4
        replace b0 := xw_beq b0
        replace b1 := xw_beq b1
        replace b3 := xw_beq b3
        replace b4 := xw_ble b4
        replace b5 := xw_ble b5
        have hlk : Cond.methodLink mi.1 idx mj.2.1 ∈ xG := by
          unfold xr_c at hrc
          rw [hi1] at hrc
          dsimp only at hrc
          rw [b0] at hrc
          try dsimp only at hrc
          rw [hmk] at hrc
          exact xw_in hrc
        have hd := xr_len3 hrb (by rw [hi1]; rfl) (by rw [hi1]; intro a b d e z; cases z)
        rw [hi1] at hd
        have hM := xe_met (D := D) (cy := cy) (ad := ad) (sp := sp) hP hf hx1 hmk hok2 b5 l H.size
        have hst : st.map (xh_v ad sp) = ((st.take mj.2.2.2.2.2.2.1).reverse.map (xh_v ad sp)).reverse ++ .ref (ad bb) :: q.map (xh_v ad sp) := by
          rw [← List.map_reverse, List.reverse_reverse]
          have : st = st.take mj.2.2.2.2.2.2.1 ++ .ref bb :: q := by rw [← hdrop, List.take_append_drop]
          conv => lhs; rw [this]
          rw [List.map_append]
          rfl
        obtain ⟨n1, n2, n3⟩ := j9 b1
        unfold xq_M at hM
        rw [n3] at hM hgi
        have hpre : PreS s H (va_Pc ((.ref bb :: (st.take mj.2.2.2.2.2.2.1).reverse).map (xh_v ad sp)) (xq_P D cy ad sp h H.size)) (.ref (ad bb) :: (st.take mj.2.2.2.2.2.2.1).reverse.map (xh_v ad sp)) := ⟨xq_blind _ _ _, xq_pre X0 hat hS⟩
        refine xa_call (va_runI (b := ad bb) (As := (st.take mj.2.2.2.2.2.2.1).reverse.map (xh_v ad sp)) ⟨hx, hb, hml, hown, hts⟩ hM ⟨callB_of mj.2.2.2.2.2.2.1 hts hgi rfl rfl rfl (hts _ j2) (hts _ hlk) j5 (hRm mc ms), n2, hts _ n1⟩ hpre rfl (by rw [List.length_map, List.length_reverse]; exact b3) hl.1 hst (lv_room ?_) hd hcap) hS hfree go
        show xm_cat (q.map (xh_v ad sp)) ≤ 8
        rw [xm_cat_m]
        exact b4
      · cases hcl
    · cases hcl
end XSU
end
section
section XSV
theorem xe_u_mono {M : Nat → Option xm_M} {Cd : Nat → Nat → Option xr_R} {scr : Option (Nat × (Nat → Int32))} {stop mid : Nat} {mi : xm_M} : ∀ (f d : Nat) (pc : Nat) (lv : List (Nat × Value)) (st : List Value) (h : xh_H) (c s : Nat) (pc' : Nat) (lv' : List (Nat × Value)) (st' : List Value) (h' : xh_H) (c' s' : Nat), xe_u M Cd scr stop f d mid mi (pc, lv, st, h, c, s) = some (pc', lv', st', h', c', s') → c ≤ c' ∧ s ≤ s' := by
  intro f
  induction f with
  | zero => intro d pc lv st h c s pc' lv' st' h' c' s' he; cases he
  | succ f ih =>
    intro d pc lv st h c s pc' lv' st' h' c' s' he
    unfold xe_u at he
    cases hb : Nat.beq pc stop with
    | true => rw [hb] at he; cases he; exact ⟨Nat.le_refl _, Nat.le_refl _⟩
    | false =>
      rw [hb] at he
      simp only [cond_false] at he
      split at he
      · cases he
      · rename_i r hr
        cases hi : xe_isr r.1 with
        | true => rw [hi] at he; cases he
        | false =>
          rw [hi] at he
          simp only [cond_false] at he
          split at he
          · rename_i o ho
            obtain ⟨pc1, lv1, st1, h1, c1, s1⟩ := o
            have a := xe_2_mono ho
            have b := ih _ _ _ _ _ _ _ _ _ _ _ _ _ he
            exact ⟨Nat.le_trans a.1 b.1, Nat.le_trans a.2 b.2⟩
          · split at he
            · cases he
            · split at he
              · cases he
              · split at he
                · cases he
                · have b := ih _ _ _ _ _ _ _ _ _ _ _ _ _ he
                  exact ⟨Nat.le_trans (Nat.le_add_right _ _) b.1, Nat.le_trans (Nat.le_add_right _ _) b.2⟩
set_option maxHeartbeats 4000000 in
/-- A RUN UP TO A PLACE, ON THE MACHINE -/
theorem xS_u {M : Nat → Option xm_M} {Cd : Nat → Nat → Option xr_R} (hP : xP_ok M Cd) {scr : Option (Nat × (Nat → Int32))} {stop mid : Nat} {mi : xm_M} (hm : M mid = some mi) {p : Program} {l : Launch} {e : Env} {R : Room} {s : State} {m : MethodId} {args : Array Value} {below : List Frame} {meth : Method} {c : Code} {Q : State → Prop} {D : va_G} {A : Nat → Prop} {ad sp : Nat → Nat} {cy : Nat → ClassId} (X : xc_X p s m args meth c mi.2.2.1 mi.2.2.2.1 mi.1 (xm_ini mi) D cy A sp) (hscr : ∀ L xs, scr = some (L, xs) → va_X (sp 0) L xs s s.heap ∧ sp 0 < s.heap.size ∧ ¬ A (sp 0)) : ∀ (f d : Nat) (pc : Nat) (lv : List (Nat × Value)) (st : List Value) (h : xh_H) (cells slots : Nat) (pc' : Nat) (lv' : List (Nat × Value)) (st' : List Value) (h' : xh_H) (c' s' : Nat) (H : Heap) (locs : List Loc) (ls : Array Slot), xe_u M Cd scr stop f d mid mi (pc, lv, st, h, cells, slots) = some (pc', lv', st', h', c', s') → (d ≤ R.frames ∧ 40 * d ≤ R.locals ∧ c' ≤ R.cells ∧ s' ≤ R.slots) → xc_S D cy ad sp A s mi.2.2.2.1 h lv H locs ls →
    (∀ (H1 : Heap) (locs1 : List Loc) (ls1 : Array Slot), xc_S D cy ad sp A s mi.2.2.2.1 h' lv' H1 locs1 ls1 → W p l e R s m args below meth c H1 locs1 c' s' Q (F0 m pc' ls1 (st'.map (xh_v ad sp)))) →
    W p l e R s m args below meth c H locs cells slots Q (F0 m pc ls (st.map (xh_v ad sp))) := by
  intro f
  induction f with
  | zero => intro d pc lv st h cells slots pc' lv' st' h' c' s' H locs ls he; cases he
  | succ f ih =>
    intro d pc lv st h cells slots pc' lv' st' h' c' s' H locs ls he hR S kk
    unfold xe_u at he
    cases hb : Nat.beq pc stop with
    | true => rw [hb] at he; cases he; exact kk _ _ _ S
    | false =>
      rw [hb] at he
      simp only [cond_false] at he
      split at he
      · cases he
      · rename_i r hr
        obtain ⟨hrb, hrc⟩ := (hP.1 mid mi hm).2 pc r hr
        cases hi : xe_isr r.1 with
        | true => rw [hi] at he; cases he
        | false =>
          rw [hi] at he
          simp only [cond_false] at he
          split at he
          · rename_i o ho
            obtain ⟨pc1, lv1, st1, h1, c1, s1⟩ := o
            have hmn := xe_u_mono _ _ _ _ _ _ _ _ _ _ _ _ _ _ he
            refine xe_2_ok hP.2 X hrb hrc ho ⟨hR.1, hR.2.1⟩ ⟨Nat.le_trans hmn.1 hR.2.2.1, Nat.le_trans hmn.2 hR.2.2.2⟩ hscr S ?_
            intro H1 locs1 ls1 S1
            exact ih _ _ _ _ _ _ _ _ _ _ _ _ _ _ _ _ he hR S1 kk
          · split at he
            · cases he
            · rename_i d' hx0
              split at he
              · cases he
              · rename_i mj As q hcl
                split at he
                · cases he
                · rename_i v1 h1 mc ms hx1
                  have hmn := xe_u_mono _ _ _ _ _ _ _ _ _ _ _ _ _ _ he
                  refine xe_call_ok hP (xS_all hP f) hrb hrc hcl hx1 X ⟨hR.1, hR.2.1⟩ ⟨Nat.le_trans hmn.1 hR.2.2.1, Nat.le_trans hmn.2 hR.2.2.2⟩ S ?_
                  intro H1 locs1 S1
                  exact ih _ _ _ _ _ _ _ _ _ _ _ _ _ _ _ _ he hR S1 kk
end XSV
end
