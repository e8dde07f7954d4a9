section
section XPP
theorem xq_sw {f mid : Nat} {mi : xm_M} {pc : Nat} {lv : List (Nat × Value)} {st : List Value} {h : xh_H} {Q : Option Value → xh_H → Prop} {dflt lo hi : Int} {offs : Array Int} {len ra rb rK ri : Nat} {x : Int32} (hr : xC mid pc = some (.tableswitch dflt lo hi offs, len, ra, rb, rK, ri)) (K0 : (x.toInt < lo ∨ hi < x.toInt) → xq f mid mi ((pc : Int) + dflt).toNat lv st h Q) (K1 : ∀ (i : Nat) (off : Int), offs[i]? = some off → x.toInt = lo + i → xq f mid mi ((pc : Int) + off).toNat lv st h Q) : xq f mid mi pc lv (.int x :: st) h Q := by
  intro d lw w h' c s hs hx
  obtain ⟨g, eg, ⟨o', e2, e3⟩ | ⟨e2, d', mj, As, q, -, -, -, -, -, e, -⟩⟩ := xq_s hr rfl hx
  · have e1 : xe_1 mi.2.2.2.1 (.tableswitch dflt lo hi offs, len, ra, rb, rK, ri) pc lw (.int x :: st) h 0 0 = some o' := by
      unfold xe_2 at e2
      cases z : xe_1 mi.2.2.2.1 (.tableswitch dflt lo hi offs, len, ra, rb, rK, ri) pc lw (.int x :: st) h 0 0 with
      | some o => rw [z] at e2; exact e2
      | none => rw [z] at e2; cases e2
    have e1 : (cond (decide (x.toInt < lo) || decide (hi < x.toInt))
      (cond (decide (0 ≤ (pc : Int) + dflt)) (some (((pc : Int) + dflt).toNat, lw, st, h, 0, 0)) none)
      (match offs[(x.toInt - lo).toNat]? with
        | some off => cond (decide (0 ≤ (pc : Int) + off)) (some (((pc : Int) + off).toNat, lw, st, h, 0, 0)) none
        | none => none)) = some o' := e1
    cases hb : (decide (x.toInt < lo) || decide (hi < x.toInt)) with
    | true =>
      rw [hb] at e1
      obtain ⟨-, e1⟩ := xw_c e1
      cases e1
      rw [Bool.or_eq_true] at hb
      exact K0 (hb.imp of_decide_eq_true of_decide_eq_true) d lw w h' c s hs (xe_x_le (by omega) e3)
    | false =>
      rw [hb] at e1
      rw [Bool.or_eq_false_iff] at hb
      have b1 := of_decide_eq_false hb.1
      cases ho : offs[(x.toInt - lo).toNat]? with
      | none => rw [ho] at e1; cases e1
      | some off =>
        rw [ho] at e1
        obtain ⟨-, e1⟩ := xw_c e1
        cases e1
        exact K1 _ off ho (by omega) d lw w h' c s hs (xe_x_le (by omega) e3)
  · unfold xe_cl at e
    split at e <;> cases e
theorem xq_no {f mid : Nat} {mi : xm_M} {pc : Nat} {lv : List (Nat × Value)} {st : List Value} {h : xh_H} {Q : Option Value → xh_H → Prop} (hr : xC mid pc = none) : xq f mid mi pc lv st h Q := by
  intro d lw w h' c s hs hx
  cases f with
  | zero => cases hx
  | succ f =>
    unfold xe_x at hx
    rw [hr] at hx
    cases hx
/-- a call that leaves Powers -/
theorem pu_i {f : Nat} {C : aC} {mi : xm_M} {A : List Value} {h : xh_H} {lo hi : Int} {o : Option (aN × Int)} {ft ff : aF} (P : PI h) (i : a_inv a_tb h) (l : 72 ≤ h.1.length) (hC : a_spec a_tb C) (hM : xM C.1 = some mi) (ha : a_st (fun _ => 0) h.1.length C.2.2.1 A) (hp : C.2.2.2.2.2 = []) (hret : C.2.2.2.1 = [(some (0, lo, hi, o, ft, ff), [])]) (pm : pwM C.2.2.2.2.1 = true) (fm : fzM C.1 = true) (qm : qzM C.1 = true) : xq f C.1 mi 0 (lv_args 0 A) [] h (fun v h' => (∃ x, v = some (.int x)) ∧ a_inv a_tb h' ∧ 72 ≤ h'.1.length ∧ PI h') := by
  obtain ⟨v, h', r1, p1, p2, ⟨t, ht, p3⟩, p4⟩ := hC C.2.1 mi A h (fun _ => 0) (Nat.le_refl _) hM i l ha (by rw [hp]; exact a_fp0)
  rw [hret] at ht
  cases List.mem_singleton.mp ht
  obtain ⟨⟨w, rfl, x, rfl, -⟩, -⟩ := p3
  exact xq_of (d := C.2.1) ⟨_, hM⟩ ⟨_, h', r1, ⟨x, rfl⟩, p1, by rw [p2]; exact l, PI_t i l (Fs_z (a_rq_of i.1 l) (fz_run fm r1)) (qz_run qm r1) p4 pm P⟩
theorem pu_l {f : Nat} {C : aC} {mi : xm_M} {A : List Value} {h : xh_H} {lo hi : Int} {o : Option (aN × Int)} {ft ff : aF} (P : PI h) (i : a_inv a_tb h) (l : 72 ≤ h.1.length) (hC : a_spec a_tb C) (hM : xM C.1 = some mi) (ha : a_st (fun _ => 0) h.1.length C.2.2.1 A) (hp : C.2.2.2.2.2 = []) (hret : C.2.2.2.1 = [(some (1, lo, hi, o, ft, ff), [])]) (pm : pwM C.2.2.2.2.1 = true) (fm : fzM C.1 = true) (qm : qzM C.1 = true) : xq f C.1 mi 0 (lv_args 0 A) [] h (fun v h' => (∃ x, v = some (.long x)) ∧ a_inv a_tb h' ∧ 72 ≤ h'.1.length ∧ PI h') := by
  obtain ⟨v, h', r1, p1, p2, ⟨t, ht, p3⟩, p4⟩ := hC C.2.1 mi A h (fun _ => 0) (Nat.le_refl _) hM i l ha (by rw [hp]; exact a_fp0)
  rw [hret] at ht
  cases List.mem_singleton.mp ht
  obtain ⟨⟨w, rfl, x, rfl, -⟩, -⟩ := p3
  exact xq_of (d := C.2.1) ⟨_, hM⟩ ⟨_, h', r1, ⟨x, rfl⟩, p1, by rw [p2]; exact l, PI_t i l (Fs_z (a_rq_of i.1 l) (fz_run fm r1)) (qz_run qm r1) p4 pm P⟩
section
variable {mem sc : Nat} {d : Int32} {h : xh_H}
theorem pti_q {f : Nat} (hi : a_inv a_tb h) (hn : 72 ≤ h.1.length) (e9 : xg 0 h.2.1 0 9 = nI mem) (m1 : 1 ≤ mem) (m12 : mem ≤ 12) (e8 : xg 0 h.2.1 0 8 = nI sc) (sc8 : sc ≤ 8) (e10 : xg 0 h.2.1 0 10 = d) (si : SI h) (pi : PI h) : xq f xi_X9_powersToday xmi_X9_powersToday 0 [(0, .ref 0)] [] h (fun v h' => v = some (.ref 14) ∧ a_inv a_tb h' ∧ 72 ≤ h'.1.length ∧ PI h' ∧ xg 0 h'.2.1 14 7 = nI mem) :=
  xq_mono (xq_and (xq_of (d := 5) ⟨_, rfl⟩ (pt_run (d := 0) hi hn)) (pt9_q hi hn e9 m1 m12 e8 sc8 e10 si pi)) (fun v h' e => ⟨e.2.1, e.1.1.1, hk_n e.1.1 hn, e.2.2.2.1, e.1.2.2.trans e9⟩)
set_option maxRecDepth 100000 in
set_option maxHeartbeats 4000000 in
theorem ma9_p {f : Nat} {x : Int32} (hi : a_inv a_tb h) (hn : 72 ≤ h.1.length) (e9 : xg 0 h.2.1 0 9 = nI mem) (m1 : 1 ≤ mem) (m12 : mem ≤ 12) (e8 : xg 0 h.2.1 0 8 = nI sc) (sc8 : sc ≤ 8) (e10 : xg 0 h.2.1 0 10 = d) (si : SI h) (pi : PI h) : xq f xi_X9_many xmi_X9_many 0 [(0, .ref 0), (1, .int x)] [] h (fun v h' => PI h') := by
  have hq := a_rq_of hi.1 hn
  refine xq_n 1 [1] [(1, .int x)] [.ref 0] h [] 60 hq rfl trivial (fun _ => ?_)
  refine xq_run hq rfl rfl (pti_q hi hn e9 m1 m12 e8 sc8 e10 si pi) ?_
  rintro v h1 ⟨rfl, i1, l1, P1, -⟩
  have hq1 := a_rq_of i1.1 l1
  refine xq_n 6 [2] [(2, .ref 14)] [.int x] h1 [] 60 hq1 rfl trivial (fun _ => ?_)
  have bo : ∀ c, xg 0 h1.2.1 14 c = xg 0 h1.2.1 14 c := fun _ => rfl
  refine xq_sw rfl (fun _ => ?_) (fun i off ho _ => ?_)
  · show xq f _ _ 122 _ _ _ _
    refine xq_n 123 [] [] [.int (Int32.ofInt (-1))] h1 [] 60 hq1 rfl trivial (fun _ => ?_)
    exact xq_ret rfl rfl rfl P1
  · match i, ho with
    | 0, rfl =>
      show xq f _ _ 52 _ _ _ _
      refine xq_n 53 [] [] [.ref 14] h1 [] 60 hq1 rfl trivial (fun _ => ?_)
      refine xq_run hq1 rfl rfl (pu_i (C := aC_m_X2_countCarrying) (mi := xmi_X2_countCarrying) P1 i1 l1 as_m_X2_countCarrying rfl ⟨a_av (by decide) l1, trivial⟩ rfl rfl rfl (by decide +kernel) (by decide +kernel)) ?_
      rintro v h2 ⟨⟨y, rfl⟩, i2, l2, P2⟩
      exact xq_ret rfl rfl rfl P2
    | 1, rfl =>
      show xq f _ _ 57 _ _ _ _
      refine xq_n 61 [] [] [.int (xg 0 h1.2.1 14 9)] h1 [] 60 hq1 rfl trivial (fun _ => ?_)
      exact xq_ret rfl rfl rfl P1
    | 2, rfl =>
      show xq f _ _ 62 _ _ _ _
      refine xq_n 66 [] [] [.int (xg 0 h1.2.1 14 10)] h1 [] 60 hq1 rfl trivial (fun _ => ?_)
      exact xq_ret rfl rfl rfl P1
    | 3, rfl =>
      show xq f _ _ 67 _ _ _ _
      refine xq_n 71 [] [] [.int (xg 0 h1.2.1 14 11)] h1 [] 60 hq1 rfl trivial (fun _ => ?_)
      refine xq_run hq1 rfl rfl (bcn_q hq1) ?_
      rintro v h2 ⟨rfl, y, rfl⟩
      exact xq_ret rfl rfl rfl P1
    | 4, rfl =>
      show xq f _ _ 75 _ _ _ _
      refine xq_n 79 [] [] [.int (xg 0 h1.2.1 14 12)] h1 [] 60 hq1 rfl trivial (fun _ => ?_)
      refine xq_run hq1 rfl rfl (bcn_q hq1) ?_
      rintro v h2 ⟨rfl, y, rfl⟩
      exact xq_ret rfl rfl rfl P1
    | 5, rfl =>
      show xq f _ _ 83 _ _ _ _
      refine xq_n 84 [] [] [.ref 14] h1 [] 60 hq1 rfl trivial (fun _ => ?_)
      refine xq_run hq1 rfl rfl (pu_i (C := aC_m_X2_isProper) (mi := xmi_X2_isProper) P1 i1 l1 as_m_X2_isProper rfl ⟨a_av (by decide) l1, trivial⟩ rfl rfl rfl (by decide +kernel) (by decide +kernel)) ?_
      rintro v h2 ⟨⟨y, rfl⟩, i2, l2, P2⟩
      have hq2 := a_rq_of i2.1 l2
      cases c : xe_c .eq y 0 with
      | true =>
        refine xq_n 95 [] [] [.int (Int32.ofInt 0)] h2 [true] 60 hq2 rfl ⟨c, trivial⟩ (fun _ => ?_)
        exact xq_ret rfl rfl rfl P2
      | false =>
        refine xq_n 95 [] [] [.int (Int32.ofInt 1)] h2 [false] 60 hq2 rfl ⟨c, trivial⟩ (fun _ => ?_)
        exact xq_ret rfl rfl rfl P2
    | 6, rfl =>
      show xq f _ _ 96 _ _ _ _
      refine xq_n 97 [] [] [.ref 14] h1 [] 60 hq1 rfl trivial (fun _ => ?_)
      refine xq_run hq1 rfl rfl (pu_i (C := aC_m_X2_isStrong) (mi := xmi_X2_isStrong) P1 i1 l1 as_m_X2_isStrong rfl ⟨a_av (by decide) l1, trivial⟩ rfl rfl rfl (by decide +kernel) (by decide +kernel)) ?_
      rintro v h2 ⟨⟨y, rfl⟩, i2, l2, P2⟩
      have hq2 := a_rq_of i2.1 l2
      cases c : xe_c .eq y 0 with
      | true =>
        refine xq_n 108 [] [] [.int (Int32.ofInt 0)] h2 [true] 60 hq2 rfl ⟨c, trivial⟩ (fun _ => ?_)
        exact xq_ret rfl rfl rfl P2
      | false =>
        refine xq_n 108 [] [] [.int (Int32.ofInt 1)] h2 [false] 60 hq2 rfl ⟨c, trivial⟩ (fun _ => ?_)
        exact xq_ret rfl rfl rfl P2
    | 7, rfl =>
      show xq f _ _ 109 _ _ _ _
      refine xq_n 110 [] [] [.ref 14] h1 [] 60 hq1 rfl trivial (fun _ => ?_)
      refine xq_run hq1 rfl rfl (pu_i (C := aC_m_X2_isLined) (mi := xmi_X2_isLined) P1 i1 l1 as_m_X2_isLined rfl ⟨a_av (by decide) l1, trivial⟩ rfl rfl rfl (by decide +kernel) (by decide +kernel)) ?_
      rintro v h2 ⟨⟨y, rfl⟩, i2, l2, P2⟩
      have hq2 := a_rq_of i2.1 l2
      cases c : xe_c .eq y 0 with
      | true =>
        refine xq_n 121 [] [] [.int (Int32.ofInt 0)] h2 [true] 60 hq2 rfl ⟨c, trivial⟩ (fun _ => ?_)
        exact xq_ret rfl rfl rfl P2
      | false =>
        refine xq_n 121 [] [] [.int (Int32.ofInt 1)] h2 [false] 60 hq2 rfl ⟨c, trivial⟩ (fun _ => ?_)
        exact xq_ret rfl rfl rfl P2
    | n + 8, ho => cases ho
set_option maxRecDepth 100000 in
set_option maxHeartbeats 4000000 in
theorem sa9_p {f : Nat} {x y : Int32} (hi : a_inv a_tb h) (hn : 72 ≤ h.1.length) (e9 : xg 0 h.2.1 0 9 = nI mem) (m1 : 1 ≤ mem) (m12 : mem ≤ 12) (e8 : xg 0 h.2.1 0 8 = nI sc) (sc8 : sc ≤ 8) (e10 : xg 0 h.2.1 0 10 = d) (si : SI h) (pi : PI h) : xq f xi_X9_setAt xmi_X9_setAt 0 [(0, .ref 0), (1, .int x), (2, .int y)] [] h (fun v h' => PI h') := by
  have hq := a_rq_of hi.1 hn
  refine xq_n 1 [1, 2] [(1, .int x), (2, .int y)] [.ref 0] h [] 60 hq rfl trivial (fun _ => ?_)
  refine xq_run hq rfl rfl (pti_q hi hn e9 m1 m12 e8 sc8 e10 si pi) ?_
  rintro v h1 ⟨rfl, i1, l1, P1, -⟩
  have hq1 := a_rq_of i1.1 l1
  refine xq_n 6 [2, 3] [(2, .int y), (3, .ref 14)] [.int x] h1 [] 60 hq1 rfl trivial (fun _ => ?_)
  refine xq_sw rfl (fun _ => ?_) (fun i off ho _ => ?_)
  · show xq f _ _ 108 _ _ _ _
    refine xq_n 109 [] [] [.int (Int32.ofInt (-1))] h1 [] 60 hq1 rfl trivial (fun _ => ?_)
    exact xq_ret rfl rfl rfl P1
  · match i, ho with
    | 0, rfl =>
      show xq f _ _ 36 _ _ _ _
      cases c1 : xe_c .lt y 0 with
      | true =>
        refine xq_n 58 [] [] [.int (Int32.ofInt (-1))] h1 [true] 60 hq1 rfl ⟨c1, trivial⟩ (fun _ => ?_)
        exact xq_ret rfl rfl rfl P1
      | false =>
        cases c2 : xe_c .ge y (xg 0 h1.2.1 14 9) with
        | true =>
          refine xq_n 58 [] [] [.int (Int32.ofInt (-1))] h1 [false, true] 60 hq1 rfl ⟨c1, c2, trivial⟩ (fun _ => ?_)
          exact xq_ret rfl rfl rfl P1
        | false =>
          refine xq_n 58 [] [] [.int (xg 0 h1.2.1 15 y.toNatClampNeg)] h1 [false, false] 60 hq1 rfl ⟨c1, c2, trivial⟩ (fun _ => ?_)
          exact xq_ret rfl rfl rfl P1
    | 1, rfl =>
      show xq f _ _ 59 _ _ _ _
      cases c1 : xe_c .lt y 0 with
      | true =>
        refine xq_n 81 [] [] [.int (Int32.ofInt (-1))] h1 [true] 60 hq1 rfl ⟨c1, trivial⟩ (fun _ => ?_)
        exact xq_ret rfl rfl rfl P1
      | false =>
        cases c2 : xe_c .ge y (xg 0 h1.2.1 14 10) with
        | true =>
          refine xq_n 81 [] [] [.int (Int32.ofInt (-1))] h1 [false, true] 60 hq1 rfl ⟨c1, c2, trivial⟩ (fun _ => ?_)
          exact xq_ret rfl rfl rfl P1
        | false =>
          refine xq_n 81 [] [] [.int (xg 0 h1.2.1 16 y.toNatClampNeg)] h1 [false, false] 60 hq1 rfl ⟨c1, c2, trivial⟩ (fun _ => ?_)
          exact xq_ret rfl rfl rfl P1
    | 2, rfl =>
      show xq f _ _ 82 _ _ _ _
      cases c1 : xe_c .ne y 0 with
      | true =>
        refine xq_n 94 [] [] [.int (Int32.ofInt (-1))] h1 [true] 60 hq1 rfl ⟨c1, trivial⟩ (fun _ => ?_)
        exact xq_ret rfl rfl rfl P1
      | false =>
        refine xq_n 94 [] [] [.int (xg 0 h1.2.1 14 11)] h1 [false] 60 hq1 rfl ⟨c1, trivial⟩ (fun _ => ?_)
        exact xq_ret rfl rfl rfl P1
    | 3, rfl =>
      show xq f _ _ 95 _ _ _ _
      cases c1 : xe_c .ne y 0 with
      | true =>
        refine xq_n 107 [] [] [.int (Int32.ofInt (-1))] h1 [true] 60 hq1 rfl ⟨c1, trivial⟩ (fun _ => ?_)
        exact xq_ret rfl rfl rfl P1
      | false =>
        refine xq_n 107 [] [] [.int (xg 0 h1.2.1 14 12)] h1 [false] 60 hq1 rfl ⟨c1, trivial⟩ (fun _ => ?_)
        exact xq_ret rfl rfl rfl P1
    | n + 4, ho => cases ho
set_option maxRecDepth 100000 in
set_option maxHeartbeats 4000000 in
theorem ch9_p {f : Nat} {x : Int32} (hi : a_inv a_tb h) (hn : 72 ≤ h.1.length) (e9 : xg 0 h.2.1 0 9 = nI mem) (m1 : 1 ≤ mem) (m12 : mem ≤ 12) (e8 : xg 0 h.2.1 0 8 = nI sc) (sc8 : sc ≤ 8) (e10 : xg 0 h.2.1 0 10 = d) (si : SI h) (pi : PI h) : xq f xi_X9_chance xmi_X9_chance 0 [(0, .ref 0), (1, .int x)] [] h (fun v h' => PI h') := by
  have hq := a_rq_of hi.1 hn
  cases c1 : xe_c .lt x 0 with
  | true =>
    refine xq_n 24 [] [] [.long 18446744073709551615] h [true] 5 hq rfl ⟨c1, trivial⟩ (fun _ => ?_)
    exact xq_ret rfl rfl rfl pi
  | false =>
    cases c2 : xe_c .le x 10 with
    | false =>
      refine xq_n 24 [] [] [.long 18446744073709551615] h [false, false] 8 hq rfl ⟨c1, c2, trivial⟩ (fun _ => ?_)
      exact xq_ret rfl rfl rfl pi
    | true =>
      refine xq_n 17 [1] [(1, .int x)] [.ref 0] h [false, true] 7 hq rfl ⟨c1, c2, trivial⟩ (fun _ => ?_)
      refine xq_run hq rfl rfl (pti_q hi hn e9 m1 m12 e8 sc8 e10 si pi) ?_
      rintro v h1 ⟨rfl, i1, l1, P1, -⟩
      have hq1 := a_rq_of i1.1 l1
      obtain ⟨q, e, rq⟩ : a_e h1 14 6 (2, 11, 0) := ((i1.1 14 (0, 2) (hq1.2.1 14 (0, 2) rfl)).2 6 (by decide))
      obtain ⟨g1, r, g2, g3⟩ := law_sh i1.1 rq
      refine xq_n 21 [] [] [.int x, .ref 14] h1 [] 3 hq1 rfl trivial (fun _ => ?_)
      refine xq_run hq1 rfl rfl (cho_q e g1 g2 g3 hq1) ?_
      rintro v h2 ⟨g4, y, rfl⟩
      refine xq_ret rfl rfl rfl (PI_s i1 l1 (fun c k z _ => g4.2.2.2 c k (nbeq_f (fun w => ?_))) (fun c k _ => by rw [g4.2.1]) (by rw [g4.2.1]) (fun c k _ => fx_i g4 rfl) P1)
      rw [w, hq1.2.1 20 _ rfl] at z
      cases z
set_option maxRecDepth 100000 in
set_option maxHeartbeats 4000000 in
theorem we9_p {f : Nat} (hi : a_inv a_tb h) (hn : 72 ≤ h.1.length) (e9 : xg 0 h.2.1 0 9 = nI mem) (m1 : 1 ≤ mem) (m12 : mem ≤ 12) (e8 : xg 0 h.2.1 0 8 = nI sc) (sc8 : sc ≤ 8) (e10 : xg 0 h.2.1 0 10 = d) (si : SI h) (pi : PI h) : xq f xi_X9_weigh xmi_X9_weigh 0 [(0, .ref 0)] [] h (fun v h' => PI h') := by
  have hq := a_rq_of hi.1 hn
  refine xq_n 1 [0] [(0, .ref 0)] [.ref 0] h [] 60 hq rfl trivial (fun _ => ?_)
  refine xq_run hq rfl rfl (pti_q hi hn e9 m1 m12 e8 sc8 e10 si pi) ?_
  rintro v h1 ⟨rfl, i1, l1, P1, -⟩
  have hq1 := a_rq_of i1.1 l1
  refine xq_n 9 [] [] [.ref 21] h1 [] 60 hq1 rfl trivial (fun _ => ?_)
  refine xq_run hq1 rfl rfl (pu_i (C := aC_m_X5_look) (mi := xmi_X5_look) P1 i1 l1 as_m_X5_look rfl ⟨a_av (by decide) l1, trivial⟩ rfl rfl rfl (by decide +kernel) (by decide +kernel)) ?_
  rintro v h2 ⟨⟨y, rfl⟩, i2, l2, P2⟩
  exact xq_ret rfl rfl rfl P2
set_option maxRecDepth 100000 in
set_option maxHeartbeats 4000000 in
/-- X2.upperShare leaves all -/
theorem us_p {f k m : Nat} {w : Int32} (P : PI h) (i : a_inv a_tb h) (l : 72 ≤ h.1.length) (m12 : m ≤ 12) (hk' : k < m) (e7 : xg 0 h.2.1 14 7 = nI m) : xq f xi_X2_upperShare xmi_X2_upperShare 0 [(0, .ref 14), (1, .int (nI k)), (2, .int w)] [] h (fun v h' => (∃ x, v = some (.long x)) ∧ a_inv a_tb h' ∧ 72 ≤ h'.1.length ∧ PI h') :=
  xq_mono (xq_and (xq_of (d := 3) ⟨_, rfl⟩ (us_run (d := 0) (k := k) (m := m) (w := w) i l m12 hk' e7)) (xq_and (xq_fz (by decide +kernel)) (xq_qz (by decide +kernel)))) (fun v h' e => ⟨e.1.2, e.1.1.1, hk_n e.1.1 l, PI_t i l (Fs_z (a_rq_of i.1 l) e.2.1) e.2.2 e.1.1.2.2 rfl P⟩)
set_option maxRecDepth 100000 in
set_option maxHeartbeats 4000000 in
theorem sh9_p {f k : Nat} {x w z : Int32} (hi : a_inv a_tb h) (hn : 72 ≤ h.1.length) (e9 : xg 0 h.2.1 0 9 = nI mem) (m1 : 1 ≤ mem) (m12 : mem ≤ 12) (e8 : xg 0 h.2.1 0 8 = nI sc) (sc8 : sc ≤ 8) (e10 : xg 0 h.2.1 0 10 = d) (si : SI h) (pi : PI h) : xq f xi_X9_share xmi_X9_share 0 [(0, .ref 0), (1, .int x), (2, .int w), (3, .int z)] [] h (fun v h' => PI h') := by
  have hq := a_rq_of hi.1 hn
  refine xq_n 2 [0, 1, 2, 3] [(0, .ref 0), (1, .int x), (2, .int w), (3, .int z)] [.int x, .ref 0] h [] 60 hq rfl trivial (fun _ => ?_)
  refine xq_run hq rfl rfl (mem9_q (z := nI mem) e9 hq) ?_
  rintro v h1 ⟨rfl, rfl⟩
  have th : ∀ f, xq f xi_X9_share xmi_X9_share 26 [] [] h (fun v h' => PI h') := fun f => xq_no rfl
  cases c1 : (!xe_c .lt x 0 && !xe_c .ge x (nI mem)) with
  | false =>
    refine xq_n 26 [] [] [] h [true] 60 hq rfl ⟨rfl, trivial⟩ (fun _ => ?_)
    exact th f
  | true =>
    obtain ⟨a, rfl, al, ea⟩ := mb_n m12 c1
    cases c2 : xe_c .lt w 0 with
    | true =>
      refine xq_n 26 [] [] [] h [false, true] 60 hq rfl ⟨rfl, c2, trivial⟩ (fun _ => ?_)
      exact th f
    | false =>
      cases c3 : xe_c .gt w (Int32.ofInt 2) with
      | true =>
        refine xq_n 26 [] [] [] h [false, false, true] 60 hq rfl ⟨rfl, c2, c3, trivial⟩ (fun _ => ?_)
        exact th f
      | false =>
        cases c4 : xe_c .lt z 0 with
        | true =>
          refine xq_n 26 [] [] [] h [false, false, false, true] 60 hq rfl ⟨rfl, c2, c3, c4, trivial⟩ (fun _ => ?_)
          exact th f
        | false =>
          cases c5 : xe_c .le z (Int32.ofInt 1) with
          | false =>
            refine xq_n 26 [] [] [] h [false, false, false, false, false] 60 hq rfl ⟨rfl, c2, c3, c4, c5, trivial⟩ (fun _ => ?_)
            exact th f
          | true =>
            have w1 : (0 : Int) ≤ w.toInt := a_ce (a_neg_ok c2)
            have w2 : w.toInt ≤ (2 : Int) := a_ce (a_neg_ok c3)
            refine xq_n 35 [1, 2, 3] [(1, .int (nI a)), (2, .int w), (3, .int z)] [.ref 0] h [false, false, false, false, true] 60 hq rfl ⟨rfl, c2, c3, c4, c5, trivial⟩ (fun _ => ?_)
            refine xq_run hq rfl rfl (pti_q hi hn e9 m1 m12 e8 sc8 e10 si pi) ?_
            rintro v h1 ⟨rfl, i1, l1, P1, e7⟩
            have hq1 := a_rq_of i1.1 l1
            refine xq_n 44 [2, 3, 4] [(2, .int w), (3, .int z), (4, .ref 14)] [.int w, .int (nI a), .ref 14] h1 [] 60 hq1 rfl trivial (fun _ => ?_)
            refine xq_run hq1 rfl rfl (us_p P1 i1 l1 m12 al e7) ?_
            rintro v h2 ⟨⟨u, rfl⟩, i2, l2, P2⟩
            have hq2 := a_rq_of i2.1 l2
            refine xq_n 52 [3, 5] [(3, .int z), (5, .long u)] [.int w, .ref 14] h2 [] 60 hq2 rfl trivial (fun _ => ?_)
            refine xq_run hq2 rfl rfl (pu_l (C := aC_m_X2_lowerShare) (mi := xmi_X2_lowerShare) P2 i2 l2 as_m_X2_lowerShare rfl ⟨a_av (by decide) l2, a_ai w1 w2, trivial⟩ rfl rfl rfl (by decide +kernel) (by decide +kernel)) ?_
            rintro v h3 ⟨⟨g, rfl⟩, i3, l3, P3⟩
            have hq3 := a_rq_of i3.1 l3
            refine xq_n 61 [3, 5, 7] [(3, .int z), (5, .long u), (7, .long g)] [.long g, .long u] h3 [] 60 hq3 rfl trivial (fun _ => ?_)
            refine xq_run hq3 rfl rfl (pu_l (C := aC_gcd) (mi := xmi_X9_commonDivisor) P3 i3 l3 as_gcd rfl ⟨a_al, a_al, trivial⟩ rfl rfl rfl (by decide +kernel) (by decide +kernel)) ?_
            rintro v h4 ⟨⟨gg, rfl⟩, i4, l4, P4⟩
            have hq4 := a_rq_of i4.1 l4
            refine xq_n 70 [3, 5, 7, 9] [(3, .int z), (5, .long u), (7, .long g), (9, .long gg)] [.int (lg_cmp u 0)] h4 [] 60 hq4 rfl trivial (fun _ => ?_)
            have sm : ∀ f, xq f xi_X9_share xmi_X9_share 80 [(3, .int z)] [] h4 (fun v h' => PI h') := fun f => by
              cases c6 : xe_c .ne z 0 with
              | true =>
                refine xq_n 89 [] [] [.long 1] h4 [true] 60 hq4 rfl ⟨c6, trivial⟩ (fun _ => ?_)
                exact xq_ret rfl rfl rfl P4
              | false =>
                refine xq_n 89 [] [] [.long 0] h4 [false] 60 hq4 rfl ⟨c6, trivial⟩ (fun _ => ?_)
                exact xq_ret rfl rfl rfl P4
            cases c6 : xe_c .eq (lg_cmp u 0) 0 with
            | true =>
              refine xq_n 80 [3] [(3, .int z)] [] h4 [true] 60 hq4 rfl ⟨c6, trivial⟩ (fun _ => ?_)
              exact sm f
            | false =>
              cases c7 : xe_c .gt (lg_cmp gg 0) 0 with
              | false =>
                refine xq_n 80 [3] [(3, .int z)] [] h4 [false, false] 60 hq4 rfl ⟨c6, c7, trivial⟩ (fun _ => ?_)
                exact sm f
              | true =>
                cases c8 : xe_c .ne z 0 with
                | true =>
                  refine xq_n 107 [] [] [.long (g / gg)] h4 [false, true, true] 60 hq4 rfl ⟨c6, c7, c8, trivial⟩ (fun _ => ?_)
                  exact xq_ret rfl rfl rfl P4
                | false =>
                  refine xq_n 107 [] [] [.long (u / gg)] h4 [false, true, false] 60 hq4 rfl ⟨c6, c7, c8, trivial⟩ (fun _ => ?_)
                  exact xq_ret rfl rfl rfl P4
end
end XPP
end
section
section XOD
/-- more members never carry less -/
def Wm (W : Nat → Bool) (m : Nat) : Prop := ∀ s t, s < 2 ^ m → t < 2 ^ m → s &&& t = s → W s = true → W t = true
theorem sub_tb {s t i : Nat} (h : s &&& t = s) (hi : s.testBit i = true) : t.testBit i = true := by
  have e := congrArg (fun n => Nat.testBit n i) h
  simp only [Nat.testBit_and, hi, Bool.true_and] at e
  exact e
theorem tb_sub {s t : Nat} (h : ∀ i, s.testBit i = true → t.testBit i = true) : s &&& t = s := Nat.eq_of_testBit_eq (fun i => by
  rw [Nat.testBit_and]
  cases c : s.testBit i with
  | false => rfl
  | true => rw [h i c]; rfl)
theorem dz_m {W : Nat → Bool} {m : Nat} {hd : Bool} (M : Wm W m) : Wm (dz W m hd) m := by
  intro s t hs ht h
  cases hd with
  | false => exact M s t hs ht h
  | true =>
    intro z
    show (!W (co m t)) = true
    have z : (!W (co m s)) = true := z
    cases c : W (co m t) with
    | false => rfl
    | true =>
      have := M (co m t) (co m s) co_lt co_lt (tb_sub (fun i hi => by
        rw [co_tb ht, Bool.and_eq_true, Bool.not_eq_true'] at hi
        rw [co_tb hs, hi.1, Bool.true_and]
        cases c2 : s.testBit i with
        | false => rfl
        | true => exact absurd ((sub_tb h c2).symm.trans hi.2) (by decide))) c
      rw [this] at z
      exact z
theorem aln_g {P : Nat → Bool} : ∀ {n : Nat}, aln P n = true → ∀ k, k < n → P k = true := by
  intro n
  induction n with
  | zero => intro _ k hk'; omega
  | succ n ih =>
    intro h k hk'
    have h : (aln P n && P n) = true := h
    rw [Bool.and_eq_true] at h
    by_cases z : k = n
    · rw [z]; exact h.2
    · exact ih h.1 k (by omega)
theorem aln_i {P : Nat → Bool} : ∀ {n : Nat}, (∀ k, k < n → P k = true) → aln P n = true := by
  intro n
  induction n with
  | zero => intro _; rfl
  | succ n ih => intro h; exact aln_s (ih (fun k hk' => h k (by omega))) (h n (by omega))
theorem tb_lt {s m i : Nat} (hs : s < 2 ^ m) (h : s.testBit i = true) : i < m := by
  by_cases z : i < m
  · exact z
  · rw [Nat.testBit_lt_two_pow (Nat.lt_of_lt_of_le hs (Nat.pow_le_pow_right (by decide) (by omega)))] at h
    cases h
/-- of two least ones none is inside the other -/
theorem mi_a {W : Nat → Bool} {m : Nat} {hd : Bool} (M : Wm W m) {a b : Nat} (ha : a < 2 ^ m) (hb : b < 2 ^ m) (pa : mi W m hd a = true) (pb : mi W m hd b = true) (h : a &&& b = a) : a = b := by
  unfold mi at pa pb
  rw [Bool.and_eq_true] at pa pb
  refine Nat.eq_of_testBit_eq (fun i => ?_)
  cases c : a.testBit i with
  | true => exact (sub_tb h c).symm
  | false =>
    cases c2 : b.testBit i with
    | false => rfl
    | true =>
      have g := aln_g pb.2 i (tb_lt hb c2)
      have : dz W m hd (rmb b i) = true := dz_m M a (rmb b i) ha (rmb_lt hb) (tb_sub (fun j hj => by
        rw [rmb_tb, sub_tb h hj, Bool.true_and]
        by_cases z : i = j
        · rw [← z, c] at hj; cases hj
        · rw [decide_eq_false z]; rfl)) pa.1
      rw [c2, this] at g
      exact absurd g (by decide)
theorem cnt_fl {P : Nat → Bool} : ∀ n, cnt P n = ((List.range n).filter P).length := by
  intro n
  induction n with
  | zero => rfl
  | succ n ih =>
    rw [List.range_succ, List.filter_append, List.length_append, ← ih]
    cases c : P n with
    | true => rw [cnt_t c]; simp [c]
    | false => rw [cnt_f c]; simp [c]
theorem mi_924 {W : Nat → Bool} {m : Nat} {hd : Bool} (m12 : m ≤ 12) (M : Wm W m) : cnt (mi W m hd) (2 ^ m) ≤ 924 := by
  have p12 : 2 ^ m ≤ 4096 := show 2 ^ m ≤ 2 ^ 12 from Nat.pow_le_pow_right (by decide) m12
  have e : cnt (mi W m hd) (2 ^ m) = cnt (fun s => decide (s < 2 ^ m) && mi W m hd s) (2 ^ m) := cnt_c _ (fun k hk' => by rw [decide_eq_true hk', Bool.true_and])
  rw [e]
  refine Nat.le_trans (cnt_m p12) ?_
  rw [cnt_fl]
  refine sperner (fun a b ha hb h => ?_)
  rw [Bool.and_eq_true] at ha hb
  exact mi_a M (of_decide_eq_true ha.1) (of_decide_eq_true hb.1) ha.2 hb.2 h
theorem lcn_e {W : Nat → Bool} {m : Nat} {hd : Bool} (m12 : m ≤ 12) (M : Wm W m) : lcn (mi W m hd) (2 ^ m) = cnt (mi W m hd) (2 ^ m) := Nat.min_eq_left (mi_924 m12 M)
/-- all in the order of size, then of number -/
def qp (P : Nat → Bool) (N p : Nat) : Bool := P (p % N) && decide (sz (p % N) = p / N)
theorem cnt_ad {P : Nat → Bool} {a : Nat} : ∀ n, cnt P (a + n) = cnt P a + cnt (fun t => P (a + t)) n := by
  intro n
  induction n with
  | zero => rfl
  | succ n ih =>
    show (if P (a + n) = true then cnt P (a + n) + 1 else cnt P (a + n)) = cnt P a + (if P (a + n) = true then cnt (fun t => P (a + t)) n + 1 else cnt (fun t => P (a + t)) n)
    rw [ih]
    split <;> omega
theorem qp_k {P : Nat → Bool} {N k t : Nat} (ht : t < N) : qp P N (N * k + t) = qk P k t := by
  unfold qp qk
  rw [Nat.mul_add_mod, Nat.mod_eq_of_lt ht, Nat.mul_add_div (by omega), Nat.div_eq_of_lt ht, Nat.add_zero]
theorem cq_k {P : Nat → Bool} {N : Nat} : ∀ k, cnt (qp P N) (N * k) = cum P N k := by
  intro k
  induction k with
  | zero => rfl
  | succ k ih =>
    rw [Nat.mul_succ, cnt_ad, ih]
    show _ = cum P N k + cnt (qk P k) N
    rw [cnt_c N (fun t ht => qp_k ht)]
theorem cq_t {P : Nat → Bool} {N k t : Nat} (ht : t ≤ N) : cnt (qp P N) (N * k + t) = cum P N k + cnt (qk P k) t := by
  rw [cnt_ad, cq_k, cnt_c t (fun j hj => qp_k (by omega))]
theorem rk_q {P : Nat → Bool} {N t : Nat} (ht : t < N) : rk P N t = cnt (qp P N) (N * sz t + t) := (cq_t (Nat.le_of_lt ht)).symm
theorem cum_n {P : Nat → Bool} {n : Nat} : ∀ j, cum P (n + 1) j = cum P n j + (if P n = true ∧ sz n < j then 1 else 0) := by
  intro j
  induction j with
  | zero => rw [if_neg (by omega)]; rfl
  | succ j ih =>
    show cum P (n + 1) j + cnt (qk P j) (n + 1) = cum P n j + cnt (qk P j) n + _
    rw [ih]
    cases c : P n with
    | false =>
      rw [cnt_f (show qk P j n = false by unfold qk; rw [c]; rfl), if_neg (fun z => absurd z.1 (by decide)), if_neg (fun z => absurd z.1 (by decide))]
      omega
    | true =>
      by_cases z : sz n = j
      · rw [cnt_t (show qk P j n = true by unfold qk; rw [c, decide_eq_true z]; rfl), if_neg (by omega), if_pos ⟨rfl, by omega⟩]
        omega
      · rw [cnt_f (show qk P j n = false by unfold qk; rw [c, decide_eq_false z]; rfl)]
        by_cases y : sz n < j
        · rw [if_pos ⟨rfl, y⟩, if_pos ⟨rfl, by omega⟩]; omega
        · rw [if_neg (by omega), if_neg (by omega)]; omega
theorem cum_13 {P : Nat → Bool} : ∀ n, cum P n 13 = cnt P n := by
  intro n
  induction n with
  | zero => rfl
  | succ n ih =>
    rw [cum_n, ih]
    have := sz_le (s := n)
    cases c : P n with
    | true => rw [cnt_t c, if_pos ⟨rfl, by omega⟩]
    | false => rw [cnt_f c, if_neg (fun y => absurd y.1 (by decide))]; rfl
theorem cnt_sur {P : Nat → Bool} {j : Nat} : ∀ n, j < cnt P n → ∃ p, p < n ∧ P p = true ∧ cnt P p = j := by
  intro n
  induction n with
  | zero => intro h; exact absurd h (Nat.not_lt_zero j)
  | succ n ih =>
    intro h
    cases c : P n with
    | false =>
      rw [cnt_f c] at h
      obtain ⟨p, p1, p2⟩ := ih h
      exact ⟨p, by omega, p2⟩
    | true =>
      rw [cnt_t c] at h
      by_cases z : j = cnt P n
      · exact ⟨n, by omega, c, z.symm⟩
      · obtain ⟨p, p1, p2⟩ := ih (by omega)
        exact ⟨p, by omega, p2⟩
/-- every place is some set's -/
theorem rk_sur {P : Nat → Bool} {N j : Nat} (N0 : 0 < N) (h : j < cnt P N) : ∃ t, t < N ∧ P t = true ∧ rk P N t = j := by
  rw [← cum_13, ← cq_k] at h
  obtain ⟨p, p1, p2, p3⟩ := cnt_sur _ h
  unfold qp at p2
  rw [Bool.and_eq_true] at p2
  have e := of_decide_eq_true p2.2
  refine ⟨p % N, Nat.mod_lt _ N0, p2.1, ?_⟩
  rw [rk_q (Nat.mod_lt _ N0), e, Nat.div_add_mod]
  exact p3
theorem rk_tot {P : Nat → Bool} {N t : Nat} (h : P t = true) (ht : t < N) : rk P N t < cnt P N := by
  rw [← cum_13]
  have := cum_m (P := P) (N := N) (show sz t + 1 ≤ 13 by have := sz_le (s := t); omega)
  have := rk_lt h ht
  omega
/-- a row holds just those sets -/
theorem rw_all {W : Nat → Bool} {m c : Nat} {hd : Bool} {h : xh_H} (m12 : m ≤ 12) (M : Wm W m) (R : rwQ (mi W m hd) (2 ^ m) c h) : (∀ t, t < 2 ^ m → mi W m hd t = true → ∃ j, j < cnt (mi W m hd) (2 ^ m) ∧ xg 0 h.2.1 c j = nI t) ∧ ∀ j, j < cnt (mi W m hd) (2 ^ m) → ∃ t, t < 2 ^ m ∧ mi W m hd t = true ∧ rk (mi W m hd) (2 ^ m) t = j ∧ xg 0 h.2.1 c j = nI t := by
  have b := mi_924 (hd := hd) m12 M
  refine ⟨fun t ht p => ?_, fun j hj => ?_⟩
  · have l := rk_tot p ht
    exact ⟨_, l, R t ht p (by omega)⟩
  · obtain ⟨t, t1, t2, t3⟩ := rk_sur (Nat.two_pow_pos m) hj
    exact ⟨t, t1, t2, t3, by rw [← t3]; exact R t t1 t2 (by rw [t3]; omega)⟩
/-- in all of them -/
def inA (P : Nat → Bool) (N a : Nat) : Bool := aln (fun s => !P s || s.testBit a) N
/-- in none of them -/
def inN (P : Nat → Bool) (N a : Nat) : Bool := aln (fun s => !P s || !s.testBit a) N
theorem msk_f {n : Nat} : msk (fun _ => true) n = 2 ^ n - 1 := by
  refine Nat.eq_of_testBit_eq (fun i => ?_)
  rw [msk_tb, Nat.testBit_two_pow_sub_one, Bool.and_true]
theorem msk_e {f : Nat → Bool} {n x : Nat} (hx : ∀ i, x.testBit i = (decide (i < n) && f i)) : x = msk f n := Nat.eq_of_testBit_eq (fun i => by rw [hx, msk_tb])
theorem nf_m {R : Nat → Int32} {T : Nat → Nat} {m : Nat} : ∀ L, (∀ j, j < L → R j = nI (T j)) → nf R (nI (2 ^ m - 1)) L = nI (msk (fun a => aln (fun j => (T j).testBit a) L) m) := by
  intro L
  induction L with
  | zero =>
    intro _
    show nI (2 ^ m - 1) = _
    rw [← msk_f]
    rfl
  | succ L ih =>
    intro h
    show nf R _ L &&& R L = _
    rw [ih (fun j hj => h j (by omega)), h L (by omega), nI_and]
    congr 1
    refine msk_e (fun i => ?_)
    rw [Nat.testBit_and, msk_tb]
    show _ = (decide (i < m) && (aln (fun j => (T j).testBit i) L && (T L).testBit i))
    rw [Bool.and_assoc]
theorem idf_m {R : Nat → Int32} {T : Nat → Nat} {m : Nat} : ∀ L, (∀ j, j < L → R j = nI (T j)) → idf R (nI (2 ^ m - 1)) L = nI (msk (fun a => aln (fun j => !(T j).testBit a) L) m) := by
  intro L
  induction L with
  | zero =>
    intro _
    show nI (2 ^ m - 1) = _
    rw [← msk_f]
    rfl
  | succ L ih =>
    intro h
    show idf R _ L &&& (R L ^^^ Int32.ofInt (-1)) = _
    rw [ih (fun j hj => h j (by omega)), h L (by omega)]
    refine nI_andn (fun i _ => ?_)
    rw [msk_tb, msk_tb]
    show _ = (decide (i < m) && (aln (fun j => !(T j).testBit i) L && !(T L).testBit i))
    rw [Bool.and_assoc]
/-- who is needed, who is idle -/
def ndN (P : Nat → Bool) (N m : Nat) : Nat := if cnt P N = 0 then 0 else msk (inA P N) m
def idN (P : Nat → Bool) (N m : Nat) : Nat := msk (inN P N) m
theorem nd_idx {P : Nat → Bool} {N : Nat} (f : Nat → Bool) {T : Nat → Nat} {L : Nat} (h1 : ∀ t, t < N → P t = true → ∃ j, j < L ∧ T j = t) (h2 : ∀ j, j < L → T j < N ∧ P (T j) = true) : aln (fun j => f (T j)) L = aln (fun s => !P s || f s) N := by
  refine Bool.eq_iff_iff.mpr ⟨fun h => aln_i (fun s hs => ?_), fun h => aln_i (fun j hj => ?_)⟩
  · cases c : P s with
    | false => rfl
    | true =>
      obtain ⟨j, j1, j2⟩ := h1 s hs c
      have := aln_g h j j1
      rw [j2] at this
      rw [this]; rfl
  · obtain ⟨a, b⟩ := h2 j hj
    have := aln_g h _ a
    rw [b] at this
    exact this
theorem nd_e {W : Nat → Bool} {m : Nat} {h : xh_H} (m12 : m ≤ 12) (M : Wm W m) (P : PD W m h) : xg 0 h.2.1 14 11 = nI (ndN (mi W m false) (2 ^ m) m) ∧ xg 0 h.2.1 14 12 = nI (idN (mi W m false) (2 ^ m) m) := by
  obtain ⟨-, -, ⟨p3, p4⟩, -, p7, p8⟩ := P
  obtain ⟨r1, r2⟩ := rw_all m12 M p4
  rw [lcn_e m12 M] at p7 p8
  have T : ∃ T : Nat → Nat, ∀ j, j < cnt (mi W m false) (2 ^ m) → T j < 2 ^ m ∧ mi W m false (T j) = true ∧ xg 0 h.2.1 15 j = nI (T j) := by
    refine ⟨fun j => (xg 0 h.2.1 15 j).toNatClampNeg, fun j hj => ?_⟩
    obtain ⟨t, t1, t2, -, t3⟩ := r2 j hj
    have p12 : 2 ^ m ≤ 4096 := show 2 ^ m ≤ 2 ^ 12 from Nat.pow_le_pow_right (by decide) m12
    show (xg 0 h.2.1 15 j).toNatClampNeg < _ ∧ mi W m false (xg 0 h.2.1 15 j).toNatClampNeg = true ∧ _ = nI (xg 0 h.2.1 15 j).toNatClampNeg
    rw [t3, nI_clamp (by omega)]
    exact ⟨t1, t2, rfl⟩
  obtain ⟨T, hT⟩ := T
  have p12 : 2 ^ m ≤ 4096 := show 2 ^ m ≤ 2 ^ 12 from Nat.pow_le_pow_right (by decide) m12
  have h1 : ∀ t, t < 2 ^ m → mi W m false t = true → ∃ j, j < cnt (mi W m false) (2 ^ m) ∧ T j = t := fun t ht p => by
    obtain ⟨j, j1, j2⟩ := r1 t ht p
    obtain ⟨a, -, b⟩ := hT j j1
    rw [j2] at b
    exact ⟨j, j1, ((nI_eq (by omega) (by omega)).mp b).symm⟩
  have h2 : ∀ j, j < cnt (mi W m false) (2 ^ m) → T j < 2 ^ m ∧ mi W m false (T j) = true := fun j hj => ⟨(hT j hj).1, (hT j hj).2.1⟩
  have c9 := cnt_le (P := mi W m false) (2 ^ m)
  constructor
  · rw [p7]
    unfold ndN
    by_cases z : cnt (mi W m false) (2 ^ m) = 0
    · rw [if_pos z, z]; rfl
    · rw [if_neg z, show xe_c .le (nI (cnt (mi W m false) (2 ^ m))) 0 = false from xle_f (by rw [nI_toInt (by omega)]; show (0 : Int) < _; omega)]
      show nf _ (nI (2 ^ m - 1)) _ = _
      rw [nf_m (T := T) _ (fun j hj => (hT j hj).2.2)]
      congr 1
      exact msk_c m (fun a _ => nd_idx (fun s => s.testBit a) h1 h2)
  · rw [p8, idf_m (T := T) _ (fun j hj => (hT j hj).2.2)]
    unfold idN
    congr 1
    exact msk_c m (fun a _ => nd_idx (fun s => !s.testBit a) h1 h2)
/-- today's statute never carries less with more -/
theorem cv_m {h : xh_H} {mem sc : Nat} {d : Int32} (hi : a_inv a_tb h) (m12 : mem ≤ 12) (e33 : xg 0 h.2.1 39 33 = nI sc) (sc8 : sc ≤ 8) (hb : ∀ k s, k < sc → s < 2 ^ mem → ∃ b : Bool, xg 0 h.2.1 44 (4096 * k + s) = bl b) : Wm (cvB (fun k => xg 0 h.2.1 51 k) (fun k => xg 0 h.2.1 44 k) mem sc d) mem := by
  have p12 : 2 ^ mem ≤ 4096 := show 2 ^ mem ≤ 2 ^ 12 from Nat.pow_le_pow_right (by decide) m12
  intro s t hs ht hst
  unfold cvB
  cases o : iF (fun k => xg 0 h.2.1 51 k) (fun _ => true) d sc with
  | none =>
    intro z
    have z := of_decide_eq_true (show decide (s = 2 ^ mem - 1) = true from z)
    show decide (t = 2 ^ mem - 1) = true
    refine decide_eq_true (Nat.eq_of_testBit_eq (fun i => ?_))
    cases c : t.testBit i with
    | true => rw [Nat.testBit_two_pow_sub_one, decide_eq_true (tb_lt ht c)]
    | false =>
      cases c2 : (2 ^ mem - 1).testBit i with
      | false => rfl
      | true => rw [← z] at c2; rw [sub_tb hst c2] at c; exact absurd c (by decide)
  | some k =>
    have kl := iF_lt o
    intro z
    have z := of_decide_eq_true (show decide (xg 0 h.2.1 44 (4096 * k + s) = 1) = true from z)
    show decide (xg 0 h.2.1 44 (4096 * k + t) = 1) = true
    have J := hi.2.2.1 k (by rw [e33, nI_toInt (by omega)]; omega) s t (by omega) (by omega) hst
    dsimp only at J
    rw [z] at J
    obtain ⟨b, e⟩ := hb k t kl ht
    rw [e] at J ⊢
    cases b with
    | true => rfl
    | false => exact absurd J (by decide)
end XOD
end
section
section XMA
section
variable {W : Nat → Bool} {m q r : Nat} {h : xh_H}
set_option maxRecDepth 100000 in
set_option maxHeartbeats 4000000 in
/-- Powers.countCarrying -/
theorem cca_l (A : LA W m q r h) (m12 : m ≤ 12) (hq : a_rq a_tb h) : ∀ (n f s : Nat), s + n = 2 ^ m → xq f xi_X2_countCarrying xmi_X2_countCarrying 4 [(0, .ref 14), (1, .int (nI (cnt W s))), (2, .int (nI s))] [] h (fun v h' => h = h' ∧ v = some (.int (nI (cnt W (2 ^ m))))) := by
  intro n
  induction n with
  | zero =>
    intro f s sn
    have e : s = 2 ^ m := by omega
    subst e
    refine xq_n 33 [] [] [.int (nI (cnt W (2 ^ m)))] h [true] 60 hq rfl ⟨gtt A m12, trivial⟩ (fun _ => ?_)
    exact xq_ret rfl rfl rfl ⟨rfl, rfl⟩
  | succ n ih =>
    intro f s sn
    have r := ih f (s + 1) (by omega)
    refine xq_n 17 [0, 1, 2] [(0, .ref 14), (1, .int (nI (cnt W s))), (2, .int (nI s))] [.int (nI s), va_rf (xg none h.2.2.2 14 6)] h [false] 60 hq rfl ⟨gtf A m12 (by omega), trivial⟩ (fun _ => ?_)
    rw [A.1]
    refine xq_cr (As := [.ref q, .int (nI (s))]) (mj := xmi_X7_holds) (q := []) rfl rfl (fun _ _ => rfl) (xa_cs_ok (d := 0) (pc := 0) (lv := []) (nL := 0) A.2.1 rfl).1 (fun f => hl_q A m12 (by omega) hq) ?_
    rintro v h1 ⟨rfl, rfl⟩
    cases c : W s with
    | true =>
      rw [cnt_t c] at r
      refine xq_n 4 [0, 1, 2] [(0, .ref 14), (1, .int (nI (cnt W s) + Int32.ofInt 1)), (2, .int (nI s + Int32.ofInt 1))] [] h [false] 60 hq rfl ⟨rfl, trivial⟩ (fun _ => ?_)
      rw [nI_1', nI_1']
      exact r
    | false =>
      rw [cnt_f c] at r
      refine xq_n 4 [0, 1, 2] [(0, .ref 14), (1, .int (nI (cnt W s))), (2, .int (nI s + Int32.ofInt 1))] [] h [true] 60 hq rfl ⟨rfl, trivial⟩ (fun _ => ?_)
      rw [nI_1']
      exact r
theorem cca_q {f : Nat} (A : LA W m q r h) (m12 : m ≤ 12) (hq : a_rq a_tb h) : xq f xi_X2_countCarrying xmi_X2_countCarrying 0 [(0, .ref 14)] [] h (fun v h' => h = h' ∧ v = some (.int (nI (cnt W (2 ^ m))))) := by
  refine xq_n 4 [0, 1, 2] [(0, .ref 14), (1, .int (Int32.ofInt 0)), (2, .int (Int32.ofInt 0))] [] h [] 60 hq rfl trivial (fun _ => ?_)
  exact cca_l A m12 hq (2 ^ m) f 0 (by omega)
/-- a set and all others -/
def prP (W : Nat → Bool) (m s : Nat) : Bool := !(W s && W (co m s))
def sgP (W : Nat → Bool) (m s : Nat) : Bool := W s || W (co m s)
set_option maxRecDepth 100000 in
set_option maxHeartbeats 4000000 in
theorem ipr_l (A : LA W m q r h) (m12 : m ≤ 12) (hq : a_rq a_tb h) : ∀ (n f s : Nat), s + n = 2 ^ m → aln (prP W m) s = true → xq f xi_X2_isProper xmi_X2_isProper 2 [(0, .ref 14), (1, .int (nI s))] [] h (fun v h' => h = h' ∧ v = some (.int (bl (aln (prP W m) (2 ^ m))))) := by
  intro n
  induction n with
  | zero =>
    intro f s sn w
    have e : s = 2 ^ m := by omega
    subst e
    refine xq_n 48 [] [] [.int (Int32.ofInt 1)] h [true] 60 hq rfl ⟨gtt A m12, trivial⟩ (fun _ => ?_)
    exact xq_ret rfl rfl rfl ⟨rfl, by rw [w]; rfl⟩
  | succ n ih =>
    intro f s sn w
    have hs : s < 2 ^ m := by omega
    refine xq_n 15 [0, 1] [(0, .ref 14), (1, .int (nI s))] [.int (nI s), va_rf (xg none h.2.2.2 14 6)] h [false] 60 hq rfl ⟨gtf A m12 hs, trivial⟩ (fun _ => ?_)
    rw [A.1]
    refine xq_cr (As := [.ref q, .int (nI (s))]) (mj := xmi_X7_holds) (q := []) rfl rfl (fun _ _ => rfl) (xa_cs_ok (d := 0) (pc := 0) (lv := []) (nL := 0) A.2.1 rfl).1 (fun f => hl_q A m12 (hs) hq) ?_
    rintro v h1 ⟨rfl, rfl⟩
    cases c : W s with
    | false =>
      refine xq_n 2 [0, 1] [(0, .ref 14), (1, .int (nI s + Int32.ofInt 1))] [] h [true] 60 hq rfl ⟨rfl, trivial⟩ (fun _ => ?_)
      rw [nI_1']
      exact ih f (s + 1) (by omega) (aln_s w (by unfold prP; rw [c]; rfl))
    | true =>
      refine xq_n 33 [0, 1] [(0, .ref 14), (1, .int (nI s))] [.int (xg 0 h.2.1 14 8 &&& (nI s ^^^ Int32.ofInt (-1))), va_rf (xg none h.2.2.2 14 6)] h [false] 60 hq rfl ⟨rfl, trivial⟩ (fun _ => ?_)
      rw [A.1, A.2.2.2.2.2.1, coc_n m12 hs]
      refine xq_cr (As := [.ref q, .int (nI (co m s))]) (mj := xmi_X7_holds) (q := []) rfl rfl (fun _ _ => rfl) (xa_cs_ok (d := 0) (pc := 0) (lv := []) (nL := 0) A.2.1 rfl).1 (fun f => hl_q A m12 (co_lt) hq) ?_
      rintro v h1 ⟨rfl, rfl⟩
      cases c2 : W (co m s) with
      | false =>
        refine xq_n 2 [0, 1] [(0, .ref 14), (1, .int (nI s + Int32.ofInt 1))] [] h [true] 60 hq rfl ⟨rfl, trivial⟩ (fun _ => ?_)
        rw [nI_1']
        exact ih f (s + 1) (by omega) (aln_s w (by unfold prP; rw [c, c2]; rfl))
      | true =>
        refine xq_n 40 [] [] [.int (Int32.ofInt 0)] h [false] 60 hq rfl ⟨rfl, trivial⟩ (fun _ => ?_)
        exact xq_ret rfl rfl rfl ⟨rfl, by rw [aln_f (show prP W m s = false by unfold prP; rw [c, c2]; rfl) (2 ^ m) hs]; rfl⟩
theorem ipr_q {f : Nat} (A : LA W m q r h) (m12 : m ≤ 12) (hq : a_rq a_tb h) : xq f xi_X2_isProper xmi_X2_isProper 0 [(0, .ref 14)] [] h (fun v h' => h = h' ∧ v = some (.int (bl (aln (prP W m) (2 ^ m))))) := by
  refine xq_n 2 [0, 1] [(0, .ref 14), (1, .int (Int32.ofInt 0))] [] h [] 60 hq rfl trivial (fun _ => ?_)
  exact ipr_l A m12 hq (2 ^ m) f 0 (by omega) rfl
set_option maxRecDepth 100000 in
set_option maxHeartbeats 4000000 in
theorem isg_l (A : LA W m q r h) (m12 : m ≤ 12) (hq : a_rq a_tb h) : ∀ (n f s : Nat), s + n = 2 ^ m → aln (sgP W m) s = true → xq f xi_X2_isStrong xmi_X2_isStrong 2 [(0, .ref 14), (1, .int (nI s))] [] h (fun v h' => h = h' ∧ v = some (.int (bl (aln (sgP W m) (2 ^ m))))) := by
  intro n
  induction n with
  | zero =>
    intro f s sn w
    have e : s = 2 ^ m := by omega
    subst e
    refine xq_n 48 [] [] [.int (Int32.ofInt 1)] h [true] 60 hq rfl ⟨gtt A m12, trivial⟩ (fun _ => ?_)
    exact xq_ret rfl rfl rfl ⟨rfl, by rw [w]; rfl⟩
  | succ n ih =>
    intro f s sn w
    have hs : s < 2 ^ m := by omega
    refine xq_n 15 [0, 1] [(0, .ref 14), (1, .int (nI s))] [.int (nI s), va_rf (xg none h.2.2.2 14 6)] h [false] 60 hq rfl ⟨gtf A m12 hs, trivial⟩ (fun _ => ?_)
    rw [A.1]
    refine xq_cr (As := [.ref q, .int (nI (s))]) (mj := xmi_X7_holds) (q := []) rfl rfl (fun _ _ => rfl) (xa_cs_ok (d := 0) (pc := 0) (lv := []) (nL := 0) A.2.1 rfl).1 (fun f => hl_q A m12 (hs) hq) ?_
    rintro v h1 ⟨rfl, rfl⟩
    cases c : W s with
    | true =>
      refine xq_n 2 [0, 1] [(0, .ref 14), (1, .int (nI s + Int32.ofInt 1))] [] h [true] 60 hq rfl ⟨rfl, trivial⟩ (fun _ => ?_)
      rw [nI_1']
      exact ih f (s + 1) (by omega) (aln_s w (by unfold sgP; rw [c]; rfl))
    | false =>
      refine xq_n 33 [0, 1] [(0, .ref 14), (1, .int (nI s))] [.int (xg 0 h.2.1 14 8 &&& (nI s ^^^ Int32.ofInt (-1))), va_rf (xg none h.2.2.2 14 6)] h [false] 60 hq rfl ⟨rfl, trivial⟩ (fun _ => ?_)
      rw [A.1, A.2.2.2.2.2.1, coc_n m12 hs]
      refine xq_cr (As := [.ref q, .int (nI (co m s))]) (mj := xmi_X7_holds) (q := []) rfl rfl (fun _ _ => rfl) (xa_cs_ok (d := 0) (pc := 0) (lv := []) (nL := 0) A.2.1 rfl).1 (fun f => hl_q A m12 (co_lt) hq) ?_
      rintro v h1 ⟨rfl, rfl⟩
      cases c2 : W (co m s) with
      | true =>
        refine xq_n 2 [0, 1] [(0, .ref 14), (1, .int (nI s + Int32.ofInt 1))] [] h [true] 60 hq rfl ⟨rfl, trivial⟩ (fun _ => ?_)
        rw [nI_1']
        exact ih f (s + 1) (by omega) (aln_s w (by unfold sgP; rw [c, c2]; rfl))
      | false =>
        refine xq_n 40 [] [] [.int (Int32.ofInt 0)] h [false] 60 hq rfl ⟨rfl, trivial⟩ (fun _ => ?_)
        exact xq_ret rfl rfl rfl ⟨rfl, by rw [aln_f (show sgP W m s = false by unfold sgP; rw [c, c2]; rfl) (2 ^ m) hs]; rfl⟩
theorem isg_q {f : Nat} (A : LA W m q r h) (m12 : m ≤ 12) (hq : a_rq a_tb h) : xq f xi_X2_isStrong xmi_X2_isStrong 0 [(0, .ref 14)] [] h (fun v h' => h = h' ∧ v = some (.int (bl (aln (sgP W m) (2 ^ m))))) := by
  refine xq_n 2 [0, 1] [(0, .ref 14), (1, .int (Int32.ofInt 0))] [] h [] 60 hq rfl trivial (fun _ => ?_)
  exact isg_l A m12 hq (2 ^ m) f 0 (by omega) rfl
/-- one of two is no weaker -/
def ge1 (W : Nat → Bool) (m a b : Nat) : Bool := aln (gp W a b) (2 ^ m) || aln (gp W b a) (2 ^ m)
theorem ge1_s {a b : Nat} : ge1 W m a b = ge1 W m b a := Bool.or_comm _ _
def lnd (W : Nat → Bool) (m : Nat) : Bool := aln (fun a => aln (ge1 W m a) a) m
theorem cmv_2 {o u : Bool} : xe_c .ne (cmv o u) (Int32.ofInt 2) = (o || u) := by cases o <;> cases u <;> decide
set_option maxRecDepth 100000 in
set_option maxHeartbeats 4000000 in
theorem iln_in (m12 : m ≤ 12) (e7 : xg 0 h.2.1 14 7 = nI m) (P : PD W m h) (hq : a_rq a_tb h) {a : Nat} (ha : a < m) (K : ∀ f, aln (ge1 W m a) a = true → xq f xi_X2_isLined xmi_X2_isLined 2 [(0, .ref 14), (1, .int (nI (a + 1)))] [] h (fun v h' => h = h' ∧ v = some (.int (bl (lnd W m))))) : ∀ (n f b : Nat), b + n = a → aln (ge1 W m a) b = true → xq f xi_X2_isLined xmi_X2_isLined 12 [(0, .ref 14), (1, .int (nI a)), (2, .int (nI b))] [] h (fun v h' => h = h' ∧ v = some (.int (bl (lnd W m)))) := by
  intro n
  induction n with
  | zero =>
    intro f b bn w
    have e : b = a := by omega
    subst e
    refine xq_n 2 [0, 1] [(0, .ref 14), (1, .int (nI b + Int32.ofInt 1))] [] h [true] 60 hq rfl ⟨nge_t (by omega) (by omega) (Nat.le_refl _), trivial⟩ (fun _ => ?_)
    rw [nI_1']
    exact K f w
  | succ n ih =>
    intro f b bn w
    refine xq_n 20 [0, 1, 2] [(0, .ref 14), (1, .int (nI a)), (2, .int (nI b))] [.int (nI b), .int (nI a), .ref 14] h [false] 60 hq rfl ⟨nge_f (by omega) (by omega) (by omega), trivial⟩ (fun _ => ?_)
    refine xq_run hq rfl rfl (cmp_q m12 P ha (show b < m by omega) hq) ?_
    rintro v h1 ⟨rfl, rfl⟩
    have g := cmv_2 (o := aln (gp W a b) (2 ^ m)) (u := aln (gp W b a) (2 ^ m))
    cases c : (aln (gp W a b) (2 ^ m) || aln (gp W b a) (2 ^ m)) with
    | true =>
      rw [c] at g
      refine xq_n 12 [0, 1, 2] [(0, .ref 14), (1, .int (nI a)), (2, .int (nI b + Int32.ofInt 1))] [] h [true] 60 hq rfl ⟨g, trivial⟩ (fun _ => ?_)
      rw [nI_1']
      exact ih f (b + 1) (by omega) (aln_s w c)
    | false =>
      rw [c] at g
      refine xq_n 28 [] [] [.int (Int32.ofInt 0)] h [false] 60 hq rfl ⟨g, trivial⟩ (fun _ => ?_)
      refine xq_ret rfl rfl rfl ⟨rfl, ?_⟩
      unfold lnd
      rw [aln_f (P := fun a => aln (ge1 W m a) a) (k := a) (aln_f (P := ge1 W m a) (k := b) c a (by omega)) m ha]
      rfl
set_option maxRecDepth 100000 in
set_option maxHeartbeats 4000000 in
theorem iln_l (m12 : m ≤ 12) (e7 : xg 0 h.2.1 14 7 = nI m) (P : PD W m h) (hq : a_rq a_tb h) : ∀ (n f a : Nat), a + n = m → aln (fun a => aln (ge1 W m a) a) a = true → xq f xi_X2_isLined xmi_X2_isLined 2 [(0, .ref 14), (1, .int (nI a))] [] h (fun v h' => h = h' ∧ v = some (.int (bl (lnd W m)))) := by
  intro n
  induction n with
  | zero =>
    intro f a an w
    have e : a = m := by omega
    subst e
    refine xq_n 42 [] [] [.int (Int32.ofInt 1)] h [true] 60 hq rfl ⟨(show xe_c .ge (nI a) (xg 0 h.2.1 14 7) = true by rw [e7]; exact nge_t (by omega) (by omega) (Nat.le_refl _)), trivial⟩ (fun _ => ?_)
    exact xq_ret rfl rfl rfl ⟨rfl, by unfold lnd; rw [w]; rfl⟩
  | succ n ih =>
    intro f a an w
    refine xq_n 12 [0, 1, 2] [(0, .ref 14), (1, .int (nI a)), (2, .int (Int32.ofInt 0))] [] h [false] 60 hq rfl ⟨(show xe_c .ge (nI a) (xg 0 h.2.1 14 7) = false by rw [e7]; exact nge_f (by omega) (by omega) (by omega)), trivial⟩ (fun _ => ?_)
    exact iln_in m12 e7 P hq (show a < m by omega) (fun f w2 => ih f (a + 1) (by omega) (aln_s w w2)) a f 0 (by omega) rfl
theorem iln_q {f : Nat} (m12 : m ≤ 12) (e7 : xg 0 h.2.1 14 7 = nI m) (P : PD W m h) (hq : a_rq a_tb h) : xq f xi_X2_isLined xmi_X2_isLined 0 [(0, .ref 14)] [] h (fun v h' => h = h' ∧ v = some (.int (bl (lnd W m)))) := by
  refine xq_n 2 [0, 1] [(0, .ref 14), (1, .int (Int32.ofInt 0))] [] h [] 60 hq rfl trivial (fun _ => ?_)
  exact iln_l m12 e7 P hq m f 0 (by omega) rfl
end
/-- what many answers -/
def maV (W : Nat → Bool) (m : Nat) : Nat → Int32
  | 0 => nI (cnt W (2 ^ m))
  | 1 => nI (cnt (mi W m false) (2 ^ m))
  | 2 => nI (cnt (mi W m true) (2 ^ m))
  | 3 => nI (sz (ndN (mi W m false) (2 ^ m) m))
  | 4 => nI (sz (idN (mi W m false) (2 ^ m) m))
  | 5 => bl (aln (prP W m) (2 ^ m))
  | 6 => bl (aln (sgP W m) (2 ^ m))
  | 7 => bl (lnd W m)
  | _ => Int32.ofInt (-1)
def maA (W : Nat → Bool) (m : Nat) (x : Int32) : Int32 := if x.toInt < 0 ∨ 7 < x.toInt then Int32.ofInt (-1) else maV W m x.toInt.toNat
theorem maA_o {W : Nat → Bool} {m : Nat} {x : Int32} (h : x.toInt < 0 ∨ 7 < x.toInt) : maA W m x = Int32.ofInt (-1) := if_pos h
theorem maA_i {W : Nat → Bool} {m : Nat} {x : Int32} {i : Nat} (i8 : i < 8) (h : x.toInt = 0 + (i : Int)) : maA W m x = maV W m i := by
  unfold maA
  rw [if_neg (by omega), show x.toInt.toNat = i by omega]
theorem nd_lt {P : Nat → Bool} {N m : Nat} (m12 : m ≤ 12) : ndN P N m < 4096 := by
  have p12 : 2 ^ m ≤ 4096 := show 2 ^ m ≤ 2 ^ 12 from Nat.pow_le_pow_right (by decide) m12
  unfold ndN
  split
  · decide
  · exact Nat.lt_of_lt_of_le (msk_lt m) p12
theorem id_lt {P : Nat → Bool} {N m : Nat} (m12 : m ≤ 12) : idN P N m < 4096 := by
  have p12 : 2 ^ m ≤ 4096 := show 2 ^ m ≤ 2 ^ 12 from Nat.pow_le_pow_right (by decide) m12
  exact Nat.lt_of_lt_of_le (msk_lt m) p12
section
variable {mem sc : Nat} {d : Int32} {h : xh_H}
set_option maxRecDepth 100000 in
set_option maxHeartbeats 4000000 in
theorem ma9_q {f : Nat} {x : Int32} (hi : a_inv a_tb h) (hn : 72 ≤ h.1.length) (e9 : xg 0 h.2.1 0 9 = nI mem) (m1 : 1 ≤ mem) (m12 : mem ≤ 12) (e8 : xg 0 h.2.1 0 8 = nI sc) (sc8 : sc ≤ 8) (e10 : xg 0 h.2.1 0 10 = d) (si : SI h) (pi : PI h) (M : Wm (cvB (fun k => xg 0 h.2.1 51 k) (fun k => xg 0 h.2.1 44 k) mem sc d) mem) : xq f xi_X9_many xmi_X9_many 0 [(0, .ref 0), (1, .int x)] [] h (fun v h' => v = some (.int (maA (cvB (fun k => xg 0 h.2.1 51 k) (fun k => xg 0 h.2.1 44 k) mem sc d) mem x)) ∧ PI h') := by
  have hq := a_rq_of hi.1 hn
  refine xq_n 1 [1] [(1, .int x)] [.ref 0] h [] 60 hq rfl trivial (fun _ => ?_)
  refine xq_run hq rfl rfl (pt9_q hi hn e9 m1 m12 e8 sc8 e10 si pi) ?_
  rintro v h1 ⟨rfl, Y, PP, q, r, A, P⟩
  have hq1 := Yf_q hi hn Y
  obtain ⟨n1, n2⟩ := nd_e m12 M P
  refine xq_n 6 [2] [(2, .ref 14)] [.int x] h1 [] 60 hq1 rfl trivial (fun _ => ?_)
  refine xq_sw rfl (fun hx => ?_) (fun i off ho hx => ?_)
  · rw [maA_o hx]
    show xq f _ _ 122 _ _ _ _
    refine xq_n 123 [] [] [.int (Int32.ofInt (-1))] h1 [] 60 hq1 rfl trivial (fun _ => ?_)
    exact xq_ret rfl rfl rfl ⟨rfl, PP⟩
  · match i, ho with
    | 0, rfl =>
      rw [maA_i (by decide) hx]
      show xq f _ _ 52 _ _ _ _
      refine xq_n 53 [] [] [.ref 14] h1 [] 60 hq1 rfl trivial (fun _ => ?_)
      refine xq_run hq1 rfl rfl (cca_q A m12 hq1) ?_
      rintro v h2 ⟨rfl, rfl⟩
      exact xq_ret rfl rfl rfl ⟨rfl, PP⟩
    | 1, rfl =>
      rw [maA_i (by decide) hx]
      show xq f _ _ 57 _ _ _ _
      refine xq_n 61 [] [] [.int (xg 0 h1.2.1 14 9)] h1 [] 60 hq1 rfl trivial (fun _ => ?_)
      exact xq_ret rfl rfl rfl ⟨by rw [P.2.2.1.1, lcn_e m12 M]; rfl, PP⟩
    | 2, rfl =>
      rw [maA_i (by decide) hx]
      show xq f _ _ 62 _ _ _ _
      refine xq_n 66 [] [] [.int (xg 0 h1.2.1 14 10)] h1 [] 60 hq1 rfl trivial (fun _ => ?_)
      exact xq_ret rfl rfl rfl ⟨by rw [P.2.2.2.1.1, lcn_e m12 M]; rfl, PP⟩
    | 3, rfl =>
      rw [maA_i (by decide) hx]
      show xq f _ _ 67 _ _ _ _
      refine xq_n 71 [] [] [.int (xg 0 h1.2.1 14 11)] h1 [] 60 hq1 rfl trivial (fun _ => ?_)
      rw [n1]
      refine xq_run hq1 rfl rfl (bit_q (nd_lt m12) hq1) ?_
      rintro v h2 ⟨rfl, rfl⟩
      exact xq_ret rfl rfl rfl ⟨rfl, PP⟩
    | 4, rfl =>
      rw [maA_i (by decide) hx]
      show xq f _ _ 75 _ _ _ _
      refine xq_n 79 [] [] [.int (xg 0 h1.2.1 14 12)] h1 [] 60 hq1 rfl trivial (fun _ => ?_)
      rw [n2]
      refine xq_run hq1 rfl rfl (bit_q (id_lt m12) hq1) ?_
      rintro v h2 ⟨rfl, rfl⟩
      exact xq_ret rfl rfl rfl ⟨rfl, PP⟩
    | 5, rfl =>
      rw [maA_i (by decide) hx]
      show xq f _ _ 83 _ _ _ _
      refine xq_n 84 [] [] [.ref 14] h1 [] 60 hq1 rfl trivial (fun _ => ?_)
      refine xq_run hq1 rfl rfl (ipr_q A m12 hq1) ?_
      rintro v h2 ⟨rfl, rfl⟩
      show xq f _ _ _ _ _ _ (fun v h' => v = some (.int (bl (aln (prP (cvB (fun k => xg 0 h.2.1 51 k) (fun k => xg 0 h.2.1 44 k) mem sc d) mem) (2 ^ mem)))) ∧ PI h')
      cases aln (prP (cvB (fun k => xg 0 h.2.1 51 k) (fun k => xg 0 h.2.1 44 k) mem sc d) mem) (2 ^ mem) with
      | false =>
        refine xq_n 95 [] [] [.int (Int32.ofInt 0)] h1 [true] 60 hq1 rfl ⟨rfl, trivial⟩ (fun _ => ?_)
        exact xq_ret rfl rfl rfl ⟨rfl, PP⟩
      | true =>
        refine xq_n 95 [] [] [.int (Int32.ofInt 1)] h1 [false] 60 hq1 rfl ⟨rfl, trivial⟩ (fun _ => ?_)
        exact xq_ret rfl rfl rfl ⟨rfl, PP⟩
    | 6, rfl =>
      rw [maA_i (by decide) hx]
      show xq f _ _ 96 _ _ _ _
      refine xq_n 97 [] [] [.ref 14] h1 [] 60 hq1 rfl trivial (fun _ => ?_)
      refine xq_run hq1 rfl rfl (isg_q A m12 hq1) ?_
      rintro v h2 ⟨rfl, rfl⟩
      show xq f _ _ _ _ _ _ (fun v h' => v = some (.int (bl (aln (sgP (cvB (fun k => xg 0 h.2.1 51 k) (fun k => xg 0 h.2.1 44 k) mem sc d) mem) (2 ^ mem)))) ∧ PI h')
      cases aln (sgP (cvB (fun k => xg 0 h.2.1 51 k) (fun k => xg 0 h.2.1 44 k) mem sc d) mem) (2 ^ mem) with
      | false =>
        refine xq_n 108 [] [] [.int (Int32.ofInt 0)] h1 [true] 60 hq1 rfl ⟨rfl, trivial⟩ (fun _ => ?_)
        exact xq_ret rfl rfl rfl ⟨rfl, PP⟩
      | true =>
        refine xq_n 108 [] [] [.int (Int32.ofInt 1)] h1 [false] 60 hq1 rfl ⟨rfl, trivial⟩ (fun _ => ?_)
        exact xq_ret rfl rfl rfl ⟨rfl, PP⟩
    | 7, rfl =>
      rw [maA_i (by decide) hx]
      show xq f _ _ 109 _ _ _ _
      refine xq_n 110 [] [] [.ref 14] h1 [] 60 hq1 rfl trivial (fun _ => ?_)
      refine xq_run hq1 rfl rfl (iln_q m12 A.2.2.2.2.1 P hq1) ?_
      rintro v h2 ⟨rfl, rfl⟩
      show xq f _ _ _ _ _ _ (fun v h' => v = some (.int (bl (lnd (cvB (fun k => xg 0 h.2.1 51 k) (fun k => xg 0 h.2.1 44 k) mem sc d) mem))) ∧ PI h')
      cases lnd (cvB (fun k => xg 0 h.2.1 51 k) (fun k => xg 0 h.2.1 44 k) mem sc d) mem with
      | false =>
        refine xq_n 121 [] [] [.int (Int32.ofInt 0)] h1 [true] 60 hq1 rfl ⟨rfl, trivial⟩ (fun _ => ?_)
        exact xq_ret rfl rfl rfl ⟨rfl, PP⟩
      | true =>
        refine xq_n 121 [] [] [.int (Int32.ofInt 1)] h1 [false] 60 hq1 rfl ⟨rfl, trivial⟩ (fun _ => ?_)
        exact xq_ret rfl rfl rfl ⟨rfl, PP⟩
    | n + 8, ho => cases ho
end
end XMA
end
section
section XMR
section
variable {W : Nat → Bool} {m : Nat} {h : xh_H}
theorem rwc {s : Nat} (A : RA W m h) (m12 : m ≤ 12) (hs : s < 2 ^ m) : xg 0 h.2.1 53 (xg 0 h.2.1 39 35 - Int32.ofInt 1 &&& (nI s ^^^ Int32.ofInt (-1))).toNatClampNeg = bl (W (co m s)) := by
  rw [A.2.1, show nI (2 ^ m) - Int32.ofInt 1 = nI (2 ^ m - 1) from nI_sub (b := 1) (Nat.two_pow_pos m), coc_n m12 hs]
  exact rw0 A m12 co_lt
theorem rwr {s a : Nat} (A : RA W m h) (m12 : m ≤ 12) (hs : s < 2 ^ m) (ha : a < m) : xg 0 h.2.1 53 (nI s &&& ((Int32.ofInt 1 <<< (nI a &&& 31)) ^^^ Int32.ofInt (-1))).toNatClampNeg = bl (W (rmb s a)) := by
  rw [rmb_n (by omega)]
  exact rw0 A m12 (rmb_lt hs)
set_option maxRecDepth 100000 in
set_option maxHeartbeats 4000000 in
/-- X10.isLeast -/
theorem rle_l {s : Nat} (A : RA W m h) (m12 : m ≤ 12) (hs : s < 2 ^ m) (c0 : W s = true) (hq : a_rq a_tb h) : ∀ (j f a : Nat), a + j = m → aln (fun a => !(s.testBit a && dz W m false (rmb s a))) a = true → xq f xi_X10_isLeast xmi_X10_isLeast 13 [(0, .ref 39), (1, .int (nI s)), (2, .int (nI a))] [] h (fun v h' => h = h' ∧ v = some (.int (bl (mi W m false s)))) := by
  intro j
  induction j with
  | zero =>
    intro f a aj w
    have e : a = m := by omega
    subst e
    refine xq_n 54 [] [] [.int (Int32.ofInt 1)] h [true] 60 hq rfl ⟨(show xe_c .ge (nI a) (xg 0 h.2.1 39 4) = true by rw [A.1]; exact nge_t (by omega) (by omega) (Nat.le_refl _)), trivial⟩ (fun _ => ?_)
    exact xq_ret rfl rfl rfl ⟨rfl, by unfold mi; rw [w, show dz W a false s = true from c0]; rfl⟩
  | succ j ih =>
    intro f a aj w
    have ha : a < m := by omega
    have g0 : xe_c .ge (nI a) (xg 0 h.2.1 39 4) = false := by rw [A.1]; exact nge_f (by omega) (by omega) (by omega)
    have g1 := bn1 (rb0 m12 hs ha)
    have g2 := be' (rwr A m12 hs ha)
    cases c1 : s.testBit a with
    | false =>
      rw [c1] at g1
      refine xq_n 13 [0, 1, 2] [(0, .ref 39), (1, .int (nI s)), (2, .int (nI a + Int32.ofInt 1))] [] h [false, true] 60 hq rfl ⟨g0, g1, trivial⟩ (fun _ => ?_)
      rw [nI_1']
      exact ih f (a + 1) (by omega) (aln_s w (by rw [c1]; rfl))
    | true =>
      rw [c1] at g1
      cases c2 : W (rmb s a) with
      | true =>
        rw [c2] at g2
        refine xq_n 46 [] [] [.int (Int32.ofInt 0)] h [false, false, false] 60 hq rfl ⟨g0, g1, g2, trivial⟩ (fun _ => ?_)
        exact xq_ret rfl rfl rfl ⟨rfl, by unfold mi; rw [aln_f (k := a) (show (!(s.testBit a && dz W m false (rmb s a))) = false by rw [c1, show dz W m false (rmb s a) = true from c2]; rfl) m ha, Bool.and_false]; rfl⟩
      | false =>
        rw [c2] at g2
        refine xq_n 13 [0, 1, 2] [(0, .ref 39), (1, .int (nI s)), (2, .int (nI a + Int32.ofInt 1))] [] h [false, false, true] 60 hq rfl ⟨g0, g1, g2, trivial⟩ (fun _ => ?_)
        rw [nI_1']
        exact ih f (a + 1) (by omega) (aln_s w (by rw [show dz W m false (rmb s a) = false from c2, Bool.and_false]; rfl))
set_option maxRecDepth 100000 in
set_option maxHeartbeats 4000000 in
theorem rle_q {f s : Nat} (A : RA W m h) (m12 : m ≤ 12) (hs : s < 2 ^ m) (hq : a_rq a_tb h) : xq f xi_X10_isLeast xmi_X10_isLeast 0 [(0, .ref 39), (1, .int (nI s))] [] h (fun v h' => h = h' ∧ v = some (.int (bl (mi W m false s)))) := by
  have g := bn (rw0 A m12 hs)
  cases c0 : W s with
  | false =>
    rw [c0] at g
    refine xq_n 10 [] [] [.int (Int32.ofInt 0)] h [false] 60 hq rfl ⟨g, trivial⟩ (fun _ => ?_)
    exact xq_ret rfl rfl rfl ⟨rfl, by unfold mi; rw [show dz W m false s = false from c0]; rfl⟩
  | true =>
    rw [c0] at g
    refine xq_n 13 [0, 1, 2] [(0, .ref 39), (1, .int (nI s)), (2, .int (Int32.ofInt 0))] [] h [true] 60 hq rfl ⟨g, trivial⟩ (fun _ => ?_)
    exact rle_l A m12 hs c0 hq m f 0 (by omega) rfl
/-- X10.hinders -/
theorem rhi_q {f s : Nat} (A : RA W m h) (m12 : m ≤ 12) (hs : s < 2 ^ m) (hq : a_rq a_tb h) : xq f xi_X10_hinders xmi_X10_hinders 0 [(0, .ref 39), (1, .int (nI s))] [] h (fun v h' => h = h' ∧ v = some (.int (bl (dz W m true s)))) := by
  have g := bn (rwc A m12 hs)
  show xq f _ _ _ _ _ _ (fun v h' => h = h' ∧ v = some (.int (bl (!W (co m s)))))
  cases c0 : W (co m s) with
  | true =>
    rw [c0] at g
    refine xq_n 23 [] [] [.int (Int32.ofInt 0)] h [true] 60 hq rfl ⟨g, trivial⟩ (fun _ => ?_)
    exact xq_ret rfl rfl rfl ⟨rfl, rfl⟩
  | false =>
    rw [c0] at g
    refine xq_n 23 [] [] [.int (Int32.ofInt 1)] h [false] 60 hq rfl ⟨g, trivial⟩ (fun _ => ?_)
    exact xq_ret rfl rfl rfl ⟨rfl, rfl⟩
set_option maxRecDepth 100000 in
set_option maxHeartbeats 4000000 in
/-- X10.isLeastHinder -/
theorem rlh_l {s : Nat} (A : RA W m h) (m12 : m ≤ 12) (hs : s < 2 ^ m) (c0 : dz W m true s = true) (hq : a_rq a_tb h) : ∀ (j f a : Nat), a + j = m → aln (fun a => !(s.testBit a && dz W m true (rmb s a))) a = true → xq f xi_X10_isLeastHinder xmi_X10_isLeastHinder 12 [(0, .ref 39), (1, .int (nI s)), (2, .int (nI a))] [] h (fun v h' => h = h' ∧ v = some (.int (bl (mi W m true s)))) := by
  intro j
  induction j with
  | zero =>
    intro f a aj w
    have e : a = m := by omega
    subst e
    refine xq_n 52 [] [] [.int (Int32.ofInt 1)] h [true] 60 hq rfl ⟨(show xe_c .ge (nI a) (xg 0 h.2.1 39 4) = true by rw [A.1]; exact nge_t (by omega) (by omega) (Nat.le_refl _)), trivial⟩ (fun _ => ?_)
    exact xq_ret rfl rfl rfl ⟨rfl, by unfold mi; rw [w, c0]; rfl⟩
  | succ j ih =>
    intro f a aj w
    have ha : a < m := by omega
    have g0 : xe_c .ge (nI a) (xg 0 h.2.1 39 4) = false := by rw [A.1]; exact nge_f (by omega) (by omega) (by omega)
    have g1 := bn1 (rb0 m12 hs ha)
    cases c1 : s.testBit a with
    | false =>
      rw [c1] at g1
      refine xq_n 12 [0, 1, 2] [(0, .ref 39), (1, .int (nI s)), (2, .int (nI a + Int32.ofInt 1))] [] h [false, true] 60 hq rfl ⟨g0, g1, trivial⟩ (fun _ => ?_)
      rw [nI_1']
      exact ih f (a + 1) (by omega) (aln_s w (by rw [c1]; rfl))
    | true =>
      rw [c1] at g1
      refine xq_n 37 [0, 1, 2] [(0, .ref 39), (1, .int (nI s)), (2, .int (nI a))] [.int (nI s &&& ((Int32.ofInt 1 <<< (nI a &&& 31)) ^^^ Int32.ofInt (-1))), .ref 39] h [false, false] 60 hq rfl ⟨g0, g1, trivial⟩ (fun _ => ?_)
      rw [rmb_n (by omega)]
      refine xq_run hq rfl rfl (rhi_q A m12 (rmb_lt hs) hq) ?_
      rintro v h1 ⟨rfl, rfl⟩
      cases c2 : dz W m true (rmb s a) with
      | true =>
        refine xq_n 44 [] [] [.int (Int32.ofInt 0)] h [false] 60 hq rfl ⟨rfl, trivial⟩ (fun _ => ?_)
        exact xq_ret rfl rfl rfl ⟨rfl, by unfold mi; rw [aln_f (k := a) (show (!(s.testBit a && dz W m true (rmb s a))) = false by rw [c1, c2]; rfl) m ha, Bool.and_false]; rfl⟩
      | false =>
        refine xq_n 12 [0, 1, 2] [(0, .ref 39), (1, .int (nI s)), (2, .int (nI a + Int32.ofInt 1))] [] h [true] 60 hq rfl ⟨rfl, trivial⟩ (fun _ => ?_)
        rw [nI_1']
        exact ih f (a + 1) (by omega) (aln_s w (by rw [c2, Bool.and_false]; rfl))
theorem rlh_q {f s : Nat} (A : RA W m h) (m12 : m ≤ 12) (hs : s < 2 ^ m) (hq : a_rq a_tb h) : xq f xi_X10_isLeastHinder xmi_X10_isLeastHinder 0 [(0, .ref 39), (1, .int (nI s))] [] h (fun v h' => h = h' ∧ v = some (.int (bl (mi W m true s)))) := by
  refine xq_n 2 [0, 1] [(0, .ref 39), (1, .int (nI s))] [.int (nI s), .ref 39] h [] 60 hq rfl trivial (fun _ => ?_)
  refine xq_run hq rfl rfl (rhi_q A m12 hs hq) ?_
  rintro v h1 ⟨rfl, rfl⟩
  cases c0 : dz W m true s with
  | false =>
    refine xq_n 9 [] [] [.int (Int32.ofInt 0)] h [false] 60 hq rfl ⟨rfl, trivial⟩ (fun _ => ?_)
    exact xq_ret rfl rfl rfl ⟨rfl, by unfold mi; rw [c0]; rfl⟩
  | true =>
    refine xq_n 12 [0, 1, 2] [(0, .ref 39), (1, .int (nI s)), (2, .int (Int32.ofInt 0))] [] h [true] 60 hq rfl ⟨rfl, trivial⟩ (fun _ => ?_)
    exact rlh_l A m12 hs c0 hq m f 0 (by omega) rfl
/-- X10.isOfKind -/
theorem rik_q {f s : Nat} {x : Int32} (A : RA W m h) (m12 : m ≤ 12) (hs : s < 2 ^ m) (hq : a_rq a_tb h) : xq f xi_X10_isOfKind xmi_X10_isOfKind 0 [(0, .ref 39), (1, .int (nI s)), (2, .int x)] [] h (fun v h' => h = h' ∧ v = some (.int (bl (mi W m (xe_c .ne x (Int32.ofInt 1)) s)))) := by
  cases c : xe_c .ne x (Int32.ofInt 1) with
  | false =>
    refine xq_n 7 [] [] [.int (nI s), .ref 39] h [false] 60 hq rfl ⟨c, trivial⟩ (fun _ => ?_)
    refine xq_run hq rfl rfl (rle_q A m12 hs hq) ?_
    rintro v h1 ⟨rfl, rfl⟩
    refine xq_n 18 [] [] [.int (bl (mi W m false s))] h [] 60 hq rfl trivial (fun _ => ?_)
    exact xq_ret rfl rfl rfl ⟨rfl, rfl⟩
  | true =>
    refine xq_n 15 [] [] [.int (nI s), .ref 39] h [true] 60 hq rfl ⟨c, trivial⟩ (fun _ => ?_)
    refine xq_run hq rfl rfl (rlh_q A m12 hs hq) ?_
    rintro v h1 ⟨rfl, rfl⟩
    exact xq_ret rfl rfl rfl ⟨rfl, rfl⟩
set_option maxRecDepth 100000 in
set_option maxHeartbeats 4000000 in
/-- X10.countOf -/
theorem rco_l {x : Int32} (A : RA W m h) (m12 : m ≤ 12) (hq : a_rq a_tb h) : ∀ (n f s : Nat), s + n = 2 ^ m → xq f xi_X10_countOf xmi_X10_countOf 4 [(0, .ref 39), (1, .int x), (2, .int (nI (cnt (mi W m (xe_c .ne x (Int32.ofInt 1))) s))), (3, .int (nI s))] [] h (fun v h' => h = h' ∧ v = some (.int (nI (cnt (mi W m (xe_c .ne x (Int32.ofInt 1))) (2 ^ m))))) := by
  intro n
  induction n with
  | zero =>
    intro f s sn
    have e : s = 2 ^ m := by omega
    subst e
    refine xq_n 31 [] [] [.int (nI (cnt (mi W m (xe_c .ne x (Int32.ofInt 1))) (2 ^ m)))] h [true] 60 hq rfl ⟨rgt A m12, trivial⟩ (fun _ => ?_)
    exact xq_ret rfl rfl rfl ⟨rfl, rfl⟩
  | succ n ih =>
    intro f s sn
    have r := ih f (s + 1) (by omega)
    refine xq_n 15 [0, 1, 2, 3] [(0, .ref 39), (1, .int x), (2, .int (nI (cnt (mi W m (xe_c .ne x (Int32.ofInt 1))) s))), (3, .int (nI s))] [.int x, .int (nI s), .ref 39] h [false] 60 hq rfl ⟨rgf A m12 (by omega), trivial⟩ (fun _ => ?_)
    refine xq_run hq rfl rfl (rik_q A m12 (by omega) hq) ?_
    rintro v h1 ⟨rfl, rfl⟩
    cases c : mi W m (xe_c .ne x (Int32.ofInt 1)) s with
    | true =>
      rw [cnt_t c] at r
      refine xq_n 4 [0, 1, 2, 3] [(0, .ref 39), (1, .int x), (2, .int (nI (cnt (mi W m (xe_c .ne x (Int32.ofInt 1))) s) + Int32.ofInt 1)), (3, .int (nI s + Int32.ofInt 1))] [] h [false] 60 hq rfl ⟨rfl, trivial⟩ (fun _ => ?_)
      rw [nI_1', nI_1']
      exact r
    | false =>
      rw [cnt_f c] at r
      refine xq_n 4 [0, 1, 2, 3] [(0, .ref 39), (1, .int x), (2, .int (nI (cnt (mi W m (xe_c .ne x (Int32.ofInt 1))) s))), (3, .int (nI s + Int32.ofInt 1))] [] h [true] 60 hq rfl ⟨rfl, trivial⟩ (fun _ => ?_)
      rw [nI_1']
      exact r
theorem rco_q {f : Nat} {x : Int32} (A : RA W m h) (m12 : m ≤ 12) (hq : a_rq a_tb h) : xq f xi_X10_countOf xmi_X10_countOf 0 [(0, .ref 39), (1, .int x)] [] h (fun v h' => h = h' ∧ v = some (.int (nI (cnt (mi W m (xe_c .ne x (Int32.ofInt 1))) (2 ^ m))))) := by
  refine xq_n 4 [0, 1, 2, 3] [(0, .ref 39), (1, .int x), (2, .int (Int32.ofInt 0)), (3, .int (Int32.ofInt 0))] [] h [] 60 hq rfl trivial (fun _ => ?_)
  exact rco_l A m12 hq (2 ^ m) f 0 (by omega)
/-- in one of them -/
def inO (P : Nat → Bool) (N a : Nat) : Bool := !inN P N a
set_option maxRecDepth 100000 in
set_option maxHeartbeats 4000000 in
/-- X10.whoIs -/
theorem rwh_l {x : Int32} (A : RA W m h) (m12 : m ≤ 12) (hq : a_rq a_tb h) {Q : Option Value → xh_H → Prop} (K : ∀ f, xq f xi_X10_whoIs xmi_X10_whoIs 55 [(0, .ref 39), (1, .int x), (2, .int (nI (msk (inA (mi W m false) (2 ^ m)) m))), (3, .int (nI (msk (inO (mi W m false) (2 ^ m)) m))), (4, .int (bl (decide (cnt (mi W m false) (2 ^ m) ≠ 0))))] [] h Q) : ∀ (n f s : Nat), s + n = 2 ^ m → xq f xi_X10_whoIs xmi_X10_whoIs 15 [(0, .ref 39), (1, .int x), (2, .int (nI (msk (inA (mi W m false) s) m))), (3, .int (nI (msk (inO (mi W m false) s) m))), (4, .int (bl (decide (cnt (mi W m false) s ≠ 0)))), (5, .int (nI s))] [] h Q := by
  have p12 : 2 ^ m ≤ 4096 := show 2 ^ m ≤ 2 ^ 12 from Nat.pow_le_pow_right (by decide) m12
  intro n
  induction n with
  | zero =>
    intro f s sn
    have e : s = 2 ^ m := by omega
    subst e
    refine xq_n 55 [0, 1, 2, 3, 4] [(0, .ref 39), (1, .int x), (2, .int (nI (msk (inA (mi W m false) (2 ^ m)) m))), (3, .int (nI (msk (inO (mi W m false) (2 ^ m)) m))), (4, .int (bl (decide (cnt (mi W m false) (2 ^ m) ≠ 0))))] [] h [true] 60 hq rfl ⟨rgt A m12, trivial⟩ (fun _ => ?_)
    exact K f
  | succ n ih =>
    intro f s sn
    have hs : s < 2 ^ m := by omega
    have r := ih f (s + 1) (by omega)
    refine xq_n 27 [0, 1, 2, 3, 4, 5] [(0, .ref 39), (1, .int x), (2, .int (nI (msk (inA (mi W m false) s) m))), (3, .int (nI (msk (inO (mi W m false) s) m))), (4, .int (bl (decide (cnt (mi W m false) s ≠ 0)))), (5, .int (nI s))] [.int (nI s), .ref 39] h [false] 60 hq rfl ⟨rgf A m12 hs, trivial⟩ (fun _ => ?_)
    refine xq_run hq rfl rfl (rle_q A m12 hs hq) ?_
    rintro v h1 ⟨rfl, rfl⟩
    cases c : mi W m false s with
    | false =>
      have e2 : msk (inA (mi W m false) (s + 1)) m = msk (inA (mi W m false) s) m := msk_c m (fun a _ => aln_1 (by rw [c]; rfl))
      have e3 : msk (inO (mi W m false) (s + 1)) m = msk (inO (mi W m false) s) m := msk_c m (fun a _ => congrArg (fun b => !b) (aln_1 (by rw [c]; rfl)))
      rw [e2, e3, cnt_f c] at r
      refine xq_n 15 [0, 1, 2, 3, 4, 5] [(0, .ref 39), (1, .int x), (2, .int (nI (msk (inA (mi W m false) s) m))), (3, .int (nI (msk (inO (mi W m false) s) m))), (4, .int (bl (decide (cnt (mi W m false) s ≠ 0)))), (5, .int (nI s + Int32.ofInt 1))] [] h [false] 60 hq rfl ⟨rfl, trivial⟩ (fun _ => ?_)
      rw [nI_1']
      exact r
    | true =>
      have e2 : nI (msk (inA (mi W m false) s) m) &&& nI s = nI (msk (inA (mi W m false) (s + 1)) m) := by
        rw [nI_and]
        congr 1
        refine msk_e (fun i => ?_)
        rw [Nat.testBit_and, msk_tb]
        show _ = (decide (i < m) && (inA (mi W m false) s i && (!mi W m false s || s.testBit i)))
        rw [c, Bool.and_assoc]
        rfl
      have e3 : nI (msk (inO (mi W m false) s) m) ||| nI s = nI (msk (inO (mi W m false) (s + 1)) m) := by
        rw [nI_or]
        congr 1
        refine msk_e (fun i => ?_)
        rw [Nat.testBit_or, msk_tb]
        show _ = (decide (i < m) && !(inN (mi W m false) s i && (!mi W m false s || !s.testBit i)))
        rw [c]
        show (decide (i < m) && !inN (mi W m false) s i || s.testBit i) = (decide (i < m) && !(inN (mi W m false) s i && !s.testBit i))
        cases z : s.testBit i with
        | false => cases decide (i < m) <;> cases inN (mi W m false) s i <;> rfl
        | true => rw [decide_eq_true (tb_lt hs z)]; cases inN (mi W m false) s i <;> rfl
      rw [cnt_t c, decide_eq_true (show cnt (mi W m false) s + 1 ≠ 0 by omega)] at r
      refine xq_n 15 [0, 1, 2, 3, 4, 5] [(0, .ref 39), (1, .int x), (2, .int (nI (msk (inA (mi W m false) s) m) &&& nI s)), (3, .int (nI (msk (inO (mi W m false) s) m) ||| nI s)), (4, .int (Int32.ofInt 1)), (5, .int (nI s + Int32.ofInt 1))] [] h [true] 60 hq rfl ⟨rfl, trivial⟩ (fun _ => ?_)
      rw [nI_1', e2, e3]
      exact r
set_option maxRecDepth 100000 in
set_option maxHeartbeats 4000000 in
theorem rwh_q {f : Nat} {x : Int32} (A : RA W m h) (m12 : m ≤ 12) (hq : a_rq a_tb h) : xq f xi_X10_whoIs xmi_X10_whoIs 0 [(0, .ref 39), (1, .int x)] [] h (fun v h' => h = h' ∧ v = some (.int (nI (cond (xe_c .eq x 0) (ndN (mi W m false) (2 ^ m) m) (idN (mi W m false) (2 ^ m) m))))) := by
  refine xq_n 15 [0, 1, 2, 3, 4, 5] [(0, .ref 39), (1, .int x), (2, .int (xg 0 h.2.1 39 35 - Int32.ofInt 1)), (3, .int (Int32.ofInt 0)), (4, .int (Int32.ofInt 0)), (5, .int (Int32.ofInt 0))] [] h [] 60 hq rfl trivial (fun _ => ?_)
  have ea : xg 0 h.2.1 39 35 - Int32.ofInt 1 = nI (2 ^ m - 1) := by rw [A.2.1]; exact nI_sub (b := 1) (Nat.two_pow_pos m)
  rw [ea]
  have s0 : nI (2 ^ m - 1) = nI (msk (inA (mi W m false) 0) m) := by rw [← msk_f]; rfl
  have z0 : Int32.ofInt 0 = nI (msk (inO (mi W m false) 0) m) := by
    rw [show msk (inO (mi W m false) 0) m = 0 from Nat.eq_of_testBit_eq (fun i => by rw [msk_tb, Nat.zero_testBit]; exact Bool.and_false _)]
    rfl
  have r := rwh_l (x := x) (Q := fun v h' => h = h' ∧ v = some (.int (nI (cond (xe_c .eq x 0) (ndN (mi W m false) (2 ^ m) m) (idN (mi W m false) (2 ^ m) m))))) A m12 hq (fun f => ?_) (2 ^ m) f 0 (by omega)
  · rw [← s0, ← z0] at r
    exact r
  cases c : xe_c .eq x 0 with
  | false =>
    refine xq_n 82 [] [] [.int (xg 0 h.2.1 39 35 - Int32.ofInt 1 &&& (nI (msk (inO (mi W m false) (2 ^ m)) m) ^^^ Int32.ofInt (-1)))] h [false] 60 hq rfl ⟨c, trivial⟩ (fun _ => ?_)
    refine xq_ret rfl rfl rfl ⟨rfl, ?_⟩
    rw [ea]
    congr 2
    refine nI_andn (fun i _ => ?_)
    show _ = (idN (mi W m false) (2 ^ m) m).testBit i
    unfold idN
    rw [msk_tb, msk_tb, Nat.testBit_two_pow_sub_one]
    unfold inO
    cases decide (i < m) <;> cases inN (mi W m false) (2 ^ m) i <;> rfl
  | true =>
    unfold ndN
    by_cases z : cnt (mi W m false) (2 ^ m) = 0
    · rw [decide_eq_false (fun y => y z)]
      refine xq_n 82 [] [] [.int (Int32.ofInt 0)] h [true, true] 60 hq rfl ⟨c, rfl, trivial⟩ (fun _ => ?_)
      exact xq_ret rfl rfl rfl ⟨rfl, by show _ = some (Value.int (nI (if _ then _ else _))); rw [if_pos z]; rfl⟩
    · rw [decide_eq_true z]
      refine xq_n 82 [] [] [.int (nI (msk (inA (mi W m false) (2 ^ m)) m))] h [true, false] 60 hq rfl ⟨c, rfl, trivial⟩ (fun _ => ?_)
      exact xq_ret rfl rfl rfl ⟨rfl, by show _ = some (Value.int (nI (if _ then _ else _))); rw [if_neg z]⟩
set_option maxRecDepth 100000 in
set_option maxHeartbeats 4000000 in
theorem rpr_l (A : RA W m h) (m12 : m ≤ 12) (hq : a_rq a_tb h) : ∀ (n f s : Nat), s + n = 2 ^ m → aln (prP W m) s = true → xq f xi_X10_isProper xmi_X10_isProper 2 [(0, .ref 39), (1, .int (nI s))] [] h (fun v h' => h = h' ∧ v = some (.int (bl (aln (prP W m) (2 ^ m))))) := by
  intro n
  induction n with
  | zero =>
    intro f s sn w
    have e : s = 2 ^ m := by omega
    subst e
    refine xq_n 46 [] [] [.int (Int32.ofInt 1)] h [true] 60 hq rfl ⟨rgt A m12, trivial⟩ (fun _ => ?_)
    exact xq_ret rfl rfl rfl ⟨rfl, by rw [w]; rfl⟩
  | succ n ih =>
    intro f s sn w
    have hs : s < 2 ^ m := by omega
    have g1 := be' (rw0 A m12 hs)
    have g2 := be' (rwc A m12 hs)
    cases c : W s with
    | false =>
      rw [c] at g1
      refine xq_n 2 [0, 1] [(0, .ref 39), (1, .int (nI s + Int32.ofInt 1))] [] h [false, true] 60 hq rfl ⟨rgf A m12 hs, g1, trivial⟩ (fun _ => ?_)
      rw [nI_1']
      exact ih f (s + 1) (by omega) (aln_s w (by unfold prP; rw [c]; rfl))
    | true =>
      rw [c] at g1
      cases c2 : W (co m s) with
      | false =>
        rw [c2] at g2
        refine xq_n 2 [0, 1] [(0, .ref 39), (1, .int (nI s + Int32.ofInt 1))] [] h [false, false, true] 60 hq rfl ⟨rgf A m12 hs, g1, g2, trivial⟩ (fun _ => ?_)
        rw [nI_1']
        exact ih f (s + 1) (by omega) (aln_s w (by unfold prP; rw [c, c2]; rfl))
      | true =>
        rw [c2] at g2
        refine xq_n 38 [] [] [.int (Int32.ofInt 0)] h [false, false, false] 60 hq rfl ⟨rgf A m12 hs, g1, g2, trivial⟩ (fun _ => ?_)
        exact xq_ret rfl rfl rfl ⟨rfl, by rw [aln_f (show prP W m s = false by unfold prP; rw [c, c2]; rfl) (2 ^ m) hs]; rfl⟩
theorem rpr_q {f : Nat} (A : RA W m h) (m12 : m ≤ 12) (hq : a_rq a_tb h) : xq f xi_X10_isProper xmi_X10_isProper 0 [(0, .ref 39)] [] h (fun v h' => h = h' ∧ v = some (.int (bl (aln (prP W m) (2 ^ m))))) := by
  refine xq_n 2 [0, 1] [(0, .ref 39), (1, .int (Int32.ofInt 0))] [] h [] 60 hq rfl trivial (fun _ => ?_)
  exact rpr_l A m12 hq (2 ^ m) f 0 (by omega) rfl
set_option maxRecDepth 100000 in
set_option maxHeartbeats 4000000 in
theorem rstr_l (A : RA W m h) (m12 : m ≤ 12) (hq : a_rq a_tb h) : ∀ (n f s : Nat), s + n = 2 ^ m → aln (sgP W m) s = true → xq f xi_X10_isStrong xmi_X10_isStrong 2 [(0, .ref 39), (1, .int (nI s))] [] h (fun v h' => h = h' ∧ v = some (.int (bl (aln (sgP W m) (2 ^ m))))) := by
  intro n
  induction n with
  | zero =>
    intro f s sn w
    have e : s = 2 ^ m := by omega
    subst e
    refine xq_n 46 [] [] [.int (Int32.ofInt 1)] h [true] 60 hq rfl ⟨rgt A m12, trivial⟩ (fun _ => ?_)
    exact xq_ret rfl rfl rfl ⟨rfl, by rw [w]; rfl⟩
  | succ n ih =>
    intro f s sn w
    have hs : s < 2 ^ m := by omega
    have g1 := bn (rw0 A m12 hs)
    have g2 := bn (rwc A m12 hs)
    cases c : W s with
    | true =>
      rw [c] at g1
      refine xq_n 2 [0, 1] [(0, .ref 39), (1, .int (nI s + Int32.ofInt 1))] [] h [false, true] 60 hq rfl ⟨rgf A m12 hs, g1, trivial⟩ (fun _ => ?_)
      rw [nI_1']
      exact ih f (s + 1) (by omega) (aln_s w (by unfold sgP; rw [c]; rfl))
    | false =>
      rw [c] at g1
      cases c2 : W (co m s) with
      | true =>
        rw [c2] at g2
        refine xq_n 2 [0, 1] [(0, .ref 39), (1, .int (nI s + Int32.ofInt 1))] [] h [false, false, true] 60 hq rfl ⟨rgf A m12 hs, g1, g2, trivial⟩ (fun _ => ?_)
        rw [nI_1']
        exact ih f (s + 1) (by omega) (aln_s w (by unfold sgP; rw [c, c2]; rfl))
      | false =>
        rw [c2] at g2
        refine xq_n 38 [] [] [.int (Int32.ofInt 0)] h [false, false, false] 60 hq rfl ⟨rgf A m12 hs, g1, g2, trivial⟩ (fun _ => ?_)
        exact xq_ret rfl rfl rfl ⟨rfl, by rw [aln_f (show sgP W m s = false by unfold sgP; rw [c, c2]; rfl) (2 ^ m) hs]; rfl⟩
theorem rstr_q {f : Nat} (A : RA W m h) (m12 : m ≤ 12) (hq : a_rq a_tb h) : xq f xi_X10_isStrong xmi_X10_isStrong 0 [(0, .ref 39)] [] h (fun v h' => h = h' ∧ v = some (.int (bl (aln (sgP W m) (2 ^ m))))) := by
  refine xq_n 2 [0, 1] [(0, .ref 39), (1, .int (Int32.ofInt 0))] [] h [] 60 hq rfl trivial (fun _ => ?_)
  exact rstr_l A m12 hq (2 ^ m) f 0 (by omega) rfl
theorem hdv_0 {o u : Bool} : xe_c .ne (hdv o u) 0 = (o || u) := by cases o <;> cases u <;> decide
theorem lnd_t (h : ∀ a b, a < b → b < m → ge1 W m a b = true) : lnd W m = true := aln_i (fun a ha => aln_i (fun b hb => by rw [ge1_s]; exact h b a hb ha))
theorem lnd_f {a b : Nat} (hab : a < b) (hb : b < m) (h : ge1 W m a b = false) : lnd W m = false := aln_f (P := fun a => aln (ge1 W m a) a) (k := b) (aln_f (P := ge1 W m b) (k := a) (by rw [ge1_s]; exact h) b hab) m hb
set_option maxRecDepth 100000 in
set_option maxHeartbeats 4000000 in
theorem rln_in (A : RA W m h) (m12 : m ≤ 12) (hq : a_rq a_tb h) {a : Nat} (ha : a < m) (K : ∀ f, (∀ b, a < b → b < m → ge1 W m a b = true) → xq f xi_X10_isLined xmi_X10_isLined 2 [(0, .ref 39), (1, .int (nI (a + 1)))] [] h (fun v h' => h = h' ∧ v = some (.int (bl (lnd W m))))) : ∀ (n f b : Nat), b + n = m → a < b → (∀ b', a < b' → b' < b → ge1 W m a b' = true) → xq f xi_X10_isLined xmi_X10_isLined 14 [(0, .ref 39), (1, .int (nI a)), (2, .int (nI b))] [] h (fun v h' => h = h' ∧ v = some (.int (bl (lnd W m)))) := by
  intro n
  induction n with
  | zero =>
    intro f b bn ab w
    have e : b = m := by omega
    subst e
    refine xq_n 2 [0, 1] [(0, .ref 39), (1, .int (nI a + Int32.ofInt 1))] [] h [true] 60 hq rfl ⟨(show xe_c .ge (nI b) (xg 0 h.2.1 39 4) = true by rw [A.1]; exact nge_t (by omega) (by omega) (Nat.le_refl _)), trivial⟩ (fun _ => ?_)
    rw [nI_1']
    exact K f w
  | succ n ih =>
    intro f b bn ab w
    have hb : b < m := by omega
    refine xq_n 25 [0, 1, 2] [(0, .ref 39), (1, .int (nI a)), (2, .int (nI b))] [.int (nI b), .int (nI a), .ref 39] h [false] 60 hq rfl ⟨(show xe_c .ge (nI b) (xg 0 h.2.1 39 4) = false by rw [A.1]; exact nge_f (by omega) (by omega) hb), trivial⟩ (fun _ => ?_)
    refine xq_run hq rfl rfl (hel_q A m12 ha hb hq) ?_
    rintro v h1 ⟨rfl, rfl⟩
    have g := hdv_0 (o := aln (gp W a b) (2 ^ m)) (u := aln (gp W b a) (2 ^ m))
    cases c : (aln (gp W a b) (2 ^ m) || aln (gp W b a) (2 ^ m)) with
    | true =>
      rw [c] at g
      refine xq_n 14 [0, 1, 2] [(0, .ref 39), (1, .int (nI a)), (2, .int (nI b + Int32.ofInt 1))] [] h [true] 60 hq rfl ⟨g, trivial⟩ (fun _ => ?_)
      rw [nI_1']
      refine ih f (b + 1) (by omega) (by omega) (fun b' h1 h2 => ?_)
      by_cases z : b' = b
      · rw [z]; exact c
      · exact w b' h1 (by omega)
    | false =>
      rw [c] at g
      refine xq_n 32 [] [] [.int (Int32.ofInt 0)] h [false] 60 hq rfl ⟨g, trivial⟩ (fun _ => ?_)
      exact xq_ret rfl rfl rfl ⟨rfl, by rw [lnd_f ab hb c]; rfl⟩
set_option maxRecDepth 100000 in
set_option maxHeartbeats 4000000 in
theorem rln_l (A : RA W m h) (m12 : m ≤ 12) (hq : a_rq a_tb h) : ∀ (n f a : Nat), a + n = m → (∀ a' b, a' < a → a' < b → b < m → ge1 W m a' b = true) → xq f xi_X10_isLined xmi_X10_isLined 2 [(0, .ref 39), (1, .int (nI a))] [] h (fun v h' => h = h' ∧ v = some (.int (bl (lnd W m)))) := by
  intro n
  induction n with
  | zero =>
    intro f a an w
    have e : a = m := by omega
    subst e
    refine xq_n 46 [] [] [.int (Int32.ofInt 1)] h [true] 60 hq rfl ⟨(show xe_c .ge (nI a) (xg 0 h.2.1 39 4) = true by rw [A.1]; exact nge_t (by omega) (by omega) (Nat.le_refl _)), trivial⟩ (fun _ => ?_)
    exact xq_ret rfl rfl rfl ⟨rfl, by rw [lnd_t (fun a' b h1 h2 => w a' b (by omega) h1 h2)]; rfl⟩
  | succ n ih =>
    intro f a an w
    refine xq_n 14 [0, 1, 2] [(0, .ref 39), (1, .int (nI a)), (2, .int (nI a + Int32.ofInt 1))] [] h [false] 60 hq rfl ⟨(show xe_c .ge (nI a) (xg 0 h.2.1 39 4) = false by rw [A.1]; exact nge_f (by omega) (by omega) (by omega)), trivial⟩ (fun _ => ?_)
    rw [nI_1']
    refine rln_in A m12 hq (show a < m by omega) (fun f w2 => ih f (a + 1) (by omega) (fun a' b h1 h2 h3 => ?_)) n f (a + 1) (by omega) (by omega) (fun b' h1 h2 => by omega)
    by_cases z : a' = a
    · rw [z]; rw [z] at h2; exact w2 b h2 h3
    · exact w a' b (by omega) h2 h3
theorem rln_q {f : Nat} (A : RA W m h) (m12 : m ≤ 12) (hq : a_rq a_tb h) : xq f xi_X10_isLined xmi_X10_isLined 0 [(0, .ref 39)] [] h (fun v h' => h = h' ∧ v = some (.int (bl (lnd W m)))) := by
  refine xq_n 2 [0, 1] [(0, .ref 39), (1, .int (Int32.ofInt 0))] [] h [] 60 hq rfl trivial (fun _ => ?_)
  exact rln_l A m12 hq m f 0 (by omega) (fun a' b h1 => absurd h1 (Nat.not_lt_zero a'))
end
set_option maxRecDepth 100000 in
set_option maxHeartbeats 4000000 in
/-- X10.sizeOf -/
theorem rso_l {s : Nat} {h : xh_H} (hs : s < 4096) (hq : a_rq a_tb h) : ∀ (n f i : Nat), i + n = 12 → xq f xi_X10_sizeOf xmi_X10_sizeOf 4 [(0, .int (nI s)), (1, .int (nI (cnt (fun i => s.testBit i) i))), (2, .int (nI i))] [] h (fun v h' => h = h' ∧ v = some (.int (nI (sz s)))) := by
  intro n
  induction n with
  | zero =>
    intro f i hn
    have e : i = 12 := by omega
    subst e
    refine xq_n 25 [] [] [.int (nI (sz s))] h [true] 60 hq rfl ⟨rfl, trivial⟩ (fun _ => ?_)
    exact xq_ret rfl rfl rfl ⟨rfl, rfl⟩
  | succ n ih =>
    intro f i hn
    have r := ih f (i + 1) (by omega)
    refine xq_n 4 [0, 1, 2] [(0, .int (nI s)), (1, .int (nI (cnt (fun i => s.testBit i) i) + ((nI s >>> (nI i &&& 31)) &&& Int32.ofInt 1))), (2, .int (nI i + Int32.ofInt 1))] [] h [false] 60 hq rfl ⟨nge_f (b := 12) (by omega) (by decide) (by omega), trivial⟩ (fun _ => ?_)
    rw [nI_1', nI_b0 (by omega) (by omega), nI_add]
    cases c : s.testBit i with
    | true =>
      rw [cnt_t (P := fun i => s.testBit i) c] at r
      exact r
    | false =>
      rw [cnt_f (P := fun i => s.testBit i) c] at r
      exact r
theorem rso_q {f s : Nat} {h : xh_H} (hs : s < 4096) (hq : a_rq a_tb h) : xq f xi_X10_sizeOf xmi_X10_sizeOf 0 [(0, .int (nI s))] [] h (fun v h' => h = h' ∧ v = some (.int (nI (sz s)))) := by
  refine xq_n 4 [0, 1, 2] [(0, .int (nI s)), (1, .int (Int32.ofInt 0)), (2, .int (Int32.ofInt 0))] [] h [] 60 hq rfl trivial (fun _ => ?_)
  exact rso_l hs hq 12 f 0 (by omega)
section
variable {mem sc : Nat} {FR RW : Nat → Int32} {d : Int32} {h : xh_H}
set_option maxRecDepth 100000 in
set_option maxHeartbeats 4000000 in
theorem rca_l {W : Nat → Bool} {m : Nat} (A : RA W m h) (m12 : m ≤ 12) (hq : a_rq a_tb h) : ∀ (n f s : Nat), s + n = 2 ^ m → xq f xi_X10_many xmi_X10_many 62 [(0, .ref 39), (2, .int (nI (cnt W s))), (3, .int (nI s))] [] h (fun v h' => v = some (.int (nI (cnt W (2 ^ m))))) := by
  intro n
  induction n with
  | zero =>
    intro f s sn
    have e : s = 2 ^ m := by omega
    subst e
    refine xq_n 89 [] [] [.int (nI (cnt W (2 ^ m)))] h [true] 60 hq rfl ⟨rgt A m12, trivial⟩ (fun _ => ?_)
    exact xq_ret rfl rfl rfl rfl
  | succ n ih =>
    intro f s sn
    have r := ih f (s + 1) (by omega)
    have hs : s < 2 ^ m := by omega
    have g := be' (rw0 A m12 hs)
    cases c : W s with
    | true =>
      rw [c] at g
      rw [cnt_t c] at r
      refine xq_n 62 [0, 2, 3] [(0, .ref 39), (2, .int (nI (cnt W s) + Int32.ofInt 1)), (3, .int (nI s + Int32.ofInt 1))] [] h [false, false] 60 hq rfl ⟨rgf A m12 hs, g, trivial⟩ (fun _ => ?_)
      rw [nI_1', nI_1']
      exact r
    | false =>
      rw [c] at g
      rw [cnt_f c] at r
      refine xq_n 62 [0, 2, 3] [(0, .ref 39), (2, .int (nI (cnt W s))), (3, .int (nI s + Int32.ofInt 1))] [] h [false, true] 60 hq rfl ⟨rgf A m12 hs, g, trivial⟩ (fun _ => ?_)
      rw [nI_1']
      exact r
set_option maxRecDepth 100000 in
set_option maxHeartbeats 4000000 in
theorem ma10_q {f : Nat} {x : Int32} (m12 : mem ≤ 12) (e4 : xg 0 h.2.1 39 4 = nI mem) (e33 : xg 0 h.2.1 39 33 = nI sc) (sc8 : sc ≤ 8) (e3 : xg 0 h.2.1 39 3 = d) (hF : ∀ k, k < sc → xg 0 h.2.1 51 k = FR k) (hT : ∀ k, k < sc → (xg 0 h.2.1 52 k).toInt ≤ 999) (hR : ∀ k s, k < sc → s < 2 ^ mem → ∃ b : Bool, RW (4096 * k + s) = bl b ∧ xg 0 h.2.1 44 (4096 * k + s) = bl b) (hq : a_rq a_tb h) : xq f xi_X10_many xmi_X10_many 0 [(0, .ref 39), (1, .int x)] [] h (fun v h' => v = some (.int (maA (cvB FR RW mem sc d) mem x))) := by
  refine xq_n 6 [0, 1] [(0, .ref 39), (1, .int x)] [.ref 39] (xh_ui h 39 0 (Int32.ofInt 0)) [] 60 hq rfl trivial (fun _ => ?_)
  have hq : a_rq a_tb (xh_ui h 39 0 (Int32.ofInt 0)) := a_rq_ui hq
  refine xq_run hq rfl rfl (ly_q m12 e4 e33 sc8 e3 hF hT hR hq) ?_
  rintro v h1 ⟨rfl, g1, A⟩
  have hq := fx_q g1 hq
  refine xq_n 12 [0, 1, 2] [(0, .ref 39), (1, .int x), (2, .int (Int32.ofInt 0))] [.int x] h1 [] 60 hq rfl trivial (fun _ => ?_)
  refine xq_sw rfl (fun hx => ?_) (fun i off ho hx => ?_)
  · rw [maA_o hx]
    show xq f _ _ 153 _ _ _ _
    refine xq_n 154 [] [] [.int (Int32.ofInt (-1))] h1 [] 60 hq rfl trivial (fun _ => ?_)
    exact xq_ret rfl rfl rfl rfl
  · match i, ho with
    | 0, rfl =>
      rw [maA_i (by decide) hx]
      show xq f _ _ 60 _ _ _ _
      refine xq_n 62 [0, 2, 3] [(0, .ref 39), (2, .int (Int32.ofInt 0)), (3, .int (Int32.ofInt 0))] [] h1 [] 60 hq rfl trivial (fun _ => ?_)
      exact rca_l A m12 hq (2 ^ mem) f 0 (by omega)
    | 1, rfl =>
      rw [maA_i (by decide) hx]
      have ex : x = nI 1 := Int32.toInt_inj.mp (by rw [hx]; rfl)
      subst ex
      show xq f _ _ 90 _ _ _ _
      refine xq_n 92 [] [] [.int (nI 1), .ref 39] h1 [] 60 hq rfl trivial (fun _ => ?_)
      refine xq_run hq rfl rfl (rco_q A m12 hq) ?_
      rintro v h2 ⟨rfl, rfl⟩
      exact xq_ret rfl rfl rfl rfl
    | 2, rfl =>
      rw [maA_i (by decide) hx]
      have ex : x = nI 2 := Int32.toInt_inj.mp (by rw [hx]; rfl)
      subst ex
      show xq f _ _ 90 _ _ _ _
      refine xq_n 92 [] [] [.int (nI 2), .ref 39] h1 [] 60 hq rfl trivial (fun _ => ?_)
      refine xq_run hq rfl rfl (rco_q A m12 hq) ?_
      rintro v h2 ⟨rfl, rfl⟩
      exact xq_ret rfl rfl rfl rfl
    | 3, rfl =>
      rw [maA_i (by decide) hx]
      show xq f _ _ 96 _ _ _ _
      refine xq_n 98 [] [] [.int (Int32.ofInt 0), .ref 39] h1 [] 60 hq rfl trivial (fun _ => ?_)
      refine xq_run hq rfl rfl (rwh_q A m12 hq) ?_
      rintro v h2 ⟨rfl, rfl⟩
      refine xq_run hq rfl rfl (rso_q (s := ndN (mi (cvB FR RW mem sc d) mem false) (2 ^ mem) mem) (nd_lt m12) hq) ?_
      rintro v h2 ⟨rfl, rfl⟩
      exact xq_ret rfl rfl rfl rfl
    | 4, rfl =>
      rw [maA_i (by decide) hx]
      show xq f _ _ 105 _ _ _ _
      refine xq_n 107 [] [] [.int (Int32.ofInt 1), .ref 39] h1 [] 60 hq rfl trivial (fun _ => ?_)
      refine xq_run hq rfl rfl (rwh_q A m12 hq) ?_
      rintro v h2 ⟨rfl, rfl⟩
      refine xq_run hq rfl rfl (rso_q (s := idN (mi (cvB FR RW mem sc d) mem false) (2 ^ mem) mem) (id_lt m12) hq) ?_
      rintro v h2 ⟨rfl, rfl⟩
      exact xq_ret rfl rfl rfl rfl
    | 5, rfl =>
      rw [maA_i (by decide) hx]
      show xq f _ _ 114 _ _ _ _
      refine xq_n 115 [] [] [.ref 39] h1 [] 60 hq rfl trivial (fun _ => ?_)
      refine xq_run hq rfl rfl (rpr_q A m12 hq) ?_
      rintro v h2 ⟨rfl, rfl⟩
      show xq f _ _ _ _ _ _ (fun v h' => v = some (.int (bl (aln (prP (cvB FR RW mem sc d) mem) (2 ^ mem)))))
      cases aln (prP (cvB FR RW mem sc d) mem) (2 ^ mem) with
      | false =>
        refine xq_n 126 [] [] [.int (Int32.ofInt 0)] h1 [true] 60 hq rfl ⟨rfl, trivial⟩ (fun _ => ?_)
        exact xq_ret rfl rfl rfl rfl
      | true =>
        refine xq_n 126 [] [] [.int (Int32.ofInt 1)] h1 [false] 60 hq rfl ⟨rfl, trivial⟩ (fun _ => ?_)
        exact xq_ret rfl rfl rfl rfl
    | 6, rfl =>
      rw [maA_i (by decide) hx]
      show xq f _ _ 127 _ _ _ _
      refine xq_n 128 [] [] [.ref 39] h1 [] 60 hq rfl trivial (fun _ => ?_)
      refine xq_run hq rfl rfl (rstr_q A m12 hq) ?_
      rintro v h2 ⟨rfl, rfl⟩
      show xq f _ _ _ _ _ _ (fun v h' => v = some (.int (bl (aln (sgP (cvB FR RW mem sc d) mem) (2 ^ mem)))))
      cases aln (sgP (cvB FR RW mem sc d) mem) (2 ^ mem) with
      | false =>
        refine xq_n 139 [] [] [.int (Int32.ofInt 0)] h1 [true] 60 hq rfl ⟨rfl, trivial⟩ (fun _ => ?_)
        exact xq_ret rfl rfl rfl rfl
      | true =>
        refine xq_n 139 [] [] [.int (Int32.ofInt 1)] h1 [false] 60 hq rfl ⟨rfl, trivial⟩ (fun _ => ?_)
        exact xq_ret rfl rfl rfl rfl
    | 7, rfl =>
      rw [maA_i (by decide) hx]
      show xq f _ _ 140 _ _ _ _
      refine xq_n 141 [] [] [.ref 39] h1 [] 60 hq rfl trivial (fun _ => ?_)
      refine xq_run hq rfl rfl (rln_q A m12 hq) ?_
      rintro v h2 ⟨rfl, rfl⟩
      show xq f _ _ _ _ _ _ (fun v h' => v = some (.int (bl (lnd (cvB FR RW mem sc d) mem))))
      cases lnd (cvB FR RW mem sc d) mem with
      | false =>
        refine xq_n 152 [] [] [.int (Int32.ofInt 0)] h1 [true] 60 hq rfl ⟨rfl, trivial⟩ (fun _ => ?_)
        exact xq_ret rfl rfl rfl rfl
      | true =>
        refine xq_n 152 [] [] [.int (Int32.ofInt 1)] h1 [false] 60 hq rfl ⟨rfl, trivial⟩ (fun _ => ?_)
        exact xq_ret rfl rfl rfl rfl
    | n + 8, ho => cases ho
end
end XMR
end
section
section XSA
/-- the j-th of them below n -/
def sl (P : Nat → Bool) (N j : Nat) : Nat → Int32
  | 0 => Int32.ofInt (-1)
  | n + 1 => if qp P N n = true ∧ cnt (qp P N) n = j then nI (n % N) else sl P N j n
theorem sl_u {P : Nat → Bool} {N j p : Nat} (h : qp P N p = true) (e : cnt (qp P N) p = j) : ∀ n, p < n → sl P N j n = nI (p % N) := by
  intro n
  induction n with
  | zero => intro h; omega
  | succ n ih =>
    intro hn
    show (if _ then _ else _) = _
    by_cases z : p = n
    · rw [← z, if_pos ⟨h, e⟩]
    · rw [if_neg (fun y => ?_), ih (by omega)]
      have := cnt_lt h (show p < n by omega)
      omega
theorem sl_n {P : Nat → Bool} {N j : Nat} : ∀ n, cnt (qp P N) n ≤ j → sl P N j n = Int32.ofInt (-1) := by
  intro n
  induction n with
  | zero => intro _; rfl
  | succ n ih =>
    intro h
    have m := cnt_m (P := qp P N) (show n ≤ n + 1 by omega)
    show (if _ then _ else _) = _
    rw [if_neg (fun y => ?_), ih (by omega)]
    rw [cnt_t y.1] at h
    omega
theorem sz_m {m s : Nat} (m12 : m ≤ 12) (hs : s < 2 ^ m) : sz s ≤ m := by
  unfold sz
  rw [show (12 : Nat) = m + (12 - m) by omega, cnt_ad, cnt_c (P' := fun _ => false) (12 - m) (fun k _ => ?_)]
  · have z : ∀ n, cnt (fun _ => false) n = 0 := fun n => by
      induction n with
      | zero => rfl
      | succ n ih => rw [cnt_f rfl]; exact ih
    rw [z]
    exact cnt_le m
  · exact Nat.testBit_lt_two_pow (Nat.lt_of_lt_of_le hs (Nat.pow_le_pow_right (by decide) (by omega)))
theorem cum_hi {P : Nat → Bool} {m : Nat} (m12 : m ≤ 12) : ∀ j, m + 1 ≤ j → cum P (2 ^ m) j = cum P (2 ^ m) (m + 1) := by
  intro j
  induction j with
  | zero => intro h; omega
  | succ j ih =>
    intro h
    by_cases z : j = m
    · rw [z]
    · show cum P (2 ^ m) j + cnt (qk P j) (2 ^ m) = _
      rw [ih (by omega), cnt_c (P' := fun _ => false) (2 ^ m) (fun k hk' => by
        have := sz_m m12 hk'
        unfold qk
        rw [decide_eq_false (by omega), Bool.and_false])]
      have z : ∀ n, cnt (fun _ => false) n = 0 := fun n => by
        induction n with
        | zero => rfl
        | succ n ih => rw [cnt_f rfl]; exact ih
      rw [z]
      rfl
theorem cq_tot {P : Nat → Bool} {m : Nat} (m12 : m ≤ 12) : cnt (qp P (2 ^ m)) (2 ^ m * (m + 1)) = cnt P (2 ^ m) := by
  rw [cq_k, ← cum_hi m12 13 (by omega), cum_13]
/-- what setAt answers -/
def seV (W : Nat → Bool) (m : Nat) (y : Int32) : Nat → Int32
  | 0 => if y.toInt < 0 then Int32.ofInt (-1) else sl (mi W m false) (2 ^ m) y.toInt.toNat (2 ^ m * (m + 1))
  | 1 => if y.toInt < 0 then Int32.ofInt (-1) else sl (mi W m true) (2 ^ m) y.toInt.toNat (2 ^ m * (m + 1))
  | 2 => cond (xe_c .ne y 0) (Int32.ofInt (-1)) (nI (ndN (mi W m false) (2 ^ m) m))
  | _ => cond (xe_c .ne y 0) (Int32.ofInt (-1)) (nI (idN (mi W m false) (2 ^ m) m))
def seA (W : Nat → Bool) (m : Nat) (x y : Int32) : Int32 := if x.toInt < 1 ∨ 4 < x.toInt then Int32.ofInt (-1) else seV W m y (x.toInt - 1).toNat
theorem seA_o {W : Nat → Bool} {m : Nat} {x y : Int32} (h : x.toInt < 1 ∨ 4 < x.toInt) : seA W m x y = Int32.ofInt (-1) := if_pos h
theorem seA_i {W : Nat → Bool} {m : Nat} {x y : Int32} {i : Nat} (i4 : i < 4) (h : x.toInt = 1 + (i : Int)) : seA W m x y = seV W m y i := by
  unfold seA
  rw [if_neg (by omega), show (x.toInt - 1).toNat = i by omega]
/-- the row's place is the order's -/
theorem row_sl {W : Nat → Bool} {m c j : Nat} {hd : Bool} {h : xh_H} (m12 : m ≤ 12) (M : Wm W m) (R : rwQ (mi W m hd) (2 ^ m) c h) (hj : j < cnt (mi W m hd) (2 ^ m)) : xg 0 h.2.1 c j = sl (mi W m hd) (2 ^ m) j (2 ^ m * (m + 1)) := by
  obtain ⟨t, t1, t2, t3, t4⟩ := (rw_all m12 M R).2 j hj
  rw [rk_q t1] at t3
  have s1 := sz_m m12 t1
  have q1 : qp (mi W m hd) (2 ^ m) (2 ^ m * sz t + t) = true := by rw [qp_k t1]; exact qk_s t2
  have lt : 2 ^ m * sz t + t < 2 ^ m * (m + 1) := by
    have a : 2 ^ m * (sz t + 1) ≤ 2 ^ m * (m + 1) := Nat.mul_le_mul_left _ (by omega)
    rw [Nat.mul_succ] at a
    omega
  rw [t4, sl_u q1 t3 _ lt, Nat.mul_add_mod, Nat.mod_eq_of_lt t1]
section
variable {mem sc : Nat} {d : Int32} {h : xh_H}
set_option maxRecDepth 100000 in
set_option maxHeartbeats 4000000 in
theorem sa9_q {f : Nat} {x y : Int32} (hi : a_inv a_tb h) (hn : 72 ≤ h.1.length) (e9 : xg 0 h.2.1 0 9 = nI mem) (m1 : 1 ≤ mem) (m12 : mem ≤ 12) (e8 : xg 0 h.2.1 0 8 = nI sc) (sc8 : sc ≤ 8) (e10 : xg 0 h.2.1 0 10 = d) (si : SI h) (pi : PI h) (M : Wm (cvB (fun k => xg 0 h.2.1 51 k) (fun k => xg 0 h.2.1 44 k) mem sc d) mem) : xq f xi_X9_setAt xmi_X9_setAt 0 [(0, .ref 0), (1, .int x), (2, .int y)] [] h (fun v h' => v = some (.int (seA (cvB (fun k => xg 0 h.2.1 51 k) (fun k => xg 0 h.2.1 44 k) mem sc d) mem x y)) ∧ PI h') := by
  have hq := a_rq_of hi.1 hn
  have p12 : 2 ^ mem ≤ 4096 := show 2 ^ mem ≤ 2 ^ 12 from Nat.pow_le_pow_right (by decide) m12
  refine xq_n 1 [1, 2] [(1, .int x), (2, .int y)] [.ref 0] h [] 60 hq rfl trivial (fun _ => ?_)
  refine xq_run hq rfl rfl (pt9_q hi hn e9 m1 m12 e8 sc8 e10 si pi) ?_
  rintro v h1 ⟨rfl, Y, PP, q, r, A, P⟩
  have hq1 := Yf_q hi hn Y
  obtain ⟨n1, n2⟩ := nd_e m12 M P
  refine xq_n 6 [2, 3] [(2, .int y), (3, .ref 14)] [.int x] h1 [] 60 hq1 rfl trivial (fun _ => ?_)
  refine xq_sw rfl (fun hx => ?_) (fun i off ho hx => ?_)
  · rw [seA_o hx]
    show xq f _ _ 108 _ _ _ _
    refine xq_n 109 [] [] [.int (Int32.ofInt (-1))] h1 [] 60 hq1 rfl trivial (fun _ => ?_)
    exact xq_ret rfl rfl rfl ⟨rfl, PP⟩
  · match i, ho with
    | 0, rfl =>
      rw [seA_i (by decide) hx]
      show xq f _ _ 36 _ _ _ (fun v h' => v = some (.int (if y.toInt < 0 then Int32.ofInt (-1) else sl (mi (cvB (fun k => xg 0 h.2.1 51 k) (fun k => xg 0 h.2.1 44 k) mem sc d) mem false) (2 ^ mem) y.toInt.toNat (2 ^ mem * (mem + 1)))) ∧ PI h')
      cases c1 : xe_c .lt y 0 with
      | true =>
        have b1 : y.toInt < (0 : Int) := a_ce c1
        refine xq_n 58 [] [] [.int (Int32.ofInt (-1))] h1 [true] 60 hq1 rfl ⟨c1, trivial⟩ (fun _ => ?_)
        exact xq_ret rfl rfl rfl ⟨by rw [if_pos b1], PP⟩
      | false =>
        have b1 : (0 : Int) ≤ y.toInt := a_ce (a_neg_ok c1)
        rw [if_neg (by omega)]
        have eL := (P.2.2.1.1).trans (congrArg nI (lcn_e (hd := false) m12 M))
        have cl := mi_924 (hd := false) m12 M
        have eLi : (xg 0 h1.2.1 14 9).toInt = ((cnt (mi (cvB (fun k => xg 0 h.2.1 51 k) (fun k => xg 0 h.2.1 44 k) mem sc d) mem false) (2 ^ mem) : Nat) : Int) := by rw [eL, nI_toInt (by omega)]
        cases c2 : xe_c .ge y (xg 0 h1.2.1 14 9) with
        | true =>
          have b2 : (xg 0 h1.2.1 14 9).toInt ≤ y.toInt := a_ce c2
          refine xq_n 58 [] [] [.int (Int32.ofInt (-1))] h1 [false, true] 60 hq1 rfl ⟨c1, c2, trivial⟩ (fun _ => ?_)
          exact xq_ret rfl rfl rfl ⟨by rw [sl_n _ (by rw [cq_tot m12]; omega)], PP⟩
        | false =>
          have b2 : y.toInt < (xg 0 h1.2.1 14 9).toInt := a_ce (a_neg_ok c2)
          refine xq_n 58 [] [] [.int (xg 0 h1.2.1 15 y.toNatClampNeg)] h1 [false, false] 60 hq1 rfl ⟨c1, c2, trivial⟩ (fun _ => ?_)
          exact xq_ret rfl rfl rfl ⟨by rw [show y.toNatClampNeg = y.toInt.toNat from rfl, row_sl m12 M P.2.2.1.2 (by omega)], PP⟩
    | 1, rfl =>
      rw [seA_i (by decide) hx]
      show xq f _ _ 59 _ _ _ (fun v h' => v = some (.int (if y.toInt < 0 then Int32.ofInt (-1) else sl (mi (cvB (fun k => xg 0 h.2.1 51 k) (fun k => xg 0 h.2.1 44 k) mem sc d) mem true) (2 ^ mem) y.toInt.toNat (2 ^ mem * (mem + 1)))) ∧ PI h')
      cases c1 : xe_c .lt y 0 with
      | true =>
        have b1 : y.toInt < (0 : Int) := a_ce c1
        refine xq_n 81 [] [] [.int (Int32.ofInt (-1))] h1 [true] 60 hq1 rfl ⟨c1, trivial⟩ (fun _ => ?_)
        exact xq_ret rfl rfl rfl ⟨by rw [if_pos b1], PP⟩
      | false =>
        have b1 : (0 : Int) ≤ y.toInt := a_ce (a_neg_ok c1)
        rw [if_neg (by omega)]
        have eL := (P.2.2.2.1.1).trans (congrArg nI (lcn_e (hd := true) m12 M))
        have cl := mi_924 (hd := true) m12 M
        have eLi : (xg 0 h1.2.1 14 10).toInt = ((cnt (mi (cvB (fun k => xg 0 h.2.1 51 k) (fun k => xg 0 h.2.1 44 k) mem sc d) mem true) (2 ^ mem) : Nat) : Int) := by rw [eL, nI_toInt (by omega)]
        cases c2 : xe_c .ge y (xg 0 h1.2.1 14 10) with
        | true =>
          have b2 : (xg 0 h1.2.1 14 10).toInt ≤ y.toInt := a_ce c2
          refine xq_n 81 [] [] [.int (Int32.ofInt (-1))] h1 [false, true] 60 hq1 rfl ⟨c1, c2, trivial⟩ (fun _ => ?_)
          exact xq_ret rfl rfl rfl ⟨by rw [sl_n _ (by rw [cq_tot m12]; omega)], PP⟩
        | false =>
          have b2 : y.toInt < (xg 0 h1.2.1 14 10).toInt := a_ce (a_neg_ok c2)
          refine xq_n 81 [] [] [.int (xg 0 h1.2.1 16 y.toNatClampNeg)] h1 [false, false] 60 hq1 rfl ⟨c1, c2, trivial⟩ (fun _ => ?_)
          exact xq_ret rfl rfl rfl ⟨by rw [show y.toNatClampNeg = y.toInt.toNat from rfl, row_sl m12 M P.2.2.2.1.2 (by omega)], PP⟩
    | 2, rfl =>
      rw [seA_i (by decide) hx]
      show xq f _ _ 82 _ _ _ (fun v h' => v = some (.int (cond (xe_c .ne y 0) (Int32.ofInt (-1)) (nI (ndN (mi (cvB (fun k => xg 0 h.2.1 51 k) (fun k => xg 0 h.2.1 44 k) mem sc d) mem false) (2 ^ mem) mem)))) ∧ PI h')
      cases c1 : xe_c .ne y 0 with
      | true =>
        refine xq_n 94 [] [] [.int (Int32.ofInt (-1))] h1 [true] 60 hq1 rfl ⟨c1, trivial⟩ (fun _ => ?_)
        exact xq_ret rfl rfl rfl ⟨rfl, PP⟩
      | false =>
        refine xq_n 94 [] [] [.int (xg 0 h1.2.1 14 11)] h1 [false] 60 hq1 rfl ⟨c1, trivial⟩ (fun _ => ?_)
        exact xq_ret rfl rfl rfl ⟨by rw [n1]; rfl, PP⟩
    | 3, rfl =>
      rw [seA_i (by decide) hx]
      show xq f _ _ 95 _ _ _ (fun v h' => v = some (.int (cond (xe_c .ne y 0) (Int32.ofInt (-1)) (nI (idN (mi (cvB (fun k => xg 0 h.2.1 51 k) (fun k => xg 0 h.2.1 44 k) mem sc d) mem false) (2 ^ mem) mem)))) ∧ PI h')
      cases c1 : xe_c .ne y 0 with
      | true =>
        refine xq_n 107 [] [] [.int (Int32.ofInt (-1))] h1 [true] 60 hq1 rfl ⟨c1, trivial⟩ (fun _ => ?_)
        exact xq_ret rfl rfl rfl ⟨rfl, PP⟩
      | false =>
        refine xq_n 107 [] [] [.int (xg 0 h1.2.1 14 12)] h1 [false] 60 hq1 rfl ⟨c1, trivial⟩ (fun _ => ?_)
        exact xq_ret rfl rfl rfl ⟨by rw [n2]; rfl, PP⟩
    | n + 4, ho => cases ho
end
section
variable {W : Nat → Bool} {m j : Nat} {x : Int32} {h : xh_H}
set_option maxRecDepth 100000 in
set_option maxHeartbeats 4000000 in
theorem rsa_in (A : RA W m h) (m12 : m ≤ 12) (j31 : j < 2 ^ 31) (hq : a_rq a_tb h) {i : Nat} (hi : i ≤ m) (K : ∀ f, cnt (qp (mi W m (xe_c .ne x (Int32.ofInt 1))) (2 ^ m)) (2 ^ m * (i + 1)) ≤ j → xq f xi_X10_setAt xmi_X10_setAt 57 [(0, .ref 39), (1, .int x), (3, .int (nI (j - cnt (qp (mi W m (xe_c .ne x (Int32.ofInt 1))) (2 ^ m)) (2 ^ m * (i + 1))))), (4, .int (nI (i + 1)))] [] h (fun v h' => v = some (.int (sl (mi W m (xe_c .ne x (Int32.ofInt 1))) (2 ^ m) j (2 ^ m * (m + 1)))))) : ∀ (n f s : Nat), s + n = 2 ^ m → cnt (qp (mi W m (xe_c .ne x (Int32.ofInt 1))) (2 ^ m)) (2 ^ m * i + s) ≤ j → xq f xi_X10_setAt xmi_X10_setAt 69 [(0, .ref 39), (1, .int x), (3, .int (nI (j - cnt (qp (mi W m (xe_c .ne x (Int32.ofInt 1))) (2 ^ m)) (2 ^ m * i + s)))), (4, .int (nI i)), (5, .int (nI s))] [] h (fun v h' => v = some (.int (sl (mi W m (xe_c .ne x (Int32.ofInt 1))) (2 ^ m) j (2 ^ m * (m + 1))))) := by
  have p12 : 2 ^ m ≤ 4096 := show 2 ^ m ≤ 2 ^ 12 from Nat.pow_le_pow_right (by decide) m12
  intro n
  induction n with
  | zero =>
    intro f s sn w
    have e : s = 2 ^ m := by omega
    subst e
    refine xq_n 57 [0, 1, 3, 4] [(0, .ref 39), (1, .int x), (3, .int (nI (j - cnt (qp (mi W m (xe_c .ne x (Int32.ofInt 1))) (2 ^ m)) (2 ^ m * i + 2 ^ m)))), (4, .int (nI i + Int32.ofInt 1))] [] h [true] 60 hq rfl ⟨rgt A m12, trivial⟩ (fun _ => ?_)
    rw [nI_1', ← Nat.mul_succ]
    exact K f (by rw [← Nat.mul_succ] at w; exact w)
  | succ n ih =>
    intro f s sn w
    have hs : s < 2 ^ m := by omega
    have r := ih f (s + 1) (by omega)
    rw [show 2 ^ m * i + (s + 1) = 2 ^ m * i + s + 1 from rfl] at r
    have eq := qp_k (P := (mi W m (xe_c .ne x (Int32.ofInt 1)))) (k := i) hs
    refine xq_n 80 [0, 1, 3, 4, 5] [(0, .ref 39), (1, .int x), (3, .int (nI (j - cnt (qp (mi W m (xe_c .ne x (Int32.ofInt 1))) (2 ^ m)) (2 ^ m * i + s)))), (4, .int (nI i)), (5, .int (nI s))] [.int (nI s)] h [false] 60 hq rfl ⟨rgf A m12 hs, trivial⟩ (fun _ => ?_)
    refine xq_run hq rfl rfl (rso_q (by omega) hq) ?_
    rintro v h1 ⟨rfl, rfl⟩
    have sl' := sz_le (s := s)
    by_cases z : sz s = i
    · refine xq_n 92 [0, 1, 3, 4, 5] [(0, .ref 39), (1, .int x), (3, .int (nI (j - cnt (qp (mi W m (xe_c .ne x (Int32.ofInt 1))) (2 ^ m)) (2 ^ m * i + s)))), (4, .int (nI i)), (5, .int (nI s))] [.int x, .int (nI s), .ref 39] h [false] 60 hq rfl ⟨nne_f (by omega) (by omega) z, trivial⟩ (fun _ => ?_)
      refine xq_run hq rfl rfl (rik_q A m12 hs hq) ?_
      rintro v h1 ⟨rfl, rfl⟩
      cases c : (mi W m (xe_c .ne x (Int32.ofInt 1))) s with
      | false =>
        have q0 : qp (mi W m (xe_c .ne x (Int32.ofInt 1))) (2 ^ m) (2 ^ m * i + s) = false := by rw [eq]; unfold qk; rw [c]; rfl
        rw [cnt_f q0] at r
        refine xq_n 69 [0, 1, 3, 4, 5] [(0, .ref 39), (1, .int x), (3, .int (nI (j - cnt (qp (mi W m (xe_c .ne x (Int32.ofInt 1))) (2 ^ m)) (2 ^ m * i + s)))), (4, .int (nI i)), (5, .int (nI s + Int32.ofInt 1))] [] h [false] 60 hq rfl ⟨rfl, trivial⟩ (fun _ => ?_)
        rw [nI_1']
        exact r w
      | true =>
        have q1 : qp (mi W m (xe_c .ne x (Int32.ofInt 1))) (2 ^ m) (2 ^ m * i + s) = true := by rw [eq]; unfold qk; rw [c, decide_eq_true z]; rfl
        rw [cnt_t q1] at r
        by_cases y : cnt (qp (mi W m (xe_c .ne x (Int32.ofInt 1))) (2 ^ m)) (2 ^ m * i + s) = j
        · have lt : 2 ^ m * i + s < 2 ^ m * (m + 1) := by
            have a : 2 ^ m * (i + 1) ≤ 2 ^ m * (m + 1) := Nat.mul_le_mul_left _ (by omega)
            rw [Nat.mul_succ] at a
            omega
          refine xq_n 107 [] [] [.int (nI s)] h [true, false] 60 hq rfl ⟨rfl, nne_f (b := 0) (by omega) (by decide) (by omega), trivial⟩ (fun _ => ?_)
          exact xq_ret rfl rfl rfl (by rw [sl_u q1 y _ lt, Nat.mul_add_mod, Nat.mod_eq_of_lt hs])
        · refine xq_n 69 [0, 1, 3, 4, 5] [(0, .ref 39), (1, .int x), (3, .int (nI (j - cnt (qp (mi W m (xe_c .ne x (Int32.ofInt 1))) (2 ^ m)) (2 ^ m * i + s)) + Int32.ofInt (-1))), (4, .int (nI i)), (5, .int (nI s + Int32.ofInt 1))] [] h [true, true] 60 hq rfl ⟨rfl, nne_t (b := 0) (by omega) (by decide) (by omega), trivial⟩ (fun _ => ?_)
          rw [nI_1', show j - cnt (qp (mi W m (xe_c .ne x (Int32.ofInt 1))) (2 ^ m)) (2 ^ m * i + s) = (j - (cnt (qp (mi W m (xe_c .ne x (Int32.ofInt 1))) (2 ^ m)) (2 ^ m * i + s) + 1)) + 1 by omega, nI_dec]
          exact r (by omega)
    · have q0 : qp (mi W m (xe_c .ne x (Int32.ofInt 1))) (2 ^ m) (2 ^ m * i + s) = false := by rw [eq]; unfold qk; rw [decide_eq_false z, Bool.and_false]
      rw [cnt_f q0] at r
      refine xq_n 69 [0, 1, 3, 4, 5] [(0, .ref 39), (1, .int x), (3, .int (nI (j - cnt (qp (mi W m (xe_c .ne x (Int32.ofInt 1))) (2 ^ m)) (2 ^ m * i + s)))), (4, .int (nI i)), (5, .int (nI s + Int32.ofInt 1))] [] h [true] 60 hq rfl ⟨nne_t (by omega) (by omega) z, trivial⟩ (fun _ => ?_)
      rw [nI_1']
      exact r w
set_option maxRecDepth 100000 in
set_option maxHeartbeats 4000000 in
theorem rsa_l (A : RA W m h) (m12 : m ≤ 12) (j31 : j < 2 ^ 31) (hq : a_rq a_tb h) : ∀ (n f i : Nat), i + n = m + 1 → cnt (qp (mi W m (xe_c .ne x (Int32.ofInt 1))) (2 ^ m)) (2 ^ m * i) ≤ j → xq f xi_X10_setAt xmi_X10_setAt 57 [(0, .ref 39), (1, .int x), (3, .int (nI (j - cnt (qp (mi W m (xe_c .ne x (Int32.ofInt 1))) (2 ^ m)) (2 ^ m * i)))), (4, .int (nI i))] [] h (fun v h' => v = some (.int (sl (mi W m (xe_c .ne x (Int32.ofInt 1))) (2 ^ m) j (2 ^ m * (m + 1))))) := by
  intro n
  induction n with
  | zero =>
    intro f i hn w
    have e : i = m + 1 := by omega
    subst e
    refine xq_n 124 [] [] [.int (Int32.ofInt (-1))] h [true] 60 hq rfl ⟨(show xe_c .gt (nI (m + 1)) (xg 0 h.2.1 39 4) = true by rw [A.1]; exact xgt_t (by rw [nI_toInt (by omega), nI_toInt (by omega)]; omega)), trivial⟩ (fun _ => ?_)
    exact xq_ret rfl rfl rfl (by rw [sl_n _ w])
  | succ n ih =>
    intro f i hn w
    refine xq_n 69 [0, 1, 3, 4, 5] [(0, .ref 39), (1, .int x), (3, .int (nI (j - cnt (qp (mi W m (xe_c .ne x (Int32.ofInt 1))) (2 ^ m)) (2 ^ m * i)))), (4, .int (nI i)), (5, .int (Int32.ofInt 0))] [] h [false] 60 hq rfl ⟨(show xe_c .gt (nI i) (xg 0 h.2.1 39 4) = false by rw [A.1]; exact xgt_f (by rw [nI_toInt (by omega), nI_toInt (by omega)]; omega)), trivial⟩ (fun _ => ?_)
    exact rsa_in A m12 j31 hq (by omega) (fun f w => ih f (i + 1) (by omega) w) (2 ^ m) f 0 (by omega) w
end
section
variable {mem sc : Nat} {FR RW : Nat → Int32} {d : Int32} {h : xh_H}
set_option maxRecDepth 100000 in
set_option maxHeartbeats 4000000 in
theorem sa10_q {f : Nat} {x y : Int32} (m12 : mem ≤ 12) (e4 : xg 0 h.2.1 39 4 = nI mem) (e33 : xg 0 h.2.1 39 33 = nI sc) (sc8 : sc ≤ 8) (e3 : xg 0 h.2.1 39 3 = d) (hF : ∀ k, k < sc → xg 0 h.2.1 51 k = FR k) (hT : ∀ k, k < sc → (xg 0 h.2.1 52 k).toInt ≤ 999) (hR : ∀ k s, k < sc → s < 2 ^ mem → ∃ b : Bool, RW (4096 * k + s) = bl b ∧ xg 0 h.2.1 44 (4096 * k + s) = bl b) (hq : a_rq a_tb h) : xq f xi_X10_setAt xmi_X10_setAt 0 [(0, .ref 39), (1, .int x), (2, .int y)] [] h (fun v h' => v = some (.int (seA (cvB FR RW mem sc d) mem x y))) := by
  refine xq_n 8 [0, 1, 2] [(0, .ref 39), (1, .int x), (2, .int y)] [.int (Int32.ofInt 4), .int (Int32.ofInt 1), .int x] (xh_ui h 39 0 (Int32.ofInt 0)) [] 60 hq rfl trivial (fun _ => ?_)
  have hq : a_rq a_tb (xh_ui h 39 0 (Int32.ofInt 0)) := a_rq_ui hq
  refine xq_run hq rfl rfl (isIn_q hq) ?_
  rintro v h2 ⟨rfl, rfl⟩
  by_cases z : (Int32.ofInt 1).toInt ≤ x.toInt ∧ x.toInt ≤ (Int32.ofInt 4).toInt
  · have z' : (1 : Int) ≤ x.toInt ∧ x.toInt ≤ (4 : Int) := z
    rw [decide_eq_true z]
    cases c2 : xe_c .ge y 0 with
    | false =>
      have b2 : y.toInt < (0 : Int) := a_ce (a_neg_ok c2)
      refine xq_n 19 [] [] [.int (Int32.ofInt (-1))] (xh_ui h 39 0 (Int32.ofInt 0)) [false, false] 60 hq rfl ⟨rfl, c2, trivial⟩ (fun _ => ?_)
      refine xq_ret rfl rfl rfl ?_
      have yn : xe_c .ne y 0 = true := by
        cases c3 : xe_c .ne y 0 with
        | true => rfl
        | false =>
          have : y.toInt = (0 : Int) := a_ce (a_neg_ok c3)
          omega
      obtain ⟨i, i4, hx⟩ : ∃ i : Nat, i < 4 ∧ x.toInt = 1 + (i : Int) := ⟨(x.toInt - 1).toNat, by omega, by omega⟩
      rw [seA_i i4 hx]
      match i, i4 with
      | 0, _ => show _ = some (Value.int (if _ then _ else _)); rw [if_pos b2]
      | 1, _ => show _ = some (Value.int (if _ then _ else _)); rw [if_pos b2]
      | 2, _ => show _ = some (Value.int (cond _ _ _)); rw [yn]; rfl
      | 3, _ => show _ = some (Value.int (cond _ _ _)); rw [yn]; rfl
    | true =>
      have b2 : (0 : Int) ≤ y.toInt := a_ce c2
      have y31 := (ar_rng y).2
      have yN : nI y.toInt.toNat = y := Int32.toInt_inj.mp (by rw [nI_toInt (by omega)]; omega)
      refine xq_n 21 [0, 1, 2] [(0, .ref 39), (1, .int x), (2, .int y)] [.ref 39] (xh_ui h 39 0 (Int32.ofInt 0)) [false, true] 60 hq rfl ⟨rfl, c2, trivial⟩ (fun _ => ?_)
      refine xq_run hq rfl rfl (ly_q m12 e4 e33 sc8 e3 hF hT hR hq) ?_
      rintro v h1 ⟨rfl, g1, A⟩
      have hq := fx_q g1 hq
      obtain ⟨i, i4, hx⟩ : ∃ i : Nat, i < 4 ∧ x.toInt = 1 + (i : Int) := ⟨(x.toInt - 1).toNat, by omega, by omega⟩
      match i, hx, i4 with
      | 0, hx, _ =>
        have ex : x = nI 1 := Int32.toInt_inj.mp (by rw [hx]; rfl)
        subst ex
        rw [seA_i (i := 0) (by decide) hx]
        show xq f _ _ _ _ _ _ (fun v h' => v = some (.int (if y.toInt < 0 then Int32.ofInt (-1) else sl (mi (cvB FR RW mem sc d) mem false) (2 ^ mem) y.toInt.toNat (2 ^ mem * (mem + 1)))))
        rw [if_neg (by omega)]
        refine xq_n 57 [0, 1, 3, 4] [(0, .ref 39), (1, .int (nI 1)), (3, .int y), (4, .int (Int32.ofInt 0))] [] h1 [true] 60 hq rfl ⟨rfl, trivial⟩ (fun _ => ?_)
        have r := rsa_l (x := nI 1) (j := y.toInt.toNat) A m12 (by omega) hq (mem + 1) f 0 (by omega) (Nat.zero_le _)
        rw [show nI (y.toInt.toNat - cnt (qp (mi (cvB FR RW mem sc d) mem (xe_c .ne (nI 1) (Int32.ofInt 1))) (2 ^ mem)) (2 ^ mem * 0)) = y from yN] at r
        exact r
      | 1, hx, _ =>
        have ex : x = nI 2 := Int32.toInt_inj.mp (by rw [hx]; rfl)
        subst ex
        rw [seA_i (i := 1) (by decide) hx]
        show xq f _ _ _ _ _ _ (fun v h' => v = some (.int (if y.toInt < 0 then Int32.ofInt (-1) else sl (mi (cvB FR RW mem sc d) mem true) (2 ^ mem) y.toInt.toNat (2 ^ mem * (mem + 1)))))
        rw [if_neg (by omega)]
        refine xq_n 57 [0, 1, 3, 4] [(0, .ref 39), (1, .int (nI 2)), (3, .int y), (4, .int (Int32.ofInt 0))] [] h1 [true] 60 hq rfl ⟨rfl, trivial⟩ (fun _ => ?_)
        have r := rsa_l (x := nI 2) (j := y.toInt.toNat) A m12 (by omega) hq (mem + 1) f 0 (by omega) (Nat.zero_le _)
        rw [show nI (y.toInt.toNat - cnt (qp (mi (cvB FR RW mem sc d) mem (xe_c .ne (nI 2) (Int32.ofInt 1))) (2 ^ mem)) (2 ^ mem * 0)) = y from yN] at r
        exact r
      | 2, hx, _ =>
        have ex : x = nI 3 := Int32.toInt_inj.mp (by rw [hx]; rfl)
        subst ex
        rw [seA_i (i := 2) (by decide) hx]
        show xq f _ _ _ _ _ _ (fun v h' => v = some (.int (cond (xe_c .ne y 0) (Int32.ofInt (-1)) (nI (ndN (mi (cvB FR RW mem sc d) mem false) (2 ^ mem) mem)))))
        cases c3 : xe_c .ne y 0 with
        | true =>
          refine xq_n 51 [] [] [.int (Int32.ofInt (-1))] h1 [false, true] 60 hq rfl ⟨rfl, c3, trivial⟩ (fun _ => ?_)
          exact xq_ret rfl rfl rfl rfl
        | false =>
          refine xq_n 44 [] [] [.int (Int32.ofInt 0), .ref 39] h1 [false, false, true] 60 hq rfl ⟨rfl, c3, rfl, trivial⟩ (fun _ => ?_)
          refine xq_run hq rfl rfl (rwh_q A m12 hq) ?_
          rintro v h2 ⟨rfl, rfl⟩
          refine xq_n 51 [] [] [.int (nI (ndN (mi (cvB FR RW mem sc d) mem false) (2 ^ mem) mem))] h1 [] 60 hq rfl trivial (fun _ => ?_)
          exact xq_ret rfl rfl rfl rfl
      | 3, hx, _ =>
        have ex : x = nI 4 := Int32.toInt_inj.mp (by rw [hx]; rfl)
        subst ex
        rw [seA_i (i := 3) (by decide) hx]
        show xq f _ _ _ _ _ _ (fun v h' => v = some (.int (cond (xe_c .ne y 0) (Int32.ofInt (-1)) (nI (idN (mi (cvB FR RW mem sc d) mem false) (2 ^ mem) mem)))))
        cases c3 : xe_c .ne y 0 with
        | true =>
          refine xq_n 51 [] [] [.int (Int32.ofInt (-1))] h1 [false, true] 60 hq rfl ⟨rfl, c3, trivial⟩ (fun _ => ?_)
          exact xq_ret rfl rfl rfl rfl
        | false =>
          refine xq_n 44 [] [] [.int (Int32.ofInt 1), .ref 39] h1 [false, false, false] 60 hq rfl ⟨rfl, c3, rfl, trivial⟩ (fun _ => ?_)
          refine xq_run hq rfl rfl (rwh_q A m12 hq) ?_
          rintro v h2 ⟨rfl, rfl⟩
          refine xq_n 51 [] [] [.int (nI (idN (mi (cvB FR RW mem sc d) mem false) (2 ^ mem) mem))] h1 [] 60 hq rfl trivial (fun _ => ?_)
          exact xq_ret rfl rfl rfl rfl
  · rw [decide_eq_false z]
    have z' : ¬ ((1 : Int) ≤ x.toInt ∧ x.toInt ≤ (4 : Int)) := z
    refine xq_n 19 [] [] [.int (Int32.ofInt (-1))] (xh_ui h 39 0 (Int32.ofInt 0)) [true] 60 hq rfl ⟨rfl, trivial⟩ (fun _ => ?_)
    exact xq_ret rfl rfl rfl (by rw [seA_o (by omega)])
end
end XSA
end
section
section XCV
def pwv (b : Int64) : Nat → Int64
  | 0 => 1
  | n + 1 => pwv b n * b
/-- how many, as a long -/
def cLg (P : Nat → Bool) : Nat → Int64
  | 0 => 0
  | n + 1 => if P n = true then cLg P n + 1 else cLg P n
def tA (x : Int32) (m i : Nat) : Int64 := pwv x.toInt64 i * pwv (10 - x).toInt64 (m - i)
def rs (W : Nat → Bool) (m : Nat) (x : Int32) : Nat → Int64
  | 0 => 0
  | s + 1 => if W s = true then rs W m x s + tA x m (sz s) else rs W m x s
def cs (c : Nat → Int64) (m : Nat) (x : Int32) : Nat → Int64
  | 0 => 0
  | i + 1 => cs c m x i + (c i * pwv x.toInt64 i) * pwv (10 - x).toInt64 (m - i)
theorem cs_0 {m : Nat} {x : Int32} : ∀ j, cs (fun _ => 0) m x j = 0 := by
  intro j
  induction j with
  | zero => rfl
  | succ j ih =>
    show cs (fun _ => 0) m x j + ((0 : Int64) * _) * _ = 0
    rw [ih, Int64.zero_mul, Int64.zero_mul]
    rfl
theorem cs_c {c c' : Nat → Int64} {m : Nat} {x : Int32} (e : ∀ i, c i = c' i) (j : Nat) : cs c m x j = cs c' m x j := by rw [show c = c' from funext e]
theorem cs_1 {c c' : Nat → Int64} {m k : Nat} {x : Int32} (e : ∀ i, c' i = if i = k then c i + 1 else c i) : ∀ j, cs c' m x j = if k < j then cs c m x j + tA x m k else cs c m x j := by
  intro j
  induction j with
  | zero => rw [if_neg (by omega)]; rfl
  | succ j ih =>
    show cs c' m x j + (c' j * _) * _ = _
    rw [ih, e j]
    show _ = if k < j + 1 then (cs c m x j + (c j * pwv x.toInt64 j) * pwv (10 - x).toInt64 (m - j)) + tA x m k else (cs c m x j + (c j * pwv x.toInt64 j) * pwv (10 - x).toInt64 (m - j))
    by_cases z : j = k
    · rw [if_pos z, if_neg (by omega), if_pos (by omega), Int64.add_mul, Int64.one_mul, Int64.add_mul, z]
      unfold tA
      rw [Int64.add_assoc]
    · rw [if_neg z]
      by_cases y : k < j
      · rw [if_pos y, if_pos (by omega), Int64.add_assoc, Int64.add_comm (tA x m k), ← Int64.add_assoc]
      · rw [if_neg y, if_neg (by omega)]
theorem cs_r {W : Nat → Bool} {m : Nat} {x : Int32} (m12 : m ≤ 12) : ∀ n, n ≤ 2 ^ m → cs (fun i => cLg (qk W i) n) m x (m + 1) = rs W m x n := by
  intro n
  induction n with
  | zero => intro _; exact cs_0 _
  | succ n ih =>
    intro h
    have s := sz_m m12 (show n < 2 ^ m by omega)
    have r := ih (by omega)
    show _ = if W n = true then rs W m x n + tA x m (sz n) else rs W m x n
    cases c : W n with
    | false =>
      rw [if_neg (by decide), ← r]
      exact cs_c (fun i => if_neg (by unfold qk; rw [c]; exact (fun z => by cases z))) _
    | true =>
      rw [if_pos rfl, ← r, cs_1 (c := fun i => cLg (qk W i) n) (k := sz n) (fun i => ?_), if_pos (by omega)]
      by_cases z : i = sz n
      · rw [if_pos z]; exact if_pos (by rw [z]; exact qk_s c)
      · rw [if_neg z]; exact if_neg (by unfold qk; rw [decide_eq_false (fun e => z e.symm), Bool.and_false]; decide)
set_option maxRecDepth 100000 in
set_option maxHeartbeats 4000000 in
/-- Powers.power -/
theorem pwc_l {x : Int32} {e : Nat} {h : xh_H} (e12 : e ≤ 12) (hq : a_rq a_tb h) : ∀ (n f i : Nat), i + n = e → xq f xi_X2_power xmi_X2_power 5 [(0, .int x), (1, .int (nI e)), (2, .long (pwv x.toInt64 i)), (4, .int (nI i))] [] h (fun v h' => h = h' ∧ v = some (.long (pwv x.toInt64 e))) := by
  intro n
  induction n with
  | zero =>
    intro f i hn
    have e0 : i = e := by omega
    subst e0
    refine xq_n 23 [] [] [.long (pwv x.toInt64 i)] h [true] 60 hq rfl ⟨nge_t (by omega) (by omega) (Nat.le_refl _), trivial⟩ (fun _ => ?_)
    exact xq_ret rfl rfl rfl ⟨rfl, rfl⟩
  | succ n ih =>
    intro f i hn
    refine xq_n 5 [0, 1, 2, 4] [(0, .int x), (1, .int (nI e)), (2, .long (pwv x.toInt64 i * x.toInt64)), (4, .int (nI i + Int32.ofInt 1))] [] h [false] 60 hq rfl ⟨nge_f (by omega) (by omega) (by omega), trivial⟩ (fun _ => ?_)
    rw [nI_1']
    exact ih f (i + 1) (by omega)
theorem pwc_q {f : Nat} {x : Int32} {e : Nat} {h : xh_H} (e12 : e ≤ 12) (hq : a_rq a_tb h) : xq f xi_X2_power xmi_X2_power 0 [(0, .int x), (1, .int (nI e))] [] h (fun v h' => h = h' ∧ v = some (.long (pwv x.toInt64 e))) := by
  refine xq_n 5 [0, 1, 2, 4] [(0, .int x), (1, .int (nI e)), (2, .long 1), (4, .int (Int32.ofInt 0))] [] h [] 60 hq rfl trivial (fun _ => ?_)
  exact pwc_l e12 hq e f 0 (by omega)
set_option maxRecDepth 100000 in
set_option maxHeartbeats 4000000 in
/-- X10.power -/
theorem pwr'_l {b : Int64} {e : Nat} {h : xh_H} (e12 : e ≤ 12) (hq : a_rq a_tb h) : ∀ (n f i : Nat), i + n = e → xq f xi_X10_power xmi_X10_power 5 [(0, .long b), (2, .int (nI e)), (3, .long (pwv b i)), (5, .int (nI i))] [] h (fun v h' => h = h' ∧ v = some (.long (pwv b e))) := by
  intro n
  induction n with
  | zero =>
    intro f i hn
    have e0 : i = e := by omega
    subst e0
    refine xq_n 22 [] [] [.long (pwv b i)] h [true] 60 hq rfl ⟨nge_t (by omega) (by omega) (Nat.le_refl _), trivial⟩ (fun _ => ?_)
    exact xq_ret rfl rfl rfl ⟨rfl, rfl⟩
  | succ n ih =>
    intro f i hn
    refine xq_n 5 [0, 2, 3, 5] [(0, .long b), (2, .int (nI e)), (3, .long (pwv b i * b)), (5, .int (nI i + Int32.ofInt 1))] [] h [false] 60 hq rfl ⟨nge_f (by omega) (by omega) (by omega), trivial⟩ (fun _ => ?_)
    rw [nI_1']
    exact ih f (i + 1) (by omega)
theorem pwr'_q {f : Nat} {b : Int64} {e : Nat} {h : xh_H} (e12 : e ≤ 12) (hq : a_rq a_tb h) : xq f xi_X10_power xmi_X10_power 0 [(0, .long b), (2, .int (nI e))] [] h (fun v h' => h = h' ∧ v = some (.long (pwv b e))) := by
  refine xq_n 5 [0, 2, 3, 5] [(0, .long b), (2, .int (nI e)), (3, .long 1), (5, .int (Int32.ofInt 0))] [] h [] 60 hq rfl trivial (fun _ => ?_)
  exact pwr'_l e12 hq e f 0 (by omega)
theorem LA_g {W : Nat → Bool} {m q r : Nat} {S L : Nat → Nat → Bool} {h h' : xh_H} (A : LA W m q r h) (g : fx S L h h') (e7 : S 14 7 = false) (e8 : S 14 8 = false) (hL : ∀ k, L r k = false) : LA W m q r h' := by
  obtain ⟨a1, a2, a3, a4, a5, a6, a7⟩ := A
  exact ⟨by rw [g.2.1]; exact a1, by rw [g.1]; exact a2, by rw [g.2.1]; exact a3, by rw [g.1]; exact a4, (fx_i g e7).trans a5, (fx_i g e8).trans a6, fun s hs => (hv_ee (fun k => g.2.2.2 r k (hL k))).trans (a7 s hs)⟩
theorem r20 {W : Nat → Bool} {m q r : Nat} {h : xh_H} (A : LA W m q r h) (hq : a_rq a_tb h) (k : Nat) : Lr 20 r k = false := nbeq_f (fun w => by
  have := A.2.2.2.1
  rw [w, hq.2.1 20 _ rfl] at this
  cases this)
section
variable {W : Nat → Bool} {m q r : Nat} {x : Int32} {hb : xh_H}
set_option maxRecDepth 100000 in
set_option maxHeartbeats 4000000 in
theorem cv_C (m12 : m ≤ 12) (e7 : xg 0 hb.2.1 14 7 = nI m) {c : Nat → Int64} (hc : ∀ i, i ≤ m → xg 0 hb.2.2.1 20 i = c i) (hq : a_rq a_tb hb) : ∀ (n f i : Nat), i + n = m + 1 → xq f xi_X2_chanceOf xmi_X2_chanceOf 68 [(0, .ref 14), (1, .int x), (2, .long (cs c m x i)), (4, .int (nI i))] [] hb (fun v h' => hb = h' ∧ v = some (.long (cs c m x (m + 1)))) := by
  intro n
  induction n with
  | zero =>
    intro f i hn
    have e : i = m + 1 := by omega
    subst e
    refine xq_n 116 [] [] [.long (cs c m x (m + 1))] hb [true] 60 hq rfl ⟨(show xe_c .gt (nI (m + 1)) (xg 0 hb.2.1 14 7) = true by rw [e7]; exact xgt_t (by rw [nI_toInt (by omega), nI_toInt (by omega)]; omega)), trivial⟩ (fun _ => ?_)
    exact xq_ret rfl rfl rfl ⟨rfl, rfl⟩
  | succ n ih =>
    intro f i hn
    refine xq_n 88 [0, 1, 2, 4] [(0, .ref 14), (1, .int x), (2, .long (cs c m x i)), (4, .int (nI i))] [.int (nI i), .int x, .long (xg 0 hb.2.2.1 20 (nI i).toNatClampNeg), .long (cs c m x i)] hb [false] 60 hq rfl ⟨(show xe_c .gt (nI i) (xg 0 hb.2.1 14 7) = false by rw [e7]; exact xgt_f (by rw [nI_toInt (by omega), nI_toInt (by omega)]; omega)), trivial⟩ (fun _ => ?_)
    rw [nI_clamp (by omega), hc i (by omega)]
    refine xq_run hq rfl rfl (pwc_q (by omega) hq) ?_
    rintro v h1 ⟨rfl, rfl⟩
    refine xq_n 103 [0, 1, 2, 4] [(0, .ref 14), (1, .int x), (2, .long (cs c m x i)), (4, .int (nI i))] [.int (xg 0 hb.2.1 14 7 - nI i), .int (10 - x), .long (c i * pwv x.toInt64 i), .long (cs c m x i)] hb [] 60 hq rfl trivial (fun _ => ?_)
    rw [e7, nI_sub (by omega)]
    refine xq_run hq rfl rfl (pwc_q (by omega) hq) ?_
    rintro v h1 ⟨rfl, rfl⟩
    refine xq_n 68 [0, 1, 2, 4] [(0, .ref 14), (1, .int x), (2, .long (cs c m x i + (c i * pwv x.toInt64 i) * pwv (10 - x).toInt64 (m - i))), (4, .int (nI i + Int32.ofInt 1))] [] hb [] 60 hq rfl trivial (fun _ => ?_)
    rw [nI_1']
    exact ih f (i + 1) (by omega)
set_option maxRecDepth 100000 in
set_option maxHeartbeats 4000000 in
theorem cv_B (A : LA W m q r hb) (m12 : m ≤ 12) (hq0 : a_rq a_tb hb) : ∀ (n f s : Nat) (h : xh_H), s + n = 2 ^ m → a_rq a_tb h → fx fN (Lr 20) hb h → (∀ i, i ≤ m → xg 0 h.2.2.1 20 i = cLg (qk W i) s) → xq f xi_X2_chanceOf xmi_X2_chanceOf 25 [(0, .ref 14), (1, .int x), (2, .int (nI s))] [] h (fun v h' => fx fN (Lr 20) hb h' ∧ v = some (.long (rs W m x (2 ^ m)))) := by
  have p12 : 2 ^ m ≤ 4096 := show 2 ^ m ≤ 2 ^ 12 from Nat.pow_le_pow_right (by decide) m12
  intro n
  induction n with
  | zero =>
    intro f s h hn hq ge w
    have e : s = 2 ^ m := by omega
    subst e
    have A' := LA_g A ge rfl rfl (r20 A hq0)
    refine xq_n 68 [0, 1, 2, 4] [(0, .ref 14), (1, .int x), (2, .long 0), (4, .int (Int32.ofInt 0))] [] h [true] 60 hq rfl ⟨gtt A' m12, trivial⟩ (fun _ => ?_)
    refine xq_mono (cv_C (c := fun i => cLg (qk W i) (2 ^ m)) m12 A'.2.2.2.2.1 w hq (m + 1) f 0 (by omega)) (fun v h' e => ?_)
    obtain ⟨rfl, e⟩ := e
    exact ⟨ge, by rw [e, cs_r m12 _ (Nat.le_refl _)]⟩
  | succ n ih =>
    intro f s h hn hq ge w
    have hs : s < 2 ^ m := by omega
    have A' := LA_g A ge rfl rfl (r20 A hq0)
    refine xq_n 38 [0, 1, 2] [(0, .ref 14), (1, .int x), (2, .int (nI s))] [.int (nI s), va_rf (xg none h.2.2.2 14 6)] h [false] 60 hq rfl ⟨gtf A' m12 hs, trivial⟩ (fun _ => ?_)
    rw [A'.1]
    refine xq_cr (As := [.ref q, .int (nI (s))]) (mj := xmi_X7_holds) (q := []) rfl rfl (fun _ _ => rfl) (xa_cs_ok (d := 0) (pc := 0) (lv := []) (nL := 0) A'.2.1 rfl).1 (fun f => hl_q A' m12 (hs) hq) ?_
    rintro v h1 ⟨rfl, rfl⟩
    cases c : W s with
    | false =>
      refine xq_n 25 [0, 1, 2] [(0, .ref 14), (1, .int x), (2, .int (nI s + Int32.ofInt 1))] [] h [true] 60 hq rfl ⟨rfl, trivial⟩ (fun _ => ?_)
      rw [nI_1']
      exact ih f (s + 1) h (by omega) hq ge (fun i hi => (w i hi).trans (if_neg (by unfold qk; rw [c]; exact (fun z => by cases z))).symm)
    | true =>
      have sl := sz_m m12 hs
      refine xq_n 49 [0, 1, 2] [(0, .ref 14), (1, .int x), (2, .int (nI s))] [.int (nI s), .ref 20] h [false] 60 hq rfl ⟨rfl, trivial⟩ (fun _ => ?_)
      refine xq_run hq rfl rfl (bit_q (by omega) hq) ?_
      rintro v h1 ⟨rfl, rfl⟩
      refine xq_n 25 [0, 1, 2] [(0, .ref 14), (1, .int x), (2, .int (nI s + Int32.ofInt 1))] [] (xh_ul h 20 (nI (sz s)).toNatClampNeg (xg 0 h.2.2.1 20 (nI (sz s)).toNatClampNeg + 1)) [] 60 hq rfl trivial (fun _ => ?_)
      rw [nI_1', show (nI (sz s)).toNatClampNeg = sz s from nI_clamp (by omega), w (sz s) sl]
      refine ih f (s + 1) _ (by omega) (a_rq_ul hq) (fx_ul ge rfl) (fun i hi => ?_)
      by_cases z : i = sz s
      · rw [z, gl_s]; exact (if_pos (qk_s c)).symm
      · exact (gl_k z).trans ((w i hi).trans (if_neg (by unfold qk; rw [decide_eq_false (fun e => z e.symm), Bool.and_false]; decide)).symm)
set_option maxRecDepth 100000 in
set_option maxHeartbeats 4000000 in
theorem cv_A (A : LA W m q r hb) (m12 : m ≤ 12) (hq0 : a_rq a_tb hb) : ∀ (n f i : Nat) (h : xh_H), i + n = m + 1 → a_rq a_tb h → fx fN (Lr 20) hb h → (∀ j, j < i → xg 0 h.2.2.1 20 j = 0) → xq f xi_X2_chanceOf xmi_X2_chanceOf 2 [(0, .ref 14), (1, .int x), (2, .int (nI i))] [] h (fun v h' => fx fN (Lr 20) hb h' ∧ v = some (.long (rs W m x (2 ^ m)))) := by
  intro n
  induction n with
  | zero =>
    intro f i h hn hq ge w
    have e : i = m + 1 := by omega
    subst e
    have A' := LA_g A ge rfl rfl (r20 A hq0)
    refine xq_n 25 [0, 1, 2] [(0, .ref 14), (1, .int x), (2, .int (Int32.ofInt 0))] [] h [true] 60 hq rfl ⟨(show xe_c .gt (nI (m + 1)) (xg 0 h.2.1 14 7) = true by rw [A'.2.2.2.2.1]; exact xgt_t (by rw [nI_toInt (by omega), nI_toInt (by omega)]; omega)), trivial⟩ (fun _ => ?_)
    exact cv_B A m12 hq0 (2 ^ m) f 0 h (by omega) hq ge (fun i hi => w i (by omega))
  | succ n ih =>
    intro f i h hn hq ge w
    have A' := LA_g A ge rfl rfl (r20 A hq0)
    refine xq_n 2 [0, 1, 2] [(0, .ref 14), (1, .int x), (2, .int (nI i + Int32.ofInt 1))] [] (xh_ul h 20 (nI i).toNatClampNeg 0) [false] 60 hq rfl ⟨(show xe_c .gt (nI i) (xg 0 h.2.1 14 7) = false by rw [A'.2.2.2.2.1]; exact xgt_f (by rw [nI_toInt (by omega), nI_toInt (by omega)]; omega)), trivial⟩ (fun _ => ?_)
    rw [nI_1', show (nI i).toNatClampNeg = i from nI_clamp (by omega)]
    refine ih f (i + 1) _ (by omega) (a_rq_ul hq) (fx_ul ge rfl) (fun j hj => ?_)
    by_cases z : j = i
    · rw [z, gl_s]
    · exact (gl_k z).trans (w j (by omega))
theorem cv_q {f : Nat} (A : LA W m q r hb) (m12 : m ≤ 12) (hq : a_rq a_tb hb) : xq f xi_X2_chanceOf xmi_X2_chanceOf 0 [(0, .ref 14), (1, .int x)] [] hb (fun v h' => fx fN (Lr 20) hb h' ∧ v = some (.long (rs W m x (2 ^ m)))) := by
  refine xq_n 2 [0, 1, 2] [(0, .ref 14), (1, .int x), (2, .int (Int32.ofInt 0))] [] hb [] 60 hq rfl trivial (fun _ => ?_)
  exact cv_A A m12 hq (m + 1) f 0 hb (by omega) hq fx_0 (fun j hj => absurd hj (Nat.not_lt_zero j))
set_option maxRecDepth 100000 in
set_option maxHeartbeats 4000000 in
/-- X10.chance -/
theorem cr_l {h : xh_H} (A : RA W m h) (m12 : m ≤ 12) (hq : a_rq a_tb h) : ∀ (n f s : Nat), s + n = 2 ^ m → xq f xi_X10_chance xmi_X10_chance 28 [(0, .ref 39), (1, .int x), (2, .long (rs W m x s)), (4, .int (nI s))] [] h (fun v h' => v = some (.long (rs W m x (2 ^ m)))) := by
  have p12 : 2 ^ m ≤ 4096 := show 2 ^ m ≤ 2 ^ 12 from Nat.pow_le_pow_right (by decide) m12
  intro n
  induction n with
  | zero =>
    intro f s sn
    have e : s = 2 ^ m := by omega
    subst e
    refine xq_n 86 [] [] [.long (rs W m x (2 ^ m))] h [true] 60 hq rfl ⟨rgt A m12, trivial⟩ (fun _ => ?_)
    exact xq_ret rfl rfl rfl rfl
  | succ n ih =>
    intro f s sn
    have hs : s < 2 ^ m := by omega
    have g := be' (rw0 A m12 hs)
    have r := ih f (s + 1) (by omega)
    cases c : W s with
    | false =>
      rw [c] at g
      rw [show rs W m x (s + 1) = rs W m x s from if_neg (by rw [c]; decide)] at r
      refine xq_n 28 [0, 1, 2, 4] [(0, .ref 39), (1, .int x), (2, .long (rs W m x s)), (4, .int (nI s + Int32.ofInt 1))] [] h [false, true] 60 hq rfl ⟨rgf A m12 hs, g, trivial⟩ (fun _ => ?_)
      rw [nI_1']
      exact r
    | true =>
      rw [c] at g
      have sl := sz_m m12 hs
      rw [show rs W m x (s + 1) = rs W m x s + tA x m (sz s) from if_pos c] at r
      refine xq_n 52 [0, 1, 2, 4] [(0, .ref 39), (1, .int x), (2, .long (rs W m x s)), (4, .int (nI s))] [.int (nI s), .long x.toInt64, .long (rs W m x s)] h [false, false] 60 hq rfl ⟨rgf A m12 hs, g, trivial⟩ (fun _ => ?_)
      refine xq_run hq rfl rfl (rso_q (by omega) hq) ?_
      rintro v h1 ⟨rfl, rfl⟩
      refine xq_run hq rfl rfl (pwr'_q (by omega) hq) ?_
      rintro v h1 ⟨rfl, rfl⟩
      refine xq_n 69 [0, 1, 2, 4] [(0, .ref 39), (1, .int x), (2, .long (rs W m x s)), (4, .int (nI s))] [.int (nI s), .int (xg 0 h.2.1 39 4), .long (10 - x).toInt64, .long (pwv x.toInt64 (sz s)), .long (rs W m x s)] h [] 60 hq rfl trivial (fun _ => ?_)
      rw [A.1]
      refine xq_run hq rfl rfl (rso_q (by omega) hq) ?_
      rintro v h1 ⟨rfl, rfl⟩
      refine xq_n 73 [0, 1, 2, 4] [(0, .ref 39), (1, .int x), (2, .long (rs W m x s)), (4, .int (nI s))] [.int (nI m - nI (sz s)), .long (10 - x).toInt64, .long (pwv x.toInt64 (sz s)), .long (rs W m x s)] h [] 60 hq rfl trivial (fun _ => ?_)
      rw [nI_sub sl]
      refine xq_run hq rfl rfl (pwr'_q (by omega) hq) ?_
      rintro v h1 ⟨rfl, rfl⟩
      refine xq_n 28 [0, 1, 2, 4] [(0, .ref 39), (1, .int x), (2, .long (rs W m x s + pwv x.toInt64 (sz s) * pwv (10 - x).toInt64 (m - sz s))), (4, .int (nI s + Int32.ofInt 1))] [] h [] 60 hq rfl trivial (fun _ => ?_)
      rw [nI_1']
      exact r
end
/-- what chance answers -/
def chV (W : Nat → Bool) (m : Nat) (x : Int32) : Int64 := cond (!xe_c .lt x 0 && xe_c .le x 10) (rs W m x (2 ^ m)) 18446744073709551615
section
variable {mem sc : Nat} {d : Int32} {h : xh_H}
set_option maxRecDepth 100000 in
set_option maxHeartbeats 4000000 in
theorem cv9_q {f : Nat} {x : Int32} (hi : a_inv a_tb h) (hn : 72 ≤ h.1.length) (e9 : xg 0 h.2.1 0 9 = nI mem) (m1 : 1 ≤ mem) (m12 : mem ≤ 12) (e8 : xg 0 h.2.1 0 8 = nI sc) (sc8 : sc ≤ 8) (e10 : xg 0 h.2.1 0 10 = d) (si : SI h) (pi : PI h) : xq f xi_X9_chance xmi_X9_chance 0 [(0, .ref 0), (1, .int x)] [] h (fun v h' => v = some (.long (chV (cvB (fun k => xg 0 h.2.1 51 k) (fun k => xg 0 h.2.1 44 k) mem sc d) mem x))) := by
  have hq := a_rq_of hi.1 hn
  unfold chV
  cases c1 : xe_c .lt x 0 with
  | true =>
    refine xq_n 24 [] [] [.long 18446744073709551615] h [true] 5 hq rfl ⟨c1, trivial⟩ (fun _ => ?_)
    exact xq_ret rfl rfl rfl rfl
  | false =>
    cases c2 : xe_c .le x 10 with
    | false =>
      refine xq_n 24 [] [] [.long 18446744073709551615] h [false, false] 8 hq rfl ⟨c1, c2, trivial⟩ (fun _ => ?_)
      exact xq_ret rfl rfl rfl rfl
    | true =>
      refine xq_n 17 [1] [(1, .int x)] [.ref 0] h [false, true] 7 hq rfl ⟨c1, c2, trivial⟩ (fun _ => ?_)
      refine xq_run hq rfl rfl (pt9_q hi hn e9 m1 m12 e8 sc8 e10 si pi) ?_
      rintro v h1 ⟨rfl, Y, PP, q, r, A, P⟩
      have hq1 := Yf_q hi hn Y
      refine xq_n 21 [] [] [.int x, .ref 14] h1 [] 3 hq1 rfl trivial (fun _ => ?_)
      refine xq_run hq1 rfl rfl (cv_q A m12 hq1) ?_
      rintro v h2 ⟨g4, rfl⟩
      exact xq_ret rfl rfl rfl rfl
end
section
variable {mem sc : Nat} {FR RW : Nat → Int32} {d : Int32} {h : xh_H}
set_option maxRecDepth 100000 in
set_option maxHeartbeats 4000000 in
theorem cv10_q {f : Nat} {x : Int32} (m12 : mem ≤ 12) (e4 : xg 0 h.2.1 39 4 = nI mem) (e33 : xg 0 h.2.1 39 33 = nI sc) (sc8 : sc ≤ 8) (e3 : xg 0 h.2.1 39 3 = d) (hF : ∀ k, k < sc → xg 0 h.2.1 51 k = FR k) (hT : ∀ k, k < sc → (xg 0 h.2.1 52 k).toInt ≤ 999) (hR : ∀ k s, k < sc → s < 2 ^ mem → ∃ b : Bool, RW (4096 * k + s) = bl b ∧ xg 0 h.2.1 44 (4096 * k + s) = bl b) (hq : a_rq a_tb h) : xq f xi_X10_chance xmi_X10_chance 0 [(0, .ref 39), (1, .int x)] [] h (fun v h' => v = some (.long (chV (cvB FR RW mem sc d) mem x))) := by
  refine xq_n 9 [0, 1] [(0, .ref 39), (1, .int x)] [.int 10, .int (Int32.ofInt 0), .int x] (xh_ui h 39 0 (Int32.ofInt 0)) [] 60 hq rfl trivial (fun _ => ?_)
  have hq : a_rq a_tb (xh_ui h 39 0 (Int32.ofInt 0)) := a_rq_ui hq
  refine xq_run hq rfl rfl (isIn_q hq) ?_
  rintro v h2 ⟨rfl, rfl⟩
  have ev : decide ((Int32.ofInt 0).toInt ≤ x.toInt ∧ x.toInt ≤ (10 : Int32).toInt) = (!xe_c .lt x 0 && xe_c .le x 10) := by
    cases c1 : xe_c .lt x 0 with
    | true => have b : x.toInt < (0 : Int) := a_ce c1; exact decide_eq_false (fun z => by have z1 : (0 : Int) ≤ x.toInt := z.1; omega)
    | false =>
      have b : (0 : Int) ≤ x.toInt := a_ce (a_neg_ok c1)
      cases c2 : xe_c .le x 10 with
      | true => have b2 : x.toInt ≤ (10 : Int) := a_ce c2; exact decide_eq_true ⟨b, b2⟩
      | false => have b2 : (10 : Int) < x.toInt := a_ce (a_neg_ok c2); exact decide_eq_false (fun z => by have z1 : x.toInt ≤ (10 : Int) := z.2; omega)
  rw [ev]
  unfold chV
  cases (!xe_c .lt x 0 && xe_c .le x 10) with
  | false =>
    refine xq_n 18 [] [] [.long 18446744073709551615] (xh_ui h 39 0 (Int32.ofInt 0)) [false] 60 hq rfl ⟨rfl, trivial⟩ (fun _ => ?_)
    exact xq_ret rfl rfl rfl rfl
  | true =>
    refine xq_n 20 [0, 1] [(0, .ref 39), (1, .int x)] [.ref 39] (xh_ui h 39 0 (Int32.ofInt 0)) [true] 60 hq rfl ⟨rfl, trivial⟩ (fun _ => ?_)
    refine xq_run hq rfl rfl (ly_q m12 e4 e33 sc8 e3 hF hT hR hq) ?_
    rintro v h1 ⟨rfl, g1, A⟩
    have hq := fx_q g1 hq
    refine xq_n 28 [0, 1, 2, 4] [(0, .ref 39), (1, .int x), (2, .long (0)), (4, .int (Int32.ofInt 0))] [] h1 [] 60 hq rfl trivial (fun _ => ?_)
    exact cr_l A m12 hq (2 ^ mem) f 0 (by omega)
end
end XCV
end
section
section XRO
/-- a list's place -/
noncomputable def atL (l : List Nat) : Nat → Nat := List.rec (motive := fun _ => Nat → Nat) (fun _ => 0) (fun a _ ih i => Nat.rec (motive := fun _ => Nat) a (fun j _ => ih j) i) l
noncomputable def seL (l : List Nat) : Nat → Nat → List Nat := List.rec (motive := fun _ => Nat → Nat → List Nat) (fun _ _ => []) (fun a r ih i v => Nat.rec (motive := fun _ => List Nat) (v :: r) (fun j _ => a :: ih j v) i) l
theorem atL_0 {a : Nat} {r : List Nat} : atL (a :: r) 0 = a := rfl
theorem atL_s {a i : Nat} {r : List Nat} : atL (a :: r) (i + 1) = atL r i := rfl
/-- look at all of it first -/
noncomputable def frc {α : Type} (l : List Nat) : (List Nat → α) → α := List.rec (motive := fun _ => (List Nat → α) → α) (fun k => k []) (fun a _ ih k => ih (fun r => k (a :: r))) l
theorem frc_e {α : Type} : ∀ (l : List Nat) (k : List Nat → α), frc l k = k l := by
  intro l
  induction l with
  | nil => intro k; rfl
  | cons a r ih => intro k; exact ih (fun r => k (a :: r))
/-- all orders of what is not used yet, the least first -/
noncomputable def dl (n : Nat) : Nat → List (List Nat) := Nat.rec (motive := fun _ => Nat → List (List Nat)) (fun _ => [[]]) (fun _ ih u => [0, 1, 2, 3, 4, 5, 6].flatMap (fun c => cond (u.testBit c) [] ((ih (u ||| 2 ^ c)).map (fun l => c :: l)))) n
noncomputable def dg (ih : Nat → (List Nat → List Nat) → List (List Nat) → List (List Nat)) (u : Nat) (p : List Nat → List Nat) (c : Nat) (a : List (List Nat)) : List (List Nat) := cond (u.testBit c) a (ih (u ||| 2 ^ c) (fun l => p (c :: l)) a)
noncomputable def dm (n : Nat) : Nat → (List Nat → List Nat) → List (List Nat) → List (List Nat) := Nat.rec (motive := fun _ => Nat → (List Nat → List Nat) → List (List Nat) → List (List Nat)) (fun _ p a => p [] :: a) (fun _ ih u p a => dg ih u p 0 (dg ih u p 1 (dg ih u p 2 (dg ih u p 3 (dg ih u p 4 (dg ih u p 5 (dg ih u p 6 a))))))) n
/-- the last place that rises, and one -/
noncomputable def pfi (l : List Nat) (n : Nat) : Nat := Nat.rec (motive := fun _ => Nat) 0 (fun i ih => cond (Nat.blt (atL l (i + 1)) (atL l i)) ih (i + 1)) n
/-- the last place that is not below -/
noncomputable def pfj (l : List Nat) (v n : Nat) : Nat := Nat.rec (motive := fun _ => Nat) 0 (fun j ih => cond (Nat.blt (atL l (j + 1)) v) ih (j + 1)) n
noncomputable def swp (l : List Nat) (i j : Nat) : List Nat := seL (seL l i (atL l j)) j (atL l i)
noncomputable def rvs (n : Nat) : List Nat → Nat → Nat → List Nat := Nat.rec (motive := fun _ => List Nat → Nat → Nat → List Nat) (fun l _ _ => l) (fun _ ih l i j => cond (Nat.blt i j) (frc (swp l i j) (fun l => ih l (i + 1) (j - 1))) l) n
/-- the next order; nothing behind the last -/
noncomputable def nxt (l : List Nat) : List Nat := Nat.rec (motive := fun _ => List Nat) [] (fun i _ => frc (swp l i (pfj l (atL l i) 6)) (fun l => rvs 3 l (i + 1) 6)) (pfi l 6)
noncomputable def eqL (l : List Nat) : List Nat → Bool := List.rec (motive := fun _ => List Nat → Bool) (fun t => List.rec (motive := fun _ => Bool) true (fun _ _ _ => false) t) (fun a _ ih t => List.rec (motive := fun _ => Bool) false (fun b r _ => cond (Nat.beq a b) (ih r) false) t) l
noncomputable def lnL (l : List Nat) : Nat := List.rec (motive := fun _ => Nat) 0 (fun a _ ih => cond (Nat.blt a 7) (ih + 1) 100) l
noncomputable def okL (r : List (List Nat)) : List Nat → Bool := List.rec (motive := fun _ => List Nat → Bool) (fun l => cond (Nat.beq (lnL l) 7) (eqL (nxt l) []) false) (fun k _ ih l => cond (Nat.beq (lnL l) 7) (frc k (fun k => cond (eqL (nxt l) k) (ih k) false)) false) r
noncomputable def okR (r : List (List Nat)) : Bool := List.rec (motive := fun _ => Bool) false (fun l r _ => cond (eqL l [0, 1, 2, 3, 4, 5, 6]) (okL r l) false) r
set_option maxRecDepth 100000 in
theorem okL_7 : okR (dm 7 0 (fun l => l) []) = true := by decide +kernel
theorem dl_s {n u : Nat} : dl (n + 1) u = [0, 1, 2, 3, 4, 5, 6].flatMap (fun c => cond (u.testBit c) [] ((dl n (u ||| 2 ^ c)).map (fun l => c :: l))) := rfl
theorem dm_e : ∀ (n u : Nat) (p : List Nat → List Nat) (a : List (List Nat)), dm n u p a = (dl n u).map p ++ a := by
  intro n
  induction n with
  | zero => intro u p a; rfl
  | succ n ih =>
    intro u p a
    have g : ∀ c a, dg (dm n) u p c a = (cond (u.testBit c) [] ((dl n (u ||| 2 ^ c)).map (fun l => c :: l))).map p ++ a := fun c a => by
      unfold dg
      cases u.testBit c with
      | true => rfl
      | false =>
        show dm n (u ||| 2 ^ c) (fun l => p (c :: l)) a = List.map p (List.map _ _) ++ a
        rw [ih, List.map_map]
        rfl
    show dg (dm n) u p 0 (dg (dm n) u p 1 (dg (dm n) u p 2 (dg (dm n) u p 3 (dg (dm n) u p 4 (dg (dm n) u p 5 (dg (dm n) u p 6 a)))))) = _
    rw [g, g, g, g, g, g, g, dl_s]
    simp only [List.flatMap_cons, List.flatMap_nil, List.map_append, List.map_nil, List.append_assoc, List.nil_append]
theorem dm_7 : dm 7 0 (fun l => l) [] = dl 7 0 := by rw [dm_e, List.append_nil]; exact List.map_id _
/-- how many ways lead to x -/
def wy (B : Nat → Nat → Bool) (x : Nat) : Nat → Nat → Nat → Nat
  | 0, _, s => if s = x then 1 else 0
  | n + 1, u, s => ([0, 1, 2, 3, 4, 5, 6].map (fun c => cond (u.testBit c) 0 (wy B x n (u ||| 2 ^ c) (sd B s c)))).sum
def enL (B : Nat → Nat → Bool) (s : Nat) (l : List Nat) : Nat := l.foldl (sd B) s
theorem wy_dl {B : Nat → Nat → Bool} {x : Nat} : ∀ n u s, (dl n u).countP (fun l => enL B s l == x) = wy B x n u s := by
  intro n
  induction n with
  | zero =>
    intro u s
    show List.countP _ [[]] = if s = x then 1 else 0
    by_cases z : s = x
    · rw [if_pos z]
      simp [enL, z]
    · rw [if_neg z]
      simp [enL, z]
  | succ n ih =>
    intro u s
    rw [dl_s, List.countP_flatMap]
    show _ = ([0, 1, 2, 3, 4, 5, 6].map (fun c => cond (u.testBit c) 0 (wy B x n (u ||| 2 ^ c) (sd B s c)))).sum
    congr 1
    refine List.map_congr_left (fun c _ => ?_)
    show List.countP _ (cond (u.testBit c) [] _) = _
    cases u.testBit c with
    | true => rfl
    | false =>
      show List.countP _ (List.map _ _) = wy B x n (u ||| 2 ^ c) (sd B s c)
      rw [List.countP_map, ← ih]
      rfl
/-- the least option that is free and leads there -/
def lst1 (B : Nat → Nat → Bool) (x n u s : Nat) (f : Nat → Nat) : List Nat → Nat
  | [] => 7
  | c :: r => cond (u.testBit c) (lst1 B x n u s f r) (if 0 < wy B x n (u ||| 2 ^ c) (f c) then c else lst1 B x n u s f r)
/-- the first order that leads there -/
def ff (B : Nat → Nat → Bool) (x : Nat) : Nat → Nat → Nat → List Nat
  | 0, _, _ => []
  | n + 1, u, s => lst1 B x n u s (sd B s) [0, 1, 2, 3, 4, 5, 6] :: ff B x n (u ||| 2 ^ lst1 B x n u s (sd B s) [0, 1, 2, 3, 4, 5, 6]) (sd B s (lst1 B x n u s (sd B s) [0, 1, 2, 3, 4, 5, 6]))
theorem cp_f {α : Type} {p : α → Bool} {l : List α} : 0 < l.countP p ↔ (l.find? p).isSome = true := by
  rw [List.countP_pos_iff, List.find?_isSome]
theorem ff_dl {B : Nat → Nat → Bool} {x : Nat} : ∀ n u s, 0 < wy B x n u s → (dl n u).find? (fun l => enL B s l == x) = some (ff B x n u s) := by
  intro n
  induction n with
  | zero =>
    intro u s h
    have h : 0 < (if s = x then 1 else 0) := h
    by_cases z : s = x
    · show List.find? _ [[]] = some []
      simp [enL, z]
    · rw [if_neg z] at h; omega
  | succ n ih =>
    intro u s h
    have key : ∀ L : List Nat, 0 < (L.map (fun c => cond (u.testBit c) 0 (wy B x n (u ||| 2 ^ c) (sd B s c)))).sum → (L.flatMap (fun c => cond (u.testBit c) [] ((dl n (u ||| 2 ^ c)).map (fun l => c :: l)))).find? (fun l => enL B s l == x) = some (lst1 B x n u s (sd B s) L :: ff B x n (u ||| 2 ^ lst1 B x n u s (sd B s) L) (sd B s (lst1 B x n u s (sd B s) L))) := by
      intro L
      induction L with
      | nil => intro h; exact absurd (show 0 < 0 from h) (Nat.lt_irrefl 0)
      | cons c r ihL =>
        intro h
        rw [List.map_cons, List.sum_cons] at h
        rw [List.flatMap_cons, List.find?_append]
        unfold lst1
        cases cu : u.testBit c with
        | true =>
          rw [cu] at h
          have h : 0 < 0 + _ := h
          rw [Nat.zero_add] at h
          exact ihL h
        | false =>
          rw [cu] at h
          simp only [cond_false]
          rw [List.find?_map]
          by_cases w : 0 < wy B x n (u ||| 2 ^ c) (sd B s c)
          · rw [if_pos w]
            have i := ih (u ||| 2 ^ c) (sd B s c) w
            have e : ((fun l => enL B s l == x) ∘ fun l => c :: l) = fun l => enL B (sd B s c) l == x := rfl
            rw [e, i]
            rfl
          · rw [if_neg w]
            have e : ((fun l => enL B s l == x) ∘ fun l => c :: l) = fun l => enL B (sd B s c) l == x := rfl
            have nn : List.find? (fun l => enL B (sd B s c) l == x) (dl n (u ||| 2 ^ c)) = none := by
              cases q : List.find? (fun l => enL B (sd B s c) l == x) (dl n (u ||| 2 ^ c)) with
              | none => rfl
              | some v =>
                exfalso
                apply w
                rw [← wy_dl, cp_f, q]
                rfl
            rw [e, nn]
            have w0 : wy B x n (u ||| 2 ^ c) (sd B s c) = 0 := by omega
            have h : 0 < wy B x n (u ||| 2 ^ c) (sd B s c) + _ := h
            rw [w0, Nat.zero_add] at h
            exact ihL h
    rw [dl_s]
    exact key _ h
end XRO
end
section
section XGO
theorem seL_n {v : Nat} : ∀ (l : List Nat) (i : Nat), (seL l i v).length = l.length := by
  intro l
  induction l with
  | nil => intro i; rfl
  | cons a r ih =>
    intro i
    cases i with
    | zero => rfl
    | succ i => show (a :: seL r i v).length = _; rw [List.length_cons, ih, List.length_cons]
theorem seL_a {v : Nat} : ∀ (l : List Nat) (i k : Nat), i < l.length → atL (seL l i v) k = if k = i then v else atL l k := by
  intro l
  induction l with
  | nil => intro i k h; exact absurd h (Nat.not_lt_zero i)
  | cons a r ih =>
    intro i k h
    cases i with
    | zero =>
      cases k with
      | zero => rw [if_pos rfl]; rfl
      | succ k => rw [if_neg (by omega)]; rfl
    | succ i =>
      cases k with
      | zero => rw [if_neg (by omega)]; rfl
      | succ k =>
        show atL (seL r i v) k = _
        rw [ih i k (by rw [List.length_cons] at h; omega)]
        by_cases z : k = i
        · rw [if_pos z, if_pos (by omega)]
        · rw [if_neg z, if_neg (by omega)]; rfl
theorem swp_n {l : List Nat} {i j : Nat} : (swp l i j).length = l.length := by unfold swp; rw [seL_n, seL_n]
theorem swp_a {l : List Nat} {i j k : Nat} (hi : i < l.length) (hj : j < l.length) : atL (swp l i j) k = if k = j then atL l i else if k = i then atL l j else atL l k := by
  unfold swp
  rw [seL_a _ _ _ (by rw [seL_n]; exact hj), seL_a _ _ _ hi]
/-- the order that is laid out -/
def oL (h : xh_H) (l : List Nat) : Prop := l.length = 7 ∧ (∀ k, k < 7 → atL l k < 7) ∧ ∀ k, k < 7 → xg 0 h.2.1 66 k = nI (atL l k)
theorem oL_sw {h : xh_H} {l : List Nat} {i j : Nat} (w : oL h l) (hi : i < 7) (hj : j < 7) : oL (xh_ui (xh_ui h 66 i (nI (atL l j))) 66 j (nI (atL l i))) (swp l i j) := by
  obtain ⟨w1, w2, w3⟩ := w
  refine ⟨by rw [swp_n]; exact w1, fun k hk' => ?_, fun k hk' => ?_⟩
  · rw [swp_a (by omega) (by omega)]
    split
    · exact w2 i hi
    · split
      · exact w2 j hj
      · exact w2 k hk'
  · rw [swp_a (by omega) (by omega)]
    by_cases z : k = j
    · rw [if_pos z, z, gx_s]
    · rw [if_neg z, gx_k z]
      by_cases y : k = i
      · rw [if_pos y, y, gx_s]
      · rw [if_neg y, gx_k y]; exact w3 k hk'
def iv : Nat → Int32
  | 0 => Int32.ofInt (-1)
  | n + 1 => nI n
theorem iv_d {n : Nat} : nI n + Int32.ofInt (-1) = iv n := by
  cases n with
  | zero => rfl
  | succ n => exact nI_dec n
section
variable {hb : xh_H}
set_option maxRecDepth 100000 in
set_option maxHeartbeats 4000000 in
theorem gor_l {h0 : xh_H} : ∀ (n f i j : Nat) (l : List Nat) (h : xh_H), i < 7 → j < 7 → 1 ≤ i → j < i + 2 * n + 1 → oL h l → a_rq a_tb h → fx S66 fN h0 h → xq f xi_X10_goOn xmi_X10_goOn 94 [(0, .ref 39), (4, .int (nI i)), (5, .int (nI j))] [] h (fun v h' => v = some (.int (Int32.ofInt 1)) ∧ fx S66 fN h0 h' ∧ oL h' (rvs n l i j)) := by
  intro n
  induction n with
  | zero =>
    intro f i j l h hi hj i1 hn w hq ge
    refine xq_n 141 [] [] [.int (Int32.ofInt 1)] h [true] 60 hq rfl ⟨nge_t (by omega) (by omega) (by omega), trivial⟩ (fun _ => ?_)
    exact xq_ret rfl rfl rfl ⟨rfl, ge, w⟩
  | succ n ih =>
    intro f i j l h hi hj i1 hn w hq ge
    show xq f _ _ _ _ _ _ (fun v h' => _ ∧ _ ∧ oL h' (cond (Nat.blt i j) (frc (swp l i j) (fun l => rvs n l (i + 1) (j - 1))) l))
    by_cases z : i < j
    · rw [show Nat.blt i j = true from Nat.ble_eq_true_of_le z]
      simp only [cond_true]
      rw [frc_e]
      refine xq_n 94 [0, 4, 5] [(0, .ref 39), (4, .int (nI i + Int32.ofInt 1)), (5, .int (nI j + Int32.ofInt (-1)))] [] (xh_ui (xh_ui h 66 (nI i).toNatClampNeg (xg 0 h.2.1 66 (nI j).toNatClampNeg)) 66 (nI j).toNatClampNeg (xg 0 h.2.1 66 (nI i).toNatClampNeg)) [false] 60 hq rfl ⟨nge_f (by omega) (by omega) z, trivial⟩ (fun _ => ?_)
      obtain ⟨j', rfl⟩ : ∃ j', j = j' + 1 := ⟨j - 1, by omega⟩
      rw [nI_1', nI_dec, show (nI i).toNatClampNeg = i from nI_clamp (by omega), show (nI (j' + 1)).toNatClampNeg = j' + 1 from nI_clamp (by omega), w.2.2 i hi, w.2.2 (j' + 1) hj]
      exact ih f (i + 1) j' (swp l i (j' + 1)) _ (by omega) (by omega) (by omega) (by omega) (oL_sw w hi hj) (a_rq_ui (a_rq_ui hq)) (fx_ui (fx_ui ge rfl) rfl)
    · rw [show Nat.blt i j = false by cases y : Nat.blt i j with | false => rfl | true => (have := Nat.le_of_ble_eq_true y; omega)]
      refine xq_n 141 [] [] [.int (Int32.ofInt 1)] h [true] 60 hq rfl ⟨nge_t (by omega) (by omega) (by omega), trivial⟩ (fun _ => ?_)
      exact xq_ret rfl rfl rfl ⟨rfl, ge, w⟩
set_option maxRecDepth 100000 in
set_option maxHeartbeats 4000000 in
theorem goj_l {h : xh_H} {l : List Nat} {i : Nat} (hi : i < 6) (w : oL h l) (up : atL l i ≤ atL l (i + 1)) (hq : a_rq a_tb h) : ∀ (j f : Nat), j < 7 → i + 1 ≤ j → xq f xi_X10_goOn xmi_X10_goOn 38 [(0, .ref 39), (1, .int (nI i)), (2, .int (nI j))] [] h (fun v h' => v = some (.int (Int32.ofInt 1)) ∧ fx S66 fN h h' ∧ oL h' (rvs 3 (swp l i (pfj l (atL l i) j)) (i + 1) 6)) := by
  intro j
  induction j with
  | zero => intro f _ h; omega
  | succ j ih =>
    intro f hj ij
    have e1 : xg 0 h.2.1 66 (nI (j + 1)).toNatClampNeg = nI (atL l (j + 1)) := by rw [nI_clamp (by omega)]; exact w.2.2 _ hj
    have e2 : xg 0 h.2.1 66 (nI i).toNatClampNeg = nI (atL l i) := by rw [nI_clamp (by omega)]; exact w.2.2 _ (by omega)
    have b1 := w.2.1 (j + 1) hj
    have b2 := w.2.1 i (by omega)
    show xq f _ _ _ _ _ _ (fun v h' => _ ∧ _ ∧ oL h' (rvs 3 (swp l i (cond (Nat.blt (atL l (j + 1)) (atL l i)) (pfj l (atL l i) j) (j + 1))) (i + 1) 6))
    by_cases z : atL l (j + 1) < atL l i
    · rw [show Nat.blt (atL l (j + 1)) (atL l i) = true from Nat.ble_eq_true_of_le z]
      refine xq_n 38 [0, 1, 2] [(0, .ref 39), (1, .int (nI i)), (2, .int (nI (j + 1) + Int32.ofInt (-1)))] [] h [false] 60 hq rfl ⟨(show xe_c .ge (xg 0 h.2.1 66 (nI (j + 1)).toNatClampNeg) (xg 0 h.2.1 66 (nI i).toNatClampNeg) = false by rw [e1, e2]; exact nge_f (by omega) (by omega) z), trivial⟩ (fun _ => ?_)
      rw [nI_dec]
      refine ih f (by omega) ?_
      by_cases y : i = j
      · rw [y] at up z; omega
      · omega
    · rw [show Nat.blt (atL l (j + 1)) (atL l i) = false by cases y : Nat.blt (atL l (j + 1)) (atL l i) with | false => rfl | true => (have := Nat.le_of_ble_eq_true y; omega)]
      refine xq_n 94 [0, 4, 5] [(0, .ref 39), (4, .int (nI i + Int32.ofInt 1)), (5, .int 6)] [] (xh_ui (xh_ui h 66 (nI i).toNatClampNeg (xg 0 h.2.1 66 (nI (j + 1)).toNatClampNeg)) 66 (nI (j + 1)).toNatClampNeg (xg 0 h.2.1 66 (nI i).toNatClampNeg)) [true] 60 hq rfl ⟨(show xe_c .ge (xg 0 h.2.1 66 (nI (j + 1)).toNatClampNeg) (xg 0 h.2.1 66 (nI i).toNatClampNeg) = true by rw [e1, e2]; exact nge_t (by omega) (by omega) (by omega)), trivial⟩ (fun _ => ?_)
      rw [e1, e2, nI_1', show (nI i).toNatClampNeg = i from nI_clamp (by omega), show (nI (j + 1)).toNatClampNeg = j + 1 from nI_clamp (by omega)]
      exact gor_l (h0 := h) 3 f (i + 1) 6 (swp l i (j + 1)) _ (by omega) (by omega) (by omega) (by omega) (oL_sw w (by omega) hj) (a_rq_ui (a_rq_ui hq)) (fx_ui (fx_ui fx_0 rfl) rfl)
set_option maxRecDepth 100000 in
set_option maxHeartbeats 4000000 in
theorem goi_l {h : xh_H} {l : List Nat} (w : oL h l) (hq : a_rq a_tb h) : ∀ (n f : Nat), n ≤ 6 → xq f xi_X10_goOn xmi_X10_goOn 2 [(0, .ref 39), (1, .int (iv n))] [] h (fun v h' => (pfi l n = 0 → h = h' ∧ v = some (.int (Int32.ofInt 0))) ∧ (∀ i, pfi l n = i + 1 → v = some (.int (Int32.ofInt 1)) ∧ fx S66 fN h h' ∧ oL h' (rvs 3 (swp l i (pfj l (atL l i) 6)) (i + 1) 6))) := by
  intro n
  induction n with
  | zero =>
    intro f _
    refine xq_n 34 [] [] [.int (Int32.ofInt 0)] h [true, false] 60 hq rfl ⟨rfl, rfl, trivial⟩ (fun _ => ?_)
    exact xq_ret rfl rfl rfl ⟨fun _ => ⟨rfl, rfl⟩, fun i e => (by cases e)⟩
  | succ n ih =>
    intro f hn
    have e1 : xg 0 h.2.1 66 (nI n).toNatClampNeg = nI (atL l n) := by rw [nI_clamp (by omega)]; exact w.2.2 _ (by omega)
    have e2 : xg 0 h.2.1 66 (nI n + Int32.ofInt 1).toNatClampNeg = nI (atL l (n + 1)) := by rw [nI_1', nI_clamp (by omega)]; exact w.2.2 _ (by omega)
    have b1 := w.2.1 n (by omega)
    have b2 := w.2.1 (n + 1) (by omega)
    have g0 : xe_c .lt (nI n) 0 = false := xlt_f (by rw [nI_toInt (by omega)]; show (0 : Int) ≤ _; omega)
    have ep : pfi l (n + 1) = cond (Nat.blt (atL l (n + 1)) (atL l n)) (pfi l n) (n + 1) := rfl
    by_cases z : atL l (n + 1) < atL l n
    · rw [show Nat.blt (atL l (n + 1)) (atL l n) = true from Nat.ble_eq_true_of_le z] at ep
      rw [ep]
      refine xq_n 2 [0, 1] [(0, .ref 39), (1, .int (nI n + Int32.ofInt (-1)))] [] h [false, false] 60 hq rfl ⟨g0, (show xe_c .le (xg 0 h.2.1 66 (nI n).toNatClampNeg) (xg 0 h.2.1 66 (nI n + Int32.ofInt 1).toNatClampNeg) = false by rw [e1, e2]; exact xle_f (by rw [nI_toInt (by omega), nI_toInt (by omega)]; omega)), trivial⟩ (fun _ => ?_)
      rw [iv_d]
      exact ih f (by omega)
    · rw [show Nat.blt (atL l (n + 1)) (atL l n) = false by cases y : Nat.blt (atL l (n + 1)) (atL l n) with | false => rfl | true => (have := Nat.le_of_ble_eq_true y; omega)] at ep
      rw [ep]
      refine xq_n 38 [0, 1, 2] [(0, .ref 39), (1, .int (nI n)), (2, .int 6)] [] h [false, true, true] 60 hq rfl ⟨g0, (show xe_c .le (xg 0 h.2.1 66 (nI n).toNatClampNeg) (xg 0 h.2.1 66 (nI n + Int32.ofInt 1).toNatClampNeg) = true by rw [e1, e2]; exact xle_t (by rw [nI_toInt (by omega), nI_toInt (by omega)]; omega)), (show xe_c .ge (nI n) 0 = true from xge_t (by rw [nI_toInt (by omega)]; show (0 : Int) ≤ _; omega)), trivial⟩ (fun _ => ?_)
      refine xq_mono (goj_l (i := n) (by omega) w (by omega) hq 6 f (by omega) (by omega)) (fun v h' e => ⟨fun y => (by cases y), fun i y => ?_⟩)
      cases y
      exact e
theorem gon_q {f : Nat} {h : xh_H} {l : List Nat} (w : oL h l) (hq : a_rq a_tb h) : xq f xi_X10_goOn xmi_X10_goOn 0 [(0, .ref 39)] [] h (fun v h' => (pfi l 6 = 0 → h = h' ∧ v = some (.int (Int32.ofInt 0))) ∧ (pfi l 6 ≠ 0 → v = some (.int (Int32.ofInt 1)) ∧ fx S66 fN h h' ∧ oL h' (nxt l))) := by
  refine xq_n 2 [0, 1] [(0, .ref 39), (1, .int (Int32.ofInt 5))] [] h [] 60 hq rfl trivial (fun _ => ?_)
  refine xq_mono (goi_l w hq 6 f (by omega)) (fun v h' e => ⟨e.1, fun z => ?_⟩)
  obtain ⟨i, hi⟩ : ∃ i, pfi l 6 = i + 1 := ⟨pfi l 6 - 1, by omega⟩
  have r := e.2 i hi
  unfold nxt
  rw [hi]
  show _ ∧ _ ∧ oL h' (frc (swp l i (pfj l (atL l i) 6)) (fun l => rvs 3 l (i + 1) 6))
  rw [frc_e]
  exact r
end
end XGO
end
section
section XRR
def SRW (c k : Nat) : Bool := (Nat.beq c 39 && Nat.beq k 59) || (Nat.beq c 66 || Nat.beq c 67)
/-- where an order leads -/
noncomputable def enF (B : Nat → Nat → Bool) (l : List Nat) : Nat := fo B (atL l) 6
theorem lnL_7 : ∀ (l : List Nat), lnL l < 100 → l.length = lnL l ∧ ∀ k, k < l.length → atL l k < 7 := by
  intro l
  induction l with
  | nil => intro _; exact ⟨rfl, fun k h => absurd h (Nat.not_lt_zero k)⟩
  | cons a r ih =>
    intro h
    have e : lnL (a :: r) = cond (Nat.blt a 7) (lnL r + 1) 100 := rfl
    cases c : Nat.blt a 7 with
    | false => rw [e, c] at h; exact absurd h (Nat.lt_irrefl 100)
    | true =>
      rw [c] at e
      have e : lnL (a :: r) = lnL r + 1 := e
      rw [e] at h ⊢
      obtain ⟨i1, i2⟩ := ih (by omega)
      refine ⟨by rw [List.length_cons, i1], fun k hk' => ?_⟩
      cases k with
      | zero => exact Nat.le_of_ble_eq_true c
      | succ k => exact i2 k (by rw [List.length_cons] at hk'; omega)
theorem eqL_t : ∀ (l k : List Nat), eqL l k = true → l = k := by
  intro l
  induction l with
  | nil =>
    intro k h
    cases k with
    | nil => rfl
    | cons b r => exact absurd (show false = true from h) (by decide)
  | cons a r ih =>
    intro k h
    cases k with
    | nil => exact absurd (show false = true from h) (by decide)
    | cons b t =>
      have h : cond (Nat.beq a b) (eqL r t) false = true := h
      cases c : Nat.beq a b with
      | false => rw [c] at h; exact absurd (show false = true from h) (by decide)
      | true =>
        rw [c] at h
        rw [Nat.eq_of_beq_eq_true c, ih t h]
theorem cond_t {a b : Bool} (h : cond a b false = true) : a = true ∧ b = true := by cases a with | true => exact ⟨rfl, h⟩ | false => exact absurd (show false = true from h) (by decide)
theorem okL_n {l : List Nat} (h : okL [] l = true) : lnL l = 7 ∧ nxt l = [] := by
  have h : cond (Nat.beq (lnL l) 7) (eqL (nxt l) []) false = true := h
  obtain ⟨a, b⟩ := cond_t h
  exact ⟨Nat.eq_of_beq_eq_true a, eqL_t _ _ b⟩
theorem okL_c {l k : List Nat} {r : List (List Nat)} (h : okL (k :: r) l = true) : lnL l = 7 ∧ nxt l = k ∧ okL r k = true := by
  have h : cond (Nat.beq (lnL l) 7) (frc k (fun k => cond (eqL (nxt l) k) (okL r k) false)) false = true := h
  obtain ⟨a, b⟩ := cond_t h
  rw [frc_e] at b
  obtain ⟨b, c⟩ := cond_t b
  exact ⟨Nat.eq_of_beq_eq_true a, eqL_t _ _ b, c⟩
theorem rvs_n : ∀ (n : Nat) (l : List Nat) (i j : Nat), (rvs n l i j).length = l.length := by
  intro n
  induction n with
  | zero => intro l i j; rfl
  | succ n ih =>
    intro l i j
    show (cond (Nat.blt i j) (frc (swp l i j) (fun l => rvs n l (i + 1) (j - 1))) l).length = _
    cases Nat.blt i j with
    | false => rfl
    | true => simp only [cond_true]; rw [frc_e, ih, swp_n]
theorem pfi_s {l k : List Nat} (e : nxt l = k) (h : k.length ≠ 0) : pfi l 6 ≠ 0 := fun z => by
  unfold nxt at e
  rw [z] at e
  rw [← e] at h
  exact h rfl
theorem pfi_n {l : List Nat} (e : nxt l = []) (h7 : l.length = 7) : pfi l 6 = 0 := by
  cases z : pfi l 6 with
  | zero => rfl
  | succ i =>
    unfold nxt at e
    rw [z] at e
    have e : frc (swp l i (pfj l (atL l i) 6)) (fun l => rvs 3 l (i + 1) 6) = [] := e
    rw [frc_e] at e
    have := congrArg List.length e
    rw [rvs_n, swp_n, h7] at this
    exact absurd this (by decide)
theorem okL_l {l : List Nat} {r : List (List Nat)} (h : okL r l = true) : lnL l = 7 := by
  cases r with
  | nil => exact (okL_n h).1
  | cons k r => exact (okL_c h).1
section
variable {B : Nat → Nat → Bool} {x : Nat} {h0 : xh_H}
set_option maxRecDepth 100000 in
set_option maxHeartbeats 4000000 in
/-- the first one is written down -/
theorem rfr_l {l : List Nat} {Q : Option Value → xh_H → Prop} (K : ∀ (f : Nat) (h : xh_H), a_rq a_tb h → fx SRW fN h0 h → oL h l → (∀ k, k < 7 → xg 0 h.2.1 67 k = nI (atL l k)) → xg 0 h.2.1 39 59 = Int32.ofInt 1 → xq f xi_X10_rows xmi_X10_rows 99 [(0, .ref 39), (1, .int (nI x)), (2, .int (nI 1))] [] h Q) : ∀ (n f j : Nat) (h : xh_H), j + n = 7 → a_rq a_tb h → fx SRW fN h0 h → oL h l → (∀ k, k < j → xg 0 h.2.1 67 k = nI (atL l k)) → xq f xi_X10_rows xmi_X10_rows 60 [(0, .ref 39), (1, .int (nI x)), (2, .int (nI 0)), (4, .int (nI j))] [] h Q := by
  intro n
  induction n with
  | zero =>
    intro f j h hn hq ge w v
    have e : j = 7 := by omega
    subst e
    refine xq_n 99 [0, 1, 2] [(0, .ref 39), (1, .int (nI x)), (2, .int (nI 0 + Int32.ofInt 1))] [] (xh_ui h 39 59 (Int32.ofInt 1)) [true] 60 hq rfl ⟨rfl, trivial⟩ (fun _ => ?_)
    rw [nI_1']
    exact K f _ (a_rq_ui hq) (fx_ui ge rfl) ⟨w.1, w.2.1, fun k hk' => (gx_o (by decide)).trans (w.2.2 k hk')⟩ (fun k hk' => (gx_o (by decide)).trans (v k hk')) gx_s
  | succ n ih =>
    intro f j h hn hq ge w v
    refine xq_n 60 [0, 1, 2, 4] [(0, .ref 39), (1, .int (nI x)), (2, .int (nI 0)), (4, .int (nI j + Int32.ofInt 1))] [] (xh_ui h 67 (nI j).toNatClampNeg (xg 0 h.2.1 66 (nI j).toNatClampNeg)) [false, false] 60 hq rfl ⟨nge_f (b := 7) (by omega) (by decide) (by omega), rfl, trivial⟩ (fun _ => ?_)
    rw [nI_1', show (nI j).toNatClampNeg = j from nI_clamp (by omega), w.2.2 j (by omega)]
    refine ih f (j + 1) _ (by omega) (a_rq_ui hq) (fx_ui ge rfl) ⟨w.1, w.2.1, fun k hk' => (gx_o (by decide)).trans (w.2.2 k hk')⟩ (fun k hk' => ?_)
    by_cases z : k = j
    · rw [z, gx_s]
    · exact (gx_k z).trans (v k (by omega))
set_option maxRecDepth 100000 in
set_option maxHeartbeats 4000000 in
theorem rrw_s (x7 : x < 7) (hB : ∀ a b, a < 7 → b < 7 → xg 0 h0.2.1 63 (7 * a + b) = bl (B a b)) {c : Nat} {l : List Nat} {h : xh_H} {f : Nat} {Q : Option Value → xh_H → Prop} (hq : a_rq a_tb h) (ge : fx SRW fN h0 h) (w : oL h l) (c1 : c < 1073741824) (fl : c ≠ 0 → xg 0 h.2.1 39 59 = Int32.ofInt 1) (K : ∀ (f : Nat) (h1 : xh_H), a_rq a_tb h1 → fx SRW fN h0 h1 → oL h1 l → ((enF B l ≠ x ∨ c ≠ 0) → xg 0 h1.2.1 39 59 = xg 0 h.2.1 39 59 ∧ ∀ k, xg 0 h1.2.1 67 k = xg 0 h.2.1 67 k) → (enF B l = x → c = 0 → xg 0 h1.2.1 39 59 = Int32.ofInt 1 ∧ ∀ k, k < 7 → xg 0 h1.2.1 67 k = nI (atL l k)) → xq f xi_X10_rows xmi_X10_rows 99 [(0, .ref 39), (1, .int (nI x)), (2, .int (nI (c + (enF B l == x).toNat)))] [] h1 Q) : xq f xi_X10_rows xmi_X10_rows 47 [(0, .ref 39), (1, .int (nI x)), (2, .int (nI c))] [] h Q := by
  have el : enF B l < 7 := fo_lt 6 (fun k hk' => w.2.1 k (by omega))
  refine xq_n 50 [0, 1, 2] [(0, .ref 39), (1, .int (nI x)), (2, .int (nI c))] [.int 7, .ref 39] h [] 60 hq rfl trivial (fun _ => ?_)
  refine xq_run hq rfl rfl (eo_q (n := 7) (T := atL l) (B := B) (by decide) (by decide) w.2.2 w.2.1 (fun a b ha hb => (fx_i ge rfl).trans (hB a b ha hb)) hq) ?_
  rintro v h1 ⟨rfl, rfl⟩
  by_cases z : enF B l = x
  · have e1 : (enF B l == x).toNat = 1 := by rw [beq_iff_eq.mpr z]; rfl
    rw [e1] at K
    by_cases y : c = 0
    · subst y
      refine xq_n 60 [0, 1, 2, 4] [(0, .ref 39), (1, .int (nI x)), (2, .int (nI 0)), (4, .int (Int32.ofInt 0))] [] h [false] 60 hq rfl ⟨nne_f (by show fo B (atL l) 6 < _; exact Nat.lt_trans el (by decide)) (by omega) z, trivial⟩ (fun _ => ?_)
      refine rfr_l (h0 := h0) (l := l) (fun f h1 hq1 ge1 w1 v1 f1 => ?_) 7 f 0 h (by omega) hq ge w (fun k hk' => absurd hk' (Nat.not_lt_zero k))
      exact K f h1 hq1 ge1 w1 (fun q => by rcases q with q | q; exact absurd z q; exact absurd rfl q) (fun _ _ => ⟨f1, v1⟩)
    · refine xq_n 99 [0, 1, 2] [(0, .ref 39), (1, .int (nI x)), (2, .int (nI c + Int32.ofInt 1))] [] (xh_ui h 39 59 (Int32.ofInt 1)) [false, false, true] 60 hq rfl ⟨nne_f (by show fo B (atL l) 6 < _; exact Nat.lt_trans el (by decide)) (by omega) z, rfl, nne_t (b := 0) (by omega) (by decide) y, trivial⟩ (fun _ => ?_)
      rw [nI_1']
      exact K f _ (a_rq_ui hq) (fx_ui ge rfl) ⟨w.1, w.2.1, fun k hk' => (gx_o (by decide)).trans (w.2.2 k hk')⟩ (fun _ => ⟨gx_s.trans (fl y).symm, fun k => gx_o (by decide)⟩) (fun _ q => absurd q y)
  · have e1 : (enF B l == x).toNat = 0 := by rw [beq_eq_false_iff_ne.mpr z]; rfl
    rw [e1] at K
    refine xq_n 99 [0, 1, 2] [(0, .ref 39), (1, .int (nI x)), (2, .int (nI c))] [] h [true] 60 hq rfl ⟨nne_t (by show fo B (atL l) 6 < _; exact Nat.lt_trans el (by decide)) (by omega) z, trivial⟩ (fun _ => ?_)
    exact K f h hq ge w (fun _ => ⟨rfl, fun _ => rfl⟩) (fun q => absurd q z)
set_option maxRecDepth 100000 in
set_option maxHeartbeats 4000000 in
theorem rrw_l (x7 : x < 7) (hB : ∀ a b, a < 7 → b < 7 → xg 0 h0.2.1 63 (7 * a + b) = bl (B a b)) : ∀ (r : List (List Nat)) (f c : Nat) (l : List Nat) (h : xh_H), okL r l = true → a_rq a_tb h → fx SRW fN h0 h → oL h l → c + r.length < 1000000 → (c ≠ 0 → xg 0 h.2.1 39 59 = Int32.ofInt 1) → xq f xi_X10_rows xmi_X10_rows 47 [(0, .ref 39), (1, .int (nI x)), (2, .int (nI c))] [] h (fun v h' => v = some (.int (nI (c + (l :: r).countP (fun l => enF B l == x)))) ∧ fx SRW fN h0 h' ∧ ((c ≠ 0 ∨ (l :: r).find? (fun l => enF B l == x) = none) → xg 0 h'.2.1 39 59 = xg 0 h.2.1 39 59 ∧ ∀ k, xg 0 h'.2.1 67 k = xg 0 h.2.1 67 k) ∧ ∀ l0, c = 0 → (l :: r).find? (fun l => enF B l == x) = some l0 → xg 0 h'.2.1 39 59 = Int32.ofInt 1 ∧ ∀ k, k < 7 → xg 0 h'.2.1 67 k = nI (atL l0 k)) := by
  intro r
  induction r with
  | nil =>
    intro f c l h ok hq ge w c2 fl
    obtain ⟨o1, o2⟩ := okL_n ok
    refine rrw_s x7 hB hq ge w (by omega) fl (fun f h1 hq1 ge1 w1 r1 r2 => ?_)
    refine xq_n 100 [0, 1, 2] [(0, .ref 39), (1, .int (nI x)), (2, .int (nI (c + (enF B l == x).toNat)))] [.ref 39] h1 [] 60 hq1 rfl trivial (fun _ => ?_)
    have p0 : pfi l 6 = 0 := pfi_n o2 w.1
    refine xq_run hq1 rfl rfl (gon_q w1 hq1) ?_
    rintro v h2 ⟨e, -⟩
    obtain ⟨rfl, rfl⟩ := e p0
    refine xq_n 108 [] [] [.int (nI (c + (enF B l == x).toNat))] h1 [true] 60 hq1 rfl ⟨rfl, trivial⟩ (fun _ => ?_)
    refine xq_ret rfl rfl rfl ⟨?_, ge1, ?_, ?_⟩
    · rw [List.countP_cons, List.countP_nil, Nat.zero_add]
      cases (enF B l == x) <;> rfl
    · intro q
      refine r1 (q.elim Or.inr (fun q => Or.inl (fun z => ?_)))
      rw [List.find?_cons, beq_iff_eq.mpr z] at q
      cases q
    · intro l0 q1 q2
      rw [List.find?_cons] at q2
      cases z : (enF B l == x) with
      | false => rw [z] at q2; cases q2
      | true =>
        rw [z] at q2
        cases q2
        exact r2 (beq_iff_eq.mp z) q1
  | cons k r ih =>
    intro f c l h ok hq ge w c2 fl
    obtain ⟨o1, o2, o3⟩ := okL_c ok
    have k7 := lnL_7 k (by rw [okL_l o3]; decide)
    rw [List.length_cons] at c2
    refine rrw_s x7 hB hq ge w (by omega) fl (fun f h1 hq1 ge1 w1 r1 r2 => ?_)
    refine xq_n 100 [0, 1, 2] [(0, .ref 39), (1, .int (nI x)), (2, .int (nI (c + (enF B l == x).toNat)))] [.ref 39] h1 [] 60 hq1 rfl trivial (fun _ => ?_)
    have p0 : pfi l 6 ≠ 0 := pfi_s (k := k) o2 (by rw [k7.1, okL_l o3]; decide)
    refine xq_run hq1 rfl rfl (gon_q w1 hq1) ?_
    rintro v h2 ⟨-, e⟩
    obtain ⟨rfl, g2, w2⟩ := e p0
    rw [o2] at w2
    have hq2 := fx_q g2 hq1
    have ge2 : fx SRW fN h0 h2 := fx_t ge1 (fx_w g2 (fun c k z => by unfold SRW at z; rw [Bool.or_eq_false_iff, Bool.or_eq_false_iff] at z; exact z.2.1) (fun _ _ z => z))
    have k2 : xg 0 h2.2.1 39 59 = xg 0 h1.2.1 39 59 := fx_i g2 rfl
    have k3 : ∀ k, xg 0 h2.2.1 67 k = xg 0 h1.2.1 67 k := fun k => fx_i g2 rfl
    have tb : (enF B l == x).toNat ≤ 1 := by cases (enF B l == x) <;> decide
    refine xq_n 47 [0, 1, 2] [(0, .ref 39), (1, .int (nI x)), (2, .int (nI (c + (enF B l == x).toNat)))] [] h2 [false] 60 hq2 rfl ⟨rfl, trivial⟩ (fun _ => ?_)
    refine xq_mono (ih f (c + (enF B l == x).toNat) k h2 o3 hq2 ge2 w2 (by omega) (fun q => ?_)) (fun v h' q => ?_)
    · rw [k2]
      by_cases z : c = 0
      · by_cases y : enF B l = x
        · exact (r2 y z).1
        · rw [beq_eq_false_iff_ne.mpr y, z] at q; exact absurd rfl q
      · rw [(r1 (Or.inr z)).1]; exact fl z
    obtain ⟨q1, q2, q3, q4⟩ := q
    refine ⟨?_, q2, ?_, ?_⟩
    · rw [q1, List.countP_cons (a := l)]
      congr 3
      cases (enF B l == x) <;> simp <;> omega
    · intro s
      have nz : enF B l ≠ x ∨ c ≠ 0 := s.elim Or.inr (fun s => Or.inl (fun z => by rw [List.find?_cons, beq_iff_eq.mpr z] at s; cases s))
      obtain ⟨a1, a2⟩ := r1 nz
      have s3 : c + (enF B l == x).toNat ≠ 0 ∨ (k :: r).find? (fun l => enF B l == x) = none := by
        rcases s with s | s
        · exact Or.inl (by omega)
        · refine Or.inr ?_
          rw [List.find?_cons] at s
          cases z : (enF B l == x) with
          | true => rw [z] at s; cases s
          | false => rw [z] at s; exact s
      obtain ⟨b1, b2⟩ := q3 s3
      exact ⟨b1.trans (k2.trans a1), fun k => (b2 k).trans ((k3 k).trans (a2 k))⟩
    · intro l0 s1 s2
      rw [List.find?_cons] at s2
      cases z : (enF B l == x) with
      | true =>
        rw [z] at s2 q3
        cases s2
        obtain ⟨a1, a2⟩ := r2 (beq_iff_eq.mp z) s1
        obtain ⟨b1, b2⟩ := q3 (Or.inl (by show c + 1 ≠ 0; omega))
        exact ⟨b1.trans (k2.trans a1), fun k hk' => (b2 k).trans ((k3 k).trans (a2 k hk'))⟩
      | false =>
        rw [z] at s2 q4
        exact q4 l0 s1 s2
end
end XRR
end
section
section XRT
theorem dl_7 : ∃ r, dl 7 0 = [0, 1, 2, 3, 4, 5, 6] :: r ∧ okL r [0, 1, 2, 3, 4, 5, 6] = true := by
  have h := okL_7
  rw [dm_7] at h
  cases e : dl 7 0 with
  | nil => rw [e] at h; exact absurd (show false = true from h) (by decide)
  | cons l r =>
    rw [e] at h
    have h : cond (eqL l [0, 1, 2, 3, 4, 5, 6]) (okL r l) false = true := h
    obtain ⟨a, b⟩ := cond_t h
    have a := eqL_t _ _ a
    subst a
    exact ⟨r, rfl, b⟩
theorem dl_len : ∀ n u, (dl n u).length ≤ 7 ^ n := by
  intro n
  induction n with
  | zero => intro u; exact Nat.le_refl _
  | succ n ih =>
    intro u
    have g : ∀ c, (cond (u.testBit c) [] ((dl n (u ||| 2 ^ c)).map (fun l => c :: l))).length ≤ 7 ^ n := fun c => by
      cases u.testBit c with
      | true => exact Nat.zero_le _
      | false =>
        show (List.map _ _).length ≤ _
        rw [List.length_map]
        exact ih _
    rw [dl_s]
    simp only [List.flatMap_cons, List.flatMap_nil, List.length_append, List.length_nil]
    have := g 0
    have := g 1
    have := g 2
    have := g 3
    have := g 4
    have := g 5
    have := g 6
    rw [show 7 ^ (n + 1) = 7 ^ n * 7 from Nat.pow_succ _ _]
    omega
/-- how many orders lead to x, and the first of them -/
noncomputable def rCn (B : Nat → Nat → Bool) (x : Nat) : Nat := (dl 7 0).countP (fun l => enF B l == x)
noncomputable def rFs (B : Nat → Nat → Bool) (x : Nat) : Option (List Nat) := (dl 7 0).find? (fun l => enF B l == x)
section
variable {B : Nat → Nat → Bool} {x : Nat} {h0 : xh_H}
set_option maxRecDepth 100000 in
set_option maxHeartbeats 4000000 in
theorem rrw_0 (x7 : x < 7) (hB : ∀ a b, a < 7 → b < 7 → xg 0 h0.2.1 63 (7 * a + b) = bl (B a b)) : ∀ (n f i : Nat) (h : xh_H), i + n = 7 → a_rq a_tb h → fx S66 fN h0 h → (∀ k, k < i → xg 0 h.2.1 66 k = nI k) → xq f xi_X10_rows xmi_X10_rows 20 [(0, .ref 39), (1, .int (nI x)), (2, .int (nI i))] [] h (fun v h' => v = some (.int (nI (rCn B x))) ∧ (rFs B x = none → xg 0 h'.2.1 39 59 = xg 0 h0.2.1 39 59 ∧ ∀ k, xg 0 h'.2.1 67 k = xg 0 h0.2.1 67 k) ∧ ∀ l0, rFs B x = some l0 → xg 0 h'.2.1 39 59 = Int32.ofInt 1 ∧ ∀ k, k < 7 → xg 0 h'.2.1 67 k = nI (atL l0 k)) := by
  intro n
  induction n with
  | zero =>
    intro f i h hn hq ge w
    have e : i = 7 := by omega
    subst e
    obtain ⟨r, e1, e2⟩ := dl_7
    refine xq_n 47 [0, 1, 2] [(0, .ref 39), (1, .int (nI x)), (2, .int (Int32.ofInt 0))] [] h [true, false] 60 hq rfl ⟨rfl, rfl, trivial⟩ (fun _ => ?_)
    have len := dl_len 7 0
    rw [e1, List.length_cons] at len
    have ge' : fx SRW fN h0 h := fx_w ge (fun c k z => by unfold SRW at z; rw [Bool.or_eq_false_iff, Bool.or_eq_false_iff] at z; exact z.2.1) (fun _ _ z => z)
    have i7 : ∀ k, k < 7 → atL [0, 1, 2, 3, 4, 5, 6] k = k := by decide +kernel
    refine xq_mono (rrw_l (B := B) x7 hB r f 0 [0, 1, 2, 3, 4, 5, 6] h e2 hq ge' ⟨rfl, fun k hk' => by rw [i7 k hk']; exact hk', fun k hk' => by rw [i7 k hk']; exact w k hk'⟩ (by omega) (fun z => absurd rfl z)) (fun v h' q => ?_)
    obtain ⟨q1, -, q3, q4⟩ := q
    rw [← e1] at q1 q3 q4
    rw [Nat.zero_add] at q1
    refine ⟨q1, fun z => ?_, fun l0 z => q4 l0 rfl z⟩
    obtain ⟨a, b⟩ := q3 (Or.inr z)
    exact ⟨a.trans (fx_i ge rfl), fun k => (b k).trans (fx_i ge rfl)⟩
  | succ n ih =>
    intro f i h hn hq ge w
    refine xq_n 20 [0, 1, 2] [(0, .ref 39), (1, .int (nI x)), (2, .int (nI i + Int32.ofInt 1))] [] (xh_ui h 66 (nI i).toNatClampNeg (nI i)) [false] 60 hq rfl ⟨nge_f (b := 7) (by omega) (by decide) (by omega), trivial⟩ (fun _ => ?_)
    rw [nI_1', show (nI i).toNatClampNeg = i from nI_clamp (by omega)]
    refine ih f (i + 1) _ (by omega) (a_rq_ui hq) (fx_ui ge rfl) (fun k hk' => ?_)
    by_cases z : k = i
    · rw [z, gx_s]
    · exact (gx_k z).trans (w k (by omega))
end
set_option maxRecDepth 100000 in
set_option maxHeartbeats 4000000 in
/-- X10.rows -/
theorem ro10_q {f mem sc : Nat} {x : Int32} {FR RW PL : Nat → Int32} {d : Int32} {h : xh_H} (m12 : mem ≤ 12) (e4 : xg 0 h.2.1 39 4 = nI mem) (e33 : xg 0 h.2.1 39 33 = nI sc) (sc8 : sc ≤ 8) (e3 : xg 0 h.2.1 39 3 = d) (hF : ∀ k, k < sc → xg 0 h.2.1 51 k = FR k) (hT : ∀ k, k < sc → (xg 0 h.2.1 52 k).toInt ≤ 999) (hR : ∀ k s, k < sc → s < 2 ^ mem → ∃ b : Bool, RW (4096 * k + s) = bl b ∧ xg 0 h.2.1 44 (4096 * k + s) = bl b) (hP : ∀ k, k < 84 → xg 0 h.2.1 62 k = PL k) (hq : a_rq a_tb h) : xq f xi_X10_rows xmi_X10_rows 0 [(0, .ref 39), (1, .int x)] [] h (fun v h' => ((!xe_c .lt x 0 && !xe_c .ge x 7) = false → v = some (.int (Int32.ofInt (-1))) ∧ xg 0 h'.2.1 39 59 = xg 0 h.2.1 39 59 ∧ ∀ k, xg 0 h'.2.1 67 k = xg 0 h.2.1 67 k) ∧ ((!xe_c .lt x 0 && !xe_c .ge x 7) = true → v = some (.int (nI (rCn (BT PL (cvB FR RW mem sc d) mem) x.toInt.toNat))) ∧ (rFs (BT PL (cvB FR RW mem sc d) mem) x.toInt.toNat = none → xg 0 h'.2.1 39 59 = xg 0 h.2.1 39 59 ∧ ∀ k, xg 0 h'.2.1 67 k = xg 0 h.2.1 67 k) ∧ ∀ l0, rFs (BT PL (cvB FR RW mem sc d) mem) x.toInt.toNat = some l0 → xg 0 h'.2.1 39 59 = Int32.ofInt 1 ∧ ∀ k, k < 7 → xg 0 h'.2.1 67 k = nI (atL l0 k))) := by
  refine xq_n 6 [0, 1] [(0, .ref 39), (1, .int x)] [.int x] (xh_ui h 39 0 (Int32.ofInt 0)) [] 60 hq rfl trivial (fun _ => ?_)
  have hq : a_rq a_tb (xh_ui h 39 0 (Int32.ofInt 0)) := a_rq_ui hq
  refine xq_run hq rfl rfl (iop10_q hq) ?_
  rintro v h1 ⟨rfl, rfl⟩
  cases c1 : (!xe_c .lt x 0 && !xe_c .ge x 7) with
  | false =>
    refine xq_n 13 [] [] [.int (Int32.ofInt (-1))] (xh_ui h 39 0 (Int32.ofInt 0)) [false] 60 hq rfl ⟨rfl, trivial⟩ (fun _ => ?_)
    exact xq_ret rfl rfl rfl ⟨fun _ => ⟨rfl, gx_k (by decide), fun k => gx_o (by decide)⟩, fun z => (by cases z)⟩
  | true =>
    obtain ⟨X, rfl, X7, eX⟩ := iop_n c1
    rw [eX]
    refine xq_n 15 [0, 1] [(0, .ref 39), (1, .int (nI X))] [.ref 39] (xh_ui h 39 0 (Int32.ofInt 0)) [true] 60 hq rfl ⟨rfl, trivial⟩ (fun _ => ?_)
    refine xq_run hq rfl rfl (lop_q (FR := FR) (RW := RW) (PL := PL) (h := xh_ui h 39 0 (Int32.ofInt 0)) m12 ((gx_k (by decide)).trans e4) ((gx_k (by decide)).trans e33) sc8 ((gx_k (by decide)).trans e3) (fun k hk' => (gx_o (by decide)).trans (hF k hk')) (fun k hk' => by rw [gx_o (by decide)]; exact hT k hk') (fun k s h1 h2 => by obtain ⟨b, b1, b2⟩ := hR k s h1 h2; exact ⟨b, b1, (gx_o (by decide)).trans b2⟩) (fun k hk' => (gx_o (by decide)).trans (hP k hk')) hq) ?_
    rintro v h1 ⟨rfl, g1, w53, w63, w64⟩
    have hq := fx_q g1 hq
    refine xq_n 20 [0, 1, 2] [(0, .ref 39), (1, .int (nI X)), (2, .int (Int32.ofInt 0))] [] h1 [] 60 hq rfl trivial (fun _ => ?_)
    refine xq_mono (rrw_0 (h0 := h1) X7 w63 7 f 0 h1 (by omega) hq fx_0 (fun k hk' => absurd hk' (Nat.not_lt_zero k))) (fun v h' q => ⟨fun z => (by cases z), fun _ => ⟨q.1, fun z => ?_, q.2.2⟩⟩)
    obtain ⟨a, b⟩ := q.2.1 z
    exact ⟨a.trans ((fx_i g1 rfl).trans (gx_k (by decide))), fun k => (b k).trans ((fx_i g1 rfl).trans (gx_o (by decide)))⟩
end XRT
end
section
section XCW
def pc7 (u : Nat) : Nat := cnt (fun i => u.testBit i) 7
theorem pc_a : ((List.range 128).all fun u => (List.range 7).all fun c => u.testBit c || (Nat.blt (u ||| 2 ^ c) 128 && (Nat.blt u (u ||| 2 ^ c) && Nat.beq (pc7 (u ||| 2 ^ c)) (pc7 u + 1)))) = true := by decide +kernel
theorem pc_b : ((List.range 127).all fun u => Nat.blt (pc7 u) 7) = true := by decide +kernel
theorem pc_o {u c : Nat} (hu : u < 128) (hc : c < 7) (h : u.testBit c = false) : (u ||| 2 ^ c) < 128 ∧ u < (u ||| 2 ^ c) ∧ pc7 (u ||| 2 ^ c) = pc7 u + 1 := by
  have a := List.all_eq_true.mp (List.all_eq_true.mp pc_a u (List.mem_range.mpr hu)) c (List.mem_range.mpr hc)
  rw [h, Bool.false_or, Bool.and_eq_true, Bool.and_eq_true] at a
  exact ⟨Nat.le_of_ble_eq_true a.1, Nat.le_of_ble_eq_true a.2.1, Nat.eq_of_beq_eq_true a.2.2⟩
theorem pc_l {u : Nat} (hu : u < 127) : pc7 u < 7 := Nat.le_of_ble_eq_true (List.all_eq_true.mp pc_b u (List.mem_range.mpr hu))
/-- the sum so far -/
def ps (B : Nat → Nat → Bool) (x n u s : Nat) : Nat → Nat
  | 0 => 0
  | c + 1 => ps B x n u s c + cond (u.testBit c) 0 (wy B x n (u ||| 2 ^ c) (sd B s c))
theorem ps_7 {B : Nat → Nat → Bool} {x n u s : Nat} : ps B x n u s 7 = wy B x (n + 1) u s := by
  show _ = ([0, 1, 2, 3, 4, 5, 6].map (fun c => cond (u.testBit c) 0 (wy B x n (u ||| 2 ^ c) (sd B s c)))).sum
  simp only [ps, List.map_cons, List.map_nil, List.sum_cons, List.sum_nil]
  omega
def S34 (c _k : Nat) : Bool := Nat.beq c 34
/-- the table above U is right -/
def tW (B : Nat → Nat → Bool) (x U : Nat) (h : xh_H) : Prop := ∀ u s, U < u → u < 128 → s < 7 → xg 0 h.2.1 34 (7 * u + s) = nI (wy B x (7 - pc7 u) u s)
theorem wf_q {f u s : Nat} {h : xh_H} (hu : u < 128) (hs : s < 7) (hq : a_rq a_tb h) : xq f xi_X0_waysFrom xmi_X0_waysFrom 0 [(0, .ref 28), (1, .int (nI u)), (2, .int (nI s))] [] h (fun v h' => h = h' ∧ v = some (.int (xg 0 h.2.1 34 (7 * u + s)))) := by
  refine xq_n 11 [] [] [.int (xg 0 h.2.1 34 (nI u * 7 + nI s).toNatClampNeg)] h [] 60 hq rfl trivial (fun _ => ?_)
  exact xq_ret rfl rfl rfl ⟨rfl, by rw [i7_a, nI_clamp (by omega)]⟩
section
variable {B : Nat → Nat → Bool} {x : Nat} {hb : xh_H}
set_option maxRecDepth 100000 in
set_option maxHeartbeats 4000000 in
theorem cw_3 {u s n : Nat} {h : xh_H} {Q : Option Value → xh_H → Prop} (hu : u < 127) (hs : s < 7) (en : n + 1 = 7 - pc7 u) (hB : ∀ x, x < 7 → xg 0 h.2.1 31 x = nI (msk (B x) 7)) (w : tW B x u h) (hq : a_rq a_tb h) (K : ∀ f, xq f xi_X0_countWays xmi_X0_countWays 99 [(0, .ref 28), (1, .int (nI x)), (2, .int (nI u)), (3, .int (nI s)), (4, .int (nI (ps B x n u s 7)))] [] h Q) : ∀ (k f c : Nat), c + k = 7 → xq f xi_X0_countWays xmi_X0_countWays 55 [(0, .ref 28), (1, .int (nI x)), (2, .int (nI u)), (3, .int (nI s)), (4, .int (nI (ps B x n u s c))), (5, .int (nI c))] [] h Q := by
  intro k
  induction k with
  | zero =>
    intro f c hc
    have e : c = 7 := by omega
    subst e
    refine xq_n 99 [0, 1, 2, 3, 4] [(0, .ref 28), (1, .int (nI x)), (2, .int (nI u)), (3, .int (nI s)), (4, .int (nI (ps B x n u s 7)))] [] h [true] 60 hq rfl ⟨rfl, trivial⟩ (fun _ => ?_)
    exact K f
  | succ k ih =>
    intro f c hc
    have g0 : xe_c .ge (nI c) 7 = false := nge_f (b := 7) (by omega) (by decide) (by omega)
    have g1 : (nI u >>> (nI c &&& 31)) &&& Int32.ofInt 1 = bl (u.testBit c) := by rw [nI_b0 (by omega) (by omega), bl_nI]
    have g1 := bn g1
    have r := ih f (c + 1) (by omega)
    cases cb : u.testBit c with
    | true =>
      rw [cb] at g1
      rw [show ps B x n u s (c + 1) = ps B x n u s c from by show ps B x n u s c + cond (u.testBit c) 0 _ = _; rw [cb]; rfl] at r
      refine xq_n 55 [0, 1, 2, 3, 4, 5] [(0, .ref 28), (1, .int (nI x)), (2, .int (nI u)), (3, .int (nI s)), (4, .int (nI (ps B x n u s c))), (5, .int (nI c + Int32.ofInt 1))] [] h [false, true] 60 hq rfl ⟨g0, g1, trivial⟩ (fun _ => ?_)
      rw [nI_1']
      exact r
    | false =>
      rw [cb] at g1
      obtain ⟨o1, o2, o3⟩ := pc_o (show u < 128 by omega) (show c < 7 by omega) cb
      rw [show ps B x n u s (c + 1) = ps B x n u s c + wy B x n (u ||| 2 ^ c) (sd B s c) from by show ps B x n u s c + cond (u.testBit c) 0 _ = _; rw [cb]; rfl] at r
      refine xq_n 84 [0, 1, 2, 3, 4, 5] [(0, .ref 28), (1, .int (nI x)), (2, .int (nI u)), (3, .int (nI s)), (4, .int (nI (ps B x n u s c))), (5, .int (nI c))] [.int (nI c), .int (nI s), .ref 28, .int (nI u ||| (Int32.ofInt 1 <<< (nI c &&& 31))), .ref 28, .int (nI (ps B x n u s c))] h [false, false] 60 hq rfl ⟨g0, g1, trivial⟩ (fun _ => ?_)
      rw [nI_o1 (by omega)]
      refine xq_run hq rfl rfl (sta_q (s := s) (c := c) (B := B) hs (by omega) hB hq) ?_
      rintro v h1 ⟨rfl, rfl⟩
      have sl := sd_lt (B := B) hs (show c < 7 by omega)
      refine xq_run hq rfl rfl (wf_q o1 sl hq) ?_
      rintro v h1 ⟨rfl, rfl⟩
      rw [w _ _ o2 o1 sl, show 7 - pc7 (u ||| 2 ^ c) = n by omega]
      refine xq_n 55 [0, 1, 2, 3, 4, 5] [(0, .ref 28), (1, .int (nI x)), (2, .int (nI u)), (3, .int (nI s)), (4, .int (nI (ps B x n u s c) + nI (wy B x n (u ||| 2 ^ c) (sd B s c)))), (5, .int (nI c + Int32.ofInt 1))] [] h [] 60 hq rfl trivial (fun _ => ?_)
      rw [nI_1', nI_add]
      exact r
set_option maxRecDepth 100000 in
set_option maxHeartbeats 4000000 in
theorem cw_2 {u n : Nat} {Q : Option Value → xh_H → Prop} (hu : u < 127) (en : n + 1 = 7 - pc7 u) (hB : ∀ x, x < 7 → xg 0 hb.2.1 31 x = nI (msk (B x) 7)) (K : ∀ (f : Nat) (h : xh_H), a_rq a_tb h → fx S34 fN hb h → tW B x (u - 1) h → xq f xi_X0_countWays xmi_X0_countWays 118 [(0, .ref 28), (1, .int (nI x)), (2, .int (nI u))] [] h Q) : ∀ (k f s : Nat) (h : xh_H), s + k = 7 → a_rq a_tb h → fx S34 fN hb h → tW B x u h → (∀ s', s' < s → xg 0 h.2.1 34 (7 * u + s') = nI (wy B x (7 - pc7 u) u s')) → xq f xi_X0_countWays xmi_X0_countWays 43 [(0, .ref 28), (1, .int (nI x)), (2, .int (nI u)), (3, .int (nI s))] [] h Q := by
  intro k
  induction k with
  | zero =>
    intro f s h hs hq ge w v
    have e : s = 7 := by omega
    subst e
    refine xq_n 118 [0, 1, 2] [(0, .ref 28), (1, .int (nI x)), (2, .int (nI u))] [] h [true] 60 hq rfl ⟨rfl, trivial⟩ (fun _ => ?_)
    refine K f h hq ge (fun u' s' h1 h2 h3 => ?_)
    by_cases z : u' = u
    · rw [z]; exact v s' h3
    · exact w u' s' (by omega) h2 h3
  | succ k ih =>
    intro f s h hs hq ge w v
    refine xq_n 55 [0, 1, 2, 3, 4, 5] [(0, .ref 28), (1, .int (nI x)), (2, .int (nI u)), (3, .int (nI s)), (4, .int (Int32.ofInt 0)), (5, .int (Int32.ofInt 0))] [] h [false] 60 hq rfl ⟨nge_f (b := 7) (by omega) (by decide) (by omega), trivial⟩ (fun _ => ?_)
    refine cw_3 hu (by omega) en (fun x hx => (fx_i ge rfl).trans (hB x hx)) w hq (fun f => ?_) 7 f 0 (by omega)
    refine xq_n 43 [0, 1, 2, 3] [(0, .ref 28), (1, .int (nI x)), (2, .int (nI u)), (3, .int (nI s + Int32.ofInt 1))] [] (xh_ui h 34 (nI u * 7 + nI s).toNatClampNeg (nI (ps B x n u s 7))) [] 60 hq rfl trivial (fun _ => ?_)
    rw [nI_1', i7_a, show (nI (7 * u + s)).toNatClampNeg = 7 * u + s from nI_clamp (by omega), ps_7, en]
    refine ih f (s + 1) _ (by omega) (a_rq_ui hq) (fx_ui ge rfl) (fun u' s' h1 h2 h3 => (gx_k (by omega)).trans (w u' s' h1 h2 h3)) (fun s' hs' => ?_)
    by_cases z : s' = s
    · rw [z, gx_s]
    · exact (gx_k (by omega)).trans (v s' (by omega))
set_option maxRecDepth 100000 in
set_option maxHeartbeats 4000000 in
theorem cw_1 (hB : ∀ x, x < 7 → xg 0 hb.2.1 31 x = nI (msk (B x) 7)) : ∀ (u f : Nat) (h : xh_H), u < 127 → a_rq a_tb h → fx S34 fN hb h → tW B x u h → xq f xi_X0_countWays xmi_X0_countWays 37 [(0, .ref 28), (1, .int (nI x)), (2, .int (nI u))] [] h (fun v h' => v = none ∧ fx S34 fN hb h' ∧ tW B x 0 h') := by
  intro u
  induction u with
  | zero =>
    intro f h hu hq ge w
    refine xq_n 124 [] [] [] h [true] 60 hq rfl ⟨rfl, trivial⟩ (fun _ => ?_)
    exact xq_ret rfl rfl rfl ⟨rfl, ge, w⟩
  | succ u ih =>
    intro f h hu hq ge w
    have pl := pc_l hu
    refine xq_n 43 [0, 1, 2, 3] [(0, .ref 28), (1, .int (nI x)), (2, .int (nI (u + 1))), (3, .int (Int32.ofInt 0))] [] h [false] 60 hq rfl ⟨xle_f (by rw [nI_toInt (by omega)]; show (0 : Int) < _; omega), trivial⟩ (fun _ => ?_)
    refine cw_2 (n := 6 - pc7 (u + 1)) hu (by omega) hB (fun f h hq ge w => ?_) 7 f 0 h (by omega) hq ge w (fun s' hs' => absurd hs' (Nat.not_lt_zero s'))
    refine xq_n 37 [0, 1, 2] [(0, .ref 28), (1, .int (nI x)), (2, .int (nI (u + 1) + Int32.ofInt (-1)))] [] h [] 60 hq rfl trivial (fun _ => ?_)
    rw [nI_dec]
    exact ih f h (by omega) hq ge w
set_option maxRecDepth 100000 in
set_option maxHeartbeats 4000000 in
theorem cw_0 (x7 : x < 7) (hB : ∀ x, x < 7 → xg 0 hb.2.1 31 x = nI (msk (B x) 7)) : ∀ (k f s : Nat) (h : xh_H), s + k = 7 → a_rq a_tb h → fx S34 fN hb h → (∀ s', s' < s → xg 0 h.2.1 34 (889 + s') = nI (if s' = x then 1 else 0)) → xq f xi_X0_countWays xmi_X0_countWays 2 [(0, .ref 28), (1, .int (nI x)), (2, .int (nI s))] [] h (fun v h' => v = none ∧ fx S34 fN hb h' ∧ tW B x 0 h') := by
  intro k
  induction k with
  | zero =>
    intro f s h hs hq ge v
    have e : s = 7 := by omega
    subst e
    refine xq_n 37 [0, 1, 2] [(0, .ref 28), (1, .int (nI x)), (2, .int 126)] [] h [true] 60 hq rfl ⟨rfl, trivial⟩ (fun _ => ?_)
    refine cw_1 hB 126 f h (by omega) hq ge (fun u' s' h1 h2 h3 => ?_)
    have e : u' = 127 := by omega
    subst e
    exact v s' h3
  | succ k ih =>
    intro f s h hs hq ge v
    have go : ∀ f, xq f xi_X0_countWays xmi_X0_countWays 2 [(0, .ref 28), (1, .int (nI x)), (2, .int (nI s + Int32.ofInt 1))] [] (xh_ui h 34 (889 + nI s).toNatClampNeg (nI (if s = x then 1 else 0))) (fun v h' => v = none ∧ fx S34 fN hb h' ∧ tW B x 0 h') := fun f => by
      rw [nI_1', show (889 : Int32) + nI s = nI (889 + s) from nI_add 889 s, show (nI (889 + s)).toNatClampNeg = 889 + s from nI_clamp (by omega)]
      refine ih f (s + 1) _ (by omega) (a_rq_ui hq) (fx_ui ge rfl) (fun s' hs' => ?_)
      by_cases z : s' = s
      · rw [z, gx_s]
      · exact (gx_k (by omega)).trans (v s' (by omega))
    by_cases z : s = x
    · have g := go f
      rw [if_pos z] at g
      refine xq_n 2 [0, 1, 2] [(0, .ref 28), (1, .int (nI x)), (2, .int (nI s + Int32.ofInt 1))] [] (xh_ui h 34 (889 + nI s).toNatClampNeg (Int32.ofInt 1)) [false, false] 60 hq rfl ⟨nge_f (b := 7) (by omega) (by decide) (by omega), nne_f (by omega) (by omega) z, trivial⟩ (fun _ => ?_)
      exact g
    · have g := go f
      rw [if_neg z] at g
      refine xq_n 2 [0, 1, 2] [(0, .ref 28), (1, .int (nI x)), (2, .int (nI s + Int32.ofInt 1))] [] (xh_ui h 34 (889 + nI s).toNatClampNeg (Int32.ofInt 0)) [false, true] 60 hq rfl ⟨nge_f (b := 7) (by omega) (by decide) (by omega), nne_t (by omega) (by omega) z, trivial⟩ (fun _ => ?_)
      exact g
theorem cw_q {f : Nat} (x7 : x < 7) (hB : ∀ x, x < 7 → xg 0 hb.2.1 31 x = nI (msk (B x) 7)) (hq : a_rq a_tb hb) : xq f xi_X0_countWays xmi_X0_countWays 0 [(0, .ref 28), (1, .int (nI x))] [] hb (fun v h' => v = none ∧ fx S34 fN hb h' ∧ tW B x 0 h') := by
  refine xq_n 2 [0, 1, 2] [(0, .ref 28), (1, .int (nI x)), (2, .int (Int32.ofInt 0))] [] hb [] 60 hq rfl trivial (fun _ => ?_)
  exact cw_0 x7 hB 7 f 0 hb (by omega) hq fx_0 (fun s' hs' => absurd hs' (Nat.not_lt_zero s'))
end
end XCW
end
section
section XCR
theorem dl_ln : ∀ (n u : Nat) (l : List Nat), l ∈ dl n u → l.length = n := by
  intro n
  induction n with
  | zero =>
    intro u l h
    rw [List.mem_singleton.mp (show l ∈ [[]] from h)]
    rfl
  | succ n ih =>
    intro u l h
    rw [dl_s] at h
    obtain ⟨c, -, h⟩ := List.mem_flatMap.mp h
    cases z : u.testBit c with
    | true => rw [z] at h; exact absurd (show l ∈ [] from h) List.not_mem_nil
    | false =>
      rw [z] at h
      obtain ⟨l', h1, h2⟩ := List.mem_map.mp (show l ∈ List.map _ _ from h)
      rw [← h2, List.length_cons, ih _ _ h1]
theorem enF_c {B : Nat → Nat → Bool} {c : Nat} : ∀ (l : List Nat), l.length = 6 → enF B (c :: l) = enL B c l := by
  intro l h
  match l, h with
  | [_, _, _, _, _, _], _ => rfl
/-- the sum over what comes first -/
def psR (B : Nat → Nat → Bool) (x : Nat) : Nat → Nat
  | 0 => 0
  | c + 1 => psR B x c + wy B x 6 (2 ^ c) c
theorem cp_cg {α : Type} {p q : α → Bool} : ∀ (l : List α), (∀ a, a ∈ l → p a = q a) → l.countP p = l.countP q := by
  intro l h
  exact List.countP_congr (fun a ha => by rw [h a ha])
theorem psR_7 {B : Nat → Nat → Bool} {x : Nat} : psR B x 7 = rCn B x := by
  have g : ∀ c, (cond (Nat.testBit 0 c) [] ((dl 6 (0 ||| 2 ^ c)).map (fun l => c :: l))).countP (fun l => enF B l == x) = wy B x 6 (2 ^ c) c := fun c => by
    rw [Nat.zero_testBit, Nat.zero_or]
    show List.countP _ (List.map _ _) = _
    rw [List.countP_map, ← wy_dl]
    exact cp_cg _ (fun l hl => by show (enF B (c :: l) == x) = _; rw [enF_c l (dl_ln 6 _ l hl)])
  unfold rCn
  rw [dl_s, List.countP_flatMap]
  show _ = ([0, 1, 2, 3, 4, 5, 6].map (fun c => (cond (Nat.testBit 0 c) [] ((dl 6 (0 ||| 2 ^ c)).map (fun l => c :: l))).countP (fun l => enF B l == x))).sum
  rw [List.map_congr_left (fun c _ => g c)]
  simp only [psR, List.map_cons, List.map_nil, List.sum_cons, List.sum_nil]
  omega
/-- the least from c on -/
def lsN (B : Nat → Nat → Bool) (x n u : Nat) (f : Nat → Nat) : Nat → Nat → Nat
  | 0, _ => 7
  | k + 1, c => cond (u.testBit c) (lsN B x n u f k (c + 1)) (if 0 < wy B x n (u ||| 2 ^ c) (f c) then c else lsN B x n u f k (c + 1))
theorem lsN_1 {B : Nat → Nat → Bool} {x n u s : Nat} {f : Nat → Nat} : lsN B x n u f 7 0 = lst1 B x n u s f [0, 1, 2, 3, 4, 5, 6] := rfl
/-- what stands, or nothing yet -/
def so1 (B : Nat → Nat → Bool) (o : Option Nat) (c : Nat) : Nat := match o with
  | none => c
  | some s => sd B s c
def soI (o : Option Nat) : Int32 := match o with
  | none => Int32.ofInt (-1)
  | some s => nI s
def S29 (c _k : Nat) : Bool := Nat.beq c 29
section
variable {B : Nat → Nat → Bool} {x : Nat} {hb : xh_H}
set_option maxRecDepth 100000 in
set_option maxHeartbeats 4000000 in
/-- one place of the first row -/
theorem ffr_in {u k n : Nat} {o : Option Nat} {h : xh_H} {Q : Option Value → xh_H → Prop} (hu : u < 128) (k7 : k < 7) (ho : ∀ s, o = some s → s < 7) (en : n = 6 - pc7 u) (hB : ∀ x, x < 7 → xg 0 h.2.1 31 x = nI (msk (B x) 7)) (w : tW B x 0 h) (hq : a_rq a_tb h) (bd : ∀ u s, wy B x n u s < 2 ^ 31) (K : ∀ f, lsN B x n u (so1 B o) 7 0 < 7 → u.testBit (lsN B x n u (so1 B o) 7 0) = false → xq f xi_X0_findFirstRow xmi_X0_findFirstRow 92 [(0, .ref 28), (1, .int (nI (u ||| 2 ^ lsN B x n u (so1 B o) 7 0))), (2, .int (nI (so1 B o (lsN B x n u (so1 B o) 7 0)))), (3, .int (nI k))] [] (xh_ui h 29 k (nI (lsN B x n u (so1 B o) 7 0))) Q) : ∀ (j f c : Nat), c + j = 7 → lsN B x n u (so1 B o) j c = lsN B x n u (so1 B o) 7 0 → lsN B x n u (so1 B o) j c < 7 → xq f xi_X0_findFirstRow xmi_X0_findFirstRow 15 [(0, .ref 28), (1, .int (nI u)), (2, .int (soI o)), (3, .int (nI k)), (4, .int (nI c))] [] h Q := by
  intro j
  induction j with
  | zero => intro f c _ _ h; exact absurd h (Nat.lt_irrefl 7)
  | succ j ih =>
    intro f c cj e l
    have c7 : c < 7 := by omega
    have g0 : xe_c .ge (nI c) 7 = false := nge_f (b := 7) (by omega) (by decide) c7
    have g1 : (nI u >>> (nI c &&& 31)) &&& Int32.ofInt 1 = bl (u.testBit c) := by rw [nI_b0 (by omega) (by omega), bl_nI]
    have g1 := bn g1
    have tl : so1 B o c < 7 := by
      cases o with
      | none => exact c7
      | some s => exact sd_lt (ho s rfl) c7
    have ee : lsN B x n u (so1 B o) (j + 1) c = cond (u.testBit c) (lsN B x n u (so1 B o) j (c + 1)) (if 0 < wy B x n (u ||| 2 ^ c) (so1 B o c) then c else lsN B x n u (so1 B o) j (c + 1)) := rfl
    have go : ∀ f, xq f xi_X0_findFirstRow xmi_X0_findFirstRow 39 [(0, .ref 28), (1, .int (nI u)), (2, .int (soI o)), (3, .int (nI k)), (4, .int (nI c))] [.int (nI (so1 B o c))] h Q := fun f => by
      cases cb : u.testBit c with
      | true =>
        rw [cb] at g1 ee
        have ee : lsN B x n u (so1 B o) (j + 1) c = lsN B x n u (so1 B o) j (c + 1) := ee
        rw [ee] at e l
        refine xq_n 15 [0, 1, 2, 3, 4] [(0, .ref 28), (1, .int (nI u)), (2, .int (soI o)), (3, .int (nI k)), (4, .int (nI c + Int32.ofInt 1))] [] h [true] 60 hq rfl ⟨g1, trivial⟩ (fun _ => ?_)
        rw [nI_1']
        exact ih f (c + 1) (by omega) e l
      | false =>
        rw [cb] at g1 ee
        have ee : lsN B x n u (so1 B o) (j + 1) c = if 0 < wy B x n (u ||| 2 ^ c) (so1 B o c) then c else lsN B x n u (so1 B o) j (c + 1) := ee
        obtain ⟨o1, o2, o3⟩ := pc_o hu c7 cb
        refine xq_n 59 [0, 1, 2, 3, 4, 5] [(0, .ref 28), (1, .int (nI u)), (2, .int (soI o)), (3, .int (nI k)), (4, .int (nI c)), (5, .int (nI (so1 B o c)))] [.int (nI (so1 B o c)), .int (nI u ||| (Int32.ofInt 1 <<< (nI c &&& 31))), .ref 28] h [false] 60 hq rfl ⟨g1, trivial⟩ (fun _ => ?_)
        rw [nI_o1 (by omega)]
        refine xq_run hq rfl rfl (wf_q o1 tl hq) ?_
        rintro v h1 ⟨rfl, rfl⟩
        rw [w _ _ (by omega) o1 tl, show 7 - pc7 (u ||| 2 ^ c) = n by omega]
        have wb := bd (u ||| 2 ^ c) (so1 B o c)
        by_cases z : 0 < wy B x n (u ||| 2 ^ c) (so1 B o c)
        · rw [if_pos z] at ee
          rw [ee] at e
          refine xq_n 92 [0, 1, 2, 3] [(0, .ref 28), (1, .int (nI u ||| (Int32.ofInt 1 <<< (nI c &&& 31)))), (2, .int (nI (so1 B o c))), (3, .int (nI k))] [] (xh_ui h 29 (nI k).toNatClampNeg (nI c)) [false] 60 hq rfl ⟨xle_f (by rw [nI_toInt wb]; show (0 : Int) < _; omega), trivial⟩ (fun _ => ?_)
          rw [nI_o1 (by omega), show (nI k).toNatClampNeg = k from nI_clamp (by omega)]
          have r := K f (by omega) (by rw [← e]; exact cb)
          rw [← e] at r
          exact r
        · rw [if_neg z] at ee
          rw [ee] at e l
          refine xq_n 15 [0, 1, 2, 3, 4] [(0, .ref 28), (1, .int (nI u)), (2, .int (soI o)), (3, .int (nI k)), (4, .int (nI c + Int32.ofInt 1))] [] h [true] 60 hq rfl ⟨xle_t (by rw [nI_toInt wb]; show _ ≤ (0 : Int); omega), trivial⟩ (fun _ => ?_)
          rw [nI_1']
          exact ih f (c + 1) (by omega) e l
    cases o with
    | none =>
      refine xq_n 39 [0, 1, 2, 3, 4] [(0, .ref 28), (1, .int (nI u)), (2, .int (Int32.ofInt (-1))), (3, .int (nI k)), (4, .int (nI c))] [.int (nI c)] h [false, false] 60 hq rfl ⟨g0, rfl, trivial⟩ (fun _ => ?_)
      exact go f
    | some s =>
      have s7 := ho s rfl
      refine xq_n 36 [0, 1, 2, 3, 4] [(0, .ref 28), (1, .int (nI u)), (2, .int (nI s)), (3, .int (nI k)), (4, .int (nI c))] [.int (nI c), .int (nI s), .ref 28] h [false, true] 60 hq rfl ⟨g0, (show xe_c .ne (nI s) (Int32.ofInt (-1)) = true by
        cases y : xe_c .ne (nI s) (Int32.ofInt (-1)) with
        | true => rfl
        | false =>
          have : (nI s).toInt = (-1 : Int) := a_ce (a_neg_ok y)
          rw [nI_toInt (by omega)] at this
          omega), trivial⟩ (fun _ => ?_)
      refine xq_run hq rfl rfl (sta_q (s := s) (c := c) (B := B) s7 c7 hB hq) ?_
      rintro v h1 ⟨rfl, rfl⟩
      exact go f
end
end XCR
end
section
section XCX
theorem lsN_p {B : Nat → Nat → Bool} {x n u : Nat} {f : Nat → Nat} : ∀ (j c : Nat), c + j = 7 → (∃ c', c ≤ c' ∧ c' < 7 ∧ u.testBit c' = false ∧ 0 < wy B x n (u ||| 2 ^ c') (f c')) → lsN B x n u f j c < 7 ∧ u.testBit (lsN B x n u f j c) = false ∧ 0 < wy B x n (u ||| 2 ^ lsN B x n u f j c) (f (lsN B x n u f j c)) := by
  intro j
  induction j with
  | zero => intro c cj ⟨c', h1, h2, _⟩; omega
  | succ j ih =>
    intro c cj h
    have ee : lsN B x n u f (j + 1) c = cond (u.testBit c) (lsN B x n u f j (c + 1)) (if 0 < wy B x n (u ||| 2 ^ c) (f c) then c else lsN B x n u f j (c + 1)) := rfl
    have nx : (u.testBit c = true ∨ ¬ 0 < wy B x n (u ||| 2 ^ c) (f c)) → ∃ c', c + 1 ≤ c' ∧ c' < 7 ∧ u.testBit c' = false ∧ 0 < wy B x n (u ||| 2 ^ c') (f c') := fun z => by
      obtain ⟨c', h1, h2, h3, h4⟩ := h
      refine ⟨c', ?_, h2, h3, h4⟩
      by_cases y : c' = c
      · subst y
        rcases z with z | z
        · rw [z] at h3; cases h3
        · exact absurd h4 z
      · omega
    cases cb : u.testBit c with
    | true =>
      rw [cb] at ee
      have ee : lsN B x n u f (j + 1) c = lsN B x n u f j (c + 1) := ee
      rw [ee]
      exact ih (c + 1) (by omega) (nx (Or.inl cb))
    | false =>
      rw [cb] at ee
      have ee : lsN B x n u f (j + 1) c = if 0 < wy B x n (u ||| 2 ^ c) (f c) then c else lsN B x n u f j (c + 1) := ee
      by_cases w : 0 < wy B x n (u ||| 2 ^ c) (f c)
      · rw [if_pos w] at ee
        rw [ee]
        exact ⟨by omega, cb, w⟩
      · rw [if_neg w] at ee
        rw [ee]
        exact ih (c + 1) (by omega) (nx (Or.inr w))
theorem ps_p {B : Nat → Nat → Bool} {x n u s : Nat} : ∀ c, 0 < ps B x n u s c → ∃ c', c' < c ∧ u.testBit c' = false ∧ 0 < wy B x n (u ||| 2 ^ c') (sd B s c') := by
  intro c
  induction c with
  | zero => intro h; exact absurd h (Nat.lt_irrefl 0)
  | succ c ih =>
    intro h
    have h : 0 < ps B x n u s c + cond (u.testBit c) 0 (wy B x n (u ||| 2 ^ c) (sd B s c)) := h
    by_cases z : 0 < ps B x n u s c
    · obtain ⟨c', h1, h2⟩ := ih z
      exact ⟨c', by omega, h2⟩
    · cases cb : u.testBit c with
      | true => rw [cb] at h; exact absurd (show 0 < ps B x n u s c + 0 from h) (by omega)
      | false =>
        rw [cb] at h
        have h : 0 < ps B x n u s c + wy B x n (u ||| 2 ^ c) (sd B s c) := h
        exact ⟨c, by omega, cb, by omega⟩
theorem psR_p {B : Nat → Nat → Bool} {x : Nat} : ∀ c, 0 < psR B x c → ∃ c', c' < c ∧ 0 < wy B x 6 (2 ^ c') c' := by
  intro c
  induction c with
  | zero => intro h; exact absurd h (Nat.lt_irrefl 0)
  | succ c ih =>
    intro h
    have h : 0 < psR B x c + wy B x 6 (2 ^ c) c := h
    by_cases z : 0 < psR B x c
    · obtain ⟨c', h1, h2⟩ := ih z
      exact ⟨c', by omega, h2⟩
    · exact ⟨c, by omega, by omega⟩
theorem wy_b {B : Nat → Nat → Bool} {x : Nat} (n u s : Nat) : wy B x n u s ≤ 7 ^ n := by
  rw [← wy_dl]
  exact Nat.le_trans List.countP_le_length (dl_len n u)
/-- the first row from here on -/
def ffl (B : Nat → Nat → Bool) (x : Nat) : Nat → Nat → Option Nat → List Nat
  | 0, _, _ => []
  | n + 1, u, o => lsN B x n u (so1 B o) 7 0 :: ffl B x n (u ||| 2 ^ lsN B x n u (so1 B o) 7 0) (some (so1 B o (lsN B x n u (so1 B o) 7 0)))
section
variable {B : Nat → Nat → Bool} {x : Nat} {hb : xh_H}
set_option maxRecDepth 100000 in
set_option maxHeartbeats 4000000 in
theorem ffr_l (hB : ∀ x, x < 7 → xg 0 hb.2.1 31 x = nI (msk (B x) 7)) (w : tW B x 0 hb) : ∀ (n f u k : Nat) (o : Option Nat) (h : xh_H), k + n = 7 → u < 128 → pc7 u = k → (∀ s, o = some s → s < 7) → (0 < n → ∃ c, c < 7 ∧ u.testBit c = false ∧ 0 < wy B x (n - 1) (u ||| 2 ^ c) (so1 B o c)) → a_rq a_tb h → fx S29 fN hb h → xq f xi_X0_findFirstRow xmi_X0_findFirstRow 6 [(0, .ref 28), (1, .int (nI u)), (2, .int (soI o)), (3, .int (nI k))] [] h (fun v h' => v = none ∧ fx S29 fN hb h' ∧ (∀ j, j < k → xg 0 h'.2.1 29 j = xg 0 h.2.1 29 j) ∧ ∀ j, j < n → xg 0 h'.2.1 29 (k + j) = nI (atL (ffl B x n u o) j)) := by
  intro n
  induction n with
  | zero =>
    intro f u k o h kn hu pk ho ex hq ge
    have e : k = 7 := by omega
    subst e
    refine xq_n 98 [] [] [] h [true] 60 hq rfl ⟨rfl, trivial⟩ (fun _ => ?_)
    exact xq_ret rfl rfl rfl ⟨rfl, ge, fun _ _ => rfl, fun j hj => absurd hj (Nat.not_lt_zero j)⟩
  | succ n ih =>
    intro f u k o h kn hu pk ho ex hq ge
    obtain ⟨c, c1, c2, c3⟩ := ex (by omega)
    rw [Nat.add_sub_cancel] at c3
    obtain ⟨l1, l2, l3⟩ := lsN_p (f := so1 B o) 7 0 (by omega) ⟨c, by omega, c1, c2, c3⟩
    have n6 : n ≤ 6 := by omega
    have bd : ∀ u s, wy B x n u s < 2 ^ 31 := fun u s => Nat.lt_of_le_of_lt (wy_b n u s) (Nat.lt_of_le_of_lt (Nat.pow_le_pow_right (by decide) n6) (by decide))
    have w' : tW B x 0 h := fun u s h1 h2 h3 => (fx_i ge rfl).trans (w u s h1 h2 h3)
    have hB' : ∀ x, x < 7 → xg 0 h.2.1 31 x = nI (msk (B x) 7) := fun x hx => (fx_i ge rfl).trans (hB x hx)
    refine xq_n 15 [0, 1, 2, 3, 4] [(0, .ref 28), (1, .int (nI u)), (2, .int (soI o)), (3, .int (nI k)), (4, .int (Int32.ofInt 0))] [] h [false] 60 hq rfl ⟨nge_f (b := 7) (by omega) (by decide) (by omega), trivial⟩ (fun _ => ?_)
    refine ffr_in (n := n) hu (by omega) ho (by omega) hB' w' hq bd (fun f _ _ => ?_) 7 f 0 (by omega) rfl l1
    obtain ⟨o1, o2, o3⟩ := pc_o hu l1 l2
    have sl : so1 B o (lsN B x n u (so1 B o) 7 0) < 7 := by
      cases o with
      | none => exact l1
      | some s => exact sd_lt (ho s rfl) l1
    refine xq_n 6 [0, 1, 2, 3] [(0, .ref 28), (1, .int (nI (u ||| 2 ^ lsN B x n u (so1 B o) 7 0))), (2, .int (nI (so1 B o (lsN B x n u (so1 B o) 7 0)))), (3, .int (nI k + Int32.ofInt 1))] [] (xh_ui h 29 k (nI (lsN B x n u (so1 B o) 7 0))) [] 60 (a_rq_ui hq) rfl trivial (fun _ => ?_)
    rw [nI_1']
    refine xq_mono (ih f (u ||| 2 ^ lsN B x n u (so1 B o) 7 0) (k + 1) (some (so1 B o (lsN B x n u (so1 B o) 7 0))) _ (by omega) o1 (by omega) (fun s e => by cases e; exact sl) (fun n0 => ?_) (a_rq_ui hq) (fx_ui ge rfl)) (fun v h' q => ?_)
    · obtain ⟨m, rfl⟩ : ∃ m, n = m + 1 := ⟨n - 1, by omega⟩
      rw [← ps_7] at l3
      obtain ⟨c', d1, d2, d3⟩ := ps_p 7 l3
      exact ⟨c', d1, d2, d3⟩
    · obtain ⟨q1, q2, q3, q4⟩ := q
      refine ⟨q1, q2, fun j hj => (q3 j (by omega)).trans (gx_k (by omega)), fun j hj => ?_⟩
      cases j with
      | zero =>
        rw [Nat.add_zero, q3 k (by omega), gx_s]
        rfl
      | succ j =>
        rw [show k + (j + 1) = k + 1 + j by omega]
        exact q4 j (by omega)
theorem pc_2 : ∀ c, c < 7 → pc7 (2 ^ c) = 1 ∧ 0 < 2 ^ c ∧ 2 ^ c < 128 := by decide +kernel
def SXR (c _k : Nat) : Bool := Nat.beq c 29 || Nat.beq c 34
set_option maxRecDepth 100000 in
set_option maxHeartbeats 4000000 in
/-- X0.countRows -/
theorem crw_l {h0 : xh_H} (hB : ∀ x, x < 7 → xg 0 hb.2.1 31 x = nI (msk (B x) 7)) (w : tW B x 0 hb) (hq : a_rq a_tb hb) (ge : fx S34 fN h0 hb) (bp : psR B x 7 < 2 ^ 31) : ∀ (n f c : Nat), c + n = 7 → xq f xi_X0_countRows xmi_X0_countRows 9 [(0, .ref 28), (1, .int (nI x)), (2, .int (nI (psR B x c))), (3, .int (nI c))] [] hb (fun v h' => v = some (.int (nI (psR B x 7))) ∧ fx SXR fN h0 h' ∧ (psR B x 7 = 0 → ∀ j, xg 0 h'.2.1 29 j = xg 0 h0.2.1 29 j) ∧ (psR B x 7 ≠ 0 → ∀ j, j < 7 → xg 0 h'.2.1 29 j = nI (atL (ffl B x 7 0 none) j))) := by
  have ge' : fx SXR fN h0 hb := fx_w ge (fun c k z => by unfold SXR at z; rw [Bool.or_eq_false_iff] at z; exact z.2) (fun _ _ z => z)
  intro n
  induction n with
  | zero =>
    intro f c cn
    have e : c = 7 := by omega
    subst e
    by_cases z : psR B x 7 = 0
    · refine xq_n 41 [] [] [.int (nI (psR B x 7))] hb [true, true] 60 hq rfl ⟨rfl, xle_t (by rw [nI_toInt bp]; show _ ≤ (0 : Int); omega), trivial⟩ (fun _ => ?_)
      exact xq_ret rfl rfl rfl ⟨rfl, ge', fun _ j => fx_i ge rfl, fun y => absurd z y⟩
    · refine xq_n 37 [0, 2] [(0, .ref 28), (2, .int (nI (psR B x 7)))] [.ref 28] hb [true, false] 60 hq rfl ⟨rfl, xle_f (by rw [nI_toInt bp]; show (0 : Int) < _; omega), trivial⟩ (fun _ => ?_)
      obtain ⟨c', d1, d2⟩ := psR_p (B := B) (x := x) 7 (Nat.pos_of_ne_zero z)
      refine xq_run (Q1 := fun v h' => v = none ∧ fx S29 fN hb h' ∧ ∀ j, j < 7 → xg 0 h'.2.1 29 j = nI (atL (ffl B x 7 0 none) j)) hq rfl rfl ?_ ?_
      · refine xq_n 6 [0, 1, 2, 3] [(0, .ref 28), (1, .int (Int32.ofInt 0)), (2, .int (Int32.ofInt (-1))), (3, .int (Int32.ofInt 0))] [] hb [] 60 hq rfl trivial (fun _ => ?_)
        refine xq_mono (ffr_l hB w 7 f 0 0 none hb (by omega) (by decide) rfl (fun s e => by cases e) (fun _ => ⟨c', d1, Nat.zero_testBit c', by rw [Nat.zero_or]; exact d2⟩) hq fx_0) (fun v h' q => ⟨q.1, q.2.1, fun j hj => ?_⟩)
        have r := q.2.2.2 j hj
        rw [Nat.zero_add] at r
        exact r
      · rintro v h1 ⟨rfl, g, r⟩
        refine xq_n 41 [] [] [.int (nI (psR B x 7))] h1 [] 60 (fx_q g hq) rfl trivial (fun _ => ?_)
        exact xq_ret rfl rfl rfl ⟨rfl, fx_t ge' (fx_w g (fun c k z => by unfold SXR at z; rw [Bool.or_eq_false_iff] at z; exact z.1) (fun _ _ z => z)), fun y => absurd y z, fun _ => r⟩
  | succ n ih =>
    intro f c cn
    obtain ⟨p1, p2, p3⟩ := pc_2 c (by omega)
    refine xq_n 21 [0, 1, 2, 3] [(0, .ref 28), (1, .int (nI x)), (2, .int (nI (psR B x c))), (3, .int (nI c))] [.int (nI c), .int (Int32.ofInt 1 <<< (nI c &&& 31)), .ref 28, .int (nI (psR B x c))] hb [false] 60 hq rfl ⟨nge_f (b := 7) (by omega) (by decide) (by omega), trivial⟩ (fun _ => ?_)
    rw [sh1 c (by omega)]
    refine xq_run hq rfl rfl (wf_q p3 (show c < 7 by omega) hq) ?_
    rintro v h1 ⟨rfl, rfl⟩
    rw [w _ _ p2 p3 (by omega), p1]
    refine xq_n 9 [0, 1, 2, 3] [(0, .ref 28), (1, .int (nI x)), (2, .int (nI (psR B x c) + nI (wy B x 6 (2 ^ c) c))), (3, .int (nI c + Int32.ofInt 1))] [] hb [] 60 hq rfl trivial (fun _ => ?_)
    rw [nI_1', nI_add]
    exact ih f (c + 1) (by omega)
theorem crw_q {f : Nat} (x7 : x < 7) (hB : ∀ x, x < 7 → xg 0 hb.2.1 31 x = nI (msk (B x) 7)) (hq : a_rq a_tb hb) : xq f xi_X0_countRows xmi_X0_countRows 0 [(0, .ref 28), (1, .int (nI x))] [] hb (fun v h' => v = some (.int (nI (psR B x 7))) ∧ fx SXR fN hb h' ∧ (psR B x 7 = 0 → ∀ j, xg 0 h'.2.1 29 j = xg 0 hb.2.1 29 j) ∧ (psR B x 7 ≠ 0 → ∀ j, j < 7 → xg 0 h'.2.1 29 j = nI (atL (ffl B x 7 0 none) j))) := by
  refine xq_n 2 [0, 1] [(0, .ref 28), (1, .int (nI x))] [.int (nI x), .ref 28] hb [] 60 hq rfl trivial (fun _ => ?_)
  refine xq_run hq rfl rfl (cw_q x7 hB hq) ?_
  rintro v h1 ⟨rfl, g, w⟩
  have hq1 := fx_q g hq
  refine xq_n 9 [0, 1, 2, 3] [(0, .ref 28), (1, .int (nI x)), (2, .int (Int32.ofInt 0)), (3, .int (Int32.ofInt 0))] [] h1 [] 60 hq1 rfl trivial (fun _ => ?_)
  refine crw_l (h0 := hb) (fun x hx => (fx_i g rfl).trans (hB x hx)) w hq1 g ?_ 7 f 0 (by omega)
  rw [psR_7]
  exact Nat.lt_of_le_of_lt List.countP_le_length (Nat.lt_of_le_of_lt (dl_len 7 0) (by decide))
end
end XCX
end
section
section XRF
theorem ffl_f {B : Nat → Nat → Bool} {x : Nat} : ∀ (n u s : Nat), ffl B x n u (some s) = ff B x n u s := by
  intro n
  induction n with
  | zero => intro u s; rfl
  | succ n ih =>
    intro u s
    show lsN B x n u (sd B s) 7 0 :: ffl B x n _ _ = lsN B x n u (sd B s) 7 0 :: ff B x n _ _
    rw [ih]
    rfl
theorem fd_cg {α : Type} {p q : α → Bool} : ∀ (l : List α), (∀ a, a ∈ l → p a = q a) → l.find? p = l.find? q := by
  intro l
  induction l with
  | nil => intro _; rfl
  | cons a r ih =>
    intro h
    rw [List.find?_cons, List.find?_cons, h a List.mem_cons_self, ih (fun b hb => h b (List.mem_cons_of_mem _ hb))]
theorem rFs_n {B : Nat → Nat → Bool} {x : Nat} (h : psR B x 7 = 0) : rFs B x = none := by
  rw [psR_7] at h
  unfold rCn at h
  unfold rFs
  rw [List.countP_eq_zero] at h
  exact List.find?_eq_none.mpr h
theorem rFs_s {B : Nat → Nat → Bool} {x : Nat} (h : psR B x 7 ≠ 0) : rFs B x = some (ffl B x 7 0 none) := by
  have key : ∀ L : List Nat, 0 < (L.map (fun c => wy B x 6 (2 ^ c) c)).sum → (L.flatMap (fun c => cond (Nat.testBit 0 c) [] ((dl 6 (0 ||| 2 ^ c)).map (fun l => c :: l)))).find? (fun l => enF B l == x) = some (lst1 B x 6 0 0 (fun c => c) L :: ff B x 6 (0 ||| 2 ^ lst1 B x 6 0 0 (fun c => c) L) (lst1 B x 6 0 0 (fun c => c) L)) := by
    intro L
    induction L with
    | nil => intro h; exact absurd (show 0 < 0 from h) (Nat.lt_irrefl 0)
    | cons c r ihL =>
      intro h
      rw [List.map_cons, List.sum_cons] at h
      rw [List.flatMap_cons, List.find?_append]
      unfold lst1
      rw [Nat.zero_testBit]
      simp only [cond_false]
      rw [List.find?_map]
      have e : (dl 6 (0 ||| 2 ^ c)).find? ((fun l => enF B l == x) ∘ fun l => c :: l) = (dl 6 (0 ||| 2 ^ c)).find? (fun l => enL B c l == x) := fd_cg _ (fun l hl => by show (enF B (c :: l) == x) = _; rw [enF_c l (dl_ln 6 _ l hl)])
      rw [e]
      by_cases w : 0 < wy B x 6 (0 ||| 2 ^ c) c
      · rw [if_pos w, ff_dl 6 _ c w]
        rfl
      · rw [if_neg w]
        have nn : List.find? (fun l => enL B c l == x) (dl 6 (0 ||| 2 ^ c)) = none := by
          cases q : List.find? (fun l => enL B c l == x) (dl 6 (0 ||| 2 ^ c)) with
          | none => rfl
          | some v =>
            exfalso
            apply w
            rw [← wy_dl, cp_f, q]
            rfl
        rw [nn]
        rw [Nat.zero_or] at w
        have w0 : wy B x 6 (2 ^ c) c = 0 := by omega
        rw [w0, Nat.zero_add] at h
        exact ihL h
  unfold rFs
  rw [dl_s]
  have s0 : 0 < ([0, 1, 2, 3, 4, 5, 6].map (fun c => wy B x 6 (2 ^ c) c)).sum := by
    have h : 0 < psR B x 7 := Nat.pos_of_ne_zero h
    simp only [psR] at h
    simp only [List.map_cons, List.map_nil, List.sum_cons, List.sum_nil]
    omega
  rw [key _ s0]
  show _ = some (lsN B x 6 0 (fun c => c) 7 0 :: ffl B x 6 _ (some _))
  rw [ffl_f]
  rfl
end XRF
end
section
section XRX
set_option maxRecDepth 100000 in
set_option maxHeartbeats 4000000 in
/-- X9.rows -/
theorem ro9_q {f mem sc : Nat} {x : Int32} {PL : Nat → Int32} {d : Int32} {h : xh_H} (hi : a_inv a_tb h) (e9 : xg 0 h.2.1 0 9 = nI mem) (m12 : mem ≤ 12) (e8 : xg 0 h.2.1 0 8 = nI sc) (sc8 : sc ≤ 8) (e10 : xg 0 h.2.1 0 10 = d) (si : SI h) (hP : ∀ k, k < 84 → xg 0 h.2.1 30 k = PL k) (hq : a_rq a_tb h) : xq f xi_X9_rows xmi_X9_rows 0 [(0, .ref 0), (1, .int x)] [] h (fun v h' => ((!xe_c .lt x 0 && !xe_c .ge x 7) = false → v = some (.int (Int32.ofInt (-1))) ∧ ∀ j, xg 0 h'.2.1 29 j = xg 0 h.2.1 29 j) ∧ ((!xe_c .lt x 0 && !xe_c .ge x 7) = true → v = some (.int (nI (rCn (BT PL (cvB (fun k => xg 0 h.2.1 51 k) (fun k => xg 0 h.2.1 44 k) mem sc d) mem) x.toInt.toNat))) ∧ (rFs (BT PL (cvB (fun k => xg 0 h.2.1 51 k) (fun k => xg 0 h.2.1 44 k) mem sc d) mem) x.toInt.toNat = none → ∀ j, xg 0 h'.2.1 29 j = xg 0 h.2.1 29 j) ∧ ∀ l0, rFs (BT PL (cvB (fun k => xg 0 h.2.1 51 k) (fun k => xg 0 h.2.1 44 k) mem sc d) mem) x.toInt.toNat = some l0 → ∀ j, j < 7 → xg 0 h'.2.1 29 j = nI (atL l0 j))) := by
  obtain ⟨⟨u1, u2, u3⟩, si⟩ := si
  obtain ⟨SS, un⟩ := si mem sc e9 m12 e8 sc8
  refine xq_n 1 [0, 1] [(0, .ref 0), (1, .int x)] [.int x] h [] 60 hq rfl trivial (fun _ => ?_)
  refine xq_run hq rfl rfl (iop9_q hq) ?_
  rintro v h1 ⟨rfl, rfl⟩
  cases c1 : (!xe_c .lt x 0 && !xe_c .ge x 7) with
  | false =>
    refine xq_n 8 [] [] [.int (Int32.ofInt (-1))] h [false] 60 hq rfl ⟨rfl, trivial⟩ (fun _ => ?_)
    exact xq_ret rfl rfl rfl ⟨fun _ => ⟨rfl, fun _ => rfl⟩, fun z => (by cases z)⟩
  | true =>
    obtain ⟨X, rfl, X7, eX⟩ := iop_n c1
    rw [eX]
    refine xq_n 18 [0, 1] [(0, .ref 0), (1, .int (nI X))] [.int (xg 0 h.2.1 0 10), .ref 0, .ref 28] h [true] 60 hq rfl ⟨rfl, trivial⟩ (fun _ => ?_)
    rw [e10]
    refine xq_run hq rfl rfl (if9_q hi e8 sc8 u1 u2 SS hq) ?_
    rintro v h1 ⟨rfl, Q, rfl, fd⟩
    refine xq_n 25 [0, 1] [(0, .ref 0), (1, .int (nI X))] [.int (xg 0 h.2.1 0 9), .ref Q, .ref 28] h [] 60 hq rfl trivial (fun _ => ?_)
    rw [e9]
    obtain ⟨r, g1, g2, -⟩ := hv_cv hi m12 SS un u3 hq (s := 0) (Nat.two_pow_pos mem) fd
    refine xq_run hq rfl rfl (mat_q (PL := PL) (W := cvB (fun k => xg 0 h.2.1 51 k) (fun k => xg 0 h.2.1 44 k) mem sc d) m12 fd.1 g1 g2 (fun s hs => by
      obtain ⟨r', g1', -, g3⟩ := hv_cv hi m12 SS un u3 hq hs fd
      rw [g1] at g1'
      cases g1'
      exact g3) hP hq) ?_
    rintro v h1 ⟨rfl, g4, w31⟩
    have hq1 := fx_q g4 hq
    refine xq_n 33 [] [] [.int (nI X), .ref 28] h1 [] 60 hq1 rfl trivial (fun _ => ?_)
    refine xq_run hq1 rfl rfl (crw_q X7 w31 hq1) ?_
    rintro v h2 ⟨rfl, g5, q1, q2⟩
    refine xq_ret rfl rfl rfl ⟨fun z => (by cases z), fun _ => ⟨by rw [psR_7], fun z j => ?_, fun l0 z j hj => ?_⟩⟩
    · by_cases y : psR (BT PL (cvB (fun k => xg 0 h.2.1 51 k) (fun k => xg 0 h.2.1 44 k) mem sc d) mem) X 7 = 0
      · exact (q1 y j).trans (fx_i g4 rfl)
      · rw [rFs_s y] at z; cases z
    · by_cases y : psR (BT PL (cvB (fun k => xg 0 h.2.1 51 k) (fun k => xg 0 h.2.1 44 k) mem sc d) mem) X 7 = 0
      · rw [rFs_n y] at z; cases z
      · rw [rFs_s y] at z
        cases z
        exact q2 y j hj
end XRX
end
section
section XRA
/-- class and reference have told the same first row, or none -/
def rwR (h : xh_H) : Prop := (xg 0 h.2.1 39 59 = Int32.ofInt 0 ∧ ∀ j, j < 7 → xg 0 h.2.1 29 j = Int32.ofInt (-1)) ∨ (xg 0 h.2.1 39 59 = Int32.ofInt 1 ∧ ∀ j, j < 7 → xg 0 h.2.1 29 j = xg 0 h.2.1 67 j)
set_option maxRecDepth 100000 in
set_option maxHeartbeats 4000000 in
theorem ra9_q {f : Nat} {x : Int32} {h : xh_H} (hq : a_rq a_tb h) : xq f xi_X9_rowAt xmi_X9_rowAt 0 [(0, .ref 0), (1, .int x)] [] h (fun v h' => h = h' ∧ v = some (.int (cond (!xe_c .lt x 0 && !xe_c .ge x 7) (xg 0 h.2.1 29 x.toInt.toNat) (Int32.ofInt (-1))))) := by
  refine xq_n 1 [0, 1] [(0, .ref 0), (1, .int x)] [.int x] h [] 60 hq rfl trivial (fun _ => ?_)
  refine xq_run hq rfl rfl (iop9_q hq) ?_
  rintro v h1 ⟨rfl, rfl⟩
  cases c1 : (!xe_c .lt x 0 && !xe_c .ge x 7) with
  | false =>
    refine xq_n 20 [] [] [.int (Int32.ofInt (-1))] h [true] 60 hq rfl ⟨rfl, trivial⟩ (fun _ => ?_)
    exact xq_ret rfl rfl rfl ⟨rfl, rfl⟩
  | true =>
    refine xq_n 20 [] [] [.int (xg 0 h.2.1 29 x.toNatClampNeg)] h [false] 60 hq rfl ⟨rfl, trivial⟩ (fun _ => ?_)
    exact xq_ret rfl rfl rfl ⟨rfl, rfl⟩
set_option maxRecDepth 100000 in
set_option maxHeartbeats 4000000 in
theorem ra10_q {f : Nat} {x : Int32} {h : xh_H} (hq : a_rq a_tb h) : xq f xi_X10_rowAt xmi_X10_rowAt 0 [(0, .ref 39), (1, .int x)] [] h (fun v h' => xh_ui h 39 0 (Int32.ofInt 0) = h' ∧ v = some (.int (cond (xe_c .eq (xg 0 h.2.1 39 59) 0) (Int32.ofInt (-1)) (cond (!xe_c .lt x 0 && !xe_c .ge x 7) (xg 0 h.2.1 67 x.toInt.toNat) (Int32.ofInt (-1)))))) := by
  have ef : xg 0 (xh_ui h 39 0 (Int32.ofInt 0)).2.1 39 59 = xg 0 h.2.1 39 59 := gx_k (by decide)
  have er : ∀ k, xg 0 (xh_ui h 39 0 (Int32.ofInt 0)).2.1 67 k = xg 0 h.2.1 67 k := fun k => gx_o (by decide)
  refine xq_n 9 [0, 1] [(0, .ref 39), (1, .int x)] [.int (xg 0 (xh_ui h 39 0 (Int32.ofInt 0)).2.1 39 59)] (xh_ui h 39 0 (Int32.ofInt 0)) [] 60 hq rfl trivial (fun _ => ?_)
  have hq : a_rq a_tb (xh_ui h 39 0 (Int32.ofInt 0)) := a_rq_ui hq
  rw [ef]
  cases c0 : xe_c .eq (xg 0 h.2.1 39 59) 0 with
  | true =>
    refine xq_n 29 [] [] [.int (Int32.ofInt (-1))] (xh_ui h 39 0 (Int32.ofInt 0)) [true] 60 hq rfl ⟨c0, trivial⟩ (fun _ => ?_)
    exact xq_ret rfl rfl rfl ⟨rfl, rfl⟩
  | false =>
    refine xq_n 13 [0, 1] [(0, .ref 39), (1, .int x)] [.int x] (xh_ui h 39 0 (Int32.ofInt 0)) [false] 60 hq rfl ⟨c0, trivial⟩ (fun _ => ?_)
    refine xq_run hq rfl rfl (iop10_q hq) ?_
    rintro v h1 ⟨rfl, rfl⟩
    cases c1 : (!xe_c .lt x 0 && !xe_c .ge x 7) with
    | false =>
      refine xq_n 29 [] [] [.int (Int32.ofInt (-1))] (xh_ui h 39 0 (Int32.ofInt 0)) [true] 60 hq rfl ⟨rfl, trivial⟩ (fun _ => ?_)
      exact xq_ret rfl rfl rfl ⟨rfl, rfl⟩
    | true =>
      refine xq_n 29 [] [] [.int (xg 0 (xh_ui h 39 0 (Int32.ofInt 0)).2.1 67 x.toNatClampNeg)] (xh_ui h 39 0 (Int32.ofInt 0)) [false] 60 hq rfl ⟨rfl, trivial⟩ (fun _ => ?_)
      exact xq_ret rfl rfl rfl ⟨rfl, by rw [er]; rfl⟩
/-- so both tell the same of it -/
theorem rwR_a {x : Int32} {h : xh_H} (R : rwR h) : cond (xe_c .eq (xg 0 h.2.1 39 59) 0) (Int32.ofInt (-1)) (cond (!xe_c .lt x 0 && !xe_c .ge x 7) (xg 0 h.2.1 67 x.toInt.toNat) (Int32.ofInt (-1))) = cond (!xe_c .lt x 0 && !xe_c .ge x 7) (xg 0 h.2.1 29 x.toInt.toNat) (Int32.ofInt (-1)) := by
  cases c1 : (!xe_c .lt x 0 && !xe_c .ge x 7) with
  | false => cases xe_c .eq (xg 0 h.2.1 39 59) 0 <;> rfl
  | true =>
    obtain ⟨X, -, X7, eX⟩ := iop_n c1
    rw [eX]
    rcases R with ⟨r1, r2⟩ | ⟨r1, r2⟩
    · rw [r1, r2 X X7]; rfl
    · rw [r1, r2 X X7]; rfl
end XRA
end
