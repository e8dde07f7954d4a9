section XPP
theorem xq_sw {f mid : Nat} {mi : xm_M} {pc : Nat} {lv : List (Nat × Value)} {st : List Value} {h : xh_H} {Q : Option Value → xh_H → Prop} {dflt lo hi : Int} {offs : Array Int} {len ra rb rK ri : Nat} {x : Int32} (hr : xC mid pc = some (.tableswitch dflt lo hi offs, len, ra, rb, rK, ri)) (K0 : (x.toInt < lo ∨ hi < x.toInt) → xq f mid mi ((pc : Int) + dflt).toNat lv st h Q) (K1 : ∀ (i : Nat) (off : Int), offs[i]? = some off → x.toInt = lo + i → xq f mid mi ((pc : Int) + off).toNat lv st h Q) : xq f mid mi pc lv (.int x :: st) h Q := by
  intro d lw w h' c s hs hx
  obtain ⟨g, eg, ⟨o', e2, e3⟩ | ⟨e2, d', mj, As, q, -, -, -, -, -, e, -⟩⟩ := xq_s hr rfl hx
  · have e1 : xe_1 mi.2.2.2.1 (.tableswitch dflt lo hi offs, len, ra, rb, rK, ri) pc lw (.int x :: st) h 0 0 = some o' := by
      unfold xe_2 at e2
      cases z : xe_1 mi.2.2.2.1 (.tableswitch dflt lo hi offs, len, ra, rb, rK, ri) pc lw (.int x :: st) h 0 0 with
      | some o => rw [z] at e2; exact e2
      | none => rw [z] at e2; cases e2
    have e1 : (cond (decide (x.toInt < lo) || decide (hi < x.toInt))
      (cond (decide (0 ≤ (pc : Int) + dflt)) (some (((pc : Int) + dflt).toNat, lw, st, h, 0, 0)) none)
      (match offs[(x.toInt - lo).toNat]? with
        | some off => cond (decide (0 ≤ (pc : Int) + off)) (some (((pc : Int) + off).toNat, lw, st, h, 0, 0)) none
        | none => none)) = some o' := e1
    cases hb : (decide (x.toInt < lo) || decide (hi < x.toInt)) with
    | true =>
      rw [hb] at e1
      obtain ⟨-, e1⟩ := xw_c e1
      cases e1
      rw [Bool.or_eq_true] at hb
      exact K0 (hb.imp of_decide_eq_true of_decide_eq_true) d lw w h' c s hs (xe_x_le (by omega) e3)
    | false =>
      rw [hb] at e1
      rw [Bool.or_eq_false_iff] at hb
      have b1 := of_decide_eq_false hb.1
      cases ho : offs[(x.toInt - lo).toNat]? with
      | none => rw [ho] at e1; cases e1
      | some off =>
        rw [ho] at e1
        obtain ⟨-, e1⟩ := xw_c e1
        cases e1
        exact K1 _ off ho (by omega) d lw w h' c s hs (xe_x_le (by omega) e3)
  · unfold xe_cl at e
    split at e <;> cases e
theorem xq_no {f mid : Nat} {mi : xm_M} {pc : Nat} {lv : List (Nat × Value)} {st : List Value} {h : xh_H} {Q : Option Value → xh_H → Prop} (hr : xC mid pc = none) : xq f mid mi pc lv st h Q := by
  intro d lw w h' c s hs hx
  cases f with
  | zero => cases hx
  | succ f =>
    unfold xe_x at hx
    rw [hr] at hx
    cases hx
/-- a call that leaves Powers -/
theorem pu_i {f : Nat} {C : aC} {mi : xm_M} {A : List Value} {h : xh_H} {lo hi : Int} {o : Option (aN × Int)} {ft ff : aF} (P : PI h) (i : a_inv a_tb h) (l : 72 ≤ h.1.length) (hC : a_spec a_tb C) (hM : xM C.1 = some mi) (ha : a_st (fun _ => 0) h.1.length C.2.2.1 A) (hp : C.2.2.2.2.2 = []) (hret : C.2.2.2.1 = [(some (0, lo, hi, o, ft, ff), [])]) (pm : pwM C.2.2.2.2.1 = true) (fm : fzM C.1 = true) (qm : qzM C.1 = true) : xq f C.1 mi 0 (lv_args 0 A) [] h (fun v h' => (∃ x, v = some (.int x)) ∧ a_inv a_tb h' ∧ 72 ≤ h'.1.length ∧ PI h') := by
  obtain ⟨v, h', r1, p1, p2, ⟨t, ht, p3⟩, p4⟩ := hC C.2.1 mi A h (fun _ => 0) (Nat.le_refl _) hM i l ha (by rw [hp]; exact a_fp0)
  rw [hret] at ht
  cases List.mem_singleton.mp ht
  obtain ⟨⟨w, rfl, x, rfl, -⟩, -⟩ := p3
  exact xq_of (d := C.2.1) ⟨_, hM⟩ ⟨_, h', r1, ⟨x, rfl⟩, p1, by rw [p2]; exact l, PI_t i l (Fs_z (a_rq_of i.1 l) (fz_run fm r1)) (qz_run qm r1) p4 pm P⟩
theorem pu_l {f : Nat} {C : aC} {mi : xm_M} {A : List Value} {h : xh_H} {lo hi : Int} {o : Option (aN × Int)} {ft ff : aF} (P : PI h) (i : a_inv a_tb h) (l : 72 ≤ h.1.length) (hC : a_spec a_tb C) (hM : xM C.1 = some mi) (ha : a_st (fun _ => 0) h.1.length C.2.2.1 A) (hp : C.2.2.2.2.2 = []) (hret : C.2.2.2.1 = [(some (1, lo, hi, o, ft, ff), [])]) (pm : pwM C.2.2.2.2.1 = true) (fm : fzM C.1 = true) (qm : qzM C.1 = true) : xq f C.1 mi 0 (lv_args 0 A) [] h (fun v h' => (∃ x, v = some (.long x)) ∧ a_inv a_tb h' ∧ 72 ≤ h'.1.length ∧ PI h') := by
  obtain ⟨v, h', r1, p1, p2, ⟨t, ht, p3⟩, p4⟩ := hC C.2.1 mi A h (fun _ => 0) (Nat.le_refl _) hM i l ha (by rw [hp]; exact a_fp0)
  rw [hret] at ht
  cases List.mem_singleton.mp ht
  obtain ⟨⟨w, rfl, x, rfl, -⟩, -⟩ := p3
  exact xq_of (d := C.2.1) ⟨_, hM⟩ ⟨_, h', r1, ⟨x, rfl⟩, p1, by rw [p2]; exact l, PI_t i l (Fs_z (a_rq_of i.1 l) (fz_run fm r1)) (qz_run qm r1) p4 pm P⟩
section
variable {mem sc : Nat} {d : Int32} {h : xh_H}
theorem pti_q {f : Nat} (hi : a_inv a_tb h) (hn : 72 ≤ h.1.length) (e9 : xg 0 h.2.1 0 9 = nI mem) (m1 : 1 ≤ mem) (m12 : mem ≤ 12) (e8 : xg 0 h.2.1 0 8 = nI sc) (sc8 : sc ≤ 8) (e10 : xg 0 h.2.1 0 10 = d) (si : SI h) (pi : PI h) : xq f xi_X9_powersToday xmi_X9_powersToday 0 [(0, .ref 0)] [] h (fun v h' => v = some (.ref 14) ∧ a_inv a_tb h' ∧ 72 ≤ h'.1.length ∧ PI h' ∧ xg 0 h'.2.1 14 7 = nI mem) :=
  xq_mono (xq_and (xq_of (d := 5) ⟨_, rfl⟩ (pt_run (d := 0) hi hn)) (pt9_q hi hn e9 m1 m12 e8 sc8 e10 si pi)) (fun v h' e => ⟨e.2.1, e.1.1.1, hk_n e.1.1 hn, e.2.2.2.1, e.1.2.2.trans e9⟩)
set_option maxRecDepth 100000 in
set_option maxHeartbeats 4000000 in
theorem ma9_p {f : Nat} {x : Int32} (hi : a_inv a_tb h) (hn : 72 ≤ h.1.length) (e9 : xg 0 h.2.1 0 9 = nI mem) (m1 : 1 ≤ mem) (m12 : mem ≤ 12) (e8 : xg 0 h.2.1 0 8 = nI sc) (sc8 : sc ≤ 8) (e10 : xg 0 h.2.1 0 10 = d) (si : SI h) (pi : PI h) : xq f xi_X9_many xmi_X9_many 0 [(0, .ref 0), (1, .int x)] [] h (fun v h' => PI h') := by
  have hq := a_rq_of hi.1 hn
  refine xq_n 1 [1] [(1, .int x)] [.ref 0] h [] 60 hq rfl trivial (fun _ => ?_)
  refine xq_run hq rfl rfl (pti_q hi hn e9 m1 m12 e8 sc8 e10 si pi) ?_
  rintro v h1 ⟨rfl, i1, l1, P1, -⟩
  have hq1 := a_rq_of i1.1 l1
  refine xq_n 6 [2] [(2, .ref 14)] [.int x] h1 [] 60 hq1 rfl trivial (fun _ => ?_)
  have bo : ∀ c, xg 0 h1.2.1 14 c = xg 0 h1.2.1 14 c := fun _ => rfl
  refine xq_sw rfl (fun _ => ?_) (fun i off ho _ => ?_)
  · show xq f _ _ 122 _ _ _ _
    refine xq_n 123 [] [] [.int (Int32.ofInt (-1))] h1 [] 60 hq1 rfl trivial (fun _ => ?_)
    exact xq_ret rfl rfl rfl P1
  · match i, ho with
    | 0, rfl =>
      show xq f _ _ 52 _ _ _ _
      refine xq_n 53 [] [] [.ref 14] h1 [] 60 hq1 rfl trivial (fun _ => ?_)
      refine xq_run hq1 rfl rfl (pu_i (C := aC_m_X2_countCarrying) (mi := xmi_X2_countCarrying) P1 i1 l1 as_m_X2_countCarrying rfl ⟨a_av (by decide) l1, trivial⟩ rfl rfl rfl (by decide +kernel) (by decide +kernel)) ?_
      rintro v h2 ⟨⟨y, rfl⟩, i2, l2, P2⟩
      exact xq_ret rfl rfl rfl P2
    | 1, rfl =>
      show xq f _ _ 57 _ _ _ _
      refine xq_n 61 [] [] [.int (xg 0 h1.2.1 14 9)] h1 [] 60 hq1 rfl trivial (fun _ => ?_)
      exact xq_ret rfl rfl rfl P1
    | 2, rfl =>
      show xq f _ _ 62 _ _ _ _
      refine xq_n 66 [] [] [.int (xg 0 h1.2.1 14 10)] h1 [] 60 hq1 rfl trivial (fun _ => ?_)
      exact xq_ret rfl rfl rfl P1
    | 3, rfl =>
      show xq f _ _ 67 _ _ _ _
      refine xq_n 71 [] [] [.int (xg 0 h1.2.1 14 11)] h1 [] 60 hq1 rfl trivial (fun _ => ?_)
      refine xq_run hq1 rfl rfl (bcn_q hq1) ?_
      rintro v h2 ⟨rfl, y, rfl⟩
      exact xq_ret rfl rfl rfl P1
    | 4, rfl =>
      show xq f _ _ 75 _ _ _ _
      refine xq_n 79 [] [] [.int (xg 0 h1.2.1 14 12)] h1 [] 60 hq1 rfl trivial (fun _ => ?_)
      refine xq_run hq1 rfl rfl (bcn_q hq1) ?_
      rintro v h2 ⟨rfl, y, rfl⟩
      exact xq_ret rfl rfl rfl P1
    | 5, rfl =>
      show xq f _ _ 83 _ _ _ _
      refine xq_n 84 [] [] [.ref 14] h1 [] 60 hq1 rfl trivial (fun _ => ?_)
      refine xq_run hq1 rfl rfl (pu_i (C := aC_m_X2_isProper) (mi := xmi_X2_isProper) P1 i1 l1 as_m_X2_isProper rfl ⟨a_av (by decide) l1, trivial⟩ rfl rfl rfl (by decide +kernel) (by decide +kernel)) ?_
      rintro v h2 ⟨⟨y, rfl⟩, i2, l2, P2⟩
      have hq2 := a_rq_of i2.1 l2
      cases c : xe_c .eq y 0 with
      | true =>
        refine xq_n 95 [] [] [.int (Int32.ofInt 0)] h2 [true] 60 hq2 rfl ⟨c, trivial⟩ (fun _ => ?_)
        exact xq_ret rfl rfl rfl P2
      | false =>
        refine xq_n 95 [] [] [.int (Int32.ofInt 1)] h2 [false] 60 hq2 rfl ⟨c, trivial⟩ (fun _ => ?_)
        exact xq_ret rfl rfl rfl P2
    | 6, rfl =>
      show xq f _ _ 96 _ _ _ _
      refine xq_n 97 [] [] [.ref 14] h1 [] 60 hq1 rfl trivial (fun _ => ?_)
      refine xq_run hq1 rfl rfl (pu_i (C := aC_m_X2_isStrong) (mi := xmi_X2_isStrong) P1 i1 l1 as_m_X2_isStrong rfl ⟨a_av (by decide) l1, trivial⟩ rfl rfl rfl (by decide +kernel) (by decide +kernel)) ?_
      rintro v h2 ⟨⟨y, rfl⟩, i2, l2, P2⟩
      have hq2 := a_rq_of i2.1 l2
      cases c : xe_c .eq y 0 with
      | true =>
        refine xq_n 108 [] [] [.int (Int32.ofInt 0)] h2 [true] 60 hq2 rfl ⟨c, trivial⟩ (fun _ => ?_)
        exact xq_ret rfl rfl rfl P2
      | false =>
        refine xq_n 108 [] [] [.int (Int32.ofInt 1)] h2 [false] 60 hq2 rfl ⟨c, trivial⟩ (fun _ => ?_)
        exact xq_ret rfl rfl rfl P2
    | 7, rfl =>
      show xq f _ _ 109 _ _ _ _
      refine xq_n 110 [] [] [.ref 14] h1 [] 60 hq1 rfl trivial (fun _ => ?_)
      refine xq_run hq1 rfl rfl (pu_i (C := aC_m_X2_isLined) (mi := xmi_X2_isLined) P1 i1 l1 as_m_X2_isLined rfl ⟨a_av (by decide) l1, trivial⟩ rfl rfl rfl (by decide +kernel) (by decide +kernel)) ?_
      rintro v h2 ⟨⟨y, rfl⟩, i2, l2, P2⟩
      have hq2 := a_rq_of i2.1 l2
      cases c : xe_c .eq y 0 with
      | true =>
        refine xq_n 121 [] [] [.int (Int32.ofInt 0)] h2 [true] 60 hq2 rfl ⟨c, trivial⟩ (fun _ => ?_)
        exact xq_ret rfl rfl rfl P2
      | false =>
        refine xq_n 121 [] [] [.int (Int32.ofInt 1)] h2 [false] 60 hq2 rfl ⟨c, trivial⟩ (fun _ => ?_)
        exact xq_ret rfl rfl rfl P2
    | n + 8, ho => cases ho
set_option maxRecDepth 100000 in
set_option maxHeartbeats 4000000 in
theorem sa9_p {f : Nat} {x y : Int32} (hi : a_inv a_tb h) (hn : 72 ≤ h.1.length) (e9 : xg 0 h.2.1 0 9 = nI mem) (m1 : 1 ≤ mem) (m12 : mem ≤ 12) (e8 : xg 0 h.2.1 0 8 = nI sc) (sc8 : sc ≤ 8) (e10 : xg 0 h.2.1 0 10 = d) (si : SI h) (pi : PI h) : xq f xi_X9_setAt xmi_X9_setAt 0 [(0, .ref 0), (1, .int x), (2, .int y)] [] h (fun v h' => PI h') := by
  have hq := a_rq_of hi.1 hn
  refine xq_n 1 [1, 2] [(1, .int x), (2, .int y)] [.ref 0] h [] 60 hq rfl trivial (fun _ => ?_)
  refine xq_run hq rfl rfl (pti_q hi hn e9 m1 m12 e8 sc8 e10 si pi) ?_
  rintro v h1 ⟨rfl, i1, l1, P1, -⟩
  have hq1 := a_rq_of i1.1 l1
  refine xq_n 6 [2, 3] [(2, .int y), (3, .ref 14)] [.int x] h1 [] 60 hq1 rfl trivial (fun _ => ?_)
  refine xq_sw rfl (fun _ => ?_) (fun i off ho _ => ?_)
  · show xq f _ _ 108 _ _ _ _
    refine xq_n 109 [] [] [.int (Int32.ofInt (-1))] h1 [] 60 hq1 rfl trivial (fun _ => ?_)
    exact xq_ret rfl rfl rfl P1
  · match i, ho with
    | 0, rfl =>
      show xq f _ _ 36 _ _ _ _
      cases c1 : xe_c .lt y 0 with
      | true =>
        refine xq_n 58 [] [] [.int (Int32.ofInt (-1))] h1 [true] 60 hq1 rfl ⟨c1, trivial⟩ (fun _ => ?_)
        exact xq_ret rfl rfl rfl P1
      | false =>
        cases c2 : xe_c .ge y (xg 0 h1.2.1 14 9) with
        | true =>
          refine xq_n 58 [] [] [.int (Int32.ofInt (-1))] h1 [false, true] 60 hq1 rfl ⟨c1, c2, trivial⟩ (fun _ => ?_)
          exact xq_ret rfl rfl rfl P1
        | false =>
          refine xq_n 58 [] [] [.int (xg 0 h1.2.1 15 y.toNatClampNeg)] h1 [false, false] 60 hq1 rfl ⟨c1, c2, trivial⟩ (fun _ => ?_)
          exact xq_ret rfl rfl rfl P1
    | 1, rfl =>
      show xq f _ _ 59 _ _ _ _
      cases c1 : xe_c .lt y 0 with
      | true =>
        refine xq_n 81 [] [] [.int (Int32.ofInt (-1))] h1 [true] 60 hq1 rfl ⟨c1, trivial⟩ (fun _ => ?_)
        exact xq_ret rfl rfl rfl P1
      | false =>
        cases c2 : xe_c .ge y (xg 0 h1.2.1 14 10) with
        | true =>
          refine xq_n 81 [] [] [.int (Int32.ofInt (-1))] h1 [false, true] 60 hq1 rfl ⟨c1, c2, trivial⟩ (fun _ => ?_)
          exact xq_ret rfl rfl rfl P1
        | false =>
          refine xq_n 81 [] [] [.int (xg 0 h1.2.1 16 y.toNatClampNeg)] h1 [false, false] 60 hq1 rfl ⟨c1, c2, trivial⟩ (fun _ => ?_)
          exact xq_ret rfl rfl rfl P1
    | 2, rfl =>
      show xq f _ _ 82 _ _ _ _
      cases c1 : xe_c .ne y 0 with
      | true =>
        refine xq_n 94 [] [] [.int (Int32.ofInt (-1))] h1 [true] 60 hq1 rfl ⟨c1, trivial⟩ (fun _ => ?_)
        exact xq_ret rfl rfl rfl P1
      | false =>
        refine xq_n 94 [] [] [.int (xg 0 h1.2.1 14 11)] h1 [false] 60 hq1 rfl ⟨c1, trivial⟩ (fun _ => ?_)
        exact xq_ret rfl rfl rfl P1
    | 3, rfl =>
      show xq f _ _ 95 _ _ _ _
      cases c1 : xe_c .ne y 0 with
      | true =>
        refine xq_n 107 [] [] [.int (Int32.ofInt (-1))] h1 [true] 60 hq1 rfl ⟨c1, trivial⟩ (fun _ => ?_)
        exact xq_ret rfl rfl rfl P1
      | false =>
        refine xq_n 107 [] [] [.int (xg 0 h1.2.1 14 12)] h1 [false] 60 hq1 rfl ⟨c1, trivial⟩ (fun _ => ?_)
        exact xq_ret rfl rfl rfl P1
    | n + 4, ho => cases ho
set_option maxRecDepth 100000 in
set_option maxHeartbeats 4000000 in
theorem ch9_p {f : Nat} {x : Int32} (hi : a_inv a_tb h) (hn : 72 ≤ h.1.length) (e9 : xg 0 h.2.1 0 9 = nI mem) (m1 : 1 ≤ mem) (m12 : mem ≤ 12) (e8 : xg 0 h.2.1 0 8 = nI sc) (sc8 : sc ≤ 8) (e10 : xg 0 h.2.1 0 10 = d) (si : SI h) (pi : PI h) : xq f xi_X9_chance xmi_X9_chance 0 [(0, .ref 0), (1, .int x)] [] h (fun v h' => PI h') := by
  have hq := a_rq_of hi.1 hn
  cases c1 : xe_c .lt x 0 with
  | true =>
    refine xq_n 24 [] [] [.long 18446744073709551615] h [true] 5 hq rfl ⟨c1, trivial⟩ (fun _ => ?_)
    exact xq_ret rfl rfl rfl pi
  | false =>
    cases c2 : xe_c .le x 10 with
    | false =>
      refine xq_n 24 [] [] [.long 18446744073709551615] h [false, false] 8 hq rfl ⟨c1, c2, trivial⟩ (fun _ => ?_)
      exact xq_ret rfl rfl rfl pi
    | true =>
      refine xq_n 17 [1] [(1, .int x)] [.ref 0] h [false, true] 7 hq rfl ⟨c1, c2, trivial⟩ (fun _ => ?_)
      refine xq_run hq rfl rfl (pti_q hi hn e9 m1 m12 e8 sc8 e10 si pi) ?_
      rintro v h1 ⟨rfl, i1, l1, P1, -⟩
      have hq1 := a_rq_of i1.1 l1
      obtain ⟨q, e, rq⟩ : a_e h1 14 6 (2, 11, 0) := ((i1.1 14 (0, 2) (hq1.2.1 14 (0, 2) rfl)).2 6 (by decide))
      obtain ⟨g1, r, g2, g3⟩ := law_sh i1.1 rq
      refine xq_n 21 [] [] [.int x, .ref 14] h1 [] 3 hq1 rfl trivial (fun _ => ?_)
      refine xq_run hq1 rfl rfl (cho_q e g1 g2 g3 hq1) ?_
      rintro v h2 ⟨g4, y, rfl⟩
      refine xq_ret rfl rfl rfl (PI_s i1 l1 (fun c k z _ => g4.2.2.2 c k (nbeq_f (fun w => ?_))) (fun c k _ => by rw [g4.2.1]) (by rw [g4.2.1]) (fun c k _ => fx_i g4 rfl) P1)
      rw [w, hq1.2.1 20 _ rfl] at z
      cases z
set_option maxRecDepth 100000 in
set_option maxHeartbeats 4000000 in
theorem we9_p {f : Nat} (hi : a_inv a_tb h) (hn : 72 ≤ h.1.length) (e9 : xg 0 h.2.1 0 9 = nI mem) (m1 : 1 ≤ mem) (m12 : mem ≤ 12) (e8 : xg 0 h.2.1 0 8 = nI sc) (sc8 : sc ≤ 8) (e10 : xg 0 h.2.1 0 10 = d) (si : SI h) (pi : PI h) : xq f xi_X9_weigh xmi_X9_weigh 0 [(0, .ref 0)] [] h (fun v h' => PI h') := by
  have hq := a_rq_of hi.1 hn
  refine xq_n 1 [0] [(0, .ref 0)] [.ref 0] h [] 60 hq rfl trivial (fun _ => ?_)
  refine xq_run hq rfl rfl (pti_q hi hn e9 m1 m12 e8 sc8 e10 si pi) ?_
  rintro v h1 ⟨rfl, i1, l1, P1, -⟩
  have hq1 := a_rq_of i1.1 l1
  refine xq_n 9 [] [] [.ref 21] h1 [] 60 hq1 rfl trivial (fun _ => ?_)
  refine xq_run hq1 rfl rfl (pu_i (C := aC_m_X5_look) (mi := xmi_X5_look) P1 i1 l1 as_m_X5_look rfl ⟨a_av (by decide) l1, trivial⟩ rfl rfl rfl (by decide +kernel) (by decide +kernel)) ?_
  rintro v h2 ⟨⟨y, rfl⟩, i2, l2, P2⟩
  exact xq_ret rfl rfl rfl P2
set_option maxRecDepth 100000 in
set_option maxHeartbeats 4000000 in
/-- X2.upperShare leaves all -/
theorem us_p {f k m : Nat} {w : Int32} (P : PI h) (i : a_inv a_tb h) (l : 72 ≤ h.1.length) (m12 : m ≤ 12) (hk' : k < m) (e7 : xg 0 h.2.1 14 7 = nI m) : xq f xi_X2_upperShare xmi_X2_upperShare 0 [(0, .ref 14), (1, .int (nI k)), (2, .int w)] [] h (fun v h' => (∃ x, v = some (.long x)) ∧ a_inv a_tb h' ∧ 72 ≤ h'.1.length ∧ PI h') :=
  xq_mono (xq_and (xq_of (d := 3) ⟨_, rfl⟩ (us_run (d := 0) (k := k) (m := m) (w := w) i l m12 hk' e7)) (xq_and (xq_fz (by decide +kernel)) (xq_qz (by decide +kernel)))) (fun v h' e => ⟨e.1.2, e.1.1.1, hk_n e.1.1 l, PI_t i l (Fs_z (a_rq_of i.1 l) e.2.1) e.2.2 e.1.1.2.2 rfl P⟩)
set_option maxRecDepth 100000 in
set_option maxHeartbeats 4000000 in
theorem sh9_p {f k : Nat} {x w z : Int32} (hi : a_inv a_tb h) (hn : 72 ≤ h.1.length) (e9 : xg 0 h.2.1 0 9 = nI mem) (m1 : 1 ≤ mem) (m12 : mem ≤ 12) (e8 : xg 0 h.2.1 0 8 = nI sc) (sc8 : sc ≤ 8) (e10 : xg 0 h.2.1 0 10 = d) (si : SI h) (pi : PI h) : xq f xi_X9_share xmi_X9_share 0 [(0, .ref 0), (1, .int x), (2, .int w), (3, .int z)] [] h (fun v h' => PI h') := by
  have hq := a_rq_of hi.1 hn
  refine xq_n 2 [0, 1, 2, 3] [(0, .ref 0), (1, .int x), (2, .int w), (3, .int z)] [.int x, .ref 0] h [] 60 hq rfl trivial (fun _ => ?_)
  refine xq_run hq rfl rfl (mem9_q (z := nI mem) e9 hq) ?_
  rintro v h1 ⟨rfl, rfl⟩
  have th : ∀ f, xq f xi_X9_share xmi_X9_share 26 [] [] h (fun v h' => PI h') := fun f => xq_no rfl
  cases c1 : (!xe_c .lt x 0 && !xe_c .ge x (nI mem)) with
  | false =>
    refine xq_n 26 [] [] [] h [true] 60 hq rfl ⟨rfl, trivial⟩ (fun _ => ?_)
    exact th f
  | true =>
    obtain ⟨a, rfl, al, ea⟩ := mb_n m12 c1
    cases c2 : xe_c .lt w 0 with
    | true =>
      refine xq_n 26 [] [] [] h [false, true] 60 hq rfl ⟨rfl, c2, trivial⟩ (fun _ => ?_)
      exact th f
    | false =>
      cases c3 : xe_c .gt w (Int32.ofInt 2) with
      | true =>
        refine xq_n 26 [] [] [] h [false, false, true] 60 hq rfl ⟨rfl, c2, c3, trivial⟩ (fun _ => ?_)
        exact th f
      | false =>
        cases c4 : xe_c .lt z 0 with
        | true =>
          refine xq_n 26 [] [] [] h [false, false, false, true] 60 hq rfl ⟨rfl, c2, c3, c4, trivial⟩ (fun _ => ?_)
          exact th f
        | false =>
          cases c5 : xe_c .le z (Int32.ofInt 1) with
          | false =>
            refine xq_n 26 [] [] [] h [false, false, false, false, false] 60 hq rfl ⟨rfl, c2, c3, c4, c5, trivial⟩ (fun _ => ?_)
            exact th f
          | true =>
            have w1 : (0 : Int) ≤ w.toInt := a_ce (a_neg_ok c2)
            have w2 : w.toInt ≤ (2 : Int) := a_ce (a_neg_ok c3)
            refine xq_n 35 [1, 2, 3] [(1, .int (nI a)), (2, .int w), (3, .int z)] [.ref 0] h [false, false, false, false, true] 60 hq rfl ⟨rfl, c2, c3, c4, c5, trivial⟩ (fun _ => ?_)
            refine xq_run hq rfl rfl (pti_q hi hn e9 m1 m12 e8 sc8 e10 si pi) ?_
            rintro v h1 ⟨rfl, i1, l1, P1, e7⟩
            have hq1 := a_rq_of i1.1 l1
            refine xq_n 44 [2, 3, 4] [(2, .int w), (3, .int z), (4, .ref 14)] [.int w, .int (nI a), .ref 14] h1 [] 60 hq1 rfl trivial (fun _ => ?_)
            refine xq_run hq1 rfl rfl (us_p P1 i1 l1 m12 al e7) ?_
            rintro v h2 ⟨⟨u, rfl⟩, i2, l2, P2⟩
            have hq2 := a_rq_of i2.1 l2
            refine xq_n 52 [3, 5] [(3, .int z), (5, .long u)] [.int w, .ref 14] h2 [] 60 hq2 rfl trivial (fun _ => ?_)
            refine xq_run hq2 rfl rfl (pu_l (C := aC_m_X2_lowerShare) (mi := xmi_X2_lowerShare) P2 i2 l2 as_m_X2_lowerShare rfl ⟨a_av (by decide) l2, a_ai w1 w2, trivial⟩ rfl rfl rfl (by decide +kernel) (by decide +kernel)) ?_
            rintro v h3 ⟨⟨g, rfl⟩, i3, l3, P3⟩
            have hq3 := a_rq_of i3.1 l3
            refine xq_n 61 [3, 5, 7] [(3, .int z), (5, .long u), (7, .long g)] [.long g, .long u] h3 [] 60 hq3 rfl trivial (fun _ => ?_)
            refine xq_run hq3 rfl rfl (pu_l (C := aC_gcd) (mi := xmi_X9_commonDivisor) P3 i3 l3 as_gcd rfl ⟨a_al, a_al, trivial⟩ rfl rfl rfl (by decide +kernel) (by decide +kernel)) ?_
            rintro v h4 ⟨⟨gg, rfl⟩, i4, l4, P4⟩
            have hq4 := a_rq_of i4.1 l4
            refine xq_n 70 [3, 5, 7, 9] [(3, .int z), (5, .long u), (7, .long g), (9, .long gg)] [.int (lg_cmp u 0)] h4 [] 60 hq4 rfl trivial (fun _ => ?_)
            have sm : ∀ f, xq f xi_X9_share xmi_X9_share 80 [(3, .int z)] [] h4 (fun v h' => PI h') := fun f => by
              cases c6 : xe_c .ne z 0 with
              | true =>
                refine xq_n 89 [] [] [.long 1] h4 [true] 60 hq4 rfl ⟨c6, trivial⟩ (fun _ => ?_)
                exact xq_ret rfl rfl rfl P4
              | false =>
                refine xq_n 89 [] [] [.long 0] h4 [false] 60 hq4 rfl ⟨c6, trivial⟩ (fun _ => ?_)
                exact xq_ret rfl rfl rfl P4
            cases c6 : xe_c .eq (lg_cmp u 0) 0 with
            | true =>
              refine xq_n 80 [3] [(3, .int z)] [] h4 [true] 60 hq4 rfl ⟨c6, trivial⟩ (fun _ => ?_)
              exact sm f
            | false =>
              cases c7 : xe_c .gt (lg_cmp gg 0) 0 with
              | false =>
                refine xq_n 80 [3] [(3, .int z)] [] h4 [false, false] 60 hq4 rfl ⟨c6, c7, trivial⟩ (fun _ => ?_)
                exact sm f
              | true =>
                cases c8 : xe_c .ne z 0 with
                | true =>
                  refine xq_n 107 [] [] [.long (g / gg)] h4 [false, true, true] 60 hq4 rfl ⟨c6, c7, c8, trivial⟩ (fun _ => ?_)
                  exact xq_ret rfl rfl rfl P4
                | false =>
                  refine xq_n 107 [] [] [.long (u / gg)] h4 [false, true, false] 60 hq4 rfl ⟨c6, c7, c8, trivial⟩ (fun _ => ?_)
                  exact xq_ret rfl rfl rfl P4
end
end XPP
