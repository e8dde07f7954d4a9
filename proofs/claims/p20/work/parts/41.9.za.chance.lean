section XCH
set_option maxRecDepth 100000 in
set_option maxHeartbeats 4000000 in
theorem bcn_q {f : Nat} {x : Int32} {h : xh_H} (hq : a_rq a_tb h) : xq f xi_J6_bitCount_0f7a4 xmi_J6_bitCount_0f7a4 0 [(0, .int x)] [] h (fun v h' => h = h' ∧ ∃ y, v = some (.int y)) := by
  refine xq_n 52 [] [] [.int ((((((((x - (((x.toUInt32 >>> ((Int32.ofInt 1).toUInt32 &&& Int32.toUInt32 31)).toInt32) &&& 1431655765)) &&& 858993459) + ((((x - (((x.toUInt32 >>> ((Int32.ofInt 1).toUInt32 &&& Int32.toUInt32 31)).toInt32) &&& 1431655765)).toUInt32 >>> ((Int32.ofInt 2).toUInt32 &&& Int32.toUInt32 31)).toInt32) &&& 858993459)) + (((((x - (((x.toUInt32 >>> ((Int32.ofInt 1).toUInt32 &&& Int32.toUInt32 31)).toInt32) &&& 1431655765)) &&& 858993459) + ((((x - (((x.toUInt32 >>> ((Int32.ofInt 1).toUInt32 &&& Int32.toUInt32 31)).toInt32) &&& 1431655765)).toUInt32 >>> ((Int32.ofInt 2).toUInt32 &&& Int32.toUInt32 31)).toInt32) &&& 858993459)).toUInt32 >>> ((Int32.ofInt 4).toUInt32 &&& Int32.toUInt32 31)).toInt32)) &&& 252645135) + (((((((x - (((x.toUInt32 >>> ((Int32.ofInt 1).toUInt32 &&& Int32.toUInt32 31)).toInt32) &&& 1431655765)) &&& 858993459) + ((((x - (((x.toUInt32 >>> ((Int32.ofInt 1).toUInt32 &&& Int32.toUInt32 31)).toInt32) &&& 1431655765)).toUInt32 >>> ((Int32.ofInt 2).toUInt32 &&& Int32.toUInt32 31)).toInt32) &&& 858993459)) + (((((x - (((x.toUInt32 >>> ((Int32.ofInt 1).toUInt32 &&& Int32.toUInt32 31)).toInt32) &&& 1431655765)) &&& 858993459) + ((((x - (((x.toUInt32 >>> ((Int32.ofInt 1).toUInt32 &&& Int32.toUInt32 31)).toInt32) &&& 1431655765)).toUInt32 >>> ((Int32.ofInt 2).toUInt32 &&& Int32.toUInt32 31)).toInt32) &&& 858993459)).toUInt32 >>> ((Int32.ofInt 4).toUInt32 &&& Int32.toUInt32 31)).toInt32)) &&& 252645135).toUInt32 >>> ((8 : Int32).toUInt32 &&& Int32.toUInt32 31)).toInt32)) + ((((((((x - (((x.toUInt32 >>> ((Int32.ofInt 1).toUInt32 &&& Int32.toUInt32 31)).toInt32) &&& 1431655765)) &&& 858993459) + ((((x - (((x.toUInt32 >>> ((Int32.ofInt 1).toUInt32 &&& Int32.toUInt32 31)).toInt32) &&& 1431655765)).toUInt32 >>> ((Int32.ofInt 2).toUInt32 &&& Int32.toUInt32 31)).toInt32) &&& 858993459)) + (((((x - (((x.toUInt32 >>> ((Int32.ofInt 1).toUInt32 &&& Int32.toUInt32 31)).toInt32) &&& 1431655765)) &&& 858993459) + ((((x - (((x.toUInt32 >>> ((Int32.ofInt 1).toUInt32 &&& Int32.toUInt32 31)).toInt32) &&& 1431655765)).toUInt32 >>> ((Int32.ofInt 2).toUInt32 &&& Int32.toUInt32 31)).toInt32) &&& 858993459)).toUInt32 >>> ((Int32.ofInt 4).toUInt32 &&& Int32.toUInt32 31)).toInt32)) &&& 252645135) + (((((((x - (((x.toUInt32 >>> ((Int32.ofInt 1).toUInt32 &&& Int32.toUInt32 31)).toInt32) &&& 1431655765)) &&& 858993459) + ((((x - (((x.toUInt32 >>> ((Int32.ofInt 1).toUInt32 &&& Int32.toUInt32 31)).toInt32) &&& 1431655765)).toUInt32 >>> ((Int32.ofInt 2).toUInt32 &&& Int32.toUInt32 31)).toInt32) &&& 858993459)) + (((((x - (((x.toUInt32 >>> ((Int32.ofInt 1).toUInt32 &&& Int32.toUInt32 31)).toInt32) &&& 1431655765)) &&& 858993459) + ((((x - (((x.toUInt32 >>> ((Int32.ofInt 1).toUInt32 &&& Int32.toUInt32 31)).toInt32) &&& 1431655765)).toUInt32 >>> ((Int32.ofInt 2).toUInt32 &&& Int32.toUInt32 31)).toInt32) &&& 858993459)).toUInt32 >>> ((Int32.ofInt 4).toUInt32 &&& Int32.toUInt32 31)).toInt32)) &&& 252645135).toUInt32 >>> ((8 : Int32).toUInt32 &&& Int32.toUInt32 31)).toInt32)).toUInt32 >>> ((16 : Int32).toUInt32 &&& Int32.toUInt32 31)).toInt32)) &&& 63)] h [] 43 hq rfl trivial (fun hq => ?_)
  exact xq_ret rfl rfl rfl ⟨rfl, _, rfl⟩
set_option maxRecDepth 100000 in
set_option maxHeartbeats 4000000 in
theorem pwr_lp {x0 x1 : Int32} {h : xh_H} : ∀ (f : Nat) (x2 : Int64) (x4 : Int32), a_rq a_tb h → xq f xi_X2_power xmi_X2_power 5 [(0, .int x0), (1, .int x1), (2, .long x2), (4, .int x4)] [] h (fun v h' => h = h' ∧ ∃ y, v = some (.long y)) := by
  intro f
  induction f with
  | zero => intros; exact xq_0
  | succ f ih =>
    intro x2 x4 hq
    cases c1 : xe_c .ge x4 x1 with
    | true =>
      refine xq_m 23 [] [] [.long x2] h [true] 6 hq rfl ⟨c1, trivial⟩ (fun hq => ?_)
      exact xq_ret rfl rfl rfl ⟨rfl, _, rfl⟩
    | false =>
      refine xq_m 5 [0, 1, 2, 4] [(0, .int x0), (1, .int x1), (2, .long (x2 * x0.toInt64)), (4, .int (x4 + Int32.ofInt 1))] [] h [false] 12 hq rfl ⟨c1, trivial⟩ (fun hq => ?_)
      exact ih _ _ hq
set_option maxRecDepth 100000 in
set_option maxHeartbeats 4000000 in
theorem pwr_q {f : Nat} {x0 x1 : Int32} {h : xh_H} (hq : a_rq a_tb h) : xq f xi_X2_power xmi_X2_power 0 [(0, .int x0), (1, .int x1)] [] h (fun v h' => h = h' ∧ ∃ y, v = some (.long y)) := by
  refine xq_n 5 [0, 1, 2, 4] [(0, .int x0), (1, .int x1), (2, .long 1), (4, .int (Int32.ofInt 0))] [] h [] 6 hq rfl trivial (fun hq => ?_)
  exact pwr_lp f _ _ hq
theorem xq_st {f mid : Nat} {mi : xm_M} {pc pc1 : Nat} {lv : List (Nat × Value)} {st st1 : List Value} {h h1 : xh_H} {Q : Option Value → xh_H → Prop} {r : xr_R} (hr : xC mid pc = some r) (hi : xe_isr r.1 = false) (h2 : ∀ d lw, xe_2 none mi.2.2.2.1 r d pc lw st h 0 0 = some (pc1, lw, st1, h1, 0, 0)) (k : xq f mid mi pc1 lv st1 h1 Q) : xq f mid mi pc lv st h Q := by
  intro d lw w h' c s hs hx
  obtain ⟨g, eg, ⟨o', e2, e3⟩ | ⟨e2, -⟩⟩ := xq_s hr hi hx
  · rw [h2] at e2
    cases e2
    exact k d lw w h' c s hs (xe_x_le (by omega) e3)
  · rw [h2] at e2
    cases e2
theorem xin_c {i : Int32} (h1 : xe_c .lt i 0 = false) (h2 : xe_c .ge i 64 = false) : xe_in i 64 = true := by
  have b1 : (0 : Int) ≤ i.toInt := a_ce (a_neg_ok h1)
  have b2 : i.toInt < (64 : Int) := a_ce (a_neg_ok h2)
  obtain ⟨k, e, k1, k2⟩ := a_nk (x := i) (m := 63) b1 (by omega)
  rw [e]
  exact xin_n (by omega) (by omega)
set_option maxRecDepth 100000 in
set_option maxHeartbeats 4000000 in
theorem hol_q {f q r : Nat} {x : Int32} {h : xh_H} (hs : h.1[q]? = some (0, 7)) (hg : xg none h.2.2.2 q 1 = some r) (hr : h.1[r]? = some (4, 64)) (hq : a_rq a_tb h) : xq f xi_X7_holds xmi_X7_holds 0 [(0, .ref q), (1, .int x)] [] h (fun v h' => h = h' ∧ ∃ y, v = some (.int y)) := by
  cases c1 : xe_c .lt (x >>> (6 &&& 31)) 0 with
  | true =>
    refine xq_n 38 [] [] [.int (Int32.ofInt 0)] h [true] 8 hq rfl ⟨c1, trivial⟩ (fun hq => ?_)
    exact xq_ret rfl rfl rfl ⟨rfl, _, rfl⟩
  | false =>
    cases c2 : xe_c .ge (x >>> (6 &&& 31)) 64 with
    | true =>
      refine xq_n 38 [] [] [.int (Int32.ofInt 0)] h [false, true] 11 hq rfl ⟨c1, c2, trivial⟩ (fun hq => ?_)
      exact xq_ret rfl rfl rfl ⟨rfl, _, rfl⟩
    | false =>
      refine xq_n 16 [1, 2] [(1, .int x), (2, .int (x >>> (6 &&& 31)))] [.ref q] h [false, false] 12 hq rfl ⟨c1, c2, trivial⟩ (fun hq => ?_)
      refine xq_st rfl rfl (fun _ _ => xe_gr hs rfl hg) ?_
      refine xq_n 20 [1, 2] [(1, .int x), (2, .int (x >>> (6 &&& 31)))] [.int (x >>> (6 &&& 31)), .ref r] h [] 3 hq rfl trivial (fun hq => ?_)
      refine xq_st rfl rfl (fun _ _ => xe_la hr (xin_c c1 c2)) ?_
      refine xq_n 30 [] [] [.int (lg_cmp ((((xg 0 h.2.2.1 r (x >>> (6 &&& 31)).toNatClampNeg).toUInt64 >>> ((x &&& 63).toInt64.toUInt64 &&& Int64.toUInt64 63)).toInt64) &&& 1) 0)] h [] 10 hq rfl trivial (fun hq => ?_)
      cases c3 : xe_c .eq (lg_cmp ((((xg 0 h.2.2.1 r (x >>> (6 &&& 31)).toNatClampNeg).toUInt64 >>> ((x &&& 63).toInt64.toUInt64 &&& Int64.toUInt64 63)).toInt64) &&& 1) 0) 0 with
      | true =>
        refine xq_n 38 [] [] [.int (Int32.ofInt 0)] h [true] 4 hq rfl ⟨c3, trivial⟩ (fun hq => ?_)
        exact xq_ret rfl rfl rfl ⟨rfl, _, rfl⟩
      | false =>
        refine xq_n 38 [] [] [.int (Int32.ofInt 1)] h [false] 5 hq rfl ⟨c3, trivial⟩ (fun hq => ?_)
        exact xq_ret rfl rfl rfl ⟨rfl, _, rfl⟩
set_option maxRecDepth 100000 in
set_option maxHeartbeats 4000000 in
theorem chC {pp : Int32} {h0 h : xh_H} (ge : fx fN (Lr 20) h0 h) : ∀ (f : Nat) (x2 : Int64) (x4 : Int32), a_rq a_tb h → xq f xi_X2_chanceOf xmi_X2_chanceOf 68 [(0, .ref 14), (1, .int pp), (2, .long x2), (4, .int x4)] [] h (fun v h' => fx fN (Lr 20) h0 h' ∧ ∃ y, v = some (.long y)) := by
  intro f
  induction f with
  | zero => intros; exact xq_0
  | succ f ih =>
    intro x2 x4 hq
    cases c1 : xe_c .gt x4 (xg 0 h.2.1 14 7) with
    | true =>
      refine xq_m 116 [] [] [.long x2] h [true] 7 hq rfl ⟨c1, trivial⟩ (fun hq => ?_)
      exact xq_ret rfl rfl rfl ⟨ge, _, rfl⟩
    | false =>
      refine xq_m 88 [0, 1, 2, 4] [(0, .ref 14), (1, .int pp), (2, .long x2), (4, .int x4)] [.int x4, .int pp, .long (xg 0 h.2.2.1 20 x4.toNatClampNeg), .long x2] h [false] 13 hq rfl ⟨c1, trivial⟩ (fun hq => ?_)
      refine xq_run hq rfl rfl (pwr_q hq) ?_
      rintro v2 h_2 ⟨rfl, w2, rfl⟩
      refine xq_n 103 [0, 1, 2, 4] [(0, .ref 14), (1, .int pp), (2, .long x2), (4, .int x4)] [.int ((xg 0 h.2.1 14 7) - x4), .int (10 - pp), .long ((xg 0 h.2.2.1 20 x4.toNatClampNeg) * w2), .long x2] h [] 10 hq rfl trivial (fun hq => ?_)
      refine xq_run hq rfl rfl (pwr_q hq) ?_
      rintro v3 h_3 ⟨rfl, w3, rfl⟩
      refine xq_n 68 [0, 1, 2, 4] [(0, .ref 14), (1, .int pp), (2, .long (x2 + (((xg 0 h.2.2.1 20 x4.toNatClampNeg) * w2) * w3))), (4, .int (x4 + Int32.ofInt 1))] [] h [] 7 hq rfl trivial (fun hq => ?_)
      exact ih _ _ hq
set_option maxRecDepth 100000 in
set_option maxHeartbeats 4000000 in
theorem chB {pp : Int32} {q r : Nat} {h0 : xh_H} (hq6 : xg none h0.2.2.2 14 6 = some q) (hs : h0.1[q]? = some (0, 7)) (hg : xg none h0.2.2.2 q 1 = some r) (hr : h0.1[r]? = some (4, 64)) : ∀ (f : Nat) (x : Int32) (h : xh_H), a_rq a_tb h → fx fN (Lr 20) h0 h → xq f xi_X2_chanceOf xmi_X2_chanceOf 25 [(0, .ref 14), (1, .int pp), (2, .int x)] [] h (fun v h' => fx fN (Lr 20) h0 h' ∧ ∃ y, v = some (.long y)) := by
  intro f
  induction f with
  | zero => intros; exact xq_0
  | succ f ih =>
    intro x h hq ge
    cases c1 : xe_c .gt x (xg 0 h.2.1 14 8) with
    | true =>
      refine xq_m 68 [0, 1, 2, 4] [(0, .ref 14), (1, .int pp), (2, .long 0), (4, .int (Int32.ofInt 0))] [] h [true] 10 hq rfl ⟨c1, trivial⟩ (fun hq => ?_)
      exact chC ge f _ _ hq
    | false =>
      refine xq_m 38 [0, 1, 2] [(0, .ref 14), (1, .int pp), (2, .int x)] [.int x, va_rf (xg none h.2.2.2 14 6)] h [false] 9 hq rfl ⟨c1, trivial⟩ (fun hq => ?_)
      have e6 : xg none h.2.2.2 14 6 = some q := by rw [ge.2.1]; exact hq6
      rw [e6]
      refine xq_cr (As := [.ref q, .int x]) (mj := xmi_X7_holds) (q := []) rfl rfl (fun _ _ => rfl) (xa_cs_ok (d := 0) (pc := 0) (lv := []) (nL := 0) (show h.1[q]? = some (0, 7) by rw [ge.1]; exact hs) rfl).1 (fun f => hol_q (by rw [ge.1]; exact hs) (by rw [ge.2.1]; exact hg) (by rw [ge.1]; exact hr) hq) ?_
      rintro v2 h_2 ⟨rfl, w2, rfl⟩
      cases c3 : xe_c .eq w2 0 with
      | true =>
        refine xq_n 25 [0, 1, 2] [(0, .ref 14), (1, .int pp), (2, .int (x + Int32.ofInt 1))] [] h [true] 5 hq rfl ⟨c3, trivial⟩ (fun hq => ?_)
        exact ih _ _ hq (ge)
      | false =>
        refine xq_n 49 [0, 1, 2] [(0, .ref 14), (1, .int pp), (2, .int x)] [.int x, .ref 20] h [false] 6 hq rfl ⟨c3, trivial⟩ (fun hq => ?_)
        refine xq_run hq rfl rfl (bcn_q hq) ?_
        rintro v4 h_4 ⟨rfl, w4, rfl⟩
        refine xq_n 25 [0, 1, 2] [(0, .ref 14), (1, .int pp), (2, .int (x + Int32.ofInt 1))] [] (xh_ul h 20 w4.toNatClampNeg ((xg 0 h.2.2.1 20 w4.toNatClampNeg) + 1)) [] 9 hq rfl trivial (fun _ => ?_)
        have hq : a_rq a_tb (xh_ul h 20 w4.toNatClampNeg ((xg 0 h.2.2.1 20 w4.toNatClampNeg) + 1)) := a_rq_ul hq
        exact ih _ _ hq (fx_ul (ge) rfl)
set_option maxRecDepth 100000 in
set_option maxHeartbeats 4000000 in
theorem chA {pp : Int32} {q r : Nat} {h0 : xh_H} (hq6 : xg none h0.2.2.2 14 6 = some q) (hs : h0.1[q]? = some (0, 7)) (hg : xg none h0.2.2.2 q 1 = some r) (hr : h0.1[r]? = some (4, 64)) : ∀ (f : Nat) (x : Int32) (h : xh_H), a_rq a_tb h → fx fN (Lr 20) h0 h → xq f xi_X2_chanceOf xmi_X2_chanceOf 2 [(0, .ref 14), (1, .int pp), (2, .int x)] [] h (fun v h' => fx fN (Lr 20) h0 h' ∧ ∃ y, v = some (.long y)) := by
  intro f
  induction f with
  | zero => intros; exact xq_0
  | succ f ih =>
    intro x h hq ge
    cases c1 : xe_c .gt x (xg 0 h.2.1 14 7) with
    | true =>
      refine xq_m 25 [0, 1, 2] [(0, .ref 14), (1, .int pp), (2, .int (Int32.ofInt 0))] [] h [true] 8 hq rfl ⟨c1, trivial⟩ (fun hq => ?_)
      exact chB hq6 hs hg hr f _ _ hq ge
    | false =>
      refine xq_m 2 [0, 1, 2] [(0, .ref 14), (1, .int pp), (2, .int (x + Int32.ofInt 1))] [] (xh_ul h 20 x.toNatClampNeg 0) [false] 13 hq rfl ⟨c1, trivial⟩ (fun _ => ?_)
      have hq : a_rq a_tb (xh_ul h 20 x.toNatClampNeg 0) := a_rq_ul hq
      exact ih _ _ hq (fx_ul (ge) rfl)
set_option maxRecDepth 100000 in
set_option maxHeartbeats 4000000 in
theorem cho_q {f : Nat} {pp : Int32} {q r : Nat} {h0 : xh_H} (hq6 : xg none h0.2.2.2 14 6 = some q) (hs : h0.1[q]? = some (0, 7)) (hg : xg none h0.2.2.2 q 1 = some r) (hr : h0.1[r]? = some (4, 64)) (hq : a_rq a_tb h0) : xq f xi_X2_chanceOf xmi_X2_chanceOf 0 [(0, .ref 14), (1, .int pp)] [] h0 (fun v h' => fx fN (Lr 20) h0 h' ∧ ∃ y, v = some (.long y)) := by
  refine xq_n 2 [0, 1, 2] [(0, .ref 14), (1, .int pp), (2, .int (Int32.ofInt 0))] [] h0 [] 4 hq rfl trivial (fun hq => ?_)
  exact chA hq6 hs hg hr f _ _ hq fx_0
end XCH
