section
section XCH
set_option maxRecDepth 100000 in
set_option maxHeartbeats 4000000 in
theorem bcn_q {f : Nat} {x : Int32} {h : xh_H} (hq : a_rq a_tb h) : xq f xi_J6_bitCount_0f7a4 xmi_J6_bitCount_0f7a4 0 [(0, .int x)] [] h (fun v h' => h = h' ∧ ∃ y, v = some (.int y)) := by
  refine xq_n 52 [] [] [.int ((((((((x - (((x.toUInt32 >>> ((Int32.ofInt 1).toUInt32 &&& Int32.toUInt32 31)).toInt32) &&& 1431655765)) &&& 858993459) + ((((x - (((x.toUInt32 >>> ((Int32.ofInt 1).toUInt32 &&& Int32.toUInt32 31)).toInt32) &&& 1431655765)).toUInt32 >>> ((Int32.ofInt 2).toUInt32 &&& Int32.toUInt32 31)).toInt32) &&& 858993459)) + (((((x - (((x.toUInt32 >>> ((Int32.ofInt 1).toUInt32 &&& Int32.toUInt32 31)).toInt32) &&& 1431655765)) &&& 858993459) + ((((x - (((x.toUInt32 >>> ((Int32.ofInt 1).toUInt32 &&& Int32.toUInt32 31)).toInt32) &&& 1431655765)).toUInt32 >>> ((Int32.ofInt 2).toUInt32 &&& Int32.toUInt32 31)).toInt32) &&& 858993459)).toUInt32 >>> ((Int32.ofInt 4).toUInt32 &&& Int32.toUInt32 31)).toInt32)) &&& 252645135) + (((((((x - (((x.toUInt32 >>> ((Int32.ofInt 1).toUInt32 &&& Int32.toUInt32 31)).toInt32) &&& 1431655765)) &&& 858993459) + ((((x - (((x.toUInt32 >>> ((Int32.ofInt 1).toUInt32 &&& Int32.toUInt32 31)).toInt32) &&& 1431655765)).toUInt32 >>> ((Int32.ofInt 2).toUInt32 &&& Int32.toUInt32 31)).toInt32) &&& 858993459)) + (((((x - (((x.toUInt32 >>> ((Int32.ofInt 1).toUInt32 &&& Int32.toUInt32 31)).toInt32) &&& 1431655765)) &&& 858993459) + ((((x - (((x.toUInt32 >>> ((Int32.ofInt 1).toUInt32 &&& Int32.toUInt32 31)).toInt32) &&& 1431655765)).toUInt32 >>> ((Int32.ofInt 2).toUInt32 &&& Int32.toUInt32 31)).toInt32) &&& 858993459)).toUInt32 >>> ((Int32.ofInt 4).toUInt32 &&& Int32.toUInt32 31)).toInt32)) &&& 252645135).toUInt32 >>> ((8 : Int32).toUInt32 &&& Int32.toUInt32 31)).toInt32)) + ((((((((x - (((x.toUInt32 >>> ((Int32.ofInt 1).toUInt32 &&& Int32.toUInt32 31)).toInt32) &&& 1431655765)) &&& 858993459) + ((((x - (((x.toUInt32 >>> ((Int32.ofInt 1).toUInt32 &&& Int32.toUInt32 31)).toInt32) &&& 1431655765)).toUInt32 >>> ((Int32.ofInt 2).toUInt32 &&& Int32.toUInt32 31)).toInt32) &&& 858993459)) + (((((x - (((x.toUInt32 >>> ((Int32.ofInt 1).toUInt32 &&& Int32.toUInt32 31)).toInt32) &&& 1431655765)) &&& 858993459) + ((((x - (((x.toUInt32 >>> ((Int32.ofInt 1).toUInt32 &&& Int32.toUInt32 31)).toInt32) &&& 1431655765)).toUInt32 >>> ((Int32.ofInt 2).toUInt32 &&& Int32.toUInt32 31)).toInt32) &&& 858993459)).toUInt32 >>> ((Int32.ofInt 4).toUInt32 &&& Int32.toUInt32 31)).toInt32)) &&& 252645135) + (((((((x - (((x.toUInt32 >>> ((Int32.ofInt 1).toUInt32 &&& Int32.toUInt32 31)).toInt32) &&& 1431655765)) &&& 858993459) + ((((x - (((x.toUInt32 >>> ((Int32.ofInt 1).toUInt32 &&& Int32.toUInt32 31)).toInt32) &&& 1431655765)).toUInt32 >>> ((Int32.ofInt 2).toUInt32 &&& Int32.toUInt32 31)).toInt32) &&& 858993459)) + (((((x - (((x.toUInt32 >>> ((Int32.ofInt 1).toUInt32 &&& Int32.toUInt32 31)).toInt32) &&& 1431655765)) &&& 858993459) + ((((x - (((x.toUInt32 >>> ((Int32.ofInt 1).toUInt32 &&& Int32.toUInt32 31)).toInt32) &&& 1431655765)).toUInt32 >>> ((Int32.ofInt 2).toUInt32 &&& Int32.toUInt32 31)).toInt32) &&& 858993459)).toUInt32 >>> ((Int32.ofInt 4).toUInt32 &&& Int32.toUInt32 31)).toInt32)) &&& 252645135).toUInt32 >>> ((8 : Int32).toUInt32 &&& Int32.toUInt32 31)).toInt32)).toUInt32 >>> ((16 : Int32).toUInt32 &&& Int32.toUInt32 31)).toInt32)) &&& 63)] h [] 43 hq rfl trivial (fun hq => ?_)
  exact xq_ret rfl rfl rfl ⟨rfl, _, rfl⟩
set_option maxRecDepth 100000 in
set_option maxHeartbeats 4000000 in
theorem pwr_lp {x0 x1 : Int32} {h : xh_H} : ∀ (f : Nat) (x2 : Int64) (x4 : Int32), a_rq a_tb h → xq f xi_X2_power xmi_X2_power 5 [(0, .int x0), (1, .int x1), (2, .long x2), (4, .int x4)] [] h (fun v h' => h = h' ∧ ∃ y, v = some (.long y)) := by
  intro f
  induction f with
  | zero => intros; exact xq_0
  | succ f ih =>
    intro x2 x4 hq
    cases c1 : xe_c .ge x4 x1 with
    | true =>
      refine xq_m 23 [] [] [.long x2] h [true] 6 hq rfl ⟨c1, trivial⟩ (fun hq => ?_)
      exact xq_ret rfl rfl rfl ⟨rfl, _, rfl⟩
    | false =>
      refine xq_m 5 [0, 1, 2, 4] [(0, .int x0), (1, .int x1), (2, .long (x2 * x0.toInt64)), (4, .int (x4 + Int32.ofInt 1))] [] h [false] 12 hq rfl ⟨c1, trivial⟩ (fun hq => ?_)
      exact ih _ _ hq
set_option maxRecDepth 100000 in
set_option maxHeartbeats 4000000 in
theorem pwr_q {f : Nat} {x0 x1 : Int32} {h : xh_H} (hq : a_rq a_tb h) : xq f xi_X2_power xmi_X2_power 0 [(0, .int x0), (1, .int x1)] [] h (fun v h' => h = h' ∧ ∃ y, v = some (.long y)) := by
  refine xq_n 5 [0, 1, 2, 4] [(0, .int x0), (1, .int x1), (2, .long 1), (4, .int (Int32.ofInt 0))] [] h [] 6 hq rfl trivial (fun hq => ?_)
  exact pwr_lp f _ _ hq
theorem xq_st {f mid : Nat} {mi : xm_M} {pc pc1 : Nat} {lv : List (Nat × Value)} {st st1 : List Value} {h h1 : xh_H} {Q : Option Value → xh_H → Prop} {r : xr_R} (hr : xC mid pc = some r) (hi : xe_isr r.1 = false) (h2 : ∀ d lw, xe_2 none mi.2.2.2.1 r d pc lw st h 0 0 = some (pc1, lw, st1, h1, 0, 0)) (k : xq f mid mi pc1 lv st1 h1 Q) : xq f mid mi pc lv st h Q := by
  intro d lw w h' c s hs hx
  obtain ⟨g, eg, ⟨o', e2, e3⟩ | ⟨e2, -⟩⟩ := xq_s hr hi hx
  · rw [h2] at e2
    cases e2
    exact k d lw w h' c s hs (xe_x_le (by omega) e3)
  · rw [h2] at e2
    cases e2
theorem xin_c {i : Int32} (h1 : xe_c .lt i 0 = false) (h2 : xe_c .ge i 64 = false) : xe_in i 64 = true := by
  have b1 : (0 : Int) ≤ i.toInt := a_ce (a_neg_ok h1)
  have b2 : i.toInt < (64 : Int) := a_ce (a_neg_ok h2)
  obtain ⟨k, e, k1, k2⟩ := a_nk (x := i) (m := 63) b1 (by omega)
  rw [e]
  exact xin_n (by omega) (by omega)
set_option maxRecDepth 100000 in
set_option maxHeartbeats 4000000 in
theorem hol_q {f q r : Nat} {x : Int32} {h : xh_H} (hs : h.1[q]? = some (0, 7)) (hg : xg none h.2.2.2 q 1 = some r) (hr : h.1[r]? = some (4, 64)) (hq : a_rq a_tb h) : xq f xi_X7_holds xmi_X7_holds 0 [(0, .ref q), (1, .int x)] [] h (fun v h' => h = h' ∧ ∃ y, v = some (.int y)) := by
  cases c1 : xe_c .lt (x >>> (6 &&& 31)) 0 with
  | true =>
    refine xq_n 38 [] [] [.int (Int32.ofInt 0)] h [true] 8 hq rfl ⟨c1, trivial⟩ (fun hq => ?_)
    exact xq_ret rfl rfl rfl ⟨rfl, _, rfl⟩
  | false =>
    cases c2 : xe_c .ge (x >>> (6 &&& 31)) 64 with
    | true =>
      refine xq_n 38 [] [] [.int (Int32.ofInt 0)] h [false, true] 11 hq rfl ⟨c1, c2, trivial⟩ (fun hq => ?_)
      exact xq_ret rfl rfl rfl ⟨rfl, _, rfl⟩
    | false =>
      refine xq_n 16 [1, 2] [(1, .int x), (2, .int (x >>> (6 &&& 31)))] [.ref q] h [false, false] 12 hq rfl ⟨c1, c2, trivial⟩ (fun hq => ?_)
      refine xq_st rfl rfl (fun _ _ => xe_gr hs rfl hg) ?_
      refine xq_n 20 [1, 2] [(1, .int x), (2, .int (x >>> (6 &&& 31)))] [.int (x >>> (6 &&& 31)), .ref r] h [] 3 hq rfl trivial (fun hq => ?_)
      refine xq_st rfl rfl (fun _ _ => xe_la hr (xin_c c1 c2)) ?_
      refine xq_n 30 [] [] [.int (lg_cmp ((((xg 0 h.2.2.1 r (x >>> (6 &&& 31)).toNatClampNeg).toUInt64 >>> ((x &&& 63).toInt64.toUInt64 &&& Int64.toUInt64 63)).toInt64) &&& 1) 0)] h [] 10 hq rfl trivial (fun hq => ?_)
      cases c3 : xe_c .eq (lg_cmp ((((xg 0 h.2.2.1 r (x >>> (6 &&& 31)).toNatClampNeg).toUInt64 >>> ((x &&& 63).toInt64.toUInt64 &&& Int64.toUInt64 63)).toInt64) &&& 1) 0) 0 with
      | true =>
        refine xq_n 38 [] [] [.int (Int32.ofInt 0)] h [true] 4 hq rfl ⟨c3, trivial⟩ (fun hq => ?_)
        exact xq_ret rfl rfl rfl ⟨rfl, _, rfl⟩
      | false =>
        refine xq_n 38 [] [] [.int (Int32.ofInt 1)] h [false] 5 hq rfl ⟨c3, trivial⟩ (fun hq => ?_)
        exact xq_ret rfl rfl rfl ⟨rfl, _, rfl⟩
set_option maxRecDepth 100000 in
set_option maxHeartbeats 4000000 in
theorem chC {pp : Int32} {h0 h : xh_H} (ge : fx fN (Lr 20) h0 h) : ∀ (f : Nat) (x2 : Int64) (x4 : Int32), a_rq a_tb h → xq f xi_X2_chanceOf xmi_X2_chanceOf 68 [(0, .ref 14), (1, .int pp), (2, .long x2), (4, .int x4)] [] h (fun v h' => fx fN (Lr 20) h0 h' ∧ ∃ y, v = some (.long y)) := by
  intro f
  induction f with
  | zero => intros; exact xq_0
  | succ f ih =>
    intro x2 x4 hq
    cases c1 : xe_c .gt x4 (xg 0 h.2.1 14 7) with
    | true =>
      refine xq_m 116 [] [] [.long x2] h [true] 7 hq rfl ⟨c1, trivial⟩ (fun hq => ?_)
      exact xq_ret rfl rfl rfl ⟨ge, _, rfl⟩
    | false =>
      refine xq_m 88 [0, 1, 2, 4] [(0, .ref 14), (1, .int pp), (2, .long x2), (4, .int x4)] [.int x4, .int pp, .long (xg 0 h.2.2.1 20 x4.toNatClampNeg), .long x2] h [false] 13 hq rfl ⟨c1, trivial⟩ (fun hq => ?_)
      refine xq_run hq rfl rfl (pwr_q hq) ?_
      rintro v2 h_2 ⟨rfl, w2, rfl⟩
      refine xq_n 103 [0, 1, 2, 4] [(0, .ref 14), (1, .int pp), (2, .long x2), (4, .int x4)] [.int ((xg 0 h.2.1 14 7) - x4), .int (10 - pp), .long ((xg 0 h.2.2.1 20 x4.toNatClampNeg) * w2), .long x2] h [] 10 hq rfl trivial (fun hq => ?_)
      refine xq_run hq rfl rfl (pwr_q hq) ?_
      rintro v3 h_3 ⟨rfl, w3, rfl⟩
      refine xq_n 68 [0, 1, 2, 4] [(0, .ref 14), (1, .int pp), (2, .long (x2 + (((xg 0 h.2.2.1 20 x4.toNatClampNeg) * w2) * w3))), (4, .int (x4 + Int32.ofInt 1))] [] h [] 7 hq rfl trivial (fun hq => ?_)
      exact ih _ _ hq
set_option maxRecDepth 100000 in
set_option maxHeartbeats 4000000 in
theorem chB {pp : Int32} {q r : Nat} {h0 : xh_H} (hq6 : xg none h0.2.2.2 14 6 = some q) (hs : h0.1[q]? = some (0, 7)) (hg : xg none h0.2.2.2 q 1 = some r) (hr : h0.1[r]? = some (4, 64)) : ∀ (f : Nat) (x : Int32) (h : xh_H), a_rq a_tb h → fx fN (Lr 20) h0 h → xq f xi_X2_chanceOf xmi_X2_chanceOf 25 [(0, .ref 14), (1, .int pp), (2, .int x)] [] h (fun v h' => fx fN (Lr 20) h0 h' ∧ ∃ y, v = some (.long y)) := by
  intro f
  induction f with
  | zero => intros; exact xq_0
  | succ f ih =>
    intro x h hq ge
    cases c1 : xe_c .gt x (xg 0 h.2.1 14 8) with
    | true =>
      refine xq_m 68 [0, 1, 2, 4] [(0, .ref 14), (1, .int pp), (2, .long 0), (4, .int (Int32.ofInt 0))] [] h [true] 10 hq rfl ⟨c1, trivial⟩ (fun hq => ?_)
      exact chC ge f _ _ hq
    | false =>
      refine xq_m 38 [0, 1, 2] [(0, .ref 14), (1, .int pp), (2, .int x)] [.int x, va_rf (xg none h.2.2.2 14 6)] h [false] 9 hq rfl ⟨c1, trivial⟩ (fun hq => ?_)
      have e6 : xg none h.2.2.2 14 6 = some q := by rw [ge.2.1]; exact hq6
      rw [e6]
      refine xq_cr (As := [.ref q, .int x]) (mj := xmi_X7_holds) (q := []) rfl rfl (fun _ _ => rfl) (xa_cs_ok (d := 0) (pc := 0) (lv := []) (nL := 0) (show h.1[q]? = some (0, 7) by rw [ge.1]; exact hs) rfl).1 (fun f => hol_q (by rw [ge.1]; exact hs) (by rw [ge.2.1]; exact hg) (by rw [ge.1]; exact hr) hq) ?_
      rintro v2 h_2 ⟨rfl, w2, rfl⟩
      cases c3 : xe_c .eq w2 0 with
      | true =>
        refine xq_n 25 [0, 1, 2] [(0, .ref 14), (1, .int pp), (2, .int (x + Int32.ofInt 1))] [] h [true] 5 hq rfl ⟨c3, trivial⟩ (fun hq => ?_)
        exact ih _ _ hq (ge)
      | false =>
        refine xq_n 49 [0, 1, 2] [(0, .ref 14), (1, .int pp), (2, .int x)] [.int x, .ref 20] h [false] 6 hq rfl ⟨c3, trivial⟩ (fun hq => ?_)
        refine xq_run hq rfl rfl (bcn_q hq) ?_
        rintro v4 h_4 ⟨rfl, w4, rfl⟩
        refine xq_n 25 [0, 1, 2] [(0, .ref 14), (1, .int pp), (2, .int (x + Int32.ofInt 1))] [] (xh_ul h 20 w4.toNatClampNeg ((xg 0 h.2.2.1 20 w4.toNatClampNeg) + 1)) [] 9 hq rfl trivial (fun _ => ?_)
        have hq : a_rq a_tb (xh_ul h 20 w4.toNatClampNeg ((xg 0 h.2.2.1 20 w4.toNatClampNeg) + 1)) := a_rq_ul hq
        exact ih _ _ hq (fx_ul (ge) rfl)
set_option maxRecDepth 100000 in
set_option maxHeartbeats 4000000 in
theorem chA {pp : Int32} {q r : Nat} {h0 : xh_H} (hq6 : xg none h0.2.2.2 14 6 = some q) (hs : h0.1[q]? = some (0, 7)) (hg : xg none h0.2.2.2 q 1 = some r) (hr : h0.1[r]? = some (4, 64)) : ∀ (f : Nat) (x : Int32) (h : xh_H), a_rq a_tb h → fx fN (Lr 20) h0 h → xq f xi_X2_chanceOf xmi_X2_chanceOf 2 [(0, .ref 14), (1, .int pp), (2, .int x)] [] h (fun v h' => fx fN (Lr 20) h0 h' ∧ ∃ y, v = some (.long y)) := by
  intro f
  induction f with
  | zero => intros; exact xq_0
  | succ f ih =>
    intro x h hq ge
    cases c1 : xe_c .gt x (xg 0 h.2.1 14 7) with
    | true =>
      refine xq_m 25 [0, 1, 2] [(0, .ref 14), (1, .int pp), (2, .int (Int32.ofInt 0))] [] h [true] 8 hq rfl ⟨c1, trivial⟩ (fun hq => ?_)
      exact chB hq6 hs hg hr f _ _ hq ge
    | false =>
      refine xq_m 2 [0, 1, 2] [(0, .ref 14), (1, .int pp), (2, .int (x + Int32.ofInt 1))] [] (xh_ul h 20 x.toNatClampNeg 0) [false] 13 hq rfl ⟨c1, trivial⟩ (fun _ => ?_)
      have hq : a_rq a_tb (xh_ul h 20 x.toNatClampNeg 0) := a_rq_ul hq
      exact ih _ _ hq (fx_ul (ge) rfl)
set_option maxRecDepth 100000 in
set_option maxHeartbeats 4000000 in
theorem cho_q {f : Nat} {pp : Int32} {q r : Nat} {h0 : xh_H} (hq6 : xg none h0.2.2.2 14 6 = some q) (hs : h0.1[q]? = some (0, 7)) (hg : xg none h0.2.2.2 q 1 = some r) (hr : h0.1[r]? = some (4, 64)) (hq : a_rq a_tb h0) : xq f xi_X2_chanceOf xmi_X2_chanceOf 0 [(0, .ref 14), (1, .int pp)] [] h0 (fun v h' => fx fN (Lr 20) h0 h' ∧ ∃ y, v = some (.long y)) := by
  refine xq_n 2 [0, 1, 2] [(0, .ref 14), (1, .int pp), (2, .int (Int32.ofInt 0))] [] h0 [] 4 hq rfl trivial (fun hq => ?_)
  exact chA hq6 hs hg hr f _ _ hq fx_0
end XCH
end
section
section XSR1
variable {tb : aT} {mid d : Nat} {mi : xm_M} {pc : Nat} {lv : List (Nat × Value)} {st : List Value} {h : xh_H} {Q : Option Value → xh_H → Prop}
theorem xq_all {α : Type} {f mid : Nat} {mi : xm_M} {pc : Nat} {lv : List (Nat × Value)} {st : List Value} {h : xh_H} {Q : α → Option Value → xh_H → Prop} (k : ∀ x, xq f mid mi pc lv st h (Q x)) : xq f mid mi pc lv st h (fun v h' => ∀ x, Q x v h') := fun d lw v h' c s hs he x => k x d lw v h' c s hs he
theorem xp_voidq {C : aC} {r : xr_R} {mj : xm_M} {As q : List Value} {σ : aN → Int} {P : aP} {Q1 : Option Value → xh_H → Prop} (hC : a_spec tb C) (hq : a_rq tb h) (hi0 : a_inv tb h) (hr : xC mid pc = some r) (hid : C.1 = r.2.2.1) (he : xa_c r st = some (mj, As, q)) (hd : C.2.1 ≤ d) (ha : a_st σ h.1.length C.2.2.1 As) (hp : a_fp C.2.2.2.2.2 h) (hret : C.2.2.2.1 = [(none, P)]) (hx : ∀ f, xq f r.2.2.1 mj 0 (lv_args 0 As) [] h Q1)
    (k : ∀ (h' : xh_H), Q1 none h' → a_inv tb h' → h'.1 = h.1 → a_fr C.2.2.2.2.1 h h' → a_rq tb h' → xt_P (d + 1) mid mi (pc + 3) lv q h' Q) : xt_P (d + 1) mid mi pc lv st h Q := by
  obtain ⟨e1, e2, e3, e4⟩ := xa_c_ok (d := d) (pc := pc) (lv := lv) (nL := mi.2.2.2.1) hq he
  obtain ⟨v, h', r1, p1, p2, ⟨t, ht, p3⟩, p4⟩ := hC d mj As h σ hd (by rw [hid]; exact e4) hi0 hq.1 ha hp
  rw [hret] at ht
  cases List.mem_singleton.mp ht
  obtain ⟨g1, g2⟩ := p3
  cases g1
  have r1' : xR none d r.2.2.1 mj (0, lv_args 0 As, [], h, 0, 0) (none, h', 0, 0) := by rw [← hid]; exact r1
  obtain ⟨v2, h2, r2, q2⟩ := k h' (xq_R lv_args_nd r1' hx) p1 p2 p4 (a_rq_of p1.1 (by rw [p2]; exact hq.1))
  exact ⟨v2, h2, xR_call (v := none) (h' := h') (mc := 0) (ms := 0) hr e3 e2 e1 r1' r2, q2⟩
end XSR1
section XSR2
variable {T : Nat → Nat} {n mem : Nat}
/-- the bits of the sets that carry -/
def fil (P : cdL) (mem r : Nat) (h' : xh_H) : Prop := ∀ s y, s < 4096 → (∃ nm, px (nI s) P ([], nI 0) = some ([bl y], nm)) → hv h' r s = (decide (s < 2 ^ mem) && y)
theorem fil_q {f q r mem : Nat} {P : cdL} {h : xh_H} (m12 : mem ≤ 12) (hs : h.1[q]? = some (0, 7)) (hg : xg none h.2.2.2 q 1 = some r) (hr : h.1[r]? = some (4, 64)) (l4 : P.length < 400) (hP : ∀ sv, sv < 4096 → ∃ y nm, px (nI sv) P ([], nI 0) = some ([bl y], nm)) (pt : ptx h P) (z : ∀ s, s < 4096 → hv h r s = false) (hq : a_rq a_tb h) : xq f xi_X3_fill xmi_X3_fill 0 [(0, .ref 4), (1, .ref q), (2, .int (nI mem))] [] h (fun v h' => fx F7 (Lr r) h h' ∧ fil P mem r h') := by
  refine xq_and ?_ ?_
  · obtain ⟨y, nm, hy⟩ := hP 0 (by decide)
    exact xq_mono (fl_q m12 (s := 0) (by decide) hs hg hr l4 hP ⟨nm, hy⟩ pt (z 0 (by decide)) hq) (fun _ _ e => e.2.1)
  · refine xq_all (fun s => xq_all (fun y => ?_))
    intro d lw v h' c s' hb he s4 hy
    exact (fl_q m12 s4 hs hg hr l4 hP hy pt (z s s4) hq d lw v h' c s' hb he).2.2
/-- what the class's statute leaves of its statutes -/
def cst (h h' : xh_H) (sc : Nat) : Prop := h.1.length ≤ h'.1.length ∧ (∀ c k, c < h.1.length → (c = 13 → k < sc) → xg none h'.2.2.2 c k = xg none h.2.2.2 c k) ∧ (∀ c k, c < h.1.length → xg 0 h'.2.2.1 c k = xg 0 h.2.2.1 c k) ∧ ∀ c k, (c = 11 ∨ 72 ≤ c) → c < h.1.length → xg 0 h'.2.1 c k = xg 0 h.2.1 c k
def cnw (h h' : xh_H) (T : Nat → Nat) (n mem sc : Nat) (f : Int32) : Prop := xg 0 h'.2.1 0 8 = nI (sc + 1) → h.1.length + 1 < h'.1.length ∧ xg none h'.2.2.2 13 sc = some h.1.length ∧ xg none h'.2.2.2 h.1.length 1 = some (h.1.length + 1) ∧ xg 0 h'.2.1 h.1.length 0 = f ∧ ∀ s, s < 4096 → ∃ y j, hv h' (h.1.length + 1) s = (decide (s < 2 ^ mem) && y) ∧ Tv T n mem s j 0 0 0 (nmW T (fun _ => (0, 0))) (fun _ => false) y
theorem cst_t {h h1 h2 : xh_H} {sc : Nat} (a : cst h h1 sc) (b : cst h1 h2 sc) : cst h h2 sc := ⟨Nat.le_trans a.1 b.1, fun c k l z => (b.2.1 c k (Nat.lt_of_lt_of_le l a.1) z).trans (a.2.1 c k l z), fun c k l => (b.2.2.1 c k (Nat.lt_of_lt_of_le l a.1)).trans (a.2.2.1 c k l), fun c k z l => (b.2.2.2 c k z (Nat.lt_of_lt_of_le l a.1)).trans (a.2.2.2 c k z l)⟩
theorem cst_f {S L : Nat → Nat → Bool} {h h' : xh_H} {sc : Nat} (g : fx S L h h') (e : ∀ c k, (c = 11 ∨ 72 ≤ c) → c < h.1.length → S c k = false) (e2 : ∀ c k, c < h.1.length → L c k = false) : cst h h' sc := ⟨by rw [g.1]; exact Nat.le_refl _, fun c k _ _ => by rw [g.2.1], fun c k l => fx_l g (e2 c k l), fun c k z l => fx_i g (e c k z l)⟩
theorem ns_z {h : xh_H} {f : Int32} {k : Nat} : xg 0 (ns_h h f).2.2.1 (h.1.length + 1) k = 0 := by
  show xg 0 (xh_rs (xh_rs h.2.2.1 h.1.length) (h.1 ++ [((0, 7) : Nat × Nat)]).length) (h.1.length + 1) k = 0
  rw [ns_l1, xh_rs_s]
theorem ns_cst {h : xh_H} {f : Int32} {sc : Nat} : cst h (ns_h h f) sc := ⟨by rw [ns_n]; omega, fun c k l _ => ns_r l, fun c k l => ns_g l, fun c k _ l => ns_i l⟩
theorem nI_8 {k : Nat} (h : k ≤ 8) (e : nI k = nI (k + 1)) : False := by
  have e2 := congrArg Int32.toInt e
  rw [nI_toInt (by omega), nI_toInt (by omega)] at e2
  omega
set_option maxRecDepth 100000 in
set_option maxHeartbeats 8000000 in
/-- from the new Statute on -/
theorem s9_rest3 {d n m sc : Nat} {f : Int32} {h : xh_H} (hn : 72 ≤ h.1.length) (hi : a_inv a_tb h) (n72 : 72 ≤ n) (hpn : n % 2 = 0) (hnl : n < h.1.length) (hsn : h.1[n]? = some (0, 7)) (e8' : xg 0 h.2.1 0 8 = nI sc) (sc8 : sc < 8) (e37 : xg 0 h.2.1 3 7 = nI m) {mem : Nat} {P : cdL} (m12 : mem ≤ 12) (e9 : xg 0 h.2.1 0 9 = nI mem) (hg : xg none h.2.2.2 n 1 = some (n + 1)) (hr : h.1[n + 1]? = some (4, 64)) (l4 : P.length < 400) (hP : ∀ sv, sv < 4096 → ∃ y nm, px (nI sv) P ([], nI 0) = some ([bl y], nm)) (pt : ptx h P) (hz : ∀ s, s < 4096 → hv h (n + 1) s = false) : xt_P (d + 49) xi_X9_statute xmi_X9_statute 91 [(0, .ref 0), (1, .int f)] [.ref n] h (fun v h' => (hk ss_md h h' ∧ v = some (.int (nI m)) ∧ xg 0 h'.2.1 1 1 = xg 0 h.2.1 1 1 ∧ xg 0 h'.2.1 0 8 = nI (sc + 1) ∧ xg 0 h'.2.1 0 11 = xg 0 h.2.1 0 11) ∧ xg none h'.2.2.2 13 sc = some n ∧ (∀ c k, (c = 13 → k ≠ sc) → xg none h'.2.2.2 c k = xg none h.2.2.2 c k) ∧ (∀ c k, c ≠ n + 1 → xg 0 h'.2.2.1 c k = xg 0 h.2.2.1 c k) ∧ (∀ c k, (c = 11 ∨ 72 ≤ c) → xg 0 h'.2.1 c k = xg 0 h.2.1 c k) ∧ fil P mem (n + 1) h') := by
  have hq := a_rq_of hi.1 hn
  have mb := a_flx (c := 0) (k := 9) (lo := 1) (hi := 12) hi.1 hn rfl rfl (by decide)
  refine xa_tn 104 [0, 2] [(0, .ref 0), (2, .ref n)] [.int (xg 0 h.2.1 0 9), .ref n, .ref 4] h [] 9 hq rfl trivial (fun _ => ?_)
  refine xp_voidq (C := aC_m_X3_fill) (P := []) (σ := fun _ => 0) as_m_X3_fill hq hi rfl rfl rfl (by show 2 ≤ d + 48; omega) ⟨a_av (t := 4) (by decide) hq.1, ⟨n, rfl, hnl, a_tg_e n72 hpn⟩, a_ai mb.1 mb.2, trivial⟩ a_fp0 rfl (fun f => by rw [e9]; exact fil_q (f := f) m12 hsn hg hr l4 hP pt hz hq) (fun h2 hx i2 l2 f2 q2 => ?_)
  obtain ⟨gx, gf⟩ := hx
  have hk2 : hk ss_md h h2 := hk_c (hk_0 hi) i2 l2 f2 (by decide)
  have e8 : xg 0 h2.2.1 0 8 = nI sc := (fr_g f2 rfl rfl).trans e8'
  have e7 : xg 0 h2.2.1 3 7 = nI m := (fr_g f2 rfl rfl).trans e37
  refine xa_tn 116 [0, 2] [(0, .ref 0), (2, .ref n)] [.ref n, .int (xg 0 h2.2.1 0 8), .ref 13] h2 [] 7 q2 rfl trivial (fun _ => ?_)
  rw [e8]
  have hin : xe_in (nI sc) 8 = true := xin_n (by omega) (by omega)
  have ecl : (nI sc).toNatClampNeg = sc := nI_clamp (by omega)
  have ki := nI_toInt (n := sc + 1) (by omega)
  have s13 : h2.1[13]? = some (5, 8) := q2.2.1 13 _ rfl
  have sn2 : h2.1[n]? = some (0, 7) := by rw [l2]; exact hsn
  refine xp_step (pc1 := 117) (lv1 := [(0, .ref 0), (2, .ref n)]) (st1 := []) (h1 := xh_ur h2 13 sc (some n)) (r := _) rfl rfl (by simp [xe_2, xe_1, xp_rir, s13, sn2, hin, ecl]) ?_
  have i3 : a_inv a_tb (xh_ur h2 13 sc (some n)) := a_inv_ur (s := (5, 8)) (e := (3, 11, 0)) i2 s13 rfl (Or.inr rfl) ⟨by rw [l2]; exact hnl, a_tg_e n72 hpn⟩
  have hk3 : hk ss_md h (xh_ur h2 13 sc (some n)) := ⟨i3, l2, hk2.2.2⟩
  have e11 : xg 0 (xh_ur h2 13 sc (some n)).2.1 1 1 = xg 0 h.2.1 1 1 := fr_g f2 rfl rfl
  have e0b : xg 0 (xh_ur h2 13 sc (some n)).2.1 0 11 = xg 0 h.2.1 0 11 := fr_g f2 rfl rfl
  have e83 : xg 0 (xh_ur h2 13 sc (some n)).2.1 0 8 = nI sc := e8
  have e73 : xg 0 (xh_ur h2 13 sc (some n)).2.1 3 7 = nI m := e7
  have u1 : xg none (xh_ur h2 13 sc (some n)).2.2.2 13 sc = some n := xh_up_s
  have u2 : ∀ c k, (c = 13 → k ≠ sc) → xg none (xh_ur h2 13 sc (some n)).2.2.2 c k = xg none h.2.2.2 c k := fun c k z => by
    show xg none (xh_up none h2.2.2.2 13 sc (some n)) c k = _
    by_cases y : c = 13
    · subst y
      rw [xh_up_k (z rfl), gx.2.1]
    · rw [xh_up_o y, gx.2.1]
  have u3 : ∀ c k, c ≠ n + 1 → xg 0 (xh_ur h2 13 sc (some n)).2.2.1 c k = xg 0 h.2.2.1 c k := fun c k z => gx.2.2.2 c k (show Nat.beq c (n + 1) = false from by rw [Bool.eq_false_iff]; intro y; exact z (Nat.eq_of_beq_eq_true y))
  have u4 : ∀ c k, (c = 11 ∨ 72 ≤ c) → xg 0 (xh_ur h2 13 sc (some n)).2.1 c k = xg 0 h.2.1 c k := fun c k z => gx.2.2.1 c k (show Nat.beq c 7 = false from by rw [Bool.eq_false_iff]; intro y; have := Nat.eq_of_beq_eq_true y; omega)
  have u5 : fil P mem (n + 1) (xh_ur h2 13 sc (some n)) := gf
  generalize xh_ur h2 13 sc (some n) = h3 at hk3 e83 e11 e0b e73 u1 u2 u3 u4 u5 ⊢
  refine xa_tn 134 [] [] [.int (xg 0 (xh_ui h3 0 8 ((xg 0 h3.2.1 0 8) + (Int32.ofInt 1))).2.1 3 7)] (xh_ui h3 0 8 ((xg 0 h3.2.1 0 8) + (Int32.ofInt 1))) [] 11 (hk_q hk3 hn) rfl trivial (fun _ => ?_)
  have e1 : nI sc + Int32.ofInt 1 = nI (sc + 1) := nI_1 sc
  rw [gx_o (by decide), e73, e83, e1]
  exact xp_ret rfl rfl rfl ⟨⟨hk_ui (s := (0, 9)) (lo := 0) (hi := 8) hk3 hn rfl rfl (by omega) (by omega) rfl rfl, rfl, (gx_o (by decide)).trans e11, gx_s, (gx_k (by decide)).trans e0b⟩, u1, u2, u3, fun c k z => (gx_o (by omega)).trans (u4 c k z), u5⟩
set_option maxRecDepth 100000 in
set_option maxHeartbeats 8000000 in
/-- .. with its making -/
theorem s9_new3 {d m sc : Nat} {f : Int32} {h : xh_H} (hn : 72 ≤ h.1.length) (hp : h.1.length % 2 = 0) (hi : a_inv a_tb h) (e8 : xg 0 h.2.1 0 8 = nI sc) (sc8 : sc < 8) (e37 : xg 0 h.2.1 3 7 = nI m) (f9 : f.toInt ≤ 999) {mem : Nat} (m12 : mem ≤ 12) (e9 : xg 0 h.2.1 0 9 = nI mem) (tg : tx_G T n mem h) : xt_B (d + 49) xi_X9_statute xmi_X9_statute 83 [(0, .ref 0), (1, .int f)] [] h (fun v h' c s => hl ss_md h h' ∧ ((v = some (.int (nI m)) ∧ xg 0 h'.2.1 1 1 = xg 0 h.2.1 1 1 ∧ xg 0 h'.2.1 0 8 = nI (sc + 1) ∧ xg 0 h'.2.1 0 11 = xg 0 h.2.1 0 11) ∧ cst h h' sc ∧ cnw h h' T n mem sc f) ∧ c ≤ 2 ∧ s ≤ 66) := by
  obtain ⟨P, pt, l4, tv⟩ := tg
  have i1 := ns_inv hi hn hp f9
  have n1 : (ns_h h f).1.length = h.1.length + 2 := ns_n
  obtain ⟨v, h', r, ⟨q1, q2, q3, q4, q5⟩, u1, u2, u3, u4, u5⟩ := s9_rest3 (d := d) (n := h.1.length) (m := m) (sc := sc) (f := f) (h := ns_h h f) (by omega) i1 hn hp (by omega) ns_s0 (by rw [ns_i (by omega)]; exact e8) sc8 (by rw [ns_i (by omega)]; exact e37) m12 (by rw [ns_i (by omega)]; exact e9) ns_r1 ns_s1 l4 (fun sv hs => by obtain ⟨y, j, nm, p1, -⟩ := tv sv hs; exact ⟨y, nm, p1⟩) ⟨(ns_i (by omega)).trans pt.1, fun k hk' => ⟨(ns_i (by omega)).trans (pt.2 k hk').1, (ns_i (by omega)).trans (pt.2 k hk').2⟩⟩ (fun s s4 => by rw [hv_lb, ns_z]; exact lb_0 (by omega))
  have b0 : h'.1 = (ns_h h f).1 := q1.2.1
  have cs : cst h h' sc := ⟨by rw [b0, n1]; omega, fun c k l z => (u2 c k (fun e y => by have := z e; omega)).trans (ns_r l), fun c k l => (u3 c k (by omega)).trans (ns_g l), fun c k z l => (u4 c k z).trans (ns_i l)⟩
  refine ⟨v, h', 2, 66, ?_, ⟨q1.1, by rw [q1.2.1]; omega, by rw [q1.2.1]; omega, a_fr_t (fun c k hz _ => ns_i (by have := a_fz_lt hz; omega)) q1.2.2 (fun _ z => z)⟩, ⟨⟨q2, q3.trans (ns_i (by omega)), q4, q5.trans (ns_i (by omega))⟩, cs, fun _ => ⟨by rw [b0]; omega, u1, (u2 _ _ (fun e => by omega)).trans ns_r1, (u4 _ _ (Or.inr hn)).trans ns_f, fun s s4 => by obtain ⟨y, j, nm, p1, p2⟩ := tv s s4; exact ⟨y, j, u5 s y s4 ⟨nm, p1⟩, p2⟩⟩⟩, Nat.le_refl _, Nat.le_refl _⟩
  refine xR_step (o1 := (86, [(0, .ref 0), (1, .int f)], [.ref h.1.length], xh_nw h (0, 7), 1, 2)) rfl rfl rfl ?_
  refine xR_step (o1 := (87, [(0, .ref 0), (1, .int f)], [.ref h.1.length, .ref h.1.length], xh_nw h (0, 7), 1, 2)) rfl rfl rfl ?_
  refine xR_step (o1 := (88, [(0, .ref 0), (1, .int f)], [.int f, .ref h.1.length, .ref h.1.length], xh_nw h (0, 7), 1, 2)) rfl rfl rfl ?_
  refine xR_call (d := d + 48) (v := none) (h' := ns_h h f) (mc := 1) (ms := 64) (As := [.ref h.1.length, .int f]) (q := [.ref h.1.length]) (mj := xmi_X7_init) rfl rfl rfl rfl (ns_init (d := d + 47)) ?_
  exact xR_ad r 2 66
theorem cU_72 {c k : Nat} (h : 72 ≤ c) : (cU c k || (Nat.beq c 1 || Nat.beq c 0)) = false := by
  have e : ∀ j, j < 72 → Nat.beq c j = false := fun j hj => by
    rw [Bool.eq_false_iff]
    intro y
    have := Nat.eq_of_beq_eq_true y
    omega
  unfold cU
  rw [e 8 (by decide), e 3 (by decide), e 4 (by decide), e 5 (by decide), e 6 (by decide), e 9 (by decide), e 10 (by decide), e 1 (by decide), e 0 (by decide)]
  rfl
set_option maxRecDepth 100000 in
set_option maxHeartbeats 8000000 in
/-- X9.statute -/
theorem s9r_run {d sc td : Nat} {f : Int32} {h : xh_H} (hn : 72 ≤ h.1.length) (hp : h.1.length % 2 = 0) (hi : a_inv a_tb h) (hc : ct h T n) (e9 : xg 0 h.2.1 0 9 = nI mem) (m12 : mem ≤ 12) (e8 : xg 0 h.2.1 0 8 = nI sc) (sc8 : sc ≤ 8) (e10 : xg 0 h.2.1 0 10 = nI td) (td9 : td ≤ 999) : xt_B (d + 49) xi_X9_statute xmi_X9_statute 0 [(0, .ref 0), (1, .int f)] [] h (fun v h' c s => hl ss_md h h' ∧ ((xg 0 h'.2.1 1 1 = 0 ∧ s9_A T n mem sc td f (xg 0 h.2.1 0 11) v h') ∧ cst h h' sc ∧ cnw h h' T n mem sc f) ∧ c ≤ 2 ∧ s ≤ 66) := by
  have hq := a_rq_of hi.1 hn
  have mb := a_flx (c := 0) (k := 9) (lo := 1) (hi := 12) hi.1 hn rfl rfl (by decide)
  have tdi := nI_toInt (n := td) (by omega)
  have bad : sref sc td f → xt_B (d + 49) xi_X9_statute xmi_X9_statute 24 [(0, .ref 0), (1, .int f)] [] h (fun v h' c s => hl ss_md h h' ∧ ((xg 0 h'.2.1 1 1 = 0 ∧ s9_A T n mem sc td f (xg 0 h.2.1 0 11) v h') ∧ cst h h' sc ∧ cnw h h' T n mem sc f) ∧ c ≤ 2 ∧ s ≤ 66) := by
    intro hs
    refine xb_P (Q1 := fun v h' => hk ss_md h h' ∧ (xg 0 h'.2.1 1 1 = 0 ∧ s9_A T n mem sc td f (xg 0 h.2.1 0 11) v h') ∧ cst h h' sc ∧ cnw h h' T n mem sc f) ?_ (fun v h' z => ⟨hl_hk z.1 hn hp, z.2, by decide, by decide⟩)
    refine xa_tn 35 [] [] [.int (-1000)] (xh_ui h 1 1 (Int32.ofInt 0)) [] 7 hq rfl trivial (fun _ => ?_)
    exact xp_ret rfl rfl rfl ⟨hk_ui (s := (0, 8)) (lo := 0) (hi := 640) (hk_0 hi) hn rfl rfl (by decide) (by decide) rfl rfl, ⟨gx_s, fun _ => ⟨rfl, (gx_o (by decide)).trans e8, gx_o (by decide)⟩, fun z => absurd hs z⟩, cst_f (S := fun c _ => Nat.beq c 1) (L := fN) (fx_ui fx_0 rfl) (fun c k z _ => by rw [Bool.eq_false_iff]; intro y; have := Nat.eq_of_beq_eq_true y; omega) (fun _ _ _ => rfl), fun z => (nI_8 sc8 (((gx_o (by decide)).trans e8).symm.trans z)).elim⟩
  by_cases k8 : 8 ≤ sc
  · exact xb_tn 24 [0, 1] [(0, .ref 0), (1, .int f)] [] h [true] 6 hq rfl ⟨(show xe_c .ge (xg 0 h.2.1 0 8) 8 = true by rw [e8]; exact nge_t (b := 8) (by omega) (by decide) k8), trivial⟩ (fun _ => bad (Or.inl k8))
  have c1 : xe_c .ge (xg 0 h.2.1 0 8) 8 = false := by rw [e8]; exact nge_f (b := 8) (by omega) (by decide) (by omega)
  cases c2 : xe_c .lt f (xg 0 h.2.1 0 10) with
  | true =>
    have b2 : f.toInt < (xg 0 h.2.1 0 10).toInt := a_ce c2
    rw [e10, tdi] at b2
    exact xb_tn 24 [0, 1] [(0, .ref 0), (1, .int f)] [] h [false, true] 10 hq rfl ⟨c1, c2, trivial⟩ (fun _ => bad (Or.inr (Or.inl b2)))
  | false =>
    have b2 : (xg 0 h.2.1 0 10).toInt ≤ f.toInt := a_ce (a_neg_ok c2)
    rw [e10, tdi] at b2
    cases c3 : xe_c .le f 999 with
    | false =>
      have b3 : (999 : Int) < f.toInt := a_ce (a_neg_ok c3)
      exact xb_tn 24 [0, 1] [(0, .ref 0), (1, .int f)] [] h [false, false, false] 13 hq rfl ⟨c1, c2, c3, trivial⟩ (fun _ => bad (Or.inr (Or.inr b3)))
    | true =>
      have f9 : f.toInt ≤ (999 : Int) := a_ce c3
      have nsr : ¬ sref sc td f := by
        rintro (z | z | z) <;> omega
      refine xb_tn 44 [0, 1] [(0, .ref 0), (1, .int f)] [.int (xg 0 h.2.1 0 9), .ref 3] h [false, false, true] 17 hq rfl ⟨c1, c2, c3, trivial⟩ (fun _ => ?_)
      refine xb_voidq (C := aC_m_X4_read) (P := []) (σ := fun _ => 0) as_m_X4_read hq hi rfl rfl rfl (by show 48 ≤ d + 48; omega) ⟨a_av (t := 3) (by decide) hq.1, a_ai mb.1 mb.2, trivial⟩ a_fp0 rfl (fun f => by rw [e9]; exact xq_and (read_q (f := f) hc m12 hq) (read_p (f := f) hc m12 hq)) (fun h1 hx i1 l1 f1 q1 => ?_)
      obtain ⟨⟨-, gx, j, r, hX, hO⟩, hG⟩ := hx
      have cs1 : cst h (xh_ui (xh_ui h1 1 1 (Int32.ofInt 0)) 0 11 (xg 0 (xh_ui h1 1 1 (Int32.ofInt 0)).2.1 3 8)) sc := cst_f (S := fun c k => cU c k || (Nat.beq c 1 || Nat.beq c 0)) (L := fN) (fx_ui (fx_ui (fx_w gx (fun _ _ z => (or_f z).1) (fun _ _ z => z)) rfl) rfl) (fun c k z _ => by rcases z with rfl | z <;> first | rfl | exact cU_72 z) (fun _ _ _ => rfl)
      have hk1 : hk ss_md h h1 := hk_c (hk_0 hi) i1 l1 f1 (by decide)
      have hn1 := hk_n hk1 hn
      have ka : hk ss_md h (xh_ui h1 1 1 (Int32.ofInt 0)) := hk_ui (s := (0, 8)) (lo := 0) (hi := 640) hk1 hn rfl rfl (by decide) (by decide) rfl rfl
      have b38 := a_flx (c := 3) (k := 8) (lo := 0) (hi := 4) ka.1.1 (hk_n ka hn) rfl rfl (by decide)
      have kb : hk ss_md h (xh_ui (xh_ui h1 1 1 (Int32.ofInt 0)) 0 11 (xg 0 (xh_ui h1 1 1 (Int32.ofInt 0)).2.1 3 8)) := hk_ui (s := (0, 9)) (lo := 0) (hi := 4) ka hn rfl rfl b38.1 b38.2 rfl rfl
      have d38 : xg 0 (xh_ui h1 1 1 (Int32.ofInt 0)).2.1 3 8 = xg 0 h1.2.1 3 8 := gx_o (by decide)
      have d8 : xg 0 (xh_ui (xh_ui h1 1 1 (Int32.ofInt 0)) 0 11 (xg 0 (xh_ui h1 1 1 (Int32.ofInt 0)).2.1 3 8)).2.1 0 8 = nI sc := (gx_k (by decide)).trans ((gx_o (by decide)).trans ((fx_i gx rfl).trans e8))
      have d11 : xg 0 (xh_ui (xh_ui h1 1 1 (Int32.ofInt 0)) 0 11 (xg 0 (xh_ui h1 1 1 (Int32.ofInt 0)).2.1 3 8)).2.1 0 11 = xg 0 h1.2.1 3 8 := gx_s.trans d38
      have d1 : xg 0 (xh_ui (xh_ui h1 1 1 (Int32.ofInt 0)) 0 11 (xg 0 (xh_ui h1 1 1 (Int32.ofInt 0)).2.1 3 8)).2.1 1 1 = 0 := (gx_o (by decide)).trans gx_s
      have d7 : xg 0 (xh_ui (xh_ui h1 1 1 (Int32.ofInt 0)) 0 11 (xg 0 (xh_ui h1 1 1 (Int32.ofInt 0)).2.1 3 8)).2.1 3 7 = xg 0 h1.2.1 3 7 := (gx_o (by decide)).trans (gx_o (by decide))
      have d9 : xg 0 (xh_ui (xh_ui h1 1 1 (Int32.ofInt 0)) 0 11 (xg 0 (xh_ui h1 1 1 (Int32.ofInt 0)).2.1 3 8)).2.1 3 9 = xg 0 h1.2.1 3 9 := (gx_o (by decide)).trans (gx_o (by decide))
      cases r with
      | inr e =>
        obtain ⟨k, pl⟩ := e
        obtain ⟨o1, o2⟩ := hO.2 _ _ rfl
        obtain ⟨k1, k4⟩ := Tx_k hX
        refine xb_P (Q1 := fun v h' => hk ss_md h h' ∧ (xg 0 h'.2.1 1 1 = 0 ∧ s9_A T n mem sc td f (xg 0 h.2.1 0 11) v h') ∧ cst h h' sc ∧ cnw h h' T n mem sc f) ?_ (fun v h' z => ⟨hl_hk z.1 hn hp, z.2, by decide, by decide⟩)
        refine xa_tn 82 [] [] [.int ((Int32.ofInt (-1)) - (xg 0 (xh_ui (xh_ui h1 1 1 (Int32.ofInt 0)) 0 11 (xg 0 (xh_ui h1 1 1 (Int32.ofInt 0)).2.1 3 8)).2.1 3 9))] (xh_ui (xh_ui h1 1 1 (Int32.ofInt 0)) 0 11 (xg 0 (xh_ui h1 1 1 (Int32.ofInt 0)).2.1 3 8)) [false] 19 q1 rfl ⟨(show xe_c .eq (xg 0 (xh_ui (xh_ui h1 1 1 (Int32.ofInt 0)) 0 11 (xg 0 (xh_ui h1 1 1 (Int32.ofInt 0)).2.1 3 8)).2.1 0 11) 0 = false by rw [d11, o1]; exact xeq_f (by rw [nI_toInt (by omega)]; show ((k : Nat) : Int) ≠ 0; omega)), trivial⟩ (fun _ => ?_)
        rw [d9, o2]
        exact xp_ret rfl rfl rfl ⟨kb, ⟨d1, fun z => absurd z nsr, fun _ => ⟨j, _, hX, fun _ e => (by cases e), fun _ _ e => by cases e; exact ⟨rfl, d8, d11.trans o1⟩⟩⟩, cs1, fun z => (nI_8 sc8 (d8.symm.trans z)).elim⟩
      | inl m =>
        obtain ⟨o1, o2, o3⟩ := hO.1 _ rfl
        refine xb_tn 83 [0, 1] [(0, .ref 0), (1, .int f)] [] (xh_ui (xh_ui h1 1 1 (Int32.ofInt 0)) 0 11 (xg 0 (xh_ui h1 1 1 (Int32.ofInt 0)).2.1 3 8)) [true] 14 q1 rfl ⟨(show xe_c .eq (xg 0 (xh_ui (xh_ui h1 1 1 (Int32.ofInt 0)) 0 11 (xg 0 (xh_ui h1 1 1 (Int32.ofInt 0)).2.1 3 8)).2.1 0 11) 0 = true by rw [d11, o1]; rfl), trivial⟩ (fun _ => ?_)
        have tg : tx_G T n mem (xh_ui (xh_ui h1 1 1 (Int32.ofInt 0)) 0 11 (xg 0 (xh_ui h1 1 1 (Int32.ofInt 0)).2.1 3 8)) := by
          rcases hG with ⟨P, pt, l4, tv⟩ | ⟨k, k1, k2, k3⟩
          · exact ⟨P, ptx_f (S := fun c k => Nat.beq c 1 || Nat.beq c 0) (L := fN) pt (fx_ui (fx_ui fx_0 rfl) rfl) rfl (fun _ => rfl) (fun _ => rfl), l4, tv⟩
          · rw [o1] at k1
            have k4 := congrArg Int32.toInt k1
            rw [nI_toInt (by omega), nI_toInt (by omega)] at k4
            omega
        have dm : xg 0 (xh_ui (xh_ui h1 1 1 (Int32.ofInt 0)) 0 11 (xg 0 (xh_ui h1 1 1 (Int32.ofInt 0)).2.1 3 8)).2.1 0 9 = nI mem := (gx_k (by decide)).trans ((gx_o (by decide)).trans ((fx_i gx rfl).trans e9))
        have dl : (xh_ui (xh_ui h1 1 1 (Int32.ofInt 0)) 0 11 (xg 0 (xh_ui h1 1 1 (Int32.ofInt 0)).2.1 3 8)).1 = h.1 := gx.1
        generalize xh_ui (xh_ui h1 1 1 (Int32.ofInt 0)) 0 11 (xg 0 (xh_ui h1 1 1 (Int32.ofInt 0)).2.1 3 8) = h2 at kb d8 d11 d1 d7 d9 cs1 tg dm dl ⊢
        obtain ⟨v, h', c, s, r, z1, ⟨⟨z2, z3, z4, z5⟩, cs2, cn2⟩, z6⟩ := s9_new3 (d := d) (m := m) (sc := sc) (f := f) (hk_n kb hn) (by rw [kb.2.1]; exact hp) kb.1 d8 (by omega) (d7.trans o2) f9 m12 dm tg
        refine ⟨v, h', c, s, r, ⟨z1.1, z1.2.1, z1.2.2.1, a_fr_t kb.2.2 z1.2.2.2 (fun _ z => z)⟩, ⟨⟨z3.trans d1, fun z => absurd z nsr, fun _ => ⟨j, _, hX, fun _ e => ?_, fun _ _ e => (by cases e)⟩⟩, cst_t cs1 cs2, by unfold cnw at cn2 ⊢; rw [dl] at cn2; exact cn2⟩, z6⟩
        cases e
        exact ⟨z2, o3, z4, z5.trans (d11.trans o1)⟩
end XSR2
end
section
section XIF
/-- the statute in force: the last of those with the greatest day that has come -/
def iF (FR : Nat → Int32) (ok : Nat → Bool) (d : Int32) : Nat → Option Nat
  | 0 => none
  | k + 1 => (match iF FR ok d k with
    | none => if (ok k && !xe_c .gt (FR k) d) = true then some k else none
    | some j => if (ok k && (!xe_c .gt (FR k) d && !xe_c .lt (FR k) (FR j))) = true then some k else some j)
theorem iF_lt {FR : Nat → Int32} {ok : Nat → Bool} {d : Int32} : ∀ {n j : Nat}, iF FR ok d n = some j → j < n := by
  intro n
  induction n with
  | zero => intro j h; cases h
  | succ n ih =>
    intro j h
    unfold iF at h
    cases e : iF FR ok d n with
    | none =>
      rw [e] at h
      dsimp only at h
      split at h
      · cases h; omega
      · cases h
    | some i =>
      rw [e] at h
      have := ih e
      dsimp only at h
      split at h
      · cases h; omega
      · cases h; omega
theorem iF_c {FR FR' : Nat → Int32} {ok ok' : Nat → Bool} {d : Int32} : ∀ {n : Nat}, (∀ k, k < n → FR k = FR' k) → (∀ k, k < n → ok k = ok' k) → iF FR ok d n = iF FR' ok' d n := by
  intro n
  induction n with
  | zero => intro _ _; rfl
  | succ n ih =>
    intro e1 e2
    have e := ih (fun k hk' => e1 k (by omega)) (fun k hk' => e2 k (by omega))
    unfold iF
    rw [e, e1 n (by omega), e2 n (by omega)]
    cases h : iF FR' ok' d n with
    | none => rfl
    | some j =>
      dsimp only
      rw [e1 j (by have := iF_lt h; omega)]
/-- one statute, in the class and in the reference -/
def st1 (h : xh_H) (mem k : Nat) : Prop := ∃ q, 72 ≤ q ∧ q % 2 = 0 ∧ q + 1 < h.1.length ∧ xg none h.2.2.2 13 k = some q ∧ xg none h.2.2.2 q 1 = some (q + 1) ∧ xg 0 h.2.1 q 0 = xg 0 h.2.1 51 k ∧ 0 ≤ (xg 0 h.2.1 51 k).toInt ∧ ((xg 0 h.2.1 52 k).toInt ≤ (xg 0 h.2.1 51 k).toInt ∧ (xg 0 h.2.1 51 k).toInt ≤ 999) ∧ ∀ s, s < 2 ^ mem → bl (hv h (q + 1) s) = xg 0 h.2.1 44 (4096 * k + s)
/-- the statutes, in the class and in the reference -/
def SI (h : xh_H) : Prop := (xg 0 h.2.1 11 0 = Int32.ofInt (-1) ∧ xg none h.2.2.2 0 2 = some 11 ∧ xg none h.2.2.2 11 1 = some 12) ∧ ∀ mem sc, xg 0 h.2.1 0 9 = nI mem → mem ≤ 12 → xg 0 h.2.1 0 8 = nI sc → sc ≤ 8 → (∀ k, k < sc → st1 h mem k) ∧ ∀ s, s < 4096 → hv h 12 s = decide (s = 2 ^ mem - 1)
theorem st_sh {h : xh_H} {q : Nat} (hi : a_inv a_tb h) (q72 : 72 ≤ q) (qe : q % 2 = 0) (ql : q + 1 < h.1.length) : h.1[q]? = some (0, 7) ∧ h.1[q + 1]? = some (4, 64) := by
  refine ⟨(law_sh hi.1 ⟨by omega, a_tg_e q72 qe⟩).1, ?_⟩
  obtain ⟨s, es⟩ : ∃ s, h.1[q + 1]? = some s := ⟨_, List.getElem?_eq_getElem ql⟩
  obtain ⟨g1, -⟩ := hi.1 (q + 1) s es
  rw [a_tg_o (by omega) (by omega)] at g1
  rw [es]
  exact g1.symm
theorem xe_gi {c pc nL d len rK ri : Nat} {idx : Nat} {lv : List (Nat × Value)} {q : List Value} {h : xh_H} (hs : h.1[c]? = some (0, 7)) : xe_2 none nL (.getfield idx, len, 7, 0, rK, ri) d pc lv (.ref c :: q) h 0 0 = some (pc + 3, lv, .int (xg 0 h.2.1 c 0) :: q, h, 0, 0) := by
  have e1 : xe_1 nL (.getfield idx, len, 7, 0, rK, ri) pc lv (.ref c :: q) h 0 0 = some (pc + 3, lv, .int (xg 0 h.2.1 c 0) :: q, h, 0, 0) := by
    unfold xe_1 xp_r
    try dsimp only
    rw [hs]
    rfl
  unfold xe_2
  rw [e1]
theorem xe_aa {i : Int32} {c n t ra rb pc nL d len rK ri : Nat} {lv : List (Nat × Value)} {q : List Value} {h : xh_H} (hs : h.1[c]? = some (5, n)) (hi : xe_in i n = true) (hg : xg none h.2.2.2 c i.toNatClampNeg = some t) : xe_2 none nL (.aaload, len, ra, rb, rK, ri) d pc lv (.int i :: .ref c :: q) h 0 0 = some (pc + 1, lv, .ref t :: q, h, 0, 0) := by
  have e1 : xe_1 nL (.aaload, len, ra, rb, rK, ri) pc lv (.int i :: .ref c :: q) h 0 0 = some (pc + 1, lv, .ref t :: q, h, 0, 0) := by
    unfold xe_1 xp_ir
    try dsimp only
    rw [hs]
    show (cond (xe_in i n) (some (pc + 1, lv, va_rf (xg none h.2.2.2 c i.toNatClampNeg) :: q, h, 0, 0)) none) = _
    rw [hi, hg]
    rfl
  unfold xe_2
  rw [e1]
/-- where the statute in force lies in the class -/
def fD (h : xh_H) (Q : Nat) (o : Option Nat) : Prop := h.1[Q]? = some (0, 7) ∧ ((o = none ∧ Q = 11 ∧ xg 0 h.2.1 Q 0 = Int32.ofInt (-1)) ∨ ∃ j, o = some j ∧ xg none h.2.2.2 13 j = some Q ∧ xg 0 h.2.1 Q 0 = xg 0 h.2.1 51 j)
set_option maxRecDepth 100000 in
set_option maxHeartbeats 4000000 in
theorem if9_lp {h : xh_H} {mem sc : Nat} {d : Int32} (hi : a_inv a_tb h) (e8 : xg 0 h.2.1 0 8 = nI sc) (sc8 : sc ≤ 8) (S : ∀ k, k < sc → st1 h mem k) (hq : a_rq a_tb h) : ∀ (f i Q : Nat), i ≤ sc → fD h Q (iF (fun k => xg 0 h.2.1 51 k) (fun _ => true) d i) → xq f xi_X9_inForce xmi_X9_inForce 7 [(0, .ref 0), (1, .int d), (2, .ref Q), (3, .int (nI i))] [] h (fun v h' => h = h' ∧ ∃ Q, v = some (.ref Q) ∧ fD h Q (iF (fun k => xg 0 h.2.1 51 k) (fun _ => true) d sc)) := by
  intro f
  induction f with
  | zero => intros; exact xq_0
  | succ f ih =>
    intro i Q hi' fd
    by_cases e : i = sc
    · refine xq_m 59 [] [] [.ref Q] h [true] 6 hq rfl ⟨(show xe_c .ge (nI i) (xg 0 h.2.1 0 8) = true by rw [e8, e]; exact decide_eq_true (Int32.le_refl _)), trivial⟩ (fun _ => ?_)
      rw [e] at fd
      exact xq_ret rfl rfl rfl ⟨rfl, Q, rfl, fd⟩
    · have il : i < sc := by omega
      obtain ⟨q, q72, qe, ql, q1, q2, q3, q4, q5, q6⟩ := S i il
      obtain ⟨hs, hr⟩ := st_sh hi q72 qe ql
      have s13 : h.1[13]? = some (5, 8) := hq.2.1 13 _ rfl
      refine xq_m 20 [0, 1, 2, 3] [(0, .ref 0), (1, .int d), (2, .ref Q), (3, .int (nI i))] [.int (nI i), .ref 13] h [false] 8 hq rfl ⟨(show xe_c .ge (nI i) (xg 0 h.2.1 0 8) = false by rw [e8]; exact nge_f (by omega) (by omega) il), trivial⟩ (fun _ => ?_)
      refine xq_st rfl rfl (fun _ _ => xe_aa s13 (xin_n (by omega) (by omega)) (by rw [nI_clamp (by omega)]; exact q1)) ?_
      refine xq_n 25 [0, 1, 2, 3, 4] [(0, .ref 0), (1, .int d), (2, .ref Q), (3, .int (nI i)), (4, .ref q)] [.ref q] h [] 4 hq rfl trivial (fun _ => ?_)
      refine xq_st (pc1 := 28) (st1 := []) (h1 := h) rfl rfl (fun _ _ => rfl) ?_
      refine xq_n 30 [0, 1, 2, 3, 4] [(0, .ref 0), (1, .int d), (2, .ref Q), (3, .int (nI i)), (4, .ref q)] [.ref q] h [] 3 hq rfl trivial (fun _ => ?_)
      refine xq_st rfl rfl (fun _ _ => xe_gi hs) ?_
      have EU : iF (fun k => xg 0 h.2.1 51 k) (fun _ => true) d (i + 1) = (match iF (fun k => xg 0 h.2.1 51 k) (fun _ => true) d i with
        | none => if (true && !xe_c .gt (xg 0 h.2.1 51 i) d) = true then some i else none
        | some j => if (true && (!xe_c .gt (xg 0 h.2.1 51 i) d && !xe_c .lt (xg 0 h.2.1 51 i) (xg 0 h.2.1 51 j))) = true then some i else some j) := rfl
      have nx : nI i + Int32.ofInt 1 = nI (i + 1) := nI_1 i
      cases c1 : xe_c .gt (xg 0 h.2.1 51 i) d with
      | true =>
        refine xq_n 7 [0, 1, 2, 3] [(0, .ref 0), (1, .int d), (2, .ref Q), (3, .int ((nI i) + Int32.ofInt 1))] [] h [true] 6 hq rfl ⟨(show xe_c .gt (xg 0 h.2.1 q 0) d = true by rw [q3]; exact c1), trivial⟩ (fun _ => ?_)
        rw [nx]
        refine ih (i + 1) Q il ?_
        rw [EU]
        cases hI : iF (fun k => xg 0 h.2.1 51 k) (fun _ => true) d i with
        | none => rw [hI] at fd; dsimp only; rw [c1]; exact fd
        | some j => rw [hI] at fd; dsimp only; rw [c1]; exact fd
      | false =>
        refine xq_n 39 [0, 1, 2, 3, 4] [(0, .ref 0), (1, .int d), (2, .ref Q), (3, .int (nI i)), (4, .ref q)] [.ref q] h [false] 5 hq rfl ⟨(show xe_c .gt (xg 0 h.2.1 q 0) d = false by rw [q3]; exact c1), trivial⟩ (fun _ => ?_)
        refine xq_st rfl rfl (fun _ _ => xe_gi hs) ?_
        refine xq_n 43 [0, 1, 2, 3, 4] [(0, .ref 0), (1, .int d), (2, .ref Q), (3, .int (nI i)), (4, .ref q)] [.ref Q, .int (xg 0 h.2.1 q 0)] h [] 3 hq rfl trivial (fun _ => ?_)
        refine xq_st rfl rfl (fun _ _ => xe_gi fd.1) ?_
        rw [q3]
        cases c2 : xe_c .lt (xg 0 h.2.1 51 i) (xg 0 h.2.1 Q 0) with
        | true =>
          refine xq_n 7 [0, 1, 2, 3] [(0, .ref 0), (1, .int d), (2, .ref Q), (3, .int ((nI i) + Int32.ofInt 1))] [] h [true] 5 hq rfl ⟨c2, trivial⟩ (fun _ => ?_)
          rw [nx]
          refine ih (i + 1) Q il ?_
          rw [EU]
          rcases fd with ⟨f0, ⟨f1, f2, f3⟩ | ⟨j, f1, f2, f3⟩⟩
          · rw [f3] at c2
            have := a_ce c2
            have e1 : (Int32.ofInt (-1)).toInt = -1 := rfl
            have this : (xg 0 h.2.1 51 i).toInt < (Int32.ofInt (-1)).toInt := this
            rw [e1] at this
            omega
          · rw [f1]
            dsimp only
            rw [f3] at c2
            rw [c2, Bool.not_true, Bool.and_false, Bool.and_false]
            exact ⟨f0, Or.inr ⟨j, rfl, f2, f3⟩⟩
        | false =>
          refine xq_n 7 [0, 1, 2, 3] [(0, .ref 0), (1, .int d), (2, .ref q), (3, .int ((nI i) + Int32.ofInt 1))] [] h [false] 7 hq rfl ⟨c2, trivial⟩ (fun _ => ?_)
          rw [nx]
          refine ih (i + 1) q il ?_
          rw [EU]
          refine ⟨hs, Or.inr ⟨i, ?_, q1, q3⟩⟩
          rcases fd with ⟨f0, ⟨f1, f2, f3⟩ | ⟨j, f1, f2, f3⟩⟩
          · rw [f1]
            dsimp only
            rw [c1]
            rfl
          · rw [f1]
            dsimp only
            rw [f3] at c2
            rw [c1, c2]
            rfl
set_option maxRecDepth 100000 in
/-- CarryHouse.inForce -/
theorem if9_q {f : Nat} {h : xh_H} {mem sc : Nat} {d : Int32} (hi : a_inv a_tb h) (e8 : xg 0 h.2.1 0 8 = nI sc) (sc8 : sc ≤ 8) (u : xg 0 h.2.1 11 0 = Int32.ofInt (-1)) (u2 : xg none h.2.2.2 0 2 = some 11) (S : ∀ k, k < sc → st1 h mem k) (hq : a_rq a_tb h) : xq f xi_X9_inForce xmi_X9_inForce 0 [(0, .ref 0), (1, .int d)] [] h (fun v h' => h = h' ∧ ∃ Q, v = some (.ref Q) ∧ fD h Q (iF (fun k => xg 0 h.2.1 51 k) (fun _ => true) d sc)) := by
  refine xq_n 1 [0, 1] [(0, .ref 0), (1, .int d)] [.ref 0] h [] 3 hq rfl trivial (fun _ => ?_)
  refine xq_st rfl rfl (fun _ _ => xe_gr (hq.2.1 0 _ rfl) rfl u2) ?_
  refine xq_n 7 [0, 1, 2, 3] [(0, .ref 0), (1, .int d), (2, .ref 11), (3, .int (Int32.ofInt 0))] [] h [] 5 hq rfl trivial (fun _ => ?_)
  exact if9_lp hi e8 sc8 S hq f 0 11 (Nat.zero_le _) ⟨hq.2.1 11 _ rfl, Or.inl ⟨rfl, rfl, u⟩⟩
/-- whether a set carries by the statute in force -/
def cvo (RW : Nat → Int32) (mem s : Nat) (o : Option Nat) : Bool := match o with
  | none => decide (s = 2 ^ mem - 1)
  | some k => decide (RW (4096 * k + s) = 1)
def cvB (FR RW : Nat → Int32) (mem sc : Nat) (d : Int32) (s : Nat) : Bool := cvo RW mem s (iF FR (fun _ => true) d sc)
theorem cvB_c {FR FR' RW RW' : Nat → Int32} {mem sc s : Nat} {d : Int32} (e1 : ∀ k, k < sc → FR k = FR' k) (e2 : ∀ k, RW k = RW' k) : cvB FR RW mem sc d s = cvB FR' RW' mem sc d s := by
  unfold cvB
  rw [iF_c e1 (fun _ _ => rfl)]
  cases iF FR' (fun _ => true) d sc with
  | none => rfl
  | some k => unfold cvo; dsimp only; rw [e2]
theorem hv_cv {h : xh_H} {mem sc s Q : Nat} {d : Int32} (hi : a_inv a_tb h) (m12 : mem ≤ 12) (S : ∀ k, k < sc → st1 h mem k) (un : ∀ s, s < 4096 → hv h 12 s = decide (s = 2 ^ mem - 1)) (u3 : xg none h.2.2.2 11 1 = some 12) (hq : a_rq a_tb h) (hs : s < 2 ^ mem) (fd : fD h Q (iF (fun k => xg 0 h.2.1 51 k) (fun _ => true) d sc)) : ∃ r, xg none h.2.2.2 Q 1 = some r ∧ h.1[r]? = some (4, 64) ∧ hv h r s = cvB (fun k => xg 0 h.2.1 51 k) (fun k => xg 0 h.2.1 44 k) mem sc d s := by
  have p12 : 2 ^ mem ≤ 4096 := show 2 ^ mem ≤ 2 ^ 12 from Nat.pow_le_pow_right (by decide) m12
  unfold cvB
  rcases fd with ⟨f0, ⟨f1, f2, f3⟩ | ⟨j, f1, f2, f3⟩⟩
  · refine ⟨12, by rw [f2]; exact u3, hq.2.1 12 _ rfl, ?_⟩
    rw [f1]
    exact un s (by omega)
  · obtain ⟨q, q72, qe, ql, q1, q2, q3, q4, q5, q6⟩ := S j (iF_lt f1)
    rw [q1] at f2
    obtain rfl : q = Q := Option.some.inj f2
    refine ⟨q + 1, q2, (st_sh hi q72 qe ql).2, ?_⟩
    rw [f1]
    show hv h (q + 1) s = decide (xg 0 h.2.1 44 (4096 * j + s) = 1)
    rw [← q6 s hs]
    cases hv h (q + 1) s <;> rfl
/-- what the reference's inForce answers -/
def oN (o : Option Nat) : Int32 := match o with
  | none => Int32.ofInt (-1)
  | some k => nI k
set_option maxRecDepth 100000 in
set_option maxHeartbeats 4000000 in
theorem if10_lp {h : xh_H} {sc : Nat} {FR TD : Nat → Int32} {d t : Int32} (e33 : xg 0 h.2.1 39 33 = nI sc) (sc8 : sc ≤ 8) (hF : ∀ k, k < sc → xg 0 h.2.1 51 k = FR k) (hT : ∀ k, k < sc → xg 0 h.2.1 52 k = TD k) (hq : a_rq a_tb h) : ∀ (f i : Nat), i ≤ sc → xq f xi_X10_inForce xmi_X10_inForce 5 [(0, .ref 39), (1, .int d), (2, .int t), (3, .int (oN (iF FR (fun k => !xe_c .gt (TD k) t) d i))), (4, .int (nI i))] [] h (fun v h' => h = h' ∧ v = some (.int (oN (iF FR (fun k => !xe_c .gt (TD k) t) d sc)))) := by
  intro f
  induction f with
  | zero => intros; exact xq_0
  | succ f ih =>
    intro i hi'
    by_cases e : i = sc
    · refine xq_m 67 [] [] [.int (oN (iF FR (fun k => !xe_c .gt (TD k) t) d i))] h [true] 6 hq rfl ⟨(show xe_c .ge (nI i) (xg 0 h.2.1 39 33) = true by rw [e33, e]; exact decide_eq_true (Int32.le_refl _)), trivial⟩ (fun _ => ?_)
      rw [e]
      exact xq_ret rfl rfl rfl ⟨rfl, rfl⟩
    · have il : i < sc := by omega
      have r52 : xg 0 h.2.1 52 (nI i).toNatClampNeg = TD i := by rw [nI_clamp (by omega)]; exact hT i il
      have r51 : xg 0 h.2.1 51 (nI i).toNatClampNeg = FR i := by rw [nI_clamp (by omega)]; exact hF i il
      have g0 : xe_c .ge (nI i) (xg 0 h.2.1 39 33) = false := by rw [e33]; exact nge_f (by omega) (by omega) il
      have nx : nI i + Int32.ofInt 1 = nI (i + 1) := nI_1 i
      have EU : iF FR (fun k => !xe_c .gt (TD k) t) d (i + 1) = (match iF FR (fun k => !xe_c .gt (TD k) t) d i with
        | none => if (!xe_c .gt (TD i) t && !xe_c .gt (FR i) d) = true then some i else none
        | some j => if (!xe_c .gt (TD i) t && (!xe_c .gt (FR i) d && !xe_c .lt (FR i) (FR j))) = true then some i else some j) := rfl
      cases c1 : xe_c .gt (TD i) t with
      | true =>
        refine xq_m 5 [0, 1, 2, 3, 4] [(0, .ref 39), (1, .int d), (2, .int t), (3, .int (oN (iF FR (fun k => !xe_c .gt (TD k) t) d i))), (4, .int ((nI i) + Int32.ofInt 1))] [] h [false, true] 14 hq rfl ⟨g0, (show xe_c .gt (xg 0 h.2.1 52 (nI i).toNatClampNeg) t = true by rw [r52]; exact c1), trivial⟩ (fun _ => ?_)
        rw [nx, show iF FR (fun k => !xe_c .gt (TD k) t) d i = iF FR (fun k => !xe_c .gt (TD k) t) d (i + 1) from by rw [EU]; cases iF FR (fun k => !xe_c .gt (TD k) t) d i <;> (dsimp only; rw [c1]; rfl)]
        exact ih (i + 1) il
      | false =>
        cases c2 : xe_c .gt (FR i) d with
        | true =>
          refine xq_m 5 [0, 1, 2, 3, 4] [(0, .ref 39), (1, .int d), (2, .int t), (3, .int (oN (iF FR (fun k => !xe_c .gt (TD k) t) d i))), (4, .int ((nI i) + Int32.ofInt 1))] [] h [false, false, true] 20 hq rfl ⟨g0, (show xe_c .gt (xg 0 h.2.1 52 (nI i).toNatClampNeg) t = false by rw [r52]; exact c1), (show xe_c .gt (xg 0 h.2.1 51 (nI i).toNatClampNeg) d = true by rw [r51]; exact c2), trivial⟩ (fun _ => ?_)
          rw [nx, show iF FR (fun k => !xe_c .gt (TD k) t) d i = iF FR (fun k => !xe_c .gt (TD k) t) d (i + 1) from by rw [EU]; cases iF FR (fun k => !xe_c .gt (TD k) t) d i <;> (dsimp only; rw [c1, c2]; rfl)]
          exact ih (i + 1) il
        | false =>
          cases hI : iF FR (fun k => !xe_c .gt (TD k) t) d i with
          | none =>
            refine xq_m 5 [0, 1, 2, 3, 4] [(0, .ref 39), (1, .int d), (2, .int t), (3, .int (nI i)), (4, .int ((nI i) + Int32.ofInt 1))] [] h [false, false, false, true] 24 hq rfl ⟨g0, (show xe_c .gt (xg 0 h.2.1 52 (nI i).toNatClampNeg) t = false by rw [r52]; exact c1), (show xe_c .gt (xg 0 h.2.1 51 (nI i).toNatClampNeg) d = false by rw [r51]; exact c2), (show xe_c .eq (Int32.ofInt (-1)) (Int32.ofInt (-1)) = true from rfl), trivial⟩ (fun _ => ?_)
            rw [nx]
            have e2 : iF FR (fun k => !xe_c .gt (TD k) t) d (i + 1) = some i := by rw [EU, hI]; dsimp only; rw [c1, c2]; rfl
            have r := ih (i + 1) il
            rw [e2] at r
            exact r
          | some j =>
            have jl := iF_lt hI
            have r5j : xg 0 h.2.1 51 (nI j).toNatClampNeg = FR j := by rw [nI_clamp (by omega)]; exact hF j (by omega)
            have n1 : xe_c .eq (nI j) (Int32.ofInt (-1)) = false := decide_eq_false (fun z => nIm1 (by omega) z)
            cases c3 : xe_c .lt (FR i) (FR j) with
            | true =>
              refine xq_m 5 [0, 1, 2, 3, 4] [(0, .ref 39), (1, .int d), (2, .int t), (3, .int (nI j)), (4, .int ((nI i) + Int32.ofInt 1))] [] h [false, false, false, false, true] 31 hq rfl ⟨g0, (show xe_c .gt (xg 0 h.2.1 52 (nI i).toNatClampNeg) t = false by rw [r52]; exact c1), (show xe_c .gt (xg 0 h.2.1 51 (nI i).toNatClampNeg) d = false by rw [r51]; exact c2), n1, (show xe_c .lt (xg 0 h.2.1 51 (nI i).toNatClampNeg) (xg 0 h.2.1 51 (nI j).toNatClampNeg) = true by rw [r51, r5j]; exact c3), trivial⟩ (fun _ => ?_)
              rw [nx]
              have e2 : iF FR (fun k => !xe_c .gt (TD k) t) d (i + 1) = some j := by rw [EU, hI]; dsimp only; rw [c1, c2, c3]; rfl
              have r := ih (i + 1) il
              rw [e2] at r
              exact r
            | false =>
              refine xq_m 5 [0, 1, 2, 3, 4] [(0, .ref 39), (1, .int d), (2, .int t), (3, .int (nI i)), (4, .int ((nI i) + Int32.ofInt 1))] [] h [false, false, false, false, false] 36 hq rfl ⟨g0, (show xe_c .gt (xg 0 h.2.1 52 (nI i).toNatClampNeg) t = false by rw [r52]; exact c1), (show xe_c .gt (xg 0 h.2.1 51 (nI i).toNatClampNeg) d = false by rw [r51]; exact c2), n1, (show xe_c .lt (xg 0 h.2.1 51 (nI i).toNatClampNeg) (xg 0 h.2.1 51 (nI j).toNatClampNeg) = false by rw [r51, r5j]; exact c3), trivial⟩ (fun _ => ?_)
              rw [nx]
              have e2 : iF FR (fun k => !xe_c .gt (TD k) t) d (i + 1) = some i := by rw [EU, hI]; dsimp only; rw [c1, c2, c3]; rfl
              have r := ih (i + 1) il
              rw [e2] at r
              exact r
set_option maxRecDepth 100000 in
/-- X10.inForce -/
theorem if10_q {f : Nat} {h : xh_H} {sc : Nat} {FR TD : Nat → Int32} {d t : Int32} (e33 : xg 0 h.2.1 39 33 = nI sc) (sc8 : sc ≤ 8) (hF : ∀ k, k < sc → xg 0 h.2.1 51 k = FR k) (hT : ∀ k, k < sc → xg 0 h.2.1 52 k = TD k) (hq : a_rq a_tb h) : xq f xi_X10_inForce xmi_X10_inForce 0 [(0, .ref 39), (1, .int d), (2, .int t)] [] h (fun v h' => h = h' ∧ v = some (.int (oN (iF FR (fun k => !xe_c .gt (TD k) t) d sc)))) := by
  refine xq_n 5 [0, 1, 2, 3, 4] [(0, .ref 39), (1, .int d), (2, .int t), (3, .int (Int32.ofInt (-1))), (4, .int (Int32.ofInt 0))] [] h [] 6 hq rfl trivial (fun _ => ?_)
  exact if10_lp e33 sc8 hF hT hq f 0 (Nat.zero_le _)
set_option maxRecDepth 100000 in
set_option maxHeartbeats 4000000 in
/-- X10.carriesBy -/
theorem cb10_q {f : Nat} {h : xh_H} {mem s : Nat} {o : Option Nat} {RW : Nat → Int32} (e4 : xg 0 h.2.1 39 4 = nI mem) (m12 : mem ≤ 12) (hs : s < 4096) (ho : ∀ k, o = some k → k < 8 ∧ ∃ b : Bool, RW (4096 * k + s) = bl b ∧ xg 0 h.2.1 44 (4096 * k + s) = bl b) (hq : a_rq a_tb h) : xq f xi_X10_carriesBy xmi_X10_carriesBy 0 [(0, .ref 39), (1, .int (oN o)), (2, .int (nI s))] [] h (fun v h' => h = h' ∧ v = some (.int (bl (cvo RW mem s o)))) := by
  have p12 : 2 ^ mem ≤ 4096 := show 2 ^ mem ≤ 2 ^ 12 from Nat.pow_le_pow_right (by decide) m12
  have p0 := Nat.two_pow_pos mem
  cases o with
  | none =>
    have em : Int32.ofInt 1 <<< (xg 0 h.2.1 39 4 &&& 31) - Int32.ofInt 1 = nI (2 ^ mem - 1) := by rw [e4, sh1 mem (by omega)]; exact nI_sub (b := 1) (by omega)
    by_cases z : s = 2 ^ mem - 1
    · refine xq_n 37 [] [] [.int (Int32.ofInt 1)] h [false, false] 20 hq rfl ⟨(show xe_c .ne (Int32.ofInt (-1)) (Int32.ofInt (-1)) = false from rfl), (show xe_c .ne (nI s) (Int32.ofInt 1 <<< (xg 0 h.2.1 39 4 &&& 31) - Int32.ofInt 1) = false by rw [em, z]; show (!decide (nI (2 ^ mem - 1) = nI (2 ^ mem - 1))) = false; rw [decide_eq_true rfl]; rfl), trivial⟩ (fun _ => ?_)
      exact xq_ret rfl rfl rfl ⟨rfl, by unfold cvo; dsimp only; rw [decide_eq_true z]; rfl⟩
    · refine xq_n 37 [] [] [.int (Int32.ofInt 0)] h [false, true] 20 hq rfl ⟨(show xe_c .ne (Int32.ofInt (-1)) (Int32.ofInt (-1)) = false from rfl), (show xe_c .ne (nI s) (Int32.ofInt 1 <<< (xg 0 h.2.1 39 4 &&& 31) - Int32.ofInt 1) = true by rw [em]; show (!decide (nI s = nI (2 ^ mem - 1))) = true; rw [decide_eq_false (fun y => z (by have y2 := congrArg Int32.toInt y; rw [nI_toInt (by omega), nI_toInt (by omega)] at y2; omega))]; rfl), trivial⟩ (fun _ => ?_)
      exact xq_ret rfl rfl rfl ⟨rfl, by unfold cvo; dsimp only; rw [decide_eq_false z]; rfl⟩
  | some k =>
    obtain ⟨k8, b, e1, e2⟩ := ho k rfl
    refine xq_n 37 [] [] [.int (xg 0 h.2.1 44 ((4096 * (nI k)) + (nI s)).toNatClampNeg)] h [true] 12 hq rfl ⟨(show xe_c .ne (nI k) (Int32.ofInt (-1)) = true by show (!decide (nI k = Int32.ofInt (-1))) = true; rw [decide_eq_false (nIm1 (by omega))]; rfl), trivial⟩ (fun _ => ?_)
    rw [show 4096 * nI k + nI s = nI (4096 * k + s) from idx_a, nI_clamp (by omega), e2]
    exact xq_ret rfl rfl rfl ⟨rfl, by unfold cvo; dsimp only; rw [e1]; cases b <;> rfl⟩
end XIF
end
section
section XCA
/-- what carries answers -/
def caV (FR RW : Nat → Int32) (mem sc : Nat) (x d : Int32) : Int32 := cond ((!xe_c .lt x 0 && !xe_c .ge x (Int32.ofInt 1 <<< (nI mem &&& 31))) && (!xe_c .lt d 0 && xe_c .le d 999)) (bl (cvB FR RW mem sc d x.toInt.toNat)) (Int32.ofInt (-1))
theorem inS_n {x : Int32} {mem : Nat} (m12 : mem ≤ 12) (h : (!xe_c .lt x 0 && !xe_c .ge x (Int32.ofInt 1 <<< (nI mem &&& 31))) = true) : ∃ s, x = nI s ∧ s < 2 ^ mem ∧ x.toInt.toNat = s := by
  simp only [Bool.and_eq_true, Bool.not_eq_true'] at h
  have p12 : 2 ^ mem ≤ 4096 := show 2 ^ mem ≤ 2 ^ 12 from Nat.pow_le_pow_right (by decide) m12
  have b1 : (0 : Int) ≤ x.toInt := a_ce (a_neg_ok h.1)
  have h2 := h.2
  rw [sh1 mem (by omega)] at h2
  have b2 : x.toInt < (nI (2 ^ mem)).toInt := a_ce (a_neg_ok h2)
  rw [nI_toInt (by omega)] at b2
  exact ⟨x.toInt.toNat, en_n (t := 0) (by omega), by omega, rfl⟩
set_option maxRecDepth 100000 in
set_option maxHeartbeats 4000000 in
theorem ca9_q {f mem sc : Nat} {x d : Int32} {h : xh_H} (hi : a_inv a_tb h) (e9 : xg 0 h.2.1 0 9 = nI mem) (m12 : mem ≤ 12) (e8 : xg 0 h.2.1 0 8 = nI sc) (sc8 : sc ≤ 8) (si : SI h) (hq : a_rq a_tb h) : xq f xi_X9_carries xmi_X9_carries 0 [(0, .ref 0), (1, .int x), (2, .int d)] [] h (fun v h' => v = some (.int (caV (fun k => xg 0 h.2.1 51 k) (fun k => xg 0 h.2.1 44 k) mem sc x d))) := by
  obtain ⟨⟨u1, u2, u3⟩, si⟩ := si
  obtain ⟨S, un⟩ := si mem sc e9 m12 e8 sc8
  have p12 : 2 ^ mem ≤ 4096 := show 2 ^ mem ≤ 2 ^ 12 from Nat.pow_le_pow_right (by decide) m12
  refine xq_n 2 [0, 1, 2] [(0, .ref 0), (1, .int x), (2, .int d)] [.int x, .ref 0] h [] 4 hq rfl trivial (fun _ => ?_)
  refine xq_run hq rfl rfl (set9_q (x := x) (z := nI mem) e9 hq) ?_
  rintro v h1 ⟨rfl, rfl⟩
  unfold caV
  cases hB : (!xe_c .lt x 0 && !xe_c .ge x (Int32.ofInt 1 <<< (nI mem &&& 31))) with
  | false =>
    refine xq_n 20 [] [] [.int (Int32.ofInt (-1))] h [true] 4 hq rfl ⟨rfl, trivial⟩ (fun _ => ?_)
    exact xq_ret rfl rfl rfl rfl
  | true =>
    cases c1 : xe_c .lt d 0 with
    | true =>
      refine xq_n 20 [] [] [.int (Int32.ofInt (-1))] h [false, true] 7 hq rfl ⟨rfl, c1, trivial⟩ (fun _ => ?_)
      exact xq_ret rfl rfl rfl rfl
    | false =>
      cases c2 : xe_c .le d 999 with
      | false =>
        refine xq_n 20 [] [] [.int (Int32.ofInt (-1))] h [false, false, false] 10 hq rfl ⟨rfl, c1, c2, trivial⟩ (fun _ => ?_)
        exact xq_ret rfl rfl rfl rfl
      | true =>
        obtain ⟨s, rfl, hs, es⟩ := inS_n m12 hB
        rw [es]
        refine xq_n 23 [0, 1, 2] [(0, .ref 0), (1, .int (nI s)), (2, .int d)] [.int d, .ref 0] h [false, false, true] 11 hq rfl ⟨rfl, c1, c2, trivial⟩ (fun _ => ?_)
        refine xq_run hq rfl rfl (if9_q hi e8 sc8 u1 u2 S hq) ?_
        rintro v h1 ⟨rfl, Q, rfl, fd⟩
        obtain ⟨r, g1, g2, g3⟩ := hv_cv hi m12 S un u3 hq hs fd
        refine xq_n 27 [1] [(1, .int (nI s))] [.int (nI s), .ref Q] h [] 3 hq rfl trivial (fun _ => ?_)
        refine xq_cr (As := [.ref Q, .int (nI s)]) (mj := xmi_X7_holds) (q := []) rfl rfl (fun _ _ => rfl) (xa_cs_ok (d := 0) (pc := 0) (lv := []) (nL := 0) fd.1 rfl).1 (fun f => xq_of (d := 0) ⟨_, rfl⟩ (ho_run hq fd.1 g1 g2 (by omega))) ?_
        rintro v h1 ⟨rfl, rfl⟩
        rw [g3]
        cases cvB (fun k => xg 0 h.2.1 51 k) (fun k => xg 0 h.2.1 44 k) mem sc d s with
        | true =>
          refine xq_n 38 [] [] [.int (Int32.ofInt 1)] h [false] 5 hq rfl ⟨rfl, trivial⟩ (fun _ => ?_)
          exact xq_ret rfl rfl rfl rfl
        | false =>
          refine xq_n 38 [] [] [.int (Int32.ofInt 0)] h [true] 5 hq rfl ⟨rfl, trivial⟩ (fun _ => ?_)
          exact xq_ret rfl rfl rfl rfl
/-- the told days are no later than the last day -/
theorem iF_td {FR TD : Nat → Int32} {d : Int32} {sc : Nat} (h : ∀ k, k < sc → (TD k).toInt ≤ 999) : iF FR (fun k => !xe_c .gt (TD k) 999) d sc = iF FR (fun _ => true) d sc := iF_c (fun _ _ => rfl) (fun k hk' => by
  rw [show xe_c .gt (TD k) 999 = false from xgt_f (by have := h k hk'; show (TD k).toInt ≤ 999; omega)]
  rfl)
set_option maxRecDepth 100000 in
set_option maxHeartbeats 4000000 in
theorem ca10_q {f mem sc : Nat} {x d : Int32} {FR RW : Nat → Int32} {h : xh_H} (e4 : xg 0 h.2.1 39 4 = nI mem) (m12 : mem ≤ 12) (e33 : xg 0 h.2.1 39 33 = nI sc) (sc8 : sc ≤ 8) (hF : ∀ k, k < sc → xg 0 h.2.1 51 k = FR k) (hT : ∀ k, k < sc → (xg 0 h.2.1 52 k).toInt ≤ 999) (hR : ∀ k s, k < sc → s < 2 ^ mem → ∃ b : Bool, RW (4096 * k + s) = bl b ∧ xg 0 h.2.1 44 (4096 * k + s) = bl b) (hq : a_rq a_tb h) : xq f xi_X10_carries xmi_X10_carries 0 [(0, .ref 39), (1, .int x), (2, .int d)] [] h (fun v h' => v = some (.int (caV FR RW mem sc x d))) := by
  have p12 : 2 ^ mem ≤ 4096 := show 2 ^ mem ≤ 2 ^ 12 from Nat.pow_le_pow_right (by decide) m12
  refine xq_n 7 [0, 1, 2] [(0, .ref 39), (1, .int x), (2, .int d)] [.int x, .ref 39] (xh_ui h 39 0 (Int32.ofInt 0)) [] 7 hq rfl trivial (fun _ => ?_)
  have hq : a_rq a_tb (xh_ui h 39 0 (Int32.ofInt 0)) := a_rq_ui hq
  have d4 : xg 0 (xh_ui h 39 0 (Int32.ofInt 0)).2.1 39 4 = nI mem := (gx_k (by decide)).trans e4
  have d33 : xg 0 (xh_ui h 39 0 (Int32.ofInt 0)).2.1 39 33 = nI sc := (gx_k (by decide)).trans e33
  have dF : ∀ k, k < sc → xg 0 (xh_ui h 39 0 (Int32.ofInt 0)).2.1 51 k = FR k := fun k hk' => (gx_o (by decide)).trans (hF k hk')
  have dT : ∀ k, k < sc → (xg 0 (xh_ui h 39 0 (Int32.ofInt 0)).2.1 52 k).toInt ≤ 999 := fun k hk' => by rw [gx_o (by decide)]; exact hT k hk'
  have dR : ∀ k s, k < sc → s < 2 ^ mem → ∃ b : Bool, RW (4096 * k + s) = bl b ∧ xg 0 (xh_ui h 39 0 (Int32.ofInt 0)).2.1 44 (4096 * k + s) = bl b := fun k s h1 h2 => by
    obtain ⟨b, b1, b2⟩ := hR k s h1 h2
    exact ⟨b, b1, (gx_o (by decide)).trans b2⟩
  generalize xh_ui h 39 0 (Int32.ofInt 0) = h0 at hq d4 d33 dF dT dR ⊢
  refine xq_run hq rfl rfl (set10_q (x := x) (z := nI mem) d4 hq) ?_
  rintro v h1 ⟨rfl, rfl⟩
  unfold caV
  cases hB : (!xe_c .lt x 0 && !xe_c .ge x (Int32.ofInt 1 <<< (nI mem &&& 31))) with
  | false =>
    refine xq_n 25 [] [] [.int (Int32.ofInt (-1))] h0 [true] 4 hq rfl ⟨rfl, trivial⟩ (fun _ => ?_)
    exact xq_ret rfl rfl rfl rfl
  | true =>
    obtain ⟨s, rfl, hs, es⟩ := inS_n m12 hB
    rw [es]
    refine xq_n 18 [0, 1, 2] [(0, .ref 39), (1, .int (nI s)), (2, .int d)] [.int 999, .int (Int32.ofInt 0), .int d] h0 [false] 6 hq rfl ⟨rfl, trivial⟩ (fun _ => ?_)
    refine xq_run hq rfl rfl (isIn_q hq) ?_
    rintro v h1 ⟨rfl, rfl⟩
    rw [in_c]
    cases hD : (!xe_c .lt d (Int32.ofInt 0) && xe_c .le d 999) with
    | false =>
      have hD' : (!xe_c .lt d 0 && xe_c .le d 999) = false := hD
      rw [hD']
      refine xq_n 25 [] [] [.int (Int32.ofInt (-1))] h0 [false] 4 hq rfl ⟨rfl, trivial⟩ (fun _ => ?_)
      exact xq_ret rfl rfl rfl rfl
    | true =>
      have hD' : (!xe_c .lt d 0 && xe_c .le d 999) = true := hD
      rw [hD']
      refine xq_n 32 [0, 1, 2] [(0, .ref 39), (1, .int (nI s)), (2, .int d)] [.int 999, .int d, .ref 39, .ref 39] h0 [true] 7 hq rfl ⟨rfl, trivial⟩ (fun _ => ?_)
      refine xq_run hq rfl rfl (if10_q (d := d) (t := 999) (TD := fun k => xg 0 h0.2.1 52 k) d33 sc8 dF (fun _ _ => rfl) hq) ?_
      rintro v h1 ⟨rfl, rfl⟩
      rw [iF_td dT]
      refine xq_n 36 [] [] [.int (nI s), .int (oN (iF FR (fun _ => true) d sc)), .ref 39] h0 [] 3 hq rfl trivial (fun _ => ?_)
      refine xq_run hq rfl rfl (cb10_q (RW := RW) d4 m12 (by omega) (fun k e => ⟨by have := iF_lt e; omega, dR k s (iF_lt e) hs⟩) hq) ?_
      rintro v h1 ⟨rfl, rfl⟩
      unfold cvB
      cases cvo RW mem s (iF FR (fun _ => true) d sc) with
      | true =>
        refine xq_n 47 [] [] [.int (Int32.ofInt 1)] h0 [false] 5 hq rfl ⟨rfl, trivial⟩ (fun _ => ?_)
        exact xq_ret rfl rfl rfl rfl
      | false =>
        refine xq_n 47 [] [] [.int (Int32.ofInt 0)] h0 [true] 5 hq rfl ⟨rfl, trivial⟩ (fun _ => ?_)
        exact xq_ret rfl rfl rfl rfl
end XCA
end
section
section XME
theorem xq_fz {f mid : Nat} {mi : xm_M} {pc : Nat} {lv : List (Nat × Value)} {st : List Value} {h : xh_H} (hm : fzM mid = true) : xq f mid mi pc lv st h (fun _ h' => Fz h h') := fun d lw v h' c s _ he => xe_x_fz fz_hM f d mid mi (pc, lw, st, h, 0, 0) v h' c s hm he
set_option maxRecDepth 100000 in
set_option maxHeartbeats 4000000 in
theorem nad_lp {q r m : Nat} {h0 : xh_H} (m12 : m ≤ 12) (hs : h0.1[q]? = some (0, 7)) (hg : xg none h0.2.2.2 q 1 = some r) (hr : h0.1[r]? = some (4, 64)) : ∀ (f i : Nat) (h : xh_H), a_rq a_tb h → fx fN (Lr r) h0 h → i ≤ 64 → (∀ j, j < i → xg 0 h.2.2.1 r j = 0) → xq f xi_X7_needAll xmi_X7_needAll 2 [(0, .ref q), (1, .int (nI m)), (2, .int (nI i))] [] h (fun v h' => v = none ∧ fx fN (Lr r) h0 h' ∧ ∀ t, t < 4096 → hv h' r t = decide (t = 2 ^ m - 1)) := by
  have p12 : 2 ^ m ≤ 4096 := show 2 ^ m ≤ 2 ^ 12 from Nat.pow_le_pow_right (by decide) m12
  have p0 := Nat.two_pow_pos m
  intro f
  induction f with
  | zero => intros; exact xq_0
  | succ f ih =>
    intro i h hq ge i6 w
    have hs' : h.1[q]? = some (0, 7) := by rw [ge.1]; exact hs
    have hr' : h.1[r]? = some (4, 64) := by rw [ge.1]; exact hr
    have hg' : xg none h.2.2.2 q 1 = some r := by rw [ge.2.1]; exact hg
    by_cases e : i = 64
    · have em : Int32.ofInt 1 <<< (nI m &&& 31) - Int32.ofInt 1 = nI (2 ^ m - 1) := by rw [sh1 m (by omega)]; exact nI_sub (b := 1) (by omega)
      refine xq_m 27 [] [] [.int (Int32.ofInt 1 <<< (nI m &&& 31) - Int32.ofInt 1), .ref q] h [true] 11 hq rfl ⟨(show xe_c .ge (nI i) 64 = true by rw [e]; rfl), trivial⟩ (fun _ => ?_)
      rw [em]
      refine xq_cr (As := [.ref q, .int (nI (2 ^ m - 1))]) (mj := xmi_X7_add) (q := []) rfl rfl (fun _ _ => rfl) (xa_cs_ok (d := 0) (pc := 0) (lv := []) (nL := 0) hs' rfl).1 (fun f => xq_of (d := 0) ⟨_, rfl⟩ (ad_run hq hs' hg' hr' (by omega))) ?_
      rintro v h1 ⟨rfl, rfl⟩
      refine xq_ret rfl rfl rfl ⟨rfl, fx_ul ge (Nat.beq_refl r), fun t t4 => ?_⟩
      rw [hv_ad t4, hv_lb, w (t / 64) (by omega), lb_0 (by omega), Bool.false_or]
      by_cases z : t = 2 ^ m - 1
      · rw [decide_eq_true z, decide_eq_true z.symm]
      · rw [decide_eq_false z, decide_eq_false (fun y => z y.symm)]
    · refine xq_m 9 [0, 1, 2] [(0, .ref q), (1, .int (nI m)), (2, .int (nI i))] [.ref q] h [false] 7 hq rfl ⟨(show xe_c .ge (nI i) 64 = false from nge_f (b := 64) (by omega) (by decide) (by omega)), trivial⟩ (fun _ => ?_)
      refine xq_st rfl rfl (fun _ _ => xe_gr hs' rfl hg') ?_
      refine xq_n 14 [0, 1, 2] [(0, .ref q), (1, .int (nI m)), (2, .int (nI i))] [.long 0, .int (nI i), .ref r] h [] 4 hq rfl trivial (fun _ => ?_)
      refine xq_st rfl rfl (fun _ _ => xe_ls hr' (xin_n (by omega) (by omega))) ?_
      rw [nI_clamp (by omega)]
      have hq : a_rq a_tb (xh_ul h r i 0) := a_rq_ul hq
      refine xq_n 2 [0, 1, 2] [(0, .ref q), (1, .int (nI m)), (2, .int ((nI i) + Int32.ofInt 1))] [] (xh_ul h r i 0) [] 4 hq rfl trivial (fun _ => ?_)
      rw [show nI i + Int32.ofInt 1 = nI (i + 1) from nI_1 _]
      refine ih (i + 1) _ hq (fx_ul ge (Nat.beq_refl r)) (by omega) (fun j hj => ?_)
      by_cases z : j = i
      · rw [z]; exact gl_s
      · rw [gl_k z]; exact w j (by omega)
set_option maxRecDepth 100000 in
theorem nad_q {f q r m : Nat} {h : xh_H} (m12 : m ≤ 12) (hs : h.1[q]? = some (0, 7)) (hg : xg none h.2.2.2 q 1 = some r) (hr : h.1[r]? = some (4, 64)) (hq : a_rq a_tb h) : xq f xi_X7_needAll xmi_X7_needAll 0 [(0, .ref q), (1, .int (nI m))] [] h (fun v h' => v = none ∧ fx fN (Lr r) h h' ∧ ∀ t, t < 4096 → hv h' r t = decide (t = 2 ^ m - 1)) := by
  refine xq_n 2 [0, 1, 2] [(0, .ref q), (1, .int (nI m)), (2, .int (Int32.ofInt 0))] [] h [] 4 hq rfl trivial (fun hq => ?_)
  exact nad_lp m12 hs hg hr f 0 h hq fx_0 (by omega) (fun j hj => absurd hj (Nat.not_lt_zero j))
def m09 (c k : Nat) : Bool := Nat.beq c 0 && Nat.beq k 9
set_option maxRecDepth 100000 in
set_option maxHeartbeats 4000000 in
theorem mb9d_q {f : Nat} {x s w r : Int32} {h : xh_H} (hq : a_rq a_tb h) (e8 : xg 0 h.2.1 0 8 = s) (e3 : xg 0 h.2.1 35 3 = w) (e1 : xg 0 h.2.1 28 1 = r) (u2 : xg none h.2.2.2 0 2 = some 11) (u3 : xg none h.2.2.2 11 1 = some 12) : xq f xi_X9_members xmi_X9_members 0 [(0, .ref 0), (1, .int x)] [] h (fun v h' => (mbB s w r x = false → h' = h) ∧ (mbB s w r x = true → fx m09 (Lr 12) h h' ∧ ∃ m, x = nI m ∧ m ≤ 12 ∧ ∀ t, t < 4096 → hv h' 12 t = decide (t = 2 ^ m - 1))) := by
  cases c1 : xe_c .gt s 0 with
  | true =>
    refine xq_n 49 [] [] [.int (Int32.ofInt 0)] h [true, true] 11 hq rfl ⟨(show xe_c .gt (xg 0 h.2.1 0 8) 0 = true by rw [show (xg 0 h.2.1 0 8) = s from e8]; exact c1), (by decide), trivial⟩ (fun hq => ?_)
    have hB : mbB s w r x = false := by unfold mbB; (rw [c1]) <;> simp only [Bool.not_true, Bool.not_false, Bool.true_and, Bool.false_and, Bool.and_false, Bool.and_true]
    exact xq_ret rfl rfl rfl ⟨fun _ => rfl, fun z => by rw [hB] at z; cases z⟩
  | false =>
    cases c2 : xe_c .gt w 0 with
    | true =>
      refine xq_n 49 [] [] [.int (Int32.ofInt 0)] h [false, true, true] 15 hq rfl ⟨(show xe_c .gt (xg 0 h.2.1 0 8) 0 = false by rw [show (xg 0 h.2.1 0 8) = s from e8]; exact c1), (show xe_c .gt (xg 0 h.2.1 35 3) 0 = true by rw [show (xg 0 h.2.1 35 3) = w from e3]; exact c2), (by decide), trivial⟩ (fun hq => ?_)
      have hB : mbB s w r x = false := by unfold mbB; (rw [c1, c2]) <;> simp only [Bool.not_true, Bool.not_false, Bool.true_and, Bool.false_and, Bool.and_false, Bool.and_true]
      exact xq_ret rfl rfl rfl ⟨fun _ => rfl, fun z => by rw [hB] at z; cases z⟩
    | false =>
      cases c3 : xe_c .eq r 0 with
      | true =>
        cases c4 : xe_c .lt x (Int32.ofInt 1) with
        | true =>
          refine xq_n 49 [] [] [.int (Int32.ofInt 0)] h [false, false, true, false, true] 21 hq rfl ⟨(show xe_c .gt (xg 0 h.2.1 0 8) 0 = false by rw [show (xg 0 h.2.1 0 8) = s from e8]; exact c1), (show xe_c .gt (xg 0 h.2.1 35 3) 0 = false by rw [show (xg 0 h.2.1 35 3) = w from e3]; exact c2), (show xe_c .eq (xg 0 h.2.1 28 1) 0 = true by rw [show (xg 0 h.2.1 28 1) = r from e1]; exact c3), (by decide), c4, trivial⟩ (fun hq => ?_)
          have hB : mbB s w r x = false := by unfold mbB; (rw [c1, c2, c3, c4]) <;> simp only [Bool.not_true, Bool.not_false, Bool.true_and, Bool.false_and, Bool.and_false, Bool.and_true]
          exact xq_ret rfl rfl rfl ⟨fun _ => rfl, fun z => by rw [hB] at z; cases z⟩
        | false =>
          cases c5 : xe_c .le x 12 with
          | true =>
            refine xq_n 60 [0, 1, 2] [(0, .ref 0), (1, .int x), (2, .int (Int32.ofInt 0))] [.int x, va_rf (xg none (xh_ui h 0 9 x).2.2.2 0 2)] (xh_ui h 0 9 x) [false, false, true, false, false, true] 29 hq rfl ⟨(show xe_c .gt (xg 0 h.2.1 0 8) 0 = false by rw [show (xg 0 h.2.1 0 8) = s from e8]; exact c1), (show xe_c .gt (xg 0 h.2.1 35 3) 0 = false by rw [show (xg 0 h.2.1 35 3) = w from e3]; exact c2), (show xe_c .eq (xg 0 h.2.1 28 1) 0 = true by rw [show (xg 0 h.2.1 28 1) = r from e1]; exact c3), (by decide), c4, c5, trivial⟩ (fun _ => ?_)
            have hq : a_rq a_tb (xh_ui h 0 9 x) := a_rq_ui hq
            have x1 : (Int32.ofInt 1).toInt ≤ x.toInt := a_ce (a_neg_ok c4)
            have x2 : x.toInt ≤ (12 : Int32).toInt := a_ce c5
            have x1 : (1 : Int) ≤ x.toInt := x1
            have x2 : x.toInt ≤ (12 : Int) := x2
            obtain ⟨m, em, m12⟩ : ∃ m, x = nI m ∧ m ≤ 12 := ⟨x.toInt.toNat, en_n (t := 0) (by omega), by omega⟩
            have e : xg none (xh_ui h 0 9 x).2.2.2 0 2 = some 11 := u2
            rw [e]
            have s11 : (xh_ui h 0 9 x).1[11]? = some (0, 7) := hq.2.1 11 _ rfl
            have s12 : (xh_ui h 0 9 x).1[12]? = some (4, 64) := hq.2.1 12 _ rfl
            refine xq_cr (As := [.ref 11, .int x]) (mj := xmi_X7_needAll) (q := []) rfl rfl (fun _ _ => rfl) (xa_cs_ok (d := 0) (pc := 0) (lv := []) (nL := 0) s11 rfl).1 (fun f => by rw [em]; exact nad_q (f := f) m12 s11 (by exact u3) s12 (em ▸ hq)) ?_
            rintro _ h1 ⟨rfl, g1, d1⟩
            have hq := fx_q g1 (em ▸ hq)
            refine xq_n 64 [] [] [.int (Int32.ofInt 1)] h1 [] 3 hq rfl trivial (fun hq => ?_)
            have hB : mbB s w r x = true := by unfold mbB; (rw [c1, c2, c3, c4, c5]) <;> simp only [Bool.not_true, Bool.not_false, Bool.true_and, Bool.false_and, Bool.and_false, Bool.and_true]
            exact xq_ret rfl rfl rfl ⟨fun z => by (rw [hB] at z; cases z), fun _ => ⟨fx_t (fx_ui fx_0 rfl) (fx_w (em ▸ g1) (fun _ _ _ => rfl) (fun _ _ z => z)), m, em, m12, d1⟩⟩
          | false =>
            refine xq_n 49 [] [] [.int (Int32.ofInt 0)] h [false, false, true, false, false, false] 24 hq rfl ⟨(show xe_c .gt (xg 0 h.2.1 0 8) 0 = false by rw [show (xg 0 h.2.1 0 8) = s from e8]; exact c1), (show xe_c .gt (xg 0 h.2.1 35 3) 0 = false by rw [show (xg 0 h.2.1 35 3) = w from e3]; exact c2), (show xe_c .eq (xg 0 h.2.1 28 1) 0 = true by rw [show (xg 0 h.2.1 28 1) = r from e1]; exact c3), (by decide), c4, c5, trivial⟩ (fun hq => ?_)
            have hB : mbB s w r x = false := by unfold mbB; (rw [c1, c2, c3, c4, c5]) <;> simp only [Bool.not_true, Bool.not_false, Bool.true_and, Bool.false_and, Bool.and_false, Bool.and_true]
            exact xq_ret rfl rfl rfl ⟨fun _ => rfl, fun z => by rw [hB] at z; cases z⟩
      | false =>
        refine xq_n 49 [] [] [.int (Int32.ofInt 0)] h [false, false, false, true] 19 hq rfl ⟨(show xe_c .gt (xg 0 h.2.1 0 8) 0 = false by rw [show (xg 0 h.2.1 0 8) = s from e8]; exact c1), (show xe_c .gt (xg 0 h.2.1 35 3) 0 = false by rw [show (xg 0 h.2.1 35 3) = w from e3]; exact c2), (show xe_c .eq (xg 0 h.2.1 28 1) 0 = false by rw [show (xg 0 h.2.1 28 1) = r from e1]; exact c3), (by decide), trivial⟩ (fun hq => ?_)
        have hB : mbB s w r x = false := by unfold mbB; (rw [c1, c2, c3]) <;> simp only [Bool.not_true, Bool.not_false, Bool.true_and, Bool.false_and, Bool.and_false, Bool.and_true]
        exact xq_ret rfl rfl rfl ⟨fun _ => rfl, fun z => by rw [hB] at z; cases z⟩
set_option maxRecDepth 100000 in
set_option maxHeartbeats 4000000 in
theorem ch9_q {f : Nat} {x : Int32} {h : xh_H} (hi : a_inv a_tb h) (hn : 72 ≤ h.1.length) : xq f xi_X9_chance xmi_X9_chance 0 [(0, .ref 0), (1, .int x)] [] h (fun v h' => ∃ h1, Fz h h1 ∧ fx fN (Lr 20) h1 h') := by
  have hq := a_rq_of hi.1 hn
  cases c1 : xe_c .lt x 0 with
  | true =>
    refine xq_n 24 [] [] [.long 18446744073709551615] h [true] 5 hq rfl ⟨c1, trivial⟩ (fun _ => ?_)
    exact xq_ret rfl rfl rfl ⟨h, Fz_0, fx_0⟩
  | false =>
    cases c2 : xe_c .le x 10 with
    | false =>
      refine xq_n 24 [] [] [.long 18446744073709551615] h [false, false] 8 hq rfl ⟨c1, c2, trivial⟩ (fun _ => ?_)
      exact xq_ret rfl rfl rfl ⟨h, Fz_0, fx_0⟩
    | true =>
      refine xq_n 17 [1] [(1, .int x)] [.ref 0] h [false, true] 7 hq rfl ⟨c1, c2, trivial⟩ (fun _ => ?_)
      refine xq_run hq rfl rfl (xq_and (xq_of (d := 5) ⟨_, rfl⟩ (pt_run (d := 0) hi hn)) (xq_fz (by decide +kernel))) ?_
      rintro v h1 ⟨⟨k1, rfl, -⟩, z1⟩
      have hq := a_rq_of k1.1.1 (hk_n k1 hn)
      obtain ⟨q, e, rq⟩ : a_e h1 14 6 (2, 11, 0) := ((k1.1.1 14 (0, 2) (hq.2.1 14 (0, 2) rfl)).2 6 (by decide))
      obtain ⟨g1, r, g2, g3⟩ := law_sh k1.1.1 rq
      refine xq_n 21 [] [] [.int x, .ref 14] h1 [] 3 hq rfl trivial (fun _ => ?_)
      refine xq_run hq rfl rfl (cho_q e g1 g2 g3 hq) ?_
      rintro v h2 ⟨g4, y, rfl⟩
      exact xq_ret rfl rfl rfl ⟨h1, z1, g4⟩
end XME
end
section
section XSI
/-- what leaves the statutes -/
def Fs (n : Nat) (h h' : xh_H) : Prop := h.1.length ≤ h'.1.length ∧ (∀ c k, h.1[c]? = some (0, 7) → xg 0 h'.2.1 c k = xg 0 h.2.1 c k) ∧ (∀ c k, h.1[c]? = some (4, 64) → xg 0 h'.2.2.1 c k = xg 0 h.2.2.1 c k) ∧ (∀ k, k < n → xg none h'.2.2.2 13 k = xg none h.2.2.2 13 k) ∧ (∀ c k, h.1[c]? = some (0, 7) → xg none h'.2.2.2 c k = xg none h.2.2.2 c k) ∧ xg none h'.2.2.2 0 2 = xg none h.2.2.2 0 2
theorem sh7_a : ∀ c, c < 72 → a_sh[c]? = some (0, 7) → c = 11 := by decide +kernel
theorem sh64_a : ∀ c, c < 72 → a_sh[c]? = some (4, 64) → c = 12 := by decide +kernel
theorem a_sh_72 : a_sh.length = 72 := by decide +kernel
theorem sh_of {h : xh_H} {c : Nat} {s : Nat × Nat} (hq : a_rq a_tb h) (hc : c < 72) (e : h.1[c]? = some s) : a_sh[c]? = some s := by
  obtain ⟨s2, e2⟩ : ∃ s2, a_sh[c]? = some s2 := ⟨_, List.getElem?_eq_getElem (by rw [a_sh_72]; exact hc)⟩
  have := hq.2.1 c s2 e2
  rw [e] at this
  rw [e2, this]
theorem sh7 {h : xh_H} {c : Nat} (hq : a_rq a_tb h) (e : h.1[c]? = some (0, 7)) : c = 11 ∨ 72 ≤ c := by
  by_cases hc : c < 72
  · exact Or.inl (sh7_a c hc (sh_of hq hc e))
  · exact Or.inr (by omega)
theorem sh64c {h : xh_H} {c : Nat} (hq : a_rq a_tb h) (e : h.1[c]? = some (4, 64)) : c = 12 ∨ 72 ≤ c := by
  by_cases hc : c < 72
  · exact Or.inl (sh64_a c hc (sh_of hq hc e))
  · exact Or.inr (by omega)
theorem Fs_0 {n : Nat} {h : xh_H} : Fs n h h := ⟨Nat.le_refl _, fun _ _ _ => rfl, fun _ _ _ => rfl, fun _ _ => rfl, fun _ _ _ => rfl, rfl⟩
theorem Fs_z {n : Nat} {h h' : xh_H} (hq : a_rq a_tb h) (z : Fz h h') : Fs n h h' := ⟨by rw [z.1]; exact Nat.le_refl _, z.2.1, fun c k e => z.2.2.1 c k (fun ci y => by rw [e] at y; cases y), fun k _ => z.2.2.2 13 k (by rw [hq.2.1 13 _ rfl]; decide) (by rw [hq.2.1 13 _ rfl]; decide), fun c k e => z.2.2.2 c k (by rw [e]; decide) (by rw [e]; decide), z.2.2.2 0 2 (by rw [hq.2.1 0 _ rfl]; decide) (by rw [hq.2.1 0 _ rfl]; decide)⟩
theorem Fs_f {n : Nat} {S L : Nat → Nat → Bool} {h h' : xh_H} (g : fx S L h h') (e1 : ∀ c k, h.1[c]? = some (0, 7) → S c k = false) (e2 : ∀ c k, h.1[c]? = some (4, 64) → L c k = false) : Fs n h h' := ⟨by rw [g.1]; exact Nat.le_refl _, fun c k e => g.2.2.1 c k (e1 c k e), fun c k e => g.2.2.2 c k (e2 c k e), fun _ _ => by rw [g.2.1], fun _ _ _ => by rw [g.2.1], by rw [g.2.1]⟩
theorem Fs_c {sc : Nat} {h h' : xh_H} (hq : a_rq a_tb h) (c : cst h h' sc) : Fs sc h h' := by
  have hl : ∀ {c : Nat} {s : Nat × Nat}, h.1[c]? = some s → c < h.1.length := fun {c s} e => (List.getElem?_eq_some_iff.mp e).1
  have h72 := hq.1
  exact ⟨c.1, fun x k e => c.2.2.2 x k (sh7 hq e) (hl e), fun x k e => c.2.2.1 x k (hl e), fun k hk' => c.2.1 13 k (by omega) (fun _ => hk'), fun x k e => c.2.1 x k (hl e) (fun z => by rcases sh7 hq e with y | y <;> omega), c.2.1 0 2 (by omega) (fun z => by omega)⟩
theorem hv_e {h h' : xh_H} {r s : Nat} (e : ∀ k, xg 0 h'.2.2.1 r k = xg 0 h.2.2.1 r k) : hv h' r s = hv h r s := by
  unfold hv
  rw [e]
theorem st1_s {n k mem : Nat} {h h' : xh_H} (i : a_inv a_tb h) (F : Fs n h h') (hk : k < n) (e51 : xg 0 h'.2.1 51 k = xg 0 h.2.1 51 k) (e52 : xg 0 h'.2.1 52 k = xg 0 h.2.1 52 k) (e44 : ∀ s, s < 4096 → xg 0 h'.2.1 44 (4096 * k + s) = xg 0 h.2.1 44 (4096 * k + s)) (m12 : mem ≤ 12) (S : st1 h mem k) : st1 h' mem k := by
  have p12 : 2 ^ mem ≤ 4096 := show 2 ^ mem ≤ 2 ^ 12 from Nat.pow_le_pow_right (by decide) m12
  obtain ⟨q, q72, qe, ql, q1, q2, q3, q4, q5, q6⟩ := S
  obtain ⟨hs, hr⟩ := st_sh i q72 qe ql
  exact ⟨q, q72, qe, Nat.lt_of_lt_of_le ql F.1, (F.2.2.2.1 k hk).trans q1, (F.2.2.2.2.1 q 1 hs).trans q2, by rw [F.2.1 q 0 hs, e51]; exact q3, by rw [e51]; exact q4, by rw [e52, e51]; exact q5, fun s hs' => by rw [hv_e (fun k => F.2.2.1 (q + 1) k hr), e44 s (by omega)]; exact q6 s hs'⟩
theorem SI_s {h h' : xh_H} (i : a_inv a_tb h) (hq : a_rq a_tb h) (F : Fs 8 h h') (e8 : xg 0 h'.2.1 0 8 = xg 0 h.2.1 0 8) (e9 : xg 0 h'.2.1 0 9 = xg 0 h.2.1 0 9) (e44 : ∀ k, xg 0 h'.2.1 44 k = xg 0 h.2.1 44 k) (e51 : ∀ k, xg 0 h'.2.1 51 k = xg 0 h.2.1 51 k) (e52 : ∀ k, xg 0 h'.2.1 52 k = xg 0 h.2.1 52 k) (S : SI h) : SI h' := by
  obtain ⟨⟨u1, u2, u3⟩, S⟩ := S
  have s11 := hq.2.1 11 _ rfl
  have s12 := hq.2.1 12 _ rfl
  refine ⟨⟨(F.2.1 11 0 s11).trans u1, F.2.2.2.2.2.trans u2, (F.2.2.2.2.1 11 1 s11).trans u3⟩, fun mem sc x1 m12 x2 sc8 => ?_⟩
  rw [e9] at x1
  rw [e8] at x2
  obtain ⟨a, b⟩ := S mem sc x1 m12 x2 sc8
  exact ⟨fun k hk' => st1_s i F (by omega) (e51 k) (e52 k) (fun s _ => e44 _) m12 (a k hk'), fun s s4 => (hv_e (fun k => F.2.2.1 12 k s12)).trans (b s s4)⟩
/-- a frame of ints that leaves the statutes -/
def siM (md : List (Nat × Nat)) : Bool := !a_mb md 44 0 && (!a_mb md 51 0 && (!a_mb md 52 0 && (!a_mb md 0 8 && !a_mb md 0 9)))
theorem SI_t {md : List (Nat × Nat)} {h h' : xh_H} (i : a_inv a_tb h) (hq : a_rq a_tb h) (F : Fs 8 h h') (f : a_fr md h h') (m : siM md = true) (S : SI h) : SI h' := by
  unfold siM at m
  simp only [Bool.and_eq_true, Bool.not_eq_true'] at m
  obtain ⟨m1, m2, m3, m4, m5⟩ := m
  exact SI_s i hq F (fr_g f rfl m4) (fr_g f rfl m5) (fun k => fr_g (c := 44) (k := k) f rfl m1) (fun k => fr_g (c := 51) (k := k) f rfl m2) (fun k => fr_g (c := 52) (k := k) f rfl m3) S
theorem SI_2 {md1 md2 : List (Nat × Nat)} {h h1 h2 : xh_H} (i : a_inv a_tb h) (l : 72 ≤ h.1.length) (i1 : a_inv a_tb h1) (l1 : 72 ≤ h1.1.length) (z1 : Fz h h1) (z2 : Fz h1 h2) (f1 : a_fr md1 h h1) (f2 : a_fr md2 h1 h2) (m1 : siM md1 = true) (m2 : siM md2 = true) (S : SI h) : SI h2 := SI_t i1 (a_rq_of i1.1 l1) (Fs_z (a_rq_of i1.1 l1) z2) f2 m2 (SI_t i (a_rq_of i.1 l) (Fs_z (a_rq_of i.1 l) z1) f1 m1 S)
/-- .. members: all are needed anew -/
theorem SI_m {h h1 h2 : xh_H} {x s w r : Int32} {md2 : List (Nat × Nat)} (i : a_inv a_tb h) (l : 72 ≤ h.1.length) (i1 : a_inv a_tb h1) (l1 : 72 ≤ h1.1.length) (S : SI h) (q1 : (mbB s w r x = false → h1 = h) ∧ (mbB s w r x = true → fx m09 (Lr 12) h h1 ∧ ∃ m, x = nI m ∧ m ≤ 12 ∧ ∀ t, t < 4096 → hv h1 12 t = decide (t = 2 ^ m - 1))) (d1 : xg 0 h1.2.1 0 9 = cond (mbB s w r x) x (xg 0 h.2.1 0 9)) (e8 : xg 0 h.2.1 0 8 = s) (z2 : Fz h1 h2) (f2 : a_fr md2 h1 h2) (m2 : siM md2 = true) : SI h2 := by
  refine SI_t i1 (a_rq_of i1.1 l1) (Fs_z (a_rq_of i1.1 l1) z2) f2 m2 ?_
  cases hB : mbB s w r x with
  | false => rw [q1.1 hB]; exact S
  | true =>
    obtain ⟨g, m, em, m12, un⟩ := q1.2 hB
    rw [hB] at d1
    have d1 : xg 0 h1.2.1 0 9 = x := d1
    have b8 : s = nI 0 := (by
      unfold mbB at hB
      simp only [Bool.and_eq_true, Bool.not_eq_true'] at hB
      have b0 : ¬ (0 : Int) < s.toInt := fun y => by
        have : xe_c .gt s 0 = true := xgt_t y
        simp only [this] at hB
        exact absurd hB.2 (by simp)
      have b1 := a_flx (c := 0) (k := 8) (lo := 0) (hi := 8) i.1 l rfl rfl (by decide)
      rw [e8] at b1
      exact Int32.toInt_inj.mp (by rw [nI_toInt (by decide)]; omega))
    obtain ⟨⟨u1, u2, u3⟩, -⟩ := S
    refine ⟨⟨(fx_i g rfl).trans u1, by rw [g.2.1]; exact u2, by rw [g.2.1]; exact u3⟩, fun mem sc x1 m12' x2 sc8 => ⟨fun k hk' => ?_, fun t t4 => ?_⟩⟩
    · rw [fx_i g rfl, e8, b8] at x2
      have y := congrArg Int32.toInt x2
      rw [nI_toInt (by decide), nI_toInt (by omega)] at y
      omega
    · rw [d1, em] at x1
      have y := congrArg Int32.toInt x1
      rw [nI_toInt (by omega), nI_toInt (by omega)] at y
      have : m = mem := by omega
      rw [un t t4, this]
theorem bq72 {c : Nat} (h : c = 11 ∨ 72 ≤ c) : ∀ j, j < 72 → j ≠ 11 → Nat.beq c j = false := fun j h1 h2 => by
  rw [Bool.eq_false_iff]
  intro y
  have := Nat.eq_of_beq_eq_true y
  omega
theorem rW3_72 {sc c k : Nat} (h : c = 11 ∨ 72 ≤ c) : rW3 sc c k = false := by
  have e := bq72 h
  unfold rW3 rW2 rU rT rS sA0
  simp only [e 39 (by decide) (by decide), e 41 (by decide) (by decide), e 42 (by decide) (by decide), e 43 (by decide) (by decide), e 44 (by decide) (by decide), e 45 (by decide) (by decide), e 46 (by decide) (by decide), e 47 (by decide) (by decide), e 48 (by decide) (by decide), e 49 (by decide) (by decide), e 51 (by decide) (by decide), e 52 (by decide) (by decide), Bool.false_and, Bool.false_or]
theorem rV_12 {c k : Nat} (h : c = 12 ∨ 72 ≤ c) : rV c k = false := by
  unfold rV gL
  rw [show Nat.beq c 39 = false from by rw [Bool.eq_false_iff]; intro y; have := Nat.eq_of_beq_eq_true y; omega, show Nat.beq c 50 = false from by rw [Bool.eq_false_iff]; intro y; have := Nat.eq_of_beq_eq_true y; omega]
  rfl
theorem rW3_44 {sc k : Nat} (h : k < 4096 * sc) : rW3 sc 44 k = false := by
  show ((false || (false || (Nat.ble (4096 * sc) k || false))) || false) = false
  rw [ble_n h]
  rfl
theorem rW3_51 {sc k : Nat} (h : k ≠ sc) : rW3 sc 51 k = false := by
  show ((false || (false || (false || Nat.beq k sc))) || false) = false
  rw [show Nat.beq k sc = false from by rw [Bool.eq_false_iff]; intro y; exact h (Nat.eq_of_beq_eq_true y)]
  rfl
theorem rW3_52 {sc k : Nat} (h : k ≠ sc) : rW3 sc 52 k = false := by
  show ((false || (false || (false || Nat.beq k sc))) || false) = false
  rw [show Nat.beq k sc = false from by rw [Bool.eq_false_iff]; intro y; exact h (Nat.eq_of_beq_eq_true y)]
  rfl
/-- .. a statute more -/
theorem SI_n {h h1 h2 : xh_H} {T : Nat → Nat} {n mem sc td : Nat} {fd : Int32} {md : List (Nat × Nat)} (i : a_inv a_tb h) (l : 72 ≤ h.1.length) (hp : h.1.length % 2 = 0) (i1 : a_inv a_tb h1) (l1 : 72 ≤ h1.1.length) (S : SI h) (e9 : xg 0 h.2.1 0 9 = nI mem) (m12 : mem ≤ 12) (e8 : xg 0 h.2.1 0 8 = nI sc) (sc8 : sc ≤ 8) (td9 : td ≤ 999) (c1 : cst h h1 sc) (n1 : cnw h h1 T n mem sc fd) (f1 : a_fr md h h1) (g51 : ∀ k, xg 0 h1.2.1 51 k = xg 0 h.2.1 51 k) (g52 : ∀ k, xg 0 h1.2.1 52 k = xg 0 h.2.1 52 k) (g44 : ∀ k, xg 0 h1.2.1 44 k = xg 0 h.2.1 44 k) (d9 : xg 0 h2.2.1 0 9 = nI mem) (d8 : xg 0 h2.2.1 0 8 = xg 0 h1.2.1 0 8) (b8 : xg 0 h1.2.1 0 8 = nI sc ∨ xg 0 h1.2.1 0 8 = nI (sc + 1)) (w : fx (rW3 sc) rV h1 h2) (nw : xg 0 h1.2.1 0 8 = nI (sc + 1) → sc < 8 ∧ ((td : Int) ≤ fd.toInt ∧ fd.toInt ≤ 999) ∧ xg 0 h2.2.1 51 sc = fd ∧ xg 0 h2.2.1 52 sc = nI td ∧ ∀ s y, s < 4096 → (∃ j, Tv T n mem s j 0 0 0 (nmW T (fun _ => (0, 0))) (fun _ => false) y) → xg 0 h2.2.1 44 (4096 * sc + s) = bl y) : SI h2 := by
  have hq := a_rq_of i.1 l
  have hq1 := a_rq_of i1.1 l1
  have F1 : Fs sc h h1 := Fs_c hq c1
  have F2 : ∀ n, Fs n h1 h2 := fun n => Fs_f w (fun c k e => rW3_72 (sh7 hq1 e)) (fun c k e => rV_12 (sh64c hq1 e))
  have s11 := hq.2.1 11 _ rfl
  have s12 := hq.2.1 12 _ rfl
  have t11 := hq1.2.1 11 _ rfl
  have t12 := hq1.2.1 12 _ rfl
  obtain ⟨⟨u1, u2, u3⟩, S⟩ := S
  obtain ⟨a, b⟩ := S mem sc e9 m12 e8 sc8
  have p12 : 2 ^ mem ≤ 4096 := show 2 ^ mem ≤ 2 ^ 12 from Nat.pow_le_pow_right (by decide) m12
  have old : ∀ k, k < sc → st1 h2 mem k := fun k hk' => st1_s i1 (F2 sc) hk' (fx_i w (rW3_51 (by omega))) (fx_i w (rW3_52 (by omega))) (fun s s4 => fx_i w (rW3_44 (by omega))) m12 (st1_s i F1 hk' (g51 k) (g52 k) (fun s _ => g44 _) m12 (a k hk'))
  refine ⟨⟨((F2 0).2.1 11 0 t11).trans ((F1.2.1 11 0 s11).trans u1), (F2 0).2.2.2.2.2.trans (F1.2.2.2.2.2.trans u2), ((F2 0).2.2.2.2.1 11 1 t11).trans ((F1.2.2.2.2.1 11 1 s11).trans u3)⟩, fun mem' sc' x1 m12' x2 sc8' => ?_⟩
  have em : mem = mem' := by
    rw [d9] at x1
    have y := congrArg Int32.toInt x1
    rw [nI_toInt (by omega), nI_toInt (by omega)] at y
    omega
  subst em
  refine ⟨fun k hk' => ?_, fun t t4 => (hv_e (fun k => (F2 0).2.2.1 12 k t12)).trans ((hv_e (fun k => F1.2.2.1 12 k s12)).trans (b t t4))⟩
  by_cases ks : k < sc
  · exact old k ks
  · rw [d8] at x2
    rcases b8 with y | y
    · rw [y] at x2
      have y := congrArg Int32.toInt x2
      rw [nI_toInt (by omega), nI_toInt (by omega)] at y
      omega
    · obtain ⟨v1, v2, v3, v4, v5⟩ := nw y
      obtain ⟨w1, w2, w3, w4, w5⟩ := n1 y
      rw [y] at x2
      have y2 := congrArg Int32.toInt x2
      rw [nI_toInt (by omega), nI_toInt (by omega)] at y2
      have ek : k = sc := by omega
      subst ek
      have sN := st_sh i1 (q := h.1.length) (by omega) hp w1
      refine ⟨h.1.length, l, hp, Nat.lt_of_lt_of_le w1 (F2 0).1, by rw [w.2.1]; exact w2, by rw [w.2.1]; exact w3, by rw [(F2 0).2.1 _ 0 sN.1, v3]; exact w4, by rw [v3]; omega, by rw [v4, v3, nI_toInt (by omega)]; exact v2, fun s hs => ?_⟩
      obtain ⟨z, j, z1, z2⟩ := w5 s (by omega)
      rw [hv_e (fun k => (F2 0).2.2.1 (h.1.length + 1) k sN.2), z1, decide_eq_true hs, Bool.true_and]
      exact (v5 s z (by omega) ⟨j, z2⟩).symm
end XSI
end
section
section XUF
theorem iF_w {FR : Nat → Int32} {ok : Nat → Bool} {d : Int32} : ∀ {n : Nat}, (∀ k, k < n → xe_c .gt (FR k) d = false → ok k = true) → iF FR ok d n = iF FR (fun _ => true) d n := by
  intro n
  induction n with
  | zero => intro _; rfl
  | succ n ih =>
    intro e
    have e1 := ih (fun k hk' => e k (by omega))
    have e2 := e n (by omega)
    unfold iF
    rw [e1]
    cases c : xe_c .gt (FR n) d with
    | true => simp only [Bool.not_true, Bool.and_false, Bool.false_and]
    | false => rw [e2 c]
/-- the first vote that doesn't fit -/
def ufG (D S P : Nat → Int32) (cv : Int32 → Nat → Bool) (t : Int32) : Nat → Nat → Int32
  | 0, _ => Int32.ofInt (-1)
  | n + 1, i => cond (xe_c .gt (D i) t) (ufG D S P cv t n (i + 1)) (cond (xe_c .eq (bl (cv (D i) (S i).toInt.toNat)) (P i)) (ufG D S P cv t n (i + 1)) (nI i))
set_option maxRecDepth 100000 in
set_option maxHeartbeats 4000000 in
theorem uf9_lp {vc mem sc : Nat} {t : Int32} {D S P : Nat → Int32} {h : xh_H} (hi : a_inv a_tb h) (e9 : xg 0 h.2.1 0 9 = nI mem) (m12 : mem ≤ 12) (e8 : xg 0 h.2.1 0 8 = nI sc) (sc8 : sc ≤ 8) (si : SI h) (vc6 : vc ≤ 60) (e35 : xg 0 h.2.1 35 3 = nI vc) (hA : ∀ k, k < vc → xg 0 h.2.1 36 k = S k ∧ xg 0 h.2.1 37 k = D k ∧ xg 0 h.2.1 38 k = P k) (hS : ∀ k, k < vc → ∃ s, S k = nI s ∧ s < 2 ^ mem) (hq : a_rq a_tb h) : ∀ (f i : Nat), i ≤ vc → xq f xi_X9_unfit xmi_X9_unfit 2 [(0, .ref 0), (1, .int t), (2, .int (nI i))] [] h (fun v h' => v = some (.int (ufG D S P (cvB (fun k => xg 0 h.2.1 51 k) (fun k => xg 0 h.2.1 44 k) mem sc) t (vc - i) i))) := by
  obtain ⟨⟨u1, u2, u3⟩, si⟩ := si
  obtain ⟨SS, un⟩ := si mem sc e9 m12 e8 sc8
  have p12 : 2 ^ mem ≤ 4096 := show 2 ^ mem ≤ 2 ^ 12 from Nat.pow_le_pow_right (by decide) m12
  intro f
  induction f with
  | zero => intros; exact xq_0
  | succ f ih =>
    intro i il
    by_cases e : i = vc
    · refine xq_m 66 [] [] [.int (Int32.ofInt (-1))] h [true] 7 hq rfl ⟨(show xe_c .ge (nI i) (xg 0 h.2.1 35 3) = true by rw [e35, e]; exact decide_eq_true (Int32.le_refl _)), trivial⟩ (fun _ => ?_)
      rw [e, Nat.sub_self]
      exact xq_ret rfl rfl rfl rfl
    · have il : i < vc := by omega
      obtain ⟨a1, a2, a3⟩ := hA i il
      have g0 : xe_c .ge (nI i) (xg 0 h.2.1 35 3) = false := by rw [e35]; exact nge_f (by omega) (by omega) il
      have ek : (nI i).toNatClampNeg = i := nI_clamp (by omega)
      have nx : nI i + Int32.ofInt 1 = nI (i + 1) := nI_1 i
      rw [show vc - i = (vc - (i + 1)) + 1 by omega]
      unfold ufG
      cases c1 : xe_c .gt (D i) t with
      | true =>
        refine xq_m 2 [0, 1, 2] [(0, .ref 0), (1, .int t), (2, .int ((nI i) + Int32.ofInt 1))] [] h [false, true] 18 hq rfl ⟨g0, (show xe_c .gt (xg 0 h.2.1 37 (nI i).toNatClampNeg) t = true by rw [ek, a2]; exact c1), trivial⟩ (fun _ => ?_)
        rw [nx]
        exact ih (i + 1) il
      | false =>
        obtain ⟨s, es, hs⟩ := hS i il
        have sn : (S i).toInt.toNat = s := by rw [es, nI_toInt (by omega)]; omega
        refine xq_m 30 [0, 1, 2] [(0, .ref 0), (1, .int t), (2, .int (nI i))] [.int (xg 0 h.2.1 37 (nI i).toNatClampNeg), .ref 0] h [false, false] 18 hq rfl ⟨g0, (show xe_c .gt (xg 0 h.2.1 37 (nI i).toNatClampNeg) t = false by rw [ek, a2]; exact c1), trivial⟩ (fun _ => ?_)
        rw [ek, a2]
        refine xq_run hq rfl rfl (if9_q hi e8 sc8 u1 u2 SS hq) ?_
        rintro v h1 ⟨rfl, Q, rfl, fd⟩
        obtain ⟨r, g1, g2, g3⟩ := hv_cv hi m12 SS un u3 hq hs fd
        refine xq_n 42 [0, 1, 2] [(0, .ref 0), (1, .int t), (2, .int (nI i))] [.int (xg 0 h.2.1 36 (nI i).toNatClampNeg), .ref Q] h [] 7 hq rfl trivial (fun _ => ?_)
        rw [ek, a1, es]
        refine xq_cr (As := [.ref Q, .int (nI s)]) (mj := xmi_X7_holds) (q := []) rfl rfl (fun _ _ => rfl) (xa_cs_ok (d := 0) (pc := 0) (lv := []) (nL := 0) fd.1 rfl).1 (fun f => xq_of (d := 0) ⟨_, rfl⟩ (ho_run hq fd.1 g1 g2 (by omega))) ?_
        rintro v h1 ⟨rfl, rfl⟩
        rw [g3, ← es, sn]
        cases c2 : xe_c .eq (bl (cvB (fun k => xg 0 h.2.1 51 k) (fun k => xg 0 h.2.1 44 k) mem sc (D i) s)) (P i) with
        | true =>
          refine xq_n 2 [0, 1, 2] [(0, .ref 0), (1, .int t), (2, .int ((nI i) + Int32.ofInt 1))] [] h [true] 10 hq rfl ⟨(show xe_c .eq (bl (cvB (fun k => xg 0 h.2.1 51 k) (fun k => xg 0 h.2.1 44 k) mem sc (D i) s)) (xg 0 h.2.1 38 (nI i).toNatClampNeg) = true by rw [ek, a3]; exact c2), trivial⟩ (fun _ => ?_)
          rw [nx]
          exact ih (i + 1) il
        | false =>
          refine xq_n 58 [] [] [.int (nI i)] h [false] 9 hq rfl ⟨(show xe_c .eq (bl (cvB (fun k => xg 0 h.2.1 51 k) (fun k => xg 0 h.2.1 44 k) mem sc (D i) s)) (xg 0 h.2.1 38 (nI i).toNatClampNeg) = false by rw [ek, a3]; exact c2), trivial⟩ (fun _ => ?_)
          exact xq_ret rfl rfl rfl rfl
set_option maxRecDepth 100000 in
theorem uf9_q {f vc mem sc : Nat} {t : Int32} {D S P : Nat → Int32} {h : xh_H} (hi : a_inv a_tb h) (e9 : xg 0 h.2.1 0 9 = nI mem) (m12 : mem ≤ 12) (e8 : xg 0 h.2.1 0 8 = nI sc) (sc8 : sc ≤ 8) (si : SI h) (vc6 : vc ≤ 60) (e35 : xg 0 h.2.1 35 3 = nI vc) (hA : ∀ k, k < vc → xg 0 h.2.1 36 k = S k ∧ xg 0 h.2.1 37 k = D k ∧ xg 0 h.2.1 38 k = P k) (hS : ∀ k, k < vc → ∃ s, S k = nI s ∧ s < 2 ^ mem) (hq : a_rq a_tb h) : xq f xi_X9_unfit xmi_X9_unfit 0 [(0, .ref 0), (1, .int t)] [] h (fun v h' => v = some (.int (ufG D S P (cvB (fun k => xg 0 h.2.1 51 k) (fun k => xg 0 h.2.1 44 k) mem sc) t vc 0))) := by
  refine xq_n 2 [0, 1, 2] [(0, .ref 0), (1, .int t), (2, .int (Int32.ofInt 0))] [] h [] 4 hq rfl trivial (fun _ => ?_)
  exact uf9_lp hi e9 m12 e8 sc8 si vc6 e35 hA hS hq f 0 (Nat.zero_le _)
set_option maxRecDepth 100000 in
set_option maxHeartbeats 4000000 in
theorem uf10_lp {vc mem sc : Nat} {t : Int32} {D S P FR TD RW : Nat → Int32} {h : xh_H} (e4 : xg 0 h.2.1 39 4 = nI mem) (m12 : mem ≤ 12) (e33 : xg 0 h.2.1 39 33 = nI sc) (sc8 : sc ≤ 8) (hF : ∀ k, k < sc → xg 0 h.2.1 51 k = FR k) (hT : ∀ k, k < sc → xg 0 h.2.1 52 k = TD k ∧ (TD k).toInt ≤ (FR k).toInt) (hR : ∀ k s, k < sc → s < 2 ^ mem → ∃ b : Bool, RW (4096 * k + s) = bl b ∧ xg 0 h.2.1 44 (4096 * k + s) = bl b) (vc6 : vc ≤ 60) (e63 : xg 0 h.2.1 39 63 = nI vc) (hA : ∀ k, k < vc → xg 0 h.2.1 68 k = S k ∧ xg 0 h.2.1 69 k = D k ∧ xg 0 h.2.1 70 k = P k) (hS : ∀ k, k < vc → ∃ s, S k = nI s ∧ s < 2 ^ mem) (hq : a_rq a_tb h) : ∀ (f i : Nat), i ≤ vc → xq f xi_X10_unfit xmi_X10_unfit 7 [(0, .ref 39), (1, .int t), (2, .int (nI i))] [] h (fun v h' => v = some (.int (ufG D S P (cvB FR RW mem sc) t (vc - i) i))) := by
  have p12 : 2 ^ mem ≤ 4096 := show 2 ^ mem ≤ 2 ^ 12 from Nat.pow_le_pow_right (by decide) m12
  intro f
  induction f with
  | zero => intros; exact xq_0
  | succ f ih =>
    intro i il
    by_cases e : i = vc
    · refine xq_m 64 [] [] [.int (Int32.ofInt (-1))] h [true] 6 hq rfl ⟨(show xe_c .ge (nI i) (xg 0 h.2.1 39 63) = true by rw [e63, e]; exact decide_eq_true (Int32.le_refl _)), trivial⟩ (fun _ => ?_)
      rw [e, Nat.sub_self]
      exact xq_ret rfl rfl rfl rfl
    · have il : i < vc := by omega
      obtain ⟨a1, a2, a3⟩ := hA i il
      have g0 : xe_c .ge (nI i) (xg 0 h.2.1 39 63) = false := by rw [e63]; exact nge_f (by omega) (by omega) il
      have ek : (nI i).toNatClampNeg = i := nI_clamp (by omega)
      have nx : nI i + Int32.ofInt 1 = nI (i + 1) := nI_1 i
      rw [show vc - i = (vc - (i + 1)) + 1 by omega]
      unfold ufG
      cases c1 : xe_c .gt (D i) t with
      | true =>
        refine xq_m 7 [0, 1, 2] [(0, .ref 39), (1, .int t), (2, .int ((nI i) + Int32.ofInt 1))] [] h [false, true] 15 hq rfl ⟨g0, (show xe_c .gt (xg 0 h.2.1 69 (nI i).toNatClampNeg) t = true by rw [ek, a2]; exact c1), trivial⟩ (fun _ => ?_)
        rw [nx]
        exact ih (i + 1) il
      | false =>
        obtain ⟨s, es, hs⟩ := hS i il
        have sn : (S i).toInt.toNat = s := by rw [es, nI_toInt (by omega)]; omega
        refine xq_m 34 [0, 1, 2] [(0, .ref 39), (1, .int t), (2, .int (nI i))] [.int t, .int (xg 0 h.2.1 69 (nI i).toNatClampNeg), .ref 39, .ref 39] h [false, false] 19 hq rfl ⟨g0, (show xe_c .gt (xg 0 h.2.1 69 (nI i).toNatClampNeg) t = false by rw [ek, a2]; exact c1), trivial⟩ (fun _ => ?_)
        rw [ek, a2]
        refine xq_run hq rfl rfl (if10_q (d := D i) (t := t) (TD := TD) e33 sc8 hF (fun k hk' => (hT k hk').1) hq) ?_
        rintro v h1 ⟨rfl, rfl⟩
        rw [iF_w (ok := fun k => !xe_c .gt (TD k) t) (fun k hk' z => by
          have b1 : (FR k).toInt ≤ (D i).toInt := a_ce (a_neg_ok z)
          have b2 : (D i).toInt ≤ t.toInt := a_ce (a_neg_ok c1)
          have b3 := (hT k hk').2
          rw [show xe_c .gt (TD k) t = false from xgt_f (by omega)]
          rfl)]
        refine xq_n 43 [0, 1, 2] [(0, .ref 39), (1, .int t), (2, .int (nI i))] [.int (xg 0 h.2.1 68 (nI i).toNatClampNeg), .int (oN (iF FR (fun _ => true) (D i) sc)), .ref 39] h [] 6 hq rfl trivial (fun _ => ?_)
        rw [ek, a1, es]
        refine xq_run hq rfl rfl (cb10_q (RW := RW) e4 m12 (by omega) (fun k e => ⟨by have := iF_lt e; omega, hR k s (iF_lt e) hs⟩) hq) ?_
        rintro v h1 ⟨rfl, rfl⟩
        rw [← es, sn, show cvo RW mem s (iF FR (fun _ => true) (D i) sc) = cvB FR RW mem sc (D i) s from rfl]
        cases c2 : xe_c .eq (bl (cvB FR RW mem sc (D i) s)) (P i) with
        | true =>
          refine xq_n 7 [0, 1, 2] [(0, .ref 39), (1, .int t), (2, .int ((nI i) + Int32.ofInt 1))] [] h [true] 9 hq rfl ⟨(show xe_c .eq (bl (cvB FR RW mem sc (D i) s)) (xg 0 h.2.1 70 (nI i).toNatClampNeg) = true by rw [ek, a3]; exact c2), trivial⟩ (fun _ => ?_)
          rw [nx]
          exact ih (i + 1) il
        | false =>
          refine xq_n 56 [] [] [.int (nI i)] h [false] 8 hq rfl ⟨(show xe_c .eq (bl (cvB FR RW mem sc (D i) s)) (xg 0 h.2.1 70 (nI i).toNatClampNeg) = false by rw [ek, a3]; exact c2), trivial⟩ (fun _ => ?_)
          exact xq_ret rfl rfl rfl rfl
set_option maxRecDepth 100000 in
theorem uf10_q {f vc mem sc : Nat} {t : Int32} {D S P FR TD RW : Nat → Int32} {h : xh_H} (e4 : xg 0 h.2.1 39 4 = nI mem) (m12 : mem ≤ 12) (e33 : xg 0 h.2.1 39 33 = nI sc) (sc8 : sc ≤ 8) (hF : ∀ k, k < sc → xg 0 h.2.1 51 k = FR k) (hT : ∀ k, k < sc → xg 0 h.2.1 52 k = TD k ∧ (TD k).toInt ≤ (FR k).toInt) (hR : ∀ k s, k < sc → s < 2 ^ mem → ∃ b : Bool, RW (4096 * k + s) = bl b ∧ xg 0 h.2.1 44 (4096 * k + s) = bl b) (vc6 : vc ≤ 60) (e63 : xg 0 h.2.1 39 63 = nI vc) (hA : ∀ k, k < vc → xg 0 h.2.1 68 k = S k ∧ xg 0 h.2.1 69 k = D k ∧ xg 0 h.2.1 70 k = P k) (hS : ∀ k, k < vc → ∃ s, S k = nI s ∧ s < 2 ^ mem) (hq : a_rq a_tb h) : xq f xi_X10_unfit xmi_X10_unfit 0 [(0, .ref 39), (1, .int t)] [] h (fun v h' => v = some (.int (ufG D S P (cvB FR RW mem sc) t vc 0))) := by
  refine xq_n 7 [0, 1, 2] [(0, .ref 39), (1, .int t), (2, .int (Int32.ofInt 0))] [] (xh_ui h 39 0 (Int32.ofInt 0)) [] 7 hq rfl trivial (fun _ => ?_)
  exact uf10_lp ((gx_k (by decide)).trans e4) m12 ((gx_k (by decide)).trans e33) sc8 (fun k hk' => (gx_o (by decide)).trans (hF k hk')) (fun k hk' => ⟨(gx_o (by decide)).trans (hT k hk').1, (hT k hk').2⟩) (fun k s h1 h2 => by obtain ⟨b, b1, b2⟩ := hR k s h1 h2; exact ⟨b, b1, (gx_o (by decide)).trans b2⟩) vc6 ((gx_k (by decide)).trans e63) (fun k hk' => ⟨(gx_o (by decide)).trans (hA k hk').1, (gx_o (by decide)).trans (hA k hk').2.1, (gx_o (by decide)).trans (hA k hk').2.2⟩) hS (a_rq_ui hq) f 0 (Nat.zero_le _)
end XUF
end
section
section XVS
/-- the votes' sets are sets of the members -/
def VZ (h : xh_H) : Prop := ∀ mem vc, xg 0 h.2.1 0 9 = nI mem → mem ≤ 12 → xg 0 h.2.1 35 3 = nI vc → vc ≤ 60 → ∀ k, k < vc → ∃ s, xg 0 h.2.1 36 k = nI s ∧ s < 2 ^ mem
theorem VZ_s {h h' : xh_H} (e9 : xg 0 h'.2.1 0 9 = xg 0 h.2.1 0 9) (e35 : xg 0 h'.2.1 35 3 = xg 0 h.2.1 35 3) (e36 : ∀ k, xg 0 h'.2.1 36 k = xg 0 h.2.1 36 k) (S : VZ h) : VZ h' := fun mem vc x1 x2 x3 x4 k hk' => by
  rw [e36]
  exact S mem vc (e9.symm.trans x1) x2 (e35.symm.trans x3) x4 k hk'
def vsM (md : List (Nat × Nat)) : Bool := !a_mb md 0 9 && (!a_mb md 35 3 && !a_mb md 36 0)
theorem VZ_t {md : List (Nat × Nat)} {h h' : xh_H} (f : a_fr md h h') (m : vsM md = true) (S : VZ h) : VZ h' := by
  unfold vsM at m
  simp only [Bool.and_eq_true, Bool.not_eq_true'] at m
  exact VZ_s (fr_g f rfl m.1) (fr_g f rfl m.2.1) (fun k => fr_g (c := 36) (k := k) f rfl m.2.2) S
theorem VZ_2 {md1 md2 : List (Nat × Nat)} {h h1 h2 : xh_H} (f1 : a_fr md1 h h1) (f2 : a_fr md2 h1 h2) (m1 : vsM md1 = true) (m2 : vsM md2 = true) (S : VZ h) : VZ h2 := VZ_t f2 m2 (VZ_t f1 m1 S)
theorem VZ_m {h h1 h2 : xh_H} {x s w r : Int32} {md1 md2 : List (Nat × Nat)} (S : VZ h) (d1 : xg 0 h1.2.1 0 9 = cond (mbB s w r x) x (xg 0 h.2.1 0 9)) (e3 : xg 0 h.2.1 35 3 = w) (f1 : a_fr md1 h h1) (m3 : a_mb md1 35 3 = false) (m4 : a_mb md1 36 0 = false) (f2 : a_fr md2 h1 h2) (m2 : vsM md2 = true) : VZ h2 := by
  refine VZ_t f2 m2 ?_
  have e35 : xg 0 h1.2.1 35 3 = xg 0 h.2.1 35 3 := fr_g f1 rfl m3
  cases hB : mbB s w r x with
  | false =>
    rw [hB] at d1
    exact VZ_s d1 e35 (fun k => fr_g (c := 36) (k := k) f1 rfl m4) S
  | true =>
    intro mem vc x1 x2 x3 x4 k hk'
    exfalso
    rw [e35, e3] at x3
    unfold mbB at hB
    simp only [Bool.and_eq_true, Bool.not_eq_true'] at hB
    have b0 : w.toInt ≤ (0 : Int) := a_ce (a_neg_ok hB.2.2.1)
    rw [x3, nI_toInt (by omega)] at b0
    omega
theorem VZ_v {h h1 h2 : xh_H} {x : Int32} {mem vc : Nat} {md1 md2 : List (Nat × Nat)} (S : VZ h) (m12 : mem ≤ 12) (e9 : xg 0 h.2.1 0 9 = nI mem) (e35 : xg 0 h.2.1 35 3 = nI vc) (v6 : vc ≤ 60) (d1 : xg 0 h1.2.1 35 3 = nI (cond ((!xe_c .lt x 0 && !xe_c .ge x (Int32.ofInt 1 <<< (nI mem &&& 31))) && decide (vc < 60)) (vc + 1) vc)) (a1 : ∀ k, xg 0 h1.2.1 36 k = cond (((!xe_c .lt x 0 && !xe_c .ge x (Int32.ofInt 1 <<< (nI mem &&& 31))) && decide (vc < 60)) && Nat.beq k vc) x (xg 0 h.2.1 36 k)) (f1 : a_fr md1 h h1) (m3 : a_mb md1 0 9 = false) (f2 : a_fr md2 h1 h2) (m2 : vsM md2 = true) : VZ h2 := by
  refine VZ_t f2 m2 ?_
  intro mem' vc' x1 x2 x3 x4 k hk'
  rw [fr_g f1 rfl m3, e9] at x1
  have em : mem = mem' := by
    have y := congrArg Int32.toInt x1
    rw [nI_toInt (by omega), nI_toInt (by omega)] at y
    omega
  subst em
  rw [a1 k]
  cases hB : ((!xe_c .lt x 0 && !xe_c .ge x (Int32.ofInt 1 <<< (nI mem &&& 31))) && decide (vc < 60)) with
  | false =>
    rw [hB] at d1
    rw [d1] at x3
    have y := congrArg Int32.toInt x3
    have y : (nI vc).toInt = (nI vc').toInt := y
    rw [nI_toInt (by omega), nI_toInt (by omega)] at y
    exact S mem vc e9 x2 e35 v6 k (by omega)
  | true =>
    rw [hB] at d1
    rw [d1] at x3
    have y := congrArg Int32.toInt x3
    have y : (nI (vc + 1)).toInt = (nI vc').toInt := y
    rw [nI_toInt (by omega), nI_toInt (by omega)] at y
    rw [Bool.true_and]
    cases hk : Nat.beq k vc with
    | true =>
      obtain ⟨s, e1, e2, -⟩ := inS_n m12 (Bool.and_eq_true _ _ ▸ hB).1
      exact ⟨s, e1, e2⟩
    | false =>
      have : k ≠ vc := fun z => by rw [z, Nat.beq_refl] at hk; cases hk
      exact S mem vc e9 x2 e35 v6 k (by omega)
end XVS
end
section
section XLA
def S53 (c k : Nat) : Bool := (Nat.beq c 39 && Nat.beq k 35) || Nat.beq c 53
set_option maxRecDepth 100000 in
set_option maxHeartbeats 4000000 in
theorem lay_lp {mem sc : Nat} {FR RW : Nat → Int32} {d : Int32} {hb : xh_H} (m12 : mem ≤ 12) (sc8 : sc ≤ 8) (e4 : xg 0 hb.2.1 39 4 = nI mem) (e35 : xg 0 hb.2.1 39 35 = nI (2 ^ mem)) (hR : ∀ k s, k < sc → s < 2 ^ mem → ∃ b : Bool, RW (4096 * k + s) = bl b ∧ xg 0 hb.2.1 44 (4096 * k + s) = bl b) : ∀ (f i : Nat) (h : xh_H), a_rq a_tb h → fx (fun c _ => Nat.beq c 53) fN hb h → i ≤ 2 ^ mem → (∀ s, s < i → xg 0 h.2.1 53 s = bl (cvB FR RW mem sc d s)) → xq f xi_X10_lay xmi_X10_lay 24 [(0, .ref 39), (1, .int (oN (iF FR (fun _ => true) d sc))), (2, .int (nI i))] [] h (fun v h' => v = none ∧ fx (fun c _ => Nat.beq c 53) fN hb h' ∧ ∀ s, s < 2 ^ mem → xg 0 h'.2.1 53 s = bl (cvB FR RW mem sc d s)) := by
  have p12 : 2 ^ mem ≤ 4096 := show 2 ^ mem ≤ 2 ^ 12 from Nat.pow_le_pow_right (by decide) m12
  intro f
  induction f with
  | zero => intros; exact xq_0
  | succ f ih =>
    intro i h hq ge i6 w
    have d35 : xg 0 h.2.1 39 35 = nI (2 ^ mem) := (fx_i ge rfl).trans e35
    have d4 : xg 0 h.2.1 39 4 = nI mem := (fx_i ge rfl).trans e4
    by_cases e : i = 2 ^ mem
    · refine xq_m 50 [] [] [] h [true] 6 hq rfl ⟨(show xe_c .ge (nI i) (xg 0 h.2.1 39 35) = true by rw [d35, e]; exact decide_eq_true (Int32.le_refl _)), trivial⟩ (fun _ => ?_)
      rw [e] at w
      exact xq_ret rfl rfl rfl ⟨rfl, ge, w⟩
    · have il : i < 2 ^ mem := by omega
      refine xq_m 40 [0, 1, 2] [(0, .ref 39), (1, .int (oN (iF FR (fun _ => true) d sc))), (2, .int (nI i))] [.int (nI i), .int (oN (iF FR (fun _ => true) d sc)), .ref 39, .int (nI i), .ref 53] h [false] 12 hq rfl ⟨(show xe_c .ge (nI i) (xg 0 h.2.1 39 35) = false by rw [d35]; exact nge_f (by omega) (by omega) il), trivial⟩ (fun _ => ?_)
      refine xq_run hq rfl rfl (cb10_q (RW := RW) d4 m12 (by omega) (fun k e => ⟨by have := iF_lt e; omega, by
        obtain ⟨b, b1, b2⟩ := hR k i (iF_lt e) il
        exact ⟨b, b1, (fx_i ge rfl).trans b2⟩⟩) hq) ?_
      rintro v h1 ⟨rfl, rfl⟩
      rw [show cvo RW mem i (iF FR (fun _ => true) d sc) = cvB FR RW mem sc d i from rfl]
      refine xq_n 24 [0, 1, 2] [(0, .ref 39), (1, .int (oN (iF FR (fun _ => true) d sc))), (2, .int ((nI i) + Int32.ofInt 1))] [] (xh_ui h 53 (nI i).toNatClampNeg (vp_nar .boolean (bl (cvB FR RW mem sc d i)))) [] 5 hq rfl trivial (fun _ => ?_)
      rw [show nI i + Int32.ofInt 1 = nI (i + 1) from nI_1 _, show (nI i).toNatClampNeg = i from nI_clamp (by omega), bl_n]
      refine ih (i + 1) _ (a_rq_ui hq) (fx_ui ge rfl) il (fun s hs => ?_)
      by_cases z : s = i
      · rw [z]; exact gx_s
      · rw [gx_k z]; exact w s (by omega)
set_option maxRecDepth 100000 in
set_option maxHeartbeats 4000000 in
/-- X10.lay -/
theorem lay_q {f mem sc : Nat} {FR RW : Nat → Int32} {d : Int32} {h : xh_H} (m12 : mem ≤ 12) (e4 : xg 0 h.2.1 39 4 = nI mem) (e33 : xg 0 h.2.1 39 33 = nI sc) (sc8 : sc ≤ 8) (e3 : xg 0 h.2.1 39 3 = d) (hF : ∀ k, k < sc → xg 0 h.2.1 51 k = FR k) (hT : ∀ k, k < sc → (xg 0 h.2.1 52 k).toInt ≤ 999) (hR : ∀ k s, k < sc → s < 2 ^ mem → ∃ b : Bool, RW (4096 * k + s) = bl b ∧ xg 0 h.2.1 44 (4096 * k + s) = bl b) (hq : a_rq a_tb h) : xq f xi_X10_lay xmi_X10_lay 0 [(0, .ref 39)] [] h (fun v h' => v = none ∧ fx S53 fN h h' ∧ xg 0 h'.2.1 39 35 = nI (2 ^ mem) ∧ ∀ s, s < 2 ^ mem → xg 0 h'.2.1 53 s = bl (cvB FR RW mem sc d s)) := by
  refine xq_n 8 [0] [(0, .ref 39)] [.int 999, .int (xg 0 h.2.1 39 3), .ref 39] h [] 6 hq rfl trivial (fun _ => ?_)
  rw [e3]
  refine xq_run hq rfl rfl (if10_q (d := d) (t := 999) (TD := fun k => xg 0 h.2.1 52 k) e33 sc8 hF (fun _ _ => rfl) hq) ?_
  rintro v h1 ⟨rfl, rfl⟩
  rw [iF_td hT]
  refine xq_n 24 [0, 1, 2] [(0, .ref 39), (1, .int (oN (iF FR (fun _ => true) d sc))), (2, .int (Int32.ofInt 0))] [] (xh_ui h 39 35 (Int32.ofInt 1 <<< ((xg 0 h.2.1 39 4) &&& 31))) [] 11 hq rfl trivial (fun _ => ?_)
  rw [e4, sh1 mem (by omega)]
  have g1 : fx S53 fN h (xh_ui h 39 35 (nI (2 ^ mem))) := fx_ui fx_0 rfl
  refine xq_mono (lay_lp m12 sc8 (FR := FR) (d := d) (hb := xh_ui h 39 35 (nI (2 ^ mem))) ((gx_k (by decide)).trans e4) gx_s (fun k s h1 h2 => by
    obtain ⟨b, b1, b2⟩ := hR k s h1 h2
    exact ⟨b, b1, (gx_o (by decide)).trans b2⟩) f 0 _ (a_rq_ui hq) fx_0 (Nat.zero_le _) (fun s hs => absurd hs (Nat.not_lt_zero s))) (fun v h' e => ?_)
  exact ⟨e.1, fx_t g1 (fx_w e.2.1 (fun c k z => (or_f z).2) (fun _ _ z => z)), (fx_i e.2.1 rfl).trans gx_s, e.2.2⟩
/-- who prefers x to y -/
def wp (PL : Nat → Int32) (x y : Nat) : Nat → Nat
  | 0 => 0
  | m + 1 => if xe_c .ge (PL (7 * m + x)) (PL (7 * m + y)) = true then wp PL x y m else wp PL x y m ||| 2 ^ m
theorem wp_lt {PL : Nat → Int32} {x y : Nat} : ∀ m, wp PL x y m < 2 ^ m := by
  intro m
  induction m with
  | zero => exact Nat.one_pos
  | succ m ih =>
    unfold wp
    have : 2 ^ (m + 1) = 2 * 2 ^ m := by rw [Nat.pow_succ]; omega
    split
    · omega
    · exact Nat.or_lt_two_pow (by omega) (by omega)
theorem wp_c {PL PL' : Nat → Int32} {x y : Nat} (hx : x < 7) (hy : y < 7) : ∀ m, (∀ k, k < 7 * m → PL k = PL' k) → wp PL x y m = wp PL' x y m := by
  intro m
  induction m with
  | zero => intro _; rfl
  | succ m ih =>
    intro e
    unfold wp
    rw [ih (fun k hk' => e k (by omega)), e _ (by omega), e _ (by omega)]
theorem i7_a {m x : Nat} : nI m * 7 + nI x = nI (7 * m + x) := by
  show nI m * nI 7 + nI x = nI (7 * m + x)
  rw [← nI_mul2, nI_add, Nat.mul_comm]
theorem i7_b {m x : Nat} : 7 * nI m + nI x = nI (7 * m + x) := by
  show nI 7 * nI m + nI x = nI (7 * m + x)
  rw [← nI_mul2, nI_add]
set_option maxRecDepth 100000 in
set_option maxHeartbeats 4000000 in
theorem who_lp {mem x y : Nat} {PL : Nat → Int32} {h : xh_H} (m12 : mem ≤ 12) (hx : x < 7) (hy : y < 7) (hP : ∀ k, k < 84 → xg 0 h.2.1 30 k = PL k) (hq : a_rq a_tb h) : ∀ (f i : Nat), i ≤ mem → xq f xi_X0_whoPrefer xmi_X0_whoPrefer 6 [(0, .ref 28), (1, .int (nI x)), (2, .int (nI y)), (3, .int (nI mem)), (4, .int (nI (wp PL x y i))), (5, .int (nI i))] [] h (fun v h' => h = h' ∧ v = some (.int (nI (wp PL x y mem)))) := by
  intro f
  induction f with
  | zero => intros; exact xq_0
  | succ f ih =>
    intro i il
    by_cases e : i = mem
    · refine xq_m 56 [] [] [.int (nI (wp PL x y i))] h [true] 6 hq rfl ⟨(show xe_c .ge (nI i) (nI mem) = true by rw [e]; exact decide_eq_true (Int32.le_refl _)), trivial⟩ (fun _ => ?_)
      rw [e]
      exact xq_ret rfl rfl rfl ⟨rfl, rfl⟩
    · have il : i < mem := by omega
      have g0 : xe_c .ge (nI i) (nI mem) = false := nge_f (by omega) (by omega) il
      have k1 : xg 0 h.2.1 30 (nI i * 7 + nI x).toNatClampNeg = PL (7 * i + x) := by rw [i7_a, nI_clamp (by omega)]; exact hP _ (by omega)
      have k2 : xg 0 h.2.1 30 (nI i * 7 + nI y).toNatClampNeg = PL (7 * i + y) := by rw [i7_a, nI_clamp (by omega)]; exact hP _ (by omega)
      have nx : nI i + Int32.ofInt 1 = nI (i + 1) := nI_1 i
      have ew : wp PL x y (i + 1) = if xe_c .ge (PL (7 * i + x)) (PL (7 * i + y)) = true then wp PL x y i else wp PL x y i ||| 2 ^ i := rfl
      cases c1 : xe_c .ge (PL (7 * i + x)) (PL (7 * i + y)) with
      | true =>
        refine xq_m 6 [0, 1, 2, 3, 4, 5] [(0, .ref 28), (1, .int (nI x)), (2, .int (nI y)), (3, .int (nI mem)), (4, .int (nI (wp PL x y i))), (5, .int ((nI i) + Int32.ofInt 1))] [] h [false, true] 24 hq rfl ⟨g0, (show xe_c .ge (xg 0 h.2.1 30 (nI i * 7 + nI x).toNatClampNeg) (xg 0 h.2.1 30 (nI i * 7 + nI y).toNatClampNeg) = true by rw [k1, k2]; exact c1), trivial⟩ (fun _ => ?_)
        rw [nx, show wp PL x y i = wp PL x y (i + 1) by rw [ew, if_pos c1]]
        exact ih (i + 1) il
      | false =>
        refine xq_m 6 [0, 1, 2, 3, 4, 5] [(0, .ref 28), (1, .int (nI x)), (2, .int (nI y)), (3, .int (nI mem)), (4, .int ((nI (wp PL x y i)) ||| ((Int32.ofInt 1) <<< ((nI i) &&& 31)))), (5, .int ((nI i) + Int32.ofInt 1))] [] h [false, false] 30 hq rfl ⟨g0, (show xe_c .ge (xg 0 h.2.1 30 (nI i * 7 + nI x).toNatClampNeg) (xg 0 h.2.1 30 (nI i * 7 + nI y).toNatClampNeg) = false by rw [k1, k2]; exact c1), trivial⟩ (fun _ => ?_)
        rw [nx, nI_o1 (by omega), show wp PL x y i ||| 2 ^ i = wp PL x y (i + 1) by rw [ew, if_neg (by rw [c1]; decide)]]
        exact ih (i + 1) il
set_option maxRecDepth 100000 in
/-- Ballot.whoPrefer -/
theorem who_q {f mem x y : Nat} {PL : Nat → Int32} {h : xh_H} (m12 : mem ≤ 12) (hx : x < 7) (hy : y < 7) (hP : ∀ k, k < 84 → xg 0 h.2.1 30 k = PL k) (hq : a_rq a_tb h) : xq f xi_X0_whoPrefer xmi_X0_whoPrefer 0 [(0, .ref 28), (1, .int (nI x)), (2, .int (nI y)), (3, .int (nI mem))] [] h (fun v h' => h = h' ∧ v = some (.int (nI (wp PL x y mem)))) := by
  refine xq_n 6 [0, 1, 2, 3, 4, 5] [(0, .ref 28), (1, .int (nI x)), (2, .int (nI y)), (3, .int (nI mem)), (4, .int (Int32.ofInt 0)), (5, .int (Int32.ofInt 0))] [] h [] 6 hq rfl trivial (fun _ => ?_)
  exact who_lp m12 hx hy hP hq f 0 (Nat.zero_le _)
set_option maxRecDepth 100000 in
set_option maxHeartbeats 4000000 in
theorem bto_lp {mem x y : Nat} {PL : Nat → Int32} {W : Nat → Bool} {h : xh_H} (m12 : mem ≤ 12) (hx : x < 7) (hy : y < 7) (e4 : xg 0 h.2.1 39 4 = nI mem) (hP : ∀ k, k < 84 → xg 0 h.2.1 62 k = PL k) (hW : ∀ s, s < 2 ^ mem → xg 0 h.2.1 53 s = bl (W s)) (hq : a_rq a_tb h) : ∀ (f i : Nat), i ≤ mem → xq f xi_X10_beatsOf xmi_X10_beatsOf 5 [(0, .ref 39), (1, .int (nI x)), (2, .int (nI y)), (3, .int (nI (wp PL x y i))), (4, .int (nI i))] [] h (fun v h' => h = h' ∧ v = some (.int (bl (W (wp PL x y mem))))) := by
  have p12 : 2 ^ mem ≤ 4096 := show 2 ^ mem ≤ 2 ^ 12 from Nat.pow_le_pow_right (by decide) m12
  intro f
  induction f with
  | zero => intros; exact xq_0
  | succ f ih =>
    intro i il
    by_cases e : i = mem
    · have wl := wp_lt (PL := PL) (x := x) (y := y) mem
      refine xq_m 60 [] [] [.int (xg 0 h.2.1 53 (nI (wp PL x y i)).toNatClampNeg)] h [true] 9 hq rfl ⟨(show xe_c .ge (nI i) (xg 0 h.2.1 39 4) = true by rw [e4, e]; exact decide_eq_true (Int32.le_refl _)), trivial⟩ (fun _ => ?_)
      rw [e, nI_clamp (by omega), hW _ wl]
      exact xq_ret rfl rfl rfl ⟨rfl, rfl⟩
    · have il : i < mem := by omega
      have g0 : xe_c .ge (nI i) (xg 0 h.2.1 39 4) = false := by rw [e4]; exact nge_f (by omega) (by omega) il
      have k1 : xg 0 h.2.1 62 (7 * nI i + nI x).toNatClampNeg = PL (7 * i + x) := by rw [i7_b, nI_clamp (by omega)]; exact hP _ (by omega)
      have k2 : xg 0 h.2.1 62 (7 * nI i + nI y).toNatClampNeg = PL (7 * i + y) := by rw [i7_b, nI_clamp (by omega)]; exact hP _ (by omega)
      have nx : nI i + Int32.ofInt 1 = nI (i + 1) := nI_1 i
      have ew : wp PL x y (i + 1) = if xe_c .ge (PL (7 * i + x)) (PL (7 * i + y)) = true then wp PL x y i else wp PL x y i ||| 2 ^ i := rfl
      cases c1 : xe_c .ge (PL (7 * i + x)) (PL (7 * i + y)) with
      | true =>
        refine xq_m 5 [0, 1, 2, 3, 4] [(0, .ref 39), (1, .int (nI x)), (2, .int (nI y)), (3, .int (nI (wp PL x y i))), (4, .int ((nI i) + Int32.ofInt 1))] [] h [false, true] 25 hq rfl ⟨g0, (show xe_c .ge (xg 0 h.2.1 62 (7 * nI i + nI x).toNatClampNeg) (xg 0 h.2.1 62 (7 * nI i + nI y).toNatClampNeg) = true by rw [k1, k2]; exact c1), trivial⟩ (fun _ => ?_)
        rw [nx, show wp PL x y i = wp PL x y (i + 1) by rw [ew, if_pos c1]]
        exact ih (i + 1) il
      | false =>
        refine xq_m 5 [0, 1, 2, 3, 4] [(0, .ref 39), (1, .int (nI x)), (2, .int (nI y)), (3, .int ((nI (wp PL x y i)) ||| ((Int32.ofInt 1) <<< ((nI i) &&& 31)))), (4, .int ((nI i) + Int32.ofInt 1))] [] h [false, false] 31 hq rfl ⟨g0, (show xe_c .ge (xg 0 h.2.1 62 (7 * nI i + nI x).toNatClampNeg) (xg 0 h.2.1 62 (7 * nI i + nI y).toNatClampNeg) = false by rw [k1, k2]; exact c1), trivial⟩ (fun _ => ?_)
        rw [nx, nI_o1 (by omega), show wp PL x y i ||| 2 ^ i = wp PL x y (i + 1) by rw [ew, if_neg (by rw [c1]; decide)]]
        exact ih (i + 1) il
set_option maxRecDepth 100000 in
/-- X10.beatsOf -/
theorem bto_q {f mem x y : Nat} {PL : Nat → Int32} {W : Nat → Bool} {h : xh_H} (m12 : mem ≤ 12) (hx : x < 7) (hy : y < 7) (e4 : xg 0 h.2.1 39 4 = nI mem) (hP : ∀ k, k < 84 → xg 0 h.2.1 62 k = PL k) (hW : ∀ s, s < 2 ^ mem → xg 0 h.2.1 53 s = bl (W s)) (hq : a_rq a_tb h) : xq f xi_X10_beatsOf xmi_X10_beatsOf 0 [(0, .ref 39), (1, .int (nI x)), (2, .int (nI y))] [] h (fun v h' => h = h' ∧ v = some (.int (bl (W (wp PL x y mem))))) := by
  refine xq_n 5 [0, 1, 2, 3, 4] [(0, .ref 39), (1, .int (nI x)), (2, .int (nI y)), (3, .int (Int32.ofInt 0)), (4, .int (Int32.ofInt 0))] [] h [] 6 hq rfl trivial (fun _ => ?_)
  exact bto_lp m12 hx hy e4 hP hW hq f 0 (Nat.zero_le _)
end XLA
end
section
section XOP
/-- a row of bits -/
def msk (f : Nat → Bool) : Nat → Nat
  | 0 => 0
  | n + 1 => if f n = true then msk f n ||| 2 ^ n else msk f n
theorem msk_lt {f : Nat → Bool} : ∀ n, msk f n < 2 ^ n := by
  intro n
  induction n with
  | zero => exact Nat.one_pos
  | succ n ih =>
    unfold msk
    have : 2 ^ (n + 1) = 2 * 2 ^ n := by rw [Nat.pow_succ]; omega
    split
    · exact Nat.or_lt_two_pow (by omega) (by omega)
    · omega
theorem msk_tb {f : Nat → Bool} {k : Nat} : ∀ n, (msk f n).testBit k = (decide (k < n) && f k) := by
  intro n
  induction n with
  | zero =>
    show (0 : Nat).testBit k = _
    rw [Nat.zero_testBit, decide_eq_false (Nat.not_lt_zero k), Bool.false_and]
  | succ n ih =>
    unfold msk
    by_cases e : k = n
    · subst e
      have h0 : (msk f k).testBit k = false := Nat.testBit_lt_two_pow (msk_lt k)
      rw [decide_eq_true (Nat.lt_succ_self k), Bool.true_and]
      split
      · rename_i h; rw [Nat.testBit_or, Nat.testBit_two_pow_self, h, Bool.or_true]
      · rename_i h; rw [h0]; exact (Bool.eq_false_iff.mpr h).symm
    · have hd : decide (k < n + 1) = decide (k < n) := by
        by_cases z : k < n
        · rw [decide_eq_true z, decide_eq_true (by omega)]
        · rw [decide_eq_false z, decide_eq_false (by omega)]
      rw [hd]
      split
      · rw [Nat.testBit_or, ih, Nat.testBit_two_pow, show decide (n = k) = false from decide_eq_false (fun z => e z.symm), Bool.or_false]
      · exact ih
theorem msk_x {a b : Nat} (ha : a < 2 ^ 7) (hb : b < 2 ^ 7) (h : ∀ k, k < 7 → a.testBit k = b.testBit k) : a = b := by
  apply Nat.eq_of_testBit_eq
  intro k
  by_cases z : k < 7
  · exact h k z
  · rw [Nat.testBit_lt_two_pow (Nat.lt_of_lt_of_le ha (Nat.pow_le_pow_right (by decide) (by omega))), Nat.testBit_lt_two_pow (Nat.lt_of_lt_of_le hb (Nat.pow_le_pow_right (by decide) (by omega)))]
theorem msk_c {f g : Nat → Bool} : ∀ n, (∀ k, k < n → f k = g k) → msk f n = msk g n := by
  intro n
  induction n with
  | zero => intro _; rfl
  | succ n ih =>
    intro e
    unfold msk
    rw [ih (fun k hk' => e k (by omega)), e n (by omega)]
theorem msk_or {f g : Nat → Bool} : nI (msk f 7) ||| nI (msk g 7) = nI (msk (fun k => f k || g k) 7) := by
  rw [nI_or]
  congr 1
  refine msk_x (Nat.or_lt_two_pow (msk_lt 7) (msk_lt 7)) (msk_lt 7) (fun k hk' => ?_)
  rw [Nat.testBit_or, msk_tb, msk_tb, msk_tb, decide_eq_true hk', Bool.true_and, Bool.true_and, Bool.true_and]
theorem msk_b {f : Nat → Bool} {k : Nat} (hk : k < 7) : ((nI (msk f 7) >>> (nI k &&& 31)) &&& Int32.ofInt 1) = bl (f k) := by
  have := msk_lt (f := f) 7
  rw [nI_b0 (by omega) (by omega), msk_tb, decide_eq_true hk, Bool.true_and, bl_nI]
theorem msk_s {f : Nat → Bool} {n : Nat} (h : n ≤ 11) : nI (msk f n) ||| (Int32.ofInt 1 <<< (nI n &&& 31)) = nI (msk f n ||| 2 ^ n) := nI_o1 h
/-- what beats what -/
def BT (PL : Nat → Int32) (W : Nat → Bool) (mem x y : Nat) : Bool := !decide (x = y) && W (wp PL x y mem)
def S31 (c _k : Nat) : Bool := Nat.beq c 31
section
variable {Q r mem : Nat} {PL : Nat → Int32} {W : Nat → Bool} {h0 : xh_H}
set_option maxRecDepth 100000 in
set_option maxHeartbeats 4000000 in
theorem mat_in (m12 : mem ≤ 12) (hs : h0.1[Q]? = some (0, 7)) (hg : xg none h0.2.2.2 Q 1 = some r) (hr : h0.1[r]? = some (4, 64)) (hW : ∀ s, s < 2 ^ mem → hv h0 r s = W s) (hP : ∀ k, k < 84 → xg 0 h0.2.1 30 k = PL k) {x : Nat} (hx : x < 7) {Qr : Option Value → xh_H → Prop} (K : ∀ (f : Nat) (h : xh_H), a_rq a_tb h → fx S31 fN h0 h → (∀ x', x' < x + 1 → xg 0 h.2.1 31 x' = nI (msk (BT PL W mem x') 7)) → xq f xi_X0_match xmi_X0_match 2 [(0, .ref 28), (1, .ref Q), (2, .int (nI mem)), (3, .int (nI (x + 1)))] [] h Qr) : ∀ (f y : Nat) (h : xh_H), a_rq a_tb h → fx S31 fN h0 h → y ≤ 7 → (∀ x', x' < x → xg 0 h.2.1 31 x' = nI (msk (BT PL W mem x') 7)) → xg 0 h.2.1 31 x = nI (msk (BT PL W mem x) y) → xq f xi_X0_match xmi_X0_match 18 [(0, .ref 28), (1, .ref Q), (2, .int (nI mem)), (3, .int (nI x)), (4, .int (nI y))] [] h Qr := by
  have p12 : 2 ^ mem ≤ 4096 := show 2 ^ mem ≤ 2 ^ 12 from Nat.pow_le_pow_right (by decide) m12
  intro f
  induction f with
  | zero => intros; exact xq_0
  | succ f ih =>
    intro y h hq ge y6 w wx
    have nx : nI y + Int32.ofInt 1 = nI (y + 1) := nI_1 y
    have ek : (nI x).toNatClampNeg = x := nI_clamp (by omega)
    by_cases e : y = 7
    · refine xq_m 2 [0, 1, 2, 3] [(0, .ref 28), (1, .ref Q), (2, .int (nI mem)), (3, .int ((nI x) + Int32.ofInt 1))] [] h [true] 7 hq rfl ⟨(show xe_c .ge (nI y) 7 = true by rw [e]; rfl), trivial⟩ (fun _ => ?_)
      rw [show nI x + Int32.ofInt 1 = nI (x + 1) from nI_1 x]
      refine K f h hq ge (fun x' hx' => ?_)
      by_cases z : x' = x
      · rw [z, wx, e]
      · exact w x' (by omega)
    · have yl : y < 7 := by omega
      have g0 : xe_c .ge (nI y) 7 = false := nge_f (b := 7) (by omega) (by decide) yl
      by_cases exy : x = y
      · refine xq_m 18 [0, 1, 2, 3, 4] [(0, .ref 28), (1, .ref Q), (2, .int (nI mem)), (3, .int (nI x)), (4, .int ((nI y) + Int32.ofInt 1))] [] h [false, true] 10 hq rfl ⟨g0, decide_eq_true (by rw [exy]), trivial⟩ (fun _ => ?_)
        rw [nx]
        refine ih (y + 1) h hq ge (by omega) w ?_
        rw [wx]
        show nI (msk _ y) = nI (if BT PL W mem x y = true then _ else msk _ y)
        rw [if_neg (by unfold BT; rw [decide_eq_true exy]; simp)]
      · have n1 : xe_c .eq (nI x) (nI y) = false := decide_eq_false (fun z => exy (by have z2 := congrArg Int32.toInt z; rw [nI_toInt (by omega), nI_toInt (by omega)] at z2; omega))
        have wl := wp_lt (PL := PL) (x := x) (y := y) mem
        refine xq_m 37 [0, 1, 2, 3, 4] [(0, .ref 28), (1, .ref Q), (2, .int (nI mem)), (3, .int (nI x)), (4, .int (nI y))] [.int (nI mem), .int (nI y), .int (nI x), .ref 28, .ref Q] h [false, false] 13 hq rfl ⟨g0, n1, trivial⟩ (fun _ => ?_)
        refine xq_run hq rfl rfl (who_q (PL := PL) m12 hx yl (fun k hk' => (fx_i ge rfl).trans (hP k hk')) hq) ?_
        rintro v h1 ⟨rfl, rfl⟩
        refine xq_cr (As := [.ref Q, .int (nI (wp PL x y mem))]) (mj := xmi_X7_holds) (q := []) rfl rfl (fun _ _ => rfl) (xa_cs_ok (d := 0) (pc := 0) (lv := []) (nL := 0) (show h.1[Q]? = some (0, 7) by rw [ge.1]; exact hs) rfl).1 (fun f => xq_of (d := 0) ⟨_, rfl⟩ (ho_run hq (by rw [ge.1]; exact hs) (by rw [ge.2.1]; exact hg) (by rw [ge.1]; exact hr) (by omega))) ?_
        rintro v h1 ⟨rfl, rfl⟩
        rw [hv_f ge (fun _ => rfl), hW _ wl]
        have eB : BT PL W mem x y = W (wp PL x y mem) := by unfold BT; rw [decide_eq_false exy]; rfl
        cases cW : W (wp PL x y mem) with
        | false =>
          refine xq_n 18 [0, 1, 2, 3, 4] [(0, .ref 28), (1, .ref Q), (2, .int (nI mem)), (3, .int (nI x)), (4, .int ((nI y) + Int32.ofInt 1))] [] h [true] 5 hq rfl ⟨rfl, trivial⟩ (fun _ => ?_)
          rw [nx]
          refine ih (y + 1) h hq ge (by omega) w ?_
          rw [wx]
          show nI (msk _ y) = nI (if BT PL W mem x y = true then _ else msk _ y)
          rw [if_neg (by rw [eB, cW]; decide)]
        | true =>
          refine xq_n 18 [0, 1, 2, 3, 4] [(0, .ref 28), (1, .ref Q), (2, .int (nI mem)), (3, .int (nI x)), (4, .int ((nI y) + Int32.ofInt 1))] [] (xh_ui h 31 (nI x).toNatClampNeg ((xg 0 h.2.1 31 (nI x).toNatClampNeg) ||| ((Int32.ofInt 1) <<< ((nI y) &&& 31)))) [false] 15 hq rfl ⟨rfl, trivial⟩ (fun _ => ?_)
          rw [nx, ek, wx, nI_o1 (by omega)]
          refine ih (y + 1) _ (a_rq_ui hq) (fx_ui ge rfl) (by omega) (fun x' hx' => (gx_k (by omega)).trans (w x' hx')) ?_
          rw [gx_s]
          show nI (msk _ y ||| 2 ^ y) = nI (if BT PL W mem x y = true then _ else msk _ y)
          rw [if_pos (by rw [eB, cW])]
set_option maxRecDepth 100000 in
set_option maxHeartbeats 4000000 in
theorem mat_out (m12 : mem ≤ 12) (hs : h0.1[Q]? = some (0, 7)) (hg : xg none h0.2.2.2 Q 1 = some r) (hr : h0.1[r]? = some (4, 64)) (hW : ∀ s, s < 2 ^ mem → hv h0 r s = W s) (hP : ∀ k, k < 84 → xg 0 h0.2.1 30 k = PL k) : ∀ (n f x : Nat) (h : xh_H), x + n = 7 → a_rq a_tb h → fx S31 fN h0 h → (∀ x', x' < x → xg 0 h.2.1 31 x' = nI (msk (BT PL W mem x') 7)) → xq f xi_X0_match xmi_X0_match 2 [(0, .ref 28), (1, .ref Q), (2, .int (nI mem)), (3, .int (nI x))] [] h (fun v h' => v = none ∧ fx S31 fN h0 h' ∧ ∀ x, x < 7 → xg 0 h'.2.1 31 x = nI (msk (BT PL W mem x) 7)) := by
  intro n
  induction n with
  | zero =>
    intro f x h hn hq ge w
    have e : x = 7 := by omega
    subst e
    refine xq_n 71 [] [] [] h [true] 5 hq rfl ⟨rfl, trivial⟩ (fun _ => ?_)
    exact xq_ret rfl rfl rfl ⟨rfl, ge, w⟩
  | succ n ih =>
    intro f x h hn hq ge w
    refine xq_n 18 [0, 1, 2, 3, 4] [(0, .ref 28), (1, .ref Q), (2, .int (nI mem)), (3, .int (nI x)), (4, .int (Int32.ofInt 0))] [] (xh_ui h 31 (nI x).toNatClampNeg (Int32.ofInt 0)) [false] 12 hq rfl ⟨(show xe_c .ge (nI x) 7 = false from nge_f (b := 7) (by omega) (by decide) (by omega)), trivial⟩ (fun _ => ?_)
    rw [show (nI x).toNatClampNeg = x from nI_clamp (by omega)]
    exact mat_in m12 hs hg hr hW hP (x := x) (by omega) (fun f h hq ge w => ih f (x + 1) h (by omega) hq ge w) f 0 _ (a_rq_ui hq) (fx_ui ge rfl) (by omega) (fun x' hx' => (gx_k (by omega)).trans (w x' hx')) gx_s
set_option maxRecDepth 100000 in
/-- Ballot.match -/
theorem mat_q {f : Nat} (m12 : mem ≤ 12) (hs : h0.1[Q]? = some (0, 7)) (hg : xg none h0.2.2.2 Q 1 = some r) (hr : h0.1[r]? = some (4, 64)) (hW : ∀ s, s < 2 ^ mem → hv h0 r s = W s) (hP : ∀ k, k < 84 → xg 0 h0.2.1 30 k = PL k) (hq : a_rq a_tb h0) : xq f xi_X0_match xmi_X0_match 0 [(0, .ref 28), (1, .ref Q), (2, .int (nI mem))] [] h0 (fun v h' => v = none ∧ fx S31 fN h0 h' ∧ ∀ x, x < 7 → xg 0 h'.2.1 31 x = nI (msk (BT PL W mem x) 7)) := by
  refine xq_n 2 [0, 1, 2, 3] [(0, .ref 28), (1, .ref Q), (2, .int (nI mem)), (3, .int (Int32.ofInt 0))] [] h0 [] 4 hq rfl trivial (fun _ => ?_)
  exact mat_out m12 hs hg hr hW hP 7 f 0 h0 (by omega) hq fx_0 (fun x hx => absurd hx (Nat.not_lt_zero x))
end
end XOP
end
section
section XLO2
/-- a row of the matrix of what comes behind what, while it is made greater -/
def upr (C : Nat → Nat → Bool) (m y j : Nat) : Nat → Nat → Bool := fun y' x' => if y' = y ∧ x' < j then (C y x' || (C y m && C m x')) else C y' x'
/-- .. row by row -/
def clo (C : Nat → Nat → Bool) : Nat → Nat → Nat → Bool
  | 0 => C
  | n + 1 => upr (clo C n) (n / 7) (n % 7) 7
theorem upr_0 {C : Nat → Nat → Bool} {m y y' x' : Nat} : upr C m y 0 y' x' = C y' x' := by
  unfold upr
  rw [if_neg (by omega)]
theorem upr_m {C : Nat → Nat → Bool} {m y j : Nat} : upr C m y j y m = C y m := by
  unfold upr
  split
  · cases C y m <;> cases C m m <;> rfl
  · rfl
theorem upr_n {C : Nat → Nat → Bool} {m y j : Nat} : upr C m y j m j = C m j := by
  unfold upr
  rw [if_neg (by omega)]
def S634 (c _k : Nat) : Bool := Nat.beq c 63 || Nat.beq c 64
section
variable {mem : Nat} {PL : Nat → Int32} {W : Nat → Bool} {hb : xh_H}
/-- the matrices up to a place -/
def lI (B : Nat → Nat → Bool) (x y : Nat) (h : xh_H) : Prop := ∀ x' y', x' < 7 → y' < 7 → (x' < x ∨ (x' = x ∧ y' < y)) → xg 0 h.2.1 63 (7 * x' + y') = bl (B x' y') ∧ xg 0 h.2.1 64 (7 * y' + x') = bl (B x' y')
set_option maxRecDepth 100000 in
set_option maxHeartbeats 4000000 in
theorem lo_49 {f x y : Nat} {b : Bool} {B : Nat → Nat → Bool} {h : xh_H} {Q : Option Value → xh_H → Prop} (hx : x < 7) (hy : y < 7) (hq : a_rq a_tb h) (ge : fx S634 fN hb h) (I : lI B x y h) (eb : B x y = b) (K : ∀ h', a_rq a_tb h' → fx S634 fN hb h' → lI B x (y + 1) h' → xq f xi_X10_layOptions xmi_X10_layOptions 14 [(0, .ref 39), (1, .int (nI x)), (2, .int (nI (y + 1)))] [] h' Q) : xq f xi_X10_layOptions xmi_X10_layOptions 49 [(0, .ref 39), (1, .int (nI x)), (2, .int (nI y))] [.int (bl b), .int (7 * nI x + nI y), .ref 63] h Q := by
  have e1 : (7 * nI x + nI y).toNatClampNeg = 7 * x + y := by rw [i7_b]; exact nI_clamp (by omega)
  have e2 : (7 * nI y + nI x).toNatClampNeg = 7 * y + x := by rw [i7_b]; exact nI_clamp (by omega)
  refine xq_n 14 [0, 1, 2] [(0, .ref 39), (1, .int (nI x)), (2, .int ((nI y) + Int32.ofInt 1))] [] (xh_ui (xh_ui h 63 (7 * nI x + nI y).toNatClampNeg (vp_nar .boolean (bl b))) 64 (7 * nI y + nI x).toNatClampNeg (vp_nar .boolean (xg 0 (xh_ui h 63 (7 * nI x + nI y).toNatClampNeg (vp_nar .boolean (bl b))).2.1 63 (7 * nI x + nI y).toNatClampNeg))) [] 22 hq rfl trivial (fun _ => ?_)
  rw [e1, e2, gx_s, bl_n, bl_n, show nI y + Int32.ofInt 1 = nI (y + 1) from nI_1 y]
  refine K _ (a_rq_ui (a_rq_ui hq)) (fx_ui (fx_ui ge rfl) rfl) (fun x' y' hx' hy' z => ?_)
  by_cases e : x' = x ∧ y' = y
  · obtain ⟨rfl, rfl⟩ := e
    exact ⟨by rw [gx_o (by decide), gx_s, eb], by rw [gx_s, eb]⟩
  · obtain ⟨i1, i2⟩ := I x' y' hx' hy' (by omega)
    exact ⟨by rw [gx_o (by decide), gx_k (by omega)]; exact i1, by rw [gx_k (by omega), gx_o (by decide)]; exact i2⟩
set_option maxRecDepth 100000 in
set_option maxHeartbeats 4000000 in
theorem lo_in (m12 : mem ≤ 12) (e4 : xg 0 hb.2.1 39 4 = nI mem) (hP : ∀ k, k < 84 → xg 0 hb.2.1 62 k = PL k) (hW : ∀ s, s < 2 ^ mem → xg 0 hb.2.1 53 s = bl (W s)) {x : Nat} (hx : x < 7) {Q : Option Value → xh_H → Prop} (K : ∀ (f : Nat) (h : xh_H), a_rq a_tb h → fx S634 fN hb h → lI (BT PL W mem) (x + 1) 0 h → xq f xi_X10_layOptions xmi_X10_layOptions 6 [(0, .ref 39), (1, .int (nI (x + 1)))] [] h Q) : ∀ (n f y : Nat) (h : xh_H), y + n = 7 → a_rq a_tb h → fx S634 fN hb h → lI (BT PL W mem) x y h → xq f xi_X10_layOptions xmi_X10_layOptions 14 [(0, .ref 39), (1, .int (nI x)), (2, .int (nI y))] [] h Q := by
  intro n
  induction n with
  | zero =>
    intro f y h hn hq ge I
    have e : y = 7 := by omega
    subst e
    refine xq_n 6 [0, 1] [(0, .ref 39), (1, .int ((nI x) + Int32.ofInt 1))] [] h [true] 7 hq rfl ⟨rfl, trivial⟩ (fun _ => ?_)
    rw [show nI x + Int32.ofInt 1 = nI (x + 1) from nI_1 x]
    exact K f h hq ge (fun x' y' hx' hy' z => I x' y' hx' hy' (by omega))
  | succ n ih =>
    intro f y h hn hq ge I
    have yl : y < 7 := by omega
    have g0 : xe_c .ge (nI y) 7 = false := nge_f (b := 7) (by omega) (by decide) yl
    have KK := fun (h' : xh_H) (hq' : a_rq a_tb h') (ge' : fx S634 fN hb h') (I' : lI (BT PL W mem) x (y + 1) h') => ih f (y + 1) h' (by omega) hq' ge' I'
    by_cases exy : x = y
    · refine xq_n 49 [0, 1, 2] [(0, .ref 39), (1, .int (nI x)), (2, .int (nI y))] [.int (Int32.ofInt 0), .int (7 * nI x + nI y), .ref 63] h [false, true] 17 hq rfl ⟨g0, decide_eq_true (by rw [exy]), trivial⟩ (fun _ => ?_)
      exact lo_49 (b := false) hx yl hq ge I (by unfold BT; rw [decide_eq_true exy]; rfl) KK
    · have n1 : xe_c .eq (nI x) (nI y) = false := decide_eq_false (fun z => exy (by have z2 := congrArg Int32.toInt z; rw [nI_toInt (by omega), nI_toInt (by omega)] at z2; omega))
      refine xq_n 38 [0, 1, 2] [(0, .ref 39), (1, .int (nI x)), (2, .int (nI y))] [.int (nI y), .int (nI x), .ref 39, .int (7 * nI x + nI y), .ref 63] h [false, false] 19 hq rfl ⟨g0, n1, trivial⟩ (fun _ => ?_)
      refine xq_run hq rfl rfl (bto_q (PL := PL) (W := W) m12 hx yl ((fx_i ge rfl).trans e4) (fun k hk' => (fx_i ge rfl).trans (hP k hk')) (fun s hs => (fx_i ge rfl).trans (hW s hs)) hq) ?_
      rintro v h1 ⟨rfl, rfl⟩
      have eB : BT PL W mem x y = W (wp PL x y mem) := by unfold BT; rw [decide_eq_false exy]; rfl
      cases cW : W (wp PL x y mem) with
      | false =>
        refine xq_n 49 [0, 1, 2] [(0, .ref 39), (1, .int (nI x)), (2, .int (nI y))] [.int (Int32.ofInt 0), .int (7 * nI x + nI y), .ref 63] h [true] 4 hq rfl ⟨rfl, trivial⟩ (fun _ => ?_)
        exact lo_49 (b := false) hx yl hq ge I (by rw [eB, cW]) KK
      | true =>
        refine xq_n 49 [0, 1, 2] [(0, .ref 39), (1, .int (nI x)), (2, .int (nI y))] [.int (Int32.ofInt 1), .int (7 * nI x + nI y), .ref 63] h [false] 5 hq rfl ⟨rfl, trivial⟩ (fun _ => ?_)
        exact lo_49 (b := true) hx yl hq ge I (by rw [eB, cW]) KK
def mC (C : Nat → Nat → Bool) (h : xh_H) : Prop := ∀ y' x', y' < 7 → x' < 7 → xg 0 h.2.1 64 (7 * y' + x') = bl (C y' x')
def S64 (c _k : Nat) : Bool := Nat.beq c 64
set_option maxRecDepth 100000 in
set_option maxHeartbeats 4000000 in
theorem cl_x {C : Nat → Nat → Bool} {m y : Nat} (hm : m < 7) (hy : y < 7) {Q : Option Value → xh_H → Prop} (K : ∀ (f : Nat) (h : xh_H), a_rq a_tb h → fx S64 fN hb h → mC (upr C m y 7) h → xq f xi_X10_layOptions xmi_X10_layOptions 94 [(0, .ref 39), (1, .int (nI m)), (2, .int (nI (y + 1)))] [] h Q) : ∀ (n f j : Nat) (h : xh_H), j + n = 7 → a_rq a_tb h → fx S64 fN hb h → mC (upr C m y j) h → xq f xi_X10_layOptions xmi_X10_layOptions 102 [(0, .ref 39), (1, .int (nI m)), (2, .int (nI y)), (3, .int (nI j))] [] h Q := by
  intro n
  induction n with
  | zero =>
    intro f j h hn hq ge I
    have e : j = 7 := by omega
    subst e
    refine xq_n 94 [0, 1, 2] [(0, .ref 39), (1, .int (nI m)), (2, .int ((nI y) + Int32.ofInt 1))] [] h [true] 7 hq rfl ⟨rfl, trivial⟩ (fun _ => ?_)
    rw [show nI y + Int32.ofInt 1 = nI (y + 1) from nI_1 y]
    exact K f h hq ge I
  | succ n ih =>
    intro f j h hn hq ge I
    have jl : j < 7 := by omega
    have g0 : xe_c .ge (nI j) 7 = false := nge_f (b := 7) (by omega) (by decide) jl
    have a1 : xg 0 h.2.1 64 (7 * nI y + nI m).toNatClampNeg = bl (C y m) := by rw [i7_b, nI_clamp (by omega), I y m hy hm, upr_m]
    have a2 : xg 0 h.2.1 64 (7 * nI m + nI j).toNatClampNeg = bl (C m j) := by rw [i7_b, nI_clamp (by omega), I m j hm jl, upr_n]
    have e3 : (7 * nI y + nI j).toNatClampNeg = 7 * y + j := by rw [i7_b]; exact nI_clamp (by omega)
    have nx : nI j + Int32.ofInt 1 = nI (j + 1) := nI_1 j
    have same : (C y m && C m j) = false → mC (upr C m y (j + 1)) h := fun z y' x' hy' hx' => by
      rw [I y' x' hy' hx']
      unfold upr
      by_cases u : y' = y ∧ x' < j
      · rw [if_pos u, if_pos ⟨u.1, by omega⟩]
      · rw [if_neg u]
        by_cases w : y' = y ∧ x' < j + 1
        · rw [if_pos w, show x' = j by omega, z, Bool.or_false, w.1]
        · rw [if_neg w]
    cases c1 : C y m with
    | false =>
      rw [c1] at same
      refine xq_n 102 [0, 1, 2, 3] [(0, .ref 39), (1, .int (nI m)), (2, .int (nI y)), (3, .int ((nI j) + Int32.ofInt 1))] [] h [false, true] 15 hq rfl ⟨g0, (show xe_c .eq (xg 0 h.2.1 64 (7 * nI y + nI m).toNatClampNeg) 0 = true by rw [a1, c1]; rfl), trivial⟩ (fun _ => ?_)
      rw [nx]
      exact ih f (j + 1) h (by omega) hq ge (same rfl)
    | true =>
      cases c2 : C m j with
      | false =>
        rw [c2, Bool.and_false] at same
        refine xq_n 102 [0, 1, 2, 3] [(0, .ref 39), (1, .int (nI m)), (2, .int (nI y)), (3, .int ((nI j) + Int32.ofInt 1))] [] h [false, false, true] 24 hq rfl ⟨g0, (show xe_c .eq (xg 0 h.2.1 64 (7 * nI y + nI m).toNatClampNeg) 0 = false by rw [a1, c1]; rfl), (show xe_c .eq (xg 0 h.2.1 64 (7 * nI m + nI j).toNatClampNeg) 0 = true by rw [a2, c2]; rfl), trivial⟩ (fun _ => ?_)
        rw [nx]
        exact ih f (j + 1) h (by omega) hq ge (same rfl)
      | true =>
        refine xq_n 102 [0, 1, 2, 3] [(0, .ref 39), (1, .int (nI m)), (2, .int (nI y)), (3, .int ((nI j) + Int32.ofInt 1))] [] (xh_ui h 64 (7 * nI y + nI j).toNatClampNeg (vp_nar .boolean (Int32.ofInt 1))) [false, false, false] 33 hq rfl ⟨g0, (show xe_c .eq (xg 0 h.2.1 64 (7 * nI y + nI m).toNatClampNeg) 0 = false by rw [a1, c1]; rfl), (show xe_c .eq (xg 0 h.2.1 64 (7 * nI m + nI j).toNatClampNeg) 0 = false by rw [a2, c2]; rfl), trivial⟩ (fun _ => ?_)
        rw [nx, e3]
        refine ih f (j + 1) _ (by omega) (a_rq_ui hq) (fx_ui ge rfl) (fun y' x' hy' hx' => ?_)
        by_cases e : y' = y ∧ x' = j
        · obtain ⟨rfl, rfl⟩ := e
          rw [gx_s]
          unfold upr
          rw [if_pos ⟨rfl, by omega⟩, c1, c2, Bool.true_and, Bool.or_true]
          rfl
        · rw [gx_k (by omega), I y' x' hy' hx']
          unfold upr
          by_cases u : y' = y ∧ x' < j
          · rw [if_pos u, if_pos ⟨u.1, by omega⟩]
          · rw [if_neg u, if_neg (by omega)]
set_option maxRecDepth 100000 in
set_option maxHeartbeats 4000000 in
theorem cl_y {C : Nat → Nat → Bool} {m : Nat} (hm : m < 7) {Q : Option Value → xh_H → Prop} (K : ∀ (f : Nat) (h : xh_H), a_rq a_tb h → fx S64 fN hb h → mC (clo C (7 * (m + 1))) h → xq f xi_X10_layOptions xmi_X10_layOptions 86 [(0, .ref 39), (1, .int (nI (m + 1)))] [] h Q) : ∀ (n f y : Nat) (h : xh_H), y + n = 7 → a_rq a_tb h → fx S64 fN hb h → mC (clo C (7 * m + y)) h → xq f xi_X10_layOptions xmi_X10_layOptions 94 [(0, .ref 39), (1, .int (nI m)), (2, .int (nI y))] [] h Q := by
  intro n
  induction n with
  | zero =>
    intro f y h hn hq ge I
    have e : y = 7 := by omega
    subst e
    refine xq_n 86 [0, 1] [(0, .ref 39), (1, .int ((nI m) + Int32.ofInt 1))] [] h [true] 7 hq rfl ⟨rfl, trivial⟩ (fun _ => ?_)
    rw [show nI m + Int32.ofInt 1 = nI (m + 1) from nI_1 m]
    exact K f h hq ge (by rw [show 7 * (m + 1) = 7 * m + 7 by omega]; exact I)
  | succ n ih =>
    intro f y h hn hq ge I
    refine xq_n 102 [0, 1, 2, 3] [(0, .ref 39), (1, .int (nI m)), (2, .int (nI y)), (3, .int (Int32.ofInt 0))] [] h [false] 7 hq rfl ⟨(show xe_c .ge (nI y) 7 = false from nge_f (b := 7) (by omega) (by decide) (by omega)), trivial⟩ (fun _ => ?_)
    refine cl_x hm (y := y) (by omega) (fun f h hq ge J => ih f (y + 1) h (by omega) hq ge ?_) 7 f 0 h (by omega) hq ge (fun y' x' hy' hx' => by rw [upr_0]; exact I y' x' hy' hx')
    rw [show 7 * m + (y + 1) = (7 * m + y) + 1 by omega]
    show mC (upr (clo C (7 * m + y)) ((7 * m + y) / 7) ((7 * m + y) % 7) 7) h
    rw [show (7 * m + y) / 7 = m by omega, show (7 * m + y) % 7 = y by omega]
    exact J
set_option maxRecDepth 100000 in
set_option maxHeartbeats 4000000 in
theorem cl_m {C : Nat → Nat → Bool} : ∀ (n f m : Nat) (h : xh_H), m + n = 7 → a_rq a_tb h → fx S64 fN hb h → mC (clo C (7 * m)) h → xq f xi_X10_layOptions xmi_X10_layOptions 86 [(0, .ref 39), (1, .int (nI m))] [] h (fun v h' => v = none ∧ fx S64 fN hb h' ∧ mC (clo C 49) h') := by
  intro n
  induction n with
  | zero =>
    intro f m h hn hq ge I
    have e : m = 7 := by omega
    subst e
    refine xq_n 166 [] [] [] h [true] 5 hq rfl ⟨rfl, trivial⟩ (fun _ => ?_)
    exact xq_ret rfl rfl rfl ⟨rfl, ge, I⟩
  | succ n ih =>
    intro f m h hn hq ge I
    refine xq_n 94 [0, 1, 2] [(0, .ref 39), (1, .int (nI m)), (2, .int (Int32.ofInt 0))] [] h [false] 7 hq rfl ⟨(show xe_c .ge (nI m) 7 = false from nge_f (b := 7) (by omega) (by decide) (by omega)), trivial⟩ (fun _ => ?_)
    exact cl_y (m := m) (by omega) (fun f h hq ge J => ih f (m + 1) h (by omega) hq ge J) 7 f 0 h (by omega) hq ge (by rw [Nat.add_zero]; exact I)
end
def SLO (c k : Nat) : Bool := S53 c k || S634 c k
/-- what the options' matrices hold -/
def loQ (PL : Nat → Int32) (W : Nat → Bool) (mem : Nat) (h h' : xh_H) : Prop := fx SLO fN h h' ∧ (∀ s, s < 2 ^ mem → xg 0 h'.2.1 53 s = bl (W s)) ∧ (∀ x y, x < 7 → y < 7 → xg 0 h'.2.1 63 (7 * x + y) = bl (BT PL W mem x y)) ∧ mC (clo (fun y x => BT PL W mem x y) 49) h'
set_option maxRecDepth 100000 in
set_option maxHeartbeats 4000000 in
theorem lo_out {mem : Nat} {PL : Nat → Int32} {W : Nat → Bool} {hb : xh_H} (m12 : mem ≤ 12) (e4 : xg 0 hb.2.1 39 4 = nI mem) (hP : ∀ k, k < 84 → xg 0 hb.2.1 62 k = PL k) (hW : ∀ s, s < 2 ^ mem → xg 0 hb.2.1 53 s = bl (W s)) : ∀ (n f x : Nat) (h : xh_H), x + n = 7 → a_rq a_tb h → fx S634 fN hb h → lI (BT PL W mem) x 0 h → xq f xi_X10_layOptions xmi_X10_layOptions 6 [(0, .ref 39), (1, .int (nI x))] [] h (fun v h' => v = none ∧ loQ PL W mem hb h') := by
  intro n
  induction n with
  | zero =>
    intro f x h hn hq ge I
    have e : x = 7 := by omega
    subst e
    refine xq_n 86 [0, 1] [(0, .ref 39), (1, .int (Int32.ofInt 0))] [] h [true] 6 hq rfl ⟨rfl, trivial⟩ (fun _ => ?_)
    refine xq_mono (cl_m (C := fun y x => BT PL W mem x y) (hb := h) 7 f 0 h (by omega) hq fx_0 (fun y' x' hy' hx' => (I x' y' hx' hy' (by omega)).2)) (fun v h' e => ?_)
    obtain ⟨e1, e2, e3⟩ := e
    refine ⟨e1, fx_t (fx_w ge (fun _ _ z => (or_f z).2) (fun _ _ z => z)) (fx_w e2 (fun c k z => (or_f (or_f z).2).2) (fun _ _ z => z)), fun s hs => (fx_i e2 rfl).trans ((fx_i ge rfl).trans (hW s hs)), fun x y hx hy => (fx_i e2 rfl).trans (I x y hx hy (by omega)).1, e3⟩
  | succ n ih =>
    intro f x h hn hq ge I
    refine xq_n 14 [0, 1, 2] [(0, .ref 39), (1, .int (nI x)), (2, .int (Int32.ofInt 0))] [] h [false] 7 hq rfl ⟨(show xe_c .ge (nI x) 7 = false from nge_f (b := 7) (by omega) (by decide) (by omega)), trivial⟩ (fun _ => ?_)
    exact lo_in m12 e4 hP hW (x := x) (by omega) (fun f h hq ge J => ih f (x + 1) h (by omega) hq ge J) 7 f 0 h (by omega) hq ge I
set_option maxRecDepth 100000 in
set_option maxHeartbeats 4000000 in
/-- X10.layOptions -/
theorem lop_q {f mem sc : Nat} {FR RW PL : Nat → Int32} {d : Int32} {h : xh_H} (m12 : mem ≤ 12) (e4 : xg 0 h.2.1 39 4 = nI mem) (e33 : xg 0 h.2.1 39 33 = nI sc) (sc8 : sc ≤ 8) (e3 : xg 0 h.2.1 39 3 = d) (hF : ∀ k, k < sc → xg 0 h.2.1 51 k = FR k) (hT : ∀ k, k < sc → (xg 0 h.2.1 52 k).toInt ≤ 999) (hR : ∀ k s, k < sc → s < 2 ^ mem → ∃ b : Bool, RW (4096 * k + s) = bl b ∧ xg 0 h.2.1 44 (4096 * k + s) = bl b) (hP : ∀ k, k < 84 → xg 0 h.2.1 62 k = PL k) (hq : a_rq a_tb h) : xq f xi_X10_layOptions xmi_X10_layOptions 0 [(0, .ref 39)] [] h (fun v h' => v = none ∧ loQ PL (cvB FR RW mem sc d) mem h h') := by
  refine xq_n 1 [0] [(0, .ref 39)] [.ref 39] h [] 3 hq rfl trivial (fun _ => ?_)
  refine xq_run hq rfl rfl (lay_q m12 e4 e33 sc8 e3 hF hT hR hq) ?_
  rintro v h1 ⟨rfl, g1, w35, w53⟩
  have hq := fx_q g1 hq
  refine xq_n 6 [0, 1] [(0, .ref 39), (1, .int (Int32.ofInt 0))] [] h1 [] 4 hq rfl trivial (fun _ => ?_)
  refine xq_mono (lo_out (PL := PL) (W := cvB FR RW mem sc d) m12 ((fx_i g1 rfl).trans e4) (fun k hk' => (fx_i g1 rfl).trans (hP k hk')) w53 7 f 0 h1 (by omega) hq fx_0 (fun x' y' hx' hy' z => absurd z (by omega))) (fun v h' e => ?_)
  exact ⟨e.1, fx_t (fx_w g1 (fun _ _ z => (or_f z).1) (fun _ _ z => z)) e.2.1, e.2.2⟩
end XLO2
end
section
section XFR
set_option maxRecDepth 100000 in
theorem iop9_q {f : Nat} {x : Int32} {h : xh_H} (hq : a_rq a_tb h) : xq f xi_X0_isOption xmi_X0_isOption 0 [(0, .int x)] [] h (fun v h' => h = h' ∧ v = some (.int (bl (!xe_c .lt x 0 && !xe_c .ge x 7)))) := by
  cases c1 : xe_c .lt x 0 with
  | true =>
    refine xq_n 15 [] [] [.int (Int32.ofInt 0)] h [true] 5 hq rfl ⟨c1, trivial⟩ (fun _ => ?_)
    exact xq_ret rfl rfl rfl ⟨rfl, rfl⟩
  | false =>
    cases c2 : xe_c .ge x 7 with
    | true =>
      refine xq_n 15 [] [] [.int (Int32.ofInt 0)] h [false, true] 8 hq rfl ⟨c1, c2, trivial⟩ (fun _ => ?_)
      exact xq_ret rfl rfl rfl ⟨rfl, rfl⟩
    | false =>
      refine xq_n 15 [] [] [.int (Int32.ofInt 1)] h [false, false] 9 hq rfl ⟨c1, c2, trivial⟩ (fun _ => ?_)
      exact xq_ret rfl rfl rfl ⟨rfl, rfl⟩
set_option maxRecDepth 100000 in
theorem iop10_q {f : Nat} {x : Int32} {h : xh_H} (hq : a_rq a_tb h) : xq f xi_X10_isOption xmi_X10_isOption 0 [(0, .int x)] [] h (fun v h' => h = h' ∧ v = some (.int (bl (!xe_c .lt x 0 && !xe_c .ge x 7)))) := by
  cases c1 : xe_c .lt x 0 with
  | true =>
    refine xq_n 15 [] [] [.int (Int32.ofInt 0)] h [true] 5 hq rfl ⟨c1, trivial⟩ (fun _ => ?_)
    exact xq_ret rfl rfl rfl ⟨rfl, rfl⟩
  | false =>
    cases c2 : xe_c .ge x 7 with
    | true =>
      refine xq_n 15 [] [] [.int (Int32.ofInt 0)] h [false, true] 8 hq rfl ⟨c1, c2, trivial⟩ (fun _ => ?_)
      exact xq_ret rfl rfl rfl ⟨rfl, rfl⟩
    | false =>
      refine xq_n 15 [] [] [.int (Int32.ofInt 1)] h [false, false] 9 hq rfl ⟨c1, c2, trivial⟩ (fun _ => ?_)
      exact xq_ret rfl rfl rfl ⟨rfl, rfl⟩
theorem iop_n {x : Int32} (h : (!xe_c .lt x 0 && !xe_c .ge x 7) = true) : ∃ s, x = nI s ∧ s < 7 ∧ x.toInt.toNat = s := by
  simp only [Bool.and_eq_true, Bool.not_eq_true'] at h
  have b1 : (0 : Int) ≤ x.toInt := a_ce (a_neg_ok h.1)
  have b2 : x.toInt < (7 : Int) := a_ce (a_neg_ok h.2)
  exact ⟨x.toInt.toNat, en_n (t := 0) (by omega), by omega, rfl⟩
/-- what beats answers -/
def beA (B : Nat → Nat → Bool) (x y : Int32) : Int32 := cond ((!xe_c .lt x 0 && !xe_c .ge x 7) && ((!xe_c .lt y 0 && !xe_c .ge y 7) && xe_c .ne x y)) (bl (B x.toInt.toNat y.toInt.toNat)) (Int32.ofInt (-1))
set_option maxRecDepth 100000 in
set_option maxHeartbeats 4000000 in
theorem be9_q {f mem sc : Nat} {x y : Int32} {PL : Nat → Int32} {d : Int32} {h : xh_H} (hi : a_inv a_tb h) (e9 : xg 0 h.2.1 0 9 = nI mem) (m12 : mem ≤ 12) (e8 : xg 0 h.2.1 0 8 = nI sc) (sc8 : sc ≤ 8) (e10 : xg 0 h.2.1 0 10 = d) (si : SI h) (hP : ∀ k, k < 84 → xg 0 h.2.1 30 k = PL k) (hq : a_rq a_tb h) : xq f xi_X9_beats xmi_X9_beats 0 [(0, .ref 0), (1, .int x), (2, .int y)] [] h (fun v h' => v = some (.int (beA (BT PL (cvB (fun k => xg 0 h.2.1 51 k) (fun k => xg 0 h.2.1 44 k) mem sc d) mem) x y))) := by
  obtain ⟨⟨u1, u2, u3⟩, si⟩ := si
  obtain ⟨SS, un⟩ := si mem sc e9 m12 e8 sc8
  have p12 : 2 ^ mem ≤ 4096 := show 2 ^ mem ≤ 2 ^ 12 from Nat.pow_le_pow_right (by decide) m12
  unfold beA
  refine xq_n 1 [0, 1, 2] [(0, .ref 0), (1, .int x), (2, .int y)] [.int x] h [] 3 hq rfl trivial (fun _ => ?_)
  refine xq_run hq rfl rfl (iop9_q hq) ?_
  rintro v h1 ⟨rfl, rfl⟩
  cases hx : (!xe_c .lt x 0 && !xe_c .ge x 7) with
  | false =>
    refine xq_n 20 [] [] [.int (Int32.ofInt (-1))] h [true] 4 hq rfl ⟨rfl, trivial⟩ (fun _ => ?_)
    exact xq_ret rfl rfl rfl rfl
  | true =>
    refine xq_n 8 [0, 1, 2] [(0, .ref 0), (1, .int x), (2, .int y)] [.int y] h [false] 4 hq rfl ⟨rfl, trivial⟩ (fun _ => ?_)
    refine xq_run hq rfl rfl (iop9_q hq) ?_
    rintro v h1 ⟨rfl, rfl⟩
    cases hy : (!xe_c .lt y 0 && !xe_c .ge y 7) with
    | false =>
      refine xq_n 20 [] [] [.int (Int32.ofInt (-1))] h [true] 4 hq rfl ⟨rfl, trivial⟩ (fun _ => ?_)
      exact xq_ret rfl rfl rfl rfl
    | true =>
      cases hn : xe_c .ne x y with
      | false =>
        refine xq_n 20 [] [] [.int (Int32.ofInt (-1))] h [false, false] 7 hq rfl ⟨rfl, hn, trivial⟩ (fun _ => ?_)
        exact xq_ret rfl rfl rfl rfl
      | true =>
        obtain ⟨a, rfl, ha, ea⟩ := iop_n hx
        obtain ⟨b, rfl, hb, eb⟩ := iop_n hy
        rw [ea, eb]
        have nab : a ≠ b := fun z => by rw [z] at hn; exact absurd hn (by show ¬ (!decide (nI b = nI b)) = true; rw [decide_eq_true rfl]; decide)
        refine xq_n 26 [0, 1, 2] [(0, .ref 0), (1, .int (nI a)), (2, .int (nI b))] [.int (xg 0 h.2.1 0 10), .ref 0] h [false, true] 8 hq rfl ⟨rfl, hn, trivial⟩ (fun _ => ?_)
        rw [e10]
        refine xq_run hq rfl rfl (if9_q hi e8 sc8 u1 u2 SS hq) ?_
        rintro v h1 ⟨rfl, Q, rfl, fd⟩
        refine xq_n 39 [] [] [.int (xg 0 h.2.1 0 9), .int (nI b), .int (nI a), .ref 28, .ref Q] h [] 8 hq rfl trivial (fun _ => ?_)
        rw [e9]
        refine xq_run hq rfl rfl (who_q (PL := PL) m12 ha hb hP hq) ?_
        rintro v h1 ⟨rfl, rfl⟩
        have wl := wp_lt (PL := PL) (x := a) (y := b) mem
        obtain ⟨r, g1, g2, g3⟩ := hv_cv hi m12 SS un u3 hq wl fd
        refine xq_cr (As := [.ref Q, .int (nI (wp PL a b mem))]) (mj := xmi_X7_holds) (q := []) rfl rfl (fun _ _ => rfl) (xa_cs_ok (d := 0) (pc := 0) (lv := []) (nL := 0) fd.1 rfl).1 (fun f => xq_of (d := 0) ⟨_, rfl⟩ (ho_run hq fd.1 g1 g2 (by omega))) ?_
        rintro v h1 ⟨rfl, rfl⟩
        rw [g3]
        unfold BT
        rw [decide_eq_false nab]
        cases cvB (fun k => xg 0 h.2.1 51 k) (fun k => xg 0 h.2.1 44 k) mem sc d (wp PL a b mem) with
        | true =>
          refine xq_n 53 [] [] [.int (Int32.ofInt 1)] h [false] 5 hq rfl ⟨rfl, trivial⟩ (fun _ => ?_)
          exact xq_ret rfl rfl rfl rfl
        | false =>
          refine xq_n 53 [] [] [.int (Int32.ofInt 0)] h [true] 5 hq rfl ⟨rfl, trivial⟩ (fun _ => ?_)
          exact xq_ret rfl rfl rfl rfl
section
variable {f mem sc : Nat} {FR RW PL : Nat → Int32} {d : Int32} {h : xh_H}
set_option maxRecDepth 100000 in
set_option maxHeartbeats 4000000 in
theorem be10_q {x y : Int32} (m12 : mem ≤ 12) (e4 : xg 0 h.2.1 39 4 = nI mem) (e33 : xg 0 h.2.1 39 33 = nI sc) (sc8 : sc ≤ 8) (e3 : xg 0 h.2.1 39 3 = d) (hF : ∀ k, k < sc → xg 0 h.2.1 51 k = FR k) (hT : ∀ k, k < sc → (xg 0 h.2.1 52 k).toInt ≤ 999) (hR : ∀ k s, k < sc → s < 2 ^ mem → ∃ b : Bool, RW (4096 * k + s) = bl b ∧ xg 0 h.2.1 44 (4096 * k + s) = bl b) (hP : ∀ k, k < 84 → xg 0 h.2.1 62 k = PL k) (hq : a_rq a_tb h) : xq f xi_X10_beats xmi_X10_beats 0 [(0, .ref 39), (1, .int x), (2, .int y)] [] h (fun v h' => v = some (.int (beA (BT PL (cvB FR RW mem sc d) mem) x y))) := by
  unfold beA
  refine xq_n 6 [0, 1, 2] [(0, .ref 39), (1, .int x), (2, .int y)] [.int x] (xh_ui h 39 0 (Int32.ofInt 0)) [] 6 hq rfl trivial (fun _ => ?_)
  have hq : a_rq a_tb (xh_ui h 39 0 (Int32.ofInt 0)) := a_rq_ui hq
  have L := lop_q (f := f) (FR := FR) (RW := RW) (PL := PL) (h := xh_ui h 39 0 (Int32.ofInt 0)) m12 ((gx_k (by decide)).trans e4) ((gx_k (by decide)).trans e33) sc8 ((gx_k (by decide)).trans e3) (fun k hk' => (gx_o (by decide)).trans (hF k hk')) (fun k hk' => by rw [gx_o (by decide)]; exact hT k hk') (fun k s h1 h2 => by obtain ⟨b, b1, b2⟩ := hR k s h1 h2; exact ⟨b, b1, (gx_o (by decide)).trans b2⟩) (fun k hk' => (gx_o (by decide)).trans (hP k hk')) hq
  generalize xh_ui h 39 0 (Int32.ofInt 0) = h0 at hq L ⊢
  refine xq_run hq rfl rfl (iop10_q hq) ?_
  rintro v h1 ⟨rfl, rfl⟩
  cases hx : (!xe_c .lt x 0 && !xe_c .ge x 7) with
  | false =>
    refine xq_n 25 [] [] [.int (Int32.ofInt (-1))] h0 [true] 4 hq rfl ⟨rfl, trivial⟩ (fun _ => ?_)
    exact xq_ret rfl rfl rfl rfl
  | true =>
    refine xq_n 13 [0, 1, 2] [(0, .ref 39), (1, .int x), (2, .int y)] [.int y] h0 [false] 4 hq rfl ⟨rfl, trivial⟩ (fun _ => ?_)
    refine xq_run hq rfl rfl (iop10_q hq) ?_
    rintro v h1 ⟨rfl, rfl⟩
    cases hy : (!xe_c .lt y 0 && !xe_c .ge y 7) with
    | false =>
      refine xq_n 25 [] [] [.int (Int32.ofInt (-1))] h0 [true] 4 hq rfl ⟨rfl, trivial⟩ (fun _ => ?_)
      exact xq_ret rfl rfl rfl rfl
    | true =>
      cases hn : xe_c .ne x y with
      | false =>
        refine xq_n 25 [] [] [.int (Int32.ofInt (-1))] h0 [false, false] 7 hq rfl ⟨rfl, hn, trivial⟩ (fun _ => ?_)
        exact xq_ret rfl rfl rfl rfl
      | true =>
        obtain ⟨a, rfl, ha, ea⟩ := iop_n hx
        obtain ⟨b, rfl, hb, eb⟩ := iop_n hy
        rw [ea, eb]
        refine xq_n 27 [0, 1, 2] [(0, .ref 39), (1, .int (nI a)), (2, .int (nI b))] [.ref 39] h0 [false, true] 6 hq rfl ⟨rfl, hn, trivial⟩ (fun _ => ?_)
        refine xq_run hq rfl rfl L ?_
        rintro v h1 ⟨rfl, g1, w53, w63, w64⟩
        have hq := fx_q g1 hq
        have e1 : xg 0 h1.2.1 63 (7 * nI a + nI b).toNatClampNeg = bl (BT PL (cvB FR RW mem sc d) mem a b) := by rw [i7_b, nI_clamp (by omega)]; exact w63 a b ha hb
        cases cB : BT PL (cvB FR RW mem sc d) mem a b with
        | true =>
          refine xq_n 49 [] [] [.int (Int32.ofInt 1)] h1 [false] 12 hq rfl ⟨(show xe_c .eq (xg 0 h1.2.1 63 (7 * nI a + nI b).toNatClampNeg) 0 = false by rw [e1, cB]; rfl), trivial⟩ (fun _ => ?_)
          exact xq_ret rfl rfl rfl rfl
        | false =>
          refine xq_n 49 [] [] [.int (Int32.ofInt 0)] h1 [true] 12 hq rfl ⟨(show xe_c .eq (xg 0 h1.2.1 63 (7 * nI a + nI b).toNatClampNeg) 0 = true by rw [e1, cB]; rfl), trivial⟩ (fun _ => ?_)
          exact xq_ret rfl rfl rfl rfl
end
/-- nothing below x beats y -/
def nb (B : Nat → Nat → Bool) (y : Nat) : Nat → Bool
  | 0 => true
  | x + 1 => nb B y x && !B x y
theorem nb_step {B : Nat → Nat → Bool} {x : Nat} : nI (msk (fun y => nb B y x) 7) &&& (nI (msk (B x) 7) ^^^ Int32.ofInt (-1)) = nI (msk (fun y => nb B y (x + 1)) 7) := nI_andn (fun i hi => by
  rw [msk_tb, msk_tb, msk_tb]
  show ((decide (i < 7) && nb B i x) && !(decide (i < 7) && B x i)) = (decide (i < 7) && (nb B i x && !B x i))
  cases decide (i < 7) <;> cases nb B i x <;> cases B x i <;> rfl)
set_option maxRecDepth 100000 in
set_option maxHeartbeats 4000000 in
theorem unb_lp {B : Nat → Nat → Bool} {h : xh_H} (hB : ∀ x, x < 7 → xg 0 h.2.1 31 x = nI (msk (B x) 7)) (hq : a_rq a_tb h) : ∀ (n f x : Nat), x + n = 7 → xq f xi_X0_unbeaten xmi_X0_unbeaten 5 [(0, .ref 28), (1, .int (nI (msk (fun y => nb B y x) 7))), (2, .int (nI x))] [] h (fun v h' => h = h' ∧ v = some (.int (nI (msk (fun y => nb B y 7) 7)))) := by
  intro n
  induction n with
  | zero =>
    intro f x hn
    have e : x = 7 := by omega
    subst e
    refine xq_n 29 [] [] [.int (nI (msk (fun y => nb B y 7) 7))] h [true] 6 hq rfl ⟨rfl, trivial⟩ (fun _ => ?_)
    exact xq_ret rfl rfl rfl ⟨rfl, rfl⟩
  | succ n ih =>
    intro f x hn
    refine xq_n 5 [0, 1, 2] [(0, .ref 28), (1, .int ((nI (msk (fun y => nb B y x) 7)) &&& ((xg 0 h.2.1 31 (nI x).toNatClampNeg) ^^^ (Int32.ofInt (-1))))), (2, .int ((nI x) + Int32.ofInt 1))] [] h [false] 16 hq rfl ⟨(show xe_c .ge (nI x) 7 = false from nge_f (b := 7) (by omega) (by decide) (by omega)), trivial⟩ (fun _ => ?_)
    rw [show (nI x).toNatClampNeg = x from nI_clamp (by omega), hB x (by omega), nb_step, show nI x + Int32.ofInt 1 = nI (x + 1) from nI_1 x]
    exact ih f (x + 1) (by omega)
set_option maxRecDepth 100000 in
theorem unb_q {f : Nat} {B : Nat → Nat → Bool} {h : xh_H} (hB : ∀ x, x < 7 → xg 0 h.2.1 31 x = nI (msk (B x) 7)) (hq : a_rq a_tb h) : xq f xi_X0_unbeaten xmi_X0_unbeaten 0 [(0, .ref 28)] [] h (fun v h' => h = h' ∧ v = some (.int (nI (msk (fun y => nb B y 7) 7)))) := by
  refine xq_n 5 [0, 1, 2] [(0, .ref 28), (1, .int 127), (2, .int (Int32.ofInt 0))] [] h [] 6 hq rfl trivial (fun _ => ?_)
  have e : msk (fun y => nb B y 0) 7 = 127 := by
    show msk (fun _ => true) 7 = 127
    decide
  have r := unb_lp hB hq 7 f 0 (by omega)
  rw [e] at r
  exact r
set_option maxRecDepth 100000 in
set_option maxHeartbeats 4000000 in
theorem fr9_q {f mem sc : Nat} {PL : Nat → Int32} {d : Int32} {h : xh_H} (hi : a_inv a_tb h) (e9 : xg 0 h.2.1 0 9 = nI mem) (m12 : mem ≤ 12) (e8 : xg 0 h.2.1 0 8 = nI sc) (sc8 : sc ≤ 8) (e10 : xg 0 h.2.1 0 10 = d) (si : SI h) (hP : ∀ k, k < 84 → xg 0 h.2.1 30 k = PL k) (hq : a_rq a_tb h) : xq f xi_X9_free xmi_X9_free 0 [(0, .ref 0)] [] h (fun v h' => v = some (.int (nI (msk (fun y => nb (BT PL (cvB (fun k => xg 0 h.2.1 51 k) (fun k => xg 0 h.2.1 44 k) mem sc d) mem) y 7) 7)))) := by
  obtain ⟨⟨u1, u2, u3⟩, si⟩ := si
  obtain ⟨SS, un⟩ := si mem sc e9 m12 e8 sc8
  refine xq_n 9 [0] [(0, .ref 0)] [.int (xg 0 h.2.1 0 10), .ref 0, .ref 28] h [] 7 hq rfl trivial (fun _ => ?_)
  rw [e10]
  refine xq_run hq rfl rfl (if9_q hi e8 sc8 u1 u2 SS hq) ?_
  rintro v h1 ⟨rfl, Q, rfl, fd⟩
  refine xq_n 16 [0] [(0, .ref 0)] [.int (xg 0 h.2.1 0 9), .ref Q, .ref 28] h [] 4 hq rfl trivial (fun _ => ?_)
  rw [e9]
  obtain ⟨r, g1, g2, -⟩ := hv_cv hi m12 SS un u3 hq (s := 0) (Nat.two_pow_pos mem) fd
  refine xq_run hq rfl rfl (mat_q (PL := PL) (W := cvB (fun k => xg 0 h.2.1 51 k) (fun k => xg 0 h.2.1 44 k) mem sc d) m12 fd.1 g1 g2 (fun s hs => by
    obtain ⟨r', g1', -, g3⟩ := hv_cv hi m12 SS un u3 hq hs fd
    rw [g1] at g1'
    cases g1'
    exact g3) hP hq) ?_
  rintro v h1 ⟨rfl, g4, w31⟩
  have hq := fx_q g4 hq
  refine xq_n 23 [] [] [.ref 28] h1 [] 4 hq rfl trivial (fun _ => ?_)
  refine xq_run hq rfl rfl (unb_q (B := BT PL (cvB (fun k => xg 0 h.2.1 51 k) (fun k => xg 0 h.2.1 44 k) mem sc d) mem) w31 hq) ?_
  rintro v h2 ⟨rfl, rfl⟩
  exact xq_ret rfl rfl rfl rfl
set_option maxRecDepth 100000 in
set_option maxHeartbeats 4000000 in
theorem fr_in {B : Nat → Nat → Bool} {h : xh_H} (hB : ∀ x y, x < 7 → y < 7 → xg 0 h.2.1 63 (7 * x + y) = bl (B x y)) (hq : a_rq a_tb h) {y : Nat} {v1 : Int32} (hy : y < 7) {Q : Option Value → xh_H → Prop} (K : ∀ (f : Nat), xq f xi_X10_free xmi_X10_free 54 [(0, .ref 39), (1, .int v1), (2, .int (nI y)), (3, .int (bl (nb B y 7)))] [] h Q) : ∀ (n f x : Nat), x + n = 7 → xq f xi_X10_free xmi_X10_free 24 [(0, .ref 39), (1, .int v1), (2, .int (nI y)), (3, .int (bl (nb B y x))), (4, .int (nI x))] [] h Q := by
  intro n
  induction n with
  | zero =>
    intro f x hn
    have e : x = 7 := by omega
    subst e
    refine xq_n 54 [0, 1, 2, 3] [(0, .ref 39), (1, .int v1), (2, .int (nI y)), (3, .int (bl (nb B y 7)))] [] h [true] 5 hq rfl ⟨rfl, trivial⟩ (fun _ => ?_)
    exact K f
  | succ n ih =>
    intro f x hn
    have g0 : xe_c .ge (nI x) 7 = false := nge_f (b := 7) (by omega) (by decide) (by omega)
    have a1 : xg 0 h.2.1 63 (7 * nI x + nI y).toNatClampNeg = bl (B x y) := by rw [i7_b, nI_clamp (by omega)]; exact hB x y (by omega) hy
    have nx : nI x + Int32.ofInt 1 = nI (x + 1) := nI_1 x
    cases c : B x y with
    | false =>
      refine xq_n 24 [0, 1, 2, 3, 4] [(0, .ref 39), (1, .int v1), (2, .int (nI y)), (3, .int (bl (nb B y x))), (4, .int ((nI x) + Int32.ofInt 1))] [] h [false, true] 15 hq rfl ⟨g0, (show xe_c .eq (xg 0 h.2.1 63 (7 * nI x + nI y).toNatClampNeg) 0 = true by rw [a1, c]; rfl), trivial⟩ (fun _ => ?_)
      rw [nx, show nb B y x = nb B y (x + 1) by show nb B y x = (nb B y x && !B x y); rw [c]; cases nb B y x <;> rfl]
      exact ih f (x + 1) (by omega)
    | true =>
      refine xq_n 24 [0, 1, 2, 3, 4] [(0, .ref 39), (1, .int v1), (2, .int (nI y)), (3, .int (Int32.ofInt 0)), (4, .int ((nI x) + Int32.ofInt 1))] [] h [false, false] 17 hq rfl ⟨g0, (show xe_c .eq (xg 0 h.2.1 63 (7 * nI x + nI y).toNatClampNeg) 0 = false by rw [a1, c]; rfl), trivial⟩ (fun _ => ?_)
      have e2 : nb B y (x + 1) = false := by show (nb B y x && !B x y) = false; rw [c]; cases nb B y x <;> rfl
      have r := ih f (x + 1) (by omega)
      rw [e2] at r
      rw [nx]
      exact r
set_option maxRecDepth 100000 in
set_option maxHeartbeats 4000000 in
theorem fr_out {B : Nat → Nat → Bool} {h : xh_H} (hB : ∀ x y, x < 7 → y < 7 → xg 0 h.2.1 63 (7 * x + y) = bl (B x y)) (hq : a_rq a_tb h) : ∀ (n f y : Nat), y + n = 7 → xq f xi_X10_free xmi_X10_free 13 [(0, .ref 39), (1, .int (nI (msk (fun y => nb B y 7) y))), (2, .int (nI y))] [] h (fun v h' => h = h' ∧ v = some (.int (nI (msk (fun y => nb B y 7) 7)))) := by
  intro n
  induction n with
  | zero =>
    intro f y hn
    have e : y = 7 := by omega
    subst e
    refine xq_n 71 [] [] [.int (nI (msk (fun y => nb B y 7) 7))] h [true] 6 hq rfl ⟨rfl, trivial⟩ (fun _ => ?_)
    exact xq_ret rfl rfl rfl ⟨rfl, rfl⟩
  | succ n ih =>
    intro f y hn
    have g0 : xe_c .ge (nI y) 7 = false := nge_f (b := 7) (by omega) (by decide) (by omega)
    have nx : nI y + Int32.ofInt 1 = nI (y + 1) := nI_1 y
    refine xq_n 24 [0, 1, 2, 3, 4] [(0, .ref 39), (1, .int (nI (msk (fun y => nb B y 7) y))), (2, .int (nI y)), (3, .int (Int32.ofInt 1)), (4, .int (Int32.ofInt 0))] [] h [false] 9 hq rfl ⟨g0, trivial⟩ (fun _ => ?_)
    refine fr_in hB hq (y := y) (by omega) (fun f => ?_) 7 f 0 (by omega)
    have es : msk (fun y => nb B y 7) (y + 1) = if nb B y 7 = true then msk (fun y => nb B y 7) y ||| 2 ^ y else msk (fun y => nb B y 7) y := rfl
    cases c : nb B y 7 with
    | false =>
      refine xq_n 13 [0, 1, 2] [(0, .ref 39), (1, .int (nI (msk (fun y => nb B y 7) y))), (2, .int ((nI y) + Int32.ofInt 1))] [] h [true] 6 hq rfl ⟨rfl, trivial⟩ (fun _ => ?_)
      have r := ih f (y + 1) (by omega)
      rw [es, c, if_neg (by decide)] at r
      rw [nx]
      exact r
    | true =>
      refine xq_n 13 [0, 1, 2] [(0, .ref 39), (1, .int ((nI (msk (fun y => nb B y 7) y)) ||| ((Int32.ofInt 1) <<< ((nI y) &&& 31)))), (2, .int ((nI y) + Int32.ofInt 1))] [] h [false] 12 hq rfl ⟨rfl, trivial⟩ (fun _ => ?_)
      have r := ih f (y + 1) (by omega)
      rw [es, c, if_pos rfl] at r
      rw [nx, nI_o1 (by omega)]
      exact r
set_option maxRecDepth 100000 in
set_option maxHeartbeats 4000000 in
theorem fr10_q {f mem sc : Nat} {FR RW PL : Nat → Int32} {d : Int32} {h : xh_H} (m12 : mem ≤ 12) (e4 : xg 0 h.2.1 39 4 = nI mem) (e33 : xg 0 h.2.1 39 33 = nI sc) (sc8 : sc ≤ 8) (e3 : xg 0 h.2.1 39 3 = d) (hF : ∀ k, k < sc → xg 0 h.2.1 51 k = FR k) (hT : ∀ k, k < sc → (xg 0 h.2.1 52 k).toInt ≤ 999) (hR : ∀ k s, k < sc → s < 2 ^ mem → ∃ b : Bool, RW (4096 * k + s) = bl b ∧ xg 0 h.2.1 44 (4096 * k + s) = bl b) (hP : ∀ k, k < 84 → xg 0 h.2.1 62 k = PL k) (hq : a_rq a_tb h) : xq f xi_X10_free xmi_X10_free 0 [(0, .ref 39)] [] h (fun v h' => v = some (.int (nI (msk (fun y => nb (BT PL (cvB FR RW mem sc d) mem) y 7) 7)))) := by
  refine xq_n 6 [0] [(0, .ref 39)] [.ref 39] (xh_ui h 39 0 (Int32.ofInt 0)) [] 6 hq rfl trivial (fun _ => ?_)
  have hq : a_rq a_tb (xh_ui h 39 0 (Int32.ofInt 0)) := a_rq_ui hq
  refine xq_run hq rfl rfl (lop_q (FR := FR) (RW := RW) (PL := PL) (h := xh_ui h 39 0 (Int32.ofInt 0)) m12 ((gx_k (by decide)).trans e4) ((gx_k (by decide)).trans e33) sc8 ((gx_k (by decide)).trans e3) (fun k hk' => (gx_o (by decide)).trans (hF k hk')) (fun k hk' => by rw [gx_o (by decide)]; exact hT k hk') (fun k s h1 h2 => by obtain ⟨b, b1, b2⟩ := hR k s h1 h2; exact ⟨b, b1, (gx_o (by decide)).trans b2⟩) (fun k hk' => (gx_o (by decide)).trans (hP k hk')) hq) ?_
  rintro v h1 ⟨rfl, g1, w53, w63, w64⟩
  have hq := fx_q g1 hq
  refine xq_n 13 [0, 1, 2] [(0, .ref 39), (1, .int (Int32.ofInt 0)), (2, .int (Int32.ofInt 0))] [] h1 [] 6 hq rfl trivial (fun _ => ?_)
  exact xq_mono (fr_out w63 hq 7 f 0 (by omega)) (fun v h' e => e.2)
end XFR
end
section
section XTO
set_option maxRecDepth 100000 in
set_option maxHeartbeats 4000000 in
/-- Ballot.wins -/
theorem wins_q {f x y : Nat} {B : Nat → Nat → Bool} {h : xh_H} (hx : x < 7) (hy : y < 7) (hB : ∀ x, x < 7 → xg 0 h.2.1 31 x = nI (msk (B x) 7)) (hq : a_rq a_tb h) : xq f xi_X0_wins xmi_X0_wins 0 [(0, .ref 28), (1, .int (nI x)), (2, .int (nI y))] [] h (fun v h' => h = h' ∧ v = some (.int (bl (B x y)))) := by
  have e : ((xg 0 h.2.1 31 (nI x).toNatClampNeg >>> (nI y &&& 31)) &&& Int32.ofInt 1) = bl (B x y) := by rw [nI_clamp (by omega), hB x hx, msk_b hy]
  cases c : B x y with
  | false =>
    refine xq_n 18 [] [] [.int (Int32.ofInt 0)] h [true] 12 hq rfl ⟨(show xe_c .eq ((xg 0 h.2.1 31 (nI x).toNatClampNeg >>> (nI y &&& 31)) &&& Int32.ofInt 1) 0 = true by rw [e, c]; rfl), trivial⟩ (fun _ => ?_)
    exact xq_ret rfl rfl rfl ⟨rfl, rfl⟩
  | true =>
    refine xq_n 18 [] [] [.int (Int32.ofInt 1)] h [false] 12 hq rfl ⟨(show xe_c .eq ((xg 0 h.2.1 31 (nI x).toNatClampNeg >>> (nI y &&& 31)) &&& Int32.ofInt 1) 0 = false by rw [e, c]; rfl), trivial⟩ (fun _ => ?_)
    exact xq_ret rfl rfl rfl ⟨rfl, rfl⟩
def S32 (c _k : Nat) : Bool := Nat.beq c 32
section
variable {B : Nat → Nat → Bool} {hb : xh_H}
/-- the rows of what comes behind what -/
def rC (C : Nat → Nat → Bool) (n : Nat) (h : xh_H) : Prop := ∀ y, y < n → xg 0 h.2.1 32 y = nI (msk (C y) 7)
set_option maxRecDepth 100000 in
set_option maxHeartbeats 4000000 in
theorem re_in (hB : ∀ x, x < 7 → xg 0 hb.2.1 31 x = nI (msk (B x) 7)) {y : Nat} (hy : y < 7) {Q : Option Value → xh_H → Prop} (K : ∀ (f : Nat) (h : xh_H), a_rq a_tb h → fx S32 fN hb h → rC (fun y x => B x y) (y + 1) h → xq f xi_X0_findReach xmi_X0_findReach 2 [(0, .ref 28), (1, .int (nI (y + 1)))] [] h Q) : ∀ (n f x : Nat) (h : xh_H), x + n = 7 → a_rq a_tb h → fx S32 fN hb h → rC (fun y x => B x y) y h → xg 0 h.2.1 32 y = nI (msk (fun x => B x y) x) → xq f xi_X0_findReach xmi_X0_findReach 17 [(0, .ref 28), (1, .int (nI y)), (2, .int (nI x))] [] h Q := by
  intro n
  induction n with
  | zero =>
    intro f x h hn hq ge R w
    have e : x = 7 := by omega
    subst e
    refine xq_n 2 [0, 1] [(0, .ref 28), (1, .int ((nI y) + Int32.ofInt 1))] [] h [true] 7 hq rfl ⟨rfl, trivial⟩ (fun _ => ?_)
    rw [show nI y + Int32.ofInt 1 = nI (y + 1) from nI_1 y]
    refine K f h hq ge (fun y' hy' => ?_)
    by_cases z : y' = y
    · rw [z]; exact w
    · exact R y' (by omega)
  | succ n ih =>
    intro f x h hn hq ge R w
    have xl : x < 7 := by omega
    have g0 : xe_c .ge (nI x) 7 = false := nge_f (b := 7) (by omega) (by decide) xl
    have nx : nI x + Int32.ofInt 1 = nI (x + 1) := nI_1 x
    have es : msk (fun x => B x y) (x + 1) = if B x y = true then msk (fun x => B x y) x ||| 2 ^ x else msk (fun x => B x y) x := rfl
    refine xq_n 26 [0, 1, 2] [(0, .ref 28), (1, .int (nI y)), (2, .int (nI x))] [.int (nI y), .int (nI x), .ref 28] h [false] 8 hq rfl ⟨g0, trivial⟩ (fun _ => ?_)
    refine xq_run hq rfl rfl (wins_q (B := B) xl hy (fun x hx => (fx_i ge rfl).trans (hB x hx)) hq) ?_
    rintro v h1 ⟨rfl, rfl⟩
    cases c : B x y with
    | false =>
      refine xq_n 17 [0, 1, 2] [(0, .ref 28), (1, .int (nI y)), (2, .int ((nI x) + Int32.ofInt 1))] [] h [true] 5 hq rfl ⟨rfl, trivial⟩ (fun _ => ?_)
      rw [nx]
      exact ih f (x + 1) h (by omega) hq ge R (by rw [es, c, if_neg (by decide)]; exact w)
    | true =>
      refine xq_n 17 [0, 1, 2] [(0, .ref 28), (1, .int (nI y)), (2, .int ((nI x) + Int32.ofInt 1))] [] (xh_ui h 32 (nI y).toNatClampNeg ((xg 0 h.2.1 32 (nI y).toNatClampNeg) ||| ((Int32.ofInt 1) <<< ((nI x) &&& 31)))) [false] 15 hq rfl ⟨rfl, trivial⟩ (fun _ => ?_)
      rw [nx, show (nI y).toNatClampNeg = y from nI_clamp (by omega), w, nI_o1 (by omega)]
      exact ih f (x + 1) _ (by omega) (a_rq_ui hq) (fx_ui ge rfl) (fun y' hy' => (gx_k (by omega)).trans (R y' hy')) (by rw [gx_s, es, c, if_pos rfl])
set_option maxRecDepth 100000 in
set_option maxHeartbeats 4000000 in
theorem rm_y {C : Nat → Nat → Bool} {m : Nat} (hm : m < 7) {Q : Option Value → xh_H → Prop} (K : ∀ (f : Nat) (h : xh_H), a_rq a_tb h → fx S32 fN hb h → rC (clo C (7 * (m + 1))) 7 h → xq f xi_X0_findReach xmi_X0_findReach 58 [(0, .ref 28), (1, .int (nI (m + 1)))] [] h Q) : ∀ (n f y : Nat) (h : xh_H), y + n = 7 → a_rq a_tb h → fx S32 fN hb h → rC (clo C (7 * m + y)) 7 h → xq f xi_X0_findReach xmi_X0_findReach 66 [(0, .ref 28), (1, .int (nI m)), (2, .int (nI y))] [] h Q := by
  intro n
  induction n with
  | zero =>
    intro f y h hn hq ge R
    have e : y = 7 := by omega
    subst e
    refine xq_n 58 [0, 1] [(0, .ref 28), (1, .int ((nI m) + Int32.ofInt 1))] [] h [true] 7 hq rfl ⟨rfl, trivial⟩ (fun _ => ?_)
    rw [show nI m + Int32.ofInt 1 = nI (m + 1) from nI_1 m]
    exact K f h hq ge (by rw [show 7 * (m + 1) = 7 * m + 7 by omega]; exact R)
  | succ n ih =>
    intro f y h hn hq ge R
    have yl : y < 7 := by omega
    have g0 : xe_c .ge (nI y) 7 = false := nge_f (b := 7) (by omega) (by decide) yl
    have nx : nI y + Int32.ofInt 1 = nI (y + 1) := nI_1 y
    have ec : clo C (7 * m + (y + 1)) = upr (clo C (7 * m + y)) m y 7 := by
      rw [show 7 * m + (y + 1) = (7 * m + y) + 1 by omega]
      show upr (clo C (7 * m + y)) ((7 * m + y) / 7) ((7 * m + y) % 7) 7 = _
      rw [show (7 * m + y) / 7 = m by omega, show (7 * m + y) % 7 = y by omega]
    have ek : (nI y).toNatClampNeg = y := nI_clamp (by omega)
    have em : (nI m).toNatClampNeg = m := nI_clamp (by omega)
    have e1 : ((xg 0 h.2.1 32 (nI y).toNatClampNeg >>> (nI m &&& 31)) &&& Int32.ofInt 1) = bl (clo C (7 * m + y) y m) := by rw [ek, R y yl, msk_b hm]
    generalize hD : clo C (7 * m + y) = D at R ec e1
    cases c : D y m with
    | false =>
      refine xq_n 66 [0, 1, 2] [(0, .ref 28), (1, .int (nI m)), (2, .int ((nI y) + Int32.ofInt 1))] [] h [false, true] 16 hq rfl ⟨g0, (show xe_c .eq ((xg 0 h.2.1 32 (nI y).toNatClampNeg >>> (nI m &&& 31)) &&& Int32.ofInt 1) 0 = true by rw [e1, c]; rfl), trivial⟩ (fun _ => ?_)
      rw [nx]
      refine ih f (y + 1) h (by omega) hq ge ?_
      rw [ec]
      intro y' hy'
      rw [R y' hy']
      congr 1
      refine msk_c 7 (fun x hx => ?_)
      unfold upr
      by_cases z : y' = y ∧ x < 7
      · rw [if_pos z, c, Bool.false_and, Bool.or_false, z.1]
      · rw [if_neg z]
    | true =>
      refine xq_n 66 [0, 1, 2] [(0, .ref 28), (1, .int (nI m)), (2, .int ((nI y) + Int32.ofInt 1))] [] (xh_ui h 32 (nI y).toNatClampNeg ((xg 0 h.2.1 32 (nI y).toNatClampNeg) ||| (xg 0 h.2.1 32 (nI m).toNatClampNeg))) [false, false] 28 hq rfl ⟨g0, (show xe_c .eq ((xg 0 h.2.1 32 (nI y).toNatClampNeg >>> (nI m &&& 31)) &&& Int32.ofInt 1) 0 = false by rw [e1, c]; rfl), trivial⟩ (fun _ => ?_)
      rw [nx, ek, em, R y yl, R m hm, msk_or]
      refine ih f (y + 1) _ (by omega) (a_rq_ui hq) (fx_ui ge rfl) ?_
      rw [ec]
      intro y' hy'
      by_cases z : y' = y
      · subst z
        rw [gx_s]
        congr 1
        refine msk_c 7 (fun x hx => ?_)
        unfold upr
        rw [if_pos ⟨rfl, hx⟩, c, Bool.true_and]
      · rw [gx_k z, R y' hy']
        congr 1
        refine msk_c 7 (fun x hx => ?_)
        unfold upr
        rw [if_neg (fun w => z w.1)]
set_option maxRecDepth 100000 in
set_option maxHeartbeats 4000000 in
theorem rm_m {C : Nat → Nat → Bool} : ∀ (n f m : Nat) (h : xh_H), m + n = 7 → a_rq a_tb h → fx S32 fN hb h → rC (clo C (7 * m)) 7 h → xq f xi_X0_findReach xmi_X0_findReach 58 [(0, .ref 28), (1, .int (nI m))] [] h (fun v h' => v = none ∧ fx S32 fN hb h' ∧ rC (clo C 49) 7 h') := by
  intro n
  induction n with
  | zero =>
    intro f m h hn hq ge R
    have e : m = 7 := by omega
    subst e
    refine xq_n 112 [] [] [] h [true] 5 hq rfl ⟨rfl, trivial⟩ (fun _ => ?_)
    exact xq_ret rfl rfl rfl ⟨rfl, ge, R⟩
  | succ n ih =>
    intro f m h hn hq ge R
    refine xq_n 66 [0, 1, 2] [(0, .ref 28), (1, .int (nI m)), (2, .int (Int32.ofInt 0))] [] h [false] 7 hq rfl ⟨(show xe_c .ge (nI m) 7 = false from nge_f (b := 7) (by omega) (by decide) (by omega)), trivial⟩ (fun _ => ?_)
    exact rm_y (m := m) (by omega) (fun f h hq ge J => ih f (m + 1) h (by omega) hq ge J) 7 f 0 h (by omega) hq ge (by rw [Nat.add_zero]; exact R)
set_option maxRecDepth 100000 in
set_option maxHeartbeats 4000000 in
theorem re_out (hB : ∀ x, x < 7 → xg 0 hb.2.1 31 x = nI (msk (B x) 7)) : ∀ (n f y : Nat) (h : xh_H), y + n = 7 → a_rq a_tb h → fx S32 fN hb h → rC (fun y x => B x y) y h → xq f xi_X0_findReach xmi_X0_findReach 2 [(0, .ref 28), (1, .int (nI y))] [] h (fun v h' => v = none ∧ fx S32 fN hb h' ∧ rC (clo (fun y x => B x y) 49) 7 h') := by
  intro n
  induction n with
  | zero =>
    intro f y h hn hq ge R
    have e : y = 7 := by omega
    subst e
    refine xq_n 58 [0, 1] [(0, .ref 28), (1, .int (Int32.ofInt 0))] [] h [true] 6 hq rfl ⟨rfl, trivial⟩ (fun _ => ?_)
    exact rm_m 7 f 0 h (by omega) hq ge R
  | succ n ih =>
    intro f y h hn hq ge R
    refine xq_n 17 [0, 1, 2] [(0, .ref 28), (1, .int (nI y)), (2, .int (Int32.ofInt 0))] [] (xh_ui h 32 (nI y).toNatClampNeg (Int32.ofInt 0)) [false] 12 hq rfl ⟨(show xe_c .ge (nI y) 7 = false from nge_f (b := 7) (by omega) (by decide) (by omega)), trivial⟩ (fun _ => ?_)
    rw [show (nI y).toNatClampNeg = y from nI_clamp (by omega)]
    exact re_in hB (y := y) (by omega) (fun f h hq ge J => ih f (y + 1) h (by omega) hq ge J) 7 f 0 _ (by omega) (a_rq_ui hq) (fx_ui ge rfl) (fun y' hy' => (gx_k (by omega)).trans (R y' hy')) gx_s
set_option maxRecDepth 100000 in
/-- Ballot.findReach -/
theorem re_q {f : Nat} (hB : ∀ x, x < 7 → xg 0 hb.2.1 31 x = nI (msk (B x) 7)) (hq : a_rq a_tb hb) : xq f xi_X0_findReach xmi_X0_findReach 0 [(0, .ref 28)] [] hb (fun v h' => v = none ∧ fx S32 fN hb h' ∧ rC (clo (fun y x => B x y) 49) 7 h') := by
  refine xq_n 2 [0, 1] [(0, .ref 28), (1, .int (Int32.ofInt 0))] [] hb [] 4 hq rfl trivial (fun _ => ?_)
  exact re_out hB 7 f 0 hb (by omega) hq fx_0 (fun y hy => absurd hy (Nat.not_lt_zero y))
end
/-- nothing below y comes behind x for which x doesn't come -/
def tpg (C : Nat → Nat → Bool) (x : Nat) : Nat → Bool
  | 0 => true
  | y + 1 => tpg C x y && !(C x y && !C y x)
theorem tpg_t {C : Nat → Nat → Bool} {x y : Nat} (h : (C x y && !C y x) = false) : tpg C x (y + 1) = tpg C x y := by
  show (tpg C x y && !(C x y && !C y x)) = _
  rw [h]
  cases tpg C x y <;> rfl
theorem tpg_f {C : Nat → Nat → Bool} {x y : Nat} (h : (C x y && !C y x) = true) : tpg C x (y + 1) = false := by
  show (tpg C x y && !(C x y && !C y x)) = _
  rw [h]
  cases tpg C x y <;> rfl
section
variable {C : Nat → Nat → Bool} {h : xh_H}
set_option maxRecDepth 100000 in
set_option maxHeartbeats 4000000 in
theorem be_in (R : rC C 7 h) (hq : a_rq a_tb h) {x : Nat} {v1 : Int32} (hx : x < 7) {Q : Option Value → xh_H → Prop} (K : ∀ (f : Nat), xq f xi_X0_best xmi_X0_best 62 [(0, .ref 28), (1, .int v1), (2, .int (nI x)), (3, .int (bl (tpg C x 7)))] [] h Q) : ∀ (n f y : Nat), y + n = 7 → xq f xi_X0_best xmi_X0_best 19 [(0, .ref 28), (1, .int v1), (2, .int (nI x)), (3, .int (bl (tpg C x y))), (4, .int (nI y))] [] h Q := by
  intro n
  induction n with
  | zero =>
    intro f y hn
    have e : y = 7 := by omega
    subst e
    refine xq_n 62 [0, 1, 2, 3] [(0, .ref 28), (1, .int v1), (2, .int (nI x)), (3, .int (bl (tpg C x 7)))] [] h [true] 5 hq rfl ⟨rfl, trivial⟩ (fun _ => ?_)
    exact K f
  | succ n ih =>
    intro f y hn
    have yl : y < 7 := by omega
    have g0 : xe_c .ge (nI y) 7 = false := nge_f (b := 7) (by omega) (by decide) yl
    have nx : nI y + Int32.ofInt 1 = nI (y + 1) := nI_1 y
    have e1 : ((xg 0 h.2.1 32 (nI x).toNatClampNeg >>> (nI y &&& 31)) &&& Int32.ofInt 1) = bl (C x y) := by rw [nI_clamp (by omega), R x hx, msk_b yl]
    have e2 : ((xg 0 h.2.1 32 (nI y).toNatClampNeg >>> (nI x &&& 31)) &&& Int32.ofInt 1) = bl (C y x) := by rw [nI_clamp (by omega), R y yl, msk_b hx]
    cases c1 : C x y with
    | false =>
      refine xq_n 19 [0, 1, 2, 3, 4] [(0, .ref 28), (1, .int v1), (2, .int (nI x)), (3, .int (bl (tpg C x y))), (4, .int ((nI y) + Int32.ofInt 1))] [] h [false, true] 16 hq rfl ⟨g0, (show xe_c .eq ((xg 0 h.2.1 32 (nI x).toNatClampNeg >>> (nI y &&& 31)) &&& Int32.ofInt 1) 0 = true by rw [e1, c1]; rfl), trivial⟩ (fun _ => ?_)
      rw [nx, ← tpg_t (by rw [c1]; rfl)]
      exact ih f (y + 1) (by omega)
    | true =>
      cases c2 : C y x with
      | true =>
        refine xq_n 19 [0, 1, 2, 3, 4] [(0, .ref 28), (1, .int v1), (2, .int (nI x)), (3, .int (bl (tpg C x y))), (4, .int ((nI y) + Int32.ofInt 1))] [] h [false, false, true] 26 hq rfl ⟨g0, (show xe_c .eq ((xg 0 h.2.1 32 (nI x).toNatClampNeg >>> (nI y &&& 31)) &&& Int32.ofInt 1) 0 = false by rw [e1, c1]; rfl), (show xe_c .ne ((xg 0 h.2.1 32 (nI y).toNatClampNeg >>> (nI x &&& 31)) &&& Int32.ofInt 1) 0 = true by rw [e2, c2]; rfl), trivial⟩ (fun _ => ?_)
        rw [nx, ← tpg_t (by rw [c1, c2]; rfl)]
        exact ih f (y + 1) (by omega)
      | false =>
        refine xq_n 19 [0, 1, 2, 3, 4] [(0, .ref 28), (1, .int v1), (2, .int (nI x)), (3, .int (Int32.ofInt 0)), (4, .int ((nI y) + Int32.ofInt 1))] [] h [false, false, false] 28 hq rfl ⟨g0, (show xe_c .eq ((xg 0 h.2.1 32 (nI x).toNatClampNeg >>> (nI y &&& 31)) &&& Int32.ofInt 1) 0 = false by rw [e1, c1]; rfl), (show xe_c .ne ((xg 0 h.2.1 32 (nI y).toNatClampNeg >>> (nI x &&& 31)) &&& Int32.ofInt 1) 0 = false by rw [e2, c2]; rfl), trivial⟩ (fun _ => ?_)
        have r := ih f (y + 1) (by omega)
        rw [tpg_f (by rw [c1, c2]; rfl)] at r
        rw [nx]
        exact r
set_option maxRecDepth 100000 in
set_option maxHeartbeats 4000000 in
theorem be_out (R : rC C 7 h) (hq : a_rq a_tb h) : ∀ (n f x : Nat), x + n = 7 → xq f xi_X0_best xmi_X0_best 8 [(0, .ref 28), (1, .int (nI (msk (fun x => tpg C x 7) x))), (2, .int (nI x))] [] h (fun v h' => v = some (.int (nI (msk (fun x => tpg C x 7) 7)))) := by
  intro n
  induction n with
  | zero =>
    intro f x hn
    have e : x = 7 := by omega
    subst e
    refine xq_n 79 [] [] [.int (nI (msk (fun x => tpg C x 7) 7))] h [true] 6 hq rfl ⟨rfl, trivial⟩ (fun _ => ?_)
    exact xq_ret rfl rfl rfl rfl
  | succ n ih =>
    intro f x hn
    have g0 : xe_c .ge (nI x) 7 = false := nge_f (b := 7) (by omega) (by decide) (by omega)
    have nx : nI x + Int32.ofInt 1 = nI (x + 1) := nI_1 x
    refine xq_n 19 [0, 1, 2, 3, 4] [(0, .ref 28), (1, .int (nI (msk (fun x => tpg C x 7) x))), (2, .int (nI x)), (3, .int (Int32.ofInt 1)), (4, .int (Int32.ofInt 0))] [] h [false] 9 hq rfl ⟨g0, trivial⟩ (fun _ => ?_)
    refine be_in R hq (x := x) (by omega) (fun f => ?_) 7 f 0 (by omega)
    have es : msk (fun x => tpg C x 7) (x + 1) = if tpg C x 7 = true then msk (fun x => tpg C x 7) x ||| 2 ^ x else msk (fun x => tpg C x 7) x := rfl
    cases c : tpg C x 7 with
    | false =>
      refine xq_n 8 [0, 1, 2] [(0, .ref 28), (1, .int (nI (msk (fun x => tpg C x 7) x))), (2, .int ((nI x) + Int32.ofInt 1))] [] h [true] 6 hq rfl ⟨rfl, trivial⟩ (fun _ => ?_)
      have r := ih f (x + 1) (by omega)
      rw [es, c, if_neg (by decide)] at r
      rw [nx]
      exact r
    | true =>
      refine xq_n 8 [0, 1, 2] [(0, .ref 28), (1, .int ((nI (msk (fun x => tpg C x 7) x)) ||| ((Int32.ofInt 1) <<< ((nI x) &&& 31)))), (2, .int ((nI x) + Int32.ofInt 1))] [] h [false] 12 hq rfl ⟨rfl, trivial⟩ (fun _ => ?_)
      have r := ih f (x + 1) (by omega)
      rw [es, c, if_pos rfl] at r
      rw [nx, nI_o1 (by omega)]
      exact r
set_option maxRecDepth 100000 in
set_option maxHeartbeats 4000000 in
theorem to_in (M : mC C h) (hq : a_rq a_tb h) {x : Nat} {v1 : Int32} (hx : x < 7) {Q : Option Value → xh_H → Prop} (K : ∀ (f : Nat), xq f xi_X10_top xmi_X10_top 69 [(0, .ref 39), (1, .int v1), (2, .int (nI x)), (3, .int (bl (tpg C x 7)))] [] h Q) : ∀ (n f y : Nat), y + n = 7 → xq f xi_X10_top xmi_X10_top 24 [(0, .ref 39), (1, .int v1), (2, .int (nI x)), (3, .int (bl (tpg C x y))), (4, .int (nI y))] [] h Q := by
  intro n
  induction n with
  | zero =>
    intro f y hn
    have e : y = 7 := by omega
    subst e
    refine xq_n 69 [0, 1, 2, 3] [(0, .ref 39), (1, .int v1), (2, .int (nI x)), (3, .int (bl (tpg C x 7)))] [] h [true] 5 hq rfl ⟨rfl, trivial⟩ (fun _ => ?_)
    exact K f
  | succ n ih =>
    intro f y hn
    have yl : y < 7 := by omega
    have g0 : xe_c .ge (nI y) 7 = false := nge_f (b := 7) (by omega) (by decide) yl
    have nx : nI y + Int32.ofInt 1 = nI (y + 1) := nI_1 y
    have e1 : xg 0 h.2.1 64 (7 * nI x + nI y).toNatClampNeg = bl (C x y) := by rw [i7_b, nI_clamp (by omega)]; exact M x y hx yl
    have e2 : xg 0 h.2.1 64 (7 * nI y + nI x).toNatClampNeg = bl (C y x) := by rw [i7_b, nI_clamp (by omega)]; exact M y x yl hx
    cases c1 : C x y with
    | false =>
      refine xq_n 24 [0, 1, 2, 3, 4] [(0, .ref 39), (1, .int v1), (2, .int (nI x)), (3, .int (bl (tpg C x y))), (4, .int ((nI y) + Int32.ofInt 1))] [] h [false, true] 15 hq rfl ⟨g0, (show xe_c .eq (xg 0 h.2.1 64 (7 * nI x + nI y).toNatClampNeg) 0 = true by rw [e1, c1]; rfl), trivial⟩ (fun _ => ?_)
      rw [nx, ← tpg_t (by rw [c1]; rfl)]
      exact ih f (y + 1) (by omega)
    | true =>
      cases c2 : C y x with
      | true =>
        refine xq_n 24 [0, 1, 2, 3, 4] [(0, .ref 39), (1, .int v1), (2, .int (nI x)), (3, .int (bl (tpg C x y))), (4, .int ((nI y) + Int32.ofInt 1))] [] h [false, false, true] 24 hq rfl ⟨g0, (show xe_c .eq (xg 0 h.2.1 64 (7 * nI x + nI y).toNatClampNeg) 0 = false by rw [e1, c1]; rfl), (show xe_c .ne (xg 0 h.2.1 64 (7 * nI y + nI x).toNatClampNeg) 0 = true by rw [e2, c2]; rfl), trivial⟩ (fun _ => ?_)
        rw [nx, ← tpg_t (by rw [c1, c2]; rfl)]
        exact ih f (y + 1) (by omega)
      | false =>
        refine xq_n 24 [0, 1, 2, 3, 4] [(0, .ref 39), (1, .int v1), (2, .int (nI x)), (3, .int (Int32.ofInt 0)), (4, .int ((nI y) + Int32.ofInt 1))] [] h [false, false, false] 26 hq rfl ⟨g0, (show xe_c .eq (xg 0 h.2.1 64 (7 * nI x + nI y).toNatClampNeg) 0 = false by rw [e1, c1]; rfl), (show xe_c .ne (xg 0 h.2.1 64 (7 * nI y + nI x).toNatClampNeg) 0 = false by rw [e2, c2]; rfl), trivial⟩ (fun _ => ?_)
        have r := ih f (y + 1) (by omega)
        rw [tpg_f (by rw [c1, c2]; rfl)] at r
        rw [nx]
        exact r
set_option maxRecDepth 100000 in
set_option maxHeartbeats 4000000 in
theorem to_out (M : mC C h) (hq : a_rq a_tb h) : ∀ (n f x : Nat), x + n = 7 → xq f xi_X10_top xmi_X10_top 13 [(0, .ref 39), (1, .int (nI (msk (fun x => tpg C x 7) x))), (2, .int (nI x))] [] h (fun v h' => v = some (.int (nI (msk (fun x => tpg C x 7) 7)))) := by
  intro n
  induction n with
  | zero =>
    intro f x hn
    have e : x = 7 := by omega
    subst e
    refine xq_n 86 [] [] [.int (nI (msk (fun x => tpg C x 7) 7))] h [true] 6 hq rfl ⟨rfl, trivial⟩ (fun _ => ?_)
    exact xq_ret rfl rfl rfl rfl
  | succ n ih =>
    intro f x hn
    have g0 : xe_c .ge (nI x) 7 = false := nge_f (b := 7) (by omega) (by decide) (by omega)
    have nx : nI x + Int32.ofInt 1 = nI (x + 1) := nI_1 x
    refine xq_n 24 [0, 1, 2, 3, 4] [(0, .ref 39), (1, .int (nI (msk (fun x => tpg C x 7) x))), (2, .int (nI x)), (3, .int (Int32.ofInt 1)), (4, .int (Int32.ofInt 0))] [] h [false] 9 hq rfl ⟨g0, trivial⟩ (fun _ => ?_)
    refine to_in M hq (x := x) (by omega) (fun f => ?_) 7 f 0 (by omega)
    have es : msk (fun x => tpg C x 7) (x + 1) = if tpg C x 7 = true then msk (fun x => tpg C x 7) x ||| 2 ^ x else msk (fun x => tpg C x 7) x := rfl
    cases c : tpg C x 7 with
    | false =>
      refine xq_n 13 [0, 1, 2] [(0, .ref 39), (1, .int (nI (msk (fun x => tpg C x 7) x))), (2, .int ((nI x) + Int32.ofInt 1))] [] h [true] 6 hq rfl ⟨rfl, trivial⟩ (fun _ => ?_)
      have r := ih f (x + 1) (by omega)
      rw [es, c, if_neg (by decide)] at r
      rw [nx]
      exact r
    | true =>
      refine xq_n 13 [0, 1, 2] [(0, .ref 39), (1, .int ((nI (msk (fun x => tpg C x 7) x)) ||| ((Int32.ofInt 1) <<< ((nI x) &&& 31)))), (2, .int ((nI x) + Int32.ofInt 1))] [] h [false] 12 hq rfl ⟨rfl, trivial⟩ (fun _ => ?_)
      have r := ih f (x + 1) (by omega)
      rw [es, c, if_pos rfl] at r
      rw [nx, nI_o1 (by omega)]
      exact r
end
/-- what top answers -/
def toA (B : Nat → Nat → Bool) : Int32 := nI (msk (fun x => tpg (clo (fun y x => B x y) 49) x 7) 7)
set_option maxRecDepth 100000 in
set_option maxHeartbeats 4000000 in
theorem to9_q {f mem sc : Nat} {PL : Nat → Int32} {d : Int32} {h : xh_H} (hi : a_inv a_tb h) (e9 : xg 0 h.2.1 0 9 = nI mem) (m12 : mem ≤ 12) (e8 : xg 0 h.2.1 0 8 = nI sc) (sc8 : sc ≤ 8) (e10 : xg 0 h.2.1 0 10 = d) (si : SI h) (hP : ∀ k, k < 84 → xg 0 h.2.1 30 k = PL k) (hq : a_rq a_tb h) : xq f xi_X9_top xmi_X9_top 0 [(0, .ref 0)] [] h (fun v h' => v = some (.int (toA (BT PL (cvB (fun k => xg 0 h.2.1 51 k) (fun k => xg 0 h.2.1 44 k) mem sc d) mem)))) := by
  obtain ⟨⟨u1, u2, u3⟩, si⟩ := si
  obtain ⟨SS, un⟩ := si mem sc e9 m12 e8 sc8
  refine xq_n 9 [0] [(0, .ref 0)] [.int (xg 0 h.2.1 0 10), .ref 0, .ref 28] h [] 7 hq rfl trivial (fun _ => ?_)
  rw [e10]
  refine xq_run hq rfl rfl (if9_q hi e8 sc8 u1 u2 SS hq) ?_
  rintro v h1 ⟨rfl, Q, rfl, fd⟩
  refine xq_n 16 [0] [(0, .ref 0)] [.int (xg 0 h.2.1 0 9), .ref Q, .ref 28] h [] 4 hq rfl trivial (fun _ => ?_)
  rw [e9]
  obtain ⟨r, g1, g2, -⟩ := hv_cv hi m12 SS un u3 hq (s := 0) (Nat.two_pow_pos mem) fd
  refine xq_run hq rfl rfl (mat_q (PL := PL) (W := cvB (fun k => xg 0 h.2.1 51 k) (fun k => xg 0 h.2.1 44 k) mem sc d) m12 fd.1 g1 g2 (fun s hs => by
    obtain ⟨r', g1', -, g3⟩ := hv_cv hi m12 SS un u3 hq hs fd
    rw [g1] at g1'
    cases g1'
    exact g3) hP hq) ?_
  rintro v h1 ⟨rfl, g4, w31⟩
  have hq := fx_q g4 hq
  refine xq_n 23 [] [] [.ref 28] h1 [] 4 hq rfl trivial (fun _ => ?_)
  refine xq_run (Q1 := fun v h' => v = some (.int (toA (BT PL (cvB (fun k => xg 0 h.2.1 51 k) (fun k => xg 0 h.2.1 44 k) mem sc d) mem)))) hq rfl rfl ?_ ?_
  · refine xq_n 1 [0] [(0, .ref 28)] [.ref 28] h1 [] 3 hq rfl trivial (fun _ => ?_)
    refine xq_run hq rfl rfl (re_q (B := BT PL (cvB (fun k => xg 0 h.2.1 51 k) (fun k => xg 0 h.2.1 44 k) mem sc d) mem) w31 hq) ?_
    rintro v h2 ⟨rfl, g5, R⟩
    have hq := fx_q g5 hq
    refine xq_n 8 [0, 1, 2] [(0, .ref 28), (1, .int (Int32.ofInt 0)), (2, .int (Int32.ofInt 0))] [] h2 [] 6 hq rfl trivial (fun _ => ?_)
    exact be_out R hq 7 f 0 (by omega)
  · rintro v h2 rfl
    exact xq_ret rfl rfl rfl rfl
set_option maxRecDepth 100000 in
set_option maxHeartbeats 4000000 in
theorem to10_q {f mem sc : Nat} {FR RW PL : Nat → Int32} {d : Int32} {h : xh_H} (m12 : mem ≤ 12) (e4 : xg 0 h.2.1 39 4 = nI mem) (e33 : xg 0 h.2.1 39 33 = nI sc) (sc8 : sc ≤ 8) (e3 : xg 0 h.2.1 39 3 = d) (hF : ∀ k, k < sc → xg 0 h.2.1 51 k = FR k) (hT : ∀ k, k < sc → (xg 0 h.2.1 52 k).toInt ≤ 999) (hR : ∀ k s, k < sc → s < 2 ^ mem → ∃ b : Bool, RW (4096 * k + s) = bl b ∧ xg 0 h.2.1 44 (4096 * k + s) = bl b) (hP : ∀ k, k < 84 → xg 0 h.2.1 62 k = PL k) (hq : a_rq a_tb h) : xq f xi_X10_top xmi_X10_top 0 [(0, .ref 39)] [] h (fun v h' => v = some (.int (toA (BT PL (cvB FR RW mem sc d) mem)))) := by
  refine xq_n 6 [0] [(0, .ref 39)] [.ref 39] (xh_ui h 39 0 (Int32.ofInt 0)) [] 6 hq rfl trivial (fun _ => ?_)
  have hq : a_rq a_tb (xh_ui h 39 0 (Int32.ofInt 0)) := a_rq_ui hq
  refine xq_run hq rfl rfl (lop_q (FR := FR) (RW := RW) (PL := PL) (h := xh_ui h 39 0 (Int32.ofInt 0)) m12 ((gx_k (by decide)).trans e4) ((gx_k (by decide)).trans e33) sc8 ((gx_k (by decide)).trans e3) (fun k hk' => (gx_o (by decide)).trans (hF k hk')) (fun k hk' => by rw [gx_o (by decide)]; exact hT k hk') (fun k s h1 h2 => by obtain ⟨b, b1, b2⟩ := hR k s h1 h2; exact ⟨b, b1, (gx_o (by decide)).trans b2⟩) (fun k hk' => (gx_o (by decide)).trans (hP k hk')) hq) ?_
  rintro v h1 ⟨rfl, g1, w53, w63, w64⟩
  have hq := fx_q g1 hq
  refine xq_n 13 [0, 1, 2] [(0, .ref 39), (1, .int (Int32.ofInt 0)), (2, .int (Int32.ofInt 0))] [] h1 [] 6 hq rfl trivial (fun _ => ?_)
  exact to_out w64 hq 7 f 0 (by omega)
end XTO
end
section
section XLE
/-- what stands once another comes -/
def sd (B : Nat → Nat → Bool) (s c : Nat) : Nat := if B c s = true then c else s
/-- what a row comes to as it comes -/
def fo (B : Nat → Nat → Bool) (T : Nat → Nat) : Nat → Nat
  | 0 => T 0
  | n + 1 => sd B (fo B T n) (T (n + 1))
/-- what is come to from s with j of the row still to come -/
def th (B : Nat → Nat → Bool) (T : Nat → Nat) (n : Nat) : Nat → Nat → Nat
  | 0, s => s
  | j + 1, s => sd B (th B T n j s) (th B T n j (T (n - (j + 1))))
theorem sd_lt {B : Nat → Nat → Bool} {s c : Nat} (hs : s < 7) (hc : c < 7) : sd B s c < 7 := by
  unfold sd
  split <;> assumption
theorem fo_lt {B : Nat → Nat → Bool} {T : Nat → Nat} : ∀ n, (∀ k, k ≤ n → T k < 7) → fo B T n < 7 := by
  intro n
  induction n with
  | zero => intro h; exact h 0 (by omega)
  | succ n ih => intro h; exact sd_lt (ih (fun k hk' => h k (by omega))) (h (n + 1) (by omega))
theorem th_lt {B : Nat → Nat → Bool} {T : Nat → Nat} {n : Nat} (n0 : 0 < n) (h : ∀ k, k < n → T k < 7) : ∀ j s, s < 7 → th B T n j s < 7 := by
  intro j
  induction j with
  | zero => intro s hs; exact hs
  | succ j ih => intro s hs; exact sd_lt (ih s hs) (ih _ (h _ (by omega)))
theorem ro_s {T : Nat → Nat} : ∀ (j i m : Nat), m < 128 → ro T j i (nI m) = true → (∀ k, i ≤ k → k < i + j → T k < 7 ∧ m.testBit (T k) = false) ∧ ∀ k l, i ≤ k → k < l → l < i + j → T k ≠ T l := by
  intro j
  induction j with
  | zero => intro i m _ _; exact ⟨fun k h1 h2 => absurd h2 (by omega), fun k l h1 h2 h3 => absurd h3 (by omega)⟩
  | succ j ih =>
    intro i m m1 h
    have hR : ro T (j + 1) i (nI m) = (decide (T i < 7) && (xe_c .eq ((nI m >>> (nI (T i) &&& 31)) &&& Int32.ofInt 1) 0 && ro T j (i + 1) (nI m ||| (Int32.ofInt 1 <<< (nI (T i) &&& 31))))) := rfl
    rw [hR, Bool.and_eq_true, Bool.and_eq_true] at h
    obtain ⟨a, b, c⟩ := h
    have t7 := of_decide_eq_true a
    rw [nI_b0 (by omega) (by omega)] at b
    have b' : m.testBit (T i) = false := by
      cases z : m.testBit (T i) with
      | false => rfl
      | true => rw [z] at b; exact absurd b (by decide)
    rw [nI_o1 (by omega)] at c
    have p7 : 2 ^ T i < 2 ^ 7 := Nat.pow_lt_pow_right (by decide) t7
    obtain ⟨d1, d2⟩ := ih (i + 1) (m ||| 2 ^ T i) (Nat.or_lt_two_pow (n := 7) m1 p7) c
    have ne : ∀ k, i + 1 ≤ k → k < i + 1 + j → T i ≠ T k ∧ m.testBit (T k) = false := fun k k1 k2 => by
      have e := (d1 k k1 k2).2
      rw [Nat.testBit_or, Bool.or_eq_false_iff, Nat.testBit_two_pow] at e
      exact ⟨of_decide_eq_false e.2, e.1⟩
    refine ⟨fun k k1 k2 => ?_, fun k l k1 k2 k3 => ?_⟩
    · by_cases z : k = i
      · rw [z]; exact ⟨t7, b'⟩
      · exact ⟨(d1 k (by omega) (by omega)).1, (ne k (by omega) (by omega)).2⟩
    · by_cases z : k = i
      · rw [z]; exact (ne l (by omega) (by omega)).1
      · exact d2 k l (by omega) k2 (by omega)
theorem ro_t {T : Nat → Nat} {n : Nat} (h : ro T n 0 (Int32.ofInt 0) = true) : (∀ k, k < n → T k < 7) ∧ ∀ k l, k < n → l < n → T k = T l → k = l := by
  obtain ⟨a, b⟩ := ro_s n 0 0 (by decide) h
  refine ⟨fun k hk' => (a k (by omega) (by omega)).1, fun k l h1 h2 e => ?_⟩
  rcases Nat.lt_trichotomy k l with z | z | z
  · exact absurd e (b k l (by omega) z (by omega))
  · exact z
  · exact absurd e.symm (b l k (by omega) z (by omega))
set_option maxRecDepth 100000 in
set_option maxHeartbeats 4000000 in
theorem sta_q {f s c : Nat} {B : Nat → Nat → Bool} {h : xh_H} (hs : s < 7) (hc : c < 7) (hB : ∀ x, x < 7 → xg 0 h.2.1 31 x = nI (msk (B x) 7)) (hq : a_rq a_tb h) : xq f xi_X0_stands xmi_X0_stands 0 [(0, .ref 28), (1, .int (nI s)), (2, .int (nI c))] [] h (fun v h' => h = h' ∧ v = some (.int (nI (sd B s c)))) := by
  refine xq_n 3 [1, 2] [(1, .int (nI s)), (2, .int (nI c))] [.int (nI s), .int (nI c), .ref 28] h [] 60 hq rfl trivial (fun _ => ?_)
  refine xq_run hq rfl rfl (wins_q hc hs hB hq) ?_
  rintro v h1 ⟨rfl, rfl⟩
  unfold sd
  cases c1 : B c s with
  | true =>
    refine xq_n 14 [] [] [.int (nI c)] h [false] 60 hq rfl ⟨rfl, trivial⟩ (fun _ => ?_)
    exact xq_ret rfl rfl rfl ⟨rfl, by rw [if_pos rfl]⟩
  | false =>
    refine xq_n 14 [] [] [.int (nI s)] h [true] 60 hq rfl ⟨rfl, trivial⟩ (fun _ => ?_)
    exact xq_ret rfl rfl rfl ⟨rfl, by rw [if_neg (by decide)]⟩
set_option maxRecDepth 100000 in
set_option maxHeartbeats 4000000 in
theorem fol_l {n : Nat} {T : Nat → Nat} {B : Nat → Nat → Bool} {h : xh_H} (hc : ct h T n) (tl : ∀ k, k < n → T k < 7) (hB : ∀ x, x < 7 → xg 0 h.2.1 31 x = nI (msk (B x) 7)) (hq : a_rq a_tb h) : ∀ (j f i : Nat), i + j + 1 = n → xq f xi_X0_follow xmi_X0_follow 8 [(0, .ref 28), (1, .ref 1), (2, .int (nI (fo B T i))), (3, .int (nI (i + 1)))] [] h (fun v h' => h = h' ∧ v = some (.int (nI (fo B T (n - 1))))) := by
  have n6 := hc.2.1
  intro j
  induction j with
  | zero =>
    intro f i ij
    refine xq_n 34 [] [] [.int (nI (fo B T i))] h [true] 60 hq rfl ⟨(show xe_c .ge (nI (i + 1)) (xg 0 h.2.1 1 1) = true by rw [show xg 0 h.2.1 1 1 = nI n from hc.1]; exact nge_t (by omega) (by omega) (by omega)), trivial⟩ (fun _ => ?_)
    exact xq_ret rfl rfl rfl ⟨rfl, by rw [show n - 1 = i by omega]⟩
  | succ j ih =>
    intro f i ij
    refine xq_n 20 [0, 1, 2, 3] [(0, .ref 28), (1, .ref 1), (2, .int (nI (fo B T i))), (3, .int (nI (i + 1)))] [.int (nI (i + 1)), .ref 1, .int (nI (fo B T i)), .ref 28] h [false] 60 hq rfl ⟨(show xe_c .ge (nI (i + 1)) (xg 0 h.2.1 1 1) = false by rw [show xg 0 h.2.1 1 1 = nI n from hc.1]; exact nge_f (by omega) (by omega) (by omega)), trivial⟩ (fun _ => ?_)
    refine xq_run hq rfl rfl (at_q hc (p := i + 1) (by omega) hq) ?_
    rintro v h1 ⟨rfl, rfl⟩
    refine xq_run hq rfl rfl (sta_q (s := fo B T i) (c := T (i + 1)) (fo_lt i (fun k hk' => tl k (by omega))) (tl _ (by omega)) hB hq) ?_
    rintro v h1 ⟨rfl, rfl⟩
    refine xq_n 8 [0, 1, 2, 3] [(0, .ref 28), (1, .ref 1), (2, .int (nI (sd B (fo B T i) (T (i + 1))))), (3, .int (nI (i + 1) + Int32.ofInt 1))] [] h [] 60 hq rfl trivial (fun _ => ?_)
    rw [show nI (i + 1) + Int32.ofInt 1 = nI (i + 1 + 1) from nI_1 _]
    exact ih f (i + 1) (by omega)
set_option maxRecDepth 100000 in
set_option maxHeartbeats 4000000 in
theorem fol_q {f n : Nat} {T : Nat → Nat} {B : Nat → Nat → Bool} {h : xh_H} (n1 : 1 ≤ n) (hc : ct h T n) (tl : ∀ k, k < n → T k < 7) (hB : ∀ x, x < 7 → xg 0 h.2.1 31 x = nI (msk (B x) 7)) (hq : a_rq a_tb h) : xq f xi_X0_follow xmi_X0_follow 0 [(0, .ref 28), (1, .ref 1)] [] h (fun v h' => h = h' ∧ v = some (.int (nI (fo B T (n - 1))))) := by
  refine xq_n 2 [0, 1] [(0, .ref 28), (1, .ref 1)] [.int (Int32.ofInt 0), .ref 1] h [] 60 hq rfl trivial (fun _ => ?_)
  refine xq_run hq rfl rfl (at_q hc (p := 0) (by omega) hq) ?_
  rintro v h1 ⟨rfl, rfl⟩
  refine xq_n 8 [0, 1, 2, 3] [(0, .ref 28), (1, .ref 1), (2, .int (nI (T 0))), (3, .int (Int32.ofInt 1))] [] h [] 60 hq rfl trivial (fun _ => ?_)
  exact fol_l hc tl hB hq (n - 1) f 0 (by omega)
def S33 (c _k : Nat) : Bool := Nat.beq c 33
section
variable {n : Nat} {T : Nat → Nat} {B : Nat → Nat → Bool} {hb : xh_H}
set_option maxRecDepth 100000 in
set_option maxHeartbeats 4000000 in
theorem fse_in (hc : ct hb T n) (tl : ∀ k, k < n → T k < 7) (inj : ∀ k l, k < n → l < n → T k = T l → k = l) (hB : ∀ x, x < 7 → xg 0 hb.2.1 31 x = nI (msk (B x) 7)) {i j : Nat} (ij : i + j + 2 = n) {Q : Option Value → xh_H → Prop} (K : ∀ (f : Nat) (h : xh_H), a_rq a_tb h → fx S33 fN hb h → (∀ a, a ≤ i → xg 0 h.2.1 33 (T a) = nI (th B T n (j + 1) (T a))) → xq f xi_X0_foresee xmi_X0_foresee 28 [(0, .ref 28), (1, .ref 1), (2, .int (nI i))] [] h Q) : ∀ (m f a : Nat) (h : xh_H), a + m = i + 1 → a_rq a_tb h → fx S33 fN hb h → (∀ b, b < a → xg 0 h.2.1 33 (T b) = nI (th B T n (j + 1) (T b))) → (∀ b, a ≤ b → b ≤ i → xg 0 h.2.1 33 (T b) = nI (th B T n j (T b))) → xq f xi_X0_foresee xmi_X0_foresee 46 [(0, .ref 28), (1, .ref 1), (2, .int (nI (i + 1))), (3, .int (nI (th B T n j (T (i + 1))))), (4, .int (nI a))] [] h Q := by
  have n6 := hc.2.1
  intro m
  induction m with
  | zero =>
    intro f a h am hq ge w1 w2
    refine xq_n 28 [0, 1, 2] [(0, .ref 28), (1, .ref 1), (2, .int (nI (i + 1) + Int32.ofInt (-1)))] [] h [true] 60 hq rfl ⟨nge_t (by omega) (by omega) (by omega), trivial⟩ (fun _ => ?_)
    rw [nI_dec i]
    exact K f h hq ge (fun b hb' => w1 b (by omega))
  | succ m ih =>
    intro f a h am hq ge w1 w2
    have ta := tl a (by omega)
    refine xq_n 55 [0, 1, 2, 3, 4] [(0, .ref 28), (1, .ref 1), (2, .int (nI (i + 1))), (3, .int (nI (th B T n j (T (i + 1))))), (4, .int (nI a))] [.int (nI a), .ref 1] h [false] 60 hq rfl ⟨nge_f (by omega) (by omega) (by omega), trivial⟩ (fun _ => ?_)
    refine xq_run hq rfl rfl (at_q (ct_f hc ge rfl (fun _ => rfl)) (p := a) (by omega) hq) ?_
    rintro v h1 ⟨rfl, rfl⟩
    refine xq_n 75 [0, 1, 2, 3, 4] [(0, .ref 28), (1, .ref 1), (2, .int (nI (i + 1))), (3, .int (nI (th B T n j (T (i + 1))))), (4, .int (nI a))] [.int (nI (th B T n j (T (i + 1)))), .int (xg 0 h.2.1 33 (nI (T a)).toNatClampNeg), .ref 28, .int (nI (T a)), .ref 33] h [] 60 hq rfl trivial (fun _ => ?_)
    rw [nI_clamp (by omega), w2 a (by omega) (by omega)]
    refine xq_run hq rfl rfl (sta_q (s := th B T n j (T a)) (c := th B T n j (T (i + 1))) (B := B) (th_lt (by omega) tl j _ ta) (th_lt (by omega) tl j _ (tl _ (by omega))) (fun x hx => (fx_i ge rfl).trans (hB x hx)) hq) ?_
    rintro v h1 ⟨rfl, rfl⟩
    refine xq_n 46 [0, 1, 2, 3, 4] [(0, .ref 28), (1, .ref 1), (2, .int (nI (i + 1))), (3, .int (nI (th B T n j (T (i + 1))))), (4, .int (nI a + Int32.ofInt 1))] [] (xh_ui h 33 (nI (T a)).toNatClampNeg (nI (sd B (th B T n j (T a)) (th B T n j (T (i + 1)))))) [] 60 hq rfl trivial (fun _ => ?_)
    rw [show nI a + Int32.ofInt 1 = nI (a + 1) from nI_1 _, show (nI (T a)).toNatClampNeg = T a from nI_clamp (by omega)]
    refine ih f (a + 1) _ (by omega) (a_rq_ui hq) (fx_ui ge rfl) (fun b hb' => ?_) (fun b h1 h2 => ?_)
    · by_cases z : b = a
      · rw [z, gx_s]
        show _ = nI (sd B (th B T n j (T a)) (th B T n j (T (n - (j + 1)))))
        rw [show n - (j + 1) = i + 1 by omega]
      · have := fun e => z (inj b a (by omega) (by omega) e)
        exact (gx_k (by omega)).trans (w1 b (by omega))
    · have := fun e => (show ¬ b = a by omega) (inj b a (by omega) (by omega) e)
      exact (gx_k (by omega)).trans (w2 b (by omega) h2)
set_option maxRecDepth 100000 in
set_option maxHeartbeats 4000000 in
theorem fse_out (hc : ct hb T n) (tl : ∀ k, k < n → T k < 7) (inj : ∀ k l, k < n → l < n → T k = T l → k = l) (hB : ∀ x, x < 7 → xg 0 hb.2.1 31 x = nI (msk (B x) 7)) : ∀ (i f j : Nat) (h : xh_H), i + j + 1 = n → a_rq a_tb h → fx S33 fN hb h → (∀ a, a ≤ i → xg 0 h.2.1 33 (T a) = nI (th B T n j (T a))) → xq f xi_X0_foresee xmi_X0_foresee 28 [(0, .ref 28), (1, .ref 1), (2, .int (nI i))] [] h (fun v h' => fx S33 fN hb h' ∧ v = some (.int (nI (th B T n (n - 1) (T 0))))) := by
  have n6 := hc.2.1
  intro i
  induction i with
  | zero =>
    intro f j h ij hq ge w
    have t0 := tl 0 (by omega)
    refine xq_n 97 [0] [(0, .ref 28)] [.int (Int32.ofInt 0), .ref 1, .ref 33] h [true] 60 hq rfl ⟨rfl, trivial⟩ (fun _ => ?_)
    refine xq_run hq rfl rfl (at_q (ct_f hc ge rfl (fun _ => rfl)) (p := 0) (by omega) hq) ?_
    rintro v h1 ⟨rfl, rfl⟩
    refine xq_n 101 [] [] [.int (xg 0 h.2.1 33 (nI (T 0)).toNatClampNeg)] h [] 60 hq rfl trivial (fun _ => ?_)
    exact xq_ret rfl rfl rfl ⟨ge, by rw [nI_clamp (by omega), w 0 (by omega), show n - 1 = j by omega]⟩
  | succ i ih =>
    intro f j h ij hq ge w
    have t1 := tl (i + 1) (by omega)
    refine xq_n 38 [0, 1, 2] [(0, .ref 28), (1, .ref 1), (2, .int (nI (i + 1)))] [.int (nI (i + 1)), .ref 1, .ref 33] h [false] 60 hq rfl ⟨xle_f (by rw [nI_toInt (by omega)]; show (0 : Int) < _; omega), trivial⟩ (fun _ => ?_)
    refine xq_run hq rfl rfl (at_q (ct_f hc ge rfl (fun _ => rfl)) (p := i + 1) (by omega) hq) ?_
    rintro v h1 ⟨rfl, rfl⟩
    refine xq_n 46 [0, 1, 2, 3, 4] [(0, .ref 28), (1, .ref 1), (2, .int (nI (i + 1))), (3, .int (xg 0 h.2.1 33 (nI (T (i + 1))).toNatClampNeg)), (4, .int (Int32.ofInt 0))] [] h [] 60 hq rfl trivial (fun _ => ?_)
    rw [nI_clamp (by omega), w (i + 1) (by omega)]
    exact fse_in hc tl inj hB (i := i) (j := j) (by omega) (fun f h hq ge w => ih f (j + 1) h (by omega) hq ge w) (i + 1) f 0 h (by omega) hq ge (fun b hb' => absurd hb' (Nat.not_lt_zero b)) (fun b _ h2 => w b (by omega))
set_option maxRecDepth 100000 in
set_option maxHeartbeats 4000000 in
theorem fse_0 (n1 : 1 ≤ n) (hc : ct hb T n) (tl : ∀ k, k < n → T k < 7) (inj : ∀ k l, k < n → l < n → T k = T l → k = l) (hB : ∀ x, x < 7 → xg 0 hb.2.1 31 x = nI (msk (B x) 7)) : ∀ (m f x : Nat) (h : xh_H), x + m = 7 → a_rq a_tb h → fx S33 fN hb h → (∀ y, y < x → xg 0 h.2.1 33 y = nI y) → xq f xi_X0_foresee xmi_X0_foresee 2 [(0, .ref 28), (1, .ref 1), (2, .int (nI x))] [] h (fun v h' => fx S33 fN hb h' ∧ v = some (.int (nI (th B T n (n - 1) (T 0))))) := by
  have n6 := hc.2.1
  intro m
  induction m with
  | zero =>
    intro f x h xm hq ge w
    have e : x = 7 := by omega
    subst e
    refine xq_n 28 [0, 1, 2] [(0, .ref 28), (1, .ref 1), (2, .int (xg 0 h.2.1 1 1 - Int32.ofInt 1))] [] h [true] 60 hq rfl ⟨rfl, trivial⟩ (fun _ => ?_)
    rw [show xg 0 h.2.1 1 1 = nI n from (fx_i ge rfl).trans hc.1, show nI n - Int32.ofInt 1 = nI (n - 1) from nI_sub (b := 1) n1]
    exact fse_out hc tl inj hB (n - 1) f 0 h (by omega) hq ge (fun a ha => w _ (tl a (by omega)))
  | succ m ih =>
    intro f x h xm hq ge w
    refine xq_n 2 [0, 1, 2] [(0, .ref 28), (1, .ref 1), (2, .int (nI x + Int32.ofInt 1))] [] (xh_ui h 33 (nI x).toNatClampNeg (nI x)) [false] 60 hq rfl ⟨nge_f (b := 7) (by omega) (by decide) (by omega), trivial⟩ (fun _ => ?_)
    rw [show nI x + Int32.ofInt 1 = nI (x + 1) from nI_1 _, show (nI x).toNatClampNeg = x from nI_clamp (by omega)]
    refine ih f (x + 1) _ (by omega) (a_rq_ui hq) (fx_ui ge rfl) (fun y hy => ?_)
    by_cases z : y = x
    · rw [z, gx_s]
    · exact (gx_k (by omega)).trans (w y (by omega))
theorem fse_q {f : Nat} (n1 : 1 ≤ n) (hc : ct hb T n) (tl : ∀ k, k < n → T k < 7) (inj : ∀ k l, k < n → l < n → T k = T l → k = l) (hB : ∀ x, x < 7 → xg 0 hb.2.1 31 x = nI (msk (B x) 7)) (hq : a_rq a_tb hb) : xq f xi_X0_foresee xmi_X0_foresee 0 [(0, .ref 28), (1, .ref 1)] [] hb (fun v h' => fx S33 fN hb h' ∧ v = some (.int (nI (th B T n (n - 1) (T 0))))) := by
  refine xq_n 2 [0, 1, 2] [(0, .ref 28), (1, .ref 1), (2, .int (Int32.ofInt 0))] [] hb [] 60 hq rfl trivial (fun _ => ?_)
  exact fse_0 n1 hc tl inj hB 7 f 0 hb (by omega) hq fx_0 (fun y hy => absurd hy (Nat.not_lt_zero y))
end
/-- what leads answers -/
def ldA (B : Nat → Nat → Bool) (T : Nat → Nat) (n : Nat) (b : Int32) : Int32 := cond (decide (1 ≤ n ∧ n ≤ 7) && ro T n 0 (Int32.ofInt 0)) (cond (xe_c .eq b 0) (nI (fo B T (n - 1))) (nI (th B T n (n - 1) (T 0)))) (Int32.ofInt (-1))
set_option maxRecDepth 100000 in
set_option maxHeartbeats 4000000 in
theorem ld9_q {f mem sc n : Nat} {T : Nat → Nat} {b : Int32} {PL : Nat → Int32} {d : Int32} {h : xh_H} (hc : ct h T n) (hi : a_inv a_tb h) (e9 : xg 0 h.2.1 0 9 = nI mem) (m12 : mem ≤ 12) (e8 : xg 0 h.2.1 0 8 = nI sc) (sc8 : sc ≤ 8) (e10 : xg 0 h.2.1 0 10 = d) (si : SI h) (hP : ∀ k, k < 84 → xg 0 h.2.1 30 k = PL k) (hq : a_rq a_tb h) : xq f xi_X9_leads xmi_X9_leads 0 [(0, .ref 0), (1, .int b)] [] h (fun v h' => v = some (.int (ldA (BT PL (cvB (fun k => xg 0 h.2.1 51 k) (fun k => xg 0 h.2.1 44 k) mem sc d) mem) T n b))) := by
  obtain ⟨⟨u1, u2, u3⟩, si⟩ := si
  obtain ⟨SS, un⟩ := si mem sc e9 m12 e8 sc8
  unfold ldA
  refine xq_n 10 [0, 1, 2] [(0, .ref 0), (1, .int b), (2, .int (Int32.ofInt (-1)))] [.ref 1, .ref 28] h [] 60 hq rfl trivial (fun _ => ?_)
  refine xq_run hq rfl rfl (row_q hc hq) ?_
  rintro v h1 ⟨rfl, rfl⟩
  cases c1 : (decide (1 ≤ n ∧ n ≤ 7) && ro T n 0 (Int32.ofInt 0)) with
  | false =>
    refine xq_n 74 [] [] [.int (Int32.ofInt (-1))] (xh_ui h 1 1 (Int32.ofInt 0)) [true] 60 hq rfl ⟨rfl, trivial⟩ (fun _ => ?_)
    exact xq_ret rfl rfl rfl rfl
  | true =>
    rw [Bool.and_eq_true] at c1
    obtain ⟨c1, c2⟩ := c1
    have c1 := of_decide_eq_true c1
    obtain ⟨tl, inj⟩ := ro_t c2
    refine xq_n 25 [0, 1, 2] [(0, .ref 0), (1, .int b), (2, .int (Int32.ofInt (-1)))] [.int (xg 0 h.2.1 0 10), .ref 0, .ref 28] h [false] 60 hq rfl ⟨rfl, trivial⟩ (fun _ => ?_)
    rw [e10]
    refine xq_run hq rfl rfl (if9_q hi e8 sc8 u1 u2 SS hq) ?_
    rintro v h1 ⟨rfl, Q, rfl, fd⟩
    refine xq_n 32 [0, 1, 2] [(0, .ref 0), (1, .int b), (2, .int (Int32.ofInt (-1)))] [.int (xg 0 h.2.1 0 9), .ref Q, .ref 28] h [] 60 hq rfl trivial (fun _ => ?_)
    rw [e9]
    obtain ⟨r, g1, g2, -⟩ := hv_cv hi m12 SS un u3 hq (s := 0) (Nat.two_pow_pos mem) fd
    refine xq_run hq rfl rfl (mat_q (PL := PL) (W := cvB (fun k => xg 0 h.2.1 51 k) (fun k => xg 0 h.2.1 44 k) mem sc d) m12 fd.1 g1 g2 (fun s hs => by
      obtain ⟨r', g1', -, g3⟩ := hv_cv hi m12 SS un u3 hq hs fd
      rw [g1] at g1'
      cases g1'
      exact g3) hP hq) ?_
    rintro v h1 ⟨rfl, g4, w31⟩
    have hq := fx_q g4 hq
    have hc1 := ct_f hc g4 rfl (fun _ => rfl)
    cases c3 : xe_c .eq b 0 with
    | true =>
      refine xq_n 61 [0, 1, 2] [(0, .ref 0), (1, .int b), (2, .int (Int32.ofInt (-1)))] [.ref 1, .ref 28] h1 [true] 60 hq rfl ⟨c3, trivial⟩ (fun _ => ?_)
      refine xq_run hq rfl rfl (fol_q c1.1 hc1 tl w31 hq) ?_
      rintro v h2 ⟨rfl, rfl⟩
      refine xq_n 74 [] [] [.int (nI (fo (BT PL (cvB (fun k => xg 0 h.2.1 51 k) (fun k => xg 0 h.2.1 44 k) mem sc d) mem) T (n - 1)))] (xh_ui h1 1 1 (Int32.ofInt 0)) [] 60 hq rfl trivial (fun _ => ?_)
      exact xq_ret rfl rfl rfl rfl
    | false =>
      refine xq_n 47 [0, 1, 2] [(0, .ref 0), (1, .int b), (2, .int (Int32.ofInt (-1)))] [.ref 1, .ref 28] h1 [false] 60 hq rfl ⟨c3, trivial⟩ (fun _ => ?_)
      refine xq_run hq rfl rfl (fse_q c1.1 hc1 tl inj w31 hq) ?_
      rintro v h2 ⟨g5, rfl⟩
      have hq := fx_q g5 hq
      refine xq_n 74 [] [] [.int (nI (th (BT PL (cvB (fun k => xg 0 h.2.1 51 k) (fun k => xg 0 h.2.1 44 k) mem sc d) mem) T n (n - 1) (T 0)))] (xh_ui h2 1 1 (Int32.ofInt 0)) [] 60 hq rfl trivial (fun _ => ?_)
      exact xq_ret rfl rfl rfl rfl
section
variable {n : Nat} {T : Nat → Nat} {B : Nat → Nat → Bool} {hb : xh_H}
def S65 (c _k : Nat) : Bool := Nat.beq c 65
/-- what is come to, laid out -/
def tI (B : Nat → Nat → Bool) (T : Nat → Nat) (n k : Nat) (h : xh_H) : Prop := ∀ k' s, k < k' → k' ≤ n → s < 7 → xg 0 h.2.1 65 (7 * k' + s) = nI (th B T n (n - k') s)
theorem sd_e {s : Nat} : sd B s s = s := by unfold sd; split <;> rfl
theorem i7_c {k x : Nat} : 7 * nI k + 7 + nI x = nI (7 * (k + 1) + x) := by
  have e : 7 * nI k = nI (7 * k) := by
    have z := i7_b (m := k) (x := 0)
    rw [show (7 * nI k + nI 0 : Int32) = 7 * nI k from Int32.add_zero _] at z
    exact z
  rw [e, show (7 : Int32) = nI 7 from rfl, nI_add, nI_add]
  congr 1
set_option maxRecDepth 100000 in
set_option maxHeartbeats 4000000 in
theorem tn_in (n7 : n ≤ 7) (hT : ∀ k, k < n → T k < 256 ∧ xg 0 hb.2.1 40 k = nI (T k)) (tl : ∀ k, k < n → T k < 7) (hB : ∀ x y, x < 7 → y < 7 → xg 0 hb.2.1 63 (7 * x + y) = bl (B x y)) {v1 : Value} {k j : Nat} (kj : k + j + 2 = n) {Q : Option Value → xh_H → Prop} (K : ∀ (f : Nat) (h : xh_H), a_rq a_tb h → fx S65 fN hb h → tI B T n k h → xq f xi_X10_leads xmi_X10_leads 99 [(0, .ref 39), (2, .int (nI n)), (3, .int (nI k))] [] h Q) : ∀ (m f s : Nat) (h : xh_H), s + m = 7 → a_rq a_tb h → fx S65 fN hb h → tI B T n (k + 1) h → (∀ s', s' < s → xg 0 h.2.1 65 (7 * (k + 1) + s') = nI (th B T n (j + 1) s')) → xq f xi_X10_leads xmi_X10_leads 106 [(0, .ref 39), (2, .int (nI n)), (3, .int (nI (k + 1))), (4, .int (nI s))] [] h Q := by
  have nj : n - (j + 1) = k + 1 := by omega
  intro m
  induction m with
  | zero =>
    intro f s h sm hq ge I w
    have e : s = 7 := by omega
    subst e
    refine xq_n 99 [0, 2, 3] [(0, .ref 39), (2, .int (nI n)), (3, .int (nI (k + 1) + Int32.ofInt (-1)))] [] h [true] 60 hq rfl ⟨rfl, trivial⟩ (fun _ => ?_)
    rw [nI_dec k]
    refine K f h hq ge (fun k' s h1 h2 h3 => ?_)
    by_cases z : k' = k + 1
    · rw [z, show n - (k + 1) = j + 1 by omega]; exact w s h3
    · exact I k' s (by omega) h2 h3
  | succ m ih =>
    intro f s h sm hq ge I w
    have tk := tl (k + 1) (by omega)
    have wl : th B T n j (T (k + 1)) < 7 := th_lt (by omega) tl j _ tk
    have sl : th B T n j s < 7 := th_lt (by omega) tl j _ (by omega)
    refine xq_n 162 [0, 2, 3, 4, 5, 6] [(0, .ref 39), (2, .int (nI n)), (3, .int (nI (k + 1))), (4, .int (nI s)), (5, .int (xg 0 h.2.1 65 (7 * nI (k + 1) + 7 + xg 0 h.2.1 40 (nI (k + 1)).toNatClampNeg).toNatClampNeg)), (6, .int (xg 0 h.2.1 65 (7 * nI (k + 1) + 7 + nI s).toNatClampNeg))] [.int (7 * nI (k + 1) + nI s), .ref 65] h [false] 60 hq rfl ⟨nge_f (b := 7) (by omega) (by decide) (by omega), trivial⟩ (fun _ => ?_)
    rw [show (nI (k + 1)).toNatClampNeg = k + 1 from nI_clamp (by omega), show xg 0 h.2.1 40 (k + 1) = nI (T (k + 1)) from (fx_i ge rfl).trans (hT _ (by omega)).2, i7_c, i7_c, i7_b, show (nI (7 * (k + 1 + 1) + T (k + 1))).toNatClampNeg = 7 * (k + 1 + 1) + T (k + 1) from nI_clamp (by omega), show (nI (7 * (k + 1 + 1) + s)).toNatClampNeg = 7 * (k + 1 + 1) + s from nI_clamp (by omega), I (k + 1 + 1) _ (by omega) (by omega) tk, I (k + 1 + 1) s (by omega) (by omega) (by omega), show n - (k + 1 + 1) = j by omega]
    have go : ∀ (f : Nat) (y : Nat), sd B (th B T n j s) (th B T n j (T (k + 1))) = y → xq f xi_X10_leads xmi_X10_leads 106 [(0, .ref 39), (2, .int (nI n)), (3, .int (nI (k + 1))), (4, .int (nI s + Int32.ofInt 1))] [] (xh_ui h 65 (nI (7 * (k + 1) + s)).toNatClampNeg (nI y)) Q := fun f y hy => by
      rw [show nI s + Int32.ofInt 1 = nI (s + 1) from nI_1 _, show (nI (7 * (k + 1) + s)).toNatClampNeg = 7 * (k + 1) + s from nI_clamp (by omega)]
      refine ih f (s + 1) _ (by omega) (a_rq_ui hq) (fx_ui ge rfl) (fun k' s' h1 h2 h3 => (gx_k (by omega)).trans (I k' s' h1 h2 h3)) (fun s' hs' => ?_)
      by_cases z : s' = s
      · rw [z, gx_s, ← hy]
        show _ = nI (sd B (th B T n j s) (th B T n j (T (n - (j + 1)))))
        rw [nj]
      · exact (gx_k (by omega)).trans (w s' (by omega))
    cases c1 : xe_c .eq (nI (th B T n j (T (k + 1)))) (nI (th B T n j s)) with
    | true =>
      have z1 := nq_eqt (by omega) (by omega) c1
      refine xq_n 106 [0, 2, 3, 4] [(0, .ref 39), (2, .int (nI n)), (3, .int (nI (k + 1))), (4, .int (nI s + Int32.ofInt 1))] [] (xh_ui h 65 (nI (7 * (k + 1) + s)).toNatClampNeg (nI (th B T n j s))) [true] 60 hq rfl ⟨c1, trivial⟩ (fun _ => ?_)
      exact go f _ (by rw [z1]; exact sd_e)
    | false =>
      have a1 : xg 0 h.2.1 63 (7 * nI (th B T n j (T (k + 1))) + nI (th B T n j s)).toNatClampNeg = bl (B (th B T n j (T (k + 1))) (th B T n j s)) := by
        rw [i7_b, nI_clamp (by omega)]; exact (fx_i ge rfl).trans (hB _ _ wl sl)
      cases c2 : B (th B T n j (T (k + 1))) (th B T n j s) with
      | false =>
        refine xq_n 106 [0, 2, 3, 4] [(0, .ref 39), (2, .int (nI n)), (3, .int (nI (k + 1))), (4, .int (nI s + Int32.ofInt 1))] [] (xh_ui h 65 (nI (7 * (k + 1) + s)).toNatClampNeg (nI (th B T n j s))) [false, true] 60 hq rfl ⟨c1, (show xe_c .eq (xg 0 h.2.1 63 (7 * nI (th B T n j (T (k + 1))) + nI (th B T n j s)).toNatClampNeg) 0 = true by rw [a1, c2]; rfl), trivial⟩ (fun _ => ?_)
        exact go f _ (by unfold sd; rw [c2, if_neg (by decide)])
      | true =>
        refine xq_n 106 [0, 2, 3, 4] [(0, .ref 39), (2, .int (nI n)), (3, .int (nI (k + 1))), (4, .int (nI s + Int32.ofInt 1))] [] (xh_ui h 65 (nI (7 * (k + 1) + s)).toNatClampNeg (nI (th B T n j (T (k + 1))))) [false, false] 60 hq rfl ⟨c1, (show xe_c .eq (xg 0 h.2.1 63 (7 * nI (th B T n j (T (k + 1))) + nI (th B T n j s)).toNatClampNeg) 0 = false by rw [a1, c2]; rfl), trivial⟩ (fun _ => ?_)
        exact go f _ (by unfold sd; rw [c2, if_pos rfl])
set_option maxRecDepth 100000 in
set_option maxHeartbeats 4000000 in
theorem tn_out (n7 : n ≤ 7) (hT : ∀ k, k < n → T k < 256 ∧ xg 0 hb.2.1 40 k = nI (T k)) (tl : ∀ k, k < n → T k < 7) (hB : ∀ x y, x < 7 → y < 7 → xg 0 hb.2.1 63 (7 * x + y) = bl (B x y)) : ∀ (k f j : Nat) (h : xh_H), k + j + 1 = n → a_rq a_tb h → fx S65 fN hb h → tI B T n k h → xq f xi_X10_leads xmi_X10_leads 99 [(0, .ref 39), (2, .int (nI n)), (3, .int (nI k))] [] h (fun v h' => v = some (.int (nI (th B T n (n - 1) (T 0))))) := by
  intro k
  induction k with
  | zero =>
    intro f j h kj hq ge I
    have t0 := tl 0 (by omega)
    refine xq_n 219 [] [] [.int (xg 0 h.2.1 65 (7 + xg 0 h.2.1 40 0).toNatClampNeg)] h [true] 60 hq rfl ⟨rfl, trivial⟩ (fun _ => ?_)
    refine xq_ret rfl rfl rfl ?_
    rw [show xg 0 h.2.1 40 0 = nI (T 0) from (fx_i ge rfl).trans (hT _ (by omega)).2, show (7 : Int32) = nI 7 from rfl, nI_add, nI_clamp (by omega)]
    exact congrArg (fun z => some (Value.int z)) (I 1 (T 0) (by omega) (by omega) t0)
  | succ k ih =>
    intro f j h kj hq ge I
    refine xq_n 106 [0, 2, 3, 4] [(0, .ref 39), (2, .int (nI n)), (3, .int (nI (k + 1))), (4, .int (Int32.ofInt 0))] [] h [false] 60 hq rfl ⟨xle_f (by rw [nI_toInt (by omega)]; show (0 : Int) < _; omega), trivial⟩ (fun _ => ?_)
    exact tn_in n7 hT tl hB (v1 := .ref 0) (k := k) (j := j) (by omega) (fun f h hq ge I => ih f (j + 1) h (by omega) hq ge I) 7 f 0 h (by omega) hq ge I (fun s' hs' => absurd hs' (Nat.not_lt_zero s'))
set_option maxRecDepth 100000 in
set_option maxHeartbeats 4000000 in
theorem tn_0 (n1 : 1 ≤ n) (n7 : n ≤ 7) (hT : ∀ k, k < n → T k < 256 ∧ xg 0 hb.2.1 40 k = nI (T k)) (tl : ∀ k, k < n → T k < 7) (hB : ∀ x y, x < 7 → y < 7 → xg 0 hb.2.1 63 (7 * x + y) = bl (B x y)) : ∀ (m f s : Nat) (h : xh_H), s + m = 7 → a_rq a_tb h → fx S65 fN hb h → (∀ s', s' < s → xg 0 h.2.1 65 (7 * n + s') = nI s') → xq f xi_X10_leads xmi_X10_leads 71 [(0, .ref 39), (2, .int (nI n)), (3, .int (nI s))] [] h (fun v h' => v = some (.int (nI (th B T n (n - 1) (T 0))))) := by
  intro m
  induction m with
  | zero =>
    intro f s h sm hq ge w
    have e : s = 7 := by omega
    subst e
    refine xq_n 99 [0, 2, 3] [(0, .ref 39), (2, .int (nI n)), (3, .int (nI n - Int32.ofInt 1))] [] h [true] 60 hq rfl ⟨rfl, trivial⟩ (fun _ => ?_)
    rw [show nI n - Int32.ofInt 1 = nI (n - 1) from nI_sub (b := 1) n1]
    refine tn_out n7 hT tl hB (n - 1) f 0 h (by omega) hq ge (fun k' s h1 h2 h3 => ?_)
    have e : k' = n := by omega
    rw [e, Nat.sub_self]
    exact w s h3
  | succ m ih =>
    intro f s h sm hq ge w
    refine xq_n 71 [0, 2, 3] [(0, .ref 39), (2, .int (nI n)), (3, .int (nI s + Int32.ofInt 1))] [] (xh_ui h 65 (7 * nI n + nI s).toNatClampNeg (nI s)) [false] 60 hq rfl ⟨nge_f (b := 7) (by omega) (by decide) (by omega), trivial⟩ (fun _ => ?_)
    rw [show nI s + Int32.ofInt 1 = nI (s + 1) from nI_1 _, i7_b, show (nI (7 * n + s)).toNatClampNeg = 7 * n + s from nI_clamp (by omega)]
    refine ih f (s + 1) _ (by omega) (a_rq_ui hq) (fx_ui ge rfl) (fun y hy => ?_)
    by_cases z : y = s
    · rw [z, gx_s]
    · exact (gx_k (by omega)).trans (w y (by omega))
set_option maxRecDepth 100000 in
set_option maxHeartbeats 4000000 in
/-- X10.endOf -/
theorem eo_l {h : xh_H} (n7 : n ≤ 7) (hO : ∀ k, k < n → xg 0 h.2.1 66 k = nI (T k)) (tl : ∀ k, k < n → T k < 7) (hB : ∀ x y, x < 7 → y < 7 → xg 0 h.2.1 63 (7 * x + y) = bl (B x y)) (hq : a_rq a_tb h) : ∀ (j f i : Nat), i + j + 1 = n → xq f xi_X10_endOf xmi_X10_endOf 9 [(0, .ref 39), (1, .int (nI n)), (2, .int (nI (fo B T i))), (3, .int (nI (i + 1)))] [] h (fun v h' => h = h' ∧ v = some (.int (nI (fo B T (n - 1))))) := by
  intro j
  induction j with
  | zero =>
    intro f i ij
    refine xq_n 47 [] [] [.int (nI (fo B T i))] h [true] 60 hq rfl ⟨nge_t (by omega) (by omega) (by omega), trivial⟩ (fun _ => ?_)
    exact xq_ret rfl rfl rfl ⟨rfl, by rw [show n - 1 = i by omega]⟩
  | succ j ih =>
    intro f i ij
    have fl : fo B T i < 7 := fo_lt i (fun k hk' => tl k (by omega))
    have t1 := tl (i + 1) (by omega)
    have a0 : xg 0 h.2.1 66 (nI (i + 1)).toNatClampNeg = nI (T (i + 1)) := by rw [nI_clamp (by omega)]; exact hO _ (by omega)
    have a1 : xg 0 h.2.1 63 (7 * xg 0 h.2.1 66 (nI (i + 1)).toNatClampNeg + nI (fo B T i)).toNatClampNeg = bl (B (T (i + 1)) (fo B T i)) := by
      rw [a0, i7_b, nI_clamp (by omega)]; exact hB _ _ t1 fl
    have e : fo B T (i + 1) = sd B (fo B T i) (T (i + 1)) := rfl
    have r := ih f (i + 1) (by omega)
    rw [e] at r
    unfold sd at r
    cases c : B (T (i + 1)) (fo B T i) with
    | false =>
      rw [c, if_neg (by decide)] at r
      refine xq_n 9 [0, 1, 2, 3] [(0, .ref 39), (1, .int (nI n)), (2, .int (nI (fo B T i))), (3, .int (nI (i + 1) + Int32.ofInt 1))] [] h [false, true] 60 hq rfl ⟨nge_f (by omega) (by omega) (by omega), (show xe_c .eq (xg 0 h.2.1 63 (7 * xg 0 h.2.1 66 (nI (i + 1)).toNatClampNeg + nI (fo B T i)).toNatClampNeg) 0 = true by rw [a1, c]; rfl), trivial⟩ (fun _ => ?_)
      rw [show nI (i + 1) + Int32.ofInt 1 = nI (i + 1 + 1) from nI_1 _]
      exact r
    | true =>
      rw [c, if_pos rfl] at r
      refine xq_n 9 [0, 1, 2, 3] [(0, .ref 39), (1, .int (nI n)), (2, .int (xg 0 h.2.1 66 (nI (i + 1)).toNatClampNeg)), (3, .int (nI (i + 1) + Int32.ofInt 1))] [] h [false, false] 60 hq rfl ⟨nge_f (by omega) (by omega) (by omega), (show xe_c .eq (xg 0 h.2.1 63 (7 * xg 0 h.2.1 66 (nI (i + 1)).toNatClampNeg + nI (fo B T i)).toNatClampNeg) 0 = false by rw [a1, c]; rfl), trivial⟩ (fun _ => ?_)
      rw [show nI (i + 1) + Int32.ofInt 1 = nI (i + 1 + 1) from nI_1 _, a0]
      exact r
set_option maxRecDepth 100000 in
set_option maxHeartbeats 4000000 in
theorem eo_q {f : Nat} {h : xh_H} (n1 : 1 ≤ n) (n7 : n ≤ 7) (hO : ∀ k, k < n → xg 0 h.2.1 66 k = nI (T k)) (tl : ∀ k, k < n → T k < 7) (hB : ∀ x y, x < 7 → y < 7 → xg 0 h.2.1 63 (7 * x + y) = bl (B x y)) (hq : a_rq a_tb h) : xq f xi_X10_endOf xmi_X10_endOf 0 [(0, .ref 39), (1, .int (nI n))] [] h (fun v h' => h = h' ∧ v = some (.int (nI (fo B T (n - 1))))) := by
  refine xq_n 9 [0, 1, 2, 3] [(0, .ref 39), (1, .int (nI n)), (2, .int (xg 0 h.2.1 66 0)), (3, .int (Int32.ofInt 1))] [] h [] 60 hq rfl trivial (fun _ => ?_)
  rw [hO 0 (by omega)]
  exact eo_l n7 hO tl hB hq (n - 1) f 0 (by omega)
def S66 (c _k : Nat) : Bool := Nat.beq c 66
set_option maxRecDepth 100000 in
set_option maxHeartbeats 4000000 in
theorem or_l (n1 : 1 ≤ n) (n7 : n ≤ 7) (hT : ∀ k, k < n → T k < 256 ∧ xg 0 hb.2.1 40 k = nI (T k)) (tl : ∀ k, k < n → T k < 7) (hB : ∀ x y, x < 7 → y < 7 → xg 0 hb.2.1 63 (7 * x + y) = bl (B x y)) : ∀ (m f i : Nat) (h : xh_H), i + m = n → a_rq a_tb h → fx S66 fN hb h → (∀ k, k < i → xg 0 h.2.1 66 k = nI (T k)) → xq f xi_X10_leads xmi_X10_leads 40 [(0, .ref 39), (2, .int (nI n)), (3, .int (nI i))] [] h (fun v h' => v = some (.int (nI (fo B T (n - 1))))) := by
  intro m
  induction m with
  | zero =>
    intro f i h im hq ge w
    refine xq_n 65 [] [] [.int (nI n), .ref 39] h [true] 60 hq rfl ⟨nge_t (by omega) (by omega) (by omega), trivial⟩ (fun _ => ?_)
    refine xq_run hq rfl rfl (eo_q n1 n7 (fun k hk' => w k (by omega)) tl (fun x y hx hy => (fx_i ge rfl).trans (hB x y hx hy)) hq) ?_
    rintro v h1 ⟨rfl, rfl⟩
    exact xq_ret rfl rfl rfl rfl
  | succ m ih =>
    intro f i h im hq ge w
    refine xq_n 40 [0, 2, 3] [(0, .ref 39), (2, .int (nI n)), (3, .int (nI i + Int32.ofInt 1))] [] (xh_ui h 66 (nI i).toNatClampNeg (xg 0 h.2.1 40 (nI i).toNatClampNeg)) [false] 60 hq rfl ⟨nge_f (by omega) (by omega) (by omega), trivial⟩ (fun _ => ?_)
    rw [show nI i + Int32.ofInt 1 = nI (i + 1) from nI_1 _, show (nI i).toNatClampNeg = i from nI_clamp (by omega), show xg 0 h.2.1 40 i = nI (T i) from (fx_i ge rfl).trans (hT _ (by omega)).2]
    refine ih f (i + 1) _ (by omega) (a_rq_ui hq) (fx_ui ge rfl) (fun y hy => ?_)
    by_cases z : y = i
    · rw [z, gx_s]
    · exact (gx_k (by omega)).trans (w y (by omega))
end
set_option maxRecDepth 100000 in
set_option maxHeartbeats 4000000 in
theorem ld10_q {f mem sc n : Nat} {T : Nat → Nat} {b : Int32} {FR RW PL : Nat → Int32} {d : Int32} {h : xh_H} (n6 : n ≤ 640) (e2 : xg 0 h.2.1 39 2 = nI n) (hT : ∀ k, k < n → T k < 256 ∧ xg 0 h.2.1 40 k = nI (T k)) (m12 : mem ≤ 12) (e4 : xg 0 h.2.1 39 4 = nI mem) (e33 : xg 0 h.2.1 39 33 = nI sc) (sc8 : sc ≤ 8) (e3 : xg 0 h.2.1 39 3 = d) (hF : ∀ k, k < sc → xg 0 h.2.1 51 k = FR k) (hTd : ∀ k, k < sc → (xg 0 h.2.1 52 k).toInt ≤ 999) (hR : ∀ k s, k < sc → s < 2 ^ mem → ∃ b : Bool, RW (4096 * k + s) = bl b ∧ xg 0 h.2.1 44 (4096 * k + s) = bl b) (hP : ∀ k, k < 84 → xg 0 h.2.1 62 k = PL k) (hq : a_rq a_tb h) : xq f xi_X10_leads xmi_X10_leads 0 [(0, .ref 39), (1, .int b)] [] h (fun v h' => v = some (.int (ldA (BT PL (cvB FR RW mem sc d) mem) T n b))) := by
  unfold ldA
  refine xq_n 6 [0, 1] [(0, .ref 39), (1, .int b)] [.ref 39] (xh_ui h 39 0 (Int32.ofInt 0)) [] 60 hq rfl trivial (fun _ => ?_)
  have hq : a_rq a_tb (xh_ui h 39 0 (Int32.ofInt 0)) := a_rq_ui hq
  refine xq_run hq rfl rfl (take_q hq) ?_
  rintro v h1 ⟨rfl, rfl⟩
  rw [show xg 0 (xh_ui h 39 0 (Int32.ofInt 0)).2.1 39 2 = nI n from (gx_k (by decide)).trans e2]
  generalize hh : xh_ui (xh_ui h 39 0 (Int32.ofInt 0)) 39 2 (Int32.ofInt 0) = h1
  have hq : a_rq a_tb h1 := by rw [← hh]; exact a_rq_ui hq
  have hk : ∀ c k, (c = 39 → k ≠ 0 ∧ k ≠ 2) → xg 0 h1.2.1 c k = xg 0 h.2.1 c k := fun c k z => by
    rw [← hh]
    by_cases y : c = 39
    · subst y
      obtain ⟨z1, z2⟩ := z rfl
      exact (gx_k (by omega)).trans (gx_k (by omega))
    · exact (gx_o (by omega)).trans (gx_o (by omega))
  refine xq_n 14 [0, 1, 2] [(0, .ref 39), (1, .int b), (2, .int (nI n))] [.int 7, .int (Int32.ofInt 1), .int (nI n)] h1 [] 60 hq rfl trivial (fun _ => ?_)
  refine xq_run hq rfl rfl (isIn_q hq) ?_
  rintro v h2 ⟨rfl, rfl⟩
  rw [show decide ((Int32.ofInt 1).toInt ≤ (nI n).toInt ∧ (nI n).toInt ≤ (7 : Int32).toInt) = decide (1 ≤ n ∧ n ≤ 7) by rw [nI_toInt (by omega)]; refine decide_eq_decide.mpr ?_; show ((1 : Int) ≤ _ ∧ _ ≤ (7 : Int)) ↔ _; omega]
  cases c1 : decide (1 ≤ n ∧ n ≤ 7) with
  | false =>
    refine xq_n 29 [] [] [.int (Int32.ofInt (-1))] h1 [true] 60 hq rfl ⟨rfl, trivial⟩ (fun _ => ?_)
    exact xq_ret rfl rfl rfl rfl
  | true =>
    have c1 := of_decide_eq_true c1
    refine xq_n 22 [0, 1, 2] [(0, .ref 39), (1, .int b), (2, .int (nI n))] [.int (nI n), .ref 39] h1 [false] 60 hq rfl ⟨rfl, trivial⟩ (fun _ => ?_)
    have hT1 : ∀ k, k < n → T k < 256 ∧ xg 0 h1.2.1 40 k = nI (T k) := fun k hk' => ⟨(hT k hk').1, (hk 40 k (fun z => absurd z (by decide))).trans (hT k hk').2⟩
    refine xq_run hq rfl rfl (are_q n6 hT1 hq) ?_
    rintro v h2 ⟨rfl, rfl⟩
    cases c2 : ro T n 0 (Int32.ofInt 0) with
    | false =>
      refine xq_n 29 [] [] [.int (Int32.ofInt (-1))] h1 [false] 60 hq rfl ⟨rfl, trivial⟩ (fun _ => ?_)
      exact xq_ret rfl rfl rfl rfl
    | true =>
      obtain ⟨tl, -⟩ := ro_t c2
      refine xq_n 31 [0, 1, 2] [(0, .ref 39), (1, .int b), (2, .int (nI n))] [.ref 39] h1 [true] 60 hq rfl ⟨rfl, trivial⟩ (fun _ => ?_)
      refine xq_run hq rfl rfl (lop_q (FR := FR) (RW := RW) (PL := PL) (d := d) m12 ((hk 39 4 (fun _ => by decide)).trans e4) ((hk 39 33 (fun _ => by decide)).trans e33) sc8 ((hk 39 3 (fun _ => by decide)).trans e3) (fun k hk' => (hk 51 k (fun z => absurd z (by decide))).trans (hF k hk')) (fun k hk' => by rw [hk 52 k (fun z => absurd z (by decide))]; exact hTd k hk') (fun k s h1 h2 => by obtain ⟨b, b1, b2⟩ := hR k s h1 h2; exact ⟨b, b1, (hk 44 _ (fun z => absurd z (by decide))).trans b2⟩) (fun k hk' => (hk 62 k (fun z => absurd z (by decide))).trans (hP k hk')) hq) ?_
      rintro v h2 ⟨rfl, g1, w53, w63, w64⟩
      have hq := fx_q g1 hq
      have hT2 : ∀ k, k < n → T k < 256 ∧ xg 0 h2.2.1 40 k = nI (T k) := fun k hk' => ⟨(hT k hk').1, (fx_i g1 rfl).trans (hT1 k hk').2⟩
      cases c3 : xe_c .eq b 0 with
      | true =>
        refine xq_n 40 [0, 2, 3] [(0, .ref 39), (2, .int (nI n)), (3, .int (Int32.ofInt 0))] [] h2 [false] 60 hq rfl ⟨(show (!xe_c .eq b 0) = false by rw [c3]; rfl), trivial⟩ (fun _ => ?_)
        exact or_l c1.1 c1.2 hT2 tl w63 n f 0 h2 (by omega) hq fx_0 (fun k hk' => absurd hk' (Nat.not_lt_zero k))
      | false =>
        refine xq_n 71 [0, 2, 3] [(0, .ref 39), (2, .int (nI n)), (3, .int (Int32.ofInt 0))] [] h2 [true] 60 hq rfl ⟨(show (!xe_c .eq b 0) = true by rw [c3]; rfl), trivial⟩ (fun _ => ?_)
        exact tn_0 c1.1 c1.2 hT2 tl w63 7 f 0 h2 (by omega) hq fx_0 (fun k hk' => absurd hk' (Nat.not_lt_zero k))
end XLE
end
section
section XPW
/-- what Powers looks at: the statute q with its row r, of m members, carries as W -/
def LA (W : Nat → Bool) (m q r : Nat) (h : xh_H) : Prop := xg none h.2.2.2 14 6 = some q ∧ h.1[q]? = some (0, 7) ∧ xg none h.2.2.2 q 1 = some r ∧ h.1[r]? = some (4, 64) ∧ xg 0 h.2.1 14 7 = nI m ∧ xg 0 h.2.1 14 8 = nI (2 ^ m - 1) ∧ ∀ s, s < 2 ^ m → hv h r s = W s
theorem hv_ee {h h' : xh_H} {r s : Nat} (e : ∀ k, xg 0 h'.2.2.1 r k = xg 0 h.2.2.1 r k) : hv h' r s = hv h r s := by rw [hv_lb, hv_lb, e]
theorem LA_f {W : Nat → Bool} {m q r : Nat} {S : Nat → Nat → Bool} {h h' : xh_H} (A : LA W m q r h) (g : fx S fN h h') (e7 : S 14 7 = false) (e8 : S 14 8 = false) : LA W m q r h' := by
  obtain ⟨a1, a2, a3, a4, a5, a6, a7⟩ := A
  refine ⟨by rw [g.2.1]; exact a1, by rw [g.1]; exact a2, by rw [g.2.1]; exact a3, by rw [g.1]; exact a4, (fx_i g e7).trans a5, (fx_i g e8).trans a6, fun s hs => (hv_ee (fun k => g.2.2.2 r k rfl)).trans (a7 s hs)⟩
theorem nI_1' {k : Nat} : nI k + Int32.ofInt 1 = nI (k + 1) := nI_1 k
/-- how many below n -/
def cnt (P : Nat → Bool) : Nat → Nat
  | 0 => 0
  | n + 1 => if P n = true then cnt P n + 1 else cnt P n
theorem cnt_t {P : Nat → Bool} {n : Nat} (h : P n = true) : cnt P (n + 1) = cnt P n + 1 := if_pos h
theorem cnt_f {P : Nat → Bool} {n : Nat} (h : P n = false) : cnt P (n + 1) = cnt P n := if_neg (by rw [h]; decide)
theorem cnt_le {P : Nat → Bool} : ∀ n, cnt P n ≤ n := by
  intro n
  induction n with
  | zero => exact Nat.le_refl _
  | succ n ih => unfold cnt; split <;> omega
theorem cnt_c {P P' : Nat → Bool} : ∀ n, (∀ k, k < n → P k = P' k) → cnt P n = cnt P' n := by
  intro n
  induction n with
  | zero => intro _; rfl
  | succ n ih => intro h; unfold cnt; rw [h n (by omega), ih (fun k hk' => h k (by omega))]
/-- all below n -/
def aln (P : Nat → Bool) : Nat → Bool
  | 0 => true
  | n + 1 => aln P n && P n
theorem aln_f {P : Nat → Bool} {k : Nat} (h : P k = false) : ∀ n, k < n → aln P n = false := by
  intro n
  induction n with
  | zero => intro h; omega
  | succ n ih =>
    intro hk'
    show (aln P n && P n) = false
    by_cases z : k = n
    · rw [← z, h]; exact Bool.and_false _
    · rw [ih (by omega)]; rfl
theorem aln_s {P : Nat → Bool} {n : Nat} (h : aln P n = true) (hp : P n = true) : aln P (n + 1) = true := by show (aln P n && P n) = true; rw [h, hp]; rfl
theorem aln_c {P P' : Nat → Bool} : ∀ n, (∀ k, k < n → P k = P' k) → aln P n = aln P' n := by
  intro n
  induction n with
  | zero => intro _; rfl
  | succ n ih => intro h; show (aln P n && P n) = (aln P' n && P' n); rw [h n (by omega), ih (fun k hk' => h k (by omega))]
/-- a turns the set -/
def tw (W : Nat → Bool) (a s : Nat) : Bool := !s.testBit a && (!W s && W (s ||| 2 ^ a))
/-- a and b turn it together -/
def tg (W : Nat → Bool) (a b s : Nat) : Bool := (!s.testBit a && !s.testBit b) && (W ((s ||| 2 ^ a) ||| 2 ^ b) && (!W (s ||| 2 ^ a) && !W (s ||| 2 ^ b)))
/-- with a it does no less than with b -/
def gp (W : Nat → Bool) (a b s : Nat) : Bool := !((!s.testBit a && !s.testBit b) && (W (s ||| 2 ^ b) && !W (s ||| 2 ^ a)))
theorem or_p {s a m : Nat} (hs : s < 2 ^ m) (ha : a < m) : s ||| 2 ^ a < 2 ^ m := Nat.or_lt_two_pow hs (Nat.pow_lt_pow_right (by decide) ha)
theorem and2 {s a b : Nat} (ha : a ≤ 11) (hb : b ≤ 11) (hs : s < 4096) : xe_c .ne (nI s &&& (((Int32.ofInt 1) <<< (nI a &&& 31)) ||| ((Int32.ofInt 1) <<< (nI b &&& 31)))) 0 = !(!s.testBit a && !s.testBit b) := by
  have pa : 2 ^ a ≤ 2048 := show 2 ^ a ≤ 2 ^ 11 from Nat.pow_le_pow_right (by decide) ha
  have pb : 2 ^ b ≤ 2048 := show 2 ^ b ≤ 2 ^ 11 from Nat.pow_le_pow_right (by decide) hb
  rw [sh1 a (by omega), sh1 b (by omega), nI_or, nI_and]
  have lt : s &&& (2 ^ a ||| 2 ^ b) < 2 ^ 31 := Nat.lt_of_le_of_lt Nat.and_le_left (by omega)
  cases c : (!s.testBit a && !s.testBit b) with
  | true =>
    rw [Bool.and_eq_true, Bool.not_eq_true', Bool.not_eq_true'] at c
    have e : s &&& (2 ^ a ||| 2 ^ b) = 0 := by
      refine Nat.eq_of_testBit_eq (fun i => ?_)
      rw [Nat.testBit_and, Nat.testBit_or, Nat.testBit_two_pow, Nat.testBit_two_pow, Nat.zero_testBit]
      by_cases z : a = i
      · rw [← z, c.1, Bool.false_and]
      · by_cases y : b = i
        · rw [← y, c.2, Bool.false_and]
        · rw [decide_eq_false z, decide_eq_false y, Bool.or_false, Bool.and_false]
    rw [e]
    rfl
  | false =>
    show xe_c .ne _ 0 = true
    cases z : xe_c .ne (nI (s &&& (2 ^ a ||| 2 ^ b))) 0 with
    | true => rfl
    | false =>
      have e : s &&& (2 ^ a ||| 2 ^ b) = 0 := nq_nef (b := 0) lt (by decide) z
      have ta := congrArg (fun n => Nat.testBit n a) e
      have tb := congrArg (fun n => Nat.testBit n b) e
      simp only [Nat.testBit_and, Nat.testBit_or, Nat.testBit_two_pow_self, Nat.zero_testBit, Bool.true_or, Bool.or_true, Bool.and_true] at ta tb
      rw [ta, tb] at c
      exact absurd c (by decide)
section
variable {W : Nat → Bool} {m q r : Nat} {h : xh_H}
theorem hl_q {f s : Nat} (A : LA W m q r h) (m12 : m ≤ 12) (hs : s < 2 ^ m) (hq : a_rq a_tb h) : xq f xi_X7_holds xmi_X7_holds 0 [(0, .ref q), (1, .int (nI s))] [] h (fun v h' => h = h' ∧ v = some (.int (bl (W s)))) := by
  have p12 : 2 ^ m ≤ 4096 := show 2 ^ m ≤ 2 ^ 12 from Nat.pow_le_pow_right (by decide) m12
  refine xq_mono (xq_of (d := 0) ⟨_, rfl⟩ (ho_run hq A.2.1 A.2.2.1 A.2.2.2.1 (by omega))) (fun v h' e => ⟨e.1, ?_⟩)
  rw [e.2, A.2.2.2.2.2.2 s hs]
  rfl
theorem gtf {s : Nat} (A : LA W m q r h) (m12 : m ≤ 12) (hs : s < 2 ^ m) : xe_c .gt (nI s) (xg 0 h.2.1 14 8) = false := by
  have p12 : 2 ^ m ≤ 4096 := show 2 ^ m ≤ 2 ^ 12 from Nat.pow_le_pow_right (by decide) m12
  rw [A.2.2.2.2.2.1]
  exact xgt_f (by rw [nI_toInt (by omega), nI_toInt (by omega)]; omega)
theorem gtt (A : LA W m q r h) (m12 : m ≤ 12) : xe_c .gt (nI (2 ^ m)) (xg 0 h.2.1 14 8) = true := by
  have p12 : 2 ^ m ≤ 4096 := show 2 ^ m ≤ 2 ^ 12 from Nat.pow_le_pow_right (by decide) m12
  have p0 := Nat.two_pow_pos m
  rw [A.2.2.2.2.2.1]
  exact xgt_t (by rw [nI_toInt (by omega), nI_toInt (by omega)]; omega)
set_option maxRecDepth 100000 in
set_option maxHeartbeats 4000000 in
/-- Powers.turnsBy -/
theorem tb_q {f s a : Nat} (A : LA W m q r h) (m12 : m ≤ 12) (hs : s < 2 ^ m) (ha : a < m) (hq : a_rq a_tb h) : xq f xi_X2_turnsBy xmi_X2_turnsBy 0 [(0, .ref 14), (1, .int (nI s)), (2, .int (nI a))] [] h (fun v h' => h = h' ∧ v = some (.int (bl (tw W a s)))) := by
  have p12 : 2 ^ m ≤ 4096 := show 2 ^ m ≤ 2 ^ 12 from Nat.pow_le_pow_right (by decide) m12
  have e0 : (nI s >>> (nI a &&& 31)) &&& Int32.ofInt 1 = nI ((s.testBit a).toNat) := nI_b0 (by omega) (by omega)
  unfold tw
  cases c1 : s.testBit a with
  | true =>
    refine xq_n 39 [] [] [.int (Int32.ofInt 0)] h [true] 60 hq rfl ⟨(show xe_c .ne ((nI s >>> (nI a &&& 31)) &&& Int32.ofInt 1) 0 = true by rw [e0, c1]; rfl), trivial⟩ (fun _ => ?_)
    exact xq_ret rfl rfl rfl ⟨rfl, rfl⟩
  | false =>
    refine xq_n 13 [0, 1, 2] [(0, .ref 14), (1, .int (nI s)), (2, .int (nI a))] [.int (nI s), va_rf (xg none h.2.2.2 14 6)] h [false] 60 hq rfl ⟨(show xe_c .ne ((nI s >>> (nI a &&& 31)) &&& Int32.ofInt 1) 0 = false by rw [e0, c1]; rfl), trivial⟩ (fun _ => ?_)
    rw [A.1]
    refine xq_cr (As := [.ref q, .int (nI (s))]) (mj := xmi_X7_holds) (q := []) rfl rfl (fun _ _ => rfl) (xa_cs_ok (d := 0) (pc := 0) (lv := []) (nL := 0) A.2.1 rfl).1 (fun f => hl_q A m12 (hs) hq) ?_
    rintro v h1 ⟨rfl, rfl⟩
    cases c2 : W s with
    | true =>
      refine xq_n 39 [] [] [.int (Int32.ofInt 0)] h [true] 60 hq rfl ⟨rfl, trivial⟩ (fun _ => ?_)
      exact xq_ret rfl rfl rfl ⟨rfl, rfl⟩
    | false =>
      refine xq_n 28 [] [] [.int (nI s ||| (Int32.ofInt 1 <<< (nI a &&& 31))), va_rf (xg none h.2.2.2 14 6)] h [false] 60 hq rfl ⟨rfl, trivial⟩ (fun _ => ?_)
      rw [A.1, nI_o1 (by omega)]
      refine xq_cr (As := [.ref q, .int (nI (s ||| 2 ^ a))]) (mj := xmi_X7_holds) (q := []) rfl rfl (fun _ _ => rfl) (xa_cs_ok (d := 0) (pc := 0) (lv := []) (nL := 0) A.2.1 rfl).1 (fun f => hl_q A m12 (or_p hs ha) hq) ?_
      rintro v h1 ⟨rfl, rfl⟩
      cases c3 : W (s ||| 2 ^ a) with
      | true =>
        refine xq_n 39 [] [] [.int (Int32.ofInt 1)] h [false] 60 hq rfl ⟨rfl, trivial⟩ (fun _ => ?_)
        exact xq_ret rfl rfl rfl ⟨rfl, rfl⟩
      | false =>
        refine xq_n 39 [] [] [.int (Int32.ofInt 0)] h [true] 60 hq rfl ⟨rfl, trivial⟩ (fun _ => ?_)
        exact xq_ret rfl rfl rfl ⟨rfl, rfl⟩
set_option maxRecDepth 100000 in
set_option maxHeartbeats 4000000 in
/-- Powers.countSwings -/
theorem csw_l {a : Nat} (A : LA W m q r h) (m12 : m ≤ 12) (ha : a < m) (hq : a_rq a_tb h) : ∀ (n f s : Nat), s + n = 2 ^ m → xq f xi_X2_countSwings xmi_X2_countSwings 4 [(0, .ref 14), (1, .int (nI a)), (2, .int (nI (cnt (tw W a) s))), (3, .int (nI s))] [] h (fun v h' => h = h' ∧ v = some (.int (nI (cnt (tw W a) (2 ^ m))))) := by
  intro n
  induction n with
  | zero =>
    intro f s sn
    have e : s = 2 ^ m := by omega
    subst e
    refine xq_n 31 [] [] [.int (nI (cnt (tw W a) (2 ^ m)))] h [true] 60 hq rfl ⟨gtt A m12, trivial⟩ (fun _ => ?_)
    exact xq_ret rfl rfl rfl ⟨rfl, rfl⟩
  | succ n ih =>
    intro f s sn
    refine xq_n 15 [0, 1, 2, 3] [(0, .ref 14), (1, .int (nI a)), (2, .int (nI (cnt (tw W a) s))), (3, .int (nI s))] [.int (nI a), .int (nI s), .ref 14] h [false] 60 hq rfl ⟨gtf A m12 (by omega), trivial⟩ (fun _ => ?_)
    refine xq_run hq rfl rfl (tb_q A m12 (by omega) ha hq) ?_
    rintro v h1 ⟨rfl, rfl⟩
    have r := ih f (s + 1) (by omega)
    cases c : tw W a s with
    | true =>
      rw [cnt_t c] at r
      refine xq_n 4 [0, 1, 2, 3] [(0, .ref 14), (1, .int (nI a)), (2, .int (nI (cnt (tw W a) s) + Int32.ofInt 1)), (3, .int (nI s + Int32.ofInt 1))] [] h [false] 60 hq rfl ⟨rfl, trivial⟩ (fun _ => ?_)
      rw [nI_1', nI_1']
      exact r
    | false =>
      rw [cnt_f c] at r
      refine xq_n 4 [0, 1, 2, 3] [(0, .ref 14), (1, .int (nI a)), (2, .int (nI (cnt (tw W a) s))), (3, .int (nI s + Int32.ofInt 1))] [] h [true] 60 hq rfl ⟨rfl, trivial⟩ (fun _ => ?_)
      rw [nI_1']
      exact r
theorem csw_q {f a : Nat} (A : LA W m q r h) (m12 : m ≤ 12) (ha : a < m) (hq : a_rq a_tb h) : xq f xi_X2_countSwings xmi_X2_countSwings 0 [(0, .ref 14), (1, .int (nI a))] [] h (fun v h' => h = h' ∧ v = some (.int (nI (cnt (tw W a) (2 ^ m))))) := by
  refine xq_n 4 [0, 1, 2, 3] [(0, .ref 14), (1, .int (nI a)), (2, .int (Int32.ofInt 0)), (3, .int (Int32.ofInt 0))] [] h [] 60 hq rfl trivial (fun _ => ?_)
  exact csw_l A m12 ha hq (2 ^ m) f 0 (by omega)
set_option maxRecDepth 100000 in
set_option maxHeartbeats 4000000 in
/-- Powers.countTogether -/
theorem ctg_l {a b : Nat} (A : LA W m q r h) (m12 : m ≤ 12) (ha : a < m) (hb : b < m) (hq : a_rq a_tb h) : ∀ (n f s : Nat), s + n = 2 ^ m → xq f xi_X2_countTogether xmi_X2_countTogether 14 [(0, .ref 14), (1, .int (nI a)), (2, .int (nI b)), (3, .int (((Int32.ofInt 1) <<< (nI a &&& 31)) ||| ((Int32.ofInt 1) <<< (nI b &&& 31)))), (4, .int (nI (cnt (tg W a b) s))), (5, .int (nI s))] [] h (fun v h' => h = h' ∧ v = some (.int (nI (cnt (tg W a b) (2 ^ m))))) := by
  have p12 : 2 ^ m ≤ 4096 := show 2 ^ m ≤ 2 ^ 12 from Nat.pow_le_pow_right (by decide) m12
  intro n
  induction n with
  | zero =>
    intro f s sn
    have e : s = 2 ^ m := by omega
    subst e
    refine xq_n 87 [] [] [.int (nI (cnt (tg W a b) (2 ^ m)))] h [true] 60 hq rfl ⟨gtt A m12, trivial⟩ (fun _ => ?_)
    exact xq_ret rfl rfl rfl ⟨rfl, rfl⟩
  | succ n ih =>
    intro f s sn
    have r := ih f (s + 1) (by omega)
    have hs : s < 2 ^ m := by omega
    have g2 := and2 (s := s) (a := a) (b := b) (by omega) (by omega) (by omega)
    cases c1 : (!s.testBit a && !s.testBit b) with
    | false =>
      have z : tg W a b s = false := by unfold tg; rw [c1]; rfl
      rw [c1] at g2
      rw [cnt_f z] at r
      refine xq_n 14 [0, 1, 2, 3, 4, 5] [(0, .ref 14), (1, .int (nI a)), (2, .int (nI b)), (3, .int (((Int32.ofInt 1) <<< (nI a &&& 31)) ||| ((Int32.ofInt 1) <<< (nI b &&& 31)))), (4, .int (nI (cnt (tg W a b) s))), (5, .int (nI s + Int32.ofInt 1))] [] h [false, true] 60 hq rfl ⟨gtf A m12 hs, g2, trivial⟩ (fun _ => ?_)
      rw [nI_1']
      exact r
    | true =>
      rw [c1] at g2
      refine xq_n 38 [0, 1, 2, 3, 4, 5] [(0, .ref 14), (1, .int (nI a)), (2, .int (nI b)), (3, .int (((Int32.ofInt 1) <<< (nI a &&& 31)) ||| ((Int32.ofInt 1) <<< (nI b &&& 31)))), (4, .int (nI (cnt (tg W a b) s))), (5, .int (nI s))] [.int (nI s ||| (((Int32.ofInt 1) <<< (nI a &&& 31)) ||| ((Int32.ofInt 1) <<< (nI b &&& 31)))), va_rf (xg none h.2.2.2 14 6)] h [false, false] 60 hq rfl ⟨gtf A m12 hs, g2, trivial⟩ (fun _ => ?_)
      rw [A.1, show nI s ||| (((Int32.ofInt 1) <<< (nI a &&& 31)) ||| ((Int32.ofInt 1) <<< (nI b &&& 31))) = nI ((s ||| 2 ^ a) ||| 2 ^ b) by rw [sh1 a (by omega), sh1 b (by omega), nI_or, nI_or, Nat.or_assoc]]
      refine xq_cr (As := [.ref q, .int (nI ((s ||| 2 ^ a) ||| 2 ^ b))]) (mj := xmi_X7_holds) (q := []) rfl rfl (fun _ _ => rfl) (xa_cs_ok (d := 0) (pc := 0) (lv := []) (nL := 0) A.2.1 rfl).1 (fun f => hl_q A m12 (or_p (or_p hs ha) hb) hq) ?_
      rintro v h1 ⟨rfl, rfl⟩
      cases c2 : W ((s ||| 2 ^ a) ||| 2 ^ b) with
      | false =>
        have z : tg W a b s = false := by unfold tg; rw [c1, c2]; rfl
        rw [cnt_f z] at r
        refine xq_n 14 [0, 1, 2, 3, 4, 5] [(0, .ref 14), (1, .int (nI a)), (2, .int (nI b)), (3, .int (((Int32.ofInt 1) <<< (nI a &&& 31)) ||| ((Int32.ofInt 1) <<< (nI b &&& 31)))), (4, .int (nI (cnt (tg W a b) s))), (5, .int (nI s + Int32.ofInt 1))] [] h [true] 60 hq rfl ⟨rfl, trivial⟩ (fun _ => ?_)
        rw [nI_1']
        exact r
      | true =>
        refine xq_n 54 [0, 1, 2, 3, 4, 5] [(0, .ref 14), (1, .int (nI a)), (2, .int (nI b)), (3, .int (((Int32.ofInt 1) <<< (nI a &&& 31)) ||| ((Int32.ofInt 1) <<< (nI b &&& 31)))), (4, .int (nI (cnt (tg W a b) s))), (5, .int (nI s))] [.int (nI s ||| (Int32.ofInt 1 <<< (nI a &&& 31))), va_rf (xg none h.2.2.2 14 6)] h [false] 60 hq rfl ⟨rfl, trivial⟩ (fun _ => ?_)
        rw [A.1, show nI s ||| (Int32.ofInt 1 <<< (nI a &&& 31)) = nI (s ||| 2 ^ a) from nI_o1 (by omega)]
        refine xq_cr (As := [.ref q, .int (nI (s ||| 2 ^ a))]) (mj := xmi_X7_holds) (q := []) rfl rfl (fun _ _ => rfl) (xa_cs_ok (d := 0) (pc := 0) (lv := []) (nL := 0) A.2.1 rfl).1 (fun f => hl_q A m12 (or_p hs ha) hq) ?_
        rintro v h1 ⟨rfl, rfl⟩
        cases c3 : W (s ||| 2 ^ a) with
        | true =>
          have z : tg W a b s = false := by unfold tg; rw [c1, c2, c3]; rfl
          rw [cnt_f z] at r
          refine xq_n 14 [0, 1, 2, 3, 4, 5] [(0, .ref 14), (1, .int (nI a)), (2, .int (nI b)), (3, .int (((Int32.ofInt 1) <<< (nI a &&& 31)) ||| ((Int32.ofInt 1) <<< (nI b &&& 31)))), (4, .int (nI (cnt (tg W a b) s))), (5, .int (nI s + Int32.ofInt 1))] [] h [true] 60 hq rfl ⟨rfl, trivial⟩ (fun _ => ?_)
          rw [nI_1']
          exact r
        | false =>
          refine xq_n 70 [0, 1, 2, 3, 4, 5] [(0, .ref 14), (1, .int (nI a)), (2, .int (nI b)), (3, .int (((Int32.ofInt 1) <<< (nI a &&& 31)) ||| ((Int32.ofInt 1) <<< (nI b &&& 31)))), (4, .int (nI (cnt (tg W a b) s))), (5, .int (nI s))] [.int (nI s ||| (Int32.ofInt 1 <<< (nI b &&& 31))), va_rf (xg none h.2.2.2 14 6)] h [false] 60 hq rfl ⟨rfl, trivial⟩ (fun _ => ?_)
          rw [A.1, show nI s ||| (Int32.ofInt 1 <<< (nI b &&& 31)) = nI (s ||| 2 ^ b) from nI_o1 (by omega)]
          refine xq_cr (As := [.ref q, .int (nI (s ||| 2 ^ b))]) (mj := xmi_X7_holds) (q := []) rfl rfl (fun _ _ => rfl) (xa_cs_ok (d := 0) (pc := 0) (lv := []) (nL := 0) A.2.1 rfl).1 (fun f => hl_q A m12 (or_p hs hb) hq) ?_
          rintro v h1 ⟨rfl, rfl⟩
          cases c4 : W (s ||| 2 ^ b) with
          | true =>
            have z : tg W a b s = false := by unfold tg; rw [c1, c2, c3, c4]; rfl
            rw [cnt_f z] at r
            refine xq_n 14 [0, 1, 2, 3, 4, 5] [(0, .ref 14), (1, .int (nI a)), (2, .int (nI b)), (3, .int (((Int32.ofInt 1) <<< (nI a &&& 31)) ||| ((Int32.ofInt 1) <<< (nI b &&& 31)))), (4, .int (nI (cnt (tg W a b) s))), (5, .int (nI s + Int32.ofInt 1))] [] h [true] 60 hq rfl ⟨rfl, trivial⟩ (fun _ => ?_)
            rw [nI_1']
            exact r
          | false =>
            have z : tg W a b s = true := by unfold tg; rw [c1, c2, c3, c4]; rfl
            rw [cnt_t z] at r
            refine xq_n 14 [0, 1, 2, 3, 4, 5] [(0, .ref 14), (1, .int (nI a)), (2, .int (nI b)), (3, .int (((Int32.ofInt 1) <<< (nI a &&& 31)) ||| ((Int32.ofInt 1) <<< (nI b &&& 31)))), (4, .int (nI (cnt (tg W a b) s) + Int32.ofInt 1)), (5, .int (nI s + Int32.ofInt 1))] [] h [false] 60 hq rfl ⟨rfl, trivial⟩ (fun _ => ?_)
            rw [nI_1', nI_1']
            exact r
theorem ctg_q {f a b : Nat} (A : LA W m q r h) (m12 : m ≤ 12) (ha : a < m) (hb : b < m) (hq : a_rq a_tb h) : xq f xi_X2_countTogether xmi_X2_countTogether 0 [(0, .ref 14), (1, .int (nI a)), (2, .int (nI b))] [] h (fun v h' => h = h' ∧ v = some (.int (nI (cnt (tg W a b) (2 ^ m))))) := by
  refine xq_n 14 [0, 1, 2, 3, 4, 5] [(0, .ref 14), (1, .int (nI a)), (2, .int (nI b)), (3, .int (((Int32.ofInt 1) <<< (nI a &&& 31)) ||| ((Int32.ofInt 1) <<< (nI b &&& 31)))), (4, .int (Int32.ofInt 0)), (5, .int (Int32.ofInt 0))] [] h [] 60 hq rfl trivial (fun _ => ?_)
  exact ctg_l A m12 ha hb hq (2 ^ m) f 0 (by omega)
/-- the best ally so far, and how often -/
def alf (F : Nat → Nat) (a : Nat) : Nat → Int32 × Int32
  | 0 => (Int32.ofInt (-1), Int32.ofInt (-1))
  | n + 1 => if n = a then alf F a n else cond (xe_c .gt (nI (F n)) (alf F a n).2) (nI n, nI (F n)) (alf F a n)
theorem alf_lo {F : Nat → Nat} {a : Nat} : ∀ n, (∀ k, F k < 2 ^ 31) → (-1 : Int) ≤ (alf F a n).2.toInt := by
  intro n
  induction n with
  | zero => intro _; exact Int.le_refl _
  | succ n ih =>
    intro hF
    unfold alf
    split
    · exact ih hF
    · cases xe_c .gt (nI (F n)) (alf F a n).2 with
      | true => show (-1 : Int) ≤ (nI (F n)).toInt; rw [nI_toInt (hF n)]; omega
      | false => exact ih hF
theorem le_gt {x y : Int32} : xe_c .le x y = !xe_c .gt x y := by
  rcases Int.lt_or_le y.toInt x.toInt with z | z
  · rw [xle_f z, xgt_t z]; rfl
  · rw [xle_t z, xgt_f z]; rfl
theorem alf_s {F : Nat → Nat} {a n : Nat} : alf F a (n + 1) = if n = a then alf F a n else cond (xe_c .gt (nI (F n)) (alf F a n).2) (nI n, nI (F n)) (alf F a n) := rfl
theorem nne_t {a b : Nat} (ha : a < 2 ^ 31) (hb : b < 2 ^ 31) (z : a ≠ b) : xe_c .ne (nI a) (nI b) = true := by
  cases y : xe_c .ne (nI a) (nI b) with
  | true => rfl
  | false => exact absurd (nq_nef ha hb y) z
theorem nne_f {a b : Nat} (ha : a < 2 ^ 31) (hb : b < 2 ^ 31) (z : a = b) : xe_c .ne (nI a) (nI b) = false := by
  cases y : xe_c .ne (nI a) (nI b) with
  | false => rfl
  | true => exact absurd z (nq_net ha hb y)
set_option maxRecDepth 100000 in
set_option maxHeartbeats 4000000 in
/-- Powers.allyOf -/
theorem alo_l {a : Nat} {F : Nat → Nat} (hF : F = fun b => cnt (tg W a b) (2 ^ m)) (A : LA W m q r h) (m12 : m ≤ 12) (ha : a < m) (hq : a_rq a_tb h) : ∀ (j f n : Nat), n + j = m → xq f xi_X2_allyOf xmi_X2_allyOf 7 [(0, .ref 14), (1, .int (nI a)), (2, .int (alf F a n).1), (3, .int (alf F a n).2), (4, .int (nI n))] [] h (fun v h' => h = h' ∧ v = some (.int (alf F a m).1)) := by
  have p12 : 2 ^ m ≤ 4096 := show 2 ^ m ≤ 2 ^ 12 from Nat.pow_le_pow_right (by decide) m12
  have lo := fun n => alf_lo (F := F) (a := a) n (fun k => by rw [hF]; exact Nat.lt_of_le_of_lt (cnt_le _) (by omega))
  intro j
  induction j with
  | zero =>
    intro f n nj
    have e : n = m := by omega
    subst e
    refine xq_n 54 [] [] [.int (alf F a n).1] h [true] 60 hq rfl ⟨(show xe_c .ge (nI n) (xg 0 h.2.1 14 7) = true by rw [A.2.2.2.2.1]; exact nge_t (by omega) (by omega) (Nat.le_refl _)), trivial⟩ (fun _ => ?_)
    exact xq_ret rfl rfl rfl ⟨rfl, rfl⟩
  | succ j ih =>
    intro f n nj
    have c0 : xe_c .ge (nI n) (xg 0 h.2.1 14 7) = false := by rw [A.2.2.2.2.1]; exact nge_f (by omega) (by omega) (by omega)
    have r := ih f (n + 1) (by omega)
    rw [alf_s] at r
    by_cases z : n = a
    · rw [if_pos z] at r
      refine xq_n 7 [0, 1, 2, 3, 4] [(0, .ref 14), (1, .int (nI a)), (2, .int (alf F a n).1), (3, .int (alf F a n).2), (4, .int (nI n + Int32.ofInt 1))] [] h [false, false, true] 60 hq rfl ⟨c0, nne_f (by omega) (by omega) z, xle_t (lo n), trivial⟩ (fun _ => ?_)
      rw [nI_1']
      exact r
    · rw [if_neg z] at r
      refine xq_n 30 [0, 1, 2, 3, 4] [(0, .ref 14), (1, .int (nI a)), (2, .int (alf F a n).1), (3, .int (alf F a n).2), (4, .int (nI n))] [.int (nI n), .int (nI a), .ref 14] h [false, true] 60 hq rfl ⟨c0, nne_t (by omega) (by omega) z, trivial⟩ (fun _ => ?_)
      refine xq_run hq rfl rfl (ctg_q A m12 ha (by omega) hq) ?_
      rintro v h1 ⟨rfl, rfl⟩
      have eF : cnt (tg W a n) (2 ^ m) = F n := by rw [hF]
      rw [eF]
      cases c : xe_c .gt (nI (F n)) (alf F a n).2 with
      | true =>
        rw [c] at r
        refine xq_n 7 [0, 1, 2, 3, 4] [(0, .ref 14), (1, .int (nI a)), (2, .int (nI n)), (3, .int (nI (F n))), (4, .int (nI n + Int32.ofInt 1))] [] h [false] 60 hq rfl ⟨(show xe_c .le (nI (F n)) (alf F a n).2 = false by rw [le_gt, c]; rfl), trivial⟩ (fun _ => ?_)
        rw [nI_1']
        exact r
      | false =>
        rw [c] at r
        refine xq_n 7 [0, 1, 2, 3, 4] [(0, .ref 14), (1, .int (nI a)), (2, .int (alf F a n).1), (3, .int (alf F a n).2), (4, .int (nI n + Int32.ofInt 1))] [] h [true] 60 hq rfl ⟨(show xe_c .le (nI (F n)) (alf F a n).2 = true by rw [le_gt, c]; rfl), trivial⟩ (fun _ => ?_)
        rw [nI_1']
        exact r
theorem alo_q {f a : Nat} (A : LA W m q r h) (m12 : m ≤ 12) (ha : a < m) (hq : a_rq a_tb h) : xq f xi_X2_allyOf xmi_X2_allyOf 0 [(0, .ref 14), (1, .int (nI a))] [] h (fun v h' => h = h' ∧ v = some (.int (alf (fun b => cnt (tg W a b) (2 ^ m)) a m).1)) := by
  refine xq_n 7 [0, 1, 2, 3, 4] [(0, .ref 14), (1, .int (nI a)), (2, .int (Int32.ofInt (-1))), (3, .int (Int32.ofInt (-1))), (4, .int (Int32.ofInt 0))] [] h [] 60 hq rfl trivial (fun _ => ?_)
  exact alo_l rfl A m12 ha hq m f 0 (by omega)
end
end XPW
end
