section XCN
/-- a single step that leaves locals and heap -/
theorem xq_1 {f mid : Nat} {mi : xm_M} {pc : Nat} {lv : List (Nat × Value)} {st : List Value} {h : xh_H} {Q : Option Value → xh_H → Prop} {r : xr_R} {pc1 : Nat} {st1 : List Value} (hr : xC mid pc = some r) (hi : xe_isr r.1 = false) (h2 : ∀ d lw, xe_2 none mi.2.2.2.1 r d pc lw st h 0 0 = some (pc1, lw, st1, h, 0, 0)) (k : xq f mid mi pc1 lv st1 h Q) : xq f mid mi pc lv st h Q := by
  intro d lw v h' c s hs hx
  obtain ⟨g, eg, ⟨o', e2, e3⟩ | ⟨e2, -⟩⟩ := xq_s hr hi hx
  · rw [h2] at e2
    cases e2
    exact k d lw v h' c s hs (xe_x_le (by omega) e3)
  · rw [h2] at e2
    cases e2
/-- what count answers -/
def cnA (x a b c d e : Int32) : Int32 := if x = 0 then a else if x = 1 then b else if x = 2 then c else if x = 3 then d else if x = 4 then e else Int32.ofInt (-1)
theorem cnA_o {x a b c d e : Int32} (hx : x.toInt < 0 ∨ 4 < x.toInt) : cnA x a b c d e = Int32.ofInt (-1) := by
  unfold cnA
  rw [if_neg, if_neg, if_neg, if_neg, if_neg]
  all_goals
    rintro rfl
    revert hx
    decide
theorem cn_k {x : Int32} (hx : ¬ (x.toInt < 0 ∨ 4 < x.toInt)) : x = 0 ∨ x = 1 ∨ x = 2 ∨ x = 3 ∨ x = 4 := by
  have i0 : (0 : Int32).toInt = 0 := rfl
  have i1 : (1 : Int32).toInt = 1 := rfl
  have i2 : (2 : Int32).toInt = 2 := rfl
  have i3 : (3 : Int32).toInt = 3 := rfl
  have i4 : (4 : Int32).toInt = 4 := rfl
  have : x.toInt = 0 ∨ x.toInt = 1 ∨ x.toInt = 2 ∨ x.toInt = 3 ∨ x.toInt = 4 := by omega
  rcases this with z | z | z | z | z
  · exact Or.inl (Int32.toInt_inj.mp (z.trans i0.symm))
  · exact Or.inr (Or.inl (Int32.toInt_inj.mp (z.trans i1.symm)))
  · exact Or.inr (Or.inr (Or.inl (Int32.toInt_inj.mp (z.trans i2.symm))))
  · exact Or.inr (Or.inr (Or.inr (Or.inl (Int32.toInt_inj.mp (z.trans i3.symm)))))
  · exact Or.inr (Or.inr (Or.inr (Or.inr (Int32.toInt_inj.mp (z.trans i4.symm)))))
set_option maxRecDepth 100000 in
set_option maxHeartbeats 4000000 in
theorem cn9_q {f : Nat} {x a b c d e : Int32} {h : xh_H} (hq : a_rq a_tb h) (e0 : xg 0 h.2.1 0 10 = a) (e1 : xg 0 h.2.1 0 9 = b) (e2 : xg 0 h.2.1 0 8 = c) (e3 : xg 0 h.2.1 35 3 = d) (e4 : xg 0 h.2.1 1 1 = e) : xq f xi_X9_count xmi_X9_count 0 [(0, .ref 0), (1, .int x)] [] h (fun v h' => v = some (.int (cnA x a b c d e))) := by
  refine xq_n 1 [0] [(0, .ref 0)] [.int x] h [] 3 hq rfl trivial (fun hq => ?_)
  by_cases hx : x.toInt < 0 ∨ 4 < x.toInt
  · refine xq_1 (pc1 := 67) (st1 := []) rfl rfl (fun _ _ => by rcases hx with hx | hx <;> simp [xe_2, xe_1, xp_i, hx]) ?_
    refine xq_n 68 [] [] [.int (Int32.ofInt (-1))] h [] 3 hq rfl trivial (fun hq => ?_)
    exact xq_ret rfl rfl rfl (by rw [cnA_o hx])
  · rcases cn_k hx with rfl | rfl | rfl | rfl | rfl
    · refine xq_1 (pc1 := 36) (st1 := []) rfl rfl (fun _ _ => rfl) ?_
      refine xq_n 40 [] [] [.int (xg 0 h.2.1 0 10)] h [] 4 hq rfl trivial (fun hq => ?_)
      rw [e0]
      exact xq_ret rfl rfl rfl rfl
    · refine xq_1 (pc1 := 41) (st1 := []) rfl rfl (fun _ _ => rfl) ?_
      refine xq_n 45 [] [] [.int (xg 0 h.2.1 0 9)] h [] 4 hq rfl trivial (fun hq => ?_)
      rw [e1]
      exact xq_ret rfl rfl rfl rfl
    · refine xq_1 (pc1 := 46) (st1 := []) rfl rfl (fun _ _ => rfl) ?_
      refine xq_n 50 [] [] [.int (xg 0 h.2.1 0 8)] h [] 4 hq rfl trivial (fun hq => ?_)
      rw [e2]
      exact xq_ret rfl rfl rfl rfl
    · refine xq_1 (pc1 := 51) (st1 := []) rfl rfl (fun _ _ => rfl) ?_
      refine xq_n 58 [] [] [.int (xg 0 h.2.1 35 3)] h [] 5 hq rfl trivial (fun hq => ?_)
      rw [e3]
      exact xq_ret rfl rfl rfl rfl
    · refine xq_1 (pc1 := 59) (st1 := []) rfl rfl (fun _ _ => rfl) ?_
      refine xq_n 66 [] [] [.int (xg 0 h.2.1 1 1)] h [] 5 hq rfl trivial (fun hq => ?_)
      rw [e4]
      exact xq_ret rfl rfl rfl rfl
set_option maxRecDepth 100000 in
set_option maxHeartbeats 4000000 in
theorem cn10_q {f : Nat} {x a b c d e : Int32} {h : xh_H} (hq : a_rq a_tb h) (e0 : xg 0 h.2.1 39 3 = a) (e1 : xg 0 h.2.1 39 4 = b) (e2 : xg 0 h.2.1 39 33 = c) (e3 : xg 0 h.2.1 39 63 = d) (e4 : xg 0 h.2.1 39 2 = e) : xq f xi_X10_count xmi_X10_count 0 [(0, .ref 39), (1, .int x)] [] h (fun v h' => v = some (.int (cnA x a b c d e))) := by
  refine xq_n 6 [0] [(0, .ref 39)] [.int x] (xh_ui h 39 0 (Int32.ofInt 0)) [] 6 hq rfl trivial (fun _ => ?_)
  have hq : a_rq a_tb (xh_ui h 39 0 (Int32.ofInt 0)) := a_rq_ui hq
  by_cases hx : x.toInt < 0 ∨ 4 < x.toInt
  · refine xq_1 (pc1 := 65) (st1 := []) rfl rfl (fun _ _ => by rcases hx with hx | hx <;> simp [xe_2, xe_1, xp_i, hx]) ?_
    refine xq_n 66 [] [] [.int (Int32.ofInt (-1))] (xh_ui h 39 0 (Int32.ofInt 0)) [] 3 hq rfl trivial (fun hq => ?_)
    exact xq_ret rfl rfl rfl (by rw [cnA_o hx])
  · rcases cn_k hx with rfl | rfl | rfl | rfl | rfl
    · refine xq_1 (pc1 := 40) (st1 := []) rfl rfl (fun _ _ => rfl) ?_
      refine xq_n 44 [] [] [.int (xg 0 (xh_ui h 39 0 (Int32.ofInt 0)).2.1 39 3)] (xh_ui h 39 0 (Int32.ofInt 0)) [] 4 hq rfl trivial (fun hq => ?_)
      rw [show xg 0 (xh_ui h 39 0 (Int32.ofInt 0)).2.1 39 3 = a from (gx_k (by decide)).trans e0]
      exact xq_ret rfl rfl rfl rfl
    · refine xq_1 (pc1 := 45) (st1 := []) rfl rfl (fun _ _ => rfl) ?_
      refine xq_n 49 [] [] [.int (xg 0 (xh_ui h 39 0 (Int32.ofInt 0)).2.1 39 4)] (xh_ui h 39 0 (Int32.ofInt 0)) [] 4 hq rfl trivial (fun hq => ?_)
      rw [show xg 0 (xh_ui h 39 0 (Int32.ofInt 0)).2.1 39 4 = b from (gx_k (by decide)).trans e1]
      exact xq_ret rfl rfl rfl rfl
    · refine xq_1 (pc1 := 50) (st1 := []) rfl rfl (fun _ _ => rfl) ?_
      refine xq_n 54 [] [] [.int (xg 0 (xh_ui h 39 0 (Int32.ofInt 0)).2.1 39 33)] (xh_ui h 39 0 (Int32.ofInt 0)) [] 4 hq rfl trivial (fun hq => ?_)
      rw [show xg 0 (xh_ui h 39 0 (Int32.ofInt 0)).2.1 39 33 = c from (gx_k (by decide)).trans e2]
      exact xq_ret rfl rfl rfl rfl
    · refine xq_1 (pc1 := 55) (st1 := []) rfl rfl (fun _ _ => rfl) ?_
      refine xq_n 59 [] [] [.int (xg 0 (xh_ui h 39 0 (Int32.ofInt 0)).2.1 39 63)] (xh_ui h 39 0 (Int32.ofInt 0)) [] 4 hq rfl trivial (fun hq => ?_)
      rw [show xg 0 (xh_ui h 39 0 (Int32.ofInt 0)).2.1 39 63 = d from (gx_k (by decide)).trans e3]
      exact xq_ret rfl rfl rfl rfl
    · refine xq_1 (pc1 := 60) (st1 := []) rfl rfl (fun _ _ => rfl) ?_
      refine xq_n 64 [] [] [.int (xg 0 (xh_ui h 39 0 (Int32.ofInt 0)).2.1 39 2)] (xh_ui h 39 0 (Int32.ofInt 0)) [] 4 hq rfl trivial (fun hq => ?_)
      rw [show xg 0 (xh_ui h 39 0 (Int32.ofInt 0)).2.1 39 2 = e from (gx_k (by decide)).trans e4]
      exact xq_ret rfl rfl rfl rfl
set_option maxRecDepth 100000 in
theorem fa9_q {f : Nat} {a : Int32} {h : xh_H} (hq : a_rq a_tb h) (e : xg 0 h.2.1 0 11 = a) : xq f xi_X9_fault xmi_X9_fault 0 [(0, .ref 0)] [] h (fun v h' => v = some (.int a)) := by
  refine xq_n 4 [] [] [.int (xg 0 h.2.1 0 11)] h [] 4 hq rfl trivial (fun hq => ?_)
  rw [e]
  exact xq_ret rfl rfl rfl rfl
set_option maxRecDepth 100000 in
theorem fa10_q {f : Nat} {a : Int32} {h : xh_H} (hq : a_rq a_tb h) (e : xg 0 h.2.1 39 13 = a) : xq f xi_X10_fault xmi_X10_fault 0 [(0, .ref 39)] [] h (fun v h' => v = some (.int a)) := by
  refine xq_n 9 [] [] [.int (xg 0 (xh_ui h 39 0 (Int32.ofInt 0)).2.1 39 13)] (xh_ui h 39 0 (Int32.ofInt 0)) [] 7 hq rfl trivial (fun _ => ?_)
  rw [show xg 0 (xh_ui h 39 0 (Int32.ofInt 0)).2.1 39 13 = a from (gx_k (by decide)).trans e]
  exact xq_ret rfl rfl rfl rfl
end XCN
