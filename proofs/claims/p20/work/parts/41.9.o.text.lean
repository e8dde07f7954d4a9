section XPT
/-- the program's text -/
def ptx (h : xh_H) (P : List (Nat × Int32)) : Prop := xg 0 h.2.1 4 3 = nI P.length ∧ ∀ k (hk : k < P.length), xg 0 h.2.1 5 k = nI (P[k]).1 ∧ xg 0 h.2.1 6 k = (P[k]).2
theorem ptx_f {S L : Nat → Nat → Bool} {h h' : xh_H} {P : List (Nat × Int32)} (p : ptx h P) (g : fx S L h h') (e1 : S 4 3 = false) (e2 : ∀ k, S 5 k = false) (e3 : ∀ k, S 6 k = false) : ptx h' P := ⟨(fx_i g e1).trans p.1, fun k hk' => ⟨(fx_i g (e2 k)).trans (p.2 k hk').1, (fx_i g (e3 k)).trans (p.2 k hk').2⟩⟩
theorem ptx_a {h h' : xh_H} {P : List (Nat × Int32)} {c : Nat} {y : Int32} (p : ptx h P) (e1 : xg 0 h'.2.1 4 3 = nI (P.length + 1)) (e2 : xg 0 h'.2.1 5 P.length = nI c) (e3 : xg 0 h'.2.1 6 P.length = y) (e4 : ∀ k, k ≠ P.length → xg 0 h'.2.1 5 k = xg 0 h.2.1 5 k ∧ xg 0 h'.2.1 6 k = xg 0 h.2.1 6 k) : ptx h' (P ++ [(c, y)]) := by
  refine ⟨by rw [e1, List.length_append]; rfl, fun k hk' => ?_⟩
  by_cases z : k = P.length
  · subst z
    rw [List.getElem_append_right (Nat.le_refl _)]
    simp only [Nat.sub_self, List.getElem_cons_zero]
    exact ⟨e2, e3⟩
  · have hl : k < P.length := by rw [List.length_append] at hk'; simp at hk'; omega
    rw [List.getElem_append_left hl, (e4 k z).1, (e4 k z).2]
    exact p.2 k hl
set_option maxRecDepth 100000 in
set_option maxHeartbeats 4000000 in
theorem pad_q {f c : Nat} {y : Int32} {P : List (Nat × Int32)} {h : xh_H} (pt : ptx h P) (l4 : P.length < 400) (hq : a_rq a_tb h) : xq f xi_X3_add xmi_X3_add 0 [(0, .ref 4), (1, .int (nI c)), (2, .int y)] [] h (fun v h' => v = none ∧ fx aS_ fN h h' ∧ ptx h' (P ++ [(c, y)])) := by
  cases c1 : xe_c .ge (nI (P.length)) 400 with
  | true =>
    have z1 : (P.length) ≥ 400 := nq_get (a := (P.length)) (b := 400) (by omega) (by omega) c1
    omega
  | false =>
    have z1 : (P.length) < 400 := nq_gef (a := (P.length)) (b := 400) (by omega) (by omega) c1
    refine xq_n 40 [] [] [] (xh_ui (xh_ui (xh_ui h 5 ((xg 0 h.2.1 4 3).toNatClampNeg) (nI c)) 6 ((xg 0 (xh_ui h 5 ((xg 0 h.2.1 4 3).toNatClampNeg) (nI c)).2.1 4 3).toNatClampNeg) y) 4 3 ((xg 0 (xh_ui (xh_ui h 5 ((xg 0 h.2.1 4 3).toNatClampNeg) (nI c)) 6 ((xg 0 (xh_ui h 5 ((xg 0 h.2.1 4 3).toNatClampNeg) (nI c)).2.1 4 3).toNatClampNeg) y).2.1 4 3) + (Int32.ofInt 1))) [false] 24 hq rfl ⟨(show xe_c .ge (xg 0 h.2.1 4 3) 400 = false by rw [show (xg 0 h.2.1 4 3) = (nI (P.length)) from pt.1]; exact c1), trivial⟩ (fun _ => ?_)
    rw [show (xg 0 (xh_ui (xh_ui h 5 ((xg 0 h.2.1 4 3).toNatClampNeg) (nI c)) 6 ((xg 0 (xh_ui h 5 ((xg 0 h.2.1 4 3).toNatClampNeg) (nI c)).2.1 4 3).toNatClampNeg) y).2.1 4 3) = (nI (P.length)) from (gx_o (by decide)).trans ((gx_o (by decide)).trans (pt.1))]
    rw [show (xg 0 (xh_ui h 5 ((xg 0 h.2.1 4 3).toNatClampNeg) (nI c)).2.1 4 3) = (nI (P.length)) from (gx_o (by decide)).trans (pt.1)]
    rw [show (xg 0 h.2.1 4 3) = (nI (P.length)) from pt.1]
    rw [show ((nI (P.length)).toNatClampNeg) = P.length from nI_clamp (by omega)]
    rw [show ((nI (P.length)) + (Int32.ofInt 1)) = nI (P.length + 1) from nI_1 _]
    have hq : a_rq a_tb (xh_ui (xh_ui (xh_ui h 5 P.length (nI c)) 6 P.length y) 4 3 (nI (P.length + 1))) := a_rq_ui (a_rq_ui (a_rq_ui hq))
    exact xq_ret rfl rfl rfl ⟨rfl, fx_ui (fx_ui (fx_ui (fx_0) rfl) rfl) rfl, ptx_a pt (gx_s) ((gx_o (by decide)).trans ((gx_o (by decide)).trans (gx_s))) ((gx_o (by decide)).trans (gx_s)) (fun k hk' => ⟨(gx_o (by decide)).trans ((gx_o (by decide)).trans (gx_k (by omega))), (gx_o (by decide)).trans ((gx_k (by omega)).trans (gx_o (by decide)))⟩)⟩
end XPT
