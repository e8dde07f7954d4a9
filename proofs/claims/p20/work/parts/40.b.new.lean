section XNS
theorem a_e_mono {h h' : xh_H} {c k : Nat} {e : Nat × Int × Int} (ei : xg 0 h'.2.1 c k = xg 0 h.2.1 c k) (el : xg 0 h'.2.2.1 c k = xg 0 h.2.2.1 c k) (er : xg none h'.2.2.2 c k = xg none h.2.2.2 c k) (hn : h.1.length ≤ h'.1.length) (a : a_e h c k e) : a_e h' c k e := by
  obtain ⟨t, lo, hi⟩ := e
  match t, a with
  | 0, a =>
    show lo ≤ (xg 0 h'.2.1 c k).toInt ∧ (xg 0 h'.2.1 c k).toInt ≤ hi
    rw [ei]
    exact a
  | 1, a =>
    show lo ≤ (xg 0 h'.2.2.1 c k).toInt ∧ (xg 0 h'.2.2.1 c k).toInt ≤ hi
    rw [el]
    exact a
  | 2, a =>
    obtain ⟨q, q1, q2, q3⟩ := a
    exact ⟨q, by rw [er]; exact q1, by omega, q3⟩
  | 3, a =>
    intro q hq
    rw [er] at hq
    have g := a q hq
    exact ⟨by have := g.1; omega, g.2⟩
  | n + 4, _ => trivial
/-- a new Statute -/
def ns_h (h : xh_H) (f : Int32) : xh_H := xh_ur (xh_nw (xh_ui (xh_nw h (0, 7)) h.1.length 0 f) (4, 64)) h.1.length 1 (some (h.1.length + 1))
variable {h : xh_H} {f : Int32}
theorem ns_1 : (ns_h h f).1 = (h.1 ++ [(0, 7)]) ++ [(4, 64)] := rfl
theorem ns_n : (ns_h h f).1.length = h.1.length + 2 := by rw [ns_1, List.length_append, List.length_append]; rfl
theorem ns_lo {c : Nat} (hc : c < h.1.length) : (ns_h h f).1[c]? = h.1[c]? := by
  rw [ns_1, List.getElem?_append_left (by rw [List.length_append]; omega), List.getElem?_append_left hc]
theorem ns_s0 : (ns_h h f).1[h.1.length]? = some (0, 7) := by
  rw [ns_1, List.getElem?_append_left (by rw [List.length_append]; exact Nat.lt_succ_self _), List.getElem?_append_right (Nat.le_refl _), Nat.sub_self]
  rfl
theorem ns_s1 : (ns_h h f).1[h.1.length + 1]? = some (4, 64) := by
  rw [ns_1, List.getElem?_append_right (by rw [List.length_append]; exact Nat.le_refl _), List.length_append]
  show ([(4, 64)] : List (Nat × Nat))[h.1.length + 1 - (h.1.length + 1)]? = _
  rw [Nat.sub_self]
  rfl
theorem ns_l1 : (h.1 ++ [((0, 7) : Nat × Nat)]).length = h.1.length + 1 := by rw [List.length_append]; rfl
theorem ns_i {c k : Nat} (hc : c < h.1.length) : xg 0 (ns_h h f).2.1 c k = xg 0 h.2.1 c k := by
  show xg 0 (xh_rs (xh_up 0 (xh_rs h.2.1 h.1.length) h.1.length 0 f) (h.1 ++ [((0, 7) : Nat × Nat)]).length) c k = _
  rw [xh_rs_o (by rw [ns_l1]; omega), xh_up_o (by omega), xh_rs_o (by omega)]
theorem ns_f : xg 0 (ns_h h f).2.1 h.1.length 0 = f := by
  show xg 0 (xh_rs (xh_up 0 (xh_rs h.2.1 h.1.length) h.1.length 0 f) (h.1 ++ [((0, 7) : Nat × Nat)]).length) h.1.length 0 = _
  rw [xh_rs_o (by rw [ns_l1]; omega), xh_up_s]
theorem ns_g {c k : Nat} (hc : c < h.1.length) : xg 0 (ns_h h f).2.2.1 c k = xg 0 h.2.2.1 c k := by
  show xg 0 (xh_rs (xh_rs h.2.2.1 h.1.length) (h.1 ++ [((0, 7) : Nat × Nat)]).length) c k = _
  rw [xh_rs_o (by rw [ns_l1]; omega), xh_rs_o (by omega)]
theorem ns_r {c k : Nat} (hc : c < h.1.length) : xg none (ns_h h f).2.2.2 c k = xg none h.2.2.2 c k := by
  show xg none (xh_up none (xh_rs (xh_rs h.2.2.2 h.1.length) (h.1 ++ [((0, 7) : Nat × Nat)]).length) h.1.length 1 (some (h.1.length + 1))) c k = _
  rw [xh_up_o (by omega), xh_rs_o (by rw [ns_l1]; omega), xh_rs_o (by omega)]
theorem ns_r1 : xg none (ns_h h f).2.2.2 h.1.length 1 = some (h.1.length + 1) := by
  show xg none (xh_up none (xh_rs (xh_rs h.2.2.2 h.1.length) (h.1 ++ [((0, 7) : Nat × Nat)]).length) h.1.length 1 (some (h.1.length + 1))) h.1.length 1 = _
  rw [xh_up_s]
theorem a_tg_e {q : Nat} (h1 : 72 ≤ q) (h2 : q % 2 = 0) : a_tg q = 11 := by
  unfold a_tg
  rw [show Nat.blt q 72 = false from by rw [Bool.eq_false_iff]; intro z; have := Nat.blt_eq.mp z; omega, h2]
  rfl
theorem a_tg_o {q : Nat} (h1 : 72 ≤ q) (h2 : q % 2 = 1) : a_tg q = 12 := by
  unfold a_tg
  rw [show Nat.blt q 72 = false from by rw [Bool.eq_false_iff]; intro z; have := Nat.blt_eq.mp z; omega, h2]
  rfl
theorem a_jc_72 {c k : Nat} (hj : a_jc c k = true) : c < 72 := by
  by_cases hc : c < 72
  · exact hc
  · rw [a_jc_ar (b := c) (t := 0) (k := k) (by omega) (by omega) (fun z => absurd z hc) rfl] at hj
    cases hj
/-- .. and the heap keeps its bounds -/
theorem ns_inv (hi : a_inv a_tb h) (hn : 72 ≤ h.1.length) (hp : h.1.length % 2 = 0) (f9 : f.toInt ≤ 999) : a_inv a_tb (ns_h h f) := by
  refine ⟨fun c s hs => ?_, a_J_of hi.2 (fun c k hj => ns_i (by have := a_jc_72 hj; omega))⟩
  by_cases hc : c < h.1.length
  · rw [ns_lo hc] at hs
    obtain ⟨a1, a2⟩ := hi.1 c s hs
    exact ⟨a1, fun k hk' => a_e_mono (ns_i hc) (ns_g hc) (ns_r hc) (by rw [ns_n]; omega) (a2 k hk')⟩
  · by_cases e : c = h.1.length
    · subst e
      rw [ns_s0] at hs
      cases hs
      rw [a_tg_e hn hp]
      refine ⟨rfl, fun k hk' => ?_⟩
      have hk' : k < 2 := hk'
      have h01 : k = 0 ∨ k = 1 := by omega
      rcases h01 with rfl | rfl
      · show (-2147483648 : Int) ≤ (xg 0 (ns_h h f).2.1 h.1.length 0).toInt ∧ (xg 0 (ns_h h f).2.1 h.1.length 0).toInt ≤ 999
        rw [ns_f]
        exact ⟨(ar_rng f).1, f9⟩
      · exact ⟨h.1.length + 1, ns_r1, by rw [ns_n]; omega, a_tg_o (by omega) (by omega)⟩
    · by_cases e2 : c = h.1.length + 1
      · subst e2
        rw [ns_s1] at hs
        cases hs
        rw [a_tg_o (by omega) (by omega)]
        refine ⟨rfl, fun k hk' => ?_⟩
        show (-9223372036854775808 : Int) ≤ (xg 0 (ns_h h f).2.2.1 (h.1.length + 1) k).toInt ∧ (xg 0 (ns_h h f).2.2.1 (h.1.length + 1) k).toInt ≤ 9223372036854775807
        exact lr _
      · rw [List.getElem?_eq_none (by rw [ns_n]; omega)] at hs
        cases hs
theorem xR_pf {scr : Option (Nat × (Nat → Int32))} {d mid : Nat} {mi : xm_M} {pc a ix ci k K i : Nat} {lv : List (Nat × Value)} {q : List Value} {v : Value} {h h1 : xh_H} {c s : Nat} {o : Option Value × xh_H × Nat × Nat} (hr : xC mid pc = some (.putfield ix, 3, ci, k, K, i)) (hs : h.1[a]? = some (0, ci)) (hp : xe_put h a (xh_ty ci k) k v = some h1) (kk : xR scr d mid mi (pc + 3, lv, q, h1, c, s) o) : xR scr d mid mi (pc, lv, v :: .ref a :: q, h, c, s) o := xR_step hr rfl (by simp [xe_2, xe_1, xp_vr, hs, hp]) kk
set_option maxRecDepth 100000 in
theorem ns_init {d : Nat} : xR none (d + 1) xi_X7_init xmi_X7_init (0, lv_args 0 [.ref h.1.length, .int f], [], xh_nw h (0, 7), 0, 0) (none, ns_h h f, 1, 64) := by
  refine xR_step (o1 := (1, lv_args 0 [.ref h.1.length, .int f], [.ref h.1.length], xh_nw h (0, 7), 0, 0)) rfl rfl rfl ?_
  refine xR_step (o1 := (4, lv_args 0 [.ref h.1.length, .int f], [], xh_nw h (0, 7), 0, 0)) rfl rfl rfl ?_
  refine xR_step (o1 := (5, lv_args 0 [.ref h.1.length, .int f], [.ref h.1.length], xh_nw h (0, 7), 0, 0)) rfl rfl rfl ?_
  refine xR_step (o1 := (6, lv_args 0 [.ref h.1.length, .int f], [.int f, .ref h.1.length], xh_nw h (0, 7), 0, 0)) rfl rfl rfl ?_
  refine xR_pf (h1 := xh_ui (xh_nw h (0, 7)) h.1.length 0 f) rfl (show (h.1 ++ [((0, 7) : Nat × Nat)])[h.1.length]? = some (0, 7) by rw [List.getElem?_append_right (Nat.le_refl _), Nat.sub_self]; rfl) rfl ?_
  refine xR_step (o1 := (10, lv_args 0 [.ref h.1.length, .int f], [.ref h.1.length], xh_ui (xh_nw h (0, 7)) h.1.length 0 f, 0, 0)) rfl rfl rfl ?_
  refine xR_step (o1 := (12, lv_args 0 [.ref h.1.length, .int f], [.int 64, .ref h.1.length], xh_ui (xh_nw h (0, 7)) h.1.length 0 f, 0, 0)) rfl rfl rfl ?_
  refine xR_step (o1 := (14, lv_args 0 [.ref h.1.length, .int f], [.ref (h.1 ++ [((0, 7) : Nat × Nat)]).length, .ref h.1.length], xh_nw (xh_ui (xh_nw h (0, 7)) h.1.length 0 f) (4, 64), 1, 64)) rfl rfl rfl ?_
  rw [ns_l1]
  refine xR_pf (h1 := ns_h h f) rfl (show (h.1 ++ [((0, 7) : Nat × Nat)] ++ [((4, 64) : Nat × Nat)])[h.1.length]? = some (0, 7) from ns_s0 (f := f)) rfl ?_
  exact xR_ret rfl rfl rfl
end XNS
