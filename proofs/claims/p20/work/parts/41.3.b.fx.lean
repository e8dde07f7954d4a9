section XFX
/-- what a run may have changed: ints in S, longs in L; shapes and references are as they were -/
def fx (S L : Nat → Nat → Bool) (h h' : xh_H) : Prop := h'.1 = h.1 ∧ h'.2.2.2 = h.2.2.2 ∧ (∀ c k, S c k = false → xg 0 h'.2.1 c k = xg 0 h.2.1 c k) ∧ ∀ c k, L c k = false → xg 0 h'.2.2.1 c k = xg 0 h.2.2.1 c k
def fN (_ _ : Nat) : Bool := false
variable {S L S' L' : Nat → Nat → Bool} {h0 h h' h1 h2 : xh_H} {c k : Nat} {tb : aT}
theorem fx_0 : fx S L h h := ⟨rfl, rfl, fun _ _ _ => rfl, fun _ _ _ => rfl⟩
theorem fx_i (g : fx S L h h') (e : S c k = false) : xg 0 h'.2.1 c k = xg 0 h.2.1 c k := g.2.2.1 c k e
theorem fx_l (g : fx S L h h') (e : L c k = false) : xg 0 h'.2.2.1 c k = xg 0 h.2.2.1 c k := g.2.2.2 c k e
theorem fx_t (a : fx S L h0 h1) (b : fx S L h1 h2) : fx S L h0 h2 := ⟨b.1.trans a.1, b.2.1.trans a.2.1, fun c k e => (b.2.2.1 c k e).trans (a.2.2.1 c k e), fun c k e => (b.2.2.2 c k e).trans (a.2.2.2 c k e)⟩
theorem fx_w (a : fx S L h h') (s : ∀ c k, S' c k = false → S c k = false) (l : ∀ c k, L' c k = false → L c k = false) : fx S' L' h h' := ⟨a.1, a.2.1, fun c k e => a.2.2.1 c k (s c k e), fun c k e => a.2.2.2 c k (l c k e)⟩
theorem fx_ui {x : Int32} (g : fx S L h0 h) (e : S c k = true) : fx S L h0 (xh_ui h c k x) := by
  refine ⟨g.1, g.2.1, fun c' k' e' => ?_, g.2.2.2⟩
  rw [gx_i, g.2.2.1 c' k' e']
  rintro ⟨rfl, rfl⟩
  rw [e] at e'
  cases e'
theorem gl_s {x : Int64} : xg 0 (xh_ul h c k x).2.2.1 c k = x := xh_up_s
theorem gl_k {x : Int64} {k' : Nat} (e : k' ≠ k) : xg 0 (xh_ul h c k x).2.2.1 c k' = xg 0 h.2.2.1 c k' := xh_up_k e
theorem gl_o {x : Int64} {c' k' : Nat} (e : c' ≠ c) : xg 0 (xh_ul h c k x).2.2.1 c' k' = xg 0 h.2.2.1 c' k' := congrFun (xh_up_o e) k'
theorem gl_i {x : Int64} {c' k' : Nat} (e : ¬ (c' = c ∧ k' = k)) : xg 0 (xh_ul h c k x).2.2.1 c' k' = xg 0 h.2.2.1 c' k' := by
  by_cases e1 : c' = c
  · subst e1
    exact gl_k (fun z => e ⟨rfl, z⟩)
  · exact gl_o e1
theorem fx_ul {x : Int64} (g : fx S L h0 h) (e : L c k = true) : fx S L h0 (xh_ul h c k x) := by
  refine ⟨g.1, g.2.1, g.2.2.1, fun c' k' e' => ?_⟩
  rw [gl_i, g.2.2.2 c' k' e']
  rintro ⟨rfl, rfl⟩
  rw [e] at e'
  cases e'
theorem fx_q (g : fx S L h h') (hq : a_rq tb h) : a_rq tb h' := by
  refine ⟨by rw [g.1]; exact hq.1, fun c s hs => by rw [g.1]; exact hq.2.1 c s hs, fun c k ci t h1 h2 => ?_⟩
  rw [g.2.1]
  exact hq.2.2 c k ci t h1 h2
/-! comparisons of numbers -/
variable {a b : Nat}
theorem nq_ltt (ha : a < 2 ^ 31) (hb : b < 2 ^ 31) (z : xe_c .lt (nI a) (nI b) = true) : a < b := by
  have := a_ce z
  rw [nI_toInt ha, nI_toInt hb] at this
  omega
theorem nq_ltf (ha : a < 2 ^ 31) (hb : b < 2 ^ 31) (z : xe_c .lt (nI a) (nI b) = false) : a ≥ b := by
  have := a_ce (a_neg_ok z)
  dsimp only [a_neg] at this
  rw [nI_toInt ha, nI_toInt hb] at this
  omega
theorem nq_get (ha : a < 2 ^ 31) (hb : b < 2 ^ 31) (z : xe_c .ge (nI a) (nI b) = true) : a ≥ b := by
  have := a_ce z
  dsimp only at this
  rw [nI_toInt ha, nI_toInt hb] at this
  omega
theorem nq_gef (ha : a < 2 ^ 31) (hb : b < 2 ^ 31) (z : xe_c .ge (nI a) (nI b) = false) : a < b := by
  have := a_ce (a_neg_ok z)
  dsimp only [a_neg] at this
  rw [nI_toInt ha, nI_toInt hb] at this
  omega
theorem nq_gtt (ha : a < 2 ^ 31) (hb : b < 2 ^ 31) (z : xe_c .gt (nI a) (nI b) = true) : a > b := by
  have := a_ce z
  dsimp only at this
  rw [nI_toInt ha, nI_toInt hb] at this
  omega
theorem nq_gtf (ha : a < 2 ^ 31) (hb : b < 2 ^ 31) (z : xe_c .gt (nI a) (nI b) = false) : a ≤ b := by
  have := a_ce (a_neg_ok z)
  dsimp only [a_neg] at this
  rw [nI_toInt ha, nI_toInt hb] at this
  omega
theorem nq_let (ha : a < 2 ^ 31) (hb : b < 2 ^ 31) (z : xe_c .le (nI a) (nI b) = true) : a ≤ b := by
  have := a_ce z
  dsimp only at this
  rw [nI_toInt ha, nI_toInt hb] at this
  omega
theorem nq_lef (ha : a < 2 ^ 31) (hb : b < 2 ^ 31) (z : xe_c .le (nI a) (nI b) = false) : a > b := by
  have := a_ce (a_neg_ok z)
  dsimp only [a_neg] at this
  rw [nI_toInt ha, nI_toInt hb] at this
  omega
theorem nq_eqt (ha : a < 2 ^ 31) (hb : b < 2 ^ 31) (z : xe_c .eq (nI a) (nI b) = true) : a = b := (nI_eq ha hb).mp (of_decide_eq_true z)
theorem nq_eqf (ha : a < 2 ^ 31) (hb : b < 2 ^ 31) (z : xe_c .eq (nI a) (nI b) = false) : a ≠ b := fun e => of_decide_eq_false z (by rw [e])
theorem nq_net (ha : a < 2 ^ 31) (hb : b < 2 ^ 31) (z : xe_c .ne (nI a) (nI b) = true) : a ≠ b := fun e => xne_i z (by rw [e])
theorem nq_nef (ha : a < 2 ^ 31) (hb : b < 2 ^ 31) (z : xe_c .ne (nI a) (nI b) = false) : a = b := (nI_eq ha hb).mp (xne_j z)
theorem xc_ne {x y : Int32} : xe_c .ne x y = !(xe_c .eq x y) := rfl
theorem xc_eq {x y : Int32} : xe_c .eq x y = !(xe_c .ne x y) := by
  show decide (x = y) = !(!decide (x = y))
  rw [Bool.not_not]
theorem i64_inj {a b : Nat} (ha : a < 9223372036854775808) (hb : b < 9223372036854775808) (h : Int64.ofNat a = Int64.ofNat b) : a = b := by
  have e := congrArg Int64.toInt h
  rw [Int64.toInt_ofNat_of_lt ha, Int64.toInt_ofNat_of_lt hb] at e
  omega
end XFX
