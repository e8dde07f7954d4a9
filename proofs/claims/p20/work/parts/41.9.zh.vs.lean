section XVS
/-- the votes' sets are sets of the members -/
def VZ (h : xh_H) : Prop := ∀ mem vc, xg 0 h.2.1 0 9 = nI mem → mem ≤ 12 → xg 0 h.2.1 35 3 = nI vc → vc ≤ 60 → ∀ k, k < vc → ∃ s, xg 0 h.2.1 36 k = nI s ∧ s < 2 ^ mem
theorem VZ_s {h h' : xh_H} (e9 : xg 0 h'.2.1 0 9 = xg 0 h.2.1 0 9) (e35 : xg 0 h'.2.1 35 3 = xg 0 h.2.1 35 3) (e36 : ∀ k, xg 0 h'.2.1 36 k = xg 0 h.2.1 36 k) (S : VZ h) : VZ h' := fun mem vc x1 x2 x3 x4 k hk' => by
  rw [e36]
  exact S mem vc (e9.symm.trans x1) x2 (e35.symm.trans x3) x4 k hk'
def vsM (md : List (Nat × Nat)) : Bool := !a_mb md 0 9 && (!a_mb md 35 3 && !a_mb md 36 0)
theorem VZ_t {md : List (Nat × Nat)} {h h' : xh_H} (f : a_fr md h h') (m : vsM md = true) (S : VZ h) : VZ h' := by
  unfold vsM at m
  simp only [Bool.and_eq_true, Bool.not_eq_true'] at m
  exact VZ_s (fr_g f rfl m.1) (fr_g f rfl m.2.1) (fun k => fr_g (c := 36) (k := k) f rfl m.2.2) S
theorem VZ_2 {md1 md2 : List (Nat × Nat)} {h h1 h2 : xh_H} (f1 : a_fr md1 h h1) (f2 : a_fr md2 h1 h2) (m1 : vsM md1 = true) (m2 : vsM md2 = true) (S : VZ h) : VZ h2 := VZ_t f2 m2 (VZ_t f1 m1 S)
theorem VZ_m {h h1 h2 : xh_H} {x s w r : Int32} {md1 md2 : List (Nat × Nat)} (S : VZ h) (d1 : xg 0 h1.2.1 0 9 = cond (mbB s w r x) x (xg 0 h.2.1 0 9)) (e3 : xg 0 h.2.1 35 3 = w) (f1 : a_fr md1 h h1) (m3 : a_mb md1 35 3 = false) (m4 : a_mb md1 36 0 = false) (f2 : a_fr md2 h1 h2) (m2 : vsM md2 = true) : VZ h2 := by
  refine VZ_t f2 m2 ?_
  have e35 : xg 0 h1.2.1 35 3 = xg 0 h.2.1 35 3 := fr_g f1 rfl m3
  cases hB : mbB s w r x with
  | false =>
    rw [hB] at d1
    exact VZ_s d1 e35 (fun k => fr_g (c := 36) (k := k) f1 rfl m4) S
  | true =>
    intro mem vc x1 x2 x3 x4 k hk'
    exfalso
    rw [e35, e3] at x3
    unfold mbB at hB
    simp only [Bool.and_eq_true, Bool.not_eq_true'] at hB
    have b0 : w.toInt ≤ (0 : Int) := a_ce (a_neg_ok hB.2.2.1)
    rw [x3, nI_toInt (by omega)] at b0
    omega
theorem VZ_v {h h1 h2 : xh_H} {x : Int32} {mem vc : Nat} {md1 md2 : List (Nat × Nat)} (S : VZ h) (m12 : mem ≤ 12) (e9 : xg 0 h.2.1 0 9 = nI mem) (e35 : xg 0 h.2.1 35 3 = nI vc) (v6 : vc ≤ 60) (d1 : xg 0 h1.2.1 35 3 = nI (cond ((!xe_c .lt x 0 && !xe_c .ge x (Int32.ofInt 1 <<< (nI mem &&& 31))) && decide (vc < 60)) (vc + 1) vc)) (a1 : ∀ k, xg 0 h1.2.1 36 k = cond (((!xe_c .lt x 0 && !xe_c .ge x (Int32.ofInt 1 <<< (nI mem &&& 31))) && decide (vc < 60)) && Nat.beq k vc) x (xg 0 h.2.1 36 k)) (f1 : a_fr md1 h h1) (m3 : a_mb md1 0 9 = false) (f2 : a_fr md2 h1 h2) (m2 : vsM md2 = true) : VZ h2 := by
  refine VZ_t f2 m2 ?_
  intro mem' vc' x1 x2 x3 x4 k hk'
  rw [fr_g f1 rfl m3, e9] at x1
  have em : mem = mem' := by
    have y := congrArg Int32.toInt x1
    rw [nI_toInt (by omega), nI_toInt (by omega)] at y
    omega
  subst em
  rw [a1 k]
  cases hB : ((!xe_c .lt x 0 && !xe_c .ge x (Int32.ofInt 1 <<< (nI mem &&& 31))) && decide (vc < 60)) with
  | false =>
    rw [hB] at d1
    rw [d1] at x3
    have y := congrArg Int32.toInt x3
    have y : (nI vc).toInt = (nI vc').toInt := y
    rw [nI_toInt (by omega), nI_toInt (by omega)] at y
    exact S mem vc e9 x2 e35 v6 k (by omega)
  | true =>
    rw [hB] at d1
    rw [d1] at x3
    have y := congrArg Int32.toInt x3
    have y : (nI (vc + 1)).toInt = (nI vc').toInt := y
    rw [nI_toInt (by omega), nI_toInt (by omega)] at y
    rw [Bool.true_and]
    cases hk : Nat.beq k vc with
    | true =>
      obtain ⟨s, e1, e2, -⟩ := inS_n m12 (Bool.and_eq_true _ _ ▸ hB).1
      exact ⟨s, e1, e2⟩
    | false =>
      have : k ≠ vc := fun z => by rw [z, Nat.beq_refl] at hk; cases hk
      exact S mem vc e9 x2 e35 v6 k (by omega)
end XVS
