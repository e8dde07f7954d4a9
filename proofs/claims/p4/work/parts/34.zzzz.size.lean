section XB5
/-- CarryHouseModel.sizeOf: twelve bits -/
def aC_siz : aC := (xi_X10_sizeOf, 0, [(0, -2147483648, 2147483647, none, [], [])], some (0, 0, 12, none, [], []), [])
set_option maxRecDepth 100000 in
set_option maxHeartbeats 4000000 in
theorem sz_loop {d : Nat} {h : xh_H} {x : Int32} : ∀ (n i t : Nat), i + n = 12 → t ≤ i → ∃ w, w ≤ 12 ∧ xR none d xi_X10_sizeOf xmi_X10_sizeOf (4, [(2, .int (nI i)), (1, .int (nI t)), (0, .int x)], [], h, 0, 0) (some (.int (nI w)), h, 0, 0) := by
  intro n
  induction n with
  | zero =>
    intro i t hi ht
    have e : i = 12 := by omega
    subst e
    exact ⟨t, ht, 10, rfl⟩
  | succ n ih =>
    intro i t hi ht
    have hb := ar_and1 (x := x >>> (nI i &&& 31)) (y := 1) (by decide)
    have hb2 : ((x >>> (nI i &&& 31)) &&& 1).toInt ≤ 1 := hb.2
    obtain ⟨e, -⟩ := a_nIx hb.1
    have hz : ¬ (12 : Int32) ≤ nI i := nI_ge (a := i) (b := 12) (by omega) (by decide)
    obtain ⟨w, hw, k⟩ := ih (i + 1) (t + ((x >>> (nI i &&& 31)) &&& 1).toInt.toNat) (by omega) (by omega)
    refine ⟨w, hw, ?_⟩
    have e1 : nI (t + ((x >>> (nI i &&& 31)) &&& 1).toInt.toNat) = nI t + ((x >>> (nI i &&& 31)) &&& 1) := by rw [← nI_add, ← e]
    have e2 : nI (i + 1) = nI i + Int32.ofInt 1 := (nI_1 i).symm
    rw [e1, e2] at k
    refine xR_u (stop := 7) 10 d _ _ rfl ?_
    refine xR_ic (x := nI i) (y := (12 : Int32)) rfl (fun z => absurd (of_decide_eq_true z) hz) (fun _ => ?_)
    refine xR_u (stop := 4) 12 d _ _ rfl ?_
    exact k
set_option maxRecDepth 100000 in
theorem as_siz {tb : aT} : a_spec tb aC_siz := by
  intro d mi vs h σ _ hM hi hn ha
  cases hM
  match vs, ha with
  | [v], ha =>
    obtain ⟨⟨x, rfl, _⟩, -⟩ := ha
    obtain ⟨w, hw, k⟩ := sz_loop (d := d) (h := h) (x := x) 12 0 0 rfl (Nat.le_refl 0)
    have e := nI_toInt (n := w) (by omega)
    refine ⟨some (.int (nI w)), h, ?_, hi, rfl, ⟨_, rfl, a_vi rfl (a_I_ok (by omega) (by omega))⟩, fun _ _ _ _ => rfl⟩
    refine xR_u (stop := 4) 10 d _ _ rfl ?_
    exact k
end XB5
