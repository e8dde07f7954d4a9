section XB5
/-- CarryHouseModel.sizeOf: twelve bits -/
def aC_siz : aC := (xi_X10_sizeOf, 0, [(0, -2147483648, 2147483647, none, [], [])], [(some (0, 0, 12, none, [], []), [])], [], [])
def aC_siz2 : aC := (xi_X10_sizeOf, 0, [(0, 1, 4095, none, [], [])], [(some (0, 1, 12, none, [], []), [])], [], [])
set_option maxRecDepth 100000 in
set_option maxHeartbeats 4000000 in
theorem sz_loop {d : Nat} {h : xh_H} {x : Int32} : ∀ (n i t : Nat), i + n = 12 → t ≤ i → ∃ w, w ≤ 12 ∧ (t ≤ w ∧ ∀ j, i ≤ j → j < 12 → (x >>> (nI j &&& 31)) &&& 1 = 1 → t < w) ∧ xR none d xi_X10_sizeOf xmi_X10_sizeOf (4, [(2, .int (nI i)), (1, .int (nI t)), (0, .int x)], [], h, 0, 0) (some (.int (nI w)), h, 0, 0) := by
  intro n
  induction n with
  | zero =>
    intro i t hi ht
    have e : i = 12 := by omega
    subst e
    exact ⟨t, ht, ⟨Nat.le_refl t, fun j h1 h2 _ => by omega⟩, 10, rfl⟩
  | succ n ih =>
    intro i t hi ht
    have hb := ar_and1 (x := x >>> (nI i &&& 31)) (y := 1) (by decide)
    have hb2 : ((x >>> (nI i &&& 31)) &&& 1).toInt ≤ 1 := hb.2
    obtain ⟨e, -⟩ := a_nIx hb.1
    have hz : ¬ (12 : Int32) ≤ nI i := nI_ge (a := i) (b := 12) (by omega) (by decide)
    obtain ⟨w, hw, ⟨hw1, hw2⟩, k⟩ := ih (i + 1) (t + ((x >>> (nI i &&& 31)) &&& 1).toInt.toNat) (by omega) (by omega)
    refine ⟨w, hw, ⟨by omega, fun j h1 h2 h3 => ?_⟩, ?_⟩
    · by_cases hj : j = i
      · subst hj
        rw [h3] at hw1
        have e1 : (1 : Int32).toInt.toNat = 1 := rfl
        omega
      · have := hw2 j (by omega) h2 h3
        omega
    have e1 : nI (t + ((x >>> (nI i &&& 31)) &&& 1).toInt.toNat) = nI t + ((x >>> (nI i &&& 31)) &&& 1) := by rw [← nI_add, ← e]
    have e2 : nI (i + 1) = nI i + Int32.ofInt 1 := (nI_1 i).symm
    rw [e1, e2] at k
    refine xR_u (stop := 7) 10 d _ _ rfl ?_
    refine xR_ic (x := nI i) (y := (12 : Int32)) rfl (fun z => absurd (of_decide_eq_true z) hz) (fun _ => ?_)
    refine xR_u (stop := 4) 12 d _ _ rfl ?_
    exact k
set_option maxRecDepth 100000 in
theorem as_siz {tb : aT} : a_spec tb aC_siz := by
  intro d mi vs h σ _ hM hi hn ha _
  cases hM
  match vs, ha with
  | [v], ha =>
    obtain ⟨⟨x, rfl, _⟩, -⟩ := ha
    obtain ⟨w, hw, -, k⟩ := sz_loop (d := d) (h := h) (x := x) 12 0 0 rfl (Nat.le_refl 0)
    have e := nI_toInt (n := w) (by omega)
    refine ⟨some (.int (nI w)), h, ?_, hi, rfl, ⟨_, List.mem_singleton.mpr rfl, ⟨_, rfl, a_vi rfl (a_I_ok (by omega) (by omega))⟩, a_fp0⟩, fun _ _ _ _ => rfl⟩
    refine xR_u (stop := 4) 10 d _ _ rfl ?_
    exact k
theorem sz_bit : ((List.range 4096).all fun k => Nat.beq k 0 || (List.range 12).any fun j => decide ((nI k >>> (nI j &&& 31)) &&& 1 = 1)) = true := by decide +kernel
set_option maxRecDepth 100000 in
theorem as_siz2 {tb : aT} : a_spec tb aC_siz2 := by
  intro d mi vs h σ _ hM hi hn ha _
  cases hM
  match vs, ha with
  | [v], ha =>
    obtain ⟨⟨x, rfl, h1, h2, -⟩, -⟩ := ha
    have h1 : (1 : Int) ≤ x.toInt := h1
    have h2 : x.toInt ≤ 4095 := h2
    obtain ⟨w, hw, ⟨-, hw2⟩, k⟩ := sz_loop (d := d) (h := h) (x := x) 12 0 0 rfl (Nat.le_refl 0)
    have e := nI_toInt (n := w) (by omega)
    obtain ⟨ex, -⟩ := a_nIx (y := x) (by omega)
    have g := List.all_eq_true.mp sz_bit x.toInt.toNat (List.mem_range.mpr (by omega))
    rw [Bool.or_eq_true] at g
    have hpos : 0 < w := by
      rcases g with g | g
      · have := Nat.eq_of_beq_eq_true g
        omega
      · obtain ⟨j, hj, g⟩ := List.any_eq_true.mp g
        have g := of_decide_eq_true g
        rw [← ex] at g
        exact hw2 j (Nat.zero_le j) (List.mem_range.mp hj) g
    refine ⟨some (.int (nI w)), h, ?_, hi, rfl, ⟨_, List.mem_singleton.mpr rfl, ⟨_, rfl, a_vi rfl (a_I_ok (by omega) (by omega))⟩, a_fp0⟩, fun _ _ _ _ => rfl⟩
    refine xR_u (stop := 4) 10 d _ _ rfl ?_
    exact k
end XB5
