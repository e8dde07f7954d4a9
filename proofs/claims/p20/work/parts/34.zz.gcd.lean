section XB3
/-- CarryHouse.commonDivisor: a hundred steps of Euclid's at most -/
def aC_gcd : aC := (xi_X9_commonDivisor, 0, [(1, -9223372036854775808, 9223372036854775807, none, [], []), (1, -9223372036854775808, 9223372036854775807, none, [], [])], [(some (1, -9223372036854775808, 9223372036854775807, none, [], []), [])], [], [])
theorem gc_ne {y : Int64} (z : xe_c .eq (lg_cmp y 0) 0 = false) : decide (y = 0) = false := by
  rw [decide_eq_false_iff_not]
  intro e
  subst e
  revert z
  decide
set_option maxRecDepth 100000 in
set_option maxHeartbeats 4000000 in
theorem gc_turn {d : Nat} {h : xh_H} {i : Nat} {x y : Int64} {R : List (Nat × Value)} (hR : ∃ a b, R = [(0, .long a), (2, .long b)] ∨ ∃ c, R = [(9, .long c), (0, .long a), (2, .long b)]) (hi : i < 100) (k0 : ∃ w, xR none d xi_X9_commonDivisor xmi_X9_commonDivisor (44, [(8, .int (nI i)), (6, .long y), (4, .long x)] ++ R, [], h, 0, 0) (some (.long w), h, 0, 0)) (k1 : ∀ z c a b, ∃ w, xR none d xi_X9_commonDivisor xmi_X9_commonDivisor (9, [(8, .int (nI (i + 1))), (6, .long z), (4, .long y)] ++ [(9, .long c), (0, .long a), (2, .long b)], [], h, 0, 0) (some (.long w), h, 0, 0)) : ∃ w, xR none d xi_X9_commonDivisor xmi_X9_commonDivisor (9, [(8, .int (nI i)), (6, .long y), (4, .long x)] ++ R, [], h, 0, 0) (some (.long w), h, 0, 0) := by
  by_cases hy : y = 0
  · obtain ⟨w, k0⟩ := k0
    refine ⟨w, ?_⟩
    obtain ⟨a, b, rfl | ⟨c, rfl⟩⟩ := hR
    all_goals
      refine xR_u (stop := 13) 10 d _ _ rfl ?_
      refine xR_ic (x := nI i) (y := (100 : Int32)) rfl (fun _ => k0) (fun _ => ?_)
      refine xR_u (stop := 20) 10 d _ _ rfl ?_
      refine xR_if (x := lg_cmp y 0) rfl (fun _ => k0) (fun z => ?_)
      have := of_decide_eq_false (gc_ne z)
      exact absurd hy this
  · obtain ⟨a, b, hR⟩ := hR
    obtain ⟨w0, k0⟩ := k0
    by_cases hc : lg_cmp y 0 = 0
    · refine ⟨w0, ?_⟩
      rcases hR with rfl | ⟨c, rfl⟩
      all_goals
        refine xR_u (stop := 13) 10 d _ _ rfl ?_
        refine xR_ic (x := nI i) (y := (100 : Int32)) rfl (fun _ => k0) (fun _ => ?_)
        refine xR_u (stop := 20) 10 d _ _ rfl ?_
        refine xR_if (x := lg_cmp y 0) rfl (fun _ => k0) (fun z => ?_)
        simp [xe_c, hc] at z
    · obtain ⟨w, k1⟩ := k1 (x - x / y * y) (x - x / y * y) a b
      refine ⟨w, ?_⟩
      have hz : ¬ (100 : Int32) ≤ nI i := nI_ge (a := i) (b := 100) hi (by decide)
      have hd : decide (y = 0) = false := decide_eq_false hy
      rcases hR with rfl | ⟨c, rfl⟩
      all_goals
        refine xR_u (stop := 13) 10 d _ _ rfl ?_
        refine xR_ic (x := nI i) (y := (100 : Int32)) rfl (fun z => absurd (of_decide_eq_true z) hz) (fun _ => ?_)
        refine xR_u (stop := 20) 10 d _ _ rfl ?_
        refine xR_if (x := lg_cmp y 0) rfl (fun z => absurd (of_decide_eq_true z) hc) (fun _ => ?_)
        refine xR_u (stop := 27) 10 d _ _ rfl ?_
        refine xR_step (o1 := (28, _, .long (x - x / y * y) :: [], h, 0, 0)) rfl rfl (by
          unfold xe_2 xe_1 xp_ll
          dsimp only
          rw [hd]
          rfl) ?_
        refine xR_u (stop := 41) 10 d _ _ rfl ?_
        refine xR_u (stop := 9) 10 d _ _ rfl ?_
        have e : nI (i + 1) = nI i + Int32.ofInt 1 := (nI_1 i).symm
        rw [e] at k1
        exact k1
set_option maxRecDepth 100000 in
set_option maxHeartbeats 4000000 in
theorem gc_end {d : Nat} {h : xh_H} {i : Nat} {x y : Int64} {R : List (Nat × Value)} (hR : ∃ a b, R = [(0, .long a), (2, .long b)] ∨ ∃ c, R = [(9, .long c), (0, .long a), (2, .long b)]) : ∃ w, xR none d xi_X9_commonDivisor xmi_X9_commonDivisor (44, [(8, .int (nI i)), (6, .long y), (4, .long x)] ++ R, [], h, 0, 0) (some (.long w), h, 0, 0) := by
  obtain ⟨a, b, rfl | ⟨c, rfl⟩⟩ := hR
  · exact ⟨x, 5, rfl⟩
  · exact ⟨x, 5, rfl⟩
set_option maxRecDepth 100000 in
set_option maxHeartbeats 4000000 in
theorem gc_loop {d : Nat} {h : xh_H} : ∀ (n i : Nat) (x y : Int64) (R : List (Nat × Value)), (∃ a b, R = [(0, .long a), (2, .long b)] ∨ ∃ c, R = [(9, .long c), (0, .long a), (2, .long b)]) → i + n = 100 → ∃ w, xR none d xi_X9_commonDivisor xmi_X9_commonDivisor (9, [(8, .int (nI i)), (6, .long y), (4, .long x)] ++ R, [], h, 0, 0) (some (.long w), h, 0, 0) := by
  intro n
  induction n with
  | zero =>
    intro i x y R hR hi
    have e : i = 100 := by omega
    subst e
    obtain ⟨w, k0⟩ := gc_end (d := d) (h := h) (i := 100) (x := x) (y := y) hR
    refine ⟨w, ?_⟩
    obtain ⟨a, b, rfl | ⟨c, rfl⟩⟩ := hR
    all_goals
      refine xR_u (stop := 13) 10 d _ _ rfl ?_
      refine xR_ic (x := nI 100) (y := (100 : Int32)) rfl (fun _ => k0) (fun z => ?_)
      exact absurd z (by decide)
  | succ n ih =>
    intro i x y R hR hi
    exact gc_turn hR (by omega) (gc_end hR) (fun z c a b => ih (i + 1) y z _ ⟨a, b, Or.inr ⟨c, rfl⟩⟩ (by omega))
set_option maxRecDepth 100000 in
theorem as_gcd {tb : aT} : a_spec tb aC_gcd := by
  intro d mi vs h σ _ hM hi hn ha _
  cases hM
  match vs, ha with
  | [v1, v2], ha =>
    obtain ⟨⟨x, rfl, _⟩, ⟨y, rfl, _⟩, -⟩ := ha
    obtain ⟨w, k⟩ := gc_loop (d := d) (h := h) 100 0 x y [(0, .long x), (2, .long y)] ⟨x, y, Or.inl rfl⟩ rfl
    refine ⟨some (.long w), h, ?_, hi, rfl, ⟨_, List.mem_singleton.mpr rfl, ⟨_, rfl, a_lt_ok w⟩, a_fp0⟩, fun _ _ _ _ => rfl⟩
    refine xR_u (stop := 9) 10 d _ _ rfl ?_
    exact k
end XB3
