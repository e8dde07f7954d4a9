section XB4
theorem rem_t (x y : Int64) : (x - x / y * y).toInt = x.toInt.tmod y.toInt := by
  rw [Int64.toInt_sub, Int64.toInt_mul, Int64.toInt_div]
  have e : x.toInt - x.toInt.tdiv y.toInt * y.toInt = (x % y).toInt := by rw [Int64.toInt_mod, Int.tmod_def, Int.mul_comm]
  simp only [Int.bmod_mul_bmod, Int.sub_bmod_bmod]
  rw [e, ← Int64.toInt_mod]
  exact Int64.toInt_bmod _
theorem rem_lt {x y : Int64} (hy : ¬ y = 0) : (x - x / y * y).toInt.natAbs < y.toInt.natAbs := by
  rw [rem_t, Int.natAbs_tmod]
  have h : y.toInt ≠ 0 := fun e => hy (Int64.toInt_inj.mp e)
  exact Nat.mod_lt _ (by omega)
def le_R (a b : Int64) (R : List (Nat × Value)) : Prop := R = [(0, .ref 39), (1, .long a), (3, .long b)] ∨ ∃ c, R = [(9, .long c), (0, .ref 39), (1, .long a), (3, .long b)]
theorem lc_ne {y : Int64} (z : xe_c .eq (lg_cmp y 0) 0 = false) : ¬ y = 0 := of_decide_eq_false (gc_ne z)
theorem lc_eq {y : Int64} (z : xe_c .eq (lg_cmp y 0) 0 = true) : lg_cmp y 0 = 0 := of_decide_eq_true z
set_option maxRecDepth 100000 in
set_option maxHeartbeats 4000000 in
theorem le_loop {d : Nat} {h : xh_H} {a b : Int64} {P : Option Value × xh_H × Nat × Nat → Prop} (kk : ∀ x y R, (¬ a = 0 → ¬ x = 0) → le_R a b R → ∃ o, P o ∧ xR none d xi_X10_lessen xmi_X10_lessen (31, [(7, .long y), (5, .long x)] ++ R, [], h, 0, 0) o) : ∀ (N : Nat) (x y : Int64) (R : List (Nat × Value)), y.toInt.natAbs < N → (¬ a = 0 → ¬ x = 0) → le_R a b R → ∃ o, P o ∧ xR none d xi_X10_lessen xmi_X10_lessen (6, [(7, .long y), (5, .long x)] ++ R, [], h, 0, 0) o := by
  intro N
  induction N with
  | zero => intro x y R hN; omega
  | succ N ih =>
    intro x y R hN hx hR
    cases hc : xe_c .eq (lg_cmp y 0) 0 with
    | true =>
      obtain ⟨o, ho, k0⟩ := kk x y R hx hR
      refine ⟨o, ho, ?_⟩
      rcases hR with rfl | ⟨c, rfl⟩
      all_goals
        refine xR_u (stop := 10) 10 d _ _ rfl ?_
        refine xR_if (x := lg_cmp y 0) rfl (fun _ => k0) (fun z => (by rw [hc] at z; cases z))
    | false =>
      have hy := lc_ne hc
      have hl := rem_lt (x := x) hy
      have hd : decide (y = 0) = false := decide_eq_false hy
      obtain ⟨o, ho, k1⟩ := ih y (x - x / y * y) [(9, .long (x - x / y * y)), (0, .ref 39), (1, .long a), (3, .long b)] (by omega) (fun _ => hy) (Or.inr ⟨_, rfl⟩)
      refine ⟨o, ho, ?_⟩
      rcases hR with rfl | ⟨c, rfl⟩
      all_goals
        refine xR_u (stop := 10) 10 d _ _ rfl ?_
        refine xR_if (x := lg_cmp y 0) rfl (fun z => (by rw [hc] at z; cases z)) (fun _ => ?_)
        refine xR_u (stop := 17) 10 d _ _ rfl ?_
        refine xR_step (o1 := (18, _, .long (x - x / y * y) :: [], h, 0, 0)) rfl rfl (by
          unfold xe_2 xe_1 xp_ll
          dsimp only
          rw [hd]
          rfl) ?_
        refine xR_u (stop := 6) 10 d _ _ rfl ?_
        exact k1
theorem lc_n1 {y : Int64} (z : xe_c .ne (lg_cmp y 0) 0 = true) : ¬ y = 0 := by
  intro e
  subst e
  revert z
  decide
set_option maxRecDepth 100000 in
set_option maxHeartbeats 4000000 in
theorem le_e1 {d : Nat} {h : xh_H} {a b x y : Int64} {R : List (Nat × Value)} (hs : h.1[39]? = some (0, 10)) (hx : ¬ a = 0 → ¬ x = 0) (hR : le_R a b R) : ∃ v, ∀ o, xR none d xi_X10_lessen xmi_X10_lessen (49, [(7, .long y), (5, .long x)] ++ R, [], xh_ul h 39 36 v, 0, 0) o → xR none d xi_X10_lessen xmi_X10_lessen (31, [(7, .long y), (5, .long x)] ++ R, [], h, 0, 0) o := by
  have hput : ∀ (lv : List (Nat × Value)) (v : Int64), xe_2 none xmi_X10_lessen.2.2.2.1 (.putfield 333, 3, 10, 36, (xC xi_X10_lessen 46).get!.2.2.2.2) d 46 lv [.long v, .ref 39] h 0 0 = some (49, lv, [], xh_ul h 39 36 v, 0, 0) := by
    intro lv v
    unfold xe_2 xe_1 xp_vr
    dsimp only
    rw [hs]
    rfl
  cases hc : xe_c .ne (lg_cmp a 0) 0 with
  | true =>
    have hd : decide (x = 0) = false := decide_eq_false (hx (lc_n1 hc))
    refine ⟨a / x, fun o k => ?_⟩
    rcases hR with rfl | ⟨c, rfl⟩
    all_goals
      refine xR_u (stop := 35) 10 d _ _ rfl ?_
      refine xR_if (x := lg_cmp a 0) rfl (fun _ => ?_) (fun z => (by rw [hc] at z; cases z))
      refine xR_u (stop := 45) 10 d _ _ rfl ?_
      refine xR_step (o1 := (46, _, [.long (a / x), .ref 39], h, 0, 0)) rfl rfl (by
        unfold xe_2 xe_1 xp_ll
        dsimp only
        rw [hd]
        rfl) ?_
      exact xR_step rfl rfl (hput _ _) k
  | false =>
    refine ⟨0, fun o k => ?_⟩
    rcases hR with rfl | ⟨c, rfl⟩
    all_goals
      refine xR_u (stop := 35) 10 d _ _ rfl ?_
      refine xR_if (x := lg_cmp a 0) rfl (fun z => (by rw [hc] at z; cases z)) (fun _ => ?_)
      refine xR_u (stop := 46) 10 d _ _ rfl ?_
      exact xR_step rfl rfl (hput _ _) k
set_option maxRecDepth 100000 in
set_option maxHeartbeats 4000000 in
theorem le_e2 {d : Nat} {h : xh_H} {a b x y : Int64} {R : List (Nat × Value)} (hs : h.1[39]? = some (0, 10)) (hx : ¬ a = 0 → ¬ x = 0) (hR : le_R a b R) : ∃ w, xR none d xi_X10_lessen xmi_X10_lessen (49, [(7, .long y), (5, .long x)] ++ R, [], h, 0, 0) (none, xh_ul h 39 37 w, 0, 0) := by
  have hput : ∀ (lv : List (Nat × Value)) (v : Int64), xe_2 none xmi_X10_lessen.2.2.2.1 (.putfield 336, 3, 10, 37, (xC xi_X10_lessen 64).get!.2.2.2.2) d 64 lv [.long v, .ref 39] h 0 0 = some (67, lv, [], xh_ul h 39 37 v, 0, 0) := by
    intro lv v
    unfold xe_2 xe_1 xp_vr
    dsimp only
    rw [hs]
    rfl
  cases hc : xe_c .ne (lg_cmp a 0) 0 with
  | true =>
    have hd : decide (x = 0) = false := decide_eq_false (hx (lc_n1 hc))
    refine ⟨b / x, ?_⟩
    rcases hR with rfl | ⟨c, rfl⟩
    all_goals
      refine xR_u (stop := 53) 10 d _ _ rfl ?_
      refine xR_if (x := lg_cmp a 0) rfl (fun _ => ?_) (fun z => (by rw [hc] at z; cases z))
      refine xR_u (stop := 63) 10 d _ _ rfl ?_
      refine xR_step (o1 := (64, _, [.long (b / x), .ref 39], h, 0, 0)) rfl rfl (by
        unfold xe_2 xe_1 xp_ll
        dsimp only
        rw [hd]
        rfl) ?_
      exact xR_step rfl rfl (hput _ _) ⟨2, rfl⟩
  | false =>
    refine ⟨1, ?_⟩
    rcases hR with rfl | ⟨c, rfl⟩
    all_goals
      refine xR_u (stop := 53) 10 d _ _ rfl ?_
      refine xR_if (x := lg_cmp a 0) rfl (fun z => (by rw [hc] at z; cases z)) (fun _ => ?_)
      refine xR_u (stop := 64) 10 d _ _ rfl ?_
      exact xR_step rfl rfl (hput _ _) ⟨2, rfl⟩
/-- CarryHouseModel.lessen -/
def aC_les : aC := (xi_X10_lessen, 0, [(2, 39, 0, none, [], []), (1, -9223372036854775808, 9223372036854775807, none, [], []), (1, -9223372036854775808, 9223372036854775807, none, [], [])], [(none, [])], [], [])
theorem le_top (v : Int64) : -9223372036854775808 ≤ v.toInt ∧ v.toInt ≤ 9223372036854775807 := by
  have h1 := v.le_toInt
  have h2 := v.toInt_lt
  omega
set_option maxRecDepth 100000 in
theorem as_les : a_spec a_tb aC_les := by
  intro d mi vs h σ _ hM hi hn ha _
  cases hM
  match vs, ha with
  | [v0, v1, v2], ha =>
    obtain ⟨⟨q, rfl, hq⟩, ⟨x, rfl, _⟩, ⟨y, rfl, _⟩, -⟩ := ha
    have eq : q = 39 := a_r_ob (t := 39) (by decide) hq
    subst eq
    have hs : h.1[39]? = some (0, 10) := a_sh_at hi hq (by decide)
    have ht : a_tg 39 = 39 := rfl
    have fin : ∀ v w, a_post a_tb h aC_les.2.2.2.2.1 (a_sg [.ref 39, .long x, .long y]) aC_les.2.2.2.1 none (xh_ul (xh_ul h 39 36 v) 39 37 w) := by
      intro v w
      have i1 : a_inv a_tb (xh_ul h 39 36 v) := a_inv_ul (s := (0, 10)) (lo := -9223372036854775808) (hi := 9223372036854775807) hi hs (by decide +kernel) (le_top v).1 (le_top v).2
      have i2 : a_inv a_tb (xh_ul (xh_ul h 39 36 v) 39 37 w) := a_inv_ul (s := (0, 10)) (lo := -9223372036854775808) (hi := 9223372036854775807) i1 hs (by decide +kernel) (le_top w).1 (le_top w).2
      exact ⟨i2, rfl, ⟨_, List.mem_singleton.mpr rfl, rfl, a_fp0⟩, fun _ _ _ _ => rfl⟩
    obtain ⟨o, ⟨v, w, rfl⟩, k⟩ := le_loop (d := d) (h := h) (a := x) (b := y) (P := fun o => ∃ v w, o = (none, xh_ul (xh_ul h 39 36 v) 39 37 w, 0, 0)) (fun x' y' R hx hR => by
      obtain ⟨v, k1⟩ := le_e1 (d := d) (y := y') hs hx hR
      obtain ⟨w, k2⟩ := le_e2 (d := d) (h := xh_ul h 39 36 v) (y := y') hs hx hR
      exact ⟨_, ⟨v, w, rfl⟩, k1 _ k2⟩) (y.toInt.natAbs + 1) x y [(0, .ref 39), (1, .long x), (3, .long y)] (Nat.lt_succ_self _) (fun z => z) (Or.inl rfl)
    refine ⟨none, _, ?_, fin v w⟩
    refine xR_u (stop := 6) 10 d _ _ rfl ?_
    exact k
end XB4
