section XAD
def xs_ad (c s : Nat) (o : xs_S) : xs_S := (o.1, o.2.1, o.2.2.1, o.2.2.2.1, c + o.2.2.2.2.1, s + o.2.2.2.2.2)
theorem cd_map {α β : Type} {f : α → β} {b : Bool} {x y : Option α} : (cond b x y).map f = cond b (x.map f) (y.map f) := by cases b <;> rfl
set_option maxHeartbeats 4000000 in
theorem xe_1_ad {nL : Nat} {r : xr_R} {pc : Nat} {lv : List (Nat × Value)} {st : List Value} {h : xh_H} {c s c0 s0 : Nat} : xe_1 nL r pc lv st h (c + c0) (s + s0) = (xe_1 nL r pc lv st h c0 s0).map (xs_ad c s) := by
  unfold xe_1
  split <;> (try unfold xe_ld) <;> (try unfold xe_st1) <;> (try unfold xe_st2) <;> (try unfold xp_ii) <;> (try unfold xp_ll) <;> (try unfold xp_il) <;> (try unfold xp_i) <;> (try unfold xp_l) <;> (try unfold xp_r) <;> (try unfold xp_vr) <;> (try unfold xp_ir) <;> (try unfold xp_iir) <;> (try unfold xp_lir) <;> (try unfold xp_rir) <;> (repeat' split) <;> (try dsimp only) <;> (repeat' split) <;> (try dsimp only) <;> first | rfl | (simp only [cd_map, Option.map_some, Option.map_none, Option.map_map, xs_ad, Nat.add_assoc]; done) | (simp only [cd_map, Option.map_some, Option.map_none, Option.map_map, xs_ad, Nat.add_assoc]; rfl) | (simp only [cd_map, Option.map_some, Option.map_none, Option.map_map, xs_ad, Nat.add_assoc]; split <;> simp only [cd_map, Option.map_some, Option.map_none, Option.map_map, xs_ad, Nat.add_assoc])
theorem xe_o_ad {scr : Option (Nat × (Nat → Int32))} {r : xr_R} {pc : Nat} {lv : List (Nat × Value)} {st : List Value} {h : xh_H} {c s c0 s0 : Nat} : xe_o scr r pc lv st h (c + c0) (s + s0) = (xe_o scr r pc lv st h c0 s0).map (xs_ad c s) := by
  unfold xe_o
  split <;> (repeat' split) <;> first | rfl | (simp only [cd_map, Option.map_some, Option.map_none, xs_ad])
theorem xe_oi_ad {r : xr_R} {pc d : Nat} {lv : List (Nat × Value)} {st : List Value} {h : xh_H} {c s c0 s0 : Nat} : xe_oi r pc d lv st h (c + c0) (s + s0) = (xe_oi r pc d lv st h c0 s0).map (xs_ad c s) := by
  unfold xe_oi
  split <;> (repeat' split) <;> first | rfl | (simp only [cd_map, Option.map_some, Option.map_none, xs_ad])
theorem xe_2_ad {scr : Option (Nat × (Nat → Int32))} {nL : Nat} {r : xr_R} {d pc : Nat} {lv : List (Nat × Value)} {st : List Value} {h : xh_H} {c s c0 s0 : Nat} : xe_2 scr nL r d pc lv st h (c + c0) (s + s0) = (xe_2 scr nL r d pc lv st h c0 s0).map (xs_ad c s) := by
  unfold xe_2
  rw [xe_1_ad, xe_o_ad, xe_oi_ad]
  cases xe_1 nL r pc lv st h c0 s0 with
  | some o => rfl
  | none =>
    cases xe_o scr r pc lv st h c0 s0 with
    | some o => rfl
    | none => rfl
/-- what was made before a run only adds to what it makes -/
theorem xe_x_ad {scr : Option (Nat × (Nat → Int32))} {mid : Nat} {mi : xm_M} : ∀ (f d pc : Nat) (lv : List (Nat × Value)) (st : List Value) (h : xh_H) (c0 s0 : Nat) (v : Option Value) (h' : xh_H) (c' s' : Nat), xe_x xM xC scr f d mid mi (pc, lv, st, h, c0, s0) = some (v, h', c', s') → ∀ c s, xe_x xM xC scr f d mid mi (pc, lv, st, h, c + c0, s + s0) = some (v, h', c + c', s + s') := by
  intro f
  induction f with
  | zero => intro d pc lv st h c0 s0 v h' c' s' he; cases he
  | succ f ih =>
    intro d pc lv st h c0 s0 v h' c' s' he c s
    unfold xe_x at he ⊢
    cases hr : xC mid pc with
    | none => rw [hr] at he; cases he
    | some r =>
      rw [hr] at he
      dsimp only at he ⊢
      cases hi : xe_isr r.1 with
      | true =>
        rw [hi] at he
        simp only [cond_true] at he ⊢
        cases hv : xe_rv r.1 mi.2.2.2.2.1 st with
        | none => rw [hv] at he; cases he
        | some w => rw [hv] at he; cases he; rfl
      | false =>
        rw [hi] at he
        simp only [cond_false] at he ⊢
        rw [xe_2_ad]
        cases h2 : xe_2 scr mi.2.2.2.1 r d pc lv st h c0 s0 with
        | some o =>
          rw [h2] at he
          obtain ⟨pc1, lv1, st1, h1, c1, s1⟩ := o
          exact ih _ _ _ _ _ _ _ _ _ _ _ he c s
        | none =>
          rw [h2] at he
          dsimp only [Option.map_none] at he ⊢
          cases d with
          | zero => cases he
          | succ d' =>
            dsimp only at he ⊢
            cases hcl : xe_cl xM r st h with
            | none => rw [hcl] at he; cases he
            | some t =>
              obtain ⟨mj, As, q⟩ := t
              rw [hcl] at he
              dsimp only at he ⊢
              cases hx : xe_x xM xC none f d' r.2.2.1 mj (0, lv_args 0 As, [], h, 0, 0) with
              | none => rw [hx] at he; cases he
              | some t =>
                obtain ⟨v1, h1, mc, ms⟩ := t
                rw [hx] at he
                dsimp only at he ⊢
                rw [Nat.add_assoc, Nat.add_assoc]
                exact ih _ _ _ _ _ _ _ _ _ _ _ he c s
theorem xR_ad {scr : Option (Nat × (Nat → Int32))} {d mid : Nat} {mi : xm_M} {pc : Nat} {lv : List (Nat × Value)} {st : List Value} {h h' : xh_H} {v : Option Value} {c' s' : Nat} (k : xR scr d mid mi (pc, lv, st, h, 0, 0) (v, h', c', s')) (c s : Nat) : xR scr d mid mi (pc, lv, st, h, c, s) (v, h', c + c', s + s') := by
  obtain ⟨f, hf⟩ := k
  exact ⟨f, xe_x_ad f _ _ _ _ _ _ _ _ _ _ _ hf c s⟩
end XAD
