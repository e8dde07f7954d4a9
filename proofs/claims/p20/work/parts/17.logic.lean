section XLG
/-- more steps do no harm -/
theorem xe_x_more {M : Nat → Option xm_M} {Cd : Nat → Nat → Option xr_R} : ∀ (f : Nat) (scr : Option (Nat × (Nat → Int32))) (d mid : Nat) (mi : xm_M) (st : xs_S) (o : Option Value × xh_H × Nat × Nat), xe_x M Cd scr f d mid mi st = some o → xe_x M Cd scr (f + 1) d mid mi st = some o := by
  intro f
  induction f with
  | zero => intro scr d mid mi st o he; cases he
  | succ f ih =>
    intro scr d mid mi st o he
    obtain ⟨pc, lv, st, h, c, s⟩ := st
    unfold xe_x at he ⊢
    cases hr : Cd mid pc with
    | none => rw [hr] at he; cases he
    | some r =>
      rw [hr] at he
      dsimp only at he ⊢
      cases hi : xe_isr r.1 with
      | true => rw [hi] at he; exact he
      | false =>
        rw [hi] at he
        simp only [cond_false] at he ⊢
        cases h2 : xe_2 scr mi.2.2.2.1 r d pc lv st h c s with
        | some o1 =>
          rw [h2] at he
          exact ih _ _ _ _ _ _ he
        | none =>
          rw [h2] at he
          dsimp only at he ⊢
          cases d with
          | zero => cases he
          | succ d' =>
            dsimp only at he ⊢
            cases hcl : xe_cl M r st h with
            | none => rw [hcl] at he; cases he
            | some t =>
              obtain ⟨mj, As, q⟩ := t
              rw [hcl] at he
              dsimp only at he ⊢
              cases hx : xe_x M Cd none f d' r.2.2.1 mj (0, lv_args 0 As, [], h, 0, 0) with
              | none => rw [hx] at he; cases he
              | some t =>
                obtain ⟨v, h', mc, ms⟩ := t
                rw [hx] at he
                rw [ih _ _ _ _ _ _ hx]
                exact ih _ _ _ _ _ _ he
theorem xe_x_le {M : Nat → Option xm_M} {Cd : Nat → Nat → Option xr_R} {f g : Nat} (hfg : f ≤ g) {scr : Option (Nat × (Nat → Int32))} {d mid : Nat} {mi : xm_M} {st : xs_S} {o : Option Value × xh_H × Nat × Nat} (h : xe_x M Cd scr f d mid mi st = some o) : xe_x M Cd scr g d mid mi st = some o := by
  induction hfg with
  | refl => exact h
  | step _ ih => exact xe_x_more _ _ _ _ _ _ _ ih
/-- A RUN COMES TO ITS END: the words of our proofs -/
def xR (scr : Option (Nat × (Nat → Int32))) (d mid : Nat) (mi : xm_M) (st : xs_S) (o : Option Value × xh_H × Nat × Nat) : Prop := ∃ f : Nat, xe_x xM xC scr f d mid mi st = some o
variable {scr : Option (Nat × (Nat → Int32))} {d mid : Nat} {mi : xm_M} {pc : Nat} {lv : List (Nat × Value)} {st : List Value} {h : xh_H} {c s : Nat} {o : Option Value × xh_H × Nat × Nat} {r : xr_R}
theorem xR_step {o1 : xs_S} (hr : xC mid pc = some r) (hi : xe_isr r.1 = false) (h2 : xe_2 scr mi.2.2.2.1 r d pc lv st h c s = some o1) (k : xR scr d mid mi o1 o) : xR scr d mid mi (pc, lv, st, h, c, s) o := by
  obtain ⟨f, hf⟩ := k
  refine ⟨f + 1, ?_⟩
  unfold xe_x
  rw [hr]
  dsimp only
  rw [hi]
  simp only [cond_false]
  rw [h2]
  exact hf
theorem xR_ret {v : Option Value} (hr : xC mid pc = some r) (hi : xe_isr r.1 = true) (hv : xe_rv r.1 mi.2.2.2.2.1 st = some v) : xR scr d mid mi (pc, lv, st, h, c, s) (v, h, c, s) := by
  refine ⟨1, ?_⟩
  unfold xe_x
  rw [hr]
  dsimp only
  rw [hi]
  simp only [cond_true]
  rw [hv]
  rfl
theorem xR_call {mj : xm_M} {As q : List Value} {v : Option Value} {h' : xh_H} {mc ms : Nat} (hr : xC mid pc = some r) (hi : xe_isr r.1 = false) (h2 : xe_2 scr mi.2.2.2.1 r (d + 1) pc lv st h c s = none) (hcl : xe_cl xM r st h = some (mj, As, q)) (hm : xR none d r.2.2.1 mj (0, lv_args 0 As, [], h, 0, 0) (v, h', mc, ms)) (k : xR scr (d + 1) mid mi (pc + 3, lv, v.toList ++ q, h', c + mc, s + ms) o) : xR scr (d + 1) mid mi (pc, lv, st, h, c, s) o := by
  obtain ⟨f1, hf1⟩ := hm
  obtain ⟨f2, hf2⟩ := k
  refine ⟨(f1 + f2) + 1, ?_⟩
  unfold xe_x
  rw [hr]
  dsimp only
  rw [hi]
  simp only [cond_false]
  rw [h2]
  dsimp only
  rw [hcl]
  dsimp only
  rw [xe_x_le (Nat.le_add_right f1 f2) hf1]
  exact xe_x_le (Nat.le_add_left f2 f1) hf2
/-- a closed run, by the kernel -/
theorem xR_of {f : Nat} {S : xs_S} (h : xe_x xM xC scr f d mid mi S = some o) : xR scr d mid mi S o := ⟨f, h⟩
end XLG
