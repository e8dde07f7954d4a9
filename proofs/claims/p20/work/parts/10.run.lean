section XRUN
theorem xe_2_mono {scr : Option (Nat × (Nat → Int32))} {nL : Nat} {r : xr_R} {d pc : Nat} {lv : List (Nat × Value)} {st : List Value} {h : xh_H} {c s : Nat} {pc' : Nat} {lv' : List (Nat × Value)} {st' : List Value} {h' : xh_H} {c' s' : Nat} (he : xe_2 scr nL r d pc lv st h c s = some (pc', lv', st', h', c', s')) : c ≤ c' ∧ s ≤ s' := by
  unfold xe_2 at he
  split at he
  · rename_i o h1
    cases he
    exact xe_1_mono h1
  · split at he
    · rename_i o h1
      cases he
      unfold xe_o at h1
      repeat' split at h1
      all_goals first
        | (cases h1; done)
        | (cases h1; exact ⟨Nat.le_refl _, Nat.le_refl _⟩)
        | (obtain ⟨_, h3⟩ := xw_c h1; cases h3; exact ⟨Nat.le_refl _, Nat.le_refl _⟩)
    · unfold xe_oi at he
      repeat' split at he
      all_goals first
        | (cases he; done)
        | (cases he; exact ⟨Nat.le_refl _, Nat.le_refl _⟩)
        | (obtain ⟨_, h3⟩ := xw_c he; cases h3; exact ⟨Nat.le_refl _, Nat.le_refl _⟩)
theorem xe_x_mono {M : Nat → Option xm_M} {Cd : Nat → Nat → Option xr_R} : ∀ (f : Nat) (scr : Option (Nat × (Nat → Int32))) (d mid : Nat) (mi : xm_M) (pc : Nat) (lv : List (Nat × Value)) (st : List Value) (h : xh_H) (c s : Nat) (v : Option Value) (h' : xh_H) (c' s' : Nat), xe_x M Cd scr f d mid mi (pc, lv, st, h, c, s) = some (v, h', c', s') → c ≤ c' ∧ s ≤ s' := by
  intro f
  induction f with
  | zero => intro scr d mid mi pc lv st h c s v h' c' s' he; cases he
  | succ f ih =>
    intro scr d mid mi pc lv st h c s v h' c' s' he
    unfold xe_x at he
    split at he
    · cases he
    · rename_i r hr
      cases hi : xe_isr r.1 with
      | true =>
        rw [hi] at he
        obtain ⟨v1, _, h2⟩ := Option.map_eq_some_iff.mp (show Option.map _ _ = _ from he)
        cases h2
        exact ⟨Nat.le_refl _, Nat.le_refl _⟩
      | false =>
        rw [hi] at he
        simp only [cond_false] at he
        split at he
        · rename_i o ho
          obtain ⟨pc1, lv1, st1, h1, c1, s1⟩ := o
          have a := xe_2_mono ho
          have b := ih _ _ _ _ _ _ _ _ _ _ _ _ _ _ he
          exact ⟨Nat.le_trans a.1 b.1, Nat.le_trans a.2 b.2⟩
        · split at he
          · cases he
          · split at he
            · cases he
            · split at he
              · cases he
              · have b := ih _ _ _ _ _ _ _ _ _ _ _ _ _ _ he
                exact ⟨Nat.le_trans (Nat.le_add_right _ _) b.1, Nat.le_trans (Nat.le_add_right _ _) b.2⟩
end XRUN
