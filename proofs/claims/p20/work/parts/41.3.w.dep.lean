section XDP
/-! what a run comes to doesn't hang on the depth it is allowed -/
theorem xe_oi_d {r : xr_R} {pc d : Nat} {lv : List (Nat × Value)} {st : List Value} {h : xh_H} {c s : Nat} {o : xs_S} (e : xe_oi r pc d lv st h c s = some o) : xe_oi r pc (d + 1) lv st h c s = some o := by
  unfold xe_oi at e ⊢
  split at e
  · split at e
    · split at e
      · exact e
      · cases e
    · split at e
      · exact e
      · cases e
    · cases e
  · split at e
    · split at e
      · cases e
      · exact e
    · cases e
  · split at e
    · split at e
      · cases e
      · exact e
    · cases e
  · cases e
theorem xe_2_d {nL d pc : Nat} {r : xr_R} {lv : List (Nat × Value)} {st : List Value} {h : xh_H} {c s : Nat} {o : xs_S} (e : xe_2 none nL r d pc lv st h c s = some o) : xe_2 none nL r (d + 1) pc lv st h c s = some o := by
  unfold xe_2 at e ⊢
  cases h1 : xe_1 nL r pc lv st h c s with
  | some o1 => rw [h1] at e; exact e
  | none =>
    rw [h1] at e
    dsimp only at e ⊢
    cases h2 : xe_o none r pc lv st h c s with
    | some o1 => rw [h2] at e; exact e
    | none => rw [h2] at e; exact xe_oi_d e
theorem xe_oi_c {r : xr_R} {own : String} {pc d : Nat} {lv : List (Nat × Value)} {st : List Value} {h : xh_H} {c s : Nat} {t : xm_M × List Value × List Value} (hr : xr_c xM own r = true) (hc : xe_cl xM r st h = some t) : xe_oi r pc d lv st h c s = none := by
  obtain ⟨i, len, ra, rb, rK, ri⟩ := r
  unfold xe_cl at hc
  cases hM : xM (i, len, ra, rb, rK, ri).2.2.1 with
  | none => rw [hM] at hc; cases hc
  | some m =>
    rw [hM] at hc
    have hM' : xM ra = some m := hM
    unfold xe_oi
    cases i
    case invokevirtual idx =>
      dsimp only
      unfold xr_c at hr
      dsimp only at hr
      split
      · rw [hM'] at hr
        obtain ⟨-, hr⟩ := xw_bb hr
        cases hr
      · rw [hM'] at hr
        obtain ⟨-, hr⟩ := xw_bb hr
        cases hr
      · rfl
    case invokespecial idx =>
      dsimp only at hc ⊢
      split
      · split at hc
        · obtain ⟨z, -⟩ := xw_c hc
          obtain ⟨z, -⟩ := xw_bb z
          cases z
        · cases hc
      · rfl
    case invokestatic idx =>
      dsimp only at hc ⊢
      split
      · obtain ⟨z, -⟩ := xw_c hc
        obtain ⟨z, -⟩ := xw_bb z
        cases z
      · rfl
    all_goals rfl
theorem xe_cl_M {r : xr_R} {st : List Value} {h : xh_H} {mj : xm_M} {As q : List Value} (e : xe_cl xM r st h = some (mj, As, q)) : ∃ m, xM r.2.2.1 = some m := by
  unfold xe_cl at e
  cases hM : xM r.2.2.1 with
  | none => rw [hM] at e; cases e
  | some m => exact ⟨m, rfl⟩
theorem xe_x_dp : ∀ (f d mid : Nat) (mi : xm_M) (S : xs_S) (R : Option Value × xh_H × Nat × Nat), (∃ m, xM mid = some m) → xe_x xM xC none f d mid mi S = some R → xe_x xM xC none f (d + 1) mid mi S = some R := by
  intro f
  induction f with
  | zero => intro d mid mi S R _ e; cases e
  | succ f ih =>
    intro d mid mi S R hM e
    obtain ⟨pc, lv, st, h, c, s⟩ := S
    unfold xe_x at e ⊢
    cases hr : xC mid pc with
    | none => rw [hr] at e; cases e
    | some r =>
      rw [hr] at e
      dsimp only at e ⊢
      cases hi : xe_isr r.1 with
      | true => rw [hi] at e; exact e
      | false =>
        rw [hi] at e
        simp only [cond_false] at e ⊢
        cases h2 : xe_2 none mi.2.2.2.1 r d pc lv st h c s with
        | some o =>
          rw [h2] at e
          rw [xe_2_d h2]
          exact ih d mid mi o R hM e
        | none =>
          rw [h2] at e
          dsimp only at e
          cases d with
          | zero => cases e
          | succ d' =>
            dsimp only at e
            cases hcl : xe_cl xM r st h with
            | none => rw [hcl] at e; cases e
            | some t =>
              obtain ⟨m, hm⟩ := hM
              have hrc := ((xP.1 mid m hm).2 pc r hr).2
              have h3 : xe_2 none mi.2.2.2.1 r (d' + 1 + 1) pc lv st h c s = none := by
                unfold xe_2 at h2 ⊢
                cases k1 : xe_1 mi.2.2.2.1 r pc lv st h c s with
                | some o => rw [k1] at h2; cases h2
                | none =>
                  rw [k1] at h2
                  dsimp only at h2 ⊢
                  cases k2 : xe_o none r pc lv st h c s with
                  | some o => rw [k2] at h2; cases h2
                  | none => exact xe_oi_c hrc hcl
              rw [h3]
              obtain ⟨mj, As, q⟩ := t
              rw [hcl] at e
              dsimp only at e ⊢
              cases hx : xe_x xM xC none f d' r.2.2.1 mj (0, lv_args 0 As, [], h, 0, 0) with
              | none => rw [hx] at e; cases e
              | some t =>
                obtain ⟨v1, h1, mc, ms⟩ := t
                rw [hx] at e
                rw [ih d' r.2.2.1 mj _ _ (xe_cl_M hcl) hx]
                exact ih (d' + 1) mid mi _ R ⟨m, hm⟩ e
theorem xe_x_ds {f mid : Nat} {mi : xm_M} {S : xs_S} {R : Option Value × xh_H × Nat × Nat} (hM : ∃ m, xM mid = some m) {d : Nat} : ∀ k, xe_x xM xC none f d mid mi S = some R → xe_x xM xC none f (d + k) mid mi S = some R := by
  intro k e
  induction k with
  | zero => exact e
  | succ k ih => exact xe_x_dp _ _ _ _ _ _ hM ih
/-- what a run that is known to end comes to, holds of every run -/
theorem xq_of {f d mid : Nat} {mi : xm_M} {pc : Nat} {lv : List (Nat × Value)} {st : List Value} {h : xh_H} {Q : Option Value → xh_H → Prop} (hM : ∃ m, xM mid = some m) (k : xt_P d mid mi pc lv st h Q) : xq f mid mi pc lv st h Q := by
  intro d' lw v h' c s hs hx
  obtain ⟨v2, h2, r, q⟩ := k
  obtain ⟨f2, hf2⟩ := xR_sb hs r
  have a1 := xe_x_le (Nat.le_add_right f f2) (xe_x_ds hM d hx)
  have a2 := xe_x_le (Nat.le_add_left f2 f) (xe_x_ds hM d' hf2)
  rw [Nat.add_comm d' d] at a1
  rw [a1] at a2
  cases a2
  exact q
end XDP
