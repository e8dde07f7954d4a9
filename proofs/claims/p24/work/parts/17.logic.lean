section
section XLG
/-- more steps do no harm -/
theorem xe_x_more {M : Nat → Option xm_M} {Cd : Nat → Nat → Option xr_R} : ∀ (f : Nat) (scr : Option (Nat × (Nat → Int32))) (d mid : Nat) (mi : xm_M) (st : xs_S) (o : Option Value × xh_H × Nat × Nat), xe_x M Cd scr f d mid mi st = some o → xe_x M Cd scr (f + 1) d mid mi st = some o := by
  intro f
  induction f with
  | zero => intro scr d mid mi st o he; cases he
  | succ f ih =>
    intro scr d mid mi st o he
    obtain ⟨pc, lv, st, h, c, s⟩ := st
    unfold xe_x at he ⊢
    cases hr : Cd mid pc with
    | none => rw [hr] at he; cases he
    | some r =>
      rw [hr] at he
      dsimp only at he ⊢
      cases hi : xe_isr r.1 with
      | true => rw [hi] at he; exact he
      | false =>
        rw [hi] at he
        simp only [cond_false] at he ⊢
        cases h2 : xe_2 scr mi.2.2.2.1 r d pc lv st h c s with
        | some o1 =>
          rw [h2] at he
          exact ih _ _ _ _ _ _ he
        | none =>
          rw [h2] at he
          dsimp only at he ⊢
          cases d with
          | zero => cases he
          | succ d' =>
            dsimp only at he ⊢
            cases hcl : xe_cl M r st h with
            | none => rw [hcl] at he; cases he
            | some t =>
              obtain ⟨mj, As, q⟩ := t
              rw [hcl] at he
              dsimp only at he ⊢
              cases hx : xe_x M Cd none f d' r.2.2.1 mj (0, lv_args 0 As, [], h, 0, 0) with
              | none => rw [hx] at he; cases he
              | some t =>
                obtain ⟨v, h', mc, ms⟩ := t
                rw [hx] at he
                rw [ih _ _ _ _ _ _ hx]
                exact ih _ _ _ _ _ _ he
theorem xe_x_le {M : Nat → Option xm_M} {Cd : Nat → Nat → Option xr_R} {f g : Nat} (hfg : f ≤ g) {scr : Option (Nat × (Nat → Int32))} {d mid : Nat} {mi : xm_M} {st : xs_S} {o : Option Value × xh_H × Nat × Nat} (h : xe_x M Cd scr f d mid mi st = some o) : xe_x M Cd scr g d mid mi st = some o := by
  induction hfg with
  | refl => exact h
  | step _ ih => exact xe_x_more _ _ _ _ _ _ _ ih
/-- A RUN COMES TO ITS END: the words of our proofs -/
def xR (scr : Option (Nat × (Nat → Int32))) (d mid : Nat) (mi : xm_M) (st : xs_S) (o : Option Value × xh_H × Nat × Nat) : Prop := ∃ f : Nat, xe_x xM xC scr f d mid mi st = some o
variable {scr : Option (Nat × (Nat → Int32))} {d mid : Nat} {mi : xm_M} {pc : Nat} {lv : List (Nat × Value)} {st : List Value} {h : xh_H} {c s : Nat} {o : Option Value × xh_H × Nat × Nat} {r : xr_R}
theorem xR_step {o1 : xs_S} (hr : xC mid pc = some r) (hi : xe_isr r.1 = false) (h2 : xe_2 scr mi.2.2.2.1 r d pc lv st h c s = some o1) (k : xR scr d mid mi o1 o) : xR scr d mid mi (pc, lv, st, h, c, s) o := by
  obtain ⟨f, hf⟩ := k
  refine ⟨f + 1, ?_⟩
  unfold xe_x
  rw [hr]
  dsimp only
  rw [hi]
  simp only [cond_false]
  rw [h2]
  exact hf
theorem xR_ret {v : Option Value} (hr : xC mid pc = some r) (hi : xe_isr r.1 = true) (hv : xe_rv r.1 mi.2.2.2.2.1 st = some v) : xR scr d mid mi (pc, lv, st, h, c, s) (v, h, c, s) := by
  refine ⟨1, ?_⟩
  unfold xe_x
  rw [hr]
  dsimp only
  rw [hi]
  simp only [cond_true]
  rw [hv]
  rfl
theorem xR_call {mj : xm_M} {As q : List Value} {v : Option Value} {h' : xh_H} {mc ms : Nat} (hr : xC mid pc = some r) (hi : xe_isr r.1 = false) (h2 : xe_2 scr mi.2.2.2.1 r (d + 1) pc lv st h c s = none) (hcl : xe_cl xM r st h = some (mj, As, q)) (hm : xR none d r.2.2.1 mj (0, lv_args 0 As, [], h, 0, 0) (v, h', mc, ms)) (k : xR scr (d + 1) mid mi (pc + 3, lv, v.toList ++ q, h', c + mc, s + ms) o) : xR scr (d + 1) mid mi (pc, lv, st, h, c, s) o := by
  obtain ⟨f1, hf1⟩ := hm
  obtain ⟨f2, hf2⟩ := k
  refine ⟨(f1 + f2) + 1, ?_⟩
  unfold xe_x
  rw [hr]
  dsimp only
  rw [hi]
  simp only [cond_false]
  rw [h2]
  dsimp only
  rw [hcl]
  dsimp only
  rw [xe_x_le (Nat.le_add_right f1 f2) hf1]
  exact xe_x_le (Nat.le_add_left f2 f1) hf2
/-- a closed run, by the kernel -/
theorem xR_of {f : Nat} {S : xs_S} (h : xe_x xM xC scr f d mid mi S = some o) : xR scr d mid mi S o := ⟨f, h⟩
end XLG
end
section
section XSG
/-- a run up to a place of its own frame -/
def xe_u (M : Nat → Option xm_M) (Cd : Nat → Nat → Option xr_R) (scr : Option (Nat × (Nat → Int32))) (stop : Nat) : Nat → Nat → Nat → xm_M → xs_S → Option xs_S
  | 0, _, _, _, _ => none
  | f + 1, d, mid, mi, (pc, lv, st, h, c, s) => cond (Nat.beq pc stop) (some (pc, lv, st, h, c, s)) (match Cd mid pc with
    | none => none
    | some r => cond (xe_isr r.1) none
      (match xe_2 scr mi.2.2.2.1 r d pc lv st h c s with
      | some o => xe_u M Cd scr stop f d mid mi o
      | none => (match d with
        | 0 => none
        | d' + 1 => (match xe_cl M r st h with
          | none => none
          | some (mj, As, q) => (match xe_x M Cd none f d' r.2.2.1 mj (0, lv_args 0 As, [], h, 0, 0) with
            | none => none
            | some (v, h', mc, ms) => xe_u M Cd scr stop f (d' + 1) mid mi (pc + 3, lv, v.toList ++ q, h', c + mc, s + ms))))))
variable {scr : Option (Nat × (Nat → Int32))} {mid : Nat} {mi : xm_M} {pc : Nat} {lv : List (Nat × Value)} {st q : List Value} {h : xh_H} {c s : Nat} {o : Option Value × xh_H × Nat × Nat} {r : xr_R}
theorem xR_u {stop : Nat} : ∀ (f d : Nat) (S o1 : xs_S), xe_u xM xC scr stop f d mid mi S = some o1 → xR scr d mid mi o1 o → xR scr d mid mi S o := by
  intro f
  induction f with
  | zero => intro d S o1 he k; cases he
  | succ f ih =>
    intro d S o1 he k
    obtain ⟨pc, lv, st, h, c, s⟩ := S
    unfold xe_u at he
    cases hb : Nat.beq pc stop with
    | true => rw [hb] at he; cases he; exact k
    | false =>
      rw [hb] at he
      simp only [cond_false] at he
      cases hr : xC mid pc with
      | none => rw [hr] at he; cases he
      | some r =>
        rw [hr] at he
        dsimp only at he
        cases hi : xe_isr r.1 with
        | true => rw [hi] at he; cases he
        | false =>
          rw [hi] at he
          simp only [cond_false] at he
          cases h2 : xe_2 scr mi.2.2.2.1 r d pc lv st h c s with
          | some o2 =>
            rw [h2] at he
            exact xR_step hr hi h2 (ih _ _ _ he k)
          | none =>
            rw [h2] at he
            dsimp only at he
            cases d with
            | zero => cases he
            | succ d' =>
              dsimp only at he
              cases hcl : xe_cl xM r st h with
              | none => rw [hcl] at he; cases he
              | some t =>
                obtain ⟨mj, As, q⟩ := t
                rw [hcl] at he
                dsimp only at he
                cases hx : xe_x xM xC none f d' r.2.2.1 mj (0, lv_args 0 As, [], h, 0, 0) with
                | none => rw [hx] at he; cases he
                | some t =>
                  obtain ⟨v, h', mc, ms⟩ := t
                  rw [hx] at he
                  exact xR_call hr hi h2 hcl ⟨f, hx⟩ (ih _ _ _ he k)
variable {d : Nat}
theorem xR_if {k : ClassFile.Cond} {off : Int} {tgt b K i : Nat} {x : Int32} (hr : xC mid pc = some (.ifCond k off, 3, tgt, b, K, i)) (kt : xe_c k x 0 = true → xR scr d mid mi (tgt, lv, q, h, c, s) o) (kf : xe_c k x 0 = false → xR scr d mid mi (pc + 3, lv, q, h, c, s) o) : xR scr d mid mi (pc, lv, .int x :: q, h, c, s) o := by
  cases hb : xe_c k x 0 with
  | true => exact xR_step hr rfl (by simp [xe_2, xe_1, xp_i, hb]) (kt hb)
  | false => exact xR_step hr rfl (by simp [xe_2, xe_1, xp_i, hb]) (kf hb)
theorem xR_ic {k : ClassFile.Cond} {off : Int} {tgt b K i : Nat} {x y : Int32} (hr : xC mid pc = some (.if_icmp k off, 3, tgt, b, K, i)) (kt : xe_c k x y = true → xR scr d mid mi (tgt, lv, q, h, c, s) o) (kf : xe_c k x y = false → xR scr d mid mi (pc + 3, lv, q, h, c, s) o) : xR scr d mid mi (pc, lv, .int y :: .int x :: q, h, c, s) o := by
  cases hb : xe_c k x y with
  | true => exact xR_step hr rfl (by simp [xe_2, xe_1, xp_ii, hb]) (kt hb)
  | false => exact xR_step hr rfl (by simp [xe_2, xe_1, xp_ii, hb]) (kf hb)
/-- a closed run: by the kernel, what it returns and makes; its heap by name -/
def xh_of (t : Option (Option Value × xh_H × Nat × Nat)) : xh_H := match t with
  | some (_, h, _, _) => h
  | none => ([], [], [], [])
def xe_b (t : Option (Option Value × xh_H × Nat × Nat)) (v : Option Value) (c s : Nat) : Bool := match t with
  | some (v', _, c', s') => decide (v' = v) && (Nat.beq c' c && Nat.beq s' s)
  | none => false
theorem xe_b_ok {t : Option (Option Value × xh_H × Nat × Nat)} {v : Option Value} {c s : Nat} (hb : xe_b t v c s = true) : t = some (v, xh_of t, c, s) := by
  match t, hb with
  | some (v', h, c', s'), hb =>
    obtain ⟨h1, h2⟩ := xw_bb hb
    obtain ⟨h2, h3⟩ := xw_bb h2
    rw [of_decide_eq_true h1, xw_beq h2, xw_beq h3]
    rfl
theorem xR_cl {f : Nat} {S : xs_S} {v : Option Value} (hb : xe_b (xe_x xM xC scr f d mid mi S) v c s = true) : xR scr d mid mi S (v, xh_of (xe_x xM xC scr f d mid mi S), c, s) := ⟨f, xe_b_ok hb⟩
def xh_eq (a b : xh_H) : Bool := decide (a.1 = b.1) && (decide (a.2.1 = b.2.1) && (decide (a.2.2.1 = b.2.2.1) && decide (a.2.2.2 = b.2.2.2)))
theorem xh_eq_ok {a b : xh_H} (h : xh_eq a b = true) : a = b := by
  obtain ⟨h1, h⟩ := xw_bb h
  obtain ⟨h2, h⟩ := xw_bb h
  obtain ⟨h3, h4⟩ := xw_bb h
  obtain ⟨a1, a2, a3, a4⟩ := a
  obtain ⟨b1, b2, b3, b4⟩ := b
  have h1 : a1 = b1 := of_decide_eq_true h1
  have h2 : a2 = b2 := of_decide_eq_true h2
  have h3 : a3 = b3 := of_decide_eq_true h3
  have h4 : a4 = b4 := of_decide_eq_true h4
  rw [h1, h2, h3, h4]
/-- a closed run up to a place, with its state; a closed run, with its end -/
def xu_b (t : Option xs_S) (o : xs_S) : Bool := match t with
  | some (pc, lv, st, h, c, s) => Nat.beq pc o.1 && (decide (lv = o.2.1) && (decide (st = o.2.2.1) && (xh_eq h o.2.2.2.1 && (Nat.beq c o.2.2.2.2.1 && Nat.beq s o.2.2.2.2.2))))
  | none => false
theorem xu_b_ok {t : Option xs_S} {o : xs_S} (hb : xu_b t o = true) : t = some o := by
  match t, hb with
  | some (pc, lv, st, h, c, s), hb =>
    obtain ⟨pc', lv', st', h', c', s'⟩ := o
    obtain ⟨h1, hb⟩ := xw_bb hb
    obtain ⟨h2, hb⟩ := xw_bb hb
    obtain ⟨h3, hb⟩ := xw_bb hb
    obtain ⟨h4, hb⟩ := xw_bb hb
    obtain ⟨h5, h6⟩ := xw_bb hb
    have h1 : pc = pc' := xw_beq h1
    have h2 : lv = lv' := of_decide_eq_true h2
    have h3 : st = st' := of_decide_eq_true h3
    have h4 : h = h' := xh_eq_ok h4
    have h5 : c = c' := xw_beq h5
    have h6 : s = s' := xw_beq h6
    rw [h1, h2, h3, h4, h5, h6]
def xx_b (t : Option (Option Value × xh_H × Nat × Nat)) (o : Option Value × xh_H × Nat × Nat) : Bool := match t with
  | some (v, h, c, s) => decide (v = o.1) && (xh_eq h o.2.1 && (Nat.beq c o.2.2.1 && Nat.beq s o.2.2.2))
  | none => false
theorem xx_b_ok {t : Option (Option Value × xh_H × Nat × Nat)} {o : Option Value × xh_H × Nat × Nat} (hb : xx_b t o = true) : t = some o := by
  match t, hb with
  | some (v, h, c, s), hb =>
    obtain ⟨v', h', c', s'⟩ := o
    obtain ⟨h1, hb⟩ := xw_bb hb
    obtain ⟨h2, hb⟩ := xw_bb hb
    obtain ⟨h3, h4⟩ := xw_bb hb
    have h1 : v = v' := of_decide_eq_true h1
    have h2 : h = h' := xh_eq_ok h2
    have h3 : c = c' := xw_beq h3
    have h4 : s = s' := xw_beq h4
    rw [h1, h2, h3, h4]
end XSG
end
