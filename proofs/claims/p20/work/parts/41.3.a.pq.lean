section XPQ
/-! what holds of a run's end, if it comes to one: no bounds, no measure, no depth is asked -/
theorem xe_x_am {scr : Option (Nat × (Nat → Int32))} {mid : Nat} {mi : xm_M} : ∀ (f d pc : Nat) (lv : List (Nat × Value)) (st : List Value) (h : xh_H) (c s c0 s0 : Nat), xe_x xM xC scr f d mid mi (pc, lv, st, h, c + c0, s + s0) = (xe_x xM xC scr f d mid mi (pc, lv, st, h, c0, s0)).map (fun o => (o.1, o.2.1, c + o.2.2.1, s + o.2.2.2)) := by
  intro f
  induction f with
  | zero => intro d pc lv st h c s c0 s0; rfl
  | succ f ih =>
    intro d pc lv st h c s c0 s0
    unfold xe_x
    cases hr : xC mid pc with
    | none => rfl
    | some r =>
      dsimp only
      cases hi : xe_isr r.1 with
      | true =>
        simp only [cond_true]
        cases hv : xe_rv r.1 mi.2.2.2.2.1 st with
        | none => rfl
        | some w => rfl
      | false =>
        simp only [cond_false]
        rw [xe_2_ad]
        cases h2 : xe_2 scr mi.2.2.2.1 r d pc lv st h c0 s0 with
        | some o =>
          obtain ⟨pc1, lv1, st1, h1, c1, s1⟩ := o
          exact ih d pc1 lv1 st1 h1 c s c1 s1
        | none =>
          dsimp only [Option.map_none]
          cases d with
          | zero => rfl
          | succ d' =>
            dsimp only
            cases hcl : xe_cl xM r st h with
            | none => rfl
            | some t =>
              obtain ⟨mj, As, q⟩ := t
              dsimp only
              cases hx : xe_x xM xC none f d' r.2.2.1 mj (0, lv_args 0 As, [], h, 0, 0) with
              | none => rfl
              | some t =>
                obtain ⟨v1, h1, mc, ms⟩ := t
                dsimp only
                rw [Nat.add_assoc, Nat.add_assoc]
                exact ih _ _ _ _ _ _ _ _ _
/-- WHAT HOLDS OF A RUN'S END -/
def xq (f mid : Nat) (mi : xm_M) (pc : Nat) (lv : List (Nat × Value)) (st : List Value) (h : xh_H) (Q : Option Value → xh_H → Prop) : Prop := ∀ d lw v h' c s, xl_sb lv lw → xe_x xM xC none f d mid mi (pc, lw, st, h, 0, 0) = some (v, h', c, s) → Q v h'
variable {tb : aT} {f mid : Nat} {mi : xm_M} {pc : Nat} {lv : List (Nat × Value)} {st : List Value} {h : xh_H} {Q : Option Value → xh_H → Prop}
theorem xq_le {g : Nat} (hg : g ≤ f) (k : xq f mid mi pc lv st h Q) : xq g mid mi pc lv st h Q := fun d lw v h' c s hs he => k d lw v h' c s hs (xe_x_le hg he)
theorem xq_mono {Q1 : Option Value → xh_H → Prop} (k : xq f mid mi pc lv st h Q1) (m : ∀ v h', Q1 v h' → Q v h') : xq f mid mi pc lv st h Q := fun d lw v h' c s hs he => m v h' (k d lw v h' c s hs he)
theorem xq_and {Q1 Q2 : Option Value → xh_H → Prop} (k1 : xq f mid mi pc lv st h Q1) (k2 : xq f mid mi pc lv st h Q2) : xq f mid mi pc lv st h (fun v h' => Q1 v h' ∧ Q2 v h') := fun d lw v h' c s hs he => ⟨k1 d lw v h' c s hs he, k2 d lw v h' c s hs he⟩
theorem xq_s {r : xr_R} {d : Nat} {R : Option Value × xh_H × Nat × Nat} (hr : xC mid pc = some r) (hi : xe_isr r.1 = false) (he : xe_x xM xC none f d mid mi (pc, lv, st, h, 0, 0) = some R) : ∃ g, f = g + 1 ∧ ((∃ o', xe_2 none mi.2.2.2.1 r d pc lv st h 0 0 = some o' ∧ xe_x xM xC none g d mid mi o' = some R) ∨ (xe_2 none mi.2.2.2.1 r d pc lv st h 0 0 = none ∧ ∃ d' mj As q v1 h1 mc ms, d = d' + 1 ∧ xe_cl xM r st h = some (mj, As, q) ∧ xe_x xM xC none g d' r.2.2.1 mj (0, lv_args 0 As, [], h, 0, 0) = some (v1, h1, mc, ms) ∧ xe_x xM xC none g (d' + 1) mid mi (pc + 3, lv, v1.toList ++ q, h1, 0 + mc, 0 + ms) = some R)) := by
  cases f with
  | zero => cases he
  | succ g =>
    unfold xe_x at he
    rw [hr] at he
    dsimp only at he
    rw [hi] at he
    simp only [cond_false] at he
    refine ⟨g, rfl, ?_⟩
    cases h2 : xe_2 none mi.2.2.2.1 r d pc lv st h 0 0 with
    | some o' =>
      rw [h2] at he
      exact Or.inl ⟨o', rfl, he⟩
    | none =>
      rw [h2] at he
      dsimp only at he
      cases d with
      | zero => cases he
      | succ d' =>
        dsimp only at he
        cases hcl : xe_cl xM r st h with
        | none => rw [hcl] at he; cases he
        | some t =>
          obtain ⟨mj, As, q⟩ := t
          rw [hcl] at he
          dsimp only at he
          cases hx : xe_x xM xC none g d' r.2.2.1 mj (0, lv_args 0 As, [], h, 0, 0) with
          | none => rw [hx] at he; cases he
          | some t =>
            obtain ⟨v1, h1, mc, ms⟩ := t
            rw [hx] at he
            exact Or.inr ⟨rfl, d', mj, As, q, v1, h1, mc, ms, rfl, rfl, hx, he⟩
def xa_iv (i : Instr) : Bool := match i with
  | .invokestatic _ => true
  | .invokevirtual _ => true
  | .invokespecial _ => true
  | _ => false
theorem xb_ncl {r : xr_R} (hv : xa_iv r.1 = false) : xe_cl xM r st h = none := by
  obtain ⟨i, len, ra, rb, rK, ri⟩ := r
  unfold xe_cl
  cases xM (i, len, ra, rb, rK, ri).2.2.1 with
  | none => rfl
  | some m => cases i <;> first | rfl | cases hv
/-- the heap's instructions; nothing is asked -/
def xb_h (tb : aT) (r : xr_R) (pc : Nat) (st : List Value) (h : xh_H) : Option (Nat × List Value × xh_H) := match r.1 with
  | .getfield _ => (match st with
    | .ref c :: q => (match a_sh[c]? with
      | some (0, ci) => cond (Nat.beq ci r.2.2.1) (match xh_ty r.2.2.1 r.2.2.2.1 with
        | .int => some (pc + 3, .int (xg 0 h.2.1 c r.2.2.2.1) :: q, h)
        | .boolean => some (pc + 3, .int (xg 0 h.2.1 c r.2.2.2.1) :: q, h)
        | .long => some (pc + 3, .long (xg 0 h.2.2.1 c r.2.2.2.1) :: q, h)
        | .object _ => (match a_rfk tb c ci r.2.2.2.1 with
          | some t => some (pc + 3, .ref t :: q, h)
          | none => some (pc + 3, va_rf (xg none h.2.2.2 c r.2.2.2.1) :: q, h))
        | .array _ => (match a_rfk tb c ci r.2.2.2.1 with
          | some t => some (pc + 3, .ref t :: q, h)
          | none => some (pc + 3, va_rf (xg none h.2.2.2 c r.2.2.2.1) :: q, h))
        | _ => none) none
      | _ => none)
    | _ => none)
  | .putfield _ => (match st with
    | .int x :: .ref c :: q => (match a_sh[c]? with
      | some (0, ci) => cond (Nat.beq ci r.2.2.1) (match xh_ty r.2.2.1 r.2.2.2.1 with
        | .int => some (pc + 3, q, xh_ui h c r.2.2.2.1 x)
        | .boolean => some (pc + 3, q, xh_ui h c r.2.2.2.1 x)
        | _ => none) none
      | _ => none)
    | .long x :: .ref c :: q => (match a_sh[c]? with
      | some (0, ci) => cond (Nat.beq ci r.2.2.1) (match xh_ty r.2.2.1 r.2.2.2.1 with
        | .long => some (pc + 3, q, xh_ul h c r.2.2.2.1 x)
        | _ => none) none
      | _ => none)
    | _ => none)
  | .iaload => (match st with
    | .int i :: .ref c :: q => (match a_sh[c]? with
      | some (1, _) => some (pc + 1, .int (xg 0 h.2.1 c i.toNatClampNeg) :: q, h)
      | _ => none)
    | _ => none)
  | .baload => (match st with
    | .int i :: .ref c :: q => (match a_sh[c]? with
      | some (2, _) => some (pc + 1, .int (xg 0 h.2.1 c i.toNatClampNeg) :: q, h)
      | some (3, _) => some (pc + 1, .int (xg 0 h.2.1 c i.toNatClampNeg) :: q, h)
      | _ => none)
    | _ => none)
  | .laload => (match st with
    | .int i :: .ref c :: q => (match a_sh[c]? with
      | some (4, _) => some (pc + 1, .long (xg 0 h.2.2.1 c i.toNatClampNeg) :: q, h)
      | _ => none)
    | .int i :: .float _ :: q => some (pc + 1, .long (xo_f i.toNatClampNeg) :: q, h)
    | _ => none)
  | .aaload => (match st with
    | .int i :: .ref c :: q => (match a_sh[c]? with
      | some (5, _) => some (pc + 1, va_rf (xg none h.2.2.2 c i.toNatClampNeg) :: q, h)
      | _ => none)
    | _ => none)
  | .getstatic _ => some (pc + 3, .float 1 :: st, h)
  | .ldiv => (match st with
    | .long y :: .long x :: q => some (pc + 1, .long (x / y) :: q, h)
    | _ => none)
  | .lrem => (match st with
    | .long y :: .long x :: q => some (pc + 1, .long (x - x / y * y) :: q, h)
    | _ => none)
  | .iastore => (match st with
    | .int x :: .int i :: .ref c :: q => (match a_sh[c]? with
      | some (1, _) => some (pc + 1, q, xh_ui h c i.toNatClampNeg x)
      | _ => none)
    | _ => none)
  | .bastore => (match st with
    | .int x :: .int i :: .ref c :: q => (match a_sh[c]? with
      | some (2, _) => some (pc + 1, q, xh_ui h c i.toNatClampNeg (vp_nar .byte x))
      | some (3, _) => some (pc + 1, q, xh_ui h c i.toNatClampNeg (vp_nar .boolean x))
      | _ => none)
    | _ => none)
  | .lastore => (match st with
    | .long x :: .int i :: .ref c :: q => (match a_sh[c]? with
      | some (4, _) => some (pc + 1, q, xh_ul h c i.toNatClampNeg x)
      | _ => none)
    | _ => none)
  | .arraylength => (match st with
    | .ref c :: q => (match a_sh[c]? with
      | some (_ + 1, n) => some (pc + 1, .int (Int32.ofNat n) :: q, h)
      | _ => none)
    | _ => none)
  | .invokestatic _ => cond (Nat.beq r.2.2.2.1 2) (match st with
    | .int y :: .int x :: q => some (pc + 3, .int (if y < x then y else x) :: q, h)
    | _ => none) none
  | .invokevirtual _ => (match xM r.2.2.1 with
    | none => (match st with
      | .float u :: q => cond (Nat.beq r.2.2.2.1 3) (some (pc + 3, .int (js_len (u.toNat - 2)) :: q, h)) none
      | .int k :: .float u :: q => cond (Nat.beq r.2.2.2.1 4) (some (pc + 3, .int (js_ch (u.toNat - 2) k.toNatClampNeg) :: q, h)) none
      | _ => none)
    | some _ => none)
  | _ => none
theorem xb_cd {α : Type} {b : Bool} {x o : α} (z : cond b (some x) none = some o) : o = x := by
  cases b
  · cases z
  · cases z; rfl
theorem xe_2i {nL d : Nat} {r : xr_R} {lw : List (Nat × Value)} {o' : xs_S} {X : Option xs_S} (h1 : xe_1 nL r pc lw st h 0 0 = X) (h2 : xe_o none r pc lw st h 0 0 = none) (h3 : xe_oi r pc d lw st h 0 0 = none) (ho : xe_2 none nL r d pc lw st h 0 0 = some o') : X = some o' := by
  unfold xe_2 at ho
  rw [h1, h2, h3] at ho
  cases X with
  | none => cases ho
  | some x => exact ho
set_option maxHeartbeats 8000000 in
theorem xb_h_ok {nL d : Nat} {r : xr_R} {lw : List (Nat × Value)} {pc1 : Nat} {st1 : List Value} {h1 : xh_H} (hq : a_rq tb h) (he : xb_h tb r pc st h = some (pc1, st1, h1)) : a_rq tb h1 ∧ xe_cl xM r st h = none ∧ ∀ o', xe_2 none nL r d pc lw st h 0 0 = some o' → o' = (pc1, lw, st1, h1, 0, 0) := by
  obtain ⟨i, len, ra, rb, rK, ri⟩ := r
  unfold xb_h at he
  cases i
  case getfield idx =>
    dsimp only at he
    split at he
    · rename_i c q
      split at he
      · rename_i ci hs
        obtain ⟨g1, g2⟩ := xw_c he
        have hs2 := hq.2.1 c _ hs
        have base : ∀ v, xh_get h c (xh_ty ra rb) rb = v → ∀ o', xe_2 none nL (.getfield idx, len, ra, rb, rK, ri) d pc lw (.ref c :: q) h 0 0 = some o' → o' = (pc + 3, lw, v :: q, h, 0, 0) := by
          intro v hv o' ho
          subst hv
          have e := xe_2i (X := cond (Nat.beq ci ra) (some (pc + 3, lw, xh_get h c (xh_ty ra rb) rb :: q, h, 0, 0)) none) (by unfold xe_1 xp_r; try dsimp only; rw [hs2]; try rfl) rfl rfl ho
          exact xb_cd e
        split at g2
        · rename_i hty
          cases g2
          exact ⟨hq, xb_ncl rfl, base _ (by rw [hty]; rfl)⟩
        · rename_i hty
          cases g2
          exact ⟨hq, xb_ncl rfl, base _ (by rw [hty]; rfl)⟩
        · rename_i hty
          cases g2
          exact ⟨hq, xb_ncl rfl, base _ (by rw [hty]; rfl)⟩
        · rename_i x hty
          split at g2
          · rename_i t ht
            cases g2
            refine ⟨hq, xb_ncl rfl, base _ ?_⟩
            rw [hty]
            show va_rf (xg none h.2.2.2 c rb) = .ref t
            rw [hq.2.2 c rb ci t hs ht]
            rfl
          · cases g2
            refine ⟨hq, xb_ncl rfl, base _ ?_⟩
            rw [hty]
            rfl
        · rename_i x hty
          split at g2
          · rename_i t ht
            cases g2
            refine ⟨hq, xb_ncl rfl, base _ ?_⟩
            rw [hty]
            show va_rf (xg none h.2.2.2 c rb) = .ref t
            rw [hq.2.2 c rb ci t hs ht]
            rfl
          · cases g2
            refine ⟨hq, xb_ncl rfl, base _ ?_⟩
            rw [hty]
            rfl
        · cases g2
      · cases he
    · cases he
  case putfield idx =>
    dsimp only at he
    split at he
    · rename_i x c q
      split at he
      · rename_i ci hs
        obtain ⟨g1, g2⟩ := xw_c he
        have hs2 := hq.2.1 c _ hs
        have base : ∀ o', xe_2 none nL (.putfield idx, len, ra, rb, rK, ri) d pc lw (.int x :: .ref c :: q) h 0 0 = some o' → (xe_put h c (xh_ty ra rb) rb (.int x)).map (fun h' => (pc + 3, lw, q, h', 0, 0)) = some o' := fun o' ho => xe_2i (by unfold xe_1 xp_vr; try dsimp only; rw [hs2]; show (cond (Nat.beq ci ra) _ _) = _; rw [g1]; rfl) rfl rfl ho
        split at g2
        · rename_i hty
          cases g2
          refine ⟨hq, xb_ncl rfl, fun o' ho => ?_⟩
          have e := base o' ho
          rw [hty] at e
          cases e
          rfl
        · rename_i hty
          cases g2
          refine ⟨hq, xb_ncl rfl, fun o' ho => ?_⟩
          have e := base o' ho
          rw [hty] at e
          have e : (cond (decide (x = 0) || decide (x = 1)) (some (xh_ui h c rb x)) none).map (fun h' => (pc + 3, lw, st1, h', 0, 0)) = some o' := e
          cases hB : (decide (x = 0) || decide (x = 1)) with
          | true => rw [hB] at e; cases e; rfl
          | false => rw [hB] at e; cases e
        · cases g2
      · cases he
    · rename_i x c q
      split at he
      · rename_i ci hs
        obtain ⟨g1, g2⟩ := xw_c he
        have hs2 := hq.2.1 c _ hs
        have base : ∀ o', xe_2 none nL (.putfield idx, len, ra, rb, rK, ri) d pc lw (.long x :: .ref c :: q) h 0 0 = some o' → (xe_put h c (xh_ty ra rb) rb (.long x)).map (fun h' => (pc + 3, lw, q, h', 0, 0)) = some o' := fun o' ho => xe_2i (by unfold xe_1 xp_vr; try dsimp only; rw [hs2]; show (cond (Nat.beq ci ra) _ _) = _; rw [g1]; rfl) rfl rfl ho
        split at g2
        · rename_i hty
          cases g2
          refine ⟨hq, xb_ncl rfl, fun o' ho => ?_⟩
          have e := base o' ho
          rw [hty] at e
          cases e
          rfl
        · cases g2
      · cases he
    · cases he
  case iaload =>
    dsimp only at he
    split at he
    · rename_i i c q
      split at he
      · rename_i n hs
        cases he
        refine ⟨hq, xb_ncl rfl, fun o' ho => xb_cd (b := xe_in i n) (xe_2i (X := cond (xe_in i n) (some (pc + 1, lw, .int (xg 0 h.2.1 c i.toNatClampNeg) :: q, h, 0, 0)) none) (by unfold xe_1 xp_ir; try dsimp only; rw [hq.2.1 c _ hs]; try rfl) rfl rfl ho)⟩
      · cases he
    · cases he
  case baload =>
    dsimp only at he
    split at he
    · rename_i i c q
      split at he
      · rename_i n hs
        cases he
        refine ⟨hq, xb_ncl rfl, fun o' ho => xb_cd (b := xe_in i n) (xe_2i (X := cond (xe_in i n) (some (pc + 1, lw, .int (xg 0 h.2.1 c i.toNatClampNeg) :: q, h, 0, 0)) none) (by unfold xe_1 xp_ir; try dsimp only; rw [hq.2.1 c _ hs]; try rfl) rfl rfl ho)⟩
      · rename_i n hs
        cases he
        refine ⟨hq, xb_ncl rfl, fun o' ho => xb_cd (b := xe_in i n) (xe_2i (X := cond (xe_in i n) (some (pc + 1, lw, .int (xg 0 h.2.1 c i.toNatClampNeg) :: q, h, 0, 0)) none) (by unfold xe_1 xp_ir; try dsimp only; rw [hq.2.1 c _ hs]; try rfl) rfl rfl ho)⟩
      · cases he
    · cases he
  case laload =>
    dsimp only at he
    split at he
    · rename_i i c q
      split at he
      · rename_i n hs
        cases he
        refine ⟨hq, xb_ncl rfl, fun o' ho => xb_cd (b := xe_in i n) (xe_2i (X := cond (xe_in i n) (some (pc + 1, lw, .long (xg 0 h.2.2.1 c i.toNatClampNeg) :: q, h, 0, 0)) none) (by unfold xe_1 xp_ir; try dsimp only; rw [hq.2.1 c _ hs]; try rfl) rfl rfl ho)⟩
      · cases he
    · rename_i i u q
      cases he
      refine ⟨hq, xb_ncl rfl, fun o' ho => ?_⟩
      have ho : (match cond (Nat.beq u.toNat 1 && xe_in i 13) (some ((pc + 1, lw, .long (xo_f i.toNatClampNeg) :: q, h, 0, 0) : xs_S)) none with | some o => some o | none => none) = some o' := ho
      cases hB : (Nat.beq u.toNat 1 && xe_in i 13) with
      | true => rw [hB] at ho; cases ho; rfl
      | false => rw [hB] at ho; cases ho
    · cases he
  case aaload =>
    dsimp only at he
    split at he
    · rename_i i c q
      split at he
      · rename_i n hs
        cases he
        refine ⟨hq, xb_ncl rfl, fun o' ho => xb_cd (b := xe_in i n) (xe_2i (X := cond (xe_in i n) (some (pc + 1, lw, va_rf (xg none h.2.2.2 c i.toNatClampNeg) :: q, h, 0, 0)) none) (by unfold xe_1 xp_ir; try dsimp only; rw [hq.2.1 c _ hs]; try rfl) rfl rfl ho)⟩
      · cases he
    · cases he
  case getstatic idx =>
    cases he
    exact ⟨hq, xb_ncl rfl, fun o' ho => by cases ho; rfl⟩
  case ldiv =>
    dsimp only at he
    split at he
    · rename_i y x q
      cases he
      refine ⟨hq, xb_ncl rfl, fun o' ho => ?_⟩
      have e := xe_2i (X := cond (decide (y = 0)) none (some (pc + 1, lw, .long (x / y) :: q, h, 0, 0))) (by unfold xe_1 xp_ll; try dsimp only; try rfl) rfl rfl ho
      cases hB : decide (y = 0) with
      | true => rw [hB] at e; cases e
      | false => rw [hB] at e; cases e; rfl
    · cases he
  case lrem =>
    dsimp only at he
    split at he
    · rename_i y x q
      cases he
      refine ⟨hq, xb_ncl rfl, fun o' ho => ?_⟩
      have e := xe_2i (X := cond (decide (y = 0)) none (some (pc + 1, lw, .long (x - x / y * y) :: q, h, 0, 0))) (by unfold xe_1 xp_ll; try dsimp only; try rfl) rfl rfl ho
      cases hB : decide (y = 0) with
      | true => rw [hB] at e; cases e
      | false => rw [hB] at e; cases e; rfl
    · cases he
  case iastore =>
    dsimp only at he
    split at he
    · rename_i x i c q
      split at he
      · rename_i n hs
        cases he
        refine ⟨hq, xb_ncl rfl, fun o' ho => xb_cd (b := xe_in i n) (xe_2i (X := cond (xe_in i n) (some (pc + 1, lw, st1, xh_ui h c i.toNatClampNeg x, 0, 0)) none) (by unfold xe_1 xp_iir; try dsimp only; rw [hq.2.1 c _ hs]; try rfl) rfl rfl ho)⟩
      · cases he
    · cases he
  case bastore =>
    dsimp only at he
    split at he
    · rename_i x i c q
      split at he
      · rename_i n hs
        cases he
        refine ⟨hq, xb_ncl rfl, fun o' ho => xb_cd (b := xe_in i n) (xe_2i (X := cond (xe_in i n) (some (pc + 1, lw, st1, xh_ui h c i.toNatClampNeg (vp_nar .byte x), 0, 0)) none) (by unfold xe_1 xp_iir; try dsimp only; rw [hq.2.1 c _ hs]; try rfl) rfl rfl ho)⟩
      · rename_i n hs
        cases he
        refine ⟨hq, xb_ncl rfl, fun o' ho => xb_cd (b := xe_in i n) (xe_2i (X := cond (xe_in i n) (some (pc + 1, lw, st1, xh_ui h c i.toNatClampNeg (vp_nar .boolean x), 0, 0)) none) (by unfold xe_1 xp_iir; try dsimp only; rw [hq.2.1 c _ hs]; try rfl) rfl rfl ho)⟩
      · cases he
    · cases he
  case lastore =>
    dsimp only at he
    split at he
    · rename_i x i c q
      split at he
      · rename_i n hs
        cases he
        refine ⟨hq, xb_ncl rfl, fun o' ho => xb_cd (b := xe_in i n) (xe_2i (X := cond (xe_in i n) (some (pc + 1, lw, st1, xh_ul h c i.toNatClampNeg x, 0, 0)) none) (by unfold xe_1 xp_lir; try dsimp only; rw [hq.2.1 c _ hs]; try rfl) rfl rfl ho)⟩
      · cases he
    · cases he
  case arraylength =>
    dsimp only at he
    split at he
    · rename_i c q
      split at he
      · rename_i k n hs
        cases he
        refine ⟨hq, xb_ncl rfl, fun o' ho => xb_cd (b := Nat.ble (k + 1) 5) (xe_2i (X := cond (Nat.ble (k + 1) 5) (some (pc + 1, lw, .int (Int32.ofNat n) :: q, h, 0, 0)) none) (by unfold xe_1 xp_r; try dsimp only; rw [hq.2.1 c _ hs]; try rfl) rfl rfl ho)⟩
      · cases he
    · cases he
  case invokestatic idx =>
    obtain ⟨g1, g2⟩ := xw_c he
    have g1 : rb = 2 := xw_beq g1
    subst g1
    split at g2
    · rename_i y x q
      cases g2
      refine ⟨hq, ?_, fun o' ho => ?_⟩
      · unfold xe_cl
        try dsimp only
        cases xM ra with
        | none => rfl
        | some m => rfl
      · cases d with
        | zero => cases ho
        | succ d =>
          exact xb_cd (b := Nat.ble (xm_cat q) 8) ho
    · cases g2
  case invokevirtual idx =>
    dsimp only at he
    split at he
    · rename_i hM
      have ncl : ∀ st, xe_cl xM (.invokevirtual idx, len, ra, rb, rK, ri) st h = none := by
        intro st
        unfold xe_cl
        try dsimp only
        rw [hM]
      split at he
      · rename_i u q
        obtain ⟨g1, g2⟩ := xw_c he
        have g1 : rb = 3 := xw_beq g1
        subst g1
        cases g2
        refine ⟨hq, ncl _, fun o' ho => ?_⟩
        match d, ho with
        | 0, ho => cases ho
        | 1, ho => cases ho
        | d + 2, ho => exact xb_cd (b := js_ok u && Nat.ble (xm_cat q) 8) ho
      · rename_i k u q
        obtain ⟨g1, g2⟩ := xw_c he
        have g1 : rb = 4 := xw_beq g1
        subst g1
        cases g2
        refine ⟨hq, ncl _, fun o' ho => ?_⟩
        match d, ho with
        | 0, ho => cases ho
        | 1, ho => cases ho
        | 2, ho => cases ho
        | 3, ho => cases ho
        | d + 4, ho => exact xb_cd (b := js_ok u && (xe_in k (js_lens.getD (u.toNat - 2) 0) && Nat.ble (xm_cat q) 8)) ho
      · cases he
    · cases he
  all_goals cases he
/-- a piece of code, along a path: where it comes to, and which way its branches go -/
def xb (tb : aT) (mid nL stop : Nat) : Nat → Bool → List Bool → Nat → List (Nat × Value) → List Value → xh_H → Option (xa_S × Prop)
  | 0, _, _, _, _, _, _ => none
  | n + 1, b, p, pc, lv, st, h => cond (b && (Nat.beq pc stop && p.isEmpty)) (some ((pc, lv, st, h), True)) (match xC mid pc with
    | none => none
    | some r => cond (xe_isr r.1) none (match r.1 with
      | .ifCond k _ => (match st with
        | .int x :: q => (match p with
          | t :: p => (match xb tb mid nL stop n true p (cond t r.2.2.1 (pc + 3)) lv q h with
            | some (o, P) => some (o, xe_c k x 0 = t ∧ P)
            | none => none)
          | [] => none)
        | _ => none)
      | .if_icmp k _ => (match st with
        | .int y :: .int x :: q => (match p with
          | t :: p => (match xb tb mid nL stop n true p (cond t r.2.2.1 (pc + 3)) lv q h with
            | some (o, P) => some (o, xe_c k x y = t ∧ P)
            | none => none)
          | [] => none)
        | _ => none)
      | _ => cond (xa_p r.1) (match xe_1 nL r pc lv st h 0 0 with
        | some (pc1, lv1, st1, _) => xb tb mid nL stop n true p pc1 lv1 st1 h
        | none => none) (match xb_h tb r pc st h with
        | some (pc1, st1, h1) => xb tb mid nL stop n true p pc1 lv st1 h1
        | none => none)))
set_option maxHeartbeats 4000000 in
theorem xb_ok {tb : aT} {mid stop : Nat} {mi : xm_M} : ∀ (n : Nat) (b : Bool) (p : List Bool) (pc : Nat) (lv : List (Nat × Value)) (st : List Value) (h : xh_H) (o : xa_S) (P : Prop), xb tb mid mi.2.2.2.1 stop n b p pc lv st h = some (o, P) → a_rq tb h → P → a_rq tb o.2.2.2 ∧ ∀ f d lw R, xl_sb lv lw → xe_x xM xC none f d mid mi (pc, lw, st, h, 0, 0) = some R → ∃ g lw', g + cond b 0 1 ≤ f ∧ xl_sb o.2.1 lw' ∧ xe_x xM xC none g d mid mi (o.1, lw', o.2.2.1, o.2.2.2, 0, 0) = some R := by
  intro n
  induction n with
  | zero => intro b p pc lv st h o P he; cases he
  | succ n ih =>
    intro b p pc lv st h o P he hq hP
    unfold xb at he
    cases hb : (b && (Nat.beq pc stop && p.isEmpty)) with
    | true =>
      rw [hb] at he
      cases he
      obtain ⟨b1, -⟩ := xw_bb hb
      subst b1
      exact ⟨hq, fun f d lw R hs hx => ⟨f, lw, Nat.le_refl _, hs, hx⟩⟩
    | false =>
      rw [hb] at he
      dsimp only [cond_false] at he
      cases hr : xC mid pc with
      | none => rw [hr] at he; cases he
      | some r =>
        rw [hr] at he
        dsimp only at he
        cases hi : xe_isr r.1 with
        | true => rw [hi] at he; cases he
        | false =>
          rw [hi] at he
          dsimp only [cond_false] at he
          have wrap : ∀ (pc1 : Nat) (lv1 : List (Nat × Value)) (st1 : List Value) (h1 : xh_H) (p1 : List Bool) (P1 : Prop), xb tb mid mi.2.2.2.1 stop n true p1 pc1 lv1 st1 h1 = some (o, P1) → a_rq tb h1 → P1 → (∀ d lw, xl_sb lv lw → xe_cl xM r st h = none ∧ ∃ lw1, xl_sb lv1 lw1 ∧ ∀ o', xe_2 none mi.2.2.2.1 r d pc lw st h 0 0 = some o' → o' = (pc1, lw1, st1, h1, 0, 0)) → a_rq tb o.2.2.2 ∧ ∀ f d lw R, xl_sb lv lw → xe_x xM xC none f d mid mi (pc, lw, st, h, 0, 0) = some R → ∃ g lw', g + cond b 0 1 ≤ f ∧ xl_sb o.2.1 lw' ∧ xe_x xM xC none g d mid mi (o.1, lw', o.2.2.1, o.2.2.2, 0, 0) = some R := by
            intro pc1 lv1 st1 h1 p1 P1 e1 q1 hP1 hst
            obtain ⟨k1, k2⟩ := ih _ _ _ _ _ _ _ _ e1 q1 hP1
            refine ⟨k1, fun f d lw R hs hx => ?_⟩
            obtain ⟨hcl, lw1, hs1, hst1⟩ := hst d lw hs
            obtain ⟨g, rfl, ⟨o', e2, e3⟩ | ⟨-, d', mj, As, q, v1, h1', mc, ms, -, e5, -⟩⟩ := xq_s hr hi hx
            · rw [hst1 o' e2] at e3
              obtain ⟨g', lw', a1, a2, a3⟩ := k2 g d lw1 R hs1 e3
              refine ⟨g', lw', ?_, a2, a3⟩
              have a1 : g' + 0 ≤ g := a1
              cases b
              · show g' + 1 ≤ g + 1; omega
              · show g' + 0 ≤ g + 1; omega
            · rw [hcl] at e5
              cases e5
          split at he
          · rename_i k off hk
            split at he
            · rename_i x q
              split at he
              · rename_i t p
                split at he
                · rename_i o1 P1 h1
                  cases he
                  obtain ⟨hc, hP⟩ := hP
                  refine wrap _ _ _ _ _ _ h1 hq hP (fun d lw hs => ⟨xb_ncl (by rw [hk]; rfl), lw, hs, fun o' ho => ?_⟩)
                  obtain ⟨i, len, ra, rb, rK, ri⟩ := r
                  dsimp only at hk
                  subst hk
                  unfold xe_2 xe_1 xp_i at ho
                  dsimp only at ho
                  rw [hc] at ho
                  cases t <;> (cases ho; rfl)
                · cases he
              · cases he
            · cases he
          · rename_i k off hk
            split at he
            · rename_i y x q
              split at he
              · rename_i t p
                split at he
                · rename_i o1 P1 h1
                  cases he
                  obtain ⟨hc, hP⟩ := hP
                  refine wrap _ _ _ _ _ _ h1 hq hP (fun d lw hs => ⟨xb_ncl (by rw [hk]; rfl), lw, hs, fun o' ho => ?_⟩)
                  obtain ⟨i, len, ra, rb, rK, ri⟩ := r
                  dsimp only at hk
                  subst hk
                  unfold xe_2 xe_1 xp_ii at ho
                  dsimp only at ho
                  rw [hc] at ho
                  cases t <;> (cases ho; rfl)
                · cases he
              · cases he
            · cases he
          · cases hp : xa_p r.1 with
            | true =>
              rw [hp] at he
              dsimp only [cond_true] at he
              split at he
              · rename_i pc1 lv1 st1 x hx
                obtain ⟨h1, c1, s1⟩ := x
                obtain ⟨e1, e2, e3⟩ := xe_1_pure hx hp
                subst e1
                subst e2
                subst e3
                refine wrap _ _ _ _ _ _ he hq hP (fun d lw hs => ⟨xb_ncl ?_, ?_⟩)
                · cases hiv : xa_iv r.1 with
                  | false => rfl
                  | true =>
                    obtain ⟨i, len, ra, rb, rK, ri⟩ := r
                    cases i <;> first | (cases hiv; done) | (cases hp; done)
                · obtain ⟨lw1, e4, e5⟩ := xe_2_sb (scr := none) (d := d) hs (show xe_2 none mi.2.2.2.1 r d pc lv st _ 0 0 = some (pc1, lv1, st1, _, 0, 0) by unfold xe_2; rw [hx])
                  refine ⟨lw1, e5, fun o' ho => ?_⟩
                  rw [e4] at ho
                  cases ho
                  rfl
              · cases he
            | false =>
              rw [hp] at he
              dsimp only [cond_false] at he
              split at he
              · rename_i pc1 st1 h1 hx
                have g0 := xb_h_ok (nL := mi.2.2.2.1) (d := 0) (lw := lv) hq hx
                refine wrap _ _ _ _ _ _ he g0.1 hP (fun d lw hs => ⟨g0.2.1, lw, hs, ?_⟩)
                exact (xb_h_ok (nL := mi.2.2.2.1) (d := d) (lw := lw) hq hx).2.2
              · cases he
/-- .. and the locals that are kept -/
def xb_n (tb : aT) (mid nL stop n : Nat) (p : List Bool) (ks : List Nat) (pc : Nat) (lv : List (Nat × Value)) (st : List Value) (h : xh_H) : Option (xa_S × Prop) := cond (xl_nd ks) (match xb tb mid nL stop n false p pc lv st h with
  | some ((pc1, lv1, st1, h1), P) => (match xl_pk ks lv1 with
    | some l => some ((pc1, l, st1, h1), P)
    | none => none)
  | none => none) none
theorem xl_sb_t {a b c : List (Nat × Value)} (hn : (a.map (fun q => q.1)).Nodup) (h1 : ∀ i v, xl_get a i = some v → xl_get b i = some v) (h2 : xl_sb b c) : xl_sb a c := ⟨hn, fun i v e => h2.2 i v (h1 i v e)⟩
/-- walk along a path; a step at least is done -/
theorem xq_m (pc1 : Nat) (ks : List Nat) (lv1 : List (Nat × Value)) (st1 : List Value) (h1 : xh_H) (p : List Bool) (n : Nat) {P : Prop} (hq : a_rq tb h) (he : xb_n tb mid mi.2.2.2.1 pc1 n p ks pc lv st h = some ((pc1, lv1, st1, h1), P)) (hP : P) (k : a_rq tb h1 → xq f mid mi pc1 lv1 st1 h1 Q) : xq (f + 1) mid mi pc lv st h Q := by
  intro d lw v h' c s hs hx
  unfold xb_n at he
  obtain ⟨n1, he⟩ := xw_c he
  split at he
  · rename_i pc2 lv2 st2 h2 P2 hx2
    split at he
    · rename_i l hl
      cases he
      obtain ⟨k1, k2⟩ := xb_ok n false p pc lv st h _ _ hx2 hq hP
      obtain ⟨g, lw', a1, a2, a3⟩ := k2 _ _ _ _ hs hx
      obtain ⟨e1, e2⟩ := xl_pk_ok hl
      have a1 : g + 1 ≤ f + 1 := a1
      exact k k1 d lw' v h' c s (xl_sb_t (by rw [e1]; exact xl_nd_ok n1) e2 a2) (xe_x_le (by omega) a3)
    · cases he
  · cases he
theorem xq_n (pc1 : Nat) (ks : List Nat) (lv1 : List (Nat × Value)) (st1 : List Value) (h1 : xh_H) (p : List Bool) (n : Nat) {P : Prop} (hq : a_rq tb h) (he : xb_n tb mid mi.2.2.2.1 pc1 n p ks pc lv st h = some ((pc1, lv1, st1, h1), P)) (hP : P) (k : a_rq tb h1 → xq f mid mi pc1 lv1 st1 h1 Q) : xq f mid mi pc lv st h Q := xq_le (Nat.le_succ f) (xq_m pc1 ks lv1 st1 h1 p n hq he hP k)
/-- what a method returns, whatever its type -/
def xe_rw (i : Instr) (st : List Value) : Option (Option Value) := match i with
  | .ireturn => (match st with
    | [.int x] => some (some (.int x))
    | _ => none)
  | .lreturn => (match st with
    | [.long x] => some (some (.long x))
    | _ => none)
  | .areturn => (match st with
    | [v] => some (some v)
    | _ => none)
  | .return_ => (match st with
    | [] => some none
    | _ => none)
  | _ => none
theorem xe_rw_ok {i : Instr} {ret : Option FieldType} {v w : Option Value} (h1 : xe_rw i st = some v) (h2 : xe_rv i ret st = some w) : w = v := by
  unfold xe_rw at h1
  unfold xe_rv at h2
  split at h1
  · split at h1
    · dsimp only at h2
      cases h1
      split at h2
      · cases h2; rfl
      · exact (xb_cd h2)
      · cases h2
    · cases h1
  · split at h1
    · dsimp only at h2
      cases h1
      split at h2
      · cases h2; rfl
      · cases h2
    · cases h1
  · split at h1
    · dsimp only at h2
      cases h1
      split at h2
      · split at h2
        · cases h2
          rename_i hv _ _
          cases hv
          rfl
        · cases h2
      · cases h2
    · cases h1
  · split at h1
    · dsimp only at h2
      cases h1
      split at h2
      · cases h2; rfl
      · cases h2
    · cases h1
  · cases h1
theorem xq_ret {r : xr_R} {v : Option Value} (hr : xC mid pc = some r) (hi : xe_isr r.1 = true) (hv : xe_rw r.1 st = some v) (hQ : Q v h) : xq f mid mi pc lv st h Q := by
  intro d lw w h' c s hs hx
  cases f with
  | zero => cases hx
  | succ g =>
    unfold xe_x at hx
    rw [hr] at hx
    dsimp only at hx
    rw [hi] at hx
    simp only [cond_true] at hx
    cases h2 : xe_rv r.1 mi.2.2.2.2.1 st with
    | none => rw [h2] at hx; cases hx
    | some w' =>
      rw [h2] at hx
      cases hx
      rw [xe_rw_ok hv h2]
      exact hQ
theorem lv_args_ge : ∀ {As : List Value} {i j : Nat}, j ∈ (lv_args i As).map (fun q => q.1) → i ≤ j := by
  intro As
  induction As with
  | nil => intro i j hj; cases hj
  | cons a t ih =>
    intro i j hj
    unfold lv_args at hj
    rw [List.map_cons, List.mem_cons] at hj
    rcases hj with rfl | hj
    · exact Nat.le_refl _
    · have := ih hj
      split at this <;> omega
theorem lv_args_nd : ∀ {As : List Value} {i : Nat}, ((lv_args i As).map (fun q => q.1)).Nodup := by
  intro As
  induction As with
  | nil => intro i; exact List.nodup_nil
  | cons a t ih =>
    intro i
    unfold lv_args
    rw [List.map_cons, List.nodup_cons]
    refine ⟨fun hm => ?_, ih⟩
    have := lv_args_ge hm
    dsimp only at this
    split at this <;> omega
theorem xe_oi0 {r : xr_R} : xe_oi r pc 0 lv st h 0 0 = none := by
  unfold xe_oi
  repeat' split
  all_goals first | rfl | contradiction
theorem xa_c_2 {r : xr_R} {mj : xm_M} {As q : List Value} {nL d : Nat} (hq : a_rq tb h) (he : xa_c r st = some (mj, As, q)) : xe_2 none nL r d pc lv st h 0 0 = none := by
  cases d with
  | succ d => exact (xa_c_ok (d := d) hq he).2.1
  | zero =>
    have e := (xa_c_ok (d := 0) (pc := pc) (lv := lv) (nL := nL) hq he).2.1
    unfold xe_2 at e ⊢
    cases h1 : xe_1 nL r pc lv st h 0 0 with
    | some o => rw [h1] at e; cases e
    | none =>
      rw [h1] at e
      dsimp only at e ⊢
      cases h2 : xe_o none r pc lv st h 0 0 with
      | some o => rw [h2] at e; cases e
      | none => exact xe_oi0
/-- a call -/
theorem xq_call {r : xr_R} {mj : xm_M} {As q : List Value} {Q1 : Option Value → xh_H → Prop} (hq : a_rq tb h) (hr : xC mid pc = some r) (he : xa_c r st = some (mj, As, q)) (hm : xq f r.2.2.1 mj 0 (lv_args 0 As) [] h Q1) (k : ∀ v h', Q1 v h' → xq f mid mi (pc + 3) lv (v.toList ++ q) h' Q) : xq (f + 1) mid mi pc lv st h Q := by
  intro d lw w h' c s hs hx
  have hcl := (xa_c_ok (d := 0) (pc := pc) (lv := lv) (nL := mi.2.2.2.1) hq he)
  obtain ⟨g, eg, ⟨o', e2, -⟩ | ⟨-, d', mj', As', q', v1, h1, mc, ms, rfl, e5, e6, e7⟩⟩ := xq_s hr hcl.2.2.1 hx
  · rw [xa_c_2 hq he] at e2
    cases e2
  · cases eg
    rw [hcl.1] at e5
    cases e5
    have q1 := hm d' _ v1 h1 mc ms ⟨lv_args_nd, fun i v e => e⟩ e6
    rw [Nat.zero_add, Nat.zero_add] at e7
    have e8 : xe_x xM xC none f (d' + 1) mid mi (pc + 3, lw, v1.toList ++ q, h1, mc, ms) = _ := xe_x_am (scr := none) (mid := mid) (mi := mi) f (d' + 1) (pc + 3) lw (v1.toList ++ q) h1 mc ms 0 0
    rw [e7] at e8
    cases h9 : xe_x xM xC none f (d' + 1) mid mi (pc + 3, lw, v1.toList ++ q, h1, 0, 0) with
    | none => rw [h9] at e8; cases e8
    | some t =>
      obtain ⟨v2, h2, c2, s2⟩ := t
      rw [h9] at e8
      cases e8
      exact k v1 h1 q1 (d' + 1) lw v2 h2 c2 s2 hs h9
theorem xq_run {r : xr_R} {mj : xm_M} {As q : List Value} {Q1 : Option Value → xh_H → Prop} (hq : a_rq tb h) (hr : xC mid pc = some r) (he : xa_c r st = some (mj, As, q)) (hm : xq f r.2.2.1 mj 0 (lv_args 0 As) [] h Q1) (k : ∀ v h', Q1 v h' → xq f mid mi (pc + 3) lv (v.toList ++ q) h' Q) : xq f mid mi pc lv st h Q := xq_le (Nat.le_succ f) (xq_call hq hr he hm k)
/-- a run that is known to come to an end -/
theorem xq_R {d : Nat} {v : Option Value} {h' : xh_H} {c s : Nat} (hn : (lv.map (fun q => q.1)).Nodup) (k : xR none d mid mi (pc, lv, st, h, 0, 0) (v, h', c, s)) (hq : ∀ f, xq f mid mi pc lv st h Q) : Q v h' := by
  obtain ⟨f, hf⟩ := k
  exact hq f d lv v h' c s ⟨hn, fun i v e => e⟩ hf
theorem xqP {d : Nat} {Q1 : Option Value → xh_H → Prop} (hn : (lv.map (fun q => q.1)).Nodup) (k : xt_P d mid mi pc lv st h Q1) (hq : ∀ f, xq f mid mi pc lv st h Q) : xt_P d mid mi pc lv st h (fun v h' => Q1 v h' ∧ Q v h') := by
  obtain ⟨v, h', r, q⟩ := k
  exact ⟨v, h', r, q, xq_R hn r hq⟩
/-- a loop, or a recursion: less is left of the run -/
theorem xq_ind {P : Nat → Prop} (z : P 0) (s : ∀ f, P f → P (f + 1)) : ∀ f, P f := by
  intro f
  induction f with
  | zero => exact z
  | succ f ih => exact s f ih
theorem xq_0 : xq 0 mid mi pc lv st h Q := fun d lw v h' c s hs hx => by cases hx
end XPQ
