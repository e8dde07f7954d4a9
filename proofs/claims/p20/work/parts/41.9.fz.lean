section XFZ
/-- what most methods leave: the shapes, a Statute's ints, all arrays of longs, the references but Powers' and Scales' -/
def Fz (h h' : xh_H) : Prop := h'.1 = h.1 ∧ (∀ c k, h.1[c]? = some (0, 7) → xg 0 h'.2.1 c k = xg 0 h.2.1 c k) ∧ (∀ c k, (∀ ci, h.1[c]? ≠ some (0, ci)) → xg 0 h'.2.2.1 c k = xg 0 h.2.2.1 c k) ∧ ∀ c k, h.1[c]? ≠ some (0, 2) → h.1[c]? ≠ some (0, 5) → xg none h'.2.2.2 c k = xg none h.2.2.2 c k
theorem Fz_0 {h : xh_H} : Fz h h := ⟨rfl, fun _ _ _ => rfl, fun _ _ _ => rfl, fun _ _ _ _ => rfl⟩
theorem Fz_t {h h1 h2 : xh_H} (a : Fz h h1) (b : Fz h1 h2) : Fz h h2 := by
  obtain ⟨a1, a2, a3, a4⟩ := a
  obtain ⟨b1, b2, b3, b4⟩ := b
  rw [a1] at b1 b2 b3 b4
  exact ⟨b1, fun c k z => (b2 c k z).trans (a2 c k z), fun c k z => (b3 c k z).trans (a3 c k z), fun c k z y => (b4 c k z y).trans (a4 c k z y)⟩
theorem Fz_ui {h : xh_H} {a k : Nat} {x : Int32} (hs : h.1[a]? ≠ some (0, 7)) : Fz h (xh_ui h a k x) := ⟨rfl, fun c k' z => gx_o (fun e => hs (by rw [← e]; exact z)), fun _ _ _ => rfl, fun _ _ _ _ => rfl⟩
def okf (ra rb : Nat) : Bool := match xh_ty ra rb with
  | .int => !Nat.beq ra 7
  | .boolean => !Nat.beq ra 7
  | .long => true
  | _ => Nat.beq ra 2 || Nat.beq ra 5
/-- an instruction that leaves it -/
def okr (r : xr_R) : Bool := match r.1 with
  | .lastore => false
  | .aastore => false
  | .newarray _ => false
  | .anewarray _ => false
  | .new _ => false
  | .putfield _ => okf r.2.2.1 r.2.2.2.1
  | _ => true
theorem Fz_ul {h : xh_H} {a k ci : Nat} {x : Int64} (hs : h.1[a]? = some (0, ci)) : Fz h (xh_ul h a k x) := ⟨rfl, fun _ _ _ => rfl, fun c k' z => gl_o (fun e => z ci (by rw [e]; exact hs)), fun _ _ _ _ => rfl⟩
theorem Fz_ur {h : xh_H} {a k : Nat} {x : Option Nat} (hs : h.1[a]? = some (0, 2) ∨ h.1[a]? = some (0, 5)) : Fz h (xh_ur h a k x) := ⟨rfl, fun _ _ _ => rfl, fun _ _ _ => rfl, fun c k' z y => congrFun (xh_up_o (fun e => hs.elim (fun w => z (by rw [e]; exact w)) (fun w => y (by rw [e]; exact w)))) k'⟩
theorem okr_7 {h : xh_H} {a ra : Nat} (hs : h.1[a]? = some (0, ra)) (ok : (!Nat.beq ra 7) = true) : h.1[a]? ≠ some (0, 7) := fun z => by
  rw [hs] at z
  cases z
  cases ok
theorem okr_25 {h : xh_H} {a ra : Nat} (hs : h.1[a]? = some (0, ra)) (ok : (Nat.beq ra 2 || Nat.beq ra 5) = true) : h.1[a]? = some (0, 2) ∨ h.1[a]? = some (0, 5) := by
  rcases Bool.or_eq_true _ _ ▸ ok with z | z
  · rw [xw_beq z] at hs; exact Or.inl hs
  · rw [xw_beq z] at hs; exact Or.inr hs
theorem Fz_put {ra rb : Nat} {h h' : xh_H} {a : Nat} {v : Value} (hs : h.1[a]? = some (0, ra)) (hp : xe_put h a (xh_ty ra rb) rb v = some h') (ok : okf ra rb = true) : Fz h h' := by
  unfold okf at ok
  unfold xe_put at hp
  cases hty : xh_ty ra rb <;> rw [hty] at hp ok <;> dsimp only at hp ok
  case int =>
    split at hp
    · cases hp; exact Fz_ui (okr_7 hs ok)
    · cases hp
  case boolean =>
    split at hp
    · obtain ⟨-, hp⟩ := xw_c hp
      cases hp; exact Fz_ui (okr_7 hs ok)
    · cases hp
  case long =>
    split at hp
    · cases hp; exact Fz_ul hs
    · cases hp
  case object =>
    split at hp
    · cases hp; exact Fz_ur (okr_25 hs ok)
    · cases hp
  case array =>
    split at hp
    · cases hp; exact Fz_ur (okr_25 hs ok)
    · cases hp
  all_goals cases hp
set_option maxHeartbeats 4000000 in
set_option maxRecDepth 100000 in
theorem xe_1_fz {nL : Nat} {r : xr_R} {pc : Nat} {lv : List (Nat × Value)} {st : List Value} {h : xh_H} {c s : Nat} {pc' : Nat} {lv' : List (Nat × Value)} {st' : List Value} {h' : xh_H} {c' s' : Nat} (he : xe_1 nL r pc lv st h c s = some (pc', lv', st', h', c', s')) (ok : okr r = true) : Fz h h' := by
  obtain ⟨i, len, ra, rb, rK, ri⟩ := r
  cases i with
  | iconst _ => cases he; exact Fz_0
  | bipush _ => cases he; exact Fz_0
  | sipush _ => cases he; exact Fz_0
  | lconst _ => cases he; exact Fz_0
  | ldc_w _ => cases he; exact Fz_0
  | ldc2_w _ => cases he; exact Fz_0
  | goto _ => cases he; exact Fz_0
  | ldc _ => cases rb <;> (cases he; exact Fz_0)
  | iload_n _ => obtain ⟨v, _, _, h3⟩ := xs_ld he; cases h3; exact Fz_0
  | iload _ => obtain ⟨v, _, _, h3⟩ := xs_ld he; cases h3; exact Fz_0
  | lload_n _ => obtain ⟨v, _, _, h3⟩ := xs_ld he; cases h3; exact Fz_0
  | lload _ => obtain ⟨v, _, _, h3⟩ := xs_ld he; cases h3; exact Fz_0
  | aload_n _ => obtain ⟨v, _, _, h3⟩ := xs_ld he; cases h3; exact Fz_0
  | aload _ => obtain ⟨v, _, _, h3⟩ := xs_ld he; cases h3; exact Fz_0
  | istore_n _ => obtain ⟨v, q, _, _, _, h3⟩ := xs_st1 he; cases h3; exact Fz_0
  | istore _ => obtain ⟨v, q, _, _, _, h3⟩ := xs_st1 he; cases h3; exact Fz_0
  | astore_n _ => obtain ⟨v, q, _, _, _, h3⟩ := xs_st1 he; cases h3; exact Fz_0
  | astore _ => obtain ⟨v, q, _, _, _, h3⟩ := xs_st1 he; cases h3; exact Fz_0
  | lstore_n _ => obtain ⟨v, q, _, _, _, h3⟩ := xs_st2 he; cases h3; exact Fz_0
  | lstore _ => obtain ⟨v, q, _, _, _, h3⟩ := xs_st2 he; cases h3; exact Fz_0
  | iadd => obtain ⟨y, x, q, _, h2⟩ := xp_ii_v he; cases h2; exact Fz_0
  | isub => obtain ⟨y, x, q, _, h2⟩ := xp_ii_v he; cases h2; exact Fz_0
  | imul => obtain ⟨y, x, q, _, h2⟩ := xp_ii_v he; cases h2; exact Fz_0
  | iand => obtain ⟨y, x, q, _, h2⟩ := xp_ii_v he; cases h2; exact Fz_0
  | ior => obtain ⟨y, x, q, _, h2⟩ := xp_ii_v he; cases h2; exact Fz_0
  | ixor => obtain ⟨y, x, q, _, h2⟩ := xp_ii_v he; cases h2; exact Fz_0
  | ishl => obtain ⟨y, x, q, _, h2⟩ := xp_ii_v he; cases h2; exact Fz_0
  | ishr => obtain ⟨y, x, q, _, h2⟩ := xp_ii_v he; cases h2; exact Fz_0
  | iushr => obtain ⟨y, x, q, _, h2⟩ := xp_ii_v he; cases h2; exact Fz_0
  | if_icmp k _ =>
    obtain ⟨y, x, q, _, h2⟩ := xp_ii_v he
    cases hb : xe_c k x y with
    | true => rw [hb] at h2; cases h2; exact Fz_0
    | false => rw [hb] at h2; cases h2; exact Fz_0
  | irem => obtain ⟨y, x, q, _, h2⟩ := xp_ii_v he; obtain ⟨_, h3⟩ := xw_c0 h2; cases h3; exact Fz_0
  | ladd => obtain ⟨y, x, q, _, h2⟩ := xp_ll_v he; cases h2; exact Fz_0
  | lsub => obtain ⟨y, x, q, _, h2⟩ := xp_ll_v he; cases h2; exact Fz_0
  | lmul => obtain ⟨y, x, q, _, h2⟩ := xp_ll_v he; cases h2; exact Fz_0
  | land => obtain ⟨y, x, q, _, h2⟩ := xp_ll_v he; cases h2; exact Fz_0
  | lor => obtain ⟨y, x, q, _, h2⟩ := xp_ll_v he; cases h2; exact Fz_0
  | lcmp => obtain ⟨y, x, q, _, h2⟩ := xp_ll_v he; cases h2; exact Fz_0
  | ldiv => obtain ⟨y, x, q, _, h2⟩ := xp_ll_v he; obtain ⟨_, h3⟩ := xw_c0 h2; cases h3; exact Fz_0
  | lrem => obtain ⟨y, x, q, _, h2⟩ := xp_ll_v he; obtain ⟨_, h3⟩ := xw_c0 h2; cases h3; exact Fz_0
  | lushr => obtain ⟨y, x, q, _, h2⟩ := xp_il_v he; cases h2; exact Fz_0
  | lshl => obtain ⟨y, x, q, _, h2⟩ := xp_il_v he; cases h2; exact Fz_0
  | i2l => obtain ⟨x, q, _, h2⟩ := xp_i_v he; cases h2; exact Fz_0
  | i2b => obtain ⟨x, q, _, h2⟩ := xp_i_v he; cases h2; exact Fz_0
  | i2c => obtain ⟨x, q, _, h2⟩ := xp_i_v he; cases h2; exact Fz_0
  | ifCond k _ =>
    obtain ⟨x, q, _, h2⟩ := xp_i_v he
    cases hb : xe_c k x 0 with
    | true => rw [hb] at h2; cases h2; exact Fz_0
    | false => rw [hb] at h2; cases h2; exact Fz_0
  | l2i => obtain ⟨x, q, _, h2⟩ := xp_l_v he; cases h2; exact Fz_0
  | pop2 => obtain ⟨x, q, _, h2⟩ := xp_l_v he; cases h2; exact Fz_0
  | newarray _ => cases ok
  | anewarray _ => cases ok
  | new _ => cases ok
  | dup =>
    match st, he with
    | a :: q, he => obtain ⟨_, h3⟩ := xw_c he; cases h3; exact Fz_0
  | pop =>
    match st, he with
    | a :: q, he => obtain ⟨_, h3⟩ := xw_c he; cases h3; exact Fz_0
  | dup2 =>
    match st, he with
    | a :: b :: q, he => obtain ⟨_, h3⟩ := xw_c he; cases h3; exact Fz_0
  | dup_x2 =>
    match st, he with
    | a :: b :: d :: q, he => obtain ⟨_, h3⟩ := xw_c he; cases h3; exact Fz_0
  | iinc k n =>
    have he : (match xl_get lv k with
      | some (.int x) => cond (Nat.ble (k + 1) nL) (some (pc + 3, xl_1 lv k (.int (x + Int32.ofInt n)), st, h, c, s)) none
      | _ => none) = some (pc', lv', st', h', c', s') := he
    split at he
    · obtain ⟨_, h3⟩ := xw_c he; cases h3; exact Fz_0
    · cases he
  | ifnull _ =>
    match st, he with
    | .ref _ :: q, he => cases he; exact Fz_0
    | .null :: q, he => cases he; exact Fz_0
  | if_acmp k _ =>
    cases k with
    | eq => cases he
    | ne =>
      match st, he with
      | .ref y :: .ref x :: q, he =>
        obtain ⟨_, h3⟩ := xw_c he
        cases hb : Nat.beq x y with
        | true => rw [hb] at h3; cases h3; exact Fz_0
        | false => rw [hb] at h3; cases h3; exact Fz_0
  | getfield _ =>
    obtain ⟨a, q, _, h2⟩ := xp_r_v he
    try dsimp only at h2
    split at h2
    · obtain ⟨_, h3⟩ := xw_c h2; cases h3; exact Fz_0
    · cases h2
  | putfield _ =>
    obtain ⟨v, a, q, _, h2⟩ := xp_vr_v he
    try dsimp only at h2
    split at h2
    · rename_i ci hs
      obtain ⟨hci, h3⟩ := xw_c h2
      have hci := xw_beq hci
      obtain ⟨hx, hp, h4⟩ := Option.map_eq_some_iff.mp h3
      cases h4
      subst hci
      exact Fz_put hs hp ok
    · cases h2
  | iaload =>
    obtain ⟨i, a, q, _, h2⟩ := xp_ir_v he
    try dsimp only at h2
    split at h2
    · obtain ⟨_, h3⟩ := xw_c h2; cases h3; exact Fz_0
    · cases h2
  | baload =>
    obtain ⟨i, a, q, _, h2⟩ := xp_ir_v he
    try dsimp only at h2
    split at h2
    · obtain ⟨_, h3⟩ := xw_c h2; cases h3; exact Fz_0
    · obtain ⟨_, h3⟩ := xw_c h2; cases h3; exact Fz_0
    · cases h2
  | laload =>
    obtain ⟨i, a, q, _, h2⟩ := xp_ir_v he
    try dsimp only at h2
    split at h2
    · obtain ⟨_, h3⟩ := xw_c h2; cases h3; exact Fz_0
    · cases h2
  | aaload =>
    obtain ⟨i, a, q, _, h2⟩ := xp_ir_v he
    try dsimp only at h2
    split at h2
    · obtain ⟨_, h3⟩ := xw_c h2; cases h3; exact Fz_0
    · cases h2
  | iastore =>
    obtain ⟨x, i, a, q, _, h2⟩ := xp_iir_v he
    try dsimp only at h2
    split at h2
    · rename_i n hs
      obtain ⟨_, h3⟩ := xw_c h2; cases h3; exact Fz_ui (fun z => by rw [hs] at z; cases z)
    · cases h2
  | bastore =>
    obtain ⟨x, i, a, q, _, h2⟩ := xp_iir_v he
    try dsimp only at h2
    split at h2
    · rename_i n hs
      obtain ⟨_, h3⟩ := xw_c h2; cases h3; exact Fz_ui (fun z => by rw [hs] at z; cases z)
    · rename_i n hs
      obtain ⟨_, h3⟩ := xw_c h2; cases h3; exact Fz_ui (fun z => by rw [hs] at z; cases z)
    · cases h2
  | lastore => cases ok
  | aastore => cases ok
  | arraylength =>
    obtain ⟨a, q, _, h2⟩ := xp_r_v he
    try dsimp only at h2
    split at h2
    · obtain ⟨_, h3⟩ := xw_c h2; cases h3; exact Fz_0
    · cases h2
  | tableswitch dflt lo hi offs =>
    obtain ⟨x, q, _, h2⟩ := xp_i_v he
    cases hb : (decide (x.toInt < lo) || decide (hi < x.toInt)) with
    | true =>
      rw [hb] at h2
      obtain ⟨_, h3⟩ := xw_c h2
      cases h3; exact Fz_0
    | false =>
      rw [hb] at h2
      cases ho : offs[(x.toInt - lo).toNat]? with
      | none => rw [ho] at h2; cases h2
      | some off =>
        rw [ho] at h2
        obtain ⟨_, h3⟩ := xw_c h2
        cases h3; exact Fz_0
  | _ => cases he
theorem xe_2_fz {nL d pc : Nat} {r : xr_R} {lv : List (Nat × Value)} {st : List Value} {h : xh_H} {c s : Nat} {pc' : Nat} {lv' : List (Nat × Value)} {st' : List Value} {h' : xh_H} {c' s' : Nat} (ok : okr r = true) (e : xe_2 none nL r d pc lv st h c s = some (pc', lv', st', h', c', s')) : Fz h h' := by
  unfold xe_2 at e
  cases h1 : xe_1 nL r pc lv st h c s with
  | some o1 => rw [h1] at e; cases e; exact xe_1_fz h1 ok
  | none =>
    rw [h1] at e
    dsimp only at e
    cases h2 : xe_o none r pc lv st h c s with
    | some o1 =>
      rw [h2] at e
      cases e
      unfold xe_o at h2
      split at h2
      · cases h2; exact Fz_0
      · split at h2
        · obtain ⟨-, h2⟩ := xw_c h2
          cases h2; exact Fz_0
        · cases h2
      · split at h2
        · cases h2
        · cases h2
      · split at h2
        · cases h2
        · cases h2
      · cases h2
    | none =>
      rw [h2] at e
      dsimp only at e
      unfold xe_oi at e
      split at e
      · split at e
        · split at e
          · split at e
            · obtain ⟨-, e⟩ := xw_c e
              cases e; exact Fz_0
            · cases e
          · cases e
        · split at e
          · split at e
            · obtain ⟨-, e⟩ := xw_c e
              cases e; exact Fz_0
            · cases e
          · cases e
        · cases e
      · split at e
        · split at e
          · cases e
          · split at e
            · obtain ⟨-, e⟩ := xw_c e
              cases e; exact Fz_0
            · cases e
        · cases e
      · split at e
        · split at e
          · cases e
          · split at e
            · obtain ⟨-, e⟩ := xw_c e
              cases e; exact Fz_0
            · cases e
        · cases e
      · cases e
/-- a closed list of methods whose code leaves it: every run does -/
theorem xe_x_fz {M : Nat → Bool} (hM : ∀ mid pc r, M mid = true → xC mid pc = some r → okr r = true ∧ (xe_isr r.1 = false → ∀ st h t, xe_cl xM r st h = some t → M r.2.2.1 = true)) : ∀ (f d mid : Nat) (mi : xm_M) (S : xs_S) (v : Option Value) (h' : xh_H) (c s : Nat), M mid = true → xe_x xM xC none f d mid mi S = some (v, h', c, s) → Fz S.2.2.2.1 h' := by
  intro f
  induction f with
  | zero => intro d mid mi S v h' c s _ e; cases e
  | succ f ih =>
    intro d mid mi S v h' c s hm e
    obtain ⟨pc, lv, st, h, c0, s0⟩ := S
    unfold xe_x at e
    cases hr : xC mid pc with
    | none => rw [hr] at e; cases e
    | some r =>
      rw [hr] at e
      dsimp only at e
      obtain ⟨ok, cl⟩ := hM mid pc r hm hr
      cases hi : xe_isr r.1 with
      | true =>
        rw [hi] at e
        simp only [cond_true] at e
        obtain ⟨w, _, e⟩ := Option.map_eq_some_iff.mp e
        cases e
        exact Fz_0
      | false =>
        rw [hi] at e
        simp only [cond_false] at e
        cases h2 : xe_2 none mi.2.2.2.1 r d pc lv st h c0 s0 with
        | some o =>
          rw [h2] at e
          obtain ⟨pc1, lv1, st1, h1, c1, s1⟩ := o
          exact Fz_t (xe_2_fz ok h2) (ih d mid mi _ v h' c s hm e)
        | none =>
          rw [h2] at e
          dsimp only at e
          cases d with
          | zero => cases e
          | succ d' =>
            dsimp only at e
            cases hcl : xe_cl xM r st h with
            | none => rw [hcl] at e; cases e
            | some t =>
              obtain ⟨mj, As, q⟩ := t
              rw [hcl] at e
              dsimp only at e
              cases hx : xe_x xM xC none f d' r.2.2.1 mj (0, lv_args 0 As, [], h, 0, 0) with
              | none => rw [hx] at e; cases e
              | some t =>
                obtain ⟨v1, h1, mc, ms⟩ := t
                rw [hx] at e
                exact Fz_t (ih d' r.2.2.1 mj (0, lv_args 0 As, [], h, 0, 0) v1 h1 mc ms (cl hi st h _ hcl) hx) (ih (d' + 1) mid mi (pc + 3, lv, v1.toList ++ q, h1, c0 + mc, s0 + ms) v h' c s hm e)
end XFZ
