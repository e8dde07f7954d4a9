section XHX
/-- what changes the frame alone -/
def xa_p (i : Instr) : Bool := match i with
  | .iconst _ => true
  | .bipush _ => true
  | .sipush _ => true
  | .lconst _ => true
  | .ldc_w _ => true
  | .ldc2_w _ => true
  | .goto _ => true
  | .ldc _ => true
  | .iload_n _ => true
  | .iload _ => true
  | .lload_n _ => true
  | .lload _ => true
  | .aload_n _ => true
  | .aload _ => true
  | .istore_n _ => true
  | .istore _ => true
  | .astore_n _ => true
  | .astore _ => true
  | .lstore_n _ => true
  | .lstore _ => true
  | .iadd => true
  | .isub => true
  | .imul => true
  | .iand => true
  | .ior => true
  | .ixor => true
  | .ishl => true
  | .ishr => true
  | .iushr => true
  | .ladd => true
  | .lsub => true
  | .lmul => true
  | .lcmp => true
  | .land => true
  | .lor => true
  | .lushr => true
  | .lshl => true
  | .i2l => true
  | .l2i => true
  | .i2b => true
  | .iinc _ _ => true
  | .dup => true
  | .pop => true
  | .dup2 => true
  | .dup_x2 => true
  | _ => false
set_option maxHeartbeats 4000000 in
set_option maxRecDepth 100000 in
theorem xe_1_pure {nL : Nat} {r : xr_R} {pc : Nat} {lv : List (Nat × Value)} {st : List Value} {h : xh_H} {c s : Nat} {pc' : Nat} {lv' : List (Nat × Value)} {st' : List Value} {h' : xh_H} {c' s' : Nat} (he : xe_1 nL r pc lv st h c s = some (pc', lv', st', h', c', s')) (hp : xa_p r.1 = true) : h' = h ∧ c' = c ∧ s' = s := by
  obtain ⟨i, len, ra, rb, rK, ri⟩ := r
  cases i with
  | iconst _ => cases he; exact ⟨rfl, rfl, rfl⟩
  | bipush _ => cases he; exact ⟨rfl, rfl, rfl⟩
  | sipush _ => cases he; exact ⟨rfl, rfl, rfl⟩
  | lconst _ => cases he; exact ⟨rfl, rfl, rfl⟩
  | ldc_w _ => cases he; exact ⟨rfl, rfl, rfl⟩
  | ldc2_w _ => cases he; exact ⟨rfl, rfl, rfl⟩
  | goto _ => cases he; exact ⟨rfl, rfl, rfl⟩
  | ldc _ => cases rb <;> (cases he; exact ⟨rfl, rfl, rfl⟩)
  | iload_n _ => obtain ⟨v, _, _, h3⟩ := xs_ld he; cases h3; exact ⟨rfl, rfl, rfl⟩
  | iload _ => obtain ⟨v, _, _, h3⟩ := xs_ld he; cases h3; exact ⟨rfl, rfl, rfl⟩
  | lload_n _ => obtain ⟨v, _, _, h3⟩ := xs_ld he; cases h3; exact ⟨rfl, rfl, rfl⟩
  | lload _ => obtain ⟨v, _, _, h3⟩ := xs_ld he; cases h3; exact ⟨rfl, rfl, rfl⟩
  | aload_n _ => obtain ⟨v, _, _, h3⟩ := xs_ld he; cases h3; exact ⟨rfl, rfl, rfl⟩
  | aload _ => obtain ⟨v, _, _, h3⟩ := xs_ld he; cases h3; exact ⟨rfl, rfl, rfl⟩
  | istore_n _ => obtain ⟨v, q, _, _, _, h3⟩ := xs_st1 he; cases h3; exact ⟨rfl, rfl, rfl⟩
  | istore _ => obtain ⟨v, q, _, _, _, h3⟩ := xs_st1 he; cases h3; exact ⟨rfl, rfl, rfl⟩
  | astore_n _ => obtain ⟨v, q, _, _, _, h3⟩ := xs_st1 he; cases h3; exact ⟨rfl, rfl, rfl⟩
  | astore _ => obtain ⟨v, q, _, _, _, h3⟩ := xs_st1 he; cases h3; exact ⟨rfl, rfl, rfl⟩
  | lstore_n _ => obtain ⟨v, q, _, _, _, h3⟩ := xs_st2 he; cases h3; exact ⟨rfl, rfl, rfl⟩
  | lstore _ => obtain ⟨v, q, _, _, _, h3⟩ := xs_st2 he; cases h3; exact ⟨rfl, rfl, rfl⟩
  | iadd => obtain ⟨y, x, q, _, h2⟩ := xp_ii_v he; cases h2; exact ⟨rfl, rfl, rfl⟩
  | isub => obtain ⟨y, x, q, _, h2⟩ := xp_ii_v he; cases h2; exact ⟨rfl, rfl, rfl⟩
  | imul => obtain ⟨y, x, q, _, h2⟩ := xp_ii_v he; cases h2; exact ⟨rfl, rfl, rfl⟩
  | iand => obtain ⟨y, x, q, _, h2⟩ := xp_ii_v he; cases h2; exact ⟨rfl, rfl, rfl⟩
  | ior => obtain ⟨y, x, q, _, h2⟩ := xp_ii_v he; cases h2; exact ⟨rfl, rfl, rfl⟩
  | ixor => obtain ⟨y, x, q, _, h2⟩ := xp_ii_v he; cases h2; exact ⟨rfl, rfl, rfl⟩
  | ishl => obtain ⟨y, x, q, _, h2⟩ := xp_ii_v he; cases h2; exact ⟨rfl, rfl, rfl⟩
  | ishr => obtain ⟨y, x, q, _, h2⟩ := xp_ii_v he; cases h2; exact ⟨rfl, rfl, rfl⟩
  | iushr => obtain ⟨y, x, q, _, h2⟩ := xp_ii_v he; cases h2; exact ⟨rfl, rfl, rfl⟩
  | ladd => obtain ⟨y, x, q, _, h2⟩ := xp_ll_v he; cases h2; exact ⟨rfl, rfl, rfl⟩
  | lsub => obtain ⟨y, x, q, _, h2⟩ := xp_ll_v he; cases h2; exact ⟨rfl, rfl, rfl⟩
  | lmul => obtain ⟨y, x, q, _, h2⟩ := xp_ll_v he; cases h2; exact ⟨rfl, rfl, rfl⟩
  | lcmp => obtain ⟨y, x, q, _, h2⟩ := xp_ll_v he; cases h2; exact ⟨rfl, rfl, rfl⟩
  | land => obtain ⟨y, x, q, _, h2⟩ := xp_ll_v he; cases h2; exact ⟨rfl, rfl, rfl⟩
  | lor => obtain ⟨y, x, q, _, h2⟩ := xp_ll_v he; cases h2; exact ⟨rfl, rfl, rfl⟩
  | lushr => obtain ⟨y, x, q, _, h2⟩ := xp_il_v he; cases h2; exact ⟨rfl, rfl, rfl⟩
  | lshl => obtain ⟨y, x, q, _, h2⟩ := xp_il_v he; cases h2; exact ⟨rfl, rfl, rfl⟩
  | i2l => obtain ⟨x, q, _, h2⟩ := xp_i_v he; cases h2; exact ⟨rfl, rfl, rfl⟩
  | l2i => obtain ⟨x, q, _, h2⟩ := xp_l_v he; cases h2; exact ⟨rfl, rfl, rfl⟩
  | i2b => obtain ⟨x, q, _, h2⟩ := xp_i_v he; cases h2; exact ⟨rfl, rfl, rfl⟩
  | iinc k n =>
    have he : (match xl_get lv k with
      | some (.int x) => cond (Nat.ble (k + 1) nL) (some (pc + 3, xl_1 lv k (.int (x + Int32.ofInt n)), st, h, c, s)) none
      | _ => none) = some (pc', lv', st', h', c', s') := he
    split at he
    · obtain ⟨_, h3⟩ := xw_c he; cases h3; exact ⟨rfl, rfl, rfl⟩
    · cases he
  | dup =>
    match st, he with
    | a :: q, he => obtain ⟨_, h3⟩ := xw_c he; cases h3; exact ⟨rfl, rfl, rfl⟩
  | pop =>
    match st, he with
    | a :: q, he => obtain ⟨_, h3⟩ := xw_c he; cases h3; exact ⟨rfl, rfl, rfl⟩
  | dup2 =>
    match st, he with
    | a :: b :: q, he => obtain ⟨_, h3⟩ := xw_c he; cases h3; exact ⟨rfl, rfl, rfl⟩
  | dup_x2 =>
    match st, he with
    | a :: b :: d :: q, he => obtain ⟨_, h3⟩ := xw_c he; cases h3; exact ⟨rfl, rfl, rfl⟩
  | _ => cases hp
/-- a lasting reference of an object -/
def a_rfk (tb : aT) (c ci k : Nat) : Option Nat := cond (Nat.blt k (xh_N ci) && (Nat.beq (a_ent tb (0, ci) c k).1 2 && a_fz (a_ent tb (0, ci) c k).2.1.toNat)) (some (a_ent tb (0, ci) c k).2.1.toNat) none
/-- shapes and lasting references are as the table has them -/
def a_rq (tb : aT) (h : xh_H) : Prop := 72 ≤ h.1.length ∧ (∀ (c : Nat) (s : Nat × Nat), a_sh[c]? = some s → h.1[c]? = some s) ∧ ∀ (c k ci t : Nat), a_sh[c]? = some (0, ci) → a_rfk tb c ci k = some t → xg none h.2.2.2 c k = some t
theorem a_sh_lt {c : Nat} {s : Nat × Nat} (h : a_sh[c]? = some s) : c < 72 := (List.getElem?_eq_some_iff.mp h).1
theorem a_rq_of {tb : aT} {h : xh_H} (hi : a_inw tb h) (hn : 72 ≤ h.1.length) : a_rq tb h := by
  have sh : ∀ (c : Nat) (s : Nat × Nat), a_sh[c]? = some s → h.1[c]? = some s := by
    intro c s hs
    have hc := a_sh_lt hs
    obtain ⟨s2, e⟩ : ∃ s2, h.1[c]? = some s2 := ⟨_, List.getElem?_eq_getElem (show c < h.1.length by omega)⟩
    have g := (hi c s2 e).1
    rw [a_tg_lt hc, hs] at g
    rw [e, ← Option.some.inj g]
  refine ⟨hn, sh, ?_⟩
  intro c k ci t hs ht
  have hc := a_sh_lt hs
  unfold a_rfk at ht
  obtain ⟨g1, g2⟩ := xw_c ht
  obtain ⟨g1, g3⟩ := xw_bb g1
  obtain ⟨g3, g4⟩ := xw_bb g3
  have g1 := Nat.blt_eq.mp g1
  have g3 := xw_beq g3
  have g2 := Option.some.inj g2
  have g := (hi c _ (sh c _ hs)).2 k g1
  rw [a_tg_lt hc] at g
  unfold a_e at g
  rw [g3] at g
  obtain ⟨q, e1, e2⟩ := g
  rw [g2] at e2 g4
  rw [e1]
  congr 1
  by_cases hq : q < 72
  · rw [← e2.2, a_tg_lt hq]
  · exfalso
    obtain ⟨-, g5⟩ := xw_bb g4
    obtain ⟨g5, g6⟩ := xw_bb g5
    rcases a_tg_ge hq with e | e
    · rw [← e2.2, e] at g5
      cases g5
    · rw [← e2.2, e] at g6
      cases g6
theorem a_rq_ui {tb : aT} {h : xh_H} {c k : Nat} {x : Int32} (hq : a_rq tb h) : a_rq tb (xh_ui h c k x) := hq
theorem a_rq_ul {tb : aT} {h : xh_H} {c k : Nat} {x : Int64} (hq : a_rq tb h) : a_rq tb (xh_ul h c k x) := hq
abbrev xa_S : Type := Nat × List (Nat × Value) × List Value × xh_H
/-- the heap's instructions, with what they ask -/
def xa_h (tb : aT) (r : xr_R) (pc : Nat) (lv : List (Nat × Value)) (st : List Value) (h : xh_H) : Option (xa_S × Option Prop) := match r.1 with
  | .getfield _ => (match st with
    | .ref c :: q => (match a_sh[c]? with
      | some (0, ci) => cond (Nat.beq ci r.2.2.1) (match xh_ty r.2.2.1 r.2.2.2.1 with
        | .int => some ((pc + 3, lv, .int (xg 0 h.2.1 c r.2.2.2.1) :: q, h), none)
        | .boolean => some ((pc + 3, lv, .int (xg 0 h.2.1 c r.2.2.2.1) :: q, h), none)
        | .long => some ((pc + 3, lv, .long (xg 0 h.2.2.1 c r.2.2.2.1) :: q, h), none)
        | .object _ => (match a_rfk tb c ci r.2.2.2.1 with
          | some t => some ((pc + 3, lv, .ref t :: q, h), none)
          | none => none)
        | .array _ => (match a_rfk tb c ci r.2.2.2.1 with
          | some t => some ((pc + 3, lv, .ref t :: q, h), none)
          | none => none)
        | _ => none) none
      | _ => none)
    | _ => none)
  | .putfield _ => (match st with
    | .int x :: .ref c :: q => (match a_sh[c]? with
      | some (0, ci) => cond (Nat.beq ci r.2.2.1) (match xh_ty r.2.2.1 r.2.2.2.1 with
        | .int => some ((pc + 3, lv, q, xh_ui h c r.2.2.2.1 x), none)
        | .boolean => some ((pc + 3, lv, q, xh_ui h c r.2.2.2.1 x), some (x = 0 ∨ x = 1))
        | _ => none) none
      | _ => none)
    | .long x :: .ref c :: q => (match a_sh[c]? with
      | some (0, ci) => cond (Nat.beq ci r.2.2.1) (match xh_ty r.2.2.1 r.2.2.2.1 with
        | .long => some ((pc + 3, lv, q, xh_ul h c r.2.2.2.1 x), none)
        | _ => none) none
      | _ => none)
    | _ => none)
  | .iaload => (match st with
    | .int i :: .ref c :: q => (match a_sh[c]? with
      | some (1, n) => some ((pc + 1, lv, .int (xg 0 h.2.1 c i.toNatClampNeg) :: q, h), some (xe_in i n = true))
      | _ => none)
    | _ => none)
  | .baload => (match st with
    | .int i :: .ref c :: q => (match a_sh[c]? with
      | some (2, n) => some ((pc + 1, lv, .int (xg 0 h.2.1 c i.toNatClampNeg) :: q, h), some (xe_in i n = true))
      | some (3, n) => some ((pc + 1, lv, .int (xg 0 h.2.1 c i.toNatClampNeg) :: q, h), some (xe_in i n = true))
      | _ => none)
    | _ => none)
  | .laload => (match st with
    | .int i :: .ref c :: q => (match a_sh[c]? with
      | some (4, n) => some ((pc + 1, lv, .long (xg 0 h.2.2.1 c i.toNatClampNeg) :: q, h), some (xe_in i n = true))
      | _ => none)
    | .int i :: .float u :: q => cond (Nat.beq u.toNat 1) (some ((pc + 1, lv, .long (xo_f i.toNatClampNeg) :: q, h), some (xe_in i 13 = true))) none
    | _ => none)
  | .getstatic _ => some ((pc + 3, lv, .float 1 :: st, h), none)
  | .ldiv => (match st with
    | .long y :: .long x :: q => some ((pc + 1, lv, .long (x / y) :: q, h), some (y ≠ 0))
    | _ => none)
  | .iastore => (match st with
    | .int x :: .int i :: .ref c :: q => (match a_sh[c]? with
      | some (1, n) => some ((pc + 1, lv, q, xh_ui h c i.toNatClampNeg x), some (xe_in i n = true))
      | _ => none)
    | _ => none)
  | .bastore => (match st with
    | .int x :: .int i :: .ref c :: q => (match a_sh[c]? with
      | some (3, n) => some ((pc + 1, lv, q, xh_ui h c i.toNatClampNeg (vp_nar .boolean x)), some (xe_in i n = true))
      | _ => none)
    | _ => none)
  | .lastore => (match st with
    | .long x :: .int i :: .ref c :: q => (match a_sh[c]? with
      | some (4, n) => some ((pc + 1, lv, q, xh_ul h c i.toNatClampNeg x), some (xe_in i n = true))
      | _ => none)
    | _ => none)
  | .arraylength => (match st with
    | .ref c :: q => (match a_sh[c]? with
      | some (k + 1, n) => cond (Nat.ble (k + 1) 5) (some ((pc + 1, lv, .int (Int32.ofNat n) :: q, h), none)) none
      | _ => none)
    | _ => none)
  | _ => none
def xa_a (o : Option Prop) : Prop := match o with
  | some P => P
  | none => True
set_option maxHeartbeats 4000000 in
theorem xa_h_ok {tb : aT} {nL d : Nat} {r : xr_R} {pc : Nat} {lv : List (Nat × Value)} {st : List Value} {h : xh_H} {o : xa_S} {P : Option Prop} (hq : a_rq tb h) (he : xa_h tb r pc lv st h = some (o, P)) (hP : xa_a P) : a_rq tb o.2.2.2 ∧ xe_2 none nL r d pc lv st h 0 0 = some (o.1, o.2.1, o.2.2.1, o.2.2.2, 0, 0) := by
  obtain ⟨i, len, ra, rb, rK, ri⟩ := r
  have lift : ∀ (o : xs_S), xe_1 nL (i, len, ra, rb, rK, ri) pc lv st h 0 0 = some o → xe_2 none nL (i, len, ra, rb, rK, ri) d pc lv st h 0 0 = some o := by
    intro o ho
    unfold xe_2
    rw [ho]
  unfold xa_h at he
  cases i
  case getfield idx =>
    dsimp only at he
    split at he
    · rename_i c q
      split at he
      · rename_i ci hs
        obtain ⟨g1, g2⟩ := xw_c he
        have hs2 := hq.2.1 c _ hs
        have base : ∀ v, xh_get h c (xh_ty ra rb) rb = v → xe_1 nL (.getfield idx, len, ra, rb, rK, ri) pc lv (.ref c :: q) h 0 0 = some (pc + 3, lv, v :: q, h, 0, 0) := by
          intro v hv
          unfold xe_1 xp_r
          try dsimp only
          rw [hs2]
          show (cond (Nat.beq ci ra) _ _) = _
          rw [g1, hv]
          rfl
        split at g2
        · rename_i hty
          cases g2
          exact ⟨hq, lift _ (base _ (by rw [hty]; rfl))⟩
        · rename_i hty
          cases g2
          exact ⟨hq, lift _ (base _ (by rw [hty]; rfl))⟩
        · rename_i hty
          cases g2
          exact ⟨hq, lift _ (base _ (by rw [hty]; rfl))⟩
        · rename_i x hty
          split at g2
          · rename_i t ht
            cases g2
            refine ⟨hq, lift _ (base _ ?_)⟩
            rw [hty]
            show va_rf (xg none h.2.2.2 c rb) = .ref t
            rw [hq.2.2 c rb ci t hs ht]
            rfl
          · cases g2
        · rename_i x hty
          split at g2
          · rename_i t ht
            cases g2
            refine ⟨hq, lift _ (base _ ?_)⟩
            rw [hty]
            show va_rf (xg none h.2.2.2 c rb) = .ref t
            rw [hq.2.2 c rb ci t hs ht]
            rfl
          · cases g2
        · cases g2
      · cases he
    · cases he
  case putfield idx =>
    dsimp only at he
    split at he
    · rename_i x c q
      split at he
      · rename_i ci hs
        obtain ⟨g1, g2⟩ := xw_c he
        have hs2 := hq.2.1 c _ hs
        have base : ∀ h2, xe_put h c (xh_ty ra rb) rb (.int x) = some h2 → xe_1 nL (.putfield idx, len, ra, rb, rK, ri) pc lv (.int x :: .ref c :: q) h 0 0 = some (pc + 3, lv, q, h2, 0, 0) := by
          intro v hv
          unfold xe_1 xp_vr
          try dsimp only
          rw [hs2]
          show (cond (Nat.beq ci ra) _ _) = _
          rw [g1, hv]
          rfl
        split at g2
        · rename_i hty
          cases g2
          exact ⟨hq, lift _ (base _ (by rw [hty]; rfl))⟩
        · rename_i hty
          cases g2
          have hP : x = 0 ∨ x = 1 := hP
          refine ⟨hq, lift _ (base _ ?_)⟩
          rw [hty]
          rcases hP with rfl | rfl <;> rfl
        · cases g2
      · cases he
    · rename_i x c q
      split at he
      · rename_i ci hs
        obtain ⟨g1, g2⟩ := xw_c he
        have hs2 := hq.2.1 c _ hs
        split at g2
        · rename_i hty
          cases g2
          refine ⟨hq, lift _ ?_⟩
          unfold xe_1 xp_vr
          try dsimp only
          rw [hs2]
          show (cond (Nat.beq ci ra) _ _) = _
          rw [g1, hty]
          rfl
        · cases g2
      · cases he
    · cases he
  case iaload =>
    dsimp only at he
    split at he
    · rename_i i c q
      split at he
      · rename_i n hs
        cases he
        have hP : xe_in i n = true := hP
        refine ⟨hq, lift _ ?_⟩
        unfold xe_1 xp_ir
        try dsimp only
        rw [hq.2.1 c _ hs]
        show (cond (xe_in i n) _ _) = _
        rw [hP]
        rfl
      · cases he
    · cases he
  case baload =>
    dsimp only at he
    split at he
    · rename_i i c q
      split at he
      · rename_i n hs
        cases he
        have hP : xe_in i n = true := hP
        refine ⟨hq, lift _ ?_⟩
        unfold xe_1 xp_ir
        try dsimp only
        rw [hq.2.1 c _ hs]
        show (cond (xe_in i n) _ _) = _
        rw [hP]
        rfl
      · rename_i n hs
        cases he
        have hP : xe_in i n = true := hP
        refine ⟨hq, lift _ ?_⟩
        unfold xe_1 xp_ir
        try dsimp only
        rw [hq.2.1 c _ hs]
        show (cond (xe_in i n) _ _) = _
        rw [hP]
        rfl
      · cases he
    · cases he
  case laload =>
    dsimp only at he
    split at he
    · rename_i i c q
      split at he
      · rename_i n hs
        cases he
        have hP : xe_in i n = true := hP
        refine ⟨hq, lift _ ?_⟩
        unfold xe_1 xp_ir
        try dsimp only
        rw [hq.2.1 c _ hs]
        show (cond (xe_in i n) _ _) = _
        rw [hP]
        rfl
      · cases he
    · rename_i i u q
      obtain ⟨g1, g2⟩ := xw_c he
      cases g2
      have hP : xe_in i 13 = true := hP
      refine ⟨hq, ?_⟩
      unfold xe_2 xe_1 xe_o xp_ir
      try dsimp only
      rw [g1, hP]
      rfl
    · cases he
  case getstatic idx =>
    cases he
    exact ⟨hq, rfl⟩
  case ldiv =>
    dsimp only at he
    split at he
    · rename_i y x q
      cases he
      have hP : y ≠ 0 := hP
      refine ⟨hq, lift _ ?_⟩
      unfold xe_1 xp_ll
      try dsimp only
      rw [decide_eq_false hP]
      rfl
    · cases he
  case iastore =>
    dsimp only at he
    split at he
    · rename_i x i c q
      split at he
      · rename_i n hs
        cases he
        have hP : xe_in i n = true := hP
        refine ⟨hq, lift _ ?_⟩
        unfold xe_1 xp_iir
        try dsimp only
        rw [hq.2.1 c _ hs]
        show (cond (xe_in i n) _ _) = _
        rw [hP]
        rfl
      · cases he
    · cases he
  case bastore =>
    dsimp only at he
    split at he
    · rename_i x i c q
      split at he
      · rename_i n hs
        cases he
        have hP : xe_in i n = true := hP
        refine ⟨hq, lift _ ?_⟩
        unfold xe_1 xp_iir
        try dsimp only
        rw [hq.2.1 c _ hs]
        show (cond (xe_in i n) _ _) = _
        rw [hP]
        rfl
      · cases he
    · cases he
  case lastore =>
    dsimp only at he
    split at he
    · rename_i x i c q
      split at he
      · rename_i n hs
        cases he
        have hP : xe_in i n = true := hP
        refine ⟨hq, lift _ ?_⟩
        unfold xe_1 xp_lir
        try dsimp only
        rw [hq.2.1 c _ hs]
        show (cond (xe_in i n) _ _) = _
        rw [hP]
        rfl
      · cases he
    · cases he
  case arraylength =>
    dsimp only at he
    split at he
    · rename_i c q
      split at he
      · rename_i k n hs
        obtain ⟨g1, g2⟩ := xw_c he
        cases g2
        refine ⟨hq, lift _ ?_⟩
        unfold xe_1 xp_r
        try dsimp only
        rw [hq.2.1 c _ hs]
        show (cond (Nat.ble (k + 1) 5) _ _) = _
        rw [g1]
        rfl
      · cases he
    · cases he
  all_goals cases he
/-- a piece of code, along a path: where it comes to, and what that asks -/
def xa (tb : aT) (mid nL stop : Nat) : Nat → Bool → List Bool → Nat → List (Nat × Value) → List Value → xh_H → Option (xa_S × Prop)
  | 0, _, _, _, _, _, _ => none
  | f + 1, b, p, pc, lv, st, h => cond (b && Nat.beq pc stop) (some ((pc, lv, st, h), True)) (match xC mid pc with
    | none => none
    | some r => cond (xe_isr r.1) none (match r.1 with
      | .ifCond k _ => (match st with
        | .int x :: q => (match p with
          | t :: p => (match xa tb mid nL stop f true p (cond t r.2.2.1 (pc + 3)) lv q h with
            | some (o, P) => some (o, xe_c k x 0 = t ∧ P)
            | none => none)
          | [] => none)
        | _ => none)
      | .if_icmp k _ => (match st with
        | .int y :: .int x :: q => (match p with
          | t :: p => (match xa tb mid nL stop f true p (cond t r.2.2.1 (pc + 3)) lv q h with
            | some (o, P) => some (o, xe_c k x y = t ∧ P)
            | none => none)
          | [] => none)
        | _ => none)
      | _ => cond (xa_p r.1) (match xe_1 nL r pc lv st h 0 0 with
        | some (pc1, lv1, st1, _) => xa tb mid nL stop f true p pc1 lv1 st1 h
        | none => none) (match xa_h tb r pc lv st h with
        | some ((pc1, lv1, st1, h1), none) => xa tb mid nL stop f true p pc1 lv1 st1 h1
        | some ((pc1, lv1, st1, h1), some Q) => (match xa tb mid nL stop f true p pc1 lv1 st1 h1 with
          | some (o, P) => some (o, Q ∧ P)
          | none => none)
        | none => none)))
set_option maxHeartbeats 4000000 in
theorem xa_ok {tb : aT} {mid d stop : Nat} {mi : xm_M} : ∀ (f : Nat) (b : Bool) (p : List Bool) (pc : Nat) (lv : List (Nat × Value)) (st : List Value) (h : xh_H) (o : xa_S) (P : Prop), xa tb mid mi.2.2.2.1 stop f b p pc lv st h = some (o, P) → a_rq tb h → P → a_rq tb o.2.2.2 ∧ ∀ R, xR none d mid mi (o.1, o.2.1, o.2.2.1, o.2.2.2, 0, 0) R → xR none d mid mi (pc, lv, st, h, 0, 0) R := by
  intro f
  induction f with
  | zero => intro b p pc lv st h o P he; cases he
  | succ f ih =>
    intro b p pc lv st h o P he hq hP
    unfold xa at he
    cases hb : (b && Nat.beq pc stop) with
    | true =>
      rw [hb] at he
      cases he
      exact ⟨hq, fun R k => k⟩
    | false =>
      rw [hb] at he
      dsimp only [cond_false] at he
      cases hr : xC mid pc with
      | none => rw [hr] at he; cases he
      | some r =>
        rw [hr] at he
        dsimp only at he
        cases hi : xe_isr r.1 with
        | true => rw [hi] at he; cases he
        | false =>
          rw [hi] at he
          dsimp only [cond_false] at he
          split at he
          · rename_i k off hk
            split at he
            · rename_i x q
              split at he
              · rename_i t p
                split at he
                · rename_i o1 P1 h1
                  cases he
                  obtain ⟨hc, hP⟩ := hP
                  obtain ⟨k1, k2⟩ := ih _ _ _ _ _ _ _ _ h1 hq hP
                  refine ⟨k1, fun R kk => xR_step hr hi ?_ (k2 R kk)⟩
                  obtain ⟨i, len, ra, rb, rK, ri⟩ := r
                  dsimp only at hk
                  subst hk
                  unfold xe_2 xe_1 xp_i
                  try dsimp only
                  rw [hc]
                  cases t <;> rfl
                · cases he
              · cases he
            · cases he
          · rename_i k off hk
            split at he
            · rename_i y x q
              split at he
              · rename_i t p
                split at he
                · rename_i o1 P1 h1
                  cases he
                  obtain ⟨hc, hP⟩ := hP
                  obtain ⟨k1, k2⟩ := ih _ _ _ _ _ _ _ _ h1 hq hP
                  refine ⟨k1, fun R kk => xR_step hr hi ?_ (k2 R kk)⟩
                  obtain ⟨i, len, ra, rb, rK, ri⟩ := r
                  dsimp only at hk
                  subst hk
                  unfold xe_2 xe_1 xp_ii
                  try dsimp only
                  rw [hc]
                  cases t <;> rfl
                · cases he
              · cases he
            · cases he
          · cases hp : xa_p r.1 with
            | true =>
              rw [hp] at he
              dsimp only [cond_true] at he
              split at he
              · rename_i pc1 lv1 st1 x hx
                obtain ⟨h1, c1, s1⟩ := x
                obtain ⟨e1, e2, e3⟩ := xe_1_pure hx hp
                subst e1
                subst e2
                subst e3
                obtain ⟨k1, k2⟩ := ih _ _ _ _ _ _ _ _ he hq hP
                refine ⟨k1, fun R kk => xR_step hr hi ?_ (k2 R kk)⟩
                unfold xe_2
                rw [hx]
              · cases he
            | false =>
              rw [hp] at he
              dsimp only [cond_false] at he
              split at he
              · rename_i pc1 lv1 st1 h1 hx
                obtain ⟨g1, g2⟩ := xa_h_ok (nL := mi.2.2.2.1) (d := d) hq hx trivial
                obtain ⟨k1, k2⟩ := ih _ _ _ _ _ _ _ _ he g1 hP
                exact ⟨k1, fun R kk => xR_step hr hi g2 (k2 R kk)⟩
              · rename_i pc1 lv1 st1 h1 Q hx
                split at he
                · rename_i o1 P1 h2
                  cases he
                  obtain ⟨hQ, hP⟩ := hP
                  obtain ⟨g1, g2⟩ := xa_h_ok (nL := mi.2.2.2.1) (d := d) hq hx hQ
                  obtain ⟨k1, k2⟩ := ih _ _ _ _ _ _ _ _ h2 g1 hP
                  exact ⟨k1, fun R kk => xR_step hr hi g2 (k2 R kk)⟩
                · cases he
              · cases he
variable {tb : aT} {mid d : Nat} {mi : xm_M} {pc : Nat} {lv : List (Nat × Value)} {st : List Value} {h : xh_H} {R : Option Value × xh_H × Nat × Nat}
/-- walk along a path -/
theorem xa_go (stop : Nat) (p : List Bool) (f : Nat) {o : xa_S} {P : Prop} (hq : a_rq tb h) (he : xa tb mid mi.2.2.2.1 stop f false p pc lv st h = some (o, P)) (hP : P) (k : a_rq tb o.2.2.2 → xR none d mid mi (o.1, o.2.1, o.2.2.1, o.2.2.2, 0, 0) R) : xR none d mid mi (pc, lv, st, h, 0, 0) R := by
  obtain ⟨k1, k2⟩ := xa_ok (d := d) f false p pc lv st h o P he hq hP
  exact k2 R (k k1)
/-- the same, to a state that is told -/
theorem xa_to (pc1 : Nat) (lv1 : List (Nat × Value)) (st1 : List Value) (h1 : xh_H) (p : List Bool) (f : Nat) {P : Prop} (hq : a_rq tb h) (he : xa tb mid mi.2.2.2.1 pc1 f false p pc lv st h = some ((pc1, lv1, st1, h1), P)) (hP : P) (k : a_rq tb h1 → xR none d mid mi (pc1, lv1, st1, h1, 0, 0) R) : xR none d mid mi (pc, lv, st, h, 0, 0) R := by
  obtain ⟨k1, k2⟩ := xa_ok (d := d) f false p pc lv st h _ P he hq hP
  exact k2 R (k k1)
/-- a call's arguments, by the table's shapes -/
def xa_c (r : xr_R) (st : List Value) : Option (xm_M × List Value × List Value) := match xM r.2.2.1 with
  | none => none
  | some mi => (match r.1 with
    | .invokestatic _ => cond (Nat.beq r.2.2.2.1 0 && (Nat.beq mi.2.2.2.2.2.1 1 && (Nat.beq (st.take mi.2.2.2.2.2.2.1).length mi.2.2.2.2.2.2.1 && (Nat.ble (xm_cat (st.drop mi.2.2.2.2.2.2.1)) 8 && Nat.ble (xm_cat (st.take mi.2.2.2.2.2.2.1).reverse) mi.2.2.2.1)))) (some (mi, (st.take mi.2.2.2.2.2.2.1).reverse, st.drop mi.2.2.2.2.2.2.1)) none
    | .invokevirtual _ => (match st.drop mi.2.2.2.2.2.2.1 with
      | .ref b :: q => (match a_sh[b]? with
        | some (0, ci) => cond (Nat.beq r.2.2.2.1 0 && (Nat.beq ci mi.2.2.2.2.2.2.2 && (Nat.beq mi.2.2.2.2.2.1 0 && (Nat.beq (st.take mi.2.2.2.2.2.2.1).length mi.2.2.2.2.2.2.1 && (Nat.ble (xm_cat q) 8 && Nat.ble (xm_cat (.ref b :: (st.take mi.2.2.2.2.2.2.1).reverse)) mi.2.2.2.1))))) (some (mi, .ref b :: (st.take mi.2.2.2.2.2.2.1).reverse, q)) none
        | _ => none)
      | _ => none)
    | _ => none)
theorem xa_c_ok {r : xr_R} {mj : xm_M} {As q : List Value} {nL : Nat} (hq : a_rq tb h) (he : xa_c r st = some (mj, As, q)) : xe_cl xM r st h = some (mj, As, q) ∧ xe_2 none nL r (d + 1) pc lv st h 0 0 = none ∧ xe_isr r.1 = false ∧ xM r.2.2.1 = some mj := by
  unfold xa_c at he
  cases hM : xM r.2.2.1 with
  | none => rw [hM] at he; cases he
  | some mi =>
    rw [hM] at he
    dsimp only at he
    obtain ⟨i, len, ra, rb, rK, ri⟩ := r
    dsimp only at he hM
    split at he
    · rename_i idx
      obtain ⟨c0, ce⟩ := xw_c he
      have ce2 := ce
      cases ce
      have hb := xw_beq (xw_bb c0).1
      subst hb
      refine ⟨?_, rfl, rfl, rfl⟩
      unfold xe_cl
      try dsimp only
      rw [hM]
      try dsimp only
      rw [c0]
      rfl
    · rename_i idx
      split at he
      · rename_i b q2 hdr
        split at he
        · rename_i ci hs
          obtain ⟨c0, ce⟩ := xw_c he
          cases ce
          obtain ⟨c1, c2⟩ := xw_bb c0
          have hb := xw_beq c1
          subst hb
          refine ⟨?_, rfl, rfl, rfl⟩
          unfold xe_cl
          try dsimp only
          rw [hM]
          try dsimp only
          rw [hdr]
          try dsimp only
          rw [hq.2.1 b _ hs]
          show (cond (Nat.beq ci mj.2.2.2.2.2.2.2 && (Nat.beq mj.2.2.2.2.2.1 0 && (Nat.beq (st.take mj.2.2.2.2.2.2.1).length mj.2.2.2.2.2.2.1 && (Nat.ble (xm_cat q) 8 && Nat.ble (xm_cat (.ref b :: (st.take mj.2.2.2.2.2.2.1).reverse)) mj.2.2.2.1)))) (some (mj, .ref b :: (st.take mj.2.2.2.2.2.2.1).reverse, q)) none) = _
          rw [c2]
          rfl
        · cases he
      · cases he
    · cases he
/-- a call by its contract -/
theorem xa_by {C : aC} {r : xr_R} {mj : xm_M} {As q : List Value} {σ : aN → Int} (hC : a_spec tb C) (hq : a_rq tb h) (hi : a_inv tb h) (hr : xC mid pc = some r) (hid : C.1 = r.2.2.1) (he : xa_c r st = some (mj, As, q)) (hd : C.2.1 ≤ d) (ha : a_st σ h.1.length C.2.2.1 As) (hp : a_fp C.2.2.2.2.2 h)
    (k : ∀ v h', a_post tb h C.2.2.2.2.1 (a_sg As) C.2.2.2.1 v h' → xR none (d + 1) mid mi (pc + 3, lv, v.toList ++ q, h', 0, 0) R) : xR none (d + 1) mid mi (pc, lv, st, h, 0, 0) R := by
  obtain ⟨e1, e2, e3, e4⟩ := xa_c_ok (d := d) (pc := pc) (lv := lv) (nL := mi.2.2.2.1) hq he
  obtain ⟨v, h', r1, p1⟩ := hC d mj As h σ hd (by rw [hid]; exact e4) hi hq.1 ha hp
  refine xR_call (v := v) (h' := h') (mc := 0) (ms := 0) hr e3 e2 e1 ?_ (k v h' p1)
  rw [← hid]
  exact r1
/-- a call by its run -/
theorem xa_run {r : xr_R} {mj : xm_M} {As q : List Value} {v : Option Value} {h' : xh_H} (hq : a_rq tb h) (hr : xC mid pc = some r) (he : xa_c r st = some (mj, As, q)) (hm : xR none d r.2.2.1 mj (0, lv_args 0 As, [], h, 0, 0) (v, h', 0, 0)) (k : xR none (d + 1) mid mi (pc + 3, lv, v.toList ++ q, h', 0, 0) R) : xR none (d + 1) mid mi (pc, lv, st, h, 0, 0) R := by
  obtain ⟨e1, e2, e3, e4⟩ := xa_c_ok (d := d) (pc := pc) (lv := lv) (nL := mi.2.2.2.1) hq he
  exact xR_call (v := v) (h' := h') (mc := 0) (ms := 0) hr e3 e2 e1 hm k
end XHX
