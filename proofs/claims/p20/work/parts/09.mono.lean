section XM
set_option maxHeartbeats 4000000 in
set_option maxRecDepth 100000 in
theorem xe_1_mono {nL : Nat} {r : xr_R} {pc : Nat} {lv : List (Nat × Value)} {st : List Value} {h : xh_H} {c s : Nat} {pc' : Nat} {lv' : List (Nat × Value)} {st' : List Value} {h' : xh_H} {c' s' : Nat} (he : xe_1 nL r pc lv st h c s = some (pc', lv', st', h', c', s')) : c ≤ c' ∧ s ≤ s' := by
  obtain ⟨i, len, ra, rb, rK, ri⟩ := r
  cases i with
  | iconst _ => cases he; exact ⟨Nat.le_refl _, Nat.le_refl _⟩
  | bipush _ => cases he; exact ⟨Nat.le_refl _, Nat.le_refl _⟩
  | sipush _ => cases he; exact ⟨Nat.le_refl _, Nat.le_refl _⟩
  | lconst _ => cases he; exact ⟨Nat.le_refl _, Nat.le_refl _⟩
  | ldc_w _ => cases he; exact ⟨Nat.le_refl _, Nat.le_refl _⟩
  | ldc2_w _ => cases he; exact ⟨Nat.le_refl _, Nat.le_refl _⟩
  | goto _ => cases he; exact ⟨Nat.le_refl _, Nat.le_refl _⟩
  | ldc _ => cases rb <;> (cases he; exact ⟨Nat.le_refl _, Nat.le_refl _⟩)
  | iload_n _ => obtain ⟨v, _, _, h3⟩ := xs_ld he; cases h3; exact ⟨Nat.le_refl _, Nat.le_refl _⟩
  | iload _ => obtain ⟨v, _, _, h3⟩ := xs_ld he; cases h3; exact ⟨Nat.le_refl _, Nat.le_refl _⟩
  | lload_n _ => obtain ⟨v, _, _, h3⟩ := xs_ld he; cases h3; exact ⟨Nat.le_refl _, Nat.le_refl _⟩
  | lload _ => obtain ⟨v, _, _, h3⟩ := xs_ld he; cases h3; exact ⟨Nat.le_refl _, Nat.le_refl _⟩
  | aload_n _ => obtain ⟨v, _, _, h3⟩ := xs_ld he; cases h3; exact ⟨Nat.le_refl _, Nat.le_refl _⟩
  | aload _ => obtain ⟨v, _, _, h3⟩ := xs_ld he; cases h3; exact ⟨Nat.le_refl _, Nat.le_refl _⟩
  | istore_n _ => obtain ⟨v, q, _, _, _, h3⟩ := xs_st1 he; cases h3; exact ⟨Nat.le_refl _, Nat.le_refl _⟩
  | istore _ => obtain ⟨v, q, _, _, _, h3⟩ := xs_st1 he; cases h3; exact ⟨Nat.le_refl _, Nat.le_refl _⟩
  | astore_n _ => obtain ⟨v, q, _, _, _, h3⟩ := xs_st1 he; cases h3; exact ⟨Nat.le_refl _, Nat.le_refl _⟩
  | astore _ => obtain ⟨v, q, _, _, _, h3⟩ := xs_st1 he; cases h3; exact ⟨Nat.le_refl _, Nat.le_refl _⟩
  | lstore_n _ => obtain ⟨v, q, _, _, _, h3⟩ := xs_st2 he; cases h3; exact ⟨Nat.le_refl _, Nat.le_refl _⟩
  | lstore _ => obtain ⟨v, q, _, _, _, h3⟩ := xs_st2 he; cases h3; exact ⟨Nat.le_refl _, Nat.le_refl _⟩
  | iadd => obtain ⟨y, x, q, _, h2⟩ := xp_ii_v he; cases h2; exact ⟨Nat.le_refl _, Nat.le_refl _⟩
  | isub => obtain ⟨y, x, q, _, h2⟩ := xp_ii_v he; cases h2; exact ⟨Nat.le_refl _, Nat.le_refl _⟩
  | imul => obtain ⟨y, x, q, _, h2⟩ := xp_ii_v he; cases h2; exact ⟨Nat.le_refl _, Nat.le_refl _⟩
  | iand => obtain ⟨y, x, q, _, h2⟩ := xp_ii_v he; cases h2; exact ⟨Nat.le_refl _, Nat.le_refl _⟩
  | ior => obtain ⟨y, x, q, _, h2⟩ := xp_ii_v he; cases h2; exact ⟨Nat.le_refl _, Nat.le_refl _⟩
  | ixor => obtain ⟨y, x, q, _, h2⟩ := xp_ii_v he; cases h2; exact ⟨Nat.le_refl _, Nat.le_refl _⟩
  | ishl => obtain ⟨y, x, q, _, h2⟩ := xp_ii_v he; cases h2; exact ⟨Nat.le_refl _, Nat.le_refl _⟩
  | ishr => obtain ⟨y, x, q, _, h2⟩ := xp_ii_v he; cases h2; exact ⟨Nat.le_refl _, Nat.le_refl _⟩
  | iushr => obtain ⟨y, x, q, _, h2⟩ := xp_ii_v he; cases h2; exact ⟨Nat.le_refl _, Nat.le_refl _⟩
  | if_icmp k _ =>
    obtain ⟨y, x, q, _, h2⟩ := xp_ii_v he
    cases hb : xe_c k x y with
    | true => rw [hb] at h2; cases h2; exact ⟨Nat.le_refl _, Nat.le_refl _⟩
    | false => rw [hb] at h2; cases h2; exact ⟨Nat.le_refl _, Nat.le_refl _⟩
  | irem => obtain ⟨y, x, q, _, h2⟩ := xp_ii_v he; obtain ⟨_, h3⟩ := xw_c0 h2; cases h3; exact ⟨Nat.le_refl _, Nat.le_refl _⟩
  | ladd => obtain ⟨y, x, q, _, h2⟩ := xp_ll_v he; cases h2; exact ⟨Nat.le_refl _, Nat.le_refl _⟩
  | lsub => obtain ⟨y, x, q, _, h2⟩ := xp_ll_v he; cases h2; exact ⟨Nat.le_refl _, Nat.le_refl _⟩
  | lmul => obtain ⟨y, x, q, _, h2⟩ := xp_ll_v he; cases h2; exact ⟨Nat.le_refl _, Nat.le_refl _⟩
  | land => obtain ⟨y, x, q, _, h2⟩ := xp_ll_v he; cases h2; exact ⟨Nat.le_refl _, Nat.le_refl _⟩
  | lor => obtain ⟨y, x, q, _, h2⟩ := xp_ll_v he; cases h2; exact ⟨Nat.le_refl _, Nat.le_refl _⟩
  | lcmp => obtain ⟨y, x, q, _, h2⟩ := xp_ll_v he; cases h2; exact ⟨Nat.le_refl _, Nat.le_refl _⟩
  | ldiv => obtain ⟨y, x, q, _, h2⟩ := xp_ll_v he; obtain ⟨_, h3⟩ := xw_c0 h2; cases h3; exact ⟨Nat.le_refl _, Nat.le_refl _⟩
  | lrem => obtain ⟨y, x, q, _, h2⟩ := xp_ll_v he; obtain ⟨_, h3⟩ := xw_c0 h2; cases h3; exact ⟨Nat.le_refl _, Nat.le_refl _⟩
  | lushr => obtain ⟨y, x, q, _, h2⟩ := xp_il_v he; cases h2; exact ⟨Nat.le_refl _, Nat.le_refl _⟩
  | lshl => obtain ⟨y, x, q, _, h2⟩ := xp_il_v he; cases h2; exact ⟨Nat.le_refl _, Nat.le_refl _⟩
  | i2l => obtain ⟨x, q, _, h2⟩ := xp_i_v he; cases h2; exact ⟨Nat.le_refl _, Nat.le_refl _⟩
  | i2b => obtain ⟨x, q, _, h2⟩ := xp_i_v he; cases h2; exact ⟨Nat.le_refl _, Nat.le_refl _⟩
  | i2c => obtain ⟨x, q, _, h2⟩ := xp_i_v he; cases h2; exact ⟨Nat.le_refl _, Nat.le_refl _⟩
  | ifCond k _ =>
    obtain ⟨x, q, _, h2⟩ := xp_i_v he
    cases hb : xe_c k x 0 with
    | true => rw [hb] at h2; cases h2; exact ⟨Nat.le_refl _, Nat.le_refl _⟩
    | false => rw [hb] at h2; cases h2; exact ⟨Nat.le_refl _, Nat.le_refl _⟩
  | l2i => obtain ⟨x, q, _, h2⟩ := xp_l_v he; cases h2; exact ⟨Nat.le_refl _, Nat.le_refl _⟩
  | pop2 => obtain ⟨x, q, _, h2⟩ := xp_l_v he; cases h2; exact ⟨Nat.le_refl _, Nat.le_refl _⟩
  | newarray _ => obtain ⟨x, q, _, h2⟩ := xp_i_v he; obtain ⟨_, h3⟩ := xw_c h2; cases h3; exact ⟨Nat.le_add_right _ _, Nat.le_add_right _ _⟩
  | anewarray _ => obtain ⟨x, q, _, h2⟩ := xp_i_v he; obtain ⟨_, h3⟩ := xw_c h2; cases h3; exact ⟨Nat.le_add_right _ _, Nat.le_add_right _ _⟩
  | new _ => cases he; exact ⟨Nat.le_add_right _ _, Nat.le_add_right _ _⟩
  | dup =>
    match st, he with
    | a :: q, he => obtain ⟨_, h3⟩ := xw_c he; cases h3; exact ⟨Nat.le_refl _, Nat.le_refl _⟩
  | pop =>
    match st, he with
    | a :: q, he => obtain ⟨_, h3⟩ := xw_c he; cases h3; exact ⟨Nat.le_refl _, Nat.le_refl _⟩
  | dup2 =>
    match st, he with
    | a :: b :: q, he => obtain ⟨_, h3⟩ := xw_c he; cases h3; exact ⟨Nat.le_refl _, Nat.le_refl _⟩
  | dup_x2 =>
    match st, he with
    | a :: b :: d :: q, he => obtain ⟨_, h3⟩ := xw_c he; cases h3; exact ⟨Nat.le_refl _, Nat.le_refl _⟩
  | iinc k n =>
    have he : (match xl_get lv k with
      | some (.int x) => cond (Nat.ble (k + 1) nL) (some (pc + 3, xl_1 lv k (.int (x + Int32.ofInt n)), st, h, c, s)) none
      | _ => none) = some (pc', lv', st', h', c', s') := he
    split at he
    · obtain ⟨_, h3⟩ := xw_c he; cases h3; exact ⟨Nat.le_refl _, Nat.le_refl _⟩
    · cases he
  | ifnull _ =>
    match st, he with
    | .ref _ :: q, he => cases he; exact ⟨Nat.le_refl _, Nat.le_refl _⟩
    | .null :: q, he => cases he; exact ⟨Nat.le_refl _, Nat.le_refl _⟩
  | if_acmp k _ =>
    cases k with
    | eq => cases he
    | ne =>
      match st, he with
      | .ref y :: .ref x :: q, he =>
        obtain ⟨_, h3⟩ := xw_c he
        cases hb : Nat.beq x y with
        | true => rw [hb] at h3; cases h3; exact ⟨Nat.le_refl _, Nat.le_refl _⟩
        | false => rw [hb] at h3; cases h3; exact ⟨Nat.le_refl _, Nat.le_refl _⟩
  | getfield _ =>
    obtain ⟨a, q, _, h2⟩ := xp_r_v he
    try dsimp only at h2
    split at h2
    · obtain ⟨_, h3⟩ := xw_c h2; cases h3; exact ⟨Nat.le_refl _, Nat.le_refl _⟩
    · cases h2
  | putfield _ =>
    obtain ⟨v, a, q, _, h2⟩ := xp_vr_v he
    try dsimp only at h2
    split at h2
    · obtain ⟨_, h3⟩ := xw_c h2
      obtain ⟨_, _, h4⟩ := Option.map_eq_some_iff.mp h3
      cases h4; exact ⟨Nat.le_refl _, Nat.le_refl _⟩
    · cases h2
  | iaload =>
    obtain ⟨i, a, q, _, h2⟩ := xp_ir_v he
    try dsimp only at h2
    split at h2
    · obtain ⟨_, h3⟩ := xw_c h2; cases h3; exact ⟨Nat.le_refl _, Nat.le_refl _⟩
    · cases h2
  | baload =>
    obtain ⟨i, a, q, _, h2⟩ := xp_ir_v he
    try dsimp only at h2
    split at h2
    · obtain ⟨_, h3⟩ := xw_c h2; cases h3; exact ⟨Nat.le_refl _, Nat.le_refl _⟩
    · obtain ⟨_, h3⟩ := xw_c h2; cases h3; exact ⟨Nat.le_refl _, Nat.le_refl _⟩
    · cases h2
  | laload =>
    obtain ⟨i, a, q, _, h2⟩ := xp_ir_v he
    try dsimp only at h2
    split at h2
    · obtain ⟨_, h3⟩ := xw_c h2; cases h3; exact ⟨Nat.le_refl _, Nat.le_refl _⟩
    · cases h2
  | aaload =>
    obtain ⟨i, a, q, _, h2⟩ := xp_ir_v he
    try dsimp only at h2
    split at h2
    · obtain ⟨_, h3⟩ := xw_c h2; cases h3; exact ⟨Nat.le_refl _, Nat.le_refl _⟩
    · cases h2
  | iastore =>
    obtain ⟨x, i, a, q, _, h2⟩ := xp_iir_v he
    try dsimp only at h2
    split at h2
    · obtain ⟨_, h3⟩ := xw_c h2; cases h3; exact ⟨Nat.le_refl _, Nat.le_refl _⟩
    · cases h2
  | bastore =>
    obtain ⟨x, i, a, q, _, h2⟩ := xp_iir_v he
    try dsimp only at h2
    split at h2
    · obtain ⟨_, h3⟩ := xw_c h2; cases h3; exact ⟨Nat.le_refl _, Nat.le_refl _⟩
    · obtain ⟨_, h3⟩ := xw_c h2; cases h3; exact ⟨Nat.le_refl _, Nat.le_refl _⟩
    · cases h2
  | lastore =>
    obtain ⟨x, i, a, q, _, h2⟩ := xp_lir_v he
    try dsimp only at h2
    split at h2
    · obtain ⟨_, h3⟩ := xw_c h2; cases h3; exact ⟨Nat.le_refl _, Nat.le_refl _⟩
    · cases h2
  | aastore =>
    obtain ⟨x, i, a, q, _, h2⟩ := xp_rir_v he
    try dsimp only at h2
    split at h2
    · split at h2
      · obtain ⟨_, h3⟩ := xw_c h2; cases h3; exact ⟨Nat.le_refl _, Nat.le_refl _⟩
      · cases h2
    · cases h2
  | arraylength =>
    obtain ⟨a, q, _, h2⟩ := xp_r_v he
    try dsimp only at h2
    split at h2
    · obtain ⟨_, h3⟩ := xw_c h2; cases h3; exact ⟨Nat.le_refl _, Nat.le_refl _⟩
    · cases h2
  | tableswitch dflt lo hi offs =>
    obtain ⟨x, q, _, h2⟩ := xp_i_v he
    cases hb : (decide (x.toInt < lo) || decide (hi < x.toInt)) with
    | true =>
      rw [hb] at h2
      obtain ⟨_, h3⟩ := xw_c h2
      cases h3; exact ⟨Nat.le_refl _, Nat.le_refl _⟩
    | false =>
      rw [hb] at h2
      cases ho : offs[(x.toInt - lo).toNat]? with
      | none => rw [ho] at h2; cases h2
      | some off =>
        rw [ho] at h2
        obtain ⟨_, h3⟩ := xw_c h2
        cases h3; exact ⟨Nat.le_refl _, Nat.le_refl _⟩
  | _ => cases he
end XM
