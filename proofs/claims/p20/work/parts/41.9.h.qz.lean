section XQZ
/-- what most methods leave: the shapes, all references but those of Scales -/
def Qz (h h' : xh_H) : Prop := h'.1 = h.1 ∧ ∀ c k, h.1[c]? ≠ some (0, 5) → xg none h'.2.2.2 c k = xg none h.2.2.2 c k
theorem Qz_0 {h : xh_H} : Qz h h := ⟨rfl, fun _ _ _ => rfl⟩
theorem Qz_t {h h1 h2 : xh_H} (a : Qz h h1) (b : Qz h1 h2) : Qz h h2 := ⟨b.1.trans a.1, fun c k z => (b.2 c k (by rw [a.1]; exact z)).trans (a.2 c k z)⟩
theorem Qz_ui {h : xh_H} {a k : Nat} {x : Int32} : Qz h (xh_ui h a k x) := ⟨rfl, fun _ _ _ => rfl⟩
theorem Qz_ul {h : xh_H} {a k : Nat} {x : Int64} : Qz h (xh_ul h a k x) := ⟨rfl, fun _ _ _ => rfl⟩
theorem Qz_ur {h : xh_H} {a k : Nat} {x : Option Nat} (hs : h.1[a]? = some (0, 5)) : Qz h (xh_ur h a k x) := ⟨rfl, fun c k' z => congrFun (xh_up_o (fun e => z (by rw [e]; exact hs))) k'⟩
theorem okg_5 {h : xh_H} {a ra : Nat} (hs : h.1[a]? = some (0, ra)) (ok : Nat.beq ra 5 = true) : h.1[a]? = some (0, 5) := by rw [xw_beq ok] at hs; exact hs
def okg (ra rb : Nat) : Bool := match xh_ty ra rb with
  | .int => true
  | .boolean => true
  | .long => true
  | _ => Nat.beq ra 5
/-- an instruction that leaves it -/
def okq (r : xr_R) : Bool := match r.1 with
  | .aastore => false
  | .newarray _ => false
  | .anewarray _ => false
  | .new _ => false
  | .putfield _ => okg r.2.2.1 r.2.2.2.1
  | _ => true
theorem Qz_put {ra rb : Nat} {h h' : xh_H} {a : Nat} {v : Value} (hs : h.1[a]? = some (0, ra)) (hp : xe_put h a (xh_ty ra rb) rb v = some h') (ok : okg ra rb = true) : Qz h h' := by
  unfold okg at ok
  unfold xe_put at hp
  cases hty : xh_ty ra rb <;> rw [hty] at hp ok <;> dsimp only at hp ok
  case int =>
    split at hp
    · cases hp; exact Qz_ui
    · cases hp
  case boolean =>
    split at hp
    · obtain ⟨-, hp⟩ := xw_c hp
      cases hp; exact Qz_ui
    · cases hp
  case long =>
    split at hp
    · cases hp; exact Qz_ul
    · cases hp
  case object =>
    split at hp
    · cases hp; exact Qz_ur (okg_5 hs ok)
    · cases hp
  case array =>
    split at hp
    · cases hp; exact Qz_ur (okg_5 hs ok)
    · cases hp
  all_goals cases hp
set_option maxHeartbeats 4000000 in
set_option maxRecDepth 100000 in
theorem xe_1_qz {nL : Nat} {r : xr_R} {pc : Nat} {lv : List (Nat × Value)} {st : List Value} {h : xh_H} {c s : Nat} {pc' : Nat} {lv' : List (Nat × Value)} {st' : List Value} {h' : xh_H} {c' s' : Nat} (he : xe_1 nL r pc lv st h c s = some (pc', lv', st', h', c', s')) (ok : okq r = true) : Qz h h' := by
  obtain ⟨i, len, ra, rb, rK, ri⟩ := r
  cases i with
  | iconst _ => cases he; exact Qz_0
  | bipush _ => cases he; exact Qz_0
  | sipush _ => cases he; exact Qz_0
  | lconst _ => cases he; exact Qz_0
  | ldc_w _ => cases he; exact Qz_0
  | ldc2_w _ => cases he; exact Qz_0
  | goto _ => cases he; exact Qz_0
  | ldc _ => cases rb <;> (cases he; exact Qz_0)
  | iload_n _ => obtain ⟨v, _, _, h3⟩ := xs_ld he; cases h3; exact Qz_0
  | iload _ => obtain ⟨v, _, _, h3⟩ := xs_ld he; cases h3; exact Qz_0
  | lload_n _ => obtain ⟨v, _, _, h3⟩ := xs_ld he; cases h3; exact Qz_0
  | lload _ => obtain ⟨v, _, _, h3⟩ := xs_ld he; cases h3; exact Qz_0
  | aload_n _ => obtain ⟨v, _, _, h3⟩ := xs_ld he; cases h3; exact Qz_0
  | aload _ => obtain ⟨v, _, _, h3⟩ := xs_ld he; cases h3; exact Qz_0
  | istore_n _ => obtain ⟨v, q, _, _, _, h3⟩ := xs_st1 he; cases h3; exact Qz_0
  | istore _ => obtain ⟨v, q, _, _, _, h3⟩ := xs_st1 he; cases h3; exact Qz_0
  | astore_n _ => obtain ⟨v, q, _, _, _, h3⟩ := xs_st1 he; cases h3; exact Qz_0
  | astore _ => obtain ⟨v, q, _, _, _, h3⟩ := xs_st1 he; cases h3; exact Qz_0
  | lstore_n _ => obtain ⟨v, q, _, _, _, h3⟩ := xs_st2 he; cases h3; exact Qz_0
  | lstore _ => obtain ⟨v, q, _, _, _, h3⟩ := xs_st2 he; cases h3; exact Qz_0
  | iadd => obtain ⟨y, x, q, _, h2⟩ := xp_ii_v he; cases h2; exact Qz_0
  | isub => obtain ⟨y, x, q, _, h2⟩ := xp_ii_v he; cases h2; exact Qz_0
  | imul => obtain ⟨y, x, q, _, h2⟩ := xp_ii_v he; cases h2; exact Qz_0
  | iand => obtain ⟨y, x, q, _, h2⟩ := xp_ii_v he; cases h2; exact Qz_0
  | ior => obtain ⟨y, x, q, _, h2⟩ := xp_ii_v he; cases h2; exact Qz_0
  | ixor => obtain ⟨y, x, q, _, h2⟩ := xp_ii_v he; cases h2; exact Qz_0
  | ishl => obtain ⟨y, x, q, _, h2⟩ := xp_ii_v he; cases h2; exact Qz_0
  | ishr => obtain ⟨y, x, q, _, h2⟩ := xp_ii_v he; cases h2; exact Qz_0
  | iushr => obtain ⟨y, x, q, _, h2⟩ := xp_ii_v he; cases h2; exact Qz_0
  | if_icmp k _ =>
    obtain ⟨y, x, q, _, h2⟩ := xp_ii_v he
    cases hb : xe_c k x y with
    | true => rw [hb] at h2; cases h2; exact Qz_0
    | false => rw [hb] at h2; cases h2; exact Qz_0
  | irem => obtain ⟨y, x, q, _, h2⟩ := xp_ii_v he; obtain ⟨_, h3⟩ := xw_c0 h2; cases h3; exact Qz_0
  | ladd => obtain ⟨y, x, q, _, h2⟩ := xp_ll_v he; cases h2; exact Qz_0
  | lsub => obtain ⟨y, x, q, _, h2⟩ := xp_ll_v he; cases h2; exact Qz_0
  | lmul => obtain ⟨y, x, q, _, h2⟩ := xp_ll_v he; cases h2; exact Qz_0
  | land => obtain ⟨y, x, q, _, h2⟩ := xp_ll_v he; cases h2; exact Qz_0
  | lor => obtain ⟨y, x, q, _, h2⟩ := xp_ll_v he; cases h2; exact Qz_0
  | lcmp => obtain ⟨y, x, q, _, h2⟩ := xp_ll_v he; cases h2; exact Qz_0
  | ldiv => obtain ⟨y, x, q, _, h2⟩ := xp_ll_v he; obtain ⟨_, h3⟩ := xw_c0 h2; cases h3; exact Qz_0
  | lrem => obtain ⟨y, x, q, _, h2⟩ := xp_ll_v he; obtain ⟨_, h3⟩ := xw_c0 h2; cases h3; exact Qz_0
  | lushr => obtain ⟨y, x, q, _, h2⟩ := xp_il_v he; cases h2; exact Qz_0
  | lshl => obtain ⟨y, x, q, _, h2⟩ := xp_il_v he; cases h2; exact Qz_0
  | i2l => obtain ⟨x, q, _, h2⟩ := xp_i_v he; cases h2; exact Qz_0
  | i2b => obtain ⟨x, q, _, h2⟩ := xp_i_v he; cases h2; exact Qz_0
  | i2c => obtain ⟨x, q, _, h2⟩ := xp_i_v he; cases h2; exact Qz_0
  | ifCond k _ =>
    obtain ⟨x, q, _, h2⟩ := xp_i_v he
    cases hb : xe_c k x 0 with
    | true => rw [hb] at h2; cases h2; exact Qz_0
    | false => rw [hb] at h2; cases h2; exact Qz_0
  | l2i => obtain ⟨x, q, _, h2⟩ := xp_l_v he; cases h2; exact Qz_0
  | pop2 => obtain ⟨x, q, _, h2⟩ := xp_l_v he; cases h2; exact Qz_0
  | newarray _ => cases ok
  | anewarray _ => cases ok
  | new _ => cases ok
  | dup =>
    match st, he with
    | a :: q, he => obtain ⟨_, h3⟩ := xw_c he; cases h3; exact Qz_0
  | pop =>
    match st, he with
    | a :: q, he => obtain ⟨_, h3⟩ := xw_c he; cases h3; exact Qz_0
  | dup2 =>
    match st, he with
    | a :: b :: q, he => obtain ⟨_, h3⟩ := xw_c he; cases h3; exact Qz_0
  | dup_x2 =>
    match st, he with
    | a :: b :: d :: q, he => obtain ⟨_, h3⟩ := xw_c he; cases h3; exact Qz_0
  | iinc k n =>
    have he : (match xl_get lv k with
      | some (.int x) => cond (Nat.ble (k + 1) nL) (some (pc + 3, xl_1 lv k (.int (x + Int32.ofInt n)), st, h, c, s)) none
      | _ => none) = some (pc', lv', st', h', c', s') := he
    split at he
    · obtain ⟨_, h3⟩ := xw_c he; cases h3; exact Qz_0
    · cases he
  | ifnull _ =>
    match st, he with
    | .ref _ :: q, he => cases he; exact Qz_0
    | .null :: q, he => cases he; exact Qz_0
  | if_acmp k _ =>
    cases k with
    | eq => cases he
    | ne =>
      match st, he with
      | .ref y :: .ref x :: q, he =>
        obtain ⟨_, h3⟩ := xw_c he
        cases hb : Nat.beq x y with
        | true => rw [hb] at h3; cases h3; exact Qz_0
        | false => rw [hb] at h3; cases h3; exact Qz_0
  | getfield _ =>
    obtain ⟨a, q, _, h2⟩ := xp_r_v he
    try dsimp only at h2
    split at h2
    · obtain ⟨_, h3⟩ := xw_c h2; cases h3; exact Qz_0
    · cases h2
  | putfield _ =>
    obtain ⟨v, a, q, _, h2⟩ := xp_vr_v he
    try dsimp only at h2
    split at h2
    · rename_i ci hs
      obtain ⟨hci, h3⟩ := xw_c h2
      have hci := xw_beq hci
      obtain ⟨hx, hp, h4⟩ := Option.map_eq_some_iff.mp h3
      cases h4
      subst hci
      exact Qz_put hs hp ok
    · cases h2
  | iaload =>
    obtain ⟨i, a, q, _, h2⟩ := xp_ir_v he
    try dsimp only at h2
    split at h2
    · obtain ⟨_, h3⟩ := xw_c h2; cases h3; exact Qz_0
    · cases h2
  | baload =>
    obtain ⟨i, a, q, _, h2⟩ := xp_ir_v he
    try dsimp only at h2
    split at h2
    · obtain ⟨_, h3⟩ := xw_c h2; cases h3; exact Qz_0
    · obtain ⟨_, h3⟩ := xw_c h2; cases h3; exact Qz_0
    · cases h2
  | laload =>
    obtain ⟨i, a, q, _, h2⟩ := xp_ir_v he
    try dsimp only at h2
    split at h2
    · obtain ⟨_, h3⟩ := xw_c h2; cases h3; exact Qz_0
    · cases h2
  | aaload =>
    obtain ⟨i, a, q, _, h2⟩ := xp_ir_v he
    try dsimp only at h2
    split at h2
    · obtain ⟨_, h3⟩ := xw_c h2; cases h3; exact Qz_0
    · cases h2
  | iastore =>
    obtain ⟨x, i, a, q, _, h2⟩ := xp_iir_v he
    try dsimp only at h2
    split at h2
    · rename_i n hs
      obtain ⟨_, h3⟩ := xw_c h2; cases h3; exact Qz_ui
    · cases h2
  | bastore =>
    obtain ⟨x, i, a, q, _, h2⟩ := xp_iir_v he
    try dsimp only at h2
    split at h2
    · rename_i n hs
      obtain ⟨_, h3⟩ := xw_c h2; cases h3; exact Qz_ui
    · rename_i n hs
      obtain ⟨_, h3⟩ := xw_c h2; cases h3; exact Qz_ui
    · cases h2
  | lastore =>
    obtain ⟨x, i, a, q, _, h2⟩ := xp_lir_v he
    try dsimp only at h2
    split at h2
    · rename_i n hs
      obtain ⟨_, h3⟩ := xw_c h2; cases h3; exact Qz_ul
    · cases h2
  | aastore => cases ok
  | arraylength =>
    obtain ⟨a, q, _, h2⟩ := xp_r_v he
    try dsimp only at h2
    split at h2
    · obtain ⟨_, h3⟩ := xw_c h2; cases h3; exact Qz_0
    · cases h2
  | tableswitch dflt lo hi offs =>
    obtain ⟨x, q, _, h2⟩ := xp_i_v he
    cases hb : (decide (x.toInt < lo) || decide (hi < x.toInt)) with
    | true =>
      rw [hb] at h2
      obtain ⟨_, h3⟩ := xw_c h2
      cases h3; exact Qz_0
    | false =>
      rw [hb] at h2
      cases ho : offs[(x.toInt - lo).toNat]? with
      | none => rw [ho] at h2; cases h2
      | some off =>
        rw [ho] at h2
        obtain ⟨_, h3⟩ := xw_c h2
        cases h3; exact Qz_0
  | _ => cases he
theorem xe_2_qz {nL d pc : Nat} {r : xr_R} {lv : List (Nat × Value)} {st : List Value} {h : xh_H} {c s : Nat} {pc' : Nat} {lv' : List (Nat × Value)} {st' : List Value} {h' : xh_H} {c' s' : Nat} (ok : okq r = true) (e : xe_2 none nL r d pc lv st h c s = some (pc', lv', st', h', c', s')) : Qz h h' := by
  unfold xe_2 at e
  cases h1 : xe_1 nL r pc lv st h c s with
  | some o1 => rw [h1] at e; cases e; exact xe_1_qz h1 ok
  | none =>
    rw [h1] at e
    dsimp only at e
    cases h2 : xe_o none r pc lv st h c s with
    | some o1 =>
      rw [h2] at e
      cases e
      unfold xe_o at h2
      split at h2
      · cases h2; exact Qz_0
      · split at h2
        · obtain ⟨-, h2⟩ := xw_c h2
          cases h2; exact Qz_0
        · cases h2
      · split at h2
        · cases h2
        · cases h2
      · split at h2
        · cases h2
        · cases h2
      · cases h2
    | none =>
      rw [h2] at e
      dsimp only at e
      unfold xe_oi at e
      split at e
      · split at e
        · split at e
          · split at e
            · obtain ⟨-, e⟩ := xw_c e
              cases e; exact Qz_0
            · cases e
          · cases e
        · split at e
          · split at e
            · obtain ⟨-, e⟩ := xw_c e
              cases e; exact Qz_0
            · cases e
          · cases e
        · cases e
      · split at e
        · split at e
          · cases e
          · split at e
            · obtain ⟨-, e⟩ := xw_c e
              cases e; exact Qz_0
            · cases e
        · cases e
      · split at e
        · split at e
          · cases e
          · split at e
            · obtain ⟨-, e⟩ := xw_c e
              cases e; exact Qz_0
            · cases e
        · cases e
      · cases e
/-- a closed list of methods whose code leaves it: every run does -/
theorem xe_x_qz {M : Nat → Bool} (hM : ∀ mid pc r, M mid = true → xC mid pc = some r → okq r = true ∧ (xe_isr r.1 = false → ∀ st h t, xe_cl xM r st h = some t → M r.2.2.1 = true)) : ∀ (f d mid : Nat) (mi : xm_M) (S : xs_S) (v : Option Value) (h' : xh_H) (c s : Nat), M mid = true → xe_x xM xC none f d mid mi S = some (v, h', c, s) → Qz S.2.2.2.1 h' := by
  intro f
  induction f with
  | zero => intro d mid mi S v h' c s _ e; cases e
  | succ f ih =>
    intro d mid mi S v h' c s hm e
    obtain ⟨pc, lv, st, h, c0, s0⟩ := S
    unfold xe_x at e
    cases hr : xC mid pc with
    | none => rw [hr] at e; cases e
    | some r =>
      rw [hr] at e
      dsimp only at e
      obtain ⟨ok, cl⟩ := hM mid pc r hm hr
      cases hi : xe_isr r.1 with
      | true =>
        rw [hi] at e
        simp only [cond_true] at e
        obtain ⟨w, _, e⟩ := Option.map_eq_some_iff.mp e
        cases e
        exact Qz_0
      | false =>
        rw [hi] at e
        simp only [cond_false] at e
        cases h2 : xe_2 none mi.2.2.2.1 r d pc lv st h c0 s0 with
        | some o =>
          rw [h2] at e
          obtain ⟨pc1, lv1, st1, h1, c1, s1⟩ := o
          exact Qz_t (xe_2_qz ok h2) (ih d mid mi _ v h' c s hm e)
        | none =>
          rw [h2] at e
          dsimp only at e
          cases d with
          | zero => cases e
          | succ d' =>
            dsimp only at e
            cases hcl : xe_cl xM r st h with
            | none => rw [hcl] at e; cases e
            | some t =>
              obtain ⟨mj, As, q⟩ := t
              rw [hcl] at e
              dsimp only at e
              cases hx : xe_x xM xC none f d' r.2.2.1 mj (0, lv_args 0 As, [], h, 0, 0) with
              | none => rw [hx] at e; cases e
              | some t =>
                obtain ⟨v1, h1, mc, ms⟩ := t
                rw [hx] at e
                exact Qz_t (ih d' r.2.2.1 mj (0, lv_args 0 As, [], h, 0, 0) v1 h1 mc ms (cl hi st h _ hcl) hx) (ih (d' + 1) mid mi (pc + 3, lv, v1.toList ++ q, h1, c0 + mc, s0 + ms) v h' c s hm e)
end XQZ
section XQM
/-- the methods that leave it -/
def qzK : Nat := 883423532389192164791648750357521249774056618513547416461269882370916350
def qzM (mid : Nat) : Bool := Nat.testBit qzK mid
def oqc (r : xr_R) : Bool := match r.1 with
  | .invokevirtual _ => qzM r.2.2.1 || (xM r.2.2.1).isNone
  | .invokestatic _ => qzM r.2.2.1 || !Nat.beq r.2.2.2.1 0
  | .invokespecial _ => qzM r.2.2.1 || !Nat.beq r.2.2.2.1 0
  | _ => true
def oqrow (o : Option xr_R) : Bool := match o with
  | none => true
  | some r => okq r && oqc r
def oqcode (cd : List (List (Option xr_R))) : Bool := cd.all (fun l => l.all oqrow)
def oqall : Bool := (List.range xc_t.length).all (fun B => (List.range 16).all (fun i => !qzM (16 * B + i) || oqcode ((xc_t.getD B []).getD i [])))
set_option maxRecDepth 100000 in
theorem oqall_t : oqall = true := by decide +kernel
theorem oqcode_r {cd : List (List (Option xr_R))} (h : oqcode cd = true) {pc : Nat} {r : xr_R} (e : xcl cd pc = some r) : okq r = true ∧ oqc r = true := by
  unfold xcl at e
  have hl : ∀ l ∈ cd, l.all oqrow = true := List.all_eq_true.mp h
  rcases getD_mem (l := cd.getD (pc / 16) []) (n := pc % 16) (d := none) with z | z
  · rw [e] at z; cases z
  · rw [e] at z
    rcases getD_mem (l := cd) (n := pc / 16) (d := []) with y | y
    · rw [y] at z; cases z
    · have := List.all_eq_true.mp (hl _ y) _ z
      exact xw_bb this
theorem qz_hM : ∀ mid pc r, qzM mid = true → xC mid pc = some r → okq r = true ∧ (xe_isr r.1 = false → ∀ st h t, xe_cl xM r st h = some t → qzM r.2.2.1 = true) := by
  intro mid pc r hm hr
  have ho : oqcode ((xc_t.getD (mid / 16) []).getD (mid % 16) []) = true := by
    by_cases hB : mid / 16 < xc_t.length
    · have a := List.all_eq_true.mp oqall_t (mid / 16) (List.mem_range.mpr hB)
      have b := List.all_eq_true.mp a (mid % 16) (List.mem_range.mpr (Nat.mod_lt _ (by decide)))
      rw [Nat.div_add_mod, hm] at b
      exact b
    · have e : xc_t.getD (mid / 16) [] = [] := by
        rw [List.getD_eq_getElem?_getD, List.getElem?_eq_none (by omega)]
        rfl
      rw [e]
      rfl
  obtain ⟨o1, o2⟩ := oqcode_r ho hr
  refine ⟨o1, fun _ st h t hc => ?_⟩
  obtain ⟨i, len, ra, rb, rK, ri⟩ := r
  unfold xe_cl at hc
  cases hM : xM (i, len, ra, rb, rK, ri).2.2.1 with
  | none => rw [hM] at hc; cases hc
  | some m =>
    rw [hM] at hc
    have hM' : xM ra = some m := hM
    cases i
    case invokevirtual idx =>
      have o3 : (qzM ra || (xM ra).isNone) = true := o2
      rw [hM'] at o3
      simpa using o3
    case invokestatic idx =>
      have o3 : (qzM ra || !Nat.beq rb 0) = true := o2
      dsimp only at hc
      obtain ⟨c1, -⟩ := xw_c hc
      have c2 := (xw_bb c1).1
      rw [c2] at o3
      simpa using o3
    case invokespecial idx =>
      have o3 : (qzM ra || !Nat.beq rb 0) = true := o2
      dsimp only at hc
      split at hc
      · obtain ⟨c1, -⟩ := xw_c hc
        have c2 := (xw_bb c1).1
        rw [c2] at o3
        simpa using o3
      · cases hc
    all_goals cases hc
/-- every run of such a method leaves it -/
theorem qz_run {d mid : Nat} {mi : xm_M} {S : xs_S} {v : Option Value} {h' : xh_H} {c s : Nat} (hm : qzM mid = true) (k : xR none d mid mi S (v, h', c, s)) : Qz S.2.2.2.1 h' := by
  obtain ⟨f, e⟩ := k
  exact xe_x_qz qz_hM f d mid mi S v h' c s hm e
theorem xq_qz {f mid : Nat} {mi : xm_M} {pc : Nat} {lv : List (Nat × Value)} {st : List Value} {h : xh_H} (hm : qzM mid = true) : xq f mid mi pc lv st h (fun _ h' => Qz h h') := fun d lw v h' c s _ he => xe_x_qz qz_hM f d mid mi (pc, lw, st, h, 0, 0) v h' c s hm he
end XQM
