section XHS
/-! fewer locals do as well; runs with what holds at their ends -/
def xl_nd : List Nat → Bool
  | [] => true
  | i :: t => !(t.any (Nat.beq i)) && xl_nd t
def xl_pk : List Nat → List (Nat × Value) → Option (List (Nat × Value))
  | [], _ => some []
  | i :: t, lv => (match xl_get lv i with
    | some v => (match xl_pk t lv with
      | some l => some ((i, v) :: l)
      | none => none)
    | none => none)
def xl_sb (a b : List (Nat × Value)) : Prop := (a.map (fun q => q.1)).Nodup ∧ ∀ i v, xl_get a i = some v → xl_get b i = some v
theorem xl_nd_ok : ∀ {l : List Nat}, xl_nd l = true → l.Nodup := by
  intro l
  induction l with
  | nil => intro _; exact List.nodup_nil
  | cons i t ih =>
    intro h
    obtain ⟨h1, h2⟩ := xw_bb h
    rw [List.nodup_cons]
    refine ⟨fun hm => ?_, ih h2⟩
    have h3 : (t.any (Nat.beq i)) = true := List.any_eq_true.mpr ⟨i, hm, Nat.beq_refl i⟩
    rw [h3] at h1
    cases h1
theorem xl_pk_ok : ∀ {ks : List Nat} {lv l : List (Nat × Value)}, xl_pk ks lv = some l → l.map (fun q => q.1) = ks ∧ ∀ i v, xl_get l i = some v → xl_get lv i = some v := by
  intro ks
  induction ks with
  | nil => intro lv l h; cases h; exact ⟨rfl, fun i v h => by cases h⟩
  | cons k t ih =>
    intro lv l h
    unfold xl_pk at h
    split at h
    · rename_i v hv
      split at h
      · rename_i l2 hl
        cases h
        obtain ⟨g1, g2⟩ := ih hl
        refine ⟨by rw [List.map_cons, g1], fun i w hw => ?_⟩
        unfold xl_get at hw
        cases hb : Nat.beq k i with
        | true =>
          dsimp only at hw
          rw [hb] at hw
          cases hw
          rw [← Nat.eq_of_beq_eq_true hb]
          exact hv
        | false =>
          dsimp only at hw
          rw [hb] at hw
          exact g2 i w hw
      · cases h
    · cases h
theorem xl_mem_get {j : Nat} {v : Value} : ∀ {a : List (Nat × Value)}, (a.map (fun q => q.1)).Nodup → (j, v) ∈ a → xl_get a j = some v := by
  intro a
  induction a with
  | nil => intro _ h; cases h
  | cons q t ih =>
    intro hn h
    rw [List.map_cons, List.nodup_cons] at hn
    unfold xl_get
    rcases List.mem_cons.mp h with rfl | h
    · dsimp only
      rw [Nat.beq_refl]
      rfl
    · cases hb : Nat.beq q.1 j with
      | true =>
        exfalso
        have e := Nat.eq_of_beq_eq_true hb
        exact hn.1 (List.mem_map.mpr ⟨(j, v), h, e.symm⟩)
      | false => exact ih hn.2 h
theorem xl_get_fl {p : Nat × Value → Bool} {j : Nat} {v : Value} {a : List (Nat × Value)} (hn : (a.map (fun q => q.1)).Nodup) (h : xl_get (a.filter p) j = some v) : xl_get a j = some v ∧ p (j, v) = true := by
  obtain ⟨h1, h2⟩ := List.mem_filter.mp (xl_get_mem h)
  exact ⟨xl_mem_get hn h1, h2⟩
theorem xl_f_sb {p : Nat × Value → Bool} {i : Nat} {v : Value} {a b : List (Nat × Value)} (hp : ∀ w, p (i, w) = false) (h : xl_sb a b) : xl_sb ((i, v) :: a.filter p) ((i, v) :: b.filter p) := by
  obtain ⟨hn, hg⟩ := h
  refine ⟨?_, ?_⟩
  · rw [List.map_cons, List.nodup_cons]
    refine ⟨fun hm => ?_, (hn.sublist (List.Sublist.map _ List.filter_sublist))⟩
    obtain ⟨q, h1, h2⟩ := List.mem_map.mp hm
    have h3 := (List.mem_filter.mp h1).2
    have e : q = (i, q.2) := Prod.ext h2 rfl
    rw [e, hp] at h3
    cases h3
  · intro j w hw
    unfold xl_get at hw ⊢
    dsimp only at hw ⊢
    cases hb : Nat.beq i j with
    | true => rw [hb] at hw; exact hw
    | false =>
      rw [hb] at hw
      obtain ⟨g1, g2⟩ := xl_get_fl hn hw
      exact xl_get_f g2 (hg j w g1)
theorem xl_1_sb {i : Nat} {v : Value} {a b : List (Nat × Value)} (h : xl_sb a b) : xl_sb (xl_1 a i v) (xl_1 b i v) := xl_f_sb (fun w => by simp) h
theorem xl_2_sb {i : Nat} {v : Value} {a b : List (Nat × Value)} (h : xl_sb a b) : xl_sb (xl_2 a i v) (xl_2 b i v) := xl_f_sb (fun w => by simp) h
/-- what reads or writes the locals -/
def xa_l (i : Instr) : Bool := match i with
  | .iload_n _ => true
  | .iload _ => true
  | .lload_n _ => true
  | .lload _ => true
  | .aload_n _ => true
  | .aload _ => true
  | .istore_n _ => true
  | .istore _ => true
  | .astore_n _ => true
  | .astore _ => true
  | .lstore_n _ => true
  | .lstore _ => true
  | .iinc _ _ => true
  | _ => false
set_option maxHeartbeats 8000000 in
set_option maxRecDepth 100000 in
theorem xe_1_lv {nL : Nat} {r : xr_R} {pc : Nat} {lv lw : List (Nat × Value)} {st : List Value} {h : xh_H} {c s : Nat} (hl : xa_l r.1 = false) : xe_1 nL r pc lw st h c s = (xe_1 nL r pc lv st h c s).map (fun o => (o.1, lw, o.2.2)) := by
  obtain ⟨i, len, ra, rb, rK, ri⟩ := r
  cases i
  all_goals first
    | rfl
    | (cases hl; done)
    | (simp only [xe_1, xp_ii, xp_ll, xp_il, xp_i, xp_l, xp_r, xp_vr, xp_ir, xp_iir, xp_lir, xp_rir, Bool.cond_eq_ite]
       repeat' split
       all_goals first
         | rfl
         | (simp_all; done)
         | (simp_all; rfl))
theorem xe_1_sb {nL : Nat} {r : xr_R} {pc : Nat} {lv lw : List (Nat × Value)} {st : List Value} {h : xh_H} {c s : Nat} {pc' : Nat} {lv' : List (Nat × Value)} {st' : List Value} {h' : xh_H} {c' s' : Nat} (hs : xl_sb lv lw) (he : xe_1 nL r pc lv st h c s = some (pc', lv', st', h', c', s')) : ∃ lw', xe_1 nL r pc lw st h c s = some (pc', lw', st', h', c', s') ∧ xl_sb lv' lw' := by
  cases hl : xa_l r.1 with
  | false =>
    have e1 := xe_1_lv (nL := nL) (r := r) (pc := pc) (lv := lv) (lw := lv) (st := st) (h := h) (c := c) (s := s) hl
    have e2 := xe_1_lv (nL := nL) (r := r) (pc := pc) (lv := lv) (lw := lw) (st := st) (h := h) (c := c) (s := s) hl
    rw [he] at e1 e2
    have e1 := Option.some.inj e1
    injection e1 with _ e1
    injection e1 with e1 _
    refine ⟨lw, e2, ?_⟩
    rw [e1]
    exact hs
  | true =>
    obtain ⟨i, len, ra, rb, rK, ri⟩ := r
    have ld : ∀ k i len, xe_ld k i len pc lv st h c s = some (pc', lv', st', h', c', s') → ∃ lw', xe_ld k i len pc lw st h c s = some (pc', lw', st', h', c', s') ∧ xl_sb lv' lw' := by
      intro k i len h0
      obtain ⟨v, g1, g2, g3⟩ := xs_ld h0
      cases g3
      refine ⟨lw, ?_, hs⟩
      unfold xe_ld
      rw [hs.2 i v g1]
      dsimp only
      rw [g2]
      rfl
    have s1 : ∀ k i len, xe_st1 k i len pc nL lv st h c s = some (pc', lv', st', h', c', s') → ∃ lw', xe_st1 k i len pc nL lw st h c s = some (pc', lw', st', h', c', s') ∧ xl_sb lv' lw' := by
      intro k i len h0
      unfold xe_st1 at h0 ⊢
      split at h0
      · rename_i v q
        obtain ⟨g1, g2⟩ := xw_c h0
        cases g2
        refine ⟨xl_1 lw i v, ?_, xl_1_sb hs⟩
        rw [g1]
        rfl
      · cases h0
    have s2 : ∀ i len, xe_st2 i len pc nL lv st h c s = some (pc', lv', st', h', c', s') → ∃ lw', xe_st2 i len pc nL lw st h c s = some (pc', lw', st', h', c', s') ∧ xl_sb lv' lw' := by
      intro i len h0
      unfold xe_st2 at h0 ⊢
      split at h0
      · rename_i v q
        obtain ⟨g1, g2⟩ := xw_c h0
        cases g2
        refine ⟨xl_2 lw i v, ?_, xl_2_sb hs⟩
        rw [g1]
        rfl
      · cases h0
    cases i
    case iload_n k => exact ld _ _ _ he
    case iload k => exact ld _ _ _ he
    case lload_n k => exact ld _ _ _ he
    case lload k => exact ld _ _ _ he
    case aload_n k => exact ld _ _ _ he
    case aload k => exact ld _ _ _ he
    case istore_n k => exact s1 _ _ _ he
    case istore k => exact s1 _ _ _ he
    case astore_n k => exact s1 _ _ _ he
    case astore k => exact s1 _ _ _ he
    case lstore_n k => exact s2 _ _ he
    case lstore k => exact s2 _ _ he
    case iinc k n =>
      have he : (match xl_get lv k with
        | some (.int x) => cond (Nat.ble (k + 1) nL) (some (pc + 3, xl_1 lv k (.int (x + Int32.ofInt n)), st, h, c, s)) none
        | _ => none) = some (pc', lv', st', h', c', s') := he
      split at he
      · rename_i x hx
        obtain ⟨g1, g2⟩ := xw_c he
        cases g2
        refine ⟨xl_1 lw k (.int (x + Int32.ofInt n)), ?_, xl_1_sb hs⟩
        show (match xl_get lw k with
          | some (.int x) => cond (Nat.ble (k + 1) nL) (some (pc + 3, xl_1 lw k (.int (x + Int32.ofInt n)), st, h, c, s)) none
          | _ => none) = _
        rw [hs.2 k _ hx]
        dsimp only
        rw [g1]
        rfl
      · cases he
    all_goals (cases hl; done)
theorem xe_o_lv {scr : Option (Nat × (Nat → Int32))} {r : xr_R} {pc : Nat} {lv lw : List (Nat × Value)} {st : List Value} {h : xh_H} {c s : Nat} : xe_o scr r pc lw st h c s = (xe_o scr r pc lv st h c s).map (fun o => (o.1, lw, o.2.2)) := by
  unfold xe_o
  simp only [Bool.cond_eq_ite]
  repeat' split
  all_goals first
    | rfl
    | simp_all
theorem xe_oi_lv {r : xr_R} {pc d : Nat} {lv lw : List (Nat × Value)} {st : List Value} {h : xh_H} {c s : Nat} : xe_oi r pc d lw st h c s = (xe_oi r pc d lv st h c s).map (fun o => (o.1, lw, o.2.2)) := by
  unfold xe_oi
  simp only [Bool.cond_eq_ite]
  repeat' split
  all_goals first
    | rfl
    | simp_all
theorem xe_ol {f : List (Nat × Value) → Option xs_S} (hf : ∀ lv lw, f lw = (f lv).map (fun o => (o.1, lw, o.2.2))) {lv lw lv' : List (Nat × Value)} {pc' : Nat} {st' : List Value} {h' : xh_H} {c' s' : Nat} (hs : xl_sb lv lw) (he : f lv = some (pc', lv', st', h', c', s')) : ∃ lw', f lw = some (pc', lw', st', h', c', s') ∧ xl_sb lv' lw' := by
  have e1 := hf lv lv
  have e2 := hf lv lw
  rw [he] at e1 e2
  have e1 := Option.some.inj e1
  injection e1 with _ e1
  injection e1 with e1 _
  refine ⟨lw, e2, ?_⟩
  rw [e1]
  exact hs
theorem xe_ol_n {f : List (Nat × Value) → Option xs_S} (hf : ∀ lv lw, f lw = (f lv).map (fun o => (o.1, lw, o.2.2))) {lv lw : List (Nat × Value)} (he : f lv = none) : f lw = none := by
  rw [hf lv lw, he]
  rfl
theorem xe_2_sb {scr : Option (Nat × (Nat → Int32))} {nL d : Nat} {r : xr_R} {pc : Nat} {lv lw : List (Nat × Value)} {st : List Value} {h : xh_H} {c s : Nat} {pc' : Nat} {lv' : List (Nat × Value)} {st' : List Value} {h' : xh_H} {c' s' : Nat} (hs : xl_sb lv lw) (he : xe_2 scr nL r d pc lv st h c s = some (pc', lv', st', h', c', s')) : ∃ lw', xe_2 scr nL r d pc lw st h c s = some (pc', lw', st', h', c', s') ∧ xl_sb lv' lw' := by
  unfold xe_2 at he ⊢
  cases h1 : xe_1 nL r pc lv st h c s with
  | some o =>
    rw [h1] at he
    cases he
    obtain ⟨lw', g1, g2⟩ := xe_1_sb hs h1
    exact ⟨lw', by rw [g1], g2⟩
  | none =>
    rw [h1] at he
    dsimp only at he
    have fo := fun lv lw => xe_o_lv (scr := scr) (r := r) (pc := pc) (lv := lv) (lw := lw) (st := st) (h := h) (c := c) (s := s)
    have fi := fun lv lw => xe_oi_lv (r := r) (pc := pc) (d := d) (lv := lv) (lw := lw) (st := st) (h := h) (c := c) (s := s)
    have nl : xa_l r.1 = false := by
      cases h2 : xe_o scr r pc lv st h c s with
      | some o =>
        obtain ⟨i, len, ra, rb, rK, ri⟩ := r
        cases i <;> first | rfl | cases h2
      | none =>
        rw [h2] at he
        dsimp only at he
        obtain ⟨i, len, ra, rb, rK, ri⟩ := r
        cases i <;> first | rfl | cases he
    have n1 : xe_1 nL r pc lw st h c s = none := by
      rw [xe_1_lv (lv := lv) nl, h1]
      rfl
    rw [n1]
    dsimp only
    cases h2 : xe_o scr r pc lv st h c s with
    | some o =>
      rw [h2] at he
      cases he
      obtain ⟨lw', g1, g2⟩ := xe_ol fo hs h2
      exact ⟨lw', by rw [g1], g2⟩
    | none =>
      rw [h2] at he
      dsimp only at he
      rw [xe_ol_n fo (lw := lw) h2]
      exact xe_ol fi hs he
theorem xe_2_sn {scr : Option (Nat × (Nat → Int32))} {nL d : Nat} {r : xr_R} {pc : Nat} {lv lw : List (Nat × Value)} {st : List Value} {h : xh_H} {c s : Nat} (nl : xa_l r.1 = false) (he : xe_2 scr nL r d pc lv st h c s = none) : xe_2 scr nL r d pc lw st h c s = none := by
  unfold xe_2 at he ⊢
  cases h1 : xe_1 nL r pc lv st h c s with
  | some o => rw [h1] at he; cases he
  | none =>
    rw [h1] at he
    dsimp only at he
    have fo := fun lv lw => xe_o_lv (scr := scr) (r := r) (pc := pc) (lv := lv) (lw := lw) (st := st) (h := h) (c := c) (s := s)
    have fi := fun lv lw => xe_oi_lv (r := r) (pc := pc) (d := d) (lv := lv) (lw := lw) (st := st) (h := h) (c := c) (s := s)
    rw [xe_1_lv (lv := lv) nl, h1]
    cases h2 : xe_o scr r pc lv st h c s with
    | some o => rw [h2] at he; cases he
    | none =>
      rw [h2] at he
      dsimp only at he
      show (match xe_o scr r pc lw st h c s with
        | some o => some o
        | none => xe_oi r pc d lw st h c s) = none
      rw [xe_ol_n fo (lw := lw) h2]
      exact xe_ol_n fi he
theorem xe_x_sb {M : Nat → Option xm_M} {Cd : Nat → Nat → Option xr_R} : ∀ (f : Nat) (scr : Option (Nat × (Nat → Int32))) (d mid : Nat) (mi : xm_M) (pc : Nat) (lv lw : List (Nat × Value)) (st : List Value) (h : xh_H) (c s : Nat) (o : Option Value × xh_H × Nat × Nat), xl_sb lv lw → xe_x M Cd scr f d mid mi (pc, lv, st, h, c, s) = some o → xe_x M Cd scr f d mid mi (pc, lw, st, h, c, s) = some o := by
  intro f
  induction f with
  | zero => intro scr d mid mi pc lv lw st h c s o hs he; cases he
  | succ f ih =>
    intro scr d mid mi pc lv lw st h c s o hs he
    unfold xe_x at he ⊢
    cases hr : Cd mid pc with
    | none => rw [hr] at he; cases he
    | some r =>
      rw [hr] at he
      dsimp only at he ⊢
      cases hi : xe_isr r.1 with
      | true => rw [hi] at he; exact he
      | false =>
        rw [hi] at he
        simp only [cond_false] at he ⊢
        cases h2 : xe_2 scr mi.2.2.2.1 r d pc lv st h c s with
        | some o1 =>
          obtain ⟨pc1, lv1, st1, h1, c1, s1⟩ := o1
          rw [h2] at he
          obtain ⟨lw1, g1, g2⟩ := xe_2_sb hs h2
          rw [g1]
          exact ih _ _ _ _ _ _ _ _ _ _ _ _ g2 he
        | none =>
          rw [h2] at he
          dsimp only at he
          cases d with
          | zero => cases he
          | succ d' =>
            dsimp only at he
            cases hcl : xe_cl M r st h with
            | none => rw [hcl] at he; cases he
            | some t =>
              obtain ⟨mj, As, q⟩ := t
              have nl : xa_l r.1 = false := by
                unfold xe_cl at hcl
                split at hcl
                · cases hcl
                · obtain ⟨i, len, ra, rb, rK, ri⟩ := r
                  cases i <;> first | rfl | cases hcl
              rw [xe_2_sn nl h2]
              rw [hcl] at he
              dsimp only at he ⊢
              cases hx : xe_x M Cd none f d' r.2.2.1 mj (0, lv_args 0 As, [], h, 0, 0) with
              | none => rw [hx] at he; cases he
              | some t =>
                obtain ⟨v, h', mc, ms⟩ := t
                rw [hx] at he
                dsimp only at he ⊢
                exact ih _ _ _ _ _ _ _ _ _ _ _ _ hs he
theorem xR_sb {scr : Option (Nat × (Nat → Int32))} {d mid : Nat} {mi : xm_M} {pc : Nat} {lv lw : List (Nat × Value)} {st : List Value} {h : xh_H} {c s : Nat} {o : Option Value × xh_H × Nat × Nat} (hs : xl_sb lv lw) (k : xR scr d mid mi (pc, lv, st, h, c, s) o) : xR scr d mid mi (pc, lw, st, h, c, s) o := by
  obtain ⟨f, hf⟩ := k
  exact ⟨f, xe_x_sb f _ _ _ _ _ _ _ _ _ _ _ _ hs hf⟩
/-- A RUN COMES TO AN END OF WHICH Q HOLDS -/
def xt_P (d mid : Nat) (mi : xm_M) (pc : Nat) (lv : List (Nat × Value)) (st : List Value) (h : xh_H) (Q : Option Value → xh_H → Prop) : Prop := ∃ v h', xR none d mid mi (pc, lv, st, h, 0, 0) (v, h', 0, 0) ∧ Q v h'
/-- a piece of code along a path, and the locals that are kept -/
def xa_n (tb : aT) (mid nL stop f : Nat) (p : List Bool) (ks : List Nat) (pc : Nat) (lv : List (Nat × Value)) (st : List Value) (h : xh_H) : Option (xa_S × Prop) := cond (xl_nd ks) (match xa tb mid nL stop f false p pc lv st h with
  | some ((pc1, lv1, st1, h1), P) => (match xl_pk ks lv1 with
    | some l => some ((pc1, l, st1, h1), P)
    | none => none)
  | none => none) none
variable {tb : aT} {mid d : Nat} {mi : xm_M} {pc : Nat} {lv : List (Nat × Value)} {st : List Value} {h : xh_H} {Q : Option Value → xh_H → Prop}
theorem xa_tn (pc1 : Nat) (ks : List Nat) (lv1 : List (Nat × Value)) (st1 : List Value) (h1 : xh_H) (p : List Bool) (f : Nat) {P : Prop} (hq : a_rq tb h) (he : xa_n tb mid mi.2.2.2.1 pc1 f p ks pc lv st h = some ((pc1, lv1, st1, h1), P)) (hP : P) (k : a_rq tb h1 → xt_P d mid mi pc1 lv1 st1 h1 Q) : xt_P d mid mi pc lv st h Q := by
  unfold xa_n at he
  obtain ⟨n1, he⟩ := xw_c he
  split at he
  · rename_i pc2 lv2 st2 h2 P2 hx
    split at he
    · rename_i l hl
      cases he
      obtain ⟨k1, k2⟩ := xa_ok (d := d) f false p pc lv st h _ _ hx hq hP
      obtain ⟨v, h', r, q⟩ := k k1
      obtain ⟨e1, e2⟩ := xl_pk_ok hl
      refine ⟨v, h', k2 _ (xR_sb ⟨?_, e2⟩ r), q⟩
      rw [e1]
      exact xl_nd_ok n1
    · cases he
  · cases he
theorem xp_ret {r : xr_R} {v : Option Value} (hr : xC mid pc = some r) (hi : xe_isr r.1 = true) (hv : xe_rv r.1 mi.2.2.2.2.1 st = some v) (hQ : Q v h) : xt_P d mid mi pc lv st h Q := ⟨v, h, xR_ret hr hi hv, hQ⟩
theorem xp_step {r : xr_R} {pc1 : Nat} {lv1 : List (Nat × Value)} {st1 : List Value} {h1 : xh_H} (hr : xC mid pc = some r) (hi : xe_isr r.1 = false) (h2 : xe_2 none mi.2.2.2.1 r d pc lv st h 0 0 = some (pc1, lv1, st1, h1, 0, 0)) (k : xt_P d mid mi pc1 lv1 st1 h1 Q) : xt_P d mid mi pc lv st h Q := by
  obtain ⟨v, h', r, q⟩ := k
  exact ⟨v, h', xR_step hr hi h2 r, q⟩
/-- a call by its contract -/
theorem xp_by {C : aC} {r : xr_R} {mj : xm_M} {As q : List Value} {σ : aN → Int} (hC : a_spec tb C) (hq : a_rq tb h) (hi : a_inv tb h) (hr : xC mid pc = some r) (hid : C.1 = r.2.2.1) (he : xa_c r st = some (mj, As, q)) (hd : C.2.1 ≤ d) (ha : a_st σ h.1.length C.2.2.1 As) (hp : a_fp C.2.2.2.2.2 h)
    (k : ∀ v h', a_post tb h C.2.2.2.2.1 (a_sg As) C.2.2.2.1 v h' → a_rq tb h' → xt_P (d + 1) mid mi (pc + 3) lv (v.toList ++ q) h' Q) : xt_P (d + 1) mid mi pc lv st h Q := by
  obtain ⟨e1, e2, e3, e4⟩ := xa_c_ok (d := d) (pc := pc) (lv := lv) (nL := mi.2.2.2.1) hq he
  obtain ⟨v, h', r1, p1⟩ := hC d mj As h σ hd (by rw [hid]; exact e4) hi hq.1 ha hp
  obtain ⟨v2, h2, r2, q2⟩ := k v h' p1 (a_rq_of p1.1.1 (by rw [p1.2.1]; exact hq.1))
  refine ⟨v2, h2, xR_call (v := v) (h' := h') (mc := 0) (ms := 0) hr e3 e2 e1 ?_ r2, q2⟩
  rw [← hid]
  exact r1
/-- a call by what is known of its runs -/
theorem xp_run {r : xr_R} {mj : xm_M} {As q : List Value} {Q1 : Option Value → xh_H → Prop} (hq : a_rq tb h) (hr : xC mid pc = some r) (he : xa_c r st = some (mj, As, q)) (hm : xt_P d r.2.2.1 mj 0 (lv_args 0 As) [] h Q1)
    (k : ∀ v h', Q1 v h' → xt_P (d + 1) mid mi (pc + 3) lv (v.toList ++ q) h' Q) : xt_P (d + 1) mid mi pc lv st h Q := by
  obtain ⟨e1, e2, e3, e4⟩ := xa_c_ok (d := d) (pc := pc) (lv := lv) (nL := mi.2.2.2.1) hq he
  obtain ⟨v, h', r1, p1⟩ := hm
  obtain ⟨v2, h2, r2, q2⟩ := k v h' p1
  exact ⟨v2, h2, xR_call (v := v) (h' := h') (mc := 0) (ms := 0) hr e3 e2 e1 r1 r2, q2⟩
theorem xp_mono {Q1 : Option Value → xh_H → Prop} (h1 : xt_P d mid mi pc lv st h Q1) (h2 : ∀ v h', Q1 v h' → Q v h') : xt_P d mid mi pc lv st h Q := by
  obtain ⟨v, h', r, q⟩ := h1
  exact ⟨v, h', r, h2 v h' q⟩
theorem xp_ind {α : Type} (m : α → Nat) {P : α → Prop} (step : ∀ a, (∀ b, m b < m a → P b) → P a) : ∀ a, P a := by
  have g : ∀ n a, m a < n → P a := by
    intro n
    induction n with
    | zero => intro a h; omega
    | succ n ih => intro a h; exact step a (fun b hb => ih b (by omega))
  exact fun a => g (m a + 1) a (Nat.lt_succ_self _)
/-- what a call leaves as it was -/
def a_fr (md : List (Nat × Nat)) (h h' : xh_H) : Prop := ∀ c k, a_fz c = true → (c, a_key c k) ∉ md → xg 0 h'.2.1 c k = xg 0 h.2.1 c k
/-- a call that answers an int, by its contract -/
theorem xp_int {C : aC} {r : xr_R} {mj : xm_M} {As q : List Value} {σ : aN → Int} {lo hi : Int} {o : Option (aN × Int)} {ft ff : aF} (hC : a_spec tb C) (hq : a_rq tb h) (hi0 : a_inv tb h) (hr : xC mid pc = some r) (hid : C.1 = r.2.2.1) (he : xa_c r st = some (mj, As, q)) (hd : C.2.1 ≤ d) (ha : a_st σ h.1.length C.2.2.1 As) (hp : a_fp C.2.2.2.2.2 h) (hret : C.2.2.2.1 = [(some (0, lo, hi, o, ft, ff), [])])
    (k : ∀ (x : Int32) (h' : xh_H), lo ≤ x.toInt → x.toInt ≤ hi → a_inv tb h' → h'.1 = h.1 → a_fr C.2.2.2.2.1 h h' → a_rq tb h' → xt_P (d + 1) mid mi (pc + 3) lv (.int x :: q) h' Q) : xt_P (d + 1) mid mi pc lv st h Q := by
  refine xp_by hC hq hi0 hr hid he hd ha hp (fun v h' p hq' => ?_)
  obtain ⟨p1, p2, ⟨t, ht, p3⟩, p4⟩ := p
  rw [hret] at ht
  cases List.mem_singleton.mp ht
  obtain ⟨⟨w, rfl, x, rfl, g1, g2, -⟩, -⟩ := p3
  exact k x h' g1 g2 p1 p2 p4 hq'
/-- a call that answers nothing -/
theorem xp_void {C : aC} {r : xr_R} {mj : xm_M} {As q : List Value} {σ : aN → Int} {P : aP} (hC : a_spec tb C) (hq : a_rq tb h) (hi0 : a_inv tb h) (hr : xC mid pc = some r) (hid : C.1 = r.2.2.1) (he : xa_c r st = some (mj, As, q)) (hd : C.2.1 ≤ d) (ha : a_st σ h.1.length C.2.2.1 As) (hp : a_fp C.2.2.2.2.2 h) (hret : C.2.2.2.1 = [(none, P)])
    (k : ∀ (h' : xh_H), a_fp P h' → a_inv tb h' → h'.1 = h.1 → a_fr C.2.2.2.2.1 h h' → a_rq tb h' → xt_P (d + 1) mid mi (pc + 3) lv q h' Q) : xt_P (d + 1) mid mi pc lv st h Q := by
  refine xp_by hC hq hi0 hr hid he hd ha hp (fun v h' p hq' => ?_)
  obtain ⟨p1, p2, ⟨t, ht, p3⟩, p4⟩ := p
  rw [hret] at ht
  cases List.mem_singleton.mp ht
  obtain ⟨g1, g2⟩ := p3
  cases g1
  exact k h' g2 p1 p2 p4 hq'
theorem a_av {σ : aN → Int} {n t : Nat} (ht : t < 72) (hn : 72 ≤ n) : a_v σ n (2, (t : Int), 0, none, [], []) (.ref t) := ⟨t, rfl, by omega, by show a_tg t = ((t : Nat) : Int).toNat; rw [a_tg_lt ht]; omega⟩
theorem a_ai {σ : aN → Int} {n : Nat} {lo hi : Int} {x : Int32} (h1 : lo ≤ x.toInt) (h2 : x.toInt ≤ hi) : a_v σ n (0, lo, hi, none, [], []) (.int x) := a_vi rfl (a_I_ok h1 h2)
/-! comparisons -/
theorem xlt_t {x y : Int32} (h : x.toInt < y.toInt) : xe_c .lt x y = true := decide_eq_true (Int32.lt_iff_toInt_lt.mpr h)
theorem xlt_f {x y : Int32} (h : y.toInt ≤ x.toInt) : xe_c .lt x y = false := decide_eq_false (fun z => by have := Int32.lt_iff_toInt_lt.mp z; omega)
theorem xge_t {x y : Int32} (h : y.toInt ≤ x.toInt) : xe_c .ge x y = true := decide_eq_true (Int32.le_iff_toInt_le.mpr h)
theorem xge_f {x y : Int32} (h : x.toInt < y.toInt) : xe_c .ge x y = false := decide_eq_false (fun z => by have := Int32.le_iff_toInt_le.mp z; omega)
theorem xgt_t {x y : Int32} (h : y.toInt < x.toInt) : xe_c .gt x y = true := decide_eq_true (Int32.lt_iff_toInt_lt.mpr h)
theorem xgt_f {x y : Int32} (h : x.toInt ≤ y.toInt) : xe_c .gt x y = false := decide_eq_false (fun z => by have := Int32.lt_iff_toInt_lt.mp z; omega)
theorem xle_t {x y : Int32} (h : x.toInt ≤ y.toInt) : xe_c .le x y = true := decide_eq_true (Int32.le_iff_toInt_le.mpr h)
theorem xle_f {x y : Int32} (h : y.toInt < x.toInt) : xe_c .le x y = false := decide_eq_false (fun z => by have := Int32.le_iff_toInt_le.mp z; omega)
theorem xeq_t {x y : Int32} (h : x.toInt = y.toInt) : xe_c .eq x y = true := decide_eq_true (Int32.toInt_inj.mp h)
theorem xeq_f {x y : Int32} (h : x.toInt ≠ y.toInt) : xe_c .eq x y = false := decide_eq_false (fun z => h (congrArg Int32.toInt z))
theorem xne_t {x y : Int32} (h : x.toInt ≠ y.toInt) : xe_c .ne x y = true := by
  show (!decide (x = y)) = true
  rw [decide_eq_false (fun z => h (congrArg Int32.toInt z))]
  rfl
theorem xne_f {x y : Int32} (h : x.toInt = y.toInt) : xe_c .ne x y = false := by
  show (!decide (x = y)) = false
  rw [decide_eq_true (Int32.toInt_inj.mp h)]
  rfl
end XHS
