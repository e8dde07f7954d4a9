section XLL
/-- a run up to a place, step by step -/
def xV (scr : Option (Nat × (Nat → Int32))) (stop d mid : Nat) (mi : xm_M) (S o : xs_S) : Prop := ∃ f : Nat, xe_u xM xC scr stop f d mid mi S = some o
theorem xe_u_more {M : Nat → Option xm_M} {Cd : Nat → Nat → Option xr_R} {stop : Nat} : ∀ (f : Nat) (scr : Option (Nat × (Nat → Int32))) (d mid : Nat) (mi : xm_M) (st : xs_S) (o : xs_S), xe_u M Cd scr stop f d mid mi st = some o → xe_u M Cd scr stop (f + 1) d mid mi st = some o := by
  intro f
  induction f with
  | zero => intro scr d mid mi st o he; cases he
  | succ f ih =>
    intro scr d mid mi st o he
    obtain ⟨pc, lv, st, h, c, s⟩ := st
    unfold xe_u at he ⊢
    cases hb : Nat.beq pc stop with
    | true => rw [hb] at he; exact he
    | false =>
      rw [hb] at he
      simp only [cond_false] at he ⊢
      cases hr : Cd mid pc with
      | none => rw [hr] at he; cases he
      | some r =>
        rw [hr] at he
        dsimp only at he ⊢
        cases hi : xe_isr r.1 with
        | true => rw [hi] at he; cases he
        | false =>
          rw [hi] at he
          simp only [cond_false] at he ⊢
          cases h2 : xe_2 scr mi.2.2.2.1 r d pc lv st h c s with
          | some o1 =>
            rw [h2] at he
            exact ih _ _ _ _ _ _ he
          | none =>
            rw [h2] at he
            dsimp only at he ⊢
            cases d with
            | zero => cases he
            | succ d' =>
              dsimp only at he ⊢
              cases hcl : xe_cl M r st h with
              | none => rw [hcl] at he; cases he
              | some t =>
                obtain ⟨mj, As, q⟩ := t
                rw [hcl] at he
                dsimp only at he ⊢
                cases hx : xe_x M Cd none f d' r.2.2.1 mj (0, lv_args 0 As, [], h, 0, 0) with
                | none => rw [hx] at he; cases he
                | some t =>
                  obtain ⟨v, h', mc, ms⟩ := t
                  rw [hx] at he
                  rw [xe_x_more _ _ _ _ _ _ _ hx]
                  exact ih _ _ _ _ _ _ he
theorem xe_u_le {M : Nat → Option xm_M} {Cd : Nat → Nat → Option xr_R} {stop f g : Nat} (hfg : f ≤ g) {scr : Option (Nat × (Nat → Int32))} {d mid : Nat} {mi : xm_M} {st : xs_S} {o : xs_S} (h : xe_u M Cd scr stop f d mid mi st = some o) : xe_u M Cd scr stop g d mid mi st = some o := by
  induction hfg with
  | refl => exact h
  | step _ ih => exact xe_u_more _ _ _ _ _ _ _ ih
section
variable {scr : Option (Nat × (Nat → Int32))} {stop d mid : Nat} {mi : xm_M} {pc : Nat} {lv : List (Nat × Value)} {st q : List Value} {h : xh_H} {c s : Nat} {o : xs_S} {r : xr_R}
theorem xV_stop : xV scr stop d mid mi (stop, lv, st, h, c, s) (stop, lv, st, h, c, s) := by
  refine ⟨1, ?_⟩
  unfold xe_u
  rw [Nat.beq_refl]
  rfl
theorem xV_step {o1 : xs_S} (hb : Nat.beq pc stop = false) (hr : xC mid pc = some r) (hi : xe_isr r.1 = false) (h2 : xe_2 scr mi.2.2.2.1 r d pc lv st h c s = some o1) (k : xV scr stop d mid mi o1 o) : xV scr stop d mid mi (pc, lv, st, h, c, s) o := by
  obtain ⟨f, hf⟩ := k
  refine ⟨f + 1, ?_⟩
  unfold xe_u
  rw [hb, hr]
  dsimp only
  rw [hi]
  simp only [cond_false]
  rw [h2]
  exact hf
theorem xV_call {mj : xm_M} {As q : List Value} {v : Option Value} {h' : xh_H} {mc ms : Nat} (hb : Nat.beq pc stop = false) (hr : xC mid pc = some r) (hi : xe_isr r.1 = false) (h2 : xe_2 scr mi.2.2.2.1 r (d + 1) pc lv st h c s = none) (hcl : xe_cl xM r st h = some (mj, As, q)) (hm : xR none d r.2.2.1 mj (0, lv_args 0 As, [], h, 0, 0) (v, h', mc, ms)) (k : xV scr stop (d + 1) mid mi (pc + 3, lv, v.toList ++ q, h', c + mc, s + ms) o) : xV scr stop (d + 1) mid mi (pc, lv, st, h, c, s) o := by
  obtain ⟨f1, hf1⟩ := hm
  obtain ⟨f2, hf2⟩ := k
  refine ⟨(f1 + f2) + 1, ?_⟩
  unfold xe_u
  rw [hb, hr]
  dsimp only
  rw [hi]
  simp only [cond_false]
  rw [h2]
  dsimp only
  rw [hcl]
  dsimp only
  rw [xe_x_le (Nat.le_add_right f1 f2) hf1]
  exact xe_u_le (Nat.le_add_left f2 f1) hf2
theorem xV_if (b : Bool) {k : ClassFile.Cond} {off : Int} {tgt b0 K i : Nat} {x : Int32} (hb : Nat.beq pc stop = false) (hr : xC mid pc = some (.ifCond k off, 3, tgt, b0, K, i)) (hx : xe_c k x 0 = b) (kk : xV scr stop d mid mi (cond b tgt (pc + 3), lv, q, h, c, s) o) : xV scr stop d mid mi (pc, lv, .int x :: q, h, c, s) o := by
  cases b with
  | true => exact xV_step hb hr rfl (by simp [xe_2, xe_1, xp_i, hx]) kk
  | false => exact xV_step hb hr rfl (by simp [xe_2, xe_1, xp_i, hx]) kk
theorem xV_ic (b : Bool) {k : ClassFile.Cond} {off : Int} {tgt b0 K i : Nat} {x y : Int32} (hb : Nat.beq pc stop = false) (hr : xC mid pc = some (.if_icmp k off, 3, tgt, b0, K, i)) (hx : xe_c k x y = b) (kk : xV scr stop d mid mi (cond b tgt (pc + 3), lv, q, h, c, s) o) : xV scr stop d mid mi (pc, lv, .int y :: .int x :: q, h, c, s) o := by
  cases b with
  | true => exact xV_step hb hr rfl (by simp [xe_2, xe_1, xp_ii, hx]) kk
  | false => exact xV_step hb hr rfl (by simp [xe_2, xe_1, xp_ii, hx]) kk
end
/-- between two calls of the law -/
def lc_I (h : xh_H) : Prop := a_inv a_tb h ∧ 72 ≤ h.1.length ∧ h.1.length % 2 = 0 ∧ ∃ t : Nat, t ≤ 640 ∧ xg 0 h.2.1 1 1 = nI t ∧ xg 0 h.2.1 39 2 = nI t
theorem lc_Iq {h : xh_H} (I : lc_I h) : a_rq a_tb h := a_rq_of I.1.1 I.2.1
theorem lc_It {h h' : xh_H} {md : List (Nat × Nat)} (I : lc_I h) (i : a_inv a_tb h') (l : 72 ≤ h'.1.length) (p : h'.1.length % 2 = 0) (f : a_fr md h h') (m1 : a_mb md 1 1 = false) (m2 : a_mb md 39 2 = false) : lc_I h' := by
  obtain ⟨t, t9, e1, e2⟩ := I.2.2.2
  exact ⟨i, l, p, t, t9, by rw [fr_g f rfl m1]; exact e1, by rw [fr_g f rfl m2]; exact e2⟩
theorem lc_1 {D : Nat} {C : aC} {m : xm_M} {A : List Value} {h : xh_H} {lo hi : Int} {o : Option (aN × Int)} {ft ff : aF} (I : lc_I h) (hC : a_spec a_tb C) (hM : xM C.1 = some m) (hd : C.2.1 ≤ D) (ha : a_st (fun _ => 0) h.1.length C.2.2.1 A) (hp : C.2.2.2.2.2 = []) (hret : C.2.2.2.1 = [(some (0, lo, hi, o, ft, ff), [])]) (m1 : a_mb C.2.2.2.2.1 1 1 = false) (m2 : a_mb C.2.2.2.2.1 39 2 = false) : ∃ (x : Int32) (h1 : xh_H), xR none D C.1 m (0, lv_args 0 A, [], h, 0, 0) (some (.int x), h1, 0, 0) ∧ lc_I h1 := by
  obtain ⟨v, h', r1, p1, p2, ⟨t, ht, p3⟩, p4⟩ := hC D m A h (fun _ => 0) hd hM I.1 I.2.1 ha (by rw [hp]; exact a_fp0)
  rw [hret] at ht
  cases List.mem_singleton.mp ht
  obtain ⟨⟨w, rfl, x, rfl, -⟩, -⟩ := p3
  exact ⟨x, h', r1, lc_It I p1 (by rw [p2]; exact I.2.1) (by rw [p2]; exact I.2.2.1) p4 m1 m2⟩
theorem lc_2 {D : Nat} {C : aC} {m : xm_M} {A : List Value} {h : xh_H} {lo hi : Int} {o : Option (aN × Int)} {ft ff : aF} (I : lc_I h) (hC : a_spec a_tb C) (hM : xM C.1 = some m) (hd : C.2.1 ≤ D) (ha : a_st (fun _ => 0) h.1.length C.2.2.1 A) (hp : C.2.2.2.2.2 = []) (hret : C.2.2.2.1 = [(some (1, lo, hi, o, ft, ff), [])]) (m1 : a_mb C.2.2.2.2.1 1 1 = false) (m2 : a_mb C.2.2.2.2.1 39 2 = false) : ∃ (x : Int64) (h1 : xh_H), xR none D C.1 m (0, lv_args 0 A, [], h, 0, 0) (some (.long x), h1, 0, 0) ∧ lc_I h1 := by
  obtain ⟨v, h', r1, p1, p2, ⟨t, ht, p3⟩, p4⟩ := hC D m A h (fun _ => 0) hd hM I.1 I.2.1 ha (by rw [hp]; exact a_fp0)
  rw [hret] at ht
  cases List.mem_singleton.mp ht
  obtain ⟨⟨w, rfl, x, rfl, -⟩, -⟩ := p3
  exact ⟨x, h', r1, lc_It I p1 (by rw [p2]; exact I.2.1) (by rw [p2]; exact I.2.2.1) p4 m1 m2⟩
/-- the law's locals -/
def lc_v (i : Nat) : List (Nat × Value) := [(4, .int (nI i)), (3, .ref 71), (2, .ref 39), (1, .ref 0), (0, .float 0)]
theorem lc_ia {L : Nat} {xs : Nat → Int32} {nL d pc k : Nat} {lv : List (Nat × Value)} {st : List Value} {h : xh_H} {c s : Nat} (hk : k < L) (hL : L ≤ 3072) : xe_2 (some (L, xs)) nL (.iaload, 1, 0, 0, 0, 0) d pc lv (.int (nI k) :: .float 0 :: st) h c s = some (pc + 1, lv, .int (xs k) :: st, h, c, s) := by
  have e := xin_n (k := k) (n := L) hk (by omega)
  have e2 : (nI k).toNatClampNeg = k := nI_clamp (by omega)
  have e3 : xe_o (some (L, xs)) (.iaload, 1, 0, 0, 0, 0) pc lv (.int (nI k) :: .float 0 :: st) h c s = some (pc + 1, lv, .int (xs k) :: st, h, c, s) := by
    show cond (Nat.beq (0 : UInt32).toNat 0 && xe_in (nI k) L) (some (pc + 1, lv, Value.int (xs (nI k).toNatClampNeg) :: st, h, c, s)) none = _
    rw [e, e2]
    rfl
  unfold xe_2
  rw [show xe_1 nL (.iaload, 1, 0, 0, 0, 0) pc lv (.int (nI k) :: .float 0 :: st) h c s = none from rfl]
  dsimp only
  rw [e3]
theorem xV_arg {L : Nat} {xs : Nat → Int32} {stop d pc i : Nat} {st : List Value} {h : xh_H} {c s : Nat} {o : xs_S} (j : Nat) (jj : Int) (hj : Int32.ofInt jj = nI j) (hi : i + j < L) (hL : L ≤ 3072) (b0 : Nat.beq pc stop = false) (b1 : Nat.beq (pc + 1) stop = false) (b3 : Nat.beq (pc + 3) stop = false) (b4 : Nat.beq (pc + 4) stop = false) (b5 : Nat.beq (pc + 5) stop = false) (r0 : xC xi_L_law pc = some (.aload_n 0, 1, 0, 0, 0, 0)) (r1 : xC xi_L_law (pc + 1) = some (.iload 4, 2, 0, 0, 0, 0)) (r3 : xC xi_L_law (pc + 3) = some (.iconst jj, 1, 0, 0, 0, 0)) (r4 : xC xi_L_law (pc + 4) = some (.iadd, 1, 0, 0, 0, 0)) (r5 : xC xi_L_law (pc + 5) = some (.iaload, 1, 0, 0, 0, 0)) (k : xV (some (L, xs)) stop d xi_L_law xmi_L_law (pc + 6, lc_v i, .int (xs (i + j)) :: st, h, c, s) o) : xV (some (L, xs)) stop d xi_L_law xmi_L_law (pc, lc_v i, st, h, c, s) o := by
  refine xV_step (o1 := (pc + 1, lc_v i, .float 0 :: st, h, c, s)) b0 r0 rfl rfl ?_
  refine xV_step (o1 := (pc + 3, lc_v i, .int (nI i) :: .float 0 :: st, h, c, s)) b1 r1 rfl rfl ?_
  refine xV_step (o1 := (pc + 4, lc_v i, .int (Int32.ofInt jj) :: .int (nI i) :: .float 0 :: st, h, c, s)) b3 r3 rfl rfl ?_
  refine xV_step (o1 := (pc + 5, lc_v i, .int (nI i + Int32.ofInt jj) :: .float 0 :: st, h, c, s)) b4 r4 rfl rfl ?_
  refine xV_step (o1 := (pc + 6, lc_v i, .int (xs (i + j)) :: st, h, c, s)) b5 r5 rfl ?_ k
  rw [hj, nI_add]
  exact lc_ia hi hL
/-- what is to be shown of a call -/
def lo_P (L : Nat) (xs : Nat → Int32) (i pc : Nat) (h : xh_H) (c s : Nat) : Prop := ∃ h' c' s', xV (some (L, xs)) 999 50 xi_L_law xmi_L_law (pc, lc_v i, [], h, c, s) (999, lc_v i, [], h', c', s') ∧ lc_I h' ∧ c' ≤ c + 2 ∧ s' ≤ s + 66
theorem a_an {n : Nat} {x : Int32} : a_v (fun _ => 0) n (0, (-2147483648), 2147483647, none, [], []) (.int x) := a_ai (ar_rng x).1 (ar_rng x).2
end XLL
