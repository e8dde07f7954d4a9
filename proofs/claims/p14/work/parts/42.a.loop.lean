section
section XLL
/-- a run up to a place, step by step -/
def xV (scr : Option (Nat × (Nat → Int32))) (stop d mid : Nat) (mi : xm_M) (S o : xs_S) : Prop := ∃ f : Nat, xe_u xM xC scr stop f d mid mi S = some o
theorem xe_u_more {M : Nat → Option xm_M} {Cd : Nat → Nat → Option xr_R} {stop : Nat} : ∀ (f : Nat) (scr : Option (Nat × (Nat → Int32))) (d mid : Nat) (mi : xm_M) (st : xs_S) (o : xs_S), xe_u M Cd scr stop f d mid mi st = some o → xe_u M Cd scr stop (f + 1) d mid mi st = some o := by
  intro f
  induction f with
  | zero => intro scr d mid mi st o he; cases he
  | succ f ih =>
    intro scr d mid mi st o he
    obtain ⟨pc, lv, st, h, c, s⟩ := st
    unfold xe_u at he ⊢
    cases hb : Nat.beq pc stop with
    | true => rw [hb] at he; exact he
    | false =>
      rw [hb] at he
      simp only [cond_false] at he ⊢
      cases hr : Cd mid pc with
      | none => rw [hr] at he; cases he
      | some r =>
        rw [hr] at he
        dsimp only at he ⊢
        cases hi : xe_isr r.1 with
        | true => rw [hi] at he; cases he
        | false =>
          rw [hi] at he
          simp only [cond_false] at he ⊢
          cases h2 : xe_2 scr mi.2.2.2.1 r d pc lv st h c s with
          | some o1 =>
            rw [h2] at he
            exact ih _ _ _ _ _ _ he
          | none =>
            rw [h2] at he
            dsimp only at he ⊢
            cases d with
            | zero => cases he
            | succ d' =>
              dsimp only at he ⊢
              cases hcl : xe_cl M r st h with
              | none => rw [hcl] at he; cases he
              | some t =>
                obtain ⟨mj, As, q⟩ := t
                rw [hcl] at he
                dsimp only at he ⊢
                cases hx : xe_x M Cd none f d' r.2.2.1 mj (0, lv_args 0 As, [], h, 0, 0) with
                | none => rw [hx] at he; cases he
                | some t =>
                  obtain ⟨v, h', mc, ms⟩ := t
                  rw [hx] at he
                  rw [xe_x_more _ _ _ _ _ _ _ hx]
                  exact ih _ _ _ _ _ _ he
theorem xe_u_le {M : Nat → Option xm_M} {Cd : Nat → Nat → Option xr_R} {stop f g : Nat} (hfg : f ≤ g) {scr : Option (Nat × (Nat → Int32))} {d mid : Nat} {mi : xm_M} {st : xs_S} {o : xs_S} (h : xe_u M Cd scr stop f d mid mi st = some o) : xe_u M Cd scr stop g d mid mi st = some o := by
  induction hfg with
  | refl => exact h
  | step _ ih => exact xe_u_more _ _ _ _ _ _ _ ih
section
variable {scr : Option (Nat × (Nat → Int32))} {stop d mid : Nat} {mi : xm_M} {pc : Nat} {lv : List (Nat × Value)} {st q : List Value} {h : xh_H} {c s : Nat} {o : xs_S} {r : xr_R}
theorem xV_stop : xV scr stop d mid mi (stop, lv, st, h, c, s) (stop, lv, st, h, c, s) := by
  refine ⟨1, ?_⟩
  unfold xe_u
  rw [Nat.beq_refl]
  rfl
theorem xV_step {o1 : xs_S} (hb : Nat.beq pc stop = false) (hr : xC mid pc = some r) (hi : xe_isr r.1 = false) (h2 : xe_2 scr mi.2.2.2.1 r d pc lv st h c s = some o1) (k : xV scr stop d mid mi o1 o) : xV scr stop d mid mi (pc, lv, st, h, c, s) o := by
  obtain ⟨f, hf⟩ := k
  refine ⟨f + 1, ?_⟩
  unfold xe_u
  rw [hb, hr]
  dsimp only
  rw [hi]
  simp only [cond_false]
  rw [h2]
  exact hf
theorem xV_call {mj : xm_M} {As q : List Value} {v : Option Value} {h' : xh_H} {mc ms : Nat} (hb : Nat.beq pc stop = false) (hr : xC mid pc = some r) (hi : xe_isr r.1 = false) (h2 : xe_2 scr mi.2.2.2.1 r (d + 1) pc lv st h c s = none) (hcl : xe_cl xM r st h = some (mj, As, q)) (hm : xR none d r.2.2.1 mj (0, lv_args 0 As, [], h, 0, 0) (v, h', mc, ms)) (k : xV scr stop (d + 1) mid mi (pc + 3, lv, v.toList ++ q, h', c + mc, s + ms) o) : xV scr stop (d + 1) mid mi (pc, lv, st, h, c, s) o := by
  obtain ⟨f1, hf1⟩ := hm
  obtain ⟨f2, hf2⟩ := k
  refine ⟨(f1 + f2) + 1, ?_⟩
  unfold xe_u
  rw [hb, hr]
  dsimp only
  rw [hi]
  simp only [cond_false]
  rw [h2]
  dsimp only
  rw [hcl]
  dsimp only
  rw [xe_x_le (Nat.le_add_right f1 f2) hf1]
  exact xe_u_le (Nat.le_add_left f2 f1) hf2
theorem xV_if (b : Bool) {k : ClassFile.Cond} {off : Int} {tgt b0 K i : Nat} {x : Int32} (hb : Nat.beq pc stop = false) (hr : xC mid pc = some (.ifCond k off, 3, tgt, b0, K, i)) (hx : xe_c k x 0 = b) (kk : xV scr stop d mid mi (cond b tgt (pc + 3), lv, q, h, c, s) o) : xV scr stop d mid mi (pc, lv, .int x :: q, h, c, s) o := by
  cases b with
  | true => exact xV_step hb hr rfl (by simp [xe_2, xe_1, xp_i, hx]) kk
  | false => exact xV_step hb hr rfl (by simp [xe_2, xe_1, xp_i, hx]) kk
theorem xV_ic (b : Bool) {k : ClassFile.Cond} {off : Int} {tgt b0 K i : Nat} {x y : Int32} (hb : Nat.beq pc stop = false) (hr : xC mid pc = some (.if_icmp k off, 3, tgt, b0, K, i)) (hx : xe_c k x y = b) (kk : xV scr stop d mid mi (cond b tgt (pc + 3), lv, q, h, c, s) o) : xV scr stop d mid mi (pc, lv, .int y :: .int x :: q, h, c, s) o := by
  cases b with
  | true => exact xV_step hb hr rfl (by simp [xe_2, xe_1, xp_ii, hx]) kk
  | false => exact xV_step hb hr rfl (by simp [xe_2, xe_1, xp_ii, hx]) kk
end
/-- a number that class and reference have in common -/
def rb (h : xh_H) (c k c' k' N : Nat) : Prop := ∃ m, m ≤ N ∧ xg 0 h.2.1 c k = nI m ∧ xg 0 h.2.1 c' k' = nI m
theorem rb_r {md : List (Nat × Nat)} {h h' : xh_H} {c k c' k' N : Nat} (f : a_fr md h h') (z : a_fz c = true) (z' : a_fz c' = true) (m : a_mb md c k = false) (m' : a_mb md c' k' = false) (r : rb h c k c' k' N) : rb h' c k c' k' N := by
  obtain ⟨n, l, e, e'⟩ := r
  exact ⟨n, l, (fr_g f z m).trans e, (fr_g f z' m').trans e'⟩
theorem rb_2 {md1 md2 : List (Nat × Nat)} {h h1 h2 : xh_H} {c k c' k' N : Nat} (f1 : a_fr md1 h h1) (f2 : a_fr md2 h1 h2) (z : a_fz c = true) (z' : a_fz c' = true) (m : a_mb md1 c k = false) (m' : a_mb md1 c' k' = false) (n : a_mb md2 c k = false) (n' : a_mb md2 c' k' = false) (r : rb h c k c' k' N) : rb h2 c k c' k' N := rb_r f2 z z' n n' (rb_r f1 z z' m m' r)
theorem pr_2 {md1 md2 : List (Nat × Nat)} {h h1 h2 : xh_H} {c k c' k' : Nat} (f1 : a_fr md1 h h1) (f2 : a_fr md2 h1 h2) (z : a_fz c = true) (z' : a_fz c' = true) (m : a_mb md1 c k = false) (m' : a_mb md1 c' k' = false) (n : a_mb md2 c k = false) (n' : a_mb md2 c' k' = false) (r : xg 0 h.2.1 c k = xg 0 h.2.1 c' k') : xg 0 h2.2.1 c k = xg 0 h2.2.1 c' k' := by
  rw [fr_g f2 z n, fr_g f1 z m, fr_g f2 z' n', fr_g f1 z' m']
  exact r
theorem tpe_r {md : List (Nat × Nat)} {h h' : xh_H} {t : Nat} (f : a_fr md h h') (m1 : a_mb md 1 1 = false) (m2 : ∀ k, a_mb md 2 k = false) (m3 : a_mb md 39 2 = false) (m4 : ∀ k, a_mb md 40 k = false) (r : tpe h t) : tpe h' t := ⟨(fr_g f rfl m1).trans r.1, (fr_g f rfl m3).trans r.2.1, r.2.2.1, fun k hk' => by rw [fr_g (c := 2) (k := k) f rfl (m2 k), fr_g (c := 40) (k := k) f rfl (m4 k)]; exact r.2.2.2 k hk'⟩
theorem tp_2 {md1 md2 : List (Nat × Nat)} {h h1 h2 : xh_H} (f1 : a_fr md1 h h1) (f2 : a_fr md2 h1 h2) (m1 : a_mb md1 1 1 = false) (m2 : ∀ k, a_mb md1 2 k = false) (m3 : a_mb md1 39 2 = false) (m4 : ∀ k, a_mb md1 40 k = false) (n1 : a_mb md2 1 1 = false) (n2 : ∀ k, a_mb md2 2 k = false) (n3 : a_mb md2 39 2 = false) (n4 : ∀ k, a_mb md2 40 k = false) (r : ∃ t, tpe h t) : ∃ t, tpe h2 t := by
  obtain ⟨t, tp⟩ := r
  exact ⟨t, tpe_r f2 n1 n2 n3 n4 (tpe_r f1 m1 m2 m3 m4 tp)⟩
/-- the votes that both have seen -/
def chr_ (h : xh_H) : Prop := ∀ k, k < 60 → xg 0 h.2.1 36 k = xg 0 h.2.1 68 k ∧ xg 0 h.2.1 37 k = xg 0 h.2.1 69 k ∧ xg 0 h.2.1 38 k = xg 0 h.2.1 70 k
/-- the members' orders that both have -/
def plr (h : xh_H) : Prop := ∀ k, k < 84 → xg 0 h.2.1 30 k = xg 0 h.2.1 62 k
def plM (md : List (Nat × Nat)) : Bool := !a_mb md 30 0 && !a_mb md 62 0
theorem pl_r {md : List (Nat × Nat)} {h h' : xh_H} (f : a_fr md h h') (m : plM md = true) (r : plr h) : plr h' := fun k hk' => by
  unfold plM at m
  simp only [Bool.and_eq_true, Bool.not_eq_true'] at m
  rw [fr_g (c := 30) (k := k) f rfl m.1, fr_g (c := 62) (k := k) f rfl m.2]
  exact r k hk'
theorem pl_2 {md1 md2 : List (Nat × Nat)} {h h1 h2 : xh_H} (f1 : a_fr md1 h h1) (f2 : a_fr md2 h1 h2) (m1 : plM md1 = true) (m2 : plM md2 = true) (r : plr h) : plr h2 := pl_r f2 m2 (pl_r f1 m1 r)
def chM (md : List (Nat × Nat)) : Bool := !a_mb md 36 0 && (!a_mb md 37 0 && (!a_mb md 38 0 && (!a_mb md 68 0 && (!a_mb md 69 0 && !a_mb md 70 0))))
theorem ch_g {md : List (Nat × Nat)} {h h' : xh_H} (f : a_fr md h h') (m : chM md = true) (k : Nat) : xg 0 h'.2.1 36 k = xg 0 h.2.1 36 k ∧ xg 0 h'.2.1 37 k = xg 0 h.2.1 37 k ∧ xg 0 h'.2.1 38 k = xg 0 h.2.1 38 k ∧ xg 0 h'.2.1 68 k = xg 0 h.2.1 68 k ∧ xg 0 h'.2.1 69 k = xg 0 h.2.1 69 k ∧ xg 0 h'.2.1 70 k = xg 0 h.2.1 70 k := by
  unfold chM at m
  simp only [Bool.and_eq_true, Bool.not_eq_true'] at m
  obtain ⟨m1, m2, m3, m4, m5, m6⟩ := m
  exact ⟨fr_g (c := 36) (k := k) f rfl m1, fr_g (c := 37) (k := k) f rfl m2, fr_g (c := 38) (k := k) f rfl m3, fr_g (c := 68) (k := k) f rfl m4, fr_g (c := 69) (k := k) f rfl m5, fr_g (c := 70) (k := k) f rfl m6⟩
theorem ch_r {md : List (Nat × Nat)} {h h' : xh_H} (f : a_fr md h h') (m : chM md = true) (r : chr_ h) : chr_ h' := fun k hk' => by
  obtain ⟨a, b, c, d, e, g⟩ := ch_g f m k
  rw [a, b, c, d, e, g]
  exact r k hk'
theorem ch_2 {md1 md2 : List (Nat × Nat)} {h h1 h2 : xh_H} (f1 : a_fr md1 h h1) (f2 : a_fr md2 h1 h2) (m1 : chM md1 = true) (m2 : chM md2 = true) (r : chr_ h) : chr_ h2 := ch_r f2 m2 (ch_r f1 m1 r)
/-- what class and reference have in common between two calls -/
def RI (h : xh_H) : Prop := (∃ t, tpe h t) ∧ rb h 0 9 39 4 12 ∧ rb h 0 8 39 33 8 ∧ rb h 0 10 39 3 999 ∧ rb h 35 3 39 63 60 ∧ xg 0 h.2.1 28 1 = xg 0 h.2.1 39 5 ∧ xg 0 h.2.1 0 11 = xg 0 h.2.1 39 13 ∧ chr_ h ∧ plr h ∧ SI h ∧ VZ h ∧ PI h
theorem RI_p {h : xh_H} (R : RI h) : PI h := R.2.2.2.2.2.2.2.2.2.2.2
/-- a frame that leaves it -/
def riM (md : List (Nat × Nat)) : Bool := vsM md && (siM md && (plM md && (chM md && (!a_mb md 1 1 && (!a_mb md 2 0 && (!a_mb md 39 2 && (!a_mb md 40 0 && (!a_mb md 0 9 && (!a_mb md 39 4 && (!a_mb md 0 8 && (!a_mb md 39 33 && (!a_mb md 0 10 && (!a_mb md 39 3 && (!a_mb md 35 3 && (!a_mb md 39 63 && (!a_mb md 28 1 && (!a_mb md 39 5 && (!a_mb md 0 11 && !a_mb md 39 13))))))))))))))))))
theorem RI_t {md : List (Nat × Nat)} {h h' : xh_H} (R : RI h) (i : a_inv a_tb h) (l : 72 ≤ h.1.length) (F : Fs 8 h h') (f : a_fr md h h') (m : riM md = true) (P : PI h') : RI h' := by
  unfold riM at m
  simp only [Bool.and_eq_true, Bool.not_eq_true'] at m
  obtain ⟨mv, ms, mp, m0, m1, m2, m3, m4, m5, m6, m7, m8, m9, m10, m11, m12, m13, m14, m15, m16⟩ := m
  obtain ⟨⟨t, tp⟩, r1, r2, r3, r4, r5, r6, r7, r8, r9, r10, -⟩ := R
  exact ⟨⟨t, tpe_r f m1 (fun _ => m2) m3 (fun _ => m4) tp⟩, rb_r f rfl rfl m5 m6 r1, rb_r f rfl rfl m7 m8 r2, rb_r f rfl rfl m9 m10 r3, rb_r f rfl rfl m11 m12 r4, by rw [fr_g f rfl m13, fr_g f rfl m14]; exact r5, by rw [fr_g f rfl m15, fr_g f rfl m16]; exact r6, ch_r f m0 r7, pl_r f mp r8, SI_t i (a_rq_of i.1 l) F f ms r9, VZ_t f mv r10, P⟩
/-- between two calls of the law -/
def lc_I (h : xh_H) : Prop := a_inv a_tb h ∧ 72 ≤ h.1.length ∧ h.1.length % 2 = 0 ∧ RI h
theorem lc_Iq {h : xh_H} (I : lc_I h) : a_rq a_tb h := a_rq_of I.1.1 I.2.1
theorem lc_It {h h' : xh_H} {md : List (Nat × Nat)} (I : lc_I h) (i : a_inv a_tb h') (l : 72 ≤ h'.1.length) (p : h'.1.length % 2 = 0) (F : Fs 8 h h') (f : a_fr md h h') (m : riM md = true) (P : PI h') : lc_I h' := ⟨i, l, p, RI_t I.2.2.2 I.1 I.2.1 F f m P⟩
theorem lc_1 {D : Nat} {C : aC} {m : xm_M} {A : List Value} {h : xh_H} {lo hi : Int} {o : Option (aN × Int)} {ft ff : aF} (I : lc_I h) (hC : a_spec a_tb C) (hM : xM C.1 = some m) (hd : C.2.1 ≤ D) (ha : a_st (fun _ => 0) h.1.length C.2.2.1 A) (hp : C.2.2.2.2.2 = []) (hret : C.2.2.2.1 = [(some (0, lo, hi, o, ft, ff), [])]) (rm : riM C.2.2.2.2.1 = true) (fm : fzM C.1 = true) (pm : pwM C.2.2.2.2.1 = true) (qm : qzM C.1 = true) : ∃ (x : Int32) (h1 : xh_H), xR none D C.1 m (0, lv_args 0 A, [], h, 0, 0) (some (.int x), h1, 0, 0) ∧ lc_I h1 := by
  obtain ⟨v, h', r1, p1, p2, ⟨t, ht, p3⟩, p4⟩ := hC D m A h (fun _ => 0) hd hM I.1 I.2.1 ha (by rw [hp]; exact a_fp0)
  rw [hret] at ht
  cases List.mem_singleton.mp ht
  obtain ⟨⟨w, rfl, x, rfl, -⟩, -⟩ := p3
  exact ⟨x, h', r1, lc_It I p1 (by rw [p2]; exact I.2.1) (by rw [p2]; exact I.2.2.1) (Fs_z (lc_Iq I) (fz_run fm r1)) p4 rm (PI_t I.1 I.2.1 (Fs_z (lc_Iq I) (fz_run fm r1)) (qz_run qm r1) p4 pm (RI_p I.2.2.2))⟩
theorem lc_2 {D : Nat} {C : aC} {m : xm_M} {A : List Value} {h : xh_H} {lo hi : Int} {o : Option (aN × Int)} {ft ff : aF} (I : lc_I h) (hC : a_spec a_tb C) (hM : xM C.1 = some m) (hd : C.2.1 ≤ D) (ha : a_st (fun _ => 0) h.1.length C.2.2.1 A) (hp : C.2.2.2.2.2 = []) (hret : C.2.2.2.1 = [(some (1, lo, hi, o, ft, ff), [])]) (rm : riM C.2.2.2.2.1 = true) (fm : fzM C.1 = true) (pm : pwM C.2.2.2.2.1 = true) (qm : qzM C.1 = true) : ∃ (x : Int64) (h1 : xh_H), xR none D C.1 m (0, lv_args 0 A, [], h, 0, 0) (some (.long x), h1, 0, 0) ∧ lc_I h1 := by
  obtain ⟨v, h', r1, p1, p2, ⟨t, ht, p3⟩, p4⟩ := hC D m A h (fun _ => 0) hd hM I.1 I.2.1 ha (by rw [hp]; exact a_fp0)
  rw [hret] at ht
  cases List.mem_singleton.mp ht
  obtain ⟨⟨w, rfl, x, rfl, -⟩, -⟩ := p3
  exact ⟨x, h', r1, lc_It I p1 (by rw [p2]; exact I.2.1) (by rw [p2]; exact I.2.2.1) (Fs_z (lc_Iq I) (fz_run fm r1)) p4 rm (PI_t I.1 I.2.1 (Fs_z (lc_Iq I) (fz_run fm r1)) (qz_run qm r1) p4 pm (RI_p I.2.2.2))⟩
/-- a call by its contract, whatever it answers -/
theorem lc_3 {D : Nat} {C : aC} {m : xm_M} {A : List Value} {h : xh_H} (i : a_inv a_tb h) (l : 72 ≤ h.1.length) (hC : a_spec a_tb C) (hM : xM C.1 = some m) (hd : C.2.1 ≤ D) (ha : a_st (fun _ => 0) h.1.length C.2.2.1 A) (hp : C.2.2.2.2.2 = []) : ∃ v h1, xR none D C.1 m (0, lv_args 0 A, [], h, 0, 0) (v, h1, 0, 0) ∧ hk C.2.2.2.2.1 h h1 := by
  obtain ⟨v, h', r1, p1, p2, -, p4⟩ := hC D m A h (fun _ => 0) hd hM i l ha (by rw [hp]; exact a_fp0)
  exact ⟨v, h', r1, p1, p2, p4⟩
theorem xq_Z {d mid : Nat} {mi : xm_M} {pc : Nat} {lv : List (Nat × Value)} {st : List Value} {h : xh_H} {Q : Option Value → xh_H → Prop} {v : Option Value} {h' : xh_H} {c s : Nat} (k : xR none d mid mi (pc, lv, st, h, 0, 0) (v, h', c, s)) (hq : ∀ f, xq f mid mi pc lv st h Q) (hn : (lv.map (fun q => q.1)).Nodup) : Q v h' := xq_R hn k hq
theorem en_le {t : Nat} {n : Int32} : en_t t n ≤ t := by
  unfold en_t
  cases hb : en_ok t n with
  | false => exact Nat.le_refl t
  | true =>
    have := of_decide_eq_true hb
    show n.toInt.toNat ≤ t
    omega
theorem vt_le {B : Bool} {vc : Nat} (h : vc ≤ 60) : cond (B && decide (vc < 60)) (vc + 1) vc ≤ 60 := by
  cases B with
  | false => exact h
  | true =>
    show cond (decide (vc < 60)) (vc + 1) vc ≤ 60
    cases hb : decide (vc < 60) with
    | false => exact h
    | true =>
      have := of_decide_eq_true hb
      show vc + 1 ≤ 60
      omega
theorem mbB_n {s w r x : Int32} (h : mbB s w r x = true) : ∃ m : Nat, m ≤ 12 ∧ x = nI m := by
  unfold mbB at h
  simp only [Bool.and_eq_true, Bool.not_eq_true'] at h
  have b1 : (Int32.ofInt 1).toInt ≤ x.toInt := a_ce (a_neg_ok h.1.1)
  have b2 : x.toInt ≤ (12 : Int32).toInt := a_ce h.1.2
  have e1 : (Int32.ofInt 1).toInt = 1 := rfl
  have e2 : (12 : Int32).toInt = 12 := rfl
  rw [e1] at b1
  rw [e2] at b2
  exact ⟨x.toInt.toNat, by omega, en_n (t := 0) (by omega)⟩
/-- both statutes answer alike -/
theorem st_pair {f : Int32} {h h1 h2 : xh_H} {v1 v2 : Option Value} {n sc td mem : Nat} {T : Nat → Nat} (A1 : s9_A T n mem sc td f (xg 0 h.2.1 0 11) v1 h1) (A2 : ∀ r, (¬ sref sc td f → ∃ j, Tx T n mem j 0 0 0 (nmW T (fun _ => (0, 0))) r) → s10_A sc td f (xg 0 h1.2.1 39 13) r v2 h2) (sc8 : sc ≤ 8) (e11 : xg 0 h.2.1 0 11 = xg 0 h1.2.1 39 13) : v2 = v1 ∧ (∃ x, v1 = some (.int x)) ∧ (∃ m, m ≤ 8 ∧ xg 0 h1.2.1 0 8 = nI m ∧ xg 0 h2.2.1 39 33 = nI m) ∧ xg 0 h1.2.1 0 11 = xg 0 h2.2.1 39 13 := by
  by_cases hs : sref sc td f
  · obtain ⟨a, b, c⟩ := A1.1 hs
    obtain ⟨a', b', c'⟩ := (A2 (.inl 0) (fun z => absurd hs z)).1 hs
    exact ⟨a'.trans a.symm, ⟨_, a⟩, ⟨sc, sc8, b, b'⟩, c.trans (e11.trans c'.symm)⟩
  · obtain ⟨j, r, hX, a, b⟩ := A1.2 hs
    have A := (A2 r (fun _ => ⟨j, hX⟩)).2 hs
    have s8 : sc < 8 := by
      unfold sref at hs
      omega
    cases r with
    | inl m =>
      obtain ⟨x1, -, x3, x4⟩ := a m rfl
      obtain ⟨y1, y2, y3⟩ := A.1 m rfl
      exact ⟨y1.trans x1.symm, ⟨_, x1⟩, ⟨sc + 1, by omega, x3, y2⟩, x4.trans y3.symm⟩
    | inr q =>
      obtain ⟨k, pl⟩ := q
      obtain ⟨x1, x3, x4⟩ := b k pl rfl
      obtain ⟨y1, y2, y3⟩ := A.2 k pl rfl
      exact ⟨y1.trans x1.symm, ⟨_, x1⟩, ⟨sc, sc8, x3, y2⟩, x4.trans y3.symm⟩
theorem lc_m1 {mem : Nat} {h : xh_H} (I : lc_I h) (e9 : xg 0 h.2.1 0 9 = nI mem) (m12 : mem ≤ 12) : 1 ≤ mem := by
  have sb := a_flx (c := 0) (k := 9) (lo := 1) (hi := 12) I.1.1 I.2.1 rfl rfl (by decide)
  rw [e9, nI_toInt (by omega)] at sb
  omega
theorem lp_many {f : Nat} {x : Int32} {h : xh_H} (I : lc_I h) : xq f xi_X9_many xmi_X9_many 0 [(0, .ref 0), (1, .int x)] [] h (fun _ h' => PI h') := by
  obtain ⟨-, ⟨mem, m12, e9, -⟩, ⟨sc, sc8, e8, -⟩, ⟨td, td9, e10, -⟩, -, -, -, -, -, si, -, pi⟩ := I.2.2.2
  have m1 := lc_m1 I e9 m12
  exact ma9_p I.1 I.2.1 e9 m1 m12 e8 sc8 e10 si pi
theorem lp_setAt {f : Nat} {x y : Int32} {h : xh_H} (I : lc_I h) : xq f xi_X9_setAt xmi_X9_setAt 0 [(0, .ref 0), (1, .int x), (2, .int y)] [] h (fun _ h' => PI h') := by
  obtain ⟨-, ⟨mem, m12, e9, -⟩, ⟨sc, sc8, e8, -⟩, ⟨td, td9, e10, -⟩, -, -, -, -, -, si, -, pi⟩ := I.2.2.2
  have m1 := lc_m1 I e9 m12
  exact sa9_p I.1 I.2.1 e9 m1 m12 e8 sc8 e10 si pi
theorem lp_stronger {f : Nat} {x y : Int32} {h : xh_H} (I : lc_I h) : xq f xi_X9_stronger xmi_X9_stronger 0 [(0, .ref 0), (1, .int x), (2, .int y)] [] h (fun _ h' => PI h') := by
  obtain ⟨-, ⟨mem, m12, e9, -⟩, ⟨sc, sc8, e8, -⟩, ⟨td, td9, e10, -⟩, -, -, -, -, -, si, -, pi⟩ := I.2.2.2
  have m1 := lc_m1 I e9 m12
  exact xq_mono (sr9_q I.1 I.2.1 e9 m1 m12 e8 sc8 e10 si pi) (fun _ _ e => e.2)
theorem lp_turns {f : Nat} {x : Int32} {h : xh_H} (I : lc_I h) : xq f xi_X9_turns xmi_X9_turns 0 [(0, .ref 0), (1, .int x)] [] h (fun _ h' => PI h') := by
  obtain ⟨-, ⟨mem, m12, e9, -⟩, ⟨sc, sc8, e8, -⟩, ⟨td, td9, e10, -⟩, -, -, -, -, -, si, -, pi⟩ := I.2.2.2
  have m1 := lc_m1 I e9 m12
  exact xq_mono (tu9_q I.1 I.2.1 e9 m1 m12 e8 sc8 e10 si pi) (fun _ _ e => e.2)
theorem lp_chance {f : Nat} {x : Int32} {h : xh_H} (I : lc_I h) : xq f xi_X9_chance xmi_X9_chance 0 [(0, .ref 0), (1, .int x)] [] h (fun _ h' => PI h') := by
  obtain ⟨-, ⟨mem, m12, e9, -⟩, ⟨sc, sc8, e8, -⟩, ⟨td, td9, e10, -⟩, -, -, -, -, -, si, -, pi⟩ := I.2.2.2
  have m1 := lc_m1 I e9 m12
  exact ch9_p I.1 I.2.1 e9 m1 m12 e8 sc8 e10 si pi
theorem lp_ally {f : Nat} {x : Int32} {h : xh_H} (I : lc_I h) : xq f xi_X9_ally xmi_X9_ally 0 [(0, .ref 0), (1, .int x)] [] h (fun _ h' => PI h') := by
  obtain ⟨-, ⟨mem, m12, e9, -⟩, ⟨sc, sc8, e8, -⟩, ⟨td, td9, e10, -⟩, -, -, -, -, -, si, -, pi⟩ := I.2.2.2
  have m1 := lc_m1 I e9 m12
  exact xq_mono (al9_q I.1 I.2.1 e9 m1 m12 e8 sc8 e10 si pi) (fun _ _ e => e.2)
theorem lp_weigh {f : Nat} {h : xh_H} (I : lc_I h) : xq f xi_X9_weigh xmi_X9_weigh 0 [(0, .ref 0)] [] h (fun _ h' => PI h') := by
  obtain ⟨-, ⟨mem, m12, e9, -⟩, ⟨sc, sc8, e8, -⟩, ⟨td, td9, e10, -⟩, -, -, -, -, -, si, -, pi⟩ := I.2.2.2
  have m1 := lc_m1 I e9 m12
  exact we9_p I.1 I.2.1 e9 m1 m12 e8 sc8 e10 si pi
theorem lp_share {f : Nat} {x w z : Int32} {h : xh_H} (I : lc_I h) : xq f xi_X9_share xmi_X9_share 0 [(0, .ref 0), (1, .int x), (2, .int w), (3, .int z)] [] h (fun _ h' => PI h') := by
  obtain ⟨-, ⟨mem, m12, e9, -⟩, ⟨sc, sc8, e8, -⟩, ⟨td, td9, e10, -⟩, -, -, -, -, -, si, -, pi⟩ := I.2.2.2
  have m1 := lc_m1 I e9 m12
  exact sh9_p (k := 0) I.1 I.2.1 e9 m1 m12 e8 sc8 e10 si pi
/-- a call that studies anew -/
theorem lc_P {D : Nat} {C : aC} {m : xm_M} {A : List Value} {h : xh_H} {lo hi : Int} {o : Option (aN × Int)} {ft ff : aF} (I : lc_I h) (hC : a_spec a_tb C) (hM : xM C.1 = some m) (hd : C.2.1 ≤ D) (ha : a_st (fun _ => 0) h.1.length C.2.2.1 A) (hp : C.2.2.2.2.2 = []) (hret : C.2.2.2.1 = [(some (0, lo, hi, o, ft, ff), [])]) (rm : riM C.2.2.2.2.1 = true) (fm : fzM C.1 = true) (hn : ((lv_args 0 A).map (fun q => q.1)).Nodup) (hP : ∀ f, xq f C.1 m 0 (lv_args 0 A) [] h (fun _ h' => PI h')) : ∃ (x : Int32) (h1 : xh_H), xR none D C.1 m (0, lv_args 0 A, [], h, 0, 0) (some (.int x), h1, 0, 0) ∧ lc_I h1 := by
  obtain ⟨v, h', r1, p1, p2, ⟨t, ht, p3⟩, p4⟩ := hC D m A h (fun _ => 0) hd hM I.1 I.2.1 ha (by rw [hp]; exact a_fp0)
  rw [hret] at ht
  cases List.mem_singleton.mp ht
  obtain ⟨⟨w, rfl, x, rfl, -⟩, -⟩ := p3
  exact ⟨x, h', r1, lc_It I p1 (by rw [p2]; exact I.2.1) (by rw [p2]; exact I.2.2.1) (Fs_z (lc_Iq I) (fz_run fm r1)) p4 rm (xq_Z (hn := hn) r1 hP)⟩
/-- chance -/
theorem lc_chI {D : Nat} {x : Int32} {h h' : xh_H} {v : Option Value} (I : lc_I h) (r1 : xR none D xi_X9_chance xmi_X9_chance (0, lv_args 0 [.ref 0, .int x], [], h, 0, 0) (v, h', 0, 0)) (k1 : hk aC_m_X9_chance.2.2.2.2.1 h h') : lc_I h' := by
  obtain ⟨p1, p2, p4⟩ := k1
  obtain ⟨h1, z1, g1⟩ := xq_Z (hn := (show List.Nodup [0, 1] by decide)) r1 (fun f => ch9_q (f := f) (x := x) I.1 I.2.1)
  have q1 := lc_Iq I
  have b : ∀ {c : Nat} {s : Nat × Nat}, h1.1[c]? = some s → h.1[c]? = some s := fun {c s} e => by rw [← z1.1]; exact e
  have F1 : Fs 8 h h1 := Fs_z q1 z1
  have F2 : Fs 8 h1 h' := Fs_f g1 (fun _ _ _ => rfl) (fun c k e => by
    show Nat.beq c 20 = false
    rw [Bool.eq_false_iff]
    intro y
    have := Nat.eq_of_beq_eq_true y
    rcases sh64c q1 (b e) with z | z <;> omega)
  have F : Fs 8 h h' := ⟨Nat.le_trans F1.1 F2.1, fun c k e => (F2.2.1 c k (by rw [z1.1]; exact e)).trans (F1.2.1 c k e), fun c k e => (F2.2.2.1 c k (by rw [z1.1]; exact e)).trans (F1.2.2.1 c k e), fun k hk' => (F2.2.2.2.1 k hk').trans (F1.2.2.2.1 k hk'), fun c k e => (F2.2.2.2.2.1 c k (by rw [z1.1]; exact e)).trans (F1.2.2.2.2.1 c k e), F2.2.2.2.2.2.trans F1.2.2.2.2.2⟩
  exact lc_It I p1 (by rw [p2]; exact I.2.1) (by rw [p2]; exact I.2.2.1) F p4 rfl (xq_Z (hn := (show List.Nodup [0, 1] by decide)) r1 (fun f => lp_chance (f := f) I))
/-- chance -/
theorem lc_ch {D : Nat} {x : Int32} {h : xh_H} (I : lc_I h) (hd : aC_m_X9_chance.2.1 ≤ D) : ∃ (y : Int64) (h1 : xh_H), xR none D xi_X9_chance xmi_X9_chance (0, lv_args 0 [.ref 0, .int x], [], h, 0, 0) (some (.long y), h1, 0, 0) ∧ lc_I h1 := by
  obtain ⟨v, h', r1, p1, p2, ⟨t, ht, p3⟩, p4⟩ := as_m_X9_chance D xmi_X9_chance [.ref 0, .int x] h (fun _ => 0) hd rfl I.1 I.2.1 ⟨a_av (by decide) I.2.1, a_ai (ar_rng x).1 (ar_rng x).2, trivial⟩ a_fp0
  cases List.mem_singleton.mp ht
  obtain ⟨⟨w, rfl, y, rfl, -⟩, -⟩ := p3
  obtain ⟨h1, z1, g1⟩ := xq_Z (hn := (show List.Nodup [0, 1] by decide)) r1 (fun f => ch9_q (f := f) (x := x) I.1 I.2.1)
  have q1 := lc_Iq I
  have b : ∀ {c : Nat} {s : Nat × Nat}, h1.1[c]? = some s → h.1[c]? = some s := fun {c s} e => by rw [← z1.1]; exact e
  have F1 : Fs 8 h h1 := Fs_z q1 z1
  have F2 : Fs 8 h1 h' := Fs_f g1 (fun _ _ _ => rfl) (fun c k e => by
    show Nat.beq c 20 = false
    rw [Bool.eq_false_iff]
    intro y
    have := Nat.eq_of_beq_eq_true y
    rcases sh64c q1 (b e) with z | z <;> omega)
  have F : Fs 8 h h' := ⟨Nat.le_trans F1.1 F2.1, fun c k e => (F2.2.1 c k (by rw [z1.1]; exact e)).trans (F1.2.1 c k e), fun c k e => (F2.2.2.1 c k (by rw [z1.1]; exact e)).trans (F1.2.2.1 c k e), fun k hk' => (F2.2.2.2.1 k hk').trans (F1.2.2.2.1 k hk'), fun c k e => (F2.2.2.2.2.1 c k (by rw [z1.1]; exact e)).trans (F1.2.2.2.2.1 c k e), F2.2.2.2.2.2.trans F1.2.2.2.2.2⟩
  exact ⟨y, h', r1, lc_It I p1 (by rw [p2]; exact I.2.1) (by rw [p2]; exact I.2.2.1) F p4 rfl (xq_Z (hn := (show List.Nodup [0, 1] by decide)) r1 (fun f => lp_chance (f := f) I))⟩
/-- the reference's rows are of 0 and 1 -/
theorem SI_r {h : xh_H} {mem sc : Nat} (S : SI h) (e9 : xg 0 h.2.1 0 9 = nI mem) (m12 : mem ≤ 12) (e8 : xg 0 h.2.1 0 8 = nI sc) (sc8 : sc ≤ 8) : (∀ k, k < sc → (xg 0 h.2.1 52 k).toInt ≤ 999) ∧ (∀ k s, k < sc → s < 2 ^ mem → ∃ b : Bool, xg 0 h.2.1 44 (4096 * k + s) = bl b) ∧ ∀ k, k < sc → (xg 0 h.2.1 52 k).toInt ≤ (xg 0 h.2.1 51 k).toInt := by
  obtain ⟨a, -⟩ := S.2 mem sc e9 m12 e8 sc8
  refine ⟨fun k hk' => ?_, fun k s hk' hs => ?_, fun k hk' => ?_⟩
  · obtain ⟨q, -, -, -, -, -, -, -, q5, -⟩ := a k hk'
    omega
  · obtain ⟨q, -, -, -, -, -, -, -, -, q6⟩ := a k hk'
    exact ⟨_, (q6 s hs).symm⟩
  · obtain ⟨q, -, -, -, -, -, -, -, q5, -⟩ := a k hk'
    exact q5.1
theorem x45 {h : xh_H} {s : Nat} (i : a_inv a_tb h) (l : 72 ≤ h.1.length) (s4 : s < 4096) : ∃ b : Bool, xg 0 h.2.1 45 s = bl b := by
  obtain ⟨b1, b2⟩ := a_bl (c := 45) (n := 4096) (k := s) i.1 l rfl (by decide) (by decide +kernel) s4
  by_cases z : (xg 0 h.2.1 45 s).toInt = 0
  · exact ⟨false, Int32.toInt_inj.mp z⟩
  · exact ⟨true, Int32.toInt_inj.mp (show _ = (1 : Int) by omega)⟩
/-- both statutes leave the same rows -/
theorem st_si {f fk : Int32} {h h1 h2 : xh_H} {v1 v2 : Option Value} {n sc td mem : Nat} {T : Nat → Nat} {md : List (Nat × Nat)} (A1 : s9_A T n mem sc td f fk v1 h1) (A3 : ∀ r sv y, sv < 4096 → (¬ sref sc td f → ∃ j, Tx T n mem j 0 0 0 (nmW T (fun _ => (0, 0))) r) → (¬ sref sc td f → ∀ m, r = .inl m → ∃ j, Tv T n mem sv j 0 0 0 (nmW T (fun _ => (0, 0))) (fun _ => false) y) → s10_D h1 sc td f r sv y v2 h2) (i : a_inv a_tb h) (l : 72 ≤ h.1.length) (hp : h.1.length % 2 = 0) (i1 : a_inv a_tb h1) (l1 : 72 ≤ h1.1.length) (S : SI h) (e9 : xg 0 h.2.1 0 9 = nI mem) (m12 : mem ≤ 12) (e8 : xg 0 h.2.1 0 8 = nI sc) (sc8 : sc ≤ 8) (td9 : td ≤ 999) (c1 : cst h h1 sc) (n1 : cnw h h1 T n mem sc f) (f1 : a_fr md h h1) (g51 : ∀ k, xg 0 h1.2.1 51 k = xg 0 h.2.1 51 k) (g52 : ∀ k, xg 0 h1.2.1 52 k = xg 0 h.2.1 52 k) (g44 : ∀ k, xg 0 h1.2.1 44 k = xg 0 h.2.1 44 k) (d9 : xg 0 h2.2.1 0 9 = nI mem) (d8 : xg 0 h2.2.1 0 8 = xg 0 h1.2.1 0 8) : SI h2 := by
  by_cases hs : sref sc td f
  · have b := (A1.1 hs).2.1
    exact SI_n i l hp i1 l1 S e9 m12 e8 sc8 td9 c1 n1 f1 g51 g52 g44 d9 d8 (Or.inl b) (A3 (.inl 0) 0 true (by decide) (fun z => absurd hs z) (fun z => absurd hs z)).1 (fun z => (nI_8 sc8 (b.symm.trans z)).elim)
  · obtain ⟨j, r, hX, a, b⟩ := A1.2 hs
    cases r with
    | inr q =>
      obtain ⟨k, pl⟩ := q
      have b := (b k pl rfl).2.1
      exact SI_n i l hp i1 l1 S e9 m12 e8 sc8 td9 c1 n1 f1 g51 g52 g44 d9 d8 (Or.inl b) (A3 (.inr (k, pl)) 0 true (by decide) (fun _ => ⟨j, hX⟩) (fun _ m e => (by cases e))).1 (fun z => (nI_8 sc8 (b.symm.trans z)).elim)
    | inl m =>
      have b := (a m rfl).2.2.1
      obtain ⟨-, -, -, -, w5⟩ := n1 b
      obtain ⟨y0, j0, -, t0⟩ := w5 0 (by decide)
      have D0 := A3 (.inl m) 0 y0 (by decide) (fun _ => ⟨j, hX⟩) (fun _ _ _ => ⟨j0, t0⟩)
      refine SI_n i l hp i1 l1 S e9 m12 e8 sc8 td9 c1 n1 f1 g51 g52 g44 d9 d8 (Or.inr b) D0.1 (fun _ => ?_)
      obtain ⟨-, q2, q3, -⟩ := (D0.2.2 hs).1 m rfl
      unfold sref at hs
      exact ⟨by omega, by omega, q2, q3, fun s y s4 ht => ((A3 (.inl m) s y s4 (fun _ => ⟨j, hX⟩) (fun _ _ _ => ht)).2.2 (by unfold sref; omega)).1 m rfl |>.2.2.2⟩
theorem lg_slf {x : Int64} : lg_cmp x x = 0 := by unfold lg_cmp; simp
theorem st_fx {f fk : Int32} {h h1 h2 : xh_H} {v1 v2 : Option Value} {n sc td mem : Nat} {T : Nat → Nat} (A1 : s9_A T n mem sc td f fk v1 h1) (A3 : ∀ r sv y, sv < 4096 → (¬ sref sc td f → ∃ j, Tx T n mem j 0 0 0 (nmW T (fun _ => (0, 0))) r) → (¬ sref sc td f → ∀ m, r = .inl m → ∃ j, Tv T n mem sv j 0 0 0 (nmW T (fun _ => (0, 0))) (fun _ => false) y) → s10_D h1 sc td f r sv y v2 h2) (n1 : cnw h h1 T n mem sc f) : fx (rW3 sc) rV h1 h2 := by
  by_cases hs : sref sc td f
  · exact (A3 (.inl 0) 0 true (by decide) (fun z => absurd hs z) (fun z => absurd hs z)).1
  · obtain ⟨j, r, hX, a, b⟩ := A1.2 hs
    cases r with
    | inr q =>
      obtain ⟨k, pl⟩ := q
      exact (A3 (.inr (k, pl)) 0 true (by decide) (fun _ => ⟨j, hX⟩) (fun _ m e => (by cases e))).1
    | inl m =>
      have b := (a m rfl).2.2.1
      obtain ⟨-, -, -, -, w5⟩ := n1 b
      obtain ⟨y0, j0, -, t0⟩ := w5 0 (by decide)
      exact (A3 (.inl m) 0 y0 (by decide) (fun _ => ⟨j, hX⟩) (fun _ _ _ => ⟨j0, t0⟩)).1
theorem PI_w {md : List (Nat × Nat)} {sc : Nat} {h h' : xh_H} (i : a_inv a_tb h) (l : 72 ≤ h.1.length) (g : fx (rW3 sc) rV h h') (f : a_fr md h h') (m : pwM md = true) (P : PI h) : PI h' := PI_s i l (fun c k e _ => g.2.2.2 c k (rV_12 (sh64c (a_rq_of i.1 l) e))) (fun c k _ => by rw [g.2.1]) (by rw [g.2.1]) (pw_e f m) P
/-- the law's locals -/
def lc_v (i : Nat) : List (Nat × Value) := [(4, .int (nI i)), (3, .ref 71), (2, .ref 39), (1, .ref 0), (0, .float 0)]
theorem lc_ia {L : Nat} {xs : Nat → Int32} {nL d pc k : Nat} {lv : List (Nat × Value)} {st : List Value} {h : xh_H} {c s : Nat} (hk : k < L) (hL : L ≤ 3072) : xe_2 (some (L, xs)) nL (.iaload, 1, 0, 0, 0, 0) d pc lv (.int (nI k) :: .float 0 :: st) h c s = some (pc + 1, lv, .int (xs k) :: st, h, c, s) := by
  have e := xin_n (k := k) (n := L) hk (by omega)
  have e2 : (nI k).toNatClampNeg = k := nI_clamp (by omega)
  have e3 : xe_o (some (L, xs)) (.iaload, 1, 0, 0, 0, 0) pc lv (.int (nI k) :: .float 0 :: st) h c s = some (pc + 1, lv, .int (xs k) :: st, h, c, s) := by
    show cond (Nat.beq (0 : UInt32).toNat 0 && xe_in (nI k) L) (some (pc + 1, lv, Value.int (xs (nI k).toNatClampNeg) :: st, h, c, s)) none = _
    rw [e, e2]
    rfl
  unfold xe_2
  rw [show xe_1 nL (.iaload, 1, 0, 0, 0, 0) pc lv (.int (nI k) :: .float 0 :: st) h c s = none from rfl]
  dsimp only
  rw [e3]
theorem xV_arg {L : Nat} {xs : Nat → Int32} {stop d pc i : Nat} {st : List Value} {h : xh_H} {c s : Nat} {o : xs_S} (j : Nat) (jj : Int) (hj : Int32.ofInt jj = nI j) (hi : i + j < L) (hL : L ≤ 3072) (b0 : Nat.beq pc stop = false) (b1 : Nat.beq (pc + 1) stop = false) (b3 : Nat.beq (pc + 3) stop = false) (b4 : Nat.beq (pc + 4) stop = false) (b5 : Nat.beq (pc + 5) stop = false) (r0 : xC xi_L_law pc = some (.aload_n 0, 1, 0, 0, 0, 0)) (r1 : xC xi_L_law (pc + 1) = some (.iload 4, 2, 0, 0, 0, 0)) (r3 : xC xi_L_law (pc + 3) = some (.iconst jj, 1, 0, 0, 0, 0)) (r4 : xC xi_L_law (pc + 4) = some (.iadd, 1, 0, 0, 0, 0)) (r5 : xC xi_L_law (pc + 5) = some (.iaload, 1, 0, 0, 0, 0)) (k : xV (some (L, xs)) stop d xi_L_law xmi_L_law (pc + 6, lc_v i, .int (xs (i + j)) :: st, h, c, s) o) : xV (some (L, xs)) stop d xi_L_law xmi_L_law (pc, lc_v i, st, h, c, s) o := by
  refine xV_step (o1 := (pc + 1, lc_v i, .float 0 :: st, h, c, s)) b0 r0 rfl rfl ?_
  refine xV_step (o1 := (pc + 3, lc_v i, .int (nI i) :: .float 0 :: st, h, c, s)) b1 r1 rfl rfl ?_
  refine xV_step (o1 := (pc + 4, lc_v i, .int (Int32.ofInt jj) :: .int (nI i) :: .float 0 :: st, h, c, s)) b3 r3 rfl rfl ?_
  refine xV_step (o1 := (pc + 5, lc_v i, .int (nI i + Int32.ofInt jj) :: .float 0 :: st, h, c, s)) b4 r4 rfl rfl ?_
  refine xV_step (o1 := (pc + 6, lc_v i, .int (xs (i + j)) :: st, h, c, s)) b5 r5 rfl ?_ k
  rw [hj, nI_add]
  exact lc_ia hi hL
/-- what is to be shown of a call -/
def lo_P (L : Nat) (xs : Nat → Int32) (i pc : Nat) (h : xh_H) (c s : Nat) : Prop := ∃ h' c' s', xV (some (L, xs)) 1000 50 xi_L_law xmi_L_law (pc, lc_v i, [], h, c, s) (1000, lc_v i, [], h', c', s') ∧ lc_I h' ∧ c' ≤ c + 2 ∧ s' ≤ s + 66
theorem a_an {n : Nat} {x : Int32} : a_v (fun _ => 0) n (0, (-2147483648), 2147483647, none, [], []) (.int x) := a_ai (ar_rng x).1 (ar_rng x).2
end XLL
end
section
section XLO
variable {L i : Nat} {xs : Nat → Int32} {h : xh_H} {c s : Nat}
end XLO
end
section
section XLQ
variable {L i : Nat} {xs : Nat → Int32} {h : xh_H} {c s : Nat}
set_option maxRecDepth 100000 in
set_option maxHeartbeats 4000000 in
/-- weigh -/
theorem lo_14 (hL : L ≤ 3072) (hi6 : i + 6 ≤ L) (I : lc_I h) : lo_P L xs i 618 h c s := by
  obtain ⟨x1, h1, r1, I1⟩ := lc_P (D := 49) (m := xmi_X9_weigh) (A := [.ref 0]) I as_m_X9_weigh rfl (by decide) ⟨a_av (by decide) I.2.1, trivial⟩ rfl rfl rfl (by decide +kernel) (show List.Nodup [0] by decide) (fun f => lp_weigh (f := f) I)
  obtain ⟨x2, h2, r2, I2⟩ := lc_1 (D := 49) (m := xmi_X10_weigh) (A := [.ref 39]) I1 as_r_X10_weigh rfl (by decide) ⟨a_av (by decide) I1.2.1, trivial⟩ rfl rfl rfl (by decide +kernel) rfl (by decide +kernel)
  refine ⟨h2, c, s, ?_, I2, by omega, by omega⟩
  refine xV_step (o1 := (619, lc_v i, [.ref 0], h, c, s)) rfl rfl rfl rfl ?_
  refine xV_call (d := 49) rfl rfl rfl rfl (xa_c_ok (d := 49) (pc := 619) (lv := lc_v i) (nL := 8) (lc_Iq I) rfl).1 r1 ?_
  refine xV_step (o1 := (623, lc_v i, [], h1, c, s)) rfl rfl rfl rfl ?_
  refine xV_step (o1 := (624, lc_v i, [.ref 39], h1, c, s)) rfl rfl rfl rfl ?_
  refine xV_call (d := 49) rfl rfl rfl rfl (xa_c_ok (d := 49) (pc := 624) (lv := lc_v i) (nL := 8) (lc_Iq I1) rfl).1 r2 ?_
  refine xV_step (o1 := (628, lc_v i, [], h2, c, s)) rfl rfl rfl rfl ?_
  refine xV_step (o1 := (1000, lc_v i, [], h2, c, s)) rfl rfl rfl rfl ?_
  exact xV_stop
set_option maxRecDepth 100000 in
set_option maxHeartbeats 4000000 in
/-- weight -/
theorem lo_15 (hL : L ≤ 3072) (hi6 : i + 6 ≤ L) (I : lc_I h) : lo_P L xs i 631 h c s := by
  obtain ⟨x1, h1, r1, I1⟩ := lc_1 (D := 49) (m := xmi_X9_weight) (A := [.ref 0, .int (xs (i + 1))]) I as_m_X9_weight rfl (by decide) ⟨a_av (by decide) I.2.1, a_an, trivial⟩ rfl rfl rfl (by decide +kernel) rfl (by decide +kernel)
  obtain ⟨x2, h2, r2, I2⟩ := lc_1 (D := 49) (m := xmi_X10_weight) (A := [.ref 39, .int (xs (i + 1))]) I1 as_m_X10_weight rfl (by decide) ⟨a_av (by decide) I1.2.1, a_an, trivial⟩ rfl rfl rfl (by decide +kernel) rfl (by decide +kernel)
  refine ⟨h2, c, s, ?_, I2, by omega, by omega⟩
  refine xV_step (o1 := (632, lc_v i, [.ref 0], h, c, s)) rfl rfl rfl rfl ?_
  refine xV_arg 1 1 rfl (by omega) hL rfl rfl rfl rfl rfl rfl rfl rfl rfl rfl ?_
  refine xV_call (d := 49) rfl rfl rfl rfl (xa_c_ok (d := 49) (pc := 638) (lv := lc_v i) (nL := 8) (lc_Iq I) rfl).1 r1 ?_
  refine xV_step (o1 := (642, lc_v i, [], h1, c, s)) rfl rfl rfl rfl ?_
  refine xV_step (o1 := (643, lc_v i, [.ref 39], h1, c, s)) rfl rfl rfl rfl ?_
  refine xV_arg 1 1 rfl (by omega) hL rfl rfl rfl rfl rfl rfl rfl rfl rfl rfl ?_
  refine xV_call (d := 49) rfl rfl rfl rfl (xa_c_ok (d := 49) (pc := 649) (lv := lc_v i) (nL := 8) (lc_Iq I1) rfl).1 r2 ?_
  refine xV_step (o1 := (653, lc_v i, [], h2, c, s)) rfl rfl rfl rfl ?_
  refine xV_step (o1 := (1000, lc_v i, [], h2, c, s)) rfl rfl rfl rfl ?_
  exact xV_stop
set_option maxRecDepth 100000 in
set_option maxHeartbeats 4000000 in
/-- rows -/
theorem lo_21 (hL : L ≤ 3072) (hi6 : i + 6 ≤ L) (I : lc_I h) : lo_P L xs i 785 h c s := by
  obtain ⟨x1, h1, r1, I1⟩ := lc_1 (D := 49) (m := xmi_X9_rows) (A := [.ref 0, .int (xs (i + 1))]) I as_m_X9_rows rfl (by decide) ⟨a_av (by decide) I.2.1, a_an, trivial⟩ rfl rfl rfl (by decide +kernel) rfl (by decide +kernel)
  obtain ⟨x2, h2, r2, I2⟩ := lc_1 (D := 49) (m := xmi_X10_rows) (A := [.ref 39, .int (xs (i + 1))]) I1 as_r_X10_rows rfl (by decide) ⟨a_av (by decide) I1.2.1, a_an, trivial⟩ rfl rfl rfl (by decide +kernel) rfl (by decide +kernel)
  refine ⟨h2, c, s, ?_, I2, by omega, by omega⟩
  refine xV_step (o1 := (786, lc_v i, [.ref 0], h, c, s)) rfl rfl rfl rfl ?_
  refine xV_arg 1 1 rfl (by omega) hL rfl rfl rfl rfl rfl rfl rfl rfl rfl rfl ?_
  refine xV_call (d := 49) rfl rfl rfl rfl (xa_c_ok (d := 49) (pc := 792) (lv := lc_v i) (nL := 8) (lc_Iq I) rfl).1 r1 ?_
  refine xV_step (o1 := (796, lc_v i, [], h1, c, s)) rfl rfl rfl rfl ?_
  refine xV_step (o1 := (797, lc_v i, [.ref 39], h1, c, s)) rfl rfl rfl rfl ?_
  refine xV_arg 1 1 rfl (by omega) hL rfl rfl rfl rfl rfl rfl rfl rfl rfl rfl ?_
  refine xV_call (d := 49) rfl rfl rfl rfl (xa_c_ok (d := 49) (pc := 803) (lv := lc_v i) (nL := 8) (lc_Iq I1) rfl).1 r2 ?_
  refine xV_step (o1 := (807, lc_v i, [], h2, c, s)) rfl rfl rfl rfl ?_
  refine xV_step (o1 := (1000, lc_v i, [], h2, c, s)) rfl rfl rfl rfl ?_
  exact xV_stop
set_option maxRecDepth 100000 in
set_option maxHeartbeats 4000000 in
/-- rowAt -/
theorem lo_22 (hL : L ≤ 3072) (hi6 : i + 6 ≤ L) (I : lc_I h) : lo_P L xs i 810 h c s := by
  obtain ⟨x1, h1, r1, I1⟩ := lc_1 (D := 49) (m := xmi_X9_rowAt) (A := [.ref 0, .int (xs (i + 1))]) I as_m_X9_rowAt rfl (by decide) ⟨a_av (by decide) I.2.1, a_an, trivial⟩ rfl rfl rfl (by decide +kernel) rfl (by decide +kernel)
  obtain ⟨x2, h2, r2, I2⟩ := lc_1 (D := 49) (m := xmi_X10_rowAt) (A := [.ref 39, .int (xs (i + 1))]) I1 as_m_X10_rowAt rfl (by decide) ⟨a_av (by decide) I1.2.1, a_an, trivial⟩ rfl rfl rfl (by decide +kernel) rfl (by decide +kernel)
  refine ⟨h2, c, s, ?_, I2, by omega, by omega⟩
  refine xV_step (o1 := (811, lc_v i, [.ref 0], h, c, s)) rfl rfl rfl rfl ?_
  refine xV_arg 1 1 rfl (by omega) hL rfl rfl rfl rfl rfl rfl rfl rfl rfl rfl ?_
  refine xV_call (d := 49) rfl rfl rfl rfl (xa_c_ok (d := 49) (pc := 817) (lv := lc_v i) (nL := 8) (lc_Iq I) rfl).1 r1 ?_
  refine xV_step (o1 := (821, lc_v i, [], h1, c, s)) rfl rfl rfl rfl ?_
  refine xV_step (o1 := (822, lc_v i, [.ref 39], h1, c, s)) rfl rfl rfl rfl ?_
  refine xV_arg 1 1 rfl (by omega) hL rfl rfl rfl rfl rfl rfl rfl rfl rfl rfl ?_
  refine xV_call (d := 49) rfl rfl rfl rfl (xa_c_ok (d := 49) (pc := 828) (lv := lc_v i) (nL := 8) (lc_Iq I1) rfl).1 r2 ?_
  refine xV_step (o1 := (832, lc_v i, [], h2, c, s)) rfl rfl rfl rfl ?_
  refine xV_step (o1 := (1000, lc_v i, [], h2, c, s)) rfl rfl rfl rfl ?_
  exact xV_stop
end XLQ
end
section
section XLH
variable {L i : Nat} {xs : Nat → Int32} {h : xh_H} {c s : Nat}
set_option maxRecDepth 100000 in
set_option maxHeartbeats 4000000 in
/-- feed -/
theorem lo_0 (hL : L ≤ 3072) (hi6 : i + 6 ≤ L) (I : lc_I h) : lo_P L xs i 168 h c s := by
  obtain ⟨⟨t, tp⟩, ⟨mem, m12, e9, e4⟩, ⟨sc, sc8, e8, e33⟩, ⟨td, td9, e10, e3⟩, ⟨vc, vc6, e35, e63⟩, e1, e11, ch, pl, si, vs, pi⟩ := I.2.2.2
  have R := I.2.2.2
  obtain ⟨v1, h1, r1, k1, rfl, n1⟩ := f9_run (d := 48) (a := xs (i + 1)) (b := xs (i + 2)) (c := xs (i + 3)) (d4 := xs (i + 4)) (e5 := xs (i + 5)) I.2.1 I.1 tp.1 tp.2.2.1
  have l1 : 72 ≤ h1.1.length := hk_n k1 I.2.1
  have tq := (hk_g (c := 39) (k := 2) k1 rfl rfl).trans tp.2.1
  obtain ⟨v2, h2, r2, k2, rfl, n2⟩ := f10_run (d := 48) (a := xs (i + 1)) (b := xs (i + 2)) (c := xs (i + 3)) (d4 := xs (i + 4)) (e5 := xs (i + 5)) l1 k1.1 tq tp.2.2.1
  have q1 := xq_Z (hn := (show List.Nodup [0, 1, 2, 3, 4, 5] by decide)) r1 (fun f => fd9_q (f := f) (t := t) (lc_Iq I) tp.2.2.1 tp.1)
  have q2 := xq_Z (hn := (show List.Nodup [0, 1, 2, 3, 4, 5] by decide)) r2 (fun f => fd10_q (f := f) (t := t) (hk_q k1 I.2.1) tp.2.2.1 tq)
  have f1 := k1.2.2
  have f2 := k2.2.2
  have tp2 : ∃ t, tpe h2 t := by
    by_cases l : t + 20 ≤ 640
    · obtain ⟨-, g1, m1, b1⟩ := q1.1 l
      obtain ⟨-, g2, m2, b2⟩ := q2.1 l
      exact ⟨_, fd_al tp l g1 m1 b1 g2 m2 b2⟩
    · obtain ⟨-, y1⟩ := q1.2 l
      have tp1 : tpe h1 t := by rw [y1]; exact tp
      obtain ⟨-, g2, m2, b2⟩ := q2.2 l
      exact ⟨t, (fx_i (c := 1) (k := 1) g2 rfl).trans tp1.1, m2.trans tp1.2.1, tp.2.2.1, fun k hk' => by rw [fx_i (c := 2) (k := k) g2 rfl, b2 k]; exact tp1.2.2.2 k hk'⟩
  have I2 : lc_I h2 := ⟨k2.1, hk_n k2 l1, by rw [k2.2.1, k1.2.1]; exact I.2.2.1, ⟨tp2, rb_2 f1 f2 rfl rfl rfl rfl rfl rfl R.2.1, rb_2 f1 f2 rfl rfl rfl rfl rfl rfl R.2.2.1, rb_2 f1 f2 rfl rfl rfl rfl rfl rfl R.2.2.2.1, rb_2 f1 f2 rfl rfl rfl rfl rfl rfl R.2.2.2.2.1, pr_2 f1 f2 rfl rfl rfl rfl rfl rfl R.2.2.2.2.2.1, pr_2 f1 f2 rfl rfl rfl rfl rfl rfl R.2.2.2.2.2.2.1, ch_2 f1 f2 rfl rfl R.2.2.2.2.2.2.2.1, pl_2 f1 f2 rfl rfl R.2.2.2.2.2.2.2.2.1, SI_2 I.1 I.2.1 k1.1 l1 (fz_run (by decide +kernel) r1) (fz_run (by decide +kernel) r2) f1 f2 rfl rfl R.2.2.2.2.2.2.2.2.2.1, VZ_2 f1 f2 rfl rfl R.2.2.2.2.2.2.2.2.2.2.1, PI_2 I.1 I.2.1 k1.1 l1 (fz_run (by decide +kernel) r1) (qz_run (by decide +kernel) r1) f1 rfl (fz_run (by decide +kernel) r2) (qz_run (by decide +kernel) r2) f2 rfl (RI_p R)⟩⟩
  refine ⟨h2, c, s, ?_, I2, by omega, by omega⟩
  refine xV_step (o1 := (169, lc_v i, [.ref 0], h, c, s)) rfl rfl rfl rfl ?_
  refine xV_arg 1 1 rfl (by omega) hL rfl rfl rfl rfl rfl rfl rfl rfl rfl rfl ?_
  refine xV_arg 2 2 rfl (by omega) hL rfl rfl rfl rfl rfl rfl rfl rfl rfl rfl ?_
  refine xV_arg 3 3 rfl (by omega) hL rfl rfl rfl rfl rfl rfl rfl rfl rfl rfl ?_
  refine xV_arg 4 4 rfl (by omega) hL rfl rfl rfl rfl rfl rfl rfl rfl rfl rfl ?_
  refine xV_arg 5 5 rfl (by omega) hL rfl rfl rfl rfl rfl rfl rfl rfl rfl rfl ?_
  refine xV_call (d := 49) rfl rfl rfl rfl (xa_c_ok (d := 49) (pc := 199) (lv := lc_v i) (nL := 8) (lc_Iq I) rfl).1 r1 ?_
  refine xV_step (o1 := (203, lc_v i, [], h1, c, s)) rfl rfl rfl rfl ?_
  refine xV_step (o1 := (204, lc_v i, [.ref 39], h1, c, s)) rfl rfl rfl rfl ?_
  refine xV_arg 1 1 rfl (by omega) hL rfl rfl rfl rfl rfl rfl rfl rfl rfl rfl ?_
  refine xV_arg 2 2 rfl (by omega) hL rfl rfl rfl rfl rfl rfl rfl rfl rfl rfl ?_
  refine xV_arg 3 3 rfl (by omega) hL rfl rfl rfl rfl rfl rfl rfl rfl rfl rfl ?_
  refine xV_arg 4 4 rfl (by omega) hL rfl rfl rfl rfl rfl rfl rfl rfl rfl rfl ?_
  refine xV_arg 5 5 rfl (by omega) hL rfl rfl rfl rfl rfl rfl rfl rfl rfl rfl ?_
  refine xV_call (d := 49) rfl rfl rfl rfl (xa_c_ok (d := 49) (pc := 234) (lv := lc_v i) (nL := 8) (hk_q k1 I.2.1) rfl).1 r2 ?_
  refine xV_step (o1 := (238, lc_v i, [], h2, c, s)) rfl rfl rfl rfl ?_
  refine xV_step (o1 := (1000, lc_v i, [], h2, c, s)) rfl rfl rfl rfl ?_
  exact xV_stop
set_option maxRecDepth 100000 in
set_option maxHeartbeats 4000000 in
/-- end -/
theorem lo_1 (hL : L ≤ 3072) (hi6 : i + 6 ≤ L) (I : lc_I h) : lo_P L xs i 241 h c s := by
  obtain ⟨⟨t, tp⟩, ⟨mem, m12, e9, e4⟩, ⟨sc, sc8, e8, e33⟩, ⟨td, td9, e10, e3⟩, ⟨vc, vc6, e35, e63⟩, e1, e11, ch, pl, si, vs, pi⟩ := I.2.2.2
  have R := I.2.2.2
  obtain ⟨v1, h1, r1, k1, rfl, n1⟩ := e9_run (d := 49) (n := xs (i + 1)) I.2.1 I.1 tp.1 tp.2.2.1
  have l1 : 72 ≤ h1.1.length := hk_n k1 I.2.1
  obtain ⟨v2, h2, r2, k2, rfl, n2⟩ := e10_run (d := 49) (n := xs (i + 1)) l1 k1.1 ((hk_g (c := 39) (k := 2) k1 rfl rfl).trans tp.2.1) tp.2.2.1
  have f1 := k1.2.2
  have f2 := k2.2.2
  have tp2 : ∃ t, tpe h2 t := ⟨en_t t (xs (i + 1)), (hk_g (c := 1) (k := 1) k2 rfl rfl).trans n1, n2, en_t6 tp.2.2.1, fun k hk' => by
    have z := tp.2.2.2 k (Nat.lt_of_lt_of_le hk' en_le)
    rw [hk_g (c := 2) (k := k) k2 rfl rfl, hk_g (c := 2) (k := k) k1 rfl rfl, hk_g (c := 40) (k := k) k2 rfl rfl, hk_g (c := 40) (k := k) k1 rfl rfl]
    exact z⟩
  have I2 : lc_I h2 := ⟨k2.1, hk_n k2 l1, by rw [k2.2.1, k1.2.1]; exact I.2.2.1, ⟨tp2, rb_2 f1 f2 rfl rfl rfl rfl rfl rfl R.2.1, rb_2 f1 f2 rfl rfl rfl rfl rfl rfl R.2.2.1, rb_2 f1 f2 rfl rfl rfl rfl rfl rfl R.2.2.2.1, rb_2 f1 f2 rfl rfl rfl rfl rfl rfl R.2.2.2.2.1, pr_2 f1 f2 rfl rfl rfl rfl rfl rfl R.2.2.2.2.2.1, pr_2 f1 f2 rfl rfl rfl rfl rfl rfl R.2.2.2.2.2.2.1, ch_2 f1 f2 rfl rfl R.2.2.2.2.2.2.2.1, pl_2 f1 f2 rfl rfl R.2.2.2.2.2.2.2.2.1, SI_2 I.1 I.2.1 k1.1 l1 (fz_run (by decide +kernel) r1) (fz_run (by decide +kernel) r2) f1 f2 rfl rfl R.2.2.2.2.2.2.2.2.2.1, VZ_2 f1 f2 rfl rfl R.2.2.2.2.2.2.2.2.2.2.1, PI_2 I.1 I.2.1 k1.1 l1 (fz_run (by decide +kernel) r1) (qz_run (by decide +kernel) r1) f1 rfl (fz_run (by decide +kernel) r2) (qz_run (by decide +kernel) r2) f2 rfl (RI_p R)⟩⟩
  refine ⟨h2, c, s, ?_, I2, by omega, by omega⟩
  refine xV_step (o1 := (242, lc_v i, [.ref 0], h, c, s)) rfl rfl rfl rfl ?_
  refine xV_arg 1 1 rfl (by omega) hL rfl rfl rfl rfl rfl rfl rfl rfl rfl rfl ?_
  refine xV_call (d := 49) rfl rfl rfl rfl (xa_c_ok (d := 49) (pc := 248) (lv := lc_v i) (nL := 8) (lc_Iq I) rfl).1 r1 ?_
  refine xV_step (o1 := (252, lc_v i, [], h1, c, s)) rfl rfl rfl rfl ?_
  refine xV_step (o1 := (253, lc_v i, [.ref 39], h1, c, s)) rfl rfl rfl rfl ?_
  refine xV_arg 1 1 rfl (by omega) hL rfl rfl rfl rfl rfl rfl rfl rfl rfl rfl ?_
  refine xV_call (d := 49) rfl rfl rfl rfl (xa_c_ok (d := 49) (pc := 259) (lv := lc_v i) (nL := 8) (hk_q k1 I.2.1) rfl).1 r2 ?_
  refine xV_step (o1 := (263, lc_v i, [], h2, c, s)) rfl rfl rfl rfl ?_
  refine xV_step (o1 := (1000, lc_v i, [], h2, c, s)) rfl rfl rfl rfl ?_
  exact xV_stop
set_option maxRecDepth 100000 in
set_option maxHeartbeats 4000000 in
/-- next -/
theorem lo_2 (hL : L ≤ 3072) (hi6 : i + 6 ≤ L) (I : lc_I h) : lo_P L xs i 266 h c s := by
  obtain ⟨⟨t, tp⟩, ⟨mem, m12, e9, e4⟩, ⟨sc, sc8, e8, e33⟩, ⟨td, td9, e10, e3⟩, ⟨vc, vc6, e35, e63⟩, e1, e11, ch, pl, si, vs, pi⟩ := I.2.2.2
  have R := I.2.2.2
  obtain ⟨v1, h1, r1, k1, rfl, n1⟩ := n9_run (d := 49) (n := xs (i + 1)) I.2.1 I.1 td9 e10
  have l1 : 72 ≤ h1.1.length := hk_n k1 I.2.1
  obtain ⟨v2, h2, r2, k2, rfl, n2⟩ := n10_run (d := 48) (n := xs (i + 1)) l1 k1.1 td9 ((hk_g (c := 39) (k := 3) k1 rfl rfl).trans e3)
  have f1 := k1.2.2
  have f2 := k2.2.2
  have I2 : lc_I h2 := ⟨k2.1, hk_n k2 l1, by rw [k2.2.1, k1.2.1]; exact I.2.2.1, ⟨tp_2 f1 f2 rfl (fun _ => rfl) rfl (fun _ => rfl) rfl (fun _ => rfl) rfl (fun _ => rfl) R.1, rb_2 f1 f2 rfl rfl rfl rfl rfl rfl R.2.1, rb_2 f1 f2 rfl rfl rfl rfl rfl rfl R.2.2.1, ⟨nx_t td (xs (i + 1)), nx_t9 td9, (hk_g (c := 0) (k := 10) k2 rfl rfl).trans n1, n2⟩, rb_2 f1 f2 rfl rfl rfl rfl rfl rfl R.2.2.2.2.1, pr_2 f1 f2 rfl rfl rfl rfl rfl rfl R.2.2.2.2.2.1, pr_2 f1 f2 rfl rfl rfl rfl rfl rfl R.2.2.2.2.2.2.1, ch_2 f1 f2 rfl rfl R.2.2.2.2.2.2.2.1, pl_2 f1 f2 rfl rfl R.2.2.2.2.2.2.2.2.1, SI_2 I.1 I.2.1 k1.1 l1 (fz_run (by decide +kernel) r1) (fz_run (by decide +kernel) r2) f1 f2 rfl rfl R.2.2.2.2.2.2.2.2.2.1, VZ_2 f1 f2 rfl rfl R.2.2.2.2.2.2.2.2.2.2.1, PI_2 I.1 I.2.1 k1.1 l1 (fz_run (by decide +kernel) r1) (qz_run (by decide +kernel) r1) f1 rfl (fz_run (by decide +kernel) r2) (qz_run (by decide +kernel) r2) f2 rfl (RI_p R)⟩⟩
  refine ⟨h2, c, s, ?_, I2, by omega, by omega⟩
  refine xV_step (o1 := (267, lc_v i, [.ref 0], h, c, s)) rfl rfl rfl rfl ?_
  refine xV_arg 1 1 rfl (by omega) hL rfl rfl rfl rfl rfl rfl rfl rfl rfl rfl ?_
  refine xV_call (d := 49) rfl rfl rfl rfl (xa_c_ok (d := 49) (pc := 273) (lv := lc_v i) (nL := 8) (lc_Iq I) rfl).1 r1 ?_
  refine xV_step (o1 := (277, lc_v i, [], h1, c, s)) rfl rfl rfl rfl ?_
  refine xV_step (o1 := (278, lc_v i, [.ref 39], h1, c, s)) rfl rfl rfl rfl ?_
  refine xV_arg 1 1 rfl (by omega) hL rfl rfl rfl rfl rfl rfl rfl rfl rfl rfl ?_
  refine xV_call (d := 49) rfl rfl rfl rfl (xa_c_ok (d := 49) (pc := 284) (lv := lc_v i) (nL := 8) (hk_q k1 I.2.1) rfl).1 r2 ?_
  refine xV_step (o1 := (288, lc_v i, [], h2, c, s)) rfl rfl rfl rfl ?_
  refine xV_step (o1 := (1000, lc_v i, [], h2, c, s)) rfl rfl rfl rfl ?_
  exact xV_stop
set_option maxRecDepth 100000 in
set_option maxHeartbeats 4000000 in
/-- members -/
theorem lo_3 (hL : L ≤ 3072) (hi6 : i + 6 ≤ L) (I : lc_I h) : lo_P L xs i 291 h c s := by
  obtain ⟨⟨t, tp⟩, ⟨mem, m12, e9, e4⟩, ⟨sc, sc8, e8, e33⟩, ⟨td, td9, e10, e3⟩, ⟨vc, vc6, e35, e63⟩, e1, e11, ch, pl, si, vs, pi⟩ := I.2.2.2
  have R := I.2.2.2
  obtain ⟨v1, h1, r1, k1⟩ := lc_3 (D := 49) (C := aC_m_X9_members) (m := xmi_X9_members) (A := [.ref 0, .int (xs (i + 1))]) I.1 I.2.1 as_m_X9_members rfl (by decide) ⟨a_av (by decide) I.2.1, a_an, trivial⟩ rfl
  have l1 : 72 ≤ h1.1.length := hk_n k1 I.2.1
  obtain ⟨v2, h2, r2, k2⟩ := lc_3 (D := 49) (C := aC_m_X10_members) (m := xmi_X10_members) (A := [.ref 39, .int (xs (i + 1))]) k1.1 l1 as_m_X10_members rfl (by decide) ⟨a_av (by decide) l1, a_an, trivial⟩ rfl
  obtain ⟨rfl, d1⟩ := xq_Z (hn := (show List.Nodup [0, 1] by decide)) r1 (fun f => mb9_q (f := f) (x := xs (i + 1)) (s := nI sc) (w := nI vc) (r := xg 0 h.2.1 28 1) I.1 I.2.1 e8 e35 rfl)
  obtain ⟨rfl, d2⟩ := xq_Z (hn := (show List.Nodup [0, 1] by decide)) r2 (fun f => mb10_q (f := f) (x := xs (i + 1)) (s := nI sc) (w := nI vc) (r := xg 0 h.2.1 28 1) (hk_q k1 I.2.1) ((hk_g (c := 39) (k := 33) k1 rfl rfl).trans e33) ((hk_g (c := 39) (k := 63) k1 rfl rfl).trans e63) ((hk_g (c := 39) (k := 5) k1 rfl rfl).trans e1.symm))
  have f1 := k1.2.2
  have f2 := k2.2.2
  have sz2 : rb h2 0 9 39 4 12 := by
    cases hB : mbB (nI sc) (nI vc) (xg 0 h.2.1 28 1) (xs (i + 1)) with
    | true =>
      obtain ⟨m, z1, z2⟩ := mbB_n hB
      rw [hB] at d1 d2
      exact ⟨m, z1, (hk_g (c := 0) (k := 9) k2 rfl rfl).trans (d1.trans z2), d2.trans z2⟩
    | false =>
      rw [hB] at d1 d2
      exact ⟨mem, m12, (hk_g (c := 0) (k := 9) k2 rfl rfl).trans (d1.trans e9), d2.trans ((hk_g (c := 39) (k := 4) k1 rfl rfl).trans e4)⟩
  have qm := xq_Z (hn := (show List.Nodup [0, 1] by decide)) r1 (fun f => mb9d_q (f := f) (x := xs (i + 1)) (s := nI sc) (w := nI vc) (r := xg 0 h.2.1 28 1) (lc_Iq I) e8 e35 rfl si.1.2.1 si.1.2.2)
  have I2 : lc_I h2 := ⟨k2.1, hk_n k2 l1, by rw [k2.2.1, k1.2.1]; exact I.2.2.1, ⟨tp_2 f1 f2 rfl (fun _ => rfl) rfl (fun _ => rfl) rfl (fun _ => rfl) rfl (fun _ => rfl) R.1, sz2, rb_2 f1 f2 rfl rfl rfl rfl rfl rfl R.2.2.1, rb_2 f1 f2 rfl rfl rfl rfl rfl rfl R.2.2.2.1, rb_2 f1 f2 rfl rfl rfl rfl rfl rfl R.2.2.2.2.1, pr_2 f1 f2 rfl rfl rfl rfl rfl rfl R.2.2.2.2.2.1, pr_2 f1 f2 rfl rfl rfl rfl rfl rfl R.2.2.2.2.2.2.1, ch_2 f1 f2 rfl rfl R.2.2.2.2.2.2.2.1, pl_2 f1 f2 rfl rfl R.2.2.2.2.2.2.2.2.1, SI_m I.1 I.2.1 k1.1 l1 si qm d1 e8 (fz_run (by decide +kernel) r2) f2 rfl, VZ_m vs d1 e35 f1 rfl rfl f2 rfl, PI_t k1.1 l1 (Fs_z (a_rq_of k1.1.1 l1) (fz_run (by decide +kernel) r2)) (qz_run (by decide +kernel) r2) f2 rfl (PI_m I.1 I.2.1 qm (RI_p R))⟩⟩
  refine ⟨h2, c, s, ?_, I2, by omega, by omega⟩
  refine xV_step (o1 := (292, lc_v i, [.ref 0], h, c, s)) rfl rfl rfl rfl ?_
  refine xV_arg 1 1 rfl (by omega) hL rfl rfl rfl rfl rfl rfl rfl rfl rfl rfl ?_
  refine xV_call (d := 49) rfl rfl rfl rfl (xa_c_ok (d := 49) (pc := 298) (lv := lc_v i) (nL := 8) (lc_Iq I) rfl).1 r1 ?_
  refine xV_step (o1 := (302, lc_v i, [], h1, c, s)) rfl rfl rfl rfl ?_
  refine xV_step (o1 := (303, lc_v i, [.ref 39], h1, c, s)) rfl rfl rfl rfl ?_
  refine xV_arg 1 1 rfl (by omega) hL rfl rfl rfl rfl rfl rfl rfl rfl rfl rfl ?_
  refine xV_call (d := 49) rfl rfl rfl rfl (xa_c_ok (d := 49) (pc := 309) (lv := lc_v i) (nL := 8) (hk_q k1 I.2.1) rfl).1 r2 ?_
  refine xV_step (o1 := (313, lc_v i, [], h2, c, s)) rfl rfl rfl rfl ?_
  refine xV_step (o1 := (1000, lc_v i, [], h2, c, s)) rfl rfl rfl rfl ?_
  exact xV_stop
set_option maxRecDepth 100000 in
set_option maxHeartbeats 4000000 in
/-- statute -/
theorem lo_4 (hL : L ≤ 3072) (hi6 : i + 6 ≤ L) (I : lc_I h) : lo_P L xs i 316 h c s := by
  obtain ⟨⟨t, tp⟩, ⟨mem, m12, e9, e4⟩, ⟨sc, sc8, e8, e33⟩, ⟨td, td9, e10, e3⟩, ⟨vc, vc6, e35, e63⟩, e1, e11, ch, pl, si, vs, pi⟩ := I.2.2.2
  have R := I.2.2.2
  have hc : ct h (tpT h) t := ⟨tp.1, tp.2.2.1, fun k _ => (tpe_T tp).1 k⟩
  obtain ⟨v1, h1, c1, s1, r1, k1, ⟨⟨z1, A1⟩, cs, cn⟩, c2, s66⟩ := s9r_run (d := 0) (f := xs (i + 1)) I.2.1 I.2.2.1 I.1 hc e9 m12 e8 sc8 e10 td9
  have q1 := a_rq_of k1.1.1 k1.2.1
  have f1 := k1.2.2.2
  obtain ⟨v2, h2, r2, k2, -, z2⟩ := xs_run (d := 40) (f := xs (i + 1)) k1.2.1 k1.1
  have f2 := k2.2.2
  have P := st_pair (h := h) A1 (fun r hX => xq_Z (hn := (show List.Nodup [0, 1] by decide)) r2 (fun f => s10_q (f := f) (T := tpT h) (n := t) (mem := mem) (sc := sc) (td := td) (fd := xs (i + 1)) (r := r) (W := nmW (tpT h) (fun _ => (0, 0))) q1 tp.2.2.1 ((fr_g (c := 39) (k := 2) f1 rfl rfl).trans tp.2.1) (fun k hk' => ⟨((tpe_T tp).2 k hk').1, (fr_g (c := 40) (k := k) f1 rfl rfl).trans ((tpe_T tp).2 k hk').2⟩) ((fr_g (c := 39) (k := 4) f1 rfl rfl).trans e4) m12 ((fr_g (c := 39) (k := 33) f1 rfl rfl).trans e33) sc8 ((fr_g (c := 39) (k := 3) f1 rfl rfl).trans e3) td9 hX)) sc8 (e11.trans (fr_g (c := 39) (k := 13) f1 rfl rfl).symm)
  have wfx := st_fx A1 (fun r sv y s4 hX hV => by obtain ⟨one0, e45⟩ := x45 (s := sv) k1.1 k1.2.1 s4; exact xq_Z (hn := (show List.Nodup [0, 1] by decide)) r2 (fun f => s10_d (f := f) (T := tpT h) (n := t) (mem := mem) (sc := sc) (td := td) (fd := xs (i + 1)) (r := r) (W := nmW (tpT h) (fun _ => (0, 0))) q1 tp.2.2.1 ((fr_g (c := 39) (k := 2) f1 rfl rfl).trans tp.2.1) (fun k hk' => ⟨((tpe_T tp).2 k hk').1, (fr_g (c := 40) (k := k) f1 rfl rfl).trans ((tpe_T tp).2 k hk').2⟩) ((fr_g (c := 39) (k := 4) f1 rfl rfl).trans e4) m12 ((fr_g (c := 39) (k := 33) f1 rfl rfl).trans e33) sc8 ((fr_g (c := 39) (k := 3) f1 rfl rfl).trans e3) td9 hX s4 e45 hV)) cn
  have si2 : SI h2 := st_si A1 (fun r sv y s4 hX hV => by obtain ⟨one0, e45⟩ := x45 (s := sv) k1.1 k1.2.1 s4; exact xq_Z (hn := (show List.Nodup [0, 1] by decide)) r2 (fun f => s10_d (f := f) (T := tpT h) (n := t) (mem := mem) (sc := sc) (td := td) (fd := xs (i + 1)) (r := r) (W := nmW (tpT h) (fun _ => (0, 0))) q1 tp.2.2.1 ((fr_g (c := 39) (k := 2) f1 rfl rfl).trans tp.2.1) (fun k hk' => ⟨((tpe_T tp).2 k hk').1, (fr_g (c := 40) (k := k) f1 rfl rfl).trans ((tpe_T tp).2 k hk').2⟩) ((fr_g (c := 39) (k := 4) f1 rfl rfl).trans e4) m12 ((fr_g (c := 39) (k := 33) f1 rfl rfl).trans e33) sc8 ((fr_g (c := 39) (k := 3) f1 rfl rfl).trans e3) td9 hX s4 e45 hV)) I.1 I.2.1 I.2.2.1 k1.1 k1.2.1 si e9 m12 e8 sc8 td9 cs cn f1 (fun k => fr_g (c := 51) (k := k) f1 rfl rfl) (fun k => fr_g (c := 52) (k := k) f1 rfl rfl) (fun k => fr_g (c := 44) (k := k) f1 rfl rfl) ((hk_g (c := 0) (k := 9) k2 rfl rfl).trans ((fr_g (c := 0) (k := 9) f1 rfl rfl).trans e9)) (hk_g (c := 0) (k := 8) k2 rfl rfl)
  obtain ⟨rfl, ⟨x, rfl⟩, ⟨m, m8, b1, b2⟩, b3⟩ := P
  have I2 : lc_I h2 := ⟨k2.1, hk_n k2 k1.2.1, by rw [k2.2.1]; exact k1.2.2.1, ⟨⟨0, (hk_g (c := 1) (k := 1) k2 rfl rfl).trans z1, z2, by decide, fun k hk' => absurd hk' (Nat.not_lt_zero k)⟩, rb_2 f1 f2 rfl rfl rfl rfl rfl rfl R.2.1, ⟨m, m8, (hk_g (c := 0) (k := 8) k2 rfl rfl).trans b1, b2⟩, rb_2 f1 f2 rfl rfl rfl rfl rfl rfl R.2.2.2.1, rb_2 f1 f2 rfl rfl rfl rfl rfl rfl R.2.2.2.2.1, pr_2 f1 f2 rfl rfl rfl rfl rfl rfl R.2.2.2.2.2.1, (hk_g (c := 0) (k := 11) k2 rfl rfl).trans b3, ch_2 f1 f2 rfl rfl R.2.2.2.2.2.2.2.1, pl_2 f1 f2 rfl rfl R.2.2.2.2.2.2.2.2.1, si2, VZ_2 f1 f2 rfl rfl R.2.2.2.2.2.2.2.2.2.2.1, PI_w k1.1 k1.2.1 wfx f2 rfl (PI_c I.1 I.2.1 cs f1 rfl (RI_p R))⟩⟩
  refine ⟨h2, c + c1, s + s1, ?_, I2, by omega, by omega⟩
  refine xV_step (o1 := (317, lc_v i, [.ref 0], h, c, s)) rfl rfl rfl rfl ?_
  refine xV_arg 1 1 rfl (by omega) hL rfl rfl rfl rfl rfl rfl rfl rfl rfl rfl ?_
  refine xV_call (d := 49) rfl rfl rfl rfl (xa_c_ok (d := 49) (pc := 323) (lv := lc_v i) (nL := 8) (lc_Iq I) rfl).1 r1 ?_
  refine xV_step (o1 := (327, lc_v i, [], h1, c + c1, s + s1)) rfl rfl rfl rfl ?_
  refine xV_step (o1 := (328, lc_v i, [.ref 39], h1, c + c1, s + s1)) rfl rfl rfl rfl ?_
  refine xV_arg 1 1 rfl (by omega) hL rfl rfl rfl rfl rfl rfl rfl rfl rfl rfl ?_
  refine xV_call (d := 49) rfl rfl rfl rfl (xa_c_ok (d := 49) (pc := 334) (lv := lc_v i) (nL := 8) q1 rfl).1 r2 ?_
  refine xV_step (o1 := (338, lc_v i, [], h2, c + c1, s + s1)) rfl rfl rfl rfl ?_
  refine xV_step (o1 := (1000, lc_v i, [], h2, c + c1, s + s1)) rfl rfl rfl rfl ?_
  exact xV_stop
set_option maxRecDepth 100000 in
set_option maxHeartbeats 4000000 in
/-- rank -/
theorem lo_16 (hL : L ≤ 3072) (hi6 : i + 6 ≤ L) (I : lc_I h) : lo_P L xs i 656 h c s := by
  obtain ⟨⟨t, tp⟩, ⟨mem, m12, e9, e4⟩, ⟨sc, sc8, e8, e33⟩, ⟨td, td9, e10, e3⟩, ⟨vc, vc6, e35, e63⟩, e1, e11, ch, pl, si, vs, pi⟩ := I.2.2.2
  have R := I.2.2.2
  have hc : ct h (tpT h) t := ⟨tp.1, tp.2.2.1, fun k _ => (tpe_T tp).1 k⟩
  obtain ⟨v1, h1, r1, k1, -, z1⟩ := r9_run (d := 47) (m := xs (i + 1)) I.2.1 I.1
  have l1 : 72 ≤ h1.1.length := hk_n k1 I.2.1
  obtain ⟨v2, h2, r2, k2, -, z2⟩ := r10_run (d := 48) (m := xs (i + 1)) l1 k1.1
  obtain ⟨y1, d1⟩ : v1 = some (.int (bl (rkB (tpT h) t (xs (i + 1)) (nI mem)))) ∧ xg 0 h1.2.1 28 1 = cond (rkB (tpT h) t (xs (i + 1)) (nI mem)) (Int32.ofInt 1) (xg 0 h.2.1 28 1) := xq_Z (hn := (show List.Nodup [0, 1] by decide)) r1 (fun f => rk9_q (f := f) (x := xs (i + 1)) (z := nI mem) hc e9 (lc_Iq I))
  obtain ⟨y2, d2⟩ : v2 = some (.int (bl (rkB (tpT h) t (xs (i + 1)) (nI mem)))) ∧ xg 0 h2.2.1 39 5 = cond (rkB (tpT h) t (xs (i + 1)) (nI mem)) (Int32.ofInt 1) (xg 0 h1.2.1 39 5) := xq_Z (hn := (show List.Nodup [0, 1] by decide)) r2 (fun f => rk10_q (f := f) (x := xs (i + 1)) (z := nI mem) tp.2.2.1 ((hk_g (c := 39) (k := 2) k1 rfl rfl).trans tp.2.1) (fun k hk' => ⟨((tpe_T tp).2 k hk').1, (hk_g (c := 40) (k := k) k1 rfl rfl).trans ((tpe_T tp).2 k hk').2⟩) ((hk_g (c := 39) (k := 4) k1 rfl rfl).trans e4) (hk_q k1 I.2.1))
  have a1 := xq_Z (hn := (show List.Nodup [0, 1] by decide)) r1 (fun f => rk9b_q (f := f) (x := xs (i + 1)) (z := nI mem) hc e9 (lc_Iq I))
  have a2 := xq_Z (hn := (show List.Nodup [0, 1] by decide)) r2 (fun f => rk10b_q (f := f) (T := tpT h) (x := xs (i + 1)) (z := nI mem) tp.2.2.1 ((hk_g (c := 39) (k := 2) k1 rfl rfl).trans tp.2.1) (fun k hk' => ⟨((tpe_T tp).2 k hk').1, (hk_g (c := 40) (k := k) k1 rfl rfl).trans ((tpe_T tp).2 k hk').2⟩) ((hk_g (c := 39) (k := 4) k1 rfl rfl).trans e4) (hk_q k1 I.2.1))
  have pl2 : plr h2 := fun k hk' => by
    rw [hk_g (c := 30) (k := k) k2 rfl rfl, a1 k, a2 k]
    cases ((!xe_c .lt (xs (i + 1)) 0 && !xe_c .ge (xs (i + 1)) (nI mem)) && (Nat.beq t 7 && ro (tpT h) 7 0 (Int32.ofInt 0)))
    · exact (pl k hk').trans (hk_g (c := 62) (k := k) k1 rfl rfl).symm
    · exact pw_c 7 0 _ _ (fun k hk' => (pl k hk').trans (hk_g (c := 62) (k := k) k1 rfl rfl).symm) k hk'
  subst y1
  subst y2
  have f1 := k1.2.2
  have f2 := k2.2.2
  have rk2 : xg 0 h2.2.1 28 1 = xg 0 h2.2.1 39 5 := by
    rw [hk_g (c := 28) (k := 1) k2 rfl rfl, d1, d2, hk_g (c := 39) (k := 5) k1 rfl rfl, e1]
  have I2 : lc_I h2 := ⟨k2.1, hk_n k2 l1, by rw [k2.2.1, k1.2.1]; exact I.2.2.1, ⟨⟨0, (hk_g (c := 1) (k := 1) k2 rfl rfl).trans z1, z2, by decide, fun k hk' => absurd hk' (Nat.not_lt_zero k)⟩, rb_2 f1 f2 rfl rfl rfl rfl rfl rfl R.2.1, rb_2 f1 f2 rfl rfl rfl rfl rfl rfl R.2.2.1, rb_2 f1 f2 rfl rfl rfl rfl rfl rfl R.2.2.2.1, rb_2 f1 f2 rfl rfl rfl rfl rfl rfl R.2.2.2.2.1, rk2, pr_2 f1 f2 rfl rfl rfl rfl rfl rfl R.2.2.2.2.2.2.1, ch_2 f1 f2 rfl rfl R.2.2.2.2.2.2.2.1, pl2, SI_2 I.1 I.2.1 k1.1 l1 (fz_run (by decide +kernel) r1) (fz_run (by decide +kernel) r2) f1 f2 rfl rfl R.2.2.2.2.2.2.2.2.2.1, VZ_2 f1 f2 rfl rfl R.2.2.2.2.2.2.2.2.2.2.1, PI_2 I.1 I.2.1 k1.1 l1 (fz_run (by decide +kernel) r1) (qz_run (by decide +kernel) r1) f1 rfl (fz_run (by decide +kernel) r2) (qz_run (by decide +kernel) r2) f2 rfl (RI_p R)⟩⟩
  refine ⟨h2, c, s, ?_, I2, by omega, by omega⟩
  refine xV_step (o1 := (657, lc_v i, [.ref 0], h, c, s)) rfl rfl rfl rfl ?_
  refine xV_arg 1 1 rfl (by omega) hL rfl rfl rfl rfl rfl rfl rfl rfl rfl rfl ?_
  refine xV_call (d := 49) rfl rfl rfl rfl (xa_c_ok (d := 49) (pc := 663) (lv := lc_v i) (nL := 8) (lc_Iq I) rfl).1 r1 ?_
  refine xV_step (o1 := (667, lc_v i, [], h1, c, s)) rfl rfl rfl rfl ?_
  refine xV_step (o1 := (668, lc_v i, [.ref 39], h1, c, s)) rfl rfl rfl rfl ?_
  refine xV_arg 1 1 rfl (by omega) hL rfl rfl rfl rfl rfl rfl rfl rfl rfl rfl ?_
  refine xV_call (d := 49) rfl rfl rfl rfl (xa_c_ok (d := 49) (pc := 674) (lv := lc_v i) (nL := 8) (hk_q k1 I.2.1) rfl).1 r2 ?_
  refine xV_step (o1 := (678, lc_v i, [], h2, c, s)) rfl rfl rfl rfl ?_
  refine xV_step (o1 := (1000, lc_v i, [], h2, c, s)) rfl rfl rfl rfl ?_
  exact xV_stop
set_option maxRecDepth 100000 in
set_option maxHeartbeats 4000000 in
/-- vote -/
theorem lo_23 (hL : L ≤ 3072) (hi6 : i + 6 ≤ L) (I : lc_I h) : lo_P L xs i 835 h c s := by
  obtain ⟨⟨t, tp⟩, ⟨mem, m12, e9, e4⟩, ⟨sc, sc8, e8, e33⟩, ⟨td, td9, e10, e3⟩, ⟨vc, vc6, e35, e63⟩, e1, e11, ch, pl, si, vs, pi⟩ := I.2.2.2
  have R := I.2.2.2
  cases c1 : xe_c .eq (xs (i + 2)) 0 with
  | true =>
    obtain ⟨v1, h1, r1, k1⟩ := lc_3 (D := 49) (C := aC_m_X9_vote) (m := xmi_X9_vote) (A := [.ref 0, .int (xs (i + 1)), .int (Int32.ofInt 0)]) I.1 I.2.1 as_m_X9_vote rfl (by decide) ⟨a_av (by decide) I.2.1, a_an, a_ai (by decide) (by decide), trivial⟩ rfl
    have l1 : 72 ≤ h1.1.length := hk_n k1 I.2.1
    obtain ⟨v2, h2, r2, k2⟩ := lc_3 (D := 49) (C := aC_m_X10_vote) (m := xmi_X10_vote) (A := [.ref 39, .int (xs (i + 1)), .int (Int32.ofInt 0)]) k1.1 l1 as_m_X10_vote rfl (by decide) ⟨a_av (by decide) l1, a_an, a_ai (by decide) (by decide), trivial⟩ rfl
    obtain ⟨rfl, d1⟩ := xq_Z (hn := (show List.Nodup [0, 1, 2] by decide)) r1 (fun f => vt9_q (f := f) (x := xs (i + 1)) (b := Int32.ofInt 0) (z := nI mem) vc6 e35 e9 (lc_Iq I))
    obtain ⟨rfl, d2⟩ := xq_Z (hn := (show List.Nodup [0, 1, 2] by decide)) r2 (fun f => vt10_q (f := f) (x := xs (i + 1)) (b := Int32.ofInt 0) (z := nI mem) vc6 ((hk_g (c := 39) (k := 63) k1 rfl rfl).trans e63) ((hk_g (c := 39) (k := 4) k1 rfl rfl).trans e4) (hk_q k1 I.2.1))
    have f1 := k1.2.2
    have f2 := k2.2.2
    have a1 := xq_Z (hn := (show List.Nodup [0, 1, 2] by decide)) r1 (fun f => vt9b_q (f := f) (x := xs (i + 1)) (b := Int32.ofInt 0) (z := nI mem) (y := nI td) vc6 e35 e9 e10 (lc_Iq I))
    have a2 := xq_Z (hn := (show List.Nodup [0, 1, 2] by decide)) r2 (fun f => vt10b_q (f := f) (x := xs (i + 1)) (b := Int32.ofInt 0) (z := nI mem) (y := nI td) vc6 ((hk_g (c := 39) (k := 63) k1 rfl rfl).trans e63) ((hk_g (c := 39) (k := 4) k1 rfl rfl).trans e4) ((hk_g (c := 39) (k := 3) k1 rfl rfl).trans e3) (hk_q k1 I.2.1))
    have ch2 : chr_ h2 := fun k hk' => by
      obtain ⟨p1, p2, p3⟩ := a1 k
      obtain ⟨u1, u2, u3⟩ := a2 k
      obtain ⟨w1, w2, w3⟩ := ch k hk'
      rw [hk_g (c := 36) (k := k) k2 rfl rfl, hk_g (c := 37) (k := k) k2 rfl rfl, hk_g (c := 38) (k := k) k2 rfl rfl, p1, p2, p3, u1, u2, u3, hk_g (c := 68) (k := k) k1 rfl rfl, hk_g (c := 69) (k := k) k1 rfl rfl, hk_g (c := 70) (k := k) k1 rfl rfl, w1, w2, w3]
      exact ⟨rfl, rfl, rfl⟩
    have vc2 : rb h2 35 3 39 63 60 := ⟨_, vt_le vc6, (hk_g (c := 35) (k := 3) k2 rfl rfl).trans d1, d2⟩
    have I2 : lc_I h2 := ⟨k2.1, hk_n k2 l1, by rw [k2.2.1, k1.2.1]; exact I.2.2.1, ⟨tp_2 f1 f2 rfl (fun _ => rfl) rfl (fun _ => rfl) rfl (fun _ => rfl) rfl (fun _ => rfl) R.1, rb_2 f1 f2 rfl rfl rfl rfl rfl rfl R.2.1, rb_2 f1 f2 rfl rfl rfl rfl rfl rfl R.2.2.1, rb_2 f1 f2 rfl rfl rfl rfl rfl rfl R.2.2.2.1, vc2, pr_2 f1 f2 rfl rfl rfl rfl rfl rfl R.2.2.2.2.2.1, pr_2 f1 f2 rfl rfl rfl rfl rfl rfl R.2.2.2.2.2.2.1, ch2, pl_2 f1 f2 rfl rfl R.2.2.2.2.2.2.2.2.1, SI_2 I.1 I.2.1 k1.1 l1 (fz_run (by decide +kernel) r1) (fz_run (by decide +kernel) r2) f1 f2 rfl rfl R.2.2.2.2.2.2.2.2.2.1, VZ_v vs m12 e9 e35 vc6 d1 (fun k => (a1 k).1) f1 rfl f2 rfl, PI_2 I.1 I.2.1 k1.1 l1 (fz_run (by decide +kernel) r1) (qz_run (by decide +kernel) r1) f1 rfl (fz_run (by decide +kernel) r2) (qz_run (by decide +kernel) r2) f2 rfl (RI_p R)⟩⟩
    refine ⟨h2, c, s, ?_, I2, by omega, by omega⟩
    refine xV_step (o1 := (836, lc_v i, [.ref 0], h, c, s)) rfl rfl rfl rfl ?_
    refine xV_arg 1 1 rfl (by omega) hL rfl rfl rfl rfl rfl rfl rfl rfl rfl rfl ?_
    refine xV_arg 2 2 rfl (by omega) hL rfl rfl rfl rfl rfl rfl rfl rfl rfl rfl ?_
    refine xV_if true rfl rfl c1 ?_
    refine xV_step (o1 := (856, lc_v i, [.int (Int32.ofInt 0), .int (xs (i + 1)), .ref 0], h, c, s)) rfl rfl rfl rfl ?_
    refine xV_call (d := 49) rfl rfl rfl rfl (xa_c_ok (d := 49) (pc := 856) (lv := lc_v i) (nL := 8) (lc_Iq I) rfl).1 r1 ?_
    refine xV_step (o1 := (860, lc_v i, [], h1, c, s)) rfl rfl rfl rfl ?_
    refine xV_step (o1 := (861, lc_v i, [.ref 39], h1, c, s)) rfl rfl rfl rfl ?_
    refine xV_arg 1 1 rfl (by omega) hL rfl rfl rfl rfl rfl rfl rfl rfl rfl rfl ?_
    refine xV_arg 2 2 rfl (by omega) hL rfl rfl rfl rfl rfl rfl rfl rfl rfl rfl ?_
    refine xV_if true rfl rfl c1 ?_
    refine xV_step (o1 := (881, lc_v i, [.int (Int32.ofInt 0), .int (xs (i + 1)), .ref 39], h1, c, s)) rfl rfl rfl rfl ?_
    refine xV_call (d := 49) rfl rfl rfl rfl (xa_c_ok (d := 49) (pc := 881) (lv := lc_v i) (nL := 8) (hk_q k1 I.2.1) rfl).1 r2 ?_
    refine xV_step (o1 := (885, lc_v i, [], h2, c, s)) rfl rfl rfl rfl ?_
    refine xV_step (o1 := (1000, lc_v i, [], h2, c, s)) rfl rfl rfl rfl ?_
    exact xV_stop
  | false =>
    obtain ⟨v1, h1, r1, k1⟩ := lc_3 (D := 49) (C := aC_m_X9_vote) (m := xmi_X9_vote) (A := [.ref 0, .int (xs (i + 1)), .int (Int32.ofInt 1)]) I.1 I.2.1 as_m_X9_vote rfl (by decide) ⟨a_av (by decide) I.2.1, a_an, a_ai (by decide) (by decide), trivial⟩ rfl
    have l1 : 72 ≤ h1.1.length := hk_n k1 I.2.1
    obtain ⟨v2, h2, r2, k2⟩ := lc_3 (D := 49) (C := aC_m_X10_vote) (m := xmi_X10_vote) (A := [.ref 39, .int (xs (i + 1)), .int (Int32.ofInt 1)]) k1.1 l1 as_m_X10_vote rfl (by decide) ⟨a_av (by decide) l1, a_an, a_ai (by decide) (by decide), trivial⟩ rfl
    obtain ⟨rfl, d1⟩ := xq_Z (hn := (show List.Nodup [0, 1, 2] by decide)) r1 (fun f => vt9_q (f := f) (x := xs (i + 1)) (b := Int32.ofInt 1) (z := nI mem) vc6 e35 e9 (lc_Iq I))
    obtain ⟨rfl, d2⟩ := xq_Z (hn := (show List.Nodup [0, 1, 2] by decide)) r2 (fun f => vt10_q (f := f) (x := xs (i + 1)) (b := Int32.ofInt 1) (z := nI mem) vc6 ((hk_g (c := 39) (k := 63) k1 rfl rfl).trans e63) ((hk_g (c := 39) (k := 4) k1 rfl rfl).trans e4) (hk_q k1 I.2.1))
    have f1 := k1.2.2
    have f2 := k2.2.2
    have a1 := xq_Z (hn := (show List.Nodup [0, 1, 2] by decide)) r1 (fun f => vt9b_q (f := f) (x := xs (i + 1)) (b := Int32.ofInt 1) (z := nI mem) (y := nI td) vc6 e35 e9 e10 (lc_Iq I))
    have a2 := xq_Z (hn := (show List.Nodup [0, 1, 2] by decide)) r2 (fun f => vt10b_q (f := f) (x := xs (i + 1)) (b := Int32.ofInt 1) (z := nI mem) (y := nI td) vc6 ((hk_g (c := 39) (k := 63) k1 rfl rfl).trans e63) ((hk_g (c := 39) (k := 4) k1 rfl rfl).trans e4) ((hk_g (c := 39) (k := 3) k1 rfl rfl).trans e3) (hk_q k1 I.2.1))
    have ch2 : chr_ h2 := fun k hk' => by
      obtain ⟨p1, p2, p3⟩ := a1 k
      obtain ⟨u1, u2, u3⟩ := a2 k
      obtain ⟨w1, w2, w3⟩ := ch k hk'
      rw [hk_g (c := 36) (k := k) k2 rfl rfl, hk_g (c := 37) (k := k) k2 rfl rfl, hk_g (c := 38) (k := k) k2 rfl rfl, p1, p2, p3, u1, u2, u3, hk_g (c := 68) (k := k) k1 rfl rfl, hk_g (c := 69) (k := k) k1 rfl rfl, hk_g (c := 70) (k := k) k1 rfl rfl, w1, w2, w3]
      exact ⟨rfl, rfl, rfl⟩
    have vc2 : rb h2 35 3 39 63 60 := ⟨_, vt_le vc6, (hk_g (c := 35) (k := 3) k2 rfl rfl).trans d1, d2⟩
    have I2 : lc_I h2 := ⟨k2.1, hk_n k2 l1, by rw [k2.2.1, k1.2.1]; exact I.2.2.1, ⟨tp_2 f1 f2 rfl (fun _ => rfl) rfl (fun _ => rfl) rfl (fun _ => rfl) rfl (fun _ => rfl) R.1, rb_2 f1 f2 rfl rfl rfl rfl rfl rfl R.2.1, rb_2 f1 f2 rfl rfl rfl rfl rfl rfl R.2.2.1, rb_2 f1 f2 rfl rfl rfl rfl rfl rfl R.2.2.2.1, vc2, pr_2 f1 f2 rfl rfl rfl rfl rfl rfl R.2.2.2.2.2.1, pr_2 f1 f2 rfl rfl rfl rfl rfl rfl R.2.2.2.2.2.2.1, ch2, pl_2 f1 f2 rfl rfl R.2.2.2.2.2.2.2.2.1, SI_2 I.1 I.2.1 k1.1 l1 (fz_run (by decide +kernel) r1) (fz_run (by decide +kernel) r2) f1 f2 rfl rfl R.2.2.2.2.2.2.2.2.2.1, VZ_v vs m12 e9 e35 vc6 d1 (fun k => (a1 k).1) f1 rfl f2 rfl, PI_2 I.1 I.2.1 k1.1 l1 (fz_run (by decide +kernel) r1) (qz_run (by decide +kernel) r1) f1 rfl (fz_run (by decide +kernel) r2) (qz_run (by decide +kernel) r2) f2 rfl (RI_p R)⟩⟩
    refine ⟨h2, c, s, ?_, I2, by omega, by omega⟩
    refine xV_step (o1 := (836, lc_v i, [.ref 0], h, c, s)) rfl rfl rfl rfl ?_
    refine xV_arg 1 1 rfl (by omega) hL rfl rfl rfl rfl rfl rfl rfl rfl rfl rfl ?_
    refine xV_arg 2 2 rfl (by omega) hL rfl rfl rfl rfl rfl rfl rfl rfl rfl rfl ?_
    refine xV_if false rfl rfl c1 ?_
    refine xV_step (o1 := (852, lc_v i, [.int (Int32.ofInt 1), .int (xs (i + 1)), .ref 0], h, c, s)) rfl rfl rfl rfl ?_
    refine xV_step (o1 := (856, lc_v i, [.int (Int32.ofInt 1), .int (xs (i + 1)), .ref 0], h, c, s)) rfl rfl rfl rfl ?_
    refine xV_call (d := 49) rfl rfl rfl rfl (xa_c_ok (d := 49) (pc := 856) (lv := lc_v i) (nL := 8) (lc_Iq I) rfl).1 r1 ?_
    refine xV_step (o1 := (860, lc_v i, [], h1, c, s)) rfl rfl rfl rfl ?_
    refine xV_step (o1 := (861, lc_v i, [.ref 39], h1, c, s)) rfl rfl rfl rfl ?_
    refine xV_arg 1 1 rfl (by omega) hL rfl rfl rfl rfl rfl rfl rfl rfl rfl rfl ?_
    refine xV_arg 2 2 rfl (by omega) hL rfl rfl rfl rfl rfl rfl rfl rfl rfl rfl ?_
    refine xV_if false rfl rfl c1 ?_
    refine xV_step (o1 := (877, lc_v i, [.int (Int32.ofInt 1), .int (xs (i + 1)), .ref 39], h1, c, s)) rfl rfl rfl rfl ?_
    refine xV_step (o1 := (881, lc_v i, [.int (Int32.ofInt 1), .int (xs (i + 1)), .ref 39], h1, c, s)) rfl rfl rfl rfl ?_
    refine xV_call (d := 49) rfl rfl rfl rfl (xa_c_ok (d := 49) (pc := 881) (lv := lc_v i) (nL := 8) (hk_q k1 I.2.1) rfl).1 r2 ?_
    refine xV_step (o1 := (885, lc_v i, [], h2, c, s)) rfl rfl rfl rfl ?_
    refine xV_step (o1 := (1000, lc_v i, [], h2, c, s)) rfl rfl rfl rfl ?_
    exact xV_stop
set_option maxRecDepth 100000 in
set_option maxHeartbeats 4000000 in
/-- leads -/
theorem lo_20 (hL : L ≤ 3072) (hi6 : i + 6 ≤ L) (I : lc_I h) : lo_P L xs i 744 h c s := by
  obtain ⟨⟨t, tp⟩, ⟨mem, m12, e9, e4⟩, ⟨sc, sc8, e8, e33⟩, ⟨td, td9, e10, e3⟩, ⟨vc, vc6, e35, e63⟩, e1, e11, ch, pl, si, vs, pi⟩ := I.2.2.2
  have R := I.2.2.2
  cases c1 : xe_c .eq (xs (i + 1)) 0 with
  | true =>
    have hc : ct h (tpT h) t := ⟨tp.1, tp.2.2.1, fun k _ => (tpe_T tp).1 k⟩
    obtain ⟨v1, h1, r1, ⟨k1, -⟩, z1⟩ := l9_run2 (d := 46) (f := (Int32.ofInt 0)) I.2.1 I.1
    have l1 : 72 ≤ h1.1.length := hk_n k1 I.2.1
    obtain ⟨v2, h2, r2, ⟨k2, -⟩, z2⟩ := l10_run2 (d := 46) (f := (Int32.ofInt 0)) l1 k1.1
    have sr := SI_r si e9 m12 e8 sc8
    obtain rfl := xq_Z (hn := (show List.Nodup [0, 1] by decide)) r1 (fun f => ld9_q (f := f) (b := (Int32.ofInt 0)) (PL := fun k => xg 0 h.2.1 30 k) (d := nI td) hc I.1 e9 m12 e8 sc8 e10 si (fun _ _ => rfl) (lc_Iq I))
    obtain rfl := xq_Z (hn := (show List.Nodup [0, 1] by decide)) r2 (fun f => ld10_q (f := f) (n := t) (T := tpT h) (b := (Int32.ofInt 0)) (PL := fun k => xg 0 h.2.1 30 k) (d := nI td) (FR := fun k => xg 0 h.2.1 51 k) (RW := fun k => xg 0 h.2.1 44 k) tp.2.2.1 ((hk_g (c := 39) (k := 2) k1 rfl rfl).trans tp.2.1) (fun k hk' => ⟨((tpe_T tp).2 k hk').1, (hk_g (c := 40) (k := k) k1 rfl rfl).trans ((tpe_T tp).2 k hk').2⟩) m12 ((hk_g (c := 39) (k := 4) k1 rfl rfl).trans e4) ((hk_g (c := 39) (k := 33) k1 rfl rfl).trans e33) sc8 ((hk_g (c := 39) (k := 3) k1 rfl rfl).trans e3) (fun k _ => hk_g (c := 51) (k := k) k1 rfl rfl) (fun k hk' => by rw [hk_g (c := 52) (k := k) k1 rfl rfl]; exact sr.1 k hk') (fun k s hk' hs => by obtain ⟨b, e⟩ := sr.2.1 k s hk' hs; exact ⟨b, e, (hk_g (c := 44) (k := 4096 * k + s) k1 rfl rfl).trans e⟩) (fun k hk' => (hk_g (c := 62) (k := k) k1 rfl rfl).trans (pl k hk').symm) (hk_q k1 I.2.1))
    have f1 := k1.2.2
    have f2 := k2.2.2
    have I2 : lc_I h2 := ⟨k2.1, hk_n k2 l1, by rw [k2.2.1, k1.2.1]; exact I.2.2.1, ⟨⟨0, (hk_g (c := 1) (k := 1) k2 rfl rfl).trans z1, z2, by decide, fun k hk' => absurd hk' (Nat.not_lt_zero k)⟩, rb_2 f1 f2 rfl rfl rfl rfl rfl rfl R.2.1, rb_2 f1 f2 rfl rfl rfl rfl rfl rfl R.2.2.1, rb_2 f1 f2 rfl rfl rfl rfl rfl rfl R.2.2.2.1, rb_2 f1 f2 rfl rfl rfl rfl rfl rfl R.2.2.2.2.1, pr_2 f1 f2 rfl rfl rfl rfl rfl rfl R.2.2.2.2.2.1, pr_2 f1 f2 rfl rfl rfl rfl rfl rfl R.2.2.2.2.2.2.1, ch_2 f1 f2 rfl rfl R.2.2.2.2.2.2.2.1, pl_2 f1 f2 rfl rfl R.2.2.2.2.2.2.2.2.1, SI_2 I.1 I.2.1 k1.1 l1 (fz_run (by decide +kernel) r1) (fz_run (by decide +kernel) r2) f1 f2 rfl rfl R.2.2.2.2.2.2.2.2.2.1, VZ_2 f1 f2 rfl rfl R.2.2.2.2.2.2.2.2.2.2.1, PI_2 I.1 I.2.1 k1.1 l1 (fz_run (by decide +kernel) r1) (qz_run (by decide +kernel) r1) f1 rfl (fz_run (by decide +kernel) r2) (qz_run (by decide +kernel) r2) f2 rfl (RI_p R)⟩⟩
    refine ⟨h2, c, s, ?_, I2, by omega, by omega⟩
    refine xV_step (o1 := (745, lc_v i, [.ref 0], h, c, s)) rfl rfl rfl rfl ?_
    refine xV_arg 1 1 rfl (by omega) hL rfl rfl rfl rfl rfl rfl rfl rfl rfl rfl ?_
    refine xV_if true rfl rfl c1 ?_
    refine xV_step (o1 := (759, lc_v i, [.int (Int32.ofInt 0), .ref 0], h, c, s)) rfl rfl rfl rfl ?_
    refine xV_call (d := 49) rfl rfl rfl rfl (xa_c_ok (d := 49) (pc := 759) (lv := lc_v i) (nL := 8) (lc_Iq I) rfl).1 r1 ?_
    refine xV_step (o1 := (763, lc_v i, [], h1, c, s)) rfl rfl rfl rfl ?_
    refine xV_step (o1 := (764, lc_v i, [.ref 39], h1, c, s)) rfl rfl rfl rfl ?_
    refine xV_arg 1 1 rfl (by omega) hL rfl rfl rfl rfl rfl rfl rfl rfl rfl rfl ?_
    refine xV_if true rfl rfl c1 ?_
    refine xV_step (o1 := (778, lc_v i, [.int (Int32.ofInt 0), .ref 39], h1, c, s)) rfl rfl rfl rfl ?_
    refine xV_call (d := 49) rfl rfl rfl rfl (xa_c_ok (d := 49) (pc := 778) (lv := lc_v i) (nL := 8) (hk_q k1 I.2.1) rfl).1 r2 ?_
    refine xV_step (o1 := (782, lc_v i, [], h2, c, s)) rfl rfl rfl rfl ?_
    refine xV_step (o1 := (1000, lc_v i, [], h2, c, s)) rfl rfl rfl rfl ?_
    exact xV_stop
  | false =>
    have hc : ct h (tpT h) t := ⟨tp.1, tp.2.2.1, fun k _ => (tpe_T tp).1 k⟩
    obtain ⟨v1, h1, r1, ⟨k1, -⟩, z1⟩ := l9_run2 (d := 46) (f := (Int32.ofInt 1)) I.2.1 I.1
    have l1 : 72 ≤ h1.1.length := hk_n k1 I.2.1
    obtain ⟨v2, h2, r2, ⟨k2, -⟩, z2⟩ := l10_run2 (d := 46) (f := (Int32.ofInt 1)) l1 k1.1
    have sr := SI_r si e9 m12 e8 sc8
    obtain rfl := xq_Z (hn := (show List.Nodup [0, 1] by decide)) r1 (fun f => ld9_q (f := f) (b := (Int32.ofInt 1)) (PL := fun k => xg 0 h.2.1 30 k) (d := nI td) hc I.1 e9 m12 e8 sc8 e10 si (fun _ _ => rfl) (lc_Iq I))
    obtain rfl := xq_Z (hn := (show List.Nodup [0, 1] by decide)) r2 (fun f => ld10_q (f := f) (n := t) (T := tpT h) (b := (Int32.ofInt 1)) (PL := fun k => xg 0 h.2.1 30 k) (d := nI td) (FR := fun k => xg 0 h.2.1 51 k) (RW := fun k => xg 0 h.2.1 44 k) tp.2.2.1 ((hk_g (c := 39) (k := 2) k1 rfl rfl).trans tp.2.1) (fun k hk' => ⟨((tpe_T tp).2 k hk').1, (hk_g (c := 40) (k := k) k1 rfl rfl).trans ((tpe_T tp).2 k hk').2⟩) m12 ((hk_g (c := 39) (k := 4) k1 rfl rfl).trans e4) ((hk_g (c := 39) (k := 33) k1 rfl rfl).trans e33) sc8 ((hk_g (c := 39) (k := 3) k1 rfl rfl).trans e3) (fun k _ => hk_g (c := 51) (k := k) k1 rfl rfl) (fun k hk' => by rw [hk_g (c := 52) (k := k) k1 rfl rfl]; exact sr.1 k hk') (fun k s hk' hs => by obtain ⟨b, e⟩ := sr.2.1 k s hk' hs; exact ⟨b, e, (hk_g (c := 44) (k := 4096 * k + s) k1 rfl rfl).trans e⟩) (fun k hk' => (hk_g (c := 62) (k := k) k1 rfl rfl).trans (pl k hk').symm) (hk_q k1 I.2.1))
    have f1 := k1.2.2
    have f2 := k2.2.2
    have I2 : lc_I h2 := ⟨k2.1, hk_n k2 l1, by rw [k2.2.1, k1.2.1]; exact I.2.2.1, ⟨⟨0, (hk_g (c := 1) (k := 1) k2 rfl rfl).trans z1, z2, by decide, fun k hk' => absurd hk' (Nat.not_lt_zero k)⟩, rb_2 f1 f2 rfl rfl rfl rfl rfl rfl R.2.1, rb_2 f1 f2 rfl rfl rfl rfl rfl rfl R.2.2.1, rb_2 f1 f2 rfl rfl rfl rfl rfl rfl R.2.2.2.1, rb_2 f1 f2 rfl rfl rfl rfl rfl rfl R.2.2.2.2.1, pr_2 f1 f2 rfl rfl rfl rfl rfl rfl R.2.2.2.2.2.1, pr_2 f1 f2 rfl rfl rfl rfl rfl rfl R.2.2.2.2.2.2.1, ch_2 f1 f2 rfl rfl R.2.2.2.2.2.2.2.1, pl_2 f1 f2 rfl rfl R.2.2.2.2.2.2.2.2.1, SI_2 I.1 I.2.1 k1.1 l1 (fz_run (by decide +kernel) r1) (fz_run (by decide +kernel) r2) f1 f2 rfl rfl R.2.2.2.2.2.2.2.2.2.1, VZ_2 f1 f2 rfl rfl R.2.2.2.2.2.2.2.2.2.2.1, PI_2 I.1 I.2.1 k1.1 l1 (fz_run (by decide +kernel) r1) (qz_run (by decide +kernel) r1) f1 rfl (fz_run (by decide +kernel) r2) (qz_run (by decide +kernel) r2) f2 rfl (RI_p R)⟩⟩
    refine ⟨h2, c, s, ?_, I2, by omega, by omega⟩
    refine xV_step (o1 := (745, lc_v i, [.ref 0], h, c, s)) rfl rfl rfl rfl ?_
    refine xV_arg 1 1 rfl (by omega) hL rfl rfl rfl rfl rfl rfl rfl rfl rfl rfl ?_
    refine xV_if false rfl rfl c1 ?_
    refine xV_step (o1 := (755, lc_v i, [.int (Int32.ofInt 1), .ref 0], h, c, s)) rfl rfl rfl rfl ?_
    refine xV_step (o1 := (759, lc_v i, [.int (Int32.ofInt 1), .ref 0], h, c, s)) rfl rfl rfl rfl ?_
    refine xV_call (d := 49) rfl rfl rfl rfl (xa_c_ok (d := 49) (pc := 759) (lv := lc_v i) (nL := 8) (lc_Iq I) rfl).1 r1 ?_
    refine xV_step (o1 := (763, lc_v i, [], h1, c, s)) rfl rfl rfl rfl ?_
    refine xV_step (o1 := (764, lc_v i, [.ref 39], h1, c, s)) rfl rfl rfl rfl ?_
    refine xV_arg 1 1 rfl (by omega) hL rfl rfl rfl rfl rfl rfl rfl rfl rfl rfl ?_
    refine xV_if false rfl rfl c1 ?_
    refine xV_step (o1 := (774, lc_v i, [.int (Int32.ofInt 1), .ref 39], h1, c, s)) rfl rfl rfl rfl ?_
    refine xV_step (o1 := (778, lc_v i, [.int (Int32.ofInt 1), .ref 39], h1, c, s)) rfl rfl rfl rfl ?_
    refine xV_call (d := 49) rfl rfl rfl rfl (xa_c_ok (d := 49) (pc := 778) (lv := lc_v i) (nL := 8) (hk_q k1 I.2.1) rfl).1 r2 ?_
    refine xV_step (o1 := (782, lc_v i, [], h2, c, s)) rfl rfl rfl rfl ?_
    refine xV_step (o1 := (1000, lc_v i, [], h2, c, s)) rfl rfl rfl rfl ?_
    exact xV_stop
set_option maxRecDepth 100000 in
set_option maxHeartbeats 4000000 in
/-- carries -/
theorem lo_6 (hL : L ≤ 3072) (hi6 : i + 6 ≤ L) (I : lc_I h) : lo_P L xs i 354 h c s := by
  obtain ⟨⟨t, tp⟩, ⟨mem, m12, e9, e4⟩, ⟨sc, sc8, e8, e33⟩, ⟨td, td9, e10, e3⟩, ⟨vc, vc6, e35, e63⟩, e1, e11, ch, pl, si, vs, pi⟩ := I.2.2.2
  have R := I.2.2.2
  obtain ⟨v1, h1, r1, k1⟩ := lc_3 (D := 49) (C := aC_m_X9_carries) (m := xmi_X9_carries) (A := [.ref 0, .int (xs (i + 1)), .int (xs (i + 2))]) I.1 I.2.1 as_m_X9_carries rfl (by decide) ⟨a_av (by decide) I.2.1, a_an, a_an, trivial⟩ rfl
  have l1 : 72 ≤ h1.1.length := hk_n k1 I.2.1
  obtain ⟨v2, h2, r2, k2⟩ := lc_3 (D := 49) (C := aC_m_X10_carries) (m := xmi_X10_carries) (A := [.ref 39, .int (xs (i + 1)), .int (xs (i + 2))]) k1.1 l1 as_m_X10_carries rfl (by decide) ⟨a_av (by decide) l1, a_an, a_an, trivial⟩ rfl
  have sr := SI_r si e9 m12 e8 sc8
  obtain rfl := xq_Z (hn := (show List.Nodup [0, 1, 2] by decide)) r1 (fun f => ca9_q (f := f) (x := xs (i + 1)) (d := xs (i + 2)) I.1 e9 m12 e8 sc8 si (lc_Iq I))
  obtain rfl := xq_Z (hn := (show List.Nodup [0, 1, 2] by decide)) r2 (fun f => ca10_q (f := f) (x := xs (i + 1)) (d := xs (i + 2)) (FR := fun k => xg 0 h.2.1 51 k) (RW := fun k => xg 0 h.2.1 44 k) ((hk_g (c := 39) (k := 4) k1 rfl rfl).trans e4) m12 ((hk_g (c := 39) (k := 33) k1 rfl rfl).trans e33) sc8 (fun k _ => hk_g (c := 51) (k := k) k1 rfl rfl) (fun k hk' => by rw [hk_g (c := 52) (k := k) k1 rfl rfl]; exact sr.1 k hk') (fun k s hk' hs => by obtain ⟨b, e⟩ := sr.2.1 k s hk' hs; exact ⟨b, e, (hk_g (c := 44) (k := 4096 * k + s) k1 rfl rfl).trans e⟩) (hk_q k1 I.2.1))
  have f1 := k1.2.2
  have f2 := k2.2.2
  have I2 : lc_I h2 := ⟨k2.1, hk_n k2 l1, by rw [k2.2.1, k1.2.1]; exact I.2.2.1, ⟨tp_2 f1 f2 rfl (fun _ => rfl) rfl (fun _ => rfl) rfl (fun _ => rfl) rfl (fun _ => rfl) R.1, rb_2 f1 f2 rfl rfl rfl rfl rfl rfl R.2.1, rb_2 f1 f2 rfl rfl rfl rfl rfl rfl R.2.2.1, rb_2 f1 f2 rfl rfl rfl rfl rfl rfl R.2.2.2.1, rb_2 f1 f2 rfl rfl rfl rfl rfl rfl R.2.2.2.2.1, pr_2 f1 f2 rfl rfl rfl rfl rfl rfl R.2.2.2.2.2.1, pr_2 f1 f2 rfl rfl rfl rfl rfl rfl R.2.2.2.2.2.2.1, ch_2 f1 f2 rfl rfl R.2.2.2.2.2.2.2.1, pl_2 f1 f2 rfl rfl R.2.2.2.2.2.2.2.2.1, SI_2 I.1 I.2.1 k1.1 l1 (fz_run (by decide +kernel) r1) (fz_run (by decide +kernel) r2) f1 f2 rfl rfl R.2.2.2.2.2.2.2.2.2.1, VZ_2 f1 f2 rfl rfl R.2.2.2.2.2.2.2.2.2.2.1, PI_2 I.1 I.2.1 k1.1 l1 (fz_run (by decide +kernel) r1) (qz_run (by decide +kernel) r1) f1 rfl (fz_run (by decide +kernel) r2) (qz_run (by decide +kernel) r2) f2 rfl (RI_p R)⟩⟩
  refine ⟨h2, c, s, ?_, I2, by omega, by omega⟩
  refine xV_step (o1 := (355, lc_v i, [.ref 0], h, c, s)) rfl rfl rfl rfl ?_
  refine xV_arg 1 1 rfl (by omega) hL rfl rfl rfl rfl rfl rfl rfl rfl rfl rfl ?_
  refine xV_arg 2 2 rfl (by omega) hL rfl rfl rfl rfl rfl rfl rfl rfl rfl rfl ?_
  refine xV_call (d := 49) rfl rfl rfl rfl (xa_c_ok (d := 49) (pc := 367) (lv := lc_v i) (nL := 8) (lc_Iq I) rfl).1 r1 ?_
  refine xV_step (o1 := (371, lc_v i, [], h1, c, s)) rfl rfl rfl rfl ?_
  refine xV_step (o1 := (372, lc_v i, [.ref 39], h1, c, s)) rfl rfl rfl rfl ?_
  refine xV_arg 1 1 rfl (by omega) hL rfl rfl rfl rfl rfl rfl rfl rfl rfl rfl ?_
  refine xV_arg 2 2 rfl (by omega) hL rfl rfl rfl rfl rfl rfl rfl rfl rfl rfl ?_
  refine xV_call (d := 49) rfl rfl rfl rfl (xa_c_ok (d := 49) (pc := 384) (lv := lc_v i) (nL := 8) (hk_q k1 I.2.1) rfl).1 r2 ?_
  refine xV_step (o1 := (388, lc_v i, [], h2, c, s)) rfl rfl rfl rfl ?_
  refine xV_step (o1 := (1000, lc_v i, [], h2, c, s)) rfl rfl rfl rfl ?_
  exact xV_stop
set_option maxRecDepth 100000 in
set_option maxHeartbeats 4000000 in
/-- unfit -/
theorem lo_24 (hL : L ≤ 3072) (hi6 : i + 6 ≤ L) (I : lc_I h) : lo_P L xs i 888 h c s := by
  obtain ⟨⟨t, tp⟩, ⟨mem, m12, e9, e4⟩, ⟨sc, sc8, e8, e33⟩, ⟨td, td9, e10, e3⟩, ⟨vc, vc6, e35, e63⟩, e1, e11, ch, pl, si, vs, pi⟩ := I.2.2.2
  have R := I.2.2.2
  obtain ⟨v1, h1, r1, k1⟩ := lc_3 (D := 49) (C := aC_m_X9_unfit) (m := xmi_X9_unfit) (A := [.ref 0, .int (xs (i + 1))]) I.1 I.2.1 as_m_X9_unfit rfl (by decide) ⟨a_av (by decide) I.2.1, a_an, trivial⟩ rfl
  have l1 : 72 ≤ h1.1.length := hk_n k1 I.2.1
  obtain ⟨v2, h2, r2, k2⟩ := lc_3 (D := 49) (C := aC_m_X10_unfit) (m := xmi_X10_unfit) (A := [.ref 39, .int (xs (i + 1))]) k1.1 l1 as_m_X10_unfit rfl (by decide) ⟨a_av (by decide) l1, a_an, trivial⟩ rfl
  have sr := SI_r si e9 m12 e8 sc8
  obtain rfl := xq_Z (hn := (show List.Nodup [0, 1] by decide)) r1 (fun f => uf9_q (f := f) (S := fun k => xg 0 h.2.1 36 k) (D := fun k => xg 0 h.2.1 37 k) (P := fun k => xg 0 h.2.1 38 k) (t := xs (i + 1)) I.1 e9 m12 e8 sc8 si vc6 e35 (fun _ _ => ⟨rfl, rfl, rfl⟩) (vs mem vc e9 m12 e35 vc6) (lc_Iq I))
  obtain rfl := xq_Z (hn := (show List.Nodup [0, 1] by decide)) r2 (fun f => uf10_q (f := f) (S := fun k => xg 0 h.2.1 36 k) (D := fun k => xg 0 h.2.1 37 k) (P := fun k => xg 0 h.2.1 38 k) (t := xs (i + 1)) (FR := fun k => xg 0 h.2.1 51 k) (TD := fun k => xg 0 h.2.1 52 k) (RW := fun k => xg 0 h.2.1 44 k) ((hk_g (c := 39) (k := 4) k1 rfl rfl).trans e4) m12 ((hk_g (c := 39) (k := 33) k1 rfl rfl).trans e33) sc8 (fun k _ => hk_g (c := 51) (k := k) k1 rfl rfl) (fun k hk' => ⟨hk_g (c := 52) (k := k) k1 rfl rfl, sr.2.2 k hk'⟩) (fun k s hk' hs => by obtain ⟨b, e⟩ := sr.2.1 k s hk' hs; exact ⟨b, e, (hk_g (c := 44) (k := 4096 * k + s) k1 rfl rfl).trans e⟩) vc6 ((hk_g (c := 39) (k := 63) k1 rfl rfl).trans e63) (fun k hk' => by obtain ⟨w1, w2, w3⟩ := ch k (by omega); exact ⟨(hk_g (c := 68) (k := k) k1 rfl rfl).trans w1.symm, (hk_g (c := 69) (k := k) k1 rfl rfl).trans w2.symm, (hk_g (c := 70) (k := k) k1 rfl rfl).trans w3.symm⟩) (vs mem vc e9 m12 e35 vc6) (hk_q k1 I.2.1))
  have f1 := k1.2.2
  have f2 := k2.2.2
  have I2 : lc_I h2 := ⟨k2.1, hk_n k2 l1, by rw [k2.2.1, k1.2.1]; exact I.2.2.1, ⟨tp_2 f1 f2 rfl (fun _ => rfl) rfl (fun _ => rfl) rfl (fun _ => rfl) rfl (fun _ => rfl) R.1, rb_2 f1 f2 rfl rfl rfl rfl rfl rfl R.2.1, rb_2 f1 f2 rfl rfl rfl rfl rfl rfl R.2.2.1, rb_2 f1 f2 rfl rfl rfl rfl rfl rfl R.2.2.2.1, rb_2 f1 f2 rfl rfl rfl rfl rfl rfl R.2.2.2.2.1, pr_2 f1 f2 rfl rfl rfl rfl rfl rfl R.2.2.2.2.2.1, pr_2 f1 f2 rfl rfl rfl rfl rfl rfl R.2.2.2.2.2.2.1, ch_2 f1 f2 rfl rfl R.2.2.2.2.2.2.2.1, pl_2 f1 f2 rfl rfl R.2.2.2.2.2.2.2.2.1, SI_2 I.1 I.2.1 k1.1 l1 (fz_run (by decide +kernel) r1) (fz_run (by decide +kernel) r2) f1 f2 rfl rfl R.2.2.2.2.2.2.2.2.2.1, VZ_2 f1 f2 rfl rfl R.2.2.2.2.2.2.2.2.2.2.1, PI_2 I.1 I.2.1 k1.1 l1 (fz_run (by decide +kernel) r1) (qz_run (by decide +kernel) r1) f1 rfl (fz_run (by decide +kernel) r2) (qz_run (by decide +kernel) r2) f2 rfl (RI_p R)⟩⟩
  refine ⟨h2, c, s, ?_, I2, by omega, by omega⟩
  refine xV_step (o1 := (889, lc_v i, [.ref 0], h, c, s)) rfl rfl rfl rfl ?_
  refine xV_arg 1 1 rfl (by omega) hL rfl rfl rfl rfl rfl rfl rfl rfl rfl rfl ?_
  refine xV_call (d := 49) rfl rfl rfl rfl (xa_c_ok (d := 49) (pc := 895) (lv := lc_v i) (nL := 8) (lc_Iq I) rfl).1 r1 ?_
  refine xV_step (o1 := (899, lc_v i, [], h1, c, s)) rfl rfl rfl rfl ?_
  refine xV_step (o1 := (900, lc_v i, [.ref 39], h1, c, s)) rfl rfl rfl rfl ?_
  refine xV_arg 1 1 rfl (by omega) hL rfl rfl rfl rfl rfl rfl rfl rfl rfl rfl ?_
  refine xV_call (d := 49) rfl rfl rfl rfl (xa_c_ok (d := 49) (pc := 906) (lv := lc_v i) (nL := 8) (hk_q k1 I.2.1) rfl).1 r2 ?_
  refine xV_step (o1 := (910, lc_v i, [], h2, c, s)) rfl rfl rfl rfl ?_
  refine xV_step (o1 := (1000, lc_v i, [], h2, c, s)) rfl rfl rfl rfl ?_
  exact xV_stop
set_option maxRecDepth 100000 in
set_option maxHeartbeats 4000000 in
/-- beats -/
theorem lo_17 (hL : L ≤ 3072) (hi6 : i + 6 ≤ L) (I : lc_I h) : lo_P L xs i 681 h c s := by
  obtain ⟨⟨t, tp⟩, ⟨mem, m12, e9, e4⟩, ⟨sc, sc8, e8, e33⟩, ⟨td, td9, e10, e3⟩, ⟨vc, vc6, e35, e63⟩, e1, e11, ch, pl, si, vs, pi⟩ := I.2.2.2
  have R := I.2.2.2
  obtain ⟨v1, h1, r1, k1⟩ := lc_3 (D := 49) (C := aC_m_X9_beats) (m := xmi_X9_beats) (A := [.ref 0, .int (xs (i + 1)), .int (xs (i + 2))]) I.1 I.2.1 as_m_X9_beats rfl (by decide) ⟨a_av (by decide) I.2.1, a_an, a_an, trivial⟩ rfl
  have l1 : 72 ≤ h1.1.length := hk_n k1 I.2.1
  obtain ⟨v2, h2, r2, k2⟩ := lc_3 (D := 49) (C := aC_m_X10_beats) (m := xmi_X10_beats) (A := [.ref 39, .int (xs (i + 1)), .int (xs (i + 2))]) k1.1 l1 as_m_X10_beats rfl (by decide) ⟨a_av (by decide) l1, a_an, a_an, trivial⟩ rfl
  have sr := SI_r si e9 m12 e8 sc8
  obtain rfl := xq_Z (hn := (show List.Nodup [0, 1, 2] by decide)) r1 (fun f => be9_q (f := f) (x := xs (i + 1)) (y := xs (i + 2)) (PL := fun k => xg 0 h.2.1 30 k) (d := nI td) I.1 e9 m12 e8 sc8 e10 si (fun _ _ => rfl) (lc_Iq I))
  obtain rfl := xq_Z (hn := (show List.Nodup [0, 1, 2] by decide)) r2 (fun f => be10_q (f := f) (x := xs (i + 1)) (y := xs (i + 2)) (PL := fun k => xg 0 h.2.1 30 k) (d := nI td) (FR := fun k => xg 0 h.2.1 51 k) (RW := fun k => xg 0 h.2.1 44 k) m12 ((hk_g (c := 39) (k := 4) k1 rfl rfl).trans e4) ((hk_g (c := 39) (k := 33) k1 rfl rfl).trans e33) sc8 ((hk_g (c := 39) (k := 3) k1 rfl rfl).trans e3) (fun k _ => hk_g (c := 51) (k := k) k1 rfl rfl) (fun k hk' => by rw [hk_g (c := 52) (k := k) k1 rfl rfl]; exact sr.1 k hk') (fun k s hk' hs => by obtain ⟨b, e⟩ := sr.2.1 k s hk' hs; exact ⟨b, e, (hk_g (c := 44) (k := 4096 * k + s) k1 rfl rfl).trans e⟩) (fun k hk' => (hk_g (c := 62) (k := k) k1 rfl rfl).trans (pl k hk').symm) (hk_q k1 I.2.1))
  have f1 := k1.2.2
  have f2 := k2.2.2
  have I2 : lc_I h2 := ⟨k2.1, hk_n k2 l1, by rw [k2.2.1, k1.2.1]; exact I.2.2.1, ⟨tp_2 f1 f2 rfl (fun _ => rfl) rfl (fun _ => rfl) rfl (fun _ => rfl) rfl (fun _ => rfl) R.1, rb_2 f1 f2 rfl rfl rfl rfl rfl rfl R.2.1, rb_2 f1 f2 rfl rfl rfl rfl rfl rfl R.2.2.1, rb_2 f1 f2 rfl rfl rfl rfl rfl rfl R.2.2.2.1, rb_2 f1 f2 rfl rfl rfl rfl rfl rfl R.2.2.2.2.1, pr_2 f1 f2 rfl rfl rfl rfl rfl rfl R.2.2.2.2.2.1, pr_2 f1 f2 rfl rfl rfl rfl rfl rfl R.2.2.2.2.2.2.1, ch_2 f1 f2 rfl rfl R.2.2.2.2.2.2.2.1, pl_2 f1 f2 rfl rfl R.2.2.2.2.2.2.2.2.1, SI_2 I.1 I.2.1 k1.1 l1 (fz_run (by decide +kernel) r1) (fz_run (by decide +kernel) r2) f1 f2 rfl rfl R.2.2.2.2.2.2.2.2.2.1, VZ_2 f1 f2 rfl rfl R.2.2.2.2.2.2.2.2.2.2.1, PI_2 I.1 I.2.1 k1.1 l1 (fz_run (by decide +kernel) r1) (qz_run (by decide +kernel) r1) f1 rfl (fz_run (by decide +kernel) r2) (qz_run (by decide +kernel) r2) f2 rfl (RI_p R)⟩⟩
  refine ⟨h2, c, s, ?_, I2, by omega, by omega⟩
  refine xV_step (o1 := (682, lc_v i, [.ref 0], h, c, s)) rfl rfl rfl rfl ?_
  refine xV_arg 1 1 rfl (by omega) hL rfl rfl rfl rfl rfl rfl rfl rfl rfl rfl ?_
  refine xV_arg 2 2 rfl (by omega) hL rfl rfl rfl rfl rfl rfl rfl rfl rfl rfl ?_
  refine xV_call (d := 49) rfl rfl rfl rfl (xa_c_ok (d := 49) (pc := 694) (lv := lc_v i) (nL := 8) (lc_Iq I) rfl).1 r1 ?_
  refine xV_step (o1 := (698, lc_v i, [], h1, c, s)) rfl rfl rfl rfl ?_
  refine xV_step (o1 := (699, lc_v i, [.ref 39], h1, c, s)) rfl rfl rfl rfl ?_
  refine xV_arg 1 1 rfl (by omega) hL rfl rfl rfl rfl rfl rfl rfl rfl rfl rfl ?_
  refine xV_arg 2 2 rfl (by omega) hL rfl rfl rfl rfl rfl rfl rfl rfl rfl rfl ?_
  refine xV_call (d := 49) rfl rfl rfl rfl (xa_c_ok (d := 49) (pc := 711) (lv := lc_v i) (nL := 8) (hk_q k1 I.2.1) rfl).1 r2 ?_
  refine xV_step (o1 := (715, lc_v i, [], h2, c, s)) rfl rfl rfl rfl ?_
  refine xV_step (o1 := (1000, lc_v i, [], h2, c, s)) rfl rfl rfl rfl ?_
  exact xV_stop
set_option maxRecDepth 100000 in
set_option maxHeartbeats 4000000 in
/-- free -/
theorem lo_18 (hL : L ≤ 3072) (hi6 : i + 6 ≤ L) (I : lc_I h) : lo_P L xs i 718 h c s := by
  obtain ⟨⟨t, tp⟩, ⟨mem, m12, e9, e4⟩, ⟨sc, sc8, e8, e33⟩, ⟨td, td9, e10, e3⟩, ⟨vc, vc6, e35, e63⟩, e1, e11, ch, pl, si, vs, pi⟩ := I.2.2.2
  have R := I.2.2.2
  obtain ⟨v1, h1, r1, k1⟩ := lc_3 (D := 49) (C := aC_m_X9_free) (m := xmi_X9_free) (A := [.ref 0]) I.1 I.2.1 as_m_X9_free rfl (by decide) ⟨a_av (by decide) I.2.1, trivial⟩ rfl
  have l1 : 72 ≤ h1.1.length := hk_n k1 I.2.1
  obtain ⟨v2, h2, r2, k2⟩ := lc_3 (D := 49) (C := aC_m_X10_free) (m := xmi_X10_free) (A := [.ref 39]) k1.1 l1 as_m_X10_free rfl (by decide) ⟨a_av (by decide) l1, trivial⟩ rfl
  have sr := SI_r si e9 m12 e8 sc8
  obtain rfl := xq_Z (hn := (show List.Nodup [0] by decide)) r1 (fun f => fr9_q (f := f) (PL := fun k => xg 0 h.2.1 30 k) (d := nI td) I.1 e9 m12 e8 sc8 e10 si (fun _ _ => rfl) (lc_Iq I))
  obtain rfl := xq_Z (hn := (show List.Nodup [0] by decide)) r2 (fun f => fr10_q (f := f) (PL := fun k => xg 0 h.2.1 30 k) (d := nI td) (FR := fun k => xg 0 h.2.1 51 k) (RW := fun k => xg 0 h.2.1 44 k) m12 ((hk_g (c := 39) (k := 4) k1 rfl rfl).trans e4) ((hk_g (c := 39) (k := 33) k1 rfl rfl).trans e33) sc8 ((hk_g (c := 39) (k := 3) k1 rfl rfl).trans e3) (fun k _ => hk_g (c := 51) (k := k) k1 rfl rfl) (fun k hk' => by rw [hk_g (c := 52) (k := k) k1 rfl rfl]; exact sr.1 k hk') (fun k s hk' hs => by obtain ⟨b, e⟩ := sr.2.1 k s hk' hs; exact ⟨b, e, (hk_g (c := 44) (k := 4096 * k + s) k1 rfl rfl).trans e⟩) (fun k hk' => (hk_g (c := 62) (k := k) k1 rfl rfl).trans (pl k hk').symm) (hk_q k1 I.2.1))
  have f1 := k1.2.2
  have f2 := k2.2.2
  have I2 : lc_I h2 := ⟨k2.1, hk_n k2 l1, by rw [k2.2.1, k1.2.1]; exact I.2.2.1, ⟨tp_2 f1 f2 rfl (fun _ => rfl) rfl (fun _ => rfl) rfl (fun _ => rfl) rfl (fun _ => rfl) R.1, rb_2 f1 f2 rfl rfl rfl rfl rfl rfl R.2.1, rb_2 f1 f2 rfl rfl rfl rfl rfl rfl R.2.2.1, rb_2 f1 f2 rfl rfl rfl rfl rfl rfl R.2.2.2.1, rb_2 f1 f2 rfl rfl rfl rfl rfl rfl R.2.2.2.2.1, pr_2 f1 f2 rfl rfl rfl rfl rfl rfl R.2.2.2.2.2.1, pr_2 f1 f2 rfl rfl rfl rfl rfl rfl R.2.2.2.2.2.2.1, ch_2 f1 f2 rfl rfl R.2.2.2.2.2.2.2.1, pl_2 f1 f2 rfl rfl R.2.2.2.2.2.2.2.2.1, SI_2 I.1 I.2.1 k1.1 l1 (fz_run (by decide +kernel) r1) (fz_run (by decide +kernel) r2) f1 f2 rfl rfl R.2.2.2.2.2.2.2.2.2.1, VZ_2 f1 f2 rfl rfl R.2.2.2.2.2.2.2.2.2.2.1, PI_2 I.1 I.2.1 k1.1 l1 (fz_run (by decide +kernel) r1) (qz_run (by decide +kernel) r1) f1 rfl (fz_run (by decide +kernel) r2) (qz_run (by decide +kernel) r2) f2 rfl (RI_p R)⟩⟩
  refine ⟨h2, c, s, ?_, I2, by omega, by omega⟩
  refine xV_step (o1 := (719, lc_v i, [.ref 0], h, c, s)) rfl rfl rfl rfl ?_
  refine xV_call (d := 49) rfl rfl rfl rfl (xa_c_ok (d := 49) (pc := 719) (lv := lc_v i) (nL := 8) (lc_Iq I) rfl).1 r1 ?_
  refine xV_step (o1 := (723, lc_v i, [], h1, c, s)) rfl rfl rfl rfl ?_
  refine xV_step (o1 := (724, lc_v i, [.ref 39], h1, c, s)) rfl rfl rfl rfl ?_
  refine xV_call (d := 49) rfl rfl rfl rfl (xa_c_ok (d := 49) (pc := 724) (lv := lc_v i) (nL := 8) (hk_q k1 I.2.1) rfl).1 r2 ?_
  refine xV_step (o1 := (728, lc_v i, [], h2, c, s)) rfl rfl rfl rfl ?_
  refine xV_step (o1 := (1000, lc_v i, [], h2, c, s)) rfl rfl rfl rfl ?_
  exact xV_stop
set_option maxRecDepth 100000 in
set_option maxHeartbeats 4000000 in
/-- top -/
theorem lo_19 (hL : L ≤ 3072) (hi6 : i + 6 ≤ L) (I : lc_I h) : lo_P L xs i 731 h c s := by
  obtain ⟨⟨t, tp⟩, ⟨mem, m12, e9, e4⟩, ⟨sc, sc8, e8, e33⟩, ⟨td, td9, e10, e3⟩, ⟨vc, vc6, e35, e63⟩, e1, e11, ch, pl, si, vs, pi⟩ := I.2.2.2
  have R := I.2.2.2
  obtain ⟨v1, h1, r1, k1⟩ := lc_3 (D := 49) (C := aC_m_X9_top) (m := xmi_X9_top) (A := [.ref 0]) I.1 I.2.1 as_m_X9_top rfl (by decide) ⟨a_av (by decide) I.2.1, trivial⟩ rfl
  have l1 : 72 ≤ h1.1.length := hk_n k1 I.2.1
  obtain ⟨v2, h2, r2, k2⟩ := lc_3 (D := 49) (C := aC_m_X10_top) (m := xmi_X10_top) (A := [.ref 39]) k1.1 l1 as_m_X10_top rfl (by decide) ⟨a_av (by decide) l1, trivial⟩ rfl
  have sr := SI_r si e9 m12 e8 sc8
  obtain rfl := xq_Z (hn := (show List.Nodup [0] by decide)) r1 (fun f => to9_q (f := f) (PL := fun k => xg 0 h.2.1 30 k) (d := nI td) I.1 e9 m12 e8 sc8 e10 si (fun _ _ => rfl) (lc_Iq I))
  obtain rfl := xq_Z (hn := (show List.Nodup [0] by decide)) r2 (fun f => to10_q (f := f) (PL := fun k => xg 0 h.2.1 30 k) (d := nI td) (FR := fun k => xg 0 h.2.1 51 k) (RW := fun k => xg 0 h.2.1 44 k) m12 ((hk_g (c := 39) (k := 4) k1 rfl rfl).trans e4) ((hk_g (c := 39) (k := 33) k1 rfl rfl).trans e33) sc8 ((hk_g (c := 39) (k := 3) k1 rfl rfl).trans e3) (fun k _ => hk_g (c := 51) (k := k) k1 rfl rfl) (fun k hk' => by rw [hk_g (c := 52) (k := k) k1 rfl rfl]; exact sr.1 k hk') (fun k s hk' hs => by obtain ⟨b, e⟩ := sr.2.1 k s hk' hs; exact ⟨b, e, (hk_g (c := 44) (k := 4096 * k + s) k1 rfl rfl).trans e⟩) (fun k hk' => (hk_g (c := 62) (k := k) k1 rfl rfl).trans (pl k hk').symm) (hk_q k1 I.2.1))
  have f1 := k1.2.2
  have f2 := k2.2.2
  have I2 : lc_I h2 := ⟨k2.1, hk_n k2 l1, by rw [k2.2.1, k1.2.1]; exact I.2.2.1, ⟨tp_2 f1 f2 rfl (fun _ => rfl) rfl (fun _ => rfl) rfl (fun _ => rfl) rfl (fun _ => rfl) R.1, rb_2 f1 f2 rfl rfl rfl rfl rfl rfl R.2.1, rb_2 f1 f2 rfl rfl rfl rfl rfl rfl R.2.2.1, rb_2 f1 f2 rfl rfl rfl rfl rfl rfl R.2.2.2.1, rb_2 f1 f2 rfl rfl rfl rfl rfl rfl R.2.2.2.2.1, pr_2 f1 f2 rfl rfl rfl rfl rfl rfl R.2.2.2.2.2.1, pr_2 f1 f2 rfl rfl rfl rfl rfl rfl R.2.2.2.2.2.2.1, ch_2 f1 f2 rfl rfl R.2.2.2.2.2.2.2.1, pl_2 f1 f2 rfl rfl R.2.2.2.2.2.2.2.2.1, SI_2 I.1 I.2.1 k1.1 l1 (fz_run (by decide +kernel) r1) (fz_run (by decide +kernel) r2) f1 f2 rfl rfl R.2.2.2.2.2.2.2.2.2.1, VZ_2 f1 f2 rfl rfl R.2.2.2.2.2.2.2.2.2.2.1, PI_2 I.1 I.2.1 k1.1 l1 (fz_run (by decide +kernel) r1) (qz_run (by decide +kernel) r1) f1 rfl (fz_run (by decide +kernel) r2) (qz_run (by decide +kernel) r2) f2 rfl (RI_p R)⟩⟩
  refine ⟨h2, c, s, ?_, I2, by omega, by omega⟩
  refine xV_step (o1 := (732, lc_v i, [.ref 0], h, c, s)) rfl rfl rfl rfl ?_
  refine xV_call (d := 49) rfl rfl rfl rfl (xa_c_ok (d := 49) (pc := 732) (lv := lc_v i) (nL := 8) (lc_Iq I) rfl).1 r1 ?_
  refine xV_step (o1 := (736, lc_v i, [], h1, c, s)) rfl rfl rfl rfl ?_
  refine xV_step (o1 := (737, lc_v i, [.ref 39], h1, c, s)) rfl rfl rfl rfl ?_
  refine xV_call (d := 49) rfl rfl rfl rfl (xa_c_ok (d := 49) (pc := 737) (lv := lc_v i) (nL := 8) (hk_q k1 I.2.1) rfl).1 r2 ?_
  refine xV_step (o1 := (741, lc_v i, [], h2, c, s)) rfl rfl rfl rfl ?_
  refine xV_step (o1 := (1000, lc_v i, [], h2, c, s)) rfl rfl rfl rfl ?_
  exact xV_stop
set_option maxRecDepth 100000 in
set_option maxHeartbeats 4000000 in
/-- turns -/
theorem lo_10 (hL : L ≤ 3072) (hi6 : i + 6 ≤ L) (I : lc_I h) : lo_P L xs i 490 h c s := by
  obtain ⟨⟨t, tp⟩, ⟨mem, m12, e9, e4⟩, ⟨sc, sc8, e8, e33⟩, ⟨td, td9, e10, e3⟩, ⟨vc, vc6, e35, e63⟩, e1, e11, ch, pl, si, vs, pi⟩ := I.2.2.2
  have R := I.2.2.2
  have m1 := lc_m1 I e9 m12
  obtain ⟨v1, h1, r1, k1⟩ := lc_3 (D := 49) (C := aC_m_X9_turns) (m := xmi_X9_turns) (A := [.ref 0, .int (xs (i + 1))]) I.1 I.2.1 as_m_X9_turns rfl (by decide) ⟨a_av (by decide) I.2.1, a_an, trivial⟩ rfl
  have l1 : 72 ≤ h1.1.length := hk_n k1 I.2.1
  obtain ⟨v2, h2, r2, k2⟩ := lc_3 (D := 49) (C := aC_m_X10_turns) (m := xmi_X10_turns) (A := [.ref 39, .int (xs (i + 1))]) k1.1 l1 as_m_X10_turns rfl (by decide) ⟨a_av (by decide) l1, a_an, trivial⟩ rfl
  have sr := SI_r si e9 m12 e8 sc8
  obtain ⟨rfl, pi1⟩ := xq_Z (hn := (show List.Nodup [0, 1] by decide)) r1 (fun f => tu9_q (f := f) (x := xs (i + 1)) (d := nI td) I.1 I.2.1 e9 m1 m12 e8 sc8 e10 si pi)
  obtain rfl := xq_Z (hn := (show List.Nodup [0, 1] by decide)) r2 (fun f => tu10_q (f := f) (x := xs (i + 1)) (d := nI td) (FR := fun k => xg 0 h.2.1 51 k) (RW := fun k => xg 0 h.2.1 44 k) m12 ((hk_g (c := 39) (k := 4) k1 rfl rfl).trans e4) ((hk_g (c := 39) (k := 33) k1 rfl rfl).trans e33) sc8 ((hk_g (c := 39) (k := 3) k1 rfl rfl).trans e3) (fun k _ => hk_g (c := 51) (k := k) k1 rfl rfl) (fun k hk' => by rw [hk_g (c := 52) (k := k) k1 rfl rfl]; exact sr.1 k hk') (fun k s hk' hs => by obtain ⟨b, e⟩ := sr.2.1 k s hk' hs; exact ⟨b, e, (hk_g (c := 44) (k := 4096 * k + s) k1 rfl rfl).trans e⟩) (hk_q k1 I.2.1))
  have f1 := k1.2.2
  have f2 := k2.2.2
  have I2 : lc_I h2 := ⟨k2.1, hk_n k2 l1, by rw [k2.2.1, k1.2.1]; exact I.2.2.1, ⟨tp_2 f1 f2 rfl (fun _ => rfl) rfl (fun _ => rfl) rfl (fun _ => rfl) rfl (fun _ => rfl) R.1, rb_2 f1 f2 rfl rfl rfl rfl rfl rfl R.2.1, rb_2 f1 f2 rfl rfl rfl rfl rfl rfl R.2.2.1, rb_2 f1 f2 rfl rfl rfl rfl rfl rfl R.2.2.2.1, rb_2 f1 f2 rfl rfl rfl rfl rfl rfl R.2.2.2.2.1, pr_2 f1 f2 rfl rfl rfl rfl rfl rfl R.2.2.2.2.2.1, pr_2 f1 f2 rfl rfl rfl rfl rfl rfl R.2.2.2.2.2.2.1, ch_2 f1 f2 rfl rfl R.2.2.2.2.2.2.2.1, pl_2 f1 f2 rfl rfl R.2.2.2.2.2.2.2.2.1, SI_2 I.1 I.2.1 k1.1 l1 (fz_run (by decide +kernel) r1) (fz_run (by decide +kernel) r2) f1 f2 rfl rfl R.2.2.2.2.2.2.2.2.2.1, VZ_2 f1 f2 rfl rfl R.2.2.2.2.2.2.2.2.2.2.1, PI_t k1.1 l1 (Fs_z (a_rq_of k1.1.1 l1) (fz_run (by decide +kernel) r2)) (qz_run (by decide +kernel) r2) f2 rfl (pi1)⟩⟩
  refine ⟨h2, c, s, ?_, I2, by omega, by omega⟩
  refine xV_step (o1 := (491, lc_v i, [.ref 0], h, c, s)) rfl rfl rfl rfl ?_
  refine xV_arg 1 1 rfl (by omega) hL rfl rfl rfl rfl rfl rfl rfl rfl rfl rfl ?_
  refine xV_call (d := 49) rfl rfl rfl rfl (xa_c_ok (d := 49) (pc := 497) (lv := lc_v i) (nL := 8) (lc_Iq I) rfl).1 r1 ?_
  refine xV_step (o1 := (501, lc_v i, [], h1, c, s)) rfl rfl rfl rfl ?_
  refine xV_step (o1 := (502, lc_v i, [.ref 39], h1, c, s)) rfl rfl rfl rfl ?_
  refine xV_arg 1 1 rfl (by omega) hL rfl rfl rfl rfl rfl rfl rfl rfl rfl rfl ?_
  refine xV_call (d := 49) rfl rfl rfl rfl (xa_c_ok (d := 49) (pc := 508) (lv := lc_v i) (nL := 8) (hk_q k1 I.2.1) rfl).1 r2 ?_
  refine xV_step (o1 := (512, lc_v i, [], h2, c, s)) rfl rfl rfl rfl ?_
  refine xV_step (o1 := (1000, lc_v i, [], h2, c, s)) rfl rfl rfl rfl ?_
  exact xV_stop
set_option maxRecDepth 100000 in
set_option maxHeartbeats 4000000 in
/-- stronger -/
theorem lo_9 (hL : L ≤ 3072) (hi6 : i + 6 ≤ L) (I : lc_I h) : lo_P L xs i 453 h c s := by
  obtain ⟨⟨t, tp⟩, ⟨mem, m12, e9, e4⟩, ⟨sc, sc8, e8, e33⟩, ⟨td, td9, e10, e3⟩, ⟨vc, vc6, e35, e63⟩, e1, e11, ch, pl, si, vs, pi⟩ := I.2.2.2
  have R := I.2.2.2
  have m1 := lc_m1 I e9 m12
  obtain ⟨v1, h1, r1, k1⟩ := lc_3 (D := 49) (C := aC_m_X9_stronger) (m := xmi_X9_stronger) (A := [.ref 0, .int (xs (i + 1)), .int (xs (i + 2))]) I.1 I.2.1 as_m_X9_stronger rfl (by decide) ⟨a_av (by decide) I.2.1, a_an, a_an, trivial⟩ rfl
  have l1 : 72 ≤ h1.1.length := hk_n k1 I.2.1
  obtain ⟨v2, h2, r2, k2⟩ := lc_3 (D := 49) (C := aC_m_X10_stronger) (m := xmi_X10_stronger) (A := [.ref 39, .int (xs (i + 1)), .int (xs (i + 2))]) k1.1 l1 as_m_X10_stronger rfl (by decide) ⟨a_av (by decide) l1, a_an, a_an, trivial⟩ rfl
  have sr := SI_r si e9 m12 e8 sc8
  obtain ⟨rfl, pi1⟩ := xq_Z (hn := (show List.Nodup [0, 1, 2] by decide)) r1 (fun f => sr9_q (f := f) (x := xs (i + 1)) (y := xs (i + 2)) (d := nI td) I.1 I.2.1 e9 m1 m12 e8 sc8 e10 si pi)
  obtain rfl := xq_Z (hn := (show List.Nodup [0, 1, 2] by decide)) r2 (fun f => sr10_q (f := f) (x := xs (i + 1)) (y := xs (i + 2)) (d := nI td) (FR := fun k => xg 0 h.2.1 51 k) (RW := fun k => xg 0 h.2.1 44 k) m12 ((hk_g (c := 39) (k := 4) k1 rfl rfl).trans e4) ((hk_g (c := 39) (k := 33) k1 rfl rfl).trans e33) sc8 ((hk_g (c := 39) (k := 3) k1 rfl rfl).trans e3) (fun k _ => hk_g (c := 51) (k := k) k1 rfl rfl) (fun k hk' => by rw [hk_g (c := 52) (k := k) k1 rfl rfl]; exact sr.1 k hk') (fun k s hk' hs => by obtain ⟨b, e⟩ := sr.2.1 k s hk' hs; exact ⟨b, e, (hk_g (c := 44) (k := 4096 * k + s) k1 rfl rfl).trans e⟩) (hk_q k1 I.2.1))
  have f1 := k1.2.2
  have f2 := k2.2.2
  have I2 : lc_I h2 := ⟨k2.1, hk_n k2 l1, by rw [k2.2.1, k1.2.1]; exact I.2.2.1, ⟨tp_2 f1 f2 rfl (fun _ => rfl) rfl (fun _ => rfl) rfl (fun _ => rfl) rfl (fun _ => rfl) R.1, rb_2 f1 f2 rfl rfl rfl rfl rfl rfl R.2.1, rb_2 f1 f2 rfl rfl rfl rfl rfl rfl R.2.2.1, rb_2 f1 f2 rfl rfl rfl rfl rfl rfl R.2.2.2.1, rb_2 f1 f2 rfl rfl rfl rfl rfl rfl R.2.2.2.2.1, pr_2 f1 f2 rfl rfl rfl rfl rfl rfl R.2.2.2.2.2.1, pr_2 f1 f2 rfl rfl rfl rfl rfl rfl R.2.2.2.2.2.2.1, ch_2 f1 f2 rfl rfl R.2.2.2.2.2.2.2.1, pl_2 f1 f2 rfl rfl R.2.2.2.2.2.2.2.2.1, SI_2 I.1 I.2.1 k1.1 l1 (fz_run (by decide +kernel) r1) (fz_run (by decide +kernel) r2) f1 f2 rfl rfl R.2.2.2.2.2.2.2.2.2.1, VZ_2 f1 f2 rfl rfl R.2.2.2.2.2.2.2.2.2.2.1, PI_t k1.1 l1 (Fs_z (a_rq_of k1.1.1 l1) (fz_run (by decide +kernel) r2)) (qz_run (by decide +kernel) r2) f2 rfl (pi1)⟩⟩
  refine ⟨h2, c, s, ?_, I2, by omega, by omega⟩
  refine xV_step (o1 := (454, lc_v i, [.ref 0], h, c, s)) rfl rfl rfl rfl ?_
  refine xV_arg 1 1 rfl (by omega) hL rfl rfl rfl rfl rfl rfl rfl rfl rfl rfl ?_
  refine xV_arg 2 2 rfl (by omega) hL rfl rfl rfl rfl rfl rfl rfl rfl rfl rfl ?_
  refine xV_call (d := 49) rfl rfl rfl rfl (xa_c_ok (d := 49) (pc := 466) (lv := lc_v i) (nL := 8) (lc_Iq I) rfl).1 r1 ?_
  refine xV_step (o1 := (470, lc_v i, [], h1, c, s)) rfl rfl rfl rfl ?_
  refine xV_step (o1 := (471, lc_v i, [.ref 39], h1, c, s)) rfl rfl rfl rfl ?_
  refine xV_arg 1 1 rfl (by omega) hL rfl rfl rfl rfl rfl rfl rfl rfl rfl rfl ?_
  refine xV_arg 2 2 rfl (by omega) hL rfl rfl rfl rfl rfl rfl rfl rfl rfl rfl ?_
  refine xV_call (d := 49) rfl rfl rfl rfl (xa_c_ok (d := 49) (pc := 483) (lv := lc_v i) (nL := 8) (hk_q k1 I.2.1) rfl).1 r2 ?_
  refine xV_step (o1 := (487, lc_v i, [], h2, c, s)) rfl rfl rfl rfl ?_
  refine xV_step (o1 := (1000, lc_v i, [], h2, c, s)) rfl rfl rfl rfl ?_
  exact xV_stop
set_option maxRecDepth 100000 in
set_option maxHeartbeats 4000000 in
/-- ally -/
theorem lo_13 (hL : L ≤ 3072) (hi6 : i + 6 ≤ L) (I : lc_I h) : lo_P L xs i 593 h c s := by
  obtain ⟨⟨t, tp⟩, ⟨mem, m12, e9, e4⟩, ⟨sc, sc8, e8, e33⟩, ⟨td, td9, e10, e3⟩, ⟨vc, vc6, e35, e63⟩, e1, e11, ch, pl, si, vs, pi⟩ := I.2.2.2
  have R := I.2.2.2
  have m1 := lc_m1 I e9 m12
  obtain ⟨v1, h1, r1, k1⟩ := lc_3 (D := 49) (C := aC_m_X9_ally) (m := xmi_X9_ally) (A := [.ref 0, .int (xs (i + 1))]) I.1 I.2.1 as_m_X9_ally rfl (by decide) ⟨a_av (by decide) I.2.1, a_an, trivial⟩ rfl
  have l1 : 72 ≤ h1.1.length := hk_n k1 I.2.1
  obtain ⟨v2, h2, r2, k2⟩ := lc_3 (D := 49) (C := aC_m_X10_ally) (m := xmi_X10_ally) (A := [.ref 39, .int (xs (i + 1))]) k1.1 l1 as_m_X10_ally rfl (by decide) ⟨a_av (by decide) l1, a_an, trivial⟩ rfl
  have sr := SI_r si e9 m12 e8 sc8
  obtain ⟨rfl, pi1⟩ := xq_Z (hn := (show List.Nodup [0, 1] by decide)) r1 (fun f => al9_q (f := f) (x := xs (i + 1)) (d := nI td) I.1 I.2.1 e9 m1 m12 e8 sc8 e10 si pi)
  obtain rfl := xq_Z (hn := (show List.Nodup [0, 1] by decide)) r2 (fun f => al10_q (f := f) (x := xs (i + 1)) (d := nI td) (FR := fun k => xg 0 h.2.1 51 k) (RW := fun k => xg 0 h.2.1 44 k) m12 ((hk_g (c := 39) (k := 4) k1 rfl rfl).trans e4) ((hk_g (c := 39) (k := 33) k1 rfl rfl).trans e33) sc8 ((hk_g (c := 39) (k := 3) k1 rfl rfl).trans e3) (fun k _ => hk_g (c := 51) (k := k) k1 rfl rfl) (fun k hk' => by rw [hk_g (c := 52) (k := k) k1 rfl rfl]; exact sr.1 k hk') (fun k s hk' hs => by obtain ⟨b, e⟩ := sr.2.1 k s hk' hs; exact ⟨b, e, (hk_g (c := 44) (k := 4096 * k + s) k1 rfl rfl).trans e⟩) (hk_q k1 I.2.1))
  have f1 := k1.2.2
  have f2 := k2.2.2
  have I2 : lc_I h2 := ⟨k2.1, hk_n k2 l1, by rw [k2.2.1, k1.2.1]; exact I.2.2.1, ⟨tp_2 f1 f2 rfl (fun _ => rfl) rfl (fun _ => rfl) rfl (fun _ => rfl) rfl (fun _ => rfl) R.1, rb_2 f1 f2 rfl rfl rfl rfl rfl rfl R.2.1, rb_2 f1 f2 rfl rfl rfl rfl rfl rfl R.2.2.1, rb_2 f1 f2 rfl rfl rfl rfl rfl rfl R.2.2.2.1, rb_2 f1 f2 rfl rfl rfl rfl rfl rfl R.2.2.2.2.1, pr_2 f1 f2 rfl rfl rfl rfl rfl rfl R.2.2.2.2.2.1, pr_2 f1 f2 rfl rfl rfl rfl rfl rfl R.2.2.2.2.2.2.1, ch_2 f1 f2 rfl rfl R.2.2.2.2.2.2.2.1, pl_2 f1 f2 rfl rfl R.2.2.2.2.2.2.2.2.1, SI_2 I.1 I.2.1 k1.1 l1 (fz_run (by decide +kernel) r1) (fz_run (by decide +kernel) r2) f1 f2 rfl rfl R.2.2.2.2.2.2.2.2.2.1, VZ_2 f1 f2 rfl rfl R.2.2.2.2.2.2.2.2.2.2.1, PI_t k1.1 l1 (Fs_z (a_rq_of k1.1.1 l1) (fz_run (by decide +kernel) r2)) (qz_run (by decide +kernel) r2) f2 rfl (pi1)⟩⟩
  refine ⟨h2, c, s, ?_, I2, by omega, by omega⟩
  refine xV_step (o1 := (594, lc_v i, [.ref 0], h, c, s)) rfl rfl rfl rfl ?_
  refine xV_arg 1 1 rfl (by omega) hL rfl rfl rfl rfl rfl rfl rfl rfl rfl rfl ?_
  refine xV_call (d := 49) rfl rfl rfl rfl (xa_c_ok (d := 49) (pc := 600) (lv := lc_v i) (nL := 8) (lc_Iq I) rfl).1 r1 ?_
  refine xV_step (o1 := (604, lc_v i, [], h1, c, s)) rfl rfl rfl rfl ?_
  refine xV_step (o1 := (605, lc_v i, [.ref 39], h1, c, s)) rfl rfl rfl rfl ?_
  refine xV_arg 1 1 rfl (by omega) hL rfl rfl rfl rfl rfl rfl rfl rfl rfl rfl ?_
  refine xV_call (d := 49) rfl rfl rfl rfl (xa_c_ok (d := 49) (pc := 611) (lv := lc_v i) (nL := 8) (hk_q k1 I.2.1) rfl).1 r2 ?_
  refine xV_step (o1 := (615, lc_v i, [], h2, c, s)) rfl rfl rfl rfl ?_
  refine xV_step (o1 := (1000, lc_v i, [], h2, c, s)) rfl rfl rfl rfl ?_
  exact xV_stop
set_option maxRecDepth 100000 in
set_option maxHeartbeats 4000000 in
/-- many -/
theorem lo_7 (hL : L ≤ 3072) (hi6 : i + 6 ≤ L) (I : lc_I h) : lo_P L xs i 391 h c s := by
  obtain ⟨⟨t, tp⟩, ⟨mem, m12, e9, e4⟩, ⟨sc, sc8, e8, e33⟩, ⟨td, td9, e10, e3⟩, ⟨vc, vc6, e35, e63⟩, e1, e11, ch, pl, si, vs, pi⟩ := I.2.2.2
  have R := I.2.2.2
  have m1 := lc_m1 I e9 m12
  obtain ⟨v1, h1, r1, k1⟩ := lc_3 (D := 49) (C := aC_m_X9_many) (m := xmi_X9_many) (A := [.ref 0, .int (xs (i + 1))]) I.1 I.2.1 as_m_X9_many rfl (by decide) ⟨a_av (by decide) I.2.1, a_an, trivial⟩ rfl
  have l1 : 72 ≤ h1.1.length := hk_n k1 I.2.1
  obtain ⟨v2, h2, r2, k2⟩ := lc_3 (D := 49) (C := aC_m_X10_many) (m := xmi_X10_many) (A := [.ref 39, .int (xs (i + 1))]) k1.1 l1 as_m_X10_many rfl (by decide) ⟨a_av (by decide) l1, a_an, trivial⟩ rfl
  have sr := SI_r si e9 m12 e8 sc8
  have M := cv_m (d := nI td) I.1 m12 e33 sc8 sr.2.1
  obtain ⟨rfl, pi1⟩ := xq_Z (hn := (show List.Nodup [0, 1] by decide)) r1 (fun f => ma9_q (f := f) (x := xs (i + 1)) (d := nI td) I.1 I.2.1 e9 m1 m12 e8 sc8 e10 si pi M)
  obtain rfl := xq_Z (hn := (show List.Nodup [0, 1] by decide)) r2 (fun f => ma10_q (f := f) (x := xs (i + 1)) (d := nI td) (FR := fun k => xg 0 h.2.1 51 k) (RW := fun k => xg 0 h.2.1 44 k) m12 ((hk_g (c := 39) (k := 4) k1 rfl rfl).trans e4) ((hk_g (c := 39) (k := 33) k1 rfl rfl).trans e33) sc8 ((hk_g (c := 39) (k := 3) k1 rfl rfl).trans e3) (fun k _ => hk_g (c := 51) (k := k) k1 rfl rfl) (fun k hk' => by rw [hk_g (c := 52) (k := k) k1 rfl rfl]; exact sr.1 k hk') (fun k s hk' hs => by obtain ⟨b, e⟩ := sr.2.1 k s hk' hs; exact ⟨b, e, (hk_g (c := 44) (k := 4096 * k + s) k1 rfl rfl).trans e⟩) (hk_q k1 I.2.1))
  have f1 := k1.2.2
  have f2 := k2.2.2
  have I2 : lc_I h2 := ⟨k2.1, hk_n k2 l1, by rw [k2.2.1, k1.2.1]; exact I.2.2.1, ⟨tp_2 f1 f2 rfl (fun _ => rfl) rfl (fun _ => rfl) rfl (fun _ => rfl) rfl (fun _ => rfl) R.1, rb_2 f1 f2 rfl rfl rfl rfl rfl rfl R.2.1, rb_2 f1 f2 rfl rfl rfl rfl rfl rfl R.2.2.1, rb_2 f1 f2 rfl rfl rfl rfl rfl rfl R.2.2.2.1, rb_2 f1 f2 rfl rfl rfl rfl rfl rfl R.2.2.2.2.1, pr_2 f1 f2 rfl rfl rfl rfl rfl rfl R.2.2.2.2.2.1, pr_2 f1 f2 rfl rfl rfl rfl rfl rfl R.2.2.2.2.2.2.1, ch_2 f1 f2 rfl rfl R.2.2.2.2.2.2.2.1, pl_2 f1 f2 rfl rfl R.2.2.2.2.2.2.2.2.1, SI_2 I.1 I.2.1 k1.1 l1 (fz_run (by decide +kernel) r1) (fz_run (by decide +kernel) r2) f1 f2 rfl rfl R.2.2.2.2.2.2.2.2.2.1, VZ_2 f1 f2 rfl rfl R.2.2.2.2.2.2.2.2.2.2.1, PI_t k1.1 l1 (Fs_z (a_rq_of k1.1.1 l1) (fz_run (by decide +kernel) r2)) (qz_run (by decide +kernel) r2) f2 rfl (pi1)⟩⟩
  refine ⟨h2, c, s, ?_, I2, by omega, by omega⟩
  refine xV_step (o1 := (392, lc_v i, [.ref 0], h, c, s)) rfl rfl rfl rfl ?_
  refine xV_arg 1 1 rfl (by omega) hL rfl rfl rfl rfl rfl rfl rfl rfl rfl rfl ?_
  refine xV_call (d := 49) rfl rfl rfl rfl (xa_c_ok (d := 49) (pc := 398) (lv := lc_v i) (nL := 8) (lc_Iq I) rfl).1 r1 ?_
  refine xV_step (o1 := (402, lc_v i, [], h1, c, s)) rfl rfl rfl rfl ?_
  refine xV_step (o1 := (403, lc_v i, [.ref 39], h1, c, s)) rfl rfl rfl rfl ?_
  refine xV_arg 1 1 rfl (by omega) hL rfl rfl rfl rfl rfl rfl rfl rfl rfl rfl ?_
  refine xV_call (d := 49) rfl rfl rfl rfl (xa_c_ok (d := 49) (pc := 409) (lv := lc_v i) (nL := 8) (hk_q k1 I.2.1) rfl).1 r2 ?_
  refine xV_step (o1 := (413, lc_v i, [], h2, c, s)) rfl rfl rfl rfl ?_
  refine xV_step (o1 := (1000, lc_v i, [], h2, c, s)) rfl rfl rfl rfl ?_
  exact xV_stop
set_option maxRecDepth 100000 in
set_option maxHeartbeats 4000000 in
/-- setAt -/
theorem lo_8 (hL : L ≤ 3072) (hi6 : i + 6 ≤ L) (I : lc_I h) : lo_P L xs i 416 h c s := by
  obtain ⟨⟨t, tp⟩, ⟨mem, m12, e9, e4⟩, ⟨sc, sc8, e8, e33⟩, ⟨td, td9, e10, e3⟩, ⟨vc, vc6, e35, e63⟩, e1, e11, ch, pl, si, vs, pi⟩ := I.2.2.2
  have R := I.2.2.2
  have m1 := lc_m1 I e9 m12
  obtain ⟨v1, h1, r1, k1⟩ := lc_3 (D := 49) (C := aC_m_X9_setAt) (m := xmi_X9_setAt) (A := [.ref 0, .int (xs (i + 1)), .int (xs (i + 2))]) I.1 I.2.1 as_m_X9_setAt rfl (by decide) ⟨a_av (by decide) I.2.1, a_an, a_an, trivial⟩ rfl
  have l1 : 72 ≤ h1.1.length := hk_n k1 I.2.1
  obtain ⟨v2, h2, r2, k2⟩ := lc_3 (D := 49) (C := aC_m_X10_setAt) (m := xmi_X10_setAt) (A := [.ref 39, .int (xs (i + 1)), .int (xs (i + 2))]) k1.1 l1 as_m_X10_setAt rfl (by decide) ⟨a_av (by decide) l1, a_an, a_an, trivial⟩ rfl
  have sr := SI_r si e9 m12 e8 sc8
  have M := cv_m (d := nI td) I.1 m12 e33 sc8 sr.2.1
  obtain ⟨rfl, pi1⟩ := xq_Z (hn := (show List.Nodup [0, 1, 2] by decide)) r1 (fun f => sa9_q (f := f) (x := xs (i + 1)) (y := xs (i + 2)) (d := nI td) I.1 I.2.1 e9 m1 m12 e8 sc8 e10 si pi M)
  obtain rfl := xq_Z (hn := (show List.Nodup [0, 1, 2] by decide)) r2 (fun f => sa10_q (f := f) (x := xs (i + 1)) (y := xs (i + 2)) (d := nI td) (FR := fun k => xg 0 h.2.1 51 k) (RW := fun k => xg 0 h.2.1 44 k) m12 ((hk_g (c := 39) (k := 4) k1 rfl rfl).trans e4) ((hk_g (c := 39) (k := 33) k1 rfl rfl).trans e33) sc8 ((hk_g (c := 39) (k := 3) k1 rfl rfl).trans e3) (fun k _ => hk_g (c := 51) (k := k) k1 rfl rfl) (fun k hk' => by rw [hk_g (c := 52) (k := k) k1 rfl rfl]; exact sr.1 k hk') (fun k s hk' hs => by obtain ⟨b, e⟩ := sr.2.1 k s hk' hs; exact ⟨b, e, (hk_g (c := 44) (k := 4096 * k + s) k1 rfl rfl).trans e⟩) (hk_q k1 I.2.1))
  have f1 := k1.2.2
  have f2 := k2.2.2
  have I2 : lc_I h2 := ⟨k2.1, hk_n k2 l1, by rw [k2.2.1, k1.2.1]; exact I.2.2.1, ⟨tp_2 f1 f2 rfl (fun _ => rfl) rfl (fun _ => rfl) rfl (fun _ => rfl) rfl (fun _ => rfl) R.1, rb_2 f1 f2 rfl rfl rfl rfl rfl rfl R.2.1, rb_2 f1 f2 rfl rfl rfl rfl rfl rfl R.2.2.1, rb_2 f1 f2 rfl rfl rfl rfl rfl rfl R.2.2.2.1, rb_2 f1 f2 rfl rfl rfl rfl rfl rfl R.2.2.2.2.1, pr_2 f1 f2 rfl rfl rfl rfl rfl rfl R.2.2.2.2.2.1, pr_2 f1 f2 rfl rfl rfl rfl rfl rfl R.2.2.2.2.2.2.1, ch_2 f1 f2 rfl rfl R.2.2.2.2.2.2.2.1, pl_2 f1 f2 rfl rfl R.2.2.2.2.2.2.2.2.1, SI_2 I.1 I.2.1 k1.1 l1 (fz_run (by decide +kernel) r1) (fz_run (by decide +kernel) r2) f1 f2 rfl rfl R.2.2.2.2.2.2.2.2.2.1, VZ_2 f1 f2 rfl rfl R.2.2.2.2.2.2.2.2.2.2.1, PI_t k1.1 l1 (Fs_z (a_rq_of k1.1.1 l1) (fz_run (by decide +kernel) r2)) (qz_run (by decide +kernel) r2) f2 rfl (pi1)⟩⟩
  refine ⟨h2, c, s, ?_, I2, by omega, by omega⟩
  refine xV_step (o1 := (417, lc_v i, [.ref 0], h, c, s)) rfl rfl rfl rfl ?_
  refine xV_arg 1 1 rfl (by omega) hL rfl rfl rfl rfl rfl rfl rfl rfl rfl rfl ?_
  refine xV_arg 2 2 rfl (by omega) hL rfl rfl rfl rfl rfl rfl rfl rfl rfl rfl ?_
  refine xV_call (d := 49) rfl rfl rfl rfl (xa_c_ok (d := 49) (pc := 429) (lv := lc_v i) (nL := 8) (lc_Iq I) rfl).1 r1 ?_
  refine xV_step (o1 := (433, lc_v i, [], h1, c, s)) rfl rfl rfl rfl ?_
  refine xV_step (o1 := (434, lc_v i, [.ref 39], h1, c, s)) rfl rfl rfl rfl ?_
  refine xV_arg 1 1 rfl (by omega) hL rfl rfl rfl rfl rfl rfl rfl rfl rfl rfl ?_
  refine xV_arg 2 2 rfl (by omega) hL rfl rfl rfl rfl rfl rfl rfl rfl rfl rfl ?_
  refine xV_call (d := 49) rfl rfl rfl rfl (xa_c_ok (d := 49) (pc := 446) (lv := lc_v i) (nL := 8) (hk_q k1 I.2.1) rfl).1 r2 ?_
  refine xV_step (o1 := (450, lc_v i, [], h2, c, s)) rfl rfl rfl rfl ?_
  refine xV_step (o1 := (1000, lc_v i, [], h2, c, s)) rfl rfl rfl rfl ?_
  exact xV_stop
set_option maxRecDepth 100000 in
set_option maxHeartbeats 4000000 in
/-- chance -/
theorem lo_12 (hL : L ≤ 3072) (hi6 : i + 6 ≤ L) (I : lc_I h) : lo_P L xs i 567 h c s := by
  obtain ⟨⟨t, tp⟩, ⟨mem, m12, e9, e4⟩, ⟨sc, sc8, e8, e33⟩, ⟨td, td9, e10, e3⟩, ⟨vc, vc6, e35, e63⟩, e1, e11, ch, pl, si, vs, pi⟩ := I.2.2.2
  have m1 := lc_m1 I e9 m12
  obtain ⟨v1, h1, r1, k1⟩ := lc_3 (D := 49) (C := aC_m_X9_chance) (m := xmi_X9_chance) (A := [.ref 0, .int (xs (i + 1))]) I.1 I.2.1 as_m_X9_chance rfl (by decide) ⟨a_av (by decide) I.2.1, a_an, trivial⟩ rfl
  have l1 : 72 ≤ h1.1.length := hk_n k1 I.2.1
  have I1 : lc_I h1 := lc_chI I r1 k1
  obtain ⟨v2, h2, r2, k2⟩ := lc_3 (D := 49) (C := aC_m_X10_chance) (m := xmi_X10_chance) (A := [.ref 39, .int (xs (i + 1))]) k1.1 l1 as_m_X10_chance rfl (by decide) ⟨a_av (by decide) l1, a_an, trivial⟩ rfl
  have sr := SI_r si e9 m12 e8 sc8
  obtain rfl := xq_Z (hn := (show List.Nodup [0, 1] by decide)) r1 (fun f => cv9_q (f := f) (x := xs (i + 1)) (d := nI td) I.1 I.2.1 e9 m1 m12 e8 sc8 e10 si pi)
  obtain rfl := xq_Z (hn := (show List.Nodup [0, 1] by decide)) r2 (fun f => cv10_q (f := f) (x := xs (i + 1)) (d := nI td) (FR := fun k => xg 0 h.2.1 51 k) (RW := fun k => xg 0 h.2.1 44 k) m12 ((hk_g (c := 39) (k := 4) k1 rfl rfl).trans e4) ((hk_g (c := 39) (k := 33) k1 rfl rfl).trans e33) sc8 ((hk_g (c := 39) (k := 3) k1 rfl rfl).trans e3) (fun k _ => hk_g (c := 51) (k := k) k1 rfl rfl) (fun k hk' => by rw [hk_g (c := 52) (k := k) k1 rfl rfl]; exact sr.1 k hk') (fun k s hk' hs => by obtain ⟨b, e⟩ := sr.2.1 k s hk' hs; exact ⟨b, e, (hk_g (c := 44) (k := 4096 * k + s) k1 rfl rfl).trans e⟩) (hk_q k1 I.2.1))
  have I2 : lc_I h2 := lc_It I1 k2.1 (hk_n k2 l1) (by rw [k2.2.1]; exact I1.2.2.1) (Fs_z (lc_Iq I1) (fz_run (by decide +kernel) r2)) k2.2.2 rfl (PI_t I1.1 I1.2.1 (Fs_z (lc_Iq I1) (fz_run (by decide +kernel) r2)) (qz_run (by decide +kernel) r2) k2.2.2 rfl (RI_p I1.2.2.2))
  refine ⟨h2, c, s, ?_, I2, by omega, by omega⟩
  refine xV_step (o1 := (568, lc_v i, [.ref 0], h, c, s)) rfl rfl rfl rfl ?_
  refine xV_arg 1 1 rfl (by omega) hL rfl rfl rfl rfl rfl rfl rfl rfl rfl rfl ?_
  refine xV_call (d := 49) rfl rfl rfl rfl (xa_c_ok (d := 49) (pc := 574) (lv := lc_v i) (nL := 8) (lc_Iq I) rfl).1 r1 ?_
  refine xV_step (o1 := (578, lc_v i, [.ref 39, .long (chV (cvB (fun k => xg 0 h.2.1 51 k) (fun k => xg 0 h.2.1 44 k) mem sc (nI td)) mem (xs (i + 1)))], h1, c, s)) rfl rfl rfl rfl ?_
  refine xV_arg 1 1 rfl (by omega) hL rfl rfl rfl rfl rfl rfl rfl rfl rfl rfl ?_
  refine xV_call (d := 49) rfl rfl rfl rfl (xa_c_ok (d := 49) (pc := 584) (lv := lc_v i) (nL := 8) (hk_q k1 I.2.1) rfl).1 r2 ?_
  refine xV_step (o1 := (588, lc_v i, [.int (lg_cmp (chV (cvB (fun k => xg 0 h.2.1 51 k) (fun k => xg 0 h.2.1 44 k) mem sc (nI td)) mem (xs (i + 1))) (chV (cvB (fun k => xg 0 h.2.1 51 k) (fun k => xg 0 h.2.1 44 k) mem sc (nI td)) mem (xs (i + 1))))], h2, c, s)) rfl rfl rfl rfl ?_
  refine xV_if true rfl rfl (show xe_c .eq (lg_cmp _ _) 0 = true by rw [lg_slf]; rfl) ?_
  exact xV_stop
set_option maxRecDepth 100000 in
set_option maxHeartbeats 4000000 in
/-- fault -/
theorem lo_5 (hL : L ≤ 3072) (hi6 : i + 6 ≤ L) (I : lc_I h) : lo_P L xs i 341 h c s := by
  obtain ⟨⟨t, tp⟩, ⟨mem, m12, e9, e4⟩, ⟨sc, sc8, e8, e33⟩, ⟨td, td9, e10, e3⟩, ⟨vc, vc6, e35, e63⟩, e1, e11, ch, pl, si, vs, pi⟩ := I.2.2.2
  have R := I.2.2.2
  obtain ⟨v1, h1, r1, k1⟩ := lc_3 (D := 49) (C := aC_m_X9_fault) (m := xmi_X9_fault) (A := [.ref 0]) I.1 I.2.1 as_m_X9_fault rfl (by decide) ⟨a_av (by decide) I.2.1, trivial⟩ rfl
  have l1 : 72 ≤ h1.1.length := hk_n k1 I.2.1
  obtain ⟨v2, h2, r2, k2⟩ := lc_3 (D := 49) (C := aC_m_X10_fault) (m := xmi_X10_fault) (A := [.ref 39]) k1.1 l1 as_m_X10_fault rfl (by decide) ⟨a_av (by decide) l1, trivial⟩ rfl
  obtain rfl := xq_Z (hn := (show List.Nodup [0] by decide)) r1 (fun f => fa9_q (f := f) (a := xg 0 h.2.1 0 11) (lc_Iq I) rfl)
  obtain rfl := xq_Z (hn := (show List.Nodup [0] by decide)) r2 (fun f => fa10_q (f := f) (a := xg 0 h.2.1 0 11) (hk_q k1 I.2.1) ((hk_g (c := 39) (k := 13) k1 rfl rfl).trans e11.symm))
  have f1 := k1.2.2
  have f2 := k2.2.2
  have I2 : lc_I h2 := ⟨k2.1, hk_n k2 l1, by rw [k2.2.1, k1.2.1]; exact I.2.2.1, ⟨tp_2 f1 f2 rfl (fun _ => rfl) rfl (fun _ => rfl) rfl (fun _ => rfl) rfl (fun _ => rfl) R.1, rb_2 f1 f2 rfl rfl rfl rfl rfl rfl R.2.1, rb_2 f1 f2 rfl rfl rfl rfl rfl rfl R.2.2.1, rb_2 f1 f2 rfl rfl rfl rfl rfl rfl R.2.2.2.1, rb_2 f1 f2 rfl rfl rfl rfl rfl rfl R.2.2.2.2.1, pr_2 f1 f2 rfl rfl rfl rfl rfl rfl R.2.2.2.2.2.1, pr_2 f1 f2 rfl rfl rfl rfl rfl rfl R.2.2.2.2.2.2.1, ch_2 f1 f2 rfl rfl R.2.2.2.2.2.2.2.1, pl_2 f1 f2 rfl rfl R.2.2.2.2.2.2.2.2.1, SI_2 I.1 I.2.1 k1.1 l1 (fz_run (by decide +kernel) r1) (fz_run (by decide +kernel) r2) f1 f2 rfl rfl R.2.2.2.2.2.2.2.2.2.1, VZ_2 f1 f2 rfl rfl R.2.2.2.2.2.2.2.2.2.2.1, PI_2 I.1 I.2.1 k1.1 l1 (fz_run (by decide +kernel) r1) (qz_run (by decide +kernel) r1) f1 rfl (fz_run (by decide +kernel) r2) (qz_run (by decide +kernel) r2) f2 rfl (RI_p R)⟩⟩
  refine ⟨h2, c, s, ?_, I2, by omega, by omega⟩
  refine xV_step (o1 := (342, lc_v i, [.ref 0], h, c, s)) rfl rfl rfl rfl ?_
  refine xV_call (d := 49) rfl rfl rfl rfl (xa_c_ok (d := 49) (pc := 342) (lv := lc_v i) (nL := 8) (lc_Iq I) rfl).1 r1 ?_
  refine xV_step (o1 := (346, lc_v i, [], h1, c, s)) rfl rfl rfl rfl ?_
  refine xV_step (o1 := (347, lc_v i, [.ref 39], h1, c, s)) rfl rfl rfl rfl ?_
  refine xV_call (d := 49) rfl rfl rfl rfl (xa_c_ok (d := 49) (pc := 347) (lv := lc_v i) (nL := 8) (hk_q k1 I.2.1) rfl).1 r2 ?_
  refine xV_step (o1 := (351, lc_v i, [], h2, c, s)) rfl rfl rfl rfl ?_
  refine xV_step (o1 := (1000, lc_v i, [], h2, c, s)) rfl rfl rfl rfl ?_
  exact xV_stop
set_option maxRecDepth 100000 in
set_option maxHeartbeats 4000000 in
/-- count -/
theorem lo_27 (hL : L ≤ 3072) (hi6 : i + 6 ≤ L) (I : lc_I h) : lo_P L xs i 975 h c s := by
  obtain ⟨⟨t, tp⟩, ⟨mem, m12, e9, e4⟩, ⟨sc, sc8, e8, e33⟩, ⟨td, td9, e10, e3⟩, ⟨vc, vc6, e35, e63⟩, e1, e11, ch, pl, si, vs, pi⟩ := I.2.2.2
  have R := I.2.2.2
  obtain ⟨v1, h1, r1, k1⟩ := lc_3 (D := 49) (C := aC_m_X9_count) (m := xmi_X9_count) (A := [.ref 0, .int (xs (i + 1))]) I.1 I.2.1 as_m_X9_count rfl (by decide) ⟨a_av (by decide) I.2.1, a_an, trivial⟩ rfl
  have l1 : 72 ≤ h1.1.length := hk_n k1 I.2.1
  obtain ⟨v2, h2, r2, k2⟩ := lc_3 (D := 49) (C := aC_m_X10_count) (m := xmi_X10_count) (A := [.ref 39, .int (xs (i + 1))]) k1.1 l1 as_m_X10_count rfl (by decide) ⟨a_av (by decide) l1, a_an, trivial⟩ rfl
  obtain rfl := xq_Z (hn := (show List.Nodup [0, 1] by decide)) r1 (fun f => cn9_q (f := f) (x := xs (i + 1)) (lc_Iq I) e10 e9 e8 e35 tp.1)
  obtain rfl := xq_Z (hn := (show List.Nodup [0, 1] by decide)) r2 (fun f => cn10_q (f := f) (x := xs (i + 1)) (hk_q k1 I.2.1) ((hk_g (c := 39) (k := 3) k1 rfl rfl).trans e3) ((hk_g (c := 39) (k := 4) k1 rfl rfl).trans e4) ((hk_g (c := 39) (k := 33) k1 rfl rfl).trans e33) ((hk_g (c := 39) (k := 63) k1 rfl rfl).trans e63) ((hk_g (c := 39) (k := 2) k1 rfl rfl).trans tp.2.1))
  have f1 := k1.2.2
  have f2 := k2.2.2
  have I2 : lc_I h2 := ⟨k2.1, hk_n k2 l1, by rw [k2.2.1, k1.2.1]; exact I.2.2.1, ⟨tp_2 f1 f2 rfl (fun _ => rfl) rfl (fun _ => rfl) rfl (fun _ => rfl) rfl (fun _ => rfl) R.1, rb_2 f1 f2 rfl rfl rfl rfl rfl rfl R.2.1, rb_2 f1 f2 rfl rfl rfl rfl rfl rfl R.2.2.1, rb_2 f1 f2 rfl rfl rfl rfl rfl rfl R.2.2.2.1, rb_2 f1 f2 rfl rfl rfl rfl rfl rfl R.2.2.2.2.1, pr_2 f1 f2 rfl rfl rfl rfl rfl rfl R.2.2.2.2.2.1, pr_2 f1 f2 rfl rfl rfl rfl rfl rfl R.2.2.2.2.2.2.1, ch_2 f1 f2 rfl rfl R.2.2.2.2.2.2.2.1, pl_2 f1 f2 rfl rfl R.2.2.2.2.2.2.2.2.1, SI_2 I.1 I.2.1 k1.1 l1 (fz_run (by decide +kernel) r1) (fz_run (by decide +kernel) r2) f1 f2 rfl rfl R.2.2.2.2.2.2.2.2.2.1, VZ_2 f1 f2 rfl rfl R.2.2.2.2.2.2.2.2.2.2.1, PI_2 I.1 I.2.1 k1.1 l1 (fz_run (by decide +kernel) r1) (qz_run (by decide +kernel) r1) f1 rfl (fz_run (by decide +kernel) r2) (qz_run (by decide +kernel) r2) f2 rfl (RI_p R)⟩⟩
  refine ⟨h2, c, s, ?_, I2, by omega, by omega⟩
  refine xV_step (o1 := (976, lc_v i, [.ref 0], h, c, s)) rfl rfl rfl rfl ?_
  refine xV_arg 1 1 rfl (by omega) hL rfl rfl rfl rfl rfl rfl rfl rfl rfl rfl ?_
  refine xV_call (d := 49) rfl rfl rfl rfl (xa_c_ok (d := 49) (pc := 982) (lv := lc_v i) (nL := 8) (lc_Iq I) rfl).1 r1 ?_
  refine xV_step (o1 := (986, lc_v i, [], h1, c, s)) rfl rfl rfl rfl ?_
  refine xV_step (o1 := (987, lc_v i, [.ref 39], h1, c, s)) rfl rfl rfl rfl ?_
  refine xV_arg 1 1 rfl (by omega) hL rfl rfl rfl rfl rfl rfl rfl rfl rfl rfl ?_
  refine xV_call (d := 49) rfl rfl rfl rfl (xa_c_ok (d := 49) (pc := 993) (lv := lc_v i) (nL := 8) (hk_q k1 I.2.1) rfl).1 r2 ?_
  refine xV_step (o1 := (997, lc_v i, [], h2, c, s)) rfl rfl rfl rfl ?_
  refine xV_step (o1 := (1000, lc_v i, [], h2, c, s)) rfl rfl rfl rfl ?_
  exact xV_stop
set_option maxRecDepth 100000 in
set_option maxHeartbeats 4000000 in
/-- sure -/
theorem lo_25 (hL : L ≤ 3072) (hi6 : i + 6 ≤ L) (I : lc_I h) : lo_P L xs i 913 h c s := by
  obtain ⟨⟨t, tp⟩, ⟨mem, m12, e9, e4⟩, ⟨sc, sc8, e8, e33⟩, ⟨td, td9, e10, e3⟩, ⟨vc, vc6, e35, e63⟩, e1, e11, ch, pl, si, vs, pi⟩ := I.2.2.2
  have R := I.2.2.2
  obtain ⟨v1, h1, r1, k1⟩ := lc_3 (D := 49) (C := aC_m_X9_sure) (m := xmi_X9_sure) (A := [.ref 0, .int (xs (i + 1)), .int (xs (i + 2))]) I.1 I.2.1 as_m_X9_sure rfl (by decide) ⟨a_av (by decide) I.2.1, a_an, a_an, trivial⟩ rfl
  have l1 : 72 ≤ h1.1.length := hk_n k1 I.2.1
  obtain ⟨v2, h2, r2, k2⟩ := lc_3 (D := 49) (C := aC_m_X10_sure) (m := xmi_X10_sure) (A := [.ref 39, .int (xs (i + 1)), .int (xs (i + 2))]) k1.1 l1 as_m_X10_sure rfl (by decide) ⟨a_av (by decide) l1, a_an, a_an, trivial⟩ rfl
  obtain rfl := xq_Z (hn := (show List.Nodup [0, 1, 2] by decide)) r1 (fun f => su9_q (f := f) (S := fun k => xg 0 h.2.1 36 k) (D := fun k => xg 0 h.2.1 37 k) (P := fun k => xg 0 h.2.1 38 k) (x := xs (i + 1)) (t := xs (i + 2)) (z := nI mem) vc6 e35 (fun _ _ => ⟨rfl, rfl, rfl⟩) e9 (lc_Iq I))
  obtain rfl := xq_Z (hn := (show List.Nodup [0, 1, 2] by decide)) r2 (fun f => su10_q (f := f) (S := fun k => xg 0 h.2.1 36 k) (D := fun k => xg 0 h.2.1 37 k) (P := fun k => xg 0 h.2.1 38 k) (x := xs (i + 1)) (t := xs (i + 2)) (z := nI mem) vc6 ((hk_g (c := 39) (k := 63) k1 rfl rfl).trans e63) (fun k hk' => ⟨(hk_g (c := 68) (k := k) k1 rfl rfl).trans (ch k (by omega)).1.symm, (hk_g (c := 69) (k := k) k1 rfl rfl).trans (ch k (by omega)).2.1.symm, (hk_g (c := 70) (k := k) k1 rfl rfl).trans (ch k (by omega)).2.2.symm⟩) ((hk_g (c := 39) (k := 4) k1 rfl rfl).trans e4) (hk_q k1 I.2.1))
  have f1 := k1.2.2
  have f2 := k2.2.2
  have I2 : lc_I h2 := ⟨k2.1, hk_n k2 l1, by rw [k2.2.1, k1.2.1]; exact I.2.2.1, ⟨tp_2 f1 f2 rfl (fun _ => rfl) rfl (fun _ => rfl) rfl (fun _ => rfl) rfl (fun _ => rfl) R.1, rb_2 f1 f2 rfl rfl rfl rfl rfl rfl R.2.1, rb_2 f1 f2 rfl rfl rfl rfl rfl rfl R.2.2.1, rb_2 f1 f2 rfl rfl rfl rfl rfl rfl R.2.2.2.1, rb_2 f1 f2 rfl rfl rfl rfl rfl rfl R.2.2.2.2.1, pr_2 f1 f2 rfl rfl rfl rfl rfl rfl R.2.2.2.2.2.1, pr_2 f1 f2 rfl rfl rfl rfl rfl rfl R.2.2.2.2.2.2.1, ch_2 f1 f2 rfl rfl R.2.2.2.2.2.2.2.1, pl_2 f1 f2 rfl rfl R.2.2.2.2.2.2.2.2.1, SI_2 I.1 I.2.1 k1.1 l1 (fz_run (by decide +kernel) r1) (fz_run (by decide +kernel) r2) f1 f2 rfl rfl R.2.2.2.2.2.2.2.2.2.1, VZ_2 f1 f2 rfl rfl R.2.2.2.2.2.2.2.2.2.2.1, PI_2 I.1 I.2.1 k1.1 l1 (fz_run (by decide +kernel) r1) (qz_run (by decide +kernel) r1) f1 rfl (fz_run (by decide +kernel) r2) (qz_run (by decide +kernel) r2) f2 rfl (RI_p R)⟩⟩
  refine ⟨h2, c, s, ?_, I2, by omega, by omega⟩
  refine xV_step (o1 := (914, lc_v i, [.ref 0], h, c, s)) rfl rfl rfl rfl ?_
  refine xV_arg 1 1 rfl (by omega) hL rfl rfl rfl rfl rfl rfl rfl rfl rfl rfl ?_
  refine xV_arg 2 2 rfl (by omega) hL rfl rfl rfl rfl rfl rfl rfl rfl rfl rfl ?_
  refine xV_call (d := 49) rfl rfl rfl rfl (xa_c_ok (d := 49) (pc := 926) (lv := lc_v i) (nL := 8) (lc_Iq I) rfl).1 r1 ?_
  refine xV_step (o1 := (930, lc_v i, [], h1, c, s)) rfl rfl rfl rfl ?_
  refine xV_step (o1 := (931, lc_v i, [.ref 39], h1, c, s)) rfl rfl rfl rfl ?_
  refine xV_arg 1 1 rfl (by omega) hL rfl rfl rfl rfl rfl rfl rfl rfl rfl rfl ?_
  refine xV_arg 2 2 rfl (by omega) hL rfl rfl rfl rfl rfl rfl rfl rfl rfl rfl ?_
  refine xV_call (d := 49) rfl rfl rfl rfl (xa_c_ok (d := 49) (pc := 943) (lv := lc_v i) (nL := 8) (hk_q k1 I.2.1) rfl).1 r2 ?_
  refine xV_step (o1 := (947, lc_v i, [], h2, c, s)) rfl rfl rfl rfl ?_
  refine xV_step (o1 := (1000, lc_v i, [], h2, c, s)) rfl rfl rfl rfl ?_
  exact xV_stop
set_option maxRecDepth 100000 in
set_option maxHeartbeats 4000000 in
/-- open -/
theorem lo_26 (hL : L ≤ 3072) (hi6 : i + 6 ≤ L) (I : lc_I h) : lo_P L xs i 950 h c s := by
  obtain ⟨⟨t, tp⟩, ⟨mem, m12, e9, e4⟩, ⟨sc, sc8, e8, e33⟩, ⟨td, td9, e10, e3⟩, ⟨vc, vc6, e35, e63⟩, e1, e11, ch, pl, si, vs, pi⟩ := I.2.2.2
  have R := I.2.2.2
  obtain ⟨v1, h1, r1, k1⟩ := lc_3 (D := 49) (C := aC_m_X9_open) (m := xmi_X9_open) (A := [.ref 0, .int (xs (i + 1))]) I.1 I.2.1 as_m_X9_open rfl (by decide) ⟨a_av (by decide) I.2.1, a_an, trivial⟩ rfl
  have l1 : 72 ≤ h1.1.length := hk_n k1 I.2.1
  obtain ⟨v2, h2, r2, k2⟩ := lc_3 (D := 49) (C := aC_m_X10_open) (m := xmi_X10_open) (A := [.ref 39, .int (xs (i + 1))]) k1.1 l1 as_m_X10_open rfl (by decide) ⟨a_av (by decide) l1, a_an, trivial⟩ rfl
  obtain rfl := xq_Z (hn := (show List.Nodup [0, 1] by decide)) r1 (fun f => op9_q (f := f) (S := fun k => xg 0 h.2.1 36 k) (D := fun k => xg 0 h.2.1 37 k) (P := fun k => xg 0 h.2.1 38 k) (t := xs (i + 1)) vc6 m12 e35 (fun _ _ => ⟨rfl, rfl, rfl⟩) e9 (lc_Iq I))
  obtain rfl := xq_Z (hn := (show List.Nodup [0, 1] by decide)) r2 (fun f => op10_q (f := f) (S := fun k => xg 0 h.2.1 36 k) (D := fun k => xg 0 h.2.1 37 k) (P := fun k => xg 0 h.2.1 38 k) (t := xs (i + 1)) vc6 m12 ((hk_g (c := 39) (k := 63) k1 rfl rfl).trans e63) (fun k hk' => ⟨(hk_g (c := 68) (k := k) k1 rfl rfl).trans (ch k (by omega)).1.symm, (hk_g (c := 69) (k := k) k1 rfl rfl).trans (ch k (by omega)).2.1.symm, (hk_g (c := 70) (k := k) k1 rfl rfl).trans (ch k (by omega)).2.2.symm⟩) ((hk_g (c := 39) (k := 4) k1 rfl rfl).trans e4) (hk_q k1 I.2.1))
  have f1 := k1.2.2
  have f2 := k2.2.2
  have I2 : lc_I h2 := ⟨k2.1, hk_n k2 l1, by rw [k2.2.1, k1.2.1]; exact I.2.2.1, ⟨tp_2 f1 f2 rfl (fun _ => rfl) rfl (fun _ => rfl) rfl (fun _ => rfl) rfl (fun _ => rfl) R.1, rb_2 f1 f2 rfl rfl rfl rfl rfl rfl R.2.1, rb_2 f1 f2 rfl rfl rfl rfl rfl rfl R.2.2.1, rb_2 f1 f2 rfl rfl rfl rfl rfl rfl R.2.2.2.1, rb_2 f1 f2 rfl rfl rfl rfl rfl rfl R.2.2.2.2.1, pr_2 f1 f2 rfl rfl rfl rfl rfl rfl R.2.2.2.2.2.1, pr_2 f1 f2 rfl rfl rfl rfl rfl rfl R.2.2.2.2.2.2.1, ch_2 f1 f2 rfl rfl R.2.2.2.2.2.2.2.1, pl_2 f1 f2 rfl rfl R.2.2.2.2.2.2.2.2.1, SI_2 I.1 I.2.1 k1.1 l1 (fz_run (by decide +kernel) r1) (fz_run (by decide +kernel) r2) f1 f2 rfl rfl R.2.2.2.2.2.2.2.2.2.1, VZ_2 f1 f2 rfl rfl R.2.2.2.2.2.2.2.2.2.2.1, PI_2 I.1 I.2.1 k1.1 l1 (fz_run (by decide +kernel) r1) (qz_run (by decide +kernel) r1) f1 rfl (fz_run (by decide +kernel) r2) (qz_run (by decide +kernel) r2) f2 rfl (RI_p R)⟩⟩
  refine ⟨h2, c, s, ?_, I2, by omega, by omega⟩
  refine xV_step (o1 := (951, lc_v i, [.ref 0], h, c, s)) rfl rfl rfl rfl ?_
  refine xV_arg 1 1 rfl (by omega) hL rfl rfl rfl rfl rfl rfl rfl rfl rfl rfl ?_
  refine xV_call (d := 49) rfl rfl rfl rfl (xa_c_ok (d := 49) (pc := 957) (lv := lc_v i) (nL := 8) (lc_Iq I) rfl).1 r1 ?_
  refine xV_step (o1 := (961, lc_v i, [], h1, c, s)) rfl rfl rfl rfl ?_
  refine xV_step (o1 := (962, lc_v i, [.ref 39], h1, c, s)) rfl rfl rfl rfl ?_
  refine xV_arg 1 1 rfl (by omega) hL rfl rfl rfl rfl rfl rfl rfl rfl rfl rfl ?_
  refine xV_call (d := 49) rfl rfl rfl rfl (xa_c_ok (d := 49) (pc := 968) (lv := lc_v i) (nL := 8) (hk_q k1 I.2.1) rfl).1 r2 ?_
  refine xV_step (o1 := (972, lc_v i, [], h2, c, s)) rfl rfl rfl rfl ?_
  refine xV_step (o1 := (1000, lc_v i, [], h2, c, s)) rfl rfl rfl rfl ?_
  exact xV_stop
end XLH
end
section
section XSH
/-- the words of the throw -/
def sh_N : String := "java/util/NoSuchElementException"
def sh_ns : List String := ["java/lang/RuntimeException", "java/lang/Exception"]
/-- words that stay, but are not of xG -/
def sh_b : List Cond := [.declares ⟨"java/lang/RuntimeException", "<init>", "()V"⟩, .declares ⟨"java/lang/Exception", "<init>", "()V"⟩, .declares ⟨"java/lang/Throwable", "<init>", "()V"⟩, .castable sh_N sh_N]
def sh_W (U : State) : Prop := ∀ w ∈ sh_b, w.before #[] U = true
theorem sh_bt : ∀ w ∈ sh_b, w.onTables = true := by decide
theorem sh_W.moved {s U : State} (hA : s.vm.Alike U.vm) (h : sh_W s) : sh_W U := by
  intro w hw
  refine va_tabs (sh_bt w hw) (rfl : (s.setVm U.vm).vm = U.vm) ?_ (A := #[])
  have h1 := h w hw
  unfold sh_b at hw
  simp only [List.mem_cons, List.not_mem_nil, or_false] at hw
  rcases hw with rfl | rfl | rfl | rfl
  · rw [Cond.declares_setVm hA]; exact h1
  · rw [Cond.declares_setVm hA]; exact h1
  · rw [Cond.declares_setVm hA]; exact h1
  · rw [Cond.castable_setVm hA]; exact h1
theorem sh_W.at {U : State} {args : Array Value} (h : sh_W U) {w : Cond} (hw : w ∈ sh_b) : w.before args U = true := va_tabs (sh_bt w hw) rfl (h w hw)
def sh_ck : List Cond → List (Nat × Nat) → Bool
  | [], [] => true
  | w :: ws, p :: ps => cond (Nat.beq p.1 9) (decide (sh_b[p.2]? = some w)) (xw_b p.1 p.2 w) && sh_ck ws ps
  | _, _ => false
theorem sh_ck_ok : ∀ (L : List Cond) (ps : List (Nat × Nat)), sh_ck L ps = true → ∀ w ∈ L, w ∈ xG ∨ w ∈ sh_b := by
  intro L
  induction L with
  | nil => intro ps h w hw; cases hw
  | cons w L ih =>
    intro ps h
    cases ps with
    | nil => cases h
    | cons q ps =>
      obtain ⟨h1, h2⟩ := xw_bb h
      intro w' hw
      rcases List.mem_cons.mp hw with rfl | hw
      · cases hq : Nat.beq q.1 9 with
        | true => rw [hq] at h1; exact Or.inr (List.mem_of_getElem? (of_decide_eq_true h1))
        | false => rw [hq] at h1; exact Or.inl (xw_in h1)
      · exact ih ps h2 w' hw
def sh_ps : List (Nat × Nat) := [(1, 18), (5, 16), (5, 25), (5, 27), (5, 30), (5, 32), (5, 17), (5, 18), (1, 28), (1, 29), (5, 19), (5, 24), (5, 28), (5, 44), (5, 6), (5, 45), (5, 8), (5, 46), (5, 10), (5, 20), (5, 22), (5, 12), (5, 34), (5, 35), (5, 36), (5, 37), (9, 0), (5, 37), (5, 38), (5, 39), (5, 40), (9, 1), (5, 40), (5, 41), (5, 42), (5, 17), (9, 2), (5, 33), (4, 235), (9, 3), (5, 3), (5, 4), (5, 5), (5, 7), (5, 9), (5, 11), (5, 15), (5, 14), (5, 13)]
set_option maxRecDepth 100000 in
theorem sh_at : ∀ w ∈ vx_at0 RX9 186 sh_N sh_ns, w ∈ xG ∨ w ∈ sh_b := sh_ck_ok _ sh_ps (by decide +kernel)
theorem sh_gd : ∀ w ∈ vx_at0 RX9 186 sh_N sh_ns, vx_ot w = true := fun w hw => by
  unfold vx_ot
  rcases sh_at w hw with h | h
  · rw [(List.mem_filter.mp h).2, Bool.or_true]
  · rw [sh_bt w h, Bool.true_or]
theorem sh_k : Cond.classLink RX9 184 sh_N ∈ xG := xw_in (K := 4) (i := 234) (by decide +kernel)
theorem sh_i : Cond.initialized sh_N ∈ xG := xw_in (K := 1) (i := 21) (by decide +kernel)
theorem sh_lc : Cond.classLink RL 13 sh_N ∈ xG := xw_in (K := 4) (i := 229) (by decide +kernel)
theorem sh_ca : Cond.castable sh_N sh_N ∈ sh_b := List.mem_of_getElem? (i := 3) rfl
theorem sh_lk : Cond.methodLink RL 68 yL_share ∈ xG := xw_in (K := 4) (i := 226) (by decide +kernel)
theorem sh_ls : Cond.static yL_share ∈ xG := xw_in (K := 4) (i := 227) (by decide +kernel)
theorem sh_lw : Cond.codeWith yL_share cL_share 6 (some .int) [(0, 11, 14, 13)] ∈ xG := xw_in (K := 4) (i := 228) (by decide +kernel)
theorem sh_li : Cond.initialized RL ∈ xG := xw_in (K := 1) (i := 0) (by decide +kernel)
theorem sh_l9 : Cond.methodLink RL 7 yX9_share ∈ xG := xw_in (K := 4) (i := 230) (by decide +kernel)
/-- fields that hold references have bounds of references -/
def rf_t (ty : FieldType) : Bool := match ty with
  | .object _ => true
  | .array _ => true
  | _ => false
def rf_ck : Bool := (List.range 72).all fun t => match a_sh[t]? with
  | some (0, ci) => (List.range (xh_N ci)).all fun k => !(rf_t (xh_ty ci k)) || (Nat.beq (a_ent a_tb (0, ci) t k).1 2 || Nat.beq (a_ent a_tb (0, ci) t k).1 3)
  | _ => true
set_option maxRecDepth 100000 in
theorem rf_ok : rf_ck = true := by decide +kernel
theorem rf_e {h : xh_H} {c k q : Nat} {e : Nat × Int × Int} (a : a_e h c k e) (hk : e.1 = 2 ∨ e.1 = 3) (hq : xg none h.2.2.2 c k = some q) : q < h.1.length := by
  obtain ⟨t, lo, hi⟩ := e
  have hk : t = 2 ∨ t = 3 := hk
  rcases hk with rfl | rfl
  · obtain ⟨q', h1, h2⟩ := a
    rw [h1] at hq
    cases hq
    exact h2.1
  · exact (a q hq).1
theorem rf_b {h : xh_H} (hi : a_inw a_tb h) {c ci k q : Nat} (hs : h.1[c]? = some (0, ci)) (hk : k < xh_N ci) (ht : rf_t (xh_ty ci k) = true) (hq : xg none h.2.2.2 c k = some q) : q < h.1.length := by
  obtain ⟨a1, a2⟩ := hi c _ hs
  have hc := (List.getElem?_eq_some_iff.mp a1).1
  have g := List.all_eq_true.mp rf_ok (a_tg c) (List.mem_range.mpr hc)
  rw [a1] at g
  have g2 := List.all_eq_true.mp g k (List.mem_range.mpr hk)
  rw [ht] at g2
  have g3 : (Nat.beq (a_ent a_tb (0, ci) (a_tg c) k).1 2 || Nat.beq (a_ent a_tb (0, ci) (a_tg c) k).1 3) = true := g2
  rw [Bool.or_eq_true] at g3
  exact rf_e (a2 k hk) (g3.imp xw_beq xw_beq) hq
theorem rf_5 {h : xh_H} (hi : a_inw a_tb h) {c n k q : Nat} (hs : h.1[c]? = some (5, n)) (hk : k < n) (hq : xg none h.2.2.2 c k = some q) : q < h.1.length := by
  obtain ⟨a1, a2⟩ := hi c _ hs
  have hc : a_tg c < 72 := (List.getElem?_eq_some_iff.mp a1).1
  have g : ∀ t, t < 72 → a_sh[t]? = some (5, n) → (a_ent a_tb (5, n) t k).1 = 3 := by
    intro t ht hs'
    have g0 : (List.range 72).all (fun t => match a_sh[t]? with
      | some (5, _) => Nat.beq t 13
      | _ => true) = true := by decide
    have g1 := List.all_eq_true.mp g0 t (List.mem_range.mpr ht)
    rw [hs'] at g1
    have g2 : t = 13 := xw_beq g1
    subst g2
    rfl
  exact rf_e (a2 k hk) (Or.inr (g _ hc a1)) hq
def sh_ad (ad : Nat → Nat) (n sz : Nat) (k : Nat) : Nat := if k < n then ad k else sz + (k - n)
theorem arrV_cg {cA : ClassId} {n : Nat} {f g : Nat → Value} (e : ∀ j, j < n → f j = g j) : arrV cA n f = arrV cA n g := by
  unfold arrV
  congr 1
  apply congrArg
  funext j
  exact e j.val j.isLt
/-- the heap has grown by what is not ours -/
theorem sh_grow {D : va_G} {cy : Nat → ClassId} {ad : Nat → Nat} {A : Nat → Prop} {h : xh_H} {H1 H2 : Heap} (hi : a_inw a_tb h) (hat : xh_at D cy ad A h H1) (hk : ∀ q : Nat, q < H1.size → H2[q]? = H1[q]?) : xh_at D cy (sh_ad ad h.1.length H2.size) A h H2 := by
  have el : ∀ k, k < h.1.length → sh_ad ad h.1.length H2.size k = ad k := fun k z => if_pos z
  have gt : ∀ (k : Nat) (q : Nat × va_E), (xh_ws (sh_ad ad h.1.length H2.size) cy h)[k]? = some q → ∃ sh : Nat × Nat, h.1[k]? = some sh ∧ q = (ad k, xh_e (sh_ad ad h.1.length H2.size) cy h k sh) := by
    intro k q hq
    rw [xh_ws_get] at hq
    cases hs : h.1[k]? with
    | none => rw [hs] at hq; cases hq
    | some sh =>
      rw [hs] at hq
      have := (List.getElem?_eq_some_iff.mp hs).1
      refine ⟨sh, rfl, ?_⟩
      rw [← el k this]
      exact (Option.some.inj hq).symm
  refine ⟨fun k q hq => ?_, ⟨fun i j p q hp hq e => ?_, fun k q hq => ?_⟩, fun j => ?_⟩
  · obtain ⟨sh, hs, rfl⟩ := gt k q hq
    have w0 := xh_ws_at (ad := ad) (cy := cy) hs
    have w1 : va_at D vwCl (ad k, xh_e ad cy h k sh) H2 := (hat.1 k _ w0).kept (hk _ (vx_lt hat.1 w0))
    obtain ⟨kd, n⟩ := sh
    match kd, hs, w1 with
    | 0, hs, w1 =>
      have e : xh_e (sh_ad ad h.1.length H2.size) cy h k (0, n) = xh_e ad cy h k (0, n) := by
        show Sum.inr (n, (List.range (xh_N n)).map (fun j => xh_fv (sh_ad ad h.1.length H2.size) h k (xh_ty n j) j)) = Sum.inr (n, (List.range (xh_N n)).map (fun j => xh_fv ad h k (xh_ty n j) j))
        refine congrArg (fun z => Sum.inr (n, z)) (List.map_congr_left (fun j hj => ?_))
        have hj := List.mem_range.mp hj
        have hm : rf_t (xh_ty n j) = true → (xg none h.2.2.2 k j).map (sh_ad ad h.1.length H2.size) = (xg none h.2.2.2 k j).map ad := by
          intro ht
          cases hx : xg none h.2.2.2 k j with
          | none => rfl
          | some q => exact congrArg some (el q (rf_b hi hs hj ht hx))
        cases ht : xh_ty n j <;> first | rfl | (unfold xh_fv; exact congrArg va_rf (hm (by rw [ht]; rfl)))
      rw [e]
      exact w1
    | 1, _, w1 => exact w1
    | 2, _, w1 => exact w1
    | 3, _, w1 => exact w1
    | 4, _, w1 => exact w1
    | 5, hs, w1 =>
      have w2 : H2[ad k]? = some (arrV (cy 5) n (fun j => va_rf ((xg none h.2.2.2 k j).map ad))) := w1
      show H2[ad k]? = some (arrV (cy 5) n (fun j => va_rf ((xg none h.2.2.2 k j).map (sh_ad ad h.1.length H2.size))))
      rw [w2]
      refine congrArg some (arrV_cg (fun j hj => ?_))
      cases hx : xg none h.2.2.2 k j with
      | none => rfl
      | some q => exact congrArg va_rf (congrArg some (el q (rf_5 hi hs hj hx)).symm)
    | m + 6, _, w1 => exact w1
  · obtain ⟨s1, hs1, rfl⟩ := gt i p hp
    obtain ⟨s2, hs2, rfl⟩ := gt j q hq
    exact hat.2.1.1 i j _ _ (xh_ws_at hs1) (xh_ws_at hs2) e
  · obtain ⟨s1, hs1, rfl⟩ := gt k q hq
    exact hat.2.1.2 k (ad k, xh_e ad cy h k s1) (xh_ws_at hs1)
  · unfold sh_ad
    rw [if_neg (by omega)]
    omega
def sh_U (A : Nat → Prop) (U : State) : Prop := vx_Zq Bundle.tN "UNASSIGNED_STACK" Bundle.steD A U U.heap ∧ vx_Zq Bundle.tN "SUPPRESSED_SENTINEL" Bundle.listD A U U.heap ∧ sh_W U
def sh_P (D : va_G) (cy : Nat → ClassId) (ad sp : Nat → Nat) (h : xh_H) (sz : Nat) (U : State) : Prop := xq_P D cy ad sp h sz U ∧ sh_U (va_A (xh_ws ad cy h) sz) U
variable {p : Program} {l : Launch} {e : Env} {R : Room} {s : State} {m : MethodId} {args : Array Value} {below : List Frame} {meth : Method} {c : Code} {H : Heap} {locs : List Loc} {cells slots : Nat} {Q : State → Prop}
variable {cc : ByteArray} {ls : Array Slot} {D : va_G} {A : Nat → Prop} {ad sp : Nat → Nat} {cy : Nat → ClassId} {nL : Nat} {own : String} {ini : Bool}
theorem sh_blind (vs : List Value) (h : xh_H) (sz : Nat) : FrameBlind (va_Pc vs (sh_P D cy ad sp h sz)) := by
  intro a U g mk hp
  obtain ⟨h0, h1, h2, h3, h4⟩ := hp
  have b := xq_blind (D := D) (cy := cy) (ad := ad) (sp := sp) vs h sz a U g mk ⟨h0, h1⟩
  exact ⟨b.1, b.2, vx_Zq.moved (u := U) (U := U.calling g mk a) (Vm.Alike.refl U.vm) h2, vx_Zq.moved (u := U) (U := U.calling g mk a) (Vm.Alike.refl U.vm) h3, sh_W.moved (s := U) (U := U.calling g mk a) (Vm.Alike.refl U.vm) h4⟩
theorem sh_pre {h : xh_H} {vs : List Value} (X : xc_X p s m args meth c cc nL own ini D cy A sp) (hat : xh_at D cy ad A h H) (hS : va_S A s.heap H locs) (hU : sh_U A s) : ∀ U : State, U.heap = H → s.WarmedH U.vm → va_Pc vs (sh_P D cy ad sp h H.size) vs.toArray U := by
  intro U hU0 hW
  have b := xq_pre (vs := vs) X hat hS U hU0 hW
  have hf := xq_free hat hS X.2.2.2.2.2.2.1
  refine ⟨b.1, b.2, ?_, ?_, hU.2.2.moved hW.alike⟩
  · rw [hU0]; exact vx_Zq.moved hW.alike ((hU.1.kept hS.2.1).narrow hf)
  · rw [hU0]; exact vx_Zq.moved hW.alike ((hU.2.1.kept hS.2.1).narrow hf)
/-- what is known behind a throw: our cells as they were, the heap grown -/
def sh_B (D : va_G) (cy : Nat → ClassId) (ad : Nat → Nat) (A : Nat → Prop) (h : xh_H) (t : State) : Prop := ∃ H1 : Heap, xh_at D cy ad A h H1 ∧ H1.size ≤ t.heap.size ∧ ∀ q : Nat, q < H1.size → t.heap[q]? = H1[q]?
set_option maxHeartbeats 4000000 in
theorem sh_thr {f : Nat} {As : List Value} {h : xh_H} {lv' : List (Nat × Value)} (he : xe_u xM xC none 26 f 48 xi_X9_share xmi_X9_share (0, lv_args 0 As, [], h, 0, 0) = some (26, lv', [], h, 0, 0)) (hfit : xm_cat As ≤ 11) (l : Launch) (hl : l.stackTraces = false) (sz : Nat) : vx_Met l yX9_share (Cond.code yX9_share cX9_share 11 (some .long) :: xG) (xm_rm 48 1 6) (va_Pc (As.map (xh_v ad sp)) (sh_P D cy ad sp h sz)) (va_Ql (fun _ (_ : Unit) => False) (fun _ _ => True) (va_A (xh_ws ad cy h) sz)) (vx_X (fun _ : Unit => True) (fun E _ t => E = sh_N ∧ sh_B D cy ad (va_A (xh_ws ad cy h) sz) h t) (va_A (xh_ws ad cy h) sz)) 1 6 (va_A (xh_ws ad cy h) sz) := by
  refine vx_ofW (cc := cX9_share) (maxL := 11) (ret := some .long) (by decide) rfl ?_
  intro p e s m args below meth c s₁ B hml hexc hv
  obtain ⟨rfl, ⟨hsz, hat, hK, hO⟩, hU, hN, hW⟩ := hv
  have hts := atoms_spec (ws := Cond.code yX9_share cX9_share 11 (some .long) :: xG) B.pre
  have hG : ∀ w ∈ xG, w.before (As.map (xh_v ad sp)).toArray s = true := fun w hw => hts w (List.mem_cons_of_mem _ hw)
  have hown : s.vm.findClass RX9 = some m.cls := findClass_of_methodNamed B.named
  have hl0 := lv_entry (As.map (xh_v ad sp)) (n := 11) (by rw [lg_sl_len, xm_cat_m]; exact hfit)
  rw [lv_args_m] at hl0
  rw [lg_entry_eq]
  subst hsz
  have hD := hat.2.1.self (sz := s.heap.size)
  have X : xc_X p s m (As.map (xh_v ad sp)).toArray meth c xmi_X9_share.2.2.1 xmi_X9_share.2.2.2.1 xmi_X9_share.1 (xm_ini xmi_X9_share) D cy (va_A (xh_ws ad cy h) s.heap.size) sp := ⟨B.exec, B.bytes, hml, hown, hG, hK, fun q hq => Or.inr hq, hO, fun z => by cases z⟩
  refine xS_u xP (mid := xi_X9_share) (mi := xmi_X9_share) rfl X (scr := none) (fun L xs z => by cases z) f 48 0 _ [] h 0 0 26 lv' [] h 0 0 _ _ _ he ⟨Nat.le_refl _, Nat.le_refl _, Nat.zero_le _, Nat.zero_le _⟩ ⟨⟨hat.1, hD, hat.2.2⟩, va_S.rf, hl0⟩ ?_
  intro H1 locs1 ls1 S1
  obtain ⟨hat1, hS1, hl1⟩ := S1
  refine vx_throw0 (own := RX9) (cls := sh_N) (names := sh_ns) (ik := 184) (ic := 186) (A := va_A (xh_ws ad cy h) s.heap.size) (rest := []) B.exec B.bytes hl hown (by decide) (by decide) (hG _ sh_k) (hG _ sh_i) (fun w hw => (sh_at w hw).elim (fun h => hG w h) (fun h => hW.at h)) ?_ hU hN hS1 (hl1.1.trans hml.symm) (by decide +kernel) (by decide +kernel) (by decide +kernel) (by decide +kernel) (fun x hx => (hexc x hx).elim) (Nat.le_of_ble_eq_true rfl) (Nat.le_of_ble_eq_true rfl) (Nat.le_of_ble_eq_true rfl) (Nat.le_of_ble_eq_true rfl) B.notSynchronized ?_ hS1.2.2 (by decide) (by decide)
  · intro w hw
    rcases List.mem_cons.mp hw with rfl | hw
    · unfold vx_ot; rw [(List.mem_filter.mp sh_k).2, Bool.or_true]
    · rcases List.mem_cons.mp hw with rfl | hw
      · unfold vx_ot; rw [(List.mem_filter.mp sh_i).2, Bool.or_true]
      · exact sh_gd w hw
  · intro t hv hz hk
    refine ⟨(), trivial, ⟨rfl, H1, hat1, hz, hk⟩, Nat.le_trans hS1.1 hz, fun q h1 h2 => ?_⟩
    rw [hk q (Nat.lt_of_lt_of_le h1 hS1.1)]
    exact hS1.2.1 q h1 h2
end XSH
end
section
section XSI
variable {p : Program} {l : Launch} {e : Env} {R : Room} {s : State} {m : MethodId} {args : Array Value} {below : List Frame} {meth : Method} {c : Code} {H : Heap} {locs : List Loc} {cells slots : Nat} {Q : State → Prop}
variable {ls : Array Slot} {D : va_G} {A : Nat → Prop} {ad sp : Nat → Nat} {cy : Nat → ClassId}
def ls_lv (a b d : Int32) : List (Nat × Value) := lv_args 0 [.ref 0, .int a, .int b, .int d, .ref 71]
set_option maxRecDepth 100000 in
set_option maxHeartbeats 4000000 in
/-- the law's share, up to its call -/
theorem ls_pre (X : xc_X p s m args meth c cL_share 6 RL false D cy A sp) {a b d : Int32} {h : xh_H} (hR : 49 ≤ R.frames ∧ 40 * 49 ≤ R.locals) (S : xc_S D cy ad sp A s 6 h (ls_lv a b d) H locs ls)
    (kk : ∀ (H1 : Heap) (locs1 : List Loc) (ls1 : Array Slot), xc_S D cy ad sp A s 6 h (ls_lv a b d) H1 locs1 ls1 → W p l e R s m args below meth c H1 locs1 0 0 Q (F0 m 7 ls1 (([.int d, .int b, .int a, .ref 0, .int 0, .ref 71] : List Value).map (xh_v ad sp)))) :
    W p l e R s m args below meth c H locs 0 0 Q (F0 m 0 ls (([] : List Value).map (xh_v ad sp))) := by
  have hn : ∀ (L : Nat) (xs : Nat → Int32), (none : Option (Nat × (Nat → Int32))) = some (L, xs) → va_X (sp 0) L xs s s.heap ∧ sp 0 < s.heap.size ∧ ¬ A (sp 0) := fun L xs z => by cases z
  have hz : (0 : Nat) ≤ R.cells ∧ (0 : Nat) ≤ R.slots := ⟨Nat.zero_le _, Nat.zero_le _⟩
  refine xe_2_ok (scr := none) (M := xM) (d := 49) (r := (.aload 4, 2, 0, 0, 0, 0)) (lv := ls_lv a b d) (st := []) (h := h) (pc' := 2) (lv' := ls_lv a b d) (st' := [.ref 71]) (h' := h) (cells' := 0) (slots' := 0) xP.2 X (by decide +kernel) rfl rfl hR hz hn S ?_
  intro H1 locs1 ls1 S
  refine xe_2_ok (scr := none) (M := xM) (d := 49) (r := (.iconst 0, 1, 0, 0, 0, 0)) (lv := ls_lv a b d) (st := [.ref 71]) (h := h) (pc' := 3) (lv' := ls_lv a b d) (st' := [.int 0, .ref 71]) (h' := h) (cells' := 0) (slots' := 0) xP.2 X (by decide +kernel) rfl rfl hR hz hn S ?_
  intro H1 locs1 ls1 S
  refine xe_2_ok (scr := none) (M := xM) (d := 49) (r := (.aload_n 0, 1, 0, 0, 0, 0)) (lv := ls_lv a b d) (st := [.int 0, .ref 71]) (h := h) (pc' := 4) (lv' := ls_lv a b d) (st' := [.ref 0, .int 0, .ref 71]) (h' := h) (cells' := 0) (slots' := 0) xP.2 X (by decide +kernel) rfl rfl hR hz hn S ?_
  intro H1 locs1 ls1 S
  refine xe_2_ok (scr := none) (M := xM) (d := 49) (r := (.iload_n 1, 1, 0, 0, 0, 0)) (lv := ls_lv a b d) (st := [.ref 0, .int 0, .ref 71]) (h := h) (pc' := 5) (lv' := ls_lv a b d) (st' := [.int a, .ref 0, .int 0, .ref 71]) (h' := h) (cells' := 0) (slots' := 0) xP.2 X (by decide +kernel) rfl rfl hR hz hn S ?_
  intro H1 locs1 ls1 S
  refine xe_2_ok (scr := none) (M := xM) (d := 49) (r := (.iload_n 2, 1, 0, 0, 0, 0)) (lv := ls_lv a b d) (st := [.int a, .ref 0, .int 0, .ref 71]) (h := h) (pc' := 6) (lv' := ls_lv a b d) (st' := [.int b, .int a, .ref 0, .int 0, .ref 71]) (h' := h) (cells' := 0) (slots' := 0) xP.2 X (by decide +kernel) rfl rfl hR hz hn S ?_
  intro H1 locs1 ls1 S
  refine xe_2_ok (scr := none) (M := xM) (d := 49) (r := (.iload_n 3, 1, 0, 0, 0, 0)) (lv := ls_lv a b d) (st := [.int b, .int a, .ref 0, .int 0, .ref 71]) (h := h) (pc' := 7) (lv' := ls_lv a b d) (st' := [.int d, .int b, .int a, .ref 0, .int 0, .ref 71]) (h' := h) (cells' := 0) (slots' := 0) xP.2 X (by decide +kernel) rfl rfl hR hz hn S ?_
  intro H1 locs1 ls1 S
  exact kk H1 locs1 ls1 S
theorem ls_st {h1 : xh_H} {v : Int64} (h71 : h1.1[71]? = some (4, 1)) (lv : List (Nat × Value)) : xe_2 none 6 (.lastore, 1, 0, 0, 0, 0) 49 10 lv [.long v, .int 0, .ref 71] h1 0 0 = some (11, lv, [], xh_ul h1 71 0 v, 0, 0) := by
  have e : xe_in 0 1 = true := by decide
  have e2 : (0 : Int32).toNatClampNeg = 0 := by decide
  simp [xe_2, xe_1, xp_lir, h71, e, e2]
theorem ls_fit (a b d : Int32) : xm_cat [.ref 0, .int a, .int b, .int d, .ref 71] ≤ 6 := Nat.le_of_ble_eq_true rfl
set_option maxRecDepth 100000 in
set_option maxHeartbeats 4000000 in
/-- the law's share where the class's share returns -/
theorem ls_ret {f : Nat} {a b d : Int32} {h h1 : xh_H} {v : Int64} (he : xe_x xM xC none f 48 xi_X9_share xmi_X9_share (0, lv_args 0 [.ref 0, .int a, .int b, .int d], [], h, 0, 0) = some (some (.long v), h1, 0, 0)) (h0 : h.1[0]? = some (0, 9)) (h71 : h1.1[71]? = some (4, 1)) (l : Launch) (sz : Nat) :
    Met l yL_share (Cond.codeWith yL_share cL_share 6 (some .int) [(0, 11, 14, 13)] :: xG) (xm_rm 49 0 0) (va_Pc (([.ref 0, .int a, .int b, .int d, .ref 71] : List Value).map (xh_v ad sp)) (xq_P D cy ad sp h sz)) (xq_Q D cy ad sp (some (.int 0)) (xh_ul h1 71 0 v) (va_A (xh_ws ad cy h) sz)) 0 0 (va_A (xh_ws ad cy h) sz) := by
  refine va_MetW (cc := cL_share) (maxL := 6) (ret := some .int) (by decide) rfl ?_
  intro p e s m args below meth c s₁ B hml hv
  obtain ⟨rfl, hsz, hat, hK, hO⟩ := hv
  have hts := atoms_spec (ws := Cond.codeWith yL_share cL_share 6 (some .int) [(0, 11, 14, 13)] :: xG) B.pre
  have hown : s.vm.findClass RL = some m.cls := findClass_of_methodNamed B.named
  have hl0 := lv_entry (([.ref 0, .int a, .int b, .int d, .ref 71] : List Value).map (xh_v ad sp)) (n := 6) (by rw [lg_sl_len, xm_cat_m]; exact ls_fit a b d)
  rw [lv_args_m] at hl0
  rw [lg_entry_eq]
  subst hsz
  have hD := hat.2.1.self (sz := s.heap.size)
  have X : xc_X p s m (([.ref 0, .int a, .int b, .int d, .ref 71] : List Value).map (xh_v ad sp)).toArray meth c cL_share 6 RL false D cy (va_A (xh_ws ad cy h) s.heap.size) sp := ⟨B.exec, B.bytes, hml, hown, fun w hw => hts w (List.mem_cons_of_mem _ hw), hK, fun q hq => Or.inr hq, hO, fun z => by cases z⟩
  have hn : ∀ (L : Nat) (xs : Nat → Int32), (none : Option (Nat × (Nat → Int32))) = some (L, xs) → va_X (sp 0) L xs s s.heap ∧ sp 0 < s.heap.size ∧ ¬ va_A (xh_ws ad cy h) s.heap.size (sp 0) := fun L xs z => by cases z
  have hR : 49 ≤ (headSpec (Cond.codeWith yL_share cL_share 6 (some .int) [(0, 11, 14, 13)] :: xG) (xm_rm 49 0 0)).room.frames ∧ 40 * 49 ≤ (headSpec (Cond.codeWith yL_share cL_share 6 (some .int) [(0, 11, 14, 13)] :: xG) (xm_rm 49 0 0)).room.locals := ⟨Nat.le_refl 49, Nat.le_refl 1960⟩
  refine ls_pre X (h := h) (a := a) (b := b) (d := d) hR ⟨⟨hat.1, hD, hat.2.2⟩, va_S.rf, hl0⟩ ?_
  intro H1 locs1 ls1 S1
  refine xe_call_ok (mi := (RL, yL_share, cL_share, 6, some .int, 3, 5, 99)) (r := (.invokevirtual 7, 3, xi_X9_share, 0, 4, 230)) (d' := 48) (As := [.ref 0, .int a, .int b, .int d]) (q := [.int 0, .ref 71]) (mj := xmi_X9_share) (v1 := some (.long v)) (h1 := h1) (mc := 0) (ms := 0) (lv := ls_lv a b d) xP (xS_all xP f) (by decide +kernel) (by decide +kernel) ?_ he X hR ⟨Nat.le_refl _, Nat.le_refl _⟩ S1 ?_
  · unfold xe_cl
    show (match h.1[0]? with
      | some (0, ci) => _
      | _ => _) = _
    rw [h0]
    rfl
  intro H2 locs2 S2
  refine xe_2_ok (scr := none) (M := xM) (d := 49) (r := (.lastore, 1, 0, 0, 0, 0)) (lv := ls_lv a b d) (st := [.long v, .int 0, .ref 71]) (h := h1) (pc' := 11) (lv' := ls_lv a b d) (st' := []) (h' := xh_ul h1 71 0 v) (cells' := 0) (slots' := 0) xP.2 X (by decide +kernel) rfl (ls_st h71 _) hR ⟨Nat.le_refl _, Nat.le_refl _⟩ hn S2 ?_
  intro H3 locs3 ls3 S3
  refine xe_2_ok (scr := none) (M := xM) (d := 49) (r := (.goto 7, 3, 18, 0, 0, 0)) (lv := ls_lv a b d) (st := []) (h := xh_ul h1 71 0 v) (pc' := 18) (lv' := ls_lv a b d) (st' := []) (h' := xh_ul h1 71 0 v) (cells' := 0) (slots' := 0) xP.2 X (by decide +kernel) rfl rfl hR ⟨Nat.le_refl _, Nat.le_refl _⟩ hn S3 ?_
  intro H4 locs4 ls4 S4
  refine xe_2_ok (scr := none) (M := xM) (d := 49) (r := (.iconst 0, 1, 0, 0, 0, 0)) (lv := ls_lv a b d) (st := []) (h := xh_ul h1 71 0 v) (pc' := 19) (lv' := ls_lv a b d) (st' := [.int 0]) (h' := xh_ul h1 71 0 v) (cells' := 0) (slots' := 0) xP.2 X (by decide +kernel) rfl rfl hR ⟨Nat.le_refl _, Nat.le_refl _⟩ hn S4 ?_
  intro H5 locs5 ls5 S5
  exact xe_rv_ok (cc := cL_share) (nL := 6) (lv1 := ls_lv a b d) (ri := .ireturn) (ret := some .int) (st1 := [.int 0]) rfl B.exec B.bytes B.returns B.notSynchronized S5 (by decide +kernel)
set_option maxRecDepth 100000 in
set_option maxHeartbeats 4000000 in
/-- the law's share where the class's share throws -/
theorem ls_thr {f : Nat} {a b d : Int32} {h : xh_H} {lv' : List (Nat × Value)} (he : xe_u xM xC none 26 f 48 xi_X9_share xmi_X9_share (0, lv_args 0 [.ref 0, .int a, .int b, .int d], [], h, 0, 0) = some (26, lv', [], h, 0, 0)) (h0 : h.1[0]? = some (0, 9)) (l : Launch) (hl : l.stackTraces = false) (sz : Nat) :
    Met l yL_share (Cond.codeWith yL_share cL_share 6 (some .int) [(0, 11, 14, 13)] :: xG) (xm_rm 49 1 6) (va_Pc (([.ref 0, .int a, .int b, .int d, .ref 71] : List Value).map (xh_v ad sp)) (sh_P D cy ad sp h sz)) (fun _ st oc t => oc = .returned (some (.int 1)) ∧ sh_B D cy ad (va_A (xh_ws ad cy h) sz) h t ∧ va_F (va_A (xh_ws ad cy h) sz) st t) 1 6 (va_A (xh_ws ad cy h) sz) := by
  refine va_MetW (cc := cL_share) (maxL := 6) (ret := some .int) (by decide) rfl ?_
  intro p e s m args below meth c s₁ B hml hv
  obtain ⟨rfl, ⟨hsz, hat, hK, hO⟩, hU⟩ := hv
  have hts := atoms_spec (ws := Cond.codeWith yL_share cL_share 6 (some .int) [(0, 11, 14, 13)] :: xG) B.pre
  have hG : ∀ w ∈ xG, w.before (([.ref 0, .int a, .int b, .int d, .ref 71] : List Value).map (xh_v ad sp)).toArray s = true := fun w hw => hts w (List.mem_cons_of_mem _ hw)
  have htab : c.exceptionTable.toList = tableOf [(0, 11, 14, 13)] := vx_table (x := yL_share) B (hts _ List.mem_cons_self)
  have hown : s.vm.findClass RL = some m.cls := findClass_of_methodNamed B.named
  have hl0 := lv_entry (([.ref 0, .int a, .int b, .int d, .ref 71] : List Value).map (xh_v ad sp)) (n := 6) (by rw [lg_sl_len, xm_cat_m]; exact ls_fit a b d)
  rw [lv_args_m] at hl0
  rw [lg_entry_eq]
  subst hsz
  have hD := hat.2.1.self (sz := s.heap.size)
  have X : xc_X p s m (([.ref 0, .int a, .int b, .int d, .ref 71] : List Value).map (xh_v ad sp)).toArray meth c cL_share 6 RL false D cy (va_A (xh_ws ad cy h) s.heap.size) sp := ⟨B.exec, B.bytes, hml, hown, hG, hK, fun q hq => Or.inr hq, hO, fun z => by cases z⟩
  have hR : 49 ≤ (headSpec (Cond.codeWith yL_share cL_share 6 (some .int) [(0, 11, 14, 13)] :: xG) (xm_rm 49 1 6)).room.frames ∧ 40 * 49 ≤ (headSpec (Cond.codeWith yL_share cL_share 6 (some .int) [(0, 11, 14, 13)] :: xG) (xm_rm 49 1 6)).room.locals := ⟨Nat.le_refl 49, Nat.le_refl 1960⟩
  refine ls_pre X (h := h) (a := a) (b := b) (d := d) hR ⟨⟨hat.1, hD, hat.2.2⟩, va_S.rf, hl0⟩ ?_
  intro H1 locs1 ls1 S1
  obtain ⟨hat1, hS1, hl1⟩ := S1
  have hfree := xq_free hat1 hS1 (fun q hq => Or.inr hq)
  have hok : xm_ok xmi_X9_share := (xP.1 xi_X9_share xmi_X9_share rfl).1 (by decide)
  have hgi := xG_in hok
  obtain ⟨j1, j2, j3, j4, j5, j6, j7, j8, j9⟩ := hok
  obtain ⟨T, N, hv⟩ := (j7 rfl).2.2
  have hM := sh_thr (D := D) (cy := cy) (ad := ad) (sp := sp) (h := h) he (Nat.le_of_ble_eq_true rfl) l hl H1.size
  have hd7 : decode cL_share 7 = .ok (.invokevirtual 7, 3) := by decide +kernel
  refine vx_calll (A0 := va_A (xh_ws ad cy h) s.heap.size) (H0 := s.heap) (vx_runV (C := RX9) (b := ad 0) (own := RL) (index := 7) (n := 3) (bytes := cX9_share) (maxL := 11) (ret := some .long) (cc := cL_share) (nL := 6) (Ts := xG) (As := [.int a, .int b, .int d]) (rest := [.int 0, .ref (ad 71)]) ⟨B.exec, B.bytes, hml, hown, hG⟩ hM ⟨callB_of 3 hG hgi rfl rfl rfl (hG _ j2) (hG _ sh_l9) j5 ⟨Nat.le_refl _, Nat.le_of_ble_eq_true rfl⟩, hG _ (j7 rfl).1, hG _ (j7 rfl).2.1⟩ ⟨sh_blind _ _ _, va_recv hK hat1.1 hv (xh_ws_at h0), sh_pre X hat1 hS1 hU⟩ rfl rfl hl1.1 rfl (lv_room (Nat.le_of_ble_eq_true rfl)) hd7 ⟨Nat.le_refl _, Nat.le_refl _⟩) hS1 (fun q _ hq => hfree q hq) hfree (fun q _ hq => hfree q hq) ?_ ?_
  · intro E ce q9 u t H2 locs2 ht hal _ hb hsz hkeep hS2 hce hcv hcl
    obtain ⟨rfl, H0, hatx, hz, hk⟩ := hb
    refine vx_catch (own := RL) (name := sh_N) (E := sh_N) hown [] ⟨0, 11, 14, 13⟩ [] htab (fun z hz => by cases hz) (by decide) (by decide) (hG _ sh_lc) (hU.2.2.at sh_ca) hce hcv hcl ?_
    refine lv_astore B.exec B.bytes (i := 5) (nL := 6) (by decide +kernel) hl1 (by decide) rfl ?_
    intro ls3 hl3
    refine lv_iconst B.exec B.bytes (n := 1) (v := 1) (by decide +kernel) rfl ?_
    refine W.iret (cc := cL_share) B.exec B.bytes B.returns ?_ hS2.2.2 (by decide +kernel) B.notSynchronized
    intro t2 ht2 _
    refine ⟨rfl, ⟨H0, hatx.weaken hfree, by rw [ht2, ← ht]; exact hz, fun q hq => by rw [ht2, ← ht]; exact hk q hq⟩, by rw [ht2]; exact hS2.1, fun q g1 g2 => by rw [ht2]; exact hS2.2.1 q g1 g2⟩
  · intro r u t H2 locs2 _ _ hp
    exact hp.elim
end XSI
end
section
section XSJ
variable {p : Program} {l : Launch} {e : Env} {R : Room} {s : State} {m : MethodId} {args : Array Value} {below : List Frame} {meth : Method} {c : Code} {H : Heap} {locs : List Loc} {cells slots : Nat} {Q : State → Prop}
variable {ls : Array Slot} {D : va_G} {A : Nat → Prop} {ad sp : Nat → Nat} {cy : Nat → ClassId}
theorem sh_good : GoodIn xG (va_wsS RL 68 yL_share (Cond.codeWith yL_share cL_share 6 (some .int) [(0, 11, 14, 13)] :: xG)) := by
  intro w hw
  unfold va_wsS at hw
  rcases List.mem_append.mp hw with h | h
  · rcases List.mem_cons.mp h with rfl | h
    · exact xG_good sh_lk
    · rcases List.mem_cons.mp h with rfl | h
      · exact xG_good sh_ls
      · rcases List.mem_cons.mp h with rfl | h
        · exact xG_good sh_li
        · cases h
  · rcases List.mem_cons.mp h with rfl | h
    · exact xG_good sh_lw
    · exact xG_good h
theorem sh_d : decode code 535 = .ok (.invokestatic 68, 3) := by decide +kernel
theorem sh_lv (ad sp : Nat → Nat) {n k i : Nat} (hn : 72 ≤ n) : xl_m (sh_ad ad n k) sp (lc_v i) = xl_m ad sp (lc_v i) := by
  have e : ∀ j, j < 72 → sh_ad ad n k j = ad j := fun j hj => if_pos (by omega)
  simp [xl_m, lc_v, xh_v, e]
set_option maxRecDepth 100000 in
set_option maxHeartbeats 4000000 in
/-- the law's call of its share: it throws, and is caught -/
theorem sh_lawT (X : xc_X p s m args meth c code 8 RL false D cy A sp) (hU : sh_U A s) (hl : l.stackTraces = false) {h : xh_H} {i : Nat} (h0 : h.1[0]? = some (0, 9)) (hn : 72 ≤ h.1.length) (hi0 : a_inw a_tb h) {a b d : Int32} {f : Nat} {lv' : List (Nat × Value)} (he : xe_u xM xC none 26 f 48 xi_X9_share xmi_X9_share (0, lv_args 0 [.ref 0, .int a, .int b, .int d], [], h, 0, 0) = some (26, lv', [], h, 0, 0)) (S : xc_S D cy ad sp A s 8 h (lc_v i) H locs ls) (hR : 50 ≤ R.frames ∧ 1985 ≤ R.locals) (hcap : cells + 1 ≤ R.cells ∧ slots + 6 ≤ R.slots)
    (kk : ∀ (H1 : Heap) (locs1 : List Loc) (ad1 : Nat → Nat), xc_S D cy ad1 sp A s 8 h (lc_v i) H1 locs1 ls → W p l e R s m args below meth c H1 locs1 (cells + 1) (slots + 6) Q (F0 m 538 ls (([.int 1] : List Value).map (xh_v ad1 sp)))) :
    W p l e R s m args below meth c H locs cells slots Q (F0 m 535 ls (([.ref 71, .int d, .int b, .int a, .ref 0] : List Value).map (xh_v ad sp))) := by
  obtain ⟨hat, hS, hlv⟩ := S
  obtain ⟨hx, hb, hml, hown, hG, hK, hA, hO, hini⟩ := id X
  have hfree := xq_free hat hS hA
  have hr := vx_runSW (R := R) (below := below) (meth := meth) (H := H) (locs := locs) (cells := cells) (slots := slots) (e := e) (y := yL_share) (bytes := cL_share) (cc := code) (maxL := 6) (nL := 8) (ret := some .int) (hh := [(0, 11, 14, 13)]) (Ts := xG) (own := RL) (index := 68) (n := 5) (As := ([.ref 0, .int a, .int b, .int d, .ref 71] : List Value).map (xh_v ad sp)) (rest := []) (g := F0 m 535 ls (([.ref 71, .int d, .int b, .int a, .ref 0] : List Value).map (xh_v ad sp))) (p := p) (m := m) (c := c) (s := s) (args := args) ⟨hx, hb, hml, hown, hG⟩ (ls_thr (D := D) (cy := cy) (ad := ad) (sp := sp) he h0 l hl H.size) (vx_cwSW 5 hG sh_good rfl rfl rfl ⟨by decide, by decide, by decide⟩ ⟨hR.1, hR.2⟩) ⟨sh_blind _ _ _, sh_pre X hat hS hU⟩ rfl rfl hlv.1 rfl (lv_room (Nat.zero_le _)) sh_d hcap
  intro T hT0 X'
  obtain ⟨w, st₀, t, T', L, h0, X2, hL, e1, e2, ⟨hv, ⟨H0, hat0, hz, hk⟩, hF⟩, st⟩ := hr T hT0 X'
  cases hv
  obtain ⟨hF1, hF2⟩ := hF
  rw [h0] at hF1 hF2
  have S2 : xc_S D cy (sh_ad ad h.1.length T'.heap.size) sp A s 8 h (lc_v i) T'.heap (locs ++ L) ls := by
    refine ⟨sh_grow (h := h) (H1 := H0) hi0 (hat0.weaken hfree) (fun q hq => by rw [e1]; exact hk q hq), ⟨Nat.le_trans hS.1 (by rw [e1]; exact hF1), fun q h1 h2 => ?_, fun q hq => ?_⟩, ?_⟩
    · rw [e1, hF2 q (Nat.lt_of_lt_of_le h1 hS.1) (fun z => h2 (hfree q z))]
      exact hS.2.1 q h1 h2
    · rcases List.mem_append.mp hq with h | h
      · exact hS.2.2 q h
      · exact hfree _ (hL q h)
    · rw [sh_lv ad sp hn]
      exact hlv
  obtain ⟨t2, a1, b1⟩ := kk T'.heap (locs ++ L) _ S2 T' rfl X2
  exact ⟨t2, st t2 a1, b1⟩
set_option maxRecDepth 100000 in
set_option maxHeartbeats 4000000 in
/-- the law's call of its share: it returns -/
theorem sh_lawR (X : xc_X p s m args meth c code 8 RL false D cy A sp) {h : xh_H} {i : Nat} (h0 : h.1[0]? = some (0, 9)) {a b d : Int32} {f : Nat} {h1 : xh_H} {v : Int64} (he : xe_x xM xC none f 48 xi_X9_share xmi_X9_share (0, lv_args 0 [.ref 0, .int a, .int b, .int d], [], h, 0, 0) = some (some (.long v), h1, 0, 0)) (h71 : h1.1[71]? = some (4, 1)) (S : xc_S D cy ad sp A s 8 h (lc_v i) H locs ls) (hR : 50 ≤ R.frames ∧ 1985 ≤ R.locals) (hcap : cells + 0 ≤ R.cells ∧ slots + 0 ≤ R.slots)
    (kk : ∀ (H1 : Heap) (locs1 : List Loc), xc_S D cy ad sp A s 8 (xh_ul h1 71 0 v) (lc_v i) H1 locs1 ls → W p l e R s m args below meth c H1 locs1 (cells + 0) (slots + 0) Q (F0 m 538 ls (([.int 0] : List Value).map (xh_v ad sp)))) :
    W p l e R s m args below meth c H locs cells slots Q (F0 m 535 ls (([.ref 71, .int d, .int b, .int a, .ref 0] : List Value).map (xh_v ad sp))) := by
  obtain ⟨hat, hS, hlv⟩ := S
  obtain ⟨hx, hb, hml, hown, hG, hK, hA, hO, hini⟩ := id X
  have hfree := xq_free hat hS hA
  refine xa_call (v := some (.int 0)) (h1 := xh_ul h1 71 0 v) (vx_runSW (y := yL_share) (bytes := cL_share) (cc := code) (maxL := 6) (nL := 8) (ret := some .int) (hh := [(0, 11, 14, 13)]) (Ts := xG) (own := RL) (index := 68) (n := 5) (As := ([.ref 0, .int a, .int b, .int d, .ref 71] : List Value).map (xh_v ad sp)) (rest := []) ⟨hx, hb, hml, hown, hG⟩ (ls_ret (D := D) (cy := cy) (ad := ad) (sp := sp) he h0 h71 l H.size) (vx_cwSW 5 hG sh_good rfl rfl rfl ⟨by decide, by decide, by decide⟩ ⟨hR.1, hR.2⟩) ⟨xq_blind _ _ _, xq_pre X hat hS⟩ rfl rfl hlv.1 rfl (lv_room (Nat.zero_le _)) sh_d hcap) hS hfree ?_
  intro H1 locs1 hat1 hS1
  exact kk H1 locs1 ⟨hat1, hS1, hlv⟩
end XSJ
end
section
section XDI
theorem and31 (a : Int32) : ∃ k : Nat, k < 32 ∧ a &&& 31 = nI k := by
  have h1 : (a &&& 31).toBitVec = a.toBitVec &&& 31#32 := rfl
  have h2 : (a &&& 31).toBitVec.toNat < 32 := by
    rw [h1, BitVec.toNat_and]
    have := Nat.and_le_right (n := a.toBitVec.toNat) (m := (31#32).toNat)
    have e : (31#32).toNat = 31 := rfl
    omega
  have h3 : (a &&& 31).toInt = ((a &&& 31).toBitVec.toNat : Int) := by
    show (a &&& 31).toBitVec.toInt = _
    exact BitVec.toInt_eq_toNat_of_lt (by omega)
  obtain ⟨k, e, k31, -⟩ := a_nk (x := a &&& 31) (m := 31) (by omega) (by omega)
  exact ⟨k, by omega, e⟩
variable {L i : Nat} {xs : Nat → Int32} {h : xh_H} {c s : Nat}
theorem ld_sub (hL : L ≤ 3072) : (Int32.ofNat L - 6).toInt = (L : Int) - 6 := by
  have e : (Int32.ofNat L).toInt = L := nI_toInt (n := L) (by omega)
  have e6 : (6 : Int32).toInt = 6 := rfl
  rw [ar_sub (by rw [e, e6]; omega) (by rw [e, e6]; omega), e, e6]
set_option maxRecDepth 100000 in
/-- the loop's head -/
theorem ld_head {stop : Nat} {o : xs_S} {b : Bool} (hb : xe_c .gt (nI i) (Int32.ofNat L - 6) = b) (b0 : Nat.beq 23 stop = false) (b1 : Nat.beq 25 stop = false) (b2 : Nat.beq 26 stop = false) (b3 : Nat.beq 27 stop = false) (b4 : Nat.beq 29 stop = false) (b5 : Nat.beq 30 stop = false) (k : xV (some (L, xs)) stop 50 xi_L_law xmi_L_law (cond b 1006 33, lc_v i, [], h, c, s) o) : xV (some (L, xs)) stop 50 xi_L_law xmi_L_law (23, lc_v i, [], h, c, s) o := by
  refine xV_step (o1 := (25, lc_v i, [.int (nI i)], h, c, s)) b0 rfl rfl rfl ?_
  refine xV_step (o1 := (26, lc_v i, [.float 0, .int (nI i)], h, c, s)) b1 rfl rfl rfl ?_
  refine xV_step (o1 := (27, lc_v i, [.int (Int32.ofNat L), .int (nI i)], h, c, s)) b2 rfl rfl rfl ?_
  refine xV_step (o1 := (29, lc_v i, [.int 6, .int (Int32.ofNat L), .int (nI i)], h, c, s)) b3 rfl rfl rfl ?_
  refine xV_step (o1 := (30, lc_v i, [.int (Int32.ofNat L - 6), .int (nI i)], h, c, s)) b4 rfl rfl rfl ?_
  exact xV_ic b b5 rfl hb k
theorem ld_end (hL : L ≤ 3072) (hi : L < i + 6) (hi2 : i ≤ 3078) : xV (some (L, xs)) 1006 50 xi_L_law xmi_L_law (23, lc_v i, [], h, c, s) (1006, lc_v i, [], h, c, s) :=
  ld_head (b := true) (xgt_t (by rw [ld_sub hL, nI_toInt (by omega)]; omega)) rfl rfl rfl rfl rfl rfl xV_stop
set_option maxRecDepth 100000 in
/-- a call's number -/
theorem ld_sw {stop : Nat} {o : xs_S} (hL : L ≤ 3072) (hi : i + 6 ≤ L) (b0 : Nat.beq 23 stop = false) (b1 : Nat.beq 25 stop = false) (b2 : Nat.beq 26 stop = false) (b3 : Nat.beq 27 stop = false) (b4 : Nat.beq 29 stop = false) (b5 : Nat.beq 30 stop = false) (b6 : Nat.beq 33 stop = false) (b7 : Nat.beq 34 stop = false) (b8 : Nat.beq 36 stop = false) (b9 : Nat.beq 37 stop = false) (ba : Nat.beq 39 stop = false) (k : xV (some (L, xs)) stop 50 xi_L_law xmi_L_law (40, lc_v i, [.int (xs i &&& 31)], h, c, s) o) : xV (some (L, xs)) stop 50 xi_L_law xmi_L_law (23, lc_v i, [], h, c, s) o := by
  refine ld_head (b := false) (xgt_f (by rw [ld_sub hL, nI_toInt (by omega)]; omega)) b0 b1 b2 b3 b4 b5 ?_
  refine xV_step (o1 := (34, lc_v i, [.float 0], h, c, s)) b6 rfl rfl rfl ?_
  refine xV_step (o1 := (36, lc_v i, [.int (nI i), .float 0], h, c, s)) b7 rfl rfl rfl ?_
  refine xV_step (o1 := (37, lc_v i, [.int (xs i)], h, c, s)) b8 rfl rfl (lc_ia (by omega) hL) ?_
  refine xV_step (o1 := (39, lc_v i, [.int 31, .int (xs i)], h, c, s)) b9 rfl rfl rfl ?_
  exact xV_step (o1 := (40, lc_v i, [.int (xs i &&& 31)], h, c, s)) ba rfl rfl rfl k
set_option maxRecDepth 100000 in
set_option maxHeartbeats 4000000 in
/-- every call but share -/
theorem ld_all (hL : L ≤ 3072) (hi : i + 6 ≤ L) (I : lc_I h) (hk : xs i &&& 31 ≠ 11) : lo_P L xs i 23 h c s := by
  obtain ⟨k, k32, ek⟩ := and31 (xs i)
  have go : ∀ pc, (∀ o, xV (some (L, xs)) 1000 50 xi_L_law xmi_L_law (pc, lc_v i, [], h, c, s) o → xV (some (L, xs)) 1000 50 xi_L_law xmi_L_law (40, lc_v i, [.int (nI k)], h, c, s) o) → lo_P L xs i pc h c s → lo_P L xs i 23 h c s := by
    intro pc st ⟨h', c', s', r, z⟩
    refine ⟨h', c', s', ?_, z⟩
    refine ld_sw hL hi rfl rfl rfl rfl rfl rfl rfl rfl rfl rfl rfl ?_
    rw [ek]
    exact st _ r
  have no : lo_P L xs i 1000 h c s := ⟨h, c, s, xV_stop, I, by omega, by omega⟩
  match k, k32, ek, go with
  | 0, _, _, go => exact go 168 (fun _ r => xV_step rfl rfl rfl rfl r) (lo_0 hL hi I)
  | 1, _, _, go => exact go 241 (fun _ r => xV_step rfl rfl rfl rfl r) (lo_1 hL hi I)
  | 2, _, _, go => exact go 266 (fun _ r => xV_step rfl rfl rfl rfl r) (lo_2 hL hi I)
  | 3, _, _, go => exact go 291 (fun _ r => xV_step rfl rfl rfl rfl r) (lo_3 hL hi I)
  | 4, _, _, go => exact go 316 (fun _ r => xV_step rfl rfl rfl rfl r) (lo_4 hL hi I)
  | 5, _, _, go => exact go 341 (fun _ r => xV_step rfl rfl rfl rfl r) (lo_5 hL hi I)
  | 6, _, _, go => exact go 354 (fun _ r => xV_step rfl rfl rfl rfl r) (lo_6 hL hi I)
  | 7, _, _, go => exact go 391 (fun _ r => xV_step rfl rfl rfl rfl r) (lo_7 hL hi I)
  | 8, _, _, go => exact go 416 (fun _ r => xV_step rfl rfl rfl rfl r) (lo_8 hL hi I)
  | 9, _, _, go => exact go 453 (fun _ r => xV_step rfl rfl rfl rfl r) (lo_9 hL hi I)
  | 10, _, _, go => exact go 490 (fun _ r => xV_step rfl rfl rfl rfl r) (lo_10 hL hi I)
  | 11, _, ek, _ => exact absurd ek hk
  | 12, _, _, go => exact go 567 (fun _ r => xV_step rfl rfl rfl rfl r) (lo_12 hL hi I)
  | 13, _, _, go => exact go 593 (fun _ r => xV_step rfl rfl rfl rfl r) (lo_13 hL hi I)
  | 14, _, _, go => exact go 618 (fun _ r => xV_step rfl rfl rfl rfl r) (lo_14 hL hi I)
  | 15, _, _, go => exact go 631 (fun _ r => xV_step rfl rfl rfl rfl r) (lo_15 hL hi I)
  | 16, _, _, go => exact go 656 (fun _ r => xV_step rfl rfl rfl rfl r) (lo_16 hL hi I)
  | 17, _, _, go => exact go 681 (fun _ r => xV_step rfl rfl rfl rfl r) (lo_17 hL hi I)
  | 18, _, _, go => exact go 718 (fun _ r => xV_step rfl rfl rfl rfl r) (lo_18 hL hi I)
  | 19, _, _, go => exact go 731 (fun _ r => xV_step rfl rfl rfl rfl r) (lo_19 hL hi I)
  | 20, _, _, go => exact go 744 (fun _ r => xV_step rfl rfl rfl rfl r) (lo_20 hL hi I)
  | 21, _, _, go => exact go 785 (fun _ r => xV_step rfl rfl rfl rfl r) (lo_21 hL hi I)
  | 22, _, _, go => exact go 810 (fun _ r => xV_step rfl rfl rfl rfl r) (lo_22 hL hi I)
  | 23, _, _, go => exact go 835 (fun _ r => xV_step rfl rfl rfl rfl r) (lo_23 hL hi I)
  | 24, _, _, go => exact go 888 (fun _ r => xV_step rfl rfl rfl rfl r) (lo_24 hL hi I)
  | 25, _, _, go => exact go 913 (fun _ r => xV_step rfl rfl rfl rfl r) (lo_25 hL hi I)
  | 26, _, _, go => exact go 950 (fun _ r => xV_step rfl rfl rfl rfl r) (lo_26 hL hi I)
  | 27, _, _, go => exact go 975 (fun _ r => xV_step rfl rfl rfl rfl r) (lo_27 hL hi I)
  | 28, _, _, go => exact go 1000 (fun _ r => xV_step rfl rfl rfl rfl r) no
  | 29, _, _, go => exact go 1000 (fun _ r => xV_step rfl rfl rfl rfl r) no
  | 30, _, _, go => exact go 1000 (fun _ r => xV_step rfl rfl rfl rfl r) no
  | 31, _, _, go => exact go 1000 (fun _ r => xV_step rfl rfl rfl rfl r) no
  | n + 32, k32, _, _ => exact absurd k32 (by omega)
end XDI
end
section
section XSB
/-- share answers -/
def so_ok (h : xh_H) (a b d : Int32) : Prop := (0 ≤ a.toInt ∧ a.toInt < (xg 0 h.2.1 0 9).toInt) ∧ 0 ≤ b.toInt ∧ b.toInt ≤ 2 ∧ 0 ≤ d.toInt ∧ d.toInt ≤ 1
set_option maxRecDepth 100000 in
theorem im9 {d : Nat} {a : Int32} {h : xh_H} (hq : a_rq a_tb h) : xt_P d xi_X9_isMember xmi_X9_isMember 0 [(0, .ref 0), (1, .int a)] [] h (fun v h' => h = h' ∧ v = some (.int (bl (decide (0 ≤ a.toInt ∧ a.toInt < (xg 0 h.2.1 0 9).toInt))))) := by
  cases c1 : xe_c .lt a 0 with
  | true =>
    have b1 : a.toInt < (0 : Int) := a_ce c1
    refine xa_tn 17 [] [] [.int (Int32.ofInt 0)] h [true] 12 hq rfl ⟨c1, trivial⟩ (fun _ => ?_)
    refine xp_ret rfl rfl rfl ⟨rfl, ?_⟩
    rw [decide_eq_false (by omega)]
    rfl
  | false =>
    have b1 : (0 : Int) ≤ a.toInt := a_ce (a_neg_ok c1)
    cases c2 : xe_c .ge a (xg 0 h.2.1 0 9) with
    | true =>
      have b2 : (xg 0 h.2.1 0 9).toInt ≤ a.toInt := a_ce c2
      refine xa_tn 17 [] [] [.int (Int32.ofInt 0)] h [false, true] 12 hq rfl ⟨c1, c2, trivial⟩ (fun _ => ?_)
      refine xp_ret rfl rfl rfl ⟨rfl, ?_⟩
      rw [decide_eq_false (by omega)]
      rfl
    | false =>
      have b2 : a.toInt < (xg 0 h.2.1 0 9).toInt := a_ce (a_neg_ok c2)
      refine xa_tn 17 [] [] [.int (Int32.ofInt 1)] h [false, false] 12 hq rfl ⟨c1, c2, trivial⟩ (fun _ => ?_)
      refine xp_ret rfl rfl rfl ⟨rfl, ?_⟩
      rw [decide_eq_true ⟨b1, b2⟩]
      rfl
set_option maxRecDepth 100000 in
set_option maxHeartbeats 8000000 in
theorem cs_bad {a b d : Int32} {h : xh_H} (hq : a_rq a_tb h) (hno : ¬ so_ok h a b d) : xV none 26 48 xi_X9_share xmi_X9_share (0, lv_args 0 [.ref 0, .int a, .int b, .int d], [], h, 0, 0) (26, lv_args 0 [.ref 0, .int a, .int b, .int d], [], h, 0, 0) := by
  have fin : xV none 26 48 xi_X9_share xmi_X9_share (26, lv_args 0 [.ref 0, .int a, .int b, .int d], [], h, 0, 0) (26, lv_args 0 [.ref 0, .int a, .int b, .int d], [], h, 0, 0) := xV_stop
  refine xV_step (o1 := (1, lv_args 0 [.ref 0, .int a, .int b, .int d], [.ref 0], h, 0, 0)) rfl rfl rfl rfl ?_
  refine xV_step (o1 := (2, lv_args 0 [.ref 0, .int a, .int b, .int d], [.int a, .ref 0], h, 0, 0)) rfl rfl rfl rfl ?_
  obtain ⟨v, h', r, rfl, rfl⟩ := im9 (d := 47) (a := a) hq
  refine xV_call (d := 47) rfl rfl rfl rfl (xa_c_ok (d := 47) (pc := 2) (lv := lv_args 0 [.ref 0, .int a, .int b, .int d]) (nL := 11) hq rfl).1 r ?_
  by_cases h1 : 0 ≤ a.toInt ∧ a.toInt < (xg 0 h.2.1 0 9).toInt
  · rw [decide_eq_true h1]
    refine xV_if false rfl rfl rfl ?_
    refine xV_step (o1 := (9, lv_args 0 [.ref 0, .int a, .int b, .int d], [.int b], h, 0, 0)) rfl rfl rfl rfl ?_
    cases c1 : xe_c .lt b 0 with
    | true => exact xV_if true rfl rfl c1 fin
    | false =>
      have b1 : (0 : Int) ≤ b.toInt := a_ce (a_neg_ok c1)
      refine xV_if false rfl rfl c1 ?_
      refine xV_step (o1 := (13, lv_args 0 [.ref 0, .int a, .int b, .int d], [.int b], h, 0, 0)) rfl rfl rfl rfl ?_
      refine xV_step (o1 := (14, lv_args 0 [.ref 0, .int a, .int b, .int d], [.int (Int32.ofInt 2), .int b], h, 0, 0)) rfl rfl rfl rfl ?_
      cases c2 : xe_c .gt b (Int32.ofInt 2) with
      | true => exact xV_ic true rfl rfl c2 fin
      | false =>
        have b2 : b.toInt ≤ (2 : Int) := a_ce (a_neg_ok c2)
        refine xV_ic false rfl rfl c2 ?_
        refine xV_step (o1 := (18, lv_args 0 [.ref 0, .int a, .int b, .int d], [.int d], h, 0, 0)) rfl rfl rfl rfl ?_
        cases c3 : xe_c .lt d 0 with
        | true => exact xV_if true rfl rfl c3 fin
        | false =>
          have b3 : (0 : Int) ≤ d.toInt := a_ce (a_neg_ok c3)
          refine xV_if false rfl rfl c3 ?_
          refine xV_step (o1 := (22, lv_args 0 [.ref 0, .int a, .int b, .int d], [.int d], h, 0, 0)) rfl rfl rfl rfl ?_
          refine xV_step (o1 := (23, lv_args 0 [.ref 0, .int a, .int b, .int d], [.int (Int32.ofInt 1), .int d], h, 0, 0)) rfl rfl rfl rfl ?_
          cases c4 : xe_c .le d (Int32.ofInt 1) with
          | true =>
            have b4 : d.toInt ≤ (1 : Int) := a_ce c4
            exact absurd ⟨h1, b1, b2, b3, b4⟩ hno
          | false => exact xV_ic false rfl rfl c4 fin
  · rw [decide_eq_false h1]
    exact xV_if true rfl rfl rfl fin
theorem cs_good {a b d : Int32} {h : xh_H} (I : lc_I h) (ho : so_ok h a b d) : ∃ (f : Nat) (v : Int64) (h1 : xh_H), xe_x xM xC none f 48 xi_X9_share xmi_X9_share (0, lv_args 0 [.ref 0, .int a, .int b, .int d], [], h, 0, 0) = some (some (.long v), h1, 0, 0) ∧ h1.1 = h.1 ∧ lc_I h1 := by
  obtain ⟨⟨a1, a2⟩, b1, b2, d1, d2⟩ := ho
  have mb := a_flx (c := 0) (k := 9) (lo := 1) (hi := 12) I.1.1 I.2.1 rfl rfl (by decide)
  obtain ⟨ka, ea, -, ka2⟩ := a_nk (x := a) (m := 12) a1 (by omega)
  obtain ⟨kb, eb, kb1, -⟩ := a_nk (x := b) (m := 2) b1 b2
  obtain ⟨kd, ed, kd1, -⟩ := a_nk (x := d) (m := 1) d1 d2
  rw [ea, nI_toInt ka2] at a2
  obtain ⟨v, h1, ⟨f, hf⟩, k1, x, rfl⟩ := s9_run (d := 42) (k := ka) (w := kb) (z := kd) I.1 I.2.1 a2 kb1 kd1
  rw [ea, eb, ed]
  exact ⟨f, x, h1, hf, k1.2.1, lc_It I k1.1 (hk_n k1 I.2.1) (by rw [k1.2.1]; exact I.2.2.1) (Fs_z (lc_Iq I) (fz_run (mid := xi_X9_share) (by decide +kernel) ⟨f, hf⟩)) k1.2.2 rfl (xq_Z (hn := (show List.Nodup [0, 1, 2, 3] by decide)) ⟨f, hf⟩ (fun f => lp_share (f := f) I))⟩
theorem lc_ul {h : xh_H} {v : Int64} (I : lc_I h) : lc_I (xh_ul h 71 0 v) := by
  refine ⟨a_inv_ul (s := (4, 1)) (lo := -9223372036854775808) (hi := 9223372036854775807) I.1 ((lc_Iq I).2.1 71 _ rfl) rfl (lr v).1 (lr v).2, I.2.1, I.2.2.1, ?_⟩
  obtain ⟨r0, r1, r2, r3, r4, r5, r6, r7, r8, r9, r10, r11⟩ := I.2.2.2
  have q := lc_Iq I
  refine ⟨r0, r1, r2, r3, r4, r5, r6, r7, r8, SI_s I.1 q (Fs_f (S := fN) (L := Lr 71) (fx_ul fx_0 rfl) (fun _ _ _ => rfl) (fun c k e => ?_)) rfl rfl (fun _ => rfl) (fun _ => rfl) (fun _ => rfl) r9, r10, PI_s I.1 I.2.1 (fun c k e _ => gl_o (fun w => ?_)) (fun _ _ _ => rfl) rfl (fun _ _ _ => rfl) r11⟩
  rotate_left
  · rcases sh64c q e with z | z <;> omega
  show Nat.beq c 71 = false
  rw [Bool.eq_false_iff]
  intro y
  have := Nat.eq_of_beq_eq_true y
  rcases sh64c q e with z | z <;> omega
variable {L i : Nat} {xs : Nat → Int32} {h : xh_H} {c s : Nat}
set_option maxRecDepth 100000 in
set_option maxHeartbeats 4000000 in
/-- share's arguments -/
theorem lo_11a (hL : L ≤ 3072) (hi6 : i + 6 ≤ L) (hk : xs i &&& 31 = 11) : xV (some (L, xs)) 535 50 xi_L_law xmi_L_law (23, lc_v i, [], h, c, s) (535, lc_v i, [.ref 71, .int (xs (i + 3)), .int (xs (i + 2)), .int (xs (i + 1)), .ref 0], h, c, s) := by
  refine ld_sw hL hi6 rfl rfl rfl rfl rfl rfl rfl rfl rfl rfl rfl ?_
  rw [hk]
  refine xV_step (o1 := (515, lc_v i, [], h, c, s)) rfl rfl rfl rfl ?_
  refine xV_step (o1 := (516, lc_v i, [.ref 0], h, c, s)) rfl rfl rfl rfl ?_
  refine xV_arg 1 1 rfl (by omega) hL rfl rfl rfl rfl rfl rfl rfl rfl rfl rfl ?_
  refine xV_arg 2 2 rfl (by omega) hL rfl rfl rfl rfl rfl rfl rfl rfl rfl rfl ?_
  refine xV_arg 3 3 rfl (by omega) hL rfl rfl rfl rfl rfl rfl rfl rfl rfl rfl ?_
  refine xV_step (o1 := (535, lc_v i, [.ref 71, .int (xs (i + 3)), .int (xs (i + 2)), .int (xs (i + 1)), .ref 0], h, c, s)) rfl rfl rfl rfl ?_
  exact xV_stop
set_option maxRecDepth 100000 in
set_option maxHeartbeats 4000000 in
/-- the reference's share -/
theorem lo_11b (hL : L ≤ 3072) (hi6 : i + 6 ≤ L) (I : lc_I h) : ∃ (y : Int64) (h2 : xh_H), xV (some (L, xs)) 562 50 xi_L_law xmi_L_law (540, lc_v i, [], h, c, s) (562, lc_v i, [.long y], h2, c, s) ∧ lc_I h2 := by
  obtain ⟨y, h2, r2, I2⟩ := lc_2 (D := 49) (m := xmi_X10_share) (A := [.ref 39, .int (xs (i + 1)), .int (xs (i + 2)), .int (xs (i + 3))]) I as_m_X10_share rfl (by decide) ⟨a_av (by decide) I.2.1, a_an, a_an, a_an, trivial⟩ rfl rfl rfl (by decide +kernel) rfl (by decide +kernel)
  refine ⟨y, h2, ?_, I2⟩
  refine xV_step (o1 := (541, lc_v i, [.ref 39], h, c, s)) rfl rfl rfl rfl ?_
  refine xV_arg 1 1 rfl (by omega) hL rfl rfl rfl rfl rfl rfl rfl rfl rfl rfl ?_
  refine xV_arg 2 2 rfl (by omega) hL rfl rfl rfl rfl rfl rfl rfl rfl rfl rfl ?_
  refine xV_arg 3 3 rfl (by omega) hL rfl rfl rfl rfl rfl rfl rfl rfl rfl rfl ?_
  refine xV_call (d := 49) rfl rfl rfl rfl (xa_c_ok (d := 49) (pc := 559) (lv := lc_v i) (nL := 8) (lc_Iq I) rfl).1 r2 ?_
  exact xV_stop
end XSB
end
section
section XWS
set_option maxRecDepth 20000 in
theorem ws_u : Jvm.Cond.isRef (.static "java/lang/Throwable" "UNASSIGNED_STACK" "[Ljava/lang/StackTraceElement;") ∈ flatC (Jvm.Cond.and given_1 narrow_1) := by decide +kernel
set_option maxRecDepth 20000 in
theorem ws_s : Jvm.Cond.isRef (.static "java/lang/Throwable" "SUPPRESSED_SENTINEL" "Ljava/util/List;") ∈ flatC (Jvm.Cond.and given_1 narrow_1) := by decide +kernel
theorem ws_lu : Cond.laysStatic Bundle.tN "UNASSIGNED_STACK" Bundle.steD ∈ lw_tbl := xtb_in (K := 5) (List.mem_of_getElem? (i := 21) (by decide +kernel))
theorem ws_ls : Cond.laysStatic Bundle.tN "SUPPRESSED_SENTINEL" Bundle.listD ∈ lw_tbl := xtb_in (K := 5) (List.mem_of_getElem? (i := 23) (by decide +kernel))
theorem ws_ti : Cond.initialized Bundle.tN ∈ lw_tbl := xtb_in (K := 1) (List.mem_of_getElem? (i := 18) (by decide +kernel))
theorem ws_b : ∀ w ∈ sh_b, w ∈ lw_tbl := by
  intro w hw
  unfold sh_b at hw
  simp only [List.mem_cons, List.not_mem_nil, or_false] at hw
  rcases hw with rfl | rfl | rfl | rfl
  · exact xtb_in (K := 4) (List.mem_of_getElem? (i := 237) (by decide +kernel))
  · exact xtb_in (K := 4) (List.mem_of_getElem? (i := 239) (by decide +kernel))
  · exact xtb_in (K := 5) (List.mem_of_getElem? (i := 1) (by decide +kernel))
  · exact xtb_in (K := 4) (List.mem_of_getElem? (i := 236) (by decide +kernel))
theorem ws_U {p : Program} {s : State} {m : MethodId} {meth : Method} {c : Code} {b L : Nat} {xs : Nat → Int32} (C0 : lw_At p s m meth c b L xs) : sh_U (fun q : Nat => s.heap.size ≤ q) s := by
  obtain ⟨hx, hb, hr, hml, hown, hts, hX, hbl, hlocks, hgv⟩ := id C0
  have hs := flat_of_before _ hgv
  have hA0 : ∀ a : Nat, a < s.heap.size → ¬ (fun q : Nat => s.heap.size ≤ q) a := fun a h1 h2 => by have h2 : s.heap.size ≤ a := h2; omega
  exact ⟨vx_Zqof (hts _ ws_lu) (hts _ ws_ti) (hs _ ws_u) hA0, vx_Zqof (hts _ ws_ls) (hts _ ws_ti) (hs _ ws_s) hA0, fun w hw => va_tabs (sh_bt w hw) rfl (hts w (ws_b w hw))⟩
set_option maxRecDepth 100000 in
set_option maxHeartbeats 8000000 in
/-- the law's end, out of a run on the machine -/
theorem ws_end {p : Program} {l : Launch} {e : Env} {s : State} {m : MethodId} {below : List Frame} {meth : Method} {c : Code} {b L : Nat} {xs : Nat → Int32} {D : va_G} {cy : Nat → ClassId} {ad sp : Nat → Nat} {H : Heap} {locs : List Loc} {ls : Array Slot} {pc : Nat} {lv : List (Nat × Value)} {st : List Value} {h h' : xh_H} {cc ss : Nat} (C0 : lw_At p s m meth c b L xs) (hsp : sp 0 = b) (X : xc_X p s m #[Value.ref b] meth c code 8 RL false D cy (fun q : Nat => s.heap.size ≤ q) sp) (S : xc_S D cy ad sp (fun q : Nat => s.heap.size ≤ q) s 8 h lv H locs ls) (hr : xR (some (L, xs)) 50 xi_L_law xmi_L_law (pc, lv, st, h, cc, ss) (some (.int 1), h', cc, ss)) (hc : cc ≤ 601024) (hs : ss ≤ 7293034) : W p l e room_1 s m #[Value.ref b] below meth c H locs cc ss (lw_Z below #[Value.ref b] s) (F0 m pc ls (st.map (xh_v ad sp))) := by
  obtain ⟨f, he⟩ := hr
  obtain ⟨hx, hb, hr, hml, hown, hts, hX, hbl, hlocks, hgv⟩ := id C0
  refine xS f p l e room_1 s m _ below meth c H locs _ ls D (fun q : Nat => s.heap.size ≤ q) ad sp cy (some (L, xs)) 50 xi_L_law xmi_L_law pc lv st h cc ss (some (.int 1)) h' cc ss he rfl X ⟨by decide, by decide, hc, hs⟩ ?_ S ?_
  · intro L' xs' z
    cases z
    rw [hsp]
    exact ⟨hX, hbl, Nat.not_le.mpr hbl⟩
  · intro H1 locs1 ls1 lv1 pc1 ri st1 S1 hd1 hrv
    have hst : st1 = [.int 1] ∧ ri = .ireturn := by
      unfold xe_rv at hrv
      repeat' split at hrv
      all_goals first
        | (cases hrv; done)
        | (cases hrv; exact ⟨rfl, rfl⟩)
        | (obtain ⟨_, h2⟩ := xw_c hrv; cases h2; exact ⟨rfl, rfl⟩)
    obtain ⟨rfl, rfl⟩ := hst
    refine va_forget S1.2.1.2.2 ?_
    refine W.widen hc hs ?_
    exact lw_ret hx hb hr hlocks hd1
set_option maxRecDepth 100000 in
set_option maxHeartbeats 8000000 in
/-- the law's loop, on the machine -/
theorem wl_loop {p : Program} {e : Env} {s : State} {m : MethodId} {below : List Frame} {meth : Method} {c : Code} (l : Launch) (hl : l.stackTraces = false) {b L : Nat} {xs : Nat → Int32} {D : va_G} {cy : Nat → ClassId} {sp : Nat → Nat} (C0 : lw_At p s m meth c b L xs) (hsp : sp 0 = b) (hL : L ≤ 3072) (X : xc_X p s m #[Value.ref b] meth c code 8 RL false D cy (fun q : Nat => s.heap.size ≤ q) sp) (hU : sh_U (fun q : Nat => s.heap.size ≤ q) s) : ∀ (n i : Nat) (h : xh_H) (cc ss : Nat) (ad : Nat → Nat) (H : Heap) (locs : List Loc) (ls : Array Slot), L < i + 6 * n → i ≤ 3072 → lc_I h → cc ≤ 72 + 2 * i → ss ≤ 274345 + 66 * i → xc_S D cy ad sp (fun q : Nat => s.heap.size ≤ q) s 8 h (lc_v i) H locs ls → W p l e room_1 s m #[Value.ref b] below meth c H locs cc ss (lw_Z below #[Value.ref b] s) (F0 m 23 ls (([] : List Value).map (xh_v ad sp))) := by
  obtain ⟨hx, hb, hr, hml, hown, hts, hX, hbl, hlocks, hgv⟩ := id C0
  have hscr : ∀ (L' : Nat) (xs' : Nat → Int32), some (L, xs) = some (L', xs') → va_X (sp 0) L' xs' s s.heap ∧ sp 0 < s.heap.size ∧ ¬ (fun q : Nat => s.heap.size ≤ q) (sp 0) := by
    intro L' xs' z
    cases z
    rw [hsp]
    exact ⟨hX, hbl, Nat.not_le.mpr hbl⟩
  have hR : ∀ c s, c ≤ 601024 → s ≤ 7293034 → 50 ≤ room_1.frames ∧ 40 * 50 ≤ room_1.locals ∧ c ≤ room_1.cells ∧ s ≤ room_1.slots := fun c s h1 h2 => ⟨by decide, by decide, h1, h2⟩
  intro n
  induction n with
  | zero =>
    intro i h cc ss ad H locs ls hn hi I hc hs S
    obtain ⟨f, hf⟩ := ld_end (L := L) (i := i) (xs := xs) (h := h) (c := cc) (s := ss) hL (by omega) (by omega)
    refine xS_u xP (scr := some (L, xs)) (mid := xi_L_law) (mi := xmi_L_law) rfl X hscr f 50 23 (lc_v i) [] h cc ss 1006 (lc_v i) [] h cc ss _ _ _ hf (hR _ _ (by omega) (by omega)) S ?_
    intro H1 locs1 ls1 S1
    exact ws_end C0 hsp X S1 (h' := h) (xR_of (f := 3) rfl) (by omega) (by omega)
  | succ n ih =>
    intro i h cc ss ad H locs ls hn hi I hc hs S
    by_cases hi6 : i + 6 ≤ L
    · have nx : ∀ (h' : xh_H) (c' s' : Nat) (ad : Nat → Nat) (H1 : Heap) (locs1 : List Loc) (ls1 : Array Slot), lc_I h' → c' ≤ cc + 2 → s' ≤ ss + 66 → xc_S D cy ad sp (fun q : Nat => s.heap.size ≤ q) s 8 h' (lc_v i) H1 locs1 ls1 → W p l e room_1 s m #[Value.ref b] below meth c H1 locs1 c' s' (lw_Z below #[Value.ref b] s) (F0 m 1000 ls1 (([] : List Value).map (xh_v ad sp))) := by
        intro h' c' s' ad H1 locs1 ls1 I' hc' hs' S1
        have r : xV (some (L, xs)) 23 50 xi_L_law xmi_L_law (1000, lc_v i, [], h', c', s') (23, lc_v (i + 6), [], h', c', s') := by
          have e6 : nI i + Int32.ofInt 6 = nI (i + 6) := nI_add i 6
          refine xV_step (o1 := (1003, lc_v (i + 6), [], h', c', s')) rfl rfl rfl ?_ ?_
          · show some (1000 + 3, (4, Value.int (nI i + Int32.ofInt 6)) :: [(3, Value.ref 71), (2, Value.ref 39), (1, Value.ref 0), (0, Value.float 0)], [], h', c', s') = _
            rw [e6]
            rfl
          · refine xV_step (o1 := (23, lc_v (i + 6), [], h', c', s')) rfl rfl rfl rfl ?_
            exact xV_stop
        obtain ⟨f, hf⟩ := r
        refine xS_u xP (scr := some (L, xs)) (mid := xi_L_law) (mi := xmi_L_law) rfl X hscr f 50 1000 (lc_v i) [] h' c' s' 23 (lc_v (i + 6)) [] h' c' s' _ _ _ hf (hR _ _ (by omega) (by omega)) S1 ?_
        intro H2 locs2 ls2 S2
        exact ih (i + 6) h' c' s' ad H2 locs2 ls2 (by omega) (by omega) I' (by omega) (by omega) S2
      by_cases hk : xs i &&& 31 = 11
      · have sh : ∀ (x : Int32) (h1 : xh_H) (c1 s1 : Nat) (ad : Nat → Nat) (H4 : Heap) (locs4 : List Loc) (ls4 : Array Slot), lc_I h1 → c1 ≤ cc + 2 → s1 ≤ ss + 66 → xc_S D cy ad sp (fun q : Nat => s.heap.size ≤ q) s 8 h1 (lc_v i) H4 locs4 ls4 → W p l e room_1 s m #[Value.ref b] below meth c H4 locs4 c1 s1 (lw_Z below #[Value.ref b] s) (F0 m 538 ls4 (([.int x] : List Value).map (xh_v ad sp))) := by
          intro x h1 c1 s1 ad H4 locs4 ls4 I1 hc1 hs1 S4
          refine xS_u xP (scr := some (L, xs)) (mid := xi_L_law) (mi := xmi_L_law) rfl X (stop := 540) hscr 2 50 538 (lc_v i) [.int x] h1 c1 s1 540 ((5, .int x) :: lc_v i) [] h1 c1 s1 _ _ _ rfl (hR _ _ (by omega) (by omega)) S4 ?_
          intro H5 locs5 ls5 S5
          have S5' : xc_S D cy ad sp (fun q : Nat => s.heap.size ≤ q) s 8 h1 (lc_v i) H5 locs5 ls5 := ⟨S5.1, S5.2.1, lv_sub S5.2.2 [1, 2, 3, 4, 5] rfl⟩
          obtain ⟨y, h2, ⟨f2, hf2⟩, I2⟩ := lo_11b (L := L) (i := i) (xs := xs) (h := h1) (c := c1) (s := s1) hL hi6 I1
          refine xS_u xP (scr := some (L, xs)) (mid := xi_L_law) (mi := xmi_L_law) rfl X (stop := 562) hscr f2 50 540 (lc_v i) [] h1 c1 s1 562 (lc_v i) [.long y] h2 c1 s1 _ _ _ hf2 (hR _ _ (by omega) (by omega)) S5' ?_
          intro H6 locs6 ls6 S6
          refine xS_u xP (scr := some (L, xs)) (mid := xi_L_law) (mi := xmi_L_law) rfl X (stop := 564) hscr 2 50 562 (lc_v i) [.long y] h2 c1 s1 564 ((6, .long y) :: lc_v i) [] h2 c1 s1 _ _ _ rfl (hR _ _ (by omega) (by omega)) S6 ?_
          intro H7 locs7 ls7 S7
          have S7' : xc_S D cy ad sp (fun q : Nat => s.heap.size ≤ q) s 8 h2 (lc_v i) H7 locs7 ls7 := ⟨S7.1, S7.2.1, lv_sub S7.2.2 [1, 2, 3, 4, 5] rfl⟩
          refine xS_u xP (scr := some (L, xs)) (mid := xi_L_law) (mi := xmi_L_law) rfl X (stop := 1000) hscr 2 50 564 (lc_v i) [] h2 c1 s1 1000 (lc_v i) [] h2 c1 s1 _ _ _ rfl (hR _ _ (by omega) (by omega)) S7' ?_
          intro H8 locs8 ls8 S8
          exact nx h2 c1 s1 ad H8 locs8 ls8 I2 hc1 hs1 S8
        obtain ⟨f, hf⟩ := lo_11a (L := L) (i := i) (xs := xs) (h := h) (c := cc) (s := ss) hL hi6 hk
        refine xS_u xP (scr := some (L, xs)) (mid := xi_L_law) (mi := xmi_L_law) rfl X hscr f 50 23 (lc_v i) [] h cc ss 535 (lc_v i) [.ref 71, .int (xs (i + 3)), .int (xs (i + 2)), .int (xs (i + 1)), .ref 0] h cc ss _ _ _ hf (hR _ _ (by omega) (by omega)) S ?_
        intro H3 locs3 ls3 S3
        have s0 : h.1[0]? = some (0, 9) := (lc_Iq I).2.1 0 _ rfl
        by_cases hv : so_ok h (xs (i + 1)) (xs (i + 2)) (xs (i + 3))
        · obtain ⟨f2, v, h1, he, l1, I1⟩ := cs_good I hv
          refine sh_lawR X s0 he ((lc_Iq I1).2.1 71 _ rfl) S3 ⟨by decide, by decide⟩ ⟨show cc + 0 ≤ 601024 by omega, show ss + 0 ≤ 7293034 by omega⟩ ?_
          intro H4 locs4 S4
          exact sh 0 _ _ _ ad H4 locs4 ls3 (lc_ul I1) (by omega) (by omega) S4
        · obtain ⟨f2, he⟩ := cs_bad (lc_Iq I) hv
          refine sh_lawT X hU hl s0 I.2.1 I.1.1 he S3 ⟨by decide, by decide⟩ ⟨show cc + 1 ≤ 601024 by omega, show ss + 6 ≤ 7293034 by omega⟩ ?_
          intro H4 locs4 ad4 S4
          exact sh 1 _ _ _ ad4 H4 locs4 ls3 I (by omega) (by omega) S4
      · obtain ⟨h', c', s', ⟨f, hf⟩, I', hc', hs'⟩ := ld_all (L := L) (i := i) (xs := xs) (c := cc) (s := ss) hL hi6 I hk
        refine xS_u xP (scr := some (L, xs)) (mid := xi_L_law) (mi := xmi_L_law) rfl X hscr f 50 23 (lc_v i) [] h cc ss 1000 (lc_v i) [] h' c' s' _ _ _ hf (hR _ _ (by omega) (by omega)) S ?_
        intro H1 locs1 ls1 S1
        exact nx h' c' s' ad H1 locs1 ls1 I' hc' hs' S1
    · obtain ⟨f, hf⟩ := ld_end (L := L) (i := i) (xs := xs) (h := h) (c := cc) (s := ss) hL (by omega) (by omega)
      refine xS_u xP (scr := some (L, xs)) (mid := xi_L_law) (mi := xmi_L_law) rfl X hscr f 50 23 (lc_v i) [] h cc ss 1006 (lc_v i) [] h cc ss _ _ _ hf (hR _ _ (by omega) (by omega)) S ?_
      intro H1 locs1 ls1 S1
      exact ws_end C0 hsp X S1 (h' := h) (xR_of (f := 3) rfl) (by omega) (by omega)
set_option maxRecDepth 100000 in
theorem hv_f0 : ∀ j, j < 64 → xg 0 xf_h.2.2.1 12 j = if j = 0 then 128 else 0 := by decide +kernel
theorem lb_7 : ∀ k, k < 64 → lb 128 k = decide (k = 7) := by decide +kernel
theorem SI_f : SI xf_h := by
  have e9 : xg 0 xf_h.2.1 0 9 = nI 3 := by decide +kernel
  have e8 : xg 0 xf_h.2.1 0 8 = nI 0 := by decide +kernel
  refine ⟨⟨by decide +kernel, by decide +kernel, by decide +kernel⟩, fun mem sc x1 m12 x2 sc8 => ?_⟩
  rw [e9] at x1
  rw [e8] at x2
  have y1 := congrArg Int32.toInt x1
  have y2 := congrArg Int32.toInt x2
  rw [nI_toInt (by decide), nI_toInt (by omega)] at y1 y2
  have m3 : mem = 3 := by omega
  have s0 : sc = 0 := by omega
  subst m3
  subst s0
  refine ⟨fun k hk' => absurd hk' (Nat.not_lt_zero k), fun s s4 => ?_⟩
  rw [hv_lb, hv_f0 (s / 64) (by omega)]
  by_cases z : s / 64 = 0
  · rw [if_pos z, lb_7 (s % 64) (by omega)]
    by_cases y : s = 7
    · rw [y]; try rfl
    · rw [decide_eq_false (show ¬ s = 2 ^ 3 - 1 from y), decide_eq_false (by omega)]
  · rw [if_neg z, lb_0 (by omega), decide_eq_false (show ¬ s = 2 ^ 3 - 1 by omega)]
theorem VZ_f : VZ xf_h := fun mem vc x1 x2 x3 x4 k hk' => by
  rw [show xg 0 xf_h.2.1 35 3 = nI 0 by decide +kernel] at x3
  have y := congrArg Int32.toInt x3
  rw [nI_toInt (by decide), nI_toInt (by omega)] at y
  omega
theorem PI_f : PI xf_h := by
  refine ⟨fun q h1 z => ?_, fun q m h1 h2 m1 m12 => ?_⟩
  · rw [show xg none xf_h.2.2.2 14 6 = some 11 by decide +kernel] at h1
    exact absurd (Option.some.inj h1).symm z
  · rw [show xg 0 xf_h.2.1 14 7 = nI 0 by decide +kernel] at h2
    have y := congrArg Int32.toInt h2
    rw [nI_toInt (by decide), nI_toInt (by omega)] at y
    omega
theorem lc_f : lc_I xf_h := ⟨a_fresh, by decide, by decide, ⟨0, by decide +kernel, by decide +kernel, by decide, fun k hk' => absurd hk' (Nat.not_lt_zero k)⟩, ⟨3, by decide, by decide +kernel, by decide +kernel⟩, ⟨0, by decide, by decide +kernel, by decide +kernel⟩, ⟨0, by decide, by decide +kernel, by decide +kernel⟩, ⟨0, by decide, by decide +kernel, by decide +kernel⟩, by decide +kernel, by decide +kernel, by unfold chr_; decide +kernel, by unfold plr; decide +kernel, SI_f, VZ_f, PI_f⟩
set_option maxRecDepth 100000 in
set_option maxHeartbeats 8000000 in
/-- from the entry, for every script of at most 3072 ints, the law comes to its end with true -/
theorem whole_start {p : Program} {e : Env} {s : State} {m : MethodId} {below : List Frame} {meth : Method} {c : Code} (l : Launch) (hl : l.stackTraces = false) {b L : Nat} {xs : Nat → Int32} (hL : L ≤ 3072) (C0 : lw_At p s m meth c b L xs) : W p l e room_1 s m #[Value.ref b] below meth c s.heap [] 0 0 (lw_Z below #[Value.ref b] s) (entryFrame m ([Value.ref b] : List Value).toArray 8) := by
  obtain ⟨D, cy, sp, hsp, X⟩ := xl_ctx C0
  have hU := ws_U C0
  have hl0 := lv_entry ([.ref b]) (n := 8) (Nat.le_of_ble_eq_true rfl)
  have hR : 12 ≤ room_1.frames ∧ 40 * 12 ≤ room_1.locals ∧ 72 ≤ room_1.cells ∧ 274345 ≤ room_1.slots := by decide
  rw [lg_entry_eq]
  refine xS_u xP (scr := none) (mid := xi_L_law) (mi := xmi_L_law) rfl X (ad := fun k => s.heap.size + k) (fun L xs z => by cases z) 3000 12 0 [(0, .float 0)] [] ([], [], [], []) 0 0 23 xf_lv [] xf_h 72 274345 _ _ _ (xu_b_ok xf_pre) hR ⟨⟨fun k q h => by simp [xh_ws] at h, ⟨fun i j p q h => by simp [xh_ws] at h, fun k q h => by simp [xh_ws] at h⟩, fun j => ?_⟩, va_S.rf, ?_⟩ ?_
  · show s.heap.size + (0 + j) = s.heap.size + j
    rw [Nat.zero_add]
  · have e0 : xl_m (fun k => s.heap.size + k) sp [(0, .float 0)] = [(0, .ref b)] := by
      show [(0, Value.ref (sp 0))] = [(0, Value.ref b)]
      rw [hsp]
    rw [e0]
    exact hl0
  intro H1 locs1 ls1 S1
  exact wl_loop l hl C0 hsp hL X hU (L + 1) 0 xf_h 72 274345 _ H1 locs1 ls1 (by omega) (by omega) lc_f (by omega) (by omega) S1
end XWS
end
