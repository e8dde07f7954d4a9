section XLL
/-- a run up to a place, step by step -/
def xV (scr : Option (Nat × (Nat → Int32))) (stop d mid : Nat) (mi : xm_M) (S o : xs_S) : Prop := ∃ f : Nat, xe_u xM xC scr stop f d mid mi S = some o
theorem xe_u_more {M : Nat → Option xm_M} {Cd : Nat → Nat → Option xr_R} {stop : Nat} : ∀ (f : Nat) (scr : Option (Nat × (Nat → Int32))) (d mid : Nat) (mi : xm_M) (st : xs_S) (o : xs_S), xe_u M Cd scr stop f d mid mi st = some o → xe_u M Cd scr stop (f + 1) d mid mi st = some o := by
  intro f
  induction f with
  | zero => intro scr d mid mi st o he; cases he
  | succ f ih =>
    intro scr d mid mi st o he
    obtain ⟨pc, lv, st, h, c, s⟩ := st
    unfold xe_u at he ⊢
    cases hb : Nat.beq pc stop with
    | true => rw [hb] at he; exact he
    | false =>
      rw [hb] at he
      simp only [cond_false] at he ⊢
      cases hr : Cd mid pc with
      | none => rw [hr] at he; cases he
      | some r =>
        rw [hr] at he
        dsimp only at he ⊢
        cases hi : xe_isr r.1 with
        | true => rw [hi] at he; cases he
        | false =>
          rw [hi] at he
          simp only [cond_false] at he ⊢
          cases h2 : xe_2 scr mi.2.2.2.1 r d pc lv st h c s with
          | some o1 =>
            rw [h2] at he
            exact ih _ _ _ _ _ _ he
          | none =>
            rw [h2] at he
            dsimp only at he ⊢
            cases d with
            | zero => cases he
            | succ d' =>
              dsimp only at he ⊢
              cases hcl : xe_cl M r st h with
              | none => rw [hcl] at he; cases he
              | some t =>
                obtain ⟨mj, As, q⟩ := t
                rw [hcl] at he
                dsimp only at he ⊢
                cases hx : xe_x M Cd none f d' r.2.2.1 mj (0, lv_args 0 As, [], h, 0, 0) with
                | none => rw [hx] at he; cases he
                | some t =>
                  obtain ⟨v, h', mc, ms⟩ := t
                  rw [hx] at he
                  rw [xe_x_more _ _ _ _ _ _ _ hx]
                  exact ih _ _ _ _ _ _ he
theorem xe_u_le {M : Nat → Option xm_M} {Cd : Nat → Nat → Option xr_R} {stop f g : Nat} (hfg : f ≤ g) {scr : Option (Nat × (Nat → Int32))} {d mid : Nat} {mi : xm_M} {st : xs_S} {o : xs_S} (h : xe_u M Cd scr stop f d mid mi st = some o) : xe_u M Cd scr stop g d mid mi st = some o := by
  induction hfg with
  | refl => exact h
  | step _ ih => exact xe_u_more _ _ _ _ _ _ _ ih
section
variable {scr : Option (Nat × (Nat → Int32))} {stop d mid : Nat} {mi : xm_M} {pc : Nat} {lv : List (Nat × Value)} {st q : List Value} {h : xh_H} {c s : Nat} {o : xs_S} {r : xr_R}
theorem xV_stop : xV scr stop d mid mi (stop, lv, st, h, c, s) (stop, lv, st, h, c, s) := by
  refine ⟨1, ?_⟩
  unfold xe_u
  rw [Nat.beq_refl]
  rfl
theorem xV_step {o1 : xs_S} (hb : Nat.beq pc stop = false) (hr : xC mid pc = some r) (hi : xe_isr r.1 = false) (h2 : xe_2 scr mi.2.2.2.1 r d pc lv st h c s = some o1) (k : xV scr stop d mid mi o1 o) : xV scr stop d mid mi (pc, lv, st, h, c, s) o := by
  obtain ⟨f, hf⟩ := k
  refine ⟨f + 1, ?_⟩
  unfold xe_u
  rw [hb, hr]
  dsimp only
  rw [hi]
  simp only [cond_false]
  rw [h2]
  exact hf
theorem xV_call {mj : xm_M} {As q : List Value} {v : Option Value} {h' : xh_H} {mc ms : Nat} (hb : Nat.beq pc stop = false) (hr : xC mid pc = some r) (hi : xe_isr r.1 = false) (h2 : xe_2 scr mi.2.2.2.1 r (d + 1) pc lv st h c s = none) (hcl : xe_cl xM r st h = some (mj, As, q)) (hm : xR none d r.2.2.1 mj (0, lv_args 0 As, [], h, 0, 0) (v, h', mc, ms)) (k : xV scr stop (d + 1) mid mi (pc + 3, lv, v.toList ++ q, h', c + mc, s + ms) o) : xV scr stop (d + 1) mid mi (pc, lv, st, h, c, s) o := by
  obtain ⟨f1, hf1⟩ := hm
  obtain ⟨f2, hf2⟩ := k
  refine ⟨(f1 + f2) + 1, ?_⟩
  unfold xe_u
  rw [hb, hr]
  dsimp only
  rw [hi]
  simp only [cond_false]
  rw [h2]
  dsimp only
  rw [hcl]
  dsimp only
  rw [xe_x_le (Nat.le_add_right f1 f2) hf1]
  exact xe_u_le (Nat.le_add_left f2 f1) hf2
theorem xV_if (b : Bool) {k : ClassFile.Cond} {off : Int} {tgt b0 K i : Nat} {x : Int32} (hb : Nat.beq pc stop = false) (hr : xC mid pc = some (.ifCond k off, 3, tgt, b0, K, i)) (hx : xe_c k x 0 = b) (kk : xV scr stop d mid mi (cond b tgt (pc + 3), lv, q, h, c, s) o) : xV scr stop d mid mi (pc, lv, .int x :: q, h, c, s) o := by
  cases b with
  | true => exact xV_step hb hr rfl (by simp [xe_2, xe_1, xp_i, hx]) kk
  | false => exact xV_step hb hr rfl (by simp [xe_2, xe_1, xp_i, hx]) kk
theorem xV_ic (b : Bool) {k : ClassFile.Cond} {off : Int} {tgt b0 K i : Nat} {x y : Int32} (hb : Nat.beq pc stop = false) (hr : xC mid pc = some (.if_icmp k off, 3, tgt, b0, K, i)) (hx : xe_c k x y = b) (kk : xV scr stop d mid mi (cond b tgt (pc + 3), lv, q, h, c, s) o) : xV scr stop d mid mi (pc, lv, .int y :: .int x :: q, h, c, s) o := by
  cases b with
  | true => exact xV_step hb hr rfl (by simp [xe_2, xe_1, xp_ii, hx]) kk
  | false => exact xV_step hb hr rfl (by simp [xe_2, xe_1, xp_ii, hx]) kk
end
/-- a number that class and reference have in common -/
def rb (h : xh_H) (c k c' k' N : Nat) : Prop := ∃ m, m ≤ N ∧ xg 0 h.2.1 c k = nI m ∧ xg 0 h.2.1 c' k' = nI m
theorem rb_r {md : List (Nat × Nat)} {h h' : xh_H} {c k c' k' N : Nat} (f : a_fr md h h') (z : a_fz c = true) (z' : a_fz c' = true) (m : a_mb md c k = false) (m' : a_mb md c' k' = false) (r : rb h c k c' k' N) : rb h' c k c' k' N := by
  obtain ⟨n, l, e, e'⟩ := r
  exact ⟨n, l, (fr_g f z m).trans e, (fr_g f z' m').trans e'⟩
theorem rb_2 {md1 md2 : List (Nat × Nat)} {h h1 h2 : xh_H} {c k c' k' N : Nat} (f1 : a_fr md1 h h1) (f2 : a_fr md2 h1 h2) (z : a_fz c = true) (z' : a_fz c' = true) (m : a_mb md1 c k = false) (m' : a_mb md1 c' k' = false) (n : a_mb md2 c k = false) (n' : a_mb md2 c' k' = false) (r : rb h c k c' k' N) : rb h2 c k c' k' N := rb_r f2 z z' n n' (rb_r f1 z z' m m' r)
theorem pr_2 {md1 md2 : List (Nat × Nat)} {h h1 h2 : xh_H} {c k c' k' : Nat} (f1 : a_fr md1 h h1) (f2 : a_fr md2 h1 h2) (z : a_fz c = true) (z' : a_fz c' = true) (m : a_mb md1 c k = false) (m' : a_mb md1 c' k' = false) (n : a_mb md2 c k = false) (n' : a_mb md2 c' k' = false) (r : xg 0 h.2.1 c k = xg 0 h.2.1 c' k') : xg 0 h2.2.1 c k = xg 0 h2.2.1 c' k' := by
  rw [fr_g f2 z n, fr_g f1 z m, fr_g f2 z' n', fr_g f1 z' m']
  exact r
theorem tpe_r {md : List (Nat × Nat)} {h h' : xh_H} {t : Nat} (f : a_fr md h h') (m1 : a_mb md 1 1 = false) (m2 : ∀ k, a_mb md 2 k = false) (m3 : a_mb md 39 2 = false) (m4 : ∀ k, a_mb md 40 k = false) (r : tpe h t) : tpe h' t := ⟨(fr_g f rfl m1).trans r.1, (fr_g f rfl m3).trans r.2.1, r.2.2.1, fun k hk' => by rw [fr_g (c := 2) (k := k) f rfl (m2 k), fr_g (c := 40) (k := k) f rfl (m4 k)]; exact r.2.2.2 k hk'⟩
theorem tp_2 {md1 md2 : List (Nat × Nat)} {h h1 h2 : xh_H} (f1 : a_fr md1 h h1) (f2 : a_fr md2 h1 h2) (m1 : a_mb md1 1 1 = false) (m2 : ∀ k, a_mb md1 2 k = false) (m3 : a_mb md1 39 2 = false) (m4 : ∀ k, a_mb md1 40 k = false) (n1 : a_mb md2 1 1 = false) (n2 : ∀ k, a_mb md2 2 k = false) (n3 : a_mb md2 39 2 = false) (n4 : ∀ k, a_mb md2 40 k = false) (r : ∃ t, tpe h t) : ∃ t, tpe h2 t := by
  obtain ⟨t, tp⟩ := r
  exact ⟨t, tpe_r f2 n1 n2 n3 n4 (tpe_r f1 m1 m2 m3 m4 tp)⟩
/-- the votes that both have seen -/
def chr_ (h : xh_H) : Prop := ∀ k, k < 60 → xg 0 h.2.1 36 k = xg 0 h.2.1 68 k ∧ xg 0 h.2.1 37 k = xg 0 h.2.1 69 k ∧ xg 0 h.2.1 38 k = xg 0 h.2.1 70 k
/-- the members' orders that both have -/
def plr (h : xh_H) : Prop := ∀ k, k < 84 → xg 0 h.2.1 30 k = xg 0 h.2.1 62 k
def plM (md : List (Nat × Nat)) : Bool := !a_mb md 30 0 && !a_mb md 62 0
theorem pl_r {md : List (Nat × Nat)} {h h' : xh_H} (f : a_fr md h h') (m : plM md = true) (r : plr h) : plr h' := fun k hk' => by
  unfold plM at m
  simp only [Bool.and_eq_true, Bool.not_eq_true'] at m
  rw [fr_g (c := 30) (k := k) f rfl m.1, fr_g (c := 62) (k := k) f rfl m.2]
  exact r k hk'
theorem pl_2 {md1 md2 : List (Nat × Nat)} {h h1 h2 : xh_H} (f1 : a_fr md1 h h1) (f2 : a_fr md2 h1 h2) (m1 : plM md1 = true) (m2 : plM md2 = true) (r : plr h) : plr h2 := pl_r f2 m2 (pl_r f1 m1 r)
def chM (md : List (Nat × Nat)) : Bool := !a_mb md 36 0 && (!a_mb md 37 0 && (!a_mb md 38 0 && (!a_mb md 68 0 && (!a_mb md 69 0 && !a_mb md 70 0))))
theorem ch_g {md : List (Nat × Nat)} {h h' : xh_H} (f : a_fr md h h') (m : chM md = true) (k : Nat) : xg 0 h'.2.1 36 k = xg 0 h.2.1 36 k ∧ xg 0 h'.2.1 37 k = xg 0 h.2.1 37 k ∧ xg 0 h'.2.1 38 k = xg 0 h.2.1 38 k ∧ xg 0 h'.2.1 68 k = xg 0 h.2.1 68 k ∧ xg 0 h'.2.1 69 k = xg 0 h.2.1 69 k ∧ xg 0 h'.2.1 70 k = xg 0 h.2.1 70 k := by
  unfold chM at m
  simp only [Bool.and_eq_true, Bool.not_eq_true'] at m
  obtain ⟨m1, m2, m3, m4, m5, m6⟩ := m
  exact ⟨fr_g (c := 36) (k := k) f rfl m1, fr_g (c := 37) (k := k) f rfl m2, fr_g (c := 38) (k := k) f rfl m3, fr_g (c := 68) (k := k) f rfl m4, fr_g (c := 69) (k := k) f rfl m5, fr_g (c := 70) (k := k) f rfl m6⟩
theorem ch_r {md : List (Nat × Nat)} {h h' : xh_H} (f : a_fr md h h') (m : chM md = true) (r : chr_ h) : chr_ h' := fun k hk' => by
  obtain ⟨a, b, c, d, e, g⟩ := ch_g f m k
  rw [a, b, c, d, e, g]
  exact r k hk'
theorem ch_2 {md1 md2 : List (Nat × Nat)} {h h1 h2 : xh_H} (f1 : a_fr md1 h h1) (f2 : a_fr md2 h1 h2) (m1 : chM md1 = true) (m2 : chM md2 = true) (r : chr_ h) : chr_ h2 := ch_r f2 m2 (ch_r f1 m1 r)
/-- what class and reference have in common between two calls -/
def RI (h : xh_H) : Prop := (∃ t, tpe h t) ∧ rb h 0 9 39 4 12 ∧ rb h 0 8 39 33 8 ∧ rb h 0 10 39 3 999 ∧ rb h 35 3 39 63 60 ∧ xg 0 h.2.1 28 1 = xg 0 h.2.1 39 5 ∧ xg 0 h.2.1 0 11 = xg 0 h.2.1 39 13 ∧ chr_ h ∧ plr h ∧ SI h ∧ VZ h ∧ PI h
theorem RI_p {h : xh_H} (R : RI h) : PI h := R.2.2.2.2.2.2.2.2.2.2.2
/-- a frame that leaves it -/
def riM (md : List (Nat × Nat)) : Bool := vsM md && (siM md && (plM md && (chM md && (!a_mb md 1 1 && (!a_mb md 2 0 && (!a_mb md 39 2 && (!a_mb md 40 0 && (!a_mb md 0 9 && (!a_mb md 39 4 && (!a_mb md 0 8 && (!a_mb md 39 33 && (!a_mb md 0 10 && (!a_mb md 39 3 && (!a_mb md 35 3 && (!a_mb md 39 63 && (!a_mb md 28 1 && (!a_mb md 39 5 && (!a_mb md 0 11 && !a_mb md 39 13))))))))))))))))))
theorem RI_t {md : List (Nat × Nat)} {h h' : xh_H} (R : RI h) (i : a_inv a_tb h) (l : 72 ≤ h.1.length) (F : Fs 8 h h') (f : a_fr md h h') (m : riM md = true) (P : PI h') : RI h' := by
  unfold riM at m
  simp only [Bool.and_eq_true, Bool.not_eq_true'] at m
  obtain ⟨mv, ms, mp, m0, m1, m2, m3, m4, m5, m6, m7, m8, m9, m10, m11, m12, m13, m14, m15, m16⟩ := m
  obtain ⟨⟨t, tp⟩, r1, r2, r3, r4, r5, r6, r7, r8, r9, r10, -⟩ := R
  exact ⟨⟨t, tpe_r f m1 (fun _ => m2) m3 (fun _ => m4) tp⟩, rb_r f rfl rfl m5 m6 r1, rb_r f rfl rfl m7 m8 r2, rb_r f rfl rfl m9 m10 r3, rb_r f rfl rfl m11 m12 r4, by rw [fr_g f rfl m13, fr_g f rfl m14]; exact r5, by rw [fr_g f rfl m15, fr_g f rfl m16]; exact r6, ch_r f m0 r7, pl_r f mp r8, SI_t i (a_rq_of i.1 l) F f ms r9, VZ_t f mv r10, P⟩
/-- between two calls of the law -/
def lc_I (h : xh_H) : Prop := a_inv a_tb h ∧ 72 ≤ h.1.length ∧ h.1.length % 2 = 0 ∧ RI h
theorem lc_Iq {h : xh_H} (I : lc_I h) : a_rq a_tb h := a_rq_of I.1.1 I.2.1
theorem lc_It {h h' : xh_H} {md : List (Nat × Nat)} (I : lc_I h) (i : a_inv a_tb h') (l : 72 ≤ h'.1.length) (p : h'.1.length % 2 = 0) (F : Fs 8 h h') (f : a_fr md h h') (m : riM md = true) (P : PI h') : lc_I h' := ⟨i, l, p, RI_t I.2.2.2 I.1 I.2.1 F f m P⟩
theorem lc_1 {D : Nat} {C : aC} {m : xm_M} {A : List Value} {h : xh_H} {lo hi : Int} {o : Option (aN × Int)} {ft ff : aF} (I : lc_I h) (hC : a_spec a_tb C) (hM : xM C.1 = some m) (hd : C.2.1 ≤ D) (ha : a_st (fun _ => 0) h.1.length C.2.2.1 A) (hp : C.2.2.2.2.2 = []) (hret : C.2.2.2.1 = [(some (0, lo, hi, o, ft, ff), [])]) (rm : riM C.2.2.2.2.1 = true) (fm : fzM C.1 = true) (pm : pwM C.2.2.2.2.1 = true) (qm : qzM C.1 = true) : ∃ (x : Int32) (h1 : xh_H), xR none D C.1 m (0, lv_args 0 A, [], h, 0, 0) (some (.int x), h1, 0, 0) ∧ lc_I h1 := by
  obtain ⟨v, h', r1, p1, p2, ⟨t, ht, p3⟩, p4⟩ := hC D m A h (fun _ => 0) hd hM I.1 I.2.1 ha (by rw [hp]; exact a_fp0)
  rw [hret] at ht
  cases List.mem_singleton.mp ht
  obtain ⟨⟨w, rfl, x, rfl, -⟩, -⟩ := p3
  exact ⟨x, h', r1, lc_It I p1 (by rw [p2]; exact I.2.1) (by rw [p2]; exact I.2.2.1) (Fs_z (lc_Iq I) (fz_run fm r1)) p4 rm (PI_t I.1 I.2.1 (Fs_z (lc_Iq I) (fz_run fm r1)) (qz_run qm r1) p4 pm (RI_p I.2.2.2))⟩
theorem lc_2 {D : Nat} {C : aC} {m : xm_M} {A : List Value} {h : xh_H} {lo hi : Int} {o : Option (aN × Int)} {ft ff : aF} (I : lc_I h) (hC : a_spec a_tb C) (hM : xM C.1 = some m) (hd : C.2.1 ≤ D) (ha : a_st (fun _ => 0) h.1.length C.2.2.1 A) (hp : C.2.2.2.2.2 = []) (hret : C.2.2.2.1 = [(some (1, lo, hi, o, ft, ff), [])]) (rm : riM C.2.2.2.2.1 = true) (fm : fzM C.1 = true) (pm : pwM C.2.2.2.2.1 = true) (qm : qzM C.1 = true) : ∃ (x : Int64) (h1 : xh_H), xR none D C.1 m (0, lv_args 0 A, [], h, 0, 0) (some (.long x), h1, 0, 0) ∧ lc_I h1 := by
  obtain ⟨v, h', r1, p1, p2, ⟨t, ht, p3⟩, p4⟩ := hC D m A h (fun _ => 0) hd hM I.1 I.2.1 ha (by rw [hp]; exact a_fp0)
  rw [hret] at ht
  cases List.mem_singleton.mp ht
  obtain ⟨⟨w, rfl, x, rfl, -⟩, -⟩ := p3
  exact ⟨x, h', r1, lc_It I p1 (by rw [p2]; exact I.2.1) (by rw [p2]; exact I.2.2.1) (Fs_z (lc_Iq I) (fz_run fm r1)) p4 rm (PI_t I.1 I.2.1 (Fs_z (lc_Iq I) (fz_run fm r1)) (qz_run qm r1) p4 pm (RI_p I.2.2.2))⟩
/-- a call by its contract, whatever it answers -/
theorem lc_3 {D : Nat} {C : aC} {m : xm_M} {A : List Value} {h : xh_H} (i : a_inv a_tb h) (l : 72 ≤ h.1.length) (hC : a_spec a_tb C) (hM : xM C.1 = some m) (hd : C.2.1 ≤ D) (ha : a_st (fun _ => 0) h.1.length C.2.2.1 A) (hp : C.2.2.2.2.2 = []) : ∃ v h1, xR none D C.1 m (0, lv_args 0 A, [], h, 0, 0) (v, h1, 0, 0) ∧ hk C.2.2.2.2.1 h h1 := by
  obtain ⟨v, h', r1, p1, p2, -, p4⟩ := hC D m A h (fun _ => 0) hd hM i l ha (by rw [hp]; exact a_fp0)
  exact ⟨v, h', r1, p1, p2, p4⟩
theorem xq_Z {d mid : Nat} {mi : xm_M} {pc : Nat} {lv : List (Nat × Value)} {st : List Value} {h : xh_H} {Q : Option Value → xh_H → Prop} {v : Option Value} {h' : xh_H} {c s : Nat} (k : xR none d mid mi (pc, lv, st, h, 0, 0) (v, h', c, s)) (hq : ∀ f, xq f mid mi pc lv st h Q) (hn : (lv.map (fun q => q.1)).Nodup) : Q v h' := xq_R hn k hq
theorem en_le {t : Nat} {n : Int32} : en_t t n ≤ t := by
  unfold en_t
  cases hb : en_ok t n with
  | false => exact Nat.le_refl t
  | true =>
    have := of_decide_eq_true hb
    show n.toInt.toNat ≤ t
    omega
theorem vt_le {B : Bool} {vc : Nat} (h : vc ≤ 60) : cond (B && decide (vc < 60)) (vc + 1) vc ≤ 60 := by
  cases B with
  | false => exact h
  | true =>
    show cond (decide (vc < 60)) (vc + 1) vc ≤ 60
    cases hb : decide (vc < 60) with
    | false => exact h
    | true =>
      have := of_decide_eq_true hb
      show vc + 1 ≤ 60
      omega
theorem mbB_n {s w r x : Int32} (h : mbB s w r x = true) : ∃ m : Nat, m ≤ 12 ∧ x = nI m := by
  unfold mbB at h
  simp only [Bool.and_eq_true, Bool.not_eq_true'] at h
  have b1 : (Int32.ofInt 1).toInt ≤ x.toInt := a_ce (a_neg_ok h.1.1)
  have b2 : x.toInt ≤ (12 : Int32).toInt := a_ce h.1.2
  have e1 : (Int32.ofInt 1).toInt = 1 := rfl
  have e2 : (12 : Int32).toInt = 12 := rfl
  rw [e1] at b1
  rw [e2] at b2
  exact ⟨x.toInt.toNat, by omega, en_n (t := 0) (by omega)⟩
/-- both statutes answer alike -/
theorem st_pair {f : Int32} {h h1 h2 : xh_H} {v1 v2 : Option Value} {n sc td mem : Nat} {T : Nat → Nat} (A1 : s9_A T n mem sc td f (xg 0 h.2.1 0 11) v1 h1) (A2 : ∀ r, (¬ sref sc td f → ∃ j, Tx T n mem j 0 0 0 (nmW T (fun _ => (0, 0))) r) → s10_A sc td f (xg 0 h1.2.1 39 13) r v2 h2) (sc8 : sc ≤ 8) (e11 : xg 0 h.2.1 0 11 = xg 0 h1.2.1 39 13) : v2 = v1 ∧ (∃ x, v1 = some (.int x)) ∧ (∃ m, m ≤ 8 ∧ xg 0 h1.2.1 0 8 = nI m ∧ xg 0 h2.2.1 39 33 = nI m) ∧ xg 0 h1.2.1 0 11 = xg 0 h2.2.1 39 13 := by
  by_cases hs : sref sc td f
  · obtain ⟨a, b, c⟩ := A1.1 hs
    obtain ⟨a', b', c'⟩ := (A2 (.inl 0) (fun z => absurd hs z)).1 hs
    exact ⟨a'.trans a.symm, ⟨_, a⟩, ⟨sc, sc8, b, b'⟩, c.trans (e11.trans c'.symm)⟩
  · obtain ⟨j, r, hX, a, b⟩ := A1.2 hs
    have A := (A2 r (fun _ => ⟨j, hX⟩)).2 hs
    have s8 : sc < 8 := by
      unfold sref at hs
      omega
    cases r with
    | inl m =>
      obtain ⟨x1, -, x3, x4⟩ := a m rfl
      obtain ⟨y1, y2, y3⟩ := A.1 m rfl
      exact ⟨y1.trans x1.symm, ⟨_, x1⟩, ⟨sc + 1, by omega, x3, y2⟩, x4.trans y3.symm⟩
    | inr q =>
      obtain ⟨k, pl⟩ := q
      obtain ⟨x1, x3, x4⟩ := b k pl rfl
      obtain ⟨y1, y2, y3⟩ := A.2 k pl rfl
      exact ⟨y1.trans x1.symm, ⟨_, x1⟩, ⟨sc, sc8, x3, y2⟩, x4.trans y3.symm⟩
theorem lc_m1 {mem : Nat} {h : xh_H} (I : lc_I h) (e9 : xg 0 h.2.1 0 9 = nI mem) (m12 : mem ≤ 12) : 1 ≤ mem := by
  have sb := a_flx (c := 0) (k := 9) (lo := 1) (hi := 12) I.1.1 I.2.1 rfl rfl (by decide)
  rw [e9, nI_toInt (by omega)] at sb
  omega
theorem lp_many {f : Nat} {x : Int32} {h : xh_H} (I : lc_I h) : xq f xi_X9_many xmi_X9_many 0 [(0, .ref 0), (1, .int x)] [] h (fun _ h' => PI h') := by
  obtain ⟨-, ⟨mem, m12, e9, -⟩, ⟨sc, sc8, e8, -⟩, ⟨td, td9, e10, -⟩, -, -, -, -, -, si, -, pi⟩ := I.2.2.2
  have m1 := lc_m1 I e9 m12
  exact ma9_p I.1 I.2.1 e9 m1 m12 e8 sc8 e10 si pi
theorem lp_setAt {f : Nat} {x y : Int32} {h : xh_H} (I : lc_I h) : xq f xi_X9_setAt xmi_X9_setAt 0 [(0, .ref 0), (1, .int x), (2, .int y)] [] h (fun _ h' => PI h') := by
  obtain ⟨-, ⟨mem, m12, e9, -⟩, ⟨sc, sc8, e8, -⟩, ⟨td, td9, e10, -⟩, -, -, -, -, -, si, -, pi⟩ := I.2.2.2
  have m1 := lc_m1 I e9 m12
  exact sa9_p I.1 I.2.1 e9 m1 m12 e8 sc8 e10 si pi
theorem lp_stronger {f : Nat} {x y : Int32} {h : xh_H} (I : lc_I h) : xq f xi_X9_stronger xmi_X9_stronger 0 [(0, .ref 0), (1, .int x), (2, .int y)] [] h (fun _ h' => PI h') := by
  obtain ⟨-, ⟨mem, m12, e9, -⟩, ⟨sc, sc8, e8, -⟩, ⟨td, td9, e10, -⟩, -, -, -, -, -, si, -, pi⟩ := I.2.2.2
  have m1 := lc_m1 I e9 m12
  exact xq_mono (sr9_q I.1 I.2.1 e9 m1 m12 e8 sc8 e10 si pi) (fun _ _ e => e.2)
theorem lp_turns {f : Nat} {x : Int32} {h : xh_H} (I : lc_I h) : xq f xi_X9_turns xmi_X9_turns 0 [(0, .ref 0), (1, .int x)] [] h (fun _ h' => PI h') := by
  obtain ⟨-, ⟨mem, m12, e9, -⟩, ⟨sc, sc8, e8, -⟩, ⟨td, td9, e10, -⟩, -, -, -, -, -, si, -, pi⟩ := I.2.2.2
  have m1 := lc_m1 I e9 m12
  exact xq_mono (tu9_q I.1 I.2.1 e9 m1 m12 e8 sc8 e10 si pi) (fun _ _ e => e.2)
theorem lp_chance {f : Nat} {x : Int32} {h : xh_H} (I : lc_I h) : xq f xi_X9_chance xmi_X9_chance 0 [(0, .ref 0), (1, .int x)] [] h (fun _ h' => PI h') := by
  obtain ⟨-, ⟨mem, m12, e9, -⟩, ⟨sc, sc8, e8, -⟩, ⟨td, td9, e10, -⟩, -, -, -, -, -, si, -, pi⟩ := I.2.2.2
  have m1 := lc_m1 I e9 m12
  exact ch9_p I.1 I.2.1 e9 m1 m12 e8 sc8 e10 si pi
theorem lp_ally {f : Nat} {x : Int32} {h : xh_H} (I : lc_I h) : xq f xi_X9_ally xmi_X9_ally 0 [(0, .ref 0), (1, .int x)] [] h (fun _ h' => PI h') := by
  obtain ⟨-, ⟨mem, m12, e9, -⟩, ⟨sc, sc8, e8, -⟩, ⟨td, td9, e10, -⟩, -, -, -, -, -, si, -, pi⟩ := I.2.2.2
  have m1 := lc_m1 I e9 m12
  exact xq_mono (al9_q I.1 I.2.1 e9 m1 m12 e8 sc8 e10 si pi) (fun _ _ e => e.2)
theorem lp_weigh {f : Nat} {h : xh_H} (I : lc_I h) : xq f xi_X9_weigh xmi_X9_weigh 0 [(0, .ref 0)] [] h (fun _ h' => PI h') := by
  obtain ⟨-, ⟨mem, m12, e9, -⟩, ⟨sc, sc8, e8, -⟩, ⟨td, td9, e10, -⟩, -, -, -, -, -, si, -, pi⟩ := I.2.2.2
  have m1 := lc_m1 I e9 m12
  exact we9_p I.1 I.2.1 e9 m1 m12 e8 sc8 e10 si pi
theorem lp_share {f : Nat} {x w z : Int32} {h : xh_H} (I : lc_I h) : xq f xi_X9_share xmi_X9_share 0 [(0, .ref 0), (1, .int x), (2, .int w), (3, .int z)] [] h (fun _ h' => PI h') := by
  obtain ⟨-, ⟨mem, m12, e9, -⟩, ⟨sc, sc8, e8, -⟩, ⟨td, td9, e10, -⟩, -, -, -, -, -, si, -, pi⟩ := I.2.2.2
  have m1 := lc_m1 I e9 m12
  exact sh9_p (k := 0) I.1 I.2.1 e9 m1 m12 e8 sc8 e10 si pi
/-- a call that studies anew -/
theorem lc_P {D : Nat} {C : aC} {m : xm_M} {A : List Value} {h : xh_H} {lo hi : Int} {o : Option (aN × Int)} {ft ff : aF} (I : lc_I h) (hC : a_spec a_tb C) (hM : xM C.1 = some m) (hd : C.2.1 ≤ D) (ha : a_st (fun _ => 0) h.1.length C.2.2.1 A) (hp : C.2.2.2.2.2 = []) (hret : C.2.2.2.1 = [(some (0, lo, hi, o, ft, ff), [])]) (rm : riM C.2.2.2.2.1 = true) (fm : fzM C.1 = true) (hn : ((lv_args 0 A).map (fun q => q.1)).Nodup) (hP : ∀ f, xq f C.1 m 0 (lv_args 0 A) [] h (fun _ h' => PI h')) : ∃ (x : Int32) (h1 : xh_H), xR none D C.1 m (0, lv_args 0 A, [], h, 0, 0) (some (.int x), h1, 0, 0) ∧ lc_I h1 := by
  obtain ⟨v, h', r1, p1, p2, ⟨t, ht, p3⟩, p4⟩ := hC D m A h (fun _ => 0) hd hM I.1 I.2.1 ha (by rw [hp]; exact a_fp0)
  rw [hret] at ht
  cases List.mem_singleton.mp ht
  obtain ⟨⟨w, rfl, x, rfl, -⟩, -⟩ := p3
  exact ⟨x, h', r1, lc_It I p1 (by rw [p2]; exact I.2.1) (by rw [p2]; exact I.2.2.1) (Fs_z (lc_Iq I) (fz_run fm r1)) p4 rm (xq_Z (hn := hn) r1 hP)⟩
/-- chance -/
theorem lc_chI {D : Nat} {x : Int32} {h h' : xh_H} {v : Option Value} (I : lc_I h) (r1 : xR none D xi_X9_chance xmi_X9_chance (0, lv_args 0 [.ref 0, .int x], [], h, 0, 0) (v, h', 0, 0)) (k1 : hk aC_m_X9_chance.2.2.2.2.1 h h') : lc_I h' := by
  obtain ⟨p1, p2, p4⟩ := k1
  obtain ⟨h1, z1, g1⟩ := xq_Z (hn := (show List.Nodup [0, 1] by decide)) r1 (fun f => ch9_q (f := f) (x := x) I.1 I.2.1)
  have q1 := lc_Iq I
  have b : ∀ {c : Nat} {s : Nat × Nat}, h1.1[c]? = some s → h.1[c]? = some s := fun {c s} e => by rw [← z1.1]; exact e
  have F1 : Fs 8 h h1 := Fs_z q1 z1
  have F2 : Fs 8 h1 h' := Fs_f g1 (fun _ _ _ => rfl) (fun c k e => by
    show Nat.beq c 20 = false
    rw [Bool.eq_false_iff]
    intro y
    have := Nat.eq_of_beq_eq_true y
    rcases sh64c q1 (b e) with z | z <;> omega)
  have F : Fs 8 h h' := ⟨Nat.le_trans F1.1 F2.1, fun c k e => (F2.2.1 c k (by rw [z1.1]; exact e)).trans (F1.2.1 c k e), fun c k e => (F2.2.2.1 c k (by rw [z1.1]; exact e)).trans (F1.2.2.1 c k e), fun k hk' => (F2.2.2.2.1 k hk').trans (F1.2.2.2.1 k hk'), fun c k e => (F2.2.2.2.2.1 c k (by rw [z1.1]; exact e)).trans (F1.2.2.2.2.1 c k e), F2.2.2.2.2.2.trans F1.2.2.2.2.2⟩
  exact lc_It I p1 (by rw [p2]; exact I.2.1) (by rw [p2]; exact I.2.2.1) F p4 rfl (xq_Z (hn := (show List.Nodup [0, 1] by decide)) r1 (fun f => lp_chance (f := f) I))
/-- chance -/
theorem lc_ch {D : Nat} {x : Int32} {h : xh_H} (I : lc_I h) (hd : aC_m_X9_chance.2.1 ≤ D) : ∃ (y : Int64) (h1 : xh_H), xR none D xi_X9_chance xmi_X9_chance (0, lv_args 0 [.ref 0, .int x], [], h, 0, 0) (some (.long y), h1, 0, 0) ∧ lc_I h1 := by
  obtain ⟨v, h', r1, p1, p2, ⟨t, ht, p3⟩, p4⟩ := as_m_X9_chance D xmi_X9_chance [.ref 0, .int x] h (fun _ => 0) hd rfl I.1 I.2.1 ⟨a_av (by decide) I.2.1, a_ai (ar_rng x).1 (ar_rng x).2, trivial⟩ a_fp0
  cases List.mem_singleton.mp ht
  obtain ⟨⟨w, rfl, y, rfl, -⟩, -⟩ := p3
  obtain ⟨h1, z1, g1⟩ := xq_Z (hn := (show List.Nodup [0, 1] by decide)) r1 (fun f => ch9_q (f := f) (x := x) I.1 I.2.1)
  have q1 := lc_Iq I
  have b : ∀ {c : Nat} {s : Nat × Nat}, h1.1[c]? = some s → h.1[c]? = some s := fun {c s} e => by rw [← z1.1]; exact e
  have F1 : Fs 8 h h1 := Fs_z q1 z1
  have F2 : Fs 8 h1 h' := Fs_f g1 (fun _ _ _ => rfl) (fun c k e => by
    show Nat.beq c 20 = false
    rw [Bool.eq_false_iff]
    intro y
    have := Nat.eq_of_beq_eq_true y
    rcases sh64c q1 (b e) with z | z <;> omega)
  have F : Fs 8 h h' := ⟨Nat.le_trans F1.1 F2.1, fun c k e => (F2.2.1 c k (by rw [z1.1]; exact e)).trans (F1.2.1 c k e), fun c k e => (F2.2.2.1 c k (by rw [z1.1]; exact e)).trans (F1.2.2.1 c k e), fun k hk' => (F2.2.2.2.1 k hk').trans (F1.2.2.2.1 k hk'), fun c k e => (F2.2.2.2.2.1 c k (by rw [z1.1]; exact e)).trans (F1.2.2.2.2.1 c k e), F2.2.2.2.2.2.trans F1.2.2.2.2.2⟩
  exact ⟨y, h', r1, lc_It I p1 (by rw [p2]; exact I.2.1) (by rw [p2]; exact I.2.2.1) F p4 rfl (xq_Z (hn := (show List.Nodup [0, 1] by decide)) r1 (fun f => lp_chance (f := f) I))⟩
/-- the reference's rows are of 0 and 1 -/
theorem SI_r {h : xh_H} {mem sc : Nat} (S : SI h) (e9 : xg 0 h.2.1 0 9 = nI mem) (m12 : mem ≤ 12) (e8 : xg 0 h.2.1 0 8 = nI sc) (sc8 : sc ≤ 8) : (∀ k, k < sc → (xg 0 h.2.1 52 k).toInt ≤ 999) ∧ (∀ k s, k < sc → s < 2 ^ mem → ∃ b : Bool, xg 0 h.2.1 44 (4096 * k + s) = bl b) ∧ ∀ k, k < sc → (xg 0 h.2.1 52 k).toInt ≤ (xg 0 h.2.1 51 k).toInt := by
  obtain ⟨a, -⟩ := S.2 mem sc e9 m12 e8 sc8
  refine ⟨fun k hk' => ?_, fun k s hk' hs => ?_, fun k hk' => ?_⟩
  · obtain ⟨q, -, -, -, -, -, -, -, q5, -⟩ := a k hk'
    omega
  · obtain ⟨q, -, -, -, -, -, -, -, -, q6⟩ := a k hk'
    exact ⟨_, (q6 s hs).symm⟩
  · obtain ⟨q, -, -, -, -, -, -, -, q5, -⟩ := a k hk'
    exact q5.1
theorem x45 {h : xh_H} {s : Nat} (i : a_inv a_tb h) (l : 72 ≤ h.1.length) (s4 : s < 4096) : ∃ b : Bool, xg 0 h.2.1 45 s = bl b := by
  obtain ⟨b1, b2⟩ := a_bl (c := 45) (n := 4096) (k := s) i.1 l rfl (by decide) (by decide +kernel) s4
  by_cases z : (xg 0 h.2.1 45 s).toInt = 0
  · exact ⟨false, Int32.toInt_inj.mp z⟩
  · exact ⟨true, Int32.toInt_inj.mp (show _ = (1 : Int) by omega)⟩
/-- both statutes leave the same rows -/
theorem st_si {f fk : Int32} {h h1 h2 : xh_H} {v1 v2 : Option Value} {n sc td mem : Nat} {T : Nat → Nat} {md : List (Nat × Nat)} (A1 : s9_A T n mem sc td f fk v1 h1) (A3 : ∀ r sv y, sv < 4096 → (¬ sref sc td f → ∃ j, Tx T n mem j 0 0 0 (nmW T (fun _ => (0, 0))) r) → (¬ sref sc td f → ∀ m, r = .inl m → ∃ j, Tv T n mem sv j 0 0 0 (nmW T (fun _ => (0, 0))) (fun _ => false) y) → s10_D h1 sc td f r sv y v2 h2) (i : a_inv a_tb h) (l : 72 ≤ h.1.length) (hp : h.1.length % 2 = 0) (i1 : a_inv a_tb h1) (l1 : 72 ≤ h1.1.length) (S : SI h) (e9 : xg 0 h.2.1 0 9 = nI mem) (m12 : mem ≤ 12) (e8 : xg 0 h.2.1 0 8 = nI sc) (sc8 : sc ≤ 8) (td9 : td ≤ 999) (c1 : cst h h1 sc) (n1 : cnw h h1 T n mem sc f) (f1 : a_fr md h h1) (g51 : ∀ k, xg 0 h1.2.1 51 k = xg 0 h.2.1 51 k) (g52 : ∀ k, xg 0 h1.2.1 52 k = xg 0 h.2.1 52 k) (g44 : ∀ k, xg 0 h1.2.1 44 k = xg 0 h.2.1 44 k) (d9 : xg 0 h2.2.1 0 9 = nI mem) (d8 : xg 0 h2.2.1 0 8 = xg 0 h1.2.1 0 8) : SI h2 := by
  by_cases hs : sref sc td f
  · have b := (A1.1 hs).2.1
    exact SI_n i l hp i1 l1 S e9 m12 e8 sc8 td9 c1 n1 f1 g51 g52 g44 d9 d8 (Or.inl b) (A3 (.inl 0) 0 true (by decide) (fun z => absurd hs z) (fun z => absurd hs z)).1 (fun z => (nI_8 sc8 (b.symm.trans z)).elim)
  · obtain ⟨j, r, hX, a, b⟩ := A1.2 hs
    cases r with
    | inr q =>
      obtain ⟨k, pl⟩ := q
      have b := (b k pl rfl).2.1
      exact SI_n i l hp i1 l1 S e9 m12 e8 sc8 td9 c1 n1 f1 g51 g52 g44 d9 d8 (Or.inl b) (A3 (.inr (k, pl)) 0 true (by decide) (fun _ => ⟨j, hX⟩) (fun _ m e => (by cases e))).1 (fun z => (nI_8 sc8 (b.symm.trans z)).elim)
    | inl m =>
      have b := (a m rfl).2.2.1
      obtain ⟨-, -, -, -, w5⟩ := n1 b
      obtain ⟨y0, j0, -, t0⟩ := w5 0 (by decide)
      have D0 := A3 (.inl m) 0 y0 (by decide) (fun _ => ⟨j, hX⟩) (fun _ _ _ => ⟨j0, t0⟩)
      refine SI_n i l hp i1 l1 S e9 m12 e8 sc8 td9 c1 n1 f1 g51 g52 g44 d9 d8 (Or.inr b) D0.1 (fun _ => ?_)
      obtain ⟨-, q2, q3, -⟩ := (D0.2.2 hs).1 m rfl
      unfold sref at hs
      exact ⟨by omega, by omega, q2, q3, fun s y s4 ht => ((A3 (.inl m) s y s4 (fun _ => ⟨j, hX⟩) (fun _ _ _ => ht)).2.2 (by unfold sref; omega)).1 m rfl |>.2.2.2⟩
theorem lg_slf {x : Int64} : lg_cmp x x = 0 := by unfold lg_cmp; simp
theorem st_fx {f fk : Int32} {h h1 h2 : xh_H} {v1 v2 : Option Value} {n sc td mem : Nat} {T : Nat → Nat} (A1 : s9_A T n mem sc td f fk v1 h1) (A3 : ∀ r sv y, sv < 4096 → (¬ sref sc td f → ∃ j, Tx T n mem j 0 0 0 (nmW T (fun _ => (0, 0))) r) → (¬ sref sc td f → ∀ m, r = .inl m → ∃ j, Tv T n mem sv j 0 0 0 (nmW T (fun _ => (0, 0))) (fun _ => false) y) → s10_D h1 sc td f r sv y v2 h2) (n1 : cnw h h1 T n mem sc f) : fx (rW3 sc) rV h1 h2 := by
  by_cases hs : sref sc td f
  · exact (A3 (.inl 0) 0 true (by decide) (fun z => absurd hs z) (fun z => absurd hs z)).1
  · obtain ⟨j, r, hX, a, b⟩ := A1.2 hs
    cases r with
    | inr q =>
      obtain ⟨k, pl⟩ := q
      exact (A3 (.inr (k, pl)) 0 true (by decide) (fun _ => ⟨j, hX⟩) (fun _ m e => (by cases e))).1
    | inl m =>
      have b := (a m rfl).2.2.1
      obtain ⟨-, -, -, -, w5⟩ := n1 b
      obtain ⟨y0, j0, -, t0⟩ := w5 0 (by decide)
      exact (A3 (.inl m) 0 y0 (by decide) (fun _ => ⟨j, hX⟩) (fun _ _ _ => ⟨j0, t0⟩)).1
theorem PI_w {md : List (Nat × Nat)} {sc : Nat} {h h' : xh_H} (i : a_inv a_tb h) (l : 72 ≤ h.1.length) (g : fx (rW3 sc) rV h h') (f : a_fr md h h') (m : pwM md = true) (P : PI h) : PI h' := PI_s i l (fun c k e _ => g.2.2.2 c k (rV_12 (sh64c (a_rq_of i.1 l) e))) (fun c k _ => by rw [g.2.1]) (by rw [g.2.1]) (pw_e f m) P
/-- the law's locals -/
def lc_v (i : Nat) : List (Nat × Value) := [(4, .int (nI i)), (3, .ref 71), (2, .ref 39), (1, .ref 0), (0, .float 0)]
theorem lc_ia {L : Nat} {xs : Nat → Int32} {nL d pc k : Nat} {lv : List (Nat × Value)} {st : List Value} {h : xh_H} {c s : Nat} (hk : k < L) (hL : L ≤ 3072) : xe_2 (some (L, xs)) nL (.iaload, 1, 0, 0, 0, 0) d pc lv (.int (nI k) :: .float 0 :: st) h c s = some (pc + 1, lv, .int (xs k) :: st, h, c, s) := by
  have e := xin_n (k := k) (n := L) hk (by omega)
  have e2 : (nI k).toNatClampNeg = k := nI_clamp (by omega)
  have e3 : xe_o (some (L, xs)) (.iaload, 1, 0, 0, 0, 0) pc lv (.int (nI k) :: .float 0 :: st) h c s = some (pc + 1, lv, .int (xs k) :: st, h, c, s) := by
    show cond (Nat.beq (0 : UInt32).toNat 0 && xe_in (nI k) L) (some (pc + 1, lv, Value.int (xs (nI k).toNatClampNeg) :: st, h, c, s)) none = _
    rw [e, e2]
    rfl
  unfold xe_2
  rw [show xe_1 nL (.iaload, 1, 0, 0, 0, 0) pc lv (.int (nI k) :: .float 0 :: st) h c s = none from rfl]
  dsimp only
  rw [e3]
theorem xV_arg {L : Nat} {xs : Nat → Int32} {stop d pc i : Nat} {st : List Value} {h : xh_H} {c s : Nat} {o : xs_S} (j : Nat) (jj : Int) (hj : Int32.ofInt jj = nI j) (hi : i + j < L) (hL : L ≤ 3072) (b0 : Nat.beq pc stop = false) (b1 : Nat.beq (pc + 1) stop = false) (b3 : Nat.beq (pc + 3) stop = false) (b4 : Nat.beq (pc + 4) stop = false) (b5 : Nat.beq (pc + 5) stop = false) (r0 : xC xi_L_law pc = some (.aload_n 0, 1, 0, 0, 0, 0)) (r1 : xC xi_L_law (pc + 1) = some (.iload 4, 2, 0, 0, 0, 0)) (r3 : xC xi_L_law (pc + 3) = some (.iconst jj, 1, 0, 0, 0, 0)) (r4 : xC xi_L_law (pc + 4) = some (.iadd, 1, 0, 0, 0, 0)) (r5 : xC xi_L_law (pc + 5) = some (.iaload, 1, 0, 0, 0, 0)) (k : xV (some (L, xs)) stop d xi_L_law xmi_L_law (pc + 6, lc_v i, .int (xs (i + j)) :: st, h, c, s) o) : xV (some (L, xs)) stop d xi_L_law xmi_L_law (pc, lc_v i, st, h, c, s) o := by
  refine xV_step (o1 := (pc + 1, lc_v i, .float 0 :: st, h, c, s)) b0 r0 rfl rfl ?_
  refine xV_step (o1 := (pc + 3, lc_v i, .int (nI i) :: .float 0 :: st, h, c, s)) b1 r1 rfl rfl ?_
  refine xV_step (o1 := (pc + 4, lc_v i, .int (Int32.ofInt jj) :: .int (nI i) :: .float 0 :: st, h, c, s)) b3 r3 rfl rfl ?_
  refine xV_step (o1 := (pc + 5, lc_v i, .int (nI i + Int32.ofInt jj) :: .float 0 :: st, h, c, s)) b4 r4 rfl rfl ?_
  refine xV_step (o1 := (pc + 6, lc_v i, .int (xs (i + j)) :: st, h, c, s)) b5 r5 rfl ?_ k
  rw [hj, nI_add]
  exact lc_ia hi hL
/-- what is to be shown of a call -/
def lo_P (L : Nat) (xs : Nat → Int32) (i pc : Nat) (h : xh_H) (c s : Nat) : Prop := ∃ h' c' s', xV (some (L, xs)) 999 50 xi_L_law xmi_L_law (pc, lc_v i, [], h, c, s) (999, lc_v i, [], h', c', s') ∧ lc_I h' ∧ c' ≤ c + 2 ∧ s' ≤ s + 66
theorem a_an {n : Nat} {x : Int32} : a_v (fun _ => 0) n (0, (-2147483648), 2147483647, none, [], []) (.int x) := a_ai (ar_rng x).1 (ar_rng x).2
end XLL
