section XSQ
/-- a run up to a place, step by step -/
def xU (stop d mid : Nat) (mi : xm_M) (S o : xs_S) : Prop := ∃ f : Nat, xe_u xM xC none stop f d mid mi S = some o
theorem xe_u_more {M : Nat → Option xm_M} {Cd : Nat → Nat → Option xr_R} {stop : Nat} : ∀ (f : Nat) (scr : Option (Nat × (Nat → Int32))) (d mid : Nat) (mi : xm_M) (st : xs_S) (o : xs_S), xe_u M Cd scr stop f d mid mi st = some o → xe_u M Cd scr stop (f + 1) d mid mi st = some o := by
  intro f
  induction f with
  | zero => intro scr d mid mi st o he; cases he
  | succ f ih =>
    intro scr d mid mi st o he
    obtain ⟨pc, lv, st, h, c, s⟩ := st
    unfold xe_u at he ⊢
    cases hb : Nat.beq pc stop with
    | true => rw [hb] at he; exact he
    | false =>
      rw [hb] at he
      simp only [cond_false] at he ⊢
      cases hr : Cd mid pc with
      | none => rw [hr] at he; cases he
      | some r =>
        rw [hr] at he
        dsimp only at he ⊢
        cases hi : xe_isr r.1 with
        | true => rw [hi] at he; cases he
        | false =>
          rw [hi] at he
          simp only [cond_false] at he ⊢
          cases h2 : xe_2 scr mi.2.2.2.1 r d pc lv st h c s with
          | some o1 =>
            rw [h2] at he
            exact ih _ _ _ _ _ _ he
          | none =>
            rw [h2] at he
            dsimp only at he ⊢
            cases d with
            | zero => cases he
            | succ d' =>
              dsimp only at he ⊢
              cases hcl : xe_cl M r st h with
              | none => rw [hcl] at he; cases he
              | some t =>
                obtain ⟨mj, As, q⟩ := t
                rw [hcl] at he
                dsimp only at he ⊢
                cases hx : xe_x M Cd none f d' r.2.2.1 mj (0, lv_args 0 As, [], h, 0, 0) with
                | none => rw [hx] at he; cases he
                | some t =>
                  obtain ⟨v, h', mc, ms⟩ := t
                  rw [hx] at he
                  rw [xe_x_more _ _ _ _ _ _ _ hx]
                  exact ih _ _ _ _ _ _ he
theorem xe_u_le {M : Nat → Option xm_M} {Cd : Nat → Nat → Option xr_R} {stop f g : Nat} (hfg : f ≤ g) {scr : Option (Nat × (Nat → Int32))} {d mid : Nat} {mi : xm_M} {st : xs_S} {o : xs_S} (h : xe_u M Cd scr stop f d mid mi st = some o) : xe_u M Cd scr stop g d mid mi st = some o := by
  induction hfg with
  | refl => exact h
  | step _ ih => exact xe_u_more _ _ _ _ _ _ _ ih
variable {stop d mid : Nat} {mi : xm_M} {pc : Nat} {lv : List (Nat × Value)} {st q : List Value} {h : xh_H} {c s : Nat} {o : xs_S} {r : xr_R}
theorem xU_step {o1 : xs_S} (hb : Nat.beq pc stop = false) (hr : xC mid pc = some r) (hi : xe_isr r.1 = false) (h2 : xe_2 none mi.2.2.2.1 r d pc lv st h c s = some o1) (k : xU stop d mid mi o1 o) : xU stop d mid mi (pc, lv, st, h, c, s) o := by
  obtain ⟨f, hf⟩ := k
  refine ⟨f + 1, ?_⟩
  unfold xe_u
  rw [hb, hr]
  dsimp only
  rw [hi]
  simp only [cond_false]
  rw [h2]
  exact hf
theorem xU_call {mj : xm_M} {As q : List Value} {v : Option Value} {h' : xh_H} {mc ms : Nat} (hb : Nat.beq pc stop = false) (hr : xC mid pc = some r) (hi : xe_isr r.1 = false) (h2 : xe_2 none mi.2.2.2.1 r (d + 1) pc lv st h c s = none) (hcl : xe_cl xM r st h = some (mj, As, q)) (hm : xR none d r.2.2.1 mj (0, lv_args 0 As, [], h, 0, 0) (v, h', mc, ms)) (k : xU stop (d + 1) mid mi (pc + 3, lv, v.toList ++ q, h', c + mc, s + ms) o) : xU stop (d + 1) mid mi (pc, lv, st, h, c, s) o := by
  obtain ⟨f1, hf1⟩ := hm
  obtain ⟨f2, hf2⟩ := k
  refine ⟨(f1 + f2) + 1, ?_⟩
  unfold xe_u
  rw [hb, hr]
  dsimp only
  rw [hi]
  simp only [cond_false]
  rw [h2]
  dsimp only
  rw [hcl]
  dsimp only
  rw [xe_x_le (Nat.le_add_right f1 f2) hf1]
  exact xe_u_le (Nat.le_add_left f2 f1) hf2
theorem xU_if {k : ClassFile.Cond} {off : Int} {tgt b K i : Nat} {x : Int32} (hb : Nat.beq pc stop = false) (hr : xC mid pc = some (.ifCond k off, 3, tgt, b, K, i)) (kt : xe_c k x 0 = true → xU stop d mid mi (tgt, lv, q, h, c, s) o) (kf : xe_c k x 0 = false → xU stop d mid mi (pc + 3, lv, q, h, c, s) o) : xU stop d mid mi (pc, lv, .int x :: q, h, c, s) o := by
  cases hx : xe_c k x 0 with
  | true => exact xU_step hb hr rfl (by simp [xe_2, xe_1, xp_i, hx]) (kt hx)
  | false => exact xU_step hb hr rfl (by simp [xe_2, xe_1, xp_i, hx]) (kf hx)
theorem xU_ic {k : ClassFile.Cond} {off : Int} {tgt b K i : Nat} {x y : Int32} (hb : Nat.beq pc stop = false) (hr : xC mid pc = some (.if_icmp k off, 3, tgt, b, K, i)) (kt : xe_c k x y = true → xU stop d mid mi (tgt, lv, q, h, c, s) o) (kf : xe_c k x y = false → xU stop d mid mi (pc + 3, lv, q, h, c, s) o) : xU stop d mid mi (pc, lv, .int y :: .int x :: q, h, c, s) o := by
  cases hx : xe_c k x y with
  | true => exact xU_step hb hr rfl (by simp [xe_2, xe_1, xp_ii, hx]) (kt hx)
  | false => exact xU_step hb hr rfl (by simp [xe_2, xe_1, xp_ii, hx]) (kf hx)
/-- a closed run up to a place, its heap by name -/
def xu_h (t : Option xs_S) : xh_H := match t with
  | some (_, _, _, h, _, _) => h
  | none => ([], [], [], [])
def xv_b (t : Option xs_S) (pc : Nat) (lv : List (Nat × Value)) (st : List Value) (c s : Nat) : Bool := match t with
  | some (pc', lv', st', _, c', s') => Nat.beq pc' pc && (decide (lv' = lv) && (decide (st' = st) && (Nat.beq c' c && Nat.beq s' s)))
  | none => false
theorem xv_b_ok {t : Option xs_S} {pc : Nat} {lv : List (Nat × Value)} {st : List Value} {c s : Nat} (hb : xv_b t pc lv st c s = true) : t = some (pc, lv, st, xu_h t, c, s) := by
  match t, hb with
  | some (pc', lv', st', h', c', s'), hb =>
    obtain ⟨h1, hb⟩ := xw_bb hb
    obtain ⟨h2, hb⟩ := xw_bb hb
    obtain ⟨h3, hb⟩ := xw_bb hb
    obtain ⟨h4, h5⟩ := xw_bb hb
    rw [xw_beq h1, of_decide_eq_true h2, of_decide_eq_true h3, xw_beq h4, xw_beq h5]
    rfl
def sv_ok (a b d : Int32) : Prop := 0 ≤ a.toInt ∧ a.toInt < 3 ∧ 0 ≤ b.toInt ∧ b.toInt ≤ 2 ∧ 0 ≤ d.toInt ∧ d.toInt ≤ 1
set_option maxRecDepth 100000 in
set_option maxHeartbeats 8000000 in
theorem im_X9_l (a : Int32) (ha : a.toInt < 0) : xR none 10 xi_X9_isMember xmi_X9_isMember (0, lv_args 0 [.ref 0, .int a], [], xf_h, 0, 0) (some (.int 0), xf_h, 0, 0) := by
  refine xR_u (stop := 1) 300 10 _ _ rfl ?_
  refine xR_if (x := a) rfl (fun _ => ?_) (fun z => absurd (xz_lt0 (b := 0) (by decide) z) (by omega))
  exact ⟨300, rfl⟩
set_option maxRecDepth 100000 in
set_option maxHeartbeats 8000000 in
theorem im_X9_g (a : Int32) (ha : 3 ≤ a.toInt) : xR none 10 xi_X9_isMember xmi_X9_isMember (0, lv_args 0 [.ref 0, .int a], [], xf_h, 0, 0) (some (.int 0), xf_h, 0, 0) := by
  refine xR_u (stop := 1) 300 10 _ _ rfl ?_
  refine xR_if (x := a) rfl (fun z => absurd (xz_lt1 (b := 0) (by decide) z) (by omega)) (fun _ => ?_)
  refine xR_u (stop := 9) 300 10 _ _ rfl ?_
  refine xR_ic (x := a) (y := (3 : Int32)) rfl (fun _ => ?_) (fun z => absurd (xz_ge0 (b := 3) (by decide) z) (by omega))
  exact ⟨300, rfl⟩
set_option maxRecDepth 100000 in
set_option maxHeartbeats 8000000 in
theorem im_X9_y (a : Int32) (ha : 0 ≤ a.toInt ∧ a.toInt < 3) : xR none 10 xi_X9_isMember xmi_X9_isMember (0, lv_args 0 [.ref 0, .int a], [], xf_h, 0, 0) (some (.int 1), xf_h, 0, 0) := by
  refine xR_u (stop := 1) 300 10 _ _ rfl ?_
  refine xR_if (x := a) rfl (fun z => absurd (xz_lt1 (b := 0) (by decide) z) (by omega)) (fun _ => ?_)
  refine xR_u (stop := 9) 300 10 _ _ rfl ?_
  refine xR_ic (x := a) (y := (3 : Int32)) rfl (fun z => absurd (xz_ge1 (b := 3) (by decide) z) (by omega)) (fun _ => ?_)
  exact ⟨300, rfl⟩
set_option maxRecDepth 100000 in
set_option maxHeartbeats 8000000 in
theorem im_X10_l (a : Int32) (ha : a.toInt < 0) : xR none 10 xi_X10_isMember xmi_X10_isMember (0, lv_args 0 [.ref 39, .int a], [], xf_h, 0, 0) (some (.int 0), xf_h, 0, 0) := by
  refine xR_u (stop := 1) 300 10 _ _ rfl ?_
  refine xR_if (x := a) rfl (fun _ => ?_) (fun z => absurd (xz_lt0 (b := 0) (by decide) z) (by omega))
  exact ⟨300, rfl⟩
set_option maxRecDepth 100000 in
set_option maxHeartbeats 8000000 in
theorem im_X10_g (a : Int32) (ha : 3 ≤ a.toInt) : xR none 10 xi_X10_isMember xmi_X10_isMember (0, lv_args 0 [.ref 39, .int a], [], xf_h, 0, 0) (some (.int 0), xf_h, 0, 0) := by
  refine xR_u (stop := 1) 300 10 _ _ rfl ?_
  refine xR_if (x := a) rfl (fun z => absurd (xz_lt1 (b := 0) (by decide) z) (by omega)) (fun _ => ?_)
  refine xR_u (stop := 9) 300 10 _ _ rfl ?_
  refine xR_ic (x := a) (y := (3 : Int32)) rfl (fun _ => ?_) (fun z => absurd (xz_ge0 (b := 3) (by decide) z) (by omega))
  exact ⟨300, rfl⟩
set_option maxRecDepth 100000 in
set_option maxHeartbeats 8000000 in
theorem im_X10_y (a : Int32) (ha : 0 ≤ a.toInt ∧ a.toInt < 3) : xR none 10 xi_X10_isMember xmi_X10_isMember (0, lv_args 0 [.ref 39, .int a], [], xf_h, 0, 0) (some (.int 1), xf_h, 0, 0) := by
  refine xR_u (stop := 1) 300 10 _ _ rfl ?_
  refine xR_if (x := a) rfl (fun z => absurd (xz_lt1 (b := 0) (by decide) z) (by omega)) (fun _ => ?_)
  refine xR_u (stop := 9) 300 10 _ _ rfl ?_
  refine xR_ic (x := a) (y := (3 : Int32)) rfl (fun z => absurd (xz_ge1 (b := 3) (by decide) z) (by omega)) (fun _ => ?_)
  exact ⟨300, rfl⟩
set_option maxRecDepth 100000 in
set_option maxHeartbeats 8000000 in
theorem cs_bad (a b d : Int32) (hn : ¬ sv_ok a b d) : xU 26 11 xi_X9_share xmi_X9_share (0, (lv_args 0 [.ref 0, .int a, .int b, .int d]), [], xf_h, 0, 0) (26, (lv_args 0 [.ref 0, .int a, .int b, .int d]), [], xf_h, 0, 0) := by
  have fin : xU 26 11 xi_X9_share xmi_X9_share (26, (lv_args 0 [.ref 0, .int a, .int b, .int d]), [], xf_h, 0, 0) (26, (lv_args 0 [.ref 0, .int a, .int b, .int d]), [], xf_h, 0, 0) := ⟨1, rfl⟩
  have go5 : xU 26 11 xi_X9_share xmi_X9_share (26, (lv_args 0 [.ref 0, .int a, .int b, .int d]), [], xf_h, 0, 0) (26, (lv_args 0 [.ref 0, .int a, .int b, .int d]), [], xf_h, 0, 0) → xU 26 11 xi_X9_share xmi_X9_share (5, (lv_args 0 [.ref 0, .int a, .int b, .int d]), [.int 0], xf_h, 0, 0) (26, (lv_args 0 [.ref 0, .int a, .int b, .int d]), [], xf_h, 0, 0) := fun k => xU_step rfl rfl rfl rfl k
  refine xU_step rfl rfl rfl rfl ?_
  refine xU_step rfl rfl rfl rfl ?_
  unfold sv_ok at hn
  by_cases h1 : a.toInt < 0
  · exact xU_call rfl rfl rfl rfl rfl (im_X9_l a h1) (go5 fin)
  by_cases h2 : 3 ≤ a.toInt
  · exact xU_call rfl rfl rfl rfl rfl (im_X9_g a h2) (go5 fin)
  refine xU_call rfl rfl rfl rfl rfl (im_X9_y a ⟨by omega, by omega⟩) ?_
  refine xU_step rfl rfl rfl rfl ?_
  refine xU_step rfl rfl rfl rfl ?_
  refine xU_if (x := b) rfl rfl (fun _ => fin) (fun z => ?_)
  have h3 := xz_lt0 (b := 0) (by decide) z
  refine xU_step rfl rfl rfl rfl ?_
  refine xU_step rfl rfl rfl rfl ?_
  refine xU_ic (x := b) (y := (2 : Int32)) rfl rfl (fun _ => fin) (fun z => ?_)
  have h4 := xz_gt0 (b := 2) (by decide) z
  refine xU_step rfl rfl rfl rfl ?_
  refine xU_if (x := d) rfl rfl (fun _ => fin) (fun z => ?_)
  have h5 := xz_lt0 (b := 0) (by decide) z
  refine xU_step rfl rfl rfl rfl ?_
  refine xU_step rfl rfl rfl rfl ?_
  refine xU_ic (x := d) (y := (1 : Int32)) rfl rfl (fun z => ?_) (fun _ => fin)
  have h6 := xz_le1 (b := 1) (by decide) z
  exact absurd ⟨by omega, by omega, by omega, by omega, by omega, by omega⟩ hn
set_option maxRecDepth 100000 in
set_option maxHeartbeats 8000000 in
theorem ii_l (x N : Int32) (hx : x.toInt < 0) : xR none 10 xi_X10_isIn xmi_X10_isIn (0, lv_args 0 [.int x, .int 0, .int N], [], xf_h, 0, 0) (some (.int 0), xf_h, 0, 0) := by
  refine xR_u (stop := 2) 300 10 _ _ rfl ?_
  refine xR_ic (x := x) (y := (0 : Int32)) rfl (fun _ => ?_) (fun z => absurd (xz_lt0 (b := 0) (by decide) z) (by omega))
  exact ⟨300, rfl⟩
set_option maxRecDepth 100000 in
set_option maxHeartbeats 8000000 in
theorem ii_g (x N : Int32) (hx : N.toInt < x.toInt ∧ 0 ≤ x.toInt) : xR none 10 xi_X10_isIn xmi_X10_isIn (0, lv_args 0 [.int x, .int 0, .int N], [], xf_h, 0, 0) (some (.int 0), xf_h, 0, 0) := by
  refine xR_u (stop := 2) 300 10 _ _ rfl ?_
  refine xR_ic (x := x) (y := (0 : Int32)) rfl (fun z => absurd (xz_lt1 (b := 0) (by decide) z) (by omega)) (fun _ => ?_)
  refine xR_u (stop := 7) 300 10 _ _ rfl ?_
  refine xR_ic (x := x) (y := N) rfl (fun _ => ?_) (fun z => absurd (xz_gt0 (b := N.toInt) rfl z) (by omega))
  exact ⟨300, rfl⟩
set_option maxRecDepth 100000 in
set_option maxHeartbeats 8000000 in
theorem ii_y (x N : Int32) (hx : 0 ≤ x.toInt ∧ x.toInt ≤ N.toInt) : xR none 10 xi_X10_isIn xmi_X10_isIn (0, lv_args 0 [.int x, .int 0, .int N], [], xf_h, 0, 0) (some (.int 1), xf_h, 0, 0) := by
  refine xR_u (stop := 2) 300 10 _ _ rfl ?_
  refine xR_ic (x := x) (y := (0 : Int32)) rfl (fun z => absurd (xz_lt1 (b := 0) (by decide) z) (by omega)) (fun _ => ?_)
  refine xR_u (stop := 7) 300 10 _ _ rfl ?_
  refine xR_ic (x := x) (y := N) rfl (fun z => absurd (xz_gt1 (b := N.toInt) rfl z) (by omega)) (fun _ => ?_)
  exact ⟨300, rfl⟩
set_option maxRecDepth 100000 in
set_option maxHeartbeats 8000000 in
theorem ms_fin (a b d : Int32) : xR none 11 xi_X10_share xmi_X10_share (26, (lv_args 0 [.ref 39, .int a, .int b, .int d]), [], xf_h, 0, 0) (some (.long 0), xh_ui xf_h 39 0 1, 0, 0) := by
  refine xR_u (stop := 27) 20 11 _ _ rfl ?_
  refine xR_call (v := some (.int 0)) (h' := xh_ui xf_h 39 0 1) (mc := 0) (ms := 0) rfl rfl rfl rfl ⟨20, rfl⟩ ?_
  exact ⟨10, rfl⟩
set_option maxRecDepth 100000 in
set_option maxHeartbeats 8000000 in
theorem ms_bad (a b d : Int32) (hn : ¬ sv_ok a b d) : xR none 11 xi_X10_share xmi_X10_share (0, (lv_args 0 [.ref 39, .int a, .int b, .int d]), [], xf_h, 0, 0) (some (.long 0), xh_ui xf_h 39 0 1, 0, 0) := by
  have fin := ms_fin a b d
  have g5 : xR none 11 xi_X10_share xmi_X10_share (5, (lv_args 0 [.ref 39, .int a, .int b, .int d]), [.int 0], xf_h, 0, 0) (some (.long 0), xh_ui xf_h 39 0 1, 0, 0) := xR_step rfl rfl rfl fin
  have g14 : xR none 11 xi_X10_share xmi_X10_share (14, (lv_args 0 [.ref 39, .int a, .int b, .int d]), [.int 0], xf_h, 0, 0) (some (.long 0), xh_ui xf_h 39 0 1, 0, 0) := xR_step rfl rfl rfl fin
  have g23 : xR none 11 xi_X10_share xmi_X10_share (23, (lv_args 0 [.ref 39, .int a, .int b, .int d]), [.int 0], xf_h, 0, 0) (some (.long 0), xh_ui xf_h 39 0 1, 0, 0) := xR_step rfl rfl rfl fin
  refine xR_u (stop := 2) 20 11 _ _ rfl ?_
  unfold sv_ok at hn
  by_cases h1 : a.toInt < 0
  · exact xR_call rfl rfl rfl rfl (im_X10_l a h1) g5
  by_cases h2 : 3 ≤ a.toInt
  · exact xR_call rfl rfl rfl rfl (im_X10_g a h2) g5
  refine xR_call rfl rfl rfl rfl (im_X10_y a ⟨by omega, by omega⟩) ?_
  refine xR_u (stop := 11) 20 11 _ _ rfl ?_
  by_cases h3 : b.toInt < 0
  · exact xR_call rfl rfl rfl rfl (ii_l b 2 h3) g14
  by_cases h4 : 2 < b.toInt
  · exact xR_call rfl rfl rfl rfl (ii_g b 2 ⟨h4, by omega⟩) g14
  refine xR_call rfl rfl rfl rfl (ii_y b 2 ⟨by omega, by show b.toInt ≤ 2; omega⟩) ?_
  refine xR_u (stop := 20) 20 11 _ _ rfl ?_
  by_cases h5 : d.toInt < 0
  · exact xR_call rfl rfl rfl rfl (ii_l d 1 h5) g23
  by_cases h6 : 1 < d.toInt
  · exact xR_call rfl rfl rfl rfl (ii_g d 1 ⟨h6, by omega⟩) g23
  exact absurd ⟨by omega, by omega, by omega, by omega, by omega, by omega⟩ hn
set_option maxRecDepth 100000 in
set_option maxHeartbeats 8000000 in
theorem lw_bad (xs : Nat → Int32) (hn : ¬ sv_ok (xs 1) (xs 2) (xs 3)) : xR (some (6, xs)) 12 xi_L_law xmi_L_law (538, xf_lv, [.int 1], xf_h, 73, 274351) (some (.int 1), xh_ui xf_h 39 0 1, 73, 274351) := by
  refine xR_u (stop := 559) 40 12 _ _ rfl ?_
  refine xR_call (v := some (.long 0)) (h' := xh_ui xf_h 39 0 1) (mc := 0) (ms := 0) rfl rfl rfl rfl (ms_bad (xs 1) (xs 2) (xs 3) hn) ?_
  change xR (some (6, xs)) 12 xi_L_law xmi_L_law (562, [(5, .int 1), (4, .int 0), (3, .ref 71), (2, .ref 39), (1, .ref 0), (0, .float 0)], [.long 0], xh_ui xf_h 39 0 1, 73, 274351) _
  refine xR_us (stop := 1027) 100 12 _ (1027, (6, .long 0) :: [(5, .int 1), (4, .int 0), (3, .ref 71), (2, .ref 39), (1, .ref 0), (0, .float 0)], [], xh_ui xf_h 39 0 1, 73, 274351) (xu_b_ok (by decide +kernel)) ?_
  exact ⟨20, rfl⟩
set_option maxRecDepth 100000 in
set_option maxHeartbeats 8000000 in
theorem cs_000 : xR none 11 xi_X9_share xmi_X9_share (0, lv_args 0 [.ref 0, .int 0, .int 0, .int 0], [], xf_h, 0, 0) (some (.long 1), xf_p, 0, 0) := by
  refine xR_u (stop := 35) 100 11 _ (35, lv_args 0 [.ref 0, .int 0, .int 0, .int 0], [.ref 0], xf_h, 0, 0) (xu_b_ok (by decide +kernel)) ?_
  refine xR_call rfl rfl rfl rfl ⟨_, xx_b_ok cl_p⟩ ?_
  exact ⟨1000, xx_b_ok (by decide +kernel)⟩
set_option maxRecDepth 100000 in
set_option maxHeartbeats 8000000 in
theorem lg_000 (xs : Nat → Int32) (h1 : xs 1 = 0) (h2 : xs 2 = 0) (h3 : xs 3 = 0) : ∃ h', xR (some (6, xs)) 12 xi_L_law xmi_L_law (538, xf_lv, [.int 0], xh_ul xf_p 71 0 1, 72, 274345) (some (.int 1), h', 72, 274345) := by
  apply Exists.intro
  refine xR_u (stop := 559) 40 12 _ _ rfl ?_
  change xR (some (6, xs)) 12 xi_L_law xmi_L_law (559, [(5, .int 0), (4, .int 0), (3, .ref 71), (2, .ref 39), (1, .ref 0), (0, .float 0)], [.int (xs 3), .int (xs 2), .int (xs 1), .ref 39], xh_ul xf_p 71 0 1, 72, 274345) _
  rw [h1, h2, h3]
  refine xR_us (stop := 1027) 3000 12 _ _ (xv_b_ok (pc := 1027) (lv := (6, .long 1) :: [(5, .int 0), (4, .int 0), (3, .ref 71), (2, .ref 39), (1, .ref 0), (0, .float 0)]) (st := []) (c := 72) (s := 274345) (by decide +kernel)) ?_
  exact ⟨20, rfl⟩
set_option maxRecDepth 100000 in
set_option maxHeartbeats 8000000 in
theorem cs_001 : xR none 11 xi_X9_share xmi_X9_share (0, lv_args 0 [.ref 0, .int 0, .int 0, .int 1], [], xf_h, 0, 0) (some (.long 3), xf_p, 0, 0) := by
  refine xR_u (stop := 35) 100 11 _ (35, lv_args 0 [.ref 0, .int 0, .int 0, .int 1], [.ref 0], xf_h, 0, 0) (xu_b_ok (by decide +kernel)) ?_
  refine xR_call rfl rfl rfl rfl ⟨_, xx_b_ok cl_p⟩ ?_
  exact ⟨1000, xx_b_ok (by decide +kernel)⟩
set_option maxRecDepth 100000 in
set_option maxHeartbeats 8000000 in
theorem lg_001 (xs : Nat → Int32) (h1 : xs 1 = 0) (h2 : xs 2 = 0) (h3 : xs 3 = 1) : ∃ h', xR (some (6, xs)) 12 xi_L_law xmi_L_law (538, xf_lv, [.int 0], xh_ul xf_p 71 0 3, 72, 274345) (some (.int 1), h', 72, 274345) := by
  apply Exists.intro
  refine xR_u (stop := 559) 40 12 _ _ rfl ?_
  change xR (some (6, xs)) 12 xi_L_law xmi_L_law (559, [(5, .int 0), (4, .int 0), (3, .ref 71), (2, .ref 39), (1, .ref 0), (0, .float 0)], [.int (xs 3), .int (xs 2), .int (xs 1), .ref 39], xh_ul xf_p 71 0 3, 72, 274345) _
  rw [h1, h2, h3]
  refine xR_us (stop := 1027) 3000 12 _ _ (xv_b_ok (pc := 1027) (lv := (6, .long 3) :: [(5, .int 0), (4, .int 0), (3, .ref 71), (2, .ref 39), (1, .ref 0), (0, .float 0)]) (st := []) (c := 72) (s := 274345) (by decide +kernel)) ?_
  exact ⟨20, rfl⟩
set_option maxRecDepth 100000 in
set_option maxHeartbeats 8000000 in
theorem cs_010 : xR none 11 xi_X9_share xmi_X9_share (0, lv_args 0 [.ref 0, .int 0, .int 1, .int 0], [], xf_h, 0, 0) (some (.long 1), xf_p, 0, 0) := by
  refine xR_u (stop := 35) 100 11 _ (35, lv_args 0 [.ref 0, .int 0, .int 1, .int 0], [.ref 0], xf_h, 0, 0) (xu_b_ok (by decide +kernel)) ?_
  refine xR_call rfl rfl rfl rfl ⟨_, xx_b_ok cl_p⟩ ?_
  exact ⟨1000, xx_b_ok (by decide +kernel)⟩
set_option maxRecDepth 100000 in
set_option maxHeartbeats 8000000 in
theorem lg_010 (xs : Nat → Int32) (h1 : xs 1 = 0) (h2 : xs 2 = 1) (h3 : xs 3 = 0) : ∃ h', xR (some (6, xs)) 12 xi_L_law xmi_L_law (538, xf_lv, [.int 0], xh_ul xf_p 71 0 1, 72, 274345) (some (.int 1), h', 72, 274345) := by
  apply Exists.intro
  refine xR_u (stop := 559) 40 12 _ _ rfl ?_
  change xR (some (6, xs)) 12 xi_L_law xmi_L_law (559, [(5, .int 0), (4, .int 0), (3, .ref 71), (2, .ref 39), (1, .ref 0), (0, .float 0)], [.int (xs 3), .int (xs 2), .int (xs 1), .ref 39], xh_ul xf_p 71 0 1, 72, 274345) _
  rw [h1, h2, h3]
  refine xR_us (stop := 1027) 3000 12 _ _ (xv_b_ok (pc := 1027) (lv := (6, .long 1) :: [(5, .int 0), (4, .int 0), (3, .ref 71), (2, .ref 39), (1, .ref 0), (0, .float 0)]) (st := []) (c := 72) (s := 274345) (by decide +kernel)) ?_
  exact ⟨20, rfl⟩
set_option maxRecDepth 100000 in
set_option maxHeartbeats 8000000 in
theorem cs_011 : xR none 11 xi_X9_share xmi_X9_share (0, lv_args 0 [.ref 0, .int 0, .int 1, .int 1], [], xf_h, 0, 0) (some (.long 3), xf_p, 0, 0) := by
  refine xR_u (stop := 35) 100 11 _ (35, lv_args 0 [.ref 0, .int 0, .int 1, .int 1], [.ref 0], xf_h, 0, 0) (xu_b_ok (by decide +kernel)) ?_
  refine xR_call rfl rfl rfl rfl ⟨_, xx_b_ok cl_p⟩ ?_
  exact ⟨1000, xx_b_ok (by decide +kernel)⟩
set_option maxRecDepth 100000 in
set_option maxHeartbeats 8000000 in
theorem lg_011 (xs : Nat → Int32) (h1 : xs 1 = 0) (h2 : xs 2 = 1) (h3 : xs 3 = 1) : ∃ h', xR (some (6, xs)) 12 xi_L_law xmi_L_law (538, xf_lv, [.int 0], xh_ul xf_p 71 0 3, 72, 274345) (some (.int 1), h', 72, 274345) := by
  apply Exists.intro
  refine xR_u (stop := 559) 40 12 _ _ rfl ?_
  change xR (some (6, xs)) 12 xi_L_law xmi_L_law (559, [(5, .int 0), (4, .int 0), (3, .ref 71), (2, .ref 39), (1, .ref 0), (0, .float 0)], [.int (xs 3), .int (xs 2), .int (xs 1), .ref 39], xh_ul xf_p 71 0 3, 72, 274345) _
  rw [h1, h2, h3]
  refine xR_us (stop := 1027) 3000 12 _ _ (xv_b_ok (pc := 1027) (lv := (6, .long 3) :: [(5, .int 0), (4, .int 0), (3, .ref 71), (2, .ref 39), (1, .ref 0), (0, .float 0)]) (st := []) (c := 72) (s := 274345) (by decide +kernel)) ?_
  exact ⟨20, rfl⟩
set_option maxRecDepth 100000 in
set_option maxHeartbeats 8000000 in
theorem cs_020 : xR none 11 xi_X9_share xmi_X9_share (0, lv_args 0 [.ref 0, .int 0, .int 2, .int 0], [], xf_h, 0, 0) (some (.long 1), xf_p, 0, 0) := by
  refine xR_u (stop := 35) 100 11 _ (35, lv_args 0 [.ref 0, .int 0, .int 2, .int 0], [.ref 0], xf_h, 0, 0) (xu_b_ok (by decide +kernel)) ?_
  refine xR_call rfl rfl rfl rfl ⟨_, xx_b_ok cl_p⟩ ?_
  exact ⟨1000, xx_b_ok (by decide +kernel)⟩
set_option maxRecDepth 100000 in
set_option maxHeartbeats 8000000 in
theorem lg_020 (xs : Nat → Int32) (h1 : xs 1 = 0) (h2 : xs 2 = 2) (h3 : xs 3 = 0) : ∃ h', xR (some (6, xs)) 12 xi_L_law xmi_L_law (538, xf_lv, [.int 0], xh_ul xf_p 71 0 1, 72, 274345) (some (.int 1), h', 72, 274345) := by
  apply Exists.intro
  refine xR_u (stop := 559) 40 12 _ _ rfl ?_
  change xR (some (6, xs)) 12 xi_L_law xmi_L_law (559, [(5, .int 0), (4, .int 0), (3, .ref 71), (2, .ref 39), (1, .ref 0), (0, .float 0)], [.int (xs 3), .int (xs 2), .int (xs 1), .ref 39], xh_ul xf_p 71 0 1, 72, 274345) _
  rw [h1, h2, h3]
  refine xR_us (stop := 1027) 3000 12 _ _ (xv_b_ok (pc := 1027) (lv := (6, .long 1) :: [(5, .int 0), (4, .int 0), (3, .ref 71), (2, .ref 39), (1, .ref 0), (0, .float 0)]) (st := []) (c := 72) (s := 274345) (by decide +kernel)) ?_
  exact ⟨20, rfl⟩
set_option maxRecDepth 100000 in
set_option maxHeartbeats 8000000 in
theorem cs_021 : xR none 11 xi_X9_share xmi_X9_share (0, lv_args 0 [.ref 0, .int 0, .int 2, .int 1], [], xf_h, 0, 0) (some (.long 3), xf_p, 0, 0) := by
  refine xR_u (stop := 35) 100 11 _ (35, lv_args 0 [.ref 0, .int 0, .int 2, .int 1], [.ref 0], xf_h, 0, 0) (xu_b_ok (by decide +kernel)) ?_
  refine xR_call rfl rfl rfl rfl ⟨_, xx_b_ok cl_p⟩ ?_
  exact ⟨1000, xx_b_ok (by decide +kernel)⟩
set_option maxRecDepth 100000 in
set_option maxHeartbeats 8000000 in
theorem lg_021 (xs : Nat → Int32) (h1 : xs 1 = 0) (h2 : xs 2 = 2) (h3 : xs 3 = 1) : ∃ h', xR (some (6, xs)) 12 xi_L_law xmi_L_law (538, xf_lv, [.int 0], xh_ul xf_p 71 0 3, 72, 274345) (some (.int 1), h', 72, 274345) := by
  apply Exists.intro
  refine xR_u (stop := 559) 40 12 _ _ rfl ?_
  change xR (some (6, xs)) 12 xi_L_law xmi_L_law (559, [(5, .int 0), (4, .int 0), (3, .ref 71), (2, .ref 39), (1, .ref 0), (0, .float 0)], [.int (xs 3), .int (xs 2), .int (xs 1), .ref 39], xh_ul xf_p 71 0 3, 72, 274345) _
  rw [h1, h2, h3]
  refine xR_us (stop := 1027) 3000 12 _ _ (xv_b_ok (pc := 1027) (lv := (6, .long 3) :: [(5, .int 0), (4, .int 0), (3, .ref 71), (2, .ref 39), (1, .ref 0), (0, .float 0)]) (st := []) (c := 72) (s := 274345) (by decide +kernel)) ?_
  exact ⟨20, rfl⟩
set_option maxRecDepth 100000 in
set_option maxHeartbeats 8000000 in
theorem cs_100 : xR none 11 xi_X9_share xmi_X9_share (0, lv_args 0 [.ref 0, .int 1, .int 0, .int 0], [], xf_h, 0, 0) (some (.long 1), xf_p, 0, 0) := by
  refine xR_u (stop := 35) 100 11 _ (35, lv_args 0 [.ref 0, .int 1, .int 0, .int 0], [.ref 0], xf_h, 0, 0) (xu_b_ok (by decide +kernel)) ?_
  refine xR_call rfl rfl rfl rfl ⟨_, xx_b_ok cl_p⟩ ?_
  exact ⟨1000, xx_b_ok (by decide +kernel)⟩
set_option maxRecDepth 100000 in
set_option maxHeartbeats 8000000 in
theorem lg_100 (xs : Nat → Int32) (h1 : xs 1 = 1) (h2 : xs 2 = 0) (h3 : xs 3 = 0) : ∃ h', xR (some (6, xs)) 12 xi_L_law xmi_L_law (538, xf_lv, [.int 0], xh_ul xf_p 71 0 1, 72, 274345) (some (.int 1), h', 72, 274345) := by
  apply Exists.intro
  refine xR_u (stop := 559) 40 12 _ _ rfl ?_
  change xR (some (6, xs)) 12 xi_L_law xmi_L_law (559, [(5, .int 0), (4, .int 0), (3, .ref 71), (2, .ref 39), (1, .ref 0), (0, .float 0)], [.int (xs 3), .int (xs 2), .int (xs 1), .ref 39], xh_ul xf_p 71 0 1, 72, 274345) _
  rw [h1, h2, h3]
  refine xR_us (stop := 1027) 3000 12 _ _ (xv_b_ok (pc := 1027) (lv := (6, .long 1) :: [(5, .int 0), (4, .int 0), (3, .ref 71), (2, .ref 39), (1, .ref 0), (0, .float 0)]) (st := []) (c := 72) (s := 274345) (by decide +kernel)) ?_
  exact ⟨20, rfl⟩
set_option maxRecDepth 100000 in
set_option maxHeartbeats 8000000 in
theorem cs_101 : xR none 11 xi_X9_share xmi_X9_share (0, lv_args 0 [.ref 0, .int 1, .int 0, .int 1], [], xf_h, 0, 0) (some (.long 3), xf_p, 0, 0) := by
  refine xR_u (stop := 35) 100 11 _ (35, lv_args 0 [.ref 0, .int 1, .int 0, .int 1], [.ref 0], xf_h, 0, 0) (xu_b_ok (by decide +kernel)) ?_
  refine xR_call rfl rfl rfl rfl ⟨_, xx_b_ok cl_p⟩ ?_
  exact ⟨1000, xx_b_ok (by decide +kernel)⟩
set_option maxRecDepth 100000 in
set_option maxHeartbeats 8000000 in
theorem lg_101 (xs : Nat → Int32) (h1 : xs 1 = 1) (h2 : xs 2 = 0) (h3 : xs 3 = 1) : ∃ h', xR (some (6, xs)) 12 xi_L_law xmi_L_law (538, xf_lv, [.int 0], xh_ul xf_p 71 0 3, 72, 274345) (some (.int 1), h', 72, 274345) := by
  apply Exists.intro
  refine xR_u (stop := 559) 40 12 _ _ rfl ?_
  change xR (some (6, xs)) 12 xi_L_law xmi_L_law (559, [(5, .int 0), (4, .int 0), (3, .ref 71), (2, .ref 39), (1, .ref 0), (0, .float 0)], [.int (xs 3), .int (xs 2), .int (xs 1), .ref 39], xh_ul xf_p 71 0 3, 72, 274345) _
  rw [h1, h2, h3]
  refine xR_us (stop := 1027) 3000 12 _ _ (xv_b_ok (pc := 1027) (lv := (6, .long 3) :: [(5, .int 0), (4, .int 0), (3, .ref 71), (2, .ref 39), (1, .ref 0), (0, .float 0)]) (st := []) (c := 72) (s := 274345) (by decide +kernel)) ?_
  exact ⟨20, rfl⟩
set_option maxRecDepth 100000 in
set_option maxHeartbeats 8000000 in
theorem cs_110 : xR none 11 xi_X9_share xmi_X9_share (0, lv_args 0 [.ref 0, .int 1, .int 1, .int 0], [], xf_h, 0, 0) (some (.long 1), xf_p, 0, 0) := by
  refine xR_u (stop := 35) 100 11 _ (35, lv_args 0 [.ref 0, .int 1, .int 1, .int 0], [.ref 0], xf_h, 0, 0) (xu_b_ok (by decide +kernel)) ?_
  refine xR_call rfl rfl rfl rfl ⟨_, xx_b_ok cl_p⟩ ?_
  exact ⟨1000, xx_b_ok (by decide +kernel)⟩
set_option maxRecDepth 100000 in
set_option maxHeartbeats 8000000 in
theorem lg_110 (xs : Nat → Int32) (h1 : xs 1 = 1) (h2 : xs 2 = 1) (h3 : xs 3 = 0) : ∃ h', xR (some (6, xs)) 12 xi_L_law xmi_L_law (538, xf_lv, [.int 0], xh_ul xf_p 71 0 1, 72, 274345) (some (.int 1), h', 72, 274345) := by
  apply Exists.intro
  refine xR_u (stop := 559) 40 12 _ _ rfl ?_
  change xR (some (6, xs)) 12 xi_L_law xmi_L_law (559, [(5, .int 0), (4, .int 0), (3, .ref 71), (2, .ref 39), (1, .ref 0), (0, .float 0)], [.int (xs 3), .int (xs 2), .int (xs 1), .ref 39], xh_ul xf_p 71 0 1, 72, 274345) _
  rw [h1, h2, h3]
  refine xR_us (stop := 1027) 3000 12 _ _ (xv_b_ok (pc := 1027) (lv := (6, .long 1) :: [(5, .int 0), (4, .int 0), (3, .ref 71), (2, .ref 39), (1, .ref 0), (0, .float 0)]) (st := []) (c := 72) (s := 274345) (by decide +kernel)) ?_
  exact ⟨20, rfl⟩
set_option maxRecDepth 100000 in
set_option maxHeartbeats 8000000 in
theorem cs_111 : xR none 11 xi_X9_share xmi_X9_share (0, lv_args 0 [.ref 0, .int 1, .int 1, .int 1], [], xf_h, 0, 0) (some (.long 3), xf_p, 0, 0) := by
  refine xR_u (stop := 35) 100 11 _ (35, lv_args 0 [.ref 0, .int 1, .int 1, .int 1], [.ref 0], xf_h, 0, 0) (xu_b_ok (by decide +kernel)) ?_
  refine xR_call rfl rfl rfl rfl ⟨_, xx_b_ok cl_p⟩ ?_
  exact ⟨1000, xx_b_ok (by decide +kernel)⟩
set_option maxRecDepth 100000 in
set_option maxHeartbeats 8000000 in
theorem lg_111 (xs : Nat → Int32) (h1 : xs 1 = 1) (h2 : xs 2 = 1) (h3 : xs 3 = 1) : ∃ h', xR (some (6, xs)) 12 xi_L_law xmi_L_law (538, xf_lv, [.int 0], xh_ul xf_p 71 0 3, 72, 274345) (some (.int 1), h', 72, 274345) := by
  apply Exists.intro
  refine xR_u (stop := 559) 40 12 _ _ rfl ?_
  change xR (some (6, xs)) 12 xi_L_law xmi_L_law (559, [(5, .int 0), (4, .int 0), (3, .ref 71), (2, .ref 39), (1, .ref 0), (0, .float 0)], [.int (xs 3), .int (xs 2), .int (xs 1), .ref 39], xh_ul xf_p 71 0 3, 72, 274345) _
  rw [h1, h2, h3]
  refine xR_us (stop := 1027) 3000 12 _ _ (xv_b_ok (pc := 1027) (lv := (6, .long 3) :: [(5, .int 0), (4, .int 0), (3, .ref 71), (2, .ref 39), (1, .ref 0), (0, .float 0)]) (st := []) (c := 72) (s := 274345) (by decide +kernel)) ?_
  exact ⟨20, rfl⟩
set_option maxRecDepth 100000 in
set_option maxHeartbeats 8000000 in
theorem cs_120 : xR none 11 xi_X9_share xmi_X9_share (0, lv_args 0 [.ref 0, .int 1, .int 2, .int 0], [], xf_h, 0, 0) (some (.long 1), xf_p, 0, 0) := by
  refine xR_u (stop := 35) 100 11 _ (35, lv_args 0 [.ref 0, .int 1, .int 2, .int 0], [.ref 0], xf_h, 0, 0) (xu_b_ok (by decide +kernel)) ?_
  refine xR_call rfl rfl rfl rfl ⟨_, xx_b_ok cl_p⟩ ?_
  exact ⟨1000, xx_b_ok (by decide +kernel)⟩
set_option maxRecDepth 100000 in
set_option maxHeartbeats 8000000 in
theorem lg_120 (xs : Nat → Int32) (h1 : xs 1 = 1) (h2 : xs 2 = 2) (h3 : xs 3 = 0) : ∃ h', xR (some (6, xs)) 12 xi_L_law xmi_L_law (538, xf_lv, [.int 0], xh_ul xf_p 71 0 1, 72, 274345) (some (.int 1), h', 72, 274345) := by
  apply Exists.intro
  refine xR_u (stop := 559) 40 12 _ _ rfl ?_
  change xR (some (6, xs)) 12 xi_L_law xmi_L_law (559, [(5, .int 0), (4, .int 0), (3, .ref 71), (2, .ref 39), (1, .ref 0), (0, .float 0)], [.int (xs 3), .int (xs 2), .int (xs 1), .ref 39], xh_ul xf_p 71 0 1, 72, 274345) _
  rw [h1, h2, h3]
  refine xR_us (stop := 1027) 3000 12 _ _ (xv_b_ok (pc := 1027) (lv := (6, .long 1) :: [(5, .int 0), (4, .int 0), (3, .ref 71), (2, .ref 39), (1, .ref 0), (0, .float 0)]) (st := []) (c := 72) (s := 274345) (by decide +kernel)) ?_
  exact ⟨20, rfl⟩
set_option maxRecDepth 100000 in
set_option maxHeartbeats 8000000 in
theorem cs_121 : xR none 11 xi_X9_share xmi_X9_share (0, lv_args 0 [.ref 0, .int 1, .int 2, .int 1], [], xf_h, 0, 0) (some (.long 3), xf_p, 0, 0) := by
  refine xR_u (stop := 35) 100 11 _ (35, lv_args 0 [.ref 0, .int 1, .int 2, .int 1], [.ref 0], xf_h, 0, 0) (xu_b_ok (by decide +kernel)) ?_
  refine xR_call rfl rfl rfl rfl ⟨_, xx_b_ok cl_p⟩ ?_
  exact ⟨1000, xx_b_ok (by decide +kernel)⟩
set_option maxRecDepth 100000 in
set_option maxHeartbeats 8000000 in
theorem lg_121 (xs : Nat → Int32) (h1 : xs 1 = 1) (h2 : xs 2 = 2) (h3 : xs 3 = 1) : ∃ h', xR (some (6, xs)) 12 xi_L_law xmi_L_law (538, xf_lv, [.int 0], xh_ul xf_p 71 0 3, 72, 274345) (some (.int 1), h', 72, 274345) := by
  apply Exists.intro
  refine xR_u (stop := 559) 40 12 _ _ rfl ?_
  change xR (some (6, xs)) 12 xi_L_law xmi_L_law (559, [(5, .int 0), (4, .int 0), (3, .ref 71), (2, .ref 39), (1, .ref 0), (0, .float 0)], [.int (xs 3), .int (xs 2), .int (xs 1), .ref 39], xh_ul xf_p 71 0 3, 72, 274345) _
  rw [h1, h2, h3]
  refine xR_us (stop := 1027) 3000 12 _ _ (xv_b_ok (pc := 1027) (lv := (6, .long 3) :: [(5, .int 0), (4, .int 0), (3, .ref 71), (2, .ref 39), (1, .ref 0), (0, .float 0)]) (st := []) (c := 72) (s := 274345) (by decide +kernel)) ?_
  exact ⟨20, rfl⟩
set_option maxRecDepth 100000 in
set_option maxHeartbeats 8000000 in
theorem cs_200 : xR none 11 xi_X9_share xmi_X9_share (0, lv_args 0 [.ref 0, .int 2, .int 0, .int 0], [], xf_h, 0, 0) (some (.long 1), xf_p, 0, 0) := by
  refine xR_u (stop := 35) 100 11 _ (35, lv_args 0 [.ref 0, .int 2, .int 0, .int 0], [.ref 0], xf_h, 0, 0) (xu_b_ok (by decide +kernel)) ?_
  refine xR_call rfl rfl rfl rfl ⟨_, xx_b_ok cl_p⟩ ?_
  exact ⟨1000, xx_b_ok (by decide +kernel)⟩
set_option maxRecDepth 100000 in
set_option maxHeartbeats 8000000 in
theorem lg_200 (xs : Nat → Int32) (h1 : xs 1 = 2) (h2 : xs 2 = 0) (h3 : xs 3 = 0) : ∃ h', xR (some (6, xs)) 12 xi_L_law xmi_L_law (538, xf_lv, [.int 0], xh_ul xf_p 71 0 1, 72, 274345) (some (.int 1), h', 72, 274345) := by
  apply Exists.intro
  refine xR_u (stop := 559) 40 12 _ _ rfl ?_
  change xR (some (6, xs)) 12 xi_L_law xmi_L_law (559, [(5, .int 0), (4, .int 0), (3, .ref 71), (2, .ref 39), (1, .ref 0), (0, .float 0)], [.int (xs 3), .int (xs 2), .int (xs 1), .ref 39], xh_ul xf_p 71 0 1, 72, 274345) _
  rw [h1, h2, h3]
  refine xR_us (stop := 1027) 3000 12 _ _ (xv_b_ok (pc := 1027) (lv := (6, .long 1) :: [(5, .int 0), (4, .int 0), (3, .ref 71), (2, .ref 39), (1, .ref 0), (0, .float 0)]) (st := []) (c := 72) (s := 274345) (by decide +kernel)) ?_
  exact ⟨20, rfl⟩
set_option maxRecDepth 100000 in
set_option maxHeartbeats 8000000 in
theorem cs_201 : xR none 11 xi_X9_share xmi_X9_share (0, lv_args 0 [.ref 0, .int 2, .int 0, .int 1], [], xf_h, 0, 0) (some (.long 3), xf_p, 0, 0) := by
  refine xR_u (stop := 35) 100 11 _ (35, lv_args 0 [.ref 0, .int 2, .int 0, .int 1], [.ref 0], xf_h, 0, 0) (xu_b_ok (by decide +kernel)) ?_
  refine xR_call rfl rfl rfl rfl ⟨_, xx_b_ok cl_p⟩ ?_
  exact ⟨1000, xx_b_ok (by decide +kernel)⟩
set_option maxRecDepth 100000 in
set_option maxHeartbeats 8000000 in
theorem lg_201 (xs : Nat → Int32) (h1 : xs 1 = 2) (h2 : xs 2 = 0) (h3 : xs 3 = 1) : ∃ h', xR (some (6, xs)) 12 xi_L_law xmi_L_law (538, xf_lv, [.int 0], xh_ul xf_p 71 0 3, 72, 274345) (some (.int 1), h', 72, 274345) := by
  apply Exists.intro
  refine xR_u (stop := 559) 40 12 _ _ rfl ?_
  change xR (some (6, xs)) 12 xi_L_law xmi_L_law (559, [(5, .int 0), (4, .int 0), (3, .ref 71), (2, .ref 39), (1, .ref 0), (0, .float 0)], [.int (xs 3), .int (xs 2), .int (xs 1), .ref 39], xh_ul xf_p 71 0 3, 72, 274345) _
  rw [h1, h2, h3]
  refine xR_us (stop := 1027) 3000 12 _ _ (xv_b_ok (pc := 1027) (lv := (6, .long 3) :: [(5, .int 0), (4, .int 0), (3, .ref 71), (2, .ref 39), (1, .ref 0), (0, .float 0)]) (st := []) (c := 72) (s := 274345) (by decide +kernel)) ?_
  exact ⟨20, rfl⟩
set_option maxRecDepth 100000 in
set_option maxHeartbeats 8000000 in
theorem cs_210 : xR none 11 xi_X9_share xmi_X9_share (0, lv_args 0 [.ref 0, .int 2, .int 1, .int 0], [], xf_h, 0, 0) (some (.long 1), xf_p, 0, 0) := by
  refine xR_u (stop := 35) 100 11 _ (35, lv_args 0 [.ref 0, .int 2, .int 1, .int 0], [.ref 0], xf_h, 0, 0) (xu_b_ok (by decide +kernel)) ?_
  refine xR_call rfl rfl rfl rfl ⟨_, xx_b_ok cl_p⟩ ?_
  exact ⟨1000, xx_b_ok (by decide +kernel)⟩
set_option maxRecDepth 100000 in
set_option maxHeartbeats 8000000 in
theorem lg_210 (xs : Nat → Int32) (h1 : xs 1 = 2) (h2 : xs 2 = 1) (h3 : xs 3 = 0) : ∃ h', xR (some (6, xs)) 12 xi_L_law xmi_L_law (538, xf_lv, [.int 0], xh_ul xf_p 71 0 1, 72, 274345) (some (.int 1), h', 72, 274345) := by
  apply Exists.intro
  refine xR_u (stop := 559) 40 12 _ _ rfl ?_
  change xR (some (6, xs)) 12 xi_L_law xmi_L_law (559, [(5, .int 0), (4, .int 0), (3, .ref 71), (2, .ref 39), (1, .ref 0), (0, .float 0)], [.int (xs 3), .int (xs 2), .int (xs 1), .ref 39], xh_ul xf_p 71 0 1, 72, 274345) _
  rw [h1, h2, h3]
  refine xR_us (stop := 1027) 3000 12 _ _ (xv_b_ok (pc := 1027) (lv := (6, .long 1) :: [(5, .int 0), (4, .int 0), (3, .ref 71), (2, .ref 39), (1, .ref 0), (0, .float 0)]) (st := []) (c := 72) (s := 274345) (by decide +kernel)) ?_
  exact ⟨20, rfl⟩
set_option maxRecDepth 100000 in
set_option maxHeartbeats 8000000 in
theorem cs_211 : xR none 11 xi_X9_share xmi_X9_share (0, lv_args 0 [.ref 0, .int 2, .int 1, .int 1], [], xf_h, 0, 0) (some (.long 3), xf_p, 0, 0) := by
  refine xR_u (stop := 35) 100 11 _ (35, lv_args 0 [.ref 0, .int 2, .int 1, .int 1], [.ref 0], xf_h, 0, 0) (xu_b_ok (by decide +kernel)) ?_
  refine xR_call rfl rfl rfl rfl ⟨_, xx_b_ok cl_p⟩ ?_
  exact ⟨1000, xx_b_ok (by decide +kernel)⟩
set_option maxRecDepth 100000 in
set_option maxHeartbeats 8000000 in
theorem lg_211 (xs : Nat → Int32) (h1 : xs 1 = 2) (h2 : xs 2 = 1) (h3 : xs 3 = 1) : ∃ h', xR (some (6, xs)) 12 xi_L_law xmi_L_law (538, xf_lv, [.int 0], xh_ul xf_p 71 0 3, 72, 274345) (some (.int 1), h', 72, 274345) := by
  apply Exists.intro
  refine xR_u (stop := 559) 40 12 _ _ rfl ?_
  change xR (some (6, xs)) 12 xi_L_law xmi_L_law (559, [(5, .int 0), (4, .int 0), (3, .ref 71), (2, .ref 39), (1, .ref 0), (0, .float 0)], [.int (xs 3), .int (xs 2), .int (xs 1), .ref 39], xh_ul xf_p 71 0 3, 72, 274345) _
  rw [h1, h2, h3]
  refine xR_us (stop := 1027) 3000 12 _ _ (xv_b_ok (pc := 1027) (lv := (6, .long 3) :: [(5, .int 0), (4, .int 0), (3, .ref 71), (2, .ref 39), (1, .ref 0), (0, .float 0)]) (st := []) (c := 72) (s := 274345) (by decide +kernel)) ?_
  exact ⟨20, rfl⟩
set_option maxRecDepth 100000 in
set_option maxHeartbeats 8000000 in
theorem cs_220 : xR none 11 xi_X9_share xmi_X9_share (0, lv_args 0 [.ref 0, .int 2, .int 2, .int 0], [], xf_h, 0, 0) (some (.long 1), xf_p, 0, 0) := by
  refine xR_u (stop := 35) 100 11 _ (35, lv_args 0 [.ref 0, .int 2, .int 2, .int 0], [.ref 0], xf_h, 0, 0) (xu_b_ok (by decide +kernel)) ?_
  refine xR_call rfl rfl rfl rfl ⟨_, xx_b_ok cl_p⟩ ?_
  exact ⟨1000, xx_b_ok (by decide +kernel)⟩
set_option maxRecDepth 100000 in
set_option maxHeartbeats 8000000 in
theorem lg_220 (xs : Nat → Int32) (h1 : xs 1 = 2) (h2 : xs 2 = 2) (h3 : xs 3 = 0) : ∃ h', xR (some (6, xs)) 12 xi_L_law xmi_L_law (538, xf_lv, [.int 0], xh_ul xf_p 71 0 1, 72, 274345) (some (.int 1), h', 72, 274345) := by
  apply Exists.intro
  refine xR_u (stop := 559) 40 12 _ _ rfl ?_
  change xR (some (6, xs)) 12 xi_L_law xmi_L_law (559, [(5, .int 0), (4, .int 0), (3, .ref 71), (2, .ref 39), (1, .ref 0), (0, .float 0)], [.int (xs 3), .int (xs 2), .int (xs 1), .ref 39], xh_ul xf_p 71 0 1, 72, 274345) _
  rw [h1, h2, h3]
  refine xR_us (stop := 1027) 3000 12 _ _ (xv_b_ok (pc := 1027) (lv := (6, .long 1) :: [(5, .int 0), (4, .int 0), (3, .ref 71), (2, .ref 39), (1, .ref 0), (0, .float 0)]) (st := []) (c := 72) (s := 274345) (by decide +kernel)) ?_
  exact ⟨20, rfl⟩
set_option maxRecDepth 100000 in
set_option maxHeartbeats 8000000 in
theorem cs_221 : xR none 11 xi_X9_share xmi_X9_share (0, lv_args 0 [.ref 0, .int 2, .int 2, .int 1], [], xf_h, 0, 0) (some (.long 3), xf_p, 0, 0) := by
  refine xR_u (stop := 35) 100 11 _ (35, lv_args 0 [.ref 0, .int 2, .int 2, .int 1], [.ref 0], xf_h, 0, 0) (xu_b_ok (by decide +kernel)) ?_
  refine xR_call rfl rfl rfl rfl ⟨_, xx_b_ok cl_p⟩ ?_
  exact ⟨1000, xx_b_ok (by decide +kernel)⟩
set_option maxRecDepth 100000 in
set_option maxHeartbeats 8000000 in
theorem lg_221 (xs : Nat → Int32) (h1 : xs 1 = 2) (h2 : xs 2 = 2) (h3 : xs 3 = 1) : ∃ h', xR (some (6, xs)) 12 xi_L_law xmi_L_law (538, xf_lv, [.int 0], xh_ul xf_p 71 0 3, 72, 274345) (some (.int 1), h', 72, 274345) := by
  apply Exists.intro
  refine xR_u (stop := 559) 40 12 _ _ rfl ?_
  change xR (some (6, xs)) 12 xi_L_law xmi_L_law (559, [(5, .int 0), (4, .int 0), (3, .ref 71), (2, .ref 39), (1, .ref 0), (0, .float 0)], [.int (xs 3), .int (xs 2), .int (xs 1), .ref 39], xh_ul xf_p 71 0 3, 72, 274345) _
  rw [h1, h2, h3]
  refine xR_us (stop := 1027) 3000 12 _ _ (xv_b_ok (pc := 1027) (lv := (6, .long 3) :: [(5, .int 0), (4, .int 0), (3, .ref 71), (2, .ref 39), (1, .ref 0), (0, .float 0)]) (st := []) (c := 72) (s := 274345) (by decide +kernel)) ?_
  exact ⟨20, rfl⟩
end XSQ
