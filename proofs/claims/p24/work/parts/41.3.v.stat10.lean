section
section XSV
variable {T : Nat → Nat} {n mem : Nat}
set_option maxRecDepth 100000 in
set_option maxHeartbeats 4000000 in
theorem isIn_q {f : Nat} {v a b : Int32} {h : xh_H} (hq : a_rq a_tb h) : xq f xi_X10_isIn xmi_X10_isIn 0 [(0, .int v), (1, .int a), (2, .int b)] [] h (fun w h' => h = h' ∧ w = some (.int (bl (decide (a.toInt ≤ v.toInt ∧ v.toInt ≤ b.toInt))))) := by
  cases c1 : xe_c .lt v a with
  | true =>
    have b1 : v.toInt < a.toInt := a_ce c1
    refine xq_n 15 [] [] [.int (Int32.ofInt 0)] h [true] 6 hq rfl ⟨c1, trivial⟩ (fun hq => ?_)
    exact xq_ret rfl rfl rfl ⟨rfl, by rw [show decide (a.toInt ≤ v.toInt ∧ v.toInt ≤ b.toInt) = false from decide_eq_false (by omega)]; rfl⟩
  | false =>
    have b1 : a.toInt ≤ v.toInt := a_ce (a_neg_ok c1)
    cases c2 : xe_c .gt v b with
    | true =>
      have b2 : b.toInt < v.toInt := a_ce c2
      refine xq_n 15 [] [] [.int (Int32.ofInt 0)] h [false, true] 9 hq rfl ⟨c1, c2, trivial⟩ (fun hq => ?_)
      exact xq_ret rfl rfl rfl ⟨rfl, by rw [show decide (a.toInt ≤ v.toInt ∧ v.toInt ≤ b.toInt) = false from decide_eq_false (by omega)]; rfl⟩
    | false =>
      have b2 : v.toInt ≤ b.toInt := a_ce (a_neg_ok c2)
      refine xq_n 15 [] [] [.int (Int32.ofInt 1)] h [false, false] 10 hq rfl ⟨c1, c2, trivial⟩ (fun hq => ?_)
      exact xq_ret rfl rfl rfl ⟨rfl, by rw [show decide (a.toInt ≤ v.toInt ∧ v.toInt ≤ b.toInt) = true from decide_eq_true (by omega)]; rfl⟩
set_option maxRecDepth 100000 in
theorem take_q {f : Nat} {h : xh_H} (hq : a_rq a_tb h) : xq f xi_X10_take xmi_X10_take 0 [(0, .ref 39)] [] h (fun v h' => v = some (.int (xg 0 h.2.1 39 2)) ∧ h' = xh_ui h 39 2 (Int32.ofInt 0)) := by
  refine xq_n 11 [] [] [.int (xg 0 h.2.1 39 2)] (xh_ui h 39 2 (Int32.ofInt 0)) [] 9 hq rfl trivial (fun _ => ?_)
  exact xq_ret rfl rfl rfl ⟨rfl, rfl⟩
/-- what the reference's statute answers -/
def s10_A (sc td : Nat) (f fk : Int32) (r : Sum Nat (Nat × Nat)) (v : Option Value) (h' : xh_H) : Prop := (sref sc td f → v = some (.int (-1000)) ∧ xg 0 h'.2.1 39 33 = nI sc ∧ xg 0 h'.2.1 39 13 = fk) ∧ (¬ sref sc td f → (∀ m, r = .inl m → v = some (.int (nI m)) ∧ xg 0 h'.2.1 39 33 = nI (sc + 1) ∧ xg 0 h'.2.1 39 13 = nI 0) ∧ ∀ k pl, r = .inr (k, pl) → v = some (.int (Int32.ofInt (-1) - nI pl)) ∧ xg 0 h'.2.1 39 33 = nI sc ∧ xg 0 h'.2.1 39 13 = nI k)
set_option maxRecDepth 100000 in
set_option maxHeartbeats 4000000 in
/-- X10.statute -/
theorem s10_q {f sc td : Nat} {fd : Int32} {h : xh_H} {r : Sum Nat (Nat × Nat)} (hq : a_rq a_tb h) (n6 : n ≤ 640) (e2 : xg 0 h.2.1 39 2 = nI n) (hT : ∀ k, k < n → T k < 256 ∧ xg 0 h.2.1 40 k = nI (T k)) (e4 : xg 0 h.2.1 39 4 = nI mem) (m12 : mem ≤ 12) (e33 : xg 0 h.2.1 39 33 = nI sc) (sc8 : sc ≤ 8) (e3 : xg 0 h.2.1 39 3 = nI td) (td9 : td ≤ 999) {W : Nat → Nat} (hX : ¬ sref sc td fd → ∃ j, Tx T n mem j 0 0 0 W r) : xq f xi_X10_statute xmi_X10_statute 0 [(0, .ref 39), (1, .int fd)] [] h (s10_A sc td fd (xg 0 h.2.1 39 13) r) := by
  have tdi := nI_toInt (n := td) (by omega)
  refine xq_n 7 [0, 1] [(0, .ref 39), (1, .int fd)] [.ref 39, .ref 39] (xh_ui h 39 0 (Int32.ofInt 0)) [] 7 hq rfl trivial (fun _ => ?_)
  have hq : a_rq a_tb (xh_ui h 39 0 (Int32.ofInt 0)) := a_rq_ui hq
  refine xq_run hq rfl rfl (take_q hq) ?_
  rintro v h1 ⟨rfl, rfl⟩
  have hq : a_rq a_tb (xh_ui (xh_ui h 39 0 (Int32.ofInt 0)) 39 2 (Int32.ofInt 0)) := a_rq_ui hq
  rw [show xg 0 (xh_ui h 39 0 (Int32.ofInt 0)).2.1 39 2 = nI n from (gx_k (by decide)).trans e2]
  have g1 : fx (fun c k => Nat.beq c 39 && (Nat.beq k 0 || (Nat.beq k 2 || Nat.beq k 6))) fN h (xh_ui (xh_ui (xh_ui h 39 0 (Int32.ofInt 0)) 39 2 (Int32.ofInt 0)) 39 6 (nI n)) := fx_ui (fx_ui (fx_ui fx_0 rfl) rfl) rfl
  have d33 := (fx_i (c := 39) (k := 33) g1 rfl).trans e33
  have d3 := (fx_i (c := 39) (k := 3) g1 rfl).trans e3
  have d13 := fx_i (c := 39) (k := 13) g1 rfl
  have d4 := (fx_i (c := 39) (k := 4) g1 rfl).trans e4
  have d40 : ∀ k, k < n → T k < 256 ∧ xg 0 (xh_ui (xh_ui (xh_ui h 39 0 (Int32.ofInt 0)) 39 2 (Int32.ofInt 0)) 39 6 (nI n)).2.1 40 k = nI (T k) := fun k hk' => ⟨(hT k hk').1, (fx_i (c := 40) (k := k) g1 rfl).trans (hT k hk').2⟩
  have d6 : xg 0 (xh_ui (xh_ui (xh_ui h 39 0 (Int32.ofInt 0)) 39 2 (Int32.ofInt 0)) 39 6 (nI n)).2.1 39 6 = nI n := gx_s
  have hq1 : a_rq a_tb (xh_ui (xh_ui (xh_ui h 39 0 (Int32.ofInt 0)) 39 2 (Int32.ofInt 0)) 39 6 (nI n)) := a_rq_ui hq
  refine xq_n 13 [0, 1] [(0, .ref 39), (1, .int fd)] [] (xh_ui (xh_ui (xh_ui h 39 0 (Int32.ofInt 0)) 39 2 (Int32.ofInt 0)) 39 6 (nI n)) [] 3 hq rfl trivial (fun _ => ?_)
  generalize xh_ui (xh_ui (xh_ui h 39 0 (Int32.ofInt 0)) 39 2 (Int32.ofInt 0)) 39 6 (nI n) = h1 at d33 d3 d13 d4 d40 d6 hq1 ⊢
  have hq := hq1
  by_cases k8 : sc = 8
  · refine xq_n 39 [] [] [.int (-1000)] h1 [true] 7 hq rfl ⟨(show xe_c .eq (xg 0 h1.2.1 39 33) 8 = true by rw [d33, k8]; rfl), trivial⟩ (fun hq => ?_)
    exact xq_ret rfl rfl rfl ⟨fun _ => ⟨rfl, d33, d13⟩, fun z => absurd (Or.inl (by omega)) z⟩
  have c1 : xe_c .eq (xg 0 h1.2.1 39 33) 8 = false := by rw [d33]; exact xeq_f (by rw [nI_toInt (by omega)]; show ((sc : Nat) : Int) ≠ 8; omega)
  refine xq_n 30 [0, 1] [(0, .ref 39), (1, .int fd)] [.int 999, .int (xg 0 h1.2.1 39 3), .int fd] h1 [false] 10 hq rfl ⟨c1, trivial⟩ (fun hq => ?_)
  rw [d3]
  refine xq_run hq rfl rfl (isIn_q hq) ?_
  rintro v h2 ⟨rfl, rfl⟩
  cases b : decide ((nI td).toInt ≤ fd.toInt ∧ fd.toInt ≤ (999 : Int32).toInt) with
  | false =>
    have db := of_decide_eq_false b
    rw [tdi] at db
    have e9 : (999 : Int32).toInt = 999 := rfl
    rw [e9] at db
    refine xq_n 39 [] [] [.int (-1000)] h1 [false] 4 hq rfl ⟨rfl, trivial⟩ (fun hq => ?_)
    refine xq_ret rfl rfl rfl ⟨fun _ => ⟨rfl, d33, d13⟩, fun z => absurd ?_ z⟩
    by_cases z1 : (td : Int) ≤ fd.toInt
    · exact Or.inr (Or.inr (by omega))
    · exact Or.inr (Or.inl (by omega))
  | true =>
    have db := of_decide_eq_true b
    rw [tdi] at db
    have e9 : (999 : Int32).toInt = 999 := rfl
    rw [e9] at db
    have nsr : ¬ sref sc td fd := by
      rintro (z | z | z) <;> omega
    obtain ⟨j, hX⟩ := hX nsr
    refine xq_n 61 [0, 1] [(0, .ref 39), (1, .int fd)] [.ref 39] (xh_ui (xh_ui (xh_ui (xh_ui h1 39 13 (Int32.ofInt 0)) 39 26 (Int32.ofInt 0)) 39 27 (Int32.ofInt 0)) 39 7 (Int32.ofInt 0)) [true] 16 hq rfl ⟨rfl, trivial⟩ (fun _ => ?_)
    have hq : a_rq a_tb (xh_ui (xh_ui (xh_ui (xh_ui h1 39 13 (Int32.ofInt 0)) 39 26 (Int32.ofInt 0)) 39 27 (Int32.ofInt 0)) 39 7 (Int32.ofInt 0)) := a_rq_ui (a_rq_ui (a_rq_ui (a_rq_ui hq)))
    have g2 : fx (fun c k => Nat.beq c 39 && (Nat.beq k 13 || (Nat.beq k 26 || (Nat.beq k 27 || Nat.beq k 7)))) fN h1 (xh_ui (xh_ui (xh_ui (xh_ui h1 39 13 (Int32.ofInt 0)) 39 26 (Int32.ofInt 0)) 39 27 (Int32.ofInt 0)) 39 7 (Int32.ofInt 0)) := fx_ui (fx_ui (fx_ui (fx_ui fx_0 rfl) rfl) rfl) rfl
    have a33 := (fx_i (c := 39) (k := 33) g2 rfl).trans d33
    have a4 := (fx_i (c := 39) (k := 4) g2 rfl).trans d4
    have a6 := (fx_i (c := 39) (k := 6) g2 rfl).trans d6
    have a40 : ∀ k, k < n → T k < 256 ∧ xg 0 (xh_ui (xh_ui (xh_ui (xh_ui h1 39 13 (Int32.ofInt 0)) 39 26 (Int32.ofInt 0)) 39 27 (Int32.ofInt 0)) 39 7 (Int32.ofInt 0)).2.1 40 k = nI (T k) := fun k hk' => ⟨(d40 k hk').1, (fx_i (c := 40) (k := k) g2 rfl).trans (d40 k hk').2⟩
    have a7 : xg 0 (xh_ui (xh_ui (xh_ui (xh_ui h1 39 13 (Int32.ofInt 0)) 39 26 (Int32.ofInt 0)) 39 27 (Int32.ofInt 0)) 39 7 (Int32.ofInt 0)).2.1 39 7 = nI 0 := gx_s
    have a27 : xg 0 (xh_ui (xh_ui (xh_ui (xh_ui h1 39 13 (Int32.ofInt 0)) 39 26 (Int32.ofInt 0)) 39 27 (Int32.ofInt 0)) 39 7 (Int32.ofInt 0)).2.1 39 27 = nI 0 := (gx_k (by decide)).trans gx_s
    have a26 : xg 0 (xh_ui (xh_ui (xh_ui (xh_ui h1 39 13 (Int32.ofInt 0)) 39 26 (Int32.ofInt 0)) 39 27 (Int32.ofInt 0)) 39 7 (Int32.ofInt 0)).2.1 39 26 = nI 0 := (gx_k (by decide)).trans ((gx_k (by decide)).trans gx_s)
    have a13 : xg 0 (xh_ui (xh_ui (xh_ui (xh_ui h1 39 13 (Int32.ofInt 0)) 39 26 (Int32.ofInt 0)) 39 27 (Int32.ofInt 0)) 39 7 (Int32.ofInt 0)).2.1 39 13 = nI 0 := (gx_k (by decide)).trans ((gx_k (by decide)).trans ((gx_k (by decide)).trans gx_s))
    generalize xh_ui (xh_ui (xh_ui (xh_ui h1 39 13 (Int32.ofInt 0)) 39 26 (Int32.ofInt 0)) 39 27 (Int32.ofInt 0)) 39 7 (Int32.ofInt 0) = h2 at hq a33 a4 a6 a40 a7 a27 a26 a13 ⊢
    have hr : rtp h2 T n := ⟨a6, n6, a40⟩
    refine xq_run hq rfl rfl (go_q hq hr a7 (Nat.zero_le _)) ?_
    rintro v h3 ⟨rfl, g3, t3⟩
    have hq := fx_q g3 hq
    have r0 : rq0 h3 T n mem 0 W 0 0 := ⟨rtp_f hr g3 rfl (fun _ => rfl), t3, (fx_i g3 rfl).trans a4, m12, ⟨(fx_i g3 rfl).trans a26, by decide, fun k hk' => absurd hk' (Nat.not_lt_zero k)⟩, (fx_i g3 rfl).trans a27, by decide, (fx_i g3 rfl).trans a13⟩
    refine xq_mono (st_64 (fd := fd) (h0 := h3) (by omega) j 0 0 0 W f h3 hX r0 hq fx_0 ((fx_i g3 rfl).trans a33)) (fun v h' e => ?_)
    exact ⟨fun z => absurd z nsr, fun _ => ⟨e.2.1, e.2.2⟩⟩
end XSV
end
section
section XDP
/-! what a run comes to doesn't hang on the depth it is allowed -/
theorem xe_oi_d {r : xr_R} {pc d : Nat} {lv : List (Nat × Value)} {st : List Value} {h : xh_H} {c s : Nat} {o : xs_S} (e : xe_oi r pc d lv st h c s = some o) : xe_oi r pc (d + 1) lv st h c s = some o := by
  unfold xe_oi at e ⊢
  split at e
  · split at e
    · split at e
      · exact e
      · cases e
    · split at e
      · exact e
      · cases e
    · cases e
  · split at e
    · split at e
      · cases e
      · exact e
    · cases e
  · split at e
    · split at e
      · cases e
      · exact e
    · cases e
  · cases e
theorem xe_2_d {nL d pc : Nat} {r : xr_R} {lv : List (Nat × Value)} {st : List Value} {h : xh_H} {c s : Nat} {o : xs_S} (e : xe_2 none nL r d pc lv st h c s = some o) : xe_2 none nL r (d + 1) pc lv st h c s = some o := by
  unfold xe_2 at e ⊢
  cases h1 : xe_1 nL r pc lv st h c s with
  | some o1 => rw [h1] at e; exact e
  | none =>
    rw [h1] at e
    dsimp only at e ⊢
    cases h2 : xe_o none r pc lv st h c s with
    | some o1 => rw [h2] at e; exact e
    | none => rw [h2] at e; exact xe_oi_d e
theorem xe_oi_c {r : xr_R} {own : String} {pc d : Nat} {lv : List (Nat × Value)} {st : List Value} {h : xh_H} {c s : Nat} {t : xm_M × List Value × List Value} (hr : xr_c xM own r = true) (hc : xe_cl xM r st h = some t) : xe_oi r pc d lv st h c s = none := by
  obtain ⟨i, len, ra, rb, rK, ri⟩ := r
  unfold xe_cl at hc
  cases hM : xM (i, len, ra, rb, rK, ri).2.2.1 with
  | none => rw [hM] at hc; cases hc
  | some m =>
    rw [hM] at hc
    have hM' : xM ra = some m := hM
    unfold xe_oi
    cases i
    case invokevirtual idx =>
      dsimp only
      unfold xr_c at hr
      dsimp only at hr
      split
      · rw [hM'] at hr
        obtain ⟨-, hr⟩ := xw_bb hr
        cases hr
      · rw [hM'] at hr
        obtain ⟨-, hr⟩ := xw_bb hr
        cases hr
      · rfl
    case invokespecial idx =>
      dsimp only at hc ⊢
      split
      · split at hc
        · obtain ⟨z, -⟩ := xw_c hc
          obtain ⟨z, -⟩ := xw_bb z
          cases z
        · cases hc
      · rfl
    case invokestatic idx =>
      dsimp only at hc ⊢
      split
      · obtain ⟨z, -⟩ := xw_c hc
        obtain ⟨z, -⟩ := xw_bb z
        cases z
      · rfl
    all_goals rfl
theorem xe_cl_M {r : xr_R} {st : List Value} {h : xh_H} {mj : xm_M} {As q : List Value} (e : xe_cl xM r st h = some (mj, As, q)) : ∃ m, xM r.2.2.1 = some m := by
  unfold xe_cl at e
  cases hM : xM r.2.2.1 with
  | none => rw [hM] at e; cases e
  | some m => exact ⟨m, rfl⟩
theorem xe_x_dp : ∀ (f d mid : Nat) (mi : xm_M) (S : xs_S) (R : Option Value × xh_H × Nat × Nat), (∃ m, xM mid = some m) → xe_x xM xC none f d mid mi S = some R → xe_x xM xC none f (d + 1) mid mi S = some R := by
  intro f
  induction f with
  | zero => intro d mid mi S R _ e; cases e
  | succ f ih =>
    intro d mid mi S R hM e
    obtain ⟨pc, lv, st, h, c, s⟩ := S
    unfold xe_x at e ⊢
    cases hr : xC mid pc with
    | none => rw [hr] at e; cases e
    | some r =>
      rw [hr] at e
      dsimp only at e ⊢
      cases hi : xe_isr r.1 with
      | true => rw [hi] at e; exact e
      | false =>
        rw [hi] at e
        simp only [cond_false] at e ⊢
        cases h2 : xe_2 none mi.2.2.2.1 r d pc lv st h c s with
        | some o =>
          rw [h2] at e
          rw [xe_2_d h2]
          exact ih d mid mi o R hM e
        | none =>
          rw [h2] at e
          dsimp only at e
          cases d with
          | zero => cases e
          | succ d' =>
            dsimp only at e
            cases hcl : xe_cl xM r st h with
            | none => rw [hcl] at e; cases e
            | some t =>
              obtain ⟨m, hm⟩ := hM
              have hrc := ((xP.1 mid m hm).2 pc r hr).2
              have h3 : xe_2 none mi.2.2.2.1 r (d' + 1 + 1) pc lv st h c s = none := by
                unfold xe_2 at h2 ⊢
                cases k1 : xe_1 mi.2.2.2.1 r pc lv st h c s with
                | some o => rw [k1] at h2; cases h2
                | none =>
                  rw [k1] at h2
                  dsimp only at h2 ⊢
                  cases k2 : xe_o none r pc lv st h c s with
                  | some o => rw [k2] at h2; cases h2
                  | none => exact xe_oi_c hrc hcl
              rw [h3]
              obtain ⟨mj, As, q⟩ := t
              rw [hcl] at e
              dsimp only at e ⊢
              cases hx : xe_x xM xC none f d' r.2.2.1 mj (0, lv_args 0 As, [], h, 0, 0) with
              | none => rw [hx] at e; cases e
              | some t =>
                obtain ⟨v1, h1, mc, ms⟩ := t
                rw [hx] at e
                rw [ih d' r.2.2.1 mj _ _ (xe_cl_M hcl) hx]
                exact ih (d' + 1) mid mi _ R ⟨m, hm⟩ e
theorem xe_x_ds {f mid : Nat} {mi : xm_M} {S : xs_S} {R : Option Value × xh_H × Nat × Nat} (hM : ∃ m, xM mid = some m) {d : Nat} : ∀ k, xe_x xM xC none f d mid mi S = some R → xe_x xM xC none f (d + k) mid mi S = some R := by
  intro k e
  induction k with
  | zero => exact e
  | succ k ih => exact xe_x_dp _ _ _ _ _ _ hM ih
/-- what a run that is known to end comes to, holds of every run -/
theorem xq_of {f d mid : Nat} {mi : xm_M} {pc : Nat} {lv : List (Nat × Value)} {st : List Value} {h : xh_H} {Q : Option Value → xh_H → Prop} (hM : ∃ m, xM mid = some m) (k : xt_P d mid mi pc lv st h Q) : xq f mid mi pc lv st h Q := by
  intro d' lw v h' c s hs hx
  obtain ⟨v2, h2, r, q⟩ := k
  obtain ⟨f2, hf2⟩ := xR_sb hs r
  have a1 := xe_x_le (Nat.le_add_right f f2) (xe_x_ds hM d hx)
  have a2 := xe_x_le (Nat.le_add_left f2 f) (xe_x_ds hM d' hf2)
  rw [Nat.add_comm d' d] at a1
  rw [a1] at a2
  cases a2
  exact q
end XDP
end
section
section XFD
/-- a byte of a number -/
def byC (x : Int32) (j : Nat) : Int32 := match j with
  | 0 => vp_nar FieldType.byte ((x >>> ((24 : Int32) &&& 31)).toInt8.toInt32)
  | 1 => vp_nar FieldType.byte ((x >>> ((16 : Int32) &&& 31)).toInt8.toInt32)
  | 2 => vp_nar FieldType.byte ((x >>> ((8 : Int32) &&& 31)).toInt8.toInt32)
  | _ => vp_nar FieldType.byte ((x >>> ((0 : Int32) &&& 31)).toInt8.toInt32)
def byR (x : Int32) (j : Nat) : Int32 := match j with
  | 0 => (x.toUInt32 >>> (Int32.toUInt32 24 &&& Int32.toUInt32 31)).toInt32 &&& 255
  | 1 => (x.toUInt32 >>> (Int32.toUInt32 16 &&& Int32.toUInt32 31)).toInt32 &&& 255
  | 2 => (x.toUInt32 >>> (Int32.toUInt32 8 &&& Int32.toUInt32 31)).toInt32 &&& 255
  | _ => (x.toUInt32 >>> (Int32.toUInt32 0 &&& Int32.toUInt32 31)).toInt32 &&& 255
def pC (c k : Nat) : Bool := (Nat.beq c 1 && Nat.beq k 1) || Nat.beq c 2
def pR (c k : Nat) : Bool := (Nat.beq c 39 && (Nat.beq k 0 || Nat.beq k 2)) || Nat.beq c 40
set_option maxRecDepth 100000 in
set_option maxHeartbeats 4000000 in
theorem put_q {f t : Nat} {x : Int32} {h : xh_H} (hq : a_rq a_tb h) (t4 : t + 4 ≤ 640) (e1 : xg 0 h.2.1 1 1 = nI t) : xq f xi_X8_put xmi_X8_put 0 [(0, .ref 1), (1, .int x)] [] h (fun v h' => v = none ∧ fx pC fN h h' ∧ xg 0 h'.2.1 1 1 = nI (t + 4) ∧ (∀ j, j < 4 → xg 0 h'.2.1 2 (t + j) = byC x j) ∧ ∀ k, (k < t ∨ t + 4 ≤ k) → xg 0 h'.2.1 2 k = xg 0 h.2.1 2 k) := by
  refine xq_n 3 [0, 1, 2] [(0, .ref 1), (1, .int x), (2, .int 24)] [] h [] 4 hq rfl trivial (fun hq => ?_)
  cases c1 : xe_c .ge (nI t) 640 with
  | true =>
    have z1 : t ≥ 640 := nq_get (a := t) (b := 640) (by omega) (by omega) c1
    omega
  | false =>
    have z1 : t < 640 := nq_gef (a := t) (b := 640) (by omega) (by omega) c1
    refine xq_n 3 [0, 1, 2] [(0, .ref 1), (1, .int x), (2, .int (24 + Int32.ofInt (-8)))] [] (xh_ui (xh_ui h 2 ((xg 0 h.2.1 1 1).toNatClampNeg) (vp_nar FieldType.byte ((x >>> ((24 : Int32) &&& 31)).toInt8.toInt32))) 1 1 ((xg 0 (xh_ui h 2 ((xg 0 h.2.1 1 1).toNatClampNeg) (vp_nar FieldType.byte ((x >>> ((24 : Int32) &&& 31)).toInt8.toInt32))).2.1 1 1) + (Int32.ofInt 1))) [false, false] 25 hq rfl ⟨(by decide), (show xe_c .ge (xg 0 h.2.1 1 1) 640 = false by rw [show (xg 0 h.2.1 1 1) = (nI t) from e1]; exact c1), trivial⟩ (fun _ => ?_)
    rw [show (xg 0 (xh_ui h 2 ((xg 0 h.2.1 1 1).toNatClampNeg) (vp_nar FieldType.byte ((x >>> ((24 : Int32) &&& 31)).toInt8.toInt32))).2.1 1 1) = (nI t) from (gx_o (by decide)).trans (e1)]
    rw [show (xg 0 h.2.1 1 1) = (nI t) from e1]
    rw [show (24 + Int32.ofInt (-8)) = 16 from rfl]
    rw [show ((nI t).toNatClampNeg) = t from nI_clamp (by omega)]
    rw [show ((nI t) + (Int32.ofInt 1)) = nI (t + 1) from nI_1 _]
    have hq : a_rq a_tb (xh_ui (xh_ui h 2 t (vp_nar FieldType.byte ((x >>> ((24 : Int32) &&& 31)).toInt8.toInt32))) 1 1 (nI (t + 1))) := a_rq_ui (a_rq_ui hq)
    cases c2 : xe_c .ge (nI (t + 1)) 640 with
    | true =>
      have z2 : (t + 1) ≥ 640 := nq_get (a := (t + 1)) (b := 640) (by omega) (by omega) c2
      omega
    | false =>
      have z2 : (t + 1) < 640 := nq_gef (a := (t + 1)) (b := 640) (by omega) (by omega) c2
      refine xq_n 3 [0, 1, 2] [(0, .ref 1), (1, .int x), (2, .int (16 + Int32.ofInt (-8)))] [] (xh_ui (xh_ui (xh_ui (xh_ui h 2 t (vp_nar FieldType.byte ((x >>> ((24 : Int32) &&& 31)).toInt8.toInt32))) 1 1 (nI (t + 1))) 2 ((xg 0 (xh_ui (xh_ui h 2 t (vp_nar FieldType.byte ((x >>> ((24 : Int32) &&& 31)).toInt8.toInt32))) 1 1 (nI (t + 1))).2.1 1 1).toNatClampNeg) (vp_nar FieldType.byte ((x >>> ((16 : Int32) &&& 31)).toInt8.toInt32))) 1 1 ((xg 0 (xh_ui (xh_ui (xh_ui h 2 t (vp_nar FieldType.byte ((x >>> ((24 : Int32) &&& 31)).toInt8.toInt32))) 1 1 (nI (t + 1))) 2 ((xg 0 (xh_ui (xh_ui h 2 t (vp_nar FieldType.byte ((x >>> ((24 : Int32) &&& 31)).toInt8.toInt32))) 1 1 (nI (t + 1))).2.1 1 1).toNatClampNeg) (vp_nar FieldType.byte ((x >>> ((16 : Int32) &&& 31)).toInt8.toInt32))).2.1 1 1) + (Int32.ofInt 1))) [false, false] 25 hq rfl ⟨(by decide), (show xe_c .ge (xg 0 (xh_ui (xh_ui h 2 t (vp_nar FieldType.byte ((x >>> ((24 : Int32) &&& 31)).toInt8.toInt32))) 1 1 (nI (t + 1))).2.1 1 1) 640 = false by rw [show (xg 0 (xh_ui (xh_ui h 2 t (vp_nar FieldType.byte ((x >>> ((24 : Int32) &&& 31)).toInt8.toInt32))) 1 1 (nI (t + 1))).2.1 1 1) = (nI (t + 1)) from gx_s]; exact c2), trivial⟩ (fun _ => ?_)
      rw [show (xg 0 (xh_ui (xh_ui (xh_ui h 2 t (vp_nar FieldType.byte ((x >>> ((24 : Int32) &&& 31)).toInt8.toInt32))) 1 1 (nI (t + 1))) 2 ((xg 0 (xh_ui (xh_ui h 2 t (vp_nar FieldType.byte ((x >>> ((24 : Int32) &&& 31)).toInt8.toInt32))) 1 1 (nI (t + 1))).2.1 1 1).toNatClampNeg) (vp_nar FieldType.byte ((x >>> ((16 : Int32) &&& 31)).toInt8.toInt32))).2.1 1 1) = (nI (t + 1)) from (gx_o (by decide)).trans (gx_s)]
      rw [show (xg 0 (xh_ui (xh_ui h 2 t (vp_nar FieldType.byte ((x >>> ((24 : Int32) &&& 31)).toInt8.toInt32))) 1 1 (nI (t + 1))).2.1 1 1) = (nI (t + 1)) from gx_s]
      rw [show (16 + Int32.ofInt (-8)) = 8 from rfl]
      rw [show ((nI (t + 1)).toNatClampNeg) = (t + 1) from nI_clamp (by omega)]
      rw [show ((nI (t + 1)) + (Int32.ofInt 1)) = nI (t + 1 + 1) from nI_1 _]
      have hq : a_rq a_tb (xh_ui (xh_ui (xh_ui (xh_ui h 2 t (vp_nar FieldType.byte ((x >>> ((24 : Int32) &&& 31)).toInt8.toInt32))) 1 1 (nI (t + 1))) 2 (t + 1) (vp_nar FieldType.byte ((x >>> ((16 : Int32) &&& 31)).toInt8.toInt32))) 1 1 (nI (t + 1 + 1))) := a_rq_ui (a_rq_ui hq)
      cases c3 : xe_c .ge (nI (t + 1 + 1)) 640 with
      | true =>
        have z3 : (t + 1 + 1) ≥ 640 := nq_get (a := (t + 1 + 1)) (b := 640) (by omega) (by omega) c3
        omega
      | false =>
        have z3 : (t + 1 + 1) < 640 := nq_gef (a := (t + 1 + 1)) (b := 640) (by omega) (by omega) c3
        refine xq_n 3 [0, 1, 2] [(0, .ref 1), (1, .int x), (2, .int (8 + Int32.ofInt (-8)))] [] (xh_ui (xh_ui (xh_ui (xh_ui (xh_ui (xh_ui h 2 t (vp_nar FieldType.byte ((x >>> ((24 : Int32) &&& 31)).toInt8.toInt32))) 1 1 (nI (t + 1))) 2 (t + 1) (vp_nar FieldType.byte ((x >>> ((16 : Int32) &&& 31)).toInt8.toInt32))) 1 1 (nI (t + 1 + 1))) 2 ((xg 0 (xh_ui (xh_ui (xh_ui (xh_ui h 2 t (vp_nar FieldType.byte ((x >>> ((24 : Int32) &&& 31)).toInt8.toInt32))) 1 1 (nI (t + 1))) 2 (t + 1) (vp_nar FieldType.byte ((x >>> ((16 : Int32) &&& 31)).toInt8.toInt32))) 1 1 (nI (t + 1 + 1))).2.1 1 1).toNatClampNeg) (vp_nar FieldType.byte ((x >>> ((8 : Int32) &&& 31)).toInt8.toInt32))) 1 1 ((xg 0 (xh_ui (xh_ui (xh_ui (xh_ui (xh_ui h 2 t (vp_nar FieldType.byte ((x >>> ((24 : Int32) &&& 31)).toInt8.toInt32))) 1 1 (nI (t + 1))) 2 (t + 1) (vp_nar FieldType.byte ((x >>> ((16 : Int32) &&& 31)).toInt8.toInt32))) 1 1 (nI (t + 1 + 1))) 2 ((xg 0 (xh_ui (xh_ui (xh_ui (xh_ui h 2 t (vp_nar FieldType.byte ((x >>> ((24 : Int32) &&& 31)).toInt8.toInt32))) 1 1 (nI (t + 1))) 2 (t + 1) (vp_nar FieldType.byte ((x >>> ((16 : Int32) &&& 31)).toInt8.toInt32))) 1 1 (nI (t + 1 + 1))).2.1 1 1).toNatClampNeg) (vp_nar FieldType.byte ((x >>> ((8 : Int32) &&& 31)).toInt8.toInt32))).2.1 1 1) + (Int32.ofInt 1))) [false, false] 25 hq rfl ⟨(by decide), (show xe_c .ge (xg 0 (xh_ui (xh_ui (xh_ui (xh_ui h 2 t (vp_nar FieldType.byte ((x >>> ((24 : Int32) &&& 31)).toInt8.toInt32))) 1 1 (nI (t + 1))) 2 (t + 1) (vp_nar FieldType.byte ((x >>> ((16 : Int32) &&& 31)).toInt8.toInt32))) 1 1 (nI (t + 1 + 1))).2.1 1 1) 640 = false by rw [show (xg 0 (xh_ui (xh_ui (xh_ui (xh_ui h 2 t (vp_nar FieldType.byte ((x >>> ((24 : Int32) &&& 31)).toInt8.toInt32))) 1 1 (nI (t + 1))) 2 (t + 1) (vp_nar FieldType.byte ((x >>> ((16 : Int32) &&& 31)).toInt8.toInt32))) 1 1 (nI (t + 1 + 1))).2.1 1 1) = (nI (t + 1 + 1)) from gx_s]; exact c3), trivial⟩ (fun _ => ?_)
        rw [show (xg 0 (xh_ui (xh_ui (xh_ui (xh_ui (xh_ui h 2 t (vp_nar FieldType.byte ((x >>> ((24 : Int32) &&& 31)).toInt8.toInt32))) 1 1 (nI (t + 1))) 2 (t + 1) (vp_nar FieldType.byte ((x >>> ((16 : Int32) &&& 31)).toInt8.toInt32))) 1 1 (nI (t + 1 + 1))) 2 ((xg 0 (xh_ui (xh_ui (xh_ui (xh_ui h 2 t (vp_nar FieldType.byte ((x >>> ((24 : Int32) &&& 31)).toInt8.toInt32))) 1 1 (nI (t + 1))) 2 (t + 1) (vp_nar FieldType.byte ((x >>> ((16 : Int32) &&& 31)).toInt8.toInt32))) 1 1 (nI (t + 1 + 1))).2.1 1 1).toNatClampNeg) (vp_nar FieldType.byte ((x >>> ((8 : Int32) &&& 31)).toInt8.toInt32))).2.1 1 1) = (nI (t + 1 + 1)) from (gx_o (by decide)).trans (gx_s)]
        rw [show (xg 0 (xh_ui (xh_ui (xh_ui (xh_ui h 2 t (vp_nar FieldType.byte ((x >>> ((24 : Int32) &&& 31)).toInt8.toInt32))) 1 1 (nI (t + 1))) 2 (t + 1) (vp_nar FieldType.byte ((x >>> ((16 : Int32) &&& 31)).toInt8.toInt32))) 1 1 (nI (t + 1 + 1))).2.1 1 1) = (nI (t + 1 + 1)) from gx_s]
        rw [show (8 + Int32.ofInt (-8)) = 0 from rfl]
        rw [show ((nI (t + 1 + 1)).toNatClampNeg) = (t + 1 + 1) from nI_clamp (by omega)]
        rw [show ((nI (t + 1 + 1)) + (Int32.ofInt 1)) = nI (t + 1 + 1 + 1) from nI_1 _]
        have hq : a_rq a_tb (xh_ui (xh_ui (xh_ui (xh_ui (xh_ui (xh_ui h 2 t (vp_nar FieldType.byte ((x >>> ((24 : Int32) &&& 31)).toInt8.toInt32))) 1 1 (nI (t + 1))) 2 (t + 1) (vp_nar FieldType.byte ((x >>> ((16 : Int32) &&& 31)).toInt8.toInt32))) 1 1 (nI (t + 1 + 1))) 2 (t + 1 + 1) (vp_nar FieldType.byte ((x >>> ((8 : Int32) &&& 31)).toInt8.toInt32))) 1 1 (nI (t + 1 + 1 + 1))) := a_rq_ui (a_rq_ui hq)
        cases c4 : xe_c .ge (nI (t + 1 + 1 + 1)) 640 with
        | true =>
          have z4 : (t + 1 + 1 + 1) ≥ 640 := nq_get (a := (t + 1 + 1 + 1)) (b := 640) (by omega) (by omega) c4
          omega
        | false =>
          have z4 : (t + 1 + 1 + 1) < 640 := nq_gef (a := (t + 1 + 1 + 1)) (b := 640) (by omega) (by omega) c4
          refine xq_n 3 [0, 1, 2] [(0, .ref 1), (1, .int x), (2, .int (0 + Int32.ofInt (-8)))] [] (xh_ui (xh_ui (xh_ui (xh_ui (xh_ui (xh_ui (xh_ui (xh_ui h 2 t (vp_nar FieldType.byte ((x >>> ((24 : Int32) &&& 31)).toInt8.toInt32))) 1 1 (nI (t + 1))) 2 (t + 1) (vp_nar FieldType.byte ((x >>> ((16 : Int32) &&& 31)).toInt8.toInt32))) 1 1 (nI (t + 1 + 1))) 2 (t + 1 + 1) (vp_nar FieldType.byte ((x >>> ((8 : Int32) &&& 31)).toInt8.toInt32))) 1 1 (nI (t + 1 + 1 + 1))) 2 ((xg 0 (xh_ui (xh_ui (xh_ui (xh_ui (xh_ui (xh_ui h 2 t (vp_nar FieldType.byte ((x >>> ((24 : Int32) &&& 31)).toInt8.toInt32))) 1 1 (nI (t + 1))) 2 (t + 1) (vp_nar FieldType.byte ((x >>> ((16 : Int32) &&& 31)).toInt8.toInt32))) 1 1 (nI (t + 1 + 1))) 2 (t + 1 + 1) (vp_nar FieldType.byte ((x >>> ((8 : Int32) &&& 31)).toInt8.toInt32))) 1 1 (nI (t + 1 + 1 + 1))).2.1 1 1).toNatClampNeg) (vp_nar FieldType.byte ((x >>> ((0 : Int32) &&& 31)).toInt8.toInt32))) 1 1 ((xg 0 (xh_ui (xh_ui (xh_ui (xh_ui (xh_ui (xh_ui (xh_ui h 2 t (vp_nar FieldType.byte ((x >>> ((24 : Int32) &&& 31)).toInt8.toInt32))) 1 1 (nI (t + 1))) 2 (t + 1) (vp_nar FieldType.byte ((x >>> ((16 : Int32) &&& 31)).toInt8.toInt32))) 1 1 (nI (t + 1 + 1))) 2 (t + 1 + 1) (vp_nar FieldType.byte ((x >>> ((8 : Int32) &&& 31)).toInt8.toInt32))) 1 1 (nI (t + 1 + 1 + 1))) 2 ((xg 0 (xh_ui (xh_ui (xh_ui (xh_ui (xh_ui (xh_ui h 2 t (vp_nar FieldType.byte ((x >>> ((24 : Int32) &&& 31)).toInt8.toInt32))) 1 1 (nI (t + 1))) 2 (t + 1) (vp_nar FieldType.byte ((x >>> ((16 : Int32) &&& 31)).toInt8.toInt32))) 1 1 (nI (t + 1 + 1))) 2 (t + 1 + 1) (vp_nar FieldType.byte ((x >>> ((8 : Int32) &&& 31)).toInt8.toInt32))) 1 1 (nI (t + 1 + 1 + 1))).2.1 1 1).toNatClampNeg) (vp_nar FieldType.byte ((x >>> ((0 : Int32) &&& 31)).toInt8.toInt32))).2.1 1 1) + (Int32.ofInt 1))) [false, false] 25 hq rfl ⟨(by decide), (show xe_c .ge (xg 0 (xh_ui (xh_ui (xh_ui (xh_ui (xh_ui (xh_ui h 2 t (vp_nar FieldType.byte ((x >>> ((24 : Int32) &&& 31)).toInt8.toInt32))) 1 1 (nI (t + 1))) 2 (t + 1) (vp_nar FieldType.byte ((x >>> ((16 : Int32) &&& 31)).toInt8.toInt32))) 1 1 (nI (t + 1 + 1))) 2 (t + 1 + 1) (vp_nar FieldType.byte ((x >>> ((8 : Int32) &&& 31)).toInt8.toInt32))) 1 1 (nI (t + 1 + 1 + 1))).2.1 1 1) 640 = false by rw [show (xg 0 (xh_ui (xh_ui (xh_ui (xh_ui (xh_ui (xh_ui h 2 t (vp_nar FieldType.byte ((x >>> ((24 : Int32) &&& 31)).toInt8.toInt32))) 1 1 (nI (t + 1))) 2 (t + 1) (vp_nar FieldType.byte ((x >>> ((16 : Int32) &&& 31)).toInt8.toInt32))) 1 1 (nI (t + 1 + 1))) 2 (t + 1 + 1) (vp_nar FieldType.byte ((x >>> ((8 : Int32) &&& 31)).toInt8.toInt32))) 1 1 (nI (t + 1 + 1 + 1))).2.1 1 1) = (nI (t + 1 + 1 + 1)) from gx_s]; exact c4), trivial⟩ (fun _ => ?_)
          rw [show (xg 0 (xh_ui (xh_ui (xh_ui (xh_ui (xh_ui (xh_ui (xh_ui h 2 t (vp_nar FieldType.byte ((x >>> ((24 : Int32) &&& 31)).toInt8.toInt32))) 1 1 (nI (t + 1))) 2 (t + 1) (vp_nar FieldType.byte ((x >>> ((16 : Int32) &&& 31)).toInt8.toInt32))) 1 1 (nI (t + 1 + 1))) 2 (t + 1 + 1) (vp_nar FieldType.byte ((x >>> ((8 : Int32) &&& 31)).toInt8.toInt32))) 1 1 (nI (t + 1 + 1 + 1))) 2 ((xg 0 (xh_ui (xh_ui (xh_ui (xh_ui (xh_ui (xh_ui h 2 t (vp_nar FieldType.byte ((x >>> ((24 : Int32) &&& 31)).toInt8.toInt32))) 1 1 (nI (t + 1))) 2 (t + 1) (vp_nar FieldType.byte ((x >>> ((16 : Int32) &&& 31)).toInt8.toInt32))) 1 1 (nI (t + 1 + 1))) 2 (t + 1 + 1) (vp_nar FieldType.byte ((x >>> ((8 : Int32) &&& 31)).toInt8.toInt32))) 1 1 (nI (t + 1 + 1 + 1))).2.1 1 1).toNatClampNeg) (vp_nar FieldType.byte ((x >>> ((0 : Int32) &&& 31)).toInt8.toInt32))).2.1 1 1) = (nI (t + 1 + 1 + 1)) from (gx_o (by decide)).trans (gx_s)]
          rw [show (xg 0 (xh_ui (xh_ui (xh_ui (xh_ui (xh_ui (xh_ui h 2 t (vp_nar FieldType.byte ((x >>> ((24 : Int32) &&& 31)).toInt8.toInt32))) 1 1 (nI (t + 1))) 2 (t + 1) (vp_nar FieldType.byte ((x >>> ((16 : Int32) &&& 31)).toInt8.toInt32))) 1 1 (nI (t + 1 + 1))) 2 (t + 1 + 1) (vp_nar FieldType.byte ((x >>> ((8 : Int32) &&& 31)).toInt8.toInt32))) 1 1 (nI (t + 1 + 1 + 1))).2.1 1 1) = (nI (t + 1 + 1 + 1)) from gx_s]
          rw [show (0 + Int32.ofInt (-8)) = (-8) from rfl]
          rw [show ((nI (t + 1 + 1 + 1)).toNatClampNeg) = (t + 1 + 1 + 1) from nI_clamp (by omega)]
          rw [show ((nI (t + 1 + 1 + 1)) + (Int32.ofInt 1)) = nI (t + 1 + 1 + 1 + 1) from nI_1 _]
          have hq : a_rq a_tb (xh_ui (xh_ui (xh_ui (xh_ui (xh_ui (xh_ui (xh_ui (xh_ui h 2 t (vp_nar FieldType.byte ((x >>> ((24 : Int32) &&& 31)).toInt8.toInt32))) 1 1 (nI (t + 1))) 2 (t + 1) (vp_nar FieldType.byte ((x >>> ((16 : Int32) &&& 31)).toInt8.toInt32))) 1 1 (nI (t + 1 + 1))) 2 (t + 1 + 1) (vp_nar FieldType.byte ((x >>> ((8 : Int32) &&& 31)).toInt8.toInt32))) 1 1 (nI (t + 1 + 1 + 1))) 2 (t + 1 + 1 + 1) (vp_nar FieldType.byte ((x >>> ((0 : Int32) &&& 31)).toInt8.toInt32))) 1 1 (nI (t + 1 + 1 + 1 + 1))) := a_rq_ui (a_rq_ui hq)
          refine xq_n 46 [] [] [] (xh_ui (xh_ui (xh_ui (xh_ui (xh_ui (xh_ui (xh_ui (xh_ui h 2 t (vp_nar FieldType.byte ((x >>> ((24 : Int32) &&& 31)).toInt8.toInt32))) 1 1 (nI (t + 1))) 2 (t + 1) (vp_nar FieldType.byte ((x >>> ((16 : Int32) &&& 31)).toInt8.toInt32))) 1 1 (nI (t + 1 + 1))) 2 (t + 1 + 1) (vp_nar FieldType.byte ((x >>> ((8 : Int32) &&& 31)).toInt8.toInt32))) 1 1 (nI (t + 1 + 1 + 1))) 2 (t + 1 + 1 + 1) (vp_nar FieldType.byte ((x >>> ((0 : Int32) &&& 31)).toInt8.toInt32))) 1 1 (nI (t + 1 + 1 + 1 + 1))) [true] 4 hq rfl ⟨(by decide), trivial⟩ (fun hq => ?_)
          refine xq_ret rfl rfl rfl ⟨rfl, fx_ui (fx_ui (fx_ui (fx_ui (fx_ui (fx_ui (fx_ui (fx_ui (fx_0) rfl) rfl) rfl) rfl) rfl) rfl) rfl) rfl, gx_s, fun j hj => ?_, fun k hk' => ?_⟩
          · match j, hj with
            | 0, _ => exact (gx_o (by decide)).trans ((gx_k (by omega)).trans ((gx_o (by decide)).trans ((gx_k (by omega)).trans ((gx_o (by decide)).trans ((gx_k (by omega)).trans ((gx_o (by decide)).trans (gx_s)))))))
            | 1, _ => exact (gx_o (by decide)).trans ((gx_k (by omega)).trans ((gx_o (by decide)).trans ((gx_k (by omega)).trans ((gx_o (by decide)).trans (gx_s)))))
            | 2, _ => exact (gx_o (by decide)).trans ((gx_k (by omega)).trans ((gx_o (by decide)).trans (gx_s)))
            | 3, _ => exact (gx_o (by decide)).trans (gx_s)
          · exact (gx_o (by decide)).trans ((gx_k (by omega)).trans ((gx_o (by decide)).trans ((gx_k (by omega)).trans ((gx_o (by decide)).trans ((gx_k (by omega)).trans ((gx_o (by decide)).trans (gx_k (by omega))))))))
set_option maxRecDepth 100000 in
set_option maxHeartbeats 4000000 in
theorem com_q {f t : Nat} {x : Int32} {h : xh_H} (hq : a_rq a_tb h) (t4 : t + 4 ≤ 640) (e1 : xg 0 h.2.1 39 2 = nI t) : xq f xi_X10_come xmi_X10_come 0 [(0, .ref 39), (1, .int x)] [] h (fun v h' => v = none ∧ fx pR fN h h' ∧ xg 0 h'.2.1 39 2 = nI (t + 4) ∧ (∀ j, j < 4 → xg 0 h'.2.1 40 (t + j) = byR x j) ∧ ∀ k, (k < t ∨ t + 4 ≤ k) → xg 0 h'.2.1 40 k = xg 0 h.2.1 40 k) := by
  refine xq_n 3 [0, 1, 2] [(0, .ref 39), (1, .int x), (2, .int 24)] [] h [] 4 hq rfl trivial (fun hq => ?_)
  refine xq_n 3 [0, 1, 2] [(0, .ref 39), (1, .int x), (2, .int (24 + Int32.ofInt (-8)))] [] (xh_ui (xh_ui h 40 ((xg 0 h.2.1 39 2).toNatClampNeg) (((x.toUInt32 >>> ((Int32.toUInt32 24) &&& Int32.toUInt32 31)).toInt32) &&& 255)) 39 2 ((xg 0 (xh_ui h 40 ((xg 0 h.2.1 39 2).toNatClampNeg) (((x.toUInt32 >>> ((Int32.toUInt32 24) &&& Int32.toUInt32 31)).toInt32) &&& 255)).2.1 39 2) + (Int32.ofInt 1))) [false] 22 hq rfl ⟨(by decide), trivial⟩ (fun _ => ?_)
  rw [show (xg 0 (xh_ui h 40 ((xg 0 h.2.1 39 2).toNatClampNeg) (((x.toUInt32 >>> ((Int32.toUInt32 24) &&& Int32.toUInt32 31)).toInt32) &&& 255)).2.1 39 2) = (nI t) from (gx_o (by decide)).trans (e1)]
  rw [show (xg 0 h.2.1 39 2) = (nI t) from e1]
  rw [show (24 + Int32.ofInt (-8)) = 16 from rfl]
  rw [show ((nI t).toNatClampNeg) = t from nI_clamp (by omega)]
  rw [show ((nI t) + (Int32.ofInt 1)) = nI (t + 1) from nI_1 _]
  have hq : a_rq a_tb (xh_ui (xh_ui h 40 t (((x.toUInt32 >>> ((Int32.toUInt32 24) &&& Int32.toUInt32 31)).toInt32) &&& 255)) 39 2 (nI (t + 1))) := a_rq_ui (a_rq_ui hq)
  refine xq_n 3 [0, 1, 2] [(0, .ref 39), (1, .int x), (2, .int (16 + Int32.ofInt (-8)))] [] (xh_ui (xh_ui (xh_ui (xh_ui h 40 t (((x.toUInt32 >>> ((Int32.toUInt32 24) &&& Int32.toUInt32 31)).toInt32) &&& 255)) 39 2 (nI (t + 1))) 40 ((xg 0 (xh_ui (xh_ui h 40 t (((x.toUInt32 >>> ((Int32.toUInt32 24) &&& Int32.toUInt32 31)).toInt32) &&& 255)) 39 2 (nI (t + 1))).2.1 39 2).toNatClampNeg) (((x.toUInt32 >>> ((Int32.toUInt32 16) &&& Int32.toUInt32 31)).toInt32) &&& 255)) 39 2 ((xg 0 (xh_ui (xh_ui (xh_ui h 40 t (((x.toUInt32 >>> ((Int32.toUInt32 24) &&& Int32.toUInt32 31)).toInt32) &&& 255)) 39 2 (nI (t + 1))) 40 ((xg 0 (xh_ui (xh_ui h 40 t (((x.toUInt32 >>> ((Int32.toUInt32 24) &&& Int32.toUInt32 31)).toInt32) &&& 255)) 39 2 (nI (t + 1))).2.1 39 2).toNatClampNeg) (((x.toUInt32 >>> ((Int32.toUInt32 16) &&& Int32.toUInt32 31)).toInt32) &&& 255)).2.1 39 2) + (Int32.ofInt 1))) [false] 22 hq rfl ⟨(by decide), trivial⟩ (fun _ => ?_)
  rw [show (xg 0 (xh_ui (xh_ui (xh_ui h 40 t (((x.toUInt32 >>> ((Int32.toUInt32 24) &&& Int32.toUInt32 31)).toInt32) &&& 255)) 39 2 (nI (t + 1))) 40 ((xg 0 (xh_ui (xh_ui h 40 t (((x.toUInt32 >>> ((Int32.toUInt32 24) &&& Int32.toUInt32 31)).toInt32) &&& 255)) 39 2 (nI (t + 1))).2.1 39 2).toNatClampNeg) (((x.toUInt32 >>> ((Int32.toUInt32 16) &&& Int32.toUInt32 31)).toInt32) &&& 255)).2.1 39 2) = (nI (t + 1)) from (gx_o (by decide)).trans (gx_s)]
  rw [show (xg 0 (xh_ui (xh_ui h 40 t (((x.toUInt32 >>> ((Int32.toUInt32 24) &&& Int32.toUInt32 31)).toInt32) &&& 255)) 39 2 (nI (t + 1))).2.1 39 2) = (nI (t + 1)) from gx_s]
  rw [show (16 + Int32.ofInt (-8)) = 8 from rfl]
  rw [show ((nI (t + 1)).toNatClampNeg) = (t + 1) from nI_clamp (by omega)]
  rw [show ((nI (t + 1)) + (Int32.ofInt 1)) = nI (t + 1 + 1) from nI_1 _]
  have hq : a_rq a_tb (xh_ui (xh_ui (xh_ui (xh_ui h 40 t (((x.toUInt32 >>> ((Int32.toUInt32 24) &&& Int32.toUInt32 31)).toInt32) &&& 255)) 39 2 (nI (t + 1))) 40 (t + 1) (((x.toUInt32 >>> ((Int32.toUInt32 16) &&& Int32.toUInt32 31)).toInt32) &&& 255)) 39 2 (nI (t + 1 + 1))) := a_rq_ui (a_rq_ui hq)
  refine xq_n 3 [0, 1, 2] [(0, .ref 39), (1, .int x), (2, .int (8 + Int32.ofInt (-8)))] [] (xh_ui (xh_ui (xh_ui (xh_ui (xh_ui (xh_ui h 40 t (((x.toUInt32 >>> ((Int32.toUInt32 24) &&& Int32.toUInt32 31)).toInt32) &&& 255)) 39 2 (nI (t + 1))) 40 (t + 1) (((x.toUInt32 >>> ((Int32.toUInt32 16) &&& Int32.toUInt32 31)).toInt32) &&& 255)) 39 2 (nI (t + 1 + 1))) 40 ((xg 0 (xh_ui (xh_ui (xh_ui (xh_ui h 40 t (((x.toUInt32 >>> ((Int32.toUInt32 24) &&& Int32.toUInt32 31)).toInt32) &&& 255)) 39 2 (nI (t + 1))) 40 (t + 1) (((x.toUInt32 >>> ((Int32.toUInt32 16) &&& Int32.toUInt32 31)).toInt32) &&& 255)) 39 2 (nI (t + 1 + 1))).2.1 39 2).toNatClampNeg) (((x.toUInt32 >>> ((Int32.toUInt32 8) &&& Int32.toUInt32 31)).toInt32) &&& 255)) 39 2 ((xg 0 (xh_ui (xh_ui (xh_ui (xh_ui (xh_ui h 40 t (((x.toUInt32 >>> ((Int32.toUInt32 24) &&& Int32.toUInt32 31)).toInt32) &&& 255)) 39 2 (nI (t + 1))) 40 (t + 1) (((x.toUInt32 >>> ((Int32.toUInt32 16) &&& Int32.toUInt32 31)).toInt32) &&& 255)) 39 2 (nI (t + 1 + 1))) 40 ((xg 0 (xh_ui (xh_ui (xh_ui (xh_ui h 40 t (((x.toUInt32 >>> ((Int32.toUInt32 24) &&& Int32.toUInt32 31)).toInt32) &&& 255)) 39 2 (nI (t + 1))) 40 (t + 1) (((x.toUInt32 >>> ((Int32.toUInt32 16) &&& Int32.toUInt32 31)).toInt32) &&& 255)) 39 2 (nI (t + 1 + 1))).2.1 39 2).toNatClampNeg) (((x.toUInt32 >>> ((Int32.toUInt32 8) &&& Int32.toUInt32 31)).toInt32) &&& 255)).2.1 39 2) + (Int32.ofInt 1))) [false] 22 hq rfl ⟨(by decide), trivial⟩ (fun _ => ?_)
  rw [show (xg 0 (xh_ui (xh_ui (xh_ui (xh_ui (xh_ui h 40 t (((x.toUInt32 >>> ((Int32.toUInt32 24) &&& Int32.toUInt32 31)).toInt32) &&& 255)) 39 2 (nI (t + 1))) 40 (t + 1) (((x.toUInt32 >>> ((Int32.toUInt32 16) &&& Int32.toUInt32 31)).toInt32) &&& 255)) 39 2 (nI (t + 1 + 1))) 40 ((xg 0 (xh_ui (xh_ui (xh_ui (xh_ui h 40 t (((x.toUInt32 >>> ((Int32.toUInt32 24) &&& Int32.toUInt32 31)).toInt32) &&& 255)) 39 2 (nI (t + 1))) 40 (t + 1) (((x.toUInt32 >>> ((Int32.toUInt32 16) &&& Int32.toUInt32 31)).toInt32) &&& 255)) 39 2 (nI (t + 1 + 1))).2.1 39 2).toNatClampNeg) (((x.toUInt32 >>> ((Int32.toUInt32 8) &&& Int32.toUInt32 31)).toInt32) &&& 255)).2.1 39 2) = (nI (t + 1 + 1)) from (gx_o (by decide)).trans (gx_s)]
  rw [show (xg 0 (xh_ui (xh_ui (xh_ui (xh_ui h 40 t (((x.toUInt32 >>> ((Int32.toUInt32 24) &&& Int32.toUInt32 31)).toInt32) &&& 255)) 39 2 (nI (t + 1))) 40 (t + 1) (((x.toUInt32 >>> ((Int32.toUInt32 16) &&& Int32.toUInt32 31)).toInt32) &&& 255)) 39 2 (nI (t + 1 + 1))).2.1 39 2) = (nI (t + 1 + 1)) from gx_s]
  rw [show (8 + Int32.ofInt (-8)) = 0 from rfl]
  rw [show ((nI (t + 1 + 1)).toNatClampNeg) = (t + 1 + 1) from nI_clamp (by omega)]
  rw [show ((nI (t + 1 + 1)) + (Int32.ofInt 1)) = nI (t + 1 + 1 + 1) from nI_1 _]
  have hq : a_rq a_tb (xh_ui (xh_ui (xh_ui (xh_ui (xh_ui (xh_ui h 40 t (((x.toUInt32 >>> ((Int32.toUInt32 24) &&& Int32.toUInt32 31)).toInt32) &&& 255)) 39 2 (nI (t + 1))) 40 (t + 1) (((x.toUInt32 >>> ((Int32.toUInt32 16) &&& Int32.toUInt32 31)).toInt32) &&& 255)) 39 2 (nI (t + 1 + 1))) 40 (t + 1 + 1) (((x.toUInt32 >>> ((Int32.toUInt32 8) &&& Int32.toUInt32 31)).toInt32) &&& 255)) 39 2 (nI (t + 1 + 1 + 1))) := a_rq_ui (a_rq_ui hq)
  refine xq_n 3 [0, 1, 2] [(0, .ref 39), (1, .int x), (2, .int (0 + Int32.ofInt (-8)))] [] (xh_ui (xh_ui (xh_ui (xh_ui (xh_ui (xh_ui (xh_ui (xh_ui h 40 t (((x.toUInt32 >>> ((Int32.toUInt32 24) &&& Int32.toUInt32 31)).toInt32) &&& 255)) 39 2 (nI (t + 1))) 40 (t + 1) (((x.toUInt32 >>> ((Int32.toUInt32 16) &&& Int32.toUInt32 31)).toInt32) &&& 255)) 39 2 (nI (t + 1 + 1))) 40 (t + 1 + 1) (((x.toUInt32 >>> ((Int32.toUInt32 8) &&& Int32.toUInt32 31)).toInt32) &&& 255)) 39 2 (nI (t + 1 + 1 + 1))) 40 ((xg 0 (xh_ui (xh_ui (xh_ui (xh_ui (xh_ui (xh_ui h 40 t (((x.toUInt32 >>> ((Int32.toUInt32 24) &&& Int32.toUInt32 31)).toInt32) &&& 255)) 39 2 (nI (t + 1))) 40 (t + 1) (((x.toUInt32 >>> ((Int32.toUInt32 16) &&& Int32.toUInt32 31)).toInt32) &&& 255)) 39 2 (nI (t + 1 + 1))) 40 (t + 1 + 1) (((x.toUInt32 >>> ((Int32.toUInt32 8) &&& Int32.toUInt32 31)).toInt32) &&& 255)) 39 2 (nI (t + 1 + 1 + 1))).2.1 39 2).toNatClampNeg) (((x.toUInt32 >>> ((Int32.toUInt32 0) &&& Int32.toUInt32 31)).toInt32) &&& 255)) 39 2 ((xg 0 (xh_ui (xh_ui (xh_ui (xh_ui (xh_ui (xh_ui (xh_ui h 40 t (((x.toUInt32 >>> ((Int32.toUInt32 24) &&& Int32.toUInt32 31)).toInt32) &&& 255)) 39 2 (nI (t + 1))) 40 (t + 1) (((x.toUInt32 >>> ((Int32.toUInt32 16) &&& Int32.toUInt32 31)).toInt32) &&& 255)) 39 2 (nI (t + 1 + 1))) 40 (t + 1 + 1) (((x.toUInt32 >>> ((Int32.toUInt32 8) &&& Int32.toUInt32 31)).toInt32) &&& 255)) 39 2 (nI (t + 1 + 1 + 1))) 40 ((xg 0 (xh_ui (xh_ui (xh_ui (xh_ui (xh_ui (xh_ui h 40 t (((x.toUInt32 >>> ((Int32.toUInt32 24) &&& Int32.toUInt32 31)).toInt32) &&& 255)) 39 2 (nI (t + 1))) 40 (t + 1) (((x.toUInt32 >>> ((Int32.toUInt32 16) &&& Int32.toUInt32 31)).toInt32) &&& 255)) 39 2 (nI (t + 1 + 1))) 40 (t + 1 + 1) (((x.toUInt32 >>> ((Int32.toUInt32 8) &&& Int32.toUInt32 31)).toInt32) &&& 255)) 39 2 (nI (t + 1 + 1 + 1))).2.1 39 2).toNatClampNeg) (((x.toUInt32 >>> ((Int32.toUInt32 0) &&& Int32.toUInt32 31)).toInt32) &&& 255)).2.1 39 2) + (Int32.ofInt 1))) [false] 22 hq rfl ⟨(by decide), trivial⟩ (fun _ => ?_)
  rw [show (xg 0 (xh_ui (xh_ui (xh_ui (xh_ui (xh_ui (xh_ui (xh_ui h 40 t (((x.toUInt32 >>> ((Int32.toUInt32 24) &&& Int32.toUInt32 31)).toInt32) &&& 255)) 39 2 (nI (t + 1))) 40 (t + 1) (((x.toUInt32 >>> ((Int32.toUInt32 16) &&& Int32.toUInt32 31)).toInt32) &&& 255)) 39 2 (nI (t + 1 + 1))) 40 (t + 1 + 1) (((x.toUInt32 >>> ((Int32.toUInt32 8) &&& Int32.toUInt32 31)).toInt32) &&& 255)) 39 2 (nI (t + 1 + 1 + 1))) 40 ((xg 0 (xh_ui (xh_ui (xh_ui (xh_ui (xh_ui (xh_ui h 40 t (((x.toUInt32 >>> ((Int32.toUInt32 24) &&& Int32.toUInt32 31)).toInt32) &&& 255)) 39 2 (nI (t + 1))) 40 (t + 1) (((x.toUInt32 >>> ((Int32.toUInt32 16) &&& Int32.toUInt32 31)).toInt32) &&& 255)) 39 2 (nI (t + 1 + 1))) 40 (t + 1 + 1) (((x.toUInt32 >>> ((Int32.toUInt32 8) &&& Int32.toUInt32 31)).toInt32) &&& 255)) 39 2 (nI (t + 1 + 1 + 1))).2.1 39 2).toNatClampNeg) (((x.toUInt32 >>> ((Int32.toUInt32 0) &&& Int32.toUInt32 31)).toInt32) &&& 255)).2.1 39 2) = (nI (t + 1 + 1 + 1)) from (gx_o (by decide)).trans (gx_s)]
  rw [show (xg 0 (xh_ui (xh_ui (xh_ui (xh_ui (xh_ui (xh_ui h 40 t (((x.toUInt32 >>> ((Int32.toUInt32 24) &&& Int32.toUInt32 31)).toInt32) &&& 255)) 39 2 (nI (t + 1))) 40 (t + 1) (((x.toUInt32 >>> ((Int32.toUInt32 16) &&& Int32.toUInt32 31)).toInt32) &&& 255)) 39 2 (nI (t + 1 + 1))) 40 (t + 1 + 1) (((x.toUInt32 >>> ((Int32.toUInt32 8) &&& Int32.toUInt32 31)).toInt32) &&& 255)) 39 2 (nI (t + 1 + 1 + 1))).2.1 39 2) = (nI (t + 1 + 1 + 1)) from gx_s]
  rw [show (0 + Int32.ofInt (-8)) = (-8) from rfl]
  rw [show ((nI (t + 1 + 1 + 1)).toNatClampNeg) = (t + 1 + 1 + 1) from nI_clamp (by omega)]
  rw [show ((nI (t + 1 + 1 + 1)) + (Int32.ofInt 1)) = nI (t + 1 + 1 + 1 + 1) from nI_1 _]
  have hq : a_rq a_tb (xh_ui (xh_ui (xh_ui (xh_ui (xh_ui (xh_ui (xh_ui (xh_ui h 40 t (((x.toUInt32 >>> ((Int32.toUInt32 24) &&& Int32.toUInt32 31)).toInt32) &&& 255)) 39 2 (nI (t + 1))) 40 (t + 1) (((x.toUInt32 >>> ((Int32.toUInt32 16) &&& Int32.toUInt32 31)).toInt32) &&& 255)) 39 2 (nI (t + 1 + 1))) 40 (t + 1 + 1) (((x.toUInt32 >>> ((Int32.toUInt32 8) &&& Int32.toUInt32 31)).toInt32) &&& 255)) 39 2 (nI (t + 1 + 1 + 1))) 40 (t + 1 + 1 + 1) (((x.toUInt32 >>> ((Int32.toUInt32 0) &&& Int32.toUInt32 31)).toInt32) &&& 255)) 39 2 (nI (t + 1 + 1 + 1 + 1))) := a_rq_ui (a_rq_ui hq)
  refine xq_n 39 [] [] [] (xh_ui (xh_ui (xh_ui (xh_ui (xh_ui (xh_ui (xh_ui (xh_ui h 40 t (((x.toUInt32 >>> ((Int32.toUInt32 24) &&& Int32.toUInt32 31)).toInt32) &&& 255)) 39 2 (nI (t + 1))) 40 (t + 1) (((x.toUInt32 >>> ((Int32.toUInt32 16) &&& Int32.toUInt32 31)).toInt32) &&& 255)) 39 2 (nI (t + 1 + 1))) 40 (t + 1 + 1) (((x.toUInt32 >>> ((Int32.toUInt32 8) &&& Int32.toUInt32 31)).toInt32) &&& 255)) 39 2 (nI (t + 1 + 1 + 1))) 40 (t + 1 + 1 + 1) (((x.toUInt32 >>> ((Int32.toUInt32 0) &&& Int32.toUInt32 31)).toInt32) &&& 255)) 39 2 (nI (t + 1 + 1 + 1 + 1))) [true] 4 hq rfl ⟨(by decide), trivial⟩ (fun hq => ?_)
  refine xq_ret rfl rfl rfl ⟨rfl, fx_ui (fx_ui (fx_ui (fx_ui (fx_ui (fx_ui (fx_ui (fx_ui (fx_0) rfl) rfl) rfl) rfl) rfl) rfl) rfl) rfl, gx_s, fun j hj => ?_, fun k hk' => ?_⟩
  · match j, hj with
    | 0, _ => exact (gx_o (by decide)).trans ((gx_k (by omega)).trans ((gx_o (by decide)).trans ((gx_k (by omega)).trans ((gx_o (by decide)).trans ((gx_k (by omega)).trans ((gx_o (by decide)).trans (gx_s)))))))
    | 1, _ => exact (gx_o (by decide)).trans ((gx_k (by omega)).trans ((gx_o (by decide)).trans ((gx_k (by omega)).trans ((gx_o (by decide)).trans (gx_s)))))
    | 2, _ => exact (gx_o (by decide)).trans ((gx_k (by omega)).trans ((gx_o (by decide)).trans (gx_s)))
    | 3, _ => exact (gx_o (by decide)).trans (gx_s)
  · exact (gx_o (by decide)).trans ((gx_k (by omega)).trans ((gx_o (by decide)).trans ((gx_k (by omega)).trans ((gx_o (by decide)).trans ((gx_k (by omega)).trans ((gx_o (by decide)).trans (gx_k (by omega))))))))
set_option maxRecDepth 100000 in
set_option maxHeartbeats 4000000 in
theorem room_q {f t : Nat} {h : xh_H} (hq : a_rq a_tb h) (t6 : t ≤ 640) (e1 : xg 0 h.2.1 1 1 = nI t) : xq f xi_X8_hasRoom xmi_X8_hasRoom 0 [(0, .ref 1)] [] h (fun v h' => h = h' ∧ v = some (.int (bl (decide (t + 20 ≤ 640))))) := by
  cases c1 : xe_c .gt (nI (t + 20)) 640 with
  | true =>
    have z1 : (t + 20) > 640 := nq_gtt (a := (t + 20)) (b := 640) (by omega) (by omega) c1
    refine xq_n 18 [] [] [.int (Int32.ofInt 0)] h [true] 9 hq rfl ⟨(show xe_c .gt ((xg 0 h.2.1 1 1) + 20) 640 = true by rw [show (xg 0 h.2.1 1 1) = (nI t) from e1, show ((nI t) + 20) = nI (t + 20) from nI_add t 20]; exact c1), trivial⟩ (fun hq => ?_)
    exact xq_ret rfl rfl rfl ⟨rfl, by rw [show decide (t + 20 ≤ 640) = false from decide_eq_false (by omega)]; rfl⟩
  | false =>
    have z1 : (t + 20) ≤ 640 := nq_gtf (a := (t + 20)) (b := 640) (by omega) (by omega) c1
    refine xq_n 18 [] [] [.int (Int32.ofInt 1)] h [false] 10 hq rfl ⟨(show xe_c .gt ((xg 0 h.2.1 1 1) + 20) 640 = false by rw [show (xg 0 h.2.1 1 1) = (nI t) from e1, show ((nI t) + 20) = nI (t + 20) from nI_add t 20]; exact c1), trivial⟩ (fun hq => ?_)
    exact xq_ret rfl rfl rfl ⟨rfl, by rw [show decide (t + 20 ≤ 640) = true from decide_eq_true (by omega)]; rfl⟩
/-- twenty bytes more -/
def fd_B (by_ : Int32 → Nat → Int32) (c t : Nat) (x1 x2 x3 x4 x5 : Int32) (h h' : xh_H) : Prop := (∀ j, j < 4 → xg 0 h'.2.1 c (t + j) = by_ x1 j) ∧ (∀ j, j < 4 → xg 0 h'.2.1 c (t + 4 + j) = by_ x2 j) ∧ (∀ j, j < 4 → xg 0 h'.2.1 c (t + 4 + 4 + j) = by_ x3 j) ∧ (∀ j, j < 4 → xg 0 h'.2.1 c (t + 4 + 4 + 4 + j) = by_ x4 j) ∧ (∀ j, j < 4 → xg 0 h'.2.1 c (t + 4 + 4 + 4 + 4 + j) = by_ x5 j) ∧ ∀ k, (k < t ∨ t + 20 ≤ k) → xg 0 h'.2.1 c k = xg 0 h.2.1 c k
set_option maxRecDepth 100000 in
set_option maxHeartbeats 4000000 in
theorem fd9_q {f t : Nat} {x1 x2 x3 x4 x5 : Int32} {h : xh_H} (hq : a_rq a_tb h) (t6 : t ≤ 640) (e1 : xg 0 h.2.1 1 1 = nI t) : xq f xi_X9_feed xmi_X9_feed 0 [(0, .ref 0), (1, .int x1), (2, .int x2), (3, .int x3), (4, .int x4), (5, .int x5)] [] h (fun v h' => (t + 20 ≤ 640 → v = some (.int (nI (t + 4 + 4 + 4 + 4 + 4))) ∧ fx pC fN h h' ∧ xg 0 h'.2.1 1 1 = nI (t + 4 + 4 + 4 + 4 + 4) ∧ fd_B byC 2 t x1 x2 x3 x4 x5 h h') ∧ (¬ t + 20 ≤ 640 → v = some (.int (-1)) ∧ h' = h)) := by
  refine xq_n 4 [0, 1, 2, 3, 4, 5] [(0, .ref 0), (1, .int x1), (2, .int x2), (3, .int x3), (4, .int x4), (5, .int x5)] [.ref 1] h [] 4 hq rfl trivial (fun hq => ?_)
  refine xq_run hq rfl rfl (room_q (t := t) hq t6 e1) ?_
  rintro _ h_ ⟨rfl, rfl⟩
  cases b1 : (decide (t + 20 ≤ 640)) with
  | true =>
    have db1 := of_decide_eq_true b1
    refine xq_n 17 [0, 1, 2, 3, 4, 5] [(0, .ref 0), (1, .int x1), (2, .int x2), (3, .int x3), (4, .int x4), (5, .int x5)] [.int x1, .ref 1] h [true] 6 hq rfl ⟨rfl, trivial⟩ (fun hq => ?_)
    refine xq_run hq rfl rfl (put_q (t := t) hq (by omega) (e1)) ?_
    rintro _ h1 ⟨rfl, g1, d1, a1, o1⟩
    have hq := fx_q g1 hq
    refine xq_n 25 [0, 1, 2, 3, 4, 5] [(0, .ref 0), (1, .int x1), (2, .int x2), (3, .int x3), (4, .int x4), (5, .int x5)] [.int x2, .ref 1] h1 [] 5 hq rfl trivial (fun hq => ?_)
    refine xq_run hq rfl rfl (put_q (t := t + 4) hq (by omega) (d1)) ?_
    rintro _ h2 ⟨rfl, g2, d2, a2, o2⟩
    have hq := fx_q g2 hq
    refine xq_n 33 [0, 1, 2, 3, 4, 5] [(0, .ref 0), (1, .int x1), (2, .int x2), (3, .int x3), (4, .int x4), (5, .int x5)] [.int x3, .ref 1] h2 [] 5 hq rfl trivial (fun hq => ?_)
    refine xq_run hq rfl rfl (put_q (t := t + 4 + 4) hq (by omega) (d2)) ?_
    rintro _ h3 ⟨rfl, g3, d3, a3, o3⟩
    have hq := fx_q g3 hq
    refine xq_n 42 [0, 1, 2, 3, 4, 5] [(0, .ref 0), (1, .int x1), (2, .int x2), (3, .int x3), (4, .int x4), (5, .int x5)] [.int x4, .ref 1] h3 [] 5 hq rfl trivial (fun hq => ?_)
    refine xq_run hq rfl rfl (put_q (t := t + 4 + 4 + 4) hq (by omega) (d3)) ?_
    rintro _ h4 ⟨rfl, g4, d4, a4, o4⟩
    have hq := fx_q g4 hq
    refine xq_n 51 [0, 1, 2, 3, 4, 5] [(0, .ref 0), (1, .int x1), (2, .int x2), (3, .int x3), (4, .int x4), (5, .int x5)] [.int x5, .ref 1] h4 [] 5 hq rfl trivial (fun hq => ?_)
    refine xq_run hq rfl rfl (put_q (t := t + 4 + 4 + 4 + 4) hq (by omega) (d4)) ?_
    rintro _ h5 ⟨rfl, g5, d5, a5, o5⟩
    have hq := fx_q g5 hq
    refine xq_n 61 [] [] [.int (xg 0 h5.2.1 1 1)] h5 [] 5 hq rfl trivial (fun hq => ?_)
    rw [show (xg 0 h5.2.1 1 1) = (nI (t + 4 + 4 + 4 + 4 + 4)) from d5]
    have ex : ∀ k, xg 0 h.2.1 2 k = xg 0 h.2.1 2 k := fun k => rfl
    refine xq_ret rfl rfl rfl ⟨fun _ => ⟨rfl, fx_t (fx_t (fx_t (fx_t (fx_t (fx_0) (g1)) (g2)) (g3)) (g4)) (g5), d5, fun j hj => ?_, fun j hj => ?_, fun j hj => ?_, fun j hj => ?_, fun j hj => ?_, fun k hk' => ?_⟩, fun z => absurd z (by omega)⟩
    · exact (o5 _ (Or.inl (by omega))).trans ((o4 _ (Or.inl (by omega))).trans ((o3 _ (Or.inl (by omega))).trans ((o2 _ (Or.inl (by omega))).trans (a1 j hj))))
    · exact (o5 _ (Or.inl (by omega))).trans ((o4 _ (Or.inl (by omega))).trans ((o3 _ (Or.inl (by omega))).trans (a2 j hj)))
    · exact (o5 _ (Or.inl (by omega))).trans ((o4 _ (Or.inl (by omega))).trans (a3 j hj))
    · exact (o5 _ (Or.inl (by omega))).trans (a4 j hj)
    · exact a5 j hj
    · exact (o5 _ (by omega)).trans ((o4 _ (by omega)).trans ((o3 _ (by omega)).trans ((o2 _ (by omega)).trans ((o1 _ (by omega)).trans (ex k)))))
  | false =>
    have db1 := of_decide_eq_false b1
    refine xq_n 11 [] [] [.int (Int32.ofInt (-1))] h [false] 4 hq rfl ⟨rfl, trivial⟩ (fun hq => ?_)
    exact xq_ret rfl rfl rfl ⟨fun z => absurd z (by omega), fun _ => ⟨rfl, rfl⟩⟩
set_option maxRecDepth 100000 in
set_option maxHeartbeats 4000000 in
theorem fd10_q {f t : Nat} {x1 x2 x3 x4 x5 : Int32} {h : xh_H} (hq : a_rq a_tb h) (t6 : t ≤ 640) (e1 : xg 0 h.2.1 39 2 = nI t) : xq f xi_X10_feed xmi_X10_feed 0 [(0, .ref 39), (1, .int x1), (2, .int x2), (3, .int x3), (4, .int x4), (5, .int x5)] [] h (fun v h' => (t + 20 ≤ 640 → v = some (.int (nI (t + 4 + 4 + 4 + 4 + 4))) ∧ fx pR fN h h' ∧ xg 0 h'.2.1 39 2 = nI (t + 4 + 4 + 4 + 4 + 4) ∧ fd_B byR 40 t x1 x2 x3 x4 x5 h h') ∧ (¬ t + 20 ≤ 640 → v = some (.int (-1)) ∧ fx pR fN h h' ∧ xg 0 h'.2.1 39 2 = xg 0 h.2.1 39 2 ∧ ∀ k, xg 0 h'.2.1 40 k = xg 0 h.2.1 40 k)) := by
  cases c1 : xe_c .le (nI (t + 20)) 640 with
  | true =>
    have z1 : (t + 20) ≤ 640 := nq_let (a := (t + 20)) (b := 640) (by omega) (by omega) c1
    refine xq_n 22 [0, 1, 2, 3, 4, 5] [(0, .ref 39), (1, .int x1), (2, .int x2), (3, .int x3), (4, .int x4), (5, .int x5)] [.int x1, .ref 39] (xh_ui h 39 0 (Int32.ofInt 0)) [true] 13 hq rfl ⟨(show xe_c .le ((xg 0 (xh_ui h 39 0 (Int32.ofInt 0)).2.1 39 2) + 20) 640 = true by rw [show (xg 0 (xh_ui h 39 0 (Int32.ofInt 0)).2.1 39 2) = (nI t) from (gx_k (by decide)).trans (e1), show ((nI t) + 20) = nI (t + 20) from nI_add t 20]; exact c1), trivial⟩ (fun _ => ?_)
    have hq : a_rq a_tb (xh_ui h 39 0 (Int32.ofInt 0)) := a_rq_ui hq
    refine xq_run hq rfl rfl (com_q (t := t) hq (by omega) ((gx_k (by decide)).trans (e1))) ?_
    rintro _ h1 ⟨rfl, g1, d1, a1, o1⟩
    have hq := fx_q g1 hq
    refine xq_n 27 [0, 1, 2, 3, 4, 5] [(0, .ref 39), (1, .int x1), (2, .int x2), (3, .int x3), (4, .int x4), (5, .int x5)] [.int x2, .ref 39] h1 [] 4 hq rfl trivial (fun hq => ?_)
    refine xq_run hq rfl rfl (com_q (t := t + 4) hq (by omega) (d1)) ?_
    rintro _ h2 ⟨rfl, g2, d2, a2, o2⟩
    have hq := fx_q g2 hq
    refine xq_n 32 [0, 1, 2, 3, 4, 5] [(0, .ref 39), (1, .int x1), (2, .int x2), (3, .int x3), (4, .int x4), (5, .int x5)] [.int x3, .ref 39] h2 [] 4 hq rfl trivial (fun hq => ?_)
    refine xq_run hq rfl rfl (com_q (t := t + 4 + 4) hq (by omega) (d2)) ?_
    rintro _ h3 ⟨rfl, g3, d3, a3, o3⟩
    have hq := fx_q g3 hq
    refine xq_n 38 [0, 1, 2, 3, 4, 5] [(0, .ref 39), (1, .int x1), (2, .int x2), (3, .int x3), (4, .int x4), (5, .int x5)] [.int x4, .ref 39] h3 [] 4 hq rfl trivial (fun hq => ?_)
    refine xq_run hq rfl rfl (com_q (t := t + 4 + 4 + 4) hq (by omega) (d3)) ?_
    rintro _ h4 ⟨rfl, g4, d4, a4, o4⟩
    have hq := fx_q g4 hq
    refine xq_n 44 [0, 1, 2, 3, 4, 5] [(0, .ref 39), (1, .int x1), (2, .int x2), (3, .int x3), (4, .int x4), (5, .int x5)] [.int x5, .ref 39] h4 [] 4 hq rfl trivial (fun hq => ?_)
    refine xq_run hq rfl rfl (com_q (t := t + 4 + 4 + 4 + 4) hq (by omega) (d4)) ?_
    rintro _ h5 ⟨rfl, g5, d5, a5, o5⟩
    have hq := fx_q g5 hq
    refine xq_n 51 [] [] [.int (xg 0 h5.2.1 39 2)] h5 [] 4 hq rfl trivial (fun hq => ?_)
    rw [show (xg 0 h5.2.1 39 2) = (nI (t + 4 + 4 + 4 + 4 + 4)) from d5]
    have ex : ∀ k, xg 0 (xh_ui h 39 0 (Int32.ofInt 0)).2.1 40 k = xg 0 h.2.1 40 k := fun k => gx_o (by decide)
    refine xq_ret rfl rfl rfl ⟨fun _ => ⟨rfl, fx_t (fx_t (fx_t (fx_t (fx_t (fx_ui (fx_0) rfl) (g1)) (g2)) (g3)) (g4)) (g5), d5, fun j hj => ?_, fun j hj => ?_, fun j hj => ?_, fun j hj => ?_, fun j hj => ?_, fun k hk' => ?_⟩, fun z => absurd z (by omega)⟩
    · exact (o5 _ (Or.inl (by omega))).trans ((o4 _ (Or.inl (by omega))).trans ((o3 _ (Or.inl (by omega))).trans ((o2 _ (Or.inl (by omega))).trans (a1 j hj))))
    · exact (o5 _ (Or.inl (by omega))).trans ((o4 _ (Or.inl (by omega))).trans ((o3 _ (Or.inl (by omega))).trans (a2 j hj)))
    · exact (o5 _ (Or.inl (by omega))).trans ((o4 _ (Or.inl (by omega))).trans (a3 j hj))
    · exact (o5 _ (Or.inl (by omega))).trans (a4 j hj)
    · exact a5 j hj
    · exact (o5 _ (by omega)).trans ((o4 _ (by omega)).trans ((o3 _ (by omega)).trans ((o2 _ (by omega)).trans ((o1 _ (by omega)).trans (ex k)))))
  | false =>
    have z1 : (t + 20) > 640 := nq_lef (a := (t + 20)) (b := 640) (by omega) (by omega) c1
    refine xq_n 19 [] [] [.int (Int32.ofInt (-1))] (xh_ui h 39 0 (Int32.ofInt 0)) [false] 12 hq rfl ⟨(show xe_c .le ((xg 0 (xh_ui h 39 0 (Int32.ofInt 0)).2.1 39 2) + 20) 640 = false by rw [show (xg 0 (xh_ui h 39 0 (Int32.ofInt 0)).2.1 39 2) = (nI t) from (gx_k (by decide)).trans (e1), show ((nI t) + 20) = nI (t + 20) from nI_add t 20]; exact c1), trivial⟩ (fun _ => ?_)
    have hq : a_rq a_tb (xh_ui h 39 0 (Int32.ofInt 0)) := a_rq_ui hq
    exact xq_ret rfl rfl rfl ⟨fun z => absurd z (by omega), fun _ => ⟨rfl, fx_ui fx_0 rfl, gx_k (by decide), fun k => gx_o (by decide)⟩⟩
theorem i8_255 (y : Int32) : y.toInt8.toInt32 &&& 255 = y &&& 255 := by
  apply Int32.toBitVec_inj.mp
  rw [Int32.toBitVec_and, Int32.toBitVec_and, Int8.toBitVec_toInt32, Int32.toBitVec_toInt8]
  apply BitVec.eq_of_getLsbD_eq
  intro i hi
  rw [BitVec.getLsbD_and, BitVec.getLsbD_and, BitVec.getLsbD_signExtend]
  by_cases h : i < 8
  · rw [if_pos h, BitVec.getLsbD_signExtend, if_pos (by omega)]
    simp [h, hi]
  · have : (255 : Int32).toBitVec.getLsbD i = false := by
      have h2 : 255 < 2 ^ i := Nat.lt_of_lt_of_le (by decide : 255 < 2 ^ 8) (Nat.pow_le_pow_right (by decide) (by omega))
      show Nat.testBit 255 i = false
      exact Nat.testBit_lt_two_pow h2
    rw [this, Bool.and_false, Bool.and_false]
theorem sh_255 (x s : Int32) (k : Nat) (e1 : (s.toBitVec.smod 32).toNat = k) (e2 : (s.toUInt32.toBitVec % 32).toNat = k) (hk : k ≤ 24) : (x >>> s) &&& 255 = (x.toUInt32 >>> s.toUInt32).toInt32 &&& 255 := by
  apply Int32.toBitVec_inj.mp
  rw [Int32.toBitVec_and, Int32.toBitVec_and, Int32.toBitVec_shiftRight]
  show _ = (x.toUInt32 >>> s.toUInt32).toBitVec &&& _
  rw [UInt32.toBitVec_shiftRight]
  show _ = (x.toBitVec >>> _) &&& _
  apply BitVec.eq_of_getLsbD_eq
  intro i hi
  rw [BitVec.getLsbD_and, BitVec.getLsbD_and]
  by_cases h : i < 8
  · rw [BitVec.sshiftRight', BitVec.getLsbD_sshiftRight, e1]
    show _ = ((x.toBitVec >>> (s.toUInt32.toBitVec % 32).toNat).getLsbD i && _)
    rw [e2, BitVec.getLsbD_ushiftRight]
    simp [show ¬ 32 ≤ i by omega, show k + i < 32 by omega]
  · have : (255 : Int32).toBitVec.getLsbD i = false := by
      have h2 : 255 < 2 ^ i := Nat.lt_of_lt_of_le (by decide : 255 < 2 ^ 8) (Nat.pow_le_pow_right (by decide) (by omega))
      show Nat.testBit 255 i = false
      exact Nat.testBit_lt_two_pow h2
    rw [this, Bool.and_false, Bool.and_false]
theorem byCR (x : Int32) (j : Nat) : byC x j &&& 255 = byR x j := by
  unfold byC byR
  split
  · rw [vp_nar_byte, i8_255, i8_255]; exact sh_255 x (24 &&& 31) 24 (by decide) (by decide) (by decide)
  · rw [vp_nar_byte, i8_255, i8_255]; exact sh_255 x (16 &&& 31) 16 (by decide) (by decide) (by decide)
  · rw [vp_nar_byte, i8_255, i8_255]; exact sh_255 x (8 &&& 31) 8 (by decide) (by decide) (by decide)
  · rw [vp_nar_byte, i8_255, i8_255]; exact sh_255 x (0 &&& 31) 0 (by decide) (by decide) (by decide)
/-- the two tapes are alike -/
def tpe (h : xh_H) (t : Nat) : Prop := xg 0 h.2.1 1 1 = nI t ∧ xg 0 h.2.1 39 2 = nI t ∧ t ≤ 640 ∧ ∀ k, k < t → xg 0 h.2.1 2 k &&& 255 = xg 0 h.2.1 40 k
theorem tpe_f {S L : Nat → Nat → Bool} {h h' : xh_H} {t : Nat} (hc : tpe h t) (g : fx S L h h') (e1 : S 1 1 = false) (e2 : ∀ k, S 2 k = false) (e3 : S 39 2 = false) (e4 : ∀ k, S 40 k = false) : tpe h' t := ⟨(fx_i g e1).trans hc.1, (fx_i g e3).trans hc.2.1, hc.2.2.1, fun k hk' => by rw [fx_i g (e2 k), fx_i g (e4 k)]; exact hc.2.2.2 k hk'⟩
theorem and255 (y : Int32) : ∃ m, m < 256 ∧ y &&& 255 = nI m := by
  have e : (y &&& 255).toBitVec = y.toBitVec &&& 255#32 := Int32.toBitVec_and y 255
  have l : (y &&& 255).toBitVec.toNat < 256 := by
    rw [e, BitVec.toNat_and]
    exact Nat.lt_of_le_of_lt Nat.and_le_right (by decide)
  refine ⟨(y &&& 255).toBitVec.toNat, l, ?_⟩
  apply Int32.toBitVec_inj.mp
  apply BitVec.eq_of_toNat_eq
  show _ = (BitVec.ofNat 32 _).toNat
  rw [BitVec.toNat_ofNat, Nat.mod_eq_of_lt (by omega)]
def tpT (h : xh_H) (k : Nat) : Nat := (xg 0 h.2.1 2 k &&& 255).toNatClampNeg
theorem tpe_T {h : xh_H} {t : Nat} (ht : tpe h t) : (∀ k, tpT h k < 256 ∧ xg 0 h.2.1 2 k &&& 255 = nI (tpT h k)) ∧ ∀ k, k < t → tpT h k < 256 ∧ xg 0 h.2.1 40 k = nI (tpT h k) := by
  have a : ∀ k, tpT h k < 256 ∧ xg 0 h.2.1 2 k &&& 255 = nI (tpT h k) := fun k => by
    obtain ⟨m, m2, e⟩ := and255 (xg 0 h.2.1 2 k)
    have : tpT h k = m := by unfold tpT; rw [e]; exact nI_clamp (by omega)
    rw [this]; exact ⟨m2, e⟩
  exact ⟨a, fun k hk' => ⟨(a k).1, (ht.2.2.2 k hk').symm.trans (a k).2⟩⟩
theorem fd_4 {t : Nat} {P : Nat → Prop} (a0 : ∀ k, k < t → P k) (a : ∀ j, j < 4 → P (t + j)) : ∀ k, k < t + 4 → P k := fun k hk' => by
  by_cases z : k < t
  · exact a0 k z
  · have := a (k - t) (by omega)
    rwa [show t + (k - t) = k by omega] at this
theorem fd_al {t : Nat} {x1 x2 x3 x4 x5 : Int32} {h h1 h2 : xh_H} (ht : tpe h t) (l : t + 20 ≤ 640) (g1 : fx pC fN h h1) (n1 : xg 0 h1.2.1 1 1 = nI (t + 4 + 4 + 4 + 4 + 4)) (b1 : fd_B byC 2 t x1 x2 x3 x4 x5 h h1) (g2 : fx pR fN h1 h2) (n2 : xg 0 h2.2.1 39 2 = nI (t + 4 + 4 + 4 + 4 + 4)) (b2 : fd_B byR 40 t x1 x2 x3 x4 x5 h1 h2) : tpe h2 (t + 4 + 4 + 4 + 4 + 4) := by
  refine ⟨(fx_i g2 rfl).trans n1, n2, by omega, fd_4 (fd_4 (fd_4 (fd_4 (fd_4 (fun k hk' => ?_) ?_) ?_) ?_) ?_) ?_⟩
  · rw [fx_i (k := k) (c := 2) g2 rfl, b1.2.2.2.2.2 k (Or.inl hk'), b2.2.2.2.2.2 k (Or.inl hk'), fx_i (k := k) (c := 40) g1 rfl]
    exact ht.2.2.2 k hk'
  · intro j hj
    rw [fx_i (c := 2) g2 rfl, b1.1 j hj, b2.1 j hj]; exact byCR _ _
  · intro j hj
    rw [fx_i (c := 2) g2 rfl, b1.2.1 j hj, b2.2.1 j hj]; exact byCR _ _
  · intro j hj
    rw [fx_i (c := 2) g2 rfl, b1.2.2.1 j hj, b2.2.2.1 j hj]; exact byCR _ _
  · intro j hj
    rw [fx_i (c := 2) g2 rfl, b1.2.2.2.1 j hj, b2.2.2.2.1 j hj]; exact byCR _ _
  · intro j hj
    rw [fx_i (c := 2) g2 rfl, b1.2.2.2.2.1 j hj, b2.2.2.2.2.1 j hj]; exact byCR _ _
end XFD
end
section
section XRI
/-- a row of options: each below seven, none twice -/
def ro (T : Nat → Nat) : Nat → Nat → Int32 → Bool
  | 0, _, _ => true
  | j + 1, i, s => decide (T i < 7) && (xe_c .eq ((s >>> (nI (T i) &&& 31)) &&& Int32.ofInt 1) 0 && ro T j (i + 1) (s ||| (Int32.ofInt 1 <<< (nI (T i) &&& 31))))
theorem and1_c (y : Int32) : xe_c .ne (y &&& Int32.ofInt 1) (Int32.ofInt 1) = xe_c .eq (y &&& Int32.ofInt 1) 0 := by
  have e : (y &&& Int32.ofInt 1).toBitVec = y.toBitVec &&& 1#32 := Int32.toBitVec_and y (Int32.ofInt 1)
  have l : (y &&& Int32.ofInt 1).toBitVec.toNat ≤ 1 := by
    rw [e, BitVec.toNat_and]
    exact Nat.and_le_right
  have d : y &&& Int32.ofInt 1 = 0 ∨ y &&& Int32.ofInt 1 = 1 := by
    rcases Nat.le_one_iff_eq_zero_or_eq_one.mp l with z | z
    · exact Or.inl (Int32.toBitVec_inj.mp (BitVec.eq_of_toNat_eq z))
    · exact Or.inr (Int32.toBitVec_inj.mp (BitVec.eq_of_toNat_eq z))
  rcases d with z | z <;> rw [z] <;> rfl
set_option maxRecDepth 100000 in
set_option maxHeartbeats 4000000 in
theorem isop_q {f c : Nat} {h : xh_H} (hc : c < 256) (hq : a_rq a_tb h) : xq f xi_X0_isOption xmi_X0_isOption 0 [(0, .int (nI c))] [] h (fun v h' => h = h' ∧ v = some (.int (bl (decide (c < 7))))) := by
  cases c1 : xe_c .lt (nI c) 0 with
  | true =>
    have z1 : c < 0 := nq_ltt (a := c) (b := 0) (by omega) (by omega) c1
    omega
  | false =>
    have z1 : c ≥ 0 := nq_ltf (a := c) (b := 0) (by omega) (by omega) c1
    cases c2 : xe_c .ge (nI c) 7 with
    | true =>
      have z2 : c ≥ 7 := nq_get (a := c) (b := 7) (by omega) (by omega) c2
      refine xq_n 15 [] [] [.int (Int32.ofInt 0)] h [false, true] 8 hq rfl ⟨c1, c2, trivial⟩ (fun hq => ?_)
      exact xq_ret rfl rfl rfl ⟨rfl, by rw [show decide (c < 7) = false from decide_eq_false (by omega)]; rfl⟩
    | false =>
      have z2 : c < 7 := nq_gef (a := c) (b := 7) (by omega) (by omega) c2
      refine xq_n 15 [] [] [.int (Int32.ofInt 1)] h [false, false] 9 hq rfl ⟨c1, c2, trivial⟩ (fun hq => ?_)
      exact xq_ret rfl rfl rfl ⟨rfl, by rw [show decide (c < 7) = true from decide_eq_true (by omega)]; rfl⟩
set_option maxRecDepth 100000 in
set_option maxHeartbeats 4000000 in
theorem row_l {f n : Nat} {T : Nat → Nat} {h : xh_H} (hc : ct h T n) (hq : a_rq a_tb h) : ∀ (j i : Nat) (s : Int32), i + j = n → xq f xi_X0_isRow xmi_X0_isRow 23 [(0, .ref 28), (1, .ref 1), (2, .int s), (3, .int (nI i))] [] h (fun v h' => h = h' ∧ v = some (.int (bl (ro T j i s)))) := by
  have n6 := hc.2.1
  intro j
  induction j with
  | zero =>
    intro i s ij
    cases c1 : xe_c .ge (nI i) (nI n) with
    | true =>
      have z1 : i ≥ n := nq_get (a := i) (b := n) (by omega) (by omega) c1
      refine xq_n 71 [] [] [.int (Int32.ofInt 1)] h [true] 7 hq rfl ⟨(show xe_c .ge (nI i) (xg 0 h.2.1 1 1) = true by rw [show (xg 0 h.2.1 1 1) = (nI n) from hc.1]; exact c1), trivial⟩ (fun hq => ?_)
      exact xq_ret rfl rfl rfl ⟨rfl, rfl⟩
    | false =>
      have z1 : i < n := nq_gef (a := i) (b := n) (by omega) (by omega) c1
      omega
  | succ j ih =>
    intro i s ij
    have hR : ro T (j + 1) i s = (decide (T i < 7) && (xe_c .eq ((s >>> (nI (T i) &&& 31)) &&& Int32.ofInt 1) 0 && ro T j (i + 1) (s ||| (Int32.ofInt 1 <<< (nI (T i) &&& 31))))) := rfl
    rw [hR]
    cases c1 : xe_c .ge (nI i) (nI n) with
    | true =>
      have z1 : i ≥ n := nq_get (a := i) (b := n) (by omega) (by omega) c1
      omega
    | false =>
      have z1 : i < n := nq_gef (a := i) (b := n) (by omega) (by omega) c1
      refine xq_n 33 [0, 1, 2, 3] [(0, .ref 28), (1, .ref 1), (2, .int s), (3, .int (nI i))] [.int (nI i), .ref 1] h [false] 8 hq rfl ⟨(show xe_c .ge (nI i) (xg 0 h.2.1 1 1) = false by rw [show (xg 0 h.2.1 1 1) = (nI n) from hc.1]; exact c1), trivial⟩ (fun hq => ?_)
      have tI := (hc.2.2 i (by omega)).1
      refine xq_run hq rfl rfl (at_q hc (p := i) (by omega) hq) ?_
      rintro _ h_ ⟨rfl, rfl⟩
      refine xq_n 40 [0, 1, 2, 3, 4] [(0, .ref 28), (1, .ref 1), (2, .int s), (3, .int (nI i)), (4, .int (nI (T i)))] [.int (nI (T i))] h [] 4 hq rfl trivial (fun hq => ?_)
      refine xq_run hq rfl rfl (isop_q (c := (T i)) (by omega) hq) ?_
      rintro _ h_ ⟨rfl, rfl⟩
      cases b2 : (decide (T i < 7)) with
      | true =>
        have db2 := of_decide_eq_true b2
        cases c3 : xe_c .eq ((s >>> ((nI (T i)) &&& 31)) &&& (Int32.ofInt 1)) 0 with
        | true =>
          refine xq_n 23 [0, 1, 2, 3] [(0, .ref 28), (1, .ref 1), (2, .int (s ||| ((Int32.ofInt 1) <<< ((nI (T i)) &&& 31)))), (3, .int ((nI i) + Int32.ofInt 1))] [] h [false, true] 17 hq rfl ⟨rfl, c3, trivial⟩ (fun hq => ?_)
          rw [show ((nI i) + Int32.ofInt 1) = nI (i + 1) from nI_1 _]
          exact ih (i + 1) (s ||| ((Int32.ofInt 1) <<< ((nI (T i)) &&& 31))) (by omega)
        | false =>
          refine xq_n 56 [] [] [.int (Int32.ofInt 0)] h [false, false] 10 hq rfl ⟨rfl, c3, trivial⟩ (fun hq => ?_)
          exact xq_ret rfl rfl rfl ⟨rfl, rfl⟩
      | false =>
        have db2 := of_decide_eq_false b2
        refine xq_n 56 [] [] [.int (Int32.ofInt 0)] h [true] 4 hq rfl ⟨rfl, trivial⟩ (fun hq => ?_)
        exact xq_ret rfl rfl rfl ⟨rfl, rfl⟩
set_option maxRecDepth 100000 in
set_option maxHeartbeats 4000000 in
theorem row_q {f n : Nat} {T : Nat → Nat} {h : xh_H} (hc : ct h T n) (hq : a_rq a_tb h) : xq f xi_X0_isRow xmi_X0_isRow 0 [(0, .ref 28), (1, .ref 1)] [] h (fun v h' => h = h' ∧ v = some (.int (bl (decide (1 ≤ n ∧ n ≤ 7) && ro T n 0 (Int32.ofInt 0))))) := by
  have n6 := hc.2.1
  cases c1 : xe_c .lt (nI n) (Int32.ofInt 1) with
  | true =>
    have z1 : n < 1 := nq_ltt (a := n) (b := 1) (by omega) (by omega) c1
    refine xq_n 18 [] [] [.int (Int32.ofInt 0)] h [true] 7 hq rfl ⟨(show xe_c .lt (xg 0 h.2.1 1 1) (Int32.ofInt 1) = true by rw [show (xg 0 h.2.1 1 1) = (nI n) from hc.1]; exact c1), trivial⟩ (fun hq => ?_)
    exact xq_ret rfl rfl rfl ⟨rfl, by rw [decide_eq_false (by omega)]; rfl⟩
  | false =>
    have z1 : n ≥ 1 := nq_ltf (a := n) (b := 1) (by omega) (by omega) c1
    cases c2 : xe_c .le (nI n) 7 with
    | true =>
      have z2 : n ≤ 7 := nq_let (a := n) (b := 7) (by omega) (by omega) c2
      refine xq_n 23 [0, 1, 2, 3] [(0, .ref 28), (1, .ref 1), (2, .int (Int32.ofInt 0)), (3, .int (Int32.ofInt 0))] [] h [false, true] 14 hq rfl ⟨(show xe_c .lt (xg 0 h.2.1 1 1) (Int32.ofInt 1) = false by rw [show (xg 0 h.2.1 1 1) = (nI n) from hc.1]; exact c1), (show xe_c .le (xg 0 h.2.1 1 1) 7 = true by rw [show (xg 0 h.2.1 1 1) = (nI n) from hc.1]; exact c2), trivial⟩ (fun hq => ?_)
      rw [show decide (1 ≤ n ∧ n ≤ 7) = true from decide_eq_true (by omega)]
      exact row_l hc hq n 0 _ (by omega)
    | false =>
      have z2 : n > 7 := nq_lef (a := n) (b := 7) (by omega) (by omega) c2
      refine xq_n 18 [] [] [.int (Int32.ofInt 0)] h [false, false] 11 hq rfl ⟨(show xe_c .lt (xg 0 h.2.1 1 1) (Int32.ofInt 1) = false by rw [show (xg 0 h.2.1 1 1) = (nI n) from hc.1]; exact c1), (show xe_c .le (xg 0 h.2.1 1 1) 7 = false by rw [show (xg 0 h.2.1 1 1) = (nI n) from hc.1]; exact c2), trivial⟩ (fun hq => ?_)
      exact xq_ret rfl rfl rfl ⟨rfl, by rw [decide_eq_false (by omega)]; rfl⟩
set_option maxRecDepth 100000 in
set_option maxHeartbeats 4000000 in
theorem are_l {f n : Nat} {T : Nat → Nat} {h : xh_H} (n6 : n ≤ 640) (hT : ∀ k, k < n → T k < 256 ∧ xg 0 h.2.1 40 k = nI (T k)) (hq : a_rq a_tb h) : ∀ (j i : Nat) (s : Int32), i + j = n → xq f xi_X10_areOptions xmi_X10_areOptions 4 [(0, .ref 39), (1, .int (nI n)), (2, .int s), (3, .int (nI i))] [] h (fun v h' => h = h' ∧ v = some (.int (bl (ro T j i s)))) := by
  intro j
  induction j with
  | zero =>
    intro i s ij
    cases c1 : xe_c .ge (nI i) (nI n) with
    | true =>
      have z1 : i ≥ n := nq_get (a := i) (b := n) (by omega) (by omega) c1
      refine xq_n 54 [] [] [.int (Int32.ofInt 1)] h [true] 6 hq rfl ⟨c1, trivial⟩ (fun hq => ?_)
      exact xq_ret rfl rfl rfl ⟨rfl, rfl⟩
    | false =>
      have z1 : i < n := nq_gef (a := i) (b := n) (by omega) (by omega) c1
      omega
  | succ j ih =>
    intro i s ij
    have tI := (hT i (by omega)).1
    have hR : ro T (j + 1) i s = (decide (T i < 7) && (xe_c .ne ((s >>> (nI (T i) &&& 31)) &&& Int32.ofInt 1) (Int32.ofInt 1) && ro T j (i + 1) (s ||| (Int32.ofInt 1 <<< (nI (T i) &&& 31))))) := by rw [and1_c]; rfl
    rw [hR]
    cases c1 : xe_c .ge (nI i) (nI n) with
    | true =>
      have z1 : i ≥ n := nq_get (a := i) (b := n) (by omega) (by omega) c1
      omega
    | false =>
      have z1 : i < n := nq_gef (a := i) (b := n) (by omega) (by omega) c1
      cases c2 : xe_c .ge (nI (T i)) 7 with
      | true =>
        have z2 : (T i) ≥ 7 := nq_get (a := (T i)) (b := 7) (by omega) (by omega) c2
        rw [show decide (T i < 7) = false from decide_eq_false (by omega)]
        refine xq_n 35 [] [] [.int (Int32.ofInt 0)] h [false, true] 12 hq rfl ⟨c1, (show xe_c .ge (xg 0 h.2.1 40 ((nI i).toNatClampNeg)) 7 = true by rw [show (xg 0 h.2.1 40 ((nI i).toNatClampNeg)) = (nI (T i)) from (by rw [show ((nI i).toNatClampNeg) = i from nI_clamp (by omega)]; exact (hT i (by omega)).2)]; exact c2), trivial⟩ (fun hq => ?_)
        exact xq_ret rfl rfl rfl ⟨rfl, rfl⟩
      | false =>
        have z2 : (T i) < 7 := nq_gef (a := (T i)) (b := 7) (by omega) (by omega) c2
        rw [show decide (T i < 7) = true from decide_eq_true (by omega)]
        cases c3 : xe_c .ne ((s >>> ((nI (T i)) &&& 31)) &&& (Int32.ofInt 1)) (Int32.ofInt 1) with
        | true =>
          refine xq_n 4 [0, 1, 2, 3] [(0, .ref 39), (1, .int (nI n)), (2, .int (s ||| ((Int32.ofInt 1) <<< ((xg 0 h.2.1 40 ((nI i).toNatClampNeg)) &&& 31)))), (3, .int ((nI i) + Int32.ofInt 1))] [] h [false, false, true] 32 hq rfl ⟨c1, (show xe_c .ge (xg 0 h.2.1 40 ((nI i).toNatClampNeg)) 7 = false by rw [show (xg 0 h.2.1 40 ((nI i).toNatClampNeg)) = (nI (T i)) from (by rw [show ((nI i).toNatClampNeg) = i from nI_clamp (by omega)]; exact (hT i (by omega)).2)]; exact c2), (show xe_c .ne ((s >>> ((xg 0 h.2.1 40 ((nI i).toNatClampNeg)) &&& 31)) &&& (Int32.ofInt 1)) (Int32.ofInt 1) = true by rw [show (xg 0 h.2.1 40 ((nI i).toNatClampNeg)) = (nI (T i)) from (by rw [show ((nI i).toNatClampNeg) = i from nI_clamp (by omega)]; exact (hT i (by omega)).2)]; exact c3), trivial⟩ (fun hq => ?_)
          rw [show (xg 0 h.2.1 40 ((nI i).toNatClampNeg)) = (nI (T i)) from (by rw [show ((nI i).toNatClampNeg) = i from nI_clamp (by omega)]; exact (hT i (by omega)).2)]
          rw [show ((nI i) + Int32.ofInt 1) = nI (i + 1) from nI_1 _]
          exact ih (i + 1) (s ||| ((Int32.ofInt 1) <<< ((nI (T i)) &&& 31))) (by omega)
        | false =>
          refine xq_n 35 [] [] [.int (Int32.ofInt 0)] h [false, false, false] 22 hq rfl ⟨c1, (show xe_c .ge (xg 0 h.2.1 40 ((nI i).toNatClampNeg)) 7 = false by rw [show (xg 0 h.2.1 40 ((nI i).toNatClampNeg)) = (nI (T i)) from (by rw [show ((nI i).toNatClampNeg) = i from nI_clamp (by omega)]; exact (hT i (by omega)).2)]; exact c2), (show xe_c .ne ((s >>> ((xg 0 h.2.1 40 ((nI i).toNatClampNeg)) &&& 31)) &&& (Int32.ofInt 1)) (Int32.ofInt 1) = false by rw [show (xg 0 h.2.1 40 ((nI i).toNatClampNeg)) = (nI (T i)) from (by rw [show ((nI i).toNatClampNeg) = i from nI_clamp (by omega)]; exact (hT i (by omega)).2)]; exact c3), trivial⟩ (fun hq => ?_)
          exact xq_ret rfl rfl rfl ⟨rfl, rfl⟩
set_option maxRecDepth 100000 in
set_option maxHeartbeats 4000000 in
theorem are_q {f n : Nat} {T : Nat → Nat} {h : xh_H} (n6 : n ≤ 640) (hT : ∀ k, k < n → T k < 256 ∧ xg 0 h.2.1 40 k = nI (T k)) (hq : a_rq a_tb h) : xq f xi_X10_areOptions xmi_X10_areOptions 0 [(0, .ref 39), (1, .int (nI n))] [] h (fun v h' => h = h' ∧ v = some (.int (bl (ro T n 0 (Int32.ofInt 0))))) := by
  refine xq_n 4 [0, 1, 2, 3] [(0, .ref 39), (1, .int (nI n)), (2, .int (Int32.ofInt 0)), (3, .int (Int32.ofInt 0))] [] h [] 6 hq rfl trivial (fun hq => ?_)
  exact are_l n6 hT hq n 0 _ (by omega)
set_option maxRecDepth 100000 in
set_option maxHeartbeats 4000000 in
theorem mem9_q {f : Nat} {x z : Int32} {h : xh_H} (e9 : xg 0 h.2.1 0 9 = z) (hq : a_rq a_tb h) : xq f xi_X9_isMember xmi_X9_isMember 0 [(0, .ref 0), (1, .int x)] [] h (fun v h' => h = h' ∧ v = some (.int (bl (!xe_c .lt x 0 && !xe_c .ge x z)))) := by
  cases c1 : xe_c .lt x 0 with
  | true =>
    refine xq_n 17 [] [] [.int (Int32.ofInt 0)] h [true] 5 hq rfl ⟨c1, trivial⟩ (fun hq => ?_)
    exact xq_ret rfl rfl rfl ⟨rfl, rfl⟩
  | false =>
    cases c2 : xe_c .ge x z with
    | true =>
      refine xq_n 17 [] [] [.int (Int32.ofInt 0)] h [false, true] 9 hq rfl ⟨c1, (show xe_c .ge x (xg 0 h.2.1 0 9) = true by rw [show (xg 0 h.2.1 0 9) = z from e9]; exact c2), trivial⟩ (fun hq => ?_)
      exact xq_ret rfl rfl rfl ⟨rfl, rfl⟩
    | false =>
      refine xq_n 17 [] [] [.int (Int32.ofInt 1)] h [false, false] 10 hq rfl ⟨c1, (show xe_c .ge x (xg 0 h.2.1 0 9) = false by rw [show (xg 0 h.2.1 0 9) = z from e9]; exact c2), trivial⟩ (fun hq => ?_)
      exact xq_ret rfl rfl rfl ⟨rfl, rfl⟩
set_option maxRecDepth 100000 in
set_option maxHeartbeats 4000000 in
theorem mem10_q {f : Nat} {x z : Int32} {h : xh_H} (e9 : xg 0 h.2.1 39 4 = z) (hq : a_rq a_tb h) : xq f xi_X10_isMember xmi_X10_isMember 0 [(0, .ref 39), (1, .int x)] [] h (fun v h' => h = h' ∧ v = some (.int (bl (!xe_c .lt x 0 && !xe_c .ge x z)))) := by
  cases c1 : xe_c .lt x 0 with
  | true =>
    refine xq_n 17 [] [] [.int (Int32.ofInt 0)] h [true] 5 hq rfl ⟨c1, trivial⟩ (fun hq => ?_)
    exact xq_ret rfl rfl rfl ⟨rfl, rfl⟩
  | false =>
    cases c2 : xe_c .ge x z with
    | true =>
      refine xq_n 17 [] [] [.int (Int32.ofInt 0)] h [false, true] 9 hq rfl ⟨c1, (show xe_c .ge x (xg 0 h.2.1 39 4) = true by rw [show (xg 0 h.2.1 39 4) = z from e9]; exact c2), trivial⟩ (fun hq => ?_)
      exact xq_ret rfl rfl rfl ⟨rfl, rfl⟩
    | false =>
      refine xq_n 17 [] [] [.int (Int32.ofInt 1)] h [false, false] 10 hq rfl ⟨c1, (show xe_c .ge x (xg 0 h.2.1 39 4) = false by rw [show (xg 0 h.2.1 39 4) = z from e9]; exact c2), trivial⟩ (fun hq => ?_)
      exact xq_ret rfl rfl rfl ⟨rfl, rfl⟩
set_option maxRecDepth 100000 in
set_option maxHeartbeats 4000000 in
theorem set9_q {f : Nat} {x z : Int32} {h : xh_H} (e9 : xg 0 h.2.1 0 9 = z) (hq : a_rq a_tb h) : xq f xi_X9_isSet xmi_X9_isSet 0 [(0, .ref 0), (1, .int x)] [] h (fun v h' => h = h' ∧ v = some (.int (bl (!xe_c .lt x 0 && !xe_c .ge x (Int32.ofInt 1 <<< (z &&& 31)))))) := by
  cases c1 : xe_c .lt x 0 with
  | true =>
    refine xq_n 19 [] [] [.int (Int32.ofInt 0)] h [true] 5 hq rfl ⟨c1, trivial⟩ (fun hq => ?_)
    exact xq_ret rfl rfl rfl ⟨rfl, rfl⟩
  | false =>
    cases c2 : xe_c .ge x ((Int32.ofInt 1) <<< ((z) &&& 31)) with
    | true =>
      refine xq_n 19 [] [] [.int (Int32.ofInt 0)] h [false, true] 11 hq rfl ⟨c1, (show xe_c .ge x ((Int32.ofInt 1) <<< ((xg 0 h.2.1 0 9) &&& 31)) = true by rw [show (xg 0 h.2.1 0 9) = z from e9]; exact c2), trivial⟩ (fun hq => ?_)
      exact xq_ret rfl rfl rfl ⟨rfl, rfl⟩
    | false =>
      refine xq_n 19 [] [] [.int (Int32.ofInt 1)] h [false, false] 12 hq rfl ⟨c1, (show xe_c .ge x ((Int32.ofInt 1) <<< ((xg 0 h.2.1 0 9) &&& 31)) = false by rw [show (xg 0 h.2.1 0 9) = z from e9]; exact c2), trivial⟩ (fun hq => ?_)
      exact xq_ret rfl rfl rfl ⟨rfl, rfl⟩
set_option maxRecDepth 100000 in
set_option maxHeartbeats 4000000 in
theorem set10_q {f : Nat} {x z : Int32} {h : xh_H} (e9 : xg 0 h.2.1 39 4 = z) (hq : a_rq a_tb h) : xq f xi_X10_isSet xmi_X10_isSet 0 [(0, .ref 39), (1, .int x)] [] h (fun v h' => h = h' ∧ v = some (.int (bl (!xe_c .lt x 0 && !xe_c .ge x (Int32.ofInt 1 <<< (z &&& 31)))))) := by
  cases c1 : xe_c .lt x 0 with
  | true =>
    refine xq_n 19 [] [] [.int (Int32.ofInt 0)] h [true] 5 hq rfl ⟨c1, trivial⟩ (fun hq => ?_)
    exact xq_ret rfl rfl rfl ⟨rfl, rfl⟩
  | false =>
    cases c2 : xe_c .ge x ((Int32.ofInt 1) <<< ((z) &&& 31)) with
    | true =>
      refine xq_n 19 [] [] [.int (Int32.ofInt 0)] h [false, true] 11 hq rfl ⟨c1, (show xe_c .ge x ((Int32.ofInt 1) <<< ((xg 0 h.2.1 39 4) &&& 31)) = true by rw [show (xg 0 h.2.1 39 4) = z from e9]; exact c2), trivial⟩ (fun hq => ?_)
      exact xq_ret rfl rfl rfl ⟨rfl, rfl⟩
    | false =>
      refine xq_n 19 [] [] [.int (Int32.ofInt 1)] h [false, false] 12 hq rfl ⟨c1, (show xe_c .ge x ((Int32.ofInt 1) <<< ((xg 0 h.2.1 39 4) &&& 31)) = false by rw [show (xg 0 h.2.1 39 4) = z from e9]; exact c2), trivial⟩ (fun hq => ?_)
      exact xq_ret rfl rfl rfl ⟨rfl, rfl⟩
def oSr (c k : Nat) : Bool := Nat.beq c 30 || (Nat.beq c 28 && Nat.beq k 1)
set_option maxRecDepth 100000 in
set_option maxHeartbeats 4000000 in
theorem ord_l {f : Nat} {T : Nat → Nat} {x : Int32} {h0 : xh_H} (hc : ct h0 T 7) : ∀ (j i : Nat) (h : xh_H), i + j = 7 → fx oSr fN h0 h → a_rq a_tb h → xq f xi_X0_order xmi_X0_order 2 [(0, .ref 28), (1, .int x), (2, .ref 1), (3, .int (nI i))] [] h (fun v h' => v = none ∧ fx oSr fN h0 h' ∧ xg 0 h'.2.1 28 1 = Int32.ofInt 1) := by
  intro j
  induction j with
  | zero =>
    intro i h ij g hq
    cases c1 : xe_c .ge (nI i) 7 with
    | true =>
      have z1 : i ≥ 7 := nq_get (a := i) (b := 7) (by omega) (by omega) c1
      refine xq_n 47 [] [] [] (xh_ui h 28 1 (Int32.ofInt 1)) [true] 8 hq rfl ⟨c1, trivial⟩ (fun _ => ?_)
      have hq : a_rq a_tb (xh_ui h 28 1 (Int32.ofInt 1)) := a_rq_ui hq
      exact xq_ret rfl rfl rfl ⟨rfl, fx_t g (fx_ui (fx_0) rfl), gx_s⟩
    | false =>
      have z1 : i < 7 := nq_gef (a := i) (b := 7) (by omega) (by omega) c1
      omega
  | succ j ih =>
    intro i h ij g hq
    cases c1 : xe_c .ge (nI i) 7 with
    | true =>
      have z1 : i ≥ 7 := nq_get (a := i) (b := 7) (by omega) (by omega) c1
      omega
    | false =>
      have z1 : i < 7 := nq_gef (a := i) (b := 7) (by omega) (by omega) c1
      refine xq_n 10 [0, 1, 2, 3] [(0, .ref 28), (1, .int x), (2, .ref 1), (3, .int (nI i))] [.int (nI i), .ref 1] h [false] 7 hq rfl ⟨c1, trivial⟩ (fun hq => ?_)
      have tI := (hc.2.2 i (by omega)).1
      refine xq_run hq rfl rfl (at_q (ct_f hc g rfl (fun _ => rfl)) (p := i) (by omega) hq) ?_
      rintro _ h_ ⟨rfl, rfl⟩
      refine xq_n 17 [0, 1, 2, 3, 4] [(0, .ref 28), (1, .int x), (2, .ref 1), (3, .int (nI i)), (4, .int (nI (T i)))] [.int (nI (T i))] h [] 4 hq rfl trivial (fun hq => ?_)
      refine xq_run hq rfl rfl (isop_q (c := (T i)) (by omega) hq) ?_
      rintro _ h_ ⟨rfl, rfl⟩
      cases b2 : (decide (T i < 7)) with
      | true =>
        have db2 := of_decide_eq_true b2
        refine xq_n 2 [0, 1, 2, 3] [(0, .ref 28), (1, .int x), (2, .ref 1), (3, .int ((nI i) + Int32.ofInt 1))] [] (xh_ui h 30 (((x * 7) + (nI (T i))).toNatClampNeg) (nI i)) [false] 14 hq rfl ⟨rfl, trivial⟩ (fun _ => ?_)
        rw [show ((nI i) + Int32.ofInt 1) = nI (i + 1) from nI_1 _]
        have hq : a_rq a_tb (xh_ui h 30 (((x * 7) + (nI (T i))).toNatClampNeg) (nI i)) := a_rq_ui hq
        exact ih (i + 1) _ (by omega) (fx_t g (fx_ui (fx_0) rfl)) hq
      | false =>
        have db2 := of_decide_eq_false b2
        refine xq_n 2 [0, 1, 2, 3] [(0, .ref 28), (1, .int x), (2, .ref 1), (3, .int ((nI i) + Int32.ofInt 1))] [] h [true] 5 hq rfl ⟨rfl, trivial⟩ (fun hq => ?_)
        rw [show ((nI i) + Int32.ofInt 1) = nI (i + 1) from nI_1 _]
        exact ih (i + 1) _ (by omega) (fx_t g (fx_0)) hq
set_option maxRecDepth 100000 in
set_option maxHeartbeats 4000000 in
theorem ord_q {f : Nat} {T : Nat → Nat} {x : Int32} {h : xh_H} (hc : ct h T 7) (hq : a_rq a_tb h) : xq f xi_X0_order xmi_X0_order 0 [(0, .ref 28), (1, .int x), (2, .ref 1)] [] h (fun v h' => v = none ∧ fx oSr fN h h' ∧ xg 0 h'.2.1 28 1 = Int32.ofInt 1) := by
  refine xq_n 2 [0, 1, 2, 3] [(0, .ref 28), (1, .int x), (2, .ref 1), (3, .int (Int32.ofInt 0))] [] h [] 4 hq rfl trivial (fun hq => ?_)
  exact ord_l hc 7 0 h rfl fx_0 hq
def rkB (T : Nat → Nat) (n : Nat) (x z : Int32) : Bool := (!xe_c .lt x 0 && !xe_c .ge x z) && (Nat.beq n 7 && ro T 7 0 (Int32.ofInt 0))
theorem bq_t {a b : Nat} (h : a = b) : Nat.beq a b = true := by
  subst h
  exact Nat.beq_refl a
theorem bq_f {a b : Nat} (h : a ≠ b) : Nat.beq a b = false := by
  cases e : Nat.beq a b with
  | false => rfl
  | true => exact absurd (Nat.eq_of_beq_eq_true e) h
set_option maxRecDepth 100000 in
set_option maxHeartbeats 4000000 in
theorem rk9_q {f n : Nat} {T : Nat → Nat} {x z : Int32} {h : xh_H} (hc : ct h T n) (e9 : xg 0 h.2.1 0 9 = z) (hq : a_rq a_tb h) : xq f xi_X9_rank xmi_X9_rank 0 [(0, .ref 0), (1, .int x)] [] h (fun v h' => v = some (.int (bl ((!xe_c .lt x 0 && !xe_c .ge x z) && (Nat.beq n 7 && ro T 7 0 (Int32.ofInt 0))))) ∧ xg 0 h'.2.1 28 1 = cond ((!xe_c .lt x 0 && !xe_c .ge x z) && (Nat.beq n 7 && ro T 7 0 (Int32.ofInt 0))) (Int32.ofInt 1) (xg 0 h.2.1 28 1)) := by
  have n6 := hc.2.1
  refine xq_n 2 [0, 1] [(0, .ref 0), (1, .int x)] [.int x, .ref 0] h [] 4 hq rfl trivial (fun hq => ?_)
  refine xq_run hq rfl rfl (mem9_q (x := x) (z := z) (e9) hq) ?_
  rintro _ h_ ⟨rfl, rfl⟩
  cases b1 : (!xe_c .lt x 0 && !xe_c .ge x z) with
  | true =>
    cases c2 : xe_c .ne (nI n) 7 with
    | true =>
      have z2 : n ≠ 7 := nq_net (a := n) (b := 7) (by omega) (by omega) c2
      rw [show Nat.beq n 7 = false from bq_f z2]
      refine xq_n 65 [] [] [.int (Int32.ofInt 0)] (xh_ui h 1 1 (Int32.ofInt 0)) [false, true, true] 17 hq rfl ⟨rfl, (show xe_c .ne (xg 0 h.2.1 1 1) 7 = true by rw [show (xg 0 h.2.1 1 1) = (nI n) from hc.1]; exact c2), (by decide), trivial⟩ (fun _ => ?_)
      have hq : a_rq a_tb (xh_ui h 1 1 (Int32.ofInt 0)) := a_rq_ui hq
      exact xq_ret rfl rfl rfl ⟨rfl, gx_o (by decide)⟩
    | false =>
      have z2 : n = 7 := nq_nef (a := n) (b := 7) (by omega) (by omega) c2
      rw [show Nat.beq n 7 = true from bq_t z2]
      have hc7 : ct h T 7 := z2 ▸ hc
      refine xq_n 28 [0, 1] [(0, .ref 0), (1, .int x)] [.ref 1, .ref 28] h [false, false] 12 hq rfl ⟨rfl, (show xe_c .ne (xg 0 h.2.1 1 1) 7 = false by rw [show (xg 0 h.2.1 1 1) = (nI n) from hc.1]; exact c2), trivial⟩ (fun hq => ?_)
      refine xq_run hq rfl rfl (row_q hc7 hq) ?_
      rintro _ h_ ⟨rfl, rfl⟩
      rw [show (decide (1 ≤ 7 ∧ 7 ≤ 7) && ro T 7 0 (Int32.ofInt 0)) = ro T 7 0 (Int32.ofInt 0) from rfl]
      cases b3 : (ro T 7 0 (Int32.ofInt 0)) with
      | true =>
        refine xq_n 53 [0, 1, 2] [(0, .ref 0), (1, .int x), (2, .int (Int32.ofInt 1))] [.ref 1, .int x, .ref 28] h [false, false] 13 hq rfl ⟨rfl, (by decide), trivial⟩ (fun hq => ?_)
        refine xq_run hq rfl rfl (ord_q hc7 hq) ?_
        rintro _ h1 ⟨rfl, g1, d1⟩
        have hq := fx_q g1 hq
        refine xq_n 65 [] [] [.int (Int32.ofInt 1)] (xh_ui h1 1 1 (Int32.ofInt 0)) [] 7 hq rfl trivial (fun _ => ?_)
        have hq : a_rq a_tb (xh_ui h1 1 1 (Int32.ofInt 0)) := a_rq_ui hq
        exact xq_ret rfl rfl rfl ⟨rfl, (gx_o (by decide)).trans d1⟩
      | false =>
        refine xq_n 65 [] [] [.int (Int32.ofInt 0)] (xh_ui h 1 1 (Int32.ofInt 0)) [true, true] 12 hq rfl ⟨rfl, (by decide), trivial⟩ (fun _ => ?_)
        have hq : a_rq a_tb (xh_ui h 1 1 (Int32.ofInt 0)) := a_rq_ui hq
        exact xq_ret rfl rfl rfl ⟨rfl, gx_o (by decide)⟩
  | false =>
    refine xq_n 65 [] [] [.int (Int32.ofInt 0)] (xh_ui h 1 1 (Int32.ofInt 0)) [true, true] 12 hq rfl ⟨rfl, (by decide), trivial⟩ (fun _ => ?_)
    have hq : a_rq a_tb (xh_ui h 1 1 (Int32.ofInt 0)) := a_rq_ui hq
    exact xq_ret rfl rfl rfl ⟨rfl, gx_o (by decide)⟩
set_option maxRecDepth 100000 in
set_option maxHeartbeats 4000000 in
theorem rkl_q {f : Nat} {x : Int32} : ∀ (j i : Nat) (h : xh_H), i + j = 7 → a_rq a_tb h → xq f xi_X10_rank xmi_X10_rank 36 [(0, .ref 39), (1, .int x), (3, .int (nI i))] [] h (fun v h' => v = some (.int (Int32.ofInt 1)) ∧ xg 0 h'.2.1 39 5 = Int32.ofInt 1) := by
  intro j
  induction j with
  | zero =>
    intro i h ij hq
    cases c1 : xe_c .ge (nI i) 7 with
    | true =>
      have z1 : i ≥ 7 := nq_get (a := i) (b := 7) (by omega) (by omega) c1
      refine xq_n 71 [] [] [.int (Int32.ofInt 1)] (xh_ui h 39 5 (Int32.ofInt 1)) [true] 9 hq rfl ⟨c1, trivial⟩ (fun _ => ?_)
      have hq : a_rq a_tb (xh_ui h 39 5 (Int32.ofInt 1)) := a_rq_ui hq
      exact xq_ret rfl rfl rfl ⟨rfl, gx_s⟩
    | false =>
      have z1 : i < 7 := nq_gef (a := i) (b := 7) (by omega) (by omega) c1
      omega
  | succ j ih =>
    intro i h ij hq
    cases c1 : xe_c .ge (nI i) 7 with
    | true =>
      have z1 : i ≥ 7 := nq_get (a := i) (b := 7) (by omega) (by omega) c1
      omega
    | false =>
      have z1 : i < 7 := nq_gef (a := i) (b := 7) (by omega) (by omega) c1
      refine xq_n 36 [0, 1, 3] [(0, .ref 39), (1, .int x), (3, .int ((nI i) + Int32.ofInt 1))] [] (xh_ui h 62 (((7 * x) + (xg 0 h.2.1 40 ((nI i).toNatClampNeg))).toNatClampNeg) (nI i)) [false] 19 hq rfl ⟨c1, trivial⟩ (fun _ => ?_)
      rw [show (xg 0 h.2.1 40 ((nI i).toNatClampNeg)) = xg 0 h.2.1 40 i from (by rw [show ((nI i).toNatClampNeg) = i from nI_clamp (by omega)])]
      rw [show ((nI i) + Int32.ofInt 1) = nI (i + 1) from nI_1 _]
      have hq : a_rq a_tb (xh_ui h 62 (((7 * x) + (xg 0 h.2.1 40 i)).toNatClampNeg) (nI i)) := a_rq_ui hq
      exact ih (i + 1) _ (by omega) hq
set_option maxRecDepth 100000 in
set_option maxHeartbeats 4000000 in
theorem rk10_q {f n : Nat} {T : Nat → Nat} {x z : Int32} {h : xh_H} (n6 : n ≤ 640) (e2 : xg 0 h.2.1 39 2 = nI n) (hT : ∀ k, k < n → T k < 256 ∧ xg 0 h.2.1 40 k = nI (T k)) (e9 : xg 0 h.2.1 39 4 = z) (hq : a_rq a_tb h) : xq f xi_X10_rank xmi_X10_rank 0 [(0, .ref 39), (1, .int x)] [] h (fun v h' => v = some (.int (bl ((!xe_c .lt x 0 && !xe_c .ge x z) && (Nat.beq n 7 && ro T 7 0 (Int32.ofInt 0))))) ∧ xg 0 h'.2.1 39 5 = cond ((!xe_c .lt x 0 && !xe_c .ge x z) && (Nat.beq n 7 && ro T 7 0 (Int32.ofInt 0))) (Int32.ofInt 1) (xg 0 h.2.1 39 5)) := by
  refine xq_n 6 [0, 1] [(0, .ref 39), (1, .int x)] [.ref 39] (xh_ui h 39 0 (Int32.ofInt 0)) [] 6 hq rfl trivial (fun _ => ?_)
  have hq : a_rq a_tb (xh_ui h 39 0 (Int32.ofInt 0)) := a_rq_ui hq
  refine xq_run hq rfl rfl (take_q hq) ?_
  rintro _ _ ⟨rfl, rfl⟩
  rw [show xg 0 (xh_ui h 39 0 (Int32.ofInt 0)).2.1 39 2 = nI n from (gx_k (by decide)).trans e2]
  have hq : a_rq a_tb (xh_ui (xh_ui h 39 0 (Int32.ofInt 0)) 39 2 (Int32.ofInt 0)) := a_rq_ui hq
  refine xq_n 12 [0, 1, 2] [(0, .ref 39), (1, .int x), (2, .int (nI n))] [.int x, .ref 39] (xh_ui (xh_ui h 39 0 (Int32.ofInt 0)) 39 2 (Int32.ofInt 0)) [] 5 hq rfl trivial (fun hq => ?_)
  refine xq_run hq rfl rfl (mem10_q (x := x) (z := z) ((gx_k (by decide)).trans ((gx_k (by decide)).trans (e9))) hq) ?_
  rintro _ h_ ⟨rfl, rfl⟩
  cases b1 : (!xe_c .lt x 0 && !xe_c .ge x z) with
  | true =>
    cases c2 : xe_c .ne (nI n) 7 with
    | true =>
      have z2 : n ≠ 7 := nq_net (a := n) (b := 7) (by omega) (by omega) c2
      rw [show Nat.beq n 7 = false from bq_f z2]
      refine xq_n 33 [] [] [.int (Int32.ofInt 0)] (xh_ui (xh_ui h 39 0 (Int32.ofInt 0)) 39 2 (Int32.ofInt 0)) [false, true] 7 hq rfl ⟨rfl, c2, trivial⟩ (fun hq => ?_)
      exact xq_ret rfl rfl rfl ⟨rfl, (gx_k (by decide)).trans (gx_k (by decide))⟩
    | false =>
      have z2 : n = 7 := nq_nef (a := n) (b := 7) (by omega) (by omega) c2
      rw [show Nat.beq n 7 = true from bq_t z2]
      have er : ro T n 0 (Int32.ofInt 0) = ro T 7 0 (Int32.ofInt 0) := by rw [z2]
      refine xq_n 26 [0, 1, 2] [(0, .ref 39), (1, .int x), (2, .int (nI n))] [.int (nI n), .ref 39] (xh_ui (xh_ui h 39 0 (Int32.ofInt 0)) 39 2 (Int32.ofInt 0)) [false, false] 8 hq rfl ⟨rfl, c2, trivial⟩ (fun hq => ?_)
      refine xq_run hq rfl rfl (are_q (by omega) (fun k hk' => ⟨(hT k hk').1, (gx_o (by decide)).trans ((gx_o (by decide)).trans (hT k hk').2)⟩) hq) ?_
      rintro _ h_ ⟨rfl, rfl⟩
      rw [er]
      cases b3 : (ro T 7 0 (Int32.ofInt 0)) with
      | true =>
        refine xq_n 36 [0, 1, 3] [(0, .ref 39), (1, .int x), (3, .int (Int32.ofInt 0))] [] (xh_ui (xh_ui h 39 0 (Int32.ofInt 0)) 39 2 (Int32.ofInt 0)) [true] 5 hq rfl ⟨rfl, trivial⟩ (fun hq => ?_)
        exact rkl_q 7 0 _ rfl hq
      | false =>
        refine xq_n 33 [] [] [.int (Int32.ofInt 0)] (xh_ui (xh_ui h 39 0 (Int32.ofInt 0)) 39 2 (Int32.ofInt 0)) [false] 4 hq rfl ⟨rfl, trivial⟩ (fun hq => ?_)
        exact xq_ret rfl rfl rfl ⟨rfl, (gx_k (by decide)).trans (gx_k (by decide))⟩
  | false =>
    refine xq_n 33 [] [] [.int (Int32.ofInt 0)] (xh_ui (xh_ui h 39 0 (Int32.ofInt 0)) 39 2 (Int32.ofInt 0)) [true] 4 hq rfl ⟨rfl, trivial⟩ (fun hq => ?_)
    exact xq_ret rfl rfl rfl ⟨rfl, (gx_k (by decide)).trans (gx_k (by decide))⟩
end XRI
end
section
section XRJ
theorem nI_s1 (v : Nat) : nI (v + 1) - Int32.ofInt 1 = nI v := (nI_sub (a := v + 1) (b := 1) (by omega)).trans (by rw [Nat.add_sub_cancel])
def vaS (c k : Nat) : Bool := Nat.beq c 36 || (Nat.beq c 37 || (Nat.beq c 38 || (Nat.beq c 35 && Nat.beq k 3)))
set_option maxRecDepth 100000 in
set_option maxHeartbeats 4000000 in
theorem vadd_q {f vc : Nat} {x b dy : Int32} {h : xh_H} (v6 : vc ≤ 60) (e3 : xg 0 h.2.1 35 3 = nI vc) (hq : a_rq a_tb h) : xq f xi_X1_add xmi_X1_add 0 [(0, .ref 35), (1, .int x), (2, .int b), (3, .int dy)] [] h (fun v h' => v = some (.int (cond (decide (vc < 60)) (nI vc) (Int32.ofInt (-1)))) ∧ fx vaS fN h h' ∧ xg 0 h'.2.1 35 3 = nI (cond (decide (vc < 60)) (vc + 1) vc)) := by
  cases c1 : xe_c .lt (nI vc) 60 with
  | true =>
    have z1 : vc < 60 := nq_ltt (a := vc) (b := 60) (by omega) (by omega) c1
    rw [show decide (vc < 60) = true from decide_eq_true (by omega)]
    refine xq_n 57 [] [] [.int ((xg 0 (xh_ui (xh_ui (xh_ui (xh_ui h 36 ((xg 0 h.2.1 35 3).toNatClampNeg) x) 38 ((xg 0 (xh_ui h 36 ((xg 0 h.2.1 35 3).toNatClampNeg) x).2.1 35 3).toNatClampNeg) (vp_nar FieldType.boolean b)) 37 ((xg 0 (xh_ui (xh_ui h 36 ((xg 0 h.2.1 35 3).toNatClampNeg) x) 38 ((xg 0 (xh_ui h 36 ((xg 0 h.2.1 35 3).toNatClampNeg) x).2.1 35 3).toNatClampNeg) (vp_nar FieldType.boolean b)).2.1 35 3).toNatClampNeg) dy) 35 3 ((xg 0 (xh_ui (xh_ui (xh_ui h 36 ((xg 0 h.2.1 35 3).toNatClampNeg) x) 38 ((xg 0 (xh_ui h 36 ((xg 0 h.2.1 35 3).toNatClampNeg) x).2.1 35 3).toNatClampNeg) (vp_nar FieldType.boolean b)) 37 ((xg 0 (xh_ui (xh_ui h 36 ((xg 0 h.2.1 35 3).toNatClampNeg) x) 38 ((xg 0 (xh_ui h 36 ((xg 0 h.2.1 35 3).toNatClampNeg) x).2.1 35 3).toNatClampNeg) (vp_nar FieldType.boolean b)).2.1 35 3).toNatClampNeg) dy).2.1 35 3) + (Int32.ofInt 1))).2.1 35 3) - (Int32.ofInt 1))] (xh_ui (xh_ui (xh_ui (xh_ui h 36 ((xg 0 h.2.1 35 3).toNatClampNeg) x) 38 ((xg 0 (xh_ui h 36 ((xg 0 h.2.1 35 3).toNatClampNeg) x).2.1 35 3).toNatClampNeg) (vp_nar FieldType.boolean b)) 37 ((xg 0 (xh_ui (xh_ui h 36 ((xg 0 h.2.1 35 3).toNatClampNeg) x) 38 ((xg 0 (xh_ui h 36 ((xg 0 h.2.1 35 3).toNatClampNeg) x).2.1 35 3).toNatClampNeg) (vp_nar FieldType.boolean b)).2.1 35 3).toNatClampNeg) dy) 35 3 ((xg 0 (xh_ui (xh_ui (xh_ui h 36 ((xg 0 h.2.1 35 3).toNatClampNeg) x) 38 ((xg 0 (xh_ui h 36 ((xg 0 h.2.1 35 3).toNatClampNeg) x).2.1 35 3).toNatClampNeg) (vp_nar FieldType.boolean b)) 37 ((xg 0 (xh_ui (xh_ui h 36 ((xg 0 h.2.1 35 3).toNatClampNeg) x) 38 ((xg 0 (xh_ui h 36 ((xg 0 h.2.1 35 3).toNatClampNeg) x).2.1 35 3).toNatClampNeg) (vp_nar FieldType.boolean b)).2.1 35 3).toNatClampNeg) dy).2.1 35 3) + (Int32.ofInt 1))) [true] 34 hq rfl ⟨(show xe_c .lt (xg 0 h.2.1 35 3) 60 = true by rw [show (xg 0 h.2.1 35 3) = (nI vc) from e3]; exact c1), trivial⟩ (fun _ => ?_)
    rw [show (xg 0 (xh_ui (xh_ui (xh_ui (xh_ui h 36 ((xg 0 h.2.1 35 3).toNatClampNeg) x) 38 ((xg 0 (xh_ui h 36 ((xg 0 h.2.1 35 3).toNatClampNeg) x).2.1 35 3).toNatClampNeg) (vp_nar FieldType.boolean b)) 37 ((xg 0 (xh_ui (xh_ui h 36 ((xg 0 h.2.1 35 3).toNatClampNeg) x) 38 ((xg 0 (xh_ui h 36 ((xg 0 h.2.1 35 3).toNatClampNeg) x).2.1 35 3).toNatClampNeg) (vp_nar FieldType.boolean b)).2.1 35 3).toNatClampNeg) dy) 35 3 ((xg 0 (xh_ui (xh_ui (xh_ui h 36 ((xg 0 h.2.1 35 3).toNatClampNeg) x) 38 ((xg 0 (xh_ui h 36 ((xg 0 h.2.1 35 3).toNatClampNeg) x).2.1 35 3).toNatClampNeg) (vp_nar FieldType.boolean b)) 37 ((xg 0 (xh_ui (xh_ui h 36 ((xg 0 h.2.1 35 3).toNatClampNeg) x) 38 ((xg 0 (xh_ui h 36 ((xg 0 h.2.1 35 3).toNatClampNeg) x).2.1 35 3).toNatClampNeg) (vp_nar FieldType.boolean b)).2.1 35 3).toNatClampNeg) dy).2.1 35 3) + (Int32.ofInt 1))).2.1 35 3) = ((xg 0 (xh_ui (xh_ui (xh_ui h 36 ((xg 0 h.2.1 35 3).toNatClampNeg) x) 38 ((xg 0 (xh_ui h 36 ((xg 0 h.2.1 35 3).toNatClampNeg) x).2.1 35 3).toNatClampNeg) (vp_nar FieldType.boolean b)) 37 ((xg 0 (xh_ui (xh_ui h 36 ((xg 0 h.2.1 35 3).toNatClampNeg) x) 38 ((xg 0 (xh_ui h 36 ((xg 0 h.2.1 35 3).toNatClampNeg) x).2.1 35 3).toNatClampNeg) (vp_nar FieldType.boolean b)).2.1 35 3).toNatClampNeg) dy).2.1 35 3) + (Int32.ofInt 1)) from gx_s]
    rw [show (xg 0 (xh_ui (xh_ui (xh_ui h 36 ((xg 0 h.2.1 35 3).toNatClampNeg) x) 38 ((xg 0 (xh_ui h 36 ((xg 0 h.2.1 35 3).toNatClampNeg) x).2.1 35 3).toNatClampNeg) (vp_nar FieldType.boolean b)) 37 ((xg 0 (xh_ui (xh_ui h 36 ((xg 0 h.2.1 35 3).toNatClampNeg) x) 38 ((xg 0 (xh_ui h 36 ((xg 0 h.2.1 35 3).toNatClampNeg) x).2.1 35 3).toNatClampNeg) (vp_nar FieldType.boolean b)).2.1 35 3).toNatClampNeg) dy).2.1 35 3) = (nI vc) from (gx_o (by decide)).trans ((gx_o (by decide)).trans ((gx_o (by decide)).trans (e3)))]
    rw [show (xg 0 (xh_ui (xh_ui h 36 ((xg 0 h.2.1 35 3).toNatClampNeg) x) 38 ((xg 0 (xh_ui h 36 ((xg 0 h.2.1 35 3).toNatClampNeg) x).2.1 35 3).toNatClampNeg) (vp_nar FieldType.boolean b)).2.1 35 3) = (nI vc) from (gx_o (by decide)).trans ((gx_o (by decide)).trans (e3))]
    rw [show (xg 0 (xh_ui h 36 ((xg 0 h.2.1 35 3).toNatClampNeg) x).2.1 35 3) = (nI vc) from (gx_o (by decide)).trans (e3)]
    rw [show (xg 0 h.2.1 35 3) = (nI vc) from e3]
    rw [show ((nI vc).toNatClampNeg) = vc from nI_clamp (by omega)]
    rw [show ((nI vc) + (Int32.ofInt 1)) = nI (vc + 1) from nI_1 _]
    rw [show ((nI (vc + 1)) - (Int32.ofInt 1)) = nI vc from nI_s1 _]
    have hq : a_rq a_tb (xh_ui (xh_ui (xh_ui (xh_ui h 36 vc x) 38 vc (vp_nar FieldType.boolean b)) 37 vc dy) 35 3 (nI (vc + 1))) := a_rq_ui (a_rq_ui (a_rq_ui (a_rq_ui hq)))
    exact xq_ret rfl rfl rfl ⟨rfl, fx_ui (fx_ui (fx_ui (fx_ui (fx_0) rfl) rfl) rfl) rfl, gx_s⟩
  | false =>
    have z1 : vc ≥ 60 := nq_ltf (a := vc) (b := 60) (by omega) (by omega) c1
    rw [show decide (vc < 60) = false from decide_eq_false (by omega)]
    refine xq_n 10 [] [] [.int (Int32.ofInt (-1))] h [false] 7 hq rfl ⟨(show xe_c .lt (xg 0 h.2.1 35 3) 60 = false by rw [show (xg 0 h.2.1 35 3) = (nI vc) from e3]; exact c1), trivial⟩ (fun hq => ?_)
    exact xq_ret rfl rfl rfl ⟨rfl, fx_0, e3⟩
set_option maxRecDepth 100000 in
set_option maxHeartbeats 4000000 in
theorem vt9_q {f vc : Nat} {x b z : Int32} {h : xh_H} (v6 : vc ≤ 60) (e3 : xg 0 h.2.1 35 3 = nI vc) (e9 : xg 0 h.2.1 0 9 = z) (hq : a_rq a_tb h) : xq f xi_X9_vote xmi_X9_vote 0 [(0, .ref 0), (1, .int x), (2, .int b)] [] h (fun v h' => v = some (.int (cond ((!xe_c .lt x 0 && !xe_c .ge x (Int32.ofInt 1 <<< (z &&& 31))) && decide (vc < 60)) (nI vc) (Int32.ofInt (-1)))) ∧ xg 0 h'.2.1 35 3 = nI (cond ((!xe_c .lt x 0 && !xe_c .ge x (Int32.ofInt 1 <<< (z &&& 31))) && decide (vc < 60)) (vc + 1) vc)) := by
  refine xq_n 2 [0, 1, 2] [(0, .ref 0), (1, .int x), (2, .int b)] [.int x, .ref 0] h [] 4 hq rfl trivial (fun hq => ?_)
  refine xq_run hq rfl rfl (set9_q (x := x) (z := z) (e9) hq) ?_
  rintro _ h_ ⟨rfl, rfl⟩
  cases b1 : (!xe_c .lt x 0 && !xe_c .ge x (Int32.ofInt 1 <<< (z &&& 31))) with
  | true =>
    refine xq_n 18 [0, 1, 2] [(0, .ref 0), (1, .int x), (2, .int b)] [.int (xg 0 h.2.1 0 10), .int b, .int x, .ref 35] h [false] 9 hq rfl ⟨rfl, trivial⟩ (fun hq => ?_)
    refine xq_run hq rfl rfl (vadd_q v6 e3 hq) ?_
    rintro _ h1 ⟨rfl, g1, d1⟩
    have hq := fx_q g1 hq
    refine xq_n 25 [] [] [.int (cond (decide (vc < 60)) (nI vc) (Int32.ofInt (-1)))] h1 [] 3 hq rfl trivial (fun hq => ?_)
    exact xq_ret rfl rfl rfl ⟨rfl, d1⟩
  | false =>
    refine xq_n 25 [] [] [.int (Int32.ofInt (-1))] h [true] 4 hq rfl ⟨rfl, trivial⟩ (fun hq => ?_)
    exact xq_ret rfl rfl rfl ⟨rfl, e3⟩
set_option maxRecDepth 100000 in
set_option maxHeartbeats 4000000 in
theorem vt10_q {f vc : Nat} {x b z : Int32} {h : xh_H} (v6 : vc ≤ 60) (e3 : xg 0 h.2.1 39 63 = nI vc) (e9 : xg 0 h.2.1 39 4 = z) (hq : a_rq a_tb h) : xq f xi_X10_vote xmi_X10_vote 0 [(0, .ref 39), (1, .int x), (2, .int b)] [] h (fun v h' => v = some (.int (cond ((!xe_c .lt x 0 && !xe_c .ge x (Int32.ofInt 1 <<< (z &&& 31))) && decide (vc < 60)) (nI vc) (Int32.ofInt (-1)))) ∧ xg 0 h'.2.1 39 63 = nI (cond ((!xe_c .lt x 0 && !xe_c .ge x (Int32.ofInt 1 <<< (z &&& 31))) && decide (vc < 60)) (vc + 1) vc)) := by
  cases c1 : xe_c .eq (nI vc) 60 with
  | true =>
    have z1 : vc = 60 := nq_eqt (a := vc) (b := 60) (by omega) (by omega) c1
    rw [show decide (vc < 60) = false from decide_eq_false (by omega)]
    refine xq_n 23 [] [] [.int (Int32.ofInt (-1))] (xh_ui h 39 0 (Int32.ofInt 0)) [true] 10 hq rfl ⟨(show xe_c .eq (xg 0 (xh_ui h 39 0 (Int32.ofInt 0)).2.1 39 63) 60 = true by rw [show (xg 0 (xh_ui h 39 0 (Int32.ofInt 0)).2.1 39 63) = (nI vc) from (gx_k (by decide)).trans (e3)]; exact c1), trivial⟩ (fun _ => ?_)
    have hq : a_rq a_tb (xh_ui h 39 0 (Int32.ofInt 0)) := a_rq_ui hq
    exact xq_ret rfl rfl rfl ⟨by rw [Bool.and_false]; rfl, by rw [Bool.and_false]; exact (gx_k (by decide)).trans (e3)⟩
  | false =>
    have z1 : vc ≠ 60 := nq_eqf (a := vc) (b := 60) (by omega) (by omega) c1
    rw [show decide (vc < 60) = true from decide_eq_true (by omega)]
    refine xq_n 16 [0, 1, 2] [(0, .ref 39), (1, .int x), (2, .int b)] [.int x, .ref 39] (xh_ui h 39 0 (Int32.ofInt 0)) [false] 11 hq rfl ⟨(show xe_c .eq (xg 0 (xh_ui h 39 0 (Int32.ofInt 0)).2.1 39 63) 60 = false by rw [show (xg 0 (xh_ui h 39 0 (Int32.ofInt 0)).2.1 39 63) = (nI vc) from (gx_k (by decide)).trans (e3)]; exact c1), trivial⟩ (fun _ => ?_)
    have hq : a_rq a_tb (xh_ui h 39 0 (Int32.ofInt 0)) := a_rq_ui hq
    refine xq_run hq rfl rfl (set10_q (x := x) (z := z) ((gx_k (by decide)).trans e9) hq) ?_
    rintro _ h_ ⟨rfl, rfl⟩
    cases b2 : (!xe_c .lt x 0 && !xe_c .ge x (Int32.ofInt 1 <<< (z &&& 31))) with
    | true =>
      refine xq_n 73 [] [] [.int ((xg 0 (xh_ui (xh_ui (xh_ui (xh_ui (xh_ui h 39 0 (Int32.ofInt 0)) 68 ((xg 0 (xh_ui h 39 0 (Int32.ofInt 0)).2.1 39 63).toNatClampNeg) x) 69 ((xg 0 (xh_ui (xh_ui h 39 0 (Int32.ofInt 0)) 68 ((xg 0 (xh_ui h 39 0 (Int32.ofInt 0)).2.1 39 63).toNatClampNeg) x).2.1 39 63).toNatClampNeg) (xg 0 (xh_ui (xh_ui h 39 0 (Int32.ofInt 0)) 68 ((xg 0 (xh_ui h 39 0 (Int32.ofInt 0)).2.1 39 63).toNatClampNeg) x).2.1 39 3)) 70 ((xg 0 (xh_ui (xh_ui (xh_ui h 39 0 (Int32.ofInt 0)) 68 ((xg 0 (xh_ui h 39 0 (Int32.ofInt 0)).2.1 39 63).toNatClampNeg) x) 69 ((xg 0 (xh_ui (xh_ui h 39 0 (Int32.ofInt 0)) 68 ((xg 0 (xh_ui h 39 0 (Int32.ofInt 0)).2.1 39 63).toNatClampNeg) x).2.1 39 63).toNatClampNeg) (xg 0 (xh_ui (xh_ui h 39 0 (Int32.ofInt 0)) 68 ((xg 0 (xh_ui h 39 0 (Int32.ofInt 0)).2.1 39 63).toNatClampNeg) x).2.1 39 3)).2.1 39 63).toNatClampNeg) (vp_nar FieldType.boolean b)) 39 63 ((xg 0 (xh_ui (xh_ui (xh_ui (xh_ui h 39 0 (Int32.ofInt 0)) 68 ((xg 0 (xh_ui h 39 0 (Int32.ofInt 0)).2.1 39 63).toNatClampNeg) x) 69 ((xg 0 (xh_ui (xh_ui h 39 0 (Int32.ofInt 0)) 68 ((xg 0 (xh_ui h 39 0 (Int32.ofInt 0)).2.1 39 63).toNatClampNeg) x).2.1 39 63).toNatClampNeg) (xg 0 (xh_ui (xh_ui h 39 0 (Int32.ofInt 0)) 68 ((xg 0 (xh_ui h 39 0 (Int32.ofInt 0)).2.1 39 63).toNatClampNeg) x).2.1 39 3)) 70 ((xg 0 (xh_ui (xh_ui (xh_ui h 39 0 (Int32.ofInt 0)) 68 ((xg 0 (xh_ui h 39 0 (Int32.ofInt 0)).2.1 39 63).toNatClampNeg) x) 69 ((xg 0 (xh_ui (xh_ui h 39 0 (Int32.ofInt 0)) 68 ((xg 0 (xh_ui h 39 0 (Int32.ofInt 0)).2.1 39 63).toNatClampNeg) x).2.1 39 63).toNatClampNeg) (xg 0 (xh_ui (xh_ui h 39 0 (Int32.ofInt 0)) 68 ((xg 0 (xh_ui h 39 0 (Int32.ofInt 0)).2.1 39 63).toNatClampNeg) x).2.1 39 3)).2.1 39 63).toNatClampNeg) (vp_nar FieldType.boolean b)).2.1 39 63) + (Int32.ofInt 1))).2.1 39 63) - (Int32.ofInt 1))] (xh_ui (xh_ui (xh_ui (xh_ui (xh_ui h 39 0 (Int32.ofInt 0)) 68 ((xg 0 (xh_ui h 39 0 (Int32.ofInt 0)).2.1 39 63).toNatClampNeg) x) 69 ((xg 0 (xh_ui (xh_ui h 39 0 (Int32.ofInt 0)) 68 ((xg 0 (xh_ui h 39 0 (Int32.ofInt 0)).2.1 39 63).toNatClampNeg) x).2.1 39 63).toNatClampNeg) (xg 0 (xh_ui (xh_ui h 39 0 (Int32.ofInt 0)) 68 ((xg 0 (xh_ui h 39 0 (Int32.ofInt 0)).2.1 39 63).toNatClampNeg) x).2.1 39 3)) 70 ((xg 0 (xh_ui (xh_ui (xh_ui h 39 0 (Int32.ofInt 0)) 68 ((xg 0 (xh_ui h 39 0 (Int32.ofInt 0)).2.1 39 63).toNatClampNeg) x) 69 ((xg 0 (xh_ui (xh_ui h 39 0 (Int32.ofInt 0)) 68 ((xg 0 (xh_ui h 39 0 (Int32.ofInt 0)).2.1 39 63).toNatClampNeg) x).2.1 39 63).toNatClampNeg) (xg 0 (xh_ui (xh_ui h 39 0 (Int32.ofInt 0)) 68 ((xg 0 (xh_ui h 39 0 (Int32.ofInt 0)).2.1 39 63).toNatClampNeg) x).2.1 39 3)).2.1 39 63).toNatClampNeg) (vp_nar FieldType.boolean b)) 39 63 ((xg 0 (xh_ui (xh_ui (xh_ui (xh_ui h 39 0 (Int32.ofInt 0)) 68 ((xg 0 (xh_ui h 39 0 (Int32.ofInt 0)).2.1 39 63).toNatClampNeg) x) 69 ((xg 0 (xh_ui (xh_ui h 39 0 (Int32.ofInt 0)) 68 ((xg 0 (xh_ui h 39 0 (Int32.ofInt 0)).2.1 39 63).toNatClampNeg) x).2.1 39 63).toNatClampNeg) (xg 0 (xh_ui (xh_ui h 39 0 (Int32.ofInt 0)) 68 ((xg 0 (xh_ui h 39 0 (Int32.ofInt 0)).2.1 39 63).toNatClampNeg) x).2.1 39 3)) 70 ((xg 0 (xh_ui (xh_ui (xh_ui h 39 0 (Int32.ofInt 0)) 68 ((xg 0 (xh_ui h 39 0 (Int32.ofInt 0)).2.1 39 63).toNatClampNeg) x) 69 ((xg 0 (xh_ui (xh_ui h 39 0 (Int32.ofInt 0)) 68 ((xg 0 (xh_ui h 39 0 (Int32.ofInt 0)).2.1 39 63).toNatClampNeg) x).2.1 39 63).toNatClampNeg) (xg 0 (xh_ui (xh_ui h 39 0 (Int32.ofInt 0)) 68 ((xg 0 (xh_ui h 39 0 (Int32.ofInt 0)).2.1 39 63).toNatClampNeg) x).2.1 39 3)).2.1 39 63).toNatClampNeg) (vp_nar FieldType.boolean b)).2.1 39 63) + (Int32.ofInt 1))) [true] 32 hq rfl ⟨rfl, trivial⟩ (fun _ => ?_)
      rw [show (xg 0 (xh_ui (xh_ui (xh_ui (xh_ui (xh_ui h 39 0 (Int32.ofInt 0)) 68 ((xg 0 (xh_ui h 39 0 (Int32.ofInt 0)).2.1 39 63).toNatClampNeg) x) 69 ((xg 0 (xh_ui (xh_ui h 39 0 (Int32.ofInt 0)) 68 ((xg 0 (xh_ui h 39 0 (Int32.ofInt 0)).2.1 39 63).toNatClampNeg) x).2.1 39 63).toNatClampNeg) (xg 0 (xh_ui (xh_ui h 39 0 (Int32.ofInt 0)) 68 ((xg 0 (xh_ui h 39 0 (Int32.ofInt 0)).2.1 39 63).toNatClampNeg) x).2.1 39 3)) 70 ((xg 0 (xh_ui (xh_ui (xh_ui h 39 0 (Int32.ofInt 0)) 68 ((xg 0 (xh_ui h 39 0 (Int32.ofInt 0)).2.1 39 63).toNatClampNeg) x) 69 ((xg 0 (xh_ui (xh_ui h 39 0 (Int32.ofInt 0)) 68 ((xg 0 (xh_ui h 39 0 (Int32.ofInt 0)).2.1 39 63).toNatClampNeg) x).2.1 39 63).toNatClampNeg) (xg 0 (xh_ui (xh_ui h 39 0 (Int32.ofInt 0)) 68 ((xg 0 (xh_ui h 39 0 (Int32.ofInt 0)).2.1 39 63).toNatClampNeg) x).2.1 39 3)).2.1 39 63).toNatClampNeg) (vp_nar FieldType.boolean b)) 39 63 ((xg 0 (xh_ui (xh_ui (xh_ui (xh_ui h 39 0 (Int32.ofInt 0)) 68 ((xg 0 (xh_ui h 39 0 (Int32.ofInt 0)).2.1 39 63).toNatClampNeg) x) 69 ((xg 0 (xh_ui (xh_ui h 39 0 (Int32.ofInt 0)) 68 ((xg 0 (xh_ui h 39 0 (Int32.ofInt 0)).2.1 39 63).toNatClampNeg) x).2.1 39 63).toNatClampNeg) (xg 0 (xh_ui (xh_ui h 39 0 (Int32.ofInt 0)) 68 ((xg 0 (xh_ui h 39 0 (Int32.ofInt 0)).2.1 39 63).toNatClampNeg) x).2.1 39 3)) 70 ((xg 0 (xh_ui (xh_ui (xh_ui h 39 0 (Int32.ofInt 0)) 68 ((xg 0 (xh_ui h 39 0 (Int32.ofInt 0)).2.1 39 63).toNatClampNeg) x) 69 ((xg 0 (xh_ui (xh_ui h 39 0 (Int32.ofInt 0)) 68 ((xg 0 (xh_ui h 39 0 (Int32.ofInt 0)).2.1 39 63).toNatClampNeg) x).2.1 39 63).toNatClampNeg) (xg 0 (xh_ui (xh_ui h 39 0 (Int32.ofInt 0)) 68 ((xg 0 (xh_ui h 39 0 (Int32.ofInt 0)).2.1 39 63).toNatClampNeg) x).2.1 39 3)).2.1 39 63).toNatClampNeg) (vp_nar FieldType.boolean b)).2.1 39 63) + (Int32.ofInt 1))).2.1 39 63) = ((xg 0 (xh_ui (xh_ui (xh_ui (xh_ui h 39 0 (Int32.ofInt 0)) 68 ((xg 0 (xh_ui h 39 0 (Int32.ofInt 0)).2.1 39 63).toNatClampNeg) x) 69 ((xg 0 (xh_ui (xh_ui h 39 0 (Int32.ofInt 0)) 68 ((xg 0 (xh_ui h 39 0 (Int32.ofInt 0)).2.1 39 63).toNatClampNeg) x).2.1 39 63).toNatClampNeg) (xg 0 (xh_ui (xh_ui h 39 0 (Int32.ofInt 0)) 68 ((xg 0 (xh_ui h 39 0 (Int32.ofInt 0)).2.1 39 63).toNatClampNeg) x).2.1 39 3)) 70 ((xg 0 (xh_ui (xh_ui (xh_ui h 39 0 (Int32.ofInt 0)) 68 ((xg 0 (xh_ui h 39 0 (Int32.ofInt 0)).2.1 39 63).toNatClampNeg) x) 69 ((xg 0 (xh_ui (xh_ui h 39 0 (Int32.ofInt 0)) 68 ((xg 0 (xh_ui h 39 0 (Int32.ofInt 0)).2.1 39 63).toNatClampNeg) x).2.1 39 63).toNatClampNeg) (xg 0 (xh_ui (xh_ui h 39 0 (Int32.ofInt 0)) 68 ((xg 0 (xh_ui h 39 0 (Int32.ofInt 0)).2.1 39 63).toNatClampNeg) x).2.1 39 3)).2.1 39 63).toNatClampNeg) (vp_nar FieldType.boolean b)).2.1 39 63) + (Int32.ofInt 1)) from gx_s]
      rw [show (xg 0 (xh_ui (xh_ui (xh_ui (xh_ui h 39 0 (Int32.ofInt 0)) 68 ((xg 0 (xh_ui h 39 0 (Int32.ofInt 0)).2.1 39 63).toNatClampNeg) x) 69 ((xg 0 (xh_ui (xh_ui h 39 0 (Int32.ofInt 0)) 68 ((xg 0 (xh_ui h 39 0 (Int32.ofInt 0)).2.1 39 63).toNatClampNeg) x).2.1 39 63).toNatClampNeg) (xg 0 (xh_ui (xh_ui h 39 0 (Int32.ofInt 0)) 68 ((xg 0 (xh_ui h 39 0 (Int32.ofInt 0)).2.1 39 63).toNatClampNeg) x).2.1 39 3)) 70 ((xg 0 (xh_ui (xh_ui (xh_ui h 39 0 (Int32.ofInt 0)) 68 ((xg 0 (xh_ui h 39 0 (Int32.ofInt 0)).2.1 39 63).toNatClampNeg) x) 69 ((xg 0 (xh_ui (xh_ui h 39 0 (Int32.ofInt 0)) 68 ((xg 0 (xh_ui h 39 0 (Int32.ofInt 0)).2.1 39 63).toNatClampNeg) x).2.1 39 63).toNatClampNeg) (xg 0 (xh_ui (xh_ui h 39 0 (Int32.ofInt 0)) 68 ((xg 0 (xh_ui h 39 0 (Int32.ofInt 0)).2.1 39 63).toNatClampNeg) x).2.1 39 3)).2.1 39 63).toNatClampNeg) (vp_nar FieldType.boolean b)).2.1 39 63) = (nI vc) from (gx_o (by decide)).trans ((gx_o (by decide)).trans ((gx_o (by decide)).trans ((gx_k (by decide)).trans (e3))))]
      rw [show (xg 0 (xh_ui (xh_ui (xh_ui h 39 0 (Int32.ofInt 0)) 68 ((xg 0 (xh_ui h 39 0 (Int32.ofInt 0)).2.1 39 63).toNatClampNeg) x) 69 ((xg 0 (xh_ui (xh_ui h 39 0 (Int32.ofInt 0)) 68 ((xg 0 (xh_ui h 39 0 (Int32.ofInt 0)).2.1 39 63).toNatClampNeg) x).2.1 39 63).toNatClampNeg) (xg 0 (xh_ui (xh_ui h 39 0 (Int32.ofInt 0)) 68 ((xg 0 (xh_ui h 39 0 (Int32.ofInt 0)).2.1 39 63).toNatClampNeg) x).2.1 39 3)).2.1 39 63) = (nI vc) from (gx_o (by decide)).trans ((gx_o (by decide)).trans ((gx_k (by decide)).trans (e3)))]
      rw [show (xg 0 (xh_ui (xh_ui h 39 0 (Int32.ofInt 0)) 68 ((xg 0 (xh_ui h 39 0 (Int32.ofInt 0)).2.1 39 63).toNatClampNeg) x).2.1 39 63) = (nI vc) from (gx_o (by decide)).trans ((gx_k (by decide)).trans (e3))]
      rw [show (xg 0 (xh_ui (xh_ui h 39 0 (Int32.ofInt 0)) 68 ((xg 0 (xh_ui h 39 0 (Int32.ofInt 0)).2.1 39 63).toNatClampNeg) x).2.1 39 3) = (xg 0 h.2.1 39 3) from (gx_o (by decide)).trans (gx_k (by decide))]
      rw [show (xg 0 (xh_ui h 39 0 (Int32.ofInt 0)).2.1 39 63) = (nI vc) from (gx_k (by decide)).trans (e3)]
      rw [show ((nI vc).toNatClampNeg) = vc from nI_clamp (by omega)]
      rw [show ((nI vc) + (Int32.ofInt 1)) = nI (vc + 1) from nI_1 _]
      rw [show ((nI (vc + 1)) - (Int32.ofInt 1)) = nI vc from nI_s1 _]
      have hq : a_rq a_tb (xh_ui (xh_ui (xh_ui (xh_ui (xh_ui h 39 0 (Int32.ofInt 0)) 68 vc x) 69 vc (xg 0 h.2.1 39 3)) 70 vc (vp_nar FieldType.boolean b)) 39 63 (nI (vc + 1))) := a_rq_ui (a_rq_ui (a_rq_ui (a_rq_ui hq)))
      exact xq_ret rfl rfl rfl ⟨rfl, gx_s⟩
    | false =>
      refine xq_n 23 [] [] [.int (Int32.ofInt (-1))] (xh_ui h 39 0 (Int32.ofInt 0)) [false] 4 hq rfl ⟨rfl, trivial⟩ (fun hq => ?_)
      exact xq_ret rfl rfl rfl ⟨rfl, ((gx_k (by decide)).trans (e3))⟩
def mbB (s v r x : Int32) : Bool := (!xe_c .lt x (Int32.ofInt 1) && xe_c .le x 12) && (!xe_c .gt s 0 && (!xe_c .gt v 0 && xe_c .eq r 0))
theorem in_c {a x b : Int32} : decide (a.toInt ≤ x.toInt ∧ x.toInt ≤ b.toInt) = (!xe_c .lt x a && xe_c .le x b) := by
  cases c1 : xe_c .lt x a with
  | true =>
    have b1 : x.toInt < a.toInt := a_ce c1
    rw [decide_eq_false (by omega)]; rfl
  | false =>
    have b1 : a.toInt ≤ x.toInt := a_ce (a_neg_ok c1)
    cases c2 : xe_c .le x b with
    | true =>
      have b2 : x.toInt ≤ b.toInt := a_ce c2
      rw [decide_eq_true ⟨b1, b2⟩]; rfl
    | false =>
      have b2 : b.toInt < x.toInt := a_ce (a_neg_ok c2)
      rw [decide_eq_false (by omega)]; rfl
theorem xq_cr {f mid : Nat} {mi : xm_M} {pc : Nat} {lv : List (Nat × Value)} {st : List Value} {h : xh_H} {Q : Option Value → xh_H → Prop} {r : xr_R} {mj : xm_M} {As q : List Value} {Q1 : Option Value → xh_H → Prop} (hr : xC mid pc = some r) (hi : xe_isr r.1 = false) (h2 : ∀ d lw, xe_2 none mi.2.2.2.1 r d pc lw st h 0 0 = none) (hcl : xe_cl xM r st h = some (mj, As, q)) (hm : ∀ f, xq f r.2.2.1 mj 0 (lv_args 0 As) [] h Q1) (k : ∀ v h', Q1 v h' → xq f mid mi (pc + 3) lv (v.toList ++ q) h' Q) : xq f mid mi pc lv st h Q := by
  intro d lw w h' c s hs hx
  obtain ⟨g, eg, ⟨o', e2, -⟩ | ⟨-, d', mj', As', q', v1, h1, mc, ms, rfl, e5, e6, e7⟩⟩ := xq_s hr hi hx
  · rw [h2] at e2
    cases e2
  · rw [hcl] at e5
    cases e5
    have q1 := hm g d' _ v1 h1 mc ms ⟨lv_args_nd, fun i v e => e⟩ e6
    rw [Nat.zero_add, Nat.zero_add] at e7
    have e8 : xe_x xM xC none g (d' + 1) mid mi (pc + 3, lw, v1.toList ++ q, h1, mc, ms) = _ := xe_x_am (scr := none) (mid := mid) (mi := mi) g (d' + 1) (pc + 3) lw (v1.toList ++ q) h1 mc ms 0 0
    rw [e7] at e8
    cases h9 : xe_x xM xC none g (d' + 1) mid mi (pc + 3, lw, v1.toList ++ q, h1, 0, 0) with
    | none => rw [h9] at e8; cases e8
    | some t =>
      obtain ⟨v2, h2, c2, s2⟩ := t
      rw [h9] at e8
      cases e8
      exact k v1 h1 q1 (d' + 1) lw v2 h2 c2 s2 hs (xe_x_le (by omega) h9)
theorem na_q {f q : Nat} {x : Int32} {h : xh_H} (hi : a_inv a_tb h) (hn : 72 ≤ h.1.length) (r : a_r h.1.length 11 q) (x1 : 1 ≤ x.toInt) (x2 : x.toInt ≤ 12) : xq f xi_X7_needAll xmi_X7_needAll 0 [(0, .ref q), (1, .int x)] [] h (fun v h' => v = none ∧ h'.1 = h.1 ∧ a_inv a_tb h' ∧ a_fr [] h h') := by
  refine xq_of (d := 1) ⟨_, rfl⟩ ?_
  obtain ⟨v, h', r1, p1, p2, ⟨t, ht, p3⟩, p4⟩ := as_m_X7_needAll 1 xmi_X7_needAll [.ref q, .int x] h (fun _ => 0) (by decide) rfl hi hn ⟨⟨q, rfl, r⟩, a_ai x1 x2, trivial⟩ a_fp0
  refine ⟨v, h', r1, ?_, p2, p1, p4⟩
  cases List.mem_singleton.mp ht
  exact p3.1
set_option maxRecDepth 100000 in
set_option maxHeartbeats 4000000 in
theorem mb9_q {f : Nat} {x s w r : Int32} {h : xh_H} (hi : a_inv a_tb h) (hn : 72 ≤ h.1.length) (e8 : xg 0 h.2.1 0 8 = s) (e3 : xg 0 h.2.1 35 3 = w) (e1 : xg 0 h.2.1 28 1 = r) : xq f xi_X9_members xmi_X9_members 0 [(0, .ref 0), (1, .int x)] [] h (fun v h' => v = some (.int (bl (mbB s w r x))) ∧ xg 0 h'.2.1 0 9 = cond (mbB s w r x) x (xg 0 h.2.1 0 9)) := by
  have hq := a_rq_of hi.1 hn
  cases c1 : xe_c .gt s 0 with
  | true =>
    refine xq_n 49 [] [] [.int (Int32.ofInt 0)] h [true, true] 11 hq rfl ⟨(show xe_c .gt (xg 0 h.2.1 0 8) 0 = true by rw [show (xg 0 h.2.1 0 8) = s from e8]; exact c1), (by decide), trivial⟩ (fun hq => ?_)
    have hB : mbB s w r x = false := by unfold mbB; (rw [c1]) <;> simp only [Bool.not_true, Bool.not_false, Bool.true_and, Bool.false_and, Bool.and_false, Bool.and_true]
    exact xq_ret rfl rfl rfl ⟨by first | (rw [hB]; done) | (rw [hB]; rfl), by first | (rw [hB]; done) | (rw [hB]; exact rfl)⟩
  | false =>
    cases c2 : xe_c .gt w 0 with
    | true =>
      refine xq_n 49 [] [] [.int (Int32.ofInt 0)] h [false, true, true] 15 hq rfl ⟨(show xe_c .gt (xg 0 h.2.1 0 8) 0 = false by rw [show (xg 0 h.2.1 0 8) = s from e8]; exact c1), (show xe_c .gt (xg 0 h.2.1 35 3) 0 = true by rw [show (xg 0 h.2.1 35 3) = w from e3]; exact c2), (by decide), trivial⟩ (fun hq => ?_)
      have hB : mbB s w r x = false := by unfold mbB; (rw [c1, c2]) <;> simp only [Bool.not_true, Bool.not_false, Bool.true_and, Bool.false_and, Bool.and_false, Bool.and_true]
      exact xq_ret rfl rfl rfl ⟨by first | (rw [hB]; done) | (rw [hB]; rfl), by first | (rw [hB]; done) | (rw [hB]; exact rfl)⟩
    | false =>
      cases c3 : xe_c .eq r 0 with
      | true =>
        cases c4 : xe_c .lt x (Int32.ofInt 1) with
        | true =>
          refine xq_n 49 [] [] [.int (Int32.ofInt 0)] h [false, false, true, false, true] 21 hq rfl ⟨(show xe_c .gt (xg 0 h.2.1 0 8) 0 = false by rw [show (xg 0 h.2.1 0 8) = s from e8]; exact c1), (show xe_c .gt (xg 0 h.2.1 35 3) 0 = false by rw [show (xg 0 h.2.1 35 3) = w from e3]; exact c2), (show xe_c .eq (xg 0 h.2.1 28 1) 0 = true by rw [show (xg 0 h.2.1 28 1) = r from e1]; exact c3), (by decide), c4, trivial⟩ (fun hq => ?_)
          have hB : mbB s w r x = false := by unfold mbB; (rw [c1, c2, c3, c4]) <;> simp only [Bool.not_true, Bool.not_false, Bool.true_and, Bool.false_and, Bool.and_false, Bool.and_true]
          exact xq_ret rfl rfl rfl ⟨by first | (rw [hB]; done) | (rw [hB]; rfl), by first | (rw [hB]; done) | (rw [hB]; exact rfl)⟩
        | false =>
          cases c5 : xe_c .le x 12 with
          | true =>
            refine xq_n 60 [0, 1, 2] [(0, .ref 0), (1, .int x), (2, .int (Int32.ofInt 0))] [.int x, va_rf (xg none (xh_ui h 0 9 x).2.2.2 0 2)] (xh_ui h 0 9 x) [false, false, true, false, false, true] 29 hq rfl ⟨(show xe_c .gt (xg 0 h.2.1 0 8) 0 = false by rw [show (xg 0 h.2.1 0 8) = s from e8]; exact c1), (show xe_c .gt (xg 0 h.2.1 35 3) 0 = false by rw [show (xg 0 h.2.1 35 3) = w from e3]; exact c2), (show xe_c .eq (xg 0 h.2.1 28 1) 0 = true by rw [show (xg 0 h.2.1 28 1) = r from e1]; exact c3), (by decide), c4, c5, trivial⟩ (fun _ => ?_)
            have hq : a_rq a_tb (xh_ui h 0 9 x) := a_rq_ui hq
            have x1 : (Int32.ofInt 1).toInt ≤ x.toInt := a_ce (a_neg_ok c4)
            have x2 : x.toInt ≤ (12 : Int32).toInt := a_ce c5
            have k0 : hk [(0, 9)] h (xh_ui h 0 9 x) := hk_ui (s := (0, 9)) (lo := 1) (hi := 12) (hk_0 hi) hn rfl rfl x1 x2 rfl rfl
            obtain ⟨q, e, rq⟩ : a_e (xh_ui h 0 9 x) 0 2 (2, 11, 0) := ((k0.1.1 0 (0, 9) (hq.2.1 0 (0, 9) rfl)).2 2 (by decide))
            rw [e]
            have sh := a_sh_at k0.1 rq (show a_sh[11]? = some (0, 7) from rfl)
            refine xq_cr (As := [.ref q, .int x]) (mj := xmi_X7_needAll) (q := []) rfl rfl (fun _ _ => rfl) ?_ (fun f => na_q (f := f) (x := x) k0.1 (hk_n k0 hn) rq x1 x2) ?_
            · show (match (xh_ui h 0 9 x).1[q]? with | some (0, ci) => _ | _ => none) = _
              rw [sh]
              rfl
            rintro _ h1 ⟨rfl, l1, i1, f1⟩
            have hq := a_rq_of i1.1 (show 72 ≤ h1.1.length by rw [l1]; exact hk_n k0 hn)
            have d1 : xg 0 h1.2.1 0 9 = x := (fr_g f1 rfl rfl).trans gx_s
            refine xq_n 64 [] [] [.int (Int32.ofInt 1)] h1 [] 3 hq rfl trivial (fun hq => ?_)
            have hB : mbB s w r x = true := by unfold mbB; (rw [c1, c2, c3, c4, c5]) <;> simp only [Bool.not_true, Bool.not_false, Bool.true_and, Bool.false_and, Bool.and_false, Bool.and_true]
            exact xq_ret rfl rfl rfl ⟨by first | (rw [hB]; done) | (rw [hB]; rfl), by first | (rw [hB]; done) | (rw [hB]; exact d1)⟩
          | false =>
            refine xq_n 49 [] [] [.int (Int32.ofInt 0)] h [false, false, true, false, false, false] 24 hq rfl ⟨(show xe_c .gt (xg 0 h.2.1 0 8) 0 = false by rw [show (xg 0 h.2.1 0 8) = s from e8]; exact c1), (show xe_c .gt (xg 0 h.2.1 35 3) 0 = false by rw [show (xg 0 h.2.1 35 3) = w from e3]; exact c2), (show xe_c .eq (xg 0 h.2.1 28 1) 0 = true by rw [show (xg 0 h.2.1 28 1) = r from e1]; exact c3), (by decide), c4, c5, trivial⟩ (fun hq => ?_)
            have hB : mbB s w r x = false := by unfold mbB; (rw [c1, c2, c3, c4, c5]) <;> simp only [Bool.not_true, Bool.not_false, Bool.true_and, Bool.false_and, Bool.and_false, Bool.and_true]
            exact xq_ret rfl rfl rfl ⟨by first | (rw [hB]; done) | (rw [hB]; rfl), by first | (rw [hB]; done) | (rw [hB]; exact rfl)⟩
      | false =>
        refine xq_n 49 [] [] [.int (Int32.ofInt 0)] h [false, false, false, true] 19 hq rfl ⟨(show xe_c .gt (xg 0 h.2.1 0 8) 0 = false by rw [show (xg 0 h.2.1 0 8) = s from e8]; exact c1), (show xe_c .gt (xg 0 h.2.1 35 3) 0 = false by rw [show (xg 0 h.2.1 35 3) = w from e3]; exact c2), (show xe_c .eq (xg 0 h.2.1 28 1) 0 = false by rw [show (xg 0 h.2.1 28 1) = r from e1]; exact c3), (by decide), trivial⟩ (fun hq => ?_)
        have hB : mbB s w r x = false := by unfold mbB; (rw [c1, c2, c3]) <;> simp only [Bool.not_true, Bool.not_false, Bool.true_and, Bool.false_and, Bool.and_false, Bool.and_true]
        exact xq_ret rfl rfl rfl ⟨by first | (rw [hB]; done) | (rw [hB]; rfl), by first | (rw [hB]; done) | (rw [hB]; exact rfl)⟩
set_option maxRecDepth 100000 in
set_option maxHeartbeats 4000000 in
theorem mb10_q {f : Nat} {x s w r : Int32} {h : xh_H} (hq : a_rq a_tb h) (e8 : xg 0 h.2.1 39 33 = s) (e3 : xg 0 h.2.1 39 63 = w) (e1 : xg 0 h.2.1 39 5 = r) : xq f xi_X10_members xmi_X10_members 0 [(0, .ref 39), (1, .int x)] [] h (fun v h' => v = some (.int (bl (mbB s w r x))) ∧ xg 0 h'.2.1 39 4 = cond (mbB s w r x) x (xg 0 h.2.1 39 4)) := by
  refine xq_n 9 [0, 1] [(0, .ref 39), (1, .int x)] [.int 12, .int (Int32.ofInt 1), .int x] (xh_ui h 39 0 (Int32.ofInt 0)) [] 8 hq rfl trivial (fun _ => ?_)
  have hq : a_rq a_tb (xh_ui h 39 0 (Int32.ofInt 0)) := a_rq_ui hq
  refine xq_run hq rfl rfl (isIn_q hq) ?_
  rintro _ h_ ⟨rfl, rfl⟩
  rw [in_c]
  cases b1 : (!xe_c .lt x (Int32.ofInt 1) && xe_c .le x 12) with
  | true =>
    cases c2 : xe_c .gt s 0 with
    | true =>
      refine xq_n 37 [] [] [.int (Int32.ofInt 0)] (xh_ui h 39 0 (Int32.ofInt 0)) [false, true] 7 hq rfl ⟨rfl, (show xe_c .gt (xg 0 (xh_ui h 39 0 (Int32.ofInt 0)).2.1 39 33) 0 = true by rw [show (xg 0 (xh_ui h 39 0 (Int32.ofInt 0)).2.1 39 33) = s from (gx_k (by decide)).trans (e8)]; exact c2), trivial⟩ (fun hq => ?_)
      have hB : mbB s w r x = false := by unfold mbB; rw [b1, c2]; rfl
      exact xq_ret rfl rfl rfl ⟨by first | (rw [hB]; done) | (rw [hB]; rfl), by first | (rw [hB]; done) | (rw [hB]; exact gx_k (by decide))⟩
    | false =>
      cases c3 : xe_c .gt w 0 with
      | true =>
        refine xq_n 37 [] [] [.int (Int32.ofInt 0)] (xh_ui h 39 0 (Int32.ofInt 0)) [false, false, true] 10 hq rfl ⟨rfl, (show xe_c .gt (xg 0 (xh_ui h 39 0 (Int32.ofInt 0)).2.1 39 33) 0 = false by rw [show (xg 0 (xh_ui h 39 0 (Int32.ofInt 0)).2.1 39 33) = s from (gx_k (by decide)).trans (e8)]; exact c2), (show xe_c .gt (xg 0 (xh_ui h 39 0 (Int32.ofInt 0)).2.1 39 63) 0 = true by rw [show (xg 0 (xh_ui h 39 0 (Int32.ofInt 0)).2.1 39 63) = w from (gx_k (by decide)).trans (e3)]; exact c3), trivial⟩ (fun hq => ?_)
        have hB : mbB s w r x = false := by unfold mbB; rw [b1, c2, c3]; rfl
        exact xq_ret rfl rfl rfl ⟨by first | (rw [hB]; done) | (rw [hB]; rfl), by first | (rw [hB]; done) | (rw [hB]; exact gx_k (by decide))⟩
      | false =>
        cases c4 : xe_c .eq r 0 with
        | true =>
          refine xq_n 44 [] [] [.int (Int32.ofInt 1)] (xh_ui (xh_ui h 39 0 (Int32.ofInt 0)) 39 4 x) [false, false, false, true] 16 hq rfl ⟨rfl, (show xe_c .gt (xg 0 (xh_ui h 39 0 (Int32.ofInt 0)).2.1 39 33) 0 = false by rw [show (xg 0 (xh_ui h 39 0 (Int32.ofInt 0)).2.1 39 33) = s from (gx_k (by decide)).trans (e8)]; exact c2), (show xe_c .gt (xg 0 (xh_ui h 39 0 (Int32.ofInt 0)).2.1 39 63) 0 = false by rw [show (xg 0 (xh_ui h 39 0 (Int32.ofInt 0)).2.1 39 63) = w from (gx_k (by decide)).trans (e3)]; exact c3), (show xe_c .eq (xg 0 (xh_ui h 39 0 (Int32.ofInt 0)).2.1 39 5) 0 = true by rw [show (xg 0 (xh_ui h 39 0 (Int32.ofInt 0)).2.1 39 5) = r from (gx_k (by decide)).trans (e1)]; exact c4), trivial⟩ (fun _ => ?_)
          have hq : a_rq a_tb (xh_ui (xh_ui h 39 0 (Int32.ofInt 0)) 39 4 x) := a_rq_ui hq
          have hB : mbB s w r x = true := by simp only [mbB, b1, c2, c3, c4]; rfl
          exact xq_ret rfl rfl rfl ⟨by first | (rw [hB]; done) | (rw [hB]; rfl), by first | (rw [hB]; done) | (rw [hB]; exact gx_s)⟩
        | false =>
          refine xq_n 37 [] [] [.int (Int32.ofInt 0)] (xh_ui h 39 0 (Int32.ofInt 0)) [false, false, false, false] 13 hq rfl ⟨rfl, (show xe_c .gt (xg 0 (xh_ui h 39 0 (Int32.ofInt 0)).2.1 39 33) 0 = false by rw [show (xg 0 (xh_ui h 39 0 (Int32.ofInt 0)).2.1 39 33) = s from (gx_k (by decide)).trans (e8)]; exact c2), (show xe_c .gt (xg 0 (xh_ui h 39 0 (Int32.ofInt 0)).2.1 39 63) 0 = false by rw [show (xg 0 (xh_ui h 39 0 (Int32.ofInt 0)).2.1 39 63) = w from (gx_k (by decide)).trans (e3)]; exact c3), (show xe_c .eq (xg 0 (xh_ui h 39 0 (Int32.ofInt 0)).2.1 39 5) 0 = false by rw [show (xg 0 (xh_ui h 39 0 (Int32.ofInt 0)).2.1 39 5) = r from (gx_k (by decide)).trans (e1)]; exact c4), trivial⟩ (fun hq => ?_)
          have hB : mbB s w r x = false := by unfold mbB; rw [b1, c2, c3, c4]; rfl
          exact xq_ret rfl rfl rfl ⟨by first | (rw [hB]; done) | (rw [hB]; rfl), by first | (rw [hB]; done) | (rw [hB]; exact gx_k (by decide))⟩
  | false =>
    refine xq_n 37 [] [] [.int (Int32.ofInt 0)] (xh_ui h 39 0 (Int32.ofInt 0)) [true] 4 hq rfl ⟨rfl, trivial⟩ (fun hq => ?_)
    have hB : mbB s w r x = false := by unfold mbB; rw [b1]; rfl
    exact xq_ret rfl rfl rfl ⟨by first | (rw [hB]; done) | (rw [hB]; rfl), by first | (rw [hB]; done) | (rw [hB]; exact gx_k (by decide))⟩
end XRJ
end
section
section XNX
/-- what next answers, and the day behind it -/
def nx_ok (t : Nat) (n : Int32) : Bool := decide (0 ≤ n.toInt) && decide ((t : Int) + n.toInt ≤ 999)
def nx_a (t : Nat) (n : Int32) : Int32 := cond (nx_ok t n) (nI (t + n.toInt.toNat)) (Int32.ofInt (-1))
def nx_t (t : Nat) (n : Int32) : Nat := cond (nx_ok t n) (t + n.toInt.toNat) t
theorem nx_t9 {t : Nat} {n : Int32} (h : t ≤ 999) : nx_t t n ≤ 999 := by
  unfold nx_t
  cases hb : nx_ok t n with
  | false => exact h
  | true =>
    unfold nx_ok at hb
    rw [Bool.and_eq_true, decide_eq_true_eq, decide_eq_true_eq] at hb
    show t + n.toInt.toNat ≤ 999
    omega
theorem nx_no {t : Nat} {n : Int32} (h : ¬ (0 ≤ n.toInt ∧ (t : Int) + n.toInt ≤ 999)) : nx_ok t n = false := by
  unfold nx_ok
  rw [Bool.eq_false_iff]
  intro z
  rw [Bool.and_eq_true, decide_eq_true_eq, decide_eq_true_eq] at z
  exact h z
theorem nx_y {t : Nat} {n : Int32} (h1 : 0 ≤ n.toInt) (h2 : (t : Int) + n.toInt ≤ 999) : nx_ok t n = true := by
  unfold nx_ok
  rw [decide_eq_true h1, decide_eq_true h2]
  rfl
set_option maxRecDepth 100000 in
theorem n9_run {d t : Nat} {n : Int32} {h : xh_H} (hn : 72 ≤ h.1.length) (hi : a_inv a_tb h) (t9 : t ≤ 999) (ht : xg 0 h.2.1 0 10 = nI t) : xt_P d xi_X9_next xmi_X9_next 0 [(0, .ref 0), (1, .int n)] [] h (fun v h' => hk [(0, 10)] h h' ∧ v = some (.int (nx_a t n)) ∧ xg 0 h'.2.1 0 10 = nI (nx_t t n)) := by
  have hq := a_rq_of hi.1 hn
  have ti := nI_toInt (n := t) (by omega)
  have z0 : (0 : Int32).toInt = 0 := rfl
  have z9 : (999 : Int32).toInt = 999 := rfl
  have no : nx_ok t n = false → hk [(0, 10)] h h ∧ some (Value.int (Int32.ofInt (-1))) = some (.int (nx_a t n)) ∧ xg 0 h.2.1 0 10 = nI (nx_t t n) := fun z => by
    refine ⟨hk_0 hi, ?_, ?_⟩
    · unfold nx_a
      rw [z]
      rfl
    · unfold nx_t
      rw [z]
      exact ht
  cases c1 : xe_c .lt n 0 with
  | true =>
    have b1 : n.toInt < (0 : Int) := a_ce c1
    refine xa_tn 24 [] [] [.int (Int32.ofInt (-1))] h [true] 5 hq rfl ⟨c1, trivial⟩ (fun _ => ?_)
    exact xp_ret rfl rfl rfl (no (nx_no (by omega)))
  | false =>
    have b1 : (0 : Int) ≤ n.toInt := a_ce (a_neg_ok c1)
    cases c2 : xe_c .gt n 999 with
    | true =>
      have b2 : (999 : Int) < n.toInt := a_ce c2
      refine xa_tn 24 [] [] [.int (Int32.ofInt (-1))] h [false, true] 8 hq rfl ⟨c1, c2, trivial⟩ (fun _ => ?_)
      exact xp_ret rfl rfl rfl (no (nx_no (by omega)))
    | false =>
      have b2 : n.toInt ≤ (999 : Int) := a_ce (a_neg_ok c2)
      have es : (nI t + n).toInt = (t : Int) + n.toInt := by rw [i_add (by rw [ti]; omega) (by rw [ti]; omega), ti]
      by_cases hs : (t : Int) + n.toInt ≤ 999
      · refine xa_tn 39 [] [] [.int (xg 0 (xh_ui h 0 10 ((xg 0 h.2.1 0 10) + n)).2.1 0 10)] (xh_ui h 0 10 ((xg 0 h.2.1 0 10) + n)) [false, false, true] 21 hq rfl ⟨c1, c2, xle_t (show ((xg 0 h.2.1 0 10) + n).toInt ≤ (999 : Int32).toInt by rw [ht, es, z9]; exact hs), trivial⟩ (fun _ => ?_)
        have en : nI t + n = nI (t + n.toInt.toNat) := Int32.toInt_inj.mp (by rw [es, nI_toInt (by omega)]; omega)
        rw [ht, en]
        have ni := nI_toInt (n := t + n.toInt.toNat) (by omega)
        refine xp_ret rfl rfl rfl ⟨hk_ui (s := (0, 9)) (lo := -2147483648) (hi := 2147483647) (hk_0 hi) hn rfl rfl (by omega) (by omega) rfl rfl, ?_, ?_⟩
        · unfold nx_a
          rw [nx_y b1 hs, gx_s]
          rfl
        · unfold nx_t
          rw [nx_y b1 hs]
          exact gx_s
      · refine xa_tn 24 [] [] [.int (Int32.ofInt (-1))] h [false, false, false] 14 hq rfl ⟨c1, c2, xle_f (show (999 : Int32).toInt < ((xg 0 h.2.1 0 10) + n).toInt by rw [ht, es, z9]; omega), trivial⟩ (fun _ => ?_)
        exact xp_ret rfl rfl rfl (no (nx_no (by omega)))
set_option maxRecDepth 100000 in
theorem isj_run {d : Nat} {x lo hi : Int32} {h : xh_H} (hq : a_rq a_tb h) : xt_P d xi_X10_isIn xmi_X10_isIn 0 [(0, .int x), (1, .int lo), (2, .int hi)] [] h (fun v h' => h = h' ∧ v = some (.int (bl (decide (lo.toInt ≤ x.toInt ∧ x.toInt ≤ hi.toInt))))) := by
  cases c1 : xe_c .lt x lo with
  | true =>
    have b1 : x.toInt < lo.toInt := a_ce c1
    refine xa_tn 15 [] [] [.int (Int32.ofInt 0)] h [true] 6 hq rfl ⟨c1, trivial⟩ (fun _ => ?_)
    refine xp_ret rfl rfl rfl ⟨rfl, ?_⟩
    rw [decide_eq_false (by omega)]
    rfl
  | false =>
    have b1 : lo.toInt ≤ x.toInt := a_ce (a_neg_ok c1)
    cases c2 : xe_c .gt x hi with
    | true =>
      have b2 : hi.toInt < x.toInt := a_ce c2
      refine xa_tn 15 [] [] [.int (Int32.ofInt 0)] h [false, true] 9 hq rfl ⟨c1, c2, trivial⟩ (fun _ => ?_)
      refine xp_ret rfl rfl rfl ⟨rfl, ?_⟩
      rw [decide_eq_false (by omega)]
      rfl
    | false =>
      have b2 : x.toInt ≤ hi.toInt := a_ce (a_neg_ok c2)
      refine xa_tn 15 [] [] [.int (Int32.ofInt 1)] h [false, false] 10 hq rfl ⟨c1, c2, trivial⟩ (fun _ => ?_)
      refine xp_ret rfl rfl rfl ⟨rfl, ?_⟩
      rw [decide_eq_true ⟨b1, b2⟩]
      rfl
set_option maxRecDepth 100000 in
theorem n10_run {d t : Nat} {n : Int32} {h : xh_H} (hn : 72 ≤ h.1.length) (hi : a_inv a_tb h) (t9 : t ≤ 999) (ht : xg 0 h.2.1 39 3 = nI t) : xt_P (d + 1) xi_X10_next xmi_X10_next 0 [(0, .ref 39), (1, .int n)] [] h (fun v h' => hk [(39, 0), (39, 3)] h h' ∧ v = some (.int (nx_a t n)) ∧ xg 0 h'.2.1 39 3 = nI (nx_t t n)) := by
  have hq := a_rq_of hi.1 hn
  have ti := nI_toInt (n := t) (by omega)
  have z9 : (999 : Int32).toInt = 999 := rfl
  have z0 : (Int32.ofInt 0).toInt = 0 := rfl
  refine xa_tn 10 [0, 1] [(0, .ref 39), (1, .int n)] [.int 999, .int (Int32.ofInt 0), .int n] (xh_ui h 39 0 (Int32.ofInt 0)) [] 8 hq rfl trivial (fun _ => ?_)
  have hk1 : hk [(39, 0), (39, 3)] h (xh_ui h 39 0 (Int32.ofInt 0)) := hk_ui (s := (0, 10)) (lo := 0) (hi := 1) (hk_0 hi) hn rfl rfl (by decide) (by decide) rfl rfl
  have e3 : xg 0 (xh_ui h 39 0 (Int32.ofInt 0)).2.1 39 3 = nI t := by rw [gx_k (by decide)]; exact ht
  generalize xh_ui h 39 0 (Int32.ofInt 0) = h1 at hk1 e3 ⊢
  have q1 := hk_q hk1 hn
  have no : nx_ok t n = false → hk [(39, 0), (39, 3)] h h1 ∧ some (Value.int (Int32.ofInt (-1))) = some (.int (nx_a t n)) ∧ xg 0 h1.2.1 39 3 = nI (nx_t t n) := fun z => by
    refine ⟨hk1, ?_, ?_⟩
    · unfold nx_a
      rw [z]
      rfl
    · unfold nx_t
      rw [z]
      exact e3
  refine xp_run q1 rfl rfl (isj_run (d := d) (x := n) (lo := Int32.ofInt 0) (hi := 999) q1) ?_
  rintro v h2 ⟨rfl, rfl⟩
  rw [z0, z9]
  by_cases hr : (0 : Int) ≤ n.toInt ∧ n.toInt ≤ 999
  · rw [decide_eq_true hr]
    have es : (nI t + n).toInt = (t : Int) + n.toInt := by rw [i_add (by rw [ti]; omega) (by rw [ti]; omega), ti]
    by_cases hs : (t : Int) + n.toInt ≤ 999
    · refine xa_tn 44 [] [] [.int (xg 0 (xh_ui h1 39 3 ((xg 0 h1.2.1 39 3) + n)).2.1 39 3)] (xh_ui h1 39 3 ((xg 0 h1.2.1 39 3) + n)) [false, true] 17 q1 rfl ⟨rfl, xle_t (show ((xg 0 h1.2.1 39 3) + n).toInt ≤ (999 : Int32).toInt by rw [e3, es, z9]; exact hs), trivial⟩ (fun _ => ?_)
      have en : nI t + n = nI (t + n.toInt.toNat) := Int32.toInt_inj.mp (by rw [es, nI_toInt (by omega)]; omega)
      rw [e3, en]
      have ni := nI_toInt (n := t + n.toInt.toNat) (by omega)
      refine xp_ret rfl rfl rfl ⟨hk_ui (s := (0, 10)) (lo := -2147483648) (hi := 2147483647) hk1 hn rfl rfl (by omega) (by omega) rfl rfl, ?_, ?_⟩
      · unfold nx_a
        rw [nx_y hr.1 hs, gx_s]
        rfl
      · unfold nx_t
        rw [nx_y hr.1 hs]
        exact gx_s
    · refine xa_tn 29 [] [] [.int (Int32.ofInt (-1))] h1 [false, false] 10 q1 rfl ⟨rfl, xle_f (show (999 : Int32).toInt < ((xg 0 h1.2.1 39 3) + n).toInt by rw [e3, es, z9]; omega), trivial⟩ (fun _ => ?_)
      exact xp_ret rfl rfl rfl (no (nx_no (by omega)))
  · rw [decide_eq_false hr]
    refine xa_tn 29 [] [] [.int (Int32.ofInt (-1))] h1 [true] 4 q1 rfl ⟨rfl, trivial⟩ (fun _ => ?_)
    exact xp_ret rfl rfl rfl (no (nx_no (by omega)))
end XNX
end
section
section XCN
/-- a single step that leaves locals and heap -/
theorem xq_1 {f mid : Nat} {mi : xm_M} {pc : Nat} {lv : List (Nat × Value)} {st : List Value} {h : xh_H} {Q : Option Value → xh_H → Prop} {r : xr_R} {pc1 : Nat} {st1 : List Value} (hr : xC mid pc = some r) (hi : xe_isr r.1 = false) (h2 : ∀ d lw, xe_2 none mi.2.2.2.1 r d pc lw st h 0 0 = some (pc1, lw, st1, h, 0, 0)) (k : xq f mid mi pc1 lv st1 h Q) : xq f mid mi pc lv st h Q := by
  intro d lw v h' c s hs hx
  obtain ⟨g, eg, ⟨o', e2, e3⟩ | ⟨e2, -⟩⟩ := xq_s hr hi hx
  · rw [h2] at e2
    cases e2
    exact k d lw v h' c s hs (xe_x_le (by omega) e3)
  · rw [h2] at e2
    cases e2
/-- what count answers -/
def cnA (x a b c d e : Int32) : Int32 := if x = 0 then a else if x = 1 then b else if x = 2 then c else if x = 3 then d else if x = 4 then e else Int32.ofInt (-1)
theorem cnA_o {x a b c d e : Int32} (hx : x.toInt < 0 ∨ 4 < x.toInt) : cnA x a b c d e = Int32.ofInt (-1) := by
  unfold cnA
  rw [if_neg, if_neg, if_neg, if_neg, if_neg]
  all_goals
    rintro rfl
    revert hx
    decide
theorem cn_k {x : Int32} (hx : ¬ (x.toInt < 0 ∨ 4 < x.toInt)) : x = 0 ∨ x = 1 ∨ x = 2 ∨ x = 3 ∨ x = 4 := by
  have i0 : (0 : Int32).toInt = 0 := rfl
  have i1 : (1 : Int32).toInt = 1 := rfl
  have i2 : (2 : Int32).toInt = 2 := rfl
  have i3 : (3 : Int32).toInt = 3 := rfl
  have i4 : (4 : Int32).toInt = 4 := rfl
  have : x.toInt = 0 ∨ x.toInt = 1 ∨ x.toInt = 2 ∨ x.toInt = 3 ∨ x.toInt = 4 := by omega
  rcases this with z | z | z | z | z
  · exact Or.inl (Int32.toInt_inj.mp (z.trans i0.symm))
  · exact Or.inr (Or.inl (Int32.toInt_inj.mp (z.trans i1.symm)))
  · exact Or.inr (Or.inr (Or.inl (Int32.toInt_inj.mp (z.trans i2.symm))))
  · exact Or.inr (Or.inr (Or.inr (Or.inl (Int32.toInt_inj.mp (z.trans i3.symm)))))
  · exact Or.inr (Or.inr (Or.inr (Or.inr (Int32.toInt_inj.mp (z.trans i4.symm)))))
set_option maxRecDepth 100000 in
set_option maxHeartbeats 4000000 in
theorem cn9_q {f : Nat} {x a b c d e : Int32} {h : xh_H} (hq : a_rq a_tb h) (e0 : xg 0 h.2.1 0 10 = a) (e1 : xg 0 h.2.1 0 9 = b) (e2 : xg 0 h.2.1 0 8 = c) (e3 : xg 0 h.2.1 35 3 = d) (e4 : xg 0 h.2.1 1 1 = e) : xq f xi_X9_count xmi_X9_count 0 [(0, .ref 0), (1, .int x)] [] h (fun v h' => v = some (.int (cnA x a b c d e))) := by
  refine xq_n 1 [0] [(0, .ref 0)] [.int x] h [] 3 hq rfl trivial (fun hq => ?_)
  by_cases hx : x.toInt < 0 ∨ 4 < x.toInt
  · refine xq_1 (pc1 := 67) (st1 := []) rfl rfl (fun _ _ => by rcases hx with hx | hx <;> simp [xe_2, xe_1, xp_i, hx]) ?_
    refine xq_n 68 [] [] [.int (Int32.ofInt (-1))] h [] 3 hq rfl trivial (fun hq => ?_)
    exact xq_ret rfl rfl rfl (by rw [cnA_o hx])
  · rcases cn_k hx with rfl | rfl | rfl | rfl | rfl
    · refine xq_1 (pc1 := 36) (st1 := []) rfl rfl (fun _ _ => rfl) ?_
      refine xq_n 40 [] [] [.int (xg 0 h.2.1 0 10)] h [] 4 hq rfl trivial (fun hq => ?_)
      rw [e0]
      exact xq_ret rfl rfl rfl rfl
    · refine xq_1 (pc1 := 41) (st1 := []) rfl rfl (fun _ _ => rfl) ?_
      refine xq_n 45 [] [] [.int (xg 0 h.2.1 0 9)] h [] 4 hq rfl trivial (fun hq => ?_)
      rw [e1]
      exact xq_ret rfl rfl rfl rfl
    · refine xq_1 (pc1 := 46) (st1 := []) rfl rfl (fun _ _ => rfl) ?_
      refine xq_n 50 [] [] [.int (xg 0 h.2.1 0 8)] h [] 4 hq rfl trivial (fun hq => ?_)
      rw [e2]
      exact xq_ret rfl rfl rfl rfl
    · refine xq_1 (pc1 := 51) (st1 := []) rfl rfl (fun _ _ => rfl) ?_
      refine xq_n 58 [] [] [.int (xg 0 h.2.1 35 3)] h [] 5 hq rfl trivial (fun hq => ?_)
      rw [e3]
      exact xq_ret rfl rfl rfl rfl
    · refine xq_1 (pc1 := 59) (st1 := []) rfl rfl (fun _ _ => rfl) ?_
      refine xq_n 66 [] [] [.int (xg 0 h.2.1 1 1)] h [] 5 hq rfl trivial (fun hq => ?_)
      rw [e4]
      exact xq_ret rfl rfl rfl rfl
set_option maxRecDepth 100000 in
set_option maxHeartbeats 4000000 in
theorem cn10_q {f : Nat} {x a b c d e : Int32} {h : xh_H} (hq : a_rq a_tb h) (e0 : xg 0 h.2.1 39 3 = a) (e1 : xg 0 h.2.1 39 4 = b) (e2 : xg 0 h.2.1 39 33 = c) (e3 : xg 0 h.2.1 39 63 = d) (e4 : xg 0 h.2.1 39 2 = e) : xq f xi_X10_count xmi_X10_count 0 [(0, .ref 39), (1, .int x)] [] h (fun v h' => v = some (.int (cnA x a b c d e))) := by
  refine xq_n 6 [0] [(0, .ref 39)] [.int x] (xh_ui h 39 0 (Int32.ofInt 0)) [] 6 hq rfl trivial (fun _ => ?_)
  have hq : a_rq a_tb (xh_ui h 39 0 (Int32.ofInt 0)) := a_rq_ui hq
  by_cases hx : x.toInt < 0 ∨ 4 < x.toInt
  · refine xq_1 (pc1 := 65) (st1 := []) rfl rfl (fun _ _ => by rcases hx with hx | hx <;> simp [xe_2, xe_1, xp_i, hx]) ?_
    refine xq_n 66 [] [] [.int (Int32.ofInt (-1))] (xh_ui h 39 0 (Int32.ofInt 0)) [] 3 hq rfl trivial (fun hq => ?_)
    exact xq_ret rfl rfl rfl (by rw [cnA_o hx])
  · rcases cn_k hx with rfl | rfl | rfl | rfl | rfl
    · refine xq_1 (pc1 := 40) (st1 := []) rfl rfl (fun _ _ => rfl) ?_
      refine xq_n 44 [] [] [.int (xg 0 (xh_ui h 39 0 (Int32.ofInt 0)).2.1 39 3)] (xh_ui h 39 0 (Int32.ofInt 0)) [] 4 hq rfl trivial (fun hq => ?_)
      rw [show xg 0 (xh_ui h 39 0 (Int32.ofInt 0)).2.1 39 3 = a from (gx_k (by decide)).trans e0]
      exact xq_ret rfl rfl rfl rfl
    · refine xq_1 (pc1 := 45) (st1 := []) rfl rfl (fun _ _ => rfl) ?_
      refine xq_n 49 [] [] [.int (xg 0 (xh_ui h 39 0 (Int32.ofInt 0)).2.1 39 4)] (xh_ui h 39 0 (Int32.ofInt 0)) [] 4 hq rfl trivial (fun hq => ?_)
      rw [show xg 0 (xh_ui h 39 0 (Int32.ofInt 0)).2.1 39 4 = b from (gx_k (by decide)).trans e1]
      exact xq_ret rfl rfl rfl rfl
    · refine xq_1 (pc1 := 50) (st1 := []) rfl rfl (fun _ _ => rfl) ?_
      refine xq_n 54 [] [] [.int (xg 0 (xh_ui h 39 0 (Int32.ofInt 0)).2.1 39 33)] (xh_ui h 39 0 (Int32.ofInt 0)) [] 4 hq rfl trivial (fun hq => ?_)
      rw [show xg 0 (xh_ui h 39 0 (Int32.ofInt 0)).2.1 39 33 = c from (gx_k (by decide)).trans e2]
      exact xq_ret rfl rfl rfl rfl
    · refine xq_1 (pc1 := 55) (st1 := []) rfl rfl (fun _ _ => rfl) ?_
      refine xq_n 59 [] [] [.int (xg 0 (xh_ui h 39 0 (Int32.ofInt 0)).2.1 39 63)] (xh_ui h 39 0 (Int32.ofInt 0)) [] 4 hq rfl trivial (fun hq => ?_)
      rw [show xg 0 (xh_ui h 39 0 (Int32.ofInt 0)).2.1 39 63 = d from (gx_k (by decide)).trans e3]
      exact xq_ret rfl rfl rfl rfl
    · refine xq_1 (pc1 := 60) (st1 := []) rfl rfl (fun _ _ => rfl) ?_
      refine xq_n 64 [] [] [.int (xg 0 (xh_ui h 39 0 (Int32.ofInt 0)).2.1 39 2)] (xh_ui h 39 0 (Int32.ofInt 0)) [] 4 hq rfl trivial (fun hq => ?_)
      rw [show xg 0 (xh_ui h 39 0 (Int32.ofInt 0)).2.1 39 2 = e from (gx_k (by decide)).trans e4]
      exact xq_ret rfl rfl rfl rfl
set_option maxRecDepth 100000 in
theorem fa9_q {f : Nat} {a : Int32} {h : xh_H} (hq : a_rq a_tb h) (e : xg 0 h.2.1 0 11 = a) : xq f xi_X9_fault xmi_X9_fault 0 [(0, .ref 0)] [] h (fun v h' => v = some (.int a)) := by
  refine xq_n 4 [] [] [.int (xg 0 h.2.1 0 11)] h [] 4 hq rfl trivial (fun hq => ?_)
  rw [e]
  exact xq_ret rfl rfl rfl rfl
set_option maxRecDepth 100000 in
theorem fa10_q {f : Nat} {a : Int32} {h : xh_H} (hq : a_rq a_tb h) (e : xg 0 h.2.1 39 13 = a) : xq f xi_X10_fault xmi_X10_fault 0 [(0, .ref 39)] [] h (fun v h' => v = some (.int a)) := by
  refine xq_n 9 [] [] [.int (xg 0 (xh_ui h 39 0 (Int32.ofInt 0)).2.1 39 13)] (xh_ui h 39 0 (Int32.ofInt 0)) [] 7 hq rfl trivial (fun _ => ?_)
  rw [show xg 0 (xh_ui h 39 0 (Int32.ofInt 0)).2.1 39 13 = a from (gx_k (by decide)).trans e]
  exact xq_ret rfl rfl rfl rfl
end XCN
end
section
section XJG
theorem bl_o1 {a : Bool} : bl a ||| Int32.ofInt 1 = bl true := by cases a <;> rfl
theorem bl_o0 {a : Bool} : bl a ||| Int32.ofInt 0 = bl a := by cases a <;> rfl
theorem gt_le {a b : Int32} : xe_c .gt a b = !xe_c .le a b := by
  show decide (b < a) = !decide (a ≤ b)
  by_cases h : a ≤ b
  · rw [decide_eq_true h, decide_eq_false (fun z => absurd (Int32.lt_iff_toInt_lt.mp z) (by have := Int32.le_iff_toInt_le.mp h; omega))]
    rfl
  · rw [decide_eq_false h, decide_eq_true (Int32.lt_iff_toInt_lt.mpr (by have := mt Int32.le_iff_toInt_le.mpr h; omega))]
    rfl
theorem bit_sub {x s : Int32} : (s &&& (x ^^^ Int32.ofInt (-1)) = 0) ↔ (x &&& s = s) := by
  rw [← Int32.toBitVec_inj, ← Int32.toBitVec_inj, Int32.toBitVec_and, Int32.toBitVec_and, Int32.toBitVec_xor]
  have e1 : (Int32.ofInt (-1)).toBitVec = BitVec.allOnes 32 := by decide
  have e0 : (0 : Int32).toBitVec = 0#32 := rfl
  rw [e1, e0]
  constructor
  · intro h
    apply BitVec.eq_of_getLsbD_eq
    intro i hi
    have := congrArg (fun b => b.getLsbD i) h
    simp only [BitVec.getLsbD_and, BitVec.getLsbD_xor, BitVec.getLsbD_allOnes, BitVec.getLsbD_zero, hi, decide_true] at this
    rw [BitVec.getLsbD_and]
    revert this
    cases x.toBitVec.getLsbD i <;> cases s.toBitVec.getLsbD i <;> simp
  · intro h
    apply BitVec.eq_of_getLsbD_eq
    intro i hi
    have := congrArg (fun b => b.getLsbD i) h
    simp only [BitVec.getLsbD_and] at this
    simp only [BitVec.getLsbD_and, BitVec.getLsbD_xor, BitVec.getLsbD_allOnes, BitVec.getLsbD_zero, hi, decide_true]
    revert this
    cases x.toBitVec.getLsbD i <;> cases s.toBitVec.getLsbD i <;> simp
theorem sb_1 {x s : Int32} : xe_c .ne (s &&& (x ^^^ Int32.ofInt (-1))) 0 = xe_c .ne (x &&& s) s := by
  show (!decide _) = !decide _
  rw [decide_eq_decide.mpr bit_sub]
theorem sb_2 {x s : Int32} : xe_c .ne (x &&& (s ^^^ Int32.ofInt (-1))) 0 = xe_c .ne (x &&& s) x := by
  rw [sb_1, show s &&& x = x &&& s from Int32.and_comm _ _]
/-- what the votes say of a set on a day -/
def jg (S D P : Nat → Int32) (x t : Int32) : Nat → Nat → Bool → Bool → Int32
  | 0, _, a, b => cond a (cond b (Int32.ofInt 3) (Int32.ofInt 1)) (cond b (Int32.ofInt 0) (Int32.ofInt 2))
  | j + 1, i, a, b => cond (xe_c .gt (D i) t) (jg S D P x t j (i + 1) a b) (jg S D P x t j (i + 1) ((!xe_c .eq (P i) 0 && !xe_c .ne (S i &&& (x ^^^ Int32.ofInt (-1))) 0) || a) ((xe_c .eq (P i) 0 && !xe_c .ne (x &&& (S i ^^^ Int32.ofInt (-1))) 0) || b))
set_option maxRecDepth 100000 in
set_option maxHeartbeats 4000000 in
theorem jd9_l {f n : Nat} {S D P : Nat → Int32} {x t : Int32} {h : xh_H} (n6 : n ≤ 60) (e3 : xg 0 h.2.1 35 3 = nI n) (hA : ∀ k, k < n → xg 0 h.2.1 36 k = S k ∧ xg 0 h.2.1 37 k = D k ∧ xg 0 h.2.1 38 k = P k) (hq : a_rq a_tb h) : ∀ (j i : Nat) (a b : Bool), i + j = n → xq f xi_X1_judge xmi_X1_judge 8 [(0, .ref 35), (1, .int x), (2, .int t), (3, .int (bl a)), (4, .int (bl b)), (5, .int (nI i))] [] h (fun v h' => h = h' ∧ v = some (.int (jg S D P x t j i a b))) := by
  intro j
  induction j with
  | zero =>
    intro i a b ij
    cases c1 : xe_c .ge (nI i) (nI n) with
    | true =>
      have z1 : i ≥ n := nq_get (a := i) (b := n) (by omega) (by omega) c1
      cases b2 : a with
      | true =>
        cases b3 : b with
        | true =>
          refine xq_n 114 [] [] [.int (Int32.ofInt 3)] h [true, false, false] 12 hq rfl ⟨(show xe_c .ge (nI i) (xg 0 h.2.1 35 3) = true by rw [show (xg 0 h.2.1 35 3) = (nI n) from e3]; exact c1), rfl, rfl, trivial⟩ (fun hq => ?_)
          exact xq_ret rfl rfl rfl ⟨rfl, rfl⟩
        | false =>
          refine xq_n 114 [] [] [.int (Int32.ofInt 1)] h [true, false, true] 11 hq rfl ⟨(show xe_c .ge (nI i) (xg 0 h.2.1 35 3) = true by rw [show (xg 0 h.2.1 35 3) = (nI n) from e3]; exact c1), rfl, rfl, trivial⟩ (fun hq => ?_)
          exact xq_ret rfl rfl rfl ⟨rfl, rfl⟩
      | false =>
        cases b4 : b with
        | true =>
          refine xq_n 125 [] [] [.int (Int32.ofInt 0)] h [true, true, false] 12 hq rfl ⟨(show xe_c .ge (nI i) (xg 0 h.2.1 35 3) = true by rw [show (xg 0 h.2.1 35 3) = (nI n) from e3]; exact c1), rfl, rfl, trivial⟩ (fun hq => ?_)
          exact xq_ret rfl rfl rfl ⟨rfl, rfl⟩
        | false =>
          refine xq_n 125 [] [] [.int (Int32.ofInt 2)] h [true, true, true] 11 hq rfl ⟨(show xe_c .ge (nI i) (xg 0 h.2.1 35 3) = true by rw [show (xg 0 h.2.1 35 3) = (nI n) from e3]; exact c1), rfl, rfl, trivial⟩ (fun hq => ?_)
          exact xq_ret rfl rfl rfl ⟨rfl, rfl⟩
    | false =>
      have z1 : i < n := nq_gef (a := i) (b := n) (by omega) (by omega) c1
      omega
  | succ j ih =>
    intro i a b ij
    have hR : jg S D P x t (j + 1) i a b = cond (xe_c .gt (D i) t) (jg S D P x t j (i + 1) a b) (jg S D P x t j (i + 1) ((!xe_c .eq (P i) 0 && !xe_c .ne (S i &&& (x ^^^ Int32.ofInt (-1))) 0) || a) ((xe_c .eq (P i) 0 && !xe_c .ne (x &&& (S i ^^^ Int32.ofInt (-1))) 0) || b)) := rfl
    rw [hR]
    cases c1 : xe_c .ge (nI i) (nI n) with
    | true =>
      have z1 : i ≥ n := nq_get (a := i) (b := n) (by omega) (by omega) c1
      omega
    | false =>
      have z1 : i < n := nq_gef (a := i) (b := n) (by omega) (by omega) c1
      cases c2 : xe_c .gt (D i) t with
      | true =>
        refine xq_n 8 [0, 1, 2, 3, 4, 5] [(0, .ref 35), (1, .int x), (2, .int t), (3, .int (bl a)), (4, .int (bl b)), (5, .int ((nI i) + Int32.ofInt 1))] [] h [false, true] 14 hq rfl ⟨(show xe_c .ge (nI i) (xg 0 h.2.1 35 3) = false by rw [show (xg 0 h.2.1 35 3) = (nI n) from e3]; exact c1), (show xe_c .gt (xg 0 h.2.1 37 ((nI i).toNatClampNeg)) t = true by rw [show (xg 0 h.2.1 37 ((nI i).toNatClampNeg)) = (D i) from (by rw [show ((nI i).toNatClampNeg) = i from nI_clamp (by omega)]; exact (hA i (by omega)).2.1)]; exact c2), trivial⟩ (fun hq => ?_)
        rw [show ((nI i) + Int32.ofInt 1) = nI (i + 1) from nI_1 _]
        exact ih (i + 1) a b (by omega)
      | false =>
        cases c3 : xe_c .eq (P i) 0 with
        | true =>
          cases c4 : xe_c .ne (x &&& ((S i) ^^^ (Int32.ofInt (-1)))) 0 with
          | true =>
            refine xq_n 8 [0, 1, 2, 3, 4, 5] [(0, .ref 35), (1, .int x), (2, .int t), (3, .int ((bl a) ||| (Int32.ofInt 0))), (4, .int ((bl b) ||| (Int32.ofInt 0))), (5, .int ((nI i) + Int32.ofInt 1))] [] h [false, false, true, false, true] 41 hq rfl ⟨(show xe_c .ge (nI i) (xg 0 h.2.1 35 3) = false by rw [show (xg 0 h.2.1 35 3) = (nI n) from e3]; exact c1), (show xe_c .gt (xg 0 h.2.1 37 ((nI i).toNatClampNeg)) t = false by rw [show (xg 0 h.2.1 37 ((nI i).toNatClampNeg)) = (D i) from (by rw [show ((nI i).toNatClampNeg) = i from nI_clamp (by omega)]; exact (hA i (by omega)).2.1)]; exact c2), (show xe_c .eq (xg 0 h.2.1 38 ((nI i).toNatClampNeg)) 0 = true by rw [show (xg 0 h.2.1 38 ((nI i).toNatClampNeg)) = (P i) from (by rw [show ((nI i).toNatClampNeg) = i from nI_clamp (by omega)]; exact (hA i (by omega)).2.2)]; exact c3), (show xe_c .ne (xg 0 h.2.1 38 ((nI i).toNatClampNeg)) 0 = false by rw [show (xg 0 h.2.1 38 ((nI i).toNatClampNeg)) = (P i) from (by rw [show ((nI i).toNatClampNeg) = i from nI_clamp (by omega)]; exact (hA i (by omega)).2.2), xc_ne, c3]; rfl), (show xe_c .ne (x &&& ((xg 0 h.2.1 36 ((nI i).toNatClampNeg)) ^^^ (Int32.ofInt (-1)))) 0 = true by rw [show (xg 0 h.2.1 36 ((nI i).toNatClampNeg)) = (S i) from (by rw [show ((nI i).toNatClampNeg) = i from nI_clamp (by omega)]; exact (hA i (by omega)).1)]; exact c4), trivial⟩ (fun hq => ?_)
            rw [show ((bl a) ||| (Int32.ofInt 0)) = bl a from bl_o0]
            rw [show ((bl b) ||| (Int32.ofInt 0)) = bl b from bl_o0]
            rw [show ((nI i) + Int32.ofInt 1) = nI (i + 1) from nI_1 _]
            exact ih (i + 1) a b (by omega)
          | false =>
            refine xq_n 8 [0, 1, 2, 3, 4, 5] [(0, .ref 35), (1, .int x), (2, .int t), (3, .int ((bl a) ||| (Int32.ofInt 0))), (4, .int ((bl b) ||| (Int32.ofInt 1))), (5, .int ((nI i) + Int32.ofInt 1))] [] h [false, false, true, false, false] 42 hq rfl ⟨(show xe_c .ge (nI i) (xg 0 h.2.1 35 3) = false by rw [show (xg 0 h.2.1 35 3) = (nI n) from e3]; exact c1), (show xe_c .gt (xg 0 h.2.1 37 ((nI i).toNatClampNeg)) t = false by rw [show (xg 0 h.2.1 37 ((nI i).toNatClampNeg)) = (D i) from (by rw [show ((nI i).toNatClampNeg) = i from nI_clamp (by omega)]; exact (hA i (by omega)).2.1)]; exact c2), (show xe_c .eq (xg 0 h.2.1 38 ((nI i).toNatClampNeg)) 0 = true by rw [show (xg 0 h.2.1 38 ((nI i).toNatClampNeg)) = (P i) from (by rw [show ((nI i).toNatClampNeg) = i from nI_clamp (by omega)]; exact (hA i (by omega)).2.2)]; exact c3), (show xe_c .ne (xg 0 h.2.1 38 ((nI i).toNatClampNeg)) 0 = false by rw [show (xg 0 h.2.1 38 ((nI i).toNatClampNeg)) = (P i) from (by rw [show ((nI i).toNatClampNeg) = i from nI_clamp (by omega)]; exact (hA i (by omega)).2.2), xc_ne, c3]; rfl), (show xe_c .ne (x &&& ((xg 0 h.2.1 36 ((nI i).toNatClampNeg)) ^^^ (Int32.ofInt (-1)))) 0 = false by rw [show (xg 0 h.2.1 36 ((nI i).toNatClampNeg)) = (S i) from (by rw [show ((nI i).toNatClampNeg) = i from nI_clamp (by omega)]; exact (hA i (by omega)).1)]; exact c4), trivial⟩ (fun hq => ?_)
            rw [show ((bl b) ||| (Int32.ofInt 1)) = bl true from bl_o1]
            rw [show ((bl a) ||| (Int32.ofInt 0)) = bl a from bl_o0]
            rw [show ((nI i) + Int32.ofInt 1) = nI (i + 1) from nI_1 _]
            exact ih (i + 1) a true (by omega)
        | false =>
          cases c5 : xe_c .ne ((S i) &&& (x ^^^ (Int32.ofInt (-1)))) 0 with
          | true =>
            refine xq_n 8 [0, 1, 2, 3, 4, 5] [(0, .ref 35), (1, .int x), (2, .int t), (3, .int ((bl a) ||| (Int32.ofInt 0))), (4, .int ((bl b) ||| (Int32.ofInt 0))), (5, .int ((nI i) + Int32.ofInt 1))] [] h [false, false, false, true, true] 41 hq rfl ⟨(show xe_c .ge (nI i) (xg 0 h.2.1 35 3) = false by rw [show (xg 0 h.2.1 35 3) = (nI n) from e3]; exact c1), (show xe_c .gt (xg 0 h.2.1 37 ((nI i).toNatClampNeg)) t = false by rw [show (xg 0 h.2.1 37 ((nI i).toNatClampNeg)) = (D i) from (by rw [show ((nI i).toNatClampNeg) = i from nI_clamp (by omega)]; exact (hA i (by omega)).2.1)]; exact c2), (show xe_c .eq (xg 0 h.2.1 38 ((nI i).toNatClampNeg)) 0 = false by rw [show (xg 0 h.2.1 38 ((nI i).toNatClampNeg)) = (P i) from (by rw [show ((nI i).toNatClampNeg) = i from nI_clamp (by omega)]; exact (hA i (by omega)).2.2)]; exact c3), (show xe_c .ne ((xg 0 h.2.1 36 ((nI i).toNatClampNeg)) &&& (x ^^^ (Int32.ofInt (-1)))) 0 = true by rw [show (xg 0 h.2.1 36 ((nI i).toNatClampNeg)) = (S i) from (by rw [show ((nI i).toNatClampNeg) = i from nI_clamp (by omega)]; exact (hA i (by omega)).1)]; exact c5), (show xe_c .ne (xg 0 h.2.1 38 ((nI i).toNatClampNeg)) 0 = true by rw [show (xg 0 h.2.1 38 ((nI i).toNatClampNeg)) = (P i) from (by rw [show ((nI i).toNatClampNeg) = i from nI_clamp (by omega)]; exact (hA i (by omega)).2.2), xc_ne, c3]; rfl), trivial⟩ (fun hq => ?_)
            rw [show ((bl a) ||| (Int32.ofInt 0)) = bl a from bl_o0]
            rw [show ((bl b) ||| (Int32.ofInt 0)) = bl b from bl_o0]
            rw [show ((nI i) + Int32.ofInt 1) = nI (i + 1) from nI_1 _]
            exact ih (i + 1) a b (by omega)
          | false =>
            refine xq_n 8 [0, 1, 2, 3, 4, 5] [(0, .ref 35), (1, .int x), (2, .int t), (3, .int ((bl a) ||| (Int32.ofInt 1))), (4, .int ((bl b) ||| (Int32.ofInt 0))), (5, .int ((nI i) + Int32.ofInt 1))] [] h [false, false, false, false, true] 42 hq rfl ⟨(show xe_c .ge (nI i) (xg 0 h.2.1 35 3) = false by rw [show (xg 0 h.2.1 35 3) = (nI n) from e3]; exact c1), (show xe_c .gt (xg 0 h.2.1 37 ((nI i).toNatClampNeg)) t = false by rw [show (xg 0 h.2.1 37 ((nI i).toNatClampNeg)) = (D i) from (by rw [show ((nI i).toNatClampNeg) = i from nI_clamp (by omega)]; exact (hA i (by omega)).2.1)]; exact c2), (show xe_c .eq (xg 0 h.2.1 38 ((nI i).toNatClampNeg)) 0 = false by rw [show (xg 0 h.2.1 38 ((nI i).toNatClampNeg)) = (P i) from (by rw [show ((nI i).toNatClampNeg) = i from nI_clamp (by omega)]; exact (hA i (by omega)).2.2)]; exact c3), (show xe_c .ne ((xg 0 h.2.1 36 ((nI i).toNatClampNeg)) &&& (x ^^^ (Int32.ofInt (-1)))) 0 = false by rw [show (xg 0 h.2.1 36 ((nI i).toNatClampNeg)) = (S i) from (by rw [show ((nI i).toNatClampNeg) = i from nI_clamp (by omega)]; exact (hA i (by omega)).1)]; exact c5), (show xe_c .ne (xg 0 h.2.1 38 ((nI i).toNatClampNeg)) 0 = true by rw [show (xg 0 h.2.1 38 ((nI i).toNatClampNeg)) = (P i) from (by rw [show ((nI i).toNatClampNeg) = i from nI_clamp (by omega)]; exact (hA i (by omega)).2.2), xc_ne, c3]; rfl), trivial⟩ (fun hq => ?_)
            rw [show ((bl a) ||| (Int32.ofInt 1)) = bl true from bl_o1]
            rw [show ((bl b) ||| (Int32.ofInt 0)) = bl b from bl_o0]
            rw [show ((nI i) + Int32.ofInt 1) = nI (i + 1) from nI_1 _]
            exact ih (i + 1) true b (by omega)
set_option maxRecDepth 100000 in
set_option maxHeartbeats 4000000 in
theorem jd9_q {f n : Nat} {S D P : Nat → Int32} {x t : Int32} {h : xh_H} (n6 : n ≤ 60) (e3 : xg 0 h.2.1 35 3 = nI n) (hA : ∀ k, k < n → xg 0 h.2.1 36 k = S k ∧ xg 0 h.2.1 37 k = D k ∧ xg 0 h.2.1 38 k = P k) (hq : a_rq a_tb h) : xq f xi_X1_judge xmi_X1_judge 0 [(0, .ref 35), (1, .int x), (2, .int t)] [] h (fun v h' => h = h' ∧ v = some (.int (jg S D P x t n 0 false false))) := by
  refine xq_n 8 [0, 1, 2, 3, 4, 5] [(0, .ref 35), (1, .int x), (2, .int t), (3, .int (Int32.ofInt 0)), (4, .int (Int32.ofInt 0)), (5, .int (Int32.ofInt 0))] [] h [] 8 hq rfl trivial (fun hq => ?_)
  exact jd9_l n6 e3 hA hq n 0 false false (by omega)
set_option maxRecDepth 100000 in
set_option maxHeartbeats 4000000 in
theorem jd10_l {f n : Nat} {S D P : Nat → Int32} {x t : Int32} {h : xh_H} (n6 : n ≤ 60) (e3 : xg 0 h.2.1 39 63 = nI n) (hA : ∀ k, k < n → xg 0 h.2.1 68 k = S k ∧ xg 0 h.2.1 69 k = D k ∧ xg 0 h.2.1 70 k = P k) (hq : a_rq a_tb h) : ∀ (j i : Nat) (a b : Bool), i + j = n → xq f xi_X10_sureOf xmi_X10_sureOf 8 [(0, .ref 39), (1, .int x), (2, .int t), (3, .int (bl a)), (4, .int (bl b)), (5, .int (nI i))] [] h (fun v h' => h = h' ∧ v = some (.int (jg S D P x t j i a b))) := by
  intro j
  induction j with
  | zero =>
    intro i a b ij
    cases c1 : xe_c .ge (nI i) (nI n) with
    | true =>
      have z1 : i ≥ n := nq_get (a := i) (b := n) (by omega) (by omega) c1
      cases b2 : a with
      | true =>
        cases b3 : b with
        | true =>
          refine xq_n 121 [] [] [.int (Int32.ofInt 3)] h [true, false, false] 12 hq rfl ⟨(show xe_c .ge (nI i) (xg 0 h.2.1 39 63) = true by rw [show (xg 0 h.2.1 39 63) = (nI n) from e3]; exact c1), rfl, rfl, trivial⟩ (fun hq => ?_)
          exact xq_ret rfl rfl rfl ⟨rfl, rfl⟩
        | false =>
          refine xq_n 121 [] [] [.int (Int32.ofInt 1)] h [true, false, true] 12 hq rfl ⟨(show xe_c .ge (nI i) (xg 0 h.2.1 39 63) = true by rw [show (xg 0 h.2.1 39 63) = (nI n) from e3]; exact c1), rfl, rfl, trivial⟩ (fun hq => ?_)
          exact xq_ret rfl rfl rfl ⟨rfl, rfl⟩
      | false =>
        cases b4 : b with
        | true =>
          refine xq_n 121 [] [] [.int (Int32.ofInt 0)] h [true, true, false] 12 hq rfl ⟨(show xe_c .ge (nI i) (xg 0 h.2.1 39 63) = true by rw [show (xg 0 h.2.1 39 63) = (nI n) from e3]; exact c1), rfl, rfl, trivial⟩ (fun hq => ?_)
          exact xq_ret rfl rfl rfl ⟨rfl, rfl⟩
        | false =>
          refine xq_n 121 [] [] [.int (Int32.ofInt 2)] h [true, true, true] 11 hq rfl ⟨(show xe_c .ge (nI i) (xg 0 h.2.1 39 63) = true by rw [show (xg 0 h.2.1 39 63) = (nI n) from e3]; exact c1), rfl, rfl, trivial⟩ (fun hq => ?_)
          exact xq_ret rfl rfl rfl ⟨rfl, rfl⟩
    | false =>
      have z1 : i < n := nq_gef (a := i) (b := n) (by omega) (by omega) c1
      omega
  | succ j ih =>
    intro i a b ij
    have hR : jg S D P x t (j + 1) i a b = cond (!xe_c .le (D i) t) (jg S D P x t j (i + 1) a b) (jg S D P x t j (i + 1) ((!xe_c .eq (P i) 0 && !xe_c .ne (x &&& S i) (S i)) || a) ((xe_c .eq (P i) 0 && !xe_c .ne (x &&& S i) x) || b)) := by
      rw [← gt_le, ← sb_1, ← sb_2]
      rfl
    rw [hR]
    cases c1 : xe_c .ge (nI i) (nI n) with
    | true =>
      have z1 : i ≥ n := nq_get (a := i) (b := n) (by omega) (by omega) c1
      omega
    | false =>
      have z1 : i < n := nq_gef (a := i) (b := n) (by omega) (by omega) c1
      cases c2 : xe_c .le (D i) t with
      | true =>
        cases c3 : xe_c .eq (P i) 0 with
        | true =>
          cases c4 : xe_c .ne (x &&& (S i)) x with
          | true =>
            refine xq_n 8 [0, 1, 2, 3, 4, 5] [(0, .ref 39), (1, .int x), (2, .int t), (3, .int (bl a)), (4, .int (bl b)), (5, .int ((nI i) + Int32.ofInt 1))] [] h [false, true, true, false, true] 32 hq rfl ⟨(show xe_c .ge (nI i) (xg 0 h.2.1 39 63) = false by rw [show (xg 0 h.2.1 39 63) = (nI n) from e3]; exact c1), (show xe_c .le (xg 0 h.2.1 69 ((nI i).toNatClampNeg)) t = true by rw [show (xg 0 h.2.1 69 ((nI i).toNatClampNeg)) = (D i) from (by rw [show ((nI i).toNatClampNeg) = i from nI_clamp (by omega)]; exact (hA i (by omega)).2.1)]; exact c2), (show xe_c .eq (xg 0 h.2.1 70 ((nI i).toNatClampNeg)) 0 = true by rw [show (xg 0 h.2.1 70 ((nI i).toNatClampNeg)) = (P i) from (by rw [show ((nI i).toNatClampNeg) = i from nI_clamp (by omega)]; exact (hA i (by omega)).2.2)]; exact c3), (show xe_c .ne (xg 0 h.2.1 70 ((nI i).toNatClampNeg)) 0 = false by rw [show (xg 0 h.2.1 70 ((nI i).toNatClampNeg)) = (P i) from (by rw [show ((nI i).toNatClampNeg) = i from nI_clamp (by omega)]; exact (hA i (by omega)).2.2), xc_ne, c3]; rfl), (show xe_c .ne (x &&& (xg 0 h.2.1 68 ((nI i).toNatClampNeg))) x = true by rw [show (xg 0 h.2.1 68 ((nI i).toNatClampNeg)) = (S i) from (by rw [show ((nI i).toNatClampNeg) = i from nI_clamp (by omega)]; exact (hA i (by omega)).1)]; exact c4), trivial⟩ (fun hq => ?_)
            rw [show ((nI i) + Int32.ofInt 1) = nI (i + 1) from nI_1 _]
            exact ih (i + 1) a b (by omega)
          | false =>
            refine xq_n 8 [0, 1, 2, 3, 4, 5] [(0, .ref 39), (1, .int x), (2, .int t), (3, .int (bl a)), (4, .int (Int32.ofInt 1)), (5, .int ((nI i) + Int32.ofInt 1))] [] h [false, true, true, false, false] 34 hq rfl ⟨(show xe_c .ge (nI i) (xg 0 h.2.1 39 63) = false by rw [show (xg 0 h.2.1 39 63) = (nI n) from e3]; exact c1), (show xe_c .le (xg 0 h.2.1 69 ((nI i).toNatClampNeg)) t = true by rw [show (xg 0 h.2.1 69 ((nI i).toNatClampNeg)) = (D i) from (by rw [show ((nI i).toNatClampNeg) = i from nI_clamp (by omega)]; exact (hA i (by omega)).2.1)]; exact c2), (show xe_c .eq (xg 0 h.2.1 70 ((nI i).toNatClampNeg)) 0 = true by rw [show (xg 0 h.2.1 70 ((nI i).toNatClampNeg)) = (P i) from (by rw [show ((nI i).toNatClampNeg) = i from nI_clamp (by omega)]; exact (hA i (by omega)).2.2)]; exact c3), (show xe_c .ne (xg 0 h.2.1 70 ((nI i).toNatClampNeg)) 0 = false by rw [show (xg 0 h.2.1 70 ((nI i).toNatClampNeg)) = (P i) from (by rw [show ((nI i).toNatClampNeg) = i from nI_clamp (by omega)]; exact (hA i (by omega)).2.2), xc_ne, c3]; rfl), (show xe_c .ne (x &&& (xg 0 h.2.1 68 ((nI i).toNatClampNeg))) x = false by rw [show (xg 0 h.2.1 68 ((nI i).toNatClampNeg)) = (S i) from (by rw [show ((nI i).toNatClampNeg) = i from nI_clamp (by omega)]; exact (hA i (by omega)).1)]; exact c4), trivial⟩ (fun hq => ?_)
            rw [show ((nI i) + Int32.ofInt 1) = nI (i + 1) from nI_1 _]
            exact ih (i + 1) a true (by omega)
        | false =>
          cases c5 : xe_c .ne (x &&& (S i)) (S i) with
          | true =>
            refine xq_n 8 [0, 1, 2, 3, 4, 5] [(0, .ref 39), (1, .int x), (2, .int t), (3, .int (bl a)), (4, .int (bl b)), (5, .int ((nI i) + Int32.ofInt 1))] [] h [false, true, false, true, true] 35 hq rfl ⟨(show xe_c .ge (nI i) (xg 0 h.2.1 39 63) = false by rw [show (xg 0 h.2.1 39 63) = (nI n) from e3]; exact c1), (show xe_c .le (xg 0 h.2.1 69 ((nI i).toNatClampNeg)) t = true by rw [show (xg 0 h.2.1 69 ((nI i).toNatClampNeg)) = (D i) from (by rw [show ((nI i).toNatClampNeg) = i from nI_clamp (by omega)]; exact (hA i (by omega)).2.1)]; exact c2), (show xe_c .eq (xg 0 h.2.1 70 ((nI i).toNatClampNeg)) 0 = false by rw [show (xg 0 h.2.1 70 ((nI i).toNatClampNeg)) = (P i) from (by rw [show ((nI i).toNatClampNeg) = i from nI_clamp (by omega)]; exact (hA i (by omega)).2.2)]; exact c3), (show xe_c .ne (x &&& (xg 0 h.2.1 68 ((nI i).toNatClampNeg))) (xg 0 h.2.1 68 ((nI i).toNatClampNeg)) = true by rw [show (xg 0 h.2.1 68 ((nI i).toNatClampNeg)) = (S i) from (by rw [show ((nI i).toNatClampNeg) = i from nI_clamp (by omega)]; exact (hA i (by omega)).1)]; exact c5), (show xe_c .ne (xg 0 h.2.1 70 ((nI i).toNatClampNeg)) 0 = true by rw [show (xg 0 h.2.1 70 ((nI i).toNatClampNeg)) = (P i) from (by rw [show ((nI i).toNatClampNeg) = i from nI_clamp (by omega)]; exact (hA i (by omega)).2.2), xc_ne, c3]; rfl), trivial⟩ (fun hq => ?_)
            rw [show ((nI i) + Int32.ofInt 1) = nI (i + 1) from nI_1 _]
            exact ih (i + 1) a b (by omega)
          | false =>
            refine xq_n 8 [0, 1, 2, 3, 4, 5] [(0, .ref 39), (1, .int x), (2, .int t), (3, .int (Int32.ofInt 1)), (4, .int (bl b)), (5, .int ((nI i) + Int32.ofInt 1))] [] h [false, true, false, false, true] 37 hq rfl ⟨(show xe_c .ge (nI i) (xg 0 h.2.1 39 63) = false by rw [show (xg 0 h.2.1 39 63) = (nI n) from e3]; exact c1), (show xe_c .le (xg 0 h.2.1 69 ((nI i).toNatClampNeg)) t = true by rw [show (xg 0 h.2.1 69 ((nI i).toNatClampNeg)) = (D i) from (by rw [show ((nI i).toNatClampNeg) = i from nI_clamp (by omega)]; exact (hA i (by omega)).2.1)]; exact c2), (show xe_c .eq (xg 0 h.2.1 70 ((nI i).toNatClampNeg)) 0 = false by rw [show (xg 0 h.2.1 70 ((nI i).toNatClampNeg)) = (P i) from (by rw [show ((nI i).toNatClampNeg) = i from nI_clamp (by omega)]; exact (hA i (by omega)).2.2)]; exact c3), (show xe_c .ne (x &&& (xg 0 h.2.1 68 ((nI i).toNatClampNeg))) (xg 0 h.2.1 68 ((nI i).toNatClampNeg)) = false by rw [show (xg 0 h.2.1 68 ((nI i).toNatClampNeg)) = (S i) from (by rw [show ((nI i).toNatClampNeg) = i from nI_clamp (by omega)]; exact (hA i (by omega)).1)]; exact c5), (show xe_c .ne (xg 0 h.2.1 70 ((nI i).toNatClampNeg)) 0 = true by rw [show (xg 0 h.2.1 70 ((nI i).toNatClampNeg)) = (P i) from (by rw [show ((nI i).toNatClampNeg) = i from nI_clamp (by omega)]; exact (hA i (by omega)).2.2), xc_ne, c3]; rfl), trivial⟩ (fun hq => ?_)
            rw [show ((nI i) + Int32.ofInt 1) = nI (i + 1) from nI_1 _]
            exact ih (i + 1) true b (by omega)
      | false =>
        refine xq_n 8 [0, 1, 2, 3, 4, 5] [(0, .ref 39), (1, .int x), (2, .int t), (3, .int (bl a)), (4, .int (bl b)), (5, .int ((nI i) + Int32.ofInt 1))] [] h [false, false] 15 hq rfl ⟨(show xe_c .ge (nI i) (xg 0 h.2.1 39 63) = false by rw [show (xg 0 h.2.1 39 63) = (nI n) from e3]; exact c1), (show xe_c .le (xg 0 h.2.1 69 ((nI i).toNatClampNeg)) t = false by rw [show (xg 0 h.2.1 69 ((nI i).toNatClampNeg)) = (D i) from (by rw [show ((nI i).toNatClampNeg) = i from nI_clamp (by omega)]; exact (hA i (by omega)).2.1)]; exact c2), trivial⟩ (fun hq => ?_)
        rw [show ((nI i) + Int32.ofInt 1) = nI (i + 1) from nI_1 _]
        exact ih (i + 1) a b (by omega)
set_option maxRecDepth 100000 in
set_option maxHeartbeats 4000000 in
theorem jd10_q {f n : Nat} {S D P : Nat → Int32} {x t : Int32} {h : xh_H} (n6 : n ≤ 60) (e3 : xg 0 h.2.1 39 63 = nI n) (hA : ∀ k, k < n → xg 0 h.2.1 68 k = S k ∧ xg 0 h.2.1 69 k = D k ∧ xg 0 h.2.1 70 k = P k) (hq : a_rq a_tb h) : xq f xi_X10_sureOf xmi_X10_sureOf 0 [(0, .ref 39), (1, .int x), (2, .int t)] [] h (fun v h' => h = h' ∧ v = some (.int (jg S D P x t n 0 false false))) := by
  refine xq_n 8 [0, 1, 2, 3, 4, 5] [(0, .ref 39), (1, .int x), (2, .int t), (3, .int (Int32.ofInt 0)), (4, .int (Int32.ofInt 0)), (5, .int (Int32.ofInt 0))] [] h [] 8 hq rfl trivial (fun hq => ?_)
  exact jd10_l n6 e3 hA hq n 0 false false (by omega)
set_option maxRecDepth 100000 in
set_option maxHeartbeats 4000000 in
theorem su9_q {f n : Nat} {S D P : Nat → Int32} {x t z : Int32} {h : xh_H} (n6 : n ≤ 60) (e3 : xg 0 h.2.1 35 3 = nI n) (hA : ∀ k, k < n → xg 0 h.2.1 36 k = S k ∧ xg 0 h.2.1 37 k = D k ∧ xg 0 h.2.1 38 k = P k) (e9 : xg 0 h.2.1 0 9 = z) (hq : a_rq a_tb h) : xq f xi_X9_sure xmi_X9_sure 0 [(0, .ref 0), (1, .int x), (2, .int t)] [] h (fun v h' => v = some (.int (cond (!xe_c .lt x 0 && !xe_c .ge x (Int32.ofInt 1 <<< (z &&& 31))) (jg S D P x t n 0 false false) (Int32.ofInt (-1))))) := by
  refine xq_n 2 [0, 1, 2] [(0, .ref 0), (1, .int x), (2, .int t)] [.int x, .ref 0] h [] 4 hq rfl trivial (fun hq => ?_)
  refine xq_run hq rfl rfl (set9_q (x := x) (z := z) (e9) hq) ?_
  rintro _ h_ ⟨rfl, rfl⟩
  cases b1 : (!xe_c .lt x 0 && !xe_c .ge x (Int32.ofInt 1 <<< (z &&& 31))) with
  | true =>
    refine xq_n 14 [0, 1, 2] [(0, .ref 0), (1, .int x), (2, .int t)] [.int t, .int x, .ref 35] h [false] 7 hq rfl ⟨rfl, trivial⟩ (fun hq => ?_)
    refine xq_run hq rfl rfl (jd9_q (x := x) (t := t) n6 e3 hA hq) ?_
    rintro _ h_ ⟨rfl, rfl⟩
    refine xq_n 21 [] [] [.int (jg S D P x t n 0 false false)] h [] 3 hq rfl trivial (fun hq => ?_)
    exact xq_ret rfl rfl rfl rfl
  | false =>
    refine xq_n 21 [] [] [.int (Int32.ofInt (-1))] h [true] 4 hq rfl ⟨rfl, trivial⟩ (fun hq => ?_)
    exact xq_ret rfl rfl rfl rfl
set_option maxRecDepth 100000 in
set_option maxHeartbeats 4000000 in
theorem su10_q {f n : Nat} {S D P : Nat → Int32} {x t z : Int32} {h : xh_H} (n6 : n ≤ 60) (e3 : xg 0 h.2.1 39 63 = nI n) (hA : ∀ k, k < n → xg 0 h.2.1 68 k = S k ∧ xg 0 h.2.1 69 k = D k ∧ xg 0 h.2.1 70 k = P k) (e9 : xg 0 h.2.1 39 4 = z) (hq : a_rq a_tb h) : xq f xi_X10_sure xmi_X10_sure 0 [(0, .ref 39), (1, .int x), (2, .int t)] [] h (fun v h' => v = some (.int (cond (!xe_c .lt x 0 && !xe_c .ge x (Int32.ofInt 1 <<< (z &&& 31))) (jg S D P x t n 0 false false) (Int32.ofInt (-1))))) := by
  refine xq_n 7 [0, 1, 2] [(0, .ref 39), (1, .int x), (2, .int t)] [.int x, .ref 39] (xh_ui h 39 0 (Int32.ofInt 0)) [] 7 hq rfl trivial (fun _ => ?_)
  have hq : a_rq a_tb (xh_ui h 39 0 (Int32.ofInt 0)) := a_rq_ui hq
  refine xq_run hq rfl rfl (set10_q (x := x) (z := z) ((gx_k (by decide)).trans e9) hq) ?_
  rintro _ h_ ⟨rfl, rfl⟩
  cases b1 : (!xe_c .lt x 0 && !xe_c .ge x (Int32.ofInt 1 <<< (z &&& 31))) with
  | true =>
    refine xq_n 16 [0, 1, 2] [(0, .ref 39), (1, .int x), (2, .int t)] [.int t, .int x, .ref 39] (xh_ui h 39 0 (Int32.ofInt 0)) [false] 6 hq rfl ⟨rfl, trivial⟩ (fun hq => ?_)
    refine xq_run hq rfl rfl (jd10_q (x := x) (t := t) n6 ((gx_k (by decide)).trans e3) (fun k hk' => ⟨(gx_o (by decide)).trans (hA k hk').1, (gx_o (by decide)).trans (hA k hk').2.1, (gx_o (by decide)).trans (hA k hk').2.2⟩) hq) ?_
    rintro _ h_ ⟨rfl, rfl⟩
    refine xq_n 23 [] [] [.int (jg S D P x t n 0 false false)] (xh_ui h 39 0 (Int32.ofInt 0)) [] 3 hq rfl trivial (fun hq => ?_)
    exact xq_ret rfl rfl rfl rfl
  | false =>
    refine xq_n 23 [] [] [.int (Int32.ofInt (-1))] (xh_ui h 39 0 (Int32.ofInt 0)) [true] 4 hq rfl ⟨rfl, trivial⟩ (fun hq => ?_)
    exact xq_ret rfl rfl rfl rfl
theorem shl_n : ∀ m : Nat, m < 13 → (Int32.ofInt 1 <<< (nI m &&& 31) = nI (2 ^ m) ∧ 2 ^ m ≤ 4096) := by decide
/-- how many sets are open -/
def og (S D P : Nat → Int32) (t : Int32) (n : Nat) : Nat → Nat → Int32 → Int32
  | 0, _, c => c
  | j + 1, i, c => cond (xe_c .ne (jg S D P (nI i) t n 0 false false) (Int32.ofInt 2)) (og S D P t n j (i + 1) c) (og S D P t n j (i + 1) (c + Int32.ofInt 1))
set_option maxRecDepth 100000 in
set_option maxHeartbeats 4000000 in
theorem op9_l {f n m : Nat} {S D P : Nat → Int32} {t : Int32} {h : xh_H} (n6 : n ≤ 60) (m12 : m ≤ 12) (e3 : xg 0 h.2.1 35 3 = nI n) (hA : ∀ k, k < n → xg 0 h.2.1 36 k = S k ∧ xg 0 h.2.1 37 k = D k ∧ xg 0 h.2.1 38 k = P k) (e9 : xg 0 h.2.1 0 9 = nI m) (hq : a_rq a_tb h) : ∀ (j i : Nat) (c : Int32), i + j = 2 ^ m → xq f xi_X9_open xmi_X9_open 4 [(0, .ref 0), (1, .int t), (2, .int c), (3, .int (nI i))] [] h (fun v h' => h = h' ∧ v = some (.int (og S D P t n j i c))) := by
  have m40 := (shl_n m (by omega)).2
  intro j
  induction j with
  | zero =>
    intro i c ij
    cases c1 : xe_c .ge (nI i) (nI (2 ^ m)) with
    | true =>
      have z1 : i ≥ (2 ^ m) := nq_get (a := i) (b := (2 ^ m)) (by omega) (by omega) c1
      refine xq_n 37 [] [] [.int c] h [true] 9 hq rfl ⟨(show xe_c .ge (nI i) ((Int32.ofInt 1) <<< ((xg 0 h.2.1 0 9) &&& 31)) = true by rw [show (xg 0 h.2.1 0 9) = (nI m) from e9, show ((Int32.ofInt 1) <<< ((nI m) &&& 31)) = nI (2 ^ m) from (shl_n m (by omega)).1]; exact c1), trivial⟩ (fun hq => ?_)
      exact xq_ret rfl rfl rfl ⟨rfl, rfl⟩
    | false =>
      have z1 : i < (2 ^ m) := nq_gef (a := i) (b := (2 ^ m)) (by omega) (by omega) c1
      omega
  | succ j ih =>
    intro i c ij
    have hR : og S D P t n (j + 1) i c = cond (xe_c .ne (jg S D P (nI i) t n 0 false false) (Int32.ofInt 2)) (og S D P t n j (i + 1) c) (og S D P t n j (i + 1) (c + Int32.ofInt 1)) := rfl
    rw [hR]
    cases c1 : xe_c .ge (nI i) (nI (2 ^ m)) with
    | true =>
      have z1 : i ≥ (2 ^ m) := nq_get (a := i) (b := (2 ^ m)) (by omega) (by omega) c1
      omega
    | false =>
      have z1 : i < (2 ^ m) := nq_gef (a := i) (b := (2 ^ m)) (by omega) (by omega) c1
      refine xq_n 20 [0, 1, 2, 3] [(0, .ref 0), (1, .int t), (2, .int c), (3, .int (nI i))] [.int t, .int (nI i), .ref 35] h [false] 12 hq rfl ⟨(show xe_c .ge (nI i) ((Int32.ofInt 1) <<< ((xg 0 h.2.1 0 9) &&& 31)) = false by rw [show (xg 0 h.2.1 0 9) = (nI m) from e9, show ((Int32.ofInt 1) <<< ((nI m) &&& 31)) = nI (2 ^ m) from (shl_n m (by omega)).1]; exact c1), trivial⟩ (fun hq => ?_)
      refine xq_run hq rfl rfl (jd9_q (x := nI i) (t := t) n6 e3 hA hq) ?_
      rintro _ h_ ⟨rfl, rfl⟩
      cases c2 : xe_c .ne (jg S D P (nI i) t n 0 false false) (Int32.ofInt 2) with
      | true =>
        refine xq_n 4 [0, 1, 2, 3] [(0, .ref 0), (1, .int t), (2, .int c), (3, .int ((nI i) + Int32.ofInt 1))] [] h [true] 6 hq rfl ⟨c2, trivial⟩ (fun hq => ?_)
        rw [show ((nI i) + Int32.ofInt 1) = nI (i + 1) from nI_1 _]
        exact ih (i + 1) (c) (by omega)
      | false =>
        refine xq_n 4 [0, 1, 2, 3] [(0, .ref 0), (1, .int t), (2, .int (c + Int32.ofInt 1)), (3, .int ((nI i) + Int32.ofInt 1))] [] h [false] 7 hq rfl ⟨c2, trivial⟩ (fun hq => ?_)
        rw [show ((nI i) + Int32.ofInt 1) = nI (i + 1) from nI_1 _]
        exact ih (i + 1) (c + Int32.ofInt 1) (by omega)
set_option maxRecDepth 100000 in
set_option maxHeartbeats 4000000 in
theorem op9_q {f n m : Nat} {S D P : Nat → Int32} {t : Int32} {h : xh_H} (n6 : n ≤ 60) (m12 : m ≤ 12) (e3 : xg 0 h.2.1 35 3 = nI n) (hA : ∀ k, k < n → xg 0 h.2.1 36 k = S k ∧ xg 0 h.2.1 37 k = D k ∧ xg 0 h.2.1 38 k = P k) (e9 : xg 0 h.2.1 0 9 = nI m) (hq : a_rq a_tb h) : xq f xi_X9_open xmi_X9_open 0 [(0, .ref 0), (1, .int t)] [] h (fun v h' => v = some (.int (og S D P t n (2 ^ m) 0 (Int32.ofInt 0)))) := by
  refine xq_n 4 [0, 1, 2, 3] [(0, .ref 0), (1, .int t), (2, .int (Int32.ofInt 0)), (3, .int (Int32.ofInt 0))] [] h [] 6 hq rfl trivial (fun hq => ?_)
  refine xq_mono (op9_l n6 m12 e3 hA e9 hq (2 ^ m) 0 (Int32.ofInt 0) (by omega)) (fun v h' e => e.2)
set_option maxRecDepth 100000 in
set_option maxHeartbeats 4000000 in
theorem op10_l {f n m : Nat} {S D P : Nat → Int32} {t : Int32} {h : xh_H} (n6 : n ≤ 60) (m12 : m ≤ 12) (e3 : xg 0 h.2.1 39 63 = nI n) (hA : ∀ k, k < n → xg 0 h.2.1 68 k = S k ∧ xg 0 h.2.1 69 k = D k ∧ xg 0 h.2.1 70 k = P k) (e9 : xg 0 h.2.1 39 4 = nI m) (hq : a_rq a_tb h) : ∀ (j i : Nat) (c : Int32), i + j = 2 ^ m → xq f xi_X10_open xmi_X10_open 9 [(0, .ref 39), (1, .int t), (2, .int c), (3, .int (nI i))] [] h (fun v h' => h = h' ∧ v = some (.int (og S D P t n j i c))) := by
  have m40 := (shl_n m (by omega)).2
  intro j
  induction j with
  | zero =>
    intro i c ij
    cases c1 : xe_c .ge (nI i) (nI (2 ^ m)) with
    | true =>
      have z1 : i ≥ (2 ^ m) := nq_get (a := i) (b := (2 ^ m)) (by omega) (by omega) c1
      refine xq_n 39 [] [] [.int c] h [true] 9 hq rfl ⟨(show xe_c .ge (nI i) ((Int32.ofInt 1) <<< ((xg 0 h.2.1 39 4) &&& 31)) = true by rw [show (xg 0 h.2.1 39 4) = (nI m) from e9, show ((Int32.ofInt 1) <<< ((nI m) &&& 31)) = nI (2 ^ m) from (shl_n m (by omega)).1]; exact c1), trivial⟩ (fun hq => ?_)
      exact xq_ret rfl rfl rfl ⟨rfl, rfl⟩
    | false =>
      have z1 : i < (2 ^ m) := nq_gef (a := i) (b := (2 ^ m)) (by omega) (by omega) c1
      omega
  | succ j ih =>
    intro i c ij
    have hR : og S D P t n (j + 1) i c = cond (xe_c .ne (jg S D P (nI i) t n 0 false false) (Int32.ofInt 2)) (og S D P t n j (i + 1) c) (og S D P t n j (i + 1) (c + Int32.ofInt 1)) := rfl
    rw [hR]
    cases c1 : xe_c .ge (nI i) (nI (2 ^ m)) with
    | true =>
      have z1 : i ≥ (2 ^ m) := nq_get (a := i) (b := (2 ^ m)) (by omega) (by omega) c1
      omega
    | false =>
      have z1 : i < (2 ^ m) := nq_gef (a := i) (b := (2 ^ m)) (by omega) (by omega) c1
      refine xq_n 22 [0, 1, 2, 3] [(0, .ref 39), (1, .int t), (2, .int c), (3, .int (nI i))] [.int t, .int (nI i), .ref 39] h [false] 11 hq rfl ⟨(show xe_c .ge (nI i) ((Int32.ofInt 1) <<< ((xg 0 h.2.1 39 4) &&& 31)) = false by rw [show (xg 0 h.2.1 39 4) = (nI m) from e9, show ((Int32.ofInt 1) <<< ((nI m) &&& 31)) = nI (2 ^ m) from (shl_n m (by omega)).1]; exact c1), trivial⟩ (fun hq => ?_)
      refine xq_run hq rfl rfl (jd10_q (x := nI i) (t := t) n6 e3 hA hq) ?_
      rintro _ h_ ⟨rfl, rfl⟩
      cases c2 : xe_c .ne (jg S D P (nI i) t n 0 false false) (Int32.ofInt 2) with
      | true =>
        refine xq_n 9 [0, 1, 2, 3] [(0, .ref 39), (1, .int t), (2, .int c), (3, .int ((nI i) + Int32.ofInt 1))] [] h [true] 6 hq rfl ⟨c2, trivial⟩ (fun hq => ?_)
        rw [show ((nI i) + Int32.ofInt 1) = nI (i + 1) from nI_1 _]
        exact ih (i + 1) (c) (by omega)
      | false =>
        refine xq_n 9 [0, 1, 2, 3] [(0, .ref 39), (1, .int t), (2, .int (c + Int32.ofInt 1)), (3, .int ((nI i) + Int32.ofInt 1))] [] h [false] 7 hq rfl ⟨c2, trivial⟩ (fun hq => ?_)
        rw [show ((nI i) + Int32.ofInt 1) = nI (i + 1) from nI_1 _]
        exact ih (i + 1) (c + Int32.ofInt 1) (by omega)
set_option maxRecDepth 100000 in
set_option maxHeartbeats 4000000 in
theorem op10_q {f n m : Nat} {S D P : Nat → Int32} {t : Int32} {h : xh_H} (n6 : n ≤ 60) (m12 : m ≤ 12) (e3 : xg 0 h.2.1 39 63 = nI n) (hA : ∀ k, k < n → xg 0 h.2.1 68 k = S k ∧ xg 0 h.2.1 69 k = D k ∧ xg 0 h.2.1 70 k = P k) (e9 : xg 0 h.2.1 39 4 = nI m) (hq : a_rq a_tb h) : xq f xi_X10_open xmi_X10_open 0 [(0, .ref 39), (1, .int t)] [] h (fun v h' => v = some (.int (og S D P t n (2 ^ m) 0 (Int32.ofInt 0)))) := by
  refine xq_n 9 [0, 1, 2, 3] [(0, .ref 39), (1, .int t), (2, .int (Int32.ofInt 0)), (3, .int (Int32.ofInt 0))] [] (xh_ui h 39 0 (Int32.ofInt 0)) [] 9 hq rfl trivial (fun _ => ?_)
  have hq : a_rq a_tb (xh_ui h 39 0 (Int32.ofInt 0)) := a_rq_ui hq
  refine xq_mono (op10_l n6 m12 ((gx_k (by decide)).trans e3) (fun k hk' => ⟨(gx_o (by decide)).trans (hA k hk').1, (gx_o (by decide)).trans (hA k hk').2.1, (gx_o (by decide)).trans (hA k hk').2.2⟩) ((gx_k (by decide)).trans e9) hq (2 ^ m) 0 (Int32.ofInt 0) (by omega)) (fun v h' e => e.2)
end XJG
end
section
section XVV
set_option maxRecDepth 100000 in
set_option maxHeartbeats 4000000 in
theorem vadd2_q {f vc : Nat} {x b y : Int32} {h : xh_H} (v6 : vc ≤ 60) (e3 : xg 0 h.2.1 35 3 = nI vc) (hq : a_rq a_tb h) : xq f xi_X1_add xmi_X1_add 0 [(0, .ref 35), (1, .int x), (2, .int b), (3, .int y)] [] h (fun v h' => fx vaS fN h h' ∧ ∀ k, xg 0 h'.2.1 36 k = cond ((decide (vc < 60)) && Nat.beq k vc) x (xg 0 h.2.1 36 k) ∧ xg 0 h'.2.1 37 k = cond ((decide (vc < 60)) && Nat.beq k vc) y (xg 0 h.2.1 37 k) ∧ xg 0 h'.2.1 38 k = cond ((decide (vc < 60)) && Nat.beq k vc) (vp_nar FieldType.boolean b) (xg 0 h.2.1 38 k)) := by
  cases c1 : xe_c .lt (nI vc) 60 with
  | true =>
    have z1 : vc < 60 := nq_ltt (a := vc) (b := 60) (by omega) (by omega) c1
    rw [show decide (vc < 60) = true from decide_eq_true (by omega)]
    refine xq_n 57 [] [] [.int ((xg 0 (xh_ui (xh_ui (xh_ui (xh_ui h 36 ((xg 0 h.2.1 35 3).toNatClampNeg) x) 38 ((xg 0 (xh_ui h 36 ((xg 0 h.2.1 35 3).toNatClampNeg) x).2.1 35 3).toNatClampNeg) (vp_nar FieldType.boolean b)) 37 ((xg 0 (xh_ui (xh_ui h 36 ((xg 0 h.2.1 35 3).toNatClampNeg) x) 38 ((xg 0 (xh_ui h 36 ((xg 0 h.2.1 35 3).toNatClampNeg) x).2.1 35 3).toNatClampNeg) (vp_nar FieldType.boolean b)).2.1 35 3).toNatClampNeg) y) 35 3 ((xg 0 (xh_ui (xh_ui (xh_ui h 36 ((xg 0 h.2.1 35 3).toNatClampNeg) x) 38 ((xg 0 (xh_ui h 36 ((xg 0 h.2.1 35 3).toNatClampNeg) x).2.1 35 3).toNatClampNeg) (vp_nar FieldType.boolean b)) 37 ((xg 0 (xh_ui (xh_ui h 36 ((xg 0 h.2.1 35 3).toNatClampNeg) x) 38 ((xg 0 (xh_ui h 36 ((xg 0 h.2.1 35 3).toNatClampNeg) x).2.1 35 3).toNatClampNeg) (vp_nar FieldType.boolean b)).2.1 35 3).toNatClampNeg) y).2.1 35 3) + (Int32.ofInt 1))).2.1 35 3) - (Int32.ofInt 1))] (xh_ui (xh_ui (xh_ui (xh_ui h 36 ((xg 0 h.2.1 35 3).toNatClampNeg) x) 38 ((xg 0 (xh_ui h 36 ((xg 0 h.2.1 35 3).toNatClampNeg) x).2.1 35 3).toNatClampNeg) (vp_nar FieldType.boolean b)) 37 ((xg 0 (xh_ui (xh_ui h 36 ((xg 0 h.2.1 35 3).toNatClampNeg) x) 38 ((xg 0 (xh_ui h 36 ((xg 0 h.2.1 35 3).toNatClampNeg) x).2.1 35 3).toNatClampNeg) (vp_nar FieldType.boolean b)).2.1 35 3).toNatClampNeg) y) 35 3 ((xg 0 (xh_ui (xh_ui (xh_ui h 36 ((xg 0 h.2.1 35 3).toNatClampNeg) x) 38 ((xg 0 (xh_ui h 36 ((xg 0 h.2.1 35 3).toNatClampNeg) x).2.1 35 3).toNatClampNeg) (vp_nar FieldType.boolean b)) 37 ((xg 0 (xh_ui (xh_ui h 36 ((xg 0 h.2.1 35 3).toNatClampNeg) x) 38 ((xg 0 (xh_ui h 36 ((xg 0 h.2.1 35 3).toNatClampNeg) x).2.1 35 3).toNatClampNeg) (vp_nar FieldType.boolean b)).2.1 35 3).toNatClampNeg) y).2.1 35 3) + (Int32.ofInt 1))) [true] 34 hq rfl ⟨(show xe_c .lt (xg 0 h.2.1 35 3) 60 = true by rw [show (xg 0 h.2.1 35 3) = (nI vc) from e3]; exact c1), trivial⟩ (fun _ => ?_)
    rw [show (xg 0 (xh_ui (xh_ui (xh_ui (xh_ui h 36 ((xg 0 h.2.1 35 3).toNatClampNeg) x) 38 ((xg 0 (xh_ui h 36 ((xg 0 h.2.1 35 3).toNatClampNeg) x).2.1 35 3).toNatClampNeg) (vp_nar FieldType.boolean b)) 37 ((xg 0 (xh_ui (xh_ui h 36 ((xg 0 h.2.1 35 3).toNatClampNeg) x) 38 ((xg 0 (xh_ui h 36 ((xg 0 h.2.1 35 3).toNatClampNeg) x).2.1 35 3).toNatClampNeg) (vp_nar FieldType.boolean b)).2.1 35 3).toNatClampNeg) y) 35 3 ((xg 0 (xh_ui (xh_ui (xh_ui h 36 ((xg 0 h.2.1 35 3).toNatClampNeg) x) 38 ((xg 0 (xh_ui h 36 ((xg 0 h.2.1 35 3).toNatClampNeg) x).2.1 35 3).toNatClampNeg) (vp_nar FieldType.boolean b)) 37 ((xg 0 (xh_ui (xh_ui h 36 ((xg 0 h.2.1 35 3).toNatClampNeg) x) 38 ((xg 0 (xh_ui h 36 ((xg 0 h.2.1 35 3).toNatClampNeg) x).2.1 35 3).toNatClampNeg) (vp_nar FieldType.boolean b)).2.1 35 3).toNatClampNeg) y).2.1 35 3) + (Int32.ofInt 1))).2.1 35 3) = ((xg 0 (xh_ui (xh_ui (xh_ui h 36 ((xg 0 h.2.1 35 3).toNatClampNeg) x) 38 ((xg 0 (xh_ui h 36 ((xg 0 h.2.1 35 3).toNatClampNeg) x).2.1 35 3).toNatClampNeg) (vp_nar FieldType.boolean b)) 37 ((xg 0 (xh_ui (xh_ui h 36 ((xg 0 h.2.1 35 3).toNatClampNeg) x) 38 ((xg 0 (xh_ui h 36 ((xg 0 h.2.1 35 3).toNatClampNeg) x).2.1 35 3).toNatClampNeg) (vp_nar FieldType.boolean b)).2.1 35 3).toNatClampNeg) y).2.1 35 3) + (Int32.ofInt 1)) from gx_s]
    rw [show (xg 0 (xh_ui (xh_ui (xh_ui h 36 ((xg 0 h.2.1 35 3).toNatClampNeg) x) 38 ((xg 0 (xh_ui h 36 ((xg 0 h.2.1 35 3).toNatClampNeg) x).2.1 35 3).toNatClampNeg) (vp_nar FieldType.boolean b)) 37 ((xg 0 (xh_ui (xh_ui h 36 ((xg 0 h.2.1 35 3).toNatClampNeg) x) 38 ((xg 0 (xh_ui h 36 ((xg 0 h.2.1 35 3).toNatClampNeg) x).2.1 35 3).toNatClampNeg) (vp_nar FieldType.boolean b)).2.1 35 3).toNatClampNeg) y).2.1 35 3) = (nI vc) from (gx_o (by decide)).trans ((gx_o (by decide)).trans ((gx_o (by decide)).trans (e3)))]
    rw [show (xg 0 (xh_ui (xh_ui h 36 ((xg 0 h.2.1 35 3).toNatClampNeg) x) 38 ((xg 0 (xh_ui h 36 ((xg 0 h.2.1 35 3).toNatClampNeg) x).2.1 35 3).toNatClampNeg) (vp_nar FieldType.boolean b)).2.1 35 3) = (nI vc) from (gx_o (by decide)).trans ((gx_o (by decide)).trans (e3))]
    rw [show (xg 0 (xh_ui h 36 ((xg 0 h.2.1 35 3).toNatClampNeg) x).2.1 35 3) = (nI vc) from (gx_o (by decide)).trans (e3)]
    rw [show (xg 0 h.2.1 35 3) = (nI vc) from e3]
    rw [show ((nI vc).toNatClampNeg) = vc from nI_clamp (by omega)]
    rw [show ((nI vc) + (Int32.ofInt 1)) = nI (vc + 1) from nI_1 _]
    rw [show ((nI (vc + 1)) - (Int32.ofInt 1)) = nI vc from nI_s1 _]
    have hq : a_rq a_tb (xh_ui (xh_ui (xh_ui (xh_ui h 36 vc x) 38 vc (vp_nar FieldType.boolean b)) 37 vc y) 35 3 (nI (vc + 1))) := a_rq_ui (a_rq_ui (a_rq_ui (a_rq_ui hq)))
    refine xq_ret rfl rfl rfl ⟨fx_ui (fx_ui (fx_ui (fx_ui (fx_0) rfl) rfl) rfl) rfl, fun k => ?_⟩
    by_cases hk' : k = vc
    · rw [show Nat.beq k vc = true from bq_t hk', hk']
      exact ⟨(gx_o (by decide)).trans ((gx_o (by decide)).trans ((gx_o (by decide)).trans (gx_s))), (gx_o (by decide)).trans (gx_s), (gx_o (by decide)).trans ((gx_o (by decide)).trans (gx_s))⟩
    · rw [show Nat.beq k vc = false from bq_f hk']
      exact ⟨(gx_o (by decide)).trans ((gx_o (by decide)).trans ((gx_o (by decide)).trans (gx_k (by omega)))), (gx_o (by decide)).trans ((gx_k (by omega)).trans ((gx_o (by decide)).trans (gx_o (by decide)))), (gx_o (by decide)).trans ((gx_o (by decide)).trans ((gx_k (by omega)).trans (gx_o (by decide))))⟩
  | false =>
    have z1 : vc ≥ 60 := nq_ltf (a := vc) (b := 60) (by omega) (by omega) c1
    rw [show decide (vc < 60) = false from decide_eq_false (by omega)]
    refine xq_n 10 [] [] [.int (Int32.ofInt (-1))] h [false] 7 hq rfl ⟨(show xe_c .lt (xg 0 h.2.1 35 3) 60 = false by rw [show (xg 0 h.2.1 35 3) = (nI vc) from e3]; exact c1), trivial⟩ (fun hq => ?_)
    exact xq_ret rfl rfl rfl ⟨fx_0, fun k => ⟨rfl, rfl, rfl⟩⟩
set_option maxRecDepth 100000 in
set_option maxHeartbeats 4000000 in
theorem vt9b_q {f vc : Nat} {x b z y : Int32} {h : xh_H} (v6 : vc ≤ 60) (e3 : xg 0 h.2.1 35 3 = nI vc) (e9 : xg 0 h.2.1 0 9 = z) (e10 : xg 0 h.2.1 0 10 = y) (hq : a_rq a_tb h) : xq f xi_X9_vote xmi_X9_vote 0 [(0, .ref 0), (1, .int x), (2, .int b)] [] h (fun v h' => ∀ k, xg 0 h'.2.1 36 k = cond (((!xe_c .lt x 0 && !xe_c .ge x (Int32.ofInt 1 <<< (z &&& 31))) && decide (vc < 60)) && Nat.beq k vc) x (xg 0 h.2.1 36 k) ∧ xg 0 h'.2.1 37 k = cond (((!xe_c .lt x 0 && !xe_c .ge x (Int32.ofInt 1 <<< (z &&& 31))) && decide (vc < 60)) && Nat.beq k vc) y (xg 0 h.2.1 37 k) ∧ xg 0 h'.2.1 38 k = cond (((!xe_c .lt x 0 && !xe_c .ge x (Int32.ofInt 1 <<< (z &&& 31))) && decide (vc < 60)) && Nat.beq k vc) (vp_nar FieldType.boolean b) (xg 0 h.2.1 38 k)) := by
  refine xq_n 2 [0, 1, 2] [(0, .ref 0), (1, .int x), (2, .int b)] [.int x, .ref 0] h [] 4 hq rfl trivial (fun hq => ?_)
  refine xq_run hq rfl rfl (set9_q (x := x) (z := z) (e9) hq) ?_
  rintro _ h_ ⟨rfl, rfl⟩
  cases b1 : (!xe_c .lt x 0 && !xe_c .ge x (Int32.ofInt 1 <<< (z &&& 31))) with
  | true =>
    refine xq_n 18 [0, 1, 2] [(0, .ref 0), (1, .int x), (2, .int b)] [.int (xg 0 h.2.1 0 10), .int b, .int x, .ref 35] h [false] 9 hq rfl ⟨rfl, trivial⟩ (fun hq => ?_)
    rw [e10]
    refine xq_run hq rfl rfl (xq_and (vadd_q v6 e3 hq) (vadd2_q v6 e3 hq)) ?_
    rintro _ h1 ⟨⟨rfl, g1, -⟩, -, d1⟩
    have hq := fx_q g1 hq
    refine xq_n 25 [] [] [.int (cond (decide (vc < 60)) (nI vc) (Int32.ofInt (-1)))] h1 [] 3 hq rfl trivial (fun hq => ?_)
    exact xq_ret rfl rfl rfl d1
  | false =>
    refine xq_n 25 [] [] [.int (Int32.ofInt (-1))] h [true] 4 hq rfl ⟨rfl, trivial⟩ (fun hq => ?_)
    exact xq_ret rfl rfl rfl (fun k => ⟨rfl, rfl, rfl⟩)
set_option maxRecDepth 100000 in
set_option maxHeartbeats 4000000 in
theorem vt10b_q {f vc : Nat} {x b z y : Int32} {h : xh_H} (v6 : vc ≤ 60) (e3 : xg 0 h.2.1 39 63 = nI vc) (e9 : xg 0 h.2.1 39 4 = z) (e10 : xg 0 h.2.1 39 3 = y) (hq : a_rq a_tb h) : xq f xi_X10_vote xmi_X10_vote 0 [(0, .ref 39), (1, .int x), (2, .int b)] [] h (fun v h' => ∀ k, xg 0 h'.2.1 68 k = cond (((!xe_c .lt x 0 && !xe_c .ge x (Int32.ofInt 1 <<< (z &&& 31))) && decide (vc < 60)) && Nat.beq k vc) x (xg 0 h.2.1 68 k) ∧ xg 0 h'.2.1 69 k = cond (((!xe_c .lt x 0 && !xe_c .ge x (Int32.ofInt 1 <<< (z &&& 31))) && decide (vc < 60)) && Nat.beq k vc) y (xg 0 h.2.1 69 k) ∧ xg 0 h'.2.1 70 k = cond (((!xe_c .lt x 0 && !xe_c .ge x (Int32.ofInt 1 <<< (z &&& 31))) && decide (vc < 60)) && Nat.beq k vc) (vp_nar FieldType.boolean b) (xg 0 h.2.1 70 k)) := by
  cases c1 : xe_c .eq (nI vc) 60 with
  | true =>
    have z1 : vc = 60 := nq_eqt (a := vc) (b := 60) (by omega) (by omega) c1
    rw [show decide (vc < 60) = false from decide_eq_false (by omega)]
    refine xq_n 23 [] [] [.int (Int32.ofInt (-1))] (xh_ui h 39 0 (Int32.ofInt 0)) [true] 10 hq rfl ⟨(show xe_c .eq (xg 0 (xh_ui h 39 0 (Int32.ofInt 0)).2.1 39 63) 60 = true by rw [show (xg 0 (xh_ui h 39 0 (Int32.ofInt 0)).2.1 39 63) = (nI vc) from (gx_k (by decide)).trans (e3)]; exact c1), trivial⟩ (fun _ => ?_)
    have hq : a_rq a_tb (xh_ui h 39 0 (Int32.ofInt 0)) := a_rq_ui hq
    exact xq_ret rfl rfl rfl (fun k => by rw [Bool.and_false]; exact ⟨gx_o (by decide), gx_o (by decide), gx_o (by decide)⟩)
  | false =>
    have z1 : vc ≠ 60 := nq_eqf (a := vc) (b := 60) (by omega) (by omega) c1
    rw [show decide (vc < 60) = true from decide_eq_true (by omega)]
    refine xq_n 16 [0, 1, 2] [(0, .ref 39), (1, .int x), (2, .int b)] [.int x, .ref 39] (xh_ui h 39 0 (Int32.ofInt 0)) [false] 11 hq rfl ⟨(show xe_c .eq (xg 0 (xh_ui h 39 0 (Int32.ofInt 0)).2.1 39 63) 60 = false by rw [show (xg 0 (xh_ui h 39 0 (Int32.ofInt 0)).2.1 39 63) = (nI vc) from (gx_k (by decide)).trans (e3)]; exact c1), trivial⟩ (fun _ => ?_)
    have hq : a_rq a_tb (xh_ui h 39 0 (Int32.ofInt 0)) := a_rq_ui hq
    refine xq_run hq rfl rfl (set10_q (x := x) (z := z) ((gx_k (by decide)).trans e9) hq) ?_
    rintro _ h_ ⟨rfl, rfl⟩
    cases b2 : (!xe_c .lt x 0 && !xe_c .ge x (Int32.ofInt 1 <<< (z &&& 31))) with
    | true =>
      refine xq_n 73 [] [] [.int ((xg 0 (xh_ui (xh_ui (xh_ui (xh_ui (xh_ui h 39 0 (Int32.ofInt 0)) 68 ((xg 0 (xh_ui h 39 0 (Int32.ofInt 0)).2.1 39 63).toNatClampNeg) x) 69 ((xg 0 (xh_ui (xh_ui h 39 0 (Int32.ofInt 0)) 68 ((xg 0 (xh_ui h 39 0 (Int32.ofInt 0)).2.1 39 63).toNatClampNeg) x).2.1 39 63).toNatClampNeg) (xg 0 (xh_ui (xh_ui h 39 0 (Int32.ofInt 0)) 68 ((xg 0 (xh_ui h 39 0 (Int32.ofInt 0)).2.1 39 63).toNatClampNeg) x).2.1 39 3)) 70 ((xg 0 (xh_ui (xh_ui (xh_ui h 39 0 (Int32.ofInt 0)) 68 ((xg 0 (xh_ui h 39 0 (Int32.ofInt 0)).2.1 39 63).toNatClampNeg) x) 69 ((xg 0 (xh_ui (xh_ui h 39 0 (Int32.ofInt 0)) 68 ((xg 0 (xh_ui h 39 0 (Int32.ofInt 0)).2.1 39 63).toNatClampNeg) x).2.1 39 63).toNatClampNeg) (xg 0 (xh_ui (xh_ui h 39 0 (Int32.ofInt 0)) 68 ((xg 0 (xh_ui h 39 0 (Int32.ofInt 0)).2.1 39 63).toNatClampNeg) x).2.1 39 3)).2.1 39 63).toNatClampNeg) (vp_nar FieldType.boolean b)) 39 63 ((xg 0 (xh_ui (xh_ui (xh_ui (xh_ui h 39 0 (Int32.ofInt 0)) 68 ((xg 0 (xh_ui h 39 0 (Int32.ofInt 0)).2.1 39 63).toNatClampNeg) x) 69 ((xg 0 (xh_ui (xh_ui h 39 0 (Int32.ofInt 0)) 68 ((xg 0 (xh_ui h 39 0 (Int32.ofInt 0)).2.1 39 63).toNatClampNeg) x).2.1 39 63).toNatClampNeg) (xg 0 (xh_ui (xh_ui h 39 0 (Int32.ofInt 0)) 68 ((xg 0 (xh_ui h 39 0 (Int32.ofInt 0)).2.1 39 63).toNatClampNeg) x).2.1 39 3)) 70 ((xg 0 (xh_ui (xh_ui (xh_ui h 39 0 (Int32.ofInt 0)) 68 ((xg 0 (xh_ui h 39 0 (Int32.ofInt 0)).2.1 39 63).toNatClampNeg) x) 69 ((xg 0 (xh_ui (xh_ui h 39 0 (Int32.ofInt 0)) 68 ((xg 0 (xh_ui h 39 0 (Int32.ofInt 0)).2.1 39 63).toNatClampNeg) x).2.1 39 63).toNatClampNeg) (xg 0 (xh_ui (xh_ui h 39 0 (Int32.ofInt 0)) 68 ((xg 0 (xh_ui h 39 0 (Int32.ofInt 0)).2.1 39 63).toNatClampNeg) x).2.1 39 3)).2.1 39 63).toNatClampNeg) (vp_nar FieldType.boolean b)).2.1 39 63) + (Int32.ofInt 1))).2.1 39 63) - (Int32.ofInt 1))] (xh_ui (xh_ui (xh_ui (xh_ui (xh_ui h 39 0 (Int32.ofInt 0)) 68 ((xg 0 (xh_ui h 39 0 (Int32.ofInt 0)).2.1 39 63).toNatClampNeg) x) 69 ((xg 0 (xh_ui (xh_ui h 39 0 (Int32.ofInt 0)) 68 ((xg 0 (xh_ui h 39 0 (Int32.ofInt 0)).2.1 39 63).toNatClampNeg) x).2.1 39 63).toNatClampNeg) (xg 0 (xh_ui (xh_ui h 39 0 (Int32.ofInt 0)) 68 ((xg 0 (xh_ui h 39 0 (Int32.ofInt 0)).2.1 39 63).toNatClampNeg) x).2.1 39 3)) 70 ((xg 0 (xh_ui (xh_ui (xh_ui h 39 0 (Int32.ofInt 0)) 68 ((xg 0 (xh_ui h 39 0 (Int32.ofInt 0)).2.1 39 63).toNatClampNeg) x) 69 ((xg 0 (xh_ui (xh_ui h 39 0 (Int32.ofInt 0)) 68 ((xg 0 (xh_ui h 39 0 (Int32.ofInt 0)).2.1 39 63).toNatClampNeg) x).2.1 39 63).toNatClampNeg) (xg 0 (xh_ui (xh_ui h 39 0 (Int32.ofInt 0)) 68 ((xg 0 (xh_ui h 39 0 (Int32.ofInt 0)).2.1 39 63).toNatClampNeg) x).2.1 39 3)).2.1 39 63).toNatClampNeg) (vp_nar FieldType.boolean b)) 39 63 ((xg 0 (xh_ui (xh_ui (xh_ui (xh_ui h 39 0 (Int32.ofInt 0)) 68 ((xg 0 (xh_ui h 39 0 (Int32.ofInt 0)).2.1 39 63).toNatClampNeg) x) 69 ((xg 0 (xh_ui (xh_ui h 39 0 (Int32.ofInt 0)) 68 ((xg 0 (xh_ui h 39 0 (Int32.ofInt 0)).2.1 39 63).toNatClampNeg) x).2.1 39 63).toNatClampNeg) (xg 0 (xh_ui (xh_ui h 39 0 (Int32.ofInt 0)) 68 ((xg 0 (xh_ui h 39 0 (Int32.ofInt 0)).2.1 39 63).toNatClampNeg) x).2.1 39 3)) 70 ((xg 0 (xh_ui (xh_ui (xh_ui h 39 0 (Int32.ofInt 0)) 68 ((xg 0 (xh_ui h 39 0 (Int32.ofInt 0)).2.1 39 63).toNatClampNeg) x) 69 ((xg 0 (xh_ui (xh_ui h 39 0 (Int32.ofInt 0)) 68 ((xg 0 (xh_ui h 39 0 (Int32.ofInt 0)).2.1 39 63).toNatClampNeg) x).2.1 39 63).toNatClampNeg) (xg 0 (xh_ui (xh_ui h 39 0 (Int32.ofInt 0)) 68 ((xg 0 (xh_ui h 39 0 (Int32.ofInt 0)).2.1 39 63).toNatClampNeg) x).2.1 39 3)).2.1 39 63).toNatClampNeg) (vp_nar FieldType.boolean b)).2.1 39 63) + (Int32.ofInt 1))) [true] 32 hq rfl ⟨rfl, trivial⟩ (fun _ => ?_)
      rw [show (xg 0 (xh_ui (xh_ui (xh_ui (xh_ui (xh_ui h 39 0 (Int32.ofInt 0)) 68 ((xg 0 (xh_ui h 39 0 (Int32.ofInt 0)).2.1 39 63).toNatClampNeg) x) 69 ((xg 0 (xh_ui (xh_ui h 39 0 (Int32.ofInt 0)) 68 ((xg 0 (xh_ui h 39 0 (Int32.ofInt 0)).2.1 39 63).toNatClampNeg) x).2.1 39 63).toNatClampNeg) (xg 0 (xh_ui (xh_ui h 39 0 (Int32.ofInt 0)) 68 ((xg 0 (xh_ui h 39 0 (Int32.ofInt 0)).2.1 39 63).toNatClampNeg) x).2.1 39 3)) 70 ((xg 0 (xh_ui (xh_ui (xh_ui h 39 0 (Int32.ofInt 0)) 68 ((xg 0 (xh_ui h 39 0 (Int32.ofInt 0)).2.1 39 63).toNatClampNeg) x) 69 ((xg 0 (xh_ui (xh_ui h 39 0 (Int32.ofInt 0)) 68 ((xg 0 (xh_ui h 39 0 (Int32.ofInt 0)).2.1 39 63).toNatClampNeg) x).2.1 39 63).toNatClampNeg) (xg 0 (xh_ui (xh_ui h 39 0 (Int32.ofInt 0)) 68 ((xg 0 (xh_ui h 39 0 (Int32.ofInt 0)).2.1 39 63).toNatClampNeg) x).2.1 39 3)).2.1 39 63).toNatClampNeg) (vp_nar FieldType.boolean b)) 39 63 ((xg 0 (xh_ui (xh_ui (xh_ui (xh_ui h 39 0 (Int32.ofInt 0)) 68 ((xg 0 (xh_ui h 39 0 (Int32.ofInt 0)).2.1 39 63).toNatClampNeg) x) 69 ((xg 0 (xh_ui (xh_ui h 39 0 (Int32.ofInt 0)) 68 ((xg 0 (xh_ui h 39 0 (Int32.ofInt 0)).2.1 39 63).toNatClampNeg) x).2.1 39 63).toNatClampNeg) (xg 0 (xh_ui (xh_ui h 39 0 (Int32.ofInt 0)) 68 ((xg 0 (xh_ui h 39 0 (Int32.ofInt 0)).2.1 39 63).toNatClampNeg) x).2.1 39 3)) 70 ((xg 0 (xh_ui (xh_ui (xh_ui h 39 0 (Int32.ofInt 0)) 68 ((xg 0 (xh_ui h 39 0 (Int32.ofInt 0)).2.1 39 63).toNatClampNeg) x) 69 ((xg 0 (xh_ui (xh_ui h 39 0 (Int32.ofInt 0)) 68 ((xg 0 (xh_ui h 39 0 (Int32.ofInt 0)).2.1 39 63).toNatClampNeg) x).2.1 39 63).toNatClampNeg) (xg 0 (xh_ui (xh_ui h 39 0 (Int32.ofInt 0)) 68 ((xg 0 (xh_ui h 39 0 (Int32.ofInt 0)).2.1 39 63).toNatClampNeg) x).2.1 39 3)).2.1 39 63).toNatClampNeg) (vp_nar FieldType.boolean b)).2.1 39 63) + (Int32.ofInt 1))).2.1 39 63) = ((xg 0 (xh_ui (xh_ui (xh_ui (xh_ui h 39 0 (Int32.ofInt 0)) 68 ((xg 0 (xh_ui h 39 0 (Int32.ofInt 0)).2.1 39 63).toNatClampNeg) x) 69 ((xg 0 (xh_ui (xh_ui h 39 0 (Int32.ofInt 0)) 68 ((xg 0 (xh_ui h 39 0 (Int32.ofInt 0)).2.1 39 63).toNatClampNeg) x).2.1 39 63).toNatClampNeg) (xg 0 (xh_ui (xh_ui h 39 0 (Int32.ofInt 0)) 68 ((xg 0 (xh_ui h 39 0 (Int32.ofInt 0)).2.1 39 63).toNatClampNeg) x).2.1 39 3)) 70 ((xg 0 (xh_ui (xh_ui (xh_ui h 39 0 (Int32.ofInt 0)) 68 ((xg 0 (xh_ui h 39 0 (Int32.ofInt 0)).2.1 39 63).toNatClampNeg) x) 69 ((xg 0 (xh_ui (xh_ui h 39 0 (Int32.ofInt 0)) 68 ((xg 0 (xh_ui h 39 0 (Int32.ofInt 0)).2.1 39 63).toNatClampNeg) x).2.1 39 63).toNatClampNeg) (xg 0 (xh_ui (xh_ui h 39 0 (Int32.ofInt 0)) 68 ((xg 0 (xh_ui h 39 0 (Int32.ofInt 0)).2.1 39 63).toNatClampNeg) x).2.1 39 3)).2.1 39 63).toNatClampNeg) (vp_nar FieldType.boolean b)).2.1 39 63) + (Int32.ofInt 1)) from gx_s]
      rw [show (xg 0 (xh_ui (xh_ui (xh_ui (xh_ui h 39 0 (Int32.ofInt 0)) 68 ((xg 0 (xh_ui h 39 0 (Int32.ofInt 0)).2.1 39 63).toNatClampNeg) x) 69 ((xg 0 (xh_ui (xh_ui h 39 0 (Int32.ofInt 0)) 68 ((xg 0 (xh_ui h 39 0 (Int32.ofInt 0)).2.1 39 63).toNatClampNeg) x).2.1 39 63).toNatClampNeg) (xg 0 (xh_ui (xh_ui h 39 0 (Int32.ofInt 0)) 68 ((xg 0 (xh_ui h 39 0 (Int32.ofInt 0)).2.1 39 63).toNatClampNeg) x).2.1 39 3)) 70 ((xg 0 (xh_ui (xh_ui (xh_ui h 39 0 (Int32.ofInt 0)) 68 ((xg 0 (xh_ui h 39 0 (Int32.ofInt 0)).2.1 39 63).toNatClampNeg) x) 69 ((xg 0 (xh_ui (xh_ui h 39 0 (Int32.ofInt 0)) 68 ((xg 0 (xh_ui h 39 0 (Int32.ofInt 0)).2.1 39 63).toNatClampNeg) x).2.1 39 63).toNatClampNeg) (xg 0 (xh_ui (xh_ui h 39 0 (Int32.ofInt 0)) 68 ((xg 0 (xh_ui h 39 0 (Int32.ofInt 0)).2.1 39 63).toNatClampNeg) x).2.1 39 3)).2.1 39 63).toNatClampNeg) (vp_nar FieldType.boolean b)).2.1 39 63) = (nI vc) from (gx_o (by decide)).trans ((gx_o (by decide)).trans ((gx_o (by decide)).trans ((gx_k (by decide)).trans (e3))))]
      rw [show (xg 0 (xh_ui (xh_ui (xh_ui h 39 0 (Int32.ofInt 0)) 68 ((xg 0 (xh_ui h 39 0 (Int32.ofInt 0)).2.1 39 63).toNatClampNeg) x) 69 ((xg 0 (xh_ui (xh_ui h 39 0 (Int32.ofInt 0)) 68 ((xg 0 (xh_ui h 39 0 (Int32.ofInt 0)).2.1 39 63).toNatClampNeg) x).2.1 39 63).toNatClampNeg) (xg 0 (xh_ui (xh_ui h 39 0 (Int32.ofInt 0)) 68 ((xg 0 (xh_ui h 39 0 (Int32.ofInt 0)).2.1 39 63).toNatClampNeg) x).2.1 39 3)).2.1 39 63) = (nI vc) from (gx_o (by decide)).trans ((gx_o (by decide)).trans ((gx_k (by decide)).trans (e3)))]
      rw [show (xg 0 (xh_ui (xh_ui h 39 0 (Int32.ofInt 0)) 68 ((xg 0 (xh_ui h 39 0 (Int32.ofInt 0)).2.1 39 63).toNatClampNeg) x).2.1 39 63) = (nI vc) from (gx_o (by decide)).trans ((gx_k (by decide)).trans (e3))]
      rw [show (xg 0 (xh_ui (xh_ui h 39 0 (Int32.ofInt 0)) 68 ((xg 0 (xh_ui h 39 0 (Int32.ofInt 0)).2.1 39 63).toNatClampNeg) x).2.1 39 3) = y from (gx_o (by decide)).trans ((gx_k (by decide)).trans (e10))]
      rw [show (xg 0 (xh_ui h 39 0 (Int32.ofInt 0)).2.1 39 63) = (nI vc) from (gx_k (by decide)).trans (e3)]
      rw [show ((nI vc).toNatClampNeg) = vc from nI_clamp (by omega)]
      rw [show ((nI vc) + (Int32.ofInt 1)) = nI (vc + 1) from nI_1 _]
      rw [show ((nI (vc + 1)) - (Int32.ofInt 1)) = nI vc from nI_s1 _]
      have hq : a_rq a_tb (xh_ui (xh_ui (xh_ui (xh_ui (xh_ui h 39 0 (Int32.ofInt 0)) 68 vc x) 69 vc y) 70 vc (vp_nar FieldType.boolean b)) 39 63 (nI (vc + 1))) := a_rq_ui (a_rq_ui (a_rq_ui (a_rq_ui hq)))
      refine xq_ret rfl rfl rfl (fun k => ?_)
      by_cases hk' : k = vc
      · rw [show Nat.beq k vc = true from bq_t hk', hk']
        exact ⟨(gx_o (by decide)).trans ((gx_o (by decide)).trans ((gx_o (by decide)).trans (gx_s))), (gx_o (by decide)).trans ((gx_o (by decide)).trans (gx_s)), (gx_o (by decide)).trans (gx_s)⟩
      · rw [show Nat.beq k vc = false from bq_f hk']
        exact ⟨(gx_o (by decide)).trans ((gx_o (by decide)).trans ((gx_o (by decide)).trans ((gx_k (by omega)).trans (gx_o (by decide))))), (gx_o (by decide)).trans ((gx_o (by decide)).trans ((gx_k (by omega)).trans ((gx_o (by decide)).trans (gx_o (by decide))))), (gx_o (by decide)).trans ((gx_k (by omega)).trans ((gx_o (by decide)).trans ((gx_o (by decide)).trans (gx_o (by decide)))))⟩
    | false =>
      refine xq_n 23 [] [] [.int (Int32.ofInt (-1))] (xh_ui h 39 0 (Int32.ofInt 0)) [false] 4 hq rfl ⟨rfl, trivial⟩ (fun hq => ?_)
      exact xq_ret rfl rfl rfl (fun k => ⟨gx_o (by decide), gx_o (by decide), gx_o (by decide)⟩)
end XVV
end
section
section XPL
theorem gx_if {h : xh_H} {c a k : Nat} {x : Int32} : xg 0 (xh_ui h c a x).2.1 c k = if k = a then x else xg 0 h.2.1 c k := by
  by_cases e : k = a
  · rw [if_pos e, e]; exact gx_s
  · rw [if_neg e]; exact gx_k (by omega)
/-- the places of an order -/
def pw (T : Nat → Nat) (x : Int32) : Nat → Nat → (Nat → Int32) → Nat → Int32
  | 0, _, F => F
  | j + 1, i, F => pw T x j (i + 1) (fun k => if k = (x * 7 + nI (T i)).toNatClampNeg then nI i else F k)
theorem pw_c {T : Nat → Nat} {x : Int32} {N : Nat} : ∀ (j i : Nat) (F G : Nat → Int32), (∀ k, k < N → F k = G k) → ∀ k, k < N → pw T x j i F k = pw T x j i G k := by
  intro j
  induction j with
  | zero => intro i F G h k hk'; exact h k hk'
  | succ j ih =>
    intro i F G h k hk'
    refine ih (i + 1) _ _ (fun k hk' => ?_) k hk'
    by_cases e : k = (x * 7 + nI (T i)).toNatClampNeg
    · rw [if_pos e, if_pos e]
    · rw [if_neg e, if_neg e]; exact h k hk'
theorem ro_lt {T : Nat → Nat} : ∀ (j i : Nat) (s : Int32), ro T j i s = true → ∀ k, i ≤ k → k < i + j → T k < 7 := by
  intro j
  induction j with
  | zero => intro i s _ k h1 h2; omega
  | succ j ih =>
    intro i s h k h1 h2
    have hR : ro T (j + 1) i s = (decide (T i < 7) && (xe_c .eq ((s >>> (nI (T i) &&& 31)) &&& Int32.ofInt 1) 0 && ro T j (i + 1) (s ||| (Int32.ofInt 1 <<< (nI (T i) &&& 31))))) := rfl
    rw [hR, Bool.and_eq_true, Bool.and_eq_true] at h
    by_cases e : k = i
    · rw [e]; exact of_decide_eq_true h.1
    · exact ih (i + 1) _ h.2.2 k (by omega) (by omega)
set_option maxRecDepth 100000 in
set_option maxHeartbeats 4000000 in
theorem ord2_l {f : Nat} {T : Nat → Nat} {x : Int32} {h0 : xh_H} (hc : ct h0 T 7) (h7 : ∀ k, k < 7 → T k < 7) : ∀ (j i : Nat) (h : xh_H), i + j = 7 → fx oSr fN h0 h → a_rq a_tb h → ∀ F : Nat → Int32, (∀ k, xg 0 h.2.1 30 k = F k) → xq f xi_X0_order xmi_X0_order 2 [(0, .ref 28), (1, .int x), (2, .ref 1), (3, .int (nI i))] [] h (fun v h' => v = none ∧ fx oSr fN h0 h' ∧ ∀ k, xg 0 h'.2.1 30 k = pw T x j i F k) := by
  intro j
  induction j with
  | zero =>
    intro i h ij g hq F hF
    cases c1 : xe_c .ge (nI i) 7 with
    | true =>
      have z1 : i ≥ 7 := nq_get (a := i) (b := 7) (by omega) (by omega) c1
      refine xq_n 47 [] [] [] (xh_ui h 28 1 (Int32.ofInt 1)) [true] 8 hq rfl ⟨c1, trivial⟩ (fun _ => ?_)
      have hq : a_rq a_tb (xh_ui h 28 1 (Int32.ofInt 1)) := a_rq_ui hq
      exact xq_ret rfl rfl rfl ⟨rfl, fx_t g (fx_ui (fx_0) rfl), fun k => (gx_o (by decide)).trans (hF k)⟩
    | false =>
      have z1 : i < 7 := nq_gef (a := i) (b := 7) (by omega) (by omega) c1
      omega
  | succ j ih =>
    intro i h ij g hq F hF
    cases c1 : xe_c .ge (nI i) 7 with
    | true =>
      have z1 : i ≥ 7 := nq_get (a := i) (b := 7) (by omega) (by omega) c1
      omega
    | false =>
      have z1 : i < 7 := nq_gef (a := i) (b := 7) (by omega) (by omega) c1
      refine xq_n 10 [0, 1, 2, 3] [(0, .ref 28), (1, .int x), (2, .ref 1), (3, .int (nI i))] [.int (nI i), .ref 1] h [false] 7 hq rfl ⟨c1, trivial⟩ (fun hq => ?_)
      have tI := (hc.2.2 i (by omega)).1
      refine xq_run hq rfl rfl (at_q (ct_f hc g rfl (fun _ => rfl)) (p := i) (by omega) hq) ?_
      rintro _ h_ ⟨rfl, rfl⟩
      refine xq_n 17 [0, 1, 2, 3, 4] [(0, .ref 28), (1, .int x), (2, .ref 1), (3, .int (nI i)), (4, .int (nI (T i)))] [.int (nI (T i))] h [] 4 hq rfl trivial (fun hq => ?_)
      refine xq_run hq rfl rfl (isop_q (c := (T i)) (by omega) hq) ?_
      rintro _ h_ ⟨rfl, rfl⟩
      cases b2 : (decide (T i < 7)) with
      | true =>
        have db2 := of_decide_eq_true b2
        refine xq_n 2 [0, 1, 2, 3] [(0, .ref 28), (1, .int x), (2, .ref 1), (3, .int ((nI i) + Int32.ofInt 1))] [] (xh_ui h 30 (((x * 7) + (nI (T i))).toNatClampNeg) (nI i)) [false] 14 hq rfl ⟨rfl, trivial⟩ (fun _ => ?_)
        rw [show ((nI i) + Int32.ofInt 1) = nI (i + 1) from nI_1 _]
        have hq : a_rq a_tb (xh_ui h 30 (((x * 7) + (nI (T i))).toNatClampNeg) (nI i)) := a_rq_ui hq
        refine ih (i + 1) _ (by omega) (fx_t g (fx_ui (fx_0) rfl)) hq _ (fun k => ?_)
        rw [gx_if, hF k]
      | false =>
        have db2 := of_decide_eq_false b2
        have := h7 i (by omega); omega
set_option maxRecDepth 100000 in
set_option maxHeartbeats 4000000 in
theorem ord2_q {f : Nat} {T : Nat → Nat} {x : Int32} {h : xh_H} (hc : ct h T 7) (h7 : ∀ k, k < 7 → T k < 7) (hq : a_rq a_tb h) : xq f xi_X0_order xmi_X0_order 0 [(0, .ref 28), (1, .int x), (2, .ref 1)] [] h (fun v h' => v = none ∧ fx oSr fN h h' ∧ ∀ k, xg 0 h'.2.1 30 k = pw T x 7 0 (fun k => xg 0 h.2.1 30 k) k) := by
  refine xq_n 2 [0, 1, 2, 3] [(0, .ref 28), (1, .int x), (2, .ref 1), (3, .int (Int32.ofInt 0))] [] h [] 4 hq rfl trivial (fun hq => ?_)
  exact ord2_l hc h7 7 0 h rfl fx_0 hq _ (fun _ => rfl)
set_option maxRecDepth 100000 in
set_option maxHeartbeats 4000000 in
theorem rk9b_q {f n : Nat} {T : Nat → Nat} {x z : Int32} {h : xh_H} (hc : ct h T n) (e9 : xg 0 h.2.1 0 9 = z) (hq : a_rq a_tb h) : xq f xi_X9_rank xmi_X9_rank 0 [(0, .ref 0), (1, .int x)] [] h (fun v h' => ∀ k, xg 0 h'.2.1 30 k = cond ((!xe_c .lt x 0 && !xe_c .ge x z) && (Nat.beq n 7 && ro T 7 0 (Int32.ofInt 0))) (pw T x 7 0 (fun k => xg 0 h.2.1 30 k)) (fun k => xg 0 h.2.1 30 k) k) := by
  have n6 := hc.2.1
  refine xq_n 2 [0, 1] [(0, .ref 0), (1, .int x)] [.int x, .ref 0] h [] 4 hq rfl trivial (fun hq => ?_)
  refine xq_run hq rfl rfl (mem9_q (x := x) (z := z) (e9) hq) ?_
  rintro _ h_ ⟨rfl, rfl⟩
  cases b1 : (!xe_c .lt x 0 && !xe_c .ge x z) with
  | true =>
    cases c2 : xe_c .ne (nI n) 7 with
    | true =>
      have z2 : n ≠ 7 := nq_net (a := n) (b := 7) (by omega) (by omega) c2
      rw [show Nat.beq n 7 = false from bq_f z2]
      refine xq_n 65 [] [] [.int (Int32.ofInt 0)] (xh_ui h 1 1 (Int32.ofInt 0)) [false, true, true] 17 hq rfl ⟨rfl, (show xe_c .ne (xg 0 h.2.1 1 1) 7 = true by rw [show (xg 0 h.2.1 1 1) = (nI n) from hc.1]; exact c2), (by decide), trivial⟩ (fun _ => ?_)
      have hq : a_rq a_tb (xh_ui h 1 1 (Int32.ofInt 0)) := a_rq_ui hq
      exact xq_ret rfl rfl rfl (fun k => gx_o (by decide))
    | false =>
      have z2 : n = 7 := nq_nef (a := n) (b := 7) (by omega) (by omega) c2
      rw [show Nat.beq n 7 = true from bq_t z2]
      have hc7 : ct h T 7 := z2 ▸ hc
      refine xq_n 28 [0, 1] [(0, .ref 0), (1, .int x)] [.ref 1, .ref 28] h [false, false] 12 hq rfl ⟨rfl, (show xe_c .ne (xg 0 h.2.1 1 1) 7 = false by rw [show (xg 0 h.2.1 1 1) = (nI n) from hc.1]; exact c2), trivial⟩ (fun hq => ?_)
      refine xq_run hq rfl rfl (row_q hc7 hq) ?_
      rintro _ h_ ⟨rfl, rfl⟩
      rw [show (decide (1 ≤ 7 ∧ 7 ≤ 7) && ro T 7 0 (Int32.ofInt 0)) = ro T 7 0 (Int32.ofInt 0) from rfl]
      cases b3 : (ro T 7 0 (Int32.ofInt 0)) with
      | true =>
        refine xq_n 53 [0, 1, 2] [(0, .ref 0), (1, .int x), (2, .int (Int32.ofInt 1))] [.ref 1, .int x, .ref 28] h [false, false] 13 hq rfl ⟨rfl, (by decide), trivial⟩ (fun hq => ?_)
        have h7 : ∀ k, k < 7 → T k < 7 := fun k hk' => ro_lt 7 0 _ b3 k (Nat.zero_le k) (by omega)
        refine xq_run hq rfl rfl (ord2_q hc7 h7 hq) ?_
        rintro _ h1 ⟨rfl, g1, d1⟩
        have hq := fx_q g1 hq
        refine xq_n 65 [] [] [.int (Int32.ofInt 1)] (xh_ui h1 1 1 (Int32.ofInt 0)) [] 7 hq rfl trivial (fun _ => ?_)
        have hq : a_rq a_tb (xh_ui h1 1 1 (Int32.ofInt 0)) := a_rq_ui hq
        exact xq_ret rfl rfl rfl (fun k => (gx_o (by decide)).trans (d1 k))
      | false =>
        refine xq_n 65 [] [] [.int (Int32.ofInt 0)] (xh_ui h 1 1 (Int32.ofInt 0)) [true, true] 12 hq rfl ⟨rfl, (by decide), trivial⟩ (fun _ => ?_)
        have hq : a_rq a_tb (xh_ui h 1 1 (Int32.ofInt 0)) := a_rq_ui hq
        exact xq_ret rfl rfl rfl (fun k => gx_o (by decide))
  | false =>
    refine xq_n 65 [] [] [.int (Int32.ofInt 0)] (xh_ui h 1 1 (Int32.ofInt 0)) [true, true] 12 hq rfl ⟨rfl, (by decide), trivial⟩ (fun _ => ?_)
    have hq : a_rq a_tb (xh_ui h 1 1 (Int32.ofInt 0)) := a_rq_ui hq
    exact xq_ret rfl rfl rfl (fun k => gx_o (by decide))
set_option maxRecDepth 100000 in
set_option maxHeartbeats 4000000 in
theorem rkl2_q {f : Nat} {T : Nat → Nat} {x : Int32} : ∀ (j i : Nat) (h : xh_H), i + j = 7 → (∀ k, k < 7 → T k < 256 ∧ xg 0 h.2.1 40 k = nI (T k)) → a_rq a_tb h → ∀ F : Nat → Int32, (∀ k, xg 0 h.2.1 62 k = F k) → xq f xi_X10_rank xmi_X10_rank 36 [(0, .ref 39), (1, .int x), (3, .int (nI i))] [] h (fun v h' => ∀ k, xg 0 h'.2.1 62 k = pw T x j i F k) := by
  intro j
  induction j with
  | zero =>
    intro i h ij hT hq F hF
    cases c1 : xe_c .ge (nI i) 7 with
    | true =>
      have z1 : i ≥ 7 := nq_get (a := i) (b := 7) (by omega) (by omega) c1
      refine xq_n 71 [] [] [.int (Int32.ofInt 1)] (xh_ui h 39 5 (Int32.ofInt 1)) [true] 9 hq rfl ⟨c1, trivial⟩ (fun _ => ?_)
      have hq : a_rq a_tb (xh_ui h 39 5 (Int32.ofInt 1)) := a_rq_ui hq
      exact xq_ret rfl rfl rfl (fun k => (gx_o (by decide)).trans (hF k))
    | false =>
      have z1 : i < 7 := nq_gef (a := i) (b := 7) (by omega) (by omega) c1
      omega
  | succ j ih =>
    intro i h ij hT hq F hF
    cases c1 : xe_c .ge (nI i) 7 with
    | true =>
      have z1 : i ≥ 7 := nq_get (a := i) (b := 7) (by omega) (by omega) c1
      omega
    | false =>
      have z1 : i < 7 := nq_gef (a := i) (b := 7) (by omega) (by omega) c1
      refine xq_n 36 [0, 1, 3] [(0, .ref 39), (1, .int x), (3, .int ((nI i) + Int32.ofInt 1))] [] (xh_ui h 62 (((7 * x) + (xg 0 h.2.1 40 ((nI i).toNatClampNeg))).toNatClampNeg) (nI i)) [false] 19 hq rfl ⟨c1, trivial⟩ (fun _ => ?_)
      rw [show (xg 0 h.2.1 40 ((nI i).toNatClampNeg)) = (nI (T i)) from (by rw [show ((nI i).toNatClampNeg) = i from nI_clamp (by omega)]; exact (hT i (by omega)).2)]
      rw [show ((nI i) + Int32.ofInt 1) = nI (i + 1) from nI_1 _]
      have hq : a_rq a_tb (xh_ui h 62 (((7 * x) + (nI (T i))).toNatClampNeg) (nI i)) := a_rq_ui hq
      refine ih (i + 1) _ (by omega) (fun k hk' => ⟨(hT k hk').1, (gx_o (by decide)).trans (hT k hk').2⟩) hq _ (fun k => ?_)
      rw [gx_if, hF k, show (7 : Int32) * x = x * 7 from Int32.mul_comm _ _]
set_option maxRecDepth 100000 in
set_option maxHeartbeats 4000000 in
theorem rk10b_q {f n : Nat} {T : Nat → Nat} {x z : Int32} {h : xh_H} (n6 : n ≤ 640) (e2 : xg 0 h.2.1 39 2 = nI n) (hT : ∀ k, k < n → T k < 256 ∧ xg 0 h.2.1 40 k = nI (T k)) (e9 : xg 0 h.2.1 39 4 = z) (hq : a_rq a_tb h) : xq f xi_X10_rank xmi_X10_rank 0 [(0, .ref 39), (1, .int x)] [] h (fun v h' => ∀ k, xg 0 h'.2.1 62 k = cond ((!xe_c .lt x 0 && !xe_c .ge x z) && (Nat.beq n 7 && ro T 7 0 (Int32.ofInt 0))) (pw T x 7 0 (fun k => xg 0 h.2.1 62 k)) (fun k => xg 0 h.2.1 62 k) k) := by
  refine xq_n 6 [0, 1] [(0, .ref 39), (1, .int x)] [.ref 39] (xh_ui h 39 0 (Int32.ofInt 0)) [] 6 hq rfl trivial (fun _ => ?_)
  have hq : a_rq a_tb (xh_ui h 39 0 (Int32.ofInt 0)) := a_rq_ui hq
  refine xq_run hq rfl rfl (take_q hq) ?_
  rintro _ _ ⟨rfl, rfl⟩
  rw [show xg 0 (xh_ui h 39 0 (Int32.ofInt 0)).2.1 39 2 = nI n from (gx_k (by decide)).trans e2]
  have hq : a_rq a_tb (xh_ui (xh_ui h 39 0 (Int32.ofInt 0)) 39 2 (Int32.ofInt 0)) := a_rq_ui hq
  refine xq_n 12 [0, 1, 2] [(0, .ref 39), (1, .int x), (2, .int (nI n))] [.int x, .ref 39] (xh_ui (xh_ui h 39 0 (Int32.ofInt 0)) 39 2 (Int32.ofInt 0)) [] 5 hq rfl trivial (fun hq => ?_)
  refine xq_run hq rfl rfl (mem10_q (x := x) (z := z) ((gx_k (by decide)).trans ((gx_k (by decide)).trans (e9))) hq) ?_
  rintro _ h_ ⟨rfl, rfl⟩
  cases b1 : (!xe_c .lt x 0 && !xe_c .ge x z) with
  | true =>
    cases c2 : xe_c .ne (nI n) 7 with
    | true =>
      have z2 : n ≠ 7 := nq_net (a := n) (b := 7) (by omega) (by omega) c2
      rw [show Nat.beq n 7 = false from bq_f z2]
      refine xq_n 33 [] [] [.int (Int32.ofInt 0)] (xh_ui (xh_ui h 39 0 (Int32.ofInt 0)) 39 2 (Int32.ofInt 0)) [false, true] 7 hq rfl ⟨rfl, c2, trivial⟩ (fun hq => ?_)
      exact xq_ret rfl rfl rfl (fun k => (gx_o (by decide)).trans (gx_o (by decide)))
    | false =>
      have z2 : n = 7 := nq_nef (a := n) (b := 7) (by omega) (by omega) c2
      rw [show Nat.beq n 7 = true from bq_t z2]
      have er : ro T n 0 (Int32.ofInt 0) = ro T 7 0 (Int32.ofInt 0) := by rw [z2]
      refine xq_n 26 [0, 1, 2] [(0, .ref 39), (1, .int x), (2, .int (nI n))] [.int (nI n), .ref 39] (xh_ui (xh_ui h 39 0 (Int32.ofInt 0)) 39 2 (Int32.ofInt 0)) [false, false] 8 hq rfl ⟨rfl, c2, trivial⟩ (fun hq => ?_)
      refine xq_run hq rfl rfl (are_q (by omega) (fun k hk' => ⟨(hT k hk').1, (gx_o (by decide)).trans ((gx_o (by decide)).trans (hT k hk').2)⟩) hq) ?_
      rintro _ h_ ⟨rfl, rfl⟩
      rw [er]
      cases b3 : (ro T 7 0 (Int32.ofInt 0)) with
      | true =>
        refine xq_n 36 [0, 1, 3] [(0, .ref 39), (1, .int x), (3, .int (Int32.ofInt 0))] [] (xh_ui (xh_ui h 39 0 (Int32.ofInt 0)) 39 2 (Int32.ofInt 0)) [true] 5 hq rfl ⟨rfl, trivial⟩ (fun hq => ?_)
        refine rkl2_q 7 0 _ rfl (fun k hk' => ⟨(hT k (by omega)).1, (gx_o (by decide)).trans ((gx_o (by decide)).trans (hT k (by omega)).2)⟩) hq _ (fun k => (gx_o (by decide)).trans (gx_o (by decide)))
      | false =>
        refine xq_n 33 [] [] [.int (Int32.ofInt 0)] (xh_ui (xh_ui h 39 0 (Int32.ofInt 0)) 39 2 (Int32.ofInt 0)) [false] 4 hq rfl ⟨rfl, trivial⟩ (fun hq => ?_)
        exact xq_ret rfl rfl rfl (fun k => (gx_o (by decide)).trans (gx_o (by decide)))
  | false =>
    refine xq_n 33 [] [] [.int (Int32.ofInt 0)] (xh_ui (xh_ui h 39 0 (Int32.ofInt 0)) 39 2 (Int32.ofInt 0)) [true] 4 hq rfl ⟨rfl, trivial⟩ (fun hq => ?_)
    exact xq_ret rfl rfl rfl (fun k => (gx_o (by decide)).trans (gx_o (by decide)))
end XPL
end
section
section XFZ
/-- what most methods leave: the shapes, a Statute's ints, all arrays of longs, the references but Powers' and Scales' -/
def Fz (h h' : xh_H) : Prop := h'.1 = h.1 ∧ (∀ c k, h.1[c]? = some (0, 7) → xg 0 h'.2.1 c k = xg 0 h.2.1 c k) ∧ (∀ c k, (∀ ci, h.1[c]? ≠ some (0, ci)) → xg 0 h'.2.2.1 c k = xg 0 h.2.2.1 c k) ∧ ∀ c k, h.1[c]? ≠ some (0, 2) → h.1[c]? ≠ some (0, 5) → xg none h'.2.2.2 c k = xg none h.2.2.2 c k
theorem Fz_0 {h : xh_H} : Fz h h := ⟨rfl, fun _ _ _ => rfl, fun _ _ _ => rfl, fun _ _ _ _ => rfl⟩
theorem Fz_t {h h1 h2 : xh_H} (a : Fz h h1) (b : Fz h1 h2) : Fz h h2 := by
  obtain ⟨a1, a2, a3, a4⟩ := a
  obtain ⟨b1, b2, b3, b4⟩ := b
  rw [a1] at b1 b2 b3 b4
  exact ⟨b1, fun c k z => (b2 c k z).trans (a2 c k z), fun c k z => (b3 c k z).trans (a3 c k z), fun c k z y => (b4 c k z y).trans (a4 c k z y)⟩
theorem Fz_ui {h : xh_H} {a k : Nat} {x : Int32} (hs : h.1[a]? ≠ some (0, 7)) : Fz h (xh_ui h a k x) := ⟨rfl, fun c k' z => gx_o (fun e => hs (by rw [← e]; exact z)), fun _ _ _ => rfl, fun _ _ _ _ => rfl⟩
def okf (ra rb : Nat) : Bool := match xh_ty ra rb with
  | .int => !Nat.beq ra 7
  | .boolean => !Nat.beq ra 7
  | .long => true
  | _ => Nat.beq ra 2 || Nat.beq ra 5
/-- an instruction that leaves it -/
def okr (r : xr_R) : Bool := match r.1 with
  | .lastore => false
  | .aastore => false
  | .newarray _ => false
  | .anewarray _ => false
  | .new _ => false
  | .putfield _ => okf r.2.2.1 r.2.2.2.1
  | _ => true
theorem Fz_ul {h : xh_H} {a k ci : Nat} {x : Int64} (hs : h.1[a]? = some (0, ci)) : Fz h (xh_ul h a k x) := ⟨rfl, fun _ _ _ => rfl, fun c k' z => gl_o (fun e => z ci (by rw [e]; exact hs)), fun _ _ _ _ => rfl⟩
theorem Fz_ur {h : xh_H} {a k : Nat} {x : Option Nat} (hs : h.1[a]? = some (0, 2) ∨ h.1[a]? = some (0, 5)) : Fz h (xh_ur h a k x) := ⟨rfl, fun _ _ _ => rfl, fun _ _ _ => rfl, fun c k' z y => congrFun (xh_up_o (fun e => hs.elim (fun w => z (by rw [e]; exact w)) (fun w => y (by rw [e]; exact w)))) k'⟩
theorem okr_7 {h : xh_H} {a ra : Nat} (hs : h.1[a]? = some (0, ra)) (ok : (!Nat.beq ra 7) = true) : h.1[a]? ≠ some (0, 7) := fun z => by
  rw [hs] at z
  cases z
  cases ok
theorem okr_25 {h : xh_H} {a ra : Nat} (hs : h.1[a]? = some (0, ra)) (ok : (Nat.beq ra 2 || Nat.beq ra 5) = true) : h.1[a]? = some (0, 2) ∨ h.1[a]? = some (0, 5) := by
  rcases Bool.or_eq_true _ _ ▸ ok with z | z
  · rw [xw_beq z] at hs; exact Or.inl hs
  · rw [xw_beq z] at hs; exact Or.inr hs
theorem Fz_put {ra rb : Nat} {h h' : xh_H} {a : Nat} {v : Value} (hs : h.1[a]? = some (0, ra)) (hp : xe_put h a (xh_ty ra rb) rb v = some h') (ok : okf ra rb = true) : Fz h h' := by
  unfold okf at ok
  unfold xe_put at hp
  cases hty : xh_ty ra rb <;> rw [hty] at hp ok <;> dsimp only at hp ok
  case int =>
    split at hp
    · cases hp; exact Fz_ui (okr_7 hs ok)
    · cases hp
  case boolean =>
    split at hp
    · obtain ⟨-, hp⟩ := xw_c hp
      cases hp; exact Fz_ui (okr_7 hs ok)
    · cases hp
  case long =>
    split at hp
    · cases hp; exact Fz_ul hs
    · cases hp
  case object =>
    split at hp
    · cases hp; exact Fz_ur (okr_25 hs ok)
    · cases hp
  case array =>
    split at hp
    · cases hp; exact Fz_ur (okr_25 hs ok)
    · cases hp
  all_goals cases hp
set_option maxHeartbeats 4000000 in
set_option maxRecDepth 100000 in
theorem xe_1_fz {nL : Nat} {r : xr_R} {pc : Nat} {lv : List (Nat × Value)} {st : List Value} {h : xh_H} {c s : Nat} {pc' : Nat} {lv' : List (Nat × Value)} {st' : List Value} {h' : xh_H} {c' s' : Nat} (he : xe_1 nL r pc lv st h c s = some (pc', lv', st', h', c', s')) (ok : okr r = true) : Fz h h' := by
  obtain ⟨i, len, ra, rb, rK, ri⟩ := r
  cases i with
  | iconst _ => cases he; exact Fz_0
  | bipush _ => cases he; exact Fz_0
  | sipush _ => cases he; exact Fz_0
  | lconst _ => cases he; exact Fz_0
  | ldc_w _ => cases he; exact Fz_0
  | ldc2_w _ => cases he; exact Fz_0
  | goto _ => cases he; exact Fz_0
  | ldc _ => cases rb <;> (cases he; exact Fz_0)
  | iload_n _ => obtain ⟨v, _, _, h3⟩ := xs_ld he; cases h3; exact Fz_0
  | iload _ => obtain ⟨v, _, _, h3⟩ := xs_ld he; cases h3; exact Fz_0
  | lload_n _ => obtain ⟨v, _, _, h3⟩ := xs_ld he; cases h3; exact Fz_0
  | lload _ => obtain ⟨v, _, _, h3⟩ := xs_ld he; cases h3; exact Fz_0
  | aload_n _ => obtain ⟨v, _, _, h3⟩ := xs_ld he; cases h3; exact Fz_0
  | aload _ => obtain ⟨v, _, _, h3⟩ := xs_ld he; cases h3; exact Fz_0
  | istore_n _ => obtain ⟨v, q, _, _, _, h3⟩ := xs_st1 he; cases h3; exact Fz_0
  | istore _ => obtain ⟨v, q, _, _, _, h3⟩ := xs_st1 he; cases h3; exact Fz_0
  | astore_n _ => obtain ⟨v, q, _, _, _, h3⟩ := xs_st1 he; cases h3; exact Fz_0
  | astore _ => obtain ⟨v, q, _, _, _, h3⟩ := xs_st1 he; cases h3; exact Fz_0
  | lstore_n _ => obtain ⟨v, q, _, _, _, h3⟩ := xs_st2 he; cases h3; exact Fz_0
  | lstore _ => obtain ⟨v, q, _, _, _, h3⟩ := xs_st2 he; cases h3; exact Fz_0
  | iadd => obtain ⟨y, x, q, _, h2⟩ := xp_ii_v he; cases h2; exact Fz_0
  | isub => obtain ⟨y, x, q, _, h2⟩ := xp_ii_v he; cases h2; exact Fz_0
  | imul => obtain ⟨y, x, q, _, h2⟩ := xp_ii_v he; cases h2; exact Fz_0
  | iand => obtain ⟨y, x, q, _, h2⟩ := xp_ii_v he; cases h2; exact Fz_0
  | ior => obtain ⟨y, x, q, _, h2⟩ := xp_ii_v he; cases h2; exact Fz_0
  | ixor => obtain ⟨y, x, q, _, h2⟩ := xp_ii_v he; cases h2; exact Fz_0
  | ishl => obtain ⟨y, x, q, _, h2⟩ := xp_ii_v he; cases h2; exact Fz_0
  | ishr => obtain ⟨y, x, q, _, h2⟩ := xp_ii_v he; cases h2; exact Fz_0
  | iushr => obtain ⟨y, x, q, _, h2⟩ := xp_ii_v he; cases h2; exact Fz_0
  | if_icmp k _ =>
    obtain ⟨y, x, q, _, h2⟩ := xp_ii_v he
    cases hb : xe_c k x y with
    | true => rw [hb] at h2; cases h2; exact Fz_0
    | false => rw [hb] at h2; cases h2; exact Fz_0
  | irem => obtain ⟨y, x, q, _, h2⟩ := xp_ii_v he; obtain ⟨_, h3⟩ := xw_c0 h2; cases h3; exact Fz_0
  | ladd => obtain ⟨y, x, q, _, h2⟩ := xp_ll_v he; cases h2; exact Fz_0
  | lsub => obtain ⟨y, x, q, _, h2⟩ := xp_ll_v he; cases h2; exact Fz_0
  | lmul => obtain ⟨y, x, q, _, h2⟩ := xp_ll_v he; cases h2; exact Fz_0
  | land => obtain ⟨y, x, q, _, h2⟩ := xp_ll_v he; cases h2; exact Fz_0
  | lor => obtain ⟨y, x, q, _, h2⟩ := xp_ll_v he; cases h2; exact Fz_0
  | lcmp => obtain ⟨y, x, q, _, h2⟩ := xp_ll_v he; cases h2; exact Fz_0
  | ldiv => obtain ⟨y, x, q, _, h2⟩ := xp_ll_v he; obtain ⟨_, h3⟩ := xw_c0 h2; cases h3; exact Fz_0
  | lrem => obtain ⟨y, x, q, _, h2⟩ := xp_ll_v he; obtain ⟨_, h3⟩ := xw_c0 h2; cases h3; exact Fz_0
  | lushr => obtain ⟨y, x, q, _, h2⟩ := xp_il_v he; cases h2; exact Fz_0
  | lshl => obtain ⟨y, x, q, _, h2⟩ := xp_il_v he; cases h2; exact Fz_0
  | i2l => obtain ⟨x, q, _, h2⟩ := xp_i_v he; cases h2; exact Fz_0
  | i2b => obtain ⟨x, q, _, h2⟩ := xp_i_v he; cases h2; exact Fz_0
  | i2c => obtain ⟨x, q, _, h2⟩ := xp_i_v he; cases h2; exact Fz_0
  | ifCond k _ =>
    obtain ⟨x, q, _, h2⟩ := xp_i_v he
    cases hb : xe_c k x 0 with
    | true => rw [hb] at h2; cases h2; exact Fz_0
    | false => rw [hb] at h2; cases h2; exact Fz_0
  | l2i => obtain ⟨x, q, _, h2⟩ := xp_l_v he; cases h2; exact Fz_0
  | pop2 => obtain ⟨x, q, _, h2⟩ := xp_l_v he; cases h2; exact Fz_0
  | newarray _ => cases ok
  | anewarray _ => cases ok
  | new _ => cases ok
  | dup =>
    match st, he with
    | a :: q, he => obtain ⟨_, h3⟩ := xw_c he; cases h3; exact Fz_0
  | pop =>
    match st, he with
    | a :: q, he => obtain ⟨_, h3⟩ := xw_c he; cases h3; exact Fz_0
  | dup2 =>
    match st, he with
    | a :: b :: q, he => obtain ⟨_, h3⟩ := xw_c he; cases h3; exact Fz_0
  | dup_x2 =>
    match st, he with
    | a :: b :: d :: q, he => obtain ⟨_, h3⟩ := xw_c he; cases h3; exact Fz_0
  | iinc k n =>
    have he : (match xl_get lv k with
      | some (.int x) => cond (Nat.ble (k + 1) nL) (some (pc + 3, xl_1 lv k (.int (x + Int32.ofInt n)), st, h, c, s)) none
      | _ => none) = some (pc', lv', st', h', c', s') := he
    split at he
    · obtain ⟨_, h3⟩ := xw_c he; cases h3; exact Fz_0
    · cases he
  | ifnull _ =>
    match st, he with
    | .ref _ :: q, he => cases he; exact Fz_0
    | .null :: q, he => cases he; exact Fz_0
  | if_acmp k _ =>
    cases k with
    | eq => cases he
    | ne =>
      match st, he with
      | .ref y :: .ref x :: q, he =>
        obtain ⟨_, h3⟩ := xw_c he
        cases hb : Nat.beq x y with
        | true => rw [hb] at h3; cases h3; exact Fz_0
        | false => rw [hb] at h3; cases h3; exact Fz_0
  | getfield _ =>
    obtain ⟨a, q, _, h2⟩ := xp_r_v he
    try dsimp only at h2
    split at h2
    · obtain ⟨_, h3⟩ := xw_c h2; cases h3; exact Fz_0
    · cases h2
  | putfield _ =>
    obtain ⟨v, a, q, _, h2⟩ := xp_vr_v he
    try dsimp only at h2
    split at h2
    · rename_i ci hs
      obtain ⟨hci, h3⟩ := xw_c h2
      have hci := xw_beq hci
      obtain ⟨hx, hp, h4⟩ := Option.map_eq_some_iff.mp h3
      cases h4
      subst hci
      exact Fz_put hs hp ok
    · cases h2
  | iaload =>
    obtain ⟨i, a, q, _, h2⟩ := xp_ir_v he
    try dsimp only at h2
    split at h2
    · obtain ⟨_, h3⟩ := xw_c h2; cases h3; exact Fz_0
    · cases h2
  | baload =>
    obtain ⟨i, a, q, _, h2⟩ := xp_ir_v he
    try dsimp only at h2
    split at h2
    · obtain ⟨_, h3⟩ := xw_c h2; cases h3; exact Fz_0
    · obtain ⟨_, h3⟩ := xw_c h2; cases h3; exact Fz_0
    · cases h2
  | laload =>
    obtain ⟨i, a, q, _, h2⟩ := xp_ir_v he
    try dsimp only at h2
    split at h2
    · obtain ⟨_, h3⟩ := xw_c h2; cases h3; exact Fz_0
    · cases h2
  | aaload =>
    obtain ⟨i, a, q, _, h2⟩ := xp_ir_v he
    try dsimp only at h2
    split at h2
    · obtain ⟨_, h3⟩ := xw_c h2; cases h3; exact Fz_0
    · cases h2
  | iastore =>
    obtain ⟨x, i, a, q, _, h2⟩ := xp_iir_v he
    try dsimp only at h2
    split at h2
    · rename_i n hs
      obtain ⟨_, h3⟩ := xw_c h2; cases h3; exact Fz_ui (fun z => by rw [hs] at z; cases z)
    · cases h2
  | bastore =>
    obtain ⟨x, i, a, q, _, h2⟩ := xp_iir_v he
    try dsimp only at h2
    split at h2
    · rename_i n hs
      obtain ⟨_, h3⟩ := xw_c h2; cases h3; exact Fz_ui (fun z => by rw [hs] at z; cases z)
    · rename_i n hs
      obtain ⟨_, h3⟩ := xw_c h2; cases h3; exact Fz_ui (fun z => by rw [hs] at z; cases z)
    · cases h2
  | lastore => cases ok
  | aastore => cases ok
  | arraylength =>
    obtain ⟨a, q, _, h2⟩ := xp_r_v he
    try dsimp only at h2
    split at h2
    · obtain ⟨_, h3⟩ := xw_c h2; cases h3; exact Fz_0
    · cases h2
  | tableswitch dflt lo hi offs =>
    obtain ⟨x, q, _, h2⟩ := xp_i_v he
    cases hb : (decide (x.toInt < lo) || decide (hi < x.toInt)) with
    | true =>
      rw [hb] at h2
      obtain ⟨_, h3⟩ := xw_c h2
      cases h3; exact Fz_0
    | false =>
      rw [hb] at h2
      cases ho : offs[(x.toInt - lo).toNat]? with
      | none => rw [ho] at h2; cases h2
      | some off =>
        rw [ho] at h2
        obtain ⟨_, h3⟩ := xw_c h2
        cases h3; exact Fz_0
  | _ => cases he
theorem xe_2_fz {nL d pc : Nat} {r : xr_R} {lv : List (Nat × Value)} {st : List Value} {h : xh_H} {c s : Nat} {pc' : Nat} {lv' : List (Nat × Value)} {st' : List Value} {h' : xh_H} {c' s' : Nat} (ok : okr r = true) (e : xe_2 none nL r d pc lv st h c s = some (pc', lv', st', h', c', s')) : Fz h h' := by
  unfold xe_2 at e
  cases h1 : xe_1 nL r pc lv st h c s with
  | some o1 => rw [h1] at e; cases e; exact xe_1_fz h1 ok
  | none =>
    rw [h1] at e
    dsimp only at e
    cases h2 : xe_o none r pc lv st h c s with
    | some o1 =>
      rw [h2] at e
      cases e
      unfold xe_o at h2
      split at h2
      · cases h2; exact Fz_0
      · split at h2
        · obtain ⟨-, h2⟩ := xw_c h2
          cases h2; exact Fz_0
        · cases h2
      · split at h2
        · cases h2
        · cases h2
      · split at h2
        · cases h2
        · cases h2
      · cases h2
    | none =>
      rw [h2] at e
      dsimp only at e
      unfold xe_oi at e
      split at e
      · split at e
        · split at e
          · split at e
            · obtain ⟨-, e⟩ := xw_c e
              cases e; exact Fz_0
            · cases e
          · cases e
        · split at e
          · split at e
            · obtain ⟨-, e⟩ := xw_c e
              cases e; exact Fz_0
            · cases e
          · cases e
        · cases e
      · split at e
        · split at e
          · cases e
          · split at e
            · obtain ⟨-, e⟩ := xw_c e
              cases e; exact Fz_0
            · cases e
        · cases e
      · split at e
        · split at e
          · cases e
          · split at e
            · obtain ⟨-, e⟩ := xw_c e
              cases e; exact Fz_0
            · cases e
        · cases e
      · cases e
/-- a closed list of methods whose code leaves it: every run does -/
theorem xe_x_fz {M : Nat → Bool} (hM : ∀ mid pc r, M mid = true → xC mid pc = some r → okr r = true ∧ (xe_isr r.1 = false → ∀ st h t, xe_cl xM r st h = some t → M r.2.2.1 = true)) : ∀ (f d mid : Nat) (mi : xm_M) (S : xs_S) (v : Option Value) (h' : xh_H) (c s : Nat), M mid = true → xe_x xM xC none f d mid mi S = some (v, h', c, s) → Fz S.2.2.2.1 h' := by
  intro f
  induction f with
  | zero => intro d mid mi S v h' c s _ e; cases e
  | succ f ih =>
    intro d mid mi S v h' c s hm e
    obtain ⟨pc, lv, st, h, c0, s0⟩ := S
    unfold xe_x at e
    cases hr : xC mid pc with
    | none => rw [hr] at e; cases e
    | some r =>
      rw [hr] at e
      dsimp only at e
      obtain ⟨ok, cl⟩ := hM mid pc r hm hr
      cases hi : xe_isr r.1 with
      | true =>
        rw [hi] at e
        simp only [cond_true] at e
        obtain ⟨w, _, e⟩ := Option.map_eq_some_iff.mp e
        cases e
        exact Fz_0
      | false =>
        rw [hi] at e
        simp only [cond_false] at e
        cases h2 : xe_2 none mi.2.2.2.1 r d pc lv st h c0 s0 with
        | some o =>
          rw [h2] at e
          obtain ⟨pc1, lv1, st1, h1, c1, s1⟩ := o
          exact Fz_t (xe_2_fz ok h2) (ih d mid mi _ v h' c s hm e)
        | none =>
          rw [h2] at e
          dsimp only at e
          cases d with
          | zero => cases e
          | succ d' =>
            dsimp only at e
            cases hcl : xe_cl xM r st h with
            | none => rw [hcl] at e; cases e
            | some t =>
              obtain ⟨mj, As, q⟩ := t
              rw [hcl] at e
              dsimp only at e
              cases hx : xe_x xM xC none f d' r.2.2.1 mj (0, lv_args 0 As, [], h, 0, 0) with
              | none => rw [hx] at e; cases e
              | some t =>
                obtain ⟨v1, h1, mc, ms⟩ := t
                rw [hx] at e
                exact Fz_t (ih d' r.2.2.1 mj (0, lv_args 0 As, [], h, 0, 0) v1 h1 mc ms (cl hi st h _ hcl) hx) (ih (d' + 1) mid mi (pc + 3, lv, v1.toList ++ q, h1, c0 + mc, s0 + ms) v h' c s hm e)
end XFZ
end
section
section XFM
/-- the methods that leave it -/
def fzK : Nat := 883423532389192160194162127762642304890647230128366654819916615791804414
def fzM (mid : Nat) : Bool := Nat.testBit fzK mid
def okc (r : xr_R) : Bool := match r.1 with
  | .invokevirtual _ => fzM r.2.2.1 || (xM r.2.2.1).isNone
  | .invokestatic _ => fzM r.2.2.1 || !Nat.beq r.2.2.2.1 0
  | .invokespecial _ => fzM r.2.2.1 || !Nat.beq r.2.2.2.1 0
  | _ => true
def okrow (o : Option xr_R) : Bool := match o with
  | none => true
  | some r => okr r && okc r
def okcode (cd : List (List (Option xr_R))) : Bool := cd.all (fun l => l.all okrow)
def okall : Bool := (List.range xc_t.length).all (fun B => (List.range 16).all (fun i => !fzM (16 * B + i) || okcode ((xc_t.getD B []).getD i [])))
set_option maxRecDepth 100000 in
theorem okall_t : okall = true := by decide +kernel
theorem getD_mem {α : Type} {l : List α} {n : Nat} {d : α} : l.getD n d = d ∨ l.getD n d ∈ l := by
  rw [List.getD_eq_getElem?_getD]
  cases h : l[n]? with
  | none => exact Or.inl rfl
  | some a => exact Or.inr (List.mem_of_getElem? h)
theorem okcode_r {cd : List (List (Option xr_R))} (h : okcode cd = true) {pc : Nat} {r : xr_R} (e : xcl cd pc = some r) : okr r = true ∧ okc r = true := by
  unfold xcl at e
  have hl : ∀ l ∈ cd, l.all okrow = true := List.all_eq_true.mp h
  rcases getD_mem (l := cd.getD (pc / 16) []) (n := pc % 16) (d := none) with z | z
  · rw [e] at z; cases z
  · rw [e] at z
    rcases getD_mem (l := cd) (n := pc / 16) (d := []) with y | y
    · rw [y] at z; cases z
    · have := List.all_eq_true.mp (hl _ y) _ z
      exact xw_bb this
theorem fz_hM : ∀ mid pc r, fzM mid = true → xC mid pc = some r → okr r = true ∧ (xe_isr r.1 = false → ∀ st h t, xe_cl xM r st h = some t → fzM r.2.2.1 = true) := by
  intro mid pc r hm hr
  have ho : okcode ((xc_t.getD (mid / 16) []).getD (mid % 16) []) = true := by
    by_cases hB : mid / 16 < xc_t.length
    · have a := List.all_eq_true.mp okall_t (mid / 16) (List.mem_range.mpr hB)
      have b := List.all_eq_true.mp a (mid % 16) (List.mem_range.mpr (Nat.mod_lt _ (by decide)))
      rw [Nat.div_add_mod, hm] at b
      exact b
    · have e : xc_t.getD (mid / 16) [] = [] := by
        rw [List.getD_eq_getElem?_getD, List.getElem?_eq_none (by omega)]
        rfl
      rw [e]
      rfl
  obtain ⟨o1, o2⟩ := okcode_r ho hr
  refine ⟨o1, fun _ st h t hc => ?_⟩
  obtain ⟨i, len, ra, rb, rK, ri⟩ := r
  unfold xe_cl at hc
  cases hM : xM (i, len, ra, rb, rK, ri).2.2.1 with
  | none => rw [hM] at hc; cases hc
  | some m =>
    rw [hM] at hc
    have hM' : xM ra = some m := hM
    cases i
    case invokevirtual idx =>
      have o3 : (fzM ra || (xM ra).isNone) = true := o2
      rw [hM'] at o3
      simpa using o3
    case invokestatic idx =>
      have o3 : (fzM ra || !Nat.beq rb 0) = true := o2
      dsimp only at hc
      obtain ⟨c1, -⟩ := xw_c hc
      have c2 := (xw_bb c1).1
      rw [c2] at o3
      simpa using o3
    case invokespecial idx =>
      have o3 : (fzM ra || !Nat.beq rb 0) = true := o2
      dsimp only at hc
      split at hc
      · obtain ⟨c1, -⟩ := xw_c hc
        have c2 := (xw_bb c1).1
        rw [c2] at o3
        simpa using o3
      · cases hc
    all_goals cases hc
/-- every run of such a method leaves it -/
theorem fz_run {d mid : Nat} {mi : xm_M} {S : xs_S} {v : Option Value} {h' : xh_H} {c s : Nat} (hm : fzM mid = true) (k : xR none d mid mi S (v, h', c, s)) : Fz S.2.2.2.1 h' := by
  obtain ⟨f, e⟩ := k
  exact xe_x_fz fz_hM f d mid mi S v h' c s hm e
example : fzM xi_X9_share = true := by decide +kernel
end XFM
end
section
section XQZ
/-- what most methods leave: the shapes, all references but those of Scales -/
def Qz (h h' : xh_H) : Prop := h'.1 = h.1 ∧ ∀ c k, h.1[c]? ≠ some (0, 5) → xg none h'.2.2.2 c k = xg none h.2.2.2 c k
theorem Qz_0 {h : xh_H} : Qz h h := ⟨rfl, fun _ _ _ => rfl⟩
theorem Qz_t {h h1 h2 : xh_H} (a : Qz h h1) (b : Qz h1 h2) : Qz h h2 := ⟨b.1.trans a.1, fun c k z => (b.2 c k (by rw [a.1]; exact z)).trans (a.2 c k z)⟩
theorem Qz_ui {h : xh_H} {a k : Nat} {x : Int32} : Qz h (xh_ui h a k x) := ⟨rfl, fun _ _ _ => rfl⟩
theorem Qz_ul {h : xh_H} {a k : Nat} {x : Int64} : Qz h (xh_ul h a k x) := ⟨rfl, fun _ _ _ => rfl⟩
theorem Qz_ur {h : xh_H} {a k : Nat} {x : Option Nat} (hs : h.1[a]? = some (0, 5)) : Qz h (xh_ur h a k x) := ⟨rfl, fun c k' z => congrFun (xh_up_o (fun e => z (by rw [e]; exact hs))) k'⟩
theorem okg_5 {h : xh_H} {a ra : Nat} (hs : h.1[a]? = some (0, ra)) (ok : Nat.beq ra 5 = true) : h.1[a]? = some (0, 5) := by rw [xw_beq ok] at hs; exact hs
def okg (ra rb : Nat) : Bool := match xh_ty ra rb with
  | .int => true
  | .boolean => true
  | .long => true
  | _ => Nat.beq ra 5
/-- an instruction that leaves it -/
def okq (r : xr_R) : Bool := match r.1 with
  | .aastore => false
  | .newarray _ => false
  | .anewarray _ => false
  | .new _ => false
  | .putfield _ => okg r.2.2.1 r.2.2.2.1
  | _ => true
theorem Qz_put {ra rb : Nat} {h h' : xh_H} {a : Nat} {v : Value} (hs : h.1[a]? = some (0, ra)) (hp : xe_put h a (xh_ty ra rb) rb v = some h') (ok : okg ra rb = true) : Qz h h' := by
  unfold okg at ok
  unfold xe_put at hp
  cases hty : xh_ty ra rb <;> rw [hty] at hp ok <;> dsimp only at hp ok
  case int =>
    split at hp
    · cases hp; exact Qz_ui
    · cases hp
  case boolean =>
    split at hp
    · obtain ⟨-, hp⟩ := xw_c hp
      cases hp; exact Qz_ui
    · cases hp
  case long =>
    split at hp
    · cases hp; exact Qz_ul
    · cases hp
  case object =>
    split at hp
    · cases hp; exact Qz_ur (okg_5 hs ok)
    · cases hp
  case array =>
    split at hp
    · cases hp; exact Qz_ur (okg_5 hs ok)
    · cases hp
  all_goals cases hp
set_option maxHeartbeats 4000000 in
set_option maxRecDepth 100000 in
theorem xe_1_qz {nL : Nat} {r : xr_R} {pc : Nat} {lv : List (Nat × Value)} {st : List Value} {h : xh_H} {c s : Nat} {pc' : Nat} {lv' : List (Nat × Value)} {st' : List Value} {h' : xh_H} {c' s' : Nat} (he : xe_1 nL r pc lv st h c s = some (pc', lv', st', h', c', s')) (ok : okq r = true) : Qz h h' := by
  obtain ⟨i, len, ra, rb, rK, ri⟩ := r
  cases i with
  | iconst _ => cases he; exact Qz_0
  | bipush _ => cases he; exact Qz_0
  | sipush _ => cases he; exact Qz_0
  | lconst _ => cases he; exact Qz_0
  | ldc_w _ => cases he; exact Qz_0
  | ldc2_w _ => cases he; exact Qz_0
  | goto _ => cases he; exact Qz_0
  | ldc _ => cases rb <;> (cases he; exact Qz_0)
  | iload_n _ => obtain ⟨v, _, _, h3⟩ := xs_ld he; cases h3; exact Qz_0
  | iload _ => obtain ⟨v, _, _, h3⟩ := xs_ld he; cases h3; exact Qz_0
  | lload_n _ => obtain ⟨v, _, _, h3⟩ := xs_ld he; cases h3; exact Qz_0
  | lload _ => obtain ⟨v, _, _, h3⟩ := xs_ld he; cases h3; exact Qz_0
  | aload_n _ => obtain ⟨v, _, _, h3⟩ := xs_ld he; cases h3; exact Qz_0
  | aload _ => obtain ⟨v, _, _, h3⟩ := xs_ld he; cases h3; exact Qz_0
  | istore_n _ => obtain ⟨v, q, _, _, _, h3⟩ := xs_st1 he; cases h3; exact Qz_0
  | istore _ => obtain ⟨v, q, _, _, _, h3⟩ := xs_st1 he; cases h3; exact Qz_0
  | astore_n _ => obtain ⟨v, q, _, _, _, h3⟩ := xs_st1 he; cases h3; exact Qz_0
  | astore _ => obtain ⟨v, q, _, _, _, h3⟩ := xs_st1 he; cases h3; exact Qz_0
  | lstore_n _ => obtain ⟨v, q, _, _, _, h3⟩ := xs_st2 he; cases h3; exact Qz_0
  | lstore _ => obtain ⟨v, q, _, _, _, h3⟩ := xs_st2 he; cases h3; exact Qz_0
  | iadd => obtain ⟨y, x, q, _, h2⟩ := xp_ii_v he; cases h2; exact Qz_0
  | isub => obtain ⟨y, x, q, _, h2⟩ := xp_ii_v he; cases h2; exact Qz_0
  | imul => obtain ⟨y, x, q, _, h2⟩ := xp_ii_v he; cases h2; exact Qz_0
  | iand => obtain ⟨y, x, q, _, h2⟩ := xp_ii_v he; cases h2; exact Qz_0
  | ior => obtain ⟨y, x, q, _, h2⟩ := xp_ii_v he; cases h2; exact Qz_0
  | ixor => obtain ⟨y, x, q, _, h2⟩ := xp_ii_v he; cases h2; exact Qz_0
  | ishl => obtain ⟨y, x, q, _, h2⟩ := xp_ii_v he; cases h2; exact Qz_0
  | ishr => obtain ⟨y, x, q, _, h2⟩ := xp_ii_v he; cases h2; exact Qz_0
  | iushr => obtain ⟨y, x, q, _, h2⟩ := xp_ii_v he; cases h2; exact Qz_0
  | if_icmp k _ =>
    obtain ⟨y, x, q, _, h2⟩ := xp_ii_v he
    cases hb : xe_c k x y with
    | true => rw [hb] at h2; cases h2; exact Qz_0
    | false => rw [hb] at h2; cases h2; exact Qz_0
  | irem => obtain ⟨y, x, q, _, h2⟩ := xp_ii_v he; obtain ⟨_, h3⟩ := xw_c0 h2; cases h3; exact Qz_0
  | ladd => obtain ⟨y, x, q, _, h2⟩ := xp_ll_v he; cases h2; exact Qz_0
  | lsub => obtain ⟨y, x, q, _, h2⟩ := xp_ll_v he; cases h2; exact Qz_0
  | lmul => obtain ⟨y, x, q, _, h2⟩ := xp_ll_v he; cases h2; exact Qz_0
  | land => obtain ⟨y, x, q, _, h2⟩ := xp_ll_v he; cases h2; exact Qz_0
  | lor => obtain ⟨y, x, q, _, h2⟩ := xp_ll_v he; cases h2; exact Qz_0
  | lcmp => obtain ⟨y, x, q, _, h2⟩ := xp_ll_v he; cases h2; exact Qz_0
  | ldiv => obtain ⟨y, x, q, _, h2⟩ := xp_ll_v he; obtain ⟨_, h3⟩ := xw_c0 h2; cases h3; exact Qz_0
  | lrem => obtain ⟨y, x, q, _, h2⟩ := xp_ll_v he; obtain ⟨_, h3⟩ := xw_c0 h2; cases h3; exact Qz_0
  | lushr => obtain ⟨y, x, q, _, h2⟩ := xp_il_v he; cases h2; exact Qz_0
  | lshl => obtain ⟨y, x, q, _, h2⟩ := xp_il_v he; cases h2; exact Qz_0
  | i2l => obtain ⟨x, q, _, h2⟩ := xp_i_v he; cases h2; exact Qz_0
  | i2b => obtain ⟨x, q, _, h2⟩ := xp_i_v he; cases h2; exact Qz_0
  | i2c => obtain ⟨x, q, _, h2⟩ := xp_i_v he; cases h2; exact Qz_0
  | ifCond k _ =>
    obtain ⟨x, q, _, h2⟩ := xp_i_v he
    cases hb : xe_c k x 0 with
    | true => rw [hb] at h2; cases h2; exact Qz_0
    | false => rw [hb] at h2; cases h2; exact Qz_0
  | l2i => obtain ⟨x, q, _, h2⟩ := xp_l_v he; cases h2; exact Qz_0
  | pop2 => obtain ⟨x, q, _, h2⟩ := xp_l_v he; cases h2; exact Qz_0
  | newarray _ => cases ok
  | anewarray _ => cases ok
  | new _ => cases ok
  | dup =>
    match st, he with
    | a :: q, he => obtain ⟨_, h3⟩ := xw_c he; cases h3; exact Qz_0
  | pop =>
    match st, he with
    | a :: q, he => obtain ⟨_, h3⟩ := xw_c he; cases h3; exact Qz_0
  | dup2 =>
    match st, he with
    | a :: b :: q, he => obtain ⟨_, h3⟩ := xw_c he; cases h3; exact Qz_0
  | dup_x2 =>
    match st, he with
    | a :: b :: d :: q, he => obtain ⟨_, h3⟩ := xw_c he; cases h3; exact Qz_0
  | iinc k n =>
    have he : (match xl_get lv k with
      | some (.int x) => cond (Nat.ble (k + 1) nL) (some (pc + 3, xl_1 lv k (.int (x + Int32.ofInt n)), st, h, c, s)) none
      | _ => none) = some (pc', lv', st', h', c', s') := he
    split at he
    · obtain ⟨_, h3⟩ := xw_c he; cases h3; exact Qz_0
    · cases he
  | ifnull _ =>
    match st, he with
    | .ref _ :: q, he => cases he; exact Qz_0
    | .null :: q, he => cases he; exact Qz_0
  | if_acmp k _ =>
    cases k with
    | eq => cases he
    | ne =>
      match st, he with
      | .ref y :: .ref x :: q, he =>
        obtain ⟨_, h3⟩ := xw_c he
        cases hb : Nat.beq x y with
        | true => rw [hb] at h3; cases h3; exact Qz_0
        | false => rw [hb] at h3; cases h3; exact Qz_0
  | getfield _ =>
    obtain ⟨a, q, _, h2⟩ := xp_r_v he
    try dsimp only at h2
    split at h2
    · obtain ⟨_, h3⟩ := xw_c h2; cases h3; exact Qz_0
    · cases h2
  | putfield _ =>
    obtain ⟨v, a, q, _, h2⟩ := xp_vr_v he
    try dsimp only at h2
    split at h2
    · rename_i ci hs
      obtain ⟨hci, h3⟩ := xw_c h2
      have hci := xw_beq hci
      obtain ⟨hx, hp, h4⟩ := Option.map_eq_some_iff.mp h3
      cases h4
      subst hci
      exact Qz_put hs hp ok
    · cases h2
  | iaload =>
    obtain ⟨i, a, q, _, h2⟩ := xp_ir_v he
    try dsimp only at h2
    split at h2
    · obtain ⟨_, h3⟩ := xw_c h2; cases h3; exact Qz_0
    · cases h2
  | baload =>
    obtain ⟨i, a, q, _, h2⟩ := xp_ir_v he
    try dsimp only at h2
    split at h2
    · obtain ⟨_, h3⟩ := xw_c h2; cases h3; exact Qz_0
    · obtain ⟨_, h3⟩ := xw_c h2; cases h3; exact Qz_0
    · cases h2
  | laload =>
    obtain ⟨i, a, q, _, h2⟩ := xp_ir_v he
    try dsimp only at h2
    split at h2
    · obtain ⟨_, h3⟩ := xw_c h2; cases h3; exact Qz_0
    · cases h2
  | aaload =>
    obtain ⟨i, a, q, _, h2⟩ := xp_ir_v he
    try dsimp only at h2
    split at h2
    · obtain ⟨_, h3⟩ := xw_c h2; cases h3; exact Qz_0
    · cases h2
  | iastore =>
    obtain ⟨x, i, a, q, _, h2⟩ := xp_iir_v he
    try dsimp only at h2
    split at h2
    · rename_i n hs
      obtain ⟨_, h3⟩ := xw_c h2; cases h3; exact Qz_ui
    · cases h2
  | bastore =>
    obtain ⟨x, i, a, q, _, h2⟩ := xp_iir_v he
    try dsimp only at h2
    split at h2
    · rename_i n hs
      obtain ⟨_, h3⟩ := xw_c h2; cases h3; exact Qz_ui
    · rename_i n hs
      obtain ⟨_, h3⟩ := xw_c h2; cases h3; exact Qz_ui
    · cases h2
  | lastore =>
    obtain ⟨x, i, a, q, _, h2⟩ := xp_lir_v he
    try dsimp only at h2
    split at h2
    · rename_i n hs
      obtain ⟨_, h3⟩ := xw_c h2; cases h3; exact Qz_ul
    · cases h2
  | aastore => cases ok
  | arraylength =>
    obtain ⟨a, q, _, h2⟩ := xp_r_v he
    try dsimp only at h2
    split at h2
    · obtain ⟨_, h3⟩ := xw_c h2; cases h3; exact Qz_0
    · cases h2
  | tableswitch dflt lo hi offs =>
    obtain ⟨x, q, _, h2⟩ := xp_i_v he
    cases hb : (decide (x.toInt < lo) || decide (hi < x.toInt)) with
    | true =>
      rw [hb] at h2
      obtain ⟨_, h3⟩ := xw_c h2
      cases h3; exact Qz_0
    | false =>
      rw [hb] at h2
      cases ho : offs[(x.toInt - lo).toNat]? with
      | none => rw [ho] at h2; cases h2
      | some off =>
        rw [ho] at h2
        obtain ⟨_, h3⟩ := xw_c h2
        cases h3; exact Qz_0
  | _ => cases he
theorem xe_2_qz {nL d pc : Nat} {r : xr_R} {lv : List (Nat × Value)} {st : List Value} {h : xh_H} {c s : Nat} {pc' : Nat} {lv' : List (Nat × Value)} {st' : List Value} {h' : xh_H} {c' s' : Nat} (ok : okq r = true) (e : xe_2 none nL r d pc lv st h c s = some (pc', lv', st', h', c', s')) : Qz h h' := by
  unfold xe_2 at e
  cases h1 : xe_1 nL r pc lv st h c s with
  | some o1 => rw [h1] at e; cases e; exact xe_1_qz h1 ok
  | none =>
    rw [h1] at e
    dsimp only at e
    cases h2 : xe_o none r pc lv st h c s with
    | some o1 =>
      rw [h2] at e
      cases e
      unfold xe_o at h2
      split at h2
      · cases h2; exact Qz_0
      · split at h2
        · obtain ⟨-, h2⟩ := xw_c h2
          cases h2; exact Qz_0
        · cases h2
      · split at h2
        · cases h2
        · cases h2
      · split at h2
        · cases h2
        · cases h2
      · cases h2
    | none =>
      rw [h2] at e
      dsimp only at e
      unfold xe_oi at e
      split at e
      · split at e
        · split at e
          · split at e
            · obtain ⟨-, e⟩ := xw_c e
              cases e; exact Qz_0
            · cases e
          · cases e
        · split at e
          · split at e
            · obtain ⟨-, e⟩ := xw_c e
              cases e; exact Qz_0
            · cases e
          · cases e
        · cases e
      · split at e
        · split at e
          · cases e
          · split at e
            · obtain ⟨-, e⟩ := xw_c e
              cases e; exact Qz_0
            · cases e
        · cases e
      · split at e
        · split at e
          · cases e
          · split at e
            · obtain ⟨-, e⟩ := xw_c e
              cases e; exact Qz_0
            · cases e
        · cases e
      · cases e
/-- a closed list of methods whose code leaves it: every run does -/
theorem xe_x_qz {M : Nat → Bool} (hM : ∀ mid pc r, M mid = true → xC mid pc = some r → okq r = true ∧ (xe_isr r.1 = false → ∀ st h t, xe_cl xM r st h = some t → M r.2.2.1 = true)) : ∀ (f d mid : Nat) (mi : xm_M) (S : xs_S) (v : Option Value) (h' : xh_H) (c s : Nat), M mid = true → xe_x xM xC none f d mid mi S = some (v, h', c, s) → Qz S.2.2.2.1 h' := by
  intro f
  induction f with
  | zero => intro d mid mi S v h' c s _ e; cases e
  | succ f ih =>
    intro d mid mi S v h' c s hm e
    obtain ⟨pc, lv, st, h, c0, s0⟩ := S
    unfold xe_x at e
    cases hr : xC mid pc with
    | none => rw [hr] at e; cases e
    | some r =>
      rw [hr] at e
      dsimp only at e
      obtain ⟨ok, cl⟩ := hM mid pc r hm hr
      cases hi : xe_isr r.1 with
      | true =>
        rw [hi] at e
        simp only [cond_true] at e
        obtain ⟨w, _, e⟩ := Option.map_eq_some_iff.mp e
        cases e
        exact Qz_0
      | false =>
        rw [hi] at e
        simp only [cond_false] at e
        cases h2 : xe_2 none mi.2.2.2.1 r d pc lv st h c0 s0 with
        | some o =>
          rw [h2] at e
          obtain ⟨pc1, lv1, st1, h1, c1, s1⟩ := o
          exact Qz_t (xe_2_qz ok h2) (ih d mid mi _ v h' c s hm e)
        | none =>
          rw [h2] at e
          dsimp only at e
          cases d with
          | zero => cases e
          | succ d' =>
            dsimp only at e
            cases hcl : xe_cl xM r st h with
            | none => rw [hcl] at e; cases e
            | some t =>
              obtain ⟨mj, As, q⟩ := t
              rw [hcl] at e
              dsimp only at e
              cases hx : xe_x xM xC none f d' r.2.2.1 mj (0, lv_args 0 As, [], h, 0, 0) with
              | none => rw [hx] at e; cases e
              | some t =>
                obtain ⟨v1, h1, mc, ms⟩ := t
                rw [hx] at e
                exact Qz_t (ih d' r.2.2.1 mj (0, lv_args 0 As, [], h, 0, 0) v1 h1 mc ms (cl hi st h _ hcl) hx) (ih (d' + 1) mid mi (pc + 3, lv, v1.toList ++ q, h1, c0 + mc, s0 + ms) v h' c s hm e)
end XQZ
section XQM
/-- the methods that leave it -/
def qzK : Nat := 883423532389192164791648750357521249774056618513547416461269882370916350
def qzM (mid : Nat) : Bool := Nat.testBit qzK mid
def oqc (r : xr_R) : Bool := match r.1 with
  | .invokevirtual _ => qzM r.2.2.1 || (xM r.2.2.1).isNone
  | .invokestatic _ => qzM r.2.2.1 || !Nat.beq r.2.2.2.1 0
  | .invokespecial _ => qzM r.2.2.1 || !Nat.beq r.2.2.2.1 0
  | _ => true
def oqrow (o : Option xr_R) : Bool := match o with
  | none => true
  | some r => okq r && oqc r
def oqcode (cd : List (List (Option xr_R))) : Bool := cd.all (fun l => l.all oqrow)
def oqall : Bool := (List.range xc_t.length).all (fun B => (List.range 16).all (fun i => !qzM (16 * B + i) || oqcode ((xc_t.getD B []).getD i [])))
set_option maxRecDepth 100000 in
theorem oqall_t : oqall = true := by decide +kernel
theorem oqcode_r {cd : List (List (Option xr_R))} (h : oqcode cd = true) {pc : Nat} {r : xr_R} (e : xcl cd pc = some r) : okq r = true ∧ oqc r = true := by
  unfold xcl at e
  have hl : ∀ l ∈ cd, l.all oqrow = true := List.all_eq_true.mp h
  rcases getD_mem (l := cd.getD (pc / 16) []) (n := pc % 16) (d := none) with z | z
  · rw [e] at z; cases z
  · rw [e] at z
    rcases getD_mem (l := cd) (n := pc / 16) (d := []) with y | y
    · rw [y] at z; cases z
    · have := List.all_eq_true.mp (hl _ y) _ z
      exact xw_bb this
theorem qz_hM : ∀ mid pc r, qzM mid = true → xC mid pc = some r → okq r = true ∧ (xe_isr r.1 = false → ∀ st h t, xe_cl xM r st h = some t → qzM r.2.2.1 = true) := by
  intro mid pc r hm hr
  have ho : oqcode ((xc_t.getD (mid / 16) []).getD (mid % 16) []) = true := by
    by_cases hB : mid / 16 < xc_t.length
    · have a := List.all_eq_true.mp oqall_t (mid / 16) (List.mem_range.mpr hB)
      have b := List.all_eq_true.mp a (mid % 16) (List.mem_range.mpr (Nat.mod_lt _ (by decide)))
      rw [Nat.div_add_mod, hm] at b
      exact b
    · have e : xc_t.getD (mid / 16) [] = [] := by
        rw [List.getD_eq_getElem?_getD, List.getElem?_eq_none (by omega)]
        rfl
      rw [e]
      rfl
  obtain ⟨o1, o2⟩ := oqcode_r ho hr
  refine ⟨o1, fun _ st h t hc => ?_⟩
  obtain ⟨i, len, ra, rb, rK, ri⟩ := r
  unfold xe_cl at hc
  cases hM : xM (i, len, ra, rb, rK, ri).2.2.1 with
  | none => rw [hM] at hc; cases hc
  | some m =>
    rw [hM] at hc
    have hM' : xM ra = some m := hM
    cases i
    case invokevirtual idx =>
      have o3 : (qzM ra || (xM ra).isNone) = true := o2
      rw [hM'] at o3
      simpa using o3
    case invokestatic idx =>
      have o3 : (qzM ra || !Nat.beq rb 0) = true := o2
      dsimp only at hc
      obtain ⟨c1, -⟩ := xw_c hc
      have c2 := (xw_bb c1).1
      rw [c2] at o3
      simpa using o3
    case invokespecial idx =>
      have o3 : (qzM ra || !Nat.beq rb 0) = true := o2
      dsimp only at hc
      split at hc
      · obtain ⟨c1, -⟩ := xw_c hc
        have c2 := (xw_bb c1).1
        rw [c2] at o3
        simpa using o3
      · cases hc
    all_goals cases hc
/-- every run of such a method leaves it -/
theorem qz_run {d mid : Nat} {mi : xm_M} {S : xs_S} {v : Option Value} {h' : xh_H} {c s : Nat} (hm : qzM mid = true) (k : xR none d mid mi S (v, h', c, s)) : Qz S.2.2.2.1 h' := by
  obtain ⟨f, e⟩ := k
  exact xe_x_qz qz_hM f d mid mi S v h' c s hm e
theorem xq_qz {f mid : Nat} {mi : xm_M} {pc : Nat} {lv : List (Nat × Value)} {st : List Value} {h : xh_H} (hm : qzM mid = true) : xq f mid mi pc lv st h (fun _ h' => Qz h h') := fun d lw v h' c s _ he => xe_x_qz qz_hM f d mid mi (pc, lw, st, h, 0, 0) v h' c s hm he
end XQM
end
section
section XVL
variable (T : Nat → Nat) (n nn : Nat) (NW : Nat → Nat) (sv : Nat) (NV : Nat → Bool)
/-- what a frame holds of one set: or, and; sum, weight, needed -/
abbrev vF : Type := Bool × Bool × Int32 × Int32 × Int32
def vR : vF := (false, true, 0, 1, 0)
def vL (x : Int32) : vF := (false, true, 0, 1, x)
/-- the first name like it -/
def nmi (w : Nat) : Nat := ((List.range nn).find? (fun k => Nat.beq (NW k) w)).getD 0
def vw (x : Int32) (ds : List vF) : List vF := match ds with
  | (o, a, su, _, nd) :: r => (o, a, su, x, nd) :: r
  | [] => []
/-- a ONE begins -/
def vbo (p : Nat) (ds : List vF) (one : Bool) : List vF × Bool := if tkk T n p = 3 then (vL (nI (tkn T n p)) :: ds, one) else if tkk T n p = 40 then (vR :: ds, one) else if lone T n p = true then (ds, sv.testBit (T (tks T n p) - 97)) else (ds, NV (nmi nn NW (tkw T n p)))
/-- an item that begins with a number -/
def vbi (p : Nat) (ds : List vF) (one : Bool) : List vF × Bool := if tkk T n (tke T n p) = 42 then vbo T n nn NW sv NV (tke T n (tke T n p)) (vw (nI (tkn T n p)) ds) one else (vL (nI (tkn T n p)) :: vw 1 ds, one)
def vbg (p : Nat) (fs : List Nat) (ds : List vF) (one : Bool) : List vF × Bool := if fs.head? = some 2 ∧ tkk T n p = 3 then vbi T n nn NW sv NV p ds one else vbo T n nn NW sv NV p ds one
/-- a ONE is through -/
def ven (p : Nat) (fs : List Nat) (ds : List vF) (one : Bool) : List vF × Bool := match ds with
  | [] => ([], one)
  | (o, a, su, w, nd) :: r => if fs.head? = some 2 then (if tkk T n p = 93 then (r, xe_c .ge (if one = true then su + w else su) nd) else ((o, a, if one = true then su + w else su, 1, nd) :: r, one)) else if ky T n p 2 = true then ((o, a && one, su, w, nd) :: r, one) else if ky T n p 3 = true then ((o || (a && one), true, su, w, nd) :: r, one) else (r, o || (a && one))
/-- the data's step beside the automaton's -/
def vdt (s : aSt) (x : List vF × Bool) : List vF × Bool := if s.2.2.2 = [] then x else if s.1 = 1 then vbg T n nn NW sv NV s.2.1 s.2.2.2 x.1 x.2 else ven T n s.2.1 s.2.2.2 x.1 x.2
variable (mem : Nat)
def vis : Nat → aSt → List vF × Bool → List vF × Bool
  | 0, _, x => x
  | k + 1, s, x => (match stp T n mem nn NW s with
    | .inl s' => vis k s' (vdt T n nn NW sv NV s x)
    | .inr _ => x)
/-- the automaton and its data come from one state to another -/
def Rv (s : aSt) (x : List vF × Bool) (s' : aSt) (x' : List vF × Bool) : Prop := ∃ k, its T n mem nn NW k s = .inl s' ∧ vis T n nn NW sv NV mem k s x = x'
variable {T n nn NW sv NV mem}
theorem Rv_0 {s : aSt} {x : List vF × Bool} : Rv T n nn NW sv NV mem s x s x := ⟨0, rfl, rfl⟩
theorem Rv_c {s s' : aSt} {x x' : List vF × Bool} (a : Rv T n nn NW sv NV mem s x s' x') : Rc T n mem nn NW s s' := a.elim fun k e => ⟨k, e.1⟩
theorem vis_add : ∀ {k j : Nat} {s s1 : aSt} {x : List vF × Bool}, its T n mem nn NW k s = .inl s1 → vis T n nn NW sv NV mem (k + j) s x = vis T n nn NW sv NV mem j s1 (vis T n nn NW sv NV mem k s x) := by
  intro k
  induction k with
  | zero =>
    intro j s s1 x e
    cases e
    rw [Nat.zero_add]
    rfl
  | succ k ih =>
    intro j s s1 x e
    rw [Nat.succ_add]
    unfold its at e
    have u : ∀ m, vis T n nn NW sv NV mem (m + 1) s x = (match stp T n mem nn NW s with
      | .inl s' => vis T n nn NW sv NV mem m s' (vdt T n nn NW sv NV s x)
      | .inr _ => x) := fun _ => rfl
    rw [show (k + j).succ = (k + j) + 1 from rfl, u (k + j), u k]
    cases hs : stp T n mem nn NW s with
    | inl s' =>
      rw [hs] at e
      exact ih e
    | inr e' => rw [hs] at e; cases e
theorem Rv_t {s s1 s2 : aSt} {x x1 x2 : List vF × Bool} (a : Rv T n nn NW sv NV mem s x s1 x1) (b : Rv T n nn NW sv NV mem s1 x1 s2 x2) : Rv T n nn NW sv NV mem s x s2 x2 := by
  obtain ⟨k, a1, a2⟩ := a
  obtain ⟨j, b1, b2⟩ := b
  exact ⟨k + j, (its_add a1).trans b1, by rw [vis_add a1, a2]; exact b2⟩
theorem Rv_1 {s s1 : aSt} {x : List vF × Bool} (h : stp T n mem nn NW s = .inl s1) : Rv T n nn NW sv NV mem s x s1 (vdt T n nn NW sv NV s x) := ⟨1, by
  unfold its
  rw [h]
  rfl, by
  unfold vis
  rw [h]
  rfl⟩
end XVL
end
section
section XPX
abbrev cdL : Type := List (Nat × Int32)
/-- one step of a statute's program for one set: the stack (its top first) and the names; none where the stack is too short or too high -/
def px1 (sv : Int32) (q : Nat × Int32) (x : List Int32 × Int32) : Option (List Int32 × Int32) := match q.1, x with
  | 0, (σ, nm) => if σ.length < 64 then some (((sv >>> (q.2 &&& 31)) &&& Int32.ofInt 1) :: σ, nm) else none
  | 1, (σ, nm) => if σ.length < 64 then some (((nm >>> (q.2 &&& 31)) &&& Int32.ofInt 1) :: σ, nm) else none
  | 2, (a :: b :: σ, nm) => some ((b &&& a) :: σ, nm)
  | 3, (a :: b :: σ, nm) => some ((b ||| a) :: σ, nm)
  | 4, (σ, nm) => if σ.length < 64 then some (Int32.ofInt 0 :: σ, nm) else none
  | 5, (a :: b :: σ, nm) => some ((b + a * q.2) :: σ, nm)
  | 6, (a :: σ, nm) => some (bl (xe_c .ge a q.2) :: σ, nm)
  | 7, (a :: σ, nm) => some (σ, nm ||| (a <<< (q.2 &&& 31)))
  | _, _ => none
def px (sv : Int32) : cdL → List Int32 × Int32 → Option (List Int32 × Int32)
  | [], x => some x
  | q :: c, x => (px1 sv q x).bind (px sv c)
theorem px_app {sv : Int32} {c d : cdL} {x : List Int32 × Int32} : px sv (c ++ d) x = (px sv c x).bind (px sv d) := by
  induction c generalizing x with
  | nil => rfl
  | cons q c ih =>
    show (px1 sv q x).bind (px sv (c ++ d)) = ((px1 sv q x).bind (px sv c)).bind (px sv d)
    cases h : px1 sv q x with
    | none => rfl
    | some y => exact ih
/-- a piece of code that puts one value on any stack with so much room, and leaves the names -/
def pv (sv nm : Int32) (k : Nat) (c : cdL) (y : Int32) : Prop := ∀ σ : List Int32, σ.length + k ≤ 64 → px sv c (σ, nm) = some (y :: σ, nm)
theorem pv_le {sv nm y : Int32} {k j : Nat} {c : cdL} (h : pv sv nm k c y) (e : k ≤ j) : pv sv nm j c y := fun σ hs => h σ (by omega)
theorem pv_m {sv nm v : Int32} : pv sv nm 1 [(0, v)] ((sv >>> (v &&& 31)) &&& Int32.ofInt 1) := fun σ hs => by
  show (if σ.length < 64 then some (((sv >>> (v &&& 31)) &&& Int32.ofInt 1) :: σ, nm) else none).bind (px sv []) = _
  rw [if_pos (by omega)]
  rfl
theorem pv_n {sv nm v : Int32} : pv sv nm 1 [(1, v)] ((nm >>> (v &&& 31)) &&& Int32.ofInt 1) := fun σ hs => by
  show (if σ.length < 64 then some (((nm >>> (v &&& 31)) &&& Int32.ofInt 1) :: σ, nm) else none).bind (px sv []) = _
  rw [if_pos (by omega)]
  rfl
theorem pv_and {sv nm v y z : Int32} {k j : Nat} {c d : cdL} (a : pv sv nm k c y) (b : pv sv nm j d z) (e : j + 1 ≤ k) : pv sv nm k (c ++ (d ++ [(2, v)])) (y &&& z) := fun σ hs => by
  rw [px_app, a σ hs]
  show px sv (d ++ [(2, v)]) (y :: σ, nm) = _
  rw [px_app, b (y :: σ) (by show σ.length + 1 + j ≤ 64; omega)]
  rfl
theorem pv_or {sv nm v y z : Int32} {k j : Nat} {c d : cdL} (a : pv sv nm k c y) (b : pv sv nm j d z) (e : j + 1 ≤ k) : pv sv nm k (c ++ (d ++ [(3, v)])) (y ||| z) := fun σ hs => by
  rw [px_app, a σ hs]
  show px sv (d ++ [(3, v)]) (y :: σ, nm) = _
  rw [px_app, b (y :: σ) (by show σ.length + 1 + j ≤ 64; omega)]
  rfl
theorem pv_item {sv nm v y z : Int32} {k j : Nat} {c d : cdL} (a : pv sv nm k c y) (b : pv sv nm j d z) (e : j + 1 ≤ k) : pv sv nm k (c ++ (d ++ [(5, v)])) (y + z * v) := fun σ hs => by
  rw [px_app, a σ hs]
  show px sv (d ++ [(5, v)]) (y :: σ, nm) = _
  rw [px_app, b (y :: σ) (by show σ.length + 1 + j ≤ 64; omega)]
  rfl
theorem pv_begin {sv nm v : Int32} : pv sv nm 1 [(4, v)] (Int32.ofInt 0) := fun σ hs => by
  show (if σ.length < 64 then some (Int32.ofInt 0 :: σ, nm) else none).bind (px sv []) = _
  rw [if_pos (by omega)]
  rfl
theorem pv_quota {sv nm v y : Int32} {k : Nat} {c : cdL} (a : pv sv nm k c y) : pv sv nm k (c ++ [(6, v)]) (bl (xe_c .ge y v)) := fun σ hs => by
  rw [px_app, a σ hs]
  rfl
theorem bl_and {a b : Bool} : bl a &&& bl b = bl (a && b) := by cases a <;> cases b <;> rfl
theorem bl_or {a b : Bool} : bl a ||| bl b = bl (a || b) := by cases a <;> cases b <;> rfl
theorem bl_nI {a : Bool} : bl a = nI a.toNat := by cases a <;> rfl
theorem bl_mul {a : Bool} {b w : Int32} : b + bl a * w = if a = true then b + w else b := by
  cases a with
  | true => show b + 1 * w = b + w; rw [Int32.one_mul]
  | false => show b + 0 * w = b; rw [Int32.zero_mul, Int32.add_zero]
/-- the names' values as bits -/
def nmo (nn : Nat) (NV : Nat → Bool) (nm : Int32) : Prop := ∃ a : Nat, a < 2 ^ nn ∧ nm = nI a ∧ ∀ k, k < nn → a.testBit k = NV k
theorem nmo_b {nn k : Nat} {NV : Nat → Bool} {nm : Int32} (h : nmo nn NV nm) (n16 : nn ≤ 16) (hk : k < nn) : ((nm >>> (nI k &&& 31)) &&& Int32.ofInt 1) = bl (NV k) := by
  obtain ⟨a, h1, rfl, h3⟩ := h
  have : 2 ^ nn ≤ 2 ^ 16 := Nat.pow_le_pow_right (by decide) n16
  rw [nI_b0 (by omega) (by omega), h3 k hk, bl_nI]
def upB (NV : Nat → Bool) (nn : Nat) (y : Bool) : Nat → Bool := fun k => if k = nn then y else NV k
theorem nmo_up {nn : Nat} {NV : Nat → Bool} {nm : Int32} {y : Bool} (h : nmo nn NV nm) (n16 : nn < 16) : nmo (nn + 1) (upB NV nn y) (nm ||| (bl y <<< (nI nn &&& 31))) := by
  obtain ⟨a, h1, rfl, h3⟩ := h
  have hp : 2 ^ (nn + 1) = 2 * 2 ^ nn := by rw [Nat.pow_succ]; omega
  cases y with
  | false =>
    refine ⟨a, by omega, ?_, fun k hk => ?_⟩
    · have e : (bl false <<< (nI nn &&& 31) : Int32) = nI 0 := by
        have hh : nn = 0 ∨ nn = 1 ∨ nn = 2 ∨ nn = 3 ∨ nn = 4 ∨ nn = 5 ∨ nn = 6 ∨ nn = 7 ∨ nn = 8 ∨ nn = 9 ∨ nn = 10 ∨ nn = 11 ∨ nn = 12 ∨ nn = 13 ∨ nn = 14 ∨ nn = 15 := by omega
        rcases hh with rfl | rfl | rfl | rfl | rfl | rfl | rfl | rfl | rfl | rfl | rfl | rfl | rfl | rfl | rfl | rfl <;> decide
      rw [e, nI_or, Nat.or_zero]
    · unfold upB
      by_cases e : k = nn
      · rw [if_pos e, e]
        exact Nat.testBit_lt_two_pow h1
      · rw [if_neg e]
        exact h3 k (by omega)
  | true =>
    refine ⟨a ||| 2 ^ nn, Nat.or_lt_two_pow (by omega) (by have := Nat.two_pow_pos nn; omega), ?_, fun k hk => ?_⟩
    · have e : (bl true <<< (nI nn &&& 31) : Int32) = nI (2 ^ nn) := by
        have hh : nn = 0 ∨ nn = 1 ∨ nn = 2 ∨ nn = 3 ∨ nn = 4 ∨ nn = 5 ∨ nn = 6 ∨ nn = 7 ∨ nn = 8 ∨ nn = 9 ∨ nn = 10 ∨ nn = 11 ∨ nn = 12 ∨ nn = 13 ∨ nn = 14 ∨ nn = 15 := by omega
        rcases hh with rfl | rfl | rfl | rfl | rfl | rfl | rfl | rfl | rfl | rfl | rfl | rfl | rfl | rfl | rfl | rfl <;> decide
      rw [e, nI_or]
    · rw [Nat.testBit_or, Nat.testBit_two_pow]
      unfold upB
      by_cases e : k = nn
      · rw [if_pos e, e]
        simp
      · rw [if_neg e, h3 k (by omega)]
        rw [show decide (nn = k) = false from decide_eq_false (fun z => e z.symm), Bool.or_false]
end XPX
end
section
section XPT
/-- the program's text -/
def ptx (h : xh_H) (P : List (Nat × Int32)) : Prop := xg 0 h.2.1 4 3 = nI P.length ∧ ∀ k (hk : k < P.length), xg 0 h.2.1 5 k = nI (P[k]).1 ∧ xg 0 h.2.1 6 k = (P[k]).2
theorem ptx_f {S L : Nat → Nat → Bool} {h h' : xh_H} {P : List (Nat × Int32)} (p : ptx h P) (g : fx S L h h') (e1 : S 4 3 = false) (e2 : ∀ k, S 5 k = false) (e3 : ∀ k, S 6 k = false) : ptx h' P := ⟨(fx_i g e1).trans p.1, fun k hk' => ⟨(fx_i g (e2 k)).trans (p.2 k hk').1, (fx_i g (e3 k)).trans (p.2 k hk').2⟩⟩
theorem ptx_a {h h' : xh_H} {P : List (Nat × Int32)} {c : Nat} {y : Int32} (p : ptx h P) (e1 : xg 0 h'.2.1 4 3 = nI (P.length + 1)) (e2 : xg 0 h'.2.1 5 P.length = nI c) (e3 : xg 0 h'.2.1 6 P.length = y) (e4 : ∀ k, k ≠ P.length → xg 0 h'.2.1 5 k = xg 0 h.2.1 5 k ∧ xg 0 h'.2.1 6 k = xg 0 h.2.1 6 k) : ptx h' (P ++ [(c, y)]) := by
  refine ⟨by rw [e1, List.length_append]; rfl, fun k hk' => ?_⟩
  by_cases z : k = P.length
  · subst z
    rw [List.getElem_append_right (Nat.le_refl _)]
    simp only [Nat.sub_self, List.getElem_cons_zero]
    exact ⟨e2, e3⟩
  · have hl : k < P.length := by rw [List.length_append] at hk'; simp at hk'; omega
    rw [List.getElem_append_left hl, (e4 k z).1, (e4 k z).2]
    exact p.2 k hl
set_option maxRecDepth 100000 in
set_option maxHeartbeats 4000000 in
theorem pad_q {f c : Nat} {y : Int32} {P : List (Nat × Int32)} {h : xh_H} (pt : ptx h P) (l4 : P.length < 400) (hq : a_rq a_tb h) : xq f xi_X3_add xmi_X3_add 0 [(0, .ref 4), (1, .int (nI c)), (2, .int y)] [] h (fun v h' => v = none ∧ fx aS_ fN h h' ∧ ptx h' (P ++ [(c, y)])) := by
  cases c1 : xe_c .ge (nI (P.length)) 400 with
  | true =>
    have z1 : (P.length) ≥ 400 := nq_get (a := (P.length)) (b := 400) (by omega) (by omega) c1
    omega
  | false =>
    have z1 : (P.length) < 400 := nq_gef (a := (P.length)) (b := 400) (by omega) (by omega) c1
    refine xq_n 40 [] [] [] (xh_ui (xh_ui (xh_ui h 5 ((xg 0 h.2.1 4 3).toNatClampNeg) (nI c)) 6 ((xg 0 (xh_ui h 5 ((xg 0 h.2.1 4 3).toNatClampNeg) (nI c)).2.1 4 3).toNatClampNeg) y) 4 3 ((xg 0 (xh_ui (xh_ui h 5 ((xg 0 h.2.1 4 3).toNatClampNeg) (nI c)) 6 ((xg 0 (xh_ui h 5 ((xg 0 h.2.1 4 3).toNatClampNeg) (nI c)).2.1 4 3).toNatClampNeg) y).2.1 4 3) + (Int32.ofInt 1))) [false] 24 hq rfl ⟨(show xe_c .ge (xg 0 h.2.1 4 3) 400 = false by rw [show (xg 0 h.2.1 4 3) = (nI (P.length)) from pt.1]; exact c1), trivial⟩ (fun _ => ?_)
    rw [show (xg 0 (xh_ui (xh_ui h 5 ((xg 0 h.2.1 4 3).toNatClampNeg) (nI c)) 6 ((xg 0 (xh_ui h 5 ((xg 0 h.2.1 4 3).toNatClampNeg) (nI c)).2.1 4 3).toNatClampNeg) y).2.1 4 3) = (nI (P.length)) from (gx_o (by decide)).trans ((gx_o (by decide)).trans (pt.1))]
    rw [show (xg 0 (xh_ui h 5 ((xg 0 h.2.1 4 3).toNatClampNeg) (nI c)).2.1 4 3) = (nI (P.length)) from (gx_o (by decide)).trans (pt.1)]
    rw [show (xg 0 h.2.1 4 3) = (nI (P.length)) from pt.1]
    rw [show ((nI (P.length)).toNatClampNeg) = P.length from nI_clamp (by omega)]
    rw [show ((nI (P.length)) + (Int32.ofInt 1)) = nI (P.length + 1) from nI_1 _]
    have hq : a_rq a_tb (xh_ui (xh_ui (xh_ui h 5 P.length (nI c)) 6 P.length y) 4 3 (nI (P.length + 1))) := a_rq_ui (a_rq_ui (a_rq_ui hq))
    exact xq_ret rfl rfl rfl ⟨rfl, fx_ui (fx_ui (fx_ui (fx_0) rfl) rfl) rfl, ptx_a pt (gx_s) ((gx_o (by decide)).trans ((gx_o (by decide)).trans (gx_s))) ((gx_o (by decide)).trans (gx_s)) (fun k hk' => ⟨(gx_o (by decide)).trans ((gx_o (by decide)).trans (gx_k (by omega))), (gx_o (by decide)).trans ((gx_k (by omega)).trans (gx_o (by decide)))⟩)⟩
end XPT
end
section
section XPS
set_option maxRecDepth 100000 in
set_option maxHeartbeats 4000000 in
theorem psh_q {f d : Nat} {x : Int32} {h : xh_H} (d1 : 0 ≤ d) (d2 : d < 64) (hq : a_rq a_tb h) : xq f xi_X3_push xmi_X3_push 0 [(0, .ref 4), (1, .int (nI d)), (2, .int x)] [] h (fun v h' => h' = xh_ui h 7 d x ∧ v = some (.int (nI (d + 1)))) := by
  cases c1 : xe_c .lt (nI d) 0 with
  | true =>
    have z1 : d < 0 := nq_ltt (a := d) (b := 0) (by omega) (by omega) c1
    omega
  | false =>
    have z1 : d ≥ 0 := nq_ltf (a := d) (b := 0) (by omega) (by omega) c1
    cases c2 : xe_c .lt (nI d) 64 with
    | true =>
      have z2 : d < 64 := nq_ltt (a := d) (b := 64) (by omega) (by omega) c2
      refine xq_n 22 [] [] [.int ((nI d) + (Int32.ofInt 1))] (xh_ui h 7 ((nI d).toNatClampNeg) x) [false, true] 15 hq rfl ⟨c1, c2, trivial⟩ (fun _ => ?_)
      rw [show ((nI d).toNatClampNeg) = d from nI_clamp (by omega)]
      rw [show ((nI d) + (Int32.ofInt 1)) = nI (d + 1) from nI_1 _]
      have hq : a_rq a_tb (xh_ui h 7 d x) := a_rq_ui hq
      exact xq_ret rfl rfl rfl ⟨rfl, rfl⟩
    | false =>
      have z2 : d ≥ 64 := nq_ltf (a := d) (b := 64) (by omega) (by omega) c2
      omega
set_option maxRecDepth 100000 in
set_option maxHeartbeats 4000000 in
theorem rpl_q {f d : Nat} {x : Int32} {h : xh_H} (d1 : 0 < d) (d2 : d ≤ 64) (hq : a_rq a_tb h) : xq f xi_X3_replace xmi_X3_replace 0 [(0, .ref 4), (1, .int (nI d)), (2, .int x)] [] h (fun v h' => h' = xh_ui h 7 (d - 1) x ∧ v = none) := by
  cases c1 : xe_c .le (nI d) 0 with
  | true =>
    have z1 : d ≤ 0 := nq_let (a := d) (b := 0) (by omega) (by omega) c1
    omega
  | false =>
    have z1 : d > 0 := nq_lef (a := d) (b := 0) (by omega) (by omega) c1
    cases c2 : xe_c .gt (nI d) 64 with
    | true =>
      have z2 : d > 64 := nq_gtt (a := d) (b := 64) (by omega) (by omega) c2
      omega
    | false =>
      have z2 : d ≤ 64 := nq_gtf (a := d) (b := 64) (by omega) (by omega) c2
      refine xq_n 19 [] [] [] (xh_ui h 7 (((nI d) - (Int32.ofInt 1)).toNatClampNeg) x) [false, false] 14 hq rfl ⟨c1, c2, trivial⟩ (fun _ => ?_)
      rw [show ((nI d) - (Int32.ofInt 1)) = nI (d - 1) from nI_sub (b := 1) (by omega)]
      rw [show ((nI (d - 1)).toNatClampNeg) = (d - 1) from nI_clamp (by omega)]
      have hq : a_rq a_tb (xh_ui h 7 (d - 1) x) := a_rq_ui hq
      exact xq_ret rfl rfl rfl ⟨rfl, rfl⟩
set_option maxRecDepth 100000 in
set_option maxHeartbeats 4000000 in
theorem pek_q {f d : Nat} {h : xh_H} (d1 : 0 < d) (d2 : d ≤ 64) (hq : a_rq a_tb h) : xq f xi_X3_peek xmi_X3_peek 0 [(0, .ref 4), (1, .int (nI d))] [] h (fun v h' => h = h' ∧ v = some (.int (xg 0 h.2.1 7 (d - 1)))) := by
  cases c1 : xe_c .le (nI d) 0 with
  | true =>
    have z1 : d ≤ 0 := nq_let (a := d) (b := 0) (by omega) (by omega) c1
    omega
  | false =>
    have z1 : d > 0 := nq_lef (a := d) (b := 0) (by omega) (by omega) c1
    cases c2 : xe_c .gt (nI d) 64 with
    | true =>
      have z2 : d > 64 := nq_gtt (a := d) (b := 64) (by omega) (by omega) c2
      omega
    | false =>
      have z2 : d ≤ 64 := nq_gtf (a := d) (b := 64) (by omega) (by omega) c2
      refine xq_n 22 [] [] [.int (xg 0 h.2.1 7 (((nI d) - (Int32.ofInt 1)).toNatClampNeg))] h [false, false] 14 hq rfl ⟨c1, c2, trivial⟩ (fun hq => ?_)
      rw [show (xg 0 h.2.1 7 (((nI d) - (Int32.ofInt 1)).toNatClampNeg)) = xg 0 h.2.1 7 (d - 1) from (by rw [show ((nI d) - (Int32.ofInt 1)) = nI (d - 1) from nI_sub (b := 1) (by omega), show ((nI (d - 1)).toNatClampNeg) = (d - 1) from nI_clamp (by omega)])]
      exact xq_ret rfl rfl rfl ⟨rfl, rfl⟩
end XPS
end
