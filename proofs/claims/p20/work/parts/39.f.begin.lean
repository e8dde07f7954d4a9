section XBG
/-- what a beginning leaves -/
def bg_Q (h : xh_H) (sz : Nat) (B : Int) (v : Option Value) (h' : xh_H) : Prop := hk bg_md h h' ∧ (v = some (.int 0) ∨ (v = some (.int 1) ∧ rI h' sz B ∧ fr h < fr h' ∧ (xg 0 h'.2.1 39 29 = 1 ∨ (xg 0 h'.2.1 39 29 = 0 ∧ mo h' 45 0))))
theorem i00 {x : Int32} (h1 : 0 ≤ x.toInt) (h2 : x.toInt ≤ 0) : x = 0 := Int32.toInt_inj.mp (by have : (0 : Int32).toInt = 0 := rfl; omega)
theorem rI_tr {h h' : xh_H} {sz : Nat} {B : Int} (g : rI h sz B) (hk0 : hk bg_md h h') (gp : go_P h' sz 0) (e28 : xg 0 h'.2.1 39 28 = xg 0 h.2.1 39 28) (e41 : ∀ k, xg 0 h'.2.1 41 k = xg 0 h.2.1 41 k) (e42 : ∀ k, xg 0 h'.2.1 42 k = xg 0 h.2.1 42 k) (e46 : ∀ k, xg 0 h'.2.1 46 k = xg 0 h.2.1 46 k) (e47 : ∀ k, xg 0 h'.2.1 47 k = xg 0 h.2.1 47 k) : rI h' sz B := by
  obtain ⟨g1, g2, tp, g3, g4, g5⟩ := g
  exact ⟨pi_tr g1 hk0 gp, by rw [e47]; exact g2, tp, by rw [e28]; exact g3, g4, fun t ht => lvo_c (g5 t ht) (fun _ _ => e41 _) (fun _ _ => e42 _) (fun _ _ => e46 _) (e47 t)⟩
/-- one field more, that the levels don't speak of -/
theorem rI_ui {h : xh_H} {sz c k : Nat} {B : Int} {x : Int32} (g : rI h sz B) (hk0 : hk bg_md h (xh_ui h c k x)) (h1 : ¬ (c = 39 ∧ (7 ≤ k ∧ k ≤ 10 ∨ k = 28))) (h2 : c ≠ 41 ∧ c ≠ 42 ∧ c ≠ 46 ∧ c ≠ 47) : rI (xh_ui h c k x) sz B := by
  refine rI_tr g hk0 (go_Pc g.1.2.2.2.1 (fun j j1 j2 => gx_i (fun z => h1 ⟨z.1.symm, Or.inl ⟨by omega, by omega⟩⟩))) (gx_i (fun z => h1 ⟨z.1.symm, Or.inr z.2.symm⟩)) (fun _ => gx_o (Ne.symm h2.1)) (fun _ => gx_o (Ne.symm h2.2.1)) (fun _ => gx_o (Ne.symm h2.2.2.1)) (fun _ => gx_o (Ne.symm h2.2.2.2))
theorem kyb_2 {h : xh_H} {w : Int64} (z : kyb h w = true) : xg 0 h.2.1 39 9 = 2 := by
  unfold kyb at z
  rw [Bool.and_eq_true] at z
  exact of_decide_eq_true z.1
theorem sgb_4 {h : xh_H} {c : Int32} (z : sgb h c = true) : xg 0 h.2.1 39 9 = 4 := by
  unfold sgb at z
  rw [Bool.and_eq_true] at z
  exact of_decide_eq_true z.1
theorem nmb_2 {h : xh_H} (z : nmb h = true) : xg 0 h.2.1 39 9 = 2 := by
  unfold nmb at z
  rw [Bool.and_eq_true] at z
  exact of_decide_eq_true z.1
theorem kd_e {h : xh_H} {k : Nat} (hk' : k < 5) (z : xg 0 h.2.1 39 9 = nI k) : kd h = k := by
  unfold kd
  rw [z, nI_toInt (by omega)]
  rfl
theorem fr_c {h h' : xh_H} (e : xg 0 h'.2.1 39 8 = xg 0 h.2.1 39 8) : fr h' = fr h := by
  unfold fr
  rw [e]
theorem num_3 {h : xh_H} {sz : Nat} (g : go_P h sz 0) (z : xg 0 h.2.1 39 9 = 3) : ∃ n : Nat, xg 0 h.2.1 39 10 = nI n ∧ n ≤ 999 := by
  obtain ⟨t', f, k, g1, g2, g3, g4, g5, g6, g7, g8, g9, g10⟩ := g
  rw [g3] at z
  have e : k = 3 := (nI_eq (by omega) (by decide)).mp z
  obtain ⟨b1, b2⟩ := g10 e
  obtain ⟨n, e1, e2, -⟩ := a_nk (x := xg 0 h.2.1 39 10) (m := 999) b1 b2
  exact ⟨n, e1, e2⟩
set_option maxRecDepth 100000 in
set_option maxHeartbeats 8000000 in
/-- X10.beginList -/
theorem bl_run {d sz n : Nat} {B : Int} {h : xh_H} (hB : 0 ≤ B) (hn : 72 ≤ h.1.length) (g : rI h sz B) (n999 : n ≤ 999) : xt_P (d + 3) xi_X10_beginList xmi_X10_beginList 0 [(0, .ref 39), (1, .int (nI n))] [] h (bg_Q h sz B) := by
  have hq := a_rq_of g.1.1.1 hn
  refine xa_tn 1 [0, 1] [(0, .ref 39), (1, .int (nI n))] [.ref 39] h [] 3 hq rfl trivial (fun _ => ?_)
  refine xp_run hq rfl rfl (isOf_run (d := d + 1) hq) ?_
  rintro v h1 ⟨rfl, rfl⟩
  cases hof : kyb h 411 with
  | false =>
    refine xa_tn 9 [] [] [.int (Int32.ofInt 1), .ref 39] h [false] 5 hq rfl ⟨rfl, trivial⟩ (fun _ => ?_)
    refine xp_int (C := aC_m_X10_bad) (lo := 0) (hi := 0) (σ := fun _ => 0) as_m_X10_bad hq g.1.1 rfl rfl rfl (Nat.zero_le _) ⟨a_av (by decide) hq.1, a_ai (by decide) (by decide), trivial⟩ a_fp0 rfl (fun x h1 x1 x2 i1 l1 f1 q1 => ?_)
    cases i00 x1 x2
    exact xp_ret rfl rfl rfl ⟨hk_c (hk_0 g.1.1) i1 l1 f1 (by decide), Or.inl rfl⟩
  | true =>
    have k2 := kd_e (k := 2) (by decide) (kyb_2 hof)
    refine xa_tn 14 [0, 1] [(0, .ref 39), (1, .int (nI n))] [.ref 39] h [true] 4 hq rfl ⟨rfl, trivial⟩ (fun _ => ?_)
    refine xp_run hq rfl rfl (pg (d := d + 1) hn g.1) ?_
    rintro v h1 ⟨rfl, kg1, p1, f1⟩
    have r1 : rI h1 sz B := rI_go g kg1 p1
    have hk1 : hk bg_md h h1 := hk_t (hk_0 g.1.1) kg1 (by decide)
    have q1 := hk_q hk1 hn
    have hn1 := hk_n hk1 hn
    have fr1 := f1 (by omega)
    refine xa_tn 20 [0, 1] [(0, .ref 39), (1, .int (nI n))] [.int 91, .ref 39] h1 [] 4 q1 rfl trivial (fun _ => ?_)
    refine xp_run q1 rfl rfl (sg_run (d := d + 2) (c := 91) q1) ?_
    rintro v h2 ⟨rfl, rfl⟩
    cases hsg : sgb h1 91 with
    | false =>
      refine xa_tn 28 [] [] [.int (Int32.ofInt 1), .ref 39] h1 [false] 5 q1 rfl ⟨rfl, trivial⟩ (fun _ => ?_)
      refine xp_int (C := aC_m_X10_bad) (lo := 0) (hi := 0) (σ := fun _ => 0) as_m_X10_bad q1 p1.1 rfl rfl rfl (Nat.zero_le _) ⟨a_av (by decide) q1.1, a_ai (by decide) (by decide), trivial⟩ a_fp0 rfl (fun x h2 x1 x2 i2 l2 f2 q2 => ?_)
      cases i00 x1 x2
      exact xp_ret rfl rfl rfl ⟨hk_c hk1 i2 l2 f2 (by decide), Or.inl rfl⟩
    | true =>
      have k4 := kd_e (k := 4) (by decide) (sgb_4 hsg)
      obtain ⟨-, r2, tp, r3, r4, r5⟩ := r1
      have tpi := nI_toInt (n := tp) (by omega)
      have t12 : (12 : Int32).toInt = 12 := rfl
      by_cases ht : tp = 12
      · refine xa_tn 43 [] [] [.int (Int32.ofInt 4), .ref 39] h1 [true, false] 9 q1 rfl ⟨rfl, xne_f (show (xg 0 h1.2.1 39 28).toInt = (12 : Int32).toInt by rw [r3, tpi, ht]; rfl), trivial⟩ (fun _ => ?_)
        refine xp_int (C := aC_m_X10_bad) (lo := 0) (hi := 0) (σ := fun _ => 0) as_m_X10_bad q1 p1.1 rfl rfl rfl (Nat.zero_le _) ⟨a_av (by decide) q1.1, a_ai (by decide) (by decide), trivial⟩ a_fp0 rfl (fun x h2 x1 x2 i2 l2 f2 q2 => ?_)
        cases i00 x1 x2
        exact xp_ret rfl rfl rfl ⟨hk_c hk1 i2 l2 f2 (by decide), Or.inl rfl⟩
      · refine xa_tn 59 [] [] [.int (nI n), .ref 39] (xh_ui h1 39 28 ((xg 0 h1.2.1 39 28) + (Int32.ofInt 1))) [true, true] 15 q1 rfl ⟨rfl, xne_t (show (xg 0 h1.2.1 39 28).toInt ≠ (12 : Int32).toInt by rw [r3, tpi, t12]; omega), trivial⟩ (fun _ => ?_)
        have e1 : nI tp + Int32.ofInt 1 = nI (tp + 1) := nI_1 tp
        rw [r3, e1]
        have tp1 := nI_toInt (n := tp + 1) (by omega)
        have hk2' : hk bg_md h1 (xh_ui h1 39 28 (nI (tp + 1))) := hk_ui (s := (0, 10)) (lo := 0) (hi := 12) (hk_0 p1.1) hn1 rfl rfl (by omega) (by omega) rfl rfl
        have p2 : pi (xh_ui h1 39 28 (nI (tp + 1))) sz := pi_tr p1 hk2' (go_Pc p1.2.2.2.1 (fun j j1 j2 => gx_k (by omega)))
        have e28 : xg 0 (xh_ui h1 39 28 (nI (tp + 1))).2.1 39 28 = nI (tp + 1) := gx_s
        have eo : ∀ c k, ¬ (c = 39 ∧ k = 28) → xg 0 (xh_ui h1 39 28 (nI (tp + 1))).2.1 c k = xg 0 h1.2.1 c k := fun c k e => gx_i e
        generalize xh_ui h1 39 28 (nI (tp + 1)) = h2 at hk2' p2 e28 eo ⊢
        refine xp_run (hk_q hk2' hn1) rfl rfl (opl_run (d := d) (tp := tp + 1) hB (hk_n hk2' hn1) p2 e28 (by omega) (by omega) (fun t ht' => lvo_c (r5 t (by omega)) (fun _ _ => eo _ _ (by omega)) (fun _ _ => eo _ _ (by omega)) (fun _ _ => eo _ _ (by omega)) (eo _ _ (by omega))) n999 (by rw [eo 47 0 (by omega)]; exact r2)) ?_
        rintro v h3 ⟨rfl, kk3, r3', aw3, f3⟩
        have hk3 : hk bg_md h h3 := hk_t (hk_t hk1 hk2' (fun _ z => z)) kk3 (fun _ z => z)
        refine xa_tn 63 [] [] [.int (Int32.ofInt 1)] h3 [] 3 (hk_q hk3 hn) rfl trivial (fun _ => ?_)
        refine xp_ret rfl rfl rfl ⟨hk3, Or.inr ⟨rfl, r3', ?_, Or.inl aw3⟩⟩
        have f4 := f3 (by unfold kd at k4 ⊢; rw [eo 39 9 (by omega)]; omega)
        rw [fr_c (h := h1) (h' := h2) (eo 39 8 (by omega))] at f4
        omega
end XBG
