section XRQ
variable {T : Nat → Nat} {n mem nn : Nat} {NM : Nat → Nat × Nat}
/-- what a text's reading leaves in the class -/
def tx_O (r : Sum Nat (Nat × Nat)) (h' : xh_H) : Prop := (∀ m, r = .inl m → xg 0 h'.2.1 3 8 = nI 0 ∧ xg 0 h'.2.1 3 7 = nI m ∧ m ≤ 16) ∧ ∀ k pl, r = .inr (k, pl) → xg 0 h'.2.1 3 8 = nI k ∧ xg 0 h'.2.1 3 9 = nI pl
def rt_Q (h0 : xh_H) (T : Nat → Nat) (n mem p o nn : Nat) (NW : Nat → Nat) (v : Option Value) (h' : xh_H) : Prop := v = none ∧ fx cT fN h0 h' ∧ ∃ j r, Tx T n mem j p o nn NW r ∧ tx_O r h'
set_option maxRecDepth 100000 in
set_option maxHeartbeats 4000000 in
theorem rd_z {f : Nat} {x : Int32} {h : xh_H} (hq : a_rq a_tb h) : xq f xi_X4_read xmi_X4_read 48 [(0, .ref 3), (2, .int (Int32.ofInt 0)), (3, .int x)] [] h (fun v h' => h = h' ∧ v = none) := by
  cases c1 : xe_c .gt x 16 with
  | true =>
    refine xq_n 115 [] [] [] h [true, true] 7 hq rfl ⟨c1, (by decide), trivial⟩ (fun hq => ?_)
    exact xq_ret rfl rfl rfl ⟨rfl, rfl⟩
  | false =>
    refine xq_n 115 [] [] [] h [false, true, true] 9 hq rfl ⟨c1, (by decide), (by decide), trivial⟩ (fun hq => ?_)
    exact xq_ret rfl rfl rfl ⟨rfl, rfl⟩
set_option maxRecDepth 100000 in
set_option maxHeartbeats 4000000 in
theorem rd_fin {f p o : Nat} {h0 h : xh_H} (c0 : cr h T n mem nn NM p o 0) (g0 : fx cT fN h0 h) (o6 : o ≤ 120) (hb0 : ky T n p 0 = false) (hq : a_rq a_tb h) : xq f xi_X4_read xmi_X4_read 81 [(0, .ref 3), (2, .int (Int32.ofInt 1))] [] h (rt_Q h0 T n mem p o nn (nmW T NM)) := by
  have hT : ∀ k, k < n → T k < 256 := fun k hk' => (c0.1.2.2 k hk').1
  have kb := tkk_lt (T := T) (n := n) (p := p) hT
  have n6 := c0.1.2.1
  have s6 := tks_le (T := T) (n := n) (p := p)
  have mm := c0.2.2.2.2.1
  have n16 := c0.2.2.2.2.2.2.2.2.2.1.2.1
  refine xq_n 88 [0, 2] [(0, .ref 3), (2, .int (Int32.ofInt 1))] [.float 3, .ref 3] h [false] 6 hq rfl ⟨(by decide), trivial⟩ (fun hq => ?_)
  refine xq_run hq rfl rfl (tw1_q c0 hq) ?_
  rintro v1 h1 ⟨g1, l1, q1⟩
  have hq := fx_q g1 hq
  by_cases w1_0 : ky T n p 1 = false
  · obtain ⟨rfl, f1, y1, z1, e61, e1⟩ := q1 1 (tks T n p) (by unfold kW; rw [if_pos w1_0])
    refine xq_n 115 [] [] [] h1 [true] 3 hq rfl ⟨(by decide), trivial⟩ (fun hq => ?_)
    refine xq_ret rfl rfl rfl ⟨rfl, fx_t g0 (fx_w (fx_t (fx_0) (g1)) (fun _ _ => cS_t) (fun _ _ z => z)), 0, .inr (1, tks T n p), ⟨hb0, ?_⟩, fun _ e => (by cases e), fun _ _ e => by cases e; exact ⟨f1, y1⟩⟩
    unfold Fin_
    rw [if_pos w1_0]
  · skip
    have w1_0t : ky T n p 1 = true := eq_true_of_ne_false w1_0
    have dw1_0 := of_decide_eq_true w1_0t
    obtain ⟨rfl, c1⟩ := l1 (tke T n p) (o) (0) (by unfold kW; rw [if_neg w1_0])
    have kb1 := tkk_lt (T := T) (n := n) (p := tke T n p) hT
    have s61 := tks_le (T := T) (n := n) (p := tke T n p)
    refine xq_n 95 [0, 2] [(0, .ref 3), (2, .int (Int32.ofInt 1))] [.ref 3] h1 [false] 4 hq rfl ⟨(by decide), trivial⟩ (fun hq => ?_)
    refine xq_run hq rfl rfl ((rd_all f).2.2.1 _ _ _ _ c1 (by omega) (by omega) hq) ?_
    rintro v2 h2 ⟨g2, ⟨rfl, pq2, oq2, c2, lt2, le2, G2⟩ | ⟨rfl, kq2, lq2, f2, y2, B2⟩⟩
    · have hq := fx_q g2 hq
      have kb2 := tkk_lt (T := T) (n := n) (p := pq2) hT
      have s62 := tks_le (T := T) (n := n) (p := pq2)
      refine xq_n 104 [0, 2] [(0, .ref 3), (2, .int (Int32.ofInt 1))] [.int 59, .ref 3] h2 [false] 5 hq rfl ⟨(by decide), trivial⟩ (fun hq => ?_)
      refine xq_run hq rfl rfl (ts_q (c := 59) (by decide) (by decide) c2 hq) ?_
      rintro v3 h3 ⟨g3, l3, q3⟩
      have hq := fx_q g3 hq
      by_cases w3_0 : tkk T n pq2 ≠ 59
      · obtain ⟨rfl, f3, y3, z3, e63, e3⟩ := q3 1 (tks T n pq2) (by unfold kS; rw [if_pos w3_0])
        refine xq_n 115 [] [] [] h3 [true] 3 hq rfl ⟨(by decide), trivial⟩ (fun hq => ?_)
        refine xq_ret rfl rfl rfl ⟨rfl, fx_t g0 (fx_w (fx_t (fx_t (fx_t (fx_0) (g1)) (g2)) (g3)) (fun _ _ => cS_t) (fun _ _ z => z)), 0, .inr (1, tks T n pq2), ⟨hb0, ?_⟩, fun _ e => (by cases e), fun _ _ e => by cases e; exact ⟨f3, y3⟩⟩
        unfold Fin_
        rw [if_neg w1_0]
        exact ⟨.inr (1, tks T n pq2), Or.inl ⟨_, _, rfl, Fl_t (G2.2.2 0 [] (by decide) rfl) (Fl_1 (by rw [enE]; unfold en; rw [if_neg (by intro z; cases z), if_neg (by rw [G2.1]; decide), if_neg (by rw [G2.2.1]; decide), if_pos (show [0].head? = some 0 from rfl), if_neg (by omega)]))⟩, Or.inl ⟨_, _, rfl, rfl⟩⟩
      · skip
        obtain ⟨rfl, c3⟩ := l3 (tke T n pq2) (oq2) (0) (by unfold kS; rw [if_neg w3_0])
        have kb3 := tkk_lt (T := T) (n := n) (p := tke T n pq2) hT
        have s63 := tks_le (T := T) (n := n) (p := tke T n pq2)
        refine xq_n 111 [0, 2] [(0, .ref 3), (2, .int (Int32.ofInt 1))] [.ref 3] h3 [false] 4 hq rfl ⟨(by decide), trivial⟩ (fun hq => ?_)
        refine xq_run hq rfl rfl (te_q c3 hq) ?_
        rintro v4 h4 ⟨g4, l4, q4⟩
        have hq := fx_q g4 hq
        by_cases w4 : tkk T n (tke T n pq2) = 0 ∧ n ≤ 600
        · obtain ⟨rfl, c4⟩ := l4 (tke T n pq2) (oq2) (0) (by unfold kE; rw [if_pos w4])
          refine xq_n 115 [] [] [] h4 [] 3 hq rfl trivial (fun hq => ?_)
          refine xq_ret rfl rfl rfl ⟨rfl, fx_t g0 (fx_w (fx_t (fx_t (fx_t (fx_t (fx_0) (g1)) (g2)) (g3)) (g4)) (fun _ _ => cS_t) (fun _ _ z => z)), 0, .inl nn, ⟨hb0, ?_⟩, fun _ e => by cases e; exact ⟨c4.2.2.2.2.2.2.2.2.2.2, c4.2.2.2.2.2.2.2.2.2.1.1, n16⟩, fun _ _ e => (by cases e)⟩
          unfold Fin_
          rw [if_neg w1_0]
          exact ⟨.inl (tke T n pq2, oq2), Or.inr ⟨_, _, rfl, Rc_t (G2.2.2 0 [] (by decide) rfl) (Rc_1 (by rw [enE]; unfold en; rw [if_neg (by intro z; cases z), if_neg (by rw [G2.1]; decide), if_neg (by rw [G2.2.1]; decide), if_pos (show [0].head? = some 0 from rfl), if_pos (by omega)]))⟩, Or.inr ⟨_, _, rfl, by rw [if_pos (rk0.mpr w4)]⟩⟩
        · obtain ⟨rfl, f4, y4, -⟩ := q4 1 (tks T n (tke T n pq2)) (by unfold kE; rw [if_neg w4])
          refine xq_n 115 [] [] [] h4 [] 3 hq rfl trivial (fun hq => ?_)
          refine xq_ret rfl rfl rfl ⟨rfl, fx_t g0 (fx_w (fx_t (fx_t (fx_t (fx_t (fx_0) (g1)) (g2)) (g3)) (g4)) (fun _ _ => cS_t) (fun _ _ z => z)), 0, .inr (1, tks T n (tke T n pq2)), ⟨hb0, ?_⟩, fun _ e => (by cases e), fun _ _ e => by cases e; exact ⟨f4, y4⟩⟩
          unfold Fin_
          rw [if_neg w1_0]
          exact ⟨.inl (tke T n pq2, oq2), Or.inr ⟨_, _, rfl, Rc_t (G2.2.2 0 [] (by decide) rfl) (Rc_1 (by rw [enE]; unfold en; rw [if_neg (by intro z; cases z), if_neg (by rw [G2.1]; decide), if_neg (by rw [G2.2.1]; decide), if_pos (show [0].head? = some 0 from rfl), if_pos (by omega)]))⟩, Or.inr ⟨_, _, rfl, by rw [if_neg (fun e => w4 (rk0.mp e))]⟩⟩
    · have hq := fx_q g2 hq
      refine xq_n 115 [] [] [] h2 [true] 3 hq rfl ⟨(by decide), trivial⟩ (fun hq => ?_)
      refine xq_ret rfl rfl rfl ⟨rfl, fx_t g0 (fx_w (fx_t (fx_t (fx_0) (g1)) (g2)) (fun _ _ => cS_t) (fun _ _ z => z)), 0, .inr (kq2, lq2), ⟨hb0, ?_⟩, fun _ e => (by cases e), fun _ _ e => by cases e; exact ⟨f2, y2⟩⟩
      unfold Fin_
      rw [if_neg w1_0]
      exact ⟨.inr (kq2, lq2), Or.inl ⟨_, _, rfl, B2 0 [] (by decide) rfl⟩, Or.inl ⟨_, _, rfl, rfl⟩⟩
set_option maxRecDepth 100000 in
set_option maxHeartbeats 4000000 in
theorem rdb_lp {h0 : xh_H} : ∀ (f nn p o : Nat) (NM : Nat → Nat × Nat) (h : xh_H), cr h T n mem nn NM p o 0 → fx cT fN h0 h → o ≤ 120 → a_rq a_tb h → xq f xi_X4_read xmi_X4_read 48 [(0, .ref 3), (2, .int (Int32.ofInt 1)), (3, .int (nI nn))] [] h (rt_Q h0 T n mem p o nn (nmW T NM)) := by
  intro f
  induction f with
  | zero => intros; exact xq_0
  | succ f ih =>
    intro nn p o NM h c0 g0 o6 hq
    have n16 := c0.2.2.2.2.2.2.2.2.2.1.2.1
    refine xq_m 64 [0, 2, 3] [(0, .ref 3), (2, .int (Int32.ofInt 1)), (3, .int (nI nn))] [.float 2, .ref 8] h [false, false] 10 hq rfl ⟨(show xe_c .gt (nI nn) 16 = false by exact xgt_f (by rw [nI_toInt (by omega)]; show ((nn : Nat) : Int) ≤ 16; omega)), by decide, trivial⟩ (fun hq => ?_)
    refine xq_run hq rfl rfl (iw0_q c0.1 c0.2.1 hq) ?_
    rintro v h1 ⟨rfl, rfl⟩
    cases b : ky T n p 0 with
    | false =>
      refine xq_n 81 [0, 2] [(0, .ref 3), (2, .int (Int32.ofInt 1))] [] h [true] 3 hq rfl ⟨rfl, trivial⟩ (fun hq => ?_)
      exact rd_fin c0 g0 o6 b hq
    | true =>
      have db := of_decide_eq_true b
      refine xq_n 71 [0, 3] [(0, .ref 3), (3, .int (nI nn))] [.ref 3] h [false] 4 hq rfl ⟨rfl, trivial⟩ (fun hq => ?_)
      refine xq_run hq rfl rfl (bd_q c0 o6 (by omega) hq) ?_
      rintro v h1 ⟨g1, ⟨rfl, n15, p', o', o7, c1, hB⟩ | ⟨rfl, k, pl, f1, f2, hB⟩⟩
      · have hq := fx_q g1 hq
        refine xq_n 48 [0, 2, 3] [(0, .ref 3), (2, .int (Int32.ofInt 1)), (3, .int ((nI nn) + Int32.ofInt 1))] [] h1 [] 5 hq rfl trivial (fun hq => ?_)
        rw [show nI nn + Int32.ofInt 1 = nI (nn + 1) from nI_1 _]
        refine xq_mono (ih (nn + 1) p' o' _ h1 c1 (fx_t g0 g1) o7 hq) (fun v h' e => ?_)
        obtain ⟨e1, e2, j, r, e3, e4⟩ := e
        rw [nmW_up] at e3
        exact ⟨e1, e2, j + 1, r, ⟨b, _, hB, Or.inr ⟨_, _, _, rfl, e3⟩⟩, e4⟩
      · have hq := fx_q g1 hq
        refine xq_n 48 [0, 2, 3] [(0, .ref 3), (2, .int (Int32.ofInt 0)), (3, .int ((nI nn) + Int32.ofInt 1))] [] h1 [] 5 hq rfl trivial (fun hq => ?_)
        refine xq_mono (rd_z hq) (fun v h' e => ?_)
        obtain ⟨rfl, rfl⟩ := e
        exact ⟨rfl, fx_t g0 g1, 1, .inr (k, pl), ⟨b, _, hB, Or.inl ⟨_, _, rfl, rfl⟩⟩, fun _ e => (by cases e), fun _ _ e => by cases e; exact ⟨f1, f2⟩⟩
set_option maxRecDepth 100000 in
set_option maxHeartbeats 4000000 in
theorem beg_q {f : Nat} {h : xh_H} (hc : ct h T n) (hq : a_rq a_tb h) : xq f xi_X6_begin xmi_X6_begin 0 [(0, .ref 8)] [] h (fun v h' => v = none ∧ fx (fun c _ => Nat.beq c 8) fN h h' ∧ tok h' T n 0 ∧ xg 0 h'.2.1 8 1 = nI (min n 600)) := by
  have n6 := hc.2.1
  have hT : ∀ k, k < n → T k < 256 := fun k hk' => (hc.2.2 k hk').1
  refine xq_n 23 [0] [(0, .ref 8)] [.ref 8] (xh_ui (xh_ui h 8 1 (if 600 < (xg 0 h.2.1 1 1) then 600 else (xg 0 h.2.1 1 1))) 8 2 (Int32.ofInt 0)) [] 13 hq rfl trivial (fun _ => ?_)
  rw [hc.1, show (if (600 : Int32) < nI n then 600 else nI n) = nI (min n 600) from nI_min (a := n) (b := 600) (by omega) (by decide)]
  have hq : a_rq a_tb (xh_ui (xh_ui h 8 1 (nI (min n 600))) 8 2 (Int32.ofInt 0)) := a_rq_ui (a_rq_ui hq)
  have g1 : fx (fun c _ => Nat.beq c 8) fN h (xh_ui (xh_ui h 8 1 (nI (min n 600))) 8 2 (Int32.ofInt 0)) := fx_ui (fx_ui fx_0 rfl) rfl
  have e1 : xg 0 (xh_ui (xh_ui h 8 1 (nI (min n 600))) 8 2 (Int32.ofInt 0)).2.1 8 1 = nI (min n 600) := (gx_k (by decide)).trans gx_s
  have e2 : xg 0 (xh_ui (xh_ui h 8 1 (nI (min n 600))) 8 2 (Int32.ofInt 0)).2.1 8 2 = nI 0 := gx_s
  generalize xh_ui (xh_ui h 8 1 (nI (min n 600))) 8 2 (Int32.ofInt 0) = h1 at hq g1 e1 e2 ⊢
  refine xq_run hq rfl rfl (adv_q hq hT (ct_f hc g1 rfl (fun _ => rfl)) e1 e2 (by decide)) ?_
  rintro v h2 ⟨rfl, g2, t2⟩
  exact xq_ret rfl rfl rfl ⟨rfl, fx_t g1 (fx_w g2 (fun c k z => by unfold sS; rw [z]; rfl) (fun _ _ z => z)), t2, (fx_i g2 rfl).trans e1⟩
def cU (c k : Nat) : Bool := Nat.beq c 8 || (Nat.beq c 3 || ((Nat.beq c 4 && Nat.beq k 3) || (Nat.beq c 5 || (Nat.beq c 6 || (Nat.beq c 9 || Nat.beq c 10)))))
theorem cT_u {c k : Nat} (h : cU c k = false) : cT c k = false := by
  unfold cU at h
  obtain ⟨h8, h⟩ := or_f h
  obtain ⟨h3, h⟩ := or_f h
  obtain ⟨h4, h⟩ := or_f h
  obtain ⟨h5, h⟩ := or_f h
  obtain ⟨h6, h⟩ := or_f h
  obtain ⟨h9, h10⟩ := or_f h
  unfold cT cS
  rw [h8, h3, h4, h5, h6, h9, h10]
  rfl
set_option maxRecDepth 100000 in
set_option maxHeartbeats 4000000 in
/-- Reader.read -/
theorem read_q {f : Nat} {h : xh_H} (hc : ct h T n) (m12 : mem ≤ 12) (hq : a_rq a_tb h) : xq f xi_X4_read xmi_X4_read 0 [(0, .ref 3), (1, .int (nI mem))] [] h (fun v h' => v = none ∧ fx cU fN h h' ∧ ∃ j r, Tx T n mem j 0 0 0 (nmW T (fun _ => (0, 0))) r ∧ tx_O r h') := by
  refine xq_n 4 [0, 1] [(0, .ref 3), (1, .int (nI mem))] [.ref 4] h [] 4 hq rfl trivial (fun hq => ?_)
  refine xq_run (Q1 := fun v h' => v = none ∧ fx aS_ fN h h') hq rfl rfl ?_ ?_
  · refine xq_n 5 [] [] [] (xh_ui h 4 3 (Int32.ofInt 0)) [] 5 hq rfl trivial (fun _ => ?_)
    exact xq_ret rfl rfl rfl ⟨rfl, fx_ui fx_0 rfl⟩
  rintro v h1 ⟨rfl, g1⟩
  have hq := fx_q g1 hq
  refine xq_n 41 [0] [(0, .ref 3)] [.ref 8] (xh_ui (xh_ui (xh_ui (xh_ui (xh_ui (xh_ui h1 3 4 (nI mem)) 3 5 (Int32.ofInt 0)) 3 6 (Int32.ofInt 0)) 3 7 (Int32.ofInt 0)) 3 8 (Int32.ofInt 0)) 3 9 (Int32.ofInt 0)) [] 24 hq rfl trivial (fun _ => ?_)
  have hq : a_rq a_tb (xh_ui (xh_ui (xh_ui (xh_ui (xh_ui (xh_ui h1 3 4 (nI mem)) 3 5 (Int32.ofInt 0)) 3 6 (Int32.ofInt 0)) 3 7 (Int32.ofInt 0)) 3 8 (Int32.ofInt 0)) 3 9 (Int32.ofInt 0)) := a_rq_ui (a_rq_ui (a_rq_ui (a_rq_ui (a_rq_ui (a_rq_ui hq)))))
  have g2 : fx cU fN h (xh_ui (xh_ui (xh_ui (xh_ui (xh_ui (xh_ui h1 3 4 (nI mem)) 3 5 (Int32.ofInt 0)) 3 6 (Int32.ofInt 0)) 3 7 (Int32.ofInt 0)) 3 8 (Int32.ofInt 0)) 3 9 (Int32.ofInt 0)) := fx_ui (fx_ui (fx_ui (fx_ui (fx_ui (fx_ui (fx_w g1 (fun c k z => by obtain ⟨-, z⟩ := or_f z; obtain ⟨-, z⟩ := or_f z; obtain ⟨z4, z⟩ := or_f z; obtain ⟨z5, z⟩ := or_f z; obtain ⟨z6, -⟩ := or_f z; unfold aS_; rw [z4, z5, z6]; rfl) (fun _ _ z => z)) rfl) rfl) rfl) rfl) rfl) rfl
  have e4 : xg 0 (xh_ui (xh_ui (xh_ui (xh_ui (xh_ui (xh_ui h1 3 4 (nI mem)) 3 5 (Int32.ofInt 0)) 3 6 (Int32.ofInt 0)) 3 7 (Int32.ofInt 0)) 3 8 (Int32.ofInt 0)) 3 9 (Int32.ofInt 0)).2.1 3 4 = nI mem := (gx_k (by decide)).trans ((gx_k (by decide)).trans ((gx_k (by decide)).trans ((gx_k (by decide)).trans ((gx_k (by decide)).trans gx_s))))
  have e5 : xg 0 (xh_ui (xh_ui (xh_ui (xh_ui (xh_ui (xh_ui h1 3 4 (nI mem)) 3 5 (Int32.ofInt 0)) 3 6 (Int32.ofInt 0)) 3 7 (Int32.ofInt 0)) 3 8 (Int32.ofInt 0)) 3 9 (Int32.ofInt 0)).2.1 3 5 = nI 0 := (gx_k (by decide)).trans ((gx_k (by decide)).trans ((gx_k (by decide)).trans ((gx_k (by decide)).trans gx_s)))
  have e6 : xg 0 (xh_ui (xh_ui (xh_ui (xh_ui (xh_ui (xh_ui h1 3 4 (nI mem)) 3 5 (Int32.ofInt 0)) 3 6 (Int32.ofInt 0)) 3 7 (Int32.ofInt 0)) 3 8 (Int32.ofInt 0)) 3 9 (Int32.ofInt 0)).2.1 3 6 = nI 0 := (gx_k (by decide)).trans ((gx_k (by decide)).trans ((gx_k (by decide)).trans gx_s))
  have e7 : xg 0 (xh_ui (xh_ui (xh_ui (xh_ui (xh_ui (xh_ui h1 3 4 (nI mem)) 3 5 (Int32.ofInt 0)) 3 6 (Int32.ofInt 0)) 3 7 (Int32.ofInt 0)) 3 8 (Int32.ofInt 0)) 3 9 (Int32.ofInt 0)).2.1 3 7 = nI 0 := (gx_k (by decide)).trans ((gx_k (by decide)).trans gx_s)
  have e8 : xg 0 (xh_ui (xh_ui (xh_ui (xh_ui (xh_ui (xh_ui h1 3 4 (nI mem)) 3 5 (Int32.ofInt 0)) 3 6 (Int32.ofInt 0)) 3 7 (Int32.ofInt 0)) 3 8 (Int32.ofInt 0)) 3 9 (Int32.ofInt 0)).2.1 3 8 = nI 0 := (gx_k (by decide)).trans gx_s
  generalize xh_ui (xh_ui (xh_ui (xh_ui (xh_ui (xh_ui h1 3 4 (nI mem)) 3 5 (Int32.ofInt 0)) 3 6 (Int32.ofInt 0)) 3 7 (Int32.ofInt 0)) 3 8 (Int32.ofInt 0)) 3 9 (Int32.ofInt 0) = h2 at hq g2 e4 e5 e6 e7 e8 ⊢
  refine xq_run hq rfl rfl (beg_q (ct_f hc g2 rfl (fun _ => rfl)) hq) ?_
  rintro v h3 ⟨rfl, g3, t3, l3⟩
  have hq := fx_q g3 hq
  have g4 : fx cU fN h h3 := fx_t g2 (fx_w g3 (fun c k z => (or_f z).1) (fun _ _ z => z))
  refine xq_n 48 [0, 2, 3] [(0, .ref 3), (2, .int (Int32.ofInt 1)), (3, .int (Int32.ofInt 0))] [] h3 [] 6 hq rfl trivial (fun hq => ?_)
  have c3 : cr h3 T n mem 0 (fun _ => (0, 0)) 0 0 0 := ⟨ct_f hc g4 rfl (fun _ => rfl), t3, l3, (fx_i g3 rfl).trans e4, m12, (fx_i g3 rfl).trans e5, by decide, (fx_i g3 rfl).trans e6, by decide, ⟨(fx_i g3 rfl).trans e7, by decide, fun k hk' => absurd hk' (Nat.not_lt_zero k)⟩, (fx_i g3 rfl).trans e8⟩
  refine xq_mono (rdb_lp f 0 0 0 _ h3 c3 fx_0 (by decide) hq) (fun v h' e => ?_)
  obtain ⟨e1, e2, e3⟩ := e
  exact ⟨e1, fx_t g4 (fx_w e2 (fun _ _ => cT_u) (fun _ _ z => z)), e3⟩
end XRQ
