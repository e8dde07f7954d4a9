section XRP
variable {T : Nat → Nat} {n mem nn : Nat} {NM : Nat → Nat × Nat}
def kT (T : Nat → Nat) (n nn : Nat) (NW : Nat → Nat) (p o d : Nat) : Sum (Nat × Nat × Nat) (Nat × Nat) := if nmt T n p = false then .inr (1, tks T n p) else if hasn nn NW (tkw T n p) = true then .inr (3, tks T n p) else if 16 ≤ nn then .inr (4, tks T n p) else .inl (tke T n p, o, d)
def kE (T : Nat → Nat) (n p o d : Nat) : Sum (Nat × Nat × Nat) (Nat × Nat) := if tkk T n p = 0 ∧ n ≤ 600 then .inl (p, o, d) else .inr (1, tks T n p)
set_option maxRecDepth 100000 in
set_option maxHeartbeats 4000000 in
theorem tnn_q {f p o d : Nat} {h : xh_H} (c0 : cr h T n mem nn NM p o d) (hq : a_rq a_tb h) : xq f xi_X4_takeNewName xmi_X4_takeNewName 0 [(0, .ref 3)] [] h (co_Q h T n mem nn NM (kT T n nn (nmW T NM) p o d)) := by
  have hT : ∀ k, k < n → T k < 256 := fun k hk' => (c0.1.2.2 k hk').1
  have kb := tkk_lt (T := T) (n := n) (p := p) hT
  have n6 := c0.1.2.1
  have s6 := tks_le (T := T) (n := n) (p := p)
  have mm := c0.2.2.2.2.1
  have n16 := c0.2.2.2.2.2.2.2.2.2.1.2.1
  have o121 := c0.2.2.2.2.2.2.1
  have d13 := c0.2.2.2.2.2.2.2.2.1
  refine xq_n 4 [0] [(0, .ref 3)] [.ref 8] h [] 4 hq rfl trivial (fun hq => ?_)
  refine xq_run hq rfl rfl (nm_q (c0.1) (c0.2.1) hq) ?_
  rintro v1 h_v1 ⟨rfl, rfl⟩
  cases b2 : (nmt T n p) with
  | true =>
    have db2 := of_decide_eq_true b2
    refine xq_n 24 [0] [(0, .ref 3)] [.ref 3] h [true] 4 hq rfl ⟨rfl, trivial⟩ (fun hq => ?_)
    refine xq_run hq rfl rfl (tn_q c0 (by omega) hq) ?_
    rintro v3 h_3 ⟨rfl, ⟨rfl, hn3⟩ | ⟨kk3, kl3, rfl, -, hn3⟩⟩
    · skip
      cases c4 : xe_c .lt (nI nn) 16 with
      | true =>
        have z4 : nn < 16 := nq_ltt (a := nn) (b := 16) (by omega) (by omega) c4
        refine xq_n 70 [0] [(0, .ref 3)] [.ref 8] h [true, true] 10 hq rfl ⟨(by decide), (show xe_c .lt (xg 0 h.2.1 3 7) 16 = true by rw [show (xg 0 h.2.1 3 7) = (nI nn) from c0.2.2.2.2.2.2.2.2.2.1.1]; exact c4), trivial⟩ (fun hq => ?_)
        have nz5 : tkk T n p ≠ 0 := by omega
        have le5 := tke_le nz5
        refine xq_run hq rfl rfl (adv_q hq hT (c0.1) (c0.2.2.1) ((c0.2.1.2.2.1 (by omega)).1) (by omega)) ?_
        rintro v5 h5 ⟨rfl, g5, t5⟩
        have hq := fx_q g5 hq
        have kb5 := tkk_lt (T := T) (n := n) (p := tke T n p) hT
        have s65 := tks_le (T := T) (n := n) (p := tke T n p)
        refine xq_n 74 [] [] [.int (Int32.ofInt 1)] h5 [] 3 hq rfl trivial (fun hq => ?_)
        have er : kT T n nn (nmW T NM) p o d = .inl (tke T n p, o, d) := by
          unfold kT
          repeat (first | rw [if_pos (by omega)] | rw [if_neg (by omega)] | rw [if_pos b2] | rw [if_neg (by rw [b2]; decide)] | rw [if_pos hn3] | rw [if_neg (by rw [hn3]; decide)])
          try rfl
        exact xq_ret rfl rfl rfl (co_l er (fx_t (fx_0) (fx_w g5 (fun _ _ => sS_c) (fun _ _ z => z))) rfl ⟨ct_f (S := cS) (L := fN) (c0.1) (fx_w g5 (fun _ _ => sS_c) (fun _ _ z => z)) rfl (fun _ => rfl), t5, (fx_i g5 rfl).trans (c0.2.2.1), (fx_i g5 rfl).trans (c0.2.2.2.1), c0.2.2.2.2.1, (fx_i g5 rfl).trans (c0.2.2.2.2.2.1), by omega, (fx_i g5 rfl).trans (c0.2.2.2.2.2.2.2.1), by omega, cn_f (S := cS) (L := fN) (c0.2.2.2.2.2.2.2.2.2.1) (fx_w g5 (fun _ _ => sS_c) (fun _ _ z => z)) rfl (fun _ => rfl) (fun _ => rfl), (fx_i g5 rfl).trans (c0.2.2.2.2.2.2.2.2.2.2)⟩)
      | false =>
        have z4 : nn ≥ 16 := nq_ltf (a := nn) (b := 16) (by omega) (by omega) c4
        refine xq_n 62 [0] [(0, .ref 3)] [.int (xg 0 h.2.1 8 4), .int (Int32.ofInt 4), .ref 3] h [true, false] 13 hq rfl ⟨(by decide), (show xe_c .lt (xg 0 h.2.1 3 7) 16 = false by rw [show (xg 0 h.2.1 3 7) = (nI nn) from c0.2.2.2.2.2.2.2.2.2.1.1]; exact c4), trivial⟩ (fun hq => ?_)
        rw [show (xg 0 h.2.1 8 4) = (nI (tks T n p)) from c0.2.1.2.1]
        refine xq_run hq rfl rfl (fail_q (k := 4) (pl := (tks T n p)) hq) ?_
        rintro v6 h6 ⟨rfl, g6, f6, l6⟩
        have hq := fx_q g6 hq
        have er : kT T n nn (nmW T NM) p o d = .inr (4, tks T n p) := by
          unfold kT
          repeat (first | rw [if_pos (by omega)] | rw [if_neg (by omega)] | rw [if_pos b2] | rw [if_neg (by rw [b2]; decide)] | rw [if_pos hn3] | rw [if_neg (by rw [hn3]; decide)])
          try rfl
        exact xq_ret rfl rfl rfl (co_r er (fx_t (fx_0) (fx_w g6 (fun _ _ => fS_c) (fun _ _ z => z))) rfl (f6) (l6) (tok_f (c0.2.1) g6 (fun _ => rfl)).2.2.2.2)
    · skip
      cases c7 : xe_c .eq (nI kk3) (Int32.ofInt (-1)) with
      | true =>
        exact absurd (of_decide_eq_true c7) (nIm1 (by omega))
      | false =>
        refine xq_n 40 [0] [(0, .ref 3)] [.int (xg 0 h.2.1 8 4), .int (Int32.ofInt 3), .ref 3] h [false] 9 hq rfl ⟨c7, trivial⟩ (fun hq => ?_)
        rw [show (xg 0 h.2.1 8 4) = (nI (tks T n p)) from c0.2.1.2.1]
        refine xq_run hq rfl rfl (fail_q (k := 3) (pl := (tks T n p)) hq) ?_
        rintro v8 h8 ⟨rfl, g8, f8, l8⟩
        have hq := fx_q g8 hq
        have er : kT T n nn (nmW T NM) p o d = .inr (3, tks T n p) := by
          unfold kT
          repeat (first | rw [if_pos (by omega)] | rw [if_neg (by omega)] | rw [if_pos b2] | rw [if_neg (by rw [b2]; decide)] | rw [if_pos hn3] | rw [if_neg (by rw [hn3]; decide)])
          try rfl
        exact xq_ret rfl rfl rfl (co_r er (fx_t (fx_0) (fx_w g8 (fun _ _ => fS_c) (fun _ _ z => z))) rfl (f8) (l8) (tok_f (c0.2.1) g8 (fun _ => rfl)).2.2.2.2)
  | false =>
    have db2 := of_decide_eq_false b2
    refine xq_n 19 [0] [(0, .ref 3)] [.int (xg 0 h.2.1 8 4), .int (Int32.ofInt 1), .ref 3] h [false] 8 hq rfl ⟨rfl, trivial⟩ (fun hq => ?_)
    rw [show (xg 0 h.2.1 8 4) = (nI (tks T n p)) from c0.2.1.2.1]
    refine xq_run hq rfl rfl (fail_q (k := 1) (pl := (tks T n p)) hq) ?_
    rintro v9 h9 ⟨rfl, g9, f9, l9⟩
    have hq := fx_q g9 hq
    have er : kT T n nn (nmW T NM) p o d = .inr (1, tks T n p) := by
      unfold kT
      repeat (first | rw [if_pos (by omega)] | rw [if_neg (by omega)] | rw [if_pos b2] | rw [if_neg (by rw [b2]; decide)])
      try rfl
    exact xq_ret rfl rfl rfl (co_r er (fx_t (fx_0) (fx_w g9 (fun _ _ => fS_c) (fun _ _ z => z))) rfl (f9) (l9) (tok_f (c0.2.1) g9 (fun _ => rfl)).2.2.2.2)
set_option maxRecDepth 100000 in
set_option maxHeartbeats 4000000 in
theorem cut_q {f : Nat} {h : xh_H} (hc : ct h T n) (hq : a_rq a_tb h) : xq f xi_X6_isCut xmi_X6_isCut 0 [(0, .ref 8)] [] h (fun v h' => h = h' ∧ v = some (.int (bl (decide (600 < n))))) := by
  have n6 := hc.2.1
  cases c1 : xe_c .le (nI n) 600 with
  | true =>
    have z1 : n ≤ 600 := nq_let (a := n) (b := 600) (by omega) (by omega) c1
    refine xq_n 18 [] [] [.int (Int32.ofInt 0)] h [true] 8 hq rfl ⟨(show xe_c .le (xg 0 h.2.1 1 1) 600 = true by rw [show (xg 0 h.2.1 1 1) = (nI n) from hc.1]; exact c1), trivial⟩ (fun hq => ?_)
    exact xq_ret rfl rfl rfl ⟨rfl, by rw [show decide (600 < n) = false from decide_eq_false (by omega)]; rfl⟩
  | false =>
    have z1 : n > 600 := nq_lef (a := n) (b := 600) (by omega) (by omega) c1
    refine xq_n 18 [] [] [.int (Int32.ofInt 1)] h [false] 9 hq rfl ⟨(show xe_c .le (xg 0 h.2.1 1 1) 600 = false by rw [show (xg 0 h.2.1 1 1) = (nI n) from hc.1]; exact c1), trivial⟩ (fun hq => ?_)
    exact xq_ret rfl rfl rfl ⟨rfl, by rw [show decide (600 < n) = true from decide_eq_true (by omega)]; rfl⟩
set_option maxRecDepth 100000 in
set_option maxHeartbeats 4000000 in
theorem te_q {f p o d : Nat} {h : xh_H} (c0 : cr h T n mem nn NM p o d) (hq : a_rq a_tb h) : xq f xi_X4_takeEnd xmi_X4_takeEnd 0 [(0, .ref 3)] [] h (co_Q h T n mem nn NM (kE T n p o d)) := by
  have hT : ∀ k, k < n → T k < 256 := fun k hk' => (c0.1.2.2 k hk').1
  have kb := tkk_lt (T := T) (n := n) (p := p) hT
  have n6 := c0.1.2.1
  have s6 := tks_le (T := T) (n := n) (p := p)
  have mm := c0.2.2.2.2.1
  have n16 := c0.2.2.2.2.2.2.2.2.2.1.2.1
  have o121 := c0.2.2.2.2.2.2.1
  have d13 := c0.2.2.2.2.2.2.2.2.1
  cases c1 : xe_c .ne (nI (tkk T n p)) 0 with
  | true =>
    have z1 : (tkk T n p) ≠ 0 := nq_net (a := (tkk T n p)) (b := 0) (by omega) (by omega) c1
    refine xq_n 39 [0, 1] [(0, .ref 3), (1, .int (Int32.ofInt 0))] [.int (xg 0 h.2.1 8 4), .int (Int32.ofInt 1), .ref 3] h [true, false] 15 hq rfl ⟨(show xe_c .ne (xg 0 h.2.1 8 3) 0 = true by rw [show (xg 0 h.2.1 8 3) = (nI (tkk T n p)) from c0.2.1.1]; exact c1), (by decide), trivial⟩ (fun hq => ?_)
    rw [show (xg 0 h.2.1 8 4) = (nI (tks T n p)) from c0.2.1.2.1]
    refine xq_run hq rfl rfl (fail_q (k := 1) (pl := (tks T n p)) hq) ?_
    rintro v2 h2 ⟨rfl, g2, f2, l2⟩
    have hq := fx_q g2 hq
    refine xq_n 50 [] [] [.int (Int32.ofInt 0)] h2 [true] 4 hq rfl ⟨(by decide), trivial⟩ (fun hq => ?_)
    have er : kE T n p o d = .inr (1, tks T n p) := by
      unfold kE
      repeat (first | rw [if_pos (by omega)] | rw [if_neg (by omega)])
      try rfl
    exact xq_ret rfl rfl rfl (co_r er (fx_t (fx_0) (fx_w g2 (fun _ _ => fS_c) (fun _ _ z => z))) rfl (f2) (l2) (tok_f (c0.2.1) g2 (fun _ => rfl)).2.2.2.2)
  | false =>
    have z1 : (tkk T n p) = 0 := nq_nef (a := (tkk T n p)) (b := 0) (by omega) (by omega) c1
    refine xq_n 14 [0] [(0, .ref 3)] [.ref 8] h [false] 8 hq rfl ⟨(show xe_c .ne (xg 0 h.2.1 8 3) 0 = false by rw [show (xg 0 h.2.1 8 3) = (nI (tkk T n p)) from c0.2.1.1]; exact c1), trivial⟩ (fun hq => ?_)
    refine xq_run hq rfl rfl (cut_q (c0.1) hq) ?_
    rintro v3 h_v3 ⟨rfl, rfl⟩
    cases b4 : (decide (600 < n)) with
    | true =>
      have db4 := of_decide_eq_true b4
      refine xq_n 39 [0, 1] [(0, .ref 3), (1, .int (Int32.ofInt 0))] [.int (xg 0 h.2.1 8 4), .int (Int32.ofInt 1), .ref 3] h [true, false] 12 hq rfl ⟨rfl, (by decide), trivial⟩ (fun hq => ?_)
      rw [show (xg 0 h.2.1 8 4) = (nI (tks T n p)) from c0.2.1.2.1]
      refine xq_run hq rfl rfl (fail_q (k := 1) (pl := (tks T n p)) hq) ?_
      rintro v5 h5 ⟨rfl, g5, f5, l5⟩
      have hq := fx_q g5 hq
      refine xq_n 50 [] [] [.int (Int32.ofInt 0)] h5 [true] 4 hq rfl ⟨(by decide), trivial⟩ (fun hq => ?_)
      have er : kE T n p o d = .inr (1, tks T n p) := by
        unfold kE
        repeat (first | rw [if_pos (by omega)] | rw [if_neg (by omega)] | rw [if_pos b4] | rw [if_neg (by rw [b4]; decide)])
        try rfl
      exact xq_ret rfl rfl rfl (co_r er (fx_t (fx_0) (fx_w g5 (fun _ _ => fS_c) (fun _ _ z => z))) rfl (f5) (l5) (tok_f (c0.2.1) g5 (fun _ => rfl)).2.2.2.2)
    | false =>
      have db4 := of_decide_eq_false b4
      refine xq_n 50 [] [] [.int (Int32.ofInt 1)] h [false, true] 10 hq rfl ⟨rfl, (by decide), trivial⟩ (fun hq => ?_)
      have er : kE T n p o d = .inl (p, o, d) := by
        unfold kE
        repeat (first | rw [if_pos (by omega)] | rw [if_neg (by omega)] | rw [if_pos b4] | rw [if_neg (by rw [b4]; decide)])
        try rfl
      exact xq_ret rfl rfl rfl (co_l er (fx_0) rfl c0)
def upM (NM : Nat → Nat × Nat) (nn : Nat) (x : Nat × Nat) : Nat → Nat × Nat := fun k => if k = nn then x else NM k
theorem nmW_up {x : Nat × Nat} : nmW T (upM NM nn x) = upN (nmW T NM) nn (wv T x.1 (x.2 - x.1)) := by
  funext k
  unfold nmW upM upN
  by_cases e : k = nn
  · rw [if_pos e, if_pos e]
  · rw [if_neg e, if_neg e]
def cT (c k : Nat) : Bool := cS c k || ((Nat.beq c 3 && Nat.beq k 7) || (Nat.beq c 9 || Nat.beq c 10))
theorem cS_t {c k : Nat} (h : cT c k = false) : cS c k = false := (or_f h).1
def bc_Q (h : xh_H) (T : Nat → Nat) (n mem nn : Nat) (NM : Nat → Nat × Nat) (p o : Nat) (v : Option Value) (h' : xh_H) : Prop := fx cT fN h h' ∧ ((v = some (.int 1) ∧ nn < 16 ∧ ∃ p' o', o' ≤ 120 ∧ cr h' T n mem (nn + 1) (upM NM nn (tks T n (tke T n p), tke T n (tke T n p))) p' o' 0 ∧ Bdy T n mem nn (nmW T NM) p o (.inl (p', o', tkw T n (tke T n p)))) ∨ (v = some (.int 0) ∧ ∃ k pl, xg 0 h'.2.1 3 8 = nI k ∧ xg 0 h'.2.1 3 9 = nI pl ∧ Bdy T n mem nn (nmW T NM) p o (.inr (k, pl))))
set_option maxRecDepth 100000 in
set_option maxHeartbeats 4000000 in
theorem bd_end {f p o p' o' : Nat} {h h1 : xh_H} (hq : a_rq a_tb h1) (c1 : cr h1 T n mem nn NM p' o' 0) (g1 : fx cS fN h h1) (n15 : nn < 16) (h2 : tkk T n (tke T n p) = 2) (o6 : o' ≤ 120) (hB : Bdy T n mem nn (nmW T NM) p o (.inl (p', o', tkw T n (tke T n p)))) : xq f xi_X4_readBody xmi_X4_readBody 57 [(0, .ref 3), (1, .int (nI (tks T n (tke T n p)))), (2, .int (nI (tke T n (tke T n p))))] [] h1 (bc_Q h T n mem nn NM p o) := by
  have gt := tke_gt (T := T) (n := n) (p := tke T n p) (by omega)
  refine xq_n 67 [0, 1, 2] [(0, .ref 3), (1, .int (nI (tks T n (tke T n p)))), (2, .int (nI (tke T n (tke T n p))))] [.int (xg 0 h1.2.1 3 7), .int 7, .ref 4] h1 [] 7 hq rfl trivial (fun hq => ?_)
  refine xq_run hq rfl rfl (add_q hq) ?_
  rintro v h2' ⟨rfl, g2⟩
  have hq := fx_q g2 hq
  have g3 : fx cS fN h1 h2' := fx_w g2 (fun _ _ => aS_c) (fun _ _ z => z)
  have e7 : xg 0 h2'.2.1 3 7 = nI nn := (fx_i g2 rfl).trans c1.2.2.2.2.2.2.2.2.2.1.1
  refine xq_n 89 [0, 2] [(0, .ref 3), (2, .int (nI (tke T n (tke T n p))))] [] (xh_ui h2' 9 (xg 0 h2'.2.1 3 7).toNatClampNeg (nI (tks T n (tke T n p)))) [false] 12 hq rfl ⟨(show xe_c .ge (xg 0 h2'.2.1 3 7) 16 = false by rw [e7]; exact nge_f (b := 16) (by omega) (by decide) n15), trivial⟩ (fun _ => ?_)
  rw [e7, show (nI nn).toNatClampNeg = nn from nI_clamp (by omega)]
  have hq : a_rq a_tb (xh_ui h2' 9 nn (nI (tks T n (tke T n p)))) := a_rq_ui hq
  have f7 : xg 0 (xh_ui h2' 9 nn (nI (tks T n (tke T n p)))).2.1 3 7 = nI nn := (gx_o (by decide)).trans e7
  refine xq_n 99 [0] [(0, .ref 3)] [] (xh_ui (xh_ui h2' 9 nn (nI (tks T n (tke T n p)))) 10 (xg 0 (xh_ui h2' 9 nn (nI (tks T n (tke T n p)))).2.1 3 7).toNatClampNeg (nI (tke T n (tke T n p)))) [] 8 hq rfl trivial (fun _ => ?_)
  rw [f7, show (nI nn).toNatClampNeg = nn from nI_clamp (by omega)]
  have hq : a_rq a_tb (xh_ui (xh_ui h2' 9 nn (nI (tks T n (tke T n p)))) 10 nn (nI (tke T n (tke T n p)))) := a_rq_ui hq
  have k7 : xg 0 (xh_ui (xh_ui h2' 9 nn (nI (tks T n (tke T n p)))) 10 nn (nI (tke T n (tke T n p)))).2.1 3 7 = nI nn := (gx_o (by decide)).trans f7
  have k9 : ∀ k, xg 0 (xh_ui (xh_ui h2' 9 nn (nI (tks T n (tke T n p)))) 10 nn (nI (tke T n (tke T n p)))).2.1 9 k = if k = nn then nI (tks T n (tke T n p)) else xg 0 h2'.2.1 9 k := fun k => by
    rw [gx_o (by decide)]
    by_cases e : k = nn
    · rw [if_pos e, e]; exact gx_s
    · rw [if_neg e]; exact gx_k e
  have k10 : ∀ k, xg 0 (xh_ui (xh_ui h2' 9 nn (nI (tks T n (tke T n p)))) 10 nn (nI (tke T n (tke T n p)))).2.1 10 k = if k = nn then nI (tke T n (tke T n p)) else xg 0 h2'.2.1 10 k := fun k => by
    by_cases e : k = nn
    · rw [if_pos e, e]; exact gx_s
    · rw [if_neg e, gx_k e]; exact gx_o (by decide)
  have g4 : fx (fun c _ => Nat.beq c 9 || Nat.beq c 10) fN h2' (xh_ui (xh_ui h2' 9 nn (nI (tks T n (tke T n p)))) 10 nn (nI (tke T n (tke T n p)))) := fx_ui (fx_ui fx_0 rfl) rfl
  generalize xh_ui (xh_ui h2' 9 nn (nI (tks T n (tke T n p)))) 10 nn (nI (tke T n (tke T n p))) = h3 at hq k7 k9 k10 g4 ⊢
  refine xq_n 110 [] [] [.int (Int32.ofInt 1)] (xh_ui h3 3 7 ((xg 0 h3.2.1 3 7) + (Int32.ofInt 1))) [] 9 hq rfl trivial (fun _ => ?_)
  rw [k7, show nI nn + Int32.ofInt 1 = nI (nn + 1) from nI_1 _]
  have gA : fx cT fN h (xh_ui h3 3 7 (nI (nn + 1))) := fx_ui (fx_t (fx_t (fx_w g1 (fun _ _ => cS_t) (fun _ _ z => z)) (fx_w g3 (fun _ _ => cS_t) (fun _ _ z => z))) (fx_w g4 (fun c k z => by have := (or_f (or_f z).2).2; exact this) (fun _ _ z => z))) rfl
  have gB : fx (fun c k => Nat.beq c 9 || (Nat.beq c 10 || ((Nat.beq c 3 && Nat.beq k 7) || aS_ c k))) fN h1 (xh_ui h3 3 7 (nI (nn + 1))) := by
    refine fx_ui (fx_t (fx_w g2 (fun c k z => ?_) (fun _ _ z => z)) (fx_w g4 (fun c k z => ?_) (fun _ _ z => z))) rfl
    · exact (or_f (or_f (or_f z).2).2).2
    · show (Nat.beq c 9 || Nat.beq c 10) = false
      rw [(or_f z).1, (or_f (or_f z).2).1]
      rfl
  obtain ⟨s1, s2, s3, s4, s5, s6, s7, s8, s9, s10, s11⟩ := c1
  refine xq_ret rfl rfl rfl ⟨gA, Or.inl ⟨rfl, n15, p', o', o6, ⟨ct_f s1 gB rfl (fun _ => rfl), tok_f s2 gB (fun _ => rfl), (fx_i gB rfl).trans s3, (fx_i gB rfl).trans s4, s5, (fx_i gB rfl).trans s6, s7, (fx_i gB rfl).trans s8, s9, ⟨gx_s, by omega, fun k hk' => ?_⟩, (fx_i gB rfl).trans s11⟩, hB⟩⟩
  rw [gx_o (by decide), gx_o (by decide), k9, k10]
  unfold upM
  by_cases e : k = nn
  · rw [if_pos e, if_pos e, if_pos e]
    exact ⟨rfl, rfl, by show tks T n (tke T n p) ≤ tke T n (tke T n p); omega, gt.2.1, fun j hj => (tk2 h2).2.2 _ (by show tks T n (tke T n p) ≤ tks T n (tke T n p) + j; omega) (by have hj : j < tke T n (tke T n p) - tks T n (tke T n p) := hj; show tks T n (tke T n p) + j < _; omega)⟩
  · rw [if_neg e, if_neg e, if_neg e]
    have := s10.2.2 k (by omega)
    rw [fx_i (c := 9) (k := k) g2 rfl, fx_i (c := 10) (k := k) g2 rfl]
    exact this
set_option maxRecDepth 100000 in
set_option maxHeartbeats 4000000 in
theorem bd_q {f p o : Nat} {h : xh_H} (c0 : cr h T n mem nn NM p o 0) (o6 : o ≤ 120) (nz : tkk T n p ≠ 0) (hq : a_rq a_tb h) : xq f xi_X4_readBody xmi_X4_readBody 0 [(0, .ref 3)] [] h (bc_Q h T n mem nn NM p o) := by
  have hT : ∀ k, k < n → T k < 256 := fun k hk' => (c0.1.2.2 k hk').1
  have kb := tkk_lt (T := T) (n := n) (p := p) hT
  have n6 := c0.1.2.1
  have s6 := tks_le (T := T) (n := n) (p := p)
  have mm := c0.2.2.2.2.1
  have n16 := c0.2.2.2.2.2.2.2.2.2.1.2.1
  refine xq_n 4 [0] [(0, .ref 3)] [.ref 8] h [] 4 hq rfl trivial (fun hq => ?_)
  have nz1 : tkk T n p ≠ 0 := by omega
  have le1 := tke_le nz1
  refine xq_run hq rfl rfl (adv_q hq hT (c0.1) (c0.2.2.1) ((c0.2.1.2.2.1 (by omega)).1) (by omega)) ?_
  rintro v1 h1 ⟨rfl, g1, t1⟩
  have hq := fx_q g1 hq
  have kb1 := tkk_lt (T := T) (n := n) (p := tke T n p) hT
  have s61 := tks_le (T := T) (n := n) (p := tke T n p)
  refine xq_n 24 [0, 1, 2] [(0, .ref 3), (1, .int (xg 0 h1.2.1 8 4)), (2, .int (xg 0 h1.2.1 8 5))] [.ref 3] h1 [] 11 hq rfl trivial (fun hq => ?_)
  rw [show (xg 0 h1.2.1 8 4) = (nI (tks T n (tke T n p))) from t1.2.1]
  refine xq_run hq rfl rfl (tnn_q ⟨ct_f (S := cS) (L := fN) (c0.1) (fx_w g1 (fun _ _ => sS_c) (fun _ _ z => z)) rfl (fun _ => rfl), t1, (fx_i g1 rfl).trans (c0.2.2.1), (fx_i g1 rfl).trans (c0.2.2.2.1), c0.2.2.2.2.1, (fx_i g1 rfl).trans (c0.2.2.2.2.2.1), by omega, (fx_i g1 rfl).trans (c0.2.2.2.2.2.2.2.1), by omega, cn_f (S := cS) (L := fN) (c0.2.2.2.2.2.2.2.2.2.1) (fx_w g1 (fun _ _ => sS_c) (fun _ _ z => z)) rfl (fun _ => rfl) (fun _ => rfl), (fx_i g1 rfl).trans (c0.2.2.2.2.2.2.2.2.2.2)⟩ hq) ?_
  rintro v2 h2 ⟨g2, l2, q2⟩
  have hq := fx_q g2 hq
  by_cases w2_0 : nmt T n (tke T n p) = false
  · obtain ⟨rfl, f2, y2, z2, e62, e2⟩ := q2 1 (tks T n (tke T n p)) (by unfold kT; rw [if_pos w2_0])
    refine xq_n 56 [] [] [.int (Int32.ofInt 0)] h2 [true] 4 hq rfl ⟨(by decide), trivial⟩ (fun hq => ?_)
    refine xq_ret rfl rfl rfl ⟨fx_w (fx_t (fx_t (fx_0) (fx_w g1 (fun _ _ => sS_c) (fun _ _ z => z))) (g2)) (fun _ _ => cS_t) (fun _ _ z => z), Or.inr ⟨rfl, 1, tks T n (tke T n p), f2, y2, ?_⟩⟩
    unfold Bdy
    repeat (first | rw [if_pos (by omega)] | rw [if_neg (by omega)] | rw [if_pos w2_0] | rw [if_neg w2_0] | rw [if_neg (by rw [w2_0]; decide)])
    try (exfalso; omega)
  · skip
    have w2_0t : nmt T n (tke T n p) = true := eq_true_of_ne_false w2_0
    have dw2_0 := of_decide_eq_true w2_0t
    by_cases w2_1 : hasn nn (nmW T NM) (tkw T n (tke T n p)) = true
    · obtain ⟨rfl, f2, y2, z2, e62, e2⟩ := q2 3 (tks T n (tke T n p)) (by unfold kT; rw [if_neg w2_0, if_pos w2_1])
      refine xq_n 56 [] [] [.int (Int32.ofInt 0)] h2 [true] 4 hq rfl ⟨(by decide), trivial⟩ (fun hq => ?_)
      refine xq_ret rfl rfl rfl ⟨fx_w (fx_t (fx_t (fx_0) (fx_w g1 (fun _ _ => sS_c) (fun _ _ z => z))) (g2)) (fun _ _ => cS_t) (fun _ _ z => z), Or.inr ⟨rfl, 3, tks T n (tke T n p), f2, y2, ?_⟩⟩
      unfold Bdy
      repeat (first | rw [if_pos (by omega)] | rw [if_neg (by omega)] | rw [if_pos w2_0] | rw [if_neg w2_0] | rw [if_neg (by rw [w2_0]; decide)] | rw [if_pos w2_1] | rw [if_neg w2_1] | rw [if_neg (by rw [w2_1]; decide)] | rw [if_pos w2_0t] | rw [if_neg w2_0t] | rw [if_neg (by rw [w2_0t]; decide)])
      try (exfalso; omega)
    · skip
      by_cases w2_2 : 16 ≤ nn
      · obtain ⟨rfl, f2, y2, z2, e62, e2⟩ := q2 4 (tks T n (tke T n p)) (by unfold kT; rw [if_neg w2_0, if_neg w2_1, if_pos w2_2])
        refine xq_n 56 [] [] [.int (Int32.ofInt 0)] h2 [true] 4 hq rfl ⟨(by decide), trivial⟩ (fun hq => ?_)
        refine xq_ret rfl rfl rfl ⟨fx_w (fx_t (fx_t (fx_0) (fx_w g1 (fun _ _ => sS_c) (fun _ _ z => z))) (g2)) (fun _ _ => cS_t) (fun _ _ z => z), Or.inr ⟨rfl, 4, tks T n (tke T n p), f2, y2, ?_⟩⟩
        unfold Bdy
        repeat (first | rw [if_pos (by omega)] | rw [if_neg (by omega)] | rw [if_pos w2_0] | rw [if_neg w2_0] | rw [if_neg (by rw [w2_0]; decide)] | rw [if_pos w2_1] | rw [if_neg w2_1] | rw [if_neg (by rw [w2_1]; decide)] | rw [if_pos w2_2] | rw [if_neg w2_2] | rw [if_neg (by rw [w2_2]; decide)] | rw [if_pos w2_0t] | rw [if_neg w2_0t] | rw [if_neg (by rw [w2_0t]; decide)])
        try (exfalso; omega)
      · skip
        obtain ⟨rfl, c2⟩ := l2 (tke T n (tke T n p)) (o) (0) (by unfold kT; rw [if_neg w2_0, if_neg w2_1, if_neg w2_2])
        have kb2 := tkk_lt (T := T) (n := n) (p := tke T n (tke T n p)) hT
        have s62 := tks_le (T := T) (n := n) (p := tke T n (tke T n p))
        refine xq_n 33 [0, 1, 2] [(0, .ref 3), (1, .int (nI (tks T n (tke T n p)))), (2, .int (xg 0 h1.2.1 8 5))] [.int 58, .ref 3] h2 [false] 5 hq rfl ⟨(by decide), trivial⟩ (fun hq => ?_)
        refine xq_run hq rfl rfl (ts_q (c := 58) (by decide) (by decide) c2 hq) ?_
        rintro v3 h3 ⟨g3, l3, q3⟩
        have hq := fx_q g3 hq
        by_cases w3_0 : tkk T n (tke T n (tke T n p)) ≠ 58
        · obtain ⟨rfl, f3, y3, z3, e63, e3⟩ := q3 1 (tks T n (tke T n (tke T n p))) (by unfold kS; rw [if_pos w3_0])
          refine xq_n 56 [] [] [.int (Int32.ofInt 0)] h3 [true] 4 hq rfl ⟨(by decide), trivial⟩ (fun hq => ?_)
          refine xq_ret rfl rfl rfl ⟨fx_w (fx_t (fx_t (fx_t (fx_0) (fx_w g1 (fun _ _ => sS_c) (fun _ _ z => z))) (g2)) (g3)) (fun _ _ => cS_t) (fun _ _ z => z), Or.inr ⟨rfl, 1, tks T n (tke T n (tke T n p)), f3, y3, ?_⟩⟩
          unfold Bdy
          repeat (first | rw [if_pos (by omega)] | rw [if_neg (by omega)] | rw [if_pos w2_0] | rw [if_neg w2_0] | rw [if_neg (by rw [w2_0]; decide)] | rw [if_pos w2_1] | rw [if_neg w2_1] | rw [if_neg (by rw [w2_1]; decide)] | rw [if_pos w2_2] | rw [if_neg w2_2] | rw [if_neg (by rw [w2_2]; decide)] | rw [if_pos w2_0t] | rw [if_neg w2_0t] | rw [if_neg (by rw [w2_0t]; decide)] | rw [if_pos w3_0] | rw [if_neg w3_0] | rw [if_neg (by rw [w3_0]; decide)])
          try (exfalso; omega)
        · skip
          obtain ⟨rfl, c3⟩ := l3 (tke T n (tke T n (tke T n p))) (o) (0) (by unfold kS; rw [if_neg w3_0])
          have kb3 := tkk_lt (T := T) (n := n) (p := tke T n (tke T n (tke T n p))) hT
          have s63 := tks_le (T := T) (n := n) (p := tke T n (tke T n (tke T n p)))
          refine xq_n 40 [0, 1, 2] [(0, .ref 3), (1, .int (nI (tks T n (tke T n p)))), (2, .int (xg 0 h1.2.1 8 5))] [.ref 3] h3 [false] 4 hq rfl ⟨(by decide), trivial⟩ (fun hq => ?_)
          refine xq_run hq rfl rfl ((rd_all f).2.2.1 _ _ _ _ c3 (by omega) (by omega) hq) ?_
          rintro v4 h4 ⟨g4, ⟨rfl, pq4, oq4, c4, lt4, le4, G4⟩ | ⟨rfl, kq4, lq4, f4, y4, B4⟩⟩
          · have hq := fx_q g4 hq
            have kb4 := tkk_lt (T := T) (n := n) (p := pq4) hT
            have s64 := tks_le (T := T) (n := n) (p := pq4)
            refine xq_n 49 [0, 1, 2] [(0, .ref 3), (1, .int (nI (tks T n (tke T n p)))), (2, .int (xg 0 h1.2.1 8 5))] [.int 59, .ref 3] h4 [false] 5 hq rfl ⟨(by decide), trivial⟩ (fun hq => ?_)
            refine xq_run hq rfl rfl (ts_q (c := 59) (by decide) (by decide) c4 hq) ?_
            rintro v5 h5 ⟨g5, l5, q5⟩
            have hq := fx_q g5 hq
            by_cases w5_0 : tkk T n pq4 ≠ 59
            · obtain ⟨rfl, f5, y5, z5, e65, e5⟩ := q5 1 (tks T n pq4) (by unfold kS; rw [if_pos w5_0])
              refine xq_n 56 [] [] [.int (Int32.ofInt 0)] h5 [false] 4 hq rfl ⟨(by decide), trivial⟩ (fun hq => ?_)
              refine xq_ret rfl rfl rfl ⟨fx_w (fx_t (fx_t (fx_t (fx_t (fx_t (fx_0) (fx_w g1 (fun _ _ => sS_c) (fun _ _ z => z))) (g2)) (g3)) (g4)) (g5)) (fun _ _ => cS_t) (fun _ _ z => z), Or.inr ⟨rfl, 1, tks T n pq4, f5, y5, ?_⟩⟩
              unfold Bdy
              repeat (first | rw [if_pos (by omega)] | rw [if_neg (by omega)] | rw [if_pos w2_0] | rw [if_neg w2_0] | rw [if_neg (by rw [w2_0]; decide)] | rw [if_pos w2_1] | rw [if_neg w2_1] | rw [if_neg (by rw [w2_1]; decide)] | rw [if_pos w2_2] | rw [if_neg w2_2] | rw [if_neg (by rw [w2_2]; decide)] | rw [if_pos w2_0t] | rw [if_neg w2_0t] | rw [if_neg (by rw [w2_0t]; decide)] | rw [if_pos w3_0] | rw [if_neg w3_0] | rw [if_neg (by rw [w3_0]; decide)] | rw [if_pos w5_0] | rw [if_neg w5_0] | rw [if_neg (by rw [w5_0]; decide)])
              exact ⟨.inr (1, tks T n pq4), Or.inl ⟨_, _, rfl, Fl_t (G4.2.2 0 [] (by decide) rfl) (Fl_1 (by rw [enE]; unfold en; rw [if_neg (by intro z; cases z), if_neg (by rw [G4.1]; decide), if_neg (by rw [G4.2.1]; decide), if_pos (show [0].head? = some 0 from rfl), if_neg (by omega)]))⟩, rfl⟩
            · skip
              obtain ⟨rfl, c5⟩ := l5 (tke T n pq4) (oq4) (0) (by unfold kS; rw [if_neg w5_0])
              have kb5 := tkk_lt (T := T) (n := n) (p := tke T n pq4) hT
              have s65 := tks_le (T := T) (n := n) (p := tke T n pq4)
              refine xq_n 57 [0, 1, 2] [(0, .ref 3), (1, .int (nI (tks T n (tke T n p)))), (2, .int (xg 0 h1.2.1 8 5))] [] h5 [true] 3 hq rfl ⟨(by decide), trivial⟩ (fun hq => ?_)
              have cE : cr h5 T n mem nn NM (tke T n pq4) (oq4) 0 := c5
              have gE : fx cS fN h h5 := fx_t (fx_t (fx_t (fx_t (fx_t (fx_0) (fx_w g1 (fun _ _ => sS_c) (fun _ _ z => z))) (g2)) (g3)) (g4)) (g5)
              have hB : Bdy T n mem nn (nmW T NM) p o (.inl (tke T n pq4, oq4, tkw T n (tke T n p))) := by
                unfold Bdy
                repeat (first | rw [if_pos (by omega)] | rw [if_neg (by omega)] | rw [if_pos w2_0] | rw [if_neg w2_0] | rw [if_neg (by rw [w2_0]; decide)] | rw [if_pos w2_1] | rw [if_neg w2_1] | rw [if_neg (by rw [w2_1]; decide)] | rw [if_pos w2_2] | rw [if_neg w2_2] | rw [if_neg (by rw [w2_2]; decide)] | rw [if_pos w2_0t] | rw [if_neg w2_0t] | rw [if_neg (by rw [w2_0t]; decide)] | rw [if_pos w3_0] | rw [if_neg w3_0] | rw [if_neg (by rw [w3_0]; decide)] | rw [if_pos w5_0] | rw [if_neg w5_0] | rw [if_neg (by rw [w5_0]; decide)])
                exact ⟨.inl (tke T n pq4, oq4), Or.inr ⟨_, _, rfl, Rc_t (G4.2.2 0 [] (by decide) rfl) (Rc_1 (by rw [enE]; unfold en; rw [if_neg (by intro z; cases z), if_neg (by rw [G4.1]; decide), if_neg (by rw [G4.2.1]; decide), if_pos (show [0].head? = some 0 from rfl), if_pos (by omega)]))⟩, rfl⟩
              rw [show xg 0 h1.2.1 8 5 = nI (tke T n (tke T n p)) from (t1.2.2.1 (by omega)).2]
              exact bd_end hq cE gE (by omega) (by omega) (by omega) hB
          · have hq := fx_q g4 hq
            refine xq_n 56 [] [] [.int (Int32.ofInt 0)] h4 [true] 4 hq rfl ⟨(by decide), trivial⟩ (fun hq => ?_)
            refine xq_ret rfl rfl rfl ⟨fx_w (fx_t (fx_t (fx_t (fx_t (fx_0) (fx_w g1 (fun _ _ => sS_c) (fun _ _ z => z))) (g2)) (g3)) (g4)) (fun _ _ => cS_t) (fun _ _ z => z), Or.inr ⟨rfl, kq4, lq4, f4, y4, ?_⟩⟩
            unfold Bdy
            repeat (first | rw [if_pos (by omega)] | rw [if_neg (by omega)] | rw [if_pos w2_0] | rw [if_neg w2_0] | rw [if_neg (by rw [w2_0]; decide)] | rw [if_pos w2_1] | rw [if_neg w2_1] | rw [if_neg (by rw [w2_1]; decide)] | rw [if_pos w2_2] | rw [if_neg w2_2] | rw [if_neg (by rw [w2_2]; decide)] | rw [if_pos w2_0t] | rw [if_neg w2_0t] | rw [if_neg (by rw [w2_0t]; decide)] | rw [if_pos w3_0] | rw [if_neg w3_0] | rw [if_neg (by rw [w3_0]; decide)])
            exact ⟨.inr (kq4, lq4), Or.inl ⟨_, _, rfl, B4 0 [] (by decide) rfl⟩, rfl⟩
end XRP
