section XRL2
/-- what reading changes in the class -/
def cS (c k : Nat) : Bool := (Nat.beq c 8 && Nat.ble 2 k) || ((Nat.beq c 3 && (Nat.beq k 5 || (Nat.beq k 6 || (Nat.beq k 8 || Nat.beq k 9)))) || ((Nat.beq c 4 && Nat.beq k 3) || (Nat.beq c 5 || Nat.beq c 6)))
theorem sS_c {c k : Nat} (h : cS c k = false) : sS c k = false := (or_f h).1
/-- the names that were told: where they stand -/
def cn (h : xh_H) (T : Nat → Nat) (n nn : Nat) (NM : Nat → Nat × Nat) : Prop := xg 0 h.2.1 3 7 = nI nn ∧ nn ≤ 16 ∧ ∀ k, k < nn → xg 0 h.2.1 9 k = nI (NM k).1 ∧ xg 0 h.2.1 10 k = nI (NM k).2 ∧ (NM k).1 ≤ (NM k).2 ∧ (NM k).2 ≤ n ∧ ∀ j, j < (NM k).2 - (NM k).1 → 97 ≤ T ((NM k).1 + j) ∧ T ((NM k).1 + j) ≤ 122
def cr (h : xh_H) (T : Nat → Nat) (n mem nn : Nat) (NM : Nat → Nat × Nat) (p o d : Nat) : Prop := ct h T n ∧ tok h T n p ∧ xg 0 h.2.1 8 1 = nI (min n 600) ∧ xg 0 h.2.1 3 4 = nI mem ∧ mem ≤ 12 ∧ xg 0 h.2.1 3 5 = nI o ∧ o ≤ 121 ∧ xg 0 h.2.1 3 6 = nI d ∧ d ≤ 13 ∧ cn h T n nn NM ∧ xg 0 h.2.1 3 8 = nI 0
/-- the words' values -/
def nmW (T : Nat → Nat) (NM : Nat → Nat × Nat) (k : Nat) : Nat := wv T (NM k).1 ((NM k).2 - (NM k).1)
theorem cn_f {S L : Nat → Nat → Bool} {h h' : xh_H} {T : Nat → Nat} {n nn : Nat} {NM : Nat → Nat × Nat} (c : cn h T n nn NM) (g : fx S L h h') (e1 : S 3 7 = false) (e2 : ∀ k, S 9 k = false) (e3 : ∀ k, S 10 k = false) : cn h' T n nn NM := ⟨by rw [fx_i g e1]; exact c.1, c.2.1, fun k hk' => by rw [fx_i g (e2 k), fx_i g (e3 k)]; exact c.2.2 k hk'⟩
theorem tok_f {S L : Nat → Nat → Bool} {h h' : xh_H} {T : Nat → Nat} {n p : Nat} (t : tok h T n p) (g : fx S L h h') (e : ∀ k, S 8 k = false) : tok h' T n p := by
  unfold tok
  rw [fx_i g (e 3), fx_i g (e 4), fx_i g (e 2), fx_i g (e 5), fx_i g (e 6)]
  exact t
/-- what a small method of the class's reader leaves -/
def co_Q (h : xh_H) (T : Nat → Nat) (n mem nn : Nat) (NM : Nat → Nat × Nat) (r : Sum (Nat × Nat × Nat) (Nat × Nat)) (v : Option Value) (h' : xh_H) : Prop := fx cS fN h h' ∧ (∀ p' o' d', r = .inl (p', o', d') → v = some (.int 1) ∧ cr h' T n mem nn NM p' o' d') ∧ ∀ k pl, r = .inr (k, pl) → v = some (.int 0) ∧ xg 0 h'.2.1 3 8 = nI k ∧ xg 0 h'.2.1 3 9 = nI pl ∧ ∃ e, e ≤ 640 ∧ xg 0 h'.2.1 8 2 = nI e
variable {T : Nat → Nat} {n mem nn : Nat} {NM : Nat → Nat × Nat}
theorem co_l {h h' : xh_H} {r : Sum (Nat × Nat × Nat) (Nat × Nat)} {v : Option Value} {p' o' d' : Nat} (er : r = .inl (p', o', d')) (g : fx cS fN h h') (hv : v = some (.int 1)) (hr : cr h' T n mem nn NM p' o' d') : co_Q h T n mem nn NM r v h' := by
  subst er
  refine ⟨g, fun _ _ _ e => ?_, fun _ _ e => (by cases e)⟩
  cases e
  exact ⟨hv, hr⟩
theorem co_r {h h' : xh_H} {r : Sum (Nat × Nat × Nat) (Nat × Nat)} {v : Option Value} {k pl : Nat} (er : r = .inr (k, pl)) (g : fx cS fN h h') (hv : v = some (.int 0)) (h1 : xg 0 h'.2.1 3 8 = nI k) (h2 : xg 0 h'.2.1 3 9 = nI pl) (h3 : ∃ e, e ≤ 640 ∧ xg 0 h'.2.1 8 2 = nI e) : co_Q h T n mem nn NM r v h' := by
  subst er
  refine ⟨g, fun _ _ _ e => (by cases e), fun _ _ e => ?_⟩
  cases e
  exact ⟨hv, h1, h2, h3⟩
def fS (c k : Nat) : Bool := Nat.beq c 3 && (Nat.beq k 8 || Nat.beq k 9)
def aS_ (c k : Nat) : Bool := (Nat.beq c 4 && Nat.beq k 3) || (Nat.beq c 5 || Nat.beq c 6)
theorem fS_c {c k : Nat} (h : cS c k = false) : fS c k = false := by
  unfold cS at h
  unfold fS
  have h1 := (or_f (or_f h).2).1
  cases h2 : Nat.beq c 3 with
  | false => rfl
  | true =>
    rw [h2] at h1
    have h1 : (Nat.beq k 5 || (Nat.beq k 6 || (Nat.beq k 8 || Nat.beq k 9))) = false := h1
    exact (or_f (or_f h1).2).2
theorem aS_c {c k : Nat} (h : cS c k = false) : aS_ c k = false := (or_f (or_f h).2).2
def fl_Q (h : xh_H) (k pl : Nat) (v : Option Value) (h' : xh_H) : Prop := v = some (.int 0) ∧ fx fS fN h h' ∧ xg 0 h'.2.1 3 8 = nI k ∧ xg 0 h'.2.1 3 9 = nI pl
set_option maxRecDepth 100000 in
set_option maxHeartbeats 4000000 in
theorem fail_q {f k pl : Nat} {h : xh_H} (hq : a_rq a_tb h) : xq f xi_X4_fail xmi_X4_fail 0 [(0, .ref 3), (1, .int (nI k)), (2, .int (nI pl))] [] h (fl_Q h k pl) := by
  refine xq_n 11 [] [] [.int (Int32.ofInt 0)] (xh_ui (xh_ui h 3 8 (nI k)) 3 9 (nI pl)) [] 9 hq rfl trivial (fun _ => ?_)
  have hq : a_rq a_tb (xh_ui (xh_ui h 3 8 (nI k)) 3 9 (nI pl)) := a_rq_ui (a_rq_ui hq)
  exact xq_ret rfl rfl rfl ⟨rfl, fx_ui (fx_ui (fx_0) rfl) rfl, (gx_k (by decide)).trans (gx_s), gx_s⟩
set_option maxRecDepth 100000 in
set_option maxHeartbeats 4000000 in
theorem add_q {f : Nat} {x y : Int32} {h : xh_H} (hq : a_rq a_tb h) : xq f xi_X3_add xmi_X3_add 0 [(0, .ref 4), (1, .int x), (2, .int y)] [] h (fun v h' => v = none ∧ fx aS_ fN h h') := by
  cases c1 : xe_c .ge (xg 0 h.2.1 4 3) 400 with
  | true =>
    refine xq_n 40 [] [] [] h [true] 6 hq rfl ⟨c1, trivial⟩ (fun hq => ?_)
    exact xq_ret rfl rfl rfl ⟨rfl, fx_0⟩
  | false =>
    refine xq_n 40 [] [] [] (xh_ui (xh_ui (xh_ui h 5 ((xg 0 h.2.1 4 3).toNatClampNeg) x) 6 ((xg 0 (xh_ui h 5 ((xg 0 h.2.1 4 3).toNatClampNeg) x).2.1 4 3).toNatClampNeg) y) 4 3 ((xg 0 (xh_ui (xh_ui h 5 ((xg 0 h.2.1 4 3).toNatClampNeg) x) 6 ((xg 0 (xh_ui h 5 ((xg 0 h.2.1 4 3).toNatClampNeg) x).2.1 4 3).toNatClampNeg) y).2.1 4 3) + (Int32.ofInt 1))) [false] 24 hq rfl ⟨c1, trivial⟩ (fun _ => ?_)
    rw [show (xg 0 (xh_ui (xh_ui h 5 ((xg 0 h.2.1 4 3).toNatClampNeg) x) 6 ((xg 0 (xh_ui h 5 ((xg 0 h.2.1 4 3).toNatClampNeg) x).2.1 4 3).toNatClampNeg) y).2.1 4 3) = (xg 0 h.2.1 4 3) from (gx_o (by decide)).trans (gx_o (by decide))]
    rw [show (xg 0 (xh_ui h 5 ((xg 0 h.2.1 4 3).toNatClampNeg) x).2.1 4 3) = (xg 0 h.2.1 4 3) from gx_o (by decide)]
    have hq : a_rq a_tb (xh_ui (xh_ui (xh_ui h 5 ((xg 0 h.2.1 4 3).toNatClampNeg) x) 6 ((xg 0 h.2.1 4 3).toNatClampNeg) y) 4 3 ((xg 0 h.2.1 4 3) + (Int32.ofInt 1))) := a_rq_ui (a_rq_ui (a_rq_ui hq))
    exact xq_ret rfl rfl rfl ⟨rfl, fx_ui (fx_ui (fx_ui (fx_0) rfl) rfl) rfl⟩
def kW (T : Nat → Nat) (n p o d i : Nat) : Sum (Nat × Nat × Nat) (Nat × Nat) := if ky T n p i = false then .inr (1, tks T n p) else .inl (tke T n p, o, d)
def kS (T : Nat → Nat) (n p o d c : Nat) : Sum (Nat × Nat × Nat) (Nat × Nat) := if tkk T n p ≠ c then .inr (1, tks T n p) else .inl (tke T n p, o, d)
def kO (T : Nat → Nat) (n p o d c : Nat) : Sum (Nat × Nat × Nat) (Nat × Nat) := if tkk T n p ≠ c then .inr (1, tks T n p) else if 12 ≤ d then .inr (4, tks T n p) else .inl (tke T n p, o, d + 1)
def kC (p o d st : Nat) : Sum (Nat × Nat × Nat) (Nat × Nat) := if 120 ≤ o then .inr (4, st) else .inl (p, o + 1, d)
def kM (T : Nat → Nat) (n mem p o d : Nat) : Sum (Nat × Nat × Nat) (Nat × Nat) := if mem ≤ T (tks T n p) - 97 then .inr (2, tks T n p) else .inl (p, o, d)
def kN (T : Nat → Nat) (n nn : Nat) (NW : Nat → Nat) (p o d : Nat) : Sum (Nat × Nat × Nat) (Nat × Nat) := if nmt T n p = false then .inr (1, tks T n p) else if hasn nn NW (tkw T n p) = false then .inr (3, tks T n p) else .inl (p, o, d)
set_option maxRecDepth 100000 in
set_option maxHeartbeats 4000000 in
theorem tw1_q {f p o d : Nat} {h : xh_H} (c0 : cr h T n mem nn NM p o d) (hq : a_rq a_tb h) : xq f xi_X4_takeWord xmi_X4_takeWord 0 [(0, .ref 3), (1, .float 3)] [] h (co_Q h T n mem nn NM (kW T n p o d 1)) := by
  have hT : ∀ k, k < n → T k < 256 := fun k hk' => (c0.1.2.2 k hk').1
  have tk := c0.2.1
  have kb := tkk_lt (T := T) (n := n) (p := p) hT
  have n6 := c0.1.2.1
  have o121 := c0.2.2.2.2.2.2.1
  have d13 := c0.2.2.2.2.2.2.2.2.1
  have s6 := tks_le (T := T) (n := n) (p := p)
  have mm := c0.2.2.2.2.1
  have n16 := c0.2.2.2.2.2.2.2.2.2.1.2.1
  refine xq_n 5 [0, 1] [(0, .ref 3), (1, .float 3)] [.float 3, .ref 8] h [] 5 hq rfl trivial (fun hq => ?_)
  refine xq_run hq rfl rfl (iw1_q (c0.1) (tk) hq) ?_
  rintro v1 h_v1 ⟨rfl, rfl⟩
  cases b2 : (ky T n p 1) with
  | true =>
    have db2 := of_decide_eq_true b2
    refine xq_n 28 [0, 1] [(0, .ref 3), (1, .float 3)] [.ref 8] h [true] 5 hq rfl ⟨rfl, trivial⟩ (fun hq => ?_)
    have nz3 : tkk T n p ≠ 0 := by omega
    have le3 := tke_le nz3
    refine xq_run hq rfl rfl (adv_q hq hT (c0.1) (c0.2.2.1) ((tk.2.2.1 (by omega)).1) (by omega)) ?_
    rintro v3 h3 ⟨rfl, g3, t3⟩
    have hq := fx_q g3 hq
    have kb3 := tkk_lt (T := T) (n := n) (p := tke T n p) hT
    have s63 := tks_le (T := T) (n := n) (p := tke T n p)
    refine xq_n 32 [] [] [.int (Int32.ofInt 1)] h3 [] 3 hq rfl trivial (fun hq => ?_)
    have er : kW T n p o d 1 = .inl (tke T n p, o, d) := by
      unfold kW
      repeat (first | rw [if_pos (by omega)] | rw [if_neg (by omega)] | rw [if_pos b2] | rw [if_neg (by rw [b2]; decide)])
      try rfl
    exact xq_ret rfl rfl rfl (co_l er (fx_t (fx_0) (fx_w g3 (fun _ _ => sS_c) (fun _ _ z => z))) rfl ⟨ct_f (S := cS) (L := fN) c0.1 (fx_t (fx_0) (fx_w g3 (fun _ _ => sS_c) (fun _ _ z => z))) rfl (fun _ => rfl), t3, (fx_i g3 rfl).trans (c0.2.2.1), (fx_i g3 rfl).trans (c0.2.2.2.1), c0.2.2.2.2.1, (fx_i g3 rfl).trans (c0.2.2.2.2.2.1), by omega, (fx_i g3 rfl).trans (c0.2.2.2.2.2.2.2.1), by omega, cn_f (S := cS) (L := fN) c0.2.2.2.2.2.2.2.2.2.1 (fx_t (fx_0) (fx_w g3 (fun _ _ => sS_c) (fun _ _ z => z))) rfl (fun _ => rfl) (fun _ => rfl), (fx_i g3 rfl).trans (c0.2.2.2.2.2.2.2.2.2.2)⟩)
  | false =>
    have db2 := of_decide_eq_false b2
    refine xq_n 20 [0, 1] [(0, .ref 3), (1, .float 3)] [.int (xg 0 h.2.1 8 4), .int (Int32.ofInt 1), .ref 3] h [false] 8 hq rfl ⟨rfl, trivial⟩ (fun hq => ?_)
    rw [show (xg 0 h.2.1 8 4) = (nI (tks T n p)) from tk.2.1]
    refine xq_run hq rfl rfl (fail_q (k := 1) (pl := (tks T n p)) hq) ?_
    rintro v4 h4 ⟨rfl, g4, f4, l4⟩
    have hq := fx_q g4 hq
    have er : kW T n p o d 1 = .inr (1, tks T n p) := by
      unfold kW
      repeat (first | rw [if_pos (by omega)] | rw [if_neg (by omega)] | rw [if_pos b2] | rw [if_neg (by rw [b2]; decide)])
      try rfl
    exact xq_ret rfl rfl rfl (co_r er (fx_t (fx_0) (fx_w g4 (fun _ _ => fS_c) (fun _ _ z => z))) rfl (f4) (l4) (tok_f (tk) g4 (fun _ => rfl)).2.2.2.2)
set_option maxRecDepth 100000 in
set_option maxHeartbeats 4000000 in
theorem tw4_q {f p o d : Nat} {h : xh_H} (c0 : cr h T n mem nn NM p o d) (hq : a_rq a_tb h) : xq f xi_X4_takeWord xmi_X4_takeWord 0 [(0, .ref 3), (1, .float 6)] [] h (co_Q h T n mem nn NM (kW T n p o d 4)) := by
  have hT : ∀ k, k < n → T k < 256 := fun k hk' => (c0.1.2.2 k hk').1
  have tk := c0.2.1
  have kb := tkk_lt (T := T) (n := n) (p := p) hT
  have n6 := c0.1.2.1
  have o121 := c0.2.2.2.2.2.2.1
  have d13 := c0.2.2.2.2.2.2.2.2.1
  have s6 := tks_le (T := T) (n := n) (p := p)
  have mm := c0.2.2.2.2.1
  have n16 := c0.2.2.2.2.2.2.2.2.2.1.2.1
  refine xq_n 5 [0, 1] [(0, .ref 3), (1, .float 6)] [.float 6, .ref 8] h [] 5 hq rfl trivial (fun hq => ?_)
  refine xq_run hq rfl rfl (iw4_q (c0.1) (tk) hq) ?_
  rintro v1 h_v1 ⟨rfl, rfl⟩
  cases b2 : (ky T n p 4) with
  | true =>
    have db2 := of_decide_eq_true b2
    refine xq_n 28 [0, 1] [(0, .ref 3), (1, .float 6)] [.ref 8] h [true] 5 hq rfl ⟨rfl, trivial⟩ (fun hq => ?_)
    have nz3 : tkk T n p ≠ 0 := by omega
    have le3 := tke_le nz3
    refine xq_run hq rfl rfl (adv_q hq hT (c0.1) (c0.2.2.1) ((tk.2.2.1 (by omega)).1) (by omega)) ?_
    rintro v3 h3 ⟨rfl, g3, t3⟩
    have hq := fx_q g3 hq
    have kb3 := tkk_lt (T := T) (n := n) (p := tke T n p) hT
    have s63 := tks_le (T := T) (n := n) (p := tke T n p)
    refine xq_n 32 [] [] [.int (Int32.ofInt 1)] h3 [] 3 hq rfl trivial (fun hq => ?_)
    have er : kW T n p o d 4 = .inl (tke T n p, o, d) := by
      unfold kW
      repeat (first | rw [if_pos (by omega)] | rw [if_neg (by omega)] | rw [if_pos b2] | rw [if_neg (by rw [b2]; decide)])
      try rfl
    exact xq_ret rfl rfl rfl (co_l er (fx_t (fx_0) (fx_w g3 (fun _ _ => sS_c) (fun _ _ z => z))) rfl ⟨ct_f (S := cS) (L := fN) c0.1 (fx_t (fx_0) (fx_w g3 (fun _ _ => sS_c) (fun _ _ z => z))) rfl (fun _ => rfl), t3, (fx_i g3 rfl).trans (c0.2.2.1), (fx_i g3 rfl).trans (c0.2.2.2.1), c0.2.2.2.2.1, (fx_i g3 rfl).trans (c0.2.2.2.2.2.1), by omega, (fx_i g3 rfl).trans (c0.2.2.2.2.2.2.2.1), by omega, cn_f (S := cS) (L := fN) c0.2.2.2.2.2.2.2.2.2.1 (fx_t (fx_0) (fx_w g3 (fun _ _ => sS_c) (fun _ _ z => z))) rfl (fun _ => rfl) (fun _ => rfl), (fx_i g3 rfl).trans (c0.2.2.2.2.2.2.2.2.2.2)⟩)
  | false =>
    have db2 := of_decide_eq_false b2
    refine xq_n 20 [0, 1] [(0, .ref 3), (1, .float 6)] [.int (xg 0 h.2.1 8 4), .int (Int32.ofInt 1), .ref 3] h [false] 8 hq rfl ⟨rfl, trivial⟩ (fun hq => ?_)
    rw [show (xg 0 h.2.1 8 4) = (nI (tks T n p)) from tk.2.1]
    refine xq_run hq rfl rfl (fail_q (k := 1) (pl := (tks T n p)) hq) ?_
    rintro v4 h4 ⟨rfl, g4, f4, l4⟩
    have hq := fx_q g4 hq
    have er : kW T n p o d 4 = .inr (1, tks T n p) := by
      unfold kW
      repeat (first | rw [if_pos (by omega)] | rw [if_neg (by omega)] | rw [if_pos b2] | rw [if_neg (by rw [b2]; decide)])
      try rfl
    exact xq_ret rfl rfl rfl (co_r er (fx_t (fx_0) (fx_w g4 (fun _ _ => fS_c) (fun _ _ z => z))) rfl (f4) (l4) (tok_f (tk) g4 (fun _ => rfl)).2.2.2.2)
set_option maxRecDepth 100000 in
set_option maxHeartbeats 4000000 in
theorem ts_q {f p o d c : Nat} {h : xh_H} (c4 : 40 ≤ c) (c5 : c < 256) (c0 : cr h T n mem nn NM p o d) (hq : a_rq a_tb h) : xq f xi_X4_takeSign xmi_X4_takeSign 0 [(0, .ref 3), (1, .int (nI c))] [] h (co_Q h T n mem nn NM (kS T n p o d c)) := by
  have hT : ∀ k, k < n → T k < 256 := fun k hk' => (c0.1.2.2 k hk').1
  have tk := c0.2.1
  have kb := tkk_lt (T := T) (n := n) (p := p) hT
  have n6 := c0.1.2.1
  have o121 := c0.2.2.2.2.2.2.1
  have d13 := c0.2.2.2.2.2.2.2.2.1
  have s6 := tks_le (T := T) (n := n) (p := p)
  have mm := c0.2.2.2.2.1
  have n16 := c0.2.2.2.2.2.2.2.2.2.1.2.1
  cases c1 : xe_c .eq (nI (tkk T n p)) (nI c) with
  | true =>
    have z1 : (tkk T n p) = c := nq_eqt (a := (tkk T n p)) (b := c) (by omega) (by omega) c1
    refine xq_n 28 [0, 1] [(0, .ref 3), (1, .int (nI c))] [.ref 8] h [true] 9 hq rfl ⟨(show xe_c .eq (xg 0 h.2.1 8 3) (nI c) = true by rw [show (xg 0 h.2.1 8 3) = (nI (tkk T n p)) from tk.1]; exact c1), trivial⟩ (fun hq => ?_)
    have nz2 : tkk T n p ≠ 0 := by omega
    have le2 := tke_le nz2
    refine xq_run hq rfl rfl (adv_q hq hT (c0.1) (c0.2.2.1) ((tk.2.2.1 (by omega)).1) (by omega)) ?_
    rintro v2 h2 ⟨rfl, g2, t2⟩
    have hq := fx_q g2 hq
    have kb2 := tkk_lt (T := T) (n := n) (p := tke T n p) hT
    have s62 := tks_le (T := T) (n := n) (p := tke T n p)
    refine xq_n 32 [] [] [.int (Int32.ofInt 1)] h2 [] 3 hq rfl trivial (fun hq => ?_)
    have er : kS T n p o d c = .inl (tke T n p, o, d) := by
      unfold kS
      repeat (first | rw [if_pos (by omega)] | rw [if_neg (by omega)])
      try rfl
    exact xq_ret rfl rfl rfl (co_l er (fx_t (fx_0) (fx_w g2 (fun _ _ => sS_c) (fun _ _ z => z))) rfl ⟨ct_f (S := cS) (L := fN) c0.1 (fx_t (fx_0) (fx_w g2 (fun _ _ => sS_c) (fun _ _ z => z))) rfl (fun _ => rfl), t2, (fx_i g2 rfl).trans (c0.2.2.1), (fx_i g2 rfl).trans (c0.2.2.2.1), c0.2.2.2.2.1, (fx_i g2 rfl).trans (c0.2.2.2.2.2.1), by omega, (fx_i g2 rfl).trans (c0.2.2.2.2.2.2.2.1), by omega, cn_f (S := cS) (L := fN) c0.2.2.2.2.2.2.2.2.2.1 (fx_t (fx_0) (fx_w g2 (fun _ _ => sS_c) (fun _ _ z => z))) rfl (fun _ => rfl) (fun _ => rfl), (fx_i g2 rfl).trans (c0.2.2.2.2.2.2.2.2.2.2)⟩)
  | false =>
    have z1 : (tkk T n p) ≠ c := nq_eqf (a := (tkk T n p)) (b := c) (by omega) (by omega) c1
    refine xq_n 20 [0, 1] [(0, .ref 3), (1, .int (nI c))] [.int (xg 0 h.2.1 8 4), .int (Int32.ofInt 1), .ref 3] h [false] 12 hq rfl ⟨(show xe_c .eq (xg 0 h.2.1 8 3) (nI c) = false by rw [show (xg 0 h.2.1 8 3) = (nI (tkk T n p)) from tk.1]; exact c1), trivial⟩ (fun hq => ?_)
    rw [show (xg 0 h.2.1 8 4) = (nI (tks T n p)) from tk.2.1]
    refine xq_run hq rfl rfl (fail_q (k := 1) (pl := (tks T n p)) hq) ?_
    rintro v3 h3 ⟨rfl, g3, f3, l3⟩
    have hq := fx_q g3 hq
    have er : kS T n p o d c = .inr (1, tks T n p) := by
      unfold kS
      repeat (first | rw [if_pos (by omega)] | rw [if_neg (by omega)])
      try rfl
    exact xq_ret rfl rfl rfl (co_r er (fx_t (fx_0) (fx_w g3 (fun _ _ => fS_c) (fun _ _ z => z))) rfl (f3) (l3) (tok_f (tk) g3 (fun _ => rfl)).2.2.2.2)
set_option maxRecDepth 100000 in
set_option maxHeartbeats 4000000 in
theorem to_q {f p o d c : Nat} {h : xh_H} (c4 : 40 ≤ c) (c5 : c < 256) (c0 : cr h T n mem nn NM p o d) (hq : a_rq a_tb h) : xq f xi_X4_takeOpening xmi_X4_takeOpening 0 [(0, .ref 3), (1, .int (nI c))] [] h (co_Q h T n mem nn NM (kO T n p o d c)) := by
  have hT : ∀ k, k < n → T k < 256 := fun k hk' => (c0.1.2.2 k hk').1
  have tk := c0.2.1
  have kb := tkk_lt (T := T) (n := n) (p := p) hT
  have n6 := c0.1.2.1
  have o121 := c0.2.2.2.2.2.2.1
  have d13 := c0.2.2.2.2.2.2.2.2.1
  have s6 := tks_le (T := T) (n := n) (p := p)
  have mm := c0.2.2.2.2.1
  have n16 := c0.2.2.2.2.2.2.2.2.2.1.2.1
  cases c1 : xe_c .eq (nI (tkk T n p)) (nI c) with
  | true =>
    have z1 : (tkk T n p) = c := nq_eqt (a := (tkk T n p)) (b := c) (by omega) (by omega) c1
    cases c2 : xe_c .lt (nI d) 12 with
    | true =>
      have z2 : d < 12 := nq_ltt (a := d) (b := 12) (by omega) (by omega) c2
      refine xq_n 60 [0, 1] [(0, .ref 3), (1, .int (nI c))] [.ref 8] (xh_ui h 3 6 ((xg 0 h.2.1 3 6) + (Int32.ofInt 1))) [true, true] 19 hq rfl ⟨(show xe_c .eq (xg 0 h.2.1 8 3) (nI c) = true by rw [show (xg 0 h.2.1 8 3) = (nI (tkk T n p)) from tk.1]; exact c1), (show xe_c .lt (xg 0 h.2.1 3 6) 12 = true by rw [show (xg 0 h.2.1 3 6) = (nI d) from c0.2.2.2.2.2.2.2.1]; exact c2), trivial⟩ (fun _ => ?_)
      rw [show (xg 0 h.2.1 3 6) = (nI d) from c0.2.2.2.2.2.2.2.1]
      rw [show ((nI d) + (Int32.ofInt 1)) = nI (d + 1) from nI_1 _]
      have hq : a_rq a_tb (xh_ui h 3 6 (nI (d + 1))) := a_rq_ui hq
      have nz3 : tkk T n p ≠ 0 := by omega
      have le3 := tke_le nz3
      refine xq_run hq rfl rfl (adv_q hq hT (ct_f (S := cS) (L := fN) c0.1 (fx_ui (fx_0) rfl) rfl (fun _ => rfl)) ((gx_o (by decide)).trans (c0.2.2.1)) ((gx_o (by decide)).trans ((tk.2.2.1 (by omega)).1)) (by omega)) ?_
      rintro v3 h3 ⟨rfl, g3, t3⟩
      have hq := fx_q g3 hq
      have kb3 := tkk_lt (T := T) (n := n) (p := tke T n p) hT
      have s63 := tks_le (T := T) (n := n) (p := tke T n p)
      refine xq_n 64 [] [] [.int (Int32.ofInt 1)] h3 [] 3 hq rfl trivial (fun hq => ?_)
      have er : kO T n p o d c = .inl (tke T n p, o, (d + 1)) := by
        unfold kO
        repeat (first | rw [if_pos (by omega)] | rw [if_neg (by omega)])
        try rfl
      exact xq_ret rfl rfl rfl (co_l er (fx_t (fx_ui (fx_0) rfl) (fx_w g3 (fun _ _ => sS_c) (fun _ _ z => z))) rfl ⟨ct_f (S := cS) (L := fN) c0.1 (fx_t (fx_ui (fx_0) rfl) (fx_w g3 (fun _ _ => sS_c) (fun _ _ z => z))) rfl (fun _ => rfl), t3, (fx_i g3 rfl).trans ((gx_o (by decide)).trans (c0.2.2.1)), (fx_i g3 rfl).trans ((gx_k (by decide)).trans (c0.2.2.2.1)), c0.2.2.2.2.1, (fx_i g3 rfl).trans ((gx_k (by decide)).trans (c0.2.2.2.2.2.1)), by omega, (fx_i g3 rfl).trans (gx_s), by omega, cn_f (S := cS) (L := fN) c0.2.2.2.2.2.2.2.2.2.1 (fx_t (fx_ui (fx_0) rfl) (fx_w g3 (fun _ _ => sS_c) (fun _ _ z => z))) rfl (fun _ => rfl) (fun _ => rfl), (fx_i g3 rfl).trans ((gx_k (by decide)).trans (c0.2.2.2.2.2.2.2.2.2.2))⟩)
    | false =>
      have z2 : d ≥ 12 := nq_ltf (a := d) (b := 12) (by omega) (by omega) c2
      refine xq_n 42 [0, 1] [(0, .ref 3), (1, .int (nI c))] [.int (xg 0 h.2.1 8 4), .int (Int32.ofInt 4), .ref 3] h [true, false] 16 hq rfl ⟨(show xe_c .eq (xg 0 h.2.1 8 3) (nI c) = true by rw [show (xg 0 h.2.1 8 3) = (nI (tkk T n p)) from tk.1]; exact c1), (show xe_c .lt (xg 0 h.2.1 3 6) 12 = false by rw [show (xg 0 h.2.1 3 6) = (nI d) from c0.2.2.2.2.2.2.2.1]; exact c2), trivial⟩ (fun hq => ?_)
      rw [show (xg 0 h.2.1 8 4) = (nI (tks T n p)) from tk.2.1]
      refine xq_run hq rfl rfl (fail_q (k := 4) (pl := (tks T n p)) hq) ?_
      rintro v4 h4 ⟨rfl, g4, f4, l4⟩
      have hq := fx_q g4 hq
      have er : kO T n p o d c = .inr (4, tks T n p) := by
        unfold kO
        repeat (first | rw [if_pos (by omega)] | rw [if_neg (by omega)])
        try rfl
      exact xq_ret rfl rfl rfl (co_r er (fx_t (fx_0) (fx_w g4 (fun _ _ => fS_c) (fun _ _ z => z))) rfl (f4) (l4) (tok_f (tk) g4 (fun _ => rfl)).2.2.2.2)
  | false =>
    have z1 : (tkk T n p) ≠ c := nq_eqf (a := (tkk T n p)) (b := c) (by omega) (by omega) c1
    refine xq_n 20 [0, 1] [(0, .ref 3), (1, .int (nI c))] [.int (xg 0 h.2.1 8 4), .int (Int32.ofInt 1), .ref 3] h [false] 12 hq rfl ⟨(show xe_c .eq (xg 0 h.2.1 8 3) (nI c) = false by rw [show (xg 0 h.2.1 8 3) = (nI (tkk T n p)) from tk.1]; exact c1), trivial⟩ (fun hq => ?_)
    rw [show (xg 0 h.2.1 8 4) = (nI (tks T n p)) from tk.2.1]
    refine xq_run hq rfl rfl (fail_q (k := 1) (pl := (tks T n p)) hq) ?_
    rintro v5 h5 ⟨rfl, g5, f5, l5⟩
    have hq := fx_q g5 hq
    have er : kO T n p o d c = .inr (1, tks T n p) := by
      unfold kO
      repeat (first | rw [if_pos (by omega)] | rw [if_neg (by omega)])
      try rfl
    exact xq_ret rfl rfl rfl (co_r er (fx_t (fx_0) (fx_w g5 (fun _ _ => fS_c) (fun _ _ z => z))) rfl (f5) (l5) (tok_f (tk) g5 (fun _ => rfl)).2.2.2.2)
set_option maxRecDepth 100000 in
set_option maxHeartbeats 4000000 in
theorem co_q {f p o d st : Nat} {h : xh_H} (o6 : o ≤ 120) (c0 : cr h T n mem nn NM p o d) (hq : a_rq a_tb h) : xq f xi_X4_countOne xmi_X4_countOne 0 [(0, .ref 3), (1, .int (nI st))] [] h (co_Q h T n mem nn NM (kC p o d st)) := by
  have hT : ∀ k, k < n → T k < 256 := fun k hk' => (c0.1.2.2 k hk').1
  have tk := c0.2.1
  have kb := tkk_lt (T := T) (n := n) (p := p) hT
  have n6 := c0.1.2.1
  have o121 := c0.2.2.2.2.2.2.1
  have d13 := c0.2.2.2.2.2.2.2.2.1
  have s6 := tks_le (T := T) (n := n) (p := p)
  have mm := c0.2.2.2.2.1
  have n16 := c0.2.2.2.2.2.2.2.2.2.1.2.1
  cases c1 : xe_c .le (nI (o + 1)) 120 with
  | true =>
    have z1 : (o + 1) ≤ 120 := nq_let (a := (o + 1)) (b := 120) (by omega) (by omega) c1
    refine xq_n 33 [] [] [.int (Int32.ofInt 1)] (xh_ui h 3 5 ((xg 0 h.2.1 3 5) + (Int32.ofInt 1))) [true] 14 hq rfl ⟨(show xe_c .le (xg 0 (xh_ui h 3 5 ((xg 0 h.2.1 3 5) + (Int32.ofInt 1))).2.1 3 5) 120 = true by rw [show (xg 0 (xh_ui h 3 5 ((xg 0 h.2.1 3 5) + (Int32.ofInt 1))).2.1 3 5) = ((xg 0 h.2.1 3 5) + (Int32.ofInt 1)) from gx_s, show (xg 0 h.2.1 3 5) = (nI o) from c0.2.2.2.2.2.1, show ((nI o) + (Int32.ofInt 1)) = nI (o + 1) from nI_1 _]; exact c1), trivial⟩ (fun _ => ?_)
    rw [show (xg 0 h.2.1 3 5) = (nI o) from c0.2.2.2.2.2.1]
    rw [show ((nI o) + (Int32.ofInt 1)) = nI (o + 1) from nI_1 _]
    have hq : a_rq a_tb (xh_ui h 3 5 (nI (o + 1))) := a_rq_ui hq
    have er : kC p o d st = .inl (p, (o + 1), d) := by
      unfold kC
      repeat (first | rw [if_pos (by omega)] | rw [if_neg (by omega)])
      try rfl
    exact xq_ret rfl rfl rfl (co_l er (fx_ui (fx_0) rfl) rfl ⟨ct_f (S := cS) (L := fN) c0.1 (fx_ui (fx_0) rfl) rfl (fun _ => rfl), tok_f (S := fun c k => Nat.beq c 3) (L := fN) (tk) (fx_ui fx_0 rfl) (fun _ => rfl), (gx_o (by decide)).trans (c0.2.2.1), (gx_k (by decide)).trans (c0.2.2.2.1), c0.2.2.2.2.1, gx_s, by omega, (gx_k (by decide)).trans (c0.2.2.2.2.2.2.2.1), by omega, cn_f (S := cS) (L := fN) c0.2.2.2.2.2.2.2.2.2.1 (fx_ui (fx_0) rfl) rfl (fun _ => rfl) (fun _ => rfl), (gx_k (by decide)).trans (c0.2.2.2.2.2.2.2.2.2.2)⟩)
  | false =>
    have z1 : (o + 1) > 120 := nq_lef (a := (o + 1)) (b := 120) (by omega) (by omega) c1
    refine xq_n 22 [0, 1] [(0, .ref 3), (1, .int (nI st))] [.int (nI st), .int (Int32.ofInt 4), .ref 3] (xh_ui h 3 5 ((xg 0 h.2.1 3 5) + (Int32.ofInt 1))) [false] 15 hq rfl ⟨(show xe_c .le (xg 0 (xh_ui h 3 5 ((xg 0 h.2.1 3 5) + (Int32.ofInt 1))).2.1 3 5) 120 = false by rw [show (xg 0 (xh_ui h 3 5 ((xg 0 h.2.1 3 5) + (Int32.ofInt 1))).2.1 3 5) = ((xg 0 h.2.1 3 5) + (Int32.ofInt 1)) from gx_s, show (xg 0 h.2.1 3 5) = (nI o) from c0.2.2.2.2.2.1, show ((nI o) + (Int32.ofInt 1)) = nI (o + 1) from nI_1 _]; exact c1), trivial⟩ (fun _ => ?_)
    rw [show (xg 0 h.2.1 3 5) = (nI o) from c0.2.2.2.2.2.1]
    rw [show ((nI o) + (Int32.ofInt 1)) = nI (o + 1) from nI_1 _]
    have hq : a_rq a_tb (xh_ui h 3 5 (nI (o + 1))) := a_rq_ui hq
    refine xq_run hq rfl rfl (fail_q (k := 4) (pl := st) hq) ?_
    rintro v2 h2 ⟨rfl, g2, f2, l2⟩
    have hq := fx_q g2 hq
    refine xq_n 33 [] [] [.int (Int32.ofInt 0)] h2 [true] 4 hq rfl ⟨(by decide), trivial⟩ (fun hq => ?_)
    have er : kC p o d st = .inr (4, st) := by
      unfold kC
      repeat (first | rw [if_pos (by omega)] | rw [if_neg (by omega)])
      try rfl
    exact xq_ret rfl rfl rfl (co_r er (fx_t (fx_ui (fx_0) rfl) (fx_w g2 (fun _ _ => fS_c) (fun _ _ z => z))) rfl (f2) (l2) (tok_f (tok_f (S := fun c k => Nat.beq c 3) (L := fN) (tk) (fx_ui fx_0 rfl) (fun _ => rfl)) g2 (fun _ => rfl)).2.2.2.2)
set_option maxRecDepth 100000 in
set_option maxHeartbeats 4000000 in
theorem tn_lp {p o d : Nat} {h : xh_H} (c0 : cr h T n mem nn NM p o d) (h2 : tkk T n p = 2) : ∀ (f i : Nat), a_rq a_tb h → i ≤ nn → (∀ j, j < i → nmW T NM j ≠ tkw T n p) → xq f xi_X4_toldName xmi_X4_toldName 2 [(0, .ref 3), (1, .int (nI i))] [] h (nh_Q h nn (nmW T NM) (tkw T n p)) := by
  have hT : ∀ k, k < n → T k < 256 := fun k hk' => (c0.1.2.2 k hk').1
  have tk := c0.2.1
  have kb := tkk_lt (T := T) (n := n) (p := p) hT
  have n6 := c0.1.2.1
  have o121 := c0.2.2.2.2.2.2.1
  have d13 := c0.2.2.2.2.2.2.2.2.1
  have s6 := tks_le (T := T) (n := n) (p := p)
  have mm := c0.2.2.2.2.1
  have n16 := c0.2.2.2.2.2.2.2.2.2.1.2.1
  intro f
  induction f with
  | zero => intros; exact xq_0
  | succ f ih =>
    intro i hq hi ha
    cases c1 : xe_c .ge (nI i) (nI nn) with
    | true =>
      have z1 : i ≥ nn := nq_get (a := i) (b := nn) (by omega) (by omega) c1
      refine xq_m 41 [] [] [.int (Int32.ofInt (-1))] h [true] 7 hq rfl ⟨(show xe_c .ge (nI i) (xg 0 h.2.1 3 7) = true by rw [show (xg 0 h.2.1 3 7) = (nI nn) from c0.2.2.2.2.2.2.2.2.2.1.1]; exact c1), trivial⟩ (fun hq => ?_)
      exact xq_ret rfl rfl rfl ⟨rfl, Or.inl ⟨rfl, decide_eq_false (fun ⟨j, y1, y2⟩ => ha j (by omega) y2)⟩⟩
    | false =>
      have z1 : i < nn := nq_gef (a := i) (b := nn) (by omega) (by omega) c1
      refine xq_m 26 [0, 1] [(0, .ref 3), (1, .int (nI i))] [.int (xg 0 h.2.1 10 ((nI i).toNatClampNeg)), .int (xg 0 h.2.1 9 ((nI i).toNatClampNeg)), .ref 8] h [false] 16 hq rfl ⟨(show xe_c .ge (nI i) (xg 0 h.2.1 3 7) = false by rw [show (xg 0 h.2.1 3 7) = (nI nn) from c0.2.2.2.2.2.2.2.2.2.1.1]; exact c1), trivial⟩ (fun hq => ?_)
      rw [show (xg 0 h.2.1 10 ((nI i).toNatClampNeg)) = (nI (NM i).2) from (by rw [show ((nI i).toNatClampNeg) = i from nI_clamp (by omega)]; exact (c0.2.2.2.2.2.2.2.2.2.1.2.2 _ (by omega)).2.1)]
      rw [show (xg 0 h.2.1 9 ((nI i).toNatClampNeg)) = (nI (NM i).1) from (by rw [show ((nI i).toNatClampNeg) = i from nI_clamp (by omega)]; exact (c0.2.2.2.2.2.2.2.2.2.1.2.2 _ (by omega)).1)]
      have n2 := c0.2.2.2.2.2.2.2.2.2.1.2.2 i (by omega)
      refine xq_run hq rfl rfl (lk_q c0.1 tk h2 n2.2.2.2.1 n2.2.2.1 n2.2.2.2.2 hq) ?_
      rintro v3 h_v3 ⟨rfl, rfl⟩
      cases b4 : (decide (wv T (NM i).1 ((NM i).2 - (NM i).1) = tkw T n p)) with
      | true =>
        have db4 := of_decide_eq_true b4
        refine xq_n 33 [] [] [.int (nI i)] h [false] 4 hq rfl ⟨rfl, trivial⟩ (fun hq => ?_)
        exact xq_ret rfl rfl rfl ⟨rfl, Or.inr ⟨i, by omega, rfl, db4, decide_eq_true ⟨i, by omega, db4⟩⟩⟩
      | false =>
        have db4 := of_decide_eq_false b4
        refine xq_n 2 [0, 1] [(0, .ref 3), (1, .int ((nI i) + Int32.ofInt 1))] [] h [true] 5 hq rfl ⟨rfl, trivial⟩ (fun hq => ?_)
        rw [show ((nI i) + Int32.ofInt 1) = nI (i + 1) from nI_1 _]
        exact ih (i + 1) hq (by omega) (fun j hj => by
          by_cases ek : j = i
          · rw [ek]; exact db4
          · exact ha j (by omega))
set_option maxRecDepth 100000 in
set_option maxHeartbeats 4000000 in
theorem tn_q {f p o d : Nat} {h : xh_H} (c0 : cr h T n mem nn NM p o d) (h2 : tkk T n p = 2) (hq : a_rq a_tb h) : xq f xi_X4_toldName xmi_X4_toldName 0 [(0, .ref 3)] [] h (nh_Q h nn (nmW T NM) (tkw T n p)) := by
  refine xq_n 2 [0, 1] [(0, .ref 3), (1, .int (Int32.ofInt 0))] [] h [] 4 hq rfl trivial (fun hq => ?_)
  exact tn_lp c0 h2 f 0 hq (Nat.zero_le _) (fun j hj => absurd hj (Nat.not_lt_zero j))
set_option maxRecDepth 100000 in
set_option maxHeartbeats 4000000 in
theorem nmb_q {f p o d : Nat} {h : xh_H} (hl : lone T n p = true) (c0 : cr h T n mem nn NM p o d) (hq : a_rq a_tb h) : xq f xi_X4_noteMember xmi_X4_noteMember 0 [(0, .ref 3)] [] h (co_Q h T n mem nn NM (kM T n mem p o d)) := by
  have hT : ∀ k, k < n → T k < 256 := fun k hk' => (c0.1.2.2 k hk').1
  have tk := c0.2.1
  have kb := tkk_lt (T := T) (n := n) (p := p) hT
  have n6 := c0.1.2.1
  have o121 := c0.2.2.2.2.2.2.1
  have d13 := c0.2.2.2.2.2.2.2.2.1
  have s6 := tks_le (T := T) (n := n) (p := p)
  have mm := c0.2.2.2.2.1
  have n16 := c0.2.2.2.2.2.2.2.2.2.1.2.1
  have dl := of_decide_eq_true hl
  have gt := tke_gt (T := T) (n := n) (p := p) (by omega)
  have l1 := (tk2 dl.1).2.2 (tks T n p) (by omega) (by omega)
  refine xq_n 4 [0] [(0, .ref 3)] [.ref 8] h [] 4 hq rfl trivial (fun hq => ?_)
  refine xq_run hq rfl rfl (let_q (c0.1) (tk) (by omega) hq) ?_
  rintro v1 h_v1 ⟨rfl, rfl⟩
  cases c2 : xe_c .lt (nI (T (tks T n p) - 97)) 0 with
  | true =>
    have z2 : (T (tks T n p) - 97) < 0 := nq_ltt (a := (T (tks T n p) - 97)) (b := 0) (by omega) (by omega) c2
    omega
  | false =>
    have z2 : (T (tks T n p) - 97) ≥ 0 := nq_ltf (a := (T (tks T n p) - 97)) (b := 0) (by omega) (by omega) c2
    cases c3 : xe_c .lt (nI (T (tks T n p) - 97)) (nI mem) with
    | true =>
      have z3 : (T (tks T n p) - 97) < mem := nq_ltt (a := (T (tks T n p) - 97)) (b := mem) (by omega) (by omega) c3
      refine xq_n 39 [0, 1] [(0, .ref 3), (1, .int (nI (T (tks T n p) - 97)))] [.int (nI (T (tks T n p) - 97)), .int (Int32.ofInt 0), .ref 4] h [false, true] 13 hq rfl ⟨c2, (show xe_c .lt (nI (T (tks T n p) - 97)) (xg 0 h.2.1 3 4) = true by rw [show (xg 0 h.2.1 3 4) = (nI mem) from c0.2.2.2.1]; exact c3), trivial⟩ (fun hq => ?_)
      refine xq_run hq rfl rfl (add_q hq) ?_
      rintro v4 h4 ⟨rfl, g4⟩
      have hq := fx_q g4 hq
      refine xq_n 43 [] [] [.int (Int32.ofInt 1)] h4 [] 3 hq rfl trivial (fun hq => ?_)
      have er : kM T n mem p o d = .inl (p, o, d) := by
        unfold kM
        repeat (first | rw [if_pos (by omega)] | rw [if_neg (by omega)])
        try rfl
      exact xq_ret rfl rfl rfl (co_l er (fx_t (fx_0) (fx_w g4 (fun _ _ => aS_c) (fun _ _ z => z))) rfl ⟨ct_f (S := cS) (L := fN) c0.1 (fx_t (fx_0) (fx_w g4 (fun _ _ => aS_c) (fun _ _ z => z))) rfl (fun _ => rfl), tok_f (tk) g4 (fun _ => rfl), (fx_i g4 rfl).trans (c0.2.2.1), (fx_i g4 rfl).trans (c0.2.2.2.1), c0.2.2.2.2.1, (fx_i g4 rfl).trans (c0.2.2.2.2.2.1), by omega, (fx_i g4 rfl).trans (c0.2.2.2.2.2.2.2.1), by omega, cn_f (S := cS) (L := fN) c0.2.2.2.2.2.2.2.2.2.1 (fx_t (fx_0) (fx_w g4 (fun _ _ => aS_c) (fun _ _ z => z))) rfl (fun _ => rfl) (fun _ => rfl), (fx_i g4 rfl).trans (c0.2.2.2.2.2.2.2.2.2.2)⟩)
    | false =>
      have z3 : (T (tks T n p) - 97) ≥ mem := nq_ltf (a := (T (tks T n p) - 97)) (b := mem) (by omega) (by omega) c3
      refine xq_n 29 [0, 1] [(0, .ref 3), (1, .int (nI (T (tks T n p) - 97)))] [.int (xg 0 h.2.1 8 4), .int (Int32.ofInt 2), .ref 3] h [false, false] 14 hq rfl ⟨c2, (show xe_c .lt (nI (T (tks T n p) - 97)) (xg 0 h.2.1 3 4) = false by rw [show (xg 0 h.2.1 3 4) = (nI mem) from c0.2.2.2.1]; exact c3), trivial⟩ (fun hq => ?_)
      rw [show (xg 0 h.2.1 8 4) = (nI (tks T n p)) from tk.2.1]
      refine xq_run hq rfl rfl (fail_q (k := 2) (pl := (tks T n p)) hq) ?_
      rintro v5 h5 ⟨rfl, g5, f5, l5⟩
      have hq := fx_q g5 hq
      have er : kM T n mem p o d = .inr (2, tks T n p) := by
        unfold kM
        repeat (first | rw [if_pos (by omega)] | rw [if_neg (by omega)])
        try rfl
      exact xq_ret rfl rfl rfl (co_r er (fx_t (fx_0) (fx_w g5 (fun _ _ => fS_c) (fun _ _ z => z))) rfl (f5) (l5) (tok_f (tk) g5 (fun _ => rfl)).2.2.2.2)
set_option maxRecDepth 100000 in
set_option maxHeartbeats 4000000 in
theorem nnm_q {f p o d : Nat} {h : xh_H} (c0 : cr h T n mem nn NM p o d) (hq : a_rq a_tb h) : xq f xi_X4_noteName xmi_X4_noteName 0 [(0, .ref 3)] [] h (co_Q h T n mem nn NM (kN T n nn (nmW T NM) p o d)) := by
  have hT : ∀ k, k < n → T k < 256 := fun k hk' => (c0.1.2.2 k hk').1
  have tk := c0.2.1
  have kb := tkk_lt (T := T) (n := n) (p := p) hT
  have n6 := c0.1.2.1
  have o121 := c0.2.2.2.2.2.2.1
  have d13 := c0.2.2.2.2.2.2.2.2.1
  have s6 := tks_le (T := T) (n := n) (p := p)
  have mm := c0.2.2.2.2.1
  have n16 := c0.2.2.2.2.2.2.2.2.2.1.2.1
  refine xq_n 4 [0] [(0, .ref 3)] [.ref 8] h [] 4 hq rfl trivial (fun hq => ?_)
  refine xq_run hq rfl rfl (nm_q (c0.1) (tk) hq) ?_
  rintro v1 h_v1 ⟨rfl, rfl⟩
  cases b2 : (nmt T n p) with
  | true =>
    have db2 := of_decide_eq_true b2
    refine xq_n 24 [0] [(0, .ref 3)] [.ref 3] h [true] 4 hq rfl ⟨rfl, trivial⟩ (fun hq => ?_)
    refine xq_run hq rfl rfl (tn_q c0 (by omega) hq) ?_
    rintro v3 h_3 ⟨rfl, ⟨rfl, hn3⟩ | ⟨kk3, kl3, rfl, -, hn3⟩⟩
    · skip
      refine xq_n 42 [0, 1] [(0, .ref 3), (1, .int (Int32.ofInt (-1)))] [.int (xg 0 h.2.1 8 4), .int (Int32.ofInt 3), .ref 3] h [false] 11 hq rfl ⟨(by decide), trivial⟩ (fun hq => ?_)
      rw [show (xg 0 h.2.1 8 4) = (nI (tks T n p)) from tk.2.1]
      refine xq_run hq rfl rfl (fail_q (k := 3) (pl := (tks T n p)) hq) ?_
      rintro v4 h4 ⟨rfl, g4, f4, l4⟩
      have hq := fx_q g4 hq
      have er : kN T n nn (nmW T NM) p o d = .inr (3, tks T n p) := by
        unfold kN
        repeat (first | rw [if_pos (by omega)] | rw [if_neg (by omega)] | rw [if_pos b2] | rw [if_neg (by rw [b2]; decide)] | rw [if_pos hn3] | rw [if_neg (by rw [hn3]; decide)])
        try rfl
      exact xq_ret rfl rfl rfl (co_r er (fx_t (fx_0) (fx_w g4 (fun _ _ => fS_c) (fun _ _ z => z))) rfl (f4) (l4) (tok_f (tk) g4 (fun _ => rfl)).2.2.2.2)
    · skip
      cases c5 : xe_c .ne (nI kk3) (Int32.ofInt (-1)) with
      | true =>
        refine xq_n 52 [0, 1] [(0, .ref 3), (1, .int (nI kk3))] [.int (nI kk3), .int (Int32.ofInt 1), .ref 4] h [true] 10 hq rfl ⟨c5, trivial⟩ (fun hq => ?_)
        refine xq_run hq rfl rfl (add_q hq) ?_
        rintro v6 h6 ⟨rfl, g6⟩
        have hq := fx_q g6 hq
        refine xq_n 56 [] [] [.int (Int32.ofInt 1)] h6 [] 3 hq rfl trivial (fun hq => ?_)
        have er : kN T n nn (nmW T NM) p o d = .inl (p, o, d) := by
          unfold kN
          repeat (first | rw [if_pos (by omega)] | rw [if_neg (by omega)] | rw [if_pos b2] | rw [if_neg (by rw [b2]; decide)] | rw [if_pos hn3] | rw [if_neg (by rw [hn3]; decide)])
          try rfl
        exact xq_ret rfl rfl rfl (co_l er (fx_t (fx_0) (fx_w g6 (fun _ _ => aS_c) (fun _ _ z => z))) rfl ⟨ct_f (S := cS) (L := fN) c0.1 (fx_t (fx_0) (fx_w g6 (fun _ _ => aS_c) (fun _ _ z => z))) rfl (fun _ => rfl), tok_f (tk) g6 (fun _ => rfl), (fx_i g6 rfl).trans (c0.2.2.1), (fx_i g6 rfl).trans (c0.2.2.2.1), c0.2.2.2.2.1, (fx_i g6 rfl).trans (c0.2.2.2.2.2.1), by omega, (fx_i g6 rfl).trans (c0.2.2.2.2.2.2.2.1), by omega, cn_f (S := cS) (L := fN) c0.2.2.2.2.2.2.2.2.2.1 (fx_t (fx_0) (fx_w g6 (fun _ _ => aS_c) (fun _ _ z => z))) rfl (fun _ => rfl) (fun _ => rfl), (fx_i g6 rfl).trans (c0.2.2.2.2.2.2.2.2.2.2)⟩)
      | false =>
        exact absurd (xne_j c5) (nIm1 (by omega))
  | false =>
    have db2 := of_decide_eq_false b2
    refine xq_n 19 [0] [(0, .ref 3)] [.int (xg 0 h.2.1 8 4), .int (Int32.ofInt 1), .ref 3] h [false] 8 hq rfl ⟨rfl, trivial⟩ (fun hq => ?_)
    rw [show (xg 0 h.2.1 8 4) = (nI (tks T n p)) from tk.2.1]
    refine xq_run hq rfl rfl (fail_q (k := 1) (pl := (tks T n p)) hq) ?_
    rintro v7 h7 ⟨rfl, g7, f7, l7⟩
    have hq := fx_q g7 hq
    have er : kN T n nn (nmW T NM) p o d = .inr (1, tks T n p) := by
      unfold kN
      repeat (first | rw [if_pos (by omega)] | rw [if_neg (by omega)] | rw [if_pos b2] | rw [if_neg (by rw [b2]; decide)])
      try rfl
    exact xq_ret rfl rfl rfl (co_r er (fx_t (fx_0) (fx_w g7 (fun _ _ => fS_c) (fun _ _ z => z))) rfl (f7) (l7) (tok_f (tk) g7 (fun _ => rfl)).2.2.2.2)
end XRL2
