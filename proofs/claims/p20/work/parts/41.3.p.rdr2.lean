section XRM
variable {T : Nat → Nat} {n mem nn : Nat} {NM : Nat → Nat × Nat}
/-- a list behind its number -/
def qt (T : Nat → Nat) (n p o st num : Nat) (fs : List Nat) : aRs := if num = 0 then .inr (2, st) else if o = 120 then .inr (4, st) else bls T n p (o + 1) fs
def rO (h : xh_H) (T : Nat → Nat) (n mem nn : Nat) (NM : Nat → Nat × Nat) (o d : Nat) (G : Nat → Nat → Prop) (B : Nat × Nat → Prop) (v : Option Value) (h' : xh_H) : Prop := fx cS fN h h' ∧ ((v = some (.int 1) ∧ ∃ p' o', cr h' T n mem nn NM p' o' d ∧ o < o' ∧ o' ≤ 120 ∧ G p' o') ∨ (v = some (.int 0) ∧ ∃ k pl, xg 0 h'.2.1 3 8 = nI k ∧ xg 0 h'.2.1 3 9 = nI pl ∧ B (k, pl)))
section
variable (T : Nat → Nat) (n mem nn : Nat) (NM : Nat → Nat × Nat)
def sOne (f : Nat) : Prop := ∀ (h : xh_H) (p o d : Nat), cr h T n mem nn NM p o d → o ≤ 120 → d ≤ 12 → a_rq a_tb h → xq f xi_X4_readOne xmi_X4_readOne 0 [(0, .ref 3)] [] h (rO h T n mem nn NM o d (fun p' o' => ∀ fs : List Nat, fs.length = d + 1 → Rr T n mem nn (nmW T NM) (bo T n mem nn (nmW T NM) p o fs) (0, p', o', fs)) (fun e => ∀ fs : List Nat, fs.length = d + 1 → Fr T n mem nn (nmW T NM) (bo T n mem nn (nmW T NM) p o fs) e))
def sAll (f : Nat) : Prop := ∀ (h : xh_H) (p o d : Nat), cr h T n mem nn NM p o d → o ≤ 120 → d ≤ 12 → a_rq a_tb h → xq f xi_X4_readAll xmi_X4_readAll 0 [(0, .ref 3)] [] h (rO h T n mem nn NM o d (fun p' o' => ky T n p' 2 = false ∧ ∀ (t : Nat) (fs : List Nat), t ≠ 2 → fs.length = d → Rc T n mem nn (nmW T NM) (1, p, o, t :: fs) (0, p', o', t :: fs)) (fun e => ∀ (t : Nat) (fs : List Nat), t ≠ 2 → fs.length = d → Fl T n mem nn (nmW T NM) (1, p, o, t :: fs) e))
def sRule (f : Nat) : Prop := ∀ (h : xh_H) (p o d : Nat), cr h T n mem nn NM p o d → o ≤ 120 → d ≤ 12 → a_rq a_tb h → xq f xi_X4_readRule xmi_X4_readRule 0 [(0, .ref 3)] [] h (rO h T n mem nn NM o d (fun p' o' => ky T n p' 2 = false ∧ ky T n p' 3 = false ∧ ∀ (t : Nat) (fs : List Nat), t ≠ 2 → fs.length = d → Rc T n mem nn (nmW T NM) (1, p, o, t :: fs) (0, p', o', t :: fs)) (fun e => ∀ (t : Nat) (fs : List Nat), t ≠ 2 → fs.length = d → Fl T n mem nn (nmW T NM) (1, p, o, t :: fs) e))
def sItem (f : Nat) : Prop := ∀ (h : xh_H) (p o d : Nat), cr h T n mem nn NM p o d → o ≤ 120 → d ≤ 12 → a_rq a_tb h → xq f xi_X4_readItem xmi_X4_readItem 0 [(0, .ref 3)] [] h (rO h T n mem nn NM o d (fun p' o' => ∀ fs : List Nat, fs.length = d → Rc T n mem nn (nmW T NM) (1, p, o, 2 :: fs) (0, p', o', 2 :: fs)) (fun e => ∀ fs : List Nat, fs.length = d → Fl T n mem nn (nmW T NM) (1, p, o, 2 :: fs) e))
def sQuota (f : Nat) : Prop := ∀ (h : xh_H) (p o d st num : Nat), cr h T n mem nn NM p o d → o ≤ 120 → d ≤ 12 → num ≤ 999 → a_rq a_tb h → xq f xi_X4_readQuota xmi_X4_readQuota 0 [(0, .ref 3), (1, .int (nI st)), (2, .int (nI num))] [] h (rO h T n mem nn NM o d (fun p' o' => ∀ fs : List Nat, fs.length = d + 1 → Rr T n mem nn (nmW T NM) (qt T n p o st num fs) (0, p', o', fs)) (fun e => ∀ fs : List Nat, fs.length = d + 1 → Fr T n mem nn (nmW T NM) (qt T n p o st num fs) e))
end
theorem nI_dec1 {a : Nat} (h : 1 ≤ a) : nI a - Int32.ofInt 1 = nI (a - 1) := nI_sub (b := 1) h
theorem bgO {p o t : Nat} {fs : List Nat} {NW : Nat → Nat} (ht : t ≠ 2) : stp T n mem nn NW (1, p, o, t :: fs) = bo T n mem nn NW p o (t :: fs) := by
  show (if t :: fs = [] then _ else if 1 = 1 then bg T n mem nn NW p o (t :: fs) else _) = _
  rw [if_neg (by intro z; cases z), if_pos rfl]
  unfold bg
  rw [if_neg]
  rintro ⟨e, -⟩
  exact ht (Option.some.inj e)
theorem bgI {p o : Nat} {fs : List Nat} {NW : Nat → Nat} : stp T n mem nn NW (1, p, o, 2 :: fs) = if tkk T n p = 3 then bi T n mem nn NW p o (2 :: fs) else bo T n mem nn NW p o (2 :: fs) := by
  show (if 2 :: fs = [] then _ else if 1 = 1 then bg T n mem nn NW p o (2 :: fs) else _) = _
  rw [if_neg (by intro z; cases z), if_pos rfl]
  unfold bg
  by_cases h : tkk T n p = 3
  · rw [if_pos ⟨rfl, h⟩, if_pos h]
  · rw [if_neg (fun z => h z.2), if_neg h]
theorem enE {p o t : Nat} {fs : List Nat} {NW : Nat → Nat} : stp T n mem nn NW (0, p, o, t :: fs) = en T n p o (t :: fs) := by
  show (if t :: fs = [] then _ else if 0 = 1 then _ else en T n p o (t :: fs)) = _
  rw [if_neg (by intro z; cases z), if_neg (by decide)]
set_option maxRecDepth 100000 in
set_option maxHeartbeats 4000000 in
theorem one_s {f : Nat} (iq : sQuota T n mem nn NM f) (ir : sRule T n mem nn NM f) : sOne T n mem nn NM (f + 1) := by
  intro h p o d c0 o6 d12 hq
  have hT : ∀ k, k < n → T k < 256 := fun k hk' => (c0.1.2.2 k hk').1
  have kb := tkk_lt (T := T) (n := n) (p := p) hT
  have n6 := c0.1.2.1
  have s6 := tks_le (T := T) (n := n) (p := p)
  have mm := c0.2.2.2.2.1
  have n16 := c0.2.2.2.2.2.2.2.2.2.1.2.1
  have t9 : tkn T n p ≤ 999 := vf_999
  cases c1 : xe_c .ne (nI (tkk T n p)) (Int32.ofInt 3) with
  | true =>
    have z1 : (tkk T n p) ≠ 3 := nq_net (a := (tkk T n p)) (b := 3) (by omega) (by omega) c1
    cases c2 : xe_c .ne (nI (tkk T n p)) 40 with
    | true =>
      have z2 : (tkk T n p) ≠ 40 := nq_net (a := (tkk T n p)) (b := 40) (by omega) (by omega) c2
      refine xq_m 108 [0, 1] [(0, .ref 3), (1, .int (xg 0 h.2.1 8 4))] [.ref 8] h [true, true] 18 hq rfl ⟨(show xe_c .ne (xg 0 h.2.1 8 3) (Int32.ofInt 3) = true by rw [show (xg 0 h.2.1 8 3) = (nI (tkk T n p)) from c0.2.1.1]; exact c1), (show xe_c .ne (xg 0 h.2.1 8 3) 40 = true by rw [show (xg 0 h.2.1 8 3) = (nI (tkk T n p)) from c0.2.1.1]; exact c2), trivial⟩ (fun hq => ?_)
      rw [show (xg 0 h.2.1 8 4) = (nI (tks T n p)) from c0.2.1.2.1]
      refine xq_run hq rfl rfl (lo_q (c0.1) (c0.2.1) hq) ?_
      rintro v3 h_v3 ⟨rfl, rfl⟩
      cases b4 : (lone T n p) with
      | true =>
        have db4 := of_decide_eq_true b4
        refine xq_n 115 [0, 1] [(0, .ref 3), (1, .int (nI (tks T n p)))] [.ref 3] h [false] 4 hq rfl ⟨rfl, trivial⟩ (fun hq => ?_)
        refine xq_run hq rfl rfl (nmb_q b4 c0 hq) ?_
        rintro v5 h5 ⟨g5, l5, q5⟩
        have hq := fx_q g5 hq
        by_cases w5_0 : mem ≤ T (tks T n p) - 97
        · obtain ⟨rfl, f5, y5, z5, e65, e5⟩ := q5 2 (tks T n p) (by unfold kM; rw [if_pos w5_0])
          refine xq_n 149 [0, 1, 2] [(0, .ref 3), (1, .int (nI (tks T n p))), (2, .int (Int32.ofInt 0))] [.ref 8] h5 [true] 7 hq rfl ⟨(by decide), trivial⟩ (fun hq => ?_)
          refine xq_run hq rfl rfl (adv_q hq hT (ct_f (S := cS) (L := fN) (c0.1) (g5) rfl (fun _ => rfl)) ((fx_i g5 rfl).trans (c0.2.2.1)) e5 e65) ?_
          rintro v6 h6 ⟨rfl, g6, -⟩
          have hq := fx_q g6 hq
          refine xq_n 153 [] [] [.int (Int32.ofInt 0)] h6 [] 3 hq rfl trivial (fun hq => ?_)
          refine xq_ret rfl rfl rfl ⟨fx_t (fx_t (fx_0) (g5)) (fx_w g6 (fun _ _ => sS_c) (fun _ _ z => z)), Or.inr ⟨rfl, 2, tks T n p, (fx_i g6 rfl).trans (f5), (fx_i g6 rfl).trans (y5), fun fs hf => ?_⟩⟩
          refine Or.inl ?_
          unfold bo
          repeat (first | rw [if_pos (by omega)] | rw [if_neg (by omega)] | rw [if_pos b4] | rw [if_neg b4] | rw [if_neg (by rw [b4]; decide)] | rw [if_pos w5_0] | rw [if_neg w5_0] | rw [if_neg (by rw [w5_0]; decide)])
          try (exfalso; omega)
        · skip
          obtain ⟨rfl, c5⟩ := l5 (p) (o) (d) (by unfold kM; rw [if_neg w5_0])
          have kb5 := tkk_lt (T := T) (n := n) (p := p) hT
          have s65 := tks_le (T := T) (n := n) (p := p)
          refine xq_n 133 [0, 1] [(0, .ref 3), (1, .int (nI (tks T n p)))] [.int (nI (tks T n p)), .ref 3] h5 [false] 6 hq rfl ⟨(by decide), trivial⟩ (fun hq => ?_)
          refine xq_run hq rfl rfl (co_q (st := (tks T n p)) (by omega) c5 hq) ?_
          rintro v7 h7 ⟨g7, l7, q7⟩
          have hq := fx_q g7 hq
          by_cases w7_0 : 120 ≤ o
          · obtain ⟨rfl, f7, y7, z7, e67, e7⟩ := q7 4 ((tks T n p)) (by unfold kC; rw [if_pos w7_0])
            refine xq_n 149 [0, 1, 2] [(0, .ref 3), (1, .int (nI (tks T n p))), (2, .int (Int32.ofInt 0))] [.ref 8] h7 [true] 7 hq rfl ⟨(by decide), trivial⟩ (fun hq => ?_)
            refine xq_run hq rfl rfl (adv_q hq hT (ct_f (S := cS) (L := fN) (c5.1) (g7) rfl (fun _ => rfl)) ((fx_i g7 rfl).trans (c5.2.2.1)) e7 e67) ?_
            rintro v8 h8 ⟨rfl, g8, -⟩
            have hq := fx_q g8 hq
            refine xq_n 153 [] [] [.int (Int32.ofInt 0)] h8 [] 3 hq rfl trivial (fun hq => ?_)
            refine xq_ret rfl rfl rfl ⟨fx_t (fx_t (fx_t (fx_0) (g5)) (g7)) (fx_w g8 (fun _ _ => sS_c) (fun _ _ z => z)), Or.inr ⟨rfl, 4, (tks T n p), (fx_i g8 rfl).trans (f7), (fx_i g8 rfl).trans (y7), fun fs hf => ?_⟩⟩
            refine Or.inl ?_
            unfold bo
            repeat (first | rw [if_pos (by omega)] | rw [if_neg (by omega)] | rw [if_pos b4] | rw [if_neg b4] | rw [if_neg (by rw [b4]; decide)] | rw [if_pos w5_0] | rw [if_neg w5_0] | rw [if_neg (by rw [w5_0]; decide)] | rw [if_pos w7_0] | rw [if_neg w7_0] | rw [if_neg (by rw [w7_0]; decide)])
            try (exfalso; omega)
          · skip
            obtain ⟨rfl, c7⟩ := l7 (p) (o + 1) (d) (by unfold kC; rw [if_neg w7_0])
            have kb7 := tkk_lt (T := T) (n := n) (p := p) hT
            have s67 := tks_le (T := T) (n := n) (p := p)
            refine xq_n 149 [0, 1, 2] [(0, .ref 3), (1, .int (nI (tks T n p))), (2, .int (Int32.ofInt 1))] [.ref 8] h7 [false] 8 hq rfl ⟨(by decide), trivial⟩ (fun hq => ?_)
            have nz9 : tkk T n p ≠ 0 := by omega
            have le9 := tke_le nz9
            refine xq_run hq rfl rfl (adv_q hq hT (c7.1) (c7.2.2.1) ((c7.2.1.2.2.1 (by omega)).1) (by omega)) ?_
            rintro v9 h9 ⟨rfl, g9, t9⟩
            have hq := fx_q g9 hq
            have kb9 := tkk_lt (T := T) (n := n) (p := tke T n p) hT
            have s69 := tks_le (T := T) (n := n) (p := tke T n p)
            refine xq_n 153 [] [] [.int (Int32.ofInt 1)] h9 [] 3 hq rfl trivial (fun hq => ?_)
            refine xq_ret rfl rfl rfl ⟨fx_t (fx_t (fx_t (fx_0) (g5)) (g7)) (fx_w g9 (fun _ _ => sS_c) (fun _ _ z => z)), Or.inl ⟨rfl, tke T n p, (o + 1), ⟨ct_f (S := cS) (L := fN) (c7.1) (fx_w g9 (fun _ _ => sS_c) (fun _ _ z => z)) rfl (fun _ => rfl), t9, (fx_i g9 rfl).trans (c7.2.2.1), (fx_i g9 rfl).trans (c7.2.2.2.1), c0.2.2.2.2.1, (fx_i g9 rfl).trans (c7.2.2.2.2.2.1), by omega, (fx_i g9 rfl).trans (c7.2.2.2.2.2.2.2.1), by omega, cn_f (S := cS) (L := fN) (c7.2.2.2.2.2.2.2.2.2.1) (fx_w g9 (fun _ _ => sS_c) (fun _ _ z => z)) rfl (fun _ => rfl) (fun _ => rfl), (fx_i g9 rfl).trans (c7.2.2.2.2.2.2.2.2.2.2)⟩, by omega, by omega, fun fs hf => ?_⟩⟩
            refine ⟨(0, tke T n p, o + 1, fs), ?_, Rc_0⟩
            unfold bo
            repeat (first | rw [if_pos (by omega)] | rw [if_neg (by omega)] | rw [if_pos b4] | rw [if_neg b4] | rw [if_neg (by rw [b4]; decide)] | rw [if_pos w5_0] | rw [if_neg w5_0] | rw [if_neg (by rw [w5_0]; decide)] | rw [if_pos w7_0] | rw [if_neg w7_0] | rw [if_neg (by rw [w7_0]; decide)])
      | false =>
        have db4 := of_decide_eq_false b4
        refine xq_n 125 [0, 1] [(0, .ref 3), (1, .int (nI (tks T n p)))] [.ref 3] h [true] 4 hq rfl ⟨rfl, trivial⟩ (fun hq => ?_)
        refine xq_run hq rfl rfl (nnm_q c0 hq) ?_
        rintro v10 h10 ⟨g10, l10, q10⟩
        have hq := fx_q g10 hq
        by_cases w10_0 : nmt T n p = false
        · obtain ⟨rfl, f10, y10, z10, e610, e10⟩ := q10 1 (tks T n p) (by unfold kN; rw [if_pos w10_0])
          refine xq_n 149 [0, 1, 2] [(0, .ref 3), (1, .int (nI (tks T n p))), (2, .int (Int32.ofInt 0))] [.ref 8] h10 [true] 7 hq rfl ⟨(by decide), trivial⟩ (fun hq => ?_)
          refine xq_run hq rfl rfl (adv_q hq hT (ct_f (S := cS) (L := fN) (c0.1) (g10) rfl (fun _ => rfl)) ((fx_i g10 rfl).trans (c0.2.2.1)) e10 e610) ?_
          rintro v11 h11 ⟨rfl, g11, -⟩
          have hq := fx_q g11 hq
          refine xq_n 153 [] [] [.int (Int32.ofInt 0)] h11 [] 3 hq rfl trivial (fun hq => ?_)
          refine xq_ret rfl rfl rfl ⟨fx_t (fx_t (fx_0) (g10)) (fx_w g11 (fun _ _ => sS_c) (fun _ _ z => z)), Or.inr ⟨rfl, 1, tks T n p, (fx_i g11 rfl).trans (f10), (fx_i g11 rfl).trans (y10), fun fs hf => ?_⟩⟩
          refine Or.inl ?_
          unfold bo
          repeat (first | rw [if_pos (by omega)] | rw [if_neg (by omega)] | rw [if_pos b4] | rw [if_neg b4] | rw [if_neg (by rw [b4]; decide)] | rw [if_pos w10_0] | rw [if_neg w10_0] | rw [if_neg (by rw [w10_0]; decide)])
          try (exfalso; omega)
        · skip
          have w10_0t : nmt T n p = true := eq_true_of_ne_false w10_0
          have dw10_0 := of_decide_eq_true w10_0t
          by_cases w10_1 : hasn nn (nmW T NM) (tkw T n p) = false
          · obtain ⟨rfl, f10, y10, z10, e610, e10⟩ := q10 3 (tks T n p) (by unfold kN; rw [if_neg w10_0, if_pos w10_1])
            refine xq_n 149 [0, 1, 2] [(0, .ref 3), (1, .int (nI (tks T n p))), (2, .int (Int32.ofInt 0))] [.ref 8] h10 [true] 7 hq rfl ⟨(by decide), trivial⟩ (fun hq => ?_)
            refine xq_run hq rfl rfl (adv_q hq hT (ct_f (S := cS) (L := fN) (c0.1) (g10) rfl (fun _ => rfl)) ((fx_i g10 rfl).trans (c0.2.2.1)) e10 e610) ?_
            rintro v12 h12 ⟨rfl, g12, -⟩
            have hq := fx_q g12 hq
            refine xq_n 153 [] [] [.int (Int32.ofInt 0)] h12 [] 3 hq rfl trivial (fun hq => ?_)
            refine xq_ret rfl rfl rfl ⟨fx_t (fx_t (fx_0) (g10)) (fx_w g12 (fun _ _ => sS_c) (fun _ _ z => z)), Or.inr ⟨rfl, 3, tks T n p, (fx_i g12 rfl).trans (f10), (fx_i g12 rfl).trans (y10), fun fs hf => ?_⟩⟩
            refine Or.inl ?_
            unfold bo
            repeat (first | rw [if_pos (by omega)] | rw [if_neg (by omega)] | rw [if_pos b4] | rw [if_neg b4] | rw [if_neg (by rw [b4]; decide)] | rw [if_pos w10_0] | rw [if_neg w10_0] | rw [if_neg (by rw [w10_0]; decide)] | rw [if_pos w10_1] | rw [if_neg w10_1] | rw [if_neg (by rw [w10_1]; decide)] | rw [if_pos w10_0t] | rw [if_neg w10_0t] | rw [if_neg (by rw [w10_0t]; decide)])
            try (exfalso; omega)
          · skip
            have w10_1t : hasn nn (nmW T NM) (tkw T n p) = true := eq_true_of_ne_false w10_1
            obtain ⟨rfl, c10⟩ := l10 (p) (o) (d) (by unfold kN; rw [if_neg w10_0, if_neg w10_1])
            have kb10 := tkk_lt (T := T) (n := n) (p := p) hT
            have s610 := tks_le (T := T) (n := n) (p := p)
            refine xq_n 133 [0, 1] [(0, .ref 3), (1, .int (nI (tks T n p)))] [.int (nI (tks T n p)), .ref 3] h10 [false] 5 hq rfl ⟨(by decide), trivial⟩ (fun hq => ?_)
            refine xq_run hq rfl rfl (co_q (st := (tks T n p)) (by omega) c10 hq) ?_
            rintro v13 h13 ⟨g13, l13, q13⟩
            have hq := fx_q g13 hq
            by_cases w13_0 : 120 ≤ o
            · obtain ⟨rfl, f13, y13, z13, e613, e13⟩ := q13 4 ((tks T n p)) (by unfold kC; rw [if_pos w13_0])
              refine xq_n 149 [0, 1, 2] [(0, .ref 3), (1, .int (nI (tks T n p))), (2, .int (Int32.ofInt 0))] [.ref 8] h13 [true] 7 hq rfl ⟨(by decide), trivial⟩ (fun hq => ?_)
              refine xq_run hq rfl rfl (adv_q hq hT (ct_f (S := cS) (L := fN) (c10.1) (g13) rfl (fun _ => rfl)) ((fx_i g13 rfl).trans (c10.2.2.1)) e13 e613) ?_
              rintro v14 h14 ⟨rfl, g14, -⟩
              have hq := fx_q g14 hq
              refine xq_n 153 [] [] [.int (Int32.ofInt 0)] h14 [] 3 hq rfl trivial (fun hq => ?_)
              refine xq_ret rfl rfl rfl ⟨fx_t (fx_t (fx_t (fx_0) (g10)) (g13)) (fx_w g14 (fun _ _ => sS_c) (fun _ _ z => z)), Or.inr ⟨rfl, 4, (tks T n p), (fx_i g14 rfl).trans (f13), (fx_i g14 rfl).trans (y13), fun fs hf => ?_⟩⟩
              refine Or.inl ?_
              unfold bo
              repeat (first | rw [if_pos (by omega)] | rw [if_neg (by omega)] | rw [if_pos b4] | rw [if_neg b4] | rw [if_neg (by rw [b4]; decide)] | rw [if_pos w10_0] | rw [if_neg w10_0] | rw [if_neg (by rw [w10_0]; decide)] | rw [if_pos w10_1] | rw [if_neg w10_1] | rw [if_neg (by rw [w10_1]; decide)] | rw [if_pos w10_0t] | rw [if_neg w10_0t] | rw [if_neg (by rw [w10_0t]; decide)] | rw [if_pos w10_1t] | rw [if_neg w10_1t] | rw [if_neg (by rw [w10_1t]; decide)] | rw [if_pos w13_0] | rw [if_neg w13_0] | rw [if_neg (by rw [w13_0]; decide)])
              try (exfalso; omega)
            · skip
              obtain ⟨rfl, c13⟩ := l13 (p) (o + 1) (d) (by unfold kC; rw [if_neg w13_0])
              have kb13 := tkk_lt (T := T) (n := n) (p := p) hT
              have s613 := tks_le (T := T) (n := n) (p := p)
              refine xq_n 149 [0, 1, 2] [(0, .ref 3), (1, .int (nI (tks T n p))), (2, .int (Int32.ofInt 1))] [.ref 8] h13 [false] 8 hq rfl ⟨(by decide), trivial⟩ (fun hq => ?_)
              have nz15 : tkk T n p ≠ 0 := by omega
              have le15 := tke_le nz15
              refine xq_run hq rfl rfl (adv_q hq hT (c13.1) (c13.2.2.1) ((c13.2.1.2.2.1 (by omega)).1) (by omega)) ?_
              rintro v15 h15 ⟨rfl, g15, t15⟩
              have hq := fx_q g15 hq
              have kb15 := tkk_lt (T := T) (n := n) (p := tke T n p) hT
              have s615 := tks_le (T := T) (n := n) (p := tke T n p)
              refine xq_n 153 [] [] [.int (Int32.ofInt 1)] h15 [] 3 hq rfl trivial (fun hq => ?_)
              refine xq_ret rfl rfl rfl ⟨fx_t (fx_t (fx_t (fx_0) (g10)) (g13)) (fx_w g15 (fun _ _ => sS_c) (fun _ _ z => z)), Or.inl ⟨rfl, tke T n p, (o + 1), ⟨ct_f (S := cS) (L := fN) (c13.1) (fx_w g15 (fun _ _ => sS_c) (fun _ _ z => z)) rfl (fun _ => rfl), t15, (fx_i g15 rfl).trans (c13.2.2.1), (fx_i g15 rfl).trans (c13.2.2.2.1), c0.2.2.2.2.1, (fx_i g15 rfl).trans (c13.2.2.2.2.2.1), by omega, (fx_i g15 rfl).trans (c13.2.2.2.2.2.2.2.1), by omega, cn_f (S := cS) (L := fN) (c13.2.2.2.2.2.2.2.2.2.1) (fx_w g15 (fun _ _ => sS_c) (fun _ _ z => z)) rfl (fun _ => rfl) (fun _ => rfl), (fx_i g15 rfl).trans (c13.2.2.2.2.2.2.2.2.2.2)⟩, by omega, by omega, fun fs hf => ?_⟩⟩
              refine ⟨(0, tke T n p, o + 1, fs), ?_, Rc_0⟩
              unfold bo
              repeat (first | rw [if_pos (by omega)] | rw [if_neg (by omega)] | rw [if_pos b4] | rw [if_neg b4] | rw [if_neg (by rw [b4]; decide)] | rw [if_pos w10_0] | rw [if_neg w10_0] | rw [if_neg (by rw [w10_0]; decide)] | rw [if_pos w10_1] | rw [if_neg w10_1] | rw [if_neg (by rw [w10_1]; decide)] | rw [if_pos w10_0t] | rw [if_neg w10_0t] | rw [if_neg (by rw [w10_0t]; decide)] | rw [if_pos w10_1t] | rw [if_neg w10_1t] | rw [if_neg (by rw [w10_1t]; decide)] | rw [if_pos w13_0] | rw [if_neg w13_0] | rw [if_neg (by rw [w13_0]; decide)])
    | false =>
      have z2 : (tkk T n p) = 40 := nq_nef (a := (tkk T n p)) (b := 40) (by omega) (by omega) c2
      refine xq_m 55 [0, 1] [(0, .ref 3), (1, .int (xg 0 h.2.1 8 4))] [.int (xg 0 h.2.1 8 4), .ref 3] h [true, false] 18 hq rfl ⟨(show xe_c .ne (xg 0 h.2.1 8 3) (Int32.ofInt 3) = true by rw [show (xg 0 h.2.1 8 3) = (nI (tkk T n p)) from c0.2.1.1]; exact c1), (show xe_c .ne (xg 0 h.2.1 8 3) 40 = false by rw [show (xg 0 h.2.1 8 3) = (nI (tkk T n p)) from c0.2.1.1]; exact c2), trivial⟩ (fun hq => ?_)
      rw [show (xg 0 h.2.1 8 4) = (nI (tks T n p)) from c0.2.1.2.1]
      refine xq_run hq rfl rfl (co_q (st := (tks T n p)) (by omega) c0 hq) ?_
      rintro v16 h16 ⟨g16, l16, q16⟩
      have hq := fx_q g16 hq
      by_cases w16_0 : 120 ≤ o
      · obtain ⟨rfl, f16, y16, z16, e616, e16⟩ := q16 4 ((tks T n p)) (by unfold kC; rw [if_pos w16_0])
        refine xq_n 103 [] [] [.int (Int32.ofInt 0)] (xh_ui h16 3 6 ((xg 0 h16.2.1 3 6) - (Int32.ofInt 1))) [true] 12 hq rfl ⟨(by decide), trivial⟩ (fun _ => ?_)
        have hq : a_rq a_tb (xh_ui h16 3 6 ((xg 0 h16.2.1 3 6) - (Int32.ofInt 1))) := a_rq_ui hq
        refine xq_ret rfl rfl rfl ⟨fx_ui (fx_t (fx_0) (g16)) rfl, Or.inr ⟨rfl, 4, (tks T n p), (gx_k (by decide)).trans (f16), (gx_k (by decide)).trans (y16), fun fs hf => ?_⟩⟩
        refine Or.inl ?_
        unfold bo
        repeat (first | rw [if_pos (by omega)] | rw [if_neg (by omega)] | rw [if_pos w16_0] | rw [if_neg w16_0] | rw [if_neg (by rw [w16_0]; decide)])
        try (exfalso; omega)
      · skip
        obtain ⟨rfl, c16⟩ := l16 (p) (o + 1) (d) (by unfold kC; rw [if_neg w16_0])
        have kb16 := tkk_lt (T := T) (n := n) (p := p) hT
        have s616 := tks_le (T := T) (n := n) (p := p)
        refine xq_n 64 [0, 1] [(0, .ref 3), (1, .int (nI (tks T n p)))] [.int 40, .ref 3] h16 [false] 5 hq rfl ⟨(by decide), trivial⟩ (fun hq => ?_)
        refine xq_run hq rfl rfl (to_q (c := 40) (by decide) (by decide) c16 hq) ?_
        rintro v17 h17 ⟨g17, l17, q17⟩
        have hq := fx_q g17 hq
        by_cases w17_0 : tkk T n p ≠ 40
        · obtain ⟨rfl, f17, y17, z17, e617, e17⟩ := q17 1 (tks T n p) (by unfold kO; rw [if_pos w17_0])
          refine xq_n 103 [] [] [.int (Int32.ofInt 0)] (xh_ui h17 3 6 ((xg 0 h17.2.1 3 6) - (Int32.ofInt 1))) [true] 12 hq rfl ⟨(by decide), trivial⟩ (fun _ => ?_)
          have hq : a_rq a_tb (xh_ui h17 3 6 ((xg 0 h17.2.1 3 6) - (Int32.ofInt 1))) := a_rq_ui hq
          refine xq_ret rfl rfl rfl ⟨fx_ui (fx_t (fx_t (fx_0) (g16)) (g17)) rfl, Or.inr ⟨rfl, 1, tks T n p, (gx_k (by decide)).trans (f17), (gx_k (by decide)).trans (y17), fun fs hf => ?_⟩⟩
          refine Or.inl ?_
          unfold bo
          repeat (first | rw [if_pos (by omega)] | rw [if_neg (by omega)] | rw [if_pos w16_0] | rw [if_neg w16_0] | rw [if_neg (by rw [w16_0]; decide)] | rw [if_pos w17_0] | rw [if_neg w17_0] | rw [if_neg (by rw [w17_0]; decide)])
          try (exfalso; omega)
        · skip
          by_cases w17_1 : 12 ≤ d
          · obtain ⟨rfl, f17, y17, z17, e617, e17⟩ := q17 4 (tks T n p) (by unfold kO; rw [if_neg w17_0, if_pos w17_1])
            refine xq_n 103 [] [] [.int (Int32.ofInt 0)] (xh_ui h17 3 6 ((xg 0 h17.2.1 3 6) - (Int32.ofInt 1))) [true] 12 hq rfl ⟨(by decide), trivial⟩ (fun _ => ?_)
            have hq : a_rq a_tb (xh_ui h17 3 6 ((xg 0 h17.2.1 3 6) - (Int32.ofInt 1))) := a_rq_ui hq
            refine xq_ret rfl rfl rfl ⟨fx_ui (fx_t (fx_t (fx_0) (g16)) (g17)) rfl, Or.inr ⟨rfl, 4, tks T n p, (gx_k (by decide)).trans (f17), (gx_k (by decide)).trans (y17), fun fs hf => ?_⟩⟩
            refine Or.inl ?_
            unfold bo
            repeat (first | rw [if_pos (by omega)] | rw [if_neg (by omega)] | rw [if_pos w16_0] | rw [if_neg w16_0] | rw [if_neg (by rw [w16_0]; decide)] | rw [if_pos w17_0] | rw [if_neg w17_0] | rw [if_neg (by rw [w17_0]; decide)] | rw [if_pos w17_1] | rw [if_neg w17_1] | rw [if_neg (by rw [w17_1]; decide)])
            try (exfalso; omega)
          · skip
            obtain ⟨rfl, c17⟩ := l17 (tke T n p) ((o + 1)) (d + 1) (by unfold kO; rw [if_neg w17_0, if_neg w17_1])
            have kb17 := tkk_lt (T := T) (n := n) (p := tke T n p) hT
            have s617 := tks_le (T := T) (n := n) (p := tke T n p)
            refine xq_n 71 [0, 1] [(0, .ref 3), (1, .int (nI (tks T n p)))] [.ref 3] h17 [false] 4 hq rfl ⟨(by decide), trivial⟩ (fun hq => ?_)
            refine xq_run hq rfl rfl (ir _ _ _ _ c17 (by omega) (by omega) hq) ?_
            rintro v18 h18 ⟨g18, ⟨rfl, pq18, oq18, c18, lt18, le18, G18⟩ | ⟨rfl, kq18, lq18, f18, y18, B18⟩⟩
            · have hq := fx_q g18 hq
              have kb18 := tkk_lt (T := T) (n := n) (p := pq18) hT
              have s618 := tks_le (T := T) (n := n) (p := pq18)
              refine xq_n 80 [0, 1] [(0, .ref 3), (1, .int (nI (tks T n p)))] [.int 41, .ref 3] h18 [false] 5 hq rfl ⟨(by decide), trivial⟩ (fun hq => ?_)
              refine xq_run hq rfl rfl (ts_q (c := 41) (by decide) (by decide) c18 hq) ?_
              rintro v19 h19 ⟨g19, l19, q19⟩
              have hq := fx_q g19 hq
              by_cases w19_0 : tkk T n pq18 ≠ 41
              · obtain ⟨rfl, f19, y19, z19, e619, e19⟩ := q19 1 (tks T n pq18) (by unfold kS; rw [if_pos w19_0])
                refine xq_n 103 [] [] [.int (Int32.ofInt 0)] (xh_ui h19 3 6 ((xg 0 h19.2.1 3 6) - (Int32.ofInt 1))) [true] 12 hq rfl ⟨(by decide), trivial⟩ (fun _ => ?_)
                have hq : a_rq a_tb (xh_ui h19 3 6 ((xg 0 h19.2.1 3 6) - (Int32.ofInt 1))) := a_rq_ui hq
                refine xq_ret rfl rfl rfl ⟨fx_ui (fx_t (fx_t (fx_t (fx_t (fx_0) (g16)) (g17)) (g18)) (g19)) rfl, Or.inr ⟨rfl, 1, tks T n pq18, (gx_k (by decide)).trans (f19), (gx_k (by decide)).trans (y19), fun fs hf => ?_⟩⟩
                refine Or.inr ⟨(1, tke T n p, o + 1, 1 :: fs), by unfold bo; repeat (first | rw [if_pos (by omega)] | rw [if_neg (by omega)] | rw [if_pos w16_0] | rw [if_neg w16_0] | rw [if_neg (by rw [w16_0]; decide)] | rw [if_pos w17_0] | rw [if_neg w17_0] | rw [if_neg (by rw [w17_0]; decide)] | rw [if_pos w17_1] | rw [if_neg w17_1] | rw [if_neg (by rw [w17_1]; decide)] | rw [if_pos w19_0] | rw [if_neg w19_0] | rw [if_neg (by rw [w19_0]; decide)]), Fl_t (G18.2.2 1 fs (by decide) hf) (Fl_1 ?_)⟩
                rw [enE]
                unfold en
                rw [if_neg (by intro z; cases z), if_neg (by rw [G18.1]; decide), if_neg (by rw [G18.2.1]; decide), if_neg (by intro z; cases z), if_neg (by omega)]
              · skip
                obtain ⟨rfl, c19⟩ := l19 (tke T n pq18) (oq18) ((d + 1)) (by unfold kS; rw [if_neg w19_0])
                have kb19 := tkk_lt (T := T) (n := n) (p := tke T n pq18) hT
                have s619 := tks_le (T := T) (n := n) (p := tke T n pq18)
                refine xq_n 103 [] [] [.int (Int32.ofInt 1)] (xh_ui h19 3 6 ((xg 0 h19.2.1 3 6) - (Int32.ofInt 1))) [false] 13 hq rfl ⟨(by decide), trivial⟩ (fun _ => ?_)
                rw [show (xg 0 h19.2.1 3 6) = (nI (d + 1)) from c19.2.2.2.2.2.2.2.1]
                rw [show ((nI (d + 1)) - (Int32.ofInt 1)) = nI ((d + 1) - 1) from nI_dec1 (by omega)]
                rw [show (nI ((d + 1) - 1)) = nI d from (by rw [Nat.add_sub_cancel])]
                have hq : a_rq a_tb (xh_ui h19 3 6 (nI d)) := a_rq_ui hq
                refine xq_ret rfl rfl rfl ⟨fx_ui (fx_t (fx_t (fx_t (fx_t (fx_0) (g16)) (g17)) (g18)) (g19)) rfl, Or.inl ⟨rfl, tke T n pq18, oq18, ⟨ct_f (S := cS) (L := fN) (c19.1) (fx_ui fx_0 rfl) rfl (fun _ => rfl), tok_f (S := fun c k => Nat.beq c 3) (L := fN) (c19.2.1) (fx_ui fx_0 rfl) (fun _ => rfl), (gx_o (by decide)).trans (c19.2.2.1), (gx_k (by decide)).trans (c19.2.2.2.1), c0.2.2.2.2.1, (gx_k (by decide)).trans (c19.2.2.2.2.2.1), by omega, gx_s, by omega, cn_f (S := cS) (L := fN) (c19.2.2.2.2.2.2.2.2.2.1) (fx_ui fx_0 rfl) rfl (fun _ => rfl) (fun _ => rfl), (gx_k (by decide)).trans (c19.2.2.2.2.2.2.2.2.2.2)⟩, by omega, by omega, fun fs hf => ?_⟩⟩
                refine ⟨(1, tke T n p, o + 1, 1 :: fs), by unfold bo; repeat (first | rw [if_pos (by omega)] | rw [if_neg (by omega)] | rw [if_pos w16_0] | rw [if_neg w16_0] | rw [if_neg (by rw [w16_0]; decide)] | rw [if_pos w17_0] | rw [if_neg w17_0] | rw [if_neg (by rw [w17_0]; decide)] | rw [if_pos w17_1] | rw [if_neg w17_1] | rw [if_neg (by rw [w17_1]; decide)] | rw [if_pos w19_0] | rw [if_neg w19_0] | rw [if_neg (by rw [w19_0]; decide)]), Rc_t (G18.2.2 1 fs (by decide) hf) (Rc_1 ?_)⟩
                rw [enE]
                unfold en
                rw [if_neg (by intro z; cases z), if_neg (by rw [G18.1]; decide), if_neg (by rw [G18.2.1]; decide), if_neg (by intro z; cases z), if_pos (by omega)]
                rfl
            · have hq := fx_q g18 hq
              refine xq_n 103 [] [] [.int (Int32.ofInt 0)] (xh_ui h18 3 6 ((xg 0 h18.2.1 3 6) - (Int32.ofInt 1))) [true] 12 hq rfl ⟨(by decide), trivial⟩ (fun _ => ?_)
              have hq : a_rq a_tb (xh_ui h18 3 6 ((xg 0 h18.2.1 3 6) - (Int32.ofInt 1))) := a_rq_ui hq
              refine xq_ret rfl rfl rfl ⟨fx_ui (fx_t (fx_t (fx_t (fx_0) (g16)) (g17)) (g18)) rfl, Or.inr ⟨rfl, kq18, lq18, (gx_k (by decide)).trans (f18), (gx_k (by decide)).trans (y18), fun fs hf => ?_⟩⟩
              exact Or.inr ⟨(1, tke T n p, o + 1, 1 :: fs), by unfold bo; repeat (first | rw [if_pos (by omega)] | rw [if_neg (by omega)] | rw [if_pos w16_0] | rw [if_neg w16_0] | rw [if_neg (by rw [w16_0]; decide)] | rw [if_pos w17_0] | rw [if_neg w17_0] | rw [if_neg (by rw [w17_0]; decide)] | rw [if_pos w17_1] | rw [if_neg w17_1] | rw [if_neg (by rw [w17_1]; decide)]), B18 1 fs (by decide) hf⟩
  | false =>
    have z1 : (tkk T n p) = 3 := nq_nef (a := (tkk T n p)) (b := 3) (by omega) (by omega) c1
    refine xq_m 31 [0, 1, 2] [(0, .ref 3), (1, .int (xg 0 h.2.1 8 4)), (2, .int (xg 0 h.2.1 8 6))] [.ref 8] h [false] 17 hq rfl ⟨(show xe_c .ne (xg 0 h.2.1 8 3) (Int32.ofInt 3) = false by rw [show (xg 0 h.2.1 8 3) = (nI (tkk T n p)) from c0.2.1.1]; exact c1), trivial⟩ (fun hq => ?_)
    rw [show (xg 0 h.2.1 8 4) = (nI (tks T n p)) from c0.2.1.2.1]
    rw [show (xg 0 h.2.1 8 6) = (nI (tkn T n p)) from c0.2.1.2.2.2.1 (by omega)]
    have nz20 : tkk T n p ≠ 0 := by omega
    have le20 := tke_le nz20
    refine xq_run hq rfl rfl (adv_q hq hT (c0.1) (c0.2.2.1) ((c0.2.1.2.2.1 (by omega)).1) (by omega)) ?_
    rintro v20 h20 ⟨rfl, g20, t20⟩
    have hq := fx_q g20 hq
    have kb20 := tkk_lt (T := T) (n := n) (p := tke T n p) hT
    have s620 := tks_le (T := T) (n := n) (p := tke T n p)
    refine xq_n 37 [0, 1, 2] [(0, .ref 3), (1, .int (nI (tks T n p))), (2, .int (nI (tkn T n p)))] [.int (nI (tkn T n p)), .int (nI (tks T n p)), .ref 3] h20 [] 5 hq rfl trivial (fun hq => ?_)
    refine xq_run hq rfl rfl (iq _ _ _ _ (tks T n p) (tkn T n p) ⟨ct_f (S := cS) (L := fN) (c0.1) (fx_w g20 (fun _ _ => sS_c) (fun _ _ z => z)) rfl (fun _ => rfl), t20, (fx_i g20 rfl).trans (c0.2.2.1), (fx_i g20 rfl).trans (c0.2.2.2.1), c0.2.2.2.2.1, (fx_i g20 rfl).trans (c0.2.2.2.2.2.1), by omega, (fx_i g20 rfl).trans (c0.2.2.2.2.2.2.2.1), by omega, cn_f (S := cS) (L := fN) (c0.2.2.2.2.2.2.2.2.2.1) (fx_w g20 (fun _ _ => sS_c) (fun _ _ z => z)) rfl (fun _ => rfl) (fun _ => rfl), (fx_i g20 rfl).trans (c0.2.2.2.2.2.2.2.2.2.2)⟩ (by omega) (by omega) (by omega) hq) ?_
    rintro v21 h21 ⟨g21, ⟨rfl, pq21, oq21, c21, lt21, le21, G21⟩ | ⟨rfl, kq21, lq21, f21, y21, B21⟩⟩
    · have hq := fx_q g21 hq
      have kb21 := tkk_lt (T := T) (n := n) (p := pq21) hT
      have s621 := tks_le (T := T) (n := n) (p := pq21)
      refine xq_ret rfl rfl rfl ⟨fx_t (fx_t (fx_0) (fx_w g20 (fun _ _ => sS_c) (fun _ _ z => z))) (g21), Or.inl ⟨rfl, pq21, oq21, c21, lt21, le21, fun fs hf => ?_⟩⟩
      rw [show bo T n mem nn (nmW T NM) p o fs = qt T n (tke T n p) o (tks T n p) (tkn T n p) fs from by unfold bo qt; rw [if_pos (by omega)]]
      exact G21 fs hf
    · have hq := fx_q g21 hq
      refine xq_ret rfl rfl rfl ⟨fx_t (fx_t (fx_0) (fx_w g20 (fun _ _ => sS_c) (fun _ _ z => z))) (g21), Or.inr ⟨rfl, kq21, lq21, f21, y21, fun fs hf => ?_⟩⟩
      rw [show bo T n mem nn (nmW T NM) p o fs = qt T n (tke T n p) o (tks T n p) (tkn T n p) fs from by unfold bo qt; rw [if_pos (by omega)]]
      exact B21 fs hf
end XRM
