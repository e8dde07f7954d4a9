section XPR
variable {T : Nat → Nat} {n mem nn : Nat} {NM : Nat → Nat × Nat}
def c38 (c _k : Nat) : Bool := Nat.beq c 8 || Nat.beq c 3
theorem sS_38 {c k : Nat} (h : c38 c k = false) : sS c k = false := by
  unfold sS
  rw [(or_f h).1]
  rfl
theorem fS_38 {c k : Nat} (h : c38 c k = false) : fS c k = false := by
  unfold fS
  rw [(or_f h).2]
  rfl
theorem pas {h : xh_H} {P X Y : cdL} (e : ptx h (P ++ X ++ Y)) : ptx h (P ++ (X ++ Y)) := by rw [← List.append_assoc]; exact e
theorem ptx_n {h h' : xh_H} {P : cdL} (p : ptx h P) (g : fx c38 fN h h') : ptx h' P := ptx_f p g rfl (fun _ => rfl) (fun _ => rfl)
set_option maxRecDepth 100000 in
set_option maxHeartbeats 4000000 in
theorem tw1_n {f p o d : Nat} {h : xh_H} (c0 : cr h T n mem nn NM p o d) (hq : a_rq a_tb h) : xq f xi_X4_takeWord xmi_X4_takeWord 0 [(0, .ref 3), (1, .float 3)] [] h (fun v h' => fx c38 fN h h') := by
  have hT : ∀ k, k < n → T k < 256 := fun k hk' => (c0.1.2.2 k hk').1
  have kb := tkk_lt (T := T) (n := n) (p := p) hT
  have n6 := c0.1.2.1
  have s6 := tks_le (T := T) (n := n) (p := p)
  have mm := c0.2.2.2.2.1
  have n16 := c0.2.2.2.2.2.2.2.2.2.1.2.1
  have o121 := c0.2.2.2.2.2.2.1
  have d13 := c0.2.2.2.2.2.2.2.2.1
  refine xq_n 5 [0, 1] [(0, .ref 3), (1, .float 3)] [.float 3, .ref 8] h [] 5 hq rfl trivial (fun hq => ?_)
  refine xq_run hq rfl rfl (iw1_q (c0.1) (c0.2.1) hq) ?_
  rintro v1 h_v1 ⟨rfl, rfl⟩
  cases b2 : (ky T n p 1) with
  | true =>
    have db2 := of_decide_eq_true b2
    refine xq_n 28 [0, 1] [(0, .ref 3), (1, .float 3)] [.ref 8] h [true] 5 hq rfl ⟨rfl, trivial⟩ (fun hq => ?_)
    have nz3 : tkk T n p ≠ 0 := by omega
    have le3 := tke_le nz3
    refine xq_run hq rfl rfl (adv_q hq hT (c0.1) (c0.2.2.1) ((c0.2.1.2.2.1 (by omega)).1) (by omega)) ?_
    rintro v3 h3 ⟨rfl, g3, t3⟩
    have hq := fx_q g3 hq
    have kb3 := tkk_lt (T := T) (n := n) (p := tke T n p) hT
    have s63 := tks_le (T := T) (n := n) (p := tke T n p)
    refine xq_n 32 [] [] [.int (Int32.ofInt 1)] h3 [] 3 hq rfl trivial (fun hq => ?_)
    exact xq_ret rfl rfl rfl (fx_t (fx_0) (fx_w g3 (fun _ _ => sS_38) (fun _ _ z => z)))
  | false =>
    have db2 := of_decide_eq_false b2
    refine xq_n 20 [0, 1] [(0, .ref 3), (1, .float 3)] [.int (xg 0 h.2.1 8 4), .int (Int32.ofInt 1), .ref 3] h [false] 8 hq rfl ⟨rfl, trivial⟩ (fun hq => ?_)
    rw [show (xg 0 h.2.1 8 4) = (nI (tks T n p)) from c0.2.1.2.1]
    refine xq_run hq rfl rfl (fail_q (k := 1) (pl := (tks T n p)) hq) ?_
    rintro v4 h4 ⟨rfl, g4, f4, l4⟩
    have hq := fx_q g4 hq
    exact xq_ret rfl rfl rfl (fx_t (fx_0) (fx_w g4 (fun _ _ => fS_38) (fun _ _ z => z)))
set_option maxRecDepth 100000 in
set_option maxHeartbeats 4000000 in
theorem tw4_n {f p o d : Nat} {h : xh_H} (c0 : cr h T n mem nn NM p o d) (hq : a_rq a_tb h) : xq f xi_X4_takeWord xmi_X4_takeWord 0 [(0, .ref 3), (1, .float 6)] [] h (fun v h' => fx c38 fN h h') := by
  have hT : ∀ k, k < n → T k < 256 := fun k hk' => (c0.1.2.2 k hk').1
  have kb := tkk_lt (T := T) (n := n) (p := p) hT
  have n6 := c0.1.2.1
  have s6 := tks_le (T := T) (n := n) (p := p)
  have mm := c0.2.2.2.2.1
  have n16 := c0.2.2.2.2.2.2.2.2.2.1.2.1
  have o121 := c0.2.2.2.2.2.2.1
  have d13 := c0.2.2.2.2.2.2.2.2.1
  refine xq_n 5 [0, 1] [(0, .ref 3), (1, .float 6)] [.float 6, .ref 8] h [] 5 hq rfl trivial (fun hq => ?_)
  refine xq_run hq rfl rfl (iw4_q (c0.1) (c0.2.1) hq) ?_
  rintro v1 h_v1 ⟨rfl, rfl⟩
  cases b2 : (ky T n p 4) with
  | true =>
    have db2 := of_decide_eq_true b2
    refine xq_n 28 [0, 1] [(0, .ref 3), (1, .float 6)] [.ref 8] h [true] 5 hq rfl ⟨rfl, trivial⟩ (fun hq => ?_)
    have nz3 : tkk T n p ≠ 0 := by omega
    have le3 := tke_le nz3
    refine xq_run hq rfl rfl (adv_q hq hT (c0.1) (c0.2.2.1) ((c0.2.1.2.2.1 (by omega)).1) (by omega)) ?_
    rintro v3 h3 ⟨rfl, g3, t3⟩
    have hq := fx_q g3 hq
    have kb3 := tkk_lt (T := T) (n := n) (p := tke T n p) hT
    have s63 := tks_le (T := T) (n := n) (p := tke T n p)
    refine xq_n 32 [] [] [.int (Int32.ofInt 1)] h3 [] 3 hq rfl trivial (fun hq => ?_)
    exact xq_ret rfl rfl rfl (fx_t (fx_0) (fx_w g3 (fun _ _ => sS_38) (fun _ _ z => z)))
  | false =>
    have db2 := of_decide_eq_false b2
    refine xq_n 20 [0, 1] [(0, .ref 3), (1, .float 6)] [.int (xg 0 h.2.1 8 4), .int (Int32.ofInt 1), .ref 3] h [false] 8 hq rfl ⟨rfl, trivial⟩ (fun hq => ?_)
    rw [show (xg 0 h.2.1 8 4) = (nI (tks T n p)) from c0.2.1.2.1]
    refine xq_run hq rfl rfl (fail_q (k := 1) (pl := (tks T n p)) hq) ?_
    rintro v4 h4 ⟨rfl, g4, f4, l4⟩
    have hq := fx_q g4 hq
    exact xq_ret rfl rfl rfl (fx_t (fx_0) (fx_w g4 (fun _ _ => fS_38) (fun _ _ z => z)))
set_option maxRecDepth 100000 in
set_option maxHeartbeats 4000000 in
theorem ts_n {f p o d c : Nat} {h : xh_H} (c4 : 40 ≤ c) (c5 : c < 256) (c0 : cr h T n mem nn NM p o d) (hq : a_rq a_tb h) : xq f xi_X4_takeSign xmi_X4_takeSign 0 [(0, .ref 3), (1, .int (nI c))] [] h (fun v h' => fx c38 fN h h') := by
  have hT : ∀ k, k < n → T k < 256 := fun k hk' => (c0.1.2.2 k hk').1
  have kb := tkk_lt (T := T) (n := n) (p := p) hT
  have n6 := c0.1.2.1
  have s6 := tks_le (T := T) (n := n) (p := p)
  have mm := c0.2.2.2.2.1
  have n16 := c0.2.2.2.2.2.2.2.2.2.1.2.1
  have o121 := c0.2.2.2.2.2.2.1
  have d13 := c0.2.2.2.2.2.2.2.2.1
  cases c1 : xe_c .eq (nI (tkk T n p)) (nI c) with
  | true =>
    have z1 : (tkk T n p) = c := nq_eqt (a := (tkk T n p)) (b := c) (by omega) (by omega) c1
    refine xq_n 28 [0, 1] [(0, .ref 3), (1, .int (nI c))] [.ref 8] h [true] 9 hq rfl ⟨(show xe_c .eq (xg 0 h.2.1 8 3) (nI c) = true by rw [show (xg 0 h.2.1 8 3) = (nI (tkk T n p)) from c0.2.1.1]; exact c1), trivial⟩ (fun hq => ?_)
    have nz2 : tkk T n p ≠ 0 := by omega
    have le2 := tke_le nz2
    refine xq_run hq rfl rfl (adv_q hq hT (c0.1) (c0.2.2.1) ((c0.2.1.2.2.1 (by omega)).1) (by omega)) ?_
    rintro v2 h2 ⟨rfl, g2, t2⟩
    have hq := fx_q g2 hq
    have kb2 := tkk_lt (T := T) (n := n) (p := tke T n p) hT
    have s62 := tks_le (T := T) (n := n) (p := tke T n p)
    refine xq_n 32 [] [] [.int (Int32.ofInt 1)] h2 [] 3 hq rfl trivial (fun hq => ?_)
    exact xq_ret rfl rfl rfl (fx_t (fx_0) (fx_w g2 (fun _ _ => sS_38) (fun _ _ z => z)))
  | false =>
    have z1 : (tkk T n p) ≠ c := nq_eqf (a := (tkk T n p)) (b := c) (by omega) (by omega) c1
    refine xq_n 20 [0, 1] [(0, .ref 3), (1, .int (nI c))] [.int (xg 0 h.2.1 8 4), .int (Int32.ofInt 1), .ref 3] h [false] 12 hq rfl ⟨(show xe_c .eq (xg 0 h.2.1 8 3) (nI c) = false by rw [show (xg 0 h.2.1 8 3) = (nI (tkk T n p)) from c0.2.1.1]; exact c1), trivial⟩ (fun hq => ?_)
    rw [show (xg 0 h.2.1 8 4) = (nI (tks T n p)) from c0.2.1.2.1]
    refine xq_run hq rfl rfl (fail_q (k := 1) (pl := (tks T n p)) hq) ?_
    rintro v3 h3 ⟨rfl, g3, f3, l3⟩
    have hq := fx_q g3 hq
    exact xq_ret rfl rfl rfl (fx_t (fx_0) (fx_w g3 (fun _ _ => fS_38) (fun _ _ z => z)))
set_option maxRecDepth 100000 in
set_option maxHeartbeats 4000000 in
theorem to_n {f p o d c : Nat} {h : xh_H} (c4 : 40 ≤ c) (c5 : c < 256) (c0 : cr h T n mem nn NM p o d) (hq : a_rq a_tb h) : xq f xi_X4_takeOpening xmi_X4_takeOpening 0 [(0, .ref 3), (1, .int (nI c))] [] h (fun v h' => fx c38 fN h h') := by
  have hT : ∀ k, k < n → T k < 256 := fun k hk' => (c0.1.2.2 k hk').1
  have kb := tkk_lt (T := T) (n := n) (p := p) hT
  have n6 := c0.1.2.1
  have s6 := tks_le (T := T) (n := n) (p := p)
  have mm := c0.2.2.2.2.1
  have n16 := c0.2.2.2.2.2.2.2.2.2.1.2.1
  have o121 := c0.2.2.2.2.2.2.1
  have d13 := c0.2.2.2.2.2.2.2.2.1
  cases c1 : xe_c .eq (nI (tkk T n p)) (nI c) with
  | true =>
    have z1 : (tkk T n p) = c := nq_eqt (a := (tkk T n p)) (b := c) (by omega) (by omega) c1
    cases c2 : xe_c .lt (nI d) 12 with
    | true =>
      have z2 : d < 12 := nq_ltt (a := d) (b := 12) (by omega) (by omega) c2
      refine xq_n 60 [0, 1] [(0, .ref 3), (1, .int (nI c))] [.ref 8] (xh_ui h 3 6 ((xg 0 h.2.1 3 6) + (Int32.ofInt 1))) [true, true] 19 hq rfl ⟨(show xe_c .eq (xg 0 h.2.1 8 3) (nI c) = true by rw [show (xg 0 h.2.1 8 3) = (nI (tkk T n p)) from c0.2.1.1]; exact c1), (show xe_c .lt (xg 0 h.2.1 3 6) 12 = true by rw [show (xg 0 h.2.1 3 6) = (nI d) from c0.2.2.2.2.2.2.2.1]; exact c2), trivial⟩ (fun _ => ?_)
      rw [show (xg 0 h.2.1 3 6) = (nI d) from c0.2.2.2.2.2.2.2.1]
      rw [show ((nI d) + (Int32.ofInt 1)) = nI (d + 1) from nI_1 _]
      have hq : a_rq a_tb (xh_ui h 3 6 (nI (d + 1))) := a_rq_ui hq
      have nz3 : tkk T n p ≠ 0 := by omega
      have le3 := tke_le nz3
      refine xq_run hq rfl rfl (adv_q hq hT (ct_f (S := cS) (L := fN) (c0.1) (fx_ui fx_0 rfl) rfl (fun _ => rfl)) ((gx_o (by decide)).trans (c0.2.2.1)) ((gx_o (by decide)).trans ((c0.2.1.2.2.1 (by omega)).1)) (by omega)) ?_
      rintro v3 h3 ⟨rfl, g3, t3⟩
      have hq := fx_q g3 hq
      have kb3 := tkk_lt (T := T) (n := n) (p := tke T n p) hT
      have s63 := tks_le (T := T) (n := n) (p := tke T n p)
      refine xq_n 64 [] [] [.int (Int32.ofInt 1)] h3 [] 3 hq rfl trivial (fun hq => ?_)
      exact xq_ret rfl rfl rfl (fx_t (fx_ui (fx_0) rfl) (fx_w g3 (fun _ _ => sS_38) (fun _ _ z => z)))
    | false =>
      have z2 : d ≥ 12 := nq_ltf (a := d) (b := 12) (by omega) (by omega) c2
      refine xq_n 42 [0, 1] [(0, .ref 3), (1, .int (nI c))] [.int (xg 0 h.2.1 8 4), .int (Int32.ofInt 4), .ref 3] h [true, false] 16 hq rfl ⟨(show xe_c .eq (xg 0 h.2.1 8 3) (nI c) = true by rw [show (xg 0 h.2.1 8 3) = (nI (tkk T n p)) from c0.2.1.1]; exact c1), (show xe_c .lt (xg 0 h.2.1 3 6) 12 = false by rw [show (xg 0 h.2.1 3 6) = (nI d) from c0.2.2.2.2.2.2.2.1]; exact c2), trivial⟩ (fun hq => ?_)
      rw [show (xg 0 h.2.1 8 4) = (nI (tks T n p)) from c0.2.1.2.1]
      refine xq_run hq rfl rfl (fail_q (k := 4) (pl := (tks T n p)) hq) ?_
      rintro v4 h4 ⟨rfl, g4, f4, l4⟩
      have hq := fx_q g4 hq
      exact xq_ret rfl rfl rfl (fx_t (fx_0) (fx_w g4 (fun _ _ => fS_38) (fun _ _ z => z)))
  | false =>
    have z1 : (tkk T n p) ≠ c := nq_eqf (a := (tkk T n p)) (b := c) (by omega) (by omega) c1
    refine xq_n 20 [0, 1] [(0, .ref 3), (1, .int (nI c))] [.int (xg 0 h.2.1 8 4), .int (Int32.ofInt 1), .ref 3] h [false] 12 hq rfl ⟨(show xe_c .eq (xg 0 h.2.1 8 3) (nI c) = false by rw [show (xg 0 h.2.1 8 3) = (nI (tkk T n p)) from c0.2.1.1]; exact c1), trivial⟩ (fun hq => ?_)
    rw [show (xg 0 h.2.1 8 4) = (nI (tks T n p)) from c0.2.1.2.1]
    refine xq_run hq rfl rfl (fail_q (k := 1) (pl := (tks T n p)) hq) ?_
    rintro v5 h5 ⟨rfl, g5, f5, l5⟩
    have hq := fx_q g5 hq
    exact xq_ret rfl rfl rfl (fx_t (fx_0) (fx_w g5 (fun _ _ => fS_38) (fun _ _ z => z)))
set_option maxRecDepth 100000 in
set_option maxHeartbeats 4000000 in
theorem co_n {f p o d st : Nat} {h : xh_H} (o6 : o ≤ 120) (c0 : cr h T n mem nn NM p o d) (hq : a_rq a_tb h) : xq f xi_X4_countOne xmi_X4_countOne 0 [(0, .ref 3), (1, .int (nI st))] [] h (fun v h' => fx c38 fN h h') := by
  have hT : ∀ k, k < n → T k < 256 := fun k hk' => (c0.1.2.2 k hk').1
  have kb := tkk_lt (T := T) (n := n) (p := p) hT
  have n6 := c0.1.2.1
  have s6 := tks_le (T := T) (n := n) (p := p)
  have mm := c0.2.2.2.2.1
  have n16 := c0.2.2.2.2.2.2.2.2.2.1.2.1
  have o121 := c0.2.2.2.2.2.2.1
  have d13 := c0.2.2.2.2.2.2.2.2.1
  cases c1 : xe_c .le (nI (o + 1)) 120 with
  | true =>
    have z1 : (o + 1) ≤ 120 := nq_let (a := (o + 1)) (b := 120) (by omega) (by omega) c1
    refine xq_n 33 [] [] [.int (Int32.ofInt 1)] (xh_ui h 3 5 ((xg 0 h.2.1 3 5) + (Int32.ofInt 1))) [true] 14 hq rfl ⟨(show xe_c .le (xg 0 (xh_ui h 3 5 ((xg 0 h.2.1 3 5) + (Int32.ofInt 1))).2.1 3 5) 120 = true by rw [show (xg 0 (xh_ui h 3 5 ((xg 0 h.2.1 3 5) + (Int32.ofInt 1))).2.1 3 5) = ((xg 0 h.2.1 3 5) + (Int32.ofInt 1)) from gx_s, show (xg 0 h.2.1 3 5) = (nI o) from c0.2.2.2.2.2.1, show ((nI o) + (Int32.ofInt 1)) = nI (o + 1) from nI_1 _]; exact c1), trivial⟩ (fun _ => ?_)
    rw [show (xg 0 h.2.1 3 5) = (nI o) from c0.2.2.2.2.2.1]
    rw [show ((nI o) + (Int32.ofInt 1)) = nI (o + 1) from nI_1 _]
    have hq : a_rq a_tb (xh_ui h 3 5 (nI (o + 1))) := a_rq_ui hq
    exact xq_ret rfl rfl rfl (fx_ui (fx_0) rfl)
  | false =>
    have z1 : (o + 1) > 120 := nq_lef (a := (o + 1)) (b := 120) (by omega) (by omega) c1
    refine xq_n 22 [0, 1] [(0, .ref 3), (1, .int (nI st))] [.int (nI st), .int (Int32.ofInt 4), .ref 3] (xh_ui h 3 5 ((xg 0 h.2.1 3 5) + (Int32.ofInt 1))) [false] 15 hq rfl ⟨(show xe_c .le (xg 0 (xh_ui h 3 5 ((xg 0 h.2.1 3 5) + (Int32.ofInt 1))).2.1 3 5) 120 = false by rw [show (xg 0 (xh_ui h 3 5 ((xg 0 h.2.1 3 5) + (Int32.ofInt 1))).2.1 3 5) = ((xg 0 h.2.1 3 5) + (Int32.ofInt 1)) from gx_s, show (xg 0 h.2.1 3 5) = (nI o) from c0.2.2.2.2.2.1, show ((nI o) + (Int32.ofInt 1)) = nI (o + 1) from nI_1 _]; exact c1), trivial⟩ (fun _ => ?_)
    rw [show (xg 0 h.2.1 3 5) = (nI o) from c0.2.2.2.2.2.1]
    rw [show ((nI o) + (Int32.ofInt 1)) = nI (o + 1) from nI_1 _]
    have hq : a_rq a_tb (xh_ui h 3 5 (nI (o + 1))) := a_rq_ui hq
    refine xq_run hq rfl rfl (fail_q (k := 4) (pl := st) hq) ?_
    rintro v2 h2 ⟨rfl, g2, f2, l2⟩
    have hq := fx_q g2 hq
    refine xq_n 33 [] [] [.int (Int32.ofInt 0)] h2 [true] 4 hq rfl ⟨(by decide), trivial⟩ (fun hq => ?_)
    exact xq_ret rfl rfl rfl (fx_t (fx_ui (fx_0) rfl) (fx_w g2 (fun _ _ => fS_38) (fun _ _ z => z)))
def nh_P (h : xh_H) (nn : Nat) (NW : Nat → Nat) (w : Nat) (v : Option Value) (h' : xh_H) : Prop := h = h' ∧ ((v = some (.int (Int32.ofInt (-1))) ∧ hasn nn NW w = false) ∨ (nmi nn NW w < nn ∧ v = some (.int (nI (nmi nn NW w))) ∧ hasn nn NW w = true))
theorem fr_1 {NW : Nat → Nat} {w i : Nat} : ∀ (k j : Nat), j ≤ i → i < j + k → (∀ x, j ≤ x → x < i → NW x ≠ w) → NW i = w → ((List.range' j k).find? (fun k => Nat.beq (NW k) w)) = some i := by
  intro k
  induction k with
  | zero => intro j h1 h2; omega
  | succ k ih =>
    intro j h1 h2 ha he
    rw [List.range'_succ, List.find?_cons]
    by_cases e : j = i
    · rw [e, he, Nat.beq_refl]
    · have : Nat.beq (NW j) w = false := by
        rw [Bool.eq_false_iff]
        intro z
        exact ha j (Nat.le_refl _) (by omega) (Nat.eq_of_beq_eq_true z)
      rw [this]
      exact ih (j + 1) (by omega) (by omega) (fun x y1 y2 => ha x (by omega) y2) he
theorem nmi_1 {NW : Nat → Nat} {w nn i : Nat} (hi : i < nn) (ha : ∀ j, j < i → NW j ≠ w) (he : NW i = w) : nmi nn NW w = i := by
  unfold nmi
  rw [List.range_eq_range', fr_1 nn 0 (Nat.zero_le _) (by omega) (fun x _ y => ha x y) he]
  rfl
set_option maxRecDepth 100000 in
set_option maxHeartbeats 4000000 in
theorem tp_lp {p o d : Nat} {h : xh_H} (c0 : cr h T n mem nn NM p o d) (h2 : tkk T n p = 2) : ∀ (f i : Nat), a_rq a_tb h → i ≤ nn → (∀ j, j < i → nmW T NM j ≠ tkw T n p) → xq f xi_X4_toldName xmi_X4_toldName 2 [(0, .ref 3), (1, .int (nI i))] [] h (nh_P h nn (nmW T NM) (tkw T n p)) := by
  have hT : ∀ k, k < n → T k < 256 := fun k hk' => (c0.1.2.2 k hk').1
  have tk := c0.2.1
  have kb := tkk_lt (T := T) (n := n) (p := p) hT
  have n6 := c0.1.2.1
  have n16 := c0.2.2.2.2.2.2.2.2.2.1.2.1
  intro f
  induction f with
  | zero => intros; exact xq_0
  | succ f ih =>
    intro i hq hi ha
    cases c1 : xe_c .ge (nI i) (nI nn) with
    | true =>
      have z1 : i ≥ nn := nq_get (a := i) (b := nn) (by omega) (by omega) c1
      refine xq_m 41 [] [] [.int (Int32.ofInt (-1))] h [true] 7 hq rfl ⟨(show xe_c .ge (nI i) (xg 0 h.2.1 3 7) = true by rw [show (xg 0 h.2.1 3 7) = (nI nn) from c0.2.2.2.2.2.2.2.2.2.1.1]; exact c1), trivial⟩ (fun hq => ?_)
      exact xq_ret rfl rfl rfl ⟨rfl, Or.inl ⟨rfl, decide_eq_false (fun ⟨j, y1, y2⟩ => ha j (by omega) y2)⟩⟩
    | false =>
      have z1 : i < nn := nq_gef (a := i) (b := nn) (by omega) (by omega) c1
      refine xq_m 26 [0, 1] [(0, .ref 3), (1, .int (nI i))] [.int (xg 0 h.2.1 10 ((nI i).toNatClampNeg)), .int (xg 0 h.2.1 9 ((nI i).toNatClampNeg)), .ref 8] h [false] 16 hq rfl ⟨(show xe_c .ge (nI i) (xg 0 h.2.1 3 7) = false by rw [show (xg 0 h.2.1 3 7) = (nI nn) from c0.2.2.2.2.2.2.2.2.2.1.1]; exact c1), trivial⟩ (fun hq => ?_)
      rw [show (xg 0 h.2.1 10 ((nI i).toNatClampNeg)) = (nI (NM i).2) from (by rw [show ((nI i).toNatClampNeg) = i from nI_clamp (by omega)]; exact (c0.2.2.2.2.2.2.2.2.2.1.2.2 _ (by omega)).2.1)]
      rw [show (xg 0 h.2.1 9 ((nI i).toNatClampNeg)) = (nI (NM i).1) from (by rw [show ((nI i).toNatClampNeg) = i from nI_clamp (by omega)]; exact (c0.2.2.2.2.2.2.2.2.2.1.2.2 _ (by omega)).1)]
      have n2 := c0.2.2.2.2.2.2.2.2.2.1.2.2 i (by omega)
      refine xq_run hq rfl rfl (lk_q c0.1 tk h2 n2.2.2.2.1 n2.2.2.1 n2.2.2.2.2 hq) ?_
      rintro v3 h_v3 ⟨rfl, rfl⟩
      cases b4 : (decide (wv T (NM i).1 ((NM i).2 - (NM i).1) = tkw T n p)) with
      | true =>
        have db4 := of_decide_eq_true b4
        refine xq_n 33 [] [] [.int (nI i)] h [false] 4 hq rfl ⟨rfl, trivial⟩ (fun hq => ?_)
        have en := nmi_1 (NW := nmW T NM) (nn := nn) (i := i) (w := tkw T n p) (by omega) ha db4
        exact xq_ret rfl rfl rfl ⟨rfl, Or.inr ⟨by omega, by rw [en], decide_eq_true ⟨i, by omega, db4⟩⟩⟩
      | false =>
        have db4 := of_decide_eq_false b4
        refine xq_n 2 [0, 1] [(0, .ref 3), (1, .int ((nI i) + Int32.ofInt 1))] [] h [true] 5 hq rfl ⟨rfl, trivial⟩ (fun hq => ?_)
        rw [show ((nI i) + Int32.ofInt 1) = nI (i + 1) from nI_1 _]
        exact ih (i + 1) hq (by omega) (fun j hj => by
          by_cases ek : j = i
          · rw [ek]; exact db4
          · exact ha j (by omega))
set_option maxRecDepth 100000 in
set_option maxHeartbeats 4000000 in
theorem tp_q {f p o d : Nat} {h : xh_H} (c0 : cr h T n mem nn NM p o d) (h2 : tkk T n p = 2) (hq : a_rq a_tb h) : xq f xi_X4_toldName xmi_X4_toldName 0 [(0, .ref 3)] [] h (nh_P h nn (nmW T NM) (tkw T n p)) := by
  refine xq_n 2 [0, 1] [(0, .ref 3), (1, .int (Int32.ofInt 0))] [] h [] 4 hq rfl trivial (fun hq => ?_)
  exact tp_lp c0 h2 f 0 hq (Nat.zero_le _) (fun j hj => absurd hj (Nat.not_lt_zero j))
set_option maxRecDepth 100000 in
set_option maxHeartbeats 4000000 in
theorem tnn_n {f p o d : Nat} {h : xh_H} (c0 : cr h T n mem nn NM p o d) (hq : a_rq a_tb h) : xq f xi_X4_takeNewName xmi_X4_takeNewName 0 [(0, .ref 3)] [] h (fun v h' => fx c38 fN h h') := by
  have hT : ∀ k, k < n → T k < 256 := fun k hk' => (c0.1.2.2 k hk').1
  have kb := tkk_lt (T := T) (n := n) (p := p) hT
  have n6 := c0.1.2.1
  have s6 := tks_le (T := T) (n := n) (p := p)
  have mm := c0.2.2.2.2.1
  have n16 := c0.2.2.2.2.2.2.2.2.2.1.2.1
  have o121 := c0.2.2.2.2.2.2.1
  have d13 := c0.2.2.2.2.2.2.2.2.1
  refine xq_n 4 [0] [(0, .ref 3)] [.ref 8] h [] 4 hq rfl trivial (fun hq => ?_)
  refine xq_run hq rfl rfl (nm_q (c0.1) (c0.2.1) hq) ?_
  rintro v1 h_v1 ⟨rfl, rfl⟩
  cases b2 : (nmt T n p) with
  | true =>
    have db2 := of_decide_eq_true b2
    refine xq_n 24 [0] [(0, .ref 3)] [.ref 3] h [true] 4 hq rfl ⟨rfl, trivial⟩ (fun hq => ?_)
    refine xq_run hq rfl rfl (tp_q c0 (by omega) hq) ?_
    rintro v3 h_3 ⟨rfl, ⟨rfl, hn3⟩ | ⟨kl3, rfl, hn3⟩⟩
    · skip
      cases c4 : xe_c .lt (nI nn) 16 with
      | true =>
        have z4 : nn < 16 := nq_ltt (a := nn) (b := 16) (by omega) (by omega) c4
        refine xq_n 70 [0] [(0, .ref 3)] [.ref 8] h [true, true] 10 hq rfl ⟨(by decide), (show xe_c .lt (xg 0 h.2.1 3 7) 16 = true by rw [show (xg 0 h.2.1 3 7) = (nI nn) from c0.2.2.2.2.2.2.2.2.2.1.1]; exact c4), trivial⟩ (fun hq => ?_)
        have nz5 : tkk T n p ≠ 0 := by omega
        have le5 := tke_le nz5
        refine xq_run hq rfl rfl (adv_q hq hT (c0.1) (c0.2.2.1) ((c0.2.1.2.2.1 (by omega)).1) (by omega)) ?_
        rintro v5 h5 ⟨rfl, g5, t5⟩
        have hq := fx_q g5 hq
        have kb5 := tkk_lt (T := T) (n := n) (p := tke T n p) hT
        have s65 := tks_le (T := T) (n := n) (p := tke T n p)
        refine xq_n 74 [] [] [.int (Int32.ofInt 1)] h5 [] 3 hq rfl trivial (fun hq => ?_)
        exact xq_ret rfl rfl rfl (fx_t (fx_0) (fx_w g5 (fun _ _ => sS_38) (fun _ _ z => z)))
      | false =>
        have z4 : nn ≥ 16 := nq_ltf (a := nn) (b := 16) (by omega) (by omega) c4
        refine xq_n 62 [0] [(0, .ref 3)] [.int (xg 0 h.2.1 8 4), .int (Int32.ofInt 4), .ref 3] h [true, false] 13 hq rfl ⟨(by decide), (show xe_c .lt (xg 0 h.2.1 3 7) 16 = false by rw [show (xg 0 h.2.1 3 7) = (nI nn) from c0.2.2.2.2.2.2.2.2.2.1.1]; exact c4), trivial⟩ (fun hq => ?_)
        rw [show (xg 0 h.2.1 8 4) = (nI (tks T n p)) from c0.2.1.2.1]
        refine xq_run hq rfl rfl (fail_q (k := 4) (pl := (tks T n p)) hq) ?_
        rintro v6 h6 ⟨rfl, g6, f6, l6⟩
        have hq := fx_q g6 hq
        exact xq_ret rfl rfl rfl (fx_t (fx_0) (fx_w g6 (fun _ _ => fS_38) (fun _ _ z => z)))
    · skip
      cases c7 : xe_c .eq (nI (nmi nn (nmW T NM) (tkw T n p))) (Int32.ofInt (-1)) with
      | true =>
        exact absurd (of_decide_eq_true c7) (nIm1 (by omega))
      | false =>
        refine xq_n 40 [0] [(0, .ref 3)] [.int (xg 0 h.2.1 8 4), .int (Int32.ofInt 3), .ref 3] h [false] 9 hq rfl ⟨c7, trivial⟩ (fun hq => ?_)
        rw [show (xg 0 h.2.1 8 4) = (nI (tks T n p)) from c0.2.1.2.1]
        refine xq_run hq rfl rfl (fail_q (k := 3) (pl := (tks T n p)) hq) ?_
        rintro v8 h8 ⟨rfl, g8, f8, l8⟩
        have hq := fx_q g8 hq
        exact xq_ret rfl rfl rfl (fx_t (fx_0) (fx_w g8 (fun _ _ => fS_38) (fun _ _ z => z)))
  | false =>
    have db2 := of_decide_eq_false b2
    refine xq_n 19 [0] [(0, .ref 3)] [.int (xg 0 h.2.1 8 4), .int (Int32.ofInt 1), .ref 3] h [false] 8 hq rfl ⟨rfl, trivial⟩ (fun hq => ?_)
    rw [show (xg 0 h.2.1 8 4) = (nI (tks T n p)) from c0.2.1.2.1]
    refine xq_run hq rfl rfl (fail_q (k := 1) (pl := (tks T n p)) hq) ?_
    rintro v9 h9 ⟨rfl, g9, f9, l9⟩
    have hq := fx_q g9 hq
    exact xq_ret rfl rfl rfl (fx_t (fx_0) (fx_w g9 (fun _ _ => fS_38) (fun _ _ z => z)))
set_option maxRecDepth 100000 in
set_option maxHeartbeats 4000000 in
theorem te_n {f p o d : Nat} {h : xh_H} (c0 : cr h T n mem nn NM p o d) (hq : a_rq a_tb h) : xq f xi_X4_takeEnd xmi_X4_takeEnd 0 [(0, .ref 3)] [] h (fun v h' => fx c38 fN h h') := by
  have hT : ∀ k, k < n → T k < 256 := fun k hk' => (c0.1.2.2 k hk').1
  have kb := tkk_lt (T := T) (n := n) (p := p) hT
  have n6 := c0.1.2.1
  have s6 := tks_le (T := T) (n := n) (p := p)
  have mm := c0.2.2.2.2.1
  have n16 := c0.2.2.2.2.2.2.2.2.2.1.2.1
  have o121 := c0.2.2.2.2.2.2.1
  have d13 := c0.2.2.2.2.2.2.2.2.1
  cases c1 : xe_c .ne (nI (tkk T n p)) 0 with
  | true =>
    have z1 : (tkk T n p) ≠ 0 := nq_net (a := (tkk T n p)) (b := 0) (by omega) (by omega) c1
    refine xq_n 39 [0, 1] [(0, .ref 3), (1, .int (Int32.ofInt 0))] [.int (xg 0 h.2.1 8 4), .int (Int32.ofInt 1), .ref 3] h [true, false] 15 hq rfl ⟨(show xe_c .ne (xg 0 h.2.1 8 3) 0 = true by rw [show (xg 0 h.2.1 8 3) = (nI (tkk T n p)) from c0.2.1.1]; exact c1), (by decide), trivial⟩ (fun hq => ?_)
    rw [show (xg 0 h.2.1 8 4) = (nI (tks T n p)) from c0.2.1.2.1]
    refine xq_run hq rfl rfl (fail_q (k := 1) (pl := (tks T n p)) hq) ?_
    rintro v2 h2 ⟨rfl, g2, f2, l2⟩
    have hq := fx_q g2 hq
    refine xq_n 50 [] [] [.int (Int32.ofInt 0)] h2 [true] 4 hq rfl ⟨(by decide), trivial⟩ (fun hq => ?_)
    exact xq_ret rfl rfl rfl (fx_t (fx_0) (fx_w g2 (fun _ _ => fS_38) (fun _ _ z => z)))
  | false =>
    have z1 : (tkk T n p) = 0 := nq_nef (a := (tkk T n p)) (b := 0) (by omega) (by omega) c1
    refine xq_n 14 [0] [(0, .ref 3)] [.ref 8] h [false] 8 hq rfl ⟨(show xe_c .ne (xg 0 h.2.1 8 3) 0 = false by rw [show (xg 0 h.2.1 8 3) = (nI (tkk T n p)) from c0.2.1.1]; exact c1), trivial⟩ (fun hq => ?_)
    refine xq_run hq rfl rfl (cut_q (c0.1) hq) ?_
    rintro v3 h_v3 ⟨rfl, rfl⟩
    cases b4 : (decide (600 < n)) with
    | true =>
      have db4 := of_decide_eq_true b4
      refine xq_n 39 [0, 1] [(0, .ref 3), (1, .int (Int32.ofInt 0))] [.int (xg 0 h.2.1 8 4), .int (Int32.ofInt 1), .ref 3] h [true, false] 12 hq rfl ⟨rfl, (by decide), trivial⟩ (fun hq => ?_)
      rw [show (xg 0 h.2.1 8 4) = (nI (tks T n p)) from c0.2.1.2.1]
      refine xq_run hq rfl rfl (fail_q (k := 1) (pl := (tks T n p)) hq) ?_
      rintro v5 h5 ⟨rfl, g5, f5, l5⟩
      have hq := fx_q g5 hq
      refine xq_n 50 [] [] [.int (Int32.ofInt 0)] h5 [true] 4 hq rfl ⟨(by decide), trivial⟩ (fun hq => ?_)
      exact xq_ret rfl rfl rfl (fx_t (fx_0) (fx_w g5 (fun _ _ => fS_38) (fun _ _ z => z)))
    | false =>
      have db4 := of_decide_eq_false b4
      refine xq_n 50 [] [] [.int (Int32.ofInt 1)] h [false, true] 10 hq rfl ⟨rfl, (by decide), trivial⟩ (fun hq => ?_)
      exact xq_ret rfl rfl rfl (fx_0)
set_option maxRecDepth 100000 in
set_option maxHeartbeats 4000000 in
theorem nmb_n {f p o d : Nat} {h : xh_H} {P : cdL} (hl : lone T n p = true) (pt : ptx h P) (l4 : P.length < 400) (c0 : cr h T n mem nn NM p o d) (hq : a_rq a_tb h) : xq f xi_X4_noteMember xmi_X4_noteMember 0 [(0, .ref 3)] [] h (fun v h' => v = some (.int 1) → ptx h' (P ++ [(0, nI (T (tks T n p) - 97))])) := by
  have hT : ∀ k, k < n → T k < 256 := fun k hk' => (c0.1.2.2 k hk').1
  have kb := tkk_lt (T := T) (n := n) (p := p) hT
  have n6 := c0.1.2.1
  have s6 := tks_le (T := T) (n := n) (p := p)
  have mm := c0.2.2.2.2.1
  have n16 := c0.2.2.2.2.2.2.2.2.2.1.2.1
  have o121 := c0.2.2.2.2.2.2.1
  have d13 := c0.2.2.2.2.2.2.2.2.1
  have dl := of_decide_eq_true hl
  have gt := tke_gt (T := T) (n := n) (p := p) (by omega)
  have l1 := (tk2 dl.1).2.2 (tks T n p) (by omega) (by omega)
  refine xq_n 4 [0] [(0, .ref 3)] [.ref 8] h [] 4 hq rfl trivial (fun hq => ?_)
  refine xq_run hq rfl rfl (let_q (c0.1) (c0.2.1) (by omega) hq) ?_
  rintro v1 h_v1 ⟨rfl, rfl⟩
  cases c2 : xe_c .lt (nI (T (tks T n p) - 97)) 0 with
  | true =>
    have z2 : (T (tks T n p) - 97) < 0 := nq_ltt (a := (T (tks T n p) - 97)) (b := 0) (by omega) (by omega) c2
    omega
  | false =>
    have z2 : (T (tks T n p) - 97) ≥ 0 := nq_ltf (a := (T (tks T n p) - 97)) (b := 0) (by omega) (by omega) c2
    cases c3 : xe_c .lt (nI (T (tks T n p) - 97)) (nI mem) with
    | true =>
      have z3 : (T (tks T n p) - 97) < mem := nq_ltt (a := (T (tks T n p) - 97)) (b := mem) (by omega) (by omega) c3
      refine xq_n 39 [0, 1] [(0, .ref 3), (1, .int (nI (T (tks T n p) - 97)))] [.int (nI (T (tks T n p) - 97)), .int (Int32.ofInt 0), .ref 4] h [false, true] 13 hq rfl ⟨c2, (show xe_c .lt (nI (T (tks T n p) - 97)) (xg 0 h.2.1 3 4) = true by rw [show (xg 0 h.2.1 3 4) = (nI mem) from c0.2.2.2.1]; exact c3), trivial⟩ (fun hq => ?_)
      refine xq_run hq rfl rfl (pad_q (c := 0) (y := nI (T (tks T n p) - 97)) (pt) (by first | omega | (simp only [List.length_append, List.length_cons, List.length_nil]; omega)) hq) ?_
      rintro v4 h4 ⟨rfl, g4, x4⟩
      have hq := fx_q g4 hq
      refine xq_n 43 [] [] [.int (Int32.ofInt 1)] h4 [] 3 hq rfl trivial (fun hq => ?_)
      exact xq_ret rfl rfl rfl (fun _ => x4)
    | false =>
      have z3 : (T (tks T n p) - 97) ≥ mem := nq_ltf (a := (T (tks T n p) - 97)) (b := mem) (by omega) (by omega) c3
      refine xq_n 29 [0, 1] [(0, .ref 3), (1, .int (nI (T (tks T n p) - 97)))] [.int (xg 0 h.2.1 8 4), .int (Int32.ofInt 2), .ref 3] h [false, false] 14 hq rfl ⟨c2, (show xe_c .lt (nI (T (tks T n p) - 97)) (xg 0 h.2.1 3 4) = false by rw [show (xg 0 h.2.1 3 4) = (nI mem) from c0.2.2.2.1]; exact c3), trivial⟩ (fun hq => ?_)
      rw [show (xg 0 h.2.1 8 4) = (nI (tks T n p)) from c0.2.1.2.1]
      refine xq_run hq rfl rfl (fail_q (k := 2) (pl := (tks T n p)) hq) ?_
      rintro v5 h5 ⟨rfl, g5, f5, l5⟩
      have hq := fx_q g5 hq
      exact xq_ret rfl rfl rfl (fun e => absurd e (by decide))
set_option maxRecDepth 100000 in
set_option maxHeartbeats 4000000 in
theorem nnm_n {f p o d : Nat} {h : xh_H} {P : cdL} (pt : ptx h P) (l4 : P.length < 400) (c0 : cr h T n mem nn NM p o d) (hq : a_rq a_tb h) : xq f xi_X4_noteName xmi_X4_noteName 0 [(0, .ref 3)] [] h (fun v h' => v = some (.int 1) → nmi nn (nmW T NM) (tkw T n p) < nn ∧ ptx h' (P ++ [(1, nI (nmi nn (nmW T NM) (tkw T n p)))])) := by
  have hT : ∀ k, k < n → T k < 256 := fun k hk' => (c0.1.2.2 k hk').1
  have kb := tkk_lt (T := T) (n := n) (p := p) hT
  have n6 := c0.1.2.1
  have s6 := tks_le (T := T) (n := n) (p := p)
  have mm := c0.2.2.2.2.1
  have n16 := c0.2.2.2.2.2.2.2.2.2.1.2.1
  have o121 := c0.2.2.2.2.2.2.1
  have d13 := c0.2.2.2.2.2.2.2.2.1
  refine xq_n 4 [0] [(0, .ref 3)] [.ref 8] h [] 4 hq rfl trivial (fun hq => ?_)
  refine xq_run hq rfl rfl (nm_q (c0.1) (c0.2.1) hq) ?_
  rintro v1 h_v1 ⟨rfl, rfl⟩
  cases b2 : (nmt T n p) with
  | true =>
    have db2 := of_decide_eq_true b2
    refine xq_n 24 [0] [(0, .ref 3)] [.ref 3] h [true] 4 hq rfl ⟨rfl, trivial⟩ (fun hq => ?_)
    refine xq_run hq rfl rfl (tp_q c0 (by omega) hq) ?_
    rintro v3 h_3 ⟨rfl, ⟨rfl, hn3⟩ | ⟨kl3, rfl, hn3⟩⟩
    · skip
      refine xq_n 42 [0, 1] [(0, .ref 3), (1, .int (Int32.ofInt (-1)))] [.int (xg 0 h.2.1 8 4), .int (Int32.ofInt 3), .ref 3] h [false] 11 hq rfl ⟨(by decide), trivial⟩ (fun hq => ?_)
      rw [show (xg 0 h.2.1 8 4) = (nI (tks T n p)) from c0.2.1.2.1]
      refine xq_run hq rfl rfl (fail_q (k := 3) (pl := (tks T n p)) hq) ?_
      rintro v4 h4 ⟨rfl, g4, f4, l4⟩
      have hq := fx_q g4 hq
      exact xq_ret rfl rfl rfl (fun e => absurd e (by decide))
    · skip
      cases c5 : xe_c .ne (nI (nmi nn (nmW T NM) (tkw T n p))) (Int32.ofInt (-1)) with
      | true =>
        refine xq_n 52 [0, 1] [(0, .ref 3), (1, .int (nI (nmi nn (nmW T NM) (tkw T n p))))] [.int (nI (nmi nn (nmW T NM) (tkw T n p))), .int (Int32.ofInt 1), .ref 4] h [true] 10 hq rfl ⟨c5, trivial⟩ (fun hq => ?_)
        refine xq_run hq rfl rfl (pad_q (c := 1) (y := nI (nmi nn (nmW T NM) (tkw T n p))) (pt) (by first | omega | (simp only [List.length_append, List.length_cons, List.length_nil]; omega)) hq) ?_
        rintro v6 h6 ⟨rfl, g6, x6⟩
        have hq := fx_q g6 hq
        refine xq_n 56 [] [] [.int (Int32.ofInt 1)] h6 [] 3 hq rfl trivial (fun hq => ?_)
        exact xq_ret rfl rfl rfl (fun _ => ⟨kl3, x6⟩)
      | false =>
        exact absurd (xne_j c5) (nIm1 (by omega))
  | false =>
    have db2 := of_decide_eq_false b2
    refine xq_n 19 [0] [(0, .ref 3)] [.int (xg 0 h.2.1 8 4), .int (Int32.ofInt 1), .ref 3] h [false] 8 hq rfl ⟨rfl, trivial⟩ (fun hq => ?_)
    rw [show (xg 0 h.2.1 8 4) = (nI (tks T n p)) from c0.2.1.2.1]
    refine xq_run hq rfl rfl (fail_q (k := 1) (pl := (tks T n p)) hq) ?_
    rintro v7 h7 ⟨rfl, g7, f7, l7⟩
    have hq := fx_q g7 hq
    exact xq_ret rfl rfl rfl (fun e => absurd e (by decide))
end XPR
