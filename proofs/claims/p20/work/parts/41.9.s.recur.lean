section XPS2
variable {T : Nat → Nat} {n mem nn : Nat} {NM : Nat → Nat × Nat}
def rP (h : xh_H) (T : Nat → Nat) (n mem nn : Nat) (NM : Nat → Nat × Nat) (o d : Nat) (P : cdL) (m : Nat) (G : Nat → Nat → cdL → Prop) (v : Option Value) (h' : xh_H) : Prop := fx cS fN h h' ∧ ((v = some (.int 1) ∧ ∃ p' o' c, cr h' T n mem nn NM p' o' d ∧ o < o' ∧ o' ≤ 120 ∧ ptx h' (P ++ c) ∧ c.length + m ≤ 3 * (o' - o) ∧ G p' o' c) ∨ (v = some (.int 0) ∧ ∃ k, xg 0 h'.2.1 3 8 = nI k ∧ 1 ≤ k ∧ k ≤ 4))
section
variable (T : Nat → Nat) (n mem nn : Nat) (NM : Nat → Nat × Nat)
def pOne (f : Nat) : Prop := ∀ (h : xh_H) (p o d : Nat) (P : cdL), cr h T n mem nn NM p o d → ptx h P → P.length ≤ 3 * o + 16 → o ≤ 120 → d ≤ 12 → a_rq a_tb h → xq f xi_X4_readOne xmi_X4_readOne 0 [(0, .ref 3)] [] h (rP h T n mem nn NM o d P 2 (VO T n mem nn (nmW T NM) d p o))
def pAll (f : Nat) : Prop := ∀ (h : xh_H) (p o d : Nat) (P : cdL), cr h T n mem nn NM p o d → ptx h P → P.length ≤ 3 * o + 16 → o ≤ 120 → d ≤ 12 → a_rq a_tb h → xq f xi_X4_readAll xmi_X4_readAll 0 [(0, .ref 3)] [] h (rP h T n mem nn NM o d P 2 (fun p' o' c => ky T n p' 2 = false ∧ VA T n mem nn (nmW T NM) d p o p' o' c))
def pRule (f : Nat) : Prop := ∀ (h : xh_H) (p o d : Nat) (P : cdL), cr h T n mem nn NM p o d → ptx h P → P.length ≤ 3 * o + 16 → o ≤ 120 → d ≤ 12 → a_rq a_tb h → xq f xi_X4_readRule xmi_X4_readRule 0 [(0, .ref 3)] [] h (rP h T n mem nn NM o d P 2 (fun p' o' c => ky T n p' 2 = false ∧ ky T n p' 3 = false ∧ VR T n mem nn (nmW T NM) d p o p' o' c))
def pItem (f : Nat) : Prop := ∀ (h : xh_H) (p o d : Nat) (P : cdL), cr h T n mem nn NM p o d → ptx h P → P.length ≤ 3 * o + 16 → o ≤ 120 → d ≤ 12 → a_rq a_tb h → xq f xi_X4_readItem xmi_X4_readItem 0 [(0, .ref 3)] [] h (rP h T n mem nn NM o d P 1 (VI T n mem nn (nmW T NM) d p o))
def pQuota (f : Nat) : Prop := ∀ (h : xh_H) (p o d st num : Nat) (P : cdL), cr h T n mem nn NM p o d → ptx h P → P.length ≤ 3 * o + 16 → o ≤ 120 → d ≤ 12 → num ≤ 999 → a_rq a_tb h → xq f xi_X4_readQuota xmi_X4_readQuota 0 [(0, .ref 3), (1, .int (nI st)), (2, .int (nI num))] [] h (rP h T n mem nn NM o d P 2 (VQ T n mem nn (nmW T NM) d p o st num))
end
set_option maxRecDepth 100000 in
set_option maxHeartbeats 4000000 in
theorem one_p {f : Nat} (iq : pQuota T n mem nn NM f) (ir : pRule T n mem nn NM f) : pOne T n mem nn NM (f + 1) := by
  intro h p o d P c0 pt pl o6 d12 hq
  have hT : ∀ k, k < n → T k < 256 := fun k hk' => (c0.1.2.2 k hk').1
  have kb := tkk_lt (T := T) (n := n) (p := p) hT
  have n6 := c0.1.2.1
  have s6 := tks_le (T := T) (n := n) (p := p)
  have mm := c0.2.2.2.2.1
  have n16 := c0.2.2.2.2.2.2.2.2.2.1.2.1
  have t9 : tkn T n p ≤ 999 := vf_999
  cases c1 : xe_c .ne (nI (tkk T n p)) (Int32.ofInt 3) with
  | true =>
    have z1 : (tkk T n p) ≠ 3 := nq_net (a := (tkk T n p)) (b := 3) (by omega) (by omega) c1
    cases c2 : xe_c .ne (nI (tkk T n p)) 40 with
    | true =>
      have z2 : (tkk T n p) ≠ 40 := nq_net (a := (tkk T n p)) (b := 40) (by omega) (by omega) c2
      refine xq_m 108 [0, 1] [(0, .ref 3), (1, .int (xg 0 h.2.1 8 4))] [.ref 8] h [true, true] 18 hq rfl ⟨(show xe_c .ne (xg 0 h.2.1 8 3) (Int32.ofInt 3) = true by rw [show (xg 0 h.2.1 8 3) = (nI (tkk T n p)) from c0.2.1.1]; exact c1), (show xe_c .ne (xg 0 h.2.1 8 3) 40 = true by rw [show (xg 0 h.2.1 8 3) = (nI (tkk T n p)) from c0.2.1.1]; exact c2), trivial⟩ (fun hq => ?_)
      rw [show (xg 0 h.2.1 8 4) = (nI (tks T n p)) from c0.2.1.2.1]
      refine xq_run hq rfl rfl (lo_q (c0.1) (c0.2.1) hq) ?_
      rintro v3 h_v3 ⟨rfl, rfl⟩
      cases b4 : (lone T n p) with
      | true =>
        have db4 := of_decide_eq_true b4
        refine xq_n 115 [0, 1] [(0, .ref 3), (1, .int (nI (tks T n p)))] [.ref 3] h [false] 4 hq rfl ⟨rfl, trivial⟩ (fun hq => ?_)
        refine xq_run hq rfl rfl (xq_and (nmb_q b4 c0 hq) (nmb_n b4 (pt) (by omega) c0 hq)) ?_
        rintro v5 h5 ⟨⟨g5, l5, q5⟩, n5⟩
        have hq := fx_q g5 hq
        by_cases w5_0 : mem ≤ T (tks T n p) - 97
        · obtain ⟨rfl, f5, y5, z5, e65, e5⟩ := q5 2 (tks T n p) (by unfold kM; rw [if_pos w5_0])
          refine xq_n 149 [0, 1, 2] [(0, .ref 3), (1, .int (nI (tks T n p))), (2, .int (Int32.ofInt 0))] [.ref 8] h5 [true] 7 hq rfl ⟨(by decide), trivial⟩ (fun hq => ?_)
          refine xq_run hq rfl rfl (adv_q hq hT (ct_f (S := cS) (L := fN) (c0.1) (g5) rfl (fun _ => rfl)) ((fx_i g5 rfl).trans (c0.2.2.1)) e5 e65) ?_
          rintro v6 h6 ⟨rfl, g6, -⟩
          have hq := fx_q g6 hq
          refine xq_n 153 [] [] [.int (Int32.ofInt 0)] h6 [] 3 hq rfl trivial (fun hq => ?_)
          exact xq_ret rfl rfl rfl ⟨fx_t (fx_t (fx_0) (g5)) (fx_w g6 (fun _ _ => sS_c) (fun _ _ z => z)), Or.inr ⟨rfl, _, (fx_i g6 rfl).trans (f5), by omega, by omega⟩⟩
        · skip
          obtain ⟨rfl, c5⟩ := l5 (p) (o) (d) (by unfold kM; rw [if_neg w5_0])
          have x5 : ptx h5 (P ++ [(0, nI (T (tks T n p) - 97))]) := by simpa only [List.append_assoc] using (n5 rfl)
          have kb5 := tkk_lt (T := T) (n := n) (p := p) hT
          have s65 := tks_le (T := T) (n := n) (p := p)
          refine xq_n 133 [0, 1] [(0, .ref 3), (1, .int (nI (tks T n p)))] [.int (nI (tks T n p)), .ref 3] h5 [false] 6 hq rfl ⟨(by decide), trivial⟩ (fun hq => ?_)
          refine xq_run hq rfl rfl (xq_and (co_q (st := (tks T n p)) (by omega) c5 hq) (co_n (st := (tks T n p)) (by omega) c5 hq)) ?_
          rintro v7 h7 ⟨⟨g7, l7, q7⟩, n7⟩
          have hq := fx_q g7 hq
          by_cases w7_0 : 120 ≤ o
          · obtain ⟨rfl, f7, y7, z7, e67, e7⟩ := q7 4 ((tks T n p)) (by unfold kC; rw [if_pos w7_0])
            refine xq_n 149 [0, 1, 2] [(0, .ref 3), (1, .int (nI (tks T n p))), (2, .int (Int32.ofInt 0))] [.ref 8] h7 [true] 7 hq rfl ⟨(by decide), trivial⟩ (fun hq => ?_)
            refine xq_run hq rfl rfl (adv_q hq hT (ct_f (S := cS) (L := fN) (c5.1) (g7) rfl (fun _ => rfl)) ((fx_i g7 rfl).trans (c5.2.2.1)) e7 e67) ?_
            rintro v8 h8 ⟨rfl, g8, -⟩
            have hq := fx_q g8 hq
            refine xq_n 153 [] [] [.int (Int32.ofInt 0)] h8 [] 3 hq rfl trivial (fun hq => ?_)
            exact xq_ret rfl rfl rfl ⟨fx_t (fx_t (fx_t (fx_0) (g5)) (g7)) (fx_w g8 (fun _ _ => sS_c) (fun _ _ z => z)), Or.inr ⟨rfl, _, (fx_i g8 rfl).trans (f7), by omega, by omega⟩⟩
          · skip
            obtain ⟨rfl, c7⟩ := l7 (p) (o + 1) (d) (by unfold kC; rw [if_neg w7_0])
            have kb7 := tkk_lt (T := T) (n := n) (p := p) hT
            have s67 := tks_le (T := T) (n := n) (p := p)
            refine xq_n 149 [0, 1, 2] [(0, .ref 3), (1, .int (nI (tks T n p))), (2, .int (Int32.ofInt 1))] [.ref 8] h7 [false] 8 hq rfl ⟨(by decide), trivial⟩ (fun hq => ?_)
            have nz9 : tkk T n p ≠ 0 := by omega
            have le9 := tke_le nz9
            refine xq_run hq rfl rfl (adv_q hq hT (c7.1) (c7.2.2.1) ((c7.2.1.2.2.1 (by omega)).1) (by omega)) ?_
            rintro v9 h9 ⟨rfl, g9, t9⟩
            have hq := fx_q g9 hq
            have kb9 := tkk_lt (T := T) (n := n) (p := tke T n p) hT
            have s69 := tks_le (T := T) (n := n) (p := tke T n p)
            refine xq_n 153 [] [] [.int (Int32.ofInt 1)] h9 [] 3 hq rfl trivial (fun hq => ?_)
            exact xq_ret rfl rfl rfl ⟨fx_t (fx_t (fx_t (fx_0) (g5)) (g7)) (fx_w g9 (fun _ _ => sS_c) (fun _ _ z => z)), Or.inl ⟨rfl, tke T n p, (o + 1), [(0, nI (T (tks T n p) - 97))], ⟨ct_f (S := cS) (L := fN) (c7.1) (fx_w g9 (fun _ _ => sS_c) (fun _ _ z => z)) rfl (fun _ => rfl), t9, (fx_i g9 rfl).trans (c7.2.2.1), (fx_i g9 rfl).trans (c7.2.2.2.1), c0.2.2.2.2.1, (fx_i g9 rfl).trans (c7.2.2.2.2.2.1), by omega, (fx_i g9 rfl).trans (c7.2.2.2.2.2.2.2.1), by omega, cn_f (S := cS) (L := fN) (c7.2.2.2.2.2.2.2.2.2.1) (fx_w g9 (fun _ _ => sS_c) (fun _ _ z => z)) rfl (fun _ => rfl) (fun _ => rfl), (fx_i g9 rfl).trans (c7.2.2.2.2.2.2.2.2.2.2)⟩, by omega, by omega, ptx_f (ptx_n (x5) n7) g9 rfl (fun _ => rfl) (fun _ => rfl), by first | omega | (simp only [List.length_append, List.length_cons, List.length_nil]; omega), VO_mem (by assumption) (by omega) mm (by omega) d12⟩⟩
      | false =>
        have db4 := of_decide_eq_false b4
        refine xq_n 125 [0, 1] [(0, .ref 3), (1, .int (nI (tks T n p)))] [.ref 3] h [true] 4 hq rfl ⟨rfl, trivial⟩ (fun hq => ?_)
        refine xq_run hq rfl rfl (xq_and (nnm_q c0 hq) (nnm_n (pt) (by omega) c0 hq)) ?_
        rintro v10 h10 ⟨⟨g10, l10, q10⟩, n10⟩
        have hq := fx_q g10 hq
        by_cases w10_0 : nmt T n p = false
        · obtain ⟨rfl, f10, y10, z10, e610, e10⟩ := q10 1 (tks T n p) (by unfold kN; rw [if_pos w10_0])
          refine xq_n 149 [0, 1, 2] [(0, .ref 3), (1, .int (nI (tks T n p))), (2, .int (Int32.ofInt 0))] [.ref 8] h10 [true] 7 hq rfl ⟨(by decide), trivial⟩ (fun hq => ?_)
          refine xq_run hq rfl rfl (adv_q hq hT (ct_f (S := cS) (L := fN) (c0.1) (g10) rfl (fun _ => rfl)) ((fx_i g10 rfl).trans (c0.2.2.1)) e10 e610) ?_
          rintro v11 h11 ⟨rfl, g11, -⟩
          have hq := fx_q g11 hq
          refine xq_n 153 [] [] [.int (Int32.ofInt 0)] h11 [] 3 hq rfl trivial (fun hq => ?_)
          exact xq_ret rfl rfl rfl ⟨fx_t (fx_t (fx_0) (g10)) (fx_w g11 (fun _ _ => sS_c) (fun _ _ z => z)), Or.inr ⟨rfl, _, (fx_i g11 rfl).trans (f10), by omega, by omega⟩⟩
        · skip
          have w10_0t : nmt T n p = true := eq_true_of_ne_false w10_0
          have dw10_0 := of_decide_eq_true w10_0t
          by_cases w10_1 : hasn nn (nmW T NM) (tkw T n p) = false
          · obtain ⟨rfl, f10, y10, z10, e610, e10⟩ := q10 3 (tks T n p) (by unfold kN; rw [if_neg w10_0, if_pos w10_1])
            refine xq_n 149 [0, 1, 2] [(0, .ref 3), (1, .int (nI (tks T n p))), (2, .int (Int32.ofInt 0))] [.ref 8] h10 [true] 7 hq rfl ⟨(by decide), trivial⟩ (fun hq => ?_)
            refine xq_run hq rfl rfl (adv_q hq hT (ct_f (S := cS) (L := fN) (c0.1) (g10) rfl (fun _ => rfl)) ((fx_i g10 rfl).trans (c0.2.2.1)) e10 e610) ?_
            rintro v12 h12 ⟨rfl, g12, -⟩
            have hq := fx_q g12 hq
            refine xq_n 153 [] [] [.int (Int32.ofInt 0)] h12 [] 3 hq rfl trivial (fun hq => ?_)
            exact xq_ret rfl rfl rfl ⟨fx_t (fx_t (fx_0) (g10)) (fx_w g12 (fun _ _ => sS_c) (fun _ _ z => z)), Or.inr ⟨rfl, _, (fx_i g12 rfl).trans (f10), by omega, by omega⟩⟩
          · skip
            have w10_1t : hasn nn (nmW T NM) (tkw T n p) = true := eq_true_of_ne_false w10_1
            obtain ⟨rfl, c10⟩ := l10 (p) (o) (d) (by unfold kN; rw [if_neg w10_0, if_neg w10_1])
            have x10 : ptx h10 (P ++ [(1, nI (nmi nn (nmW T NM) (tkw T n p)))]) := by simpa only [List.append_assoc] using (n10 rfl).2
            have nk10 := (n10 rfl).1
            have kb10 := tkk_lt (T := T) (n := n) (p := p) hT
            have s610 := tks_le (T := T) (n := n) (p := p)
            refine xq_n 133 [0, 1] [(0, .ref 3), (1, .int (nI (tks T n p)))] [.int (nI (tks T n p)), .ref 3] h10 [false] 5 hq rfl ⟨(by decide), trivial⟩ (fun hq => ?_)
            refine xq_run hq rfl rfl (xq_and (co_q (st := (tks T n p)) (by omega) c10 hq) (co_n (st := (tks T n p)) (by omega) c10 hq)) ?_
            rintro v13 h13 ⟨⟨g13, l13, q13⟩, n13⟩
            have hq := fx_q g13 hq
            by_cases w13_0 : 120 ≤ o
            · obtain ⟨rfl, f13, y13, z13, e613, e13⟩ := q13 4 ((tks T n p)) (by unfold kC; rw [if_pos w13_0])
              refine xq_n 149 [0, 1, 2] [(0, .ref 3), (1, .int (nI (tks T n p))), (2, .int (Int32.ofInt 0))] [.ref 8] h13 [true] 7 hq rfl ⟨(by decide), trivial⟩ (fun hq => ?_)
              refine xq_run hq rfl rfl (adv_q hq hT (ct_f (S := cS) (L := fN) (c10.1) (g13) rfl (fun _ => rfl)) ((fx_i g13 rfl).trans (c10.2.2.1)) e13 e613) ?_
              rintro v14 h14 ⟨rfl, g14, -⟩
              have hq := fx_q g14 hq
              refine xq_n 153 [] [] [.int (Int32.ofInt 0)] h14 [] 3 hq rfl trivial (fun hq => ?_)
              exact xq_ret rfl rfl rfl ⟨fx_t (fx_t (fx_t (fx_0) (g10)) (g13)) (fx_w g14 (fun _ _ => sS_c) (fun _ _ z => z)), Or.inr ⟨rfl, _, (fx_i g14 rfl).trans (f13), by omega, by omega⟩⟩
            · skip
              obtain ⟨rfl, c13⟩ := l13 (p) (o + 1) (d) (by unfold kC; rw [if_neg w13_0])
              have kb13 := tkk_lt (T := T) (n := n) (p := p) hT
              have s613 := tks_le (T := T) (n := n) (p := p)
              refine xq_n 149 [0, 1, 2] [(0, .ref 3), (1, .int (nI (tks T n p))), (2, .int (Int32.ofInt 1))] [.ref 8] h13 [false] 8 hq rfl ⟨(by decide), trivial⟩ (fun hq => ?_)
              have nz15 : tkk T n p ≠ 0 := by omega
              have le15 := tke_le nz15
              refine xq_run hq rfl rfl (adv_q hq hT (c13.1) (c13.2.2.1) ((c13.2.1.2.2.1 (by omega)).1) (by omega)) ?_
              rintro v15 h15 ⟨rfl, g15, t15⟩
              have hq := fx_q g15 hq
              have kb15 := tkk_lt (T := T) (n := n) (p := tke T n p) hT
              have s615 := tks_le (T := T) (n := n) (p := tke T n p)
              refine xq_n 153 [] [] [.int (Int32.ofInt 1)] h15 [] 3 hq rfl trivial (fun hq => ?_)
              exact xq_ret rfl rfl rfl ⟨fx_t (fx_t (fx_t (fx_0) (g10)) (g13)) (fx_w g15 (fun _ _ => sS_c) (fun _ _ z => z)), Or.inl ⟨rfl, tke T n p, (o + 1), [(1, nI (nmi nn (nmW T NM) (tkw T n p)))], ⟨ct_f (S := cS) (L := fN) (c13.1) (fx_w g15 (fun _ _ => sS_c) (fun _ _ z => z)) rfl (fun _ => rfl), t15, (fx_i g15 rfl).trans (c13.2.2.1), (fx_i g15 rfl).trans (c13.2.2.2.1), c0.2.2.2.2.1, (fx_i g15 rfl).trans (c13.2.2.2.2.2.1), by omega, (fx_i g15 rfl).trans (c13.2.2.2.2.2.2.2.1), by omega, cn_f (S := cS) (L := fN) (c13.2.2.2.2.2.2.2.2.2.1) (fx_w g15 (fun _ _ => sS_c) (fun _ _ z => z)) rfl (fun _ => rfl) (fun _ => rfl), (fx_i g15 rfl).trans (c13.2.2.2.2.2.2.2.2.2.2)⟩, by omega, by omega, ptx_f (ptx_n (x10) n13) g15 rfl (fun _ => rfl) (fun _ => rfl), by first | omega | (simp only [List.length_append, List.length_cons, List.length_nil]; omega), VO_nam (by assumption) (by assumption) (by assumption) n16 (by omega) d12⟩⟩
    | false =>
      have z2 : (tkk T n p) = 40 := nq_nef (a := (tkk T n p)) (b := 40) (by omega) (by omega) c2
      refine xq_m 55 [0, 1] [(0, .ref 3), (1, .int (xg 0 h.2.1 8 4))] [.int (xg 0 h.2.1 8 4), .ref 3] h [true, false] 18 hq rfl ⟨(show xe_c .ne (xg 0 h.2.1 8 3) (Int32.ofInt 3) = true by rw [show (xg 0 h.2.1 8 3) = (nI (tkk T n p)) from c0.2.1.1]; exact c1), (show xe_c .ne (xg 0 h.2.1 8 3) 40 = false by rw [show (xg 0 h.2.1 8 3) = (nI (tkk T n p)) from c0.2.1.1]; exact c2), trivial⟩ (fun hq => ?_)
      rw [show (xg 0 h.2.1 8 4) = (nI (tks T n p)) from c0.2.1.2.1]
      refine xq_run hq rfl rfl (xq_and (co_q (st := (tks T n p)) (by omega) c0 hq) (co_n (st := (tks T n p)) (by omega) c0 hq)) ?_
      rintro v16 h16 ⟨⟨g16, l16, q16⟩, n16⟩
      have hq := fx_q g16 hq
      by_cases w16_0 : 120 ≤ o
      · obtain ⟨rfl, f16, y16, z16, e616, e16⟩ := q16 4 ((tks T n p)) (by unfold kC; rw [if_pos w16_0])
        refine xq_n 103 [] [] [.int (Int32.ofInt 0)] (xh_ui h16 3 6 ((xg 0 h16.2.1 3 6) - (Int32.ofInt 1))) [true] 12 hq rfl ⟨(by decide), trivial⟩ (fun _ => ?_)
        have hq : a_rq a_tb (xh_ui h16 3 6 ((xg 0 h16.2.1 3 6) - (Int32.ofInt 1))) := a_rq_ui hq
        exact xq_ret rfl rfl rfl ⟨fx_ui (fx_t (fx_0) (g16)) rfl, Or.inr ⟨rfl, _, (gx_k (by decide)).trans (f16), by omega, by omega⟩⟩
      · skip
        obtain ⟨rfl, c16⟩ := l16 (p) (o + 1) (d) (by unfold kC; rw [if_neg w16_0])
        have kb16 := tkk_lt (T := T) (n := n) (p := p) hT
        have s616 := tks_le (T := T) (n := n) (p := p)
        refine xq_n 64 [0, 1] [(0, .ref 3), (1, .int (nI (tks T n p)))] [.int 40, .ref 3] h16 [false] 5 hq rfl ⟨(by decide), trivial⟩ (fun hq => ?_)
        refine xq_run hq rfl rfl (xq_and (to_q (c := 40) (by decide) (by decide) c16 hq) (to_n (c := 40) (by decide) (by decide) c16 hq)) ?_
        rintro v17 h17 ⟨⟨g17, l17, q17⟩, n17⟩
        have hq := fx_q g17 hq
        by_cases w17_0 : tkk T n p ≠ 40
        · obtain ⟨rfl, f17, y17, z17, e617, e17⟩ := q17 1 (tks T n p) (by unfold kO; rw [if_pos w17_0])
          refine xq_n 103 [] [] [.int (Int32.ofInt 0)] (xh_ui h17 3 6 ((xg 0 h17.2.1 3 6) - (Int32.ofInt 1))) [true] 12 hq rfl ⟨(by decide), trivial⟩ (fun _ => ?_)
          have hq : a_rq a_tb (xh_ui h17 3 6 ((xg 0 h17.2.1 3 6) - (Int32.ofInt 1))) := a_rq_ui hq
          exact xq_ret rfl rfl rfl ⟨fx_ui (fx_t (fx_t (fx_0) (g16)) (g17)) rfl, Or.inr ⟨rfl, _, (gx_k (by decide)).trans (f17), by omega, by omega⟩⟩
        · skip
          by_cases w17_1 : 12 ≤ d
          · obtain ⟨rfl, f17, y17, z17, e617, e17⟩ := q17 4 (tks T n p) (by unfold kO; rw [if_neg w17_0, if_pos w17_1])
            refine xq_n 103 [] [] [.int (Int32.ofInt 0)] (xh_ui h17 3 6 ((xg 0 h17.2.1 3 6) - (Int32.ofInt 1))) [true] 12 hq rfl ⟨(by decide), trivial⟩ (fun _ => ?_)
            have hq : a_rq a_tb (xh_ui h17 3 6 ((xg 0 h17.2.1 3 6) - (Int32.ofInt 1))) := a_rq_ui hq
            exact xq_ret rfl rfl rfl ⟨fx_ui (fx_t (fx_t (fx_0) (g16)) (g17)) rfl, Or.inr ⟨rfl, _, (gx_k (by decide)).trans (f17), by omega, by omega⟩⟩
          · skip
            obtain ⟨rfl, c17⟩ := l17 (tke T n p) ((o + 1)) (d + 1) (by unfold kO; rw [if_neg w17_0, if_neg w17_1])
            have kb17 := tkk_lt (T := T) (n := n) (p := tke T n p) hT
            have s617 := tks_le (T := T) (n := n) (p := tke T n p)
            refine xq_n 71 [0, 1] [(0, .ref 3), (1, .int (nI (tks T n p)))] [.ref 3] h17 [false] 4 hq rfl ⟨(by decide), trivial⟩ (fun hq => ?_)
            refine xq_run hq rfl rfl (ir _ _ _ _ (P) c17 (ptx_n (ptx_n (pt) n16) n17) (by omega) (by omega) (by omega) hq) ?_
            rintro v18 h18 ⟨g18, ⟨rfl, pq18, oq18, cq18, c18, lt18, le18, x18, ln18, G18⟩ | ⟨rfl, kq18, f18, ka18, kz18⟩⟩
            · have hq := fx_q g18 hq
              have kb18 := tkk_lt (T := T) (n := n) (p := pq18) hT
              have s618 := tks_le (T := T) (n := n) (p := pq18)
              refine xq_n 80 [0, 1] [(0, .ref 3), (1, .int (nI (tks T n p)))] [.int 41, .ref 3] h18 [false] 5 hq rfl ⟨(by decide), trivial⟩ (fun hq => ?_)
              refine xq_run hq rfl rfl (xq_and (ts_q (c := 41) (by decide) (by decide) c18 hq) (ts_n (c := 41) (by decide) (by decide) c18 hq)) ?_
              rintro v19 h19 ⟨⟨g19, l19, q19⟩, n19⟩
              have hq := fx_q g19 hq
              by_cases w19_0 : tkk T n pq18 ≠ 41
              · obtain ⟨rfl, f19, y19, z19, e619, e19⟩ := q19 1 (tks T n pq18) (by unfold kS; rw [if_pos w19_0])
                refine xq_n 103 [] [] [.int (Int32.ofInt 0)] (xh_ui h19 3 6 ((xg 0 h19.2.1 3 6) - (Int32.ofInt 1))) [true] 12 hq rfl ⟨(by decide), trivial⟩ (fun _ => ?_)
                have hq : a_rq a_tb (xh_ui h19 3 6 ((xg 0 h19.2.1 3 6) - (Int32.ofInt 1))) := a_rq_ui hq
                exact xq_ret rfl rfl rfl ⟨fx_ui (fx_t (fx_t (fx_t (fx_t (fx_0) (g16)) (g17)) (g18)) (g19)) rfl, Or.inr ⟨rfl, _, (gx_k (by decide)).trans (f19), by omega, by omega⟩⟩
              · skip
                obtain ⟨rfl, c19⟩ := l19 (tke T n pq18) (oq18) ((d + 1)) (by unfold kS; rw [if_neg w19_0])
                have kb19 := tkk_lt (T := T) (n := n) (p := tke T n pq18) hT
                have s619 := tks_le (T := T) (n := n) (p := tke T n pq18)
                refine xq_n 103 [] [] [.int (Int32.ofInt 1)] (xh_ui h19 3 6 ((xg 0 h19.2.1 3 6) - (Int32.ofInt 1))) [false] 13 hq rfl ⟨(by decide), trivial⟩ (fun _ => ?_)
                rw [show (xg 0 h19.2.1 3 6) = (nI (d + 1)) from c19.2.2.2.2.2.2.2.1]
                rw [show ((nI (d + 1)) - (Int32.ofInt 1)) = nI ((d + 1) - 1) from nI_dec1 (by omega)]
                rw [show (nI ((d + 1) - 1)) = nI d from (by rw [Nat.add_sub_cancel])]
                have hq : a_rq a_tb (xh_ui h19 3 6 (nI d)) := a_rq_ui hq
                exact xq_ret rfl rfl rfl ⟨fx_ui (fx_t (fx_t (fx_t (fx_t (fx_0) (g16)) (g17)) (g18)) (g19)) rfl, Or.inl ⟨rfl, tke T n pq18, oq18, cq18, ⟨ct_f (S := cS) (L := fN) (c19.1) (fx_ui fx_0 rfl) rfl (fun _ => rfl), tok_f (S := fun c k => Nat.beq c 3) (L := fN) (c19.2.1) (fx_ui fx_0 rfl) (fun _ => rfl), (gx_o (by decide)).trans (c19.2.2.1), (gx_k (by decide)).trans (c19.2.2.2.1), c0.2.2.2.2.1, (gx_k (by decide)).trans (c19.2.2.2.2.2.1), by omega, gx_s, by omega, cn_f (S := cS) (L := fN) (c19.2.2.2.2.2.2.2.2.2.1) (fx_ui fx_0 rfl) rfl (fun _ => rfl) (fun _ => rfl), (gx_k (by decide)).trans (c19.2.2.2.2.2.2.2.2.2.2)⟩, by omega, by omega, ptx_f (S := fun c k => Nat.beq c 3) (L := fN) (ptx_n (x18) n19) (fx_ui fx_0 rfl) rfl (fun _ => rfl) (fun _ => rfl), by first | omega | (simp only [List.length_append, List.length_cons, List.length_nil]; omega), VO_par (by omega) (by omega) (by omega) G18.2.2 G18.1 G18.2.1 (by omega)⟩⟩
            · have hq := fx_q g18 hq
              refine xq_n 103 [] [] [.int (Int32.ofInt 0)] (xh_ui h18 3 6 ((xg 0 h18.2.1 3 6) - (Int32.ofInt 1))) [true] 12 hq rfl ⟨(by decide), trivial⟩ (fun _ => ?_)
              have hq : a_rq a_tb (xh_ui h18 3 6 ((xg 0 h18.2.1 3 6) - (Int32.ofInt 1))) := a_rq_ui hq
              exact xq_ret rfl rfl rfl ⟨fx_ui (fx_t (fx_t (fx_t (fx_0) (g16)) (g17)) (g18)) rfl, Or.inr ⟨rfl, _, (gx_k (by decide)).trans (f18), by omega, by omega⟩⟩
  | false =>
    have z1 : (tkk T n p) = 3 := nq_nef (a := (tkk T n p)) (b := 3) (by omega) (by omega) c1
    refine xq_m 31 [0, 1, 2] [(0, .ref 3), (1, .int (xg 0 h.2.1 8 4)), (2, .int (xg 0 h.2.1 8 6))] [.ref 8] h [false] 17 hq rfl ⟨(show xe_c .ne (xg 0 h.2.1 8 3) (Int32.ofInt 3) = false by rw [show (xg 0 h.2.1 8 3) = (nI (tkk T n p)) from c0.2.1.1]; exact c1), trivial⟩ (fun hq => ?_)
    rw [show (xg 0 h.2.1 8 4) = (nI (tks T n p)) from c0.2.1.2.1]
    rw [show (xg 0 h.2.1 8 6) = (nI (tkn T n p)) from c0.2.1.2.2.2.1 (by omega)]
    have nz20 : tkk T n p ≠ 0 := by omega
    have le20 := tke_le nz20
    refine xq_run hq rfl rfl (adv_q hq hT (c0.1) (c0.2.2.1) ((c0.2.1.2.2.1 (by omega)).1) (by omega)) ?_
    rintro v20 h20 ⟨rfl, g20, t20⟩
    have hq := fx_q g20 hq
    have kb20 := tkk_lt (T := T) (n := n) (p := tke T n p) hT
    have s620 := tks_le (T := T) (n := n) (p := tke T n p)
    refine xq_n 37 [0, 1, 2] [(0, .ref 3), (1, .int (nI (tks T n p))), (2, .int (nI (tkn T n p)))] [.int (nI (tkn T n p)), .int (nI (tks T n p)), .ref 3] h20 [] 5 hq rfl trivial (fun hq => ?_)
    refine xq_run hq rfl rfl (iq _ _ _ _ (tks T n p) (tkn T n p) (P) ⟨ct_f (S := cS) (L := fN) (c0.1) (fx_w g20 (fun _ _ => sS_c) (fun _ _ z => z)) rfl (fun _ => rfl), t20, (fx_i g20 rfl).trans (c0.2.2.1), (fx_i g20 rfl).trans (c0.2.2.2.1), c0.2.2.2.2.1, (fx_i g20 rfl).trans (c0.2.2.2.2.2.1), by omega, (fx_i g20 rfl).trans (c0.2.2.2.2.2.2.2.1), by omega, cn_f (S := cS) (L := fN) (c0.2.2.2.2.2.2.2.2.2.1) (fx_w g20 (fun _ _ => sS_c) (fun _ _ z => z)) rfl (fun _ => rfl) (fun _ => rfl), (fx_i g20 rfl).trans (c0.2.2.2.2.2.2.2.2.2.2)⟩ (ptx_f (pt) g20 rfl (fun _ => rfl) (fun _ => rfl)) (by omega) (by omega) (by omega) (by omega) hq) ?_
    rintro v21 h21 ⟨g21, ⟨rfl, pq21, oq21, cq21, c21, lt21, le21, x21, ln21, G21⟩ | ⟨rfl, kq21, f21, ka21, kz21⟩⟩
    · have hq := fx_q g21 hq
      have kb21 := tkk_lt (T := T) (n := n) (p := pq21) hT
      have s621 := tks_le (T := T) (n := n) (p := pq21)
      exact xq_ret rfl rfl rfl ⟨fx_t (fx_t (fx_0) (fx_w g20 (fun _ _ => sS_c) (fun _ _ z => z))) (g21), Or.inl ⟨rfl, pq21, oq21, cq21, c21, by omega, by omega, x21, by first | omega | (simp only [List.length_append, List.length_cons, List.length_nil]; omega), VO_quo (by omega) G21⟩⟩
    · have hq := fx_q g21 hq
      exact xq_ret rfl rfl rfl ⟨fx_t (fx_t (fx_0) (fx_w g20 (fun _ _ => sS_c) (fun _ _ z => z))) (g21), Or.inr ⟨rfl, _, f21, by omega, by omega⟩⟩
set_option maxRecDepth 100000 in
set_option maxHeartbeats 4000000 in
theorem item_p {f : Nat} (io : pOne T n mem nn NM f) (iq : pQuota T n mem nn NM f) : pItem T n mem nn NM (f + 1) := by
  intro h p o d P c0 pt pl o6 d12 hq
  have hT : ∀ k, k < n → T k < 256 := fun k hk' => (c0.1.2.2 k hk').1
  have kb := tkk_lt (T := T) (n := n) (p := p) hT
  have n6 := c0.1.2.1
  have s6 := tks_le (T := T) (n := n) (p := p)
  have mm := c0.2.2.2.2.1
  have n16 := c0.2.2.2.2.2.2.2.2.2.1.2.1
  have t9 : tkn T n p ≤ 999 := vf_999
  cases c1 : xe_c .ne (nI (tkk T n p)) (Int32.ofInt 3) with
  | true =>
    have z1 : (tkk T n p) ≠ 3 := nq_net (a := (tkk T n p)) (b := 3) (by omega) (by omega) c1
    refine xq_m 107 [0, 1] [(0, .ref 3), (1, .int (Int32.ofInt 1))] [.ref 3] h [true] 10 hq rfl ⟨(show xe_c .ne (xg 0 h.2.1 8 3) (Int32.ofInt 3) = true by rw [show (xg 0 h.2.1 8 3) = (nI (tkk T n p)) from c0.2.1.1]; exact c1), trivial⟩ (fun hq => ?_)
    refine xq_run hq rfl rfl (io _ _ _ _ (P) c0 (pt) (by omega) (by omega) (by omega) hq) ?_
    rintro v2 h2 ⟨g2, ⟨rfl, pq2, oq2, cq2, c2, lt2, le2, x2, ln2, G2⟩ | ⟨rfl, kq2, f2, ka2, kz2⟩⟩
    · have hq := fx_q g2 hq
      have kb2 := tkk_lt (T := T) (n := n) (p := pq2) hT
      have s62 := tks_le (T := T) (n := n) (p := pq2)
      refine xq_n 117 [0, 1, 2] [(0, .ref 3), (1, .int (Int32.ofInt 1)), (2, .int (Int32.ofInt 1))] [.int (Int32.ofInt 1), .int (Int32.ofInt 5), .ref 4] h2 [] 7 hq rfl trivial (fun hq => ?_)
      refine xq_run hq rfl rfl (pad_q (c := 5) (y := Int32.ofInt 1) (x2) (by first | omega | (simp only [List.length_append, List.length_cons, List.length_nil]; omega)) hq) ?_
      rintro v3 h3 ⟨rfl, g3, x3⟩
      have hq := fx_q g3 hq
      have x3 : ptx h3 (P ++ (cq2 ++ [(5, Int32.ofInt 1)])) := by simpa only [List.append_assoc] using x3
      refine xq_n 121 [] [] [.int (Int32.ofInt 1)] h3 [] 3 hq rfl trivial (fun hq => ?_)
      exact xq_ret rfl rfl rfl ⟨fx_t (fx_t (fx_0) (g2)) (fx_w g3 (fun _ _ => aS_c) (fun _ _ z => z)), Or.inl ⟨rfl, pq2, oq2, (cq2 ++ [(5, Int32.ofInt 1)]), ⟨ct_f (S := cS) (L := fN) (c2.1) (fx_w g3 (fun _ _ => aS_c) (fun _ _ z => z)) rfl (fun _ => rfl), tok_f (c2.2.1) g3 (fun _ => rfl), (fx_i g3 rfl).trans (c2.2.2.1), (fx_i g3 rfl).trans (c2.2.2.2.1), c0.2.2.2.2.1, (fx_i g3 rfl).trans (c2.2.2.2.2.2.1), by omega, (fx_i g3 rfl).trans (c2.2.2.2.2.2.2.2.1), by omega, cn_f (S := cS) (L := fN) (c2.2.2.2.2.2.2.2.2.2.1) (fx_w g3 (fun _ _ => aS_c) (fun _ _ z => z)) rfl (fun _ => rfl) (fun _ => rfl), (fx_i g3 rfl).trans (c2.2.2.2.2.2.2.2.2.2.2)⟩, by omega, by omega, x3, by first | omega | (simp only [List.length_append, List.length_cons, List.length_nil]; omega), VI_1 (by omega) G2⟩⟩
    · have hq := fx_q g2 hq
      refine xq_n 117 [0, 1, 2] [(0, .ref 3), (1, .int (Int32.ofInt 1)), (2, .int (Int32.ofInt 0))] [.int (Int32.ofInt 1), .int (Int32.ofInt 5), .ref 4] h2 [] 7 hq rfl trivial (fun hq => ?_)
      refine xq_run hq rfl rfl (add_q hq) ?_
      rintro v4 h4 ⟨rfl, g4⟩
      have hq := fx_q g4 hq
      refine xq_n 121 [] [] [.int (Int32.ofInt 0)] h4 [] 3 hq rfl trivial (fun hq => ?_)
      exact xq_ret rfl rfl rfl ⟨fx_t (fx_t (fx_0) (g2)) (fx_w g4 (fun _ _ => aS_c) (fun _ _ z => z)), Or.inr ⟨rfl, _, (fx_i g4 rfl).trans (f2), by omega, by omega⟩⟩
  | false =>
    have z1 : (tkk T n p) = 3 := nq_nef (a := (tkk T n p)) (b := 3) (by omega) (by omega) c1
    refine xq_m 34 [0, 1, 3, 4] [(0, .ref 3), (1, .int (Int32.ofInt 1)), (3, .int (xg 0 h.2.1 8 4)), (4, .int (xg 0 h.2.1 8 6))] [.ref 8] h [false] 19 hq rfl ⟨(show xe_c .ne (xg 0 h.2.1 8 3) (Int32.ofInt 3) = false by rw [show (xg 0 h.2.1 8 3) = (nI (tkk T n p)) from c0.2.1.1]; exact c1), trivial⟩ (fun hq => ?_)
    rw [show (xg 0 h.2.1 8 4) = (nI (tks T n p)) from c0.2.1.2.1]
    rw [show (xg 0 h.2.1 8 6) = (nI (tkn T n p)) from c0.2.1.2.2.2.1 (by omega)]
    have nz5 : tkk T n p ≠ 0 := by omega
    have le5 := tke_le nz5
    refine xq_run hq rfl rfl (adv_q hq hT (c0.1) (c0.2.2.1) ((c0.2.1.2.2.1 (by omega)).1) (by omega)) ?_
    rintro v5 h5 ⟨rfl, g5, t5⟩
    have hq := fx_q g5 hq
    have kb5 := tkk_lt (T := T) (n := n) (p := tke T n p) hT
    have s65 := tks_le (T := T) (n := n) (p := tke T n p)
    cases c6 : xe_c .ne (nI (tkk T n (tke T n p))) 42 with
    | true =>
      have z6 : (tkk T n (tke T n p)) ≠ 42 := nq_net (a := (tkk T n (tke T n p))) (b := 42) (by omega) (by omega) c6
      refine xq_n 73 [0, 1, 3, 4] [(0, .ref 3), (1, .int (Int32.ofInt 1)), (3, .int (nI (tks T n p))), (4, .int (nI (tkn T n p)))] [.float 6, .ref 8] h5 [true] 10 hq rfl ⟨(show xe_c .ne (xg 0 h5.2.1 8 3) 42 = true by rw [show (xg 0 h5.2.1 8 3) = (nI (tkk T n (tke T n p))) from t5.1]; exact c6), trivial⟩ (fun hq => ?_)
      refine xq_run hq rfl rfl (iw4_q (ct_f (S := cS) (L := fN) (c0.1) (fx_w g5 (fun _ _ => sS_c) (fun _ _ z => z)) rfl (fun _ => rfl)) (t5) hq) ?_
      rintro v7 h_v7 ⟨rfl, rfl⟩
      cases b8 : (ky T n (tke T n p) 4) with
      | true =>
        have db8 := of_decide_eq_true b8
        refine xq_n 83 [0, 1, 3, 4] [(0, .ref 3), (1, .int (Int32.ofInt 1)), (3, .int (nI (tks T n p))), (4, .int (nI (tkn T n p)))] [.int (nI (tkn T n p)), .int (nI (tks T n p)), .ref 3] h5 [false] 6 hq rfl ⟨rfl, trivial⟩ (fun hq => ?_)
        refine xq_run hq rfl rfl (iq _ _ _ _ (tks T n p) (tkn T n p) (P) ⟨ct_f (S := cS) (L := fN) (c0.1) (fx_w g5 (fun _ _ => sS_c) (fun _ _ z => z)) rfl (fun _ => rfl), t5, (fx_i g5 rfl).trans (c0.2.2.1), (fx_i g5 rfl).trans (c0.2.2.2.1), c0.2.2.2.2.1, (fx_i g5 rfl).trans (c0.2.2.2.2.2.1), by omega, (fx_i g5 rfl).trans (c0.2.2.2.2.2.2.2.1), by omega, cn_f (S := cS) (L := fN) (c0.2.2.2.2.2.2.2.2.2.1) (fx_w g5 (fun _ _ => sS_c) (fun _ _ z => z)) rfl (fun _ => rfl) (fun _ => rfl), (fx_i g5 rfl).trans (c0.2.2.2.2.2.2.2.2.2.2)⟩ (ptx_f (pt) g5 rfl (fun _ => rfl) (fun _ => rfl)) (by omega) (by omega) (by omega) (by omega) hq) ?_
        rintro v9 h9 ⟨g9, ⟨rfl, pq9, oq9, cq9, c9, lt9, le9, x9, ln9, G9⟩ | ⟨rfl, kq9, f9, ka9, kz9⟩⟩
        · have hq := fx_q g9 hq
          have kb9 := tkk_lt (T := T) (n := n) (p := pq9) hT
          have s69 := tks_le (T := T) (n := n) (p := pq9)
          refine xq_n 117 [0, 1, 2, 3, 4] [(0, .ref 3), (1, .int (Int32.ofInt 1)), (2, .int (Int32.ofInt 1)), (3, .int (nI (tks T n p))), (4, .int (nI (tkn T n p)))] [.int (Int32.ofInt 1), .int (Int32.ofInt 5), .ref 4] h9 [] 9 hq rfl trivial (fun hq => ?_)
          refine xq_run hq rfl rfl (pad_q (c := 5) (y := Int32.ofInt 1) (x9) (by first | omega | (simp only [List.length_append, List.length_cons, List.length_nil]; omega)) hq) ?_
          rintro v10 h10 ⟨rfl, g10, x10⟩
          have hq := fx_q g10 hq
          have x10 : ptx h10 (P ++ (cq9 ++ [(5, Int32.ofInt 1)])) := by simpa only [List.append_assoc] using x10
          refine xq_n 121 [] [] [.int (Int32.ofInt 1)] h10 [] 3 hq rfl trivial (fun hq => ?_)
          exact xq_ret rfl rfl rfl ⟨fx_t (fx_t (fx_t (fx_0) (fx_w g5 (fun _ _ => sS_c) (fun _ _ z => z))) (g9)) (fx_w g10 (fun _ _ => aS_c) (fun _ _ z => z)), Or.inl ⟨rfl, pq9, oq9, (cq9 ++ [(5, Int32.ofInt 1)]), ⟨ct_f (S := cS) (L := fN) (c9.1) (fx_w g10 (fun _ _ => aS_c) (fun _ _ z => z)) rfl (fun _ => rfl), tok_f (c9.2.1) g10 (fun _ => rfl), (fx_i g10 rfl).trans (c9.2.2.1), (fx_i g10 rfl).trans (c9.2.2.2.1), c0.2.2.2.2.1, (fx_i g10 rfl).trans (c9.2.2.2.2.2.1), by omega, (fx_i g10 rfl).trans (c9.2.2.2.2.2.2.2.1), by omega, cn_f (S := cS) (L := fN) (c9.2.2.2.2.2.2.2.2.2.1) (fx_w g10 (fun _ _ => aS_c) (fun _ _ z => z)) rfl (fun _ => rfl) (fun _ => rfl), (fx_i g10 rfl).trans (c9.2.2.2.2.2.2.2.2.2.2)⟩, by omega, by omega, x10, by first | omega | (simp only [List.length_append, List.length_cons, List.length_nil]; omega), VI_q (by omega) (by omega) (by assumption) G9⟩⟩
        · have hq := fx_q g9 hq
          refine xq_n 117 [0, 1, 2, 3, 4] [(0, .ref 3), (1, .int (Int32.ofInt 1)), (2, .int (Int32.ofInt 0)), (3, .int (nI (tks T n p))), (4, .int (nI (tkn T n p)))] [.int (Int32.ofInt 1), .int (Int32.ofInt 5), .ref 4] h9 [] 9 hq rfl trivial (fun hq => ?_)
          refine xq_run hq rfl rfl (add_q hq) ?_
          rintro v11 h11 ⟨rfl, g11⟩
          have hq := fx_q g11 hq
          refine xq_n 121 [] [] [.int (Int32.ofInt 0)] h11 [] 3 hq rfl trivial (fun hq => ?_)
          exact xq_ret rfl rfl rfl ⟨fx_t (fx_t (fx_t (fx_0) (fx_w g5 (fun _ _ => sS_c) (fun _ _ z => z))) (g9)) (fx_w g11 (fun _ _ => aS_c) (fun _ _ z => z)), Or.inr ⟨rfl, _, (fx_i g11 rfl).trans (f9), by omega, by omega⟩⟩
      | false =>
        have db8 := of_decide_eq_false b8
        refine xq_n 99 [0, 1, 3, 4] [(0, .ref 3), (1, .int (Int32.ofInt 1)), (3, .int (nI (tks T n p))), (4, .int (nI (tkn T n p)))] [.int (xg 0 h5.2.1 8 4), .int (Int32.ofInt 1), .ref 3] h5 [true] 8 hq rfl ⟨rfl, trivial⟩ (fun hq => ?_)
        rw [show (xg 0 h5.2.1 8 4) = (nI (tks T n (tke T n p))) from t5.2.1]
        refine xq_run hq rfl rfl (fail_q (k := 1) (pl := (tks T n (tke T n p))) hq) ?_
        rintro v12 h12 ⟨rfl, g12, f12, l12⟩
        have hq := fx_q g12 hq
        refine xq_n 117 [0, 1, 2, 3, 4] [(0, .ref 3), (1, .int (Int32.ofInt 1)), (2, .int (Int32.ofInt 0)), (3, .int (nI (tks T n p))), (4, .int (nI (tkn T n p)))] [.int (Int32.ofInt 1), .int (Int32.ofInt 5), .ref 4] h12 [] 8 hq rfl trivial (fun hq => ?_)
        refine xq_run hq rfl rfl (add_q hq) ?_
        rintro v13 h13 ⟨rfl, g13⟩
        have hq := fx_q g13 hq
        refine xq_n 121 [] [] [.int (Int32.ofInt 0)] h13 [] 3 hq rfl trivial (fun hq => ?_)
        exact xq_ret rfl rfl rfl ⟨fx_t (fx_t (fx_t (fx_0) (fx_w g5 (fun _ _ => sS_c) (fun _ _ z => z))) (fx_w g12 (fun _ _ => fS_c) (fun _ _ z => z))) (fx_w g13 (fun _ _ => aS_c) (fun _ _ z => z)), Or.inr ⟨rfl, _, (fx_i g13 rfl).trans (f12), by omega, by omega⟩⟩
    | false =>
      have z6 : (tkk T n (tke T n p)) = 42 := nq_nef (a := (tkk T n (tke T n p))) (b := 42) (by omega) (by omega) c6
      refine xq_n 56 [0, 1, 3, 4] [(0, .ref 3), (1, .int (nI (tkn T n p))), (3, .int (nI (tks T n p))), (4, .int (nI (tkn T n p)))] [.ref 8] h5 [false] 11 hq rfl ⟨(show xe_c .ne (xg 0 h5.2.1 8 3) 42 = false by rw [show (xg 0 h5.2.1 8 3) = (nI (tkk T n (tke T n p))) from t5.1]; exact c6), trivial⟩ (fun hq => ?_)
      have nz14 : tkk T n (tke T n p) ≠ 0 := by omega
      have le14 := tke_le nz14
      refine xq_run hq rfl rfl (adv_q hq hT (ct_f (S := cS) (L := fN) (c0.1) (fx_w g5 (fun _ _ => sS_c) (fun _ _ z => z)) rfl (fun _ => rfl)) ((fx_i g5 rfl).trans (c0.2.2.1)) ((t5.2.2.1 (by omega)).1) (by omega)) ?_
      rintro v14 h14 ⟨rfl, g14, t14⟩
      have hq := fx_q g14 hq
      have kb14 := tkk_lt (T := T) (n := n) (p := tke T n (tke T n p)) hT
      have s614 := tks_le (T := T) (n := n) (p := tke T n (tke T n p))
      refine xq_n 60 [0, 1, 3, 4] [(0, .ref 3), (1, .int (nI (tkn T n p))), (3, .int (nI (tks T n p))), (4, .int (nI (tkn T n p)))] [.ref 3] h14 [] 3 hq rfl trivial (fun hq => ?_)
      refine xq_run hq rfl rfl (io _ _ _ _ (P) ⟨ct_f (S := cS) (L := fN) (ct_f (S := cS) (L := fN) (c0.1) (fx_w g5 (fun _ _ => sS_c) (fun _ _ z => z)) rfl (fun _ => rfl)) (fx_w g14 (fun _ _ => sS_c) (fun _ _ z => z)) rfl (fun _ => rfl), t14, (fx_i g14 rfl).trans ((fx_i g5 rfl).trans (c0.2.2.1)), (fx_i g14 rfl).trans ((fx_i g5 rfl).trans (c0.2.2.2.1)), c0.2.2.2.2.1, (fx_i g14 rfl).trans ((fx_i g5 rfl).trans (c0.2.2.2.2.2.1)), by omega, (fx_i g14 rfl).trans ((fx_i g5 rfl).trans (c0.2.2.2.2.2.2.2.1)), by omega, cn_f (S := cS) (L := fN) (cn_f (S := cS) (L := fN) (c0.2.2.2.2.2.2.2.2.2.1) (fx_w g5 (fun _ _ => sS_c) (fun _ _ z => z)) rfl (fun _ => rfl) (fun _ => rfl)) (fx_w g14 (fun _ _ => sS_c) (fun _ _ z => z)) rfl (fun _ => rfl) (fun _ => rfl), (fx_i g14 rfl).trans ((fx_i g5 rfl).trans (c0.2.2.2.2.2.2.2.2.2.2))⟩ (ptx_f (ptx_f (pt) g5 rfl (fun _ => rfl) (fun _ => rfl)) g14 rfl (fun _ => rfl) (fun _ => rfl)) (by omega) (by omega) (by omega) hq) ?_
      rintro v15 h15 ⟨g15, ⟨rfl, pq15, oq15, cq15, c15, lt15, le15, x15, ln15, G15⟩ | ⟨rfl, kq15, f15, ka15, kz15⟩⟩
      · have hq := fx_q g15 hq
        have kb15 := tkk_lt (T := T) (n := n) (p := pq15) hT
        have s615 := tks_le (T := T) (n := n) (p := pq15)
        refine xq_n 117 [0, 1, 2, 3, 4] [(0, .ref 3), (1, .int (nI (tkn T n p))), (2, .int (Int32.ofInt 1)), (3, .int (nI (tks T n p))), (4, .int (nI (tkn T n p)))] [.int (nI (tkn T n p)), .int (Int32.ofInt 5), .ref 4] h15 [] 9 hq rfl trivial (fun hq => ?_)
        refine xq_run hq rfl rfl (pad_q (c := 5) (y := (nI (tkn T n p))) (x15) (by first | omega | (simp only [List.length_append, List.length_cons, List.length_nil]; omega)) hq) ?_
        rintro v16 h16 ⟨rfl, g16, x16⟩
        have hq := fx_q g16 hq
        have x16 : ptx h16 (P ++ (cq15 ++ [(5, (nI (tkn T n p)))])) := by simpa only [List.append_assoc] using x16
        refine xq_n 121 [] [] [.int (Int32.ofInt 1)] h16 [] 3 hq rfl trivial (fun hq => ?_)
        exact xq_ret rfl rfl rfl ⟨fx_t (fx_t (fx_t (fx_t (fx_0) (fx_w g5 (fun _ _ => sS_c) (fun _ _ z => z))) (fx_w g14 (fun _ _ => sS_c) (fun _ _ z => z))) (g15)) (fx_w g16 (fun _ _ => aS_c) (fun _ _ z => z)), Or.inl ⟨rfl, pq15, oq15, (cq15 ++ [(5, (nI (tkn T n p)))]), ⟨ct_f (S := cS) (L := fN) (c15.1) (fx_w g16 (fun _ _ => aS_c) (fun _ _ z => z)) rfl (fun _ => rfl), tok_f (c15.2.1) g16 (fun _ => rfl), (fx_i g16 rfl).trans (c15.2.2.1), (fx_i g16 rfl).trans (c15.2.2.2.1), c0.2.2.2.2.1, (fx_i g16 rfl).trans (c15.2.2.2.2.2.1), by omega, (fx_i g16 rfl).trans (c15.2.2.2.2.2.2.2.1), by omega, cn_f (S := cS) (L := fN) (c15.2.2.2.2.2.2.2.2.2.1) (fx_w g16 (fun _ _ => aS_c) (fun _ _ z => z)) rfl (fun _ => rfl) (fun _ => rfl), (fx_i g16 rfl).trans (c15.2.2.2.2.2.2.2.2.2.2)⟩, by omega, by omega, x16, by first | omega | (simp only [List.length_append, List.length_cons, List.length_nil]; omega), VI_w (by omega) (by omega) G15⟩⟩
      · have hq := fx_q g15 hq
        refine xq_n 117 [0, 1, 2, 3, 4] [(0, .ref 3), (1, .int (nI (tkn T n p))), (2, .int (Int32.ofInt 0)), (3, .int (nI (tks T n p))), (4, .int (nI (tkn T n p)))] [.int (nI (tkn T n p)), .int (Int32.ofInt 5), .ref 4] h15 [] 9 hq rfl trivial (fun hq => ?_)
        refine xq_run hq rfl rfl (add_q hq) ?_
        rintro v17 h17 ⟨rfl, g17⟩
        have hq := fx_q g17 hq
        refine xq_n 121 [] [] [.int (Int32.ofInt 0)] h17 [] 3 hq rfl trivial (fun hq => ?_)
        exact xq_ret rfl rfl rfl ⟨fx_t (fx_t (fx_t (fx_t (fx_0) (fx_w g5 (fun _ _ => sS_c) (fun _ _ z => z))) (fx_w g14 (fun _ _ => sS_c) (fun _ _ z => z))) (g15)) (fx_w g17 (fun _ _ => aS_c) (fun _ _ z => z)), Or.inr ⟨rfl, _, (fx_i g17 rfl).trans (f15), by omega, by omega⟩⟩
set_option maxRecDepth 100000 in
set_option maxHeartbeats 4000000 in
theorem all_lpp {f p o d : Nat} {P : cdL} {h0 : xh_H} (io : pOne T n mem nn NM f) (o6 : o ≤ 120) (d12 : d ≤ 12) (pl : P.length ≤ 3 * o + 16) : ∀ g, g ≤ f → ∀ (h : xh_H) (i p1 o1 : Nat) (cz : cdL), cr h T n mem nn NM p1 o1 d → fx cS fN h0 h → ptx h (P ++ cz) → o + 1 + i ≤ o1 → o1 ≤ 120 → cz.length + 2 ≤ 3 * (o1 - o) → VA T n mem nn (nmW T NM) d p o p1 o1 cz → a_rq a_tb h → xq g xi_X4_readAll xmi_X4_readAll 7 [(0, .ref 3), (1, .int (Int32.ofInt 1)), (2, .int (nI i))] [] h (rP h0 T n mem nn NM o d P 2 (fun p' o' c => ky T n p' 2 = false ∧ VA T n mem nn (nmW T NM) d p o p' o' c)) := by
  intro g
  induction g with
  | zero => intros; exact xq_0
  | succ g ihg =>
    intro hg h i p1 o1 cz c0 g0 pt hi ho hc GG hq
    have hT : ∀ k, k < n → T k < 256 := fun k hk' => (c0.1.2.2 k hk').1
    have kb := tkk_lt (T := T) (n := n) (p := p1) hT
    have n6 := c0.1.2.1
    have s6 := tks_le (T := T) (n := n) (p := p1)
    have mm := c0.2.2.2.2.1
    have n16 := c0.2.2.2.2.2.2.2.2.2.1.2.1
    cases c1 : xe_c .gt (nI i) 120 with
    | true =>
      have z1 : i > 120 := nq_gtt (a := i) (b := 120) (by omega) (by omega) c1
      omega
    | false =>
      have z1 : i ≤ 120 := nq_gtf (a := i) (b := 120) (by omega) (by omega) c1
      refine xq_m 23 [0, 1, 2] [(0, .ref 3), (1, .int (Int32.ofInt 1)), (2, .int (nI i))] [.float 4, .ref 8] h [false, false] 10 hq rfl ⟨c1, (by decide), trivial⟩ (fun hq => ?_)
      refine xq_run hq rfl rfl (iw2_q (c0.1) (c0.2.1) hq) ?_
      rintro v2 h_v2 ⟨rfl, rfl⟩
      cases b3 : (ky T n p1 2) with
      | true =>
        have db3 := of_decide_eq_true b3
        refine xq_n 33 [0, 1, 2] [(0, .ref 3), (1, .int (Int32.ofInt 1)), (2, .int (nI i))] [.ref 8] h [false] 5 hq rfl ⟨rfl, trivial⟩ (fun hq => ?_)
        have nz4 : tkk T n p1 ≠ 0 := by omega
        have le4 := tke_le nz4
        refine xq_run hq rfl rfl (adv_q hq hT (c0.1) (c0.2.2.1) ((c0.2.1.2.2.1 (by omega)).1) (by omega)) ?_
        rintro v4 h4 ⟨rfl, g4, t4⟩
        have hq := fx_q g4 hq
        have kb4 := tkk_lt (T := T) (n := n) (p := tke T n p1) hT
        have s64 := tks_le (T := T) (n := n) (p := tke T n p1)
        refine xq_n 37 [0, 1, 2] [(0, .ref 3), (1, .int (Int32.ofInt 1)), (2, .int (nI i))] [.ref 3] h4 [] 3 hq rfl trivial (fun hq => ?_)
        refine xq_run hq rfl rfl (xq_le (by omega) (io _ _ _ _ (P ++ cz) ⟨ct_f (S := cS) (L := fN) (c0.1) (fx_w g4 (fun _ _ => sS_c) (fun _ _ z => z)) rfl (fun _ => rfl), t4, (fx_i g4 rfl).trans (c0.2.2.1), (fx_i g4 rfl).trans (c0.2.2.2.1), c0.2.2.2.2.1, (fx_i g4 rfl).trans (c0.2.2.2.2.2.1), by omega, (fx_i g4 rfl).trans (c0.2.2.2.2.2.2.2.1), by omega, cn_f (S := cS) (L := fN) (c0.2.2.2.2.2.2.2.2.2.1) (fx_w g4 (fun _ _ => sS_c) (fun _ _ z => z)) rfl (fun _ => rfl) (fun _ => rfl), (fx_i g4 rfl).trans (c0.2.2.2.2.2.2.2.2.2.2)⟩ (ptx_f (pt) g4 rfl (fun _ => rfl) (fun _ => rfl)) (by first | omega | (simp only [List.length_append, List.length_cons, List.length_nil]; omega)) (by omega) (by omega) hq)) ?_
        rintro v5 h5 ⟨g5, ⟨rfl, pq5, oq5, cq5, c5, lt5, le5, x5, ln5, G5⟩ | ⟨rfl, kq5, f5, ka5, kz5⟩⟩
        · have hq := fx_q g5 hq
          have x5 : ptx h5 (P ++ (cz ++ cq5)) := by simpa only [List.append_assoc] using x5
          have kb5 := tkk_lt (T := T) (n := n) (p := pq5) hT
          have s65 := tks_le (T := T) (n := n) (p := pq5)
          refine xq_n 47 [0, 1, 2] [(0, .ref 3), (1, .int (Int32.ofInt 1)), (2, .int (nI i))] [.int (Int32.ofInt 0), .int (Int32.ofInt 2), .ref 4] h5 [] 7 hq rfl trivial (fun hq => ?_)
          refine xq_run hq rfl rfl (pad_q (c := 2) (y := Int32.ofInt 0) (x5) (by first | omega | (simp only [List.length_append, List.length_cons, List.length_nil]; omega)) hq) ?_
          rintro v6 h6 ⟨rfl, g6, x6⟩
          have hq := fx_q g6 hq
          have x6 : ptx h6 (P ++ (cz ++ (cq5 ++ [(2, Int32.ofInt 0)]))) := by simpa only [List.append_assoc] using x6
          refine xq_n 7 [0, 1, 2] [(0, .ref 3), (1, .int (Int32.ofInt 1)), (2, .int ((nI i) + Int32.ofInt 1))] [] h6 [] 4 hq rfl trivial (fun hq => ?_)
          rw [show ((nI i) + Int32.ofInt 1) = nI (i + 1) from nI_1 _]
          exact ihg (by omega) _ (i + 1) pq5 oq5 (cz ++ (cq5 ++ [(2, Int32.ofInt 0)])) ⟨ct_f (S := cS) (L := fN) (c5.1) (fx_w g6 (fun _ _ => aS_c) (fun _ _ z => z)) rfl (fun _ => rfl), tok_f (c5.2.1) g6 (fun _ => rfl), (fx_i g6 rfl).trans (c5.2.2.1), (fx_i g6 rfl).trans (c5.2.2.2.1), c0.2.2.2.2.1, (fx_i g6 rfl).trans (c5.2.2.2.2.2.1), by omega, (fx_i g6 rfl).trans (c5.2.2.2.2.2.2.2.1), by omega, cn_f (S := cS) (L := fN) (c5.2.2.2.2.2.2.2.2.2.1) (fx_w g6 (fun _ _ => aS_c) (fun _ _ z => z)) rfl (fun _ => rfl) (fun _ => rfl), (fx_i g6 rfl).trans (c5.2.2.2.2.2.2.2.2.2.2)⟩ (fx_t (fx_t (fx_t (g0) (fx_w g4 (fun _ _ => sS_c) (fun _ _ z => z))) (g5)) (fx_w g6 (fun _ _ => aS_c) (fun _ _ z => z))) (x6) (by omega) (by omega) (by first | omega | (simp only [List.length_append, List.length_cons, List.length_nil]; omega)) (VA_s d12 GG b3 G5) hq
        · have hq := fx_q g5 hq
          refine xq_n 47 [0, 1, 2] [(0, .ref 3), (1, .int (Int32.ofInt 0)), (2, .int (nI i))] [.int (Int32.ofInt 0), .int (Int32.ofInt 2), .ref 4] h5 [] 7 hq rfl trivial (fun hq => ?_)
          refine xq_run hq rfl rfl (add_q hq) ?_
          rintro v7 h7 ⟨rfl, g7⟩
          have hq := fx_q g7 hq
          refine xq_n 7 [0, 1, 2] [(0, .ref 3), (1, .int (Int32.ofInt 0)), (2, .int ((nI i) + Int32.ofInt 1))] [] h7 [] 4 hq rfl trivial (fun hq => ?_)
          rw [show ((nI i) + Int32.ofInt 1) = nI (i + 1) from nI_1 _]
          refine xq_mono (all_z hq) (fun v h' e => ?_)
          obtain ⟨rfl, rfl⟩ := e
          exact ⟨fx_t (fx_t (fx_t (g0) (fx_w g4 (fun _ _ => sS_c) (fun _ _ z => z))) (g5)) (fx_w g7 (fun _ _ => aS_c) (fun _ _ z => z)), Or.inr ⟨rfl, _, (fx_i g7 rfl).trans (f5), by omega, by omega⟩⟩
      | false =>
        have db3 := of_decide_eq_false b3
        refine xq_n 57 [] [] [.int (Int32.ofInt 1)] h [true] 4 hq rfl ⟨rfl, trivial⟩ (fun hq => ?_)
        exact xq_ret rfl rfl rfl ⟨g0, Or.inl ⟨rfl, p1, o1, cz, c0, by omega, by omega, pt, by omega, b3, GG⟩⟩
set_option maxRecDepth 100000 in
set_option maxHeartbeats 4000000 in
theorem all_p {f : Nat} (io : pOne T n mem nn NM f) : pAll T n mem nn NM (f + 1) := by
  intro h p o d P c0 pt pl o6 d12 hq
  have hT : ∀ k, k < n → T k < 256 := fun k hk' => (c0.1.2.2 k hk').1
  have kb := tkk_lt (T := T) (n := n) (p := p) hT
  have n6 := c0.1.2.1
  have s6 := tks_le (T := T) (n := n) (p := p)
  have mm := c0.2.2.2.2.1
  have n16 := c0.2.2.2.2.2.2.2.2.2.1.2.1
  refine xq_m 1 [0] [(0, .ref 3)] [.ref 3] h [] 3 hq rfl trivial (fun hq => ?_)
  refine xq_run hq rfl rfl (io _ _ _ _ (P) c0 (pt) (by omega) (by omega) (by omega) hq) ?_
  rintro v1 h1 ⟨g1, ⟨rfl, pq1, oq1, cq1, c1, lt1, le1, x1, ln1, G1⟩ | ⟨rfl, kq1, f1, ka1, kz1⟩⟩
  · have hq := fx_q g1 hq
    have kb1 := tkk_lt (T := T) (n := n) (p := pq1) hT
    have s61 := tks_le (T := T) (n := n) (p := pq1)
    refine xq_n 7 [0, 1, 2] [(0, .ref 3), (1, .int (Int32.ofInt 1)), (2, .int (Int32.ofInt 0))] [] h1 [] 5 hq rfl trivial (fun hq => ?_)
    exact all_lpp io o6 d12 pl f (Nat.le_refl _) _ 0 pq1 oq1 cq1 c1 (fx_t (fx_0) (g1)) (x1) (by omega) (by omega) (by omega) (VA_1 d12 G1) hq
  · have hq := fx_q g1 hq
    refine xq_n 7 [0, 1, 2] [(0, .ref 3), (1, .int (Int32.ofInt 0)), (2, .int (Int32.ofInt 0))] [] h1 [] 5 hq rfl trivial (fun hq => ?_)
    refine xq_mono (all_z hq) (fun v h' e => ?_)
    obtain ⟨rfl, rfl⟩ := e
    exact ⟨fx_t (fx_0) (g1), Or.inr ⟨rfl, _, f1, by omega, by omega⟩⟩
set_option maxRecDepth 100000 in
set_option maxHeartbeats 4000000 in
theorem rul_lpp {f p o d : Nat} {P : cdL} {h0 : xh_H} (ia : pAll T n mem nn NM f) (o6 : o ≤ 120) (d12 : d ≤ 12) (pl : P.length ≤ 3 * o + 16) : ∀ g, g ≤ f → ∀ (h : xh_H) (i p1 o1 : Nat) (cz : cdL), cr h T n mem nn NM p1 o1 d → fx cS fN h0 h → ptx h (P ++ cz) → o + 1 + i ≤ o1 → o1 ≤ 120 → cz.length + 2 ≤ 3 * (o1 - o) → ky T n p1 2 = false → VR T n mem nn (nmW T NM) d p o p1 o1 cz → a_rq a_tb h → xq g xi_X4_readRule xmi_X4_readRule 7 [(0, .ref 3), (1, .int (Int32.ofInt 1)), (2, .int (nI i))] [] h (rP h0 T n mem nn NM o d P 2 (fun p' o' c => ky T n p' 2 = false ∧ ky T n p' 3 = false ∧ VR T n mem nn (nmW T NM) d p o p' o' c)) := by
  intro g
  induction g with
  | zero => intros; exact xq_0
  | succ g ihg =>
    intro hg h i p1 o1 cz c0 g0 pt hi ho hc k2 GG hq
    have hT : ∀ k, k < n → T k < 256 := fun k hk' => (c0.1.2.2 k hk').1
    have kb := tkk_lt (T := T) (n := n) (p := p1) hT
    have n6 := c0.1.2.1
    have s6 := tks_le (T := T) (n := n) (p := p1)
    have mm := c0.2.2.2.2.1
    have n16 := c0.2.2.2.2.2.2.2.2.2.1.2.1
    cases c1 : xe_c .gt (nI i) 120 with
    | true =>
      have z1 : i > 120 := nq_gtt (a := i) (b := 120) (by omega) (by omega) c1
      omega
    | false =>
      have z1 : i ≤ 120 := nq_gtf (a := i) (b := 120) (by omega) (by omega) c1
      refine xq_m 23 [0, 1, 2] [(0, .ref 3), (1, .int (Int32.ofInt 1)), (2, .int (nI i))] [.float 5, .ref 8] h [false, false] 10 hq rfl ⟨c1, (by decide), trivial⟩ (fun hq => ?_)
      refine xq_run hq rfl rfl (iw3_q (c0.1) (c0.2.1) hq) ?_
      rintro v2 h_v2 ⟨rfl, rfl⟩
      cases b3 : (ky T n p1 3) with
      | true =>
        have db3 := of_decide_eq_true b3
        refine xq_n 33 [0, 1, 2] [(0, .ref 3), (1, .int (Int32.ofInt 1)), (2, .int (nI i))] [.ref 8] h [false] 5 hq rfl ⟨rfl, trivial⟩ (fun hq => ?_)
        have nz4 : tkk T n p1 ≠ 0 := by omega
        have le4 := tke_le nz4
        refine xq_run hq rfl rfl (adv_q hq hT (c0.1) (c0.2.2.1) ((c0.2.1.2.2.1 (by omega)).1) (by omega)) ?_
        rintro v4 h4 ⟨rfl, g4, t4⟩
        have hq := fx_q g4 hq
        have kb4 := tkk_lt (T := T) (n := n) (p := tke T n p1) hT
        have s64 := tks_le (T := T) (n := n) (p := tke T n p1)
        refine xq_n 37 [0, 1, 2] [(0, .ref 3), (1, .int (Int32.ofInt 1)), (2, .int (nI i))] [.ref 3] h4 [] 3 hq rfl trivial (fun hq => ?_)
        refine xq_run hq rfl rfl (xq_le (by omega) (ia _ _ _ _ (P ++ cz) ⟨ct_f (S := cS) (L := fN) (c0.1) (fx_w g4 (fun _ _ => sS_c) (fun _ _ z => z)) rfl (fun _ => rfl), t4, (fx_i g4 rfl).trans (c0.2.2.1), (fx_i g4 rfl).trans (c0.2.2.2.1), c0.2.2.2.2.1, (fx_i g4 rfl).trans (c0.2.2.2.2.2.1), by omega, (fx_i g4 rfl).trans (c0.2.2.2.2.2.2.2.1), by omega, cn_f (S := cS) (L := fN) (c0.2.2.2.2.2.2.2.2.2.1) (fx_w g4 (fun _ _ => sS_c) (fun _ _ z => z)) rfl (fun _ => rfl) (fun _ => rfl), (fx_i g4 rfl).trans (c0.2.2.2.2.2.2.2.2.2.2)⟩ (ptx_f (pt) g4 rfl (fun _ => rfl) (fun _ => rfl)) (by first | omega | (simp only [List.length_append, List.length_cons, List.length_nil]; omega)) (by omega) (by omega) hq)) ?_
        rintro v5 h5 ⟨g5, ⟨rfl, pq5, oq5, cq5, c5, lt5, le5, x5, ln5, G5⟩ | ⟨rfl, kq5, f5, ka5, kz5⟩⟩
        · have hq := fx_q g5 hq
          have x5 : ptx h5 (P ++ (cz ++ cq5)) := by simpa only [List.append_assoc] using x5
          have kb5 := tkk_lt (T := T) (n := n) (p := pq5) hT
          have s65 := tks_le (T := T) (n := n) (p := pq5)
          refine xq_n 47 [0, 1, 2] [(0, .ref 3), (1, .int (Int32.ofInt 1)), (2, .int (nI i))] [.int (Int32.ofInt 0), .int (Int32.ofInt 3), .ref 4] h5 [] 7 hq rfl trivial (fun hq => ?_)
          refine xq_run hq rfl rfl (pad_q (c := 3) (y := Int32.ofInt 0) (x5) (by first | omega | (simp only [List.length_append, List.length_cons, List.length_nil]; omega)) hq) ?_
          rintro v6 h6 ⟨rfl, g6, x6⟩
          have hq := fx_q g6 hq
          have x6 : ptx h6 (P ++ (cz ++ (cq5 ++ [(3, Int32.ofInt 0)]))) := by simpa only [List.append_assoc] using x6
          refine xq_n 7 [0, 1, 2] [(0, .ref 3), (1, .int (Int32.ofInt 1)), (2, .int ((nI i) + Int32.ofInt 1))] [] h6 [] 4 hq rfl trivial (fun hq => ?_)
          rw [show ((nI i) + Int32.ofInt 1) = nI (i + 1) from nI_1 _]
          exact ihg (by omega) _ (i + 1) pq5 oq5 (cz ++ (cq5 ++ [(3, Int32.ofInt 0)])) ⟨ct_f (S := cS) (L := fN) (c5.1) (fx_w g6 (fun _ _ => aS_c) (fun _ _ z => z)) rfl (fun _ => rfl), tok_f (c5.2.1) g6 (fun _ => rfl), (fx_i g6 rfl).trans (c5.2.2.1), (fx_i g6 rfl).trans (c5.2.2.2.1), c0.2.2.2.2.1, (fx_i g6 rfl).trans (c5.2.2.2.2.2.1), by omega, (fx_i g6 rfl).trans (c5.2.2.2.2.2.2.2.1), by omega, cn_f (S := cS) (L := fN) (c5.2.2.2.2.2.2.2.2.2.1) (fx_w g6 (fun _ _ => aS_c) (fun _ _ z => z)) rfl (fun _ => rfl) (fun _ => rfl), (fx_i g6 rfl).trans (c5.2.2.2.2.2.2.2.2.2.2)⟩ (fx_t (fx_t (fx_t (g0) (fx_w g4 (fun _ _ => sS_c) (fun _ _ z => z))) (g5)) (fx_w g6 (fun _ _ => aS_c) (fun _ _ z => z))) (x6) (by omega) (by omega) (by first | omega | (simp only [List.length_append, List.length_cons, List.length_nil]; omega)) G5.1 (VR_s d12 GG k2 b3 G5.2) hq
        · have hq := fx_q g5 hq
          refine xq_n 47 [0, 1, 2] [(0, .ref 3), (1, .int (Int32.ofInt 0)), (2, .int (nI i))] [.int (Int32.ofInt 0), .int (Int32.ofInt 3), .ref 4] h5 [] 7 hq rfl trivial (fun hq => ?_)
          refine xq_run hq rfl rfl (add_q hq) ?_
          rintro v7 h7 ⟨rfl, g7⟩
          have hq := fx_q g7 hq
          refine xq_n 7 [0, 1, 2] [(0, .ref 3), (1, .int (Int32.ofInt 0)), (2, .int ((nI i) + Int32.ofInt 1))] [] h7 [] 4 hq rfl trivial (fun hq => ?_)
          rw [show ((nI i) + Int32.ofInt 1) = nI (i + 1) from nI_1 _]
          refine xq_mono (rul_z hq) (fun v h' e => ?_)
          obtain ⟨rfl, rfl⟩ := e
          exact ⟨fx_t (fx_t (fx_t (g0) (fx_w g4 (fun _ _ => sS_c) (fun _ _ z => z))) (g5)) (fx_w g7 (fun _ _ => aS_c) (fun _ _ z => z)), Or.inr ⟨rfl, _, (fx_i g7 rfl).trans (f5), by omega, by omega⟩⟩
      | false =>
        have db3 := of_decide_eq_false b3
        refine xq_n 57 [] [] [.int (Int32.ofInt 1)] h [true] 4 hq rfl ⟨rfl, trivial⟩ (fun hq => ?_)
        exact xq_ret rfl rfl rfl ⟨g0, Or.inl ⟨rfl, p1, o1, cz, c0, by omega, by omega, pt, by omega, k2, b3, GG⟩⟩
set_option maxRecDepth 100000 in
set_option maxHeartbeats 4000000 in
theorem rul_p {f : Nat} (ia : pAll T n mem nn NM f) : pRule T n mem nn NM (f + 1) := by
  intro h p o d P c0 pt pl o6 d12 hq
  have hT : ∀ k, k < n → T k < 256 := fun k hk' => (c0.1.2.2 k hk').1
  have kb := tkk_lt (T := T) (n := n) (p := p) hT
  have n6 := c0.1.2.1
  have s6 := tks_le (T := T) (n := n) (p := p)
  have mm := c0.2.2.2.2.1
  have n16 := c0.2.2.2.2.2.2.2.2.2.1.2.1
  refine xq_m 1 [0] [(0, .ref 3)] [.ref 3] h [] 3 hq rfl trivial (fun hq => ?_)
  refine xq_run hq rfl rfl (ia _ _ _ _ (P) c0 (pt) (by omega) (by omega) (by omega) hq) ?_
  rintro v1 h1 ⟨g1, ⟨rfl, pq1, oq1, cq1, c1, lt1, le1, x1, ln1, G1⟩ | ⟨rfl, kq1, f1, ka1, kz1⟩⟩
  · have hq := fx_q g1 hq
    have kb1 := tkk_lt (T := T) (n := n) (p := pq1) hT
    have s61 := tks_le (T := T) (n := n) (p := pq1)
    refine xq_n 7 [0, 1, 2] [(0, .ref 3), (1, .int (Int32.ofInt 1)), (2, .int (Int32.ofInt 0))] [] h1 [] 5 hq rfl trivial (fun hq => ?_)
    exact rul_lpp ia o6 d12 pl f (Nat.le_refl _) _ 0 pq1 oq1 cq1 c1 (fx_t (fx_0) (g1)) (x1) (by omega) (by omega) (by omega) G1.1 (VR_1 d12 G1.2) hq
  · have hq := fx_q g1 hq
    refine xq_n 7 [0, 1, 2] [(0, .ref 3), (1, .int (Int32.ofInt 0)), (2, .int (Int32.ofInt 0))] [] h1 [] 5 hq rfl trivial (fun hq => ?_)
    refine xq_mono (rul_z hq) (fun v h' e => ?_)
    obtain ⟨rfl, rfl⟩ := e
    exact ⟨fx_t (fx_0) (g1), Or.inr ⟨rfl, _, f1, by omega, by omega⟩⟩
set_option maxRecDepth 100000 in
set_option maxHeartbeats 4000000 in
theorem qu_lpp {f p o d st num : Nat} {P : cdL} {h0 : xh_H} (ii : pItem T n mem nn NM f) (o6 : o ≤ 119) (d12 : d ≤ 11) (n9 : num ≤ 999) (pl : P.length ≤ 3 * o + 16) (n0 : num ≠ 0) (k4 : ky T n p 4 = true) (k91 : tkk T n (tke T n p) = 91) : ∀ g, g ≤ f → ∀ (h : xh_H) (i p1 o1 : Nat) (cz : cdL), cr h T n mem nn NM p1 o1 (d + 1) → fx cS fN h0 h → ptx h (P ++ cz) → o + 2 + i ≤ o1 → o1 ≤ 120 → cz.length + 3 ≤ 3 * (o1 - o) → VS T n mem nn (nmW T NM) d (tke T n (tke T n p)) o num p1 o1 cz → a_rq a_tb h → xq g xi_X4_readQuota xmi_X4_readQuota 57 [(0, .ref 3), (2, .int (nI num)), (3, .int (Int32.ofInt 1)), (4, .int (nI i))] [] h (rP h0 T n mem nn NM o d P 2 (VQ T n mem nn (nmW T NM) d p o st num)) := by
  intro g
  induction g with
  | zero => intros; exact xq_0
  | succ g ihg =>
    intro hg h i p1 o1 cz c0 g0 pt hi ho hc GG hq
    have hT : ∀ k, k < n → T k < 256 := fun k hk' => (c0.1.2.2 k hk').1
    have kb := tkk_lt (T := T) (n := n) (p := p1) hT
    have n6 := c0.1.2.1
    have s6 := tks_le (T := T) (n := n) (p := p1)
    have mm := c0.2.2.2.2.1
    have n16 := c0.2.2.2.2.2.2.2.2.2.1.2.1
    cases c1 : xe_c .gt (nI i) 120 with
    | true =>
      have z1 : i > 120 := nq_gtt (a := i) (b := 120) (by omega) (by omega) c1
      omega
    | false =>
      have z1 : i ≤ 120 := nq_gtf (a := i) (b := 120) (by omega) (by omega) c1
      cases c2 : xe_c .eq (nI (tkk T n p1)) 93 with
      | true =>
        have z2 : (tkk T n p1) = 93 := nq_eqt (a := (tkk T n p1)) (b := 93) (by omega) (by omega) c2
        refine xq_m 98 [0, 2, 3, 4] [(0, .ref 3), (2, .int (nI num)), (3, .int (Int32.ofInt 1)), (4, .int (nI i))] [.int (nI num), .int 6, .ref 4] h [false, false, true] 16 hq rfl ⟨c1, (by decide), (show xe_c .eq (xg 0 h.2.1 8 3) 93 = true by rw [show (xg 0 h.2.1 8 3) = (nI (tkk T n p1)) from c0.2.1.1]; exact c2), trivial⟩ (fun hq => ?_)
        refine xq_run hq rfl rfl (pad_q (c := 6) (y := nI num) (pt) (by first | omega | (simp only [List.length_append, List.length_cons, List.length_nil]; omega)) hq) ?_
        rintro v3 h3 ⟨rfl, g3, x3⟩
        have hq := fx_q g3 hq
        have x3 : ptx h3 (P ++ (cz ++ [(6, nI num)])) := by simpa only [List.append_assoc] using x3
        refine xq_n 118 [0, 2, 3, 4] [(0, .ref 3), (2, .int (nI num)), (3, .int (Int32.ofInt 1)), (4, .int (nI i))] [.int 93, .ref 3] (xh_ui h3 3 6 ((xg 0 h3.2.1 3 6) - (Int32.ofInt 1))) [false] 12 hq rfl ⟨(by decide), trivial⟩ (fun _ => ?_)
        rw [show (xg 0 h3.2.1 3 6) = (nI (d + 1)) from (fx_i g3 rfl).trans (c0.2.2.2.2.2.2.2.1)]
        rw [show ((nI (d + 1)) - (Int32.ofInt 1)) = nI ((d + 1) - 1) from nI_dec1 (by omega)]
        rw [show (nI ((d + 1) - 1)) = nI d from (by rw [Nat.add_sub_cancel])]
        have hq : a_rq a_tb (xh_ui h3 3 6 (nI d)) := a_rq_ui hq
        refine xq_run hq rfl rfl (xq_and (ts_q (c := 93) (by decide) (by decide) ⟨ct_f (S := cS) (L := fN) (ct_f (S := cS) (L := fN) (c0.1) (fx_w g3 (fun _ _ => aS_c) (fun _ _ z => z)) rfl (fun _ => rfl)) (fx_ui fx_0 rfl) rfl (fun _ => rfl), tok_f (S := fun c k => Nat.beq c 3) (L := fN) (tok_f (c0.2.1) g3 (fun _ => rfl)) (fx_ui fx_0 rfl) (fun _ => rfl), (gx_o (by decide)).trans ((fx_i g3 rfl).trans (c0.2.2.1)), (gx_k (by decide)).trans ((fx_i g3 rfl).trans (c0.2.2.2.1)), c0.2.2.2.2.1, (gx_k (by decide)).trans ((fx_i g3 rfl).trans (c0.2.2.2.2.2.1)), by omega, gx_s, by omega, cn_f (S := cS) (L := fN) (cn_f (S := cS) (L := fN) (c0.2.2.2.2.2.2.2.2.2.1) (fx_w g3 (fun _ _ => aS_c) (fun _ _ z => z)) rfl (fun _ => rfl) (fun _ => rfl)) (fx_ui fx_0 rfl) rfl (fun _ => rfl) (fun _ => rfl), (gx_k (by decide)).trans ((fx_i g3 rfl).trans (c0.2.2.2.2.2.2.2.2.2.2))⟩ hq) (ts_n (c := 93) (by decide) (by decide) ⟨ct_f (S := cS) (L := fN) (ct_f (S := cS) (L := fN) (c0.1) (fx_w g3 (fun _ _ => aS_c) (fun _ _ z => z)) rfl (fun _ => rfl)) (fx_ui fx_0 rfl) rfl (fun _ => rfl), tok_f (S := fun c k => Nat.beq c 3) (L := fN) (tok_f (c0.2.1) g3 (fun _ => rfl)) (fx_ui fx_0 rfl) (fun _ => rfl), (gx_o (by decide)).trans ((fx_i g3 rfl).trans (c0.2.2.1)), (gx_k (by decide)).trans ((fx_i g3 rfl).trans (c0.2.2.2.1)), c0.2.2.2.2.1, (gx_k (by decide)).trans ((fx_i g3 rfl).trans (c0.2.2.2.2.2.1)), by omega, gx_s, by omega, cn_f (S := cS) (L := fN) (cn_f (S := cS) (L := fN) (c0.2.2.2.2.2.2.2.2.2.1) (fx_w g3 (fun _ _ => aS_c) (fun _ _ z => z)) rfl (fun _ => rfl) (fun _ => rfl)) (fx_ui fx_0 rfl) rfl (fun _ => rfl) (fun _ => rfl), (gx_k (by decide)).trans ((fx_i g3 rfl).trans (c0.2.2.2.2.2.2.2.2.2.2))⟩ hq)) ?_
        rintro v4 h4 ⟨⟨g4, l4, q4⟩, n4⟩
        have hq := fx_q g4 hq
        by_cases w4_0 : tkk T n p1 ≠ 93
        · obtain ⟨rfl, f4, y4, z4, e64, e4⟩ := q4 1 (tks T n p1) (by unfold kS; rw [if_pos w4_0])
          refine xq_n 129 [] [] [.int (Int32.ofInt 0)] h4 [true] 4 hq rfl ⟨(by decide), trivial⟩ (fun hq => ?_)
          exfalso; omega
        · skip
          obtain ⟨rfl, c4⟩ := l4 (tke T n p1) (o1) (d) (by unfold kS; rw [if_neg w4_0])
          have kb4 := tkk_lt (T := T) (n := n) (p := tke T n p1) hT
          have s64 := tks_le (T := T) (n := n) (p := tke T n p1)
          refine xq_n 129 [] [] [.int (Int32.ofInt 1)] h4 [false] 5 hq rfl ⟨(by decide), trivial⟩ (fun hq => ?_)
          exact xq_ret rfl rfl rfl ⟨fx_t (fx_ui (fx_t (g0) (fx_w g3 (fun _ _ => aS_c) (fun _ _ z => z))) rfl) (g4), Or.inl ⟨rfl, tke T n p1, o1, (cz ++ [(6, nI num)]), c4, by omega, by omega, ptx_n (ptx_f (S := fun c k => Nat.beq c 3) (L := fN) (x3) (fx_ui fx_0 rfl) rfl (fun _ => rfl) (fun _ => rfl)) n4, by first | omega | (simp only [List.length_append, List.length_cons, List.length_nil]; omega), VQ_e (by omega) GG (by omega) n0 (by omega) k4 k91⟩⟩
      | false =>
        have z2 : (tkk T n p1) ≠ 93 := nq_eqf (a := (tkk T n p1)) (b := 93) (by omega) (by omega) c2
        refine xq_m 81 [0, 2, 3, 4] [(0, .ref 3), (2, .int (nI num)), (3, .int (Int32.ofInt 1)), (4, .int (nI i))] [.ref 3] h [false, false, false] 13 hq rfl ⟨c1, (by decide), (show xe_c .eq (xg 0 h.2.1 8 3) 93 = false by rw [show (xg 0 h.2.1 8 3) = (nI (tkk T n p1)) from c0.2.1.1]; exact c2), trivial⟩ (fun hq => ?_)
        refine xq_run hq rfl rfl (xq_le (by omega) (ii _ _ _ _ (P ++ cz) c0 (pt) (by first | omega | (simp only [List.length_append, List.length_cons, List.length_nil]; omega)) (by omega) (by omega) hq)) ?_
        rintro v5 h5 ⟨g5, ⟨rfl, pq5, oq5, cq5, c5, lt5, le5, x5, ln5, G5⟩ | ⟨rfl, kq5, f5, ka5, kz5⟩⟩
        · have hq := fx_q g5 hq
          have x5 : ptx h5 (P ++ (cz ++ cq5)) := by simpa only [List.append_assoc] using x5
          have kb5 := tkk_lt (T := T) (n := n) (p := pq5) hT
          have s65 := tks_le (T := T) (n := n) (p := pq5)
          refine xq_n 57 [0, 2, 3, 4] [(0, .ref 3), (2, .int (nI num)), (3, .int (Int32.ofInt 1)), (4, .int ((nI i) + Int32.ofInt 1))] [] h5 [] 5 hq rfl trivial (fun hq => ?_)
          rw [show ((nI i) + Int32.ofInt 1) = nI (i + 1) from nI_1 _]
          exact ihg (by omega) _ (i + 1) pq5 oq5 (cz ++ cq5) c5 (fx_t (g0) (g5)) (x5) (by omega) (by omega) (by first | omega | (simp only [List.length_append, List.length_cons, List.length_nil]; omega)) (VS_s (by omega) GG (by omega) G5) hq
        · have hq := fx_q g5 hq
          refine xq_n 57 [0, 2, 3, 4] [(0, .ref 3), (2, .int (nI num)), (3, .int (Int32.ofInt 0)), (4, .int ((nI i) + Int32.ofInt 1))] [] h5 [] 5 hq rfl trivial (fun hq => ?_)
          rw [show ((nI i) + Int32.ofInt 1) = nI (i + 1) from nI_1 _]
          refine xq_mono (qz_q hq) (fun v h' e => ?_)
          obtain ⟨rfl, gz⟩ := e
          exact ⟨fx_t (fx_t (g0) (g5)) (fx_w gz (fun _ _ => zS_c) (fun _ _ z => z)), Or.inr ⟨rfl, _, (fx_i gz rfl).trans (f5), by omega, by omega⟩⟩
set_option maxRecDepth 100000 in
set_option maxHeartbeats 4000000 in
theorem quo_p {f : Nat} (ii : pItem T n mem nn NM f) : pQuota T n mem nn NM (f + 1) := by
  intro h p o d st num P c0 pt pl o6 d12 n9 hq
  have hT : ∀ k, k < n → T k < 256 := fun k hk' => (c0.1.2.2 k hk').1
  have kb := tkk_lt (T := T) (n := n) (p := p) hT
  have n6 := c0.1.2.1
  have s6 := tks_le (T := T) (n := n) (p := p)
  have mm := c0.2.2.2.2.1
  have n16 := c0.2.2.2.2.2.2.2.2.2.1.2.1
  cases c1 : xe_c .ge (nI num) (Int32.ofInt 1) with
  | true =>
    have z1 : num ≥ 1 := nq_get (a := num) (b := 1) (by omega) (by omega) c1
    refine xq_m 14 [0, 1, 2] [(0, .ref 3), (1, .int (nI st)), (2, .int (nI num))] [.int (nI st), .ref 3] h [true] 7 hq rfl ⟨c1, trivial⟩ (fun hq => ?_)
    refine xq_run hq rfl rfl (xq_and (co_q (st := st) (by omega) c0 hq) (co_n (st := st) (by omega) c0 hq)) ?_
    rintro v2 h2 ⟨⟨g2, l2, q2⟩, n2⟩
    have hq := fx_q g2 hq
    by_cases w2_0 : 120 ≤ o
    · obtain ⟨rfl, f2, y2, z2, e62, e2⟩ := q2 4 (st) (by unfold kC; rw [if_pos w2_0])
      refine xq_n 39 [] [] [.int (Int32.ofInt 0)] h2 [true] 4 hq rfl ⟨(by decide), trivial⟩ (fun hq => ?_)
      exact xq_ret rfl rfl rfl ⟨fx_t (fx_0) (g2), Or.inr ⟨rfl, _, f2, by omega, by omega⟩⟩
    · skip
      obtain ⟨rfl, c2⟩ := l2 (p) (o + 1) (d) (by unfold kC; rw [if_neg w2_0])
      have kb2 := tkk_lt (T := T) (n := n) (p := p) hT
      have s62 := tks_le (T := T) (n := n) (p := p)
      refine xq_n 23 [0, 1, 2] [(0, .ref 3), (1, .int (nI st)), (2, .int (nI num))] [.float 6, .ref 3] h2 [false] 5 hq rfl ⟨(by decide), trivial⟩ (fun hq => ?_)
      refine xq_run hq rfl rfl (xq_and (tw4_q c2 hq) (tw4_n c2 hq)) ?_
      rintro v3 h3 ⟨⟨g3, l3, q3⟩, n3⟩
      have hq := fx_q g3 hq
      by_cases w3_0 : ky T n p 4 = false
      · obtain ⟨rfl, f3, y3, z3, e63, e3⟩ := q3 1 (tks T n p) (by unfold kW; rw [if_pos w3_0])
        refine xq_n 39 [] [] [.int (Int32.ofInt 0)] h3 [true] 4 hq rfl ⟨(by decide), trivial⟩ (fun hq => ?_)
        exact xq_ret rfl rfl rfl ⟨fx_t (fx_t (fx_0) (g2)) (g3), Or.inr ⟨rfl, _, f3, by omega, by omega⟩⟩
      · skip
        have w3_0t : ky T n p 4 = true := eq_true_of_ne_false w3_0
        have dw3_0 := of_decide_eq_true w3_0t
        obtain ⟨rfl, c3⟩ := l3 (tke T n p) ((o + 1)) (d) (by unfold kW; rw [if_neg w3_0])
        have kb3 := tkk_lt (T := T) (n := n) (p := tke T n p) hT
        have s63 := tks_le (T := T) (n := n) (p := tke T n p)
        refine xq_n 32 [0, 1, 2] [(0, .ref 3), (1, .int (nI st)), (2, .int (nI num))] [.int 91, .ref 3] h3 [false] 5 hq rfl ⟨(by decide), trivial⟩ (fun hq => ?_)
        refine xq_run hq rfl rfl (xq_and (to_q (c := 91) (by decide) (by decide) c3 hq) (to_n (c := 91) (by decide) (by decide) c3 hq)) ?_
        rintro v4 h4 ⟨⟨g4, l4, q4⟩, n4⟩
        have hq := fx_q g4 hq
        by_cases w4_0 : tkk T n (tke T n p) ≠ 91
        · obtain ⟨rfl, f4, y4, z4, e64, e4⟩ := q4 1 (tks T n (tke T n p)) (by unfold kO; rw [if_pos w4_0])
          refine xq_n 39 [] [] [.int (Int32.ofInt 0)] h4 [false] 4 hq rfl ⟨(by decide), trivial⟩ (fun hq => ?_)
          exact xq_ret rfl rfl rfl ⟨fx_t (fx_t (fx_t (fx_0) (g2)) (g3)) (g4), Or.inr ⟨rfl, _, f4, by omega, by omega⟩⟩
        · skip
          by_cases w4_1 : 12 ≤ d
          · obtain ⟨rfl, f4, y4, z4, e64, e4⟩ := q4 4 (tks T n (tke T n p)) (by unfold kO; rw [if_neg w4_0, if_pos w4_1])
            refine xq_n 39 [] [] [.int (Int32.ofInt 0)] h4 [false] 4 hq rfl ⟨(by decide), trivial⟩ (fun hq => ?_)
            exact xq_ret rfl rfl rfl ⟨fx_t (fx_t (fx_t (fx_0) (g2)) (g3)) (g4), Or.inr ⟨rfl, _, f4, by omega, by omega⟩⟩
          · skip
            obtain ⟨rfl, c4⟩ := l4 (tke T n (tke T n p)) ((o + 1)) (d + 1) (by unfold kO; rw [if_neg w4_0, if_neg w4_1])
            have kb4 := tkk_lt (T := T) (n := n) (p := tke T n (tke T n p)) hT
            have s64 := tks_le (T := T) (n := n) (p := tke T n (tke T n p))
            refine xq_n 46 [0, 1, 2] [(0, .ref 3), (1, .int (nI st)), (2, .int (nI num))] [.int (Int32.ofInt 0), .int (Int32.ofInt 4), .ref 4] h4 [true] 7 hq rfl ⟨(by decide), trivial⟩ (fun hq => ?_)
            refine xq_run hq rfl rfl (pad_q (c := 4) (y := Int32.ofInt 0) (ptx_n (ptx_n (ptx_n (pt) n2) n3) n4) (by first | omega | (simp only [List.length_append, List.length_cons, List.length_nil]; omega)) hq) ?_
            rintro v5 h5 ⟨rfl, g5, x5⟩
            have hq := fx_q g5 hq
            refine xq_n 50 [0, 1, 2] [(0, .ref 3), (1, .int (nI st)), (2, .int (nI num))] [.ref 3] h5 [] 3 hq rfl trivial (fun hq => ?_)
            refine xq_run hq rfl rfl (ii _ _ _ _ (P ++ [(4, Int32.ofInt 0)]) ⟨ct_f (S := cS) (L := fN) (c4.1) (fx_w g5 (fun _ _ => aS_c) (fun _ _ z => z)) rfl (fun _ => rfl), tok_f (c4.2.1) g5 (fun _ => rfl), (fx_i g5 rfl).trans (c4.2.2.1), (fx_i g5 rfl).trans (c4.2.2.2.1), c0.2.2.2.2.1, (fx_i g5 rfl).trans (c4.2.2.2.2.2.1), by omega, (fx_i g5 rfl).trans (c4.2.2.2.2.2.2.2.1), by omega, cn_f (S := cS) (L := fN) (c4.2.2.2.2.2.2.2.2.2.1) (fx_w g5 (fun _ _ => aS_c) (fun _ _ z => z)) rfl (fun _ => rfl) (fun _ => rfl), (fx_i g5 rfl).trans (c4.2.2.2.2.2.2.2.2.2.2)⟩ (x5) (by first | omega | (simp only [List.length_append, List.length_cons, List.length_nil]; omega)) (by omega) (by omega) hq) ?_
            rintro v6 h6 ⟨g6, ⟨rfl, pq6, oq6, cq6, c6, lt6, le6, x6, ln6, G6⟩ | ⟨rfl, kq6, f6, ka6, kz6⟩⟩
            · have hq := fx_q g6 hq
              have x6 : ptx h6 (P ++ ([(4, Int32.ofInt 0)] ++ cq6)) := by simpa only [List.append_assoc] using x6
              have kb6 := tkk_lt (T := T) (n := n) (p := pq6) hT
              have s66 := tks_le (T := T) (n := n) (p := pq6)
              refine xq_n 57 [0, 2, 3, 4] [(0, .ref 3), (2, .int (nI num)), (3, .int (Int32.ofInt 1)), (4, .int (Int32.ofInt 0))] [] h6 [] 5 hq rfl trivial (fun hq => ?_)
              exact qu_lpp (p := p) (o := o) (d := d) (st := st) ii (by omega) (by omega) n9 pl (by omega) (by assumption) (by omega) f (Nat.le_refl _) _ 0 pq6 oq6 ([(4, Int32.ofInt 0)] ++ cq6) c6 (fx_t (fx_t (fx_t (fx_t (fx_t (fx_0) (g2)) (g3)) (g4)) (fx_w g5 (fun _ _ => aS_c) (fun _ _ z => z))) (g6)) (x6) (by omega) (by omega) (by first | omega | (simp only [List.length_append, List.length_cons, List.length_nil]; omega)) (VS_1 (by omega) G6) hq
            · have hq := fx_q g6 hq
              refine xq_n 57 [0, 2, 3, 4] [(0, .ref 3), (2, .int (nI num)), (3, .int (Int32.ofInt 0)), (4, .int (Int32.ofInt 0))] [] h6 [] 5 hq rfl trivial (fun hq => ?_)
              refine xq_mono (qz_q hq) (fun v h' e => ?_)
              obtain ⟨rfl, gz⟩ := e
              exact ⟨fx_t (fx_t (fx_t (fx_t (fx_t (fx_t (fx_0) (g2)) (g3)) (g4)) (fx_w g5 (fun _ _ => aS_c) (fun _ _ z => z))) (g6)) (fx_w gz (fun _ _ => zS_c) (fun _ _ z => z)), Or.inr ⟨rfl, _, (fx_i gz rfl).trans (f6), by omega, by omega⟩⟩
  | false =>
    have z1 : num < 1 := nq_gef (a := num) (b := 1) (by omega) (by omega) c1
    refine xq_m 8 [0, 1, 2] [(0, .ref 3), (1, .int (nI st)), (2, .int (nI num))] [.int (nI st), .int (Int32.ofInt 2), .ref 3] h [false] 8 hq rfl ⟨c1, trivial⟩ (fun hq => ?_)
    refine xq_run hq rfl rfl (fail_q (k := 2) (pl := st) hq) ?_
    rintro v7 h7 ⟨rfl, g7, f7, l7⟩
    have hq := fx_q g7 hq
    exact xq_ret rfl rfl rfl ⟨fx_t (fx_0) (fx_w g7 (fun _ _ => fS_c) (fun _ _ z => z)), Or.inr ⟨rfl, _, f7, by omega, by omega⟩⟩
/-- ALL OF THEM -/
theorem rp_all : ∀ f, pOne T n mem nn NM f ∧ pAll T n mem nn NM f ∧ pRule T n mem nn NM f ∧ pItem T n mem nn NM f ∧ pQuota T n mem nn NM f := by
  intro f
  induction f with
  | zero => exact ⟨fun _ _ _ _ _ _ _ _ _ _ _ => xq_0, fun _ _ _ _ _ _ _ _ _ _ _ => xq_0, fun _ _ _ _ _ _ _ _ _ _ _ => xq_0, fun _ _ _ _ _ _ _ _ _ _ _ => xq_0, fun _ _ _ _ _ _ _ _ _ _ _ _ _ _ => xq_0⟩
  | succ f ih => exact ⟨one_p ih.2.2.2.2 ih.2.2.1, all_p ih.1, rul_p ih.2.1, item_p ih.1 ih.2.2.2.2, quo_p ih.2.2.2.1⟩
end XPS2
