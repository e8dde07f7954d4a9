section XPT2
variable {T : Nat → Nat} {n mem nn : Nat} {NM : Nat → Nat × Nat} {NW : Nat → Nat}
theorem VR_c {d p o p' o' : Nat} {c : cdL} (h : VR T n mem nn NW d p o p' o' c) (t : Nat) (fs : List Nat) (ht : t ≠ 2) (hf : fs.length = d) : Rc T n mem nn NW (1, p, o, t :: fs) (0, p', o', t :: fs) := by
  obtain ⟨y, -, h2⟩ := h 0 (fun _ => false) (nI 0) (by decide) ⟨0, Nat.two_pow_pos nn, rfl, fun k _ => Nat.zero_testBit k⟩
  obtain ⟨_, _, _, _, r⟩ := h2 t fs 0 1 0 [] false ht hf
  exact Rv_c r
theorem VR_top {p o p' o' : Nat} {c : cdL} (h : VR T n mem nn NW 0 p o p' o' c) (k2 : ky T n p' 2 = false) (k3 : ky T n p' 3 = false) (k59 : tkk T n p' = 59) {sv : Nat} {NV : Nat → Bool} {nm : Int32} (hs : sv < 4096) (hn : nmo nn NV nm) : ∃ y, pv (nI sv) nm 27 c (bl y) ∧ ∀ one, Rv T n nn NW sv NV mem (1, p, o, [0]) ([vR], one) (0, tke T n p', o', []) ([], y) := by
  obtain ⟨y, h1, h2⟩ := h sv NV nm hs hn
  refine ⟨y, h1, fun one => ?_⟩
  obtain ⟨ov, a, one', e, r⟩ := h2 0 [] 0 1 0 [] one (by decide) rfl
  refine Rv_t r ?_
  have es : stp T n mem nn NW (0, p', o', [0]) = .inl (0, tke T n p', o', []) := by
    rw [enE]
    unfold en
    rw [if_neg (by intro z; cases z), if_neg (by rw [k2]; decide), if_neg (by rw [k3]; decide), if_pos (show [0].head? = some 0 from rfl), if_pos k59]
  have r1 := Rv_1 (sv := sv) (NV := NV) (x := ([(ov, a, (0 : Int32), (1 : Int32), (0 : Int32))], one')) es
  rw [vdt0, ven_c] at r1
  rw [if_neg (by intro z; cases z), if_neg (by rw [k2]; decide), if_neg (by rw [k3]; decide), e] at r1
  exact r1
/-- A TEXT'S VALUE for one set -/
def Tv (T : Nat → Nat) (n mem sv : Nat) : Nat → Nat → Nat → Nat → (Nat → Nat) → (Nat → Bool) → Bool → Prop
  | 0, p, o, nn, NW, NV, y => ky T n p 0 = false ∧ ky T n p 1 = true ∧ ∃ p' o', rkk T n p' = 0 ∧ ∀ one, Rv T n nn NW sv NV mem (1, tke T n p, o, [0]) ([vR], one) (0, p', o', []) ([], y)
  | j + 1, p, o, nn, NW, NV, y => ky T n p 0 = true ∧ nmt T n (tke T n p) = true ∧ hasn nn NW (tkw T n (tke T n p)) = false ∧ nn < 16 ∧ tkk T n (tke T n (tke T n p)) = 58 ∧ ∃ p' o' y1, (∀ one, Rv T n nn NW sv NV mem (1, tke T n (tke T n (tke T n p)), o, [0]) ([vR], one) (0, p', o', []) ([], y1)) ∧ Tv T n mem sv j p' o' (nn + 1) (upN NW nn (tkw T n (tke T n p))) (upB NV nn y1) y
/-- what was read so far, and what the program makes of it -/
def FW (T : Nat → Nat) (n mem : Nat) (P : cdL) (p o nn : Nat) (NW : Nat → Nat) : Prop := ∀ sv, sv < 4096 → ∃ NV nm, nmo nn NV nm ∧ px (nI sv) P ([], nI 0) = some ([], nm) ∧ ∀ y j, Tv T n mem sv j p o nn NW NV y → Tv T n mem sv (nn + j) 0 0 0 (nmW T (fun _ => (0, 0))) (fun _ => false) y
theorem FW_s {p o p' o' : Nat} {P c : cdL} (h : FW T n mem P p o nn NW) (kb : ky T n p 0 = true) (kn : nmt T n (tke T n p) = true) (hn' : hasn nn NW (tkw T n (tke T n p)) = false) (n16 : nn < 16) (k58 : tkk T n (tke T n (tke T n p)) = 58) (hv : VR T n mem nn NW 0 (tke T n (tke T n (tke T n p))) o p' o' c) (k2 : ky T n p' 2 = false) (k3 : ky T n p' 3 = false) (k59 : tkk T n p' = 59) : FW T n mem (P ++ (c ++ [(7, nI nn)])) (tke T n p') o' (nn + 1) (upN NW nn (tkw T n (tke T n p))) := by
  intro sv hs
  obtain ⟨NV, nm, h1, h2, h3⟩ := h sv hs
  obtain ⟨y, h4, h5⟩ := VR_top hv k2 k3 k59 hs h1
  refine ⟨upB NV nn y, nm ||| (bl y <<< (nI nn &&& 31)), nmo_up h1 n16, ?_, fun z j ht => ?_⟩
  · rw [px_app, h2]
    show px (nI sv) (c ++ [(7, nI nn)]) ([], nm) = _
    rw [px_app, h4 [] (by decide)]
    rfl
  · rw [show nn + 1 + j = nn + (j + 1) by omega]
    exact h3 z (j + 1) ⟨kb, kn, hn', n16, k58, _, _, y, h5, ht⟩
/-- what a good text leaves in the class -/
def tx_G (T : Nat → Nat) (n mem : Nat) (h' : xh_H) : Prop := ∃ P, ptx h' P ∧ P.length < 400 ∧ ∀ sv, sv < 4096 → ∃ y j nm, px (nI sv) P ([], nI 0) = some ([bl y], nm) ∧ Tv T n mem sv j 0 0 0 (nmW T (fun _ => (0, 0))) (fun _ => false) y
theorem FW_e {p o p' o' : Nat} {P c : cdL} {h' : xh_H} (h : FW T n mem P p o nn NW) (kb : ky T n p 0 = false) (kc : ky T n p 1 = true) (hv : VR T n mem nn NW 0 (tke T n p) o p' o' c) (k2 : ky T n p' 2 = false) (k3 : ky T n p' 3 = false) (k59 : tkk T n p' = 59) (ke : rkk T n (tke T n p') = 0) (pt : ptx h' (P ++ c)) (pl : (P ++ c).length < 400) : tx_G T n mem h' := by
  refine ⟨_, pt, pl, fun sv hs => ?_⟩
  obtain ⟨NV, nm, h1, h2, h3⟩ := h sv hs
  obtain ⟨y, h4, h5⟩ := VR_top hv k2 k3 k59 hs h1
  refine ⟨y, nn + 0, nm, ?_, h3 y 0 ⟨kb, kc, _, _, ke, h5⟩⟩
  rw [px_app, h2]
  exact h4 [] (by decide)
def bc_P (h : xh_H) (T : Nat → Nat) (n mem nn : Nat) (NM : Nat → Nat × Nat) (P : cdL) (p o : Nat) (v : Option Value) (h' : xh_H) : Prop := fx cT fN h h' ∧ ((v = some (.int 1) ∧ ∃ p' o' c, o < o' ∧ o' ≤ 120 ∧ cr h' T n mem (nn + 1) (upM NM nn (tks T n (tke T n p), tke T n (tke T n p))) (tke T n p') o' 0 ∧ ptx h' (P ++ (c ++ [(7, nI nn)])) ∧ c.length + 2 ≤ 3 * (o' - o) ∧ nmt T n (tke T n p) = true ∧ hasn nn (nmW T NM) (tkw T n (tke T n p)) = false ∧ nn < 16 ∧ tkk T n (tke T n (tke T n p)) = 58 ∧ VR T n mem nn (nmW T NM) 0 (tke T n (tke T n (tke T n p))) o p' o' c ∧ ky T n p' 2 = false ∧ ky T n p' 3 = false ∧ tkk T n p' = 59) ∨ (v = some (.int 0) ∧ ∃ k, xg 0 h'.2.1 3 8 = nI k ∧ 1 ≤ k ∧ k ≤ 4))
set_option maxRecDepth 100000 in
set_option maxHeartbeats 4000000 in
theorem bd_endp {f : Nat} {xa xb : Int32} {P : cdL} {h : xh_H} (pt : ptx h P) (l4 : P.length < 400) (e7 : xg 0 h.2.1 3 7 = nI nn) (n15 : nn < 16) (hq : a_rq a_tb h) : xq f xi_X4_readBody xmi_X4_readBody 57 [(0, .ref 3), (1, .int xa), (2, .int xb)] [] h (fun v h' => ptx h' (P ++ [(7, nI nn)])) := by
  refine xq_n 67 [0, 1, 2] [(0, .ref 3), (1, .int xa), (2, .int xb)] [.int (xg 0 h.2.1 3 7), .int 7, .ref 4] h [] 7 hq rfl trivial (fun hq => ?_)
  rw [show (xg 0 h.2.1 3 7) = (nI nn) from e7]
  refine xq_run hq rfl rfl (pad_q (c := 7) (y := (nI nn)) (pt) (by first | omega | (simp only [List.length_append, List.length_cons, List.length_nil]; omega)) hq) ?_
  rintro v1 h1 ⟨rfl, g1, x1⟩
  have hq := fx_q g1 hq
  cases c2 : xe_c .ge (nI nn) 16 with
  | true =>
    have z2 : nn ≥ 16 := nq_get (a := nn) (b := 16) (by omega) (by omega) c2
    omega
  | false =>
    have z2 : nn < 16 := nq_gef (a := nn) (b := 16) (by omega) (by omega) c2
    refine xq_n 110 [] [] [.int (Int32.ofInt 1)] (xh_ui (xh_ui (xh_ui h1 9 ((xg 0 h1.2.1 3 7).toNatClampNeg) xa) 10 ((xg 0 (xh_ui h1 9 ((xg 0 h1.2.1 3 7).toNatClampNeg) xa).2.1 3 7).toNatClampNeg) xb) 3 7 ((xg 0 (xh_ui (xh_ui h1 9 ((xg 0 h1.2.1 3 7).toNatClampNeg) xa) 10 ((xg 0 (xh_ui h1 9 ((xg 0 h1.2.1 3 7).toNatClampNeg) xa).2.1 3 7).toNatClampNeg) xb).2.1 3 7) + (Int32.ofInt 1))) [false] 25 hq rfl ⟨(show xe_c .ge (xg 0 h1.2.1 3 7) 16 = false by rw [show (xg 0 h1.2.1 3 7) = (nI nn) from (fx_i g1 rfl).trans (e7)]; exact c2), trivial⟩ (fun _ => ?_)
    rw [show (xg 0 (xh_ui (xh_ui h1 9 ((xg 0 h1.2.1 3 7).toNatClampNeg) xa) 10 ((xg 0 (xh_ui h1 9 ((xg 0 h1.2.1 3 7).toNatClampNeg) xa).2.1 3 7).toNatClampNeg) xb).2.1 3 7) = (nI nn) from (gx_o (by decide)).trans ((gx_o (by decide)).trans ((fx_i g1 rfl).trans (e7)))]
    rw [show (xg 0 (xh_ui h1 9 ((xg 0 h1.2.1 3 7).toNatClampNeg) xa).2.1 3 7) = (nI nn) from (gx_o (by decide)).trans ((fx_i g1 rfl).trans (e7))]
    rw [show (xg 0 h1.2.1 3 7) = (nI nn) from (fx_i g1 rfl).trans (e7)]
    rw [show ((nI nn).toNatClampNeg) = nn from nI_clamp (by omega)]
    rw [show ((nI nn) + (Int32.ofInt 1)) = nI (nn + 1) from nI_1 _]
    have hq : a_rq a_tb (xh_ui (xh_ui (xh_ui h1 9 nn xa) 10 nn xb) 3 7 (nI (nn + 1))) := a_rq_ui (a_rq_ui (a_rq_ui hq))
    exact xq_ret rfl rfl rfl (ptx_f (S := fun c k => Nat.beq c 3) (L := fN) (ptx_f (S := fun c k => Nat.beq c 10) (L := fN) (ptx_f (S := fun c k => Nat.beq c 9) (L := fN) (x1) (fx_ui fx_0 rfl) rfl (fun _ => rfl) (fun _ => rfl)) (fx_ui fx_0 rfl) rfl (fun _ => rfl) (fun _ => rfl)) (fx_ui fx_0 rfl) rfl (fun _ => rfl) (fun _ => rfl))
theorem Rc_end {s : aSt} {p1 o1 p2 o2 : Nat} (a : Rc T n mem nn NW s (0, p1, o1, [])) (b : Rc T n mem nn NW s (0, p2, o2, [])) : p1 = p2 ∧ o1 = o2 := by
  obtain ⟨k, hk⟩ := a
  obtain ⟨j, hj⟩ := b
  have e1 := (its_add (j := j) hk).trans its_d
  have e2 := (its_add (j := k) hj).trans its_d
  rw [Nat.add_comm] at e2
  rw [e1] at e2
  cases e2
  exact ⟨rfl, rfl⟩
theorem Fl_end {s : aSt} {p1 o1 : Nat} {e : Nat × Nat} (a : Rc T n mem nn NW s (0, p1, o1, [])) (b : Fl T n mem nn NW s e) : False := by
  obtain ⟨k, hk⟩ := a
  obtain ⟨j, hj⟩ := b
  have e1 := (its_add (j := j) hk).trans its_d
  have e2 : its T n mem nn NW (j + k) s = .inr e := by
    clear e1 hk
    induction j generalizing s with
    | zero => cases hj
    | succ j ih =>
      rw [Nat.succ_add]
      have u : ∀ m, its T n mem nn NW (m + 1) s = (match stp T n mem nn NW s with
        | .inl s' => its T n mem nn NW m s'
        | .inr e => .inr e) := fun _ => rfl
      have hj : its T n mem nn NW (j + 1) s = .inr e := hj
      rw [u] at hj
      rw [show (j + k).succ = (j + k) + 1 from rfl, u]
      cases hs : stp T n mem nn NW s with
      | inl s' => rw [hs] at hj; exact ih hj
      | inr e' => rw [hs] at hj; exact hj
  rw [Nat.add_comm, e1] at e2
  cases e2
theorem Bdy_u {p o p1 o1 p2 o2 w1 w2 : Nat} (a : Bdy T n mem nn NW p o (.inl (p1, o1, w1))) (b : Bdy T n mem nn NW p o (.inl (p2, o2, w2))) : p1 = p2 ∧ o1 = o2 := by
  unfold Bdy at a b
  by_cases c1 : nmt T n (tke T n p) = false
  · rw [if_pos c1] at a; cases a
  rw [if_neg c1] at a b
  by_cases c2 : hasn nn NW (tkw T n (tke T n p)) = true
  · rw [if_pos c2] at a; cases a
  rw [if_neg c2] at a b
  by_cases c3 : nn = 16
  · rw [if_pos c3] at a; cases a
  rw [if_neg c3] at a b
  by_cases c4 : tkk T n (tke T n (tke T n p)) ≠ 58
  · rw [if_pos c4] at a; cases a
  rw [if_neg c4] at a b
  obtain ⟨q1, r1, e1⟩ := a
  obtain ⟨q2, r2, e2⟩ := b
  rcases r1 with ⟨_, _, rfl, _⟩ | ⟨x1, y1, rfl, r1⟩
  · cases e1
  rcases r2 with ⟨_, _, rfl, _⟩ | ⟨x2, y2, rfl, r2⟩
  · cases e2
  cases e1
  cases e2
  exact Rc_end r1 r2
theorem Bdy_n {p o p1 o1 w1 : Nat} {e : Nat × Nat} (a : Bdy T n mem nn NW p o (.inl (p1, o1, w1))) : ¬ Bdy T n mem nn NW p o (.inr e) := by
  intro b
  unfold Bdy at a b
  by_cases c1 : nmt T n (tke T n p) = false
  · rw [if_pos c1] at a; cases a
  rw [if_neg c1] at a b
  by_cases c2 : hasn nn NW (tkw T n (tke T n p)) = true
  · rw [if_pos c2] at a; cases a
  rw [if_neg c2] at a b
  by_cases c3 : nn = 16
  · rw [if_pos c3] at a; cases a
  rw [if_neg c3] at a b
  by_cases c4 : tkk T n (tke T n (tke T n p)) ≠ 58
  · rw [if_pos c4] at a; cases a
  rw [if_neg c4] at a b
  obtain ⟨q1, r1, e1⟩ := a
  obtain ⟨q2, r2, e2⟩ := b
  rcases r1 with ⟨_, _, rfl, _⟩ | ⟨x1, y1, rfl, r1⟩
  · cases e1
  rcases r2 with ⟨x2, y2, rfl, r2⟩ | ⟨_, _, rfl, _⟩
  · exact Fl_end r1 r2
  · cases e2
set_option maxRecDepth 100000 in
set_option maxHeartbeats 4000000 in
theorem bd_p {f p o : Nat} {P : cdL} {h : xh_H} (c0 : cr h T n mem nn NM p o 0) (pt : ptx h P) (pl : P.length ≤ 3 * o + nn) (o6 : o ≤ 120) (nz : tkk T n p ≠ 0) (hq : a_rq a_tb h) : xq f xi_X4_readBody xmi_X4_readBody 0 [(0, .ref 3)] [] h (bc_P h T n mem nn NM P p o) := by
  have hT : ∀ k, k < n → T k < 256 := fun k hk' => (c0.1.2.2 k hk').1
  have kb := tkk_lt (T := T) (n := n) (p := p) hT
  have n6 := c0.1.2.1
  have s6 := tks_le (T := T) (n := n) (p := p)
  have mm := c0.2.2.2.2.1
  have n16 := c0.2.2.2.2.2.2.2.2.2.1.2.1
  refine xq_n 4 [0] [(0, .ref 3)] [.ref 8] h [] 4 hq rfl trivial (fun hq => ?_)
  have nz1 : tkk T n p ≠ 0 := by omega
  have le1 := tke_le nz1
  refine xq_run hq rfl rfl (adv_q hq hT (c0.1) (c0.2.2.1) ((c0.2.1.2.2.1 (by omega)).1) (by omega)) ?_
  rintro v1 h1 ⟨rfl, g1, t1⟩
  have hq := fx_q g1 hq
  have kb1 := tkk_lt (T := T) (n := n) (p := tke T n p) hT
  have s61 := tks_le (T := T) (n := n) (p := tke T n p)
  refine xq_n 24 [0, 1, 2] [(0, .ref 3), (1, .int (xg 0 h1.2.1 8 4)), (2, .int (xg 0 h1.2.1 8 5))] [.ref 3] h1 [] 11 hq rfl trivial (fun hq => ?_)
  rw [show (xg 0 h1.2.1 8 4) = (nI (tks T n (tke T n p))) from t1.2.1]
  refine xq_run hq rfl rfl (xq_and (tnn_q ⟨ct_f (S := cS) (L := fN) (c0.1) (fx_w g1 (fun _ _ => sS_c) (fun _ _ z => z)) rfl (fun _ => rfl), t1, (fx_i g1 rfl).trans (c0.2.2.1), (fx_i g1 rfl).trans (c0.2.2.2.1), c0.2.2.2.2.1, (fx_i g1 rfl).trans (c0.2.2.2.2.2.1), by omega, (fx_i g1 rfl).trans (c0.2.2.2.2.2.2.2.1), by omega, cn_f (S := cS) (L := fN) (c0.2.2.2.2.2.2.2.2.2.1) (fx_w g1 (fun _ _ => sS_c) (fun _ _ z => z)) rfl (fun _ => rfl) (fun _ => rfl), (fx_i g1 rfl).trans (c0.2.2.2.2.2.2.2.2.2.2)⟩ hq) (tnn_n ⟨ct_f (S := cS) (L := fN) (c0.1) (fx_w g1 (fun _ _ => sS_c) (fun _ _ z => z)) rfl (fun _ => rfl), t1, (fx_i g1 rfl).trans (c0.2.2.1), (fx_i g1 rfl).trans (c0.2.2.2.1), c0.2.2.2.2.1, (fx_i g1 rfl).trans (c0.2.2.2.2.2.1), by omega, (fx_i g1 rfl).trans (c0.2.2.2.2.2.2.2.1), by omega, cn_f (S := cS) (L := fN) (c0.2.2.2.2.2.2.2.2.2.1) (fx_w g1 (fun _ _ => sS_c) (fun _ _ z => z)) rfl (fun _ => rfl) (fun _ => rfl), (fx_i g1 rfl).trans (c0.2.2.2.2.2.2.2.2.2.2)⟩ hq)) ?_
  rintro v2 h2 ⟨⟨g2, l2, q2⟩, n2⟩
  have hq := fx_q g2 hq
  by_cases w2_0 : nmt T n (tke T n p) = false
  · obtain ⟨rfl, f2, y2, z2, e62, e2⟩ := q2 1 (tks T n (tke T n p)) (by unfold kT; rw [if_pos w2_0])
    refine xq_n 56 [] [] [.int (Int32.ofInt 0)] h2 [true] 4 hq rfl ⟨(by decide), trivial⟩ (fun hq => ?_)
    exact xq_ret rfl rfl rfl ⟨fx_w (fx_t (fx_t (fx_0) (fx_w g1 (fun _ _ => sS_c) (fun _ _ z => z))) (g2)) (fun _ _ => cS_t) (fun _ _ z => z), Or.inr ⟨rfl, _, f2, by omega, by omega⟩⟩
  · skip
    have w2_0t : nmt T n (tke T n p) = true := eq_true_of_ne_false w2_0
    have dw2_0 := of_decide_eq_true w2_0t
    by_cases w2_1 : hasn nn (nmW T NM) (tkw T n (tke T n p)) = true
    · obtain ⟨rfl, f2, y2, z2, e62, e2⟩ := q2 3 (tks T n (tke T n p)) (by unfold kT; rw [if_neg w2_0, if_pos w2_1])
      refine xq_n 56 [] [] [.int (Int32.ofInt 0)] h2 [true] 4 hq rfl ⟨(by decide), trivial⟩ (fun hq => ?_)
      exact xq_ret rfl rfl rfl ⟨fx_w (fx_t (fx_t (fx_0) (fx_w g1 (fun _ _ => sS_c) (fun _ _ z => z))) (g2)) (fun _ _ => cS_t) (fun _ _ z => z), Or.inr ⟨rfl, _, f2, by omega, by omega⟩⟩
    · skip
      by_cases w2_2 : 16 ≤ nn
      · obtain ⟨rfl, f2, y2, z2, e62, e2⟩ := q2 4 (tks T n (tke T n p)) (by unfold kT; rw [if_neg w2_0, if_neg w2_1, if_pos w2_2])
        refine xq_n 56 [] [] [.int (Int32.ofInt 0)] h2 [true] 4 hq rfl ⟨(by decide), trivial⟩ (fun hq => ?_)
        exact xq_ret rfl rfl rfl ⟨fx_w (fx_t (fx_t (fx_0) (fx_w g1 (fun _ _ => sS_c) (fun _ _ z => z))) (g2)) (fun _ _ => cS_t) (fun _ _ z => z), Or.inr ⟨rfl, _, f2, by omega, by omega⟩⟩
      · skip
        obtain ⟨rfl, c2⟩ := l2 (tke T n (tke T n p)) (o) (0) (by unfold kT; rw [if_neg w2_0, if_neg w2_1, if_neg w2_2])
        have kb2 := tkk_lt (T := T) (n := n) (p := tke T n (tke T n p)) hT
        have s62 := tks_le (T := T) (n := n) (p := tke T n (tke T n p))
        refine xq_n 33 [0, 1, 2] [(0, .ref 3), (1, .int (nI (tks T n (tke T n p)))), (2, .int (xg 0 h1.2.1 8 5))] [.int 58, .ref 3] h2 [false] 5 hq rfl ⟨(by decide), trivial⟩ (fun hq => ?_)
        refine xq_run hq rfl rfl (xq_and (ts_q (c := 58) (by decide) (by decide) c2 hq) (ts_n (c := 58) (by decide) (by decide) c2 hq)) ?_
        rintro v3 h3 ⟨⟨g3, l3, q3⟩, n3⟩
        have hq := fx_q g3 hq
        by_cases w3_0 : tkk T n (tke T n (tke T n p)) ≠ 58
        · obtain ⟨rfl, f3, y3, z3, e63, e3⟩ := q3 1 (tks T n (tke T n (tke T n p))) (by unfold kS; rw [if_pos w3_0])
          refine xq_n 56 [] [] [.int (Int32.ofInt 0)] h3 [true] 4 hq rfl ⟨(by decide), trivial⟩ (fun hq => ?_)
          exact xq_ret rfl rfl rfl ⟨fx_w (fx_t (fx_t (fx_t (fx_0) (fx_w g1 (fun _ _ => sS_c) (fun _ _ z => z))) (g2)) (g3)) (fun _ _ => cS_t) (fun _ _ z => z), Or.inr ⟨rfl, _, f3, by omega, by omega⟩⟩
        · skip
          obtain ⟨rfl, c3⟩ := l3 (tke T n (tke T n (tke T n p))) (o) (0) (by unfold kS; rw [if_neg w3_0])
          have kb3 := tkk_lt (T := T) (n := n) (p := tke T n (tke T n (tke T n p))) hT
          have s63 := tks_le (T := T) (n := n) (p := tke T n (tke T n (tke T n p)))
          refine xq_n 40 [0, 1, 2] [(0, .ref 3), (1, .int (nI (tks T n (tke T n p)))), (2, .int (xg 0 h1.2.1 8 5))] [.ref 3] h3 [false] 4 hq rfl ⟨(by decide), trivial⟩ (fun hq => ?_)
          refine xq_run hq rfl rfl ((rp_all f).2.2.1 _ _ _ _ (P) c3 (ptx_n (ptx_n (ptx_f (pt) g1 rfl (fun _ => rfl) (fun _ => rfl)) n2) n3) (by omega) (by omega) (by omega) hq) ?_
          rintro v4 h4 ⟨g4, ⟨rfl, pq4, oq4, cq4, c4, lt4, le4, x4, ln4, G4⟩ | ⟨rfl, kq4, f4, ka4, kz4⟩⟩
          · have hq := fx_q g4 hq
            have kb4 := tkk_lt (T := T) (n := n) (p := pq4) hT
            have s64 := tks_le (T := T) (n := n) (p := pq4)
            refine xq_n 49 [0, 1, 2] [(0, .ref 3), (1, .int (nI (tks T n (tke T n p)))), (2, .int (xg 0 h1.2.1 8 5))] [.int 59, .ref 3] h4 [false] 5 hq rfl ⟨(by decide), trivial⟩ (fun hq => ?_)
            refine xq_run hq rfl rfl (xq_and (ts_q (c := 59) (by decide) (by decide) c4 hq) (ts_n (c := 59) (by decide) (by decide) c4 hq)) ?_
            rintro v5 h5 ⟨⟨g5, l5, q5⟩, n5⟩
            have hq := fx_q g5 hq
            by_cases w5_0 : tkk T n pq4 ≠ 59
            · obtain ⟨rfl, f5, y5, z5, e65, e5⟩ := q5 1 (tks T n pq4) (by unfold kS; rw [if_pos w5_0])
              refine xq_n 56 [] [] [.int (Int32.ofInt 0)] h5 [false] 4 hq rfl ⟨(by decide), trivial⟩ (fun hq => ?_)
              exact xq_ret rfl rfl rfl ⟨fx_w (fx_t (fx_t (fx_t (fx_t (fx_t (fx_0) (fx_w g1 (fun _ _ => sS_c) (fun _ _ z => z))) (g2)) (g3)) (g4)) (g5)) (fun _ _ => cS_t) (fun _ _ z => z), Or.inr ⟨rfl, _, f5, by omega, by omega⟩⟩
            · skip
              obtain ⟨rfl, c5⟩ := l5 (tke T n pq4) (oq4) (0) (by unfold kS; rw [if_neg w5_0])
              have kb5 := tkk_lt (T := T) (n := n) (p := tke T n pq4) hT
              have s65 := tks_le (T := T) (n := n) (p := tke T n pq4)
              refine xq_n 57 [0, 1, 2] [(0, .ref 3), (1, .int (nI (tks T n (tke T n p)))), (2, .int (xg 0 h1.2.1 8 5))] [] h5 [true] 3 hq rfl ⟨(by decide), trivial⟩ (fun hq => ?_)
              have cE : cr h5 T n mem nn NM (tke T n pq4) (oq4) 0 := c5
              have gE : fx cS fN h h5 := fx_t (fx_t (fx_t (fx_t (fx_t (fx_0) (fx_w g1 (fun _ _ => sS_c) (fun _ _ z => z))) (g2)) (g3)) (g4)) (g5)
              have hB : Bdy T n mem nn (nmW T NM) p o (.inl (tke T n pq4, oq4, tkw T n (tke T n p))) := by
                unfold Bdy
                repeat (first | rw [if_pos (by omega)] | rw [if_neg (by omega)] | rw [if_pos w2_0] | rw [if_neg w2_0] | rw [if_neg (by rw [w2_0]; decide)] | rw [if_pos w2_1] | rw [if_neg w2_1] | rw [if_neg (by rw [w2_1]; decide)] | rw [if_pos w2_2] | rw [if_neg w2_2] | rw [if_neg (by rw [w2_2]; decide)] | rw [if_pos w2_0t] | rw [if_neg w2_0t] | rw [if_neg (by rw [w2_0t]; decide)] | rw [if_pos w3_0] | rw [if_neg w3_0] | rw [if_neg (by rw [w3_0]; decide)] | rw [if_pos w5_0] | rw [if_neg w5_0] | rw [if_neg (by rw [w5_0]; decide)])
                exact ⟨.inl (tke T n pq4, oq4), Or.inr ⟨_, _, rfl, Rc_t (VR_c G4.2.2 0 [] (by decide) rfl) (Rc_1 (by rw [enE]; unfold en; rw [if_neg (by intro z; cases z), if_neg (by rw [G4.1]; decide), if_neg (by rw [G4.2.1]; decide), if_pos (show [0].head? = some 0 from rfl), if_pos (by omega)]))⟩, rfl⟩
              rw [show xg 0 h1.2.1 8 5 = nI (tke T n (tke T n p)) from (t1.2.2.1 (by omega)).2]
              refine xq_mono (xq_and (bd_end hq cE gE (by omega) (by omega) (by omega) hB) (bd_endp (ptx_n (x4) n5) (by first | omega | (simp only [List.length_append, List.length_cons, List.length_nil]; omega)) cE.2.2.2.2.2.2.2.2.2.1.1 (by omega) hq)) (fun v h' e => ?_)
              obtain ⟨⟨e1, ⟨e2, n15, pe, oe, o7, ce, he⟩ | ⟨e2, k, pl', f1, f2, he⟩⟩, ex⟩ := e
              · obtain ⟨rfl, rfl⟩ := Bdy_u hB he
                exact ⟨e1, Or.inl ⟨e2, pq4, oq4, cq4, by omega, by omega, ce, by simpa only [List.append_assoc] using ex, ln4, (by assumption), (by first | assumption | exact eq_false_of_ne_true (by assumption)), by omega, by omega, G4.2.2, G4.1, G4.2.1, by omega⟩⟩
              · exact absurd he (Bdy_n hB)
          · have hq := fx_q g4 hq
            refine xq_n 56 [] [] [.int (Int32.ofInt 0)] h4 [true] 4 hq rfl ⟨(by decide), trivial⟩ (fun hq => ?_)
            exact xq_ret rfl rfl rfl ⟨fx_w (fx_t (fx_t (fx_t (fx_t (fx_0) (fx_w g1 (fun _ _ => sS_c) (fun _ _ z => z))) (g2)) (g3)) (g4)) (fun _ _ => cS_t) (fun _ _ z => z), Or.inr ⟨rfl, _, f4, by omega, by omega⟩⟩
def rt_P (h0 : xh_H) (T : Nat → Nat) (n mem : Nat) (v : Option Value) (h' : xh_H) : Prop := v = none ∧ fx cT fN h0 h' ∧ (tx_G T n mem h' ∨ ∃ k, xg 0 h'.2.1 3 8 = nI k ∧ 1 ≤ k ∧ k ≤ 4)
set_option maxRecDepth 100000 in
set_option maxHeartbeats 4000000 in
theorem rd_finp {f p o : Nat} {P : cdL} {h0 h : xh_H} (c0 : cr h T n mem nn NM p o 0) (g0 : fx cT fN h0 h) (pt : ptx h P) (pl : P.length ≤ 3 * o + nn) (fw : FW T n mem P p o nn (nmW T NM)) (o6 : o ≤ 120) (hb0 : ky T n p 0 = false) (hq : a_rq a_tb h) : xq f xi_X4_read xmi_X4_read 81 [(0, .ref 3), (2, .int (Int32.ofInt 1))] [] h (rt_P h0 T n mem) := by
  have hT : ∀ k, k < n → T k < 256 := fun k hk' => (c0.1.2.2 k hk').1
  have kb := tkk_lt (T := T) (n := n) (p := p) hT
  have n6 := c0.1.2.1
  have s6 := tks_le (T := T) (n := n) (p := p)
  have mm := c0.2.2.2.2.1
  have n16 := c0.2.2.2.2.2.2.2.2.2.1.2.1
  refine xq_n 88 [0, 2] [(0, .ref 3), (2, .int (Int32.ofInt 1))] [.float 3, .ref 3] h [false] 6 hq rfl ⟨(by decide), trivial⟩ (fun hq => ?_)
  refine xq_run hq rfl rfl (xq_and (tw1_q c0 hq) (tw1_n c0 hq)) ?_
  rintro v1 h1 ⟨⟨g1, l1, q1⟩, n1⟩
  have hq := fx_q g1 hq
  by_cases w1_0 : ky T n p 1 = false
  · obtain ⟨rfl, f1, y1, z1, e61, e1⟩ := q1 1 (tks T n p) (by unfold kW; rw [if_pos w1_0])
    refine xq_n 115 [] [] [] h1 [true] 3 hq rfl ⟨(by decide), trivial⟩ (fun hq => ?_)
    exact xq_ret rfl rfl rfl ⟨rfl, fx_t g0 (fx_w (fx_t (fx_0) (g1)) (fun _ _ => cS_t) (fun _ _ z => z)), Or.inr ⟨_, f1, by omega, by omega⟩⟩
  · skip
    have w1_0t : ky T n p 1 = true := eq_true_of_ne_false w1_0
    have dw1_0 := of_decide_eq_true w1_0t
    obtain ⟨rfl, c1⟩ := l1 (tke T n p) (o) (0) (by unfold kW; rw [if_neg w1_0])
    have kb1 := tkk_lt (T := T) (n := n) (p := tke T n p) hT
    have s61 := tks_le (T := T) (n := n) (p := tke T n p)
    refine xq_n 95 [0, 2] [(0, .ref 3), (2, .int (Int32.ofInt 1))] [.ref 3] h1 [false] 4 hq rfl ⟨(by decide), trivial⟩ (fun hq => ?_)
    refine xq_run hq rfl rfl ((rp_all f).2.2.1 _ _ _ _ (P) c1 (ptx_n (pt) n1) (by omega) (by omega) (by omega) hq) ?_
    rintro v2 h2 ⟨g2, ⟨rfl, pq2, oq2, cq2, c2, lt2, le2, x2, ln2, G2⟩ | ⟨rfl, kq2, f2, ka2, kz2⟩⟩
    · have hq := fx_q g2 hq
      have kb2 := tkk_lt (T := T) (n := n) (p := pq2) hT
      have s62 := tks_le (T := T) (n := n) (p := pq2)
      refine xq_n 104 [0, 2] [(0, .ref 3), (2, .int (Int32.ofInt 1))] [.int 59, .ref 3] h2 [false] 5 hq rfl ⟨(by decide), trivial⟩ (fun hq => ?_)
      refine xq_run hq rfl rfl (xq_and (ts_q (c := 59) (by decide) (by decide) c2 hq) (ts_n (c := 59) (by decide) (by decide) c2 hq)) ?_
      rintro v3 h3 ⟨⟨g3, l3, q3⟩, n3⟩
      have hq := fx_q g3 hq
      by_cases w3_0 : tkk T n pq2 ≠ 59
      · obtain ⟨rfl, f3, y3, z3, e63, e3⟩ := q3 1 (tks T n pq2) (by unfold kS; rw [if_pos w3_0])
        refine xq_n 115 [] [] [] h3 [true] 3 hq rfl ⟨(by decide), trivial⟩ (fun hq => ?_)
        exact xq_ret rfl rfl rfl ⟨rfl, fx_t g0 (fx_w (fx_t (fx_t (fx_t (fx_0) (g1)) (g2)) (g3)) (fun _ _ => cS_t) (fun _ _ z => z)), Or.inr ⟨_, f3, by omega, by omega⟩⟩
      · skip
        obtain ⟨rfl, c3⟩ := l3 (tke T n pq2) (oq2) (0) (by unfold kS; rw [if_neg w3_0])
        have kb3 := tkk_lt (T := T) (n := n) (p := tke T n pq2) hT
        have s63 := tks_le (T := T) (n := n) (p := tke T n pq2)
        refine xq_n 111 [0, 2] [(0, .ref 3), (2, .int (Int32.ofInt 1))] [.ref 3] h3 [false] 4 hq rfl ⟨(by decide), trivial⟩ (fun hq => ?_)
        refine xq_run hq rfl rfl (xq_and (te_q c3 hq) (te_n c3 hq)) ?_
        rintro v4 h4 ⟨⟨g4, l4, q4⟩, n4⟩
        have hq := fx_q g4 hq
        by_cases w4 : tkk T n (tke T n pq2) = 0 ∧ n ≤ 600
        · obtain ⟨rfl, c4⟩ := l4 (tke T n pq2) (oq2) (0) (by unfold kE; rw [if_pos w4])
          refine xq_n 115 [] [] [] h4 [] 3 hq rfl trivial (fun hq => ?_)
          exact xq_ret rfl rfl rfl ⟨rfl, fx_t g0 (fx_w (fx_t (fx_t (fx_t (fx_t (fx_0) (g1)) (g2)) (g3)) (g4)) (fun _ _ => cS_t) (fun _ _ z => z)), Or.inl (FW_e fw hb0 (by assumption) G2.2.2 G2.1 G2.2.1 (by omega) (rk0.mpr w4) (ptx_n (ptx_n (x2) n3) n4) (by first | omega | (simp only [List.length_append, List.length_cons, List.length_nil]; omega)))⟩
        · obtain ⟨rfl, f4, y4, -⟩ := q4 1 (tks T n (tke T n pq2)) (by unfold kE; rw [if_neg w4])
          refine xq_n 115 [] [] [] h4 [] 3 hq rfl trivial (fun hq => ?_)
          exact xq_ret rfl rfl rfl ⟨rfl, fx_t g0 (fx_w (fx_t (fx_t (fx_t (fx_t (fx_0) (g1)) (g2)) (g3)) (g4)) (fun _ _ => cS_t) (fun _ _ z => z)), Or.inr ⟨_, f4, by omega, by omega⟩⟩
    · have hq := fx_q g2 hq
      refine xq_n 115 [] [] [] h2 [true] 3 hq rfl ⟨(by decide), trivial⟩ (fun hq => ?_)
      exact xq_ret rfl rfl rfl ⟨rfl, fx_t g0 (fx_w (fx_t (fx_t (fx_0) (g1)) (g2)) (fun _ _ => cS_t) (fun _ _ z => z)), Or.inr ⟨_, f2, by omega, by omega⟩⟩
set_option maxRecDepth 100000 in
set_option maxHeartbeats 4000000 in
theorem rdb_lpp {h0 : xh_H} : ∀ (f nn p o : Nat) (NM : Nat → Nat × Nat) (P : cdL) (h : xh_H), cr h T n mem nn NM p o 0 → fx cT fN h0 h → ptx h P → P.length ≤ 3 * o + nn → FW T n mem P p o nn (nmW T NM) → o ≤ 120 → a_rq a_tb h → xq f xi_X4_read xmi_X4_read 48 [(0, .ref 3), (2, .int (Int32.ofInt 1)), (3, .int (nI nn))] [] h (rt_P h0 T n mem) := by
  intro f
  induction f with
  | zero => intros; exact xq_0
  | succ f ih =>
    intro nn p o NM P h c0 g0 pt pl fw o6 hq
    have n16 := c0.2.2.2.2.2.2.2.2.2.1.2.1
    refine xq_m 64 [0, 2, 3] [(0, .ref 3), (2, .int (Int32.ofInt 1)), (3, .int (nI nn))] [.float 2, .ref 8] h [false, false] 10 hq rfl ⟨(show xe_c .gt (nI nn) 16 = false by exact xgt_f (by rw [nI_toInt (by omega)]; show ((nn : Nat) : Int) ≤ 16; omega)), by decide, trivial⟩ (fun hq => ?_)
    refine xq_run hq rfl rfl (iw0_q c0.1 c0.2.1 hq) ?_
    rintro v h1 ⟨rfl, rfl⟩
    cases b : ky T n p 0 with
    | false =>
      refine xq_n 81 [0, 2] [(0, .ref 3), (2, .int (Int32.ofInt 1))] [] h [true] 3 hq rfl ⟨rfl, trivial⟩ (fun hq => ?_)
      exact rd_finp c0 g0 pt pl fw o6 b hq
    | true =>
      have db := of_decide_eq_true b
      refine xq_n 71 [0, 3] [(0, .ref 3), (3, .int (nI nn))] [.ref 3] h [false] 4 hq rfl ⟨rfl, trivial⟩ (fun hq => ?_)
      refine xq_run hq rfl rfl (bd_p c0 pt pl o6 (by omega) hq) ?_
      rintro v h1 ⟨g1, ⟨rfl, p', o', c, oo, o7, c1, x1, ln, kn, hn', n15, k58, hv, k2, k3, k59⟩ | ⟨rfl, k, f1, ka, kz⟩⟩
      · have hq := fx_q g1 hq
        refine xq_n 48 [0, 2, 3] [(0, .ref 3), (2, .int (Int32.ofInt 1)), (3, .int ((nI nn) + Int32.ofInt 1))] [] h1 [] 5 hq rfl trivial (fun hq => ?_)
        rw [show nI nn + Int32.ofInt 1 = nI (nn + 1) from nI_1 _]
        have fw' := FW_s fw b kn hn' n15 k58 hv k2 k3 k59
        rw [show upN (nmW T NM) nn (tkw T n (tke T n p)) = nmW T (upM NM nn (tks T n (tke T n p), tke T n (tke T n p))) from (nmW_up (x := (tks T n (tke T n p), tke T n (tke T n p)))).symm] at fw'
        exact ih (nn + 1) _ o' _ _ h1 c1 (fx_t g0 g1) x1 (by simp only [List.length_append, List.length_cons, List.length_nil]; omega) fw' o7 hq
      · have hq := fx_q g1 hq
        refine xq_n 48 [0, 2, 3] [(0, .ref 3), (2, .int (Int32.ofInt 0)), (3, .int ((nI nn) + Int32.ofInt 1))] [] h1 [] 5 hq rfl trivial (fun hq => ?_)
        refine xq_mono (rd_z hq) (fun v h' e => ?_)
        obtain ⟨rfl, rfl⟩ := e
        exact ⟨rfl, fx_t g0 g1, Or.inr ⟨k, f1, ka, kz⟩⟩
set_option maxRecDepth 100000 in
set_option maxHeartbeats 4000000 in
/-- Reader.read -/
theorem read_p {f : Nat} {h : xh_H} (hc : ct h T n) (m12 : mem ≤ 12) (hq : a_rq a_tb h) : xq f xi_X4_read xmi_X4_read 0 [(0, .ref 3), (1, .int (nI mem))] [] h (fun v h' => tx_G T n mem h' ∨ ∃ k, xg 0 h'.2.1 3 8 = nI k ∧ 1 ≤ k ∧ k ≤ 4) := by
  refine xq_n 4 [0, 1] [(0, .ref 3), (1, .int (nI mem))] [.ref 4] h [] 4 hq rfl trivial (fun hq => ?_)
  refine xq_run (Q1 := fun v h' => v = none ∧ fx aS_ fN h h' ∧ xg 0 h'.2.1 4 3 = nI 0) hq rfl rfl ?_ ?_
  · refine xq_n 5 [] [] [] (xh_ui h 4 3 (Int32.ofInt 0)) [] 5 hq rfl trivial (fun _ => ?_)
    exact xq_ret rfl rfl rfl ⟨rfl, fx_ui fx_0 rfl, gx_s⟩
  rintro v h1 ⟨rfl, g1, z1⟩
  have hq := fx_q g1 hq
  refine xq_n 41 [0] [(0, .ref 3)] [.ref 8] (xh_ui (xh_ui (xh_ui (xh_ui (xh_ui (xh_ui h1 3 4 (nI mem)) 3 5 (Int32.ofInt 0)) 3 6 (Int32.ofInt 0)) 3 7 (Int32.ofInt 0)) 3 8 (Int32.ofInt 0)) 3 9 (Int32.ofInt 0)) [] 24 hq rfl trivial (fun _ => ?_)
  have hq : a_rq a_tb (xh_ui (xh_ui (xh_ui (xh_ui (xh_ui (xh_ui h1 3 4 (nI mem)) 3 5 (Int32.ofInt 0)) 3 6 (Int32.ofInt 0)) 3 7 (Int32.ofInt 0)) 3 8 (Int32.ofInt 0)) 3 9 (Int32.ofInt 0)) := a_rq_ui (a_rq_ui (a_rq_ui (a_rq_ui (a_rq_ui (a_rq_ui hq)))))
  have g2 : fx cU fN h (xh_ui (xh_ui (xh_ui (xh_ui (xh_ui (xh_ui h1 3 4 (nI mem)) 3 5 (Int32.ofInt 0)) 3 6 (Int32.ofInt 0)) 3 7 (Int32.ofInt 0)) 3 8 (Int32.ofInt 0)) 3 9 (Int32.ofInt 0)) := fx_ui (fx_ui (fx_ui (fx_ui (fx_ui (fx_ui (fx_w g1 (fun c k z => by obtain ⟨-, z⟩ := or_f z; obtain ⟨-, z⟩ := or_f z; obtain ⟨z4, z⟩ := or_f z; obtain ⟨z5, z⟩ := or_f z; obtain ⟨z6, -⟩ := or_f z; unfold aS_; rw [z4, z5, z6]; rfl) (fun _ _ z => z)) rfl) rfl) rfl) rfl) rfl) rfl
  have e4 : xg 0 (xh_ui (xh_ui (xh_ui (xh_ui (xh_ui (xh_ui h1 3 4 (nI mem)) 3 5 (Int32.ofInt 0)) 3 6 (Int32.ofInt 0)) 3 7 (Int32.ofInt 0)) 3 8 (Int32.ofInt 0)) 3 9 (Int32.ofInt 0)).2.1 3 4 = nI mem := (gx_k (by decide)).trans ((gx_k (by decide)).trans ((gx_k (by decide)).trans ((gx_k (by decide)).trans ((gx_k (by decide)).trans gx_s))))
  have e5 : xg 0 (xh_ui (xh_ui (xh_ui (xh_ui (xh_ui (xh_ui h1 3 4 (nI mem)) 3 5 (Int32.ofInt 0)) 3 6 (Int32.ofInt 0)) 3 7 (Int32.ofInt 0)) 3 8 (Int32.ofInt 0)) 3 9 (Int32.ofInt 0)).2.1 3 5 = nI 0 := (gx_k (by decide)).trans ((gx_k (by decide)).trans ((gx_k (by decide)).trans ((gx_k (by decide)).trans gx_s)))
  have e6 : xg 0 (xh_ui (xh_ui (xh_ui (xh_ui (xh_ui (xh_ui h1 3 4 (nI mem)) 3 5 (Int32.ofInt 0)) 3 6 (Int32.ofInt 0)) 3 7 (Int32.ofInt 0)) 3 8 (Int32.ofInt 0)) 3 9 (Int32.ofInt 0)).2.1 3 6 = nI 0 := (gx_k (by decide)).trans ((gx_k (by decide)).trans ((gx_k (by decide)).trans gx_s))
  have e7 : xg 0 (xh_ui (xh_ui (xh_ui (xh_ui (xh_ui (xh_ui h1 3 4 (nI mem)) 3 5 (Int32.ofInt 0)) 3 6 (Int32.ofInt 0)) 3 7 (Int32.ofInt 0)) 3 8 (Int32.ofInt 0)) 3 9 (Int32.ofInt 0)).2.1 3 7 = nI 0 := (gx_k (by decide)).trans ((gx_k (by decide)).trans gx_s)
  have e8 : xg 0 (xh_ui (xh_ui (xh_ui (xh_ui (xh_ui (xh_ui h1 3 4 (nI mem)) 3 5 (Int32.ofInt 0)) 3 6 (Int32.ofInt 0)) 3 7 (Int32.ofInt 0)) 3 8 (Int32.ofInt 0)) 3 9 (Int32.ofInt 0)).2.1 3 8 = nI 0 := (gx_k (by decide)).trans gx_s
  have e43 : xg 0 (xh_ui (xh_ui (xh_ui (xh_ui (xh_ui (xh_ui h1 3 4 (nI mem)) 3 5 (Int32.ofInt 0)) 3 6 (Int32.ofInt 0)) 3 7 (Int32.ofInt 0)) 3 8 (Int32.ofInt 0)) 3 9 (Int32.ofInt 0)).2.1 4 3 = nI 0 := (gx_o (by decide)).trans ((gx_o (by decide)).trans ((gx_o (by decide)).trans ((gx_o (by decide)).trans ((gx_o (by decide)).trans ((gx_o (by decide)).trans z1)))))
  generalize xh_ui (xh_ui (xh_ui (xh_ui (xh_ui (xh_ui h1 3 4 (nI mem)) 3 5 (Int32.ofInt 0)) 3 6 (Int32.ofInt 0)) 3 7 (Int32.ofInt 0)) 3 8 (Int32.ofInt 0)) 3 9 (Int32.ofInt 0) = h2 at hq g2 e4 e5 e6 e7 e8 e43 ⊢
  refine xq_run hq rfl rfl (beg_q (ct_f hc g2 rfl (fun _ => rfl)) hq) ?_
  rintro v h3 ⟨rfl, g3, t3, l3⟩
  have hq := fx_q g3 hq
  have g4 : fx cU fN h h3 := fx_t g2 (fx_w g3 (fun c k z => (or_f z).1) (fun _ _ z => z))
  refine xq_n 48 [0, 2, 3] [(0, .ref 3), (2, .int (Int32.ofInt 1)), (3, .int (Int32.ofInt 0))] [] h3 [] 6 hq rfl trivial (fun hq => ?_)
  have c3 : cr h3 T n mem 0 (fun _ => (0, 0)) 0 0 0 := ⟨ct_f hc g4 rfl (fun _ => rfl), t3, l3, (fx_i g3 rfl).trans e4, m12, (fx_i g3 rfl).trans e5, by decide, (fx_i g3 rfl).trans e6, by decide, ⟨(fx_i g3 rfl).trans e7, by decide, fun k hk' => absurd hk' (Nat.not_lt_zero k)⟩, (fx_i g3 rfl).trans e8⟩
  have pt : ptx h3 [] := ⟨(fx_i g3 rfl).trans e43, fun k hk' => absurd hk' (Nat.not_lt_zero k)⟩
  have fw : FW T n mem [] 0 0 0 (nmW T (fun _ => (0, 0))) := fun sv _ => ⟨fun _ => false, nI 0, ⟨0, by decide, rfl, fun k hk' => absurd hk' (Nat.not_lt_zero k)⟩, rfl, fun y j ht => by rw [Nat.zero_add]; exact ht⟩
  refine xq_mono (rdb_lpp f 0 0 0 _ [] h3 c3 fx_0 pt (Nat.zero_le _) fw (by decide) hq) (fun v h' e => ?_)
  exact e.2.2
end XPT2
