section XSR1
variable {tb : aT} {mid d : Nat} {mi : xm_M} {pc : Nat} {lv : List (Nat × Value)} {st : List Value} {h : xh_H} {Q : Option Value → xh_H → Prop}
theorem xq_all {α : Type} {f mid : Nat} {mi : xm_M} {pc : Nat} {lv : List (Nat × Value)} {st : List Value} {h : xh_H} {Q : α → Option Value → xh_H → Prop} (k : ∀ x, xq f mid mi pc lv st h (Q x)) : xq f mid mi pc lv st h (fun v h' => ∀ x, Q x v h') := fun d lw v h' c s hs he x => k x d lw v h' c s hs he
theorem xp_voidq {C : aC} {r : xr_R} {mj : xm_M} {As q : List Value} {σ : aN → Int} {P : aP} {Q1 : Option Value → xh_H → Prop} (hC : a_spec tb C) (hq : a_rq tb h) (hi0 : a_inv tb h) (hr : xC mid pc = some r) (hid : C.1 = r.2.2.1) (he : xa_c r st = some (mj, As, q)) (hd : C.2.1 ≤ d) (ha : a_st σ h.1.length C.2.2.1 As) (hp : a_fp C.2.2.2.2.2 h) (hret : C.2.2.2.1 = [(none, P)]) (hx : ∀ f, xq f r.2.2.1 mj 0 (lv_args 0 As) [] h Q1)
    (k : ∀ (h' : xh_H), Q1 none h' → a_inv tb h' → h'.1 = h.1 → a_fr C.2.2.2.2.1 h h' → a_rq tb h' → xt_P (d + 1) mid mi (pc + 3) lv q h' Q) : xt_P (d + 1) mid mi pc lv st h Q := by
  obtain ⟨e1, e2, e3, e4⟩ := xa_c_ok (d := d) (pc := pc) (lv := lv) (nL := mi.2.2.2.1) hq he
  obtain ⟨v, h', r1, p1, p2, ⟨t, ht, p3⟩, p4⟩ := hC d mj As h σ hd (by rw [hid]; exact e4) hi0 hq.1 ha hp
  rw [hret] at ht
  cases List.mem_singleton.mp ht
  obtain ⟨g1, g2⟩ := p3
  cases g1
  have r1' : xR none d r.2.2.1 mj (0, lv_args 0 As, [], h, 0, 0) (none, h', 0, 0) := by rw [← hid]; exact r1
  obtain ⟨v2, h2, r2, q2⟩ := k h' (xq_R lv_args_nd r1' hx) p1 p2 p4 (a_rq_of p1.1 (by rw [p2]; exact hq.1))
  exact ⟨v2, h2, xR_call (v := none) (h' := h') (mc := 0) (ms := 0) hr e3 e2 e1 r1' r2, q2⟩
end XSR1
section XSR2
variable {T : Nat → Nat} {n mem : Nat}
/-- the bits of the sets that carry -/
def fil (P : cdL) (mem r : Nat) (h' : xh_H) : Prop := ∀ s y, s < 4096 → (∃ nm, px (nI s) P ([], nI 0) = some ([bl y], nm)) → hv h' r s = (decide (s < 2 ^ mem) && y)
theorem fil_q {f q r mem : Nat} {P : cdL} {h : xh_H} (m12 : mem ≤ 12) (hs : h.1[q]? = some (0, 7)) (hg : xg none h.2.2.2 q 1 = some r) (hr : h.1[r]? = some (4, 64)) (l4 : P.length < 400) (hP : ∀ sv, sv < 4096 → ∃ y nm, px (nI sv) P ([], nI 0) = some ([bl y], nm)) (pt : ptx h P) (z : ∀ s, s < 4096 → hv h r s = false) (hq : a_rq a_tb h) : xq f xi_X3_fill xmi_X3_fill 0 [(0, .ref 4), (1, .ref q), (2, .int (nI mem))] [] h (fun v h' => fx F7 (Lr r) h h' ∧ fil P mem r h') := by
  refine xq_and ?_ ?_
  · obtain ⟨y, nm, hy⟩ := hP 0 (by decide)
    exact xq_mono (fl_q m12 (s := 0) (by decide) hs hg hr l4 hP ⟨nm, hy⟩ pt (z 0 (by decide)) hq) (fun _ _ e => e.2.1)
  · refine xq_all (fun s => xq_all (fun y => ?_))
    intro d lw v h' c s' hb he s4 hy
    exact (fl_q m12 s4 hs hg hr l4 hP hy pt (z s s4) hq d lw v h' c s' hb he).2.2
/-- what the class's statute leaves of its statutes -/
def cst (h h' : xh_H) (sc : Nat) : Prop := h.1.length ≤ h'.1.length ∧ (∀ c k, c < h.1.length → (c = 13 → k < sc) → xg none h'.2.2.2 c k = xg none h.2.2.2 c k) ∧ (∀ c k, c < h.1.length → xg 0 h'.2.2.1 c k = xg 0 h.2.2.1 c k) ∧ ∀ c k, (c = 11 ∨ 72 ≤ c) → c < h.1.length → xg 0 h'.2.1 c k = xg 0 h.2.1 c k
def cnw (h h' : xh_H) (T : Nat → Nat) (n mem sc : Nat) (f : Int32) : Prop := xg 0 h'.2.1 0 8 = nI (sc + 1) → h.1.length + 1 < h'.1.length ∧ xg none h'.2.2.2 13 sc = some h.1.length ∧ xg none h'.2.2.2 h.1.length 1 = some (h.1.length + 1) ∧ xg 0 h'.2.1 h.1.length 0 = f ∧ ∀ s, s < 4096 → ∃ y j, hv h' (h.1.length + 1) s = (decide (s < 2 ^ mem) && y) ∧ Tv T n mem s j 0 0 0 (nmW T (fun _ => (0, 0))) (fun _ => false) y
theorem cst_t {h h1 h2 : xh_H} {sc : Nat} (a : cst h h1 sc) (b : cst h1 h2 sc) : cst h h2 sc := ⟨Nat.le_trans a.1 b.1, fun c k l z => (b.2.1 c k (Nat.lt_of_lt_of_le l a.1) z).trans (a.2.1 c k l z), fun c k l => (b.2.2.1 c k (Nat.lt_of_lt_of_le l a.1)).trans (a.2.2.1 c k l), fun c k z l => (b.2.2.2 c k z (Nat.lt_of_lt_of_le l a.1)).trans (a.2.2.2 c k z l)⟩
theorem cst_f {S L : Nat → Nat → Bool} {h h' : xh_H} {sc : Nat} (g : fx S L h h') (e : ∀ c k, (c = 11 ∨ 72 ≤ c) → c < h.1.length → S c k = false) (e2 : ∀ c k, c < h.1.length → L c k = false) : cst h h' sc := ⟨by rw [g.1]; exact Nat.le_refl _, fun c k _ _ => by rw [g.2.1], fun c k l => fx_l g (e2 c k l), fun c k z l => fx_i g (e c k z l)⟩
theorem ns_z {h : xh_H} {f : Int32} {k : Nat} : xg 0 (ns_h h f).2.2.1 (h.1.length + 1) k = 0 := by
  show xg 0 (xh_rs (xh_rs h.2.2.1 h.1.length) (h.1 ++ [((0, 7) : Nat × Nat)]).length) (h.1.length + 1) k = 0
  rw [ns_l1, xh_rs_s]
theorem ns_cst {h : xh_H} {f : Int32} {sc : Nat} : cst h (ns_h h f) sc := ⟨by rw [ns_n]; omega, fun c k l _ => ns_r l, fun c k l => ns_g l, fun c k _ l => ns_i l⟩
theorem nI_8 {k : Nat} (h : k ≤ 8) (e : nI k = nI (k + 1)) : False := by
  have e2 := congrArg Int32.toInt e
  rw [nI_toInt (by omega), nI_toInt (by omega)] at e2
  omega
set_option maxRecDepth 100000 in
set_option maxHeartbeats 8000000 in
/-- from the new Statute on -/
theorem s9_rest3 {d n m sc : Nat} {f : Int32} {h : xh_H} (hn : 72 ≤ h.1.length) (hi : a_inv a_tb h) (n72 : 72 ≤ n) (hpn : n % 2 = 0) (hnl : n < h.1.length) (hsn : h.1[n]? = some (0, 7)) (e8' : xg 0 h.2.1 0 8 = nI sc) (sc8 : sc < 8) (e37 : xg 0 h.2.1 3 7 = nI m) {mem : Nat} {P : cdL} (m12 : mem ≤ 12) (e9 : xg 0 h.2.1 0 9 = nI mem) (hg : xg none h.2.2.2 n 1 = some (n + 1)) (hr : h.1[n + 1]? = some (4, 64)) (l4 : P.length < 400) (hP : ∀ sv, sv < 4096 → ∃ y nm, px (nI sv) P ([], nI 0) = some ([bl y], nm)) (pt : ptx h P) (hz : ∀ s, s < 4096 → hv h (n + 1) s = false) : xt_P (d + 49) xi_X9_statute xmi_X9_statute 91 [(0, .ref 0), (1, .int f)] [.ref n] h (fun v h' => (hk ss_md h h' ∧ v = some (.int (nI m)) ∧ xg 0 h'.2.1 1 1 = xg 0 h.2.1 1 1 ∧ xg 0 h'.2.1 0 8 = nI (sc + 1) ∧ xg 0 h'.2.1 0 11 = xg 0 h.2.1 0 11) ∧ xg none h'.2.2.2 13 sc = some n ∧ (∀ c k, (c = 13 → k ≠ sc) → xg none h'.2.2.2 c k = xg none h.2.2.2 c k) ∧ (∀ c k, c ≠ n + 1 → xg 0 h'.2.2.1 c k = xg 0 h.2.2.1 c k) ∧ (∀ c k, (c = 11 ∨ 72 ≤ c) → xg 0 h'.2.1 c k = xg 0 h.2.1 c k) ∧ fil P mem (n + 1) h') := by
  have hq := a_rq_of hi.1 hn
  have mb := a_flx (c := 0) (k := 9) (lo := 1) (hi := 12) hi.1 hn rfl rfl (by decide)
  refine xa_tn 104 [0, 2] [(0, .ref 0), (2, .ref n)] [.int (xg 0 h.2.1 0 9), .ref n, .ref 4] h [] 9 hq rfl trivial (fun _ => ?_)
  refine xp_voidq (C := aC_m_X3_fill) (P := []) (σ := fun _ => 0) as_m_X3_fill hq hi rfl rfl rfl (by show 2 ≤ d + 48; omega) ⟨a_av (t := 4) (by decide) hq.1, ⟨n, rfl, hnl, a_tg_e n72 hpn⟩, a_ai mb.1 mb.2, trivial⟩ a_fp0 rfl (fun f => by rw [e9]; exact fil_q (f := f) m12 hsn hg hr l4 hP pt hz hq) (fun h2 hx i2 l2 f2 q2 => ?_)
  obtain ⟨gx, gf⟩ := hx
  have hk2 : hk ss_md h h2 := hk_c (hk_0 hi) i2 l2 f2 (by decide)
  have e8 : xg 0 h2.2.1 0 8 = nI sc := (fr_g f2 rfl rfl).trans e8'
  have e7 : xg 0 h2.2.1 3 7 = nI m := (fr_g f2 rfl rfl).trans e37
  refine xa_tn 116 [0, 2] [(0, .ref 0), (2, .ref n)] [.ref n, .int (xg 0 h2.2.1 0 8), .ref 13] h2 [] 7 q2 rfl trivial (fun _ => ?_)
  rw [e8]
  have hin : xe_in (nI sc) 8 = true := xin_n (by omega) (by omega)
  have ecl : (nI sc).toNatClampNeg = sc := nI_clamp (by omega)
  have ki := nI_toInt (n := sc + 1) (by omega)
  have s13 : h2.1[13]? = some (5, 8) := q2.2.1 13 _ rfl
  have sn2 : h2.1[n]? = some (0, 7) := by rw [l2]; exact hsn
  refine xp_step (pc1 := 117) (lv1 := [(0, .ref 0), (2, .ref n)]) (st1 := []) (h1 := xh_ur h2 13 sc (some n)) (r := _) rfl rfl (by simp [xe_2, xe_1, xp_rir, s13, sn2, hin, ecl]) ?_
  have i3 : a_inv a_tb (xh_ur h2 13 sc (some n)) := a_inv_ur (s := (5, 8)) (e := (3, 11, 0)) i2 s13 rfl (Or.inr rfl) ⟨by rw [l2]; exact hnl, a_tg_e n72 hpn⟩
  have hk3 : hk ss_md h (xh_ur h2 13 sc (some n)) := ⟨i3, l2, hk2.2.2⟩
  have e11 : xg 0 (xh_ur h2 13 sc (some n)).2.1 1 1 = xg 0 h.2.1 1 1 := fr_g f2 rfl rfl
  have e0b : xg 0 (xh_ur h2 13 sc (some n)).2.1 0 11 = xg 0 h.2.1 0 11 := fr_g f2 rfl rfl
  have e83 : xg 0 (xh_ur h2 13 sc (some n)).2.1 0 8 = nI sc := e8
  have e73 : xg 0 (xh_ur h2 13 sc (some n)).2.1 3 7 = nI m := e7
  have u1 : xg none (xh_ur h2 13 sc (some n)).2.2.2 13 sc = some n := xh_up_s
  have u2 : ∀ c k, (c = 13 → k ≠ sc) → xg none (xh_ur h2 13 sc (some n)).2.2.2 c k = xg none h.2.2.2 c k := fun c k z => by
    show xg none (xh_up none h2.2.2.2 13 sc (some n)) c k = _
    by_cases y : c = 13
    · subst y
      rw [xh_up_k (z rfl), gx.2.1]
    · rw [xh_up_o y, gx.2.1]
  have u3 : ∀ c k, c ≠ n + 1 → xg 0 (xh_ur h2 13 sc (some n)).2.2.1 c k = xg 0 h.2.2.1 c k := fun c k z => gx.2.2.2 c k (show Nat.beq c (n + 1) = false from by rw [Bool.eq_false_iff]; intro y; exact z (Nat.eq_of_beq_eq_true y))
  have u4 : ∀ c k, (c = 11 ∨ 72 ≤ c) → xg 0 (xh_ur h2 13 sc (some n)).2.1 c k = xg 0 h.2.1 c k := fun c k z => gx.2.2.1 c k (show Nat.beq c 7 = false from by rw [Bool.eq_false_iff]; intro y; have := Nat.eq_of_beq_eq_true y; omega)
  have u5 : fil P mem (n + 1) (xh_ur h2 13 sc (some n)) := gf
  generalize xh_ur h2 13 sc (some n) = h3 at hk3 e83 e11 e0b e73 u1 u2 u3 u4 u5 ⊢
  refine xa_tn 134 [] [] [.int (xg 0 (xh_ui h3 0 8 ((xg 0 h3.2.1 0 8) + (Int32.ofInt 1))).2.1 3 7)] (xh_ui h3 0 8 ((xg 0 h3.2.1 0 8) + (Int32.ofInt 1))) [] 11 (hk_q hk3 hn) rfl trivial (fun _ => ?_)
  have e1 : nI sc + Int32.ofInt 1 = nI (sc + 1) := nI_1 sc
  rw [gx_o (by decide), e73, e83, e1]
  exact xp_ret rfl rfl rfl ⟨⟨hk_ui (s := (0, 9)) (lo := 0) (hi := 8) hk3 hn rfl rfl (by omega) (by omega) rfl rfl, rfl, (gx_o (by decide)).trans e11, gx_s, (gx_k (by decide)).trans e0b⟩, u1, u2, u3, fun c k z => (gx_o (by omega)).trans (u4 c k z), u5⟩
set_option maxRecDepth 100000 in
set_option maxHeartbeats 8000000 in
/-- .. with its making -/
theorem s9_new3 {d m sc : Nat} {f : Int32} {h : xh_H} (hn : 72 ≤ h.1.length) (hp : h.1.length % 2 = 0) (hi : a_inv a_tb h) (e8 : xg 0 h.2.1 0 8 = nI sc) (sc8 : sc < 8) (e37 : xg 0 h.2.1 3 7 = nI m) (f9 : f.toInt ≤ 999) {mem : Nat} (m12 : mem ≤ 12) (e9 : xg 0 h.2.1 0 9 = nI mem) (tg : tx_G T n mem h) : xt_B (d + 49) xi_X9_statute xmi_X9_statute 83 [(0, .ref 0), (1, .int f)] [] h (fun v h' c s => hl ss_md h h' ∧ ((v = some (.int (nI m)) ∧ xg 0 h'.2.1 1 1 = xg 0 h.2.1 1 1 ∧ xg 0 h'.2.1 0 8 = nI (sc + 1) ∧ xg 0 h'.2.1 0 11 = xg 0 h.2.1 0 11) ∧ cst h h' sc ∧ cnw h h' T n mem sc f) ∧ c ≤ 2 ∧ s ≤ 66) := by
  obtain ⟨P, pt, l4, tv⟩ := tg
  have i1 := ns_inv hi hn hp f9
  have n1 : (ns_h h f).1.length = h.1.length + 2 := ns_n
  obtain ⟨v, h', r, ⟨q1, q2, q3, q4, q5⟩, u1, u2, u3, u4, u5⟩ := s9_rest3 (d := d) (n := h.1.length) (m := m) (sc := sc) (f := f) (h := ns_h h f) (by omega) i1 hn hp (by omega) ns_s0 (by rw [ns_i (by omega)]; exact e8) sc8 (by rw [ns_i (by omega)]; exact e37) m12 (by rw [ns_i (by omega)]; exact e9) ns_r1 ns_s1 l4 (fun sv hs => by obtain ⟨y, j, nm, p1, -⟩ := tv sv hs; exact ⟨y, nm, p1⟩) ⟨(ns_i (by omega)).trans pt.1, fun k hk' => ⟨(ns_i (by omega)).trans (pt.2 k hk').1, (ns_i (by omega)).trans (pt.2 k hk').2⟩⟩ (fun s s4 => by rw [hv_lb, ns_z]; exact lb_0 (by omega))
  have b0 : h'.1 = (ns_h h f).1 := q1.2.1
  have cs : cst h h' sc := ⟨by rw [b0, n1]; omega, fun c k l z => (u2 c k (fun e y => by have := z e; omega)).trans (ns_r l), fun c k l => (u3 c k (by omega)).trans (ns_g l), fun c k z l => (u4 c k z).trans (ns_i l)⟩
  refine ⟨v, h', 2, 66, ?_, ⟨q1.1, by rw [q1.2.1]; omega, by rw [q1.2.1]; omega, a_fr_t (fun c k hz _ => ns_i (by have := a_fz_lt hz; omega)) q1.2.2 (fun _ z => z)⟩, ⟨⟨q2, q3.trans (ns_i (by omega)), q4, q5.trans (ns_i (by omega))⟩, cs, fun _ => ⟨by rw [b0]; omega, u1, (u2 _ _ (fun e => by omega)).trans ns_r1, (u4 _ _ (Or.inr hn)).trans ns_f, fun s s4 => by obtain ⟨y, j, nm, p1, p2⟩ := tv s s4; exact ⟨y, j, u5 s y s4 ⟨nm, p1⟩, p2⟩⟩⟩, Nat.le_refl _, Nat.le_refl _⟩
  refine xR_step (o1 := (86, [(0, .ref 0), (1, .int f)], [.ref h.1.length], xh_nw h (0, 7), 1, 2)) rfl rfl rfl ?_
  refine xR_step (o1 := (87, [(0, .ref 0), (1, .int f)], [.ref h.1.length, .ref h.1.length], xh_nw h (0, 7), 1, 2)) rfl rfl rfl ?_
  refine xR_step (o1 := (88, [(0, .ref 0), (1, .int f)], [.int f, .ref h.1.length, .ref h.1.length], xh_nw h (0, 7), 1, 2)) rfl rfl rfl ?_
  refine xR_call (d := d + 48) (v := none) (h' := ns_h h f) (mc := 1) (ms := 64) (As := [.ref h.1.length, .int f]) (q := [.ref h.1.length]) (mj := xmi_X7_init) rfl rfl rfl rfl (ns_init (d := d + 47)) ?_
  exact xR_ad r 2 66
theorem cU_72 {c k : Nat} (h : 72 ≤ c) : (cU c k || (Nat.beq c 1 || Nat.beq c 0)) = false := by
  have e : ∀ j, j < 72 → Nat.beq c j = false := fun j hj => by
    rw [Bool.eq_false_iff]
    intro y
    have := Nat.eq_of_beq_eq_true y
    omega
  unfold cU
  rw [e 8 (by decide), e 3 (by decide), e 4 (by decide), e 5 (by decide), e 6 (by decide), e 9 (by decide), e 10 (by decide), e 1 (by decide), e 0 (by decide)]
  rfl
set_option maxRecDepth 100000 in
set_option maxHeartbeats 8000000 in
/-- X9.statute -/
theorem s9r_run {d sc td : Nat} {f : Int32} {h : xh_H} (hn : 72 ≤ h.1.length) (hp : h.1.length % 2 = 0) (hi : a_inv a_tb h) (hc : ct h T n) (e9 : xg 0 h.2.1 0 9 = nI mem) (m12 : mem ≤ 12) (e8 : xg 0 h.2.1 0 8 = nI sc) (sc8 : sc ≤ 8) (e10 : xg 0 h.2.1 0 10 = nI td) (td9 : td ≤ 999) : xt_B (d + 49) xi_X9_statute xmi_X9_statute 0 [(0, .ref 0), (1, .int f)] [] h (fun v h' c s => hl ss_md h h' ∧ ((xg 0 h'.2.1 1 1 = 0 ∧ s9_A T n mem sc td f (xg 0 h.2.1 0 11) v h') ∧ cst h h' sc ∧ cnw h h' T n mem sc f) ∧ c ≤ 2 ∧ s ≤ 66) := by
  have hq := a_rq_of hi.1 hn
  have mb := a_flx (c := 0) (k := 9) (lo := 1) (hi := 12) hi.1 hn rfl rfl (by decide)
  have tdi := nI_toInt (n := td) (by omega)
  have bad : sref sc td f → xt_B (d + 49) xi_X9_statute xmi_X9_statute 24 [(0, .ref 0), (1, .int f)] [] h (fun v h' c s => hl ss_md h h' ∧ ((xg 0 h'.2.1 1 1 = 0 ∧ s9_A T n mem sc td f (xg 0 h.2.1 0 11) v h') ∧ cst h h' sc ∧ cnw h h' T n mem sc f) ∧ c ≤ 2 ∧ s ≤ 66) := by
    intro hs
    refine xb_P (Q1 := fun v h' => hk ss_md h h' ∧ (xg 0 h'.2.1 1 1 = 0 ∧ s9_A T n mem sc td f (xg 0 h.2.1 0 11) v h') ∧ cst h h' sc ∧ cnw h h' T n mem sc f) ?_ (fun v h' z => ⟨hl_hk z.1 hn hp, z.2, by decide, by decide⟩)
    refine xa_tn 35 [] [] [.int (-1000)] (xh_ui h 1 1 (Int32.ofInt 0)) [] 7 hq rfl trivial (fun _ => ?_)
    exact xp_ret rfl rfl rfl ⟨hk_ui (s := (0, 8)) (lo := 0) (hi := 640) (hk_0 hi) hn rfl rfl (by decide) (by decide) rfl rfl, ⟨gx_s, fun _ => ⟨rfl, (gx_o (by decide)).trans e8, gx_o (by decide)⟩, fun z => absurd hs z⟩, cst_f (S := fun c _ => Nat.beq c 1) (L := fN) (fx_ui fx_0 rfl) (fun c k z _ => by rw [Bool.eq_false_iff]; intro y; have := Nat.eq_of_beq_eq_true y; omega) (fun _ _ _ => rfl), fun z => (nI_8 sc8 (((gx_o (by decide)).trans e8).symm.trans z)).elim⟩
  by_cases k8 : 8 ≤ sc
  · exact xb_tn 24 [0, 1] [(0, .ref 0), (1, .int f)] [] h [true] 6 hq rfl ⟨(show xe_c .ge (xg 0 h.2.1 0 8) 8 = true by rw [e8]; exact nge_t (b := 8) (by omega) (by decide) k8), trivial⟩ (fun _ => bad (Or.inl k8))
  have c1 : xe_c .ge (xg 0 h.2.1 0 8) 8 = false := by rw [e8]; exact nge_f (b := 8) (by omega) (by decide) (by omega)
  cases c2 : xe_c .lt f (xg 0 h.2.1 0 10) with
  | true =>
    have b2 : f.toInt < (xg 0 h.2.1 0 10).toInt := a_ce c2
    rw [e10, tdi] at b2
    exact xb_tn 24 [0, 1] [(0, .ref 0), (1, .int f)] [] h [false, true] 10 hq rfl ⟨c1, c2, trivial⟩ (fun _ => bad (Or.inr (Or.inl b2)))
  | false =>
    have b2 : (xg 0 h.2.1 0 10).toInt ≤ f.toInt := a_ce (a_neg_ok c2)
    rw [e10, tdi] at b2
    cases c3 : xe_c .le f 999 with
    | false =>
      have b3 : (999 : Int) < f.toInt := a_ce (a_neg_ok c3)
      exact xb_tn 24 [0, 1] [(0, .ref 0), (1, .int f)] [] h [false, false, false] 13 hq rfl ⟨c1, c2, c3, trivial⟩ (fun _ => bad (Or.inr (Or.inr b3)))
    | true =>
      have f9 : f.toInt ≤ (999 : Int) := a_ce c3
      have nsr : ¬ sref sc td f := by
        rintro (z | z | z) <;> omega
      refine xb_tn 44 [0, 1] [(0, .ref 0), (1, .int f)] [.int (xg 0 h.2.1 0 9), .ref 3] h [false, false, true] 17 hq rfl ⟨c1, c2, c3, trivial⟩ (fun _ => ?_)
      refine xb_voidq (C := aC_m_X4_read) (P := []) (σ := fun _ => 0) as_m_X4_read hq hi rfl rfl rfl (by show 48 ≤ d + 48; omega) ⟨a_av (t := 3) (by decide) hq.1, a_ai mb.1 mb.2, trivial⟩ a_fp0 rfl (fun f => by rw [e9]; exact xq_and (read_q (f := f) hc m12 hq) (read_p (f := f) hc m12 hq)) (fun h1 hx i1 l1 f1 q1 => ?_)
      obtain ⟨⟨-, gx, j, r, hX, hO⟩, hG⟩ := hx
      have cs1 : cst h (xh_ui (xh_ui h1 1 1 (Int32.ofInt 0)) 0 11 (xg 0 (xh_ui h1 1 1 (Int32.ofInt 0)).2.1 3 8)) sc := cst_f (S := fun c k => cU c k || (Nat.beq c 1 || Nat.beq c 0)) (L := fN) (fx_ui (fx_ui (fx_w gx (fun _ _ z => (or_f z).1) (fun _ _ z => z)) rfl) rfl) (fun c k z _ => by rcases z with rfl | z <;> first | rfl | exact cU_72 z) (fun _ _ _ => rfl)
      have hk1 : hk ss_md h h1 := hk_c (hk_0 hi) i1 l1 f1 (by decide)
      have hn1 := hk_n hk1 hn
      have ka : hk ss_md h (xh_ui h1 1 1 (Int32.ofInt 0)) := hk_ui (s := (0, 8)) (lo := 0) (hi := 640) hk1 hn rfl rfl (by decide) (by decide) rfl rfl
      have b38 := a_flx (c := 3) (k := 8) (lo := 0) (hi := 4) ka.1.1 (hk_n ka hn) rfl rfl (by decide)
      have kb : hk ss_md h (xh_ui (xh_ui h1 1 1 (Int32.ofInt 0)) 0 11 (xg 0 (xh_ui h1 1 1 (Int32.ofInt 0)).2.1 3 8)) := hk_ui (s := (0, 9)) (lo := 0) (hi := 4) ka hn rfl rfl b38.1 b38.2 rfl rfl
      have d38 : xg 0 (xh_ui h1 1 1 (Int32.ofInt 0)).2.1 3 8 = xg 0 h1.2.1 3 8 := gx_o (by decide)
      have d8 : xg 0 (xh_ui (xh_ui h1 1 1 (Int32.ofInt 0)) 0 11 (xg 0 (xh_ui h1 1 1 (Int32.ofInt 0)).2.1 3 8)).2.1 0 8 = nI sc := (gx_k (by decide)).trans ((gx_o (by decide)).trans ((fx_i gx rfl).trans e8))
      have d11 : xg 0 (xh_ui (xh_ui h1 1 1 (Int32.ofInt 0)) 0 11 (xg 0 (xh_ui h1 1 1 (Int32.ofInt 0)).2.1 3 8)).2.1 0 11 = xg 0 h1.2.1 3 8 := gx_s.trans d38
      have d1 : xg 0 (xh_ui (xh_ui h1 1 1 (Int32.ofInt 0)) 0 11 (xg 0 (xh_ui h1 1 1 (Int32.ofInt 0)).2.1 3 8)).2.1 1 1 = 0 := (gx_o (by decide)).trans gx_s
      have d7 : xg 0 (xh_ui (xh_ui h1 1 1 (Int32.ofInt 0)) 0 11 (xg 0 (xh_ui h1 1 1 (Int32.ofInt 0)).2.1 3 8)).2.1 3 7 = xg 0 h1.2.1 3 7 := (gx_o (by decide)).trans (gx_o (by decide))
      have d9 : xg 0 (xh_ui (xh_ui h1 1 1 (Int32.ofInt 0)) 0 11 (xg 0 (xh_ui h1 1 1 (Int32.ofInt 0)).2.1 3 8)).2.1 3 9 = xg 0 h1.2.1 3 9 := (gx_o (by decide)).trans (gx_o (by decide))
      cases r with
      | inr e =>
        obtain ⟨k, pl⟩ := e
        obtain ⟨o1, o2⟩ := hO.2 _ _ rfl
        obtain ⟨k1, k4⟩ := Tx_k hX
        refine xb_P (Q1 := fun v h' => hk ss_md h h' ∧ (xg 0 h'.2.1 1 1 = 0 ∧ s9_A T n mem sc td f (xg 0 h.2.1 0 11) v h') ∧ cst h h' sc ∧ cnw h h' T n mem sc f) ?_ (fun v h' z => ⟨hl_hk z.1 hn hp, z.2, by decide, by decide⟩)
        refine xa_tn 82 [] [] [.int ((Int32.ofInt (-1)) - (xg 0 (xh_ui (xh_ui h1 1 1 (Int32.ofInt 0)) 0 11 (xg 0 (xh_ui h1 1 1 (Int32.ofInt 0)).2.1 3 8)).2.1 3 9))] (xh_ui (xh_ui h1 1 1 (Int32.ofInt 0)) 0 11 (xg 0 (xh_ui h1 1 1 (Int32.ofInt 0)).2.1 3 8)) [false] 19 q1 rfl ⟨(show xe_c .eq (xg 0 (xh_ui (xh_ui h1 1 1 (Int32.ofInt 0)) 0 11 (xg 0 (xh_ui h1 1 1 (Int32.ofInt 0)).2.1 3 8)).2.1 0 11) 0 = false by rw [d11, o1]; exact xeq_f (by rw [nI_toInt (by omega)]; show ((k : Nat) : Int) ≠ 0; omega)), trivial⟩ (fun _ => ?_)
        rw [d9, o2]
        exact xp_ret rfl rfl rfl ⟨kb, ⟨d1, fun z => absurd z nsr, fun _ => ⟨j, _, hX, fun _ e => (by cases e), fun _ _ e => by cases e; exact ⟨rfl, d8, d11.trans o1⟩⟩⟩, cs1, fun z => (nI_8 sc8 (d8.symm.trans z)).elim⟩
      | inl m =>
        obtain ⟨o1, o2, o3⟩ := hO.1 _ rfl
        refine xb_tn 83 [0, 1] [(0, .ref 0), (1, .int f)] [] (xh_ui (xh_ui h1 1 1 (Int32.ofInt 0)) 0 11 (xg 0 (xh_ui h1 1 1 (Int32.ofInt 0)).2.1 3 8)) [true] 14 q1 rfl ⟨(show xe_c .eq (xg 0 (xh_ui (xh_ui h1 1 1 (Int32.ofInt 0)) 0 11 (xg 0 (xh_ui h1 1 1 (Int32.ofInt 0)).2.1 3 8)).2.1 0 11) 0 = true by rw [d11, o1]; rfl), trivial⟩ (fun _ => ?_)
        have tg : tx_G T n mem (xh_ui (xh_ui h1 1 1 (Int32.ofInt 0)) 0 11 (xg 0 (xh_ui h1 1 1 (Int32.ofInt 0)).2.1 3 8)) := by
          rcases hG with ⟨P, pt, l4, tv⟩ | ⟨k, k1, k2, k3⟩
          · exact ⟨P, ptx_f (S := fun c k => Nat.beq c 1 || Nat.beq c 0) (L := fN) pt (fx_ui (fx_ui fx_0 rfl) rfl) rfl (fun _ => rfl) (fun _ => rfl), l4, tv⟩
          · rw [o1] at k1
            have k4 := congrArg Int32.toInt k1
            rw [nI_toInt (by omega), nI_toInt (by omega)] at k4
            omega
        have dm : xg 0 (xh_ui (xh_ui h1 1 1 (Int32.ofInt 0)) 0 11 (xg 0 (xh_ui h1 1 1 (Int32.ofInt 0)).2.1 3 8)).2.1 0 9 = nI mem := (gx_k (by decide)).trans ((gx_o (by decide)).trans ((fx_i gx rfl).trans e9))
        have dl : (xh_ui (xh_ui h1 1 1 (Int32.ofInt 0)) 0 11 (xg 0 (xh_ui h1 1 1 (Int32.ofInt 0)).2.1 3 8)).1 = h.1 := gx.1
        generalize xh_ui (xh_ui h1 1 1 (Int32.ofInt 0)) 0 11 (xg 0 (xh_ui h1 1 1 (Int32.ofInt 0)).2.1 3 8) = h2 at kb d8 d11 d1 d7 d9 cs1 tg dm dl ⊢
        obtain ⟨v, h', c, s, r, z1, ⟨⟨z2, z3, z4, z5⟩, cs2, cn2⟩, z6⟩ := s9_new3 (d := d) (m := m) (sc := sc) (f := f) (hk_n kb hn) (by rw [kb.2.1]; exact hp) kb.1 d8 (by omega) (d7.trans o2) f9 m12 dm tg
        refine ⟨v, h', c, s, r, ⟨z1.1, z1.2.1, z1.2.2.1, a_fr_t kb.2.2 z1.2.2.2 (fun _ z => z)⟩, ⟨⟨z3.trans d1, fun z => absurd z nsr, fun _ => ⟨j, _, hX, fun _ e => ?_, fun _ _ e => (by cases e)⟩⟩, cst_t cs1 cs2, by unfold cnw at cn2 ⊢; rw [dl] at cn2; exact cn2⟩, z6⟩
        cases e
        exact ⟨z2, o3, z4, z5.trans (d11.trans o1)⟩
end XSR2
