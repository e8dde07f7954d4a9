section XSU1
variable {T : Nat → Nat} {n mem nn : Nat} {NW : Nat → Nat}
/-! a fault's kind is not 0 -/
theorem bls_k {p o k pl : Nat} {fs : List Nat} (e : bls T n p o fs = .inr (k, pl)) : 1 ≤ k ∧ k ≤ 4 := by
  unfold bls at e
  repeat' split at e
  all_goals first | (cases e; done) | (cases e; decide)
theorem bo_k {p o k pl : Nat} {fs : List Nat} (e : bo T n mem nn NW p o fs = .inr (k, pl)) : 1 ≤ k ∧ k ≤ 4 := by
  unfold bo at e
  repeat' split at e
  all_goals first | exact bls_k e | (cases e; done) | (cases e; decide)
theorem bg_k {p o k pl : Nat} {fs : List Nat} (e : bg T n mem nn NW p o fs = .inr (k, pl)) : 1 ≤ k ∧ k ≤ 4 := by
  unfold bg bi at e
  repeat' split at e
  all_goals first | exact bls_k e | exact bo_k e | (cases e; done) | (cases e; decide)
theorem en_k {p o k pl : Nat} {fs : List Nat} (e : en T n p o fs = .inr (k, pl)) : 1 ≤ k ∧ k ≤ 4 := by
  unfold en at e
  repeat' split at e
  all_goals first | (cases e; done) | (cases e; decide)
theorem stp_k {s : aSt} {k pl : Nat} (e : stp T n mem nn NW s = .inr (k, pl)) : 1 ≤ k ∧ k ≤ 4 := by
  unfold stp at e
  split at e
  · cases e
  · split at e
    · exact bg_k e
    · exact en_k e
theorem its_k {k pl : Nat} : ∀ {j : Nat} {s : aSt}, its T n mem nn NW j s = .inr (k, pl) → 1 ≤ k ∧ k ≤ 4 := by
  intro j
  induction j with
  | zero => intro s e; cases e
  | succ j ih =>
    intro s e
    have e : (match stp T n mem nn NW s with
      | .inl s' => its T n mem nn NW j s'
      | .inr e => .inr e) = .inr (k, pl) := e
    cases hs : stp T n mem nn NW s with
    | inl s' => rw [hs] at e; exact ih e
    | inr e2 => rw [hs] at e; cases e; exact stp_k hs
theorem RLq_k {p o k pl : Nat} (e : RLq T n mem nn NW p o (.inr (k, pl))) : 1 ≤ k ∧ k ≤ 4 := by
  rcases e with ⟨k', pl', e1, j, e2⟩ | ⟨p', o', e1, -⟩
  · cases e1
    exact its_k e2
  · cases e1
theorem Bdy_k {p o k pl : Nat} (e : Bdy T n mem nn NW p o (.inr (k, pl))) : 1 ≤ k ∧ k ≤ 4 := by
  unfold Bdy at e
  repeat' split at e
  all_goals first | (cases e; decide) | skip
  obtain ⟨q, h1, h2⟩ := e
  cases q with
  | inl s => cases h2
  | inr e2 =>
    obtain ⟨k', pl'⟩ := e2
    cases h2
    exact RLq_k h1
theorem Tx_k {k pl : Nat} : ∀ {j p o nn : Nat} {NW : Nat → Nat}, Tx T n mem j p o nn NW (.inr (k, pl)) → 1 ≤ k ∧ k ≤ 4 := by
  intro j
  induction j with
  | zero =>
    intro p o nn NW e
    have e := e.2
    unfold Fin_ at e
    split at e
    · cases e
      decide
    · obtain ⟨q, h1, ⟨k', pl', rfl, h2⟩ | ⟨p', o', rfl, h2⟩⟩ := e
      · cases h2
        exact RLq_k h1
      · split at h2
        · cases h2
        · cases h2
          decide
  | succ j ih =>
    intro p o nn NW e
    obtain ⟨-, b, h1, ⟨k', pl', rfl, h2⟩ | ⟨p', o', w, rfl, h2⟩⟩ := e
    · cases h2
      exact Bdy_k h1
    · exact ih h2
end XSU1
section XSU2
variable {tb : aT} {mid d : Nat} {mi : xm_M} {pc : Nat} {lv : List (Nat × Value)} {st : List Value} {h : xh_H} {Q : Option Value → xh_H → Nat → Nat → Prop}
/-- a call that answers nothing, by its contract and by what holds of its end -/
theorem xb_voidq {C : aC} {r : xr_R} {mj : xm_M} {As q : List Value} {σ : aN → Int} {P : aP} {Q1 : Option Value → xh_H → Prop} (hC : a_spec tb C) (hq : a_rq tb h) (hi0 : a_inv tb h) (hr : xC mid pc = some r) (hid : C.1 = r.2.2.1) (he : xa_c r st = some (mj, As, q)) (hd : C.2.1 ≤ d) (ha : a_st σ h.1.length C.2.2.1 As) (hp : a_fp C.2.2.2.2.2 h) (hret : C.2.2.2.1 = [(none, P)]) (hx : ∀ f, xq f r.2.2.1 mj 0 (lv_args 0 As) [] h Q1)
    (k : ∀ (h' : xh_H), Q1 none h' → a_inv tb h' → h'.1 = h.1 → a_fr C.2.2.2.2.1 h h' → a_rq tb h' → xt_B (d + 1) mid mi (pc + 3) lv q h' Q) : xt_B (d + 1) mid mi pc lv st h Q := by
  obtain ⟨e1, e2, e3, e4⟩ := xa_c_ok (d := d) (pc := pc) (lv := lv) (nL := mi.2.2.2.1) hq he
  obtain ⟨v, h', r1, p1, p2, ⟨t, ht, p3⟩, p4⟩ := hC d mj As h σ hd (by rw [hid]; exact e4) hi0 hq.1 ha hp
  rw [hret] at ht
  cases List.mem_singleton.mp ht
  obtain ⟨g1, g2⟩ := p3
  cases g1
  have r1' : xR none d r.2.2.1 mj (0, lv_args 0 As, [], h, 0, 0) (none, h', 0, 0) := by rw [← hid]; exact r1
  obtain ⟨v2, h2, c, s, r2, q2⟩ := k h' (xq_R lv_args_nd r1' hx) p1 p2 p4 (a_rq_of p1.1 (by rw [p2]; exact hq.1))
  have r3 := xR_call (v := none) (h' := h') (mc := 0) (ms := 0) hr e3 e2 e1 r1' r2
  exact ⟨v2, h2, c, s, r3, q2⟩
end XSU2
section XSU3
variable {T : Nat → Nat} {n mem : Nat}
set_option maxRecDepth 100000 in
set_option maxHeartbeats 8000000 in
/-- from the new Statute on -/
theorem s9_rest2 {d n m sc : Nat} {f : Int32} {h : xh_H} (hn : 72 ≤ h.1.length) (hi : a_inv a_tb h) (n72 : 72 ≤ n) (hpn : n % 2 = 0) (hnl : n < h.1.length) (hsn : h.1[n]? = some (0, 7)) (e8' : xg 0 h.2.1 0 8 = nI sc) (sc8 : sc < 8) (e37 : xg 0 h.2.1 3 7 = nI m) : xt_P (d + 49) xi_X9_statute xmi_X9_statute 91 [(0, .ref 0), (1, .int f)] [.ref n] h (fun v h' => hk ss_md h h' ∧ v = some (.int (nI m)) ∧ xg 0 h'.2.1 1 1 = xg 0 h.2.1 1 1 ∧ xg 0 h'.2.1 0 8 = nI (sc + 1) ∧ xg 0 h'.2.1 0 11 = xg 0 h.2.1 0 11) := by
  have hq := a_rq_of hi.1 hn
  have mb := a_flx (c := 0) (k := 9) (lo := 1) (hi := 12) hi.1 hn rfl rfl (by decide)
  refine xa_tn 104 [0, 2] [(0, .ref 0), (2, .ref n)] [.int (xg 0 h.2.1 0 9), .ref n, .ref 4] h [] 9 hq rfl trivial (fun _ => ?_)
  refine xp_void (C := aC_m_X3_fill) (P := []) (σ := fun _ => 0) as_m_X3_fill hq hi rfl rfl rfl (by show 2 ≤ d + 48; omega) ⟨a_av (t := 4) (by decide) hq.1, ⟨n, rfl, hnl, a_tg_e n72 hpn⟩, a_ai mb.1 mb.2, trivial⟩ a_fp0 rfl (fun h2 _ i2 l2 f2 q2 => ?_)
  have hk2 : hk ss_md h h2 := hk_c (hk_0 hi) i2 l2 f2 (by decide)
  have e8 : xg 0 h2.2.1 0 8 = nI sc := (fr_g f2 rfl rfl).trans e8'
  have e7 : xg 0 h2.2.1 3 7 = nI m := (fr_g f2 rfl rfl).trans e37
  refine xa_tn 116 [0, 2] [(0, .ref 0), (2, .ref n)] [.ref n, .int (xg 0 h2.2.1 0 8), .ref 13] h2 [] 7 q2 rfl trivial (fun _ => ?_)
  rw [e8]
  have hin : xe_in (nI sc) 8 = true := xin_n (by omega) (by omega)
  have ecl : (nI sc).toNatClampNeg = sc := nI_clamp (by omega)
  have ki := nI_toInt (n := sc + 1) (by omega)
  have s13 : h2.1[13]? = some (5, 8) := q2.2.1 13 _ rfl
  have sn2 : h2.1[n]? = some (0, 7) := by rw [l2]; exact hsn
  refine xp_step (pc1 := 117) (lv1 := [(0, .ref 0), (2, .ref n)]) (st1 := []) (h1 := xh_ur h2 13 sc (some n)) (r := _) rfl rfl (by simp [xe_2, xe_1, xp_rir, s13, sn2, hin, ecl]) ?_
  have i3 : a_inv a_tb (xh_ur h2 13 sc (some n)) := a_inv_ur (s := (5, 8)) (e := (3, 11, 0)) i2 s13 rfl (Or.inr rfl) ⟨by rw [l2]; exact hnl, a_tg_e n72 hpn⟩
  have hk3 : hk ss_md h (xh_ur h2 13 sc (some n)) := ⟨i3, l2, hk2.2.2⟩
  have e11 : xg 0 (xh_ur h2 13 sc (some n)).2.1 1 1 = xg 0 h.2.1 1 1 := fr_g f2 rfl rfl
  have e0b : xg 0 (xh_ur h2 13 sc (some n)).2.1 0 11 = xg 0 h.2.1 0 11 := fr_g f2 rfl rfl
  have e83 : xg 0 (xh_ur h2 13 sc (some n)).2.1 0 8 = nI sc := e8
  have e73 : xg 0 (xh_ur h2 13 sc (some n)).2.1 3 7 = nI m := e7
  generalize xh_ur h2 13 sc (some n) = h3 at hk3 e83 e11 e0b e73 ⊢
  refine xa_tn 134 [] [] [.int (xg 0 (xh_ui h3 0 8 ((xg 0 h3.2.1 0 8) + (Int32.ofInt 1))).2.1 3 7)] (xh_ui h3 0 8 ((xg 0 h3.2.1 0 8) + (Int32.ofInt 1))) [] 11 (hk_q hk3 hn) rfl trivial (fun _ => ?_)
  have e1 : nI sc + Int32.ofInt 1 = nI (sc + 1) := nI_1 sc
  rw [gx_o (by decide), e73, e83, e1]
  exact xp_ret rfl rfl rfl ⟨hk_ui (s := (0, 9)) (lo := 0) (hi := 8) hk3 hn rfl rfl (by omega) (by omega) rfl rfl, rfl, (gx_o (by decide)).trans e11, gx_s, (gx_k (by decide)).trans e0b⟩
set_option maxRecDepth 100000 in
set_option maxHeartbeats 8000000 in
/-- .. with its making -/
theorem s9_new2 {d m sc : Nat} {f : Int32} {h : xh_H} (hn : 72 ≤ h.1.length) (hp : h.1.length % 2 = 0) (hi : a_inv a_tb h) (e8 : xg 0 h.2.1 0 8 = nI sc) (sc8 : sc < 8) (e37 : xg 0 h.2.1 3 7 = nI m) (f9 : f.toInt ≤ 999) : xt_B (d + 49) xi_X9_statute xmi_X9_statute 83 [(0, .ref 0), (1, .int f)] [] h (fun v h' c s => hl ss_md h h' ∧ (v = some (.int (nI m)) ∧ xg 0 h'.2.1 1 1 = xg 0 h.2.1 1 1 ∧ xg 0 h'.2.1 0 8 = nI (sc + 1) ∧ xg 0 h'.2.1 0 11 = xg 0 h.2.1 0 11) ∧ c ≤ 2 ∧ s ≤ 66) := by
  have i1 := ns_inv hi hn hp f9
  have n1 : (ns_h h f).1.length = h.1.length + 2 := ns_n
  obtain ⟨v, h', r, q1, q2, q3, q4, q5⟩ := s9_rest2 (d := d) (n := h.1.length) (m := m) (sc := sc) (f := f) (h := ns_h h f) (by omega) i1 hn hp (by omega) ns_s0 (by rw [ns_i (by omega)]; exact e8) sc8 (by rw [ns_i (by omega)]; exact e37)
  refine ⟨v, h', 2, 66, ?_, ⟨q1.1, by rw [q1.2.1]; omega, by rw [q1.2.1]; omega, a_fr_t (fun c k hz _ => ns_i (by have := a_fz_lt hz; omega)) q1.2.2 (fun _ z => z)⟩, ⟨q2, q3.trans (ns_i (by omega)), q4, q5.trans (ns_i (by omega))⟩, Nat.le_refl _, Nat.le_refl _⟩
  refine xR_step (o1 := (86, [(0, .ref 0), (1, .int f)], [.ref h.1.length], xh_nw h (0, 7), 1, 2)) rfl rfl rfl ?_
  refine xR_step (o1 := (87, [(0, .ref 0), (1, .int f)], [.ref h.1.length, .ref h.1.length], xh_nw h (0, 7), 1, 2)) rfl rfl rfl ?_
  refine xR_step (o1 := (88, [(0, .ref 0), (1, .int f)], [.int f, .ref h.1.length, .ref h.1.length], xh_nw h (0, 7), 1, 2)) rfl rfl rfl ?_
  refine xR_call (d := d + 48) (v := none) (h' := ns_h h f) (mc := 1) (ms := 64) (As := [.ref h.1.length, .int f]) (q := [.ref h.1.length]) (mj := xmi_X7_init) rfl rfl rfl rfl (ns_init (d := d + 47)) ?_
  exact xR_ad r 2 66
/-- a statute is refused without its text being read -/
def sref (sc td : Nat) (f : Int32) : Prop := 8 ≤ sc ∨ f.toInt < (td : Int) ∨ 999 < f.toInt
/-- what the class's statute answers -/
def s9_A (T : Nat → Nat) (n mem sc td : Nat) (f fk : Int32) (v : Option Value) (h' : xh_H) : Prop := (sref sc td f → v = some (.int (-1000)) ∧ xg 0 h'.2.1 0 8 = nI sc ∧ xg 0 h'.2.1 0 11 = fk) ∧ (¬ sref sc td f → ∃ j r, Tx T n mem j 0 0 0 (nmW T (fun _ => (0, 0))) r ∧ (∀ m, r = .inl m → v = some (.int (nI m)) ∧ m ≤ 16 ∧ xg 0 h'.2.1 0 8 = nI (sc + 1) ∧ xg 0 h'.2.1 0 11 = nI 0) ∧ ∀ k pl, r = .inr (k, pl) → v = some (.int (Int32.ofInt (-1) - nI pl)) ∧ xg 0 h'.2.1 0 8 = nI sc ∧ xg 0 h'.2.1 0 11 = nI k)
set_option maxRecDepth 100000 in
set_option maxHeartbeats 8000000 in
/-- X9.statute -/
theorem s9t_run {d sc td : Nat} {f : Int32} {h : xh_H} (hn : 72 ≤ h.1.length) (hp : h.1.length % 2 = 0) (hi : a_inv a_tb h) (hc : ct h T n) (e9 : xg 0 h.2.1 0 9 = nI mem) (m12 : mem ≤ 12) (e8 : xg 0 h.2.1 0 8 = nI sc) (sc8 : sc ≤ 8) (e10 : xg 0 h.2.1 0 10 = nI td) (td9 : td ≤ 999) : xt_B (d + 49) xi_X9_statute xmi_X9_statute 0 [(0, .ref 0), (1, .int f)] [] h (fun v h' c s => hl ss_md h h' ∧ (xg 0 h'.2.1 1 1 = 0 ∧ s9_A T n mem sc td f (xg 0 h.2.1 0 11) v h') ∧ c ≤ 2 ∧ s ≤ 66) := by
  have hq := a_rq_of hi.1 hn
  have mb := a_flx (c := 0) (k := 9) (lo := 1) (hi := 12) hi.1 hn rfl rfl (by decide)
  have tdi := nI_toInt (n := td) (by omega)
  have bad : sref sc td f → xt_B (d + 49) xi_X9_statute xmi_X9_statute 24 [(0, .ref 0), (1, .int f)] [] h (fun v h' c s => hl ss_md h h' ∧ (xg 0 h'.2.1 1 1 = 0 ∧ s9_A T n mem sc td f (xg 0 h.2.1 0 11) v h') ∧ c ≤ 2 ∧ s ≤ 66) := by
    intro hs
    refine xb_P (Q1 := fun v h' => hk ss_md h h' ∧ xg 0 h'.2.1 1 1 = 0 ∧ s9_A T n mem sc td f (xg 0 h.2.1 0 11) v h') ?_ (fun v h' z => ⟨hl_hk z.1 hn hp, z.2, by decide, by decide⟩)
    refine xa_tn 35 [] [] [.int (-1000)] (xh_ui h 1 1 (Int32.ofInt 0)) [] 7 hq rfl trivial (fun _ => ?_)
    exact xp_ret rfl rfl rfl ⟨hk_ui (s := (0, 8)) (lo := 0) (hi := 640) (hk_0 hi) hn rfl rfl (by decide) (by decide) rfl rfl, gx_s, fun _ => ⟨rfl, (gx_o (by decide)).trans e8, gx_o (by decide)⟩, fun z => absurd hs z⟩
  by_cases k8 : 8 ≤ sc
  · exact xb_tn 24 [0, 1] [(0, .ref 0), (1, .int f)] [] h [true] 6 hq rfl ⟨(show xe_c .ge (xg 0 h.2.1 0 8) 8 = true by rw [e8]; exact nge_t (b := 8) (by omega) (by decide) k8), trivial⟩ (fun _ => bad (Or.inl k8))
  have c1 : xe_c .ge (xg 0 h.2.1 0 8) 8 = false := by rw [e8]; exact nge_f (b := 8) (by omega) (by decide) (by omega)
  cases c2 : xe_c .lt f (xg 0 h.2.1 0 10) with
  | true =>
    have b2 : f.toInt < (xg 0 h.2.1 0 10).toInt := a_ce c2
    rw [e10, tdi] at b2
    exact xb_tn 24 [0, 1] [(0, .ref 0), (1, .int f)] [] h [false, true] 10 hq rfl ⟨c1, c2, trivial⟩ (fun _ => bad (Or.inr (Or.inl b2)))
  | false =>
    have b2 : (xg 0 h.2.1 0 10).toInt ≤ f.toInt := a_ce (a_neg_ok c2)
    rw [e10, tdi] at b2
    cases c3 : xe_c .le f 999 with
    | false =>
      have b3 : (999 : Int) < f.toInt := a_ce (a_neg_ok c3)
      exact xb_tn 24 [0, 1] [(0, .ref 0), (1, .int f)] [] h [false, false, false] 13 hq rfl ⟨c1, c2, c3, trivial⟩ (fun _ => bad (Or.inr (Or.inr b3)))
    | true =>
      have f9 : f.toInt ≤ (999 : Int) := a_ce c3
      have nsr : ¬ sref sc td f := by
        rintro (z | z | z) <;> omega
      refine xb_tn 44 [0, 1] [(0, .ref 0), (1, .int f)] [.int (xg 0 h.2.1 0 9), .ref 3] h [false, false, true] 17 hq rfl ⟨c1, c2, c3, trivial⟩ (fun _ => ?_)
      refine xb_voidq (C := aC_m_X4_read) (P := []) (σ := fun _ => 0) as_m_X4_read hq hi rfl rfl rfl (by show 48 ≤ d + 48; omega) ⟨a_av (t := 3) (by decide) hq.1, a_ai mb.1 mb.2, trivial⟩ a_fp0 rfl (fun f => by rw [e9]; exact read_q (f := f) hc m12 hq) (fun h1 hx i1 l1 f1 q1 => ?_)
      obtain ⟨-, gx, j, r, hX, hO⟩ := hx
      have hk1 : hk ss_md h h1 := hk_c (hk_0 hi) i1 l1 f1 (by decide)
      have hn1 := hk_n hk1 hn
      have ka : hk ss_md h (xh_ui h1 1 1 (Int32.ofInt 0)) := hk_ui (s := (0, 8)) (lo := 0) (hi := 640) hk1 hn rfl rfl (by decide) (by decide) rfl rfl
      have b38 := a_flx (c := 3) (k := 8) (lo := 0) (hi := 4) ka.1.1 (hk_n ka hn) rfl rfl (by decide)
      have kb : hk ss_md h (xh_ui (xh_ui h1 1 1 (Int32.ofInt 0)) 0 11 (xg 0 (xh_ui h1 1 1 (Int32.ofInt 0)).2.1 3 8)) := hk_ui (s := (0, 9)) (lo := 0) (hi := 4) ka hn rfl rfl b38.1 b38.2 rfl rfl
      have d38 : xg 0 (xh_ui h1 1 1 (Int32.ofInt 0)).2.1 3 8 = xg 0 h1.2.1 3 8 := gx_o (by decide)
      have d8 : xg 0 (xh_ui (xh_ui h1 1 1 (Int32.ofInt 0)) 0 11 (xg 0 (xh_ui h1 1 1 (Int32.ofInt 0)).2.1 3 8)).2.1 0 8 = nI sc := (gx_k (by decide)).trans ((gx_o (by decide)).trans ((fx_i gx rfl).trans e8))
      have d11 : xg 0 (xh_ui (xh_ui h1 1 1 (Int32.ofInt 0)) 0 11 (xg 0 (xh_ui h1 1 1 (Int32.ofInt 0)).2.1 3 8)).2.1 0 11 = xg 0 h1.2.1 3 8 := gx_s.trans d38
      have d1 : xg 0 (xh_ui (xh_ui h1 1 1 (Int32.ofInt 0)) 0 11 (xg 0 (xh_ui h1 1 1 (Int32.ofInt 0)).2.1 3 8)).2.1 1 1 = 0 := (gx_o (by decide)).trans gx_s
      have d7 : xg 0 (xh_ui (xh_ui h1 1 1 (Int32.ofInt 0)) 0 11 (xg 0 (xh_ui h1 1 1 (Int32.ofInt 0)).2.1 3 8)).2.1 3 7 = xg 0 h1.2.1 3 7 := (gx_o (by decide)).trans (gx_o (by decide))
      have d9 : xg 0 (xh_ui (xh_ui h1 1 1 (Int32.ofInt 0)) 0 11 (xg 0 (xh_ui h1 1 1 (Int32.ofInt 0)).2.1 3 8)).2.1 3 9 = xg 0 h1.2.1 3 9 := (gx_o (by decide)).trans (gx_o (by decide))
      cases r with
      | inr e =>
        obtain ⟨k, pl⟩ := e
        obtain ⟨o1, o2⟩ := hO.2 _ _ rfl
        obtain ⟨k1, k4⟩ := Tx_k hX
        refine xb_P (Q1 := fun v h' => hk ss_md h h' ∧ xg 0 h'.2.1 1 1 = 0 ∧ s9_A T n mem sc td f (xg 0 h.2.1 0 11) v h') ?_ (fun v h' z => ⟨hl_hk z.1 hn hp, z.2, by decide, by decide⟩)
        refine xa_tn 82 [] [] [.int ((Int32.ofInt (-1)) - (xg 0 (xh_ui (xh_ui h1 1 1 (Int32.ofInt 0)) 0 11 (xg 0 (xh_ui h1 1 1 (Int32.ofInt 0)).2.1 3 8)).2.1 3 9))] (xh_ui (xh_ui h1 1 1 (Int32.ofInt 0)) 0 11 (xg 0 (xh_ui h1 1 1 (Int32.ofInt 0)).2.1 3 8)) [false] 19 q1 rfl ⟨(show xe_c .eq (xg 0 (xh_ui (xh_ui h1 1 1 (Int32.ofInt 0)) 0 11 (xg 0 (xh_ui h1 1 1 (Int32.ofInt 0)).2.1 3 8)).2.1 0 11) 0 = false by rw [d11, o1]; exact xeq_f (by rw [nI_toInt (by omega)]; show ((k : Nat) : Int) ≠ 0; omega)), trivial⟩ (fun _ => ?_)
        rw [d9, o2]
        exact xp_ret rfl rfl rfl ⟨kb, d1, fun z => absurd z nsr, fun _ => ⟨j, _, hX, fun _ e => (by cases e), fun _ _ e => by cases e; exact ⟨rfl, d8, d11.trans o1⟩⟩⟩
      | inl m =>
        obtain ⟨o1, o2, o3⟩ := hO.1 _ rfl
        refine xb_tn 83 [0, 1] [(0, .ref 0), (1, .int f)] [] (xh_ui (xh_ui h1 1 1 (Int32.ofInt 0)) 0 11 (xg 0 (xh_ui h1 1 1 (Int32.ofInt 0)).2.1 3 8)) [true] 14 q1 rfl ⟨(show xe_c .eq (xg 0 (xh_ui (xh_ui h1 1 1 (Int32.ofInt 0)) 0 11 (xg 0 (xh_ui h1 1 1 (Int32.ofInt 0)).2.1 3 8)).2.1 0 11) 0 = true by rw [d11, o1]; rfl), trivial⟩ (fun _ => ?_)
        generalize xh_ui (xh_ui h1 1 1 (Int32.ofInt 0)) 0 11 (xg 0 (xh_ui h1 1 1 (Int32.ofInt 0)).2.1 3 8) = h2 at kb d8 d11 d1 d7 d9 ⊢
        obtain ⟨v, h', c, s, r, z1, ⟨z2, z3, z4, z5⟩, z6⟩ := s9_new2 (d := d) (m := m) (sc := sc) (f := f) (hk_n kb hn) (by rw [kb.2.1]; exact hp) kb.1 d8 (by omega) (d7.trans o2) f9
        refine ⟨v, h', c, s, r, ⟨z1.1, z1.2.1, z1.2.2.1, a_fr_t kb.2.2 z1.2.2.2 (fun _ z => z)⟩, ⟨z3.trans d1, fun z => absurd z nsr, fun _ => ⟨j, _, hX, fun _ e => ?_, fun _ _ e => (by cases e)⟩⟩, z6⟩
        cases e
        exact ⟨z2, o3, z4, z5.trans (d11.trans o1)⟩
end XSU3
