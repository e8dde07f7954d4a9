section XS9
/-- a run that may make cells comes to an end of which Q holds -/
def xt_B (d mid : Nat) (mi : xm_M) (pc : Nat) (lv : List (Nat × Value)) (st : List Value) (h : xh_H) (Q : Option Value → xh_H → Nat → Nat → Prop) : Prop := ∃ v h' c s, xR none d mid mi (pc, lv, st, h, 0, 0) (v, h', c, s) ∧ Q v h' c s
section
variable {tb : aT} {mid d : Nat} {mi : xm_M} {pc : Nat} {lv : List (Nat × Value)} {st : List Value} {h : xh_H} {Q : Option Value → xh_H → Nat → Nat → Prop}
theorem xb_tn (pc1 : Nat) (ks : List Nat) (lv1 : List (Nat × Value)) (st1 : List Value) (h1 : xh_H) (p : List Bool) (f : Nat) {P : Prop} (hq : a_rq tb h) (he : xa_n tb mid mi.2.2.2.1 pc1 f p ks pc lv st h = some ((pc1, lv1, st1, h1), P)) (hP : P) (k : a_rq tb h1 → xt_B d mid mi pc1 lv1 st1 h1 Q) : xt_B d mid mi pc lv st h Q := by
  unfold xa_n at he
  obtain ⟨n1, he⟩ := xw_c he
  split at he
  · rename_i pc2 lv2 st2 h2 P2 hx
    split at he
    · rename_i l hl
      cases he
      obtain ⟨k1, k2⟩ := xa_ok (d := d) f false p pc lv st h _ _ hx hq hP
      obtain ⟨v, h', c, s, r, q⟩ := k k1
      obtain ⟨e1, e2⟩ := xl_pk_ok hl
      refine ⟨v, h', c, s, k2 _ (xR_sb ⟨?_, e2⟩ r), q⟩
      rw [e1]
      exact xl_nd_ok n1
    · cases he
  · cases he
theorem xb_P {Q1 : Option Value → xh_H → Prop} (h1 : xt_P d mid mi pc lv st h Q1) (h2 : ∀ v h', Q1 v h' → Q v h' 0 0) : xt_B d mid mi pc lv st h Q := by
  obtain ⟨v, h', r, q⟩ := h1
  exact ⟨v, h', 0, 0, r, h2 v h' q⟩
theorem xb_void {C : aC} {r : xr_R} {mj : xm_M} {As q : List Value} {σ : aN → Int} {P : aP} (hC : a_spec tb C) (hq : a_rq tb h) (hi0 : a_inv tb h) (hr : xC mid pc = some r) (hid : C.1 = r.2.2.1) (he : xa_c r st = some (mj, As, q)) (hd : C.2.1 ≤ d) (ha : a_st σ h.1.length C.2.2.1 As) (hp : a_fp C.2.2.2.2.2 h) (hret : C.2.2.2.1 = [(none, P)])
    (k : ∀ (h' : xh_H), a_fp P h' → a_inv tb h' → h'.1 = h.1 → a_fr C.2.2.2.2.1 h h' → a_rq tb h' → xt_B (d + 1) mid mi (pc + 3) lv q h' Q) : xt_B (d + 1) mid mi pc lv st h Q := by
  obtain ⟨e1, e2, e3, e4⟩ := xa_c_ok (d := d) (pc := pc) (lv := lv) (nL := mi.2.2.2.1) hq he
  obtain ⟨v, h', r1, p1, p2, ⟨t, ht, p3⟩, p4⟩ := hC d mj As h σ hd (by rw [hid]; exact e4) hi0 hq.1 ha hp
  rw [hret] at ht
  cases List.mem_singleton.mp ht
  obtain ⟨g1, g2⟩ := p3
  cases g1
  obtain ⟨v2, h2, c, s, r2, q2⟩ := k h' g2 p1 p2 p4 (a_rq_of p1.1 (by rw [p2]; exact hq.1))
  have r3 := xR_call (v := none) (h' := h') (mc := 0) (ms := 0) hr e3 e2 e1 (by rw [← hid]; exact r1) r2
  exact ⟨v2, h2, c, s, r3, q2⟩
end
/-- what may change: the heap keeps its bounds, cells come in pairs -/
def hl (md : List (Nat × Nat)) (h0 h : xh_H) : Prop := a_inv a_tb h ∧ 72 ≤ h.1.length ∧ h.1.length % 2 = 0 ∧ a_fr md h0 h
theorem hl_hk {md : List (Nat × Nat)} {h0 h : xh_H} (hk0 : hk md h0 h) (hn : 72 ≤ h0.1.length) (hp : h0.1.length % 2 = 0) : hl md h0 h := ⟨hk0.1, hk_n hk0 hn, by rw [hk0.2.1]; exact hp, hk0.2.2⟩
theorem a_fr_t {md md' : List (Nat × Nat)} {h0 h1 h2 : xh_H} (a : a_fr md h0 h1) (b : a_fr md' h1 h2) (hs : ∀ q, q ∈ md' → q ∈ md) : a_fr md h0 h2 := fun c k hz hm => (b c k hz (fun z => hm (hs _ z))).trans (a c k hz hm)
abbrev ss_md : List (Nat × Nat) := [(0, 8), (0, 11), (1, 1), (7, 0), (3, 4), (3, 5), (3, 6), (3, 7), (3, 8), (3, 9), (4, 3), (5, 0), (6, 0), (8, 1), (8, 2), (8, 3), (8, 4), (8, 5), (8, 6), (9, 0), (10, 0)]
set_option maxRecDepth 100000 in
set_option maxHeartbeats 8000000 in
/-- from the new Statute on -/
theorem s9_rest {d n : Nat} {f : Int32} {h : xh_H} (hn : 72 ≤ h.1.length) (hi : a_inv a_tb h) (n72 : 72 ≤ n) (hpn : n % 2 = 0) (hnl : n < h.1.length) (hsn : h.1[n]? = some (0, 7)) (h8 : (xg 0 h.2.1 0 8).toInt < 8) : xt_P (d + 49) xi_X9_statute xmi_X9_statute 91 [(0, .ref 0), (1, .int f)] [.ref n] h (fun v h' => hk ss_md h h' ∧ (∃ x, v = some (.int x)) ∧ xg 0 h'.2.1 1 1 = xg 0 h.2.1 1 1) := by
  have hq := a_rq_of hi.1 hn
  have mb := a_flx (c := 0) (k := 9) (lo := 1) (hi := 12) hi.1 hn rfl rfl (by decide)
  have cb := a_flx (c := 0) (k := 8) (lo := 0) (hi := 8) hi.1 hn rfl rfl (by decide)
  refine xa_tn 104 [0, 2] [(0, .ref 0), (2, .ref n)] [.int (xg 0 h.2.1 0 9), .ref n, .ref 4] h [] 9 hq rfl trivial (fun _ => ?_)
  refine xp_void (C := aC_m_X3_fill) (P := []) (σ := fun _ => 0) as_m_X3_fill hq hi rfl rfl rfl (by show 2 ≤ d + 48; omega) ⟨a_av (t := 4) (by decide) hq.1, ⟨n, rfl, hnl, a_tg_e n72 hpn⟩, a_ai mb.1 mb.2, trivial⟩ a_fp0 rfl (fun h2 _ i2 l2 f2 q2 => ?_)
  have hk2 : hk ss_md h h2 := hk_c (hk_0 hi) i2 l2 f2 (by decide)
  have e8 : xg 0 h2.2.1 0 8 = xg 0 h.2.1 0 8 := fr_g f2 rfl rfl
  refine xa_tn 116 [0, 2] [(0, .ref 0), (2, .ref n)] [.ref n, .int (xg 0 h2.2.1 0 8), .ref 13] h2 [] 7 q2 rfl trivial (fun _ => ?_)
  obtain ⟨k, ek, k8, -⟩ := a_nk (m := 7) cb.1 (by omega)
  rw [e8, ek]
  have hin : xe_in (nI k) 8 = true := xin_n (by omega) (by omega)
  have ecl : (nI k).toNatClampNeg = k := nI_clamp (by omega)
  have ki := nI_toInt (n := k + 1) (by omega)
  have s13 : h2.1[13]? = some (5, 8) := q2.2.1 13 _ rfl
  have sn2 : h2.1[n]? = some (0, 7) := by rw [l2]; exact hsn
  refine xp_step (pc1 := 117) (lv1 := [(0, .ref 0), (2, .ref n)]) (st1 := []) (h1 := xh_ur h2 13 k (some n)) (r := _) rfl rfl (by simp [xe_2, xe_1, xp_rir, s13, sn2, hin, ecl]) ?_
  have i3 : a_inv a_tb (xh_ur h2 13 k (some n)) := a_inv_ur (s := (5, 8)) (e := (3, 11, 0)) i2 s13 rfl (Or.inr rfl) ⟨by rw [l2]; exact hnl, a_tg_e n72 hpn⟩
  have hk3 : hk ss_md h (xh_ur h2 13 k (some n)) := ⟨i3, l2, hk2.2.2⟩
  have e11 : xg 0 (xh_ur h2 13 k (some n)).2.1 1 1 = xg 0 h.2.1 1 1 := fr_g f2 rfl rfl
  have e83 : xg 0 (xh_ur h2 13 k (some n)).2.1 0 8 = nI k := by
    show xg 0 h2.2.1 0 8 = nI k
    rw [e8]
    exact ek
  generalize xh_ur h2 13 k (some n) = h3 at hk3 e83 e11 ⊢
  refine xa_tn 134 [] [] [.int (xg 0 (xh_ui h3 0 8 ((xg 0 h3.2.1 0 8) + (Int32.ofInt 1))).2.1 3 7)] (xh_ui h3 0 8 ((xg 0 h3.2.1 0 8) + (Int32.ofInt 1))) [] 11 (hk_q hk3 hn) rfl trivial (fun _ => ?_)
  have e1 : nI k + Int32.ofInt 1 = nI (k + 1) := nI_1 k
  rw [e83, e1]
  exact xp_ret rfl rfl rfl ⟨hk_ui (s := (0, 9)) (lo := 0) (hi := 8) hk3 hn rfl rfl (by omega) (by omega) rfl rfl, ⟨_, rfl⟩, (gx_o (by decide)).trans e11⟩
set_option maxRecDepth 100000 in
set_option maxHeartbeats 8000000 in
/-- .. with its making -/
theorem s9_new {d : Nat} {f : Int32} {h : xh_H} (hn : 72 ≤ h.1.length) (hp : h.1.length % 2 = 0) (hi : a_inv a_tb h) (h8 : (xg 0 h.2.1 0 8).toInt < 8) (f9 : f.toInt ≤ 999) : xt_B (d + 49) xi_X9_statute xmi_X9_statute 83 [(0, .ref 0), (1, .int f)] [] h (fun v h' c s => hl ss_md h h' ∧ ((∃ x, v = some (.int x)) ∧ xg 0 h'.2.1 1 1 = xg 0 h.2.1 1 1) ∧ c ≤ 2 ∧ s ≤ 66) := by
  have i1 := ns_inv hi hn hp f9
  have n1 : (ns_h h f).1.length = h.1.length + 2 := ns_n
  obtain ⟨v, h', r, q1, q2⟩ := s9_rest (d := d) (n := h.1.length) (f := f) (h := ns_h h f) (by omega) i1 hn hp (by omega) ns_s0 (by rw [ns_i (by omega)]; exact h8)
  refine ⟨v, h', 2, 66, ?_, ⟨q1.1, by rw [q1.2.1]; omega, by rw [q1.2.1]; omega, a_fr_t (fun c k hz _ => ns_i (by have := a_fz_lt hz; omega)) q1.2.2 (fun _ z => z)⟩, ⟨q2.1, q2.2.trans (ns_i (by omega))⟩, Nat.le_refl _, Nat.le_refl _⟩
  refine xR_step (o1 := (86, [(0, .ref 0), (1, .int f)], [.ref h.1.length], xh_nw h (0, 7), 1, 2)) rfl rfl rfl ?_
  refine xR_step (o1 := (87, [(0, .ref 0), (1, .int f)], [.ref h.1.length, .ref h.1.length], xh_nw h (0, 7), 1, 2)) rfl rfl rfl ?_
  refine xR_step (o1 := (88, [(0, .ref 0), (1, .int f)], [.int f, .ref h.1.length, .ref h.1.length], xh_nw h (0, 7), 1, 2)) rfl rfl rfl ?_
  refine xR_call (d := d + 48) (v := none) (h' := ns_h h f) (mc := 1) (ms := 64) (As := [.ref h.1.length, .int f]) (q := [.ref h.1.length]) (mj := xmi_X7_init) rfl rfl rfl rfl (ns_init (d := d + 47)) ?_
  exact xR_ad r 2 66
set_option maxRecDepth 100000 in
set_option maxHeartbeats 8000000 in
/-- X9.statute -/
theorem s9s_run {d : Nat} {f : Int32} {h : xh_H} (hn : 72 ≤ h.1.length) (hp : h.1.length % 2 = 0) (hi : a_inv a_tb h) : xt_B (d + 49) xi_X9_statute xmi_X9_statute 0 [(0, .ref 0), (1, .int f)] [] h (fun v h' c s => hl ss_md h h' ∧ ((∃ x, v = some (.int x)) ∧ xg 0 h'.2.1 1 1 = 0) ∧ c ≤ 2 ∧ s ≤ 66) := by
  have hq := a_rq_of hi.1 hn
  have mb := a_flx (c := 0) (k := 9) (lo := 1) (hi := 12) hi.1 hn rfl rfl (by decide)
  have bad : xt_B (d + 49) xi_X9_statute xmi_X9_statute 24 [(0, .ref 0), (1, .int f)] [] h (fun v h' c s => hl ss_md h h' ∧ ((∃ x, v = some (.int x)) ∧ xg 0 h'.2.1 1 1 = 0) ∧ c ≤ 2 ∧ s ≤ 66) := by
    refine xb_P (Q1 := fun v h' => hk ss_md h h' ∧ (∃ x, v = some (.int x)) ∧ xg 0 h'.2.1 1 1 = 0) ?_ (fun v h' z => ⟨hl_hk z.1 hn hp, z.2, by decide, by decide⟩)
    refine xa_tn 35 [] [] [.int (-1000)] (xh_ui h 1 1 (Int32.ofInt 0)) [] 7 hq rfl trivial (fun _ => ?_)
    exact xp_ret rfl rfl rfl ⟨hk_ui (s := (0, 8)) (lo := 0) (hi := 640) (hk_0 hi) hn rfl rfl (by decide) (by decide) rfl rfl, ⟨_, rfl⟩, gx_s⟩
  cases c1 : xe_c .ge (xg 0 h.2.1 0 8) 8 with
  | true => exact xb_tn 24 [0, 1] [(0, .ref 0), (1, .int f)] [] h [true] 6 hq rfl ⟨c1, trivial⟩ (fun _ => bad)
  | false =>
    have b8 : (xg 0 h.2.1 0 8).toInt < (8 : Int) := a_ce (a_neg_ok c1)
    cases c2 : xe_c .lt f (xg 0 h.2.1 0 10) with
    | true => exact xb_tn 24 [0, 1] [(0, .ref 0), (1, .int f)] [] h [false, true] 10 hq rfl ⟨c1, c2, trivial⟩ (fun _ => bad)
    | false =>
      cases c3 : xe_c .le f 999 with
      | false => exact xb_tn 24 [0, 1] [(0, .ref 0), (1, .int f)] [] h [false, false, false] 13 hq rfl ⟨c1, c2, c3, trivial⟩ (fun _ => bad)
      | true =>
        have f9 : f.toInt ≤ (999 : Int) := a_ce c3
        refine xb_tn 44 [0, 1] [(0, .ref 0), (1, .int f)] [.int (xg 0 h.2.1 0 9), .ref 3] h [false, false, true] 17 hq rfl ⟨c1, c2, c3, trivial⟩ (fun _ => ?_)
        refine xb_void (C := aC_m_X4_read) (P := []) (σ := fun _ => 0) as_m_X4_read hq hi rfl rfl rfl (by show 48 ≤ d + 48; omega) ⟨a_av (t := 3) (by decide) hq.1, a_ai mb.1 mb.2, trivial⟩ a_fp0 rfl (fun h1 _ i1 l1 f1 q1 => ?_)
        have hk1 : hk ss_md h h1 := hk_c (hk_0 hi) i1 l1 f1 (by decide)
        have hn1 := hk_n hk1 hn
        have ka : hk ss_md h (xh_ui h1 1 1 (Int32.ofInt 0)) := hk_ui (s := (0, 8)) (lo := 0) (hi := 640) hk1 hn rfl rfl (by decide) (by decide) rfl rfl
        have b38 := a_flx (c := 3) (k := 8) (lo := 0) (hi := 4) ka.1.1 (hk_n ka hn) rfl rfl (by decide)
        have kb : hk ss_md h (xh_ui (xh_ui h1 1 1 (Int32.ofInt 0)) 0 11 (xg 0 (xh_ui h1 1 1 (Int32.ofInt 0)).2.1 3 8)) := hk_ui (s := (0, 9)) (lo := 0) (hi := 4) ka hn rfl rfl b38.1 b38.2 rfl rfl
        cases c4 : xe_c .eq (xg 0 (xh_ui (xh_ui h1 1 1 (Int32.ofInt 0)) 0 11 (xg 0 (xh_ui h1 1 1 (Int32.ofInt 0)).2.1 3 8)).2.1 0 11) 0 with
        | false =>
          refine xb_P (Q1 := fun v h' => hk ss_md h h' ∧ (∃ x, v = some (.int x)) ∧ xg 0 h'.2.1 1 1 = 0) ?_ (fun v h' z => ⟨hl_hk z.1 hn hp, z.2, by decide, by decide⟩)
          refine xa_tn 82 [] [] [.int ((Int32.ofInt (-1)) - (xg 0 (xh_ui (xh_ui h1 1 1 (Int32.ofInt 0)) 0 11 (xg 0 (xh_ui h1 1 1 (Int32.ofInt 0)).2.1 3 8)).2.1 3 9))] (xh_ui (xh_ui h1 1 1 (Int32.ofInt 0)) 0 11 (xg 0 (xh_ui h1 1 1 (Int32.ofInt 0)).2.1 3 8)) [false] 19 q1 rfl ⟨c4, trivial⟩ (fun _ => ?_)
          exact xp_ret rfl rfl rfl ⟨kb, ⟨_, rfl⟩, (gx_o (by decide)).trans gx_s⟩
        | true =>
          refine xb_tn 83 [0, 1] [(0, .ref 0), (1, .int f)] [] (xh_ui (xh_ui h1 1 1 (Int32.ofInt 0)) 0 11 (xg 0 (xh_ui h1 1 1 (Int32.ofInt 0)).2.1 3 8)) [true] 14 q1 rfl ⟨c4, trivial⟩ (fun _ => ?_)
          have e8 : xg 0 (xh_ui (xh_ui h1 1 1 (Int32.ofInt 0)) 0 11 (xg 0 (xh_ui h1 1 1 (Int32.ofInt 0)).2.1 3 8)).2.1 0 8 = xg 0 h.2.1 0 8 := by rw [gx_k (by decide), gx_o (by decide), hk_g (c := 0) (k := 8) (md := aC_m_X4_read.2.2.2.2.1) (hk_c (hk_0 hi) i1 l1 f1 (fun _ z => z)) rfl rfl]
          have e11 : xg 0 (xh_ui (xh_ui h1 1 1 (Int32.ofInt 0)) 0 11 (xg 0 (xh_ui h1 1 1 (Int32.ofInt 0)).2.1 3 8)).2.1 1 1 = 0 := (gx_o (by decide)).trans gx_s
          generalize xh_ui (xh_ui h1 1 1 (Int32.ofInt 0)) 0 11 (xg 0 (xh_ui h1 1 1 (Int32.ofInt 0)).2.1 3 8) = h2 at kb e8 e11 ⊢
          obtain ⟨v, h', c, s, r, z1, z2⟩ := s9_new (d := d) (f := f) (hk_n kb hn) (by rw [kb.2.1]; exact hp) kb.1 (by rw [e8]; exact b8) f9
          exact ⟨v, h', c, s, r, ⟨z1.1, z1.2.1, z1.2.2.1, a_fr_t kb.2.2 z1.2.2.2 (fun _ z => z)⟩, ⟨z2.1.1, z2.1.2.trans e11⟩, z2.2⟩
end XS9
