section XL9
variable {tb : aT} {mid d : Nat} {mi : xm_M} {pc : Nat} {lv : List (Nat × Value)} {st : List Value} {h : xh_H} {Q : Option Value → xh_H → Prop}
/-- a call that answers a reference, by its contract -/
theorem xp_ref {C : aC} {r : xr_R} {mj : xm_M} {As q : List Value} {σ : aN → Int} {t : Int} (hC : a_spec tb C) (hq : a_rq tb h) (hi0 : a_inv tb h) (hr : xC mid pc = some r) (hid : C.1 = r.2.2.1) (he : xa_c r st = some (mj, As, q)) (hd : C.2.1 ≤ d) (ha : a_st σ h.1.length C.2.2.1 As) (hp : a_fp C.2.2.2.2.2 h) (hret : C.2.2.2.1 = [(some (2, t, 0, none, [], []), [])])
    (k : ∀ (x : Nat) (h' : xh_H), a_r h.1.length t.toNat x → a_inv tb h' → h'.1 = h.1 → a_fr C.2.2.2.2.1 h h' → a_rq tb h' → xt_P (d + 1) mid mi (pc + 3) lv (.ref x :: q) h' Q) : xt_P (d + 1) mid mi pc lv st h Q := by
  refine xp_by hC hq hi0 hr hid he hd ha hp (fun v h' p hq' => ?_)
  obtain ⟨p1, p2, ⟨t, ht, p3⟩, p4⟩ := p
  rw [hret] at ht
  cases List.mem_singleton.mp ht
  obtain ⟨⟨w, rfl, x, rfl, g⟩, -⟩ := p3
  exact k x h' g p1 p2 p4 hq'
/-- the byte at a place of the class's tape, as it is read -/
def tb_o (h : xh_H) (k : Nat) : Prop := ∃ t : Nat, xg 0 h.2.1 2 k &&& 255 = nI t ∧ t ≤ 6
set_option maxRecDepth 100000 in
theorem at_run {d i : Nat} {h : xh_H} (hrq : a_rq a_tb h) (hi : (i : Int) < (xg 0 h.2.1 1 1).toInt) (h640 : (xg 0 h.2.1 1 1).toInt ≤ 640) : xt_P d xi_X8_at xmi_X8_at 0 [(0, .ref 1), (1, .int (nI i))] [] h (fun v h' => h = h' ∧ v = some (.int (xg 0 h.2.1 2 i &&& 255))) := by
  have ii := nI_toInt (n := i) (by omega)
  have z0 : (0 : Int32).toInt = 0 := rfl
  refine xa_tn 26 [] [] [.int ((xg 0 h.2.1 2 (nI i).toNatClampNeg) &&& 255)] h [false, false] 15 hrq rfl ⟨xlt_f (by omega), xge_f (show (nI i).toInt < (xg 0 h.2.1 1 1).toInt by omega), xin_n (by omega) (by omega), trivial⟩ (fun _ => ?_)
  rw [nI_clamp (by omega)]
  exact xp_ret rfl rfl rfl ⟨rfl, rfl⟩
set_option maxRecDepth 100000 in
theorem op_run {d : Nat} {x : Int32} {h : xh_H} (hrq : a_rq a_tb h) : xt_P d xi_X0_isOption xmi_X0_isOption 0 [(0, .int x)] [] h (fun v h' => h = h' ∧ ∃ p : Bool, v = some (.int (cond p 1 0)) ∧ (p = true ↔ 0 ≤ x.toInt ∧ x.toInt ≤ 6)) := by
  have z0 : (0 : Int32).toInt = 0 := rfl
  have z7 : (7 : Int32).toInt = 7 := rfl
  cases c1 : xe_c .lt x 0 with
  | true =>
    have b1 : x.toInt < (0 : Int32).toInt := a_ce c1
    refine xa_tn 15 [] [] [.int (Int32.ofInt 0)] h [true] 10 hrq rfl ⟨c1, trivial⟩ (fun _ => ?_)
    exact xp_ret rfl rfl rfl ⟨rfl, false, rfl, Iff.intro (fun z => Bool.noConfusion z) (fun z => by omega)⟩
  | false =>
    have b1 : (0 : Int32).toInt ≤ x.toInt := a_ce (a_neg_ok c1)
    cases c2 : xe_c .ge x 7 with
    | true =>
      have b2 : (7 : Int32).toInt ≤ x.toInt := a_ce c2
      refine xa_tn 15 [] [] [.int (Int32.ofInt 0)] h [false, true] 10 hrq rfl ⟨c1, c2, trivial⟩ (fun _ => ?_)
      exact xp_ret rfl rfl rfl ⟨rfl, false, rfl, Iff.intro (fun z => Bool.noConfusion z) (fun z => by omega)⟩
    | false =>
      have b2 : x.toInt < (7 : Int32).toInt := a_ce (a_neg_ok c2)
      refine xa_tn 15 [] [] [.int (Int32.ofInt 1)] h [false, false] 10 hrq rfl ⟨c1, c2, trivial⟩ (fun _ => ?_)
      exact xp_ret rfl rfl rfl ⟨rfl, true, rfl, Iff.intro (fun _ => by omega) (fun _ => rfl)⟩
/-- the class's tape is a row of options -/
def rw_o (h : xh_H) : Prop := ∃ n : Nat, xg 0 h.2.1 1 1 = nI n ∧ 1 ≤ n ∧ n ≤ 7 ∧ ∀ k, k < n → tb_o h k
set_option maxRecDepth 100000 in
set_option maxHeartbeats 4000000 in
theorem ir_loop {d n : Nat} {h : xh_H} (hi : a_inw a_tb h) (hn : 72 ≤ h.1.length) (n1 : 1 ≤ n) (n7' : n ≤ 7) (hl : xg 0 h.2.1 1 1 = nI n) : ∀ (m i : Nat) (w : Int32), i + m = n → (∀ k, k < i → tb_o h k) → xt_P (d + 1) xi_X0_isRow xmi_X0_isRow 23 [(1, .ref 1), (2, .int w), (3, .int (nI i))] [] h (fun v h' => h = h' ∧ ∃ p : Bool, v = some (.int (cond p 1 0)) ∧ (p = true → rw_o h)) := by
  have hq := a_rq_of hi hn
  have ni := nI_toInt (n := n) (by omega)
  intro m
  induction m with
  | zero =>
    intro i w hm hs
    have e : i = n := by omega
    subst e
    refine xa_tn 71 [] [] [.int (Int32.ofInt 1)] h [true] 7 hq rfl ⟨(show xe_c .ge (nI i) (xg 0 h.2.1 1 1) = true by rw [hl]; exact nge_t (by omega) (by omega) (Nat.le_refl _)), trivial⟩ (fun _ => ?_)
    exact xp_ret rfl rfl rfl ⟨rfl, true, rfl, fun _ => ⟨i, hl, n1, n7', hs⟩⟩
  | succ m ih =>
    intro i w hm hs
    have e1 : nI i + Int32.ofInt 1 = nI (i + 1) := nI_1 i
    refine xa_tn 33 [1, 2, 3] [(1, .ref 1), (2, .int w), (3, .int (nI i))] [.int (nI i), .ref 1] h [false] 8 hq rfl ⟨(show xe_c .ge (nI i) (xg 0 h.2.1 1 1) = false by rw [hl]; exact nge_f (by omega) (by omega) (by omega)), trivial⟩ (fun _ => ?_)
    refine xp_run hq rfl rfl (at_run (d := d) (i := i) hq (by rw [hl, ni]; omega) (by rw [hl, ni]; omega)) ?_
    rintro v h1 ⟨rfl, rfl⟩
    generalize hx : xg 0 h.2.1 2 i &&& 255 = x
    refine xa_tn 40 [1, 2, 3, 4] [(1, .ref 1), (2, .int w), (3, .int (nI i)), (4, .int x)] [.int x] h [] 4 hq rfl trivial (fun _ => ?_)
    refine xp_run hq rfl rfl (op_run (d := d) (x := x) hq) ?_
    rintro v h1 ⟨rfl, p, rfl, hp⟩
    cases p with
    | false =>
      refine xa_tn 56 [] [] [.int (Int32.ofInt 0)] h [true] 4 hq rfl ⟨rfl, trivial⟩ (fun _ => ?_)
      exact xp_ret rfl rfl rfl ⟨rfl, false, rfl, fun z => Bool.noConfusion z⟩
    | true =>
      cases c1 : xe_c .eq ((w >>> (x &&& 31)) &&& (Int32.ofInt 1)) 0 with
      | false =>
        refine xa_tn 56 [] [] [.int (Int32.ofInt 0)] h [false, false] 10 hq rfl ⟨rfl, c1, trivial⟩ (fun _ => ?_)
        exact xp_ret rfl rfl rfl ⟨rfl, false, rfl, fun z => Bool.noConfusion z⟩
      | true =>
        refine xa_tn 23 [1, 2, 3] [(1, .ref 1), (2, .int (w ||| ((Int32.ofInt 1) <<< (x &&& 31)))), (3, .int ((nI i) + Int32.ofInt 1))] [] h [false, true] 17 hq rfl ⟨rfl, c1, trivial⟩ (fun _ => ?_)
        rw [e1]
        refine ih (i + 1) _ (by omega) (fun k hk' => ?_)
        by_cases e : k = i
        · subst e
          obtain ⟨b1, b2⟩ := hp.mp rfl
          obtain ⟨t, et, t6, -⟩ := a_nk (x := x) (m := 6) b1 b2
          exact ⟨t, hx.trans et, t6⟩
        · exact hs k (by omega)
set_option maxRecDepth 100000 in
set_option maxHeartbeats 4000000 in
theorem ir_run {d : Nat} {h : xh_H} (hi : a_inw a_tb h) (hn : 72 ≤ h.1.length) : xt_P (d + 1) xi_X0_isRow xmi_X0_isRow 0 [(0, .ref 28), (1, .ref 1)] [] h (fun v h' => h = h' ∧ ∃ p : Bool, v = some (.int (cond p 1 0)) ∧ (p = true → rw_o h)) := by
  have hq := a_rq_of hi hn
  have lb := a_flx (c := 1) (k := 1) (lo := 0) (hi := 640) hi hn rfl rfl (by decide)
  obtain ⟨n, en, n640, n31⟩ := a_nk (x := xg 0 h.2.1 1 1) (m := 640) lb.1 lb.2
  have ni := nI_toInt (n := n) n31
  cases c1 : xe_c .lt (xg 0 h.2.1 1 1) (Int32.ofInt 1) with
  | true =>
    refine xa_tn 18 [] [] [.int (Int32.ofInt 0)] h [true] 7 hq rfl ⟨c1, trivial⟩ (fun _ => ?_)
    exact xp_ret rfl rfl rfl ⟨rfl, false, rfl, fun z => Bool.noConfusion z⟩
  | false =>
    have b1 : (Int32.ofInt 1).toInt ≤ (xg 0 h.2.1 1 1).toInt := a_ce (a_neg_ok c1)
    have b1 : (1 : Int) ≤ (xg 0 h.2.1 1 1).toInt := b1
    rw [en, ni] at b1
    cases c2 : xe_c .le (xg 0 h.2.1 1 1) 7 with
    | false =>
      refine xa_tn 18 [] [] [.int (Int32.ofInt 0)] h [false, false] 11 hq rfl ⟨c1, c2, trivial⟩ (fun _ => ?_)
      exact xp_ret rfl rfl rfl ⟨rfl, false, rfl, fun z => Bool.noConfusion z⟩
    | true =>
      have b2 : (xg 0 h.2.1 1 1).toInt ≤ (7 : Int32).toInt := a_ce c2
      have b2 : (xg 0 h.2.1 1 1).toInt ≤ (7 : Int) := b2
      rw [en, ni] at b2
      refine xa_tn 23 [1, 2, 3] [(1, .ref 1), (2, .int (Int32.ofInt 0)), (3, .int (Int32.ofInt 0))] [] h [false, true] 14 hq rfl ⟨c1, c2, trivial⟩ (fun _ => ?_)
      exact ir_loop hi hn (by omega) (by omega) en n 0 _ (by omega) (fun k hk' => absurd hk' (Nat.not_lt_zero k))
abbrev l9_md : List (Nat × Nat) := [(1, 1), (31, 0), (33, 0)]
/-- the tape as it was: options -/
def l9_o (h : xh_H) (n : Nat) : Prop := xg 0 h.2.1 1 1 = nI n ∧ 1 ≤ n ∧ n ≤ 7 ∧ ∀ k, k < n → tb_o h k
theorem l9_fr {md : List (Nat × Nat)} {h h' : xh_H} {n : Nat} (g : l9_o h n) (hf : a_fr md h h') (h1 : a_mb md 1 1 = false) (h2 : ∀ k, a_mb md 2 k = false) : l9_o h' n := by
  obtain ⟨g1, g2, g3, g4⟩ := g
  refine ⟨by rw [fr_g hf rfl h1]; exact g1, g2, g3, fun k hk' => ?_⟩
  obtain ⟨t, et, t6⟩ := g4 k hk'
  exact ⟨t, by rw [fr_g hf rfl (h2 k)]; exact et, t6⟩
theorem l9_ui {h : xh_H} {n k : Nat} {x : Int32} (g : l9_o h n) : l9_o (xh_ui h 33 k x) n := by
  obtain ⟨g1, g2, g3, g4⟩ := g
  refine ⟨by rw [gx_o (by decide)]; exact g1, g2, g3, fun k hk' => ?_⟩
  obtain ⟨t, et, t6⟩ := g4 k hk'
  exact ⟨t, by rw [gx_o (by decide)]; exact et, t6⟩
set_option maxRecDepth 100000 in
set_option maxHeartbeats 4000000 in
theorem fo_loop {d n : Nat} {h0 : xh_H} (hn : 72 ≤ h0.1.length) : ∀ (m i : Nat) (x : Int32) (h : xh_H), i + m = n → hk [] h0 h → l9_o h n → 0 ≤ x.toInt → x.toInt ≤ 6 → xt_P (d + 2) xi_X0_follow xmi_X0_follow 8 [(0, .ref 28), (1, .ref 1), (2, .int x), (3, .int (nI i))] [] h (fun v h' => hk [] h0 h' ∧ ∃ x : Int32, v = some (.int x) ∧ 0 ≤ x.toInt ∧ x.toInt ≤ 6) := by
  intro m
  induction m with
  | zero =>
    intro i x h hm hk0 ho x1 x2
    have e : i = n := by omega
    subst e
    have n7' := ho.2.2.1
    refine xa_tn 34 [] [] [.int x] h [true] 7 (hk_q hk0 hn) rfl ⟨(show xe_c .ge (nI i) (xg 0 h.2.1 1 1) = true by rw [ho.1]; exact nge_t (by omega) (by omega) (Nat.le_refl _)), trivial⟩ (fun _ => ?_)
    exact xp_ret rfl rfl rfl ⟨hk0, x, rfl, x1, x2⟩
  | succ m ih =>
    intro i x h hm hk0 ho x1 x2
    have n7' := ho.2.2.1
    have ni := nI_toInt (n := n) (by omega)
    have e1 : nI i + Int32.ofInt 1 = nI (i + 1) := nI_1 i
    obtain ⟨t, et, t6⟩ := ho.2.2.2 i (by omega)
    have ti := nI_toInt (n := t) (by omega)
    refine xa_tn 20 [0, 1, 2, 3] [(0, .ref 28), (1, .ref 1), (2, .int x), (3, .int (nI i))] [.int (nI i), .ref 1, .int x, .ref 28] h [false] 10 (hk_q hk0 hn) rfl ⟨(show xe_c .ge (nI i) (xg 0 h.2.1 1 1) = false by rw [ho.1]; exact nge_f (by omega) (by omega) (by omega)), trivial⟩ (fun hq => ?_)
    refine xp_run hq rfl rfl (at_run (d := d + 1) (i := i) hq (by rw [ho.1, ni]; omega) (by rw [ho.1, ni]; omega)) ?_
    rintro v h1 ⟨rfl, rfl⟩
    rw [et]
    refine xp_int (C := aC_m_X0_stands_ok) (lo := 0) (hi := 6) (σ := fun _ => 0) as_m_X0_stands_ok hq hk0.1 rfl rfl rfl (by show 1 ≤ d + 1; omega) ⟨a_av (by decide) hq.1, a_ai x1 x2, a_ai (by omega) (by omega), trivial⟩ a_fp0 rfl (fun y h1 y1 y2 i1 l1 f1 q1 => ?_)
    refine xa_tn 8 [0, 1, 2, 3] [(0, .ref 28), (1, .ref 1), (2, .int y), (3, .int ((nI i) + Int32.ofInt 1))] [] h1 [] 5 q1 rfl trivial (fun _ => ?_)
    rw [e1]
    exact ih (i + 1) y h1 (by omega) (hk_c hk0 i1 l1 f1 (fun _ z => z)) (l9_fr ho f1 rfl (fun _ => rfl)) y1 y2
set_option maxRecDepth 100000 in
set_option maxHeartbeats 4000000 in
theorem fo_run {d n : Nat} {h : xh_H} (hi : a_inv a_tb h) (hn : 72 ≤ h.1.length) (ho : l9_o h n) : xt_P (d + 2) xi_X0_follow xmi_X0_follow 0 [(0, .ref 28), (1, .ref 1)] [] h (fun v h' => hk [] h h' ∧ ∃ x : Int32, v = some (.int x) ∧ 0 ≤ x.toInt ∧ x.toInt ≤ 6) := by
  have hq := a_rq_of hi.1 hn
  have n7' := ho.2.2.1
  have n1 := ho.2.1
  have ni := nI_toInt (n := n) (by omega)
  obtain ⟨t, et, t6⟩ := ho.2.2.2 0 (by omega)
  have ti := nI_toInt (n := t) (by omega)
  refine xa_tn 2 [0, 1] [(0, .ref 28), (1, .ref 1)] [.int (Int32.ofInt 0), .ref 1] h [] 4 hq rfl trivial (fun _ => ?_)
  refine xp_run hq rfl rfl (at_run (d := d + 1) (i := 0) hq (by rw [ho.1, ni]; omega) (by rw [ho.1, ni]; omega)) ?_
  rintro v h1 ⟨rfl, rfl⟩
  rw [et]
  refine xa_tn 8 [0, 1, 2, 3] [(0, .ref 28), (1, .ref 1), (2, .int (nI t)), (3, .int (Int32.ofInt 1))] [] h [] 5 hq rfl trivial (fun _ => ?_)
  exact fo_loop hn (n - 1) 1 (nI t) h (by omega) (hk_0 hi) ho (by omega) (by omega)
abbrev fs3_md : List (Nat × Nat) := [(33, 0)]
/-- what foresee leaves -/
def fe_Q (h0 : xh_H) (v : Option Value) (h' : xh_H) : Prop := hk fs3_md h0 h' ∧ ∃ x : Int32, v = some (.int x) ∧ 0 ≤ x.toInt ∧ x.toInt ≤ 6
set_option maxRecDepth 100000 in
set_option maxHeartbeats 4000000 in
theorem fe_in {d n i : Nat} {y : Int32} {h0 : xh_H} {Q : Option Value → xh_H → Prop} (hn : 72 ≤ h0.1.length) (hin : i < n) (y1 : 0 ≤ y.toInt) (y2 : y.toInt ≤ 6) (K : ∀ h', hk fs3_md h0 h' → l9_o h' n → xt_P (d + 2) xi_X0_foresee xmi_X0_foresee 28 [(0, .ref 28), (1, .ref 1), (2, .int ((nI i) + Int32.ofInt (-1)))] [] h' Q) : ∀ (m a : Nat) (h : xh_H), a + m = i → hk fs3_md h0 h → l9_o h n → xt_P (d + 2) xi_X0_foresee xmi_X0_foresee 46 [(0, .ref 28), (1, .ref 1), (2, .int (nI i)), (3, .int y), (4, .int (nI a))] [] h Q := by
  intro m
  induction m with
  | zero =>
    intro a h hm hk0 ho
    have e : a = i := by omega
    subst e
    have n7' := ho.2.2.1
    refine xa_tn 28 [0, 1, 2] [(0, .ref 28), (1, .ref 1), (2, .int ((nI a) + Int32.ofInt (-1)))] [] h [true] 7 (hk_q hk0 hn) rfl ⟨nge_t (by omega) (by omega) (Nat.le_refl _), trivial⟩ (fun _ => ?_)
    exact K h hk0 ho
  | succ m ih =>
    intro a h hm hk0 ho
    have n7' := ho.2.2.1
    have ni := nI_toInt (n := n) (by omega)
    have e1 : nI a + Int32.ofInt 1 = nI (a + 1) := nI_1 a
    obtain ⟨t, et, t6⟩ := ho.2.2.2 a (by omega)
    have hint := xin_n (k := t) (n := 7) (by omega) (by omega)
    have etc : (nI t).toNatClampNeg = t := nI_clamp (by omega)
    have c1 := a_elx (c := 33) (k := t) (lo := 0) (hi := 6) hk0.1.1 (hk_n hk0 hn) rfl rfl (by omega)
    refine xa_tn 55 [0, 1, 2, 3, 4] [(0, .ref 28), (1, .ref 1), (2, .int (nI i)), (3, .int y), (4, .int (nI a))] [.int (nI a), .ref 1] h [false] 7 (hk_q hk0 hn) rfl ⟨nge_f (by omega) (by omega) (by omega), trivial⟩ (fun hq => ?_)
    refine xp_run hq rfl rfl (at_run (d := d + 1) (i := a) hq (by rw [ho.1, ni]; omega) (by rw [ho.1, ni]; omega)) ?_
    rintro v h1 ⟨rfl, rfl⟩
    rw [et]
    refine xa_tn 75 [0, 1, 2, 3, 4] [(0, .ref 28), (1, .ref 1), (2, .int (nI i)), (3, .int y), (4, .int (nI a))] [.int y, .int (xg 0 h.2.1 33 (nI t).toNatClampNeg), .ref 28, .int (nI t), .ref 33] h [] 12 hq rfl ⟨hint, trivial⟩ (fun _ => ?_)
    rw [etc]
    refine xp_int (C := aC_m_X0_stands_ok) (lo := 0) (hi := 6) (σ := fun _ => 0) as_m_X0_stands_ok hq hk0.1 rfl rfl rfl (by show 1 ≤ d + 1; omega) ⟨a_av (by decide) hq.1, a_ai c1.1 c1.2, a_ai y1 y2, trivial⟩ a_fp0 rfl (fun z h1 z1 z2 i1 l1 f1 q1 => ?_)
    refine xa_tn 46 [0, 1, 2, 3, 4] [(0, .ref 28), (1, .ref 1), (2, .int (nI i)), (3, .int y), (4, .int ((nI a) + Int32.ofInt 1))] [] (xh_ui h1 33 (nI t).toNatClampNeg z) [] 5 q1 rfl ⟨hint, trivial⟩ (fun _ => ?_)
    rw [e1, etc]
    exact ih (a + 1) _ (by omega) (hk_ui (s := (1, 7)) (lo := 0) (hi := 6) (hk_c hk0 i1 l1 f1 (fun _ z => nomatch z)) hn rfl rfl z1 z2 rfl rfl) (l9_ui (l9_fr ho f1 rfl (fun _ => rfl)))
set_option maxRecDepth 100000 in
set_option maxHeartbeats 4000000 in
theorem fe_out {d n : Nat} {h0 : xh_H} (hn : 72 ≤ h0.1.length) : ∀ (i : Nat) (h : xh_H), i < n → hk fs3_md h0 h → l9_o h n → xt_P (d + 2) xi_X0_foresee xmi_X0_foresee 28 [(0, .ref 28), (1, .ref 1), (2, .int (nI i))] [] h (fe_Q h0) := by
  intro i
  induction i with
  | zero =>
    intro h hin hk0 ho
    have n7' := ho.2.2.1
    have ni := nI_toInt (n := n) (by omega)
    obtain ⟨t, et, t6⟩ := ho.2.2.2 0 (by omega)
    have hint := xin_n (k := t) (n := 7) (by omega) (by omega)
    have etc : (nI t).toNatClampNeg = t := nI_clamp (by omega)
    have c1 := a_elx (c := 33) (k := t) (lo := 0) (hi := 6) hk0.1.1 (hk_n hk0 hn) rfl rfl (by omega)
    refine xa_tn 97 [] [] [.int (Int32.ofInt 0), .ref 1, .ref 33] h [true] 8 (hk_q hk0 hn) rfl ⟨by decide, trivial⟩ (fun hq => ?_)
    refine xp_run hq rfl rfl (at_run (d := d + 1) (i := 0) hq (by rw [ho.1, ni]; omega) (by rw [ho.1, ni]; omega)) ?_
    rintro v h1 ⟨rfl, rfl⟩
    rw [et]
    refine xa_tn 101 [] [] [.int (xg 0 h.2.1 33 (nI t).toNatClampNeg)] h [] 3 hq rfl ⟨hint, trivial⟩ (fun _ => ?_)
    rw [etc]
    exact xp_ret rfl rfl rfl ⟨hk0, _, rfl, c1.1, c1.2⟩
  | succ i ih =>
    intro h hin hk0 ho
    have n7' := ho.2.2.1
    have ni := nI_toInt (n := n) (by omega)
    have ii := nI_toInt (n := i + 1) (by omega)
    have z0 : (0 : Int32).toInt = 0 := rfl
    obtain ⟨t, et, t6⟩ := ho.2.2.2 (i + 1) (by omega)
    have hint := xin_n (k := t) (n := 7) (by omega) (by omega)
    have etc : (nI t).toNatClampNeg = t := nI_clamp (by omega)
    have c1 := a_elx (c := 33) (k := t) (lo := 0) (hi := 6) hk0.1.1 (hk_n hk0 hn) rfl rfl (by omega)
    refine xa_tn 38 [0, 1, 2] [(0, .ref 28), (1, .ref 1), (2, .int (nI (i + 1)))] [.int (nI (i + 1)), .ref 1, .ref 33] h [false] 8 (hk_q hk0 hn) rfl ⟨xle_f (by omega), trivial⟩ (fun hq => ?_)
    refine xp_run hq rfl rfl (at_run (d := d + 1) (i := i + 1) hq (by rw [ho.1, ni]; omega) (by rw [ho.1, ni]; omega)) ?_
    rintro v h1 ⟨rfl, rfl⟩
    rw [et]
    refine xa_tn 46 [0, 1, 2, 3, 4] [(0, .ref 28), (1, .ref 1), (2, .int (nI (i + 1))), (3, .int (xg 0 h.2.1 33 (nI t).toNatClampNeg)), (4, .int (Int32.ofInt 0))] [] h [] 6 hq rfl ⟨hint, trivial⟩ (fun _ => ?_)
    rw [etc]
    refine fe_in hn hin c1.1 c1.2 ?_ (i + 1) 0 h (by omega) hk0 ho
    intro h1 hk1 ho1
    rw [nI_dec2]
    exact ih h1 (by omega) hk1 ho1
set_option maxRecDepth 100000 in
set_option maxHeartbeats 4000000 in
theorem fe_0 {d n : Nat} {h0 : xh_H} (hn : 72 ≤ h0.1.length) : ∀ (m i : Nat) (h : xh_H), i + m = 7 → hk fs3_md h0 h → l9_o h n → xt_P (d + 2) xi_X0_foresee xmi_X0_foresee 2 [(0, .ref 28), (1, .ref 1), (2, .int (nI i))] [] h (fe_Q h0) := by
  intro m
  induction m with
  | zero =>
    intro i h hm hk0 ho
    have e : i = 7 := by omega
    subst e
    have n7' := ho.2.2.1
    refine xa_tn 28 [0, 1, 2] [(0, .ref 28), (1, .ref 1), (2, .int ((xg 0 h.2.1 1 1) - (Int32.ofInt 1)))] [] h [true] 10 (hk_q hk0 hn) rfl ⟨by decide, trivial⟩ (fun _ => ?_)
    have n1 := ho.2.1
    obtain ⟨j, rfl⟩ : ∃ j, n = j + 1 := ⟨n - 1, by omega⟩
    rw [ho.1, nI_sub1]
    exact fe_out hn j h (by omega) hk0 ho
  | succ m ih =>
    intro i h hm hk0 ho
    have e1 : nI i + Int32.ofInt 1 = nI (i + 1) := nI_1 i
    have ii := nI_toInt (n := i) (by omega)
    refine xa_tn 2 [0, 1, 2] [(0, .ref 28), (1, .ref 1), (2, .int ((nI i) + Int32.ofInt 1))] [] (xh_ui h 33 (nI i).toNatClampNeg (nI i)) [false] 12 (hk_q hk0 hn) rfl ⟨nge_f (b := 7) (by omega) (by omega) (by omega), xin_n (by omega) (by omega), trivial⟩ (fun _ => ?_)
    rw [e1, nI_clamp (by omega)]
    exact ih (i + 1) _ (by omega) (hk_ui (s := (1, 7)) (lo := 0) (hi := 6) hk0 hn rfl rfl (by omega) (by omega) rfl rfl) (l9_ui ho)
/-- X9.leads -/
def aC_r_X9_leads : aC := (xi_X9_leads, 3, [(2, 0, 0, none, [], []), (0, 0, 1, none, [], [])], [(some (0, -1, 6, none, [], []), [])], l9_md, [])
set_option maxRecDepth 100000 in
set_option maxHeartbeats 4000000 in
theorem as_r_X9_leads : a_spec a_tb aC_r_X9_leads := by
  refine sp_of (mi := xmi_X9_leads) rfl ?_
  intro d vs h σ hd hi hn ha _
  match vs, ha with
  | [v0, v1], ha =>
    obtain ⟨⟨q, rfl, hq⟩, ⟨f, rfl, -⟩, -⟩ := ha
    have eq : q = 0 := a_r_ob (t := 0) (by decide) hq
    subst eq
    have hd : 3 ≤ d := hd
    obtain ⟨d, rfl⟩ : ∃ d', d = d' + 3 := ⟨d - 3, by omega⟩
    have main : xt_P (d + 3) xi_X9_leads xmi_X9_leads 0 [(0, .ref 0), (1, .int f)] [] h (ld_Q l9_md h) := by
      have hq := a_rq_of hi.1 hn
      refine xa_tn 10 [0, 1, 2] [(0, .ref 0), (1, .int f), (2, .int (Int32.ofInt (-1)))] [.ref 1, .ref 28] h [] 8 hq rfl trivial (fun _ => ?_)
      refine xp_run hq rfl rfl (ir_run (d := d + 1) hi.1 hn) ?_
      rintro v h1 ⟨rfl, p, rfl, hp⟩
      cases p with
      | false =>
        refine xa_tn 74 [] [] [.int (Int32.ofInt (-1))] (xh_ui h 1 1 (Int32.ofInt 0)) [true] 8 hq rfl ⟨rfl, trivial⟩ (fun _ => ?_)
        exact xp_ret rfl rfl rfl ⟨hk_ui (s := (0, 8)) (lo := 0) (hi := 640) (hk_0 hi) hn rfl rfl (by decide) (by decide) rfl rfl, _, rfl, by decide, by decide⟩
      | true =>
        obtain ⟨n, ho⟩ := hp rfl
        have ho : l9_o h n := ho
        refine xa_tn 25 [0, 1] [(0, .ref 0), (1, .int f)] [.int (xg 0 h.2.1 0 10), .ref 0, .ref 28] h [false] 8 hq rfl ⟨rfl, trivial⟩ (fun _ => ?_)
        have dr := ar_rng (xg 0 h.2.1 0 10)
        refine xp_ref (C := aC_m_X9_inForce) (t := 11) (σ := fun _ => 0) as_m_X9_inForce hq hi rfl rfl rfl (Nat.zero_le _) ⟨a_av (by decide) hq.1, a_ai dr.1 dr.2, trivial⟩ a_fp0 rfl (fun lw h1 lw1 i1 l1 f1 q1 => ?_)
        have hk1 : hk l9_md h h1 := hk_c (hk_0 hi) i1 l1 f1 (fun _ z => nomatch z)
        have ho1 := l9_fr ho f1 rfl (fun _ => rfl)
        refine xa_tn 32 [0, 1] [(0, .ref 0), (1, .int f)] [.int (xg 0 h1.2.1 0 9), .ref lw, .ref 28] h1 [] 4 q1 rfl trivial (fun _ => ?_)
        have sb := a_flx (c := 0) (k := 9) (lo := 1) (hi := 12) i1.1 q1.1 rfl rfl (by decide)
        refine xp_void (C := aC_m_X0_match) (σ := fun _ => 0) (P := []) as_m_X0_match q1 i1 rfl rfl rfl (by show 1 ≤ d + 2; omega) ⟨a_av (by decide) q1.1, ⟨lw, rfl, by rw [l1]; exact lw1⟩, a_ai sb.1 sb.2, trivial⟩ a_fp0 rfl (fun h2 _ i2 l2 f2 q2 => ?_)
        have hk2 : hk l9_md h h2 := hk_c hk1 i2 l2 f2 (by decide)
        have ho2 := l9_fr ho1 f2 rfl (fun _ => rfl)
        have fin : ∀ (x : Int32) (h3 : xh_H), hk l9_md h h3 → 0 ≤ x.toInt → x.toInt ≤ 6 → ld_Q l9_md h (some (.int x)) (xh_ui h3 1 1 (Int32.ofInt 0)) := by
          intro x h3 hk3 x1 x2
          exact ⟨hk_ui (s := (0, 8)) (lo := 0) (hi := 640) hk3 hn rfl rfl (by decide) (by decide) rfl rfl, x, rfl, by omega, x2⟩
        cases c2 : xe_c .eq f 0 with
        | true =>
          refine xa_tn 61 [0] [(0, .ref 0)] [.ref 1, .ref 28] h2 [true] 8 q2 rfl ⟨c2, trivial⟩ (fun _ => ?_)
          refine xp_run q2 rfl rfl (fo_run (d := d) i2 q2.1 ho2) ?_
          rintro v h3 ⟨k3, x, rfl, x1, x2⟩
          have hk3 : hk l9_md h h3 := hk_t hk2 k3 (fun _ z => nomatch z)
          refine xa_tn 74 [] [] [.int x] (xh_ui h3 1 1 (Int32.ofInt 0)) [] 8 (hk_q hk3 hn) rfl trivial (fun _ => ?_)
          exact xp_ret rfl rfl rfl (fin x h3 hk3 x1 x2)
        | false =>
          refine xa_tn 47 [0] [(0, .ref 0)] [.ref 1, .ref 28] h2 [false] 8 q2 rfl ⟨c2, trivial⟩ (fun _ => ?_)
          have fe : xt_P (d + 2) xi_X0_foresee xmi_X0_foresee 0 [(0, .ref 28), (1, .ref 1)] [] h2 (fe_Q h2) := by
            refine xa_tn 2 [0, 1, 2] [(0, .ref 28), (1, .ref 1), (2, .int (Int32.ofInt 0))] [] h2 [] 4 q2 rfl trivial (fun _ => ?_)
            exact fe_0 q2.1 7 0 h2 rfl (hk_0 i2) ho2
          refine xp_run q2 rfl rfl fe ?_
          rintro v h3 ⟨k3, x, rfl, x1, x2⟩
          have hk3 : hk l9_md h h3 := hk_t hk2 k3 (by decide)
          refine xa_tn 74 [] [] [.int x] (xh_ui h3 1 1 (Int32.ofInt 0)) [] 9 (hk_q hk3 hn) rfl trivial (fun _ => ?_)
          exact xp_ret rfl rfl rfl (fin x h3 hk3 x1 x2)
    exact xp_mono main (fun v h' g => by
      obtain ⟨g1, x, rfl, x1, x2⟩ := g
      exact ⟨g1, rok_i x1 x2⟩)
end XL9
