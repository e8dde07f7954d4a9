section XRW
abbrev rr_md : List (Nat × Nat) := [(39, 0), (39, 35), (53, 0), (63, 0), (64, 0), (66, 0), (67, 0), (39, 59)]
/-- the order, by a function: all seven once -/
def od (h : xh_H) (f : Nat → Nat) : Prop := (∀ k, k < 7 → xg 0 h.2.1 66 k = nI (f k)) ∧ (∀ k, k < 7 → f k ≤ 6) ∧ ∀ a b, a < 7 → b < 7 → f a = f b → a = b
def lx (f : Nat → Nat) : Nat := f 0 * 117649 + f 1 * 16807 + f 2 * 2401 + f 3 * 343 + f 4 * 49 + f 5 * 7 + f 6
def sp (f : Nat → Nat) (a b : Nat) : Nat → Nat := fun k => if k = a then f b else if k = b then f a else f k
theorem lx_le {f : Nat → Nat} (h : ∀ k, k < 7 → f k ≤ 6) : lx f ≤ 823542 := by
  have h0 := h 0 (by decide)
  have h1 := h 1 (by decide)
  have h2 := h 2 (by decide)
  have h3 := h 3 (by decide)
  have h4 := h 4 (by decide)
  have h5 := h 5 (by decide)
  have h6 := h 6 (by decide)
  unfold lx
  omega
theorem lx_lt {f g : Nat → Nat} {i : Nat} (hi : i < 6) (hg : ∀ k, k < 7 → f k ≤ 6) (he : ∀ k, k < i → g k = f k) (hl : f i + 1 ≤ g i) : lx f < lx g := by
  have h0 := hg 0 (by decide)
  have h1 := hg 1 (by decide)
  have h2 := hg 2 (by decide)
  have h3 := hg 3 (by decide)
  have h4 := hg 4 (by decide)
  have h5 := hg 5 (by decide)
  have h6 := hg 6 (by decide)
  unfold lx
  match i, hi, he, hl with
  | 0, _, he, hl => omega
  | 1, _, he, hl =>
    have e0 := he 0 (by decide)
    omega
  | 2, _, he, hl =>
    have e0 := he 0 (by decide)
    have e1 := he 1 (by decide)
    omega
  | 3, _, he, hl =>
    have e0 := he 0 (by decide)
    have e1 := he 1 (by decide)
    have e2 := he 2 (by decide)
    omega
  | 4, _, he, hl =>
    have e0 := he 0 (by decide)
    have e1 := he 1 (by decide)
    have e2 := he 2 (by decide)
    have e3 := he 3 (by decide)
    omega
  | 5, _, he, hl =>
    have e0 := he 0 (by decide)
    have e1 := he 1 (by decide)
    have e2 := he 2 (by decide)
    have e3 := he 3 (by decide)
    have e4 := he 4 (by decide)
    omega
/-- two of them change their places -/
theorem od_sw {h : xh_H} {f : Nat → Nat} {a b : Nat} (ha : a < 7) (hb : b < 7) (g : od h f) : od (xh_ui (xh_ui h 66 a (nI (f b))) 66 b (nI (f a))) (sp f a b) := by
  obtain ⟨g1, g2, g3⟩ := g
  refine ⟨fun k hk' => ?_, fun k hk' => ?_, fun x y hx hy e => ?_⟩
  · unfold sp
    by_cases e1 : k = b
    · subst e1
      rw [gx_s]
      by_cases e2 : k = a
      · rw [if_pos e2, e2]
      · rw [if_neg e2, if_pos rfl]
    · rw [gx_k e1]
      by_cases e2 : k = a
      · subst e2
        rw [gx_s, if_pos rfl]
      · rw [gx_k e2, if_neg e2, if_neg e1]
        exact g1 k hk'
  · unfold sp
    split
    · exact g2 b hb
    · split
      · exact g2 a ha
      · exact g2 k hk'
  · unfold sp at e
    by_cases x1 : x = a
    · by_cases y1 : y = a
      · rw [x1, y1]
      · rw [if_pos x1, if_neg y1] at e
        by_cases y2 : y = b
        · rw [if_pos y2] at e
          have := g3 b a hb ha e
          omega
        · rw [if_neg y2] at e
          have := g3 b y hb hy e
          omega
    · rw [if_neg x1] at e
      by_cases x2 : x = b
      · rw [if_pos x2] at e
        by_cases y1 : y = a
        · rw [if_pos y1] at e
          have := g3 a b ha hb e
          omega
        · rw [if_neg y1] at e
          by_cases y2 : y = b
          · rw [x2, y2]
          · rw [if_neg y2] at e
            have := g3 a y ha hy e
            omega
      · rw [if_neg x2] at e
        by_cases y1 : y = a
        · rw [if_pos y1] at e
          have := g3 x b hx hb e
          omega
        · rw [if_neg y1] at e
          by_cases y2 : y = b
          · rw [if_pos y2] at e
            have := g3 x a hx ha e
            omega
          · rw [if_neg y2] at e
            exact g3 x y hx hy e
theorem hk_sw {h0 h : xh_H} {f : Nat → Nat} {a b : Nat} (hn : 72 ≤ h0.1.length) (hk0 : hk rr_md h0 h) (ha : f a ≤ 6) (hb : f b ≤ 6) : hk rr_md h0 (xh_ui (xh_ui h 66 a (nI (f b))) 66 b (nI (f a))) := by
  have ai := nI_toInt (n := f a) (by omega)
  have bi := nI_toInt (n := f b) (by omega)
  exact hk_ui (s := (1, 7)) (lo := 0) (hi := 6) (hk_ui (s := (1, 7)) (lo := 0) (hi := 6) hk0 hn rfl rfl (by omega) (by omega) rfl rfl) hn rfl rfl (by omega) (by omega) rfl rfl
/-- what goOn leaves -/
def go_Q (h0 : xh_H) (f : Nat → Nat) (v : Option Value) (h' : xh_H) : Prop := hk rr_md h0 h' ∧ ((v = some (.int 0) ∧ od h' f) ∨ (v = some (.int 1) ∧ ∃ g, od h' g ∧ lx f < lx g))
set_option maxRecDepth 100000 in
set_option maxHeartbeats 4000000 in
/-- the rest is turned round -/
theorem gn_4 {d i : Nat} {h0 : xh_H} {f0 : Nat → Nat} (hn : 72 ≤ h0.1.length) (hi : i < 6) (hf0 : ∀ k, k < 7 → f0 k ≤ 6) : ∀ (n a b : Nat) (f : Nat → Nat) (h : xh_H), b ≤ a + n → i < a → a ≤ 10 → b ≤ 6 → hk rr_md h0 h → od h f → (∀ k, k < i → f k = f0 k) → f0 i + 1 ≤ f i → xt_P d xi_X10_goOn xmi_X10_goOn 94 [(0, .ref 39), (4, .int (nI a)), (5, .int (nI b))] [] h (go_Q h0 f0) := by
  intro n
  induction n with
  | zero =>
    intro a b f h hab hia ha hb hk0 ho he hl
    refine xa_tn 141 [] [] [.int (Int32.ofInt 1)] h [true] 6 (hk_q hk0 hn) rfl ⟨nge_t (by omega) (by omega) (by omega), trivial⟩ (fun _ => ?_)
    exact xp_ret rfl rfl rfl ⟨hk0, Or.inr ⟨rfl, f, ho, lx_lt hi hf0 he hl⟩⟩
  | succ n ih =>
    intro a b f h hab hia ha hb hk0 ho he hl
    by_cases hge : b ≤ a
    · refine xa_tn 141 [] [] [.int (Int32.ofInt 1)] h [true] 6 (hk_q hk0 hn) rfl ⟨nge_t (by omega) (by omega) hge, trivial⟩ (fun _ => ?_)
      exact xp_ret rfl rfl rfl ⟨hk0, Or.inr ⟨rfl, f, ho, lx_lt hi hf0 he hl⟩⟩
    · have ina := xin_n (k := a) (n := 7) (by omega) (by omega)
      have inb := xin_n (k := b) (n := 7) (by omega) (by omega)
      obtain ⟨b', rfl⟩ : ∃ b', b = b' + 1 := ⟨b - 1, by omega⟩
      refine xa_tn 94 [0, 4, 5] [(0, .ref 39), (4, .int ((nI a) + Int32.ofInt 1)), (5, .int ((nI (b' + 1)) + Int32.ofInt (-1)))] [] (xh_ui (xh_ui h 66 (nI a).toNatClampNeg (xg 0 h.2.1 66 (nI (b' + 1)).toNatClampNeg)) 66 (nI (b' + 1)).toNatClampNeg (xg 0 h.2.1 66 (nI a).toNatClampNeg)) [false] 26 (hk_q hk0 hn) rfl ⟨nge_f (by omega) (by omega) (by omega), ina, inb, ina, inb, trivial⟩ (fun _ => ?_)
      have e1 : nI a + Int32.ofInt 1 = nI (a + 1) := nI_1 a
      rw [nI_clamp (n := a) (by omega), nI_clamp (n := b' + 1) (by omega), ho.1 a (by omega), ho.1 (b' + 1) (by omega), e1, nI_dec2]
      refine ih (a + 1) b' (sp f a (b' + 1)) _ (by omega) (by omega) (by omega) (by omega) (hk_sw hn hk0 (ho.2.1 a (by omega)) (ho.2.1 (b' + 1) (by omega))) (od_sw (by omega) (by omega) ho) (fun k hk' => ?_) ?_
      · unfold sp
        rw [if_neg (by omega), if_neg (by omega)]
        exact he k hk'
      · unfold sp
        rw [if_neg (by omega), if_neg (by omega)]
        exact hl
set_option maxRecDepth 100000 in
set_option maxHeartbeats 4000000 in
theorem gn_2 {d i : Nat} {h0 : xh_H} {f : Nat → Nat} (hn : 72 ≤ h0.1.length) (hi : i < 6) {h : xh_H} (hk0 : hk rr_md h0 h) (ho : od h f) (hlt : f i < f (i + 1)) : ∀ (n j : Nat), j = i + 1 + n → j ≤ 6 → xt_P d xi_X10_goOn xmi_X10_goOn 38 [(0, .ref 39), (1, .int (nI i)), (2, .int (nI j))] [] h (go_Q h0 f) := by
  have ini := xin_n (k := i) (n := 7) (by omega) (by omega)
  have eic : (nI i).toNatClampNeg = i := nI_clamp (by omega)
  have fi6 := ho.2.1 i (by omega)
  have ei := nI_toInt (n := f i) (by omega)
  have e1 : nI i + Int32.ofInt 1 = nI (i + 1) := nI_1 i
  have fin : ∀ j, i < j → j ≤ 6 → f i < f j → xt_P d xi_X10_goOn xmi_X10_goOn 59 [(0, .ref 39), (1, .int (nI i)), (2, .int (nI j))] [] h (go_Q h0 f) := by
    intro j hij hj hlt2
    have inj := xin_n (k := j) (n := 7) (by omega) (by omega)
    refine xa_tn 94 [0, 4, 5] [(0, .ref 39), (4, .int ((nI i) + (Int32.ofInt 1))), (5, .int 6)] [] (xh_ui (xh_ui h 66 (nI i).toNatClampNeg (xg 0 h.2.1 66 (nI j).toNatClampNeg)) 66 (nI j).toNatClampNeg (xg 0 h.2.1 66 (nI i).toNatClampNeg)) [] 26 (hk_q hk0 hn) rfl ⟨ini, inj, ini, inj, trivial⟩ (fun _ => ?_)
    rw [eic, nI_clamp (n := j) (by omega), ho.1 i (by omega), ho.1 j (by omega), e1]
    refine gn_4 (f0 := f) hn hi ho.2.1 6 (i + 1) 6 (sp f i j) _ (by omega) (by omega) (by omega) (by omega) (hk_sw hn hk0 fi6 (ho.2.1 j (by omega))) (od_sw (by omega) (by omega) ho) (fun k hk' => ?_) ?_
    · unfold sp
      rw [if_neg (by omega), if_neg (by omega)]
    · unfold sp
      rw [if_pos rfl]
      omega
  intro n
  induction n with
  | zero =>
    intro j hj hj6
    have e : j = i + 1 := by omega
    subst e
    have ej := nI_toInt (n := f (i + 1)) (by have := ho.2.1 (i + 1) (by omega); omega)
    refine xa_tn 59 [0, 1, 2] [(0, .ref 39), (1, .int (nI i)), (2, .int (nI (i + 1)))] [] h [true] 11 (hk_q hk0 hn) rfl ⟨xin_n (by omega) (by omega), ini, xge_t (show (xg 0 h.2.1 66 (nI i).toNatClampNeg).toInt ≤ (xg 0 h.2.1 66 (nI (i + 1)).toNatClampNeg).toInt by rw [eic, nI_clamp (n := i + 1) (by omega), ho.1 i (by omega), ho.1 (i + 1) (by omega), ei, ej]; omega), trivial⟩ (fun _ => ?_)
    exact fin (i + 1) (by omega) hj6 hlt
  | succ n ih =>
    intro j hj hj6
    have inj := xin_n (k := j) (n := 7) (by omega) (by omega)
    have fj6 := ho.2.1 j (by omega)
    have ej := nI_toInt (n := f j) (by omega)
    have ejc : (nI j).toNatClampNeg = j := nI_clamp (by omega)
    by_cases hc : f i ≤ f j
    · refine xa_tn 59 [0, 1, 2] [(0, .ref 39), (1, .int (nI i)), (2, .int (nI j))] [] h [true] 11 (hk_q hk0 hn) rfl ⟨inj, ini, xge_t (show (xg 0 h.2.1 66 (nI i).toNatClampNeg).toInt ≤ (xg 0 h.2.1 66 (nI j).toNatClampNeg).toInt by rw [eic, ejc, ho.1 i (by omega), ho.1 j (by omega), ei, ej]; omega), trivial⟩ (fun _ => ?_)
      refine fin j (by omega) hj6 ?_
      apply Classical.byContradiction
      intro hno
      have := ho.2.2 i j (by omega) (by omega) (by omega)
      omega
    · refine xa_tn 38 [0, 1, 2] [(0, .ref 39), (1, .int (nI i)), (2, .int ((nI j) + Int32.ofInt (-1)))] [] h [false] 13 (hk_q hk0 hn) rfl ⟨inj, ini, xge_f (show (xg 0 h.2.1 66 (nI j).toNatClampNeg).toInt < (xg 0 h.2.1 66 (nI i).toNatClampNeg).toInt by rw [eic, ejc, ho.1 i (by omega), ho.1 j (by omega), ei, ej]; omega), trivial⟩ (fun _ => ?_)
      obtain ⟨j', rfl⟩ : ∃ j', j = j' + 1 := ⟨j - 1, by omega⟩
      rw [nI_dec2]
      exact ih j' (by omega) (by omega)
set_option maxRecDepth 100000 in
set_option maxHeartbeats 4000000 in
theorem gn_1 {d : Nat} {h0 : xh_H} {f : Nat → Nat} (hn : 72 ≤ h0.1.length) {h : xh_H} (hk0 : hk rr_md h0 h) (ho : od h f) : ∀ (K : Nat), K ≤ 6 → xt_P d xi_X10_goOn xmi_X10_goOn 2 [(0, .ref 39), (1, .int (nI K + Int32.ofInt (-1)))] [] h (go_Q h0 f) := by
  intro K
  induction K with
  | zero =>
    intro _
    refine xa_tn 34 [] [] [.int (Int32.ofInt 0)] h [true, false] 7 (hk_q hk0 hn) rfl ⟨by decide, by decide, trivial⟩ (fun _ => ?_)
    exact xp_ret rfl rfl rfl ⟨hk0, Or.inl ⟨rfl, ho⟩⟩
  | succ i ih =>
    intro hi
    rw [nI_dec2]
    have ii := nI_toInt (n := i) (by omega)
    have z0 : (0 : Int32).toInt = 0 := rfl
    have hlt0 : xe_c .lt (nI i) 0 = false := xlt_f (by omega)
    have ini := xin_n (k := i) (n := 7) (by omega) (by omega)
    have e1 : nI i + Int32.ofInt 1 = nI (i + 1) := nI_1 i
    have ini1 : xe_in ((nI i) + (Int32.ofInt 1)) 7 = true := by rw [e1]; exact xin_n (by omega) (by omega)
    have eic : (nI i).toNatClampNeg = i := nI_clamp (by omega)
    have eic1 : (nI i + Int32.ofInt 1).toNatClampNeg = i + 1 := by rw [e1]; exact nI_clamp (by omega)
    have f1 := ho.2.1 i (by omega)
    have f2 := ho.2.1 (i + 1) (by omega)
    have x1 := nI_toInt (n := f i) (by omega)
    have x2 := nI_toInt (n := f (i + 1)) (by omega)
    by_cases hc : f i ≤ f (i + 1)
    · refine xa_tn 29 [0, 1] [(0, .ref 39), (1, .int (nI i))] [] h [false, true] 15 (hk_q hk0 hn) rfl ⟨hlt0, ini, ini1, xle_t (show (xg 0 h.2.1 66 (nI i).toNatClampNeg).toInt ≤ (xg 0 h.2.1 66 ((nI i) + (Int32.ofInt 1)).toNatClampNeg).toInt by rw [eic, eic1, ho.1 i (by omega), ho.1 (i + 1) (by omega), x1, x2]; omega), trivial⟩ (fun _ => ?_)
      refine xa_tn 38 [0, 1, 2] [(0, .ref 39), (1, .int (nI i)), (2, .int 6)] [] h [true] 6 (hk_q hk0 hn) rfl ⟨xge_t (by omega), trivial⟩ (fun _ => ?_)
      refine gn_2 hn (by omega) hk0 ho ?_ (5 - i) 6 (by omega) (by omega)
      apply Classical.byContradiction
      intro hno
      have := ho.2.2 i (i + 1) (by omega) (by omega) (by omega)
      omega
    · refine xa_tn 2 [0, 1] [(0, .ref 39), (1, .int ((nI i) + Int32.ofInt (-1)))] [] h [false, false] 17 (hk_q hk0 hn) rfl ⟨hlt0, ini, ini1, xle_f (show (xg 0 h.2.1 66 ((nI i) + (Int32.ofInt 1)).toNatClampNeg).toInt < (xg 0 h.2.1 66 (nI i).toNatClampNeg).toInt by rw [eic, eic1, ho.1 i (by omega), ho.1 (i + 1) (by omega), x1, x2]; omega), trivial⟩ (fun _ => ?_)
      exact ih (by omega)
set_option maxRecDepth 100000 in
/-- the next order, if there is one -/
theorem gn_run {d : Nat} {h0 h : xh_H} {f : Nat → Nat} (hn : 72 ≤ h0.1.length) (hk0 : hk rr_md h0 h) (ho : od h f) : xt_P d xi_X10_goOn xmi_X10_goOn 0 [(0, .ref 39)] [] h (go_Q h0 f) := by
  refine xa_tn 2 [0, 1] [(0, .ref 39), (1, .int (Int32.ofInt 5))] [] h [] 4 (hk_q hk0 hn) rfl trivial (fun _ => ?_)
  exact gn_1 hn hk0 ho 6 (Nat.le_refl _)
def rr_Q (h0 : xh_H) (v : Option Value) (h' : xh_H) : Prop := hk rr_md h0 h' ∧ ∃ x : Int32, v = some (.int x)
theorem od_o {h : xh_H} {f : Nat → Nat} {c k : Nat} {x : Int32} (hc : c ≠ 66) (g : od h f) : od (xh_ui h c k x) f := ⟨fun j hj => by rw [gx_o (Ne.symm hc)]; exact g.1 j hj, g.2.1, g.2.2⟩
set_option maxRecDepth 100000 in
set_option maxHeartbeats 4000000 in
theorem rr_in {d : Nat} {x n : Int32} {h0 : xh_H} {f : Nat → Nat} {Q : Option Value → xh_H → Prop} (hn : 72 ≤ h0.1.length) (K : ∀ h', hk rr_md h0 h' → od h' f → xt_P d xi_X10_rows xmi_X10_rows 91 [(0, .ref 39), (1, .int x), (2, .int n)] [] h' Q) : ∀ (m i : Nat) (h : xh_H), i + m = 7 → hk rr_md h0 h → od h f → xt_P d xi_X10_rows xmi_X10_rows 60 [(0, .ref 39), (1, .int x), (2, .int n), (4, .int (nI i))] [] h Q := by
  intro m
  induction m with
  | zero =>
    intro i h hi hk0 ho
    have e : i = 7 := by omega
    subst e
    refine xa_tn 91 [0, 1, 2] [(0, .ref 39), (1, .int x), (2, .int n)] [] h [true] 5 (hk_q hk0 hn) rfl ⟨by decide, trivial⟩ (fun _ => ?_)
    exact K h hk0 ho
  | succ m ih =>
    intro i h hi hk0 ho
    have hge : xe_c .ge (nI i) 7 = false := nge_f (b := 7) (by omega) (by omega) (by omega)
    cases c1 : xe_c .ne n 0 with
    | true =>
      refine xa_tn 91 [0, 1, 2] [(0, .ref 39), (1, .int x), (2, .int n)] [] h [false, true] 7 (hk_q hk0 hn) rfl ⟨hge, c1, trivial⟩ (fun _ => ?_)
      exact K h hk0 ho
    | false =>
      have ini := xin_n (k := i) (n := 7) (by omega) (by omega)
      have eic : (nI i).toNatClampNeg = i := nI_clamp (by omega)
      have e1 : nI i + Int32.ofInt 1 = nI (i + 1) := nI_1 i
      have f1 := ho.2.1 i (by omega)
      have x1 := nI_toInt (n := f i) (by omega)
      refine xa_tn 60 [0, 1, 2, 4] [(0, .ref 39), (1, .int x), (2, .int n), (4, .int ((nI i) + Int32.ofInt 1))] [] (xh_ui h 67 (nI i).toNatClampNeg (xg 0 h.2.1 66 (nI i).toNatClampNeg)) [false, false] 17 (hk_q hk0 hn) rfl ⟨hge, c1, ini, ini, trivial⟩ (fun _ => ?_)
      rw [e1, eic, ho.1 i (by omega)]
      exact ih (i + 1) _ (by omega) (hk_ui (s := (1, 7)) (lo := 0) (hi := 6) hk0 hn rfl rfl (by omega) (by omega) rfl rfl) (od_o (by decide) ho)
set_option maxRecDepth 100000 in
set_option maxHeartbeats 4000000 in
theorem rr_loop {d : Nat} {x : Int32} {h0 : xh_H} (hn : 72 ≤ h0.1.length) : ∀ (N : Nat) (n mo : Int32) (f : Nat → Nat) (h : xh_H), 823543 - lx f < N → hk rr_md h0 h → od h f → xt_P (d + 1) xi_X10_rows xmi_X10_rows 43 [(0, .ref 39), (1, .int x), (2, .int n), (3, .int mo)] [] h (rr_Q h0) := by
  intro N
  induction N with
  | zero => intro n mo f h hN; omega
  | succ N ih =>
    intro n mo f h hN hk0 ho
    cases c1 : xe_c .eq mo 0 with
    | true =>
      refine xa_tn 108 [] [] [.int n] h [true] 5 (hk_q hk0 hn) rfl ⟨c1, trivial⟩ (fun _ => ?_)
      exact xp_ret rfl rfl rfl ⟨hk0, n, rfl⟩
    | false =>
      refine xa_tn 50 [0, 1, 2] [(0, .ref 39), (1, .int x), (2, .int n)] [.int 7, .ref 39] h [false] 6 (hk_q hk0 hn) rfl ⟨c1, trivial⟩ (fun hq => ?_)
      refine xp_int (C := aC_m_X10_endOf) (lo := 0) (hi := 6) (σ := fun _ => 0) as_m_X10_endOf hq hk0.1 rfl rfl rfl (Nat.zero_le _) ⟨a_av (by decide) hq.1, a_ai (by decide) (by decide), trivial⟩ a_fp0 rfl (fun e h1 e1 e2 i1 l1 f1 q1 => ?_)
      have hk1 : hk rr_md h0 h1 := hk_c hk0 i1 l1 f1 (fun _ z => nomatch z)
      have ho1 : od h1 f := ⟨fun j hj => by rw [fr_nil f1 rfl]; exact ho.1 j hj, ho.2.1, ho.2.2⟩
      have next : ∀ (n : Int32) (h2 : xh_H), hk rr_md h0 h2 → od h2 f → xt_P (d + 1) xi_X10_rows xmi_X10_rows 100 [(0, .ref 39), (1, .int x), (2, .int n)] [.ref 39] h2 (rr_Q h0) := by
        intro n h2 hk2 ho2
        refine xp_run (hk_q hk2 hn) rfl rfl (gn_run (d := d) hn hk2 ho2) ?_
        rintro v h3 ⟨hk3, g⟩
        have q3 := hk_q hk3 hn
        rcases g with ⟨rfl, ho3⟩ | ⟨rfl, g, ho3, hl⟩
        · refine xa_tn 43 [0, 1, 2, 3] [(0, .ref 39), (1, .int x), (2, .int n), (3, .int 0)] [] h3 [] 4 q3 rfl trivial (fun _ => ?_)
          refine xa_tn 108 [] [] [.int n] h3 [true] 5 q3 rfl ⟨by decide, trivial⟩ (fun _ => ?_)
          exact xp_ret rfl rfl rfl ⟨hk3, n, rfl⟩
        · refine xa_tn 43 [0, 1, 2, 3] [(0, .ref 39), (1, .int x), (2, .int n), (3, .int 1)] [] h3 [] 4 q3 rfl trivial (fun _ => ?_)
          have := lx_le ho3.2.1
          exact ih n 1 g h3 (by omega) hk3 ho3
      cases c2 : xe_c .ne e x with
      | true =>
        refine xa_tn 100 [0, 1, 2] [(0, .ref 39), (1, .int x), (2, .int n)] [.ref 39] h1 [true] 5 q1 rfl ⟨c2, trivial⟩ (fun _ => ?_)
        exact next n h1 hk1 ho1
      | false =>
        refine xa_tn 60 [0, 1, 2, 4] [(0, .ref 39), (1, .int x), (2, .int n), (4, .int (Int32.ofInt 0))] [] h1 [false] 6 q1 rfl ⟨c2, trivial⟩ (fun _ => ?_)
        refine rr_in hn ?_ 7 0 h1 rfl hk1 ho1
        intro h2 hk2 ho2
        refine xa_tn 100 [0, 1, 2] [(0, .ref 39), (1, .int x), (2, .int (n + Int32.ofInt 1))] [.ref 39] (xh_ui h2 39 59 (Int32.ofInt 1)) [] 7 (hk_q hk2 hn) rfl ⟨Or.inr rfl, trivial⟩ (fun _ => ?_)
        exact next _ _ (hk_ui (s := (0, 10)) (lo := 0) (hi := 1) hk2 hn rfl rfl (by decide) (by decide) rfl rfl) (od_o (by decide) ho2)
set_option maxRecDepth 100000 in
set_option maxHeartbeats 4000000 in
theorem rr_0 {d : Nat} {x : Int32} {h0 : xh_H} (hn : 72 ≤ h0.1.length) : ∀ (m i : Nat) (h : xh_H), i + m = 7 → hk rr_md h0 h → (∀ k, k < i → xg 0 h.2.1 66 k = nI k) → xt_P (d + 1) xi_X10_rows xmi_X10_rows 20 [(0, .ref 39), (1, .int x), (2, .int (nI i))] [] h (rr_Q h0) := by
  intro m
  induction m with
  | zero =>
    intro i h hi hk0 ho
    have e : i = 7 := by omega
    subst e
    refine xa_tn 43 [0, 1, 2, 3] [(0, .ref 39), (1, .int x), (2, .int (Int32.ofInt 0)), (3, .int (Int32.ofInt 1))] [] h [true] 9 (hk_q hk0 hn) rfl ⟨by decide, trivial⟩ (fun _ => ?_)
    exact rr_loop hn _ _ _ (fun k => k) h (Nat.lt_succ_self _) hk0 ⟨ho, fun k hk' => (show k ≤ 6 by omega), fun a b _ _ e => e⟩
  | succ m ih =>
    intro i h hi hk0 ho
    have eic : (nI i).toNatClampNeg = i := nI_clamp (by omega)
    have e1 : nI i + Int32.ofInt 1 = nI (i + 1) := nI_1 i
    have ii := nI_toInt (n := i) (by omega)
    refine xa_tn 20 [0, 1, 2] [(0, .ref 39), (1, .int x), (2, .int ((nI i) + Int32.ofInt 1))] [] (xh_ui h 66 (nI i).toNatClampNeg (nI i)) [false] 12 (hk_q hk0 hn) rfl ⟨nge_f (b := 7) (by omega) (by omega) (by omega), xin_n (by omega) (by omega), trivial⟩ (fun _ => ?_)
    rw [e1, eic]
    refine ih (i + 1) _ (by omega) (hk_ui (s := (1, 7)) (lo := 0) (hi := 6) hk0 hn rfl rfl (by omega) (by omega) rfl rfl) (fun k hk' => ?_)
    by_cases e : k = i
    · subst e
      exact gx_s
    · rw [gx_k e]
      exact ho k (by omega)
/-- X10.rows -/
def aC_r_X10_rows : aC := (xi_X10_rows, 3, [(2, 39, 0, none, [], []), (0, (-2147483648), 2147483647, none, [], [])], [(some (0, (-2147483648), 2147483647, none, [], []), [])], rr_md, [])
set_option maxRecDepth 100000 in
set_option maxHeartbeats 4000000 in
theorem as_r_X10_rows : a_spec a_tb aC_r_X10_rows := by
  refine sp_of (mi := xmi_X10_rows) rfl ?_
  intro d vs h σ hd hi hn ha _
  match vs, ha with
  | [v0, v1], ha =>
    obtain ⟨⟨q, rfl, hq⟩, ⟨x, rfl, -⟩, -⟩ := ha
    have eq : q = 39 := a_r_ob (t := 39) (by decide) hq
    subst eq
    have hd : 3 ≤ d := hd
    obtain ⟨d, rfl⟩ : ∃ d', d = d' + 3 := ⟨d - 3, by omega⟩
    have main : xt_P (d + 3) xi_X10_rows xmi_X10_rows 0 [(0, .ref 39), (1, .int x)] [] h (rr_Q h) := by
      refine xa_tn 6 [0, 1] [(0, .ref 39), (1, .int x)] [.int x] (xh_ui h 39 0 (Int32.ofInt 0)) [] 6 (a_rq_of hi.1 hn) rfl trivial (fun q1 => ?_)
      have hk1 : hk rr_md h (xh_ui h 39 0 (Int32.ofInt 0)) := hk_ui (s := (0, 10)) (lo := 0) (hi := 1) (hk_0 hi) hn rfl rfl (by decide) (by decide) rfl rfl
      generalize xh_ui h 39 0 (Int32.ofInt 0) = h1 at hk1 q1 ⊢
      have xr := ar_rng x
      refine xp_int (C := aC_m_X10_isOption) (lo := 0) (hi := 1) (σ := fun _ => 0) as_m_X10_isOption q1 hk1.1 rfl rfl rfl (Nat.zero_le _) ⟨a_ai xr.1 xr.2, trivial⟩ a_fp0 rfl (fun y h2 y1 y2 i2 l2 f2 q2 => ?_)
      have hk2 : hk rr_md h h2 := hk_c hk1 i2 l2 f2 (fun _ z => nomatch z)
      cases c1 : xe_c .ne y 0 with
      | false =>
        refine xa_tn 13 [] [] [.int (Int32.ofInt (-1))] h2 [false] 4 q2 rfl ⟨c1, trivial⟩ (fun _ => ?_)
        exact xp_ret rfl rfl rfl ⟨hk2, _, rfl⟩
      | true =>
        refine xa_tn 15 [0, 1] [(0, .ref 39), (1, .int x)] [.ref 39] h2 [true] 4 q2 rfl ⟨c1, trivial⟩ (fun _ => ?_)
        refine xp_void (C := aC_m_X10_layOptions) (σ := fun _ => 0) (P := [((39, 35), 2, 4096)]) as_m_X10_layOptions q2 hk2.1 rfl rfl rfl (by show 2 ≤ d + 2; omega) ⟨a_av (by decide) q2.1, trivial⟩ a_fp0 rfl (fun h3 _ i3 l3 f3 q3 => ?_)
        have hk3 : hk rr_md h h3 := hk_c hk2 i3 l3 f3 (by decide)
        refine xa_tn 20 [0, 1, 2] [(0, .ref 39), (1, .int x), (2, .int (Int32.ofInt 0))] [] h3 [] 4 q3 rfl trivial (fun _ => ?_)
        exact rr_0 hn 7 0 h3 rfl hk3 (fun k hk' => absurd hk' (Nat.not_lt_zero k))
    exact xp_mono main (fun v h' g => by
      obtain ⟨g1, x, rfl⟩ := g
      have xr := ar_rng x
      exact ⟨g1, rok_i xr.1 xr.2⟩)
end XRW
