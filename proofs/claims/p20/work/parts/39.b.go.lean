section XGO
abbrev go_md : List (Nat × Nat) := [(39, 7), (39, 8), (39, 9), (39, 10), (39, 11), (39, 12)]
theorem hk_ul {md : List (Nat × Nat)} {h0 h : xh_H} {c k : Nat} {x : Int64} {s : Nat × Nat} (hk0 : hk md h0 h) (hn : 72 ≤ h0.1.length) (hs : a_sh[c]? = some s) (he : a_ent a_tb s c k = (1, -9223372036854775808, 9223372036854775807)) : hk md h0 (xh_ul h c k x) := by
  have hc := a_sh_lt hs
  exact ⟨a_inv_ul (lo := -9223372036854775808) (hi := 9223372036854775807) hk0.1 ((hk_q hk0 hn).2.1 c s hs) (by rw [a_tg_lt hc]; exact he) (lr x).1 (lr x).2, hk0.2.1, hk0.2.2⟩
/-- where the reference reads: how far it is, the token's beginning, its kind -/
def go_P (h' : xh_H) (sz t0 : Nat) : Prop := ∃ t f k : Nat, xg 0 h'.2.1 39 7 = nI t ∧ xg 0 h'.2.1 39 8 = nI f ∧ xg 0 h'.2.1 39 9 = nI k ∧ k ≤ 4 ∧ t0 ≤ t ∧ t ≤ sz ∧ f ≤ 640 ∧ (t0 ≤ f ∨ (600 < sz ∧ 600 ≤ f)) ∧ (2 ≤ k → f < t ∧ (600 < sz → f < 600)) ∧ (k = 3 → 0 ≤ (xg 0 h'.2.1 39 10).toInt ∧ (xg 0 h'.2.1 39 10).toInt ≤ 999)
def gq (h0 : xh_H) (sz t0 : Nat) (v : Option Value) (h' : xh_H) : Prop := v = none ∧ hk go_md h0 h' ∧ go_P h' sz t0
theorem fi {h : xh_H} {c k c' k' : Nat} {x : Int32} (e : ¬ (c' = c ∧ k' = k)) : xg 0 (xh_ui h c k x).2.1 c' k' = xg 0 h.2.1 c' k' := gx_i e
set_option maxRecDepth 100000 in
set_option maxHeartbeats 8000000 in
/-- the end of a run of letters and digits -/
theorem gE {d sz t0 t f : Nat} {h0 h : xh_H} {w g : Bool} (hn : 72 ≤ h0.1.length) (hk0 : hk go_md h0 h) (h7 : xg 0 h.2.1 39 7 = nI t) (h8 : xg 0 h.2.1 39 8 = nI f) (hft : f < t) (htz : t ≤ sz) (s640 : sz ≤ 640) (h0f : t0 ≤ f) (f600 : 600 < sz → f < 600) (hnum : g = true → w = false → 0 ≤ (xg 0 h.2.1 39 10).toInt ∧ (xg 0 h.2.1 39 10).toInt ≤ 999) : xt_P d xi_X10_go xmi_X10_go 318 [(0, .ref 39), (2, .int (bl w)), (3, .int (bl g))] [] h (gq h0 sz t0) := by
  refine xa_tn 331 [0, 2, 3] [(0, .ref 39), (2, .int (bl w)), (3, .int (bl g))] [] (xh_ui h 39 12 ((xg 0 h.2.1 39 7) - (xg 0 h.2.1 39 8))) [] 9 (hk_q hk0 hn) rfl trivial (fun _ => ?_)
  have el : nI t - nI f = nI (t - f) := by
    obtain ⟨j, rfl⟩ : ∃ j, t = j + f := ⟨t - f, by omega⟩
    rw [← nI_add, Int32.add_sub_cancel, Nat.add_sub_cancel]
  rw [h7, h8, el]
  have li := nI_toInt (n := t - f) (by omega)
  have hk1 : hk go_md h0 (xh_ui h 39 12 (nI (t - f))) := hk_ui (s := (0, 10)) (lo := -640) (hi := 640) hk0 hn rfl rfl (by omega) (by omega) rfl rfl
  have g7 : xg 0 (xh_ui h 39 12 (nI (t - f))).2.1 39 7 = nI t := by rw [gx_k (by decide)]; exact h7
  have g8 : xg 0 (xh_ui h 39 12 (nI (t - f))).2.1 39 8 = nI f := by rw [gx_k (by decide)]; exact h8
  have g10 : xg 0 (xh_ui h 39 12 (nI (t - f))).2.1 39 10 = xg 0 h.2.1 39 10 := gx_k (by decide)
  have g12 : xg 0 (xh_ui h 39 12 (nI (t - f))).2.1 39 12 = nI (t - f) := gx_s
  generalize xh_ui h 39 12 (nI (t - f)) = h1 at hk1 g7 g8 g10 g12 ⊢
  have q1 := hk_q hk1 hn
  have fin : ∀ k : Nat, k ≤ 4 → (k = 3 → g = true ∧ w = false) → gq h0 sz t0 none (xh_ui h1 39 9 (nI k)) := by
    intro k k4 k3
    have ki := nI_toInt (n := k) (by omega)
    refine ⟨rfl, hk_ui (s := (0, 10)) (lo := 0) (hi := 4) hk1 hn rfl rfl (by omega) (by omega) rfl rfl, t, f, k, by rw [gx_k (by decide)]; exact g7, by rw [gx_k (by decide)]; exact g8, gx_s, k4, by omega, htz, by omega, Or.inl h0f, fun _ => ⟨hft, f600⟩, fun e => ?_⟩
    rw [gx_k (by decide), g10]
    obtain ⟨z1, z2⟩ := k3 e
    exact hnum z1 z2
  cases g with
  | false =>
    refine xa_tn 369 [] [] [] (xh_ui h1 39 9 (Int32.ofInt 1)) [true] 8 q1 rfl ⟨rfl, trivial⟩ (fun _ => ?_)
    exact xp_ret rfl rfl rfl (fin 1 (by decide) (fun z => by cases z))
  | true =>
    cases w with
    | false =>
      cases c1 : xe_c .le (xg 0 h1.2.1 39 12) (Int32.ofInt 3) with
      | false =>
        refine xa_tn 369 [] [] [] (xh_ui h1 39 9 (Int32.ofInt 1)) [false, true, false] 14 q1 rfl ⟨rfl, rfl, c1, trivial⟩ (fun _ => ?_)
        exact xp_ret rfl rfl rfl (fin 1 (by decide) (fun z => by cases z))
      | true =>
        refine xa_tn 369 [] [] [] (xh_ui h1 39 9 (Int32.ofInt 3)) [false, true, true, true] 17 q1 rfl ⟨rfl, rfl, c1, rfl, trivial⟩ (fun _ => ?_)
        exact xp_ret rfl rfl rfl (fin 3 (by decide) (fun _ => ⟨rfl, rfl⟩))
    | true =>
      cases c1 : xe_c .le (xg 0 h1.2.1 39 12) 8 with
      | false =>
        refine xa_tn 369 [] [] [] (xh_ui h1 39 9 (Int32.ofInt 1)) [false, false, false] 15 q1 rfl ⟨rfl, rfl, c1, trivial⟩ (fun _ => ?_)
        exact xp_ret rfl rfl rfl (fin 1 (by decide) (fun z => by cases z))
      | true =>
        refine xa_tn 369 [] [] [] (xh_ui h1 39 9 (Int32.ofInt 2)) [false, false, true, false] 17 q1 rfl ⟨rfl, rfl, c1, rfl, trivial⟩ (fun _ => ?_)
        exact xp_ret rfl rfl rfl (fin 2 (by decide) (fun z => by cases z))
theorem tp_b {h : xh_H} {k : Nat} (hi : a_inw a_tb h) (hn : 72 ≤ h.1.length) (hk' : k < 640) : 0 ≤ (xg 0 h.2.1 40 k).toInt ∧ (xg 0 h.2.1 40 k).toInt ≤ 255 := a_elx (c := 40) (k := k) (lo := 0) (hi := 255) hi hn rfl rfl hk'
theorem isD_b {c : Int32} (h : isD c = true) : 48 ≤ c.toInt ∧ c.toInt ≤ 57 := by
  unfold isD at h
  rw [Bool.and_eq_true, decide_eq_true_eq, decide_eq_true_eq] at h
  exact h
theorem isL_0 : isL 0 = false := by decide
theorem isD_0 : isD 0 = false := by decide
set_option maxRecDepth 100000 in
set_option maxHeartbeats 8000000 in
/-- a run of letters and digits -/
theorem gB {d sz t0 f : Nat} {h0 : xh_H} {w : Bool} (hn : 72 ≤ h0.1.length) (s640 : sz ≤ 640) (hsz : xg 0 h0.2.1 39 6 = nI sz) (h0f : t0 ≤ f) (f600 : 600 < sz → f < 600) (hf1 : f < sz) (hal : isL (xg 0 h0.2.1 40 f) = true ∨ isD (xg 0 h0.2.1 40 f) = true) : ∀ (n t : Nat) (g : Bool) (h : xh_H), t + n = sz → f ≤ t → hk go_md h0 h → xg 0 h.2.1 39 7 = nI t → xg 0 h.2.1 39 8 = nI f → (g = true → w = false → 0 ≤ (xg 0 h.2.1 39 10).toInt ∧ ((t = f → (xg 0 h.2.1 39 10).toInt ≤ 0) ∧ (t = f + 1 → (xg 0 h.2.1 39 10).toInt ≤ 9) ∧ (t = f + 2 → (xg 0 h.2.1 39 10).toInt ≤ 99) ∧ (xg 0 h.2.1 39 10).toInt ≤ 999)) → xt_P (d + 1) xi_X10_go xmi_X10_go 183 [(0, .ref 39), (2, .int (bl w)), (3, .int (bl g))] [] h (gq h0 sz t0) := by
  intro n
  induction n with
  | zero =>
    intro t g h ht hft hk0 h7 h8 hnum
    have e : t = sz := by omega
    subst e
    have hq := hk_q hk0 hn
    have h6 : xg 0 h.2.1 39 6 = nI t := (hk_g (c := 39) (k := 6) hk0 rfl rfl).trans hsz
    refine xa_tn 188 [0, 2, 3] [(0, .ref 39), (2, .int (bl w)), (3, .int (bl g))] [.int (xg 0 h.2.1 39 7), .ref 39] h [] 5 hq rfl trivial (fun _ => ?_)
    rw [h7]
    refine xp_run hq rfl rfl (ba_run (d := d) (p := t) (sz := t) hq h6 s640 s640) ?_
    rintro v h1 ⟨rfl, rfl⟩
    rw [if_neg (Nat.lt_irrefl t)]
    refine xp_run hq rfl rfl (isL_run (d := d) hq) ?_
    rintro v h1 ⟨rfl, rfl⟩
    refine xa_tn 202 [0, 2, 3] [(0, .ref 39), (2, .int (bl w)), (3, .int (bl g))] [.int (xg 0 h.2.1 39 7), .ref 39] h [false] 6 hq rfl ⟨rfl, trivial⟩ (fun _ => ?_)
    rw [h7]
    refine xp_run hq rfl rfl (ba_run (d := d) (p := t) (sz := t) hq h6 s640 s640) ?_
    rintro v h1 ⟨rfl, rfl⟩
    rw [if_neg (Nat.lt_irrefl t)]
    refine xp_run hq rfl rfl (isD_run (d := d) hq) ?_
    rintro v h1 ⟨rfl, rfl⟩
    refine xa_tn 318 [0, 2, 3] [(0, .ref 39), (2, .int (bl w)), (3, .int (bl g))] [] h [true] 3 hq rfl ⟨rfl, trivial⟩ (fun _ => ?_)
    exact gE hn hk0 h7 h8 hf1 (Nat.le_refl _) s640 h0f f600 (fun z1 z2 => ⟨(hnum z1 z2).1, (hnum z1 z2).2.2.2.2⟩)
  | succ n ih =>
    intro t g h ht hft hk0 h7 h8 hnum
    have htz : t < sz := by omega
    have hq := hk_q hk0 hn
    have h6 : xg 0 h.2.1 39 6 = nI sz := (hk_g (c := 39) (k := 6) hk0 rfl rfl).trans hsz
    have ht0 : xg 0 h.2.1 40 t = xg 0 h0.2.1 40 t := hk_g hk0 rfl rfl
    have tb := tp_b (k := t) hk0.1.1 (hk_n hk0 hn) (by omega)
    -- a letter or digit more
    have body : (isL (xg 0 h.2.1 40 t) = true ∨ isD (xg 0 h.2.1 40 t) = true) → xt_P (d + 1) xi_X10_go xmi_X10_go 211 [(0, .ref 39), (2, .int (bl w)), (3, .int (bl g))] [] h (gq h0 sz t0) := by
      intro hcl
      refine xa_tn 222 [0, 2, 3, 4] [(0, .ref 39), (2, .int (bl w)), (3, .int (bl g)), (4, .int (xg 0 h.2.1 40 (xg 0 h.2.1 39 7).toNatClampNeg))] [] h [] 8 hq rfl ⟨(show xe_in (xg 0 h.2.1 39 7) 640 = true by rw [h7]; exact xin_n (by omega) (by omega)), trivial⟩ (fun _ => ?_)
      rw [h7, nI_clamp (by omega)]
      generalize hc : xg 0 h.2.1 40 t = c at hcl tb
      -- behind the test of its kind
      have rest : ∀ g2 : Bool, (g2 = true → w = false → g = true ∧ isD c = true) → xt_P (d + 1) xi_X10_go xmi_X10_go 241 [(0, .ref 39), (2, .int (bl w)), (3, .int (bl g2)), (4, .int c)] [] h (gq h0 sz t0) := by
        intro g2 hg2
        have ediff : nI t - nI f = nI (t - f) := by
          obtain ⟨j, rfl⟩ : ∃ j, t = j + f := ⟨t - f, by omega⟩
          rw [← nI_add, Int32.add_sub_cancel, Nat.add_sub_cancel]
        have di := nI_toInt (n := t - f) (by omega)
        have e1 : nI t + Int32.ofInt 1 = nI (t + 1) := nI_1 t
        have ti := nI_toInt (n := t + 1) (by omega)
        -- the word
        have wd : ∀ h1 : xh_H, hk go_md h0 h1 → (∀ k, xg 0 h1.2.1 39 k = xg 0 h.2.1 39 k) → xt_P (d + 1) xi_X10_go xmi_X10_go 275 [(0, .ref 39), (2, .int (bl w)), (3, .int (bl g2)), (4, .int c)] [] h1 (gq h0 sz t0) := by
          intro h1 hk1 e39
          have q1 := hk_q hk1 hn
          cases c1 : xe_c .ge (nI (t - f)) (Int32.ofInt 3) with
          | true =>
            have b1 : (3 : Int) ≤ (nI (t - f)).toInt := a_ce c1
            refine xa_tn 305 [0, 2, 3, 4] [(0, .ref 39), (2, .int (bl w)), (3, .int (bl g2)), (4, .int c)] [] h1 [true] 9 q1 rfl ⟨(show xe_c .ge ((xg 0 h1.2.1 39 7) - (xg 0 h1.2.1 39 8)) (Int32.ofInt 3) = true by rw [e39, e39, h7, h8, ediff]; exact c1), trivial⟩ (fun _ => ?_)
            refine xa_tn 183 [0, 2, 3] [(0, .ref 39), (2, .int (bl w)), (3, .int (bl g2))] [] (xh_ui h1 39 7 ((xg 0 h1.2.1 39 7) + (Int32.ofInt 1))) [] 9 q1 rfl trivial (fun _ => ?_)
            rw [e39, h7, e1]
            refine ih (t + 1) g2 _ (by omega) (by omega) (hk_ui (s := (0, 10)) (lo := 0) (hi := 640) hk1 hn rfl rfl (by omega) (by omega) rfl rfl) gx_s (by rw [gx_k (by decide), e39]; exact h8) (fun z1 z2 => ?_)
            rw [gx_k (by decide), e39]
            have := hnum (hg2 z1 z2).1 z2
            exact ⟨this.1, fun z => by omega, fun z => by omega, fun z => by omega, this.2.2.2.2⟩
          | false =>
            have b1 : (nI (t - f)).toInt < (3 : Int) := a_ce (a_neg_ok c1)
            refine xa_tn 305 [0, 2, 3, 4] [(0, .ref 39), (2, .int (bl w)), (3, .int (bl g2)), (4, .int c)] [] (xh_ui h1 39 10 (((10 * (xg 0 h1.2.1 39 10)) + c) - 48)) [false] 19 q1 rfl ⟨(show xe_c .ge ((xg 0 h1.2.1 39 7) - (xg 0 h1.2.1 39 8)) (Int32.ofInt 3) = false by rw [e39, e39, h7, h8, ediff]; exact c1), trivial⟩ (fun _ => ?_)
            rw [e39]
            have nr := ar_rng (((10 * (xg 0 h.2.1 39 10)) + c) - 48)
            have hk2 : hk go_md h0 (xh_ui h1 39 10 (((10 * (xg 0 h.2.1 39 10)) + c) - 48)) := hk_ui (s := (0, 10)) (lo := -2147483648) (hi := 2147483647) hk1 hn rfl rfl nr.1 nr.2 rfl rfl
            have k7 : xg 0 (xh_ui h1 39 10 (((10 * (xg 0 h.2.1 39 10)) + c) - 48)).2.1 39 7 = nI t := by rw [gx_k (by decide), e39]; exact h7
            have k8 : xg 0 (xh_ui h1 39 10 (((10 * (xg 0 h.2.1 39 10)) + c) - 48)).2.1 39 8 = nI f := by rw [gx_k (by decide), e39]; exact h8
            have k10 : xg 0 (xh_ui h1 39 10 (((10 * (xg 0 h.2.1 39 10)) + c) - 48)).2.1 39 10 = ((10 * (xg 0 h.2.1 39 10)) + c) - 48 := gx_s
            generalize xh_ui h1 39 10 (((10 * (xg 0 h.2.1 39 10)) + c) - 48) = h2 at hk2 k7 k8 k10 ⊢
            refine xa_tn 183 [0, 2, 3] [(0, .ref 39), (2, .int (bl w)), (3, .int (bl g2))] [] (xh_ui h2 39 7 ((xg 0 h2.2.1 39 7) + (Int32.ofInt 1))) [] 9 (hk_q hk2 hn) rfl trivial (fun _ => ?_)
            rw [k7, e1]
            refine ih (t + 1) g2 _ (by omega) (by omega) (hk_ui (s := (0, 10)) (lo := 0) (hi := 640) hk2 hn rfl rfl (by omega) (by omega) rfl rfl) gx_s (by rw [gx_k (by decide)]; exact k8) (fun z1 z2 => ?_)
            rw [gx_k (by decide), k10]
            obtain ⟨zg, zd⟩ := hg2 z1 z2
            have nb := hnum zg z2
            have db := isD_b zd
            have t10 : (10 : Int32).toInt = 10 := rfl
            have t48 : (48 : Int32).toInt = 48 := rfl
            have a1 : (10 * (xg 0 h.2.1 39 10)).toInt = 10 * (xg 0 h.2.1 39 10).toInt := by
              rw [ar_mul (x := (10 : Int32)) (by rw [t10]; omega) (by rw [t10]; omega), t10]
            have a2 : ((10 * (xg 0 h.2.1 39 10)) + c).toInt = 10 * (xg 0 h.2.1 39 10).toInt + c.toInt := by
              rw [ar_add (by rw [a1]; omega) (by rw [a1]; omega), a1]
            have a3 : (((10 * (xg 0 h.2.1 39 10)) + c) - 48).toInt = 10 * (xg 0 h.2.1 39 10).toInt + c.toInt - 48 := by
              rw [ar_sub (by rw [a2, t48]; omega) (by rw [a2, t48]; omega), a2, t48]
            rw [a3]
            have h3 : t = f ∨ t = f + 1 ∨ t = f + 2 := by omega
            rcases h3 with z | z | z
            · have := nb.2.1 z
              exact ⟨by omega, fun z => by omega, fun z => by omega, fun z => by omega, by omega⟩
            · have := nb.2.2.1 z
              exact ⟨by omega, fun z => by omega, fun z => by omega, fun z => by omega, by omega⟩
            · have := nb.2.2.2.1 z
              exact ⟨by omega, fun z => by omega, fun z => by omega, fun z => by omega, by omega⟩
        cases c1 : xe_c .ge (nI (t - f)) 8 with
        | true =>
          refine xa_tn 275 [0, 2, 3, 4] [(0, .ref 39), (2, .int (bl w)), (3, .int (bl g2)), (4, .int c)] [] h [true] 9 hq rfl ⟨(show xe_c .ge ((xg 0 h.2.1 39 7) - (xg 0 h.2.1 39 8)) 8 = true by rw [h7, h8, ediff]; exact c1), trivial⟩ (fun _ => ?_)
          exact wd h hk0 (fun _ => rfl)
        | false =>
          refine xa_tn 275 [0, 2, 3, 4] [(0, .ref 39), (2, .int (bl w)), (3, .int (bl g2)), (4, .int c)] [] (xh_ul h 39 15 (((27 * (xg 0 h.2.2.1 39 15)) + c.toInt64) - 96)) [false] 20 hq rfl ⟨(show xe_c .ge ((xg 0 h.2.1 39 7) - (xg 0 h.2.1 39 8)) 8 = false by rw [h7, h8, ediff]; exact c1), trivial⟩ (fun _ => ?_)
          exact wd _ (hk_ul (s := (0, 10)) hk0 hn rfl rfl) (fun _ => rfl)
      cases g with
      | false =>
        refine xa_tn 241 [0, 2, 3, 4] [(0, .ref 39), (2, .int (bl w)), (3, .int (Int32.ofInt 0)), (4, .int c)] [] h [true] 6 hq rfl ⟨rfl, trivial⟩ (fun _ => ?_)
        exact rest false (fun z => by cases z)
      | true =>
        refine xa_tn 228 [0, 2, 3, 4] [(0, .ref 39), (2, .int (bl w)), (3, .int (bl true)), (4, .int c)] [.int c] h [false] 5 hq rfl ⟨rfl, trivial⟩ (fun _ => ?_)
        refine xp_run hq rfl rfl (isL_run (d := d) (c := c) hq) ?_
        rintro v h1 ⟨rfl, rfl⟩
        cases hL : isL c with
        | true =>
          cases w with
          | true =>
            refine xa_tn 241 [0, 2, 3, 4] [(0, .ref 39), (2, .int (bl true)), (3, .int (Int32.ofInt 1)), (4, .int c)] [] h [false] 7 hq rfl ⟨rfl, trivial⟩ (fun _ => ?_)
            exact rest true (fun _ z => by cases z)
          | false =>
            refine xa_tn 241 [0, 2, 3, 4] [(0, .ref 39), (2, .int (bl false)), (3, .int (Int32.ofInt 0)), (4, .int c)] [] h [true] 6 hq rfl ⟨rfl, trivial⟩ (fun _ => ?_)
            exact rest false (fun z => by cases z)
        | false =>
          have hD : isD c = true := by
            rcases hcl with z | z
            · rw [hL] at z; cases z
            · exact z
          cases w with
          | true =>
            refine xa_tn 241 [0, 2, 3, 4] [(0, .ref 39), (2, .int (bl true)), (3, .int (Int32.ofInt 0)), (4, .int c)] [] h [true] 6 hq rfl ⟨rfl, trivial⟩ (fun _ => ?_)
            exact rest false (fun z => by cases z)
          | false =>
            refine xa_tn 241 [0, 2, 3, 4] [(0, .ref 39), (2, .int (bl false)), (3, .int (Int32.ofInt 1)), (4, .int c)] [] h [false] 7 hq rfl ⟨rfl, trivial⟩ (fun _ => ?_)
            exact rest true (fun _ _ => ⟨rfl, hD⟩)
    refine xa_tn 188 [0, 2, 3] [(0, .ref 39), (2, .int (bl w)), (3, .int (bl g))] [.int (xg 0 h.2.1 39 7), .ref 39] h [] 5 hq rfl trivial (fun _ => ?_)
    rw [h7]
    refine xp_run hq rfl rfl (ba_run (d := d) (p := t) (sz := sz) hq h6 s640 (by omega)) ?_
    rintro v h1 ⟨rfl, rfl⟩
    rw [if_pos htz]
    refine xp_run hq rfl rfl (isL_run (d := d) hq) ?_
    rintro v h1 ⟨rfl, rfl⟩
    cases hL : isL (xg 0 h.2.1 40 t) with
    | true =>
      refine xa_tn 211 [0, 2, 3] [(0, .ref 39), (2, .int (bl w)), (3, .int (bl g))] [] h [true] 3 hq rfl ⟨rfl, trivial⟩ (fun _ => ?_)
      exact body (Or.inl hL)
    | false =>
      refine xa_tn 202 [0, 2, 3] [(0, .ref 39), (2, .int (bl w)), (3, .int (bl g))] [.int (xg 0 h.2.1 39 7), .ref 39] h [false] 6 hq rfl ⟨rfl, trivial⟩ (fun _ => ?_)
      rw [h7]
      refine xp_run hq rfl rfl (ba_run (d := d) (p := t) (sz := sz) hq h6 s640 (by omega)) ?_
      rintro v h1 ⟨rfl, rfl⟩
      rw [if_pos htz]
      refine xp_run hq rfl rfl (isD_run (d := d) hq) ?_
      rintro v h1 ⟨rfl, rfl⟩
      cases hD : isD (xg 0 h.2.1 40 t) with
      | true =>
        refine xa_tn 211 [0, 2, 3] [(0, .ref 39), (2, .int (bl w)), (3, .int (bl g))] [] h [false] 3 hq rfl ⟨rfl, trivial⟩ (fun _ => ?_)
        exact body (Or.inr hD)
      | false =>
        refine xa_tn 318 [0, 2, 3] [(0, .ref 39), (2, .int (bl w)), (3, .int (bl g))] [] h [true] 3 hq rfl ⟨rfl, trivial⟩ (fun _ => ?_)
        have hne : t ≠ f := by
          intro e
          rw [ht0, e] at hL hD
          rcases hal with z | z
          · rw [hL] at z; cases z
          · rw [hD] at z; cases z
        exact gE hn hk0 h7 h8 (by omega) (by omega) s640 h0f f600 (fun z1 z2 => ⟨(hnum z1 z2).1, (hnum z1 z2).2.2.2.2⟩)
set_option maxRecDepth 100000 in
set_option maxHeartbeats 8000000 in
/-- behind the blanks -/
theorem gA {d sz t0 t : Nat} {h0 h : xh_H} (hn : 72 ≤ h0.1.length) (s640 : sz ≤ 640) (hsz : xg 0 h0.2.1 39 6 = nI sz) (h0t : t0 ≤ t) (htz : t ≤ sz) (hk0 : hk go_md h0 h) (h7 : xg 0 h.2.1 39 7 = nI t) : xt_P (d + 1) xi_X10_go xmi_X10_go 52 [(0, .ref 39)] [] h (gq h0 sz t0) := by
  have si := nI_toInt (n := sz) (by omega)
  have ti := nI_toInt (n := t) (by omega)
  refine xa_tn 60 [0] [(0, .ref 39)] [] (xh_ui h 39 8 (xg 0 h.2.1 39 7)) [] 6 (hk_q hk0 hn) rfl trivial (fun _ => ?_)
  rw [h7]
  have hk1 : hk go_md h0 (xh_ui h 39 8 (nI t)) := hk_ui (s := (0, 10)) (lo := 0) (hi := 640) hk0 hn rfl rfl (by omega) (by omega) rfl rfl
  have g7 : xg 0 (xh_ui h 39 8 (nI t)).2.1 39 7 = nI t := by rw [gx_k (by decide)]; exact h7
  have g8 : xg 0 (xh_ui h 39 8 (nI t)).2.1 39 8 = nI t := gx_s
  generalize xh_ui h 39 8 (nI t) = h1 at hk1 g7 g8 ⊢
  have q1 := hk_q hk1 hn
  have h6 : xg 0 h1.2.1 39 6 = nI sz := (hk_g (c := 39) (k := 6) hk1 rfl rfl).trans hsz
  have t600 : (600 : Int32).toInt = 600 := rfl
  have main : (600 < sz → t < 600) → xt_P (d + 1) xi_X10_go xmi_X10_go 93 [(0, .ref 39)] [] h1 (gq h0 sz t0) := by
    intro f600
    by_cases hlt : t < sz
    · have tb := tp_b (k := t) hk1.1.1 (hk_n hk1 hn) (by omega)
      have et : xg 0 h1.2.1 40 t = xg 0 h0.2.1 40 t := hk_g hk1 rfl rfl
      refine xa_tn 121 [0, 1] [(0, .ref 39), (1, .int (xg 0 h1.2.1 40 (xg 0 h1.2.1 39 7).toNatClampNeg))] [.int (xg 0 h1.2.1 40 (xg 0 h1.2.1 39 7).toNatClampNeg)] h1 [true] 14 q1 rfl ⟨xlt_t (show (xg 0 h1.2.1 39 7).toInt < (xg 0 h1.2.1 39 6).toInt by rw [g7, h6, ti, si]; omega), (show xe_in (xg 0 h1.2.1 39 7) 640 = true by rw [g7]; exact xin_n (by omega) (by omega)), trivial⟩ (fun _ => ?_)
      rw [g7, nI_clamp (by omega)]
      generalize hc : xg 0 h1.2.1 40 t = c at tb et
      have word : (isL c = true ∨ isD c = true) → xt_P (d + 1) xi_X10_go xmi_X10_go 167 [(0, .ref 39), (1, .int c)] [.int c] h1 (gq h0 sz t0) := by
        intro hcl
        refine xp_run q1 rfl rfl (isL_run (d := d) (c := c) q1) ?_
        rintro v h2 ⟨rfl, rfl⟩
        refine xa_tn 173 [0, 2, 3] [(0, .ref 39), (2, .int (bl (isL c))), (3, .int (Int32.ofInt 1))] [] h1 [] 5 q1 rfl trivial (fun _ => ?_)
        refine xa_tn 183 [0, 2, 3] [(0, .ref 39), (2, .int (bl (isL c))), (3, .int (Int32.ofInt 1))] [] (xh_ui (xh_ul h1 39 15 0) 39 10 (Int32.ofInt 0)) [] 8 q1 rfl trivial (fun _ => ?_)
        have hk2 : hk go_md h0 (xh_ul h1 39 15 0) := hk_ul (s := (0, 10)) hk1 hn rfl rfl
        refine gB hn s640 hsz h0t f600 hlt (by rw [← et]; exact hcl) (sz - t) t true _ (by omega) (Nat.le_refl _) (hk_ui (s := (0, 10)) (lo := -2147483648) (hi := 2147483647) hk2 hn rfl rfl (by decide) (by decide) rfl rfl) (by rw [gx_k (by decide)]; exact g7) (by rw [gx_k (by decide)]; exact g8) (fun _ _ => ?_)
        rw [gx_s]
        exact ⟨by decide, fun _ => by decide, fun z => by omega, fun z => by omega, by decide⟩
      refine xp_run q1 rfl rfl (isL_run (d := d) (c := c) q1) ?_
      rintro v h2 ⟨rfl, rfl⟩
      cases hL : isL c with
      | true =>
        refine xa_tn 167 [0, 1] [(0, .ref 39), (1, .int c)] [.int c] h1 [true] 4 q1 rfl ⟨rfl, trivial⟩ (fun _ => ?_)
        exact word (Or.inl hL)
      | false =>
        refine xa_tn 128 [0, 1] [(0, .ref 39), (1, .int c)] [.int c] h1 [false] 4 q1 rfl ⟨rfl, trivial⟩ (fun _ => ?_)
        refine xp_run q1 rfl rfl (isD_run (d := d) (c := c) q1) ?_
        rintro v h2 ⟨rfl, rfl⟩
        cases hD : isD c with
        | true =>
          refine xa_tn 167 [0, 1] [(0, .ref 39), (1, .int c)] [.int c] h1 [true] 4 q1 rfl ⟨rfl, trivial⟩ (fun _ => ?_)
          exact word (Or.inr hD)
        | false =>
          refine xa_tn 136 [0, 1] [(0, .ref 39), (1, .int c)] [.int c, .ref 39] h1 [false] 5 q1 rfl ⟨rfl, trivial⟩ (fun _ => ?_)
          refine xp_int (C := aC_m_X10_isMark) (lo := 0) (hi := 1) (σ := fun _ => 0) as_m_X10_isMark q1 hk1.1 rfl rfl rfl (Nat.zero_le _) ⟨a_ai tb.1 tb.2, trivial⟩ a_fp0 rfl (fun x h2 x1 x2 i2 l2 f2 q2 => ?_)
          have hk2 : hk go_md h0 h2 := hk_c hk1 i2 l2 f2 (fun _ z => nomatch z)
          have k7 : xg 0 h2.2.1 39 7 = nI t := by rw [fr_nil f2 rfl]; exact g7
          have k8 : xg 0 h2.2.1 39 8 = nI t := by rw [fr_nil f2 rfl]; exact g8
          have e1 : nI t + Int32.ofInt 1 = nI (t + 1) := nI_1 t
          have ti1 := nI_toInt (n := t + 1) (by omega)
          have fin : ∀ k : Nat, k ≤ 4 → k ≠ 3 → xt_P (d + 1) xi_X10_go xmi_X10_go 155 [(0, .ref 39), (1, .int c)] [] (xh_ui (xh_ui h2 39 9 (nI k)) 39 11 c) (gq h0 sz t0) := by
            intro k k4 k3
            have ki := nI_toInt (n := k) (by omega)
            have hk3 : hk go_md h0 (xh_ui (xh_ui h2 39 9 (nI k)) 39 11 c) := hk_ui (s := (0, 10)) (lo := 0) (hi := 255) (hk_ui (s := (0, 10)) (lo := 0) (hi := 4) hk2 hn rfl rfl (by omega) (by omega) rfl rfl) hn rfl rfl tb.1 tb.2 rfl rfl
            have j7 : xg 0 (xh_ui (xh_ui h2 39 9 (nI k)) 39 11 c).2.1 39 7 = nI t := by rw [gx_k (by decide), gx_k (by decide)]; exact k7
            have j8 : xg 0 (xh_ui (xh_ui h2 39 9 (nI k)) 39 11 c).2.1 39 8 = nI t := by rw [gx_k (by decide), gx_k (by decide)]; exact k8
            have j9 : xg 0 (xh_ui (xh_ui h2 39 9 (nI k)) 39 11 c).2.1 39 9 = nI k := by rw [gx_k (by decide)]; exact gx_s
            generalize xh_ui (xh_ui h2 39 9 (nI k)) 39 11 c = h3 at hk3 j7 j8 j9 ⊢
            refine xa_tn 165 [] [] [] (xh_ui h3 39 7 ((xg 0 h3.2.1 39 7) + (Int32.ofInt 1))) [] 8 (hk_q hk3 hn) rfl trivial (fun _ => ?_)
            rw [j7, e1]
            exact xp_ret rfl rfl rfl ⟨rfl, hk_ui (s := (0, 10)) (lo := 0) (hi := 640) hk3 hn rfl rfl (by omega) (by omega) rfl rfl, t + 1, t, k, gx_s, by rw [gx_k (by decide)]; exact j8, by rw [gx_k (by decide)]; exact j9, k4, by omega, by omega, by omega, Or.inl h0t, fun _ => ⟨by omega, f600⟩, fun z => absurd z k3⟩
          cases c1 : xe_c .eq x 0 with
          | true =>
            refine xa_tn 155 [0, 1] [(0, .ref 39), (1, .int c)] [] (xh_ui (xh_ui h2 39 9 (Int32.ofInt 1)) 39 11 c) [true] 8 q2 rfl ⟨c1, trivial⟩ (fun _ => ?_)
            exact fin 1 (by decide) (by decide)
          | false =>
            refine xa_tn 155 [0, 1] [(0, .ref 39), (1, .int c)] [] (xh_ui (xh_ui h2 39 9 (Int32.ofInt 4)) 39 11 c) [false] 9 q2 rfl ⟨c1, trivial⟩ (fun _ => ?_)
            exact fin 4 (by decide) (by decide)
    · refine xa_tn 109 [] [] [] (xh_ui h1 39 9 (Int32.ofInt 0)) [false] 10 q1 rfl ⟨xlt_f (show (xg 0 h1.2.1 39 6).toInt ≤ (xg 0 h1.2.1 39 7).toInt by rw [g7, h6, ti, si]; omega), trivial⟩ (fun _ => ?_)
      exact xp_ret rfl rfl rfl ⟨rfl, hk_ui (s := (0, 10)) (lo := 0) (hi := 4) hk1 hn rfl rfl (by decide) (by decide) rfl rfl, t, t, 0, by rw [gx_k (by decide)]; exact g7, by rw [gx_k (by decide)]; exact g8, gx_s, by decide, h0t, htz, by omega, Or.inl h0t, fun z => by omega, fun z => by cases z⟩
  by_cases hs : sz ≤ 600
  · refine xa_tn 93 [0] [(0, .ref 39)] [] h1 [true] 6 q1 rfl ⟨xle_t (show (xg 0 h1.2.1 39 6).toInt ≤ (600 : Int32).toInt by rw [h6, si, t600]; omega), trivial⟩ (fun _ => ?_)
    exact main (fun z => by omega)
  · by_cases ht : t < 600
    · refine xa_tn 93 [0] [(0, .ref 39)] [] h1 [false, true] 10 q1 rfl ⟨xle_f (show (600 : Int32).toInt < (xg 0 h1.2.1 39 6).toInt by rw [h6, si, t600]; omega), xlt_t (show (xg 0 h1.2.1 39 8).toInt < (600 : Int32).toInt by rw [g8, ti, t600]; omega), trivial⟩ (fun _ => ?_)
      exact main (fun _ => ht)
    · refine xa_tn 92 [] [] [] (xh_ui (xh_ui h1 39 8 600) 39 9 (Int32.ofInt 1)) [false, false] 16 q1 rfl ⟨xle_f (show (600 : Int32).toInt < (xg 0 h1.2.1 39 6).toInt by rw [h6, si, t600]; omega), xlt_f (show (600 : Int32).toInt ≤ (xg 0 h1.2.1 39 8).toInt by rw [g8, ti, t600]; omega), trivial⟩ (fun _ => ?_)
      exact xp_ret rfl rfl rfl ⟨rfl, hk_ui (s := (0, 10)) (lo := 0) (hi := 4) (hk_ui (s := (0, 10)) (lo := 0) (hi := 640) hk1 hn rfl rfl (by decide) (by decide) rfl rfl) hn rfl rfl (by decide) (by decide) rfl rfl, t, 600, 1, by rw [gx_k (by decide), gx_k (by decide)]; exact g7, by rw [gx_k (by decide)]; exact gx_s, gx_s, by decide, h0t, htz, by decide, Or.inr ⟨by omega, by decide⟩, fun z => by omega, fun z => by cases z⟩
set_option maxRecDepth 100000 in
set_option maxHeartbeats 8000000 in
/-- the blanks -/
theorem g0 {d sz t0 : Nat} {h0 : xh_H} (hn : 72 ≤ h0.1.length) (s640 : sz ≤ 640) (hsz : xg 0 h0.2.1 39 6 = nI sz) : ∀ (n t : Nat) (h : xh_H), t + n = sz → t0 ≤ t → hk go_md h0 h → xg 0 h.2.1 39 7 = nI t → xt_P (d + 1) xi_X10_go xmi_X10_go 0 [(0, .ref 39)] [] h (gq h0 sz t0) := by
  intro n
  induction n with
  | zero =>
    intro t h ht h0t hk0 h7
    have h6 : xg 0 h.2.1 39 6 = nI sz := (hk_g (c := 39) (k := 6) hk0 rfl rfl).trans hsz
    refine xa_tn 52 [0] [(0, .ref 39)] [] h [true] 7 (hk_q hk0 hn) rfl ⟨(show xe_c .ge (xg 0 h.2.1 39 7) (xg 0 h.2.1 39 6) = true by rw [h7, h6]; exact nge_t (by omega) (by omega) (by omega)), trivial⟩ (fun _ => ?_)
    exact gA hn s640 hsz h0t (by omega) hk0 h7
  | succ n ih =>
    intro t h ht h0t hk0 h7
    have h6 : xg 0 h.2.1 39 6 = nI sz := (hk_g (c := 39) (k := 6) hk0 rfl rfl).trans hsz
    have hge : xe_c .ge (xg 0 h.2.1 39 7) (xg 0 h.2.1 39 6) = false := by rw [h7, h6]; exact nge_f (by omega) (by omega) (by omega)
    have hin : xe_in (xg 0 h.2.1 39 7) 640 = true := by rw [h7]; exact xin_n (by omega) (by omega)
    have e1 : nI t + Int32.ofInt 1 = nI (t + 1) := nI_1 t
    have ti1 := nI_toInt (n := t + 1) (by omega)
    have go1 : xt_P (d + 1) xi_X10_go xmi_X10_go 0 [(0, .ref 39)] [] (xh_ui h 39 7 (nI (t + 1))) (gq h0 sz t0) := ih (t + 1) _ (by omega) (by omega) (hk_ui (s := (0, 10)) (lo := 0) (hi := 640) hk0 hn rfl rfl (by omega) (by omega) rfl rfl) gx_s
    cases c1 : xe_c .eq (xg 0 h.2.1 40 (xg 0 h.2.1 39 7).toNatClampNeg) 32 with
    | true =>
      refine xa_tn 0 [0] [(0, .ref 39)] [] (xh_ui h 39 7 ((xg 0 h.2.1 39 7) + (Int32.ofInt 1))) [false, true] 21 (hk_q hk0 hn) rfl ⟨hge, hin, c1, trivial⟩ (fun _ => ?_)
      rw [h7, e1]
      exact go1
    | false =>
      cases c2 : xe_c .ne (xg 0 h.2.1 40 (xg 0 h.2.1 39 7).toNatClampNeg) 10 with
      | false =>
        refine xa_tn 0 [0] [(0, .ref 39)] [] (xh_ui h 39 7 ((xg 0 h.2.1 39 7) + (Int32.ofInt 1))) [false, false, false] 28 (hk_q hk0 hn) rfl ⟨hge, hin, c1, hin, c2, trivial⟩ (fun _ => ?_)
        rw [h7, e1]
        exact go1
      | true =>
        refine xa_tn 52 [0] [(0, .ref 39)] [] h [false, false, true] 21 (hk_q hk0 hn) rfl ⟨hge, hin, c1, hin, c2, trivial⟩ (fun _ => ?_)
        exact gA hn s640 hsz h0t (by omega) hk0 h7
end XGO
