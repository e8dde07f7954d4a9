section XTS
/-- the rank of trySum: of what is given to the first n sorts -/
def ts_m (h : xh_H) : Nat → Nat
  | 0 => 0
  | n + 1 => ts_m h n + ((xg 0 h.2.1 57 n).toInt.toNat + 1) * 102 ^ (11 - n)
theorem ts_m_eq {h h' : xh_H} : ∀ n : Nat, (∀ j, j < n → xg 0 h'.2.1 57 j = xg 0 h.2.1 57 j) → ts_m h' n = ts_m h n := by
  intro n
  induction n with
  | zero => intro _; rfl
  | succ n ih =>
    intro e
    show ts_m h' n + _ = ts_m h n + _
    rw [ih (fun j hj => e j (by omega)), e n (by omega)]
theorem ts_m_lt {h h' : xh_H} {n : Nat} (e : ∀ j, j < n → xg 0 h'.2.1 57 j = xg 0 h.2.1 57 j) (hl : (xg 0 h'.2.1 57 n).toInt.toNat + 1 ≤ (xg 0 h.2.1 57 n).toInt.toNat) : ts_m h' (n + 1) + 102 ^ (11 - n) ≤ ts_m h (n + 1) := by
  show ts_m h' n + _ + _ ≤ ts_m h n + _
  rw [ts_m_eq n e]
  have := Nat.mul_le_mul_right (102 ^ (11 - n)) hl
  rw [Nat.add_mul, Nat.one_mul] at this
  rw [Nat.add_mul, Nat.add_mul, Nat.one_mul]
  omega
abbrev ts_md : List (Nat × Nat) := [(39, 49), (39, 50), (57, 0)]
set_option maxRecDepth 100000 in
set_option maxHeartbeats 4000000 in
/-- the inner loop: a smaller weight that may be -/
theorem ts_in {d k : Nat} {h0 : xh_H} {left : Int32} {Q : Option Value → xh_H → Prop} (hn : 72 ≤ h0.1.length) (hk11 : k ≤ 11) {g : Nat → Int32} {t : Int} (K : ∀ (v : Int32) h', hk ts_md h0 h' → (∀ j, xg 0 h'.2.1 57 j = g j) → -1 ≤ v.toInt → v.toInt ≤ t → xt_P (d + 1) xi_X10_trySum xmi_X10_trySum 87 [(0, .ref 39), (2, .int (nI k)), (3, .int left), (4, .int v)] [] h' Q) : ∀ (n : Nat) (v : Int32) (h : xh_H), v.toInt + 1 = (n : Int) → v.toInt ≤ 99 → v.toInt ≤ t → hk ts_md h0 h → (∀ j, xg 0 h.2.1 57 j = g j) → xt_P (d + 1) xi_X10_trySum xmi_X10_trySum 53 [(0, .ref 39), (2, .int (nI k)), (3, .int left), (4, .int v)] [] h Q := by
  intro n
  induction n with
  | zero =>
    intro v h hv h99 ht hk0 hg
    have z0 : (0 : Int32).toInt = 0 := rfl
    refine xa_tn 87 [0, 2, 3, 4] [(0, .ref 39), (2, .int (nI k)), (3, .int left), (4, .int v)] [] h [true] 4 (hk_q hk0 hn) rfl ⟨xlt_t (by omega), trivial⟩ (fun _ => ?_)
    exact K v h hk0 hg (by omega) ht
  | succ n ih =>
    intro v h hv h99 ht hk0 hg
    have z0 : (0 : Int32).toInt = 0 := rfl
    have hin := xin_n (k := k) (n := 12) (by omega) (by omega)
    have e1 : (v + Int32.ofInt (-1)).toInt = v.toInt - 1 := by
      have e : (Int32.ofInt (-1)).toInt = -1 := rfl
      rw [i_add (by rw [e]; omega) (by rw [e]; omega), e]
      omega
    cases hc : xe_c .gt ((xg 0 h.2.1 55 (nI k).toNatClampNeg) * v) left with
    | true =>
      refine xa_tn 53 [0, 2, 3, 4] [(0, .ref 39), (2, .int (nI k)), (3, .int left), (4, .int (v + Int32.ofInt (-1)))] [] h [false, true] 14 (hk_q hk0 hn) rfl ⟨xlt_f (by omega), hin, hc, trivial⟩ (fun _ => ?_)
      exact ih _ h (by omega) (by omega) (by omega) hk0 hg
    | false =>
      refine xa_tn 75 [0, 2, 3, 4] [(0, .ref 39), (2, .int (nI k)), (3, .int left), (4, .int v)] [.int v, .int (nI k), .ref 39] h [false, false] 15 (hk_q hk0 hn) rfl ⟨xlt_f (by omega), hin, hc, trivial⟩ (fun hq => ?_)
      have ek := nI_toInt (n := k) (by omega)
      refine xp_int (C := aC_m_X10_mayBe) (lo := 0) (hi := 1) (σ := fun _ => 0) as_m_X10_mayBe hq hk0.1 rfl rfl rfl (Nat.zero_le _) ⟨a_av (by decide) hq.1, a_ai (by omega) (by omega), a_ai (by omega) (by omega), trivial⟩ a_fp0 rfl (fun x h1 x1 x2 i1 l1 f1 q1 => ?_)
      have hk1 : hk ts_md h0 h1 := hk_c hk0 i1 l1 f1 (fun _ z => nomatch z)
      have g1 : ∀ j, xg 0 h1.2.1 57 j = g j := fun j => by rw [← hg]; exact fr_nil f1 rfl
      cases hx : xe_c .ne x 0 with
      | true =>
        refine xa_tn 87 [0, 2, 3, 4] [(0, .ref 39), (2, .int (nI k)), (3, .int left), (4, .int v)] [] h1 [true] 3 q1 rfl ⟨hx, trivial⟩ (fun _ => ?_)
        exact K v h1 hk1 g1 (by omega) ht
      | false =>
        refine xa_tn 53 [0, 2, 3, 4] [(0, .ref 39), (2, .int (nI k)), (3, .int left), (4, .int (v + Int32.ofInt (-1)))] [] h1 [false] 5 q1 rfl ⟨hx, trivial⟩ (fun _ => ?_)
        exact ih _ h1 (by omega) (by omega) (by omega) hk1 g1
/-- what trySum leaves -/
def ts_Q (h0 : xh_H) (v : Option Value) (h' : xh_H) : Prop := hk ts_md h0 h' ∧ ∃ x : Int32, v = some (.int x) ∧ -2 ≤ x.toInt ∧ x.toInt ≤ 1
set_option maxRecDepth 100000 in
set_option maxHeartbeats 8000000 in
theorem ts_out {d : Nat} {h0 : xh_H} (hn : 72 ≤ h0.1.length) : ∀ (N n : Nat) (left : Int32) (h : xh_H), n ≤ 12 → hk ts_md h0 h → ts_m h n < N → xt_P (d + 2) xi_X10_trySum xmi_X10_trySum 12 [(0, .ref 39), (2, .int (nI n + Int32.ofInt (-1))), (3, .int left)] [] h (ts_Q h0) := by
  intro N
  induction N with
  | zero => intro n left h _ _ hN; omega
  | succ N ih =>
    intro n left h hn12 hk0 hN
    cases n with
    | zero =>
      refine xa_tn 185 [] [] [.int (Int32.ofInt 0)] h [true] 5 (hk_q hk0 hn) rfl ⟨by decide, trivial⟩ (fun _ => ?_)
      exact xp_ret rfl rfl rfl ⟨hk0, _, rfl, by decide, by decide⟩
    | succ k =>
      have ed : nI (k + 1) + Int32.ofInt (-1) = nI k := nI_dec2 k
      rw [ed]
      have ek := nI_toInt (n := k) (by omega)
      have ecl : (nI k).toNatClampNeg = k := nI_clamp (by omega)
      have hin := xin_n (k := k) (n := 12) (by omega) (by omega)
      have z0 : (0 : Int32).toInt = 0 := rfl
      have hlt : xe_c .lt (nI k) 0 = false := xlt_f (by omega)
      have gb := a_elx (c := 57) (k := k) (lo := 0) (hi := 100) hk0.1.1 (hk_n hk0 hn) rfl rfl (by omega)
      have ev : (xg 0 h.2.1 57 k - Int32.ofInt 1).toInt = (xg 0 h.2.1 57 k).toInt - 1 := by
        have e : (Int32.ofInt 1).toInt = 1 := rfl
        rw [ar_sub (by rw [e]; omega) (by rw [e]; omega), e]
      have inner : ∀ left1 : Int32, xt_P (d + 2) xi_X10_trySum xmi_X10_trySum 53 [(0, .ref 39), (2, .int (nI k)), (3, .int left1), (4, .int (xg 0 h.2.1 57 k - Int32.ofInt 1))] [] h (ts_Q h0) := by
        intro left1
        refine ts_in (g := fun j => xg 0 h.2.1 57 j) (t := (xg 0 h.2.1 57 k).toInt - 1) hn (by omega) ?_ (xg 0 h.2.1 57 k).toInt.toNat _ h (by omega) (by omega) (by omega) hk0 (fun _ => rfl)
        intro v h1 hk1 g1 v1 v2
        have q1 := hk_q hk1 hn
        by_cases hv : v.toInt < 0
        · refine xa_tn 12 [0, 2, 3] [(0, .ref 39), (2, .int ((nI k) + Int32.ofInt (-1))), (3, .int left1)] [] h1 [false] 6 q1 rfl ⟨xge_f (by omega), trivial⟩ (fun _ => ?_)
          refine ih k left1 h1 (by omega) hk1 ?_
          have e := ts_m_eq (h := h) (h' := h1) k (fun j _ => g1 j)
          have e2 : ts_m h (k + 1) = ts_m h k + ((xg 0 h.2.1 57 k).toInt.toNat + 1) * 102 ^ (11 - k) := rfl
          have p0 : 0 < 102 ^ (11 - k) := Nat.pow_pos (by decide)
          have p1 : 1 * 102 ^ (11 - k) ≤ ((xg 0 h.2.1 57 k).toInt.toNat + 1) * 102 ^ (11 - k) := Nat.mul_le_mul_right _ (by omega)
          omega
        · obtain ⟨w, rfl, w99, w31⟩ := a_nk (x := v) (m := 99) (by omega) (by omega)
          have ew := nI_toInt (n := w) w31
          refine xa_tn 118 [0, 2, 3] [(0, .ref 39), (2, .int (nI k)), (3, .int (left1 - ((xg 0 (xh_ui h1 57 (nI k).toNatClampNeg (nI w)).2.1 55 (nI k).toNatClampNeg) * (nI w))))] [] (xh_ui h1 57 (nI k).toNatClampNeg (nI w)) [true] 18 q1 rfl ⟨xge_t (by omega), hin, hin, trivial⟩ (fun _ => ?_)
          rw [ecl]
          generalize left1 - (xg 0 (xh_ui h1 57 k (nI w)).2.1 55 k) * (nI w) = left2
          have hk2 : hk ts_md h0 (xh_ui h1 57 k (nI w)) := hk_ui (s := (1, 12)) (lo := 0) (hi := 100) hk1 hn rfl rfl (by omega) (by omega) rfl rfl
          have m2 : ts_m (xh_ui h1 57 k (nI w)) (k + 1) + 102 ^ (11 - k) ≤ ts_m h (k + 1) := by
            refine ts_m_lt (fun j hj => ?_) ?_
            · rw [gx_k (by omega)]
              exact g1 j
            · rw [gx_s, ew]
              omega
          have p0 : 0 < 102 ^ (11 - k) := Nat.pow_pos (by decide)
          generalize hh2 : xh_ui h1 57 k (nI w) = h2 at hk2 m2 ⊢
          have q2 := hk_q hk2 hn
          have sb := a_flx (c := 39) (k := 46) (lo := 0) (hi := 12) hk2.1.1 (hk_n hk2 hn) rfl rfl (by decide)
          have es : (xg 0 h2.2.1 39 46 - Int32.ofInt 1).toInt = (xg 0 h2.2.1 39 46).toInt - 1 := by
            have e : (Int32.ofInt 1).toInt = 1 := rfl
            rw [ar_sub (by rw [e]; omega) (by rw [e]; omega), e]
          cases hc : xe_c .ge (nI k) ((xg 0 h2.2.1 39 46) - (Int32.ofInt 1)) with
          | false =>
            have hc2 := a_ce (a_neg_ok hc)
            have hc2 : (nI k).toInt < (xg 0 h2.2.1 39 46 - Int32.ofInt 1).toInt := hc2
            have ek1 : nI k + Int32.ofInt 1 = nI (k + 1) := nI_1 k
            have hin1 : xe_in (nI k + Int32.ofInt 1) 12 = true := by rw [ek1]; exact xin_n (by omega) (by omega)
            refine xa_tn 12 [0, 2, 3] [(0, .ref 39), (2, .int ((nI k) + Int32.ofInt 1)), (3, .int left2)] [] (xh_ui h2 57 ((nI k) + Int32.ofInt 1).toNatClampNeg 100) [false] 16 q2 rfl ⟨hc, hin1, trivial⟩ (fun _ => ?_)
            rw [ek1, nI_clamp (by omega)]
            have e5 : nI (k + 1) = nI (k + 1 + 1) + Int32.ofInt (-1) := (nI_dec2 (k + 1)).symm
            rw [e5]
            refine ih (k + 1 + 1) left2 _ (by omega) (hk_ui (s := (1, 12)) (lo := 0) (hi := 100) hk2 hn rfl rfl (by decide) (by decide) rfl rfl) ?_
            have e6 : ts_m (xh_ui h2 57 (k + 1) 100) (k + 1) = ts_m h2 (k + 1) := ts_m_eq (k + 1) (fun j hj => gx_k (by omega))
            have e7 : ts_m (xh_ui h2 57 (k + 1) 100) (k + 1 + 1) = ts_m (xh_ui h2 57 (k + 1) 100) (k + 1) + ((xg 0 (xh_ui h2 57 (k + 1) 100).2.1 57 (k + 1)).toInt.toNat + 1) * 102 ^ (11 - (k + 1)) := rfl
            rw [gx_s] at e7
            have e8 : ((100 : Int32).toInt.toNat + 1) = 101 := rfl
            rw [e8] at e7
            have e9 : 102 ^ (11 - k) = 102 * 102 ^ (11 - (k + 1)) := by
              rw [show 11 - k = (11 - (k + 1)) + 1 by omega, Nat.pow_succ, Nat.mul_comm]
            have p1 : 0 < 102 ^ (11 - (k + 1)) := Nat.pow_pos (by decide)
            omega
          | true =>
            cases hl : xe_c .le left2 0 with
            | false =>
              refine xa_tn 12 [0, 2, 3] [(0, .ref 39), (2, .int (nI k)), (3, .int left2)] [] h2 [true, false] 12 q2 rfl ⟨hc, hl, trivial⟩ (fun _ => ?_)
              rw [← ed]
              exact ih (k + 1) left2 h2 hn12 hk2 (by omega)
            | true =>
              refine xa_tn 159 [0, 2, 3] [(0, .ref 39), (2, .int (nI k)), (3, .int left2)] [] (xh_ui h2 39 49 ((xg 0 h2.2.1 39 49) + (Int32.ofInt 1))) [true, true] 16 q2 rfl ⟨hc, hl, trivial⟩ (fun _ => ?_)
              have xr := ar_rng (xg 0 h2.2.1 39 49 + Int32.ofInt 1)
              have hk3 : hk ts_md h0 (xh_ui h2 39 49 (xg 0 h2.2.1 39 49 + Int32.ofInt 1)) := hk_ui (s := (0, 10)) (lo := -2147483648) (hi := 2147483647) hk2 hn rfl rfl xr.1 xr.2 rfl rfl
              have m3 : ts_m (xh_ui h2 39 49 (xg 0 h2.2.1 39 49 + Int32.ofInt 1)) (k + 1) = ts_m h2 (k + 1) := ts_m_eq (k + 1) (fun j hj => gx_o (by decide))
              generalize xh_ui h2 39 49 (xg 0 h2.2.1 39 49 + Int32.ofInt 1) = h3 at hk3 m3 ⊢
              have q3 := hk_q hk3 hn
              cases ht : xe_c .le (xg 0 h3.2.1 39 49) 5000 with
              | false =>
                refine xa_tn 171 [] [] [.int (-2)] h3 [false] 7 q3 rfl ⟨ht, trivial⟩ (fun _ => ?_)
                exact xp_ret rfl rfl rfl ⟨hk3, _, rfl, by decide, by decide⟩
              | true =>
                refine xa_tn 173 [0, 2, 3] [(0, .ref 39), (2, .int (nI k)), (3, .int left2)] [.ref 39] h3 [true] 7 q3 rfl ⟨ht, trivial⟩ (fun _ => ?_)
                refine xp_int (C := aC_m_X10_isRight) (lo := 0) (hi := 1) (σ := fun _ => 0) as_m_X10_isRight q3 hk3.1 rfl rfl rfl (by show 1 ≤ d + 1; omega) ⟨a_av (by decide) q3.1, trivial⟩ a_fp0 rfl (fun x h4 x1 x2 i4 l4 f4 q4 => ?_)
                have hk4 : hk ts_md h0 h4 := hk_c hk3 i4 l4 f4 (by intro q hq; rw [List.mem_singleton.mp hq]; decide)
                have m4 : ts_m h4 (k + 1) = ts_m h3 (k + 1) := ts_m_eq (k + 1) (fun j hj => fr_g f4 rfl rfl)
                cases hx : xe_c .eq x 0 with
                | true =>
                  refine xa_tn 12 [0, 2, 3] [(0, .ref 39), (2, .int (nI k)), (3, .int left2)] [] h4 [true] 4 q4 rfl ⟨hx, trivial⟩ (fun _ => ?_)
                  rw [← ed]
                  exact ih (k + 1) left2 h4 hn12 hk4 (by omega)
                | false =>
                  refine xa_tn 180 [] [] [.int (Int32.ofInt 1)] h4 [false] 4 q4 rfl ⟨hx, trivial⟩ (fun _ => ?_)
                  exact xp_ret rfl rfl rfl ⟨hk4, _, rfl, by decide, by decide⟩
      cases hg : xe_c .ge (xg 0 h.2.1 57 (nI k).toNatClampNeg) 100 with
      | true =>
        refine xa_tn 53 [0, 2, 3, 4] [(0, .ref 39), (2, .int (nI k)), (3, .int left), (4, .int ((xg 0 h.2.1 57 (nI k).toNatClampNeg) - (Int32.ofInt 1)))] [] h [false, true] 17 (hk_q hk0 hn) rfl ⟨hlt, hin, hg, hin, trivial⟩ (fun _ => ?_)
        rw [ecl]
        exact inner left
      | false =>
        refine xa_tn 53 [0, 2, 3, 4] [(0, .ref 39), (2, .int (nI k)), (3, .int (left + ((xg 0 h.2.1 55 (nI k).toNatClampNeg) * (xg 0 h.2.1 57 (nI k).toNatClampNeg)))), (4, .int ((xg 0 h.2.1 57 (nI k).toNatClampNeg) - (Int32.ofInt 1)))] [] h [false, false] 29 (hk_q hk0 hn) rfl ⟨hlt, hin, hg, hin, hin, hin, trivial⟩ (fun _ => ?_)
        rw [ecl]
        exact inner _
set_option maxRecDepth 100000 in
theorem as_h_X10_trySum : a_spec a_tb aC_h_X10_trySum := by
  intro d mi vs h σ hd hM hi hn ha _
  cases hM
  match vs, ha with
  | [v0, v1], ha =>
    obtain ⟨⟨q, rfl, hq⟩, ⟨b, rfl, b1, b2, -⟩, -⟩ := ha
    have eq : q = 39 := a_r_ob (t := 39) (by decide) hq
    subst eq
    have hd : 2 ≤ d := hd
    obtain ⟨d, rfl⟩ : ∃ d', d = d' + 2 := ⟨d - 2, by omega⟩
    have e0 : nI (0 + 1) + Int32.ofInt (-1) = Int32.ofInt 0 := by decide
    have main : xt_P (d + 2) xi_X10_trySum xmi_X10_trySum 0 [(0, .ref 39), (1, .int b)] [] h (ts_Q h) := by
      refine xa_tn 12 [0, 2, 3] [(0, .ref 39), (2, .int (Int32.ofInt 0)), (3, .int b)] [] (xh_ui h 57 (Int32.ofInt 0).toNatClampNeg 100) [] 11 (a_rq_of hi.1 hn) rfl ⟨by decide, trivial⟩ (fun _ => ?_)
      rw [← e0]
      exact ts_out hn _ (0 + 1) b _ (by decide) (hk_ui (s := (1, 12)) (lo := 0) (hi := 100) (hk_0 hi) hn rfl rfl (by decide) (by decide) rfl rfl) (Nat.lt_succ_self _)
    obtain ⟨v, h', r, hk0, x, rfl, x1, x2⟩ := main
    exact ⟨some (.int x), h', r, hk0.1, hk0.2.1, ⟨_, List.mem_singleton.mpr rfl, ⟨_, rfl, a_ai x1 x2⟩, a_fp0⟩, hk0.2.2⟩
end XTS
