section XNX
/-- what next answers, and the day behind it -/
def nx_ok (t : Nat) (n : Int32) : Bool := decide (0 ≤ n.toInt) && decide ((t : Int) + n.toInt ≤ 999)
def nx_a (t : Nat) (n : Int32) : Int32 := cond (nx_ok t n) (nI (t + n.toInt.toNat)) (Int32.ofInt (-1))
def nx_t (t : Nat) (n : Int32) : Nat := cond (nx_ok t n) (t + n.toInt.toNat) t
theorem nx_t9 {t : Nat} {n : Int32} (h : t ≤ 999) : nx_t t n ≤ 999 := by
  unfold nx_t
  cases hb : nx_ok t n with
  | false => exact h
  | true =>
    unfold nx_ok at hb
    rw [Bool.and_eq_true, decide_eq_true_eq, decide_eq_true_eq] at hb
    show t + n.toInt.toNat ≤ 999
    omega
theorem nx_no {t : Nat} {n : Int32} (h : ¬ (0 ≤ n.toInt ∧ (t : Int) + n.toInt ≤ 999)) : nx_ok t n = false := by
  unfold nx_ok
  rw [Bool.eq_false_iff]
  intro z
  rw [Bool.and_eq_true, decide_eq_true_eq, decide_eq_true_eq] at z
  exact h z
theorem nx_y {t : Nat} {n : Int32} (h1 : 0 ≤ n.toInt) (h2 : (t : Int) + n.toInt ≤ 999) : nx_ok t n = true := by
  unfold nx_ok
  rw [decide_eq_true h1, decide_eq_true h2]
  rfl
set_option maxRecDepth 100000 in
theorem n9_run {d t : Nat} {n : Int32} {h : xh_H} (hn : 72 ≤ h.1.length) (hi : a_inv a_tb h) (t9 : t ≤ 999) (ht : xg 0 h.2.1 0 10 = nI t) : xt_P d xi_X9_next xmi_X9_next 0 [(0, .ref 0), (1, .int n)] [] h (fun v h' => hk [(0, 10)] h h' ∧ v = some (.int (nx_a t n)) ∧ xg 0 h'.2.1 0 10 = nI (nx_t t n)) := by
  have hq := a_rq_of hi.1 hn
  have ti := nI_toInt (n := t) (by omega)
  have z0 : (0 : Int32).toInt = 0 := rfl
  have z9 : (999 : Int32).toInt = 999 := rfl
  have no : nx_ok t n = false → hk [(0, 10)] h h ∧ some (Value.int (Int32.ofInt (-1))) = some (.int (nx_a t n)) ∧ xg 0 h.2.1 0 10 = nI (nx_t t n) := fun z => by
    refine ⟨hk_0 hi, ?_, ?_⟩
    · unfold nx_a
      rw [z]
      rfl
    · unfold nx_t
      rw [z]
      exact ht
  cases c1 : xe_c .lt n 0 with
  | true =>
    have b1 : n.toInt < (0 : Int) := a_ce c1
    refine xa_tn 24 [] [] [.int (Int32.ofInt (-1))] h [true] 5 hq rfl ⟨c1, trivial⟩ (fun _ => ?_)
    exact xp_ret rfl rfl rfl (no (nx_no (by omega)))
  | false =>
    have b1 : (0 : Int) ≤ n.toInt := a_ce (a_neg_ok c1)
    cases c2 : xe_c .gt n 999 with
    | true =>
      have b2 : (999 : Int) < n.toInt := a_ce c2
      refine xa_tn 24 [] [] [.int (Int32.ofInt (-1))] h [false, true] 8 hq rfl ⟨c1, c2, trivial⟩ (fun _ => ?_)
      exact xp_ret rfl rfl rfl (no (nx_no (by omega)))
    | false =>
      have b2 : n.toInt ≤ (999 : Int) := a_ce (a_neg_ok c2)
      have es : (nI t + n).toInt = (t : Int) + n.toInt := by rw [i_add (by rw [ti]; omega) (by rw [ti]; omega), ti]
      by_cases hs : (t : Int) + n.toInt ≤ 999
      · refine xa_tn 39 [] [] [.int (xg 0 (xh_ui h 0 10 ((xg 0 h.2.1 0 10) + n)).2.1 0 10)] (xh_ui h 0 10 ((xg 0 h.2.1 0 10) + n)) [false, false, true] 21 hq rfl ⟨c1, c2, xle_t (show ((xg 0 h.2.1 0 10) + n).toInt ≤ (999 : Int32).toInt by rw [ht, es, z9]; exact hs), trivial⟩ (fun _ => ?_)
        have en : nI t + n = nI (t + n.toInt.toNat) := Int32.toInt_inj.mp (by rw [es, nI_toInt (by omega)]; omega)
        rw [ht, en]
        have ni := nI_toInt (n := t + n.toInt.toNat) (by omega)
        refine xp_ret rfl rfl rfl ⟨hk_ui (s := (0, 9)) (lo := -2147483648) (hi := 2147483647) (hk_0 hi) hn rfl rfl (by omega) (by omega) rfl rfl, ?_, ?_⟩
        · unfold nx_a
          rw [nx_y b1 hs, gx_s]
          rfl
        · unfold nx_t
          rw [nx_y b1 hs]
          exact gx_s
      · refine xa_tn 24 [] [] [.int (Int32.ofInt (-1))] h [false, false, false] 14 hq rfl ⟨c1, c2, xle_f (show (999 : Int32).toInt < ((xg 0 h.2.1 0 10) + n).toInt by rw [ht, es, z9]; omega), trivial⟩ (fun _ => ?_)
        exact xp_ret rfl rfl rfl (no (nx_no (by omega)))
set_option maxRecDepth 100000 in
theorem isj_run {d : Nat} {x lo hi : Int32} {h : xh_H} (hq : a_rq a_tb h) : xt_P d xi_X10_isIn xmi_X10_isIn 0 [(0, .int x), (1, .int lo), (2, .int hi)] [] h (fun v h' => h = h' ∧ v = some (.int (bl (decide (lo.toInt ≤ x.toInt ∧ x.toInt ≤ hi.toInt))))) := by
  cases c1 : xe_c .lt x lo with
  | true =>
    have b1 : x.toInt < lo.toInt := a_ce c1
    refine xa_tn 15 [] [] [.int (Int32.ofInt 0)] h [true] 6 hq rfl ⟨c1, trivial⟩ (fun _ => ?_)
    refine xp_ret rfl rfl rfl ⟨rfl, ?_⟩
    rw [decide_eq_false (by omega)]
    rfl
  | false =>
    have b1 : lo.toInt ≤ x.toInt := a_ce (a_neg_ok c1)
    cases c2 : xe_c .gt x hi with
    | true =>
      have b2 : hi.toInt < x.toInt := a_ce c2
      refine xa_tn 15 [] [] [.int (Int32.ofInt 0)] h [false, true] 9 hq rfl ⟨c1, c2, trivial⟩ (fun _ => ?_)
      refine xp_ret rfl rfl rfl ⟨rfl, ?_⟩
      rw [decide_eq_false (by omega)]
      rfl
    | false =>
      have b2 : x.toInt ≤ hi.toInt := a_ce (a_neg_ok c2)
      refine xa_tn 15 [] [] [.int (Int32.ofInt 1)] h [false, false] 10 hq rfl ⟨c1, c2, trivial⟩ (fun _ => ?_)
      refine xp_ret rfl rfl rfl ⟨rfl, ?_⟩
      rw [decide_eq_true ⟨b1, b2⟩]
      rfl
set_option maxRecDepth 100000 in
theorem n10_run {d t : Nat} {n : Int32} {h : xh_H} (hn : 72 ≤ h.1.length) (hi : a_inv a_tb h) (t9 : t ≤ 999) (ht : xg 0 h.2.1 39 3 = nI t) : xt_P (d + 1) xi_X10_next xmi_X10_next 0 [(0, .ref 39), (1, .int n)] [] h (fun v h' => hk [(39, 0), (39, 3)] h h' ∧ v = some (.int (nx_a t n)) ∧ xg 0 h'.2.1 39 3 = nI (nx_t t n)) := by
  have hq := a_rq_of hi.1 hn
  have ti := nI_toInt (n := t) (by omega)
  have z9 : (999 : Int32).toInt = 999 := rfl
  have z0 : (Int32.ofInt 0).toInt = 0 := rfl
  refine xa_tn 10 [0, 1] [(0, .ref 39), (1, .int n)] [.int 999, .int (Int32.ofInt 0), .int n] (xh_ui h 39 0 (Int32.ofInt 0)) [] 8 hq rfl trivial (fun _ => ?_)
  have hk1 : hk [(39, 0), (39, 3)] h (xh_ui h 39 0 (Int32.ofInt 0)) := hk_ui (s := (0, 10)) (lo := 0) (hi := 1) (hk_0 hi) hn rfl rfl (by decide) (by decide) rfl rfl
  have e3 : xg 0 (xh_ui h 39 0 (Int32.ofInt 0)).2.1 39 3 = nI t := by rw [gx_k (by decide)]; exact ht
  generalize xh_ui h 39 0 (Int32.ofInt 0) = h1 at hk1 e3 ⊢
  have q1 := hk_q hk1 hn
  have no : nx_ok t n = false → hk [(39, 0), (39, 3)] h h1 ∧ some (Value.int (Int32.ofInt (-1))) = some (.int (nx_a t n)) ∧ xg 0 h1.2.1 39 3 = nI (nx_t t n) := fun z => by
    refine ⟨hk1, ?_, ?_⟩
    · unfold nx_a
      rw [z]
      rfl
    · unfold nx_t
      rw [z]
      exact e3
  refine xp_run q1 rfl rfl (isj_run (d := d) (x := n) (lo := Int32.ofInt 0) (hi := 999) q1) ?_
  rintro v h2 ⟨rfl, rfl⟩
  rw [z0, z9]
  by_cases hr : (0 : Int) ≤ n.toInt ∧ n.toInt ≤ 999
  · rw [decide_eq_true hr]
    have es : (nI t + n).toInt = (t : Int) + n.toInt := by rw [i_add (by rw [ti]; omega) (by rw [ti]; omega), ti]
    by_cases hs : (t : Int) + n.toInt ≤ 999
    · refine xa_tn 44 [] [] [.int (xg 0 (xh_ui h1 39 3 ((xg 0 h1.2.1 39 3) + n)).2.1 39 3)] (xh_ui h1 39 3 ((xg 0 h1.2.1 39 3) + n)) [false, true] 17 q1 rfl ⟨rfl, xle_t (show ((xg 0 h1.2.1 39 3) + n).toInt ≤ (999 : Int32).toInt by rw [e3, es, z9]; exact hs), trivial⟩ (fun _ => ?_)
      have en : nI t + n = nI (t + n.toInt.toNat) := Int32.toInt_inj.mp (by rw [es, nI_toInt (by omega)]; omega)
      rw [e3, en]
      have ni := nI_toInt (n := t + n.toInt.toNat) (by omega)
      refine xp_ret rfl rfl rfl ⟨hk_ui (s := (0, 10)) (lo := -2147483648) (hi := 2147483647) hk1 hn rfl rfl (by omega) (by omega) rfl rfl, ?_, ?_⟩
      · unfold nx_a
        rw [nx_y hr.1 hs, gx_s]
        rfl
      · unfold nx_t
        rw [nx_y hr.1 hs]
        exact gx_s
    · refine xa_tn 29 [] [] [.int (Int32.ofInt (-1))] h1 [false, false] 10 q1 rfl ⟨rfl, xle_f (show (999 : Int32).toInt < ((xg 0 h1.2.1 39 3) + n).toInt by rw [e3, es, z9]; omega), trivial⟩ (fun _ => ?_)
      exact xp_ret rfl rfl rfl (no (nx_no (by omega)))
  · rw [decide_eq_false hr]
    refine xa_tn 29 [] [] [.int (Int32.ofInt (-1))] h1 [true] 4 q1 rfl ⟨rfl, trivial⟩ (fun _ => ?_)
    exact xp_ret rfl rfl rfl (no (nx_no (by omega)))
end XNX
