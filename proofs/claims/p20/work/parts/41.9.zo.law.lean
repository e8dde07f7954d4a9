section XPW
/-- what Powers looks at: the statute q with its row r, of m members, carries as W -/
def LA (W : Nat → Bool) (m q r : Nat) (h : xh_H) : Prop := xg none h.2.2.2 14 6 = some q ∧ h.1[q]? = some (0, 7) ∧ xg none h.2.2.2 q 1 = some r ∧ h.1[r]? = some (4, 64) ∧ xg 0 h.2.1 14 7 = nI m ∧ xg 0 h.2.1 14 8 = nI (2 ^ m - 1) ∧ ∀ s, s < 2 ^ m → hv h r s = W s
theorem hv_ee {h h' : xh_H} {r s : Nat} (e : ∀ k, xg 0 h'.2.2.1 r k = xg 0 h.2.2.1 r k) : hv h' r s = hv h r s := by rw [hv_lb, hv_lb, e]
theorem LA_f {W : Nat → Bool} {m q r : Nat} {S : Nat → Nat → Bool} {h h' : xh_H} (A : LA W m q r h) (g : fx S fN h h') (e7 : S 14 7 = false) (e8 : S 14 8 = false) : LA W m q r h' := by
  obtain ⟨a1, a2, a3, a4, a5, a6, a7⟩ := A
  refine ⟨by rw [g.2.1]; exact a1, by rw [g.1]; exact a2, by rw [g.2.1]; exact a3, by rw [g.1]; exact a4, (fx_i g e7).trans a5, (fx_i g e8).trans a6, fun s hs => (hv_ee (fun k => g.2.2.2 r k rfl)).trans (a7 s hs)⟩
theorem nI_1' {k : Nat} : nI k + Int32.ofInt 1 = nI (k + 1) := nI_1 k
/-- how many below n -/
def cnt (P : Nat → Bool) : Nat → Nat
  | 0 => 0
  | n + 1 => if P n = true then cnt P n + 1 else cnt P n
theorem cnt_t {P : Nat → Bool} {n : Nat} (h : P n = true) : cnt P (n + 1) = cnt P n + 1 := if_pos h
theorem cnt_f {P : Nat → Bool} {n : Nat} (h : P n = false) : cnt P (n + 1) = cnt P n := if_neg (by rw [h]; decide)
theorem cnt_le {P : Nat → Bool} : ∀ n, cnt P n ≤ n := by
  intro n
  induction n with
  | zero => exact Nat.le_refl _
  | succ n ih => unfold cnt; split <;> omega
theorem cnt_c {P P' : Nat → Bool} : ∀ n, (∀ k, k < n → P k = P' k) → cnt P n = cnt P' n := by
  intro n
  induction n with
  | zero => intro _; rfl
  | succ n ih => intro h; unfold cnt; rw [h n (by omega), ih (fun k hk' => h k (by omega))]
/-- all below n -/
def aln (P : Nat → Bool) : Nat → Bool
  | 0 => true
  | n + 1 => aln P n && P n
theorem aln_f {P : Nat → Bool} {k : Nat} (h : P k = false) : ∀ n, k < n → aln P n = false := by
  intro n
  induction n with
  | zero => intro h; omega
  | succ n ih =>
    intro hk'
    show (aln P n && P n) = false
    by_cases z : k = n
    · rw [← z, h]; exact Bool.and_false _
    · rw [ih (by omega)]; rfl
theorem aln_s {P : Nat → Bool} {n : Nat} (h : aln P n = true) (hp : P n = true) : aln P (n + 1) = true := by show (aln P n && P n) = true; rw [h, hp]; rfl
theorem aln_c {P P' : Nat → Bool} : ∀ n, (∀ k, k < n → P k = P' k) → aln P n = aln P' n := by
  intro n
  induction n with
  | zero => intro _; rfl
  | succ n ih => intro h; show (aln P n && P n) = (aln P' n && P' n); rw [h n (by omega), ih (fun k hk' => h k (by omega))]
/-- a turns the set -/
def tw (W : Nat → Bool) (a s : Nat) : Bool := !s.testBit a && (!W s && W (s ||| 2 ^ a))
/-- a and b turn it together -/
def tg (W : Nat → Bool) (a b s : Nat) : Bool := (!s.testBit a && !s.testBit b) && (W ((s ||| 2 ^ a) ||| 2 ^ b) && (!W (s ||| 2 ^ a) && !W (s ||| 2 ^ b)))
/-- with a it does no less than with b -/
def gp (W : Nat → Bool) (a b s : Nat) : Bool := !((!s.testBit a && !s.testBit b) && (W (s ||| 2 ^ b) && !W (s ||| 2 ^ a)))
theorem or_p {s a m : Nat} (hs : s < 2 ^ m) (ha : a < m) : s ||| 2 ^ a < 2 ^ m := Nat.or_lt_two_pow hs (Nat.pow_lt_pow_right (by decide) ha)
theorem and2 {s a b : Nat} (ha : a ≤ 11) (hb : b ≤ 11) (hs : s < 4096) : xe_c .ne (nI s &&& (((Int32.ofInt 1) <<< (nI a &&& 31)) ||| ((Int32.ofInt 1) <<< (nI b &&& 31)))) 0 = !(!s.testBit a && !s.testBit b) := by
  have pa : 2 ^ a ≤ 2048 := show 2 ^ a ≤ 2 ^ 11 from Nat.pow_le_pow_right (by decide) ha
  have pb : 2 ^ b ≤ 2048 := show 2 ^ b ≤ 2 ^ 11 from Nat.pow_le_pow_right (by decide) hb
  rw [sh1 a (by omega), sh1 b (by omega), nI_or, nI_and]
  have lt : s &&& (2 ^ a ||| 2 ^ b) < 2 ^ 31 := Nat.lt_of_le_of_lt Nat.and_le_left (by omega)
  cases c : (!s.testBit a && !s.testBit b) with
  | true =>
    rw [Bool.and_eq_true, Bool.not_eq_true', Bool.not_eq_true'] at c
    have e : s &&& (2 ^ a ||| 2 ^ b) = 0 := by
      refine Nat.eq_of_testBit_eq (fun i => ?_)
      rw [Nat.testBit_and, Nat.testBit_or, Nat.testBit_two_pow, Nat.testBit_two_pow, Nat.zero_testBit]
      by_cases z : a = i
      · rw [← z, c.1, Bool.false_and]
      · by_cases y : b = i
        · rw [← y, c.2, Bool.false_and]
        · rw [decide_eq_false z, decide_eq_false y, Bool.or_false, Bool.and_false]
    rw [e]
    rfl
  | false =>
    show xe_c .ne _ 0 = true
    cases z : xe_c .ne (nI (s &&& (2 ^ a ||| 2 ^ b))) 0 with
    | true => rfl
    | false =>
      have e : s &&& (2 ^ a ||| 2 ^ b) = 0 := nq_nef (b := 0) lt (by decide) z
      have ta := congrArg (fun n => Nat.testBit n a) e
      have tb := congrArg (fun n => Nat.testBit n b) e
      simp only [Nat.testBit_and, Nat.testBit_or, Nat.testBit_two_pow_self, Nat.zero_testBit, Bool.true_or, Bool.or_true, Bool.and_true] at ta tb
      rw [ta, tb] at c
      exact absurd c (by decide)
section
variable {W : Nat → Bool} {m q r : Nat} {h : xh_H}
theorem hl_q {f s : Nat} (A : LA W m q r h) (m12 : m ≤ 12) (hs : s < 2 ^ m) (hq : a_rq a_tb h) : xq f xi_X7_holds xmi_X7_holds 0 [(0, .ref q), (1, .int (nI s))] [] h (fun v h' => h = h' ∧ v = some (.int (bl (W s)))) := by
  have p12 : 2 ^ m ≤ 4096 := show 2 ^ m ≤ 2 ^ 12 from Nat.pow_le_pow_right (by decide) m12
  refine xq_mono (xq_of (d := 0) ⟨_, rfl⟩ (ho_run hq A.2.1 A.2.2.1 A.2.2.2.1 (by omega))) (fun v h' e => ⟨e.1, ?_⟩)
  rw [e.2, A.2.2.2.2.2.2 s hs]
  rfl
theorem gtf {s : Nat} (A : LA W m q r h) (m12 : m ≤ 12) (hs : s < 2 ^ m) : xe_c .gt (nI s) (xg 0 h.2.1 14 8) = false := by
  have p12 : 2 ^ m ≤ 4096 := show 2 ^ m ≤ 2 ^ 12 from Nat.pow_le_pow_right (by decide) m12
  rw [A.2.2.2.2.2.1]
  exact xgt_f (by rw [nI_toInt (by omega), nI_toInt (by omega)]; omega)
theorem gtt (A : LA W m q r h) (m12 : m ≤ 12) : xe_c .gt (nI (2 ^ m)) (xg 0 h.2.1 14 8) = true := by
  have p12 : 2 ^ m ≤ 4096 := show 2 ^ m ≤ 2 ^ 12 from Nat.pow_le_pow_right (by decide) m12
  have p0 := Nat.two_pow_pos m
  rw [A.2.2.2.2.2.1]
  exact xgt_t (by rw [nI_toInt (by omega), nI_toInt (by omega)]; omega)
set_option maxRecDepth 100000 in
set_option maxHeartbeats 4000000 in
/-- Powers.turnsBy -/
theorem tb_q {f s a : Nat} (A : LA W m q r h) (m12 : m ≤ 12) (hs : s < 2 ^ m) (ha : a < m) (hq : a_rq a_tb h) : xq f xi_X2_turnsBy xmi_X2_turnsBy 0 [(0, .ref 14), (1, .int (nI s)), (2, .int (nI a))] [] h (fun v h' => h = h' ∧ v = some (.int (bl (tw W a s)))) := by
  have p12 : 2 ^ m ≤ 4096 := show 2 ^ m ≤ 2 ^ 12 from Nat.pow_le_pow_right (by decide) m12
  have e0 : (nI s >>> (nI a &&& 31)) &&& Int32.ofInt 1 = nI ((s.testBit a).toNat) := nI_b0 (by omega) (by omega)
  unfold tw
  cases c1 : s.testBit a with
  | true =>
    refine xq_n 39 [] [] [.int (Int32.ofInt 0)] h [true] 60 hq rfl ⟨(show xe_c .ne ((nI s >>> (nI a &&& 31)) &&& Int32.ofInt 1) 0 = true by rw [e0, c1]; rfl), trivial⟩ (fun _ => ?_)
    exact xq_ret rfl rfl rfl ⟨rfl, rfl⟩
  | false =>
    refine xq_n 13 [0, 1, 2] [(0, .ref 14), (1, .int (nI s)), (2, .int (nI a))] [.int (nI s), va_rf (xg none h.2.2.2 14 6)] h [false] 60 hq rfl ⟨(show xe_c .ne ((nI s >>> (nI a &&& 31)) &&& Int32.ofInt 1) 0 = false by rw [e0, c1]; rfl), trivial⟩ (fun _ => ?_)
    rw [A.1]
    refine xq_cr (As := [.ref q, .int (nI (s))]) (mj := xmi_X7_holds) (q := []) rfl rfl (fun _ _ => rfl) (xa_cs_ok (d := 0) (pc := 0) (lv := []) (nL := 0) A.2.1 rfl).1 (fun f => hl_q A m12 (hs) hq) ?_
    rintro v h1 ⟨rfl, rfl⟩
    cases c2 : W s with
    | true =>
      refine xq_n 39 [] [] [.int (Int32.ofInt 0)] h [true] 60 hq rfl ⟨rfl, trivial⟩ (fun _ => ?_)
      exact xq_ret rfl rfl rfl ⟨rfl, rfl⟩
    | false =>
      refine xq_n 28 [] [] [.int (nI s ||| (Int32.ofInt 1 <<< (nI a &&& 31))), va_rf (xg none h.2.2.2 14 6)] h [false] 60 hq rfl ⟨rfl, trivial⟩ (fun _ => ?_)
      rw [A.1, nI_o1 (by omega)]
      refine xq_cr (As := [.ref q, .int (nI (s ||| 2 ^ a))]) (mj := xmi_X7_holds) (q := []) rfl rfl (fun _ _ => rfl) (xa_cs_ok (d := 0) (pc := 0) (lv := []) (nL := 0) A.2.1 rfl).1 (fun f => hl_q A m12 (or_p hs ha) hq) ?_
      rintro v h1 ⟨rfl, rfl⟩
      cases c3 : W (s ||| 2 ^ a) with
      | true =>
        refine xq_n 39 [] [] [.int (Int32.ofInt 1)] h [false] 60 hq rfl ⟨rfl, trivial⟩ (fun _ => ?_)
        exact xq_ret rfl rfl rfl ⟨rfl, rfl⟩
      | false =>
        refine xq_n 39 [] [] [.int (Int32.ofInt 0)] h [true] 60 hq rfl ⟨rfl, trivial⟩ (fun _ => ?_)
        exact xq_ret rfl rfl rfl ⟨rfl, rfl⟩
set_option maxRecDepth 100000 in
set_option maxHeartbeats 4000000 in
/-- Powers.countSwings -/
theorem csw_l {a : Nat} (A : LA W m q r h) (m12 : m ≤ 12) (ha : a < m) (hq : a_rq a_tb h) : ∀ (n f s : Nat), s + n = 2 ^ m → xq f xi_X2_countSwings xmi_X2_countSwings 4 [(0, .ref 14), (1, .int (nI a)), (2, .int (nI (cnt (tw W a) s))), (3, .int (nI s))] [] h (fun v h' => h = h' ∧ v = some (.int (nI (cnt (tw W a) (2 ^ m))))) := by
  intro n
  induction n with
  | zero =>
    intro f s sn
    have e : s = 2 ^ m := by omega
    subst e
    refine xq_n 31 [] [] [.int (nI (cnt (tw W a) (2 ^ m)))] h [true] 60 hq rfl ⟨gtt A m12, trivial⟩ (fun _ => ?_)
    exact xq_ret rfl rfl rfl ⟨rfl, rfl⟩
  | succ n ih =>
    intro f s sn
    refine xq_n 15 [0, 1, 2, 3] [(0, .ref 14), (1, .int (nI a)), (2, .int (nI (cnt (tw W a) s))), (3, .int (nI s))] [.int (nI a), .int (nI s), .ref 14] h [false] 60 hq rfl ⟨gtf A m12 (by omega), trivial⟩ (fun _ => ?_)
    refine xq_run hq rfl rfl (tb_q A m12 (by omega) ha hq) ?_
    rintro v h1 ⟨rfl, rfl⟩
    have r := ih f (s + 1) (by omega)
    cases c : tw W a s with
    | true =>
      rw [cnt_t c] at r
      refine xq_n 4 [0, 1, 2, 3] [(0, .ref 14), (1, .int (nI a)), (2, .int (nI (cnt (tw W a) s) + Int32.ofInt 1)), (3, .int (nI s + Int32.ofInt 1))] [] h [false] 60 hq rfl ⟨rfl, trivial⟩ (fun _ => ?_)
      rw [nI_1', nI_1']
      exact r
    | false =>
      rw [cnt_f c] at r
      refine xq_n 4 [0, 1, 2, 3] [(0, .ref 14), (1, .int (nI a)), (2, .int (nI (cnt (tw W a) s))), (3, .int (nI s + Int32.ofInt 1))] [] h [true] 60 hq rfl ⟨rfl, trivial⟩ (fun _ => ?_)
      rw [nI_1']
      exact r
theorem csw_q {f a : Nat} (A : LA W m q r h) (m12 : m ≤ 12) (ha : a < m) (hq : a_rq a_tb h) : xq f xi_X2_countSwings xmi_X2_countSwings 0 [(0, .ref 14), (1, .int (nI a))] [] h (fun v h' => h = h' ∧ v = some (.int (nI (cnt (tw W a) (2 ^ m))))) := by
  refine xq_n 4 [0, 1, 2, 3] [(0, .ref 14), (1, .int (nI a)), (2, .int (Int32.ofInt 0)), (3, .int (Int32.ofInt 0))] [] h [] 60 hq rfl trivial (fun _ => ?_)
  exact csw_l A m12 ha hq (2 ^ m) f 0 (by omega)
set_option maxRecDepth 100000 in
set_option maxHeartbeats 4000000 in
/-- Powers.countTogether -/
theorem ctg_l {a b : Nat} (A : LA W m q r h) (m12 : m ≤ 12) (ha : a < m) (hb : b < m) (hq : a_rq a_tb h) : ∀ (n f s : Nat), s + n = 2 ^ m → xq f xi_X2_countTogether xmi_X2_countTogether 14 [(0, .ref 14), (1, .int (nI a)), (2, .int (nI b)), (3, .int (((Int32.ofInt 1) <<< (nI a &&& 31)) ||| ((Int32.ofInt 1) <<< (nI b &&& 31)))), (4, .int (nI (cnt (tg W a b) s))), (5, .int (nI s))] [] h (fun v h' => h = h' ∧ v = some (.int (nI (cnt (tg W a b) (2 ^ m))))) := by
  have p12 : 2 ^ m ≤ 4096 := show 2 ^ m ≤ 2 ^ 12 from Nat.pow_le_pow_right (by decide) m12
  intro n
  induction n with
  | zero =>
    intro f s sn
    have e : s = 2 ^ m := by omega
    subst e
    refine xq_n 87 [] [] [.int (nI (cnt (tg W a b) (2 ^ m)))] h [true] 60 hq rfl ⟨gtt A m12, trivial⟩ (fun _ => ?_)
    exact xq_ret rfl rfl rfl ⟨rfl, rfl⟩
  | succ n ih =>
    intro f s sn
    have r := ih f (s + 1) (by omega)
    have hs : s < 2 ^ m := by omega
    have g2 := and2 (s := s) (a := a) (b := b) (by omega) (by omega) (by omega)
    cases c1 : (!s.testBit a && !s.testBit b) with
    | false =>
      have z : tg W a b s = false := by unfold tg; rw [c1]; rfl
      rw [c1] at g2
      rw [cnt_f z] at r
      refine xq_n 14 [0, 1, 2, 3, 4, 5] [(0, .ref 14), (1, .int (nI a)), (2, .int (nI b)), (3, .int (((Int32.ofInt 1) <<< (nI a &&& 31)) ||| ((Int32.ofInt 1) <<< (nI b &&& 31)))), (4, .int (nI (cnt (tg W a b) s))), (5, .int (nI s + Int32.ofInt 1))] [] h [false, true] 60 hq rfl ⟨gtf A m12 hs, g2, trivial⟩ (fun _ => ?_)
      rw [nI_1']
      exact r
    | true =>
      rw [c1] at g2
      refine xq_n 38 [0, 1, 2, 3, 4, 5] [(0, .ref 14), (1, .int (nI a)), (2, .int (nI b)), (3, .int (((Int32.ofInt 1) <<< (nI a &&& 31)) ||| ((Int32.ofInt 1) <<< (nI b &&& 31)))), (4, .int (nI (cnt (tg W a b) s))), (5, .int (nI s))] [.int (nI s ||| (((Int32.ofInt 1) <<< (nI a &&& 31)) ||| ((Int32.ofInt 1) <<< (nI b &&& 31)))), va_rf (xg none h.2.2.2 14 6)] h [false, false] 60 hq rfl ⟨gtf A m12 hs, g2, trivial⟩ (fun _ => ?_)
      rw [A.1, show nI s ||| (((Int32.ofInt 1) <<< (nI a &&& 31)) ||| ((Int32.ofInt 1) <<< (nI b &&& 31))) = nI ((s ||| 2 ^ a) ||| 2 ^ b) by rw [sh1 a (by omega), sh1 b (by omega), nI_or, nI_or, Nat.or_assoc]]
      refine xq_cr (As := [.ref q, .int (nI ((s ||| 2 ^ a) ||| 2 ^ b))]) (mj := xmi_X7_holds) (q := []) rfl rfl (fun _ _ => rfl) (xa_cs_ok (d := 0) (pc := 0) (lv := []) (nL := 0) A.2.1 rfl).1 (fun f => hl_q A m12 (or_p (or_p hs ha) hb) hq) ?_
      rintro v h1 ⟨rfl, rfl⟩
      cases c2 : W ((s ||| 2 ^ a) ||| 2 ^ b) with
      | false =>
        have z : tg W a b s = false := by unfold tg; rw [c1, c2]; rfl
        rw [cnt_f z] at r
        refine xq_n 14 [0, 1, 2, 3, 4, 5] [(0, .ref 14), (1, .int (nI a)), (2, .int (nI b)), (3, .int (((Int32.ofInt 1) <<< (nI a &&& 31)) ||| ((Int32.ofInt 1) <<< (nI b &&& 31)))), (4, .int (nI (cnt (tg W a b) s))), (5, .int (nI s + Int32.ofInt 1))] [] h [true] 60 hq rfl ⟨rfl, trivial⟩ (fun _ => ?_)
        rw [nI_1']
        exact r
      | true =>
        refine xq_n 54 [0, 1, 2, 3, 4, 5] [(0, .ref 14), (1, .int (nI a)), (2, .int (nI b)), (3, .int (((Int32.ofInt 1) <<< (nI a &&& 31)) ||| ((Int32.ofInt 1) <<< (nI b &&& 31)))), (4, .int (nI (cnt (tg W a b) s))), (5, .int (nI s))] [.int (nI s ||| (Int32.ofInt 1 <<< (nI a &&& 31))), va_rf (xg none h.2.2.2 14 6)] h [false] 60 hq rfl ⟨rfl, trivial⟩ (fun _ => ?_)
        rw [A.1, show nI s ||| (Int32.ofInt 1 <<< (nI a &&& 31)) = nI (s ||| 2 ^ a) from nI_o1 (by omega)]
        refine xq_cr (As := [.ref q, .int (nI (s ||| 2 ^ a))]) (mj := xmi_X7_holds) (q := []) rfl rfl (fun _ _ => rfl) (xa_cs_ok (d := 0) (pc := 0) (lv := []) (nL := 0) A.2.1 rfl).1 (fun f => hl_q A m12 (or_p hs ha) hq) ?_
        rintro v h1 ⟨rfl, rfl⟩
        cases c3 : W (s ||| 2 ^ a) with
        | true =>
          have z : tg W a b s = false := by unfold tg; rw [c1, c2, c3]; rfl
          rw [cnt_f z] at r
          refine xq_n 14 [0, 1, 2, 3, 4, 5] [(0, .ref 14), (1, .int (nI a)), (2, .int (nI b)), (3, .int (((Int32.ofInt 1) <<< (nI a &&& 31)) ||| ((Int32.ofInt 1) <<< (nI b &&& 31)))), (4, .int (nI (cnt (tg W a b) s))), (5, .int (nI s + Int32.ofInt 1))] [] h [true] 60 hq rfl ⟨rfl, trivial⟩ (fun _ => ?_)
          rw [nI_1']
          exact r
        | false =>
          refine xq_n 70 [0, 1, 2, 3, 4, 5] [(0, .ref 14), (1, .int (nI a)), (2, .int (nI b)), (3, .int (((Int32.ofInt 1) <<< (nI a &&& 31)) ||| ((Int32.ofInt 1) <<< (nI b &&& 31)))), (4, .int (nI (cnt (tg W a b) s))), (5, .int (nI s))] [.int (nI s ||| (Int32.ofInt 1 <<< (nI b &&& 31))), va_rf (xg none h.2.2.2 14 6)] h [false] 60 hq rfl ⟨rfl, trivial⟩ (fun _ => ?_)
          rw [A.1, show nI s ||| (Int32.ofInt 1 <<< (nI b &&& 31)) = nI (s ||| 2 ^ b) from nI_o1 (by omega)]
          refine xq_cr (As := [.ref q, .int (nI (s ||| 2 ^ b))]) (mj := xmi_X7_holds) (q := []) rfl rfl (fun _ _ => rfl) (xa_cs_ok (d := 0) (pc := 0) (lv := []) (nL := 0) A.2.1 rfl).1 (fun f => hl_q A m12 (or_p hs hb) hq) ?_
          rintro v h1 ⟨rfl, rfl⟩
          cases c4 : W (s ||| 2 ^ b) with
          | true =>
            have z : tg W a b s = false := by unfold tg; rw [c1, c2, c3, c4]; rfl
            rw [cnt_f z] at r
            refine xq_n 14 [0, 1, 2, 3, 4, 5] [(0, .ref 14), (1, .int (nI a)), (2, .int (nI b)), (3, .int (((Int32.ofInt 1) <<< (nI a &&& 31)) ||| ((Int32.ofInt 1) <<< (nI b &&& 31)))), (4, .int (nI (cnt (tg W a b) s))), (5, .int (nI s + Int32.ofInt 1))] [] h [true] 60 hq rfl ⟨rfl, trivial⟩ (fun _ => ?_)
            rw [nI_1']
            exact r
          | false =>
            have z : tg W a b s = true := by unfold tg; rw [c1, c2, c3, c4]; rfl
            rw [cnt_t z] at r
            refine xq_n 14 [0, 1, 2, 3, 4, 5] [(0, .ref 14), (1, .int (nI a)), (2, .int (nI b)), (3, .int (((Int32.ofInt 1) <<< (nI a &&& 31)) ||| ((Int32.ofInt 1) <<< (nI b &&& 31)))), (4, .int (nI (cnt (tg W a b) s) + Int32.ofInt 1)), (5, .int (nI s + Int32.ofInt 1))] [] h [false] 60 hq rfl ⟨rfl, trivial⟩ (fun _ => ?_)
            rw [nI_1', nI_1']
            exact r
theorem ctg_q {f a b : Nat} (A : LA W m q r h) (m12 : m ≤ 12) (ha : a < m) (hb : b < m) (hq : a_rq a_tb h) : xq f xi_X2_countTogether xmi_X2_countTogether 0 [(0, .ref 14), (1, .int (nI a)), (2, .int (nI b))] [] h (fun v h' => h = h' ∧ v = some (.int (nI (cnt (tg W a b) (2 ^ m))))) := by
  refine xq_n 14 [0, 1, 2, 3, 4, 5] [(0, .ref 14), (1, .int (nI a)), (2, .int (nI b)), (3, .int (((Int32.ofInt 1) <<< (nI a &&& 31)) ||| ((Int32.ofInt 1) <<< (nI b &&& 31)))), (4, .int (Int32.ofInt 0)), (5, .int (Int32.ofInt 0))] [] h [] 60 hq rfl trivial (fun _ => ?_)
  exact ctg_l A m12 ha hb hq (2 ^ m) f 0 (by omega)
/-- the best ally so far, and how often -/
def alf (F : Nat → Nat) (a : Nat) : Nat → Int32 × Int32
  | 0 => (Int32.ofInt (-1), Int32.ofInt (-1))
  | n + 1 => if n = a then alf F a n else cond (xe_c .gt (nI (F n)) (alf F a n).2) (nI n, nI (F n)) (alf F a n)
theorem alf_lo {F : Nat → Nat} {a : Nat} : ∀ n, (∀ k, F k < 2 ^ 31) → (-1 : Int) ≤ (alf F a n).2.toInt := by
  intro n
  induction n with
  | zero => intro _; exact Int.le_refl _
  | succ n ih =>
    intro hF
    unfold alf
    split
    · exact ih hF
    · cases xe_c .gt (nI (F n)) (alf F a n).2 with
      | true => show (-1 : Int) ≤ (nI (F n)).toInt; rw [nI_toInt (hF n)]; omega
      | false => exact ih hF
theorem le_gt {x y : Int32} : xe_c .le x y = !xe_c .gt x y := by
  rcases Int.lt_or_le y.toInt x.toInt with z | z
  · rw [xle_f z, xgt_t z]; rfl
  · rw [xle_t z, xgt_f z]; rfl
theorem alf_s {F : Nat → Nat} {a n : Nat} : alf F a (n + 1) = if n = a then alf F a n else cond (xe_c .gt (nI (F n)) (alf F a n).2) (nI n, nI (F n)) (alf F a n) := rfl
theorem nne_t {a b : Nat} (ha : a < 2 ^ 31) (hb : b < 2 ^ 31) (z : a ≠ b) : xe_c .ne (nI a) (nI b) = true := by
  cases y : xe_c .ne (nI a) (nI b) with
  | true => rfl
  | false => exact absurd (nq_nef ha hb y) z
theorem nne_f {a b : Nat} (ha : a < 2 ^ 31) (hb : b < 2 ^ 31) (z : a = b) : xe_c .ne (nI a) (nI b) = false := by
  cases y : xe_c .ne (nI a) (nI b) with
  | false => rfl
  | true => exact absurd z (nq_net ha hb y)
set_option maxRecDepth 100000 in
set_option maxHeartbeats 4000000 in
/-- Powers.allyOf -/
theorem alo_l {a : Nat} {F : Nat → Nat} (hF : F = fun b => cnt (tg W a b) (2 ^ m)) (A : LA W m q r h) (m12 : m ≤ 12) (ha : a < m) (hq : a_rq a_tb h) : ∀ (j f n : Nat), n + j = m → xq f xi_X2_allyOf xmi_X2_allyOf 7 [(0, .ref 14), (1, .int (nI a)), (2, .int (alf F a n).1), (3, .int (alf F a n).2), (4, .int (nI n))] [] h (fun v h' => h = h' ∧ v = some (.int (alf F a m).1)) := by
  have p12 : 2 ^ m ≤ 4096 := show 2 ^ m ≤ 2 ^ 12 from Nat.pow_le_pow_right (by decide) m12
  have lo := fun n => alf_lo (F := F) (a := a) n (fun k => by rw [hF]; exact Nat.lt_of_le_of_lt (cnt_le _) (by omega))
  intro j
  induction j with
  | zero =>
    intro f n nj
    have e : n = m := by omega
    subst e
    refine xq_n 54 [] [] [.int (alf F a n).1] h [true] 60 hq rfl ⟨(show xe_c .ge (nI n) (xg 0 h.2.1 14 7) = true by rw [A.2.2.2.2.1]; exact nge_t (by omega) (by omega) (Nat.le_refl _)), trivial⟩ (fun _ => ?_)
    exact xq_ret rfl rfl rfl ⟨rfl, rfl⟩
  | succ j ih =>
    intro f n nj
    have c0 : xe_c .ge (nI n) (xg 0 h.2.1 14 7) = false := by rw [A.2.2.2.2.1]; exact nge_f (by omega) (by omega) (by omega)
    have r := ih f (n + 1) (by omega)
    rw [alf_s] at r
    by_cases z : n = a
    · rw [if_pos z] at r
      refine xq_n 7 [0, 1, 2, 3, 4] [(0, .ref 14), (1, .int (nI a)), (2, .int (alf F a n).1), (3, .int (alf F a n).2), (4, .int (nI n + Int32.ofInt 1))] [] h [false, false, true] 60 hq rfl ⟨c0, nne_f (by omega) (by omega) z, xle_t (lo n), trivial⟩ (fun _ => ?_)
      rw [nI_1']
      exact r
    · rw [if_neg z] at r
      refine xq_n 30 [0, 1, 2, 3, 4] [(0, .ref 14), (1, .int (nI a)), (2, .int (alf F a n).1), (3, .int (alf F a n).2), (4, .int (nI n))] [.int (nI n), .int (nI a), .ref 14] h [false, true] 60 hq rfl ⟨c0, nne_t (by omega) (by omega) z, trivial⟩ (fun _ => ?_)
      refine xq_run hq rfl rfl (ctg_q A m12 ha (by omega) hq) ?_
      rintro v h1 ⟨rfl, rfl⟩
      have eF : cnt (tg W a n) (2 ^ m) = F n := by rw [hF]
      rw [eF]
      cases c : xe_c .gt (nI (F n)) (alf F a n).2 with
      | true =>
        rw [c] at r
        refine xq_n 7 [0, 1, 2, 3, 4] [(0, .ref 14), (1, .int (nI a)), (2, .int (nI n)), (3, .int (nI (F n))), (4, .int (nI n + Int32.ofInt 1))] [] h [false] 60 hq rfl ⟨(show xe_c .le (nI (F n)) (alf F a n).2 = false by rw [le_gt, c]; rfl), trivial⟩ (fun _ => ?_)
        rw [nI_1']
        exact r
      | false =>
        rw [c] at r
        refine xq_n 7 [0, 1, 2, 3, 4] [(0, .ref 14), (1, .int (nI a)), (2, .int (alf F a n).1), (3, .int (alf F a n).2), (4, .int (nI n + Int32.ofInt 1))] [] h [true] 60 hq rfl ⟨(show xe_c .le (nI (F n)) (alf F a n).2 = true by rw [le_gt, c]; rfl), trivial⟩ (fun _ => ?_)
        rw [nI_1']
        exact r
theorem alo_q {f a : Nat} (A : LA W m q r h) (m12 : m ≤ 12) (ha : a < m) (hq : a_rq a_tb h) : xq f xi_X2_allyOf xmi_X2_allyOf 0 [(0, .ref 14), (1, .int (nI a))] [] h (fun v h' => h = h' ∧ v = some (.int (alf (fun b => cnt (tg W a b) (2 ^ m)) a m).1)) := by
  refine xq_n 7 [0, 1, 2, 3, 4] [(0, .ref 14), (1, .int (nI a)), (2, .int (Int32.ofInt (-1))), (3, .int (Int32.ofInt (-1))), (4, .int (Int32.ofInt 0))] [] h [] 60 hq rfl trivial (fun _ => ?_)
  exact alo_l rfl A m12 ha hq m f 0 (by omega)
end
end XPW
