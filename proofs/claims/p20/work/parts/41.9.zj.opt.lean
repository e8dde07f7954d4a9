section XOP
/-- a row of bits -/
def msk (f : Nat → Bool) : Nat → Nat
  | 0 => 0
  | n + 1 => if f n = true then msk f n ||| 2 ^ n else msk f n
theorem msk_lt {f : Nat → Bool} : ∀ n, msk f n < 2 ^ n := by
  intro n
  induction n with
  | zero => exact Nat.one_pos
  | succ n ih =>
    unfold msk
    have : 2 ^ (n + 1) = 2 * 2 ^ n := by rw [Nat.pow_succ]; omega
    split
    · exact Nat.or_lt_two_pow (by omega) (by omega)
    · omega
theorem msk_tb {f : Nat → Bool} {k : Nat} : ∀ n, (msk f n).testBit k = (decide (k < n) && f k) := by
  intro n
  induction n with
  | zero =>
    show (0 : Nat).testBit k = _
    rw [Nat.zero_testBit, decide_eq_false (Nat.not_lt_zero k), Bool.false_and]
  | succ n ih =>
    unfold msk
    by_cases e : k = n
    · subst e
      have h0 : (msk f k).testBit k = false := Nat.testBit_lt_two_pow (msk_lt k)
      rw [decide_eq_true (Nat.lt_succ_self k), Bool.true_and]
      split
      · rename_i h; rw [Nat.testBit_or, Nat.testBit_two_pow_self, h, Bool.or_true]
      · rename_i h; rw [h0]; exact (Bool.eq_false_iff.mpr h).symm
    · have hd : decide (k < n + 1) = decide (k < n) := by
        by_cases z : k < n
        · rw [decide_eq_true z, decide_eq_true (by omega)]
        · rw [decide_eq_false z, decide_eq_false (by omega)]
      rw [hd]
      split
      · rw [Nat.testBit_or, ih, Nat.testBit_two_pow, show decide (n = k) = false from decide_eq_false (fun z => e z.symm), Bool.or_false]
      · exact ih
theorem msk_x {a b : Nat} (ha : a < 2 ^ 7) (hb : b < 2 ^ 7) (h : ∀ k, k < 7 → a.testBit k = b.testBit k) : a = b := by
  apply Nat.eq_of_testBit_eq
  intro k
  by_cases z : k < 7
  · exact h k z
  · rw [Nat.testBit_lt_two_pow (Nat.lt_of_lt_of_le ha (Nat.pow_le_pow_right (by decide) (by omega))), Nat.testBit_lt_two_pow (Nat.lt_of_lt_of_le hb (Nat.pow_le_pow_right (by decide) (by omega)))]
theorem msk_c {f g : Nat → Bool} : ∀ n, (∀ k, k < n → f k = g k) → msk f n = msk g n := by
  intro n
  induction n with
  | zero => intro _; rfl
  | succ n ih =>
    intro e
    unfold msk
    rw [ih (fun k hk' => e k (by omega)), e n (by omega)]
theorem msk_or {f g : Nat → Bool} : nI (msk f 7) ||| nI (msk g 7) = nI (msk (fun k => f k || g k) 7) := by
  rw [nI_or]
  congr 1
  refine msk_x (Nat.or_lt_two_pow (msk_lt 7) (msk_lt 7)) (msk_lt 7) (fun k hk' => ?_)
  rw [Nat.testBit_or, msk_tb, msk_tb, msk_tb, decide_eq_true hk', Bool.true_and, Bool.true_and, Bool.true_and]
theorem msk_b {f : Nat → Bool} {k : Nat} (hk : k < 7) : ((nI (msk f 7) >>> (nI k &&& 31)) &&& Int32.ofInt 1) = bl (f k) := by
  have := msk_lt (f := f) 7
  rw [nI_b0 (by omega) (by omega), msk_tb, decide_eq_true hk, Bool.true_and, bl_nI]
theorem msk_s {f : Nat → Bool} {n : Nat} (h : n ≤ 11) : nI (msk f n) ||| (Int32.ofInt 1 <<< (nI n &&& 31)) = nI (msk f n ||| 2 ^ n) := nI_o1 h
/-- what beats what -/
def BT (PL : Nat → Int32) (W : Nat → Bool) (mem x y : Nat) : Bool := !decide (x = y) && W (wp PL x y mem)
def S31 (c _k : Nat) : Bool := Nat.beq c 31
section
variable {Q r mem : Nat} {PL : Nat → Int32} {W : Nat → Bool} {h0 : xh_H}
set_option maxRecDepth 100000 in
set_option maxHeartbeats 4000000 in
theorem mat_in (m12 : mem ≤ 12) (hs : h0.1[Q]? = some (0, 7)) (hg : xg none h0.2.2.2 Q 1 = some r) (hr : h0.1[r]? = some (4, 64)) (hW : ∀ s, s < 2 ^ mem → hv h0 r s = W s) (hP : ∀ k, k < 84 → xg 0 h0.2.1 30 k = PL k) {x : Nat} (hx : x < 7) {Qr : Option Value → xh_H → Prop} (K : ∀ (f : Nat) (h : xh_H), a_rq a_tb h → fx S31 fN h0 h → (∀ x', x' < x + 1 → xg 0 h.2.1 31 x' = nI (msk (BT PL W mem x') 7)) → xq f xi_X0_match xmi_X0_match 2 [(0, .ref 28), (1, .ref Q), (2, .int (nI mem)), (3, .int (nI (x + 1)))] [] h Qr) : ∀ (f y : Nat) (h : xh_H), a_rq a_tb h → fx S31 fN h0 h → y ≤ 7 → (∀ x', x' < x → xg 0 h.2.1 31 x' = nI (msk (BT PL W mem x') 7)) → xg 0 h.2.1 31 x = nI (msk (BT PL W mem x) y) → xq f xi_X0_match xmi_X0_match 18 [(0, .ref 28), (1, .ref Q), (2, .int (nI mem)), (3, .int (nI x)), (4, .int (nI y))] [] h Qr := by
  have p12 : 2 ^ mem ≤ 4096 := show 2 ^ mem ≤ 2 ^ 12 from Nat.pow_le_pow_right (by decide) m12
  intro f
  induction f with
  | zero => intros; exact xq_0
  | succ f ih =>
    intro y h hq ge y6 w wx
    have nx : nI y + Int32.ofInt 1 = nI (y + 1) := nI_1 y
    have ek : (nI x).toNatClampNeg = x := nI_clamp (by omega)
    by_cases e : y = 7
    · refine xq_m 2 [0, 1, 2, 3] [(0, .ref 28), (1, .ref Q), (2, .int (nI mem)), (3, .int ((nI x) + Int32.ofInt 1))] [] h [true] 7 hq rfl ⟨(show xe_c .ge (nI y) 7 = true by rw [e]; rfl), trivial⟩ (fun _ => ?_)
      rw [show nI x + Int32.ofInt 1 = nI (x + 1) from nI_1 x]
      refine K f h hq ge (fun x' hx' => ?_)
      by_cases z : x' = x
      · rw [z, wx, e]
      · exact w x' (by omega)
    · have yl : y < 7 := by omega
      have g0 : xe_c .ge (nI y) 7 = false := nge_f (b := 7) (by omega) (by decide) yl
      by_cases exy : x = y
      · refine xq_m 18 [0, 1, 2, 3, 4] [(0, .ref 28), (1, .ref Q), (2, .int (nI mem)), (3, .int (nI x)), (4, .int ((nI y) + Int32.ofInt 1))] [] h [false, true] 10 hq rfl ⟨g0, decide_eq_true (by rw [exy]), trivial⟩ (fun _ => ?_)
        rw [nx]
        refine ih (y + 1) h hq ge (by omega) w ?_
        rw [wx]
        show nI (msk _ y) = nI (if BT PL W mem x y = true then _ else msk _ y)
        rw [if_neg (by unfold BT; rw [decide_eq_true exy]; simp)]
      · have n1 : xe_c .eq (nI x) (nI y) = false := decide_eq_false (fun z => exy (by have z2 := congrArg Int32.toInt z; rw [nI_toInt (by omega), nI_toInt (by omega)] at z2; omega))
        have wl := wp_lt (PL := PL) (x := x) (y := y) mem
        refine xq_m 37 [0, 1, 2, 3, 4] [(0, .ref 28), (1, .ref Q), (2, .int (nI mem)), (3, .int (nI x)), (4, .int (nI y))] [.int (nI mem), .int (nI y), .int (nI x), .ref 28, .ref Q] h [false, false] 13 hq rfl ⟨g0, n1, trivial⟩ (fun _ => ?_)
        refine xq_run hq rfl rfl (who_q (PL := PL) m12 hx yl (fun k hk' => (fx_i ge rfl).trans (hP k hk')) hq) ?_
        rintro v h1 ⟨rfl, rfl⟩
        refine xq_cr (As := [.ref Q, .int (nI (wp PL x y mem))]) (mj := xmi_X7_holds) (q := []) rfl rfl (fun _ _ => rfl) (xa_cs_ok (d := 0) (pc := 0) (lv := []) (nL := 0) (show h.1[Q]? = some (0, 7) by rw [ge.1]; exact hs) rfl).1 (fun f => xq_of (d := 0) ⟨_, rfl⟩ (ho_run hq (by rw [ge.1]; exact hs) (by rw [ge.2.1]; exact hg) (by rw [ge.1]; exact hr) (by omega))) ?_
        rintro v h1 ⟨rfl, rfl⟩
        rw [hv_f ge (fun _ => rfl), hW _ wl]
        have eB : BT PL W mem x y = W (wp PL x y mem) := by unfold BT; rw [decide_eq_false exy]; rfl
        cases cW : W (wp PL x y mem) with
        | false =>
          refine xq_n 18 [0, 1, 2, 3, 4] [(0, .ref 28), (1, .ref Q), (2, .int (nI mem)), (3, .int (nI x)), (4, .int ((nI y) + Int32.ofInt 1))] [] h [true] 5 hq rfl ⟨rfl, trivial⟩ (fun _ => ?_)
          rw [nx]
          refine ih (y + 1) h hq ge (by omega) w ?_
          rw [wx]
          show nI (msk _ y) = nI (if BT PL W mem x y = true then _ else msk _ y)
          rw [if_neg (by rw [eB, cW]; decide)]
        | true =>
          refine xq_n 18 [0, 1, 2, 3, 4] [(0, .ref 28), (1, .ref Q), (2, .int (nI mem)), (3, .int (nI x)), (4, .int ((nI y) + Int32.ofInt 1))] [] (xh_ui h 31 (nI x).toNatClampNeg ((xg 0 h.2.1 31 (nI x).toNatClampNeg) ||| ((Int32.ofInt 1) <<< ((nI y) &&& 31)))) [false] 15 hq rfl ⟨rfl, trivial⟩ (fun _ => ?_)
          rw [nx, ek, wx, nI_o1 (by omega)]
          refine ih (y + 1) _ (a_rq_ui hq) (fx_ui ge rfl) (by omega) (fun x' hx' => (gx_k (by omega)).trans (w x' hx')) ?_
          rw [gx_s]
          show nI (msk _ y ||| 2 ^ y) = nI (if BT PL W mem x y = true then _ else msk _ y)
          rw [if_pos (by rw [eB, cW])]
set_option maxRecDepth 100000 in
set_option maxHeartbeats 4000000 in
theorem mat_out (m12 : mem ≤ 12) (hs : h0.1[Q]? = some (0, 7)) (hg : xg none h0.2.2.2 Q 1 = some r) (hr : h0.1[r]? = some (4, 64)) (hW : ∀ s, s < 2 ^ mem → hv h0 r s = W s) (hP : ∀ k, k < 84 → xg 0 h0.2.1 30 k = PL k) : ∀ (n f x : Nat) (h : xh_H), x + n = 7 → a_rq a_tb h → fx S31 fN h0 h → (∀ x', x' < x → xg 0 h.2.1 31 x' = nI (msk (BT PL W mem x') 7)) → xq f xi_X0_match xmi_X0_match 2 [(0, .ref 28), (1, .ref Q), (2, .int (nI mem)), (3, .int (nI x))] [] h (fun v h' => v = none ∧ fx S31 fN h0 h' ∧ ∀ x, x < 7 → xg 0 h'.2.1 31 x = nI (msk (BT PL W mem x) 7)) := by
  intro n
  induction n with
  | zero =>
    intro f x h hn hq ge w
    have e : x = 7 := by omega
    subst e
    refine xq_n 71 [] [] [] h [true] 5 hq rfl ⟨rfl, trivial⟩ (fun _ => ?_)
    exact xq_ret rfl rfl rfl ⟨rfl, ge, w⟩
  | succ n ih =>
    intro f x h hn hq ge w
    refine xq_n 18 [0, 1, 2, 3, 4] [(0, .ref 28), (1, .ref Q), (2, .int (nI mem)), (3, .int (nI x)), (4, .int (Int32.ofInt 0))] [] (xh_ui h 31 (nI x).toNatClampNeg (Int32.ofInt 0)) [false] 12 hq rfl ⟨(show xe_c .ge (nI x) 7 = false from nge_f (b := 7) (by omega) (by decide) (by omega)), trivial⟩ (fun _ => ?_)
    rw [show (nI x).toNatClampNeg = x from nI_clamp (by omega)]
    exact mat_in m12 hs hg hr hW hP (x := x) (by omega) (fun f h hq ge w => ih f (x + 1) h (by omega) hq ge w) f 0 _ (a_rq_ui hq) (fx_ui ge rfl) (by omega) (fun x' hx' => (gx_k (by omega)).trans (w x' hx')) gx_s
set_option maxRecDepth 100000 in
/-- Ballot.match -/
theorem mat_q {f : Nat} (m12 : mem ≤ 12) (hs : h0.1[Q]? = some (0, 7)) (hg : xg none h0.2.2.2 Q 1 = some r) (hr : h0.1[r]? = some (4, 64)) (hW : ∀ s, s < 2 ^ mem → hv h0 r s = W s) (hP : ∀ k, k < 84 → xg 0 h0.2.1 30 k = PL k) (hq : a_rq a_tb h0) : xq f xi_X0_match xmi_X0_match 0 [(0, .ref 28), (1, .ref Q), (2, .int (nI mem))] [] h0 (fun v h' => v = none ∧ fx S31 fN h0 h' ∧ ∀ x, x < 7 → xg 0 h'.2.1 31 x = nI (msk (BT PL W mem x) 7)) := by
  refine xq_n 2 [0, 1, 2, 3] [(0, .ref 28), (1, .ref Q), (2, .int (nI mem)), (3, .int (Int32.ofInt 0))] [] h0 [] 4 hq rfl trivial (fun _ => ?_)
  exact mat_out m12 hs hg hr hW hP 7 f 0 h0 (by omega) hq fx_0 (fun x hx => absurd hx (Nat.not_lt_zero x))
end
end XOP
