section
section XLA
def S53 (c k : Nat) : Bool := (Nat.beq c 39 && Nat.beq k 35) || Nat.beq c 53
set_option maxRecDepth 100000 in
set_option maxHeartbeats 4000000 in
theorem lay_lp {mem sc : Nat} {FR RW : Nat → Int32} {d : Int32} {hb : xh_H} (m12 : mem ≤ 12) (sc8 : sc ≤ 8) (e4 : xg 0 hb.2.1 39 4 = nI mem) (e35 : xg 0 hb.2.1 39 35 = nI (2 ^ mem)) (hR : ∀ k s, k < sc → s < 2 ^ mem → ∃ b : Bool, RW (4096 * k + s) = bl b ∧ xg 0 hb.2.1 44 (4096 * k + s) = bl b) : ∀ (f i : Nat) (h : xh_H), a_rq a_tb h → fx (fun c _ => Nat.beq c 53) fN hb h → i ≤ 2 ^ mem → (∀ s, s < i → xg 0 h.2.1 53 s = bl (cvB FR RW mem sc d s)) → xq f xi_X10_lay xmi_X10_lay 24 [(0, .ref 39), (1, .int (oN (iF FR (fun _ => true) d sc))), (2, .int (nI i))] [] h (fun v h' => v = none ∧ fx (fun c _ => Nat.beq c 53) fN hb h' ∧ ∀ s, s < 2 ^ mem → xg 0 h'.2.1 53 s = bl (cvB FR RW mem sc d s)) := by
  have p12 : 2 ^ mem ≤ 4096 := show 2 ^ mem ≤ 2 ^ 12 from Nat.pow_le_pow_right (by decide) m12
  intro f
  induction f with
  | zero => intros; exact xq_0
  | succ f ih =>
    intro i h hq ge i6 w
    have d35 : xg 0 h.2.1 39 35 = nI (2 ^ mem) := (fx_i ge rfl).trans e35
    have d4 : xg 0 h.2.1 39 4 = nI mem := (fx_i ge rfl).trans e4
    by_cases e : i = 2 ^ mem
    · refine xq_m 50 [] [] [] h [true] 6 hq rfl ⟨(show xe_c .ge (nI i) (xg 0 h.2.1 39 35) = true by rw [d35, e]; exact decide_eq_true (Int32.le_refl _)), trivial⟩ (fun _ => ?_)
      rw [e] at w
      exact xq_ret rfl rfl rfl ⟨rfl, ge, w⟩
    · have il : i < 2 ^ mem := by omega
      refine xq_m 40 [0, 1, 2] [(0, .ref 39), (1, .int (oN (iF FR (fun _ => true) d sc))), (2, .int (nI i))] [.int (nI i), .int (oN (iF FR (fun _ => true) d sc)), .ref 39, .int (nI i), .ref 53] h [false] 12 hq rfl ⟨(show xe_c .ge (nI i) (xg 0 h.2.1 39 35) = false by rw [d35]; exact nge_f (by omega) (by omega) il), trivial⟩ (fun _ => ?_)
      refine xq_run hq rfl rfl (cb10_q (RW := RW) d4 m12 (by omega) (fun k e => ⟨by have := iF_lt e; omega, by
        obtain ⟨b, b1, b2⟩ := hR k i (iF_lt e) il
        exact ⟨b, b1, (fx_i ge rfl).trans b2⟩⟩) hq) ?_
      rintro v h1 ⟨rfl, rfl⟩
      rw [show cvo RW mem i (iF FR (fun _ => true) d sc) = cvB FR RW mem sc d i from rfl]
      refine xq_n 24 [0, 1, 2] [(0, .ref 39), (1, .int (oN (iF FR (fun _ => true) d sc))), (2, .int ((nI i) + Int32.ofInt 1))] [] (xh_ui h 53 (nI i).toNatClampNeg (vp_nar .boolean (bl (cvB FR RW mem sc d i)))) [] 5 hq rfl trivial (fun _ => ?_)
      rw [show nI i + Int32.ofInt 1 = nI (i + 1) from nI_1 _, show (nI i).toNatClampNeg = i from nI_clamp (by omega), bl_n]
      refine ih (i + 1) _ (a_rq_ui hq) (fx_ui ge rfl) il (fun s hs => ?_)
      by_cases z : s = i
      · rw [z]; exact gx_s
      · rw [gx_k z]; exact w s (by omega)
set_option maxRecDepth 100000 in
set_option maxHeartbeats 4000000 in
/-- X10.lay -/
theorem lay_q {f mem sc : Nat} {FR RW : Nat → Int32} {d : Int32} {h : xh_H} (m12 : mem ≤ 12) (e4 : xg 0 h.2.1 39 4 = nI mem) (e33 : xg 0 h.2.1 39 33 = nI sc) (sc8 : sc ≤ 8) (e3 : xg 0 h.2.1 39 3 = d) (hF : ∀ k, k < sc → xg 0 h.2.1 51 k = FR k) (hT : ∀ k, k < sc → (xg 0 h.2.1 52 k).toInt ≤ 999) (hR : ∀ k s, k < sc → s < 2 ^ mem → ∃ b : Bool, RW (4096 * k + s) = bl b ∧ xg 0 h.2.1 44 (4096 * k + s) = bl b) (hq : a_rq a_tb h) : xq f xi_X10_lay xmi_X10_lay 0 [(0, .ref 39)] [] h (fun v h' => v = none ∧ fx S53 fN h h' ∧ xg 0 h'.2.1 39 35 = nI (2 ^ mem) ∧ ∀ s, s < 2 ^ mem → xg 0 h'.2.1 53 s = bl (cvB FR RW mem sc d s)) := by
  refine xq_n 8 [0] [(0, .ref 39)] [.int 999, .int (xg 0 h.2.1 39 3), .ref 39] h [] 6 hq rfl trivial (fun _ => ?_)
  rw [e3]
  refine xq_run hq rfl rfl (if10_q (d := d) (t := 999) (TD := fun k => xg 0 h.2.1 52 k) e33 sc8 hF (fun _ _ => rfl) hq) ?_
  rintro v h1 ⟨rfl, rfl⟩
  rw [iF_td hT]
  refine xq_n 24 [0, 1, 2] [(0, .ref 39), (1, .int (oN (iF FR (fun _ => true) d sc))), (2, .int (Int32.ofInt 0))] [] (xh_ui h 39 35 (Int32.ofInt 1 <<< ((xg 0 h.2.1 39 4) &&& 31))) [] 11 hq rfl trivial (fun _ => ?_)
  rw [e4, sh1 mem (by omega)]
  have g1 : fx S53 fN h (xh_ui h 39 35 (nI (2 ^ mem))) := fx_ui fx_0 rfl
  refine xq_mono (lay_lp m12 sc8 (FR := FR) (d := d) (hb := xh_ui h 39 35 (nI (2 ^ mem))) ((gx_k (by decide)).trans e4) gx_s (fun k s h1 h2 => by
    obtain ⟨b, b1, b2⟩ := hR k s h1 h2
    exact ⟨b, b1, (gx_o (by decide)).trans b2⟩) f 0 _ (a_rq_ui hq) fx_0 (Nat.zero_le _) (fun s hs => absurd hs (Nat.not_lt_zero s))) (fun v h' e => ?_)
  exact ⟨e.1, fx_t g1 (fx_w e.2.1 (fun c k z => (or_f z).2) (fun _ _ z => z)), (fx_i e.2.1 rfl).trans gx_s, e.2.2⟩
/-- who prefers x to y -/
def wp (PL : Nat → Int32) (x y : Nat) : Nat → Nat
  | 0 => 0
  | m + 1 => if xe_c .ge (PL (7 * m + x)) (PL (7 * m + y)) = true then wp PL x y m else wp PL x y m ||| 2 ^ m
theorem wp_lt {PL : Nat → Int32} {x y : Nat} : ∀ m, wp PL x y m < 2 ^ m := by
  intro m
  induction m with
  | zero => exact Nat.one_pos
  | succ m ih =>
    unfold wp
    have : 2 ^ (m + 1) = 2 * 2 ^ m := by rw [Nat.pow_succ]; omega
    split
    · omega
    · exact Nat.or_lt_two_pow (by omega) (by omega)
theorem wp_c {PL PL' : Nat → Int32} {x y : Nat} (hx : x < 7) (hy : y < 7) : ∀ m, (∀ k, k < 7 * m → PL k = PL' k) → wp PL x y m = wp PL' x y m := by
  intro m
  induction m with
  | zero => intro _; rfl
  | succ m ih =>
    intro e
    unfold wp
    rw [ih (fun k hk' => e k (by omega)), e _ (by omega), e _ (by omega)]
theorem i7_a {m x : Nat} : nI m * 7 + nI x = nI (7 * m + x) := by
  show nI m * nI 7 + nI x = nI (7 * m + x)
  rw [← nI_mul2, nI_add, Nat.mul_comm]
theorem i7_b {m x : Nat} : 7 * nI m + nI x = nI (7 * m + x) := by
  show nI 7 * nI m + nI x = nI (7 * m + x)
  rw [← nI_mul2, nI_add]
set_option maxRecDepth 100000 in
set_option maxHeartbeats 4000000 in
theorem who_lp {mem x y : Nat} {PL : Nat → Int32} {h : xh_H} (m12 : mem ≤ 12) (hx : x < 7) (hy : y < 7) (hP : ∀ k, k < 84 → xg 0 h.2.1 30 k = PL k) (hq : a_rq a_tb h) : ∀ (f i : Nat), i ≤ mem → xq f xi_X0_whoPrefer xmi_X0_whoPrefer 6 [(0, .ref 28), (1, .int (nI x)), (2, .int (nI y)), (3, .int (nI mem)), (4, .int (nI (wp PL x y i))), (5, .int (nI i))] [] h (fun v h' => h = h' ∧ v = some (.int (nI (wp PL x y mem)))) := by
  intro f
  induction f with
  | zero => intros; exact xq_0
  | succ f ih =>
    intro i il
    by_cases e : i = mem
    · refine xq_m 56 [] [] [.int (nI (wp PL x y i))] h [true] 6 hq rfl ⟨(show xe_c .ge (nI i) (nI mem) = true by rw [e]; exact decide_eq_true (Int32.le_refl _)), trivial⟩ (fun _ => ?_)
      rw [e]
      exact xq_ret rfl rfl rfl ⟨rfl, rfl⟩
    · have il : i < mem := by omega
      have g0 : xe_c .ge (nI i) (nI mem) = false := nge_f (by omega) (by omega) il
      have k1 : xg 0 h.2.1 30 (nI i * 7 + nI x).toNatClampNeg = PL (7 * i + x) := by rw [i7_a, nI_clamp (by omega)]; exact hP _ (by omega)
      have k2 : xg 0 h.2.1 30 (nI i * 7 + nI y).toNatClampNeg = PL (7 * i + y) := by rw [i7_a, nI_clamp (by omega)]; exact hP _ (by omega)
      have nx : nI i + Int32.ofInt 1 = nI (i + 1) := nI_1 i
      have ew : wp PL x y (i + 1) = if xe_c .ge (PL (7 * i + x)) (PL (7 * i + y)) = true then wp PL x y i else wp PL x y i ||| 2 ^ i := rfl
      cases c1 : xe_c .ge (PL (7 * i + x)) (PL (7 * i + y)) with
      | true =>
        refine xq_m 6 [0, 1, 2, 3, 4, 5] [(0, .ref 28), (1, .int (nI x)), (2, .int (nI y)), (3, .int (nI mem)), (4, .int (nI (wp PL x y i))), (5, .int ((nI i) + Int32.ofInt 1))] [] h [false, true] 24 hq rfl ⟨g0, (show xe_c .ge (xg 0 h.2.1 30 (nI i * 7 + nI x).toNatClampNeg) (xg 0 h.2.1 30 (nI i * 7 + nI y).toNatClampNeg) = true by rw [k1, k2]; exact c1), trivial⟩ (fun _ => ?_)
        rw [nx, show wp PL x y i = wp PL x y (i + 1) by rw [ew, if_pos c1]]
        exact ih (i + 1) il
      | false =>
        refine xq_m 6 [0, 1, 2, 3, 4, 5] [(0, .ref 28), (1, .int (nI x)), (2, .int (nI y)), (3, .int (nI mem)), (4, .int ((nI (wp PL x y i)) ||| ((Int32.ofInt 1) <<< ((nI i) &&& 31)))), (5, .int ((nI i) + Int32.ofInt 1))] [] h [false, false] 30 hq rfl ⟨g0, (show xe_c .ge (xg 0 h.2.1 30 (nI i * 7 + nI x).toNatClampNeg) (xg 0 h.2.1 30 (nI i * 7 + nI y).toNatClampNeg) = false by rw [k1, k2]; exact c1), trivial⟩ (fun _ => ?_)
        rw [nx, nI_o1 (by omega), show wp PL x y i ||| 2 ^ i = wp PL x y (i + 1) by rw [ew, if_neg (by rw [c1]; decide)]]
        exact ih (i + 1) il
set_option maxRecDepth 100000 in
/-- Ballot.whoPrefer -/
theorem who_q {f mem x y : Nat} {PL : Nat → Int32} {h : xh_H} (m12 : mem ≤ 12) (hx : x < 7) (hy : y < 7) (hP : ∀ k, k < 84 → xg 0 h.2.1 30 k = PL k) (hq : a_rq a_tb h) : xq f xi_X0_whoPrefer xmi_X0_whoPrefer 0 [(0, .ref 28), (1, .int (nI x)), (2, .int (nI y)), (3, .int (nI mem))] [] h (fun v h' => h = h' ∧ v = some (.int (nI (wp PL x y mem)))) := by
  refine xq_n 6 [0, 1, 2, 3, 4, 5] [(0, .ref 28), (1, .int (nI x)), (2, .int (nI y)), (3, .int (nI mem)), (4, .int (Int32.ofInt 0)), (5, .int (Int32.ofInt 0))] [] h [] 6 hq rfl trivial (fun _ => ?_)
  exact who_lp m12 hx hy hP hq f 0 (Nat.zero_le _)
set_option maxRecDepth 100000 in
set_option maxHeartbeats 4000000 in
theorem bto_lp {mem x y : Nat} {PL : Nat → Int32} {W : Nat → Bool} {h : xh_H} (m12 : mem ≤ 12) (hx : x < 7) (hy : y < 7) (e4 : xg 0 h.2.1 39 4 = nI mem) (hP : ∀ k, k < 84 → xg 0 h.2.1 62 k = PL k) (hW : ∀ s, s < 2 ^ mem → xg 0 h.2.1 53 s = bl (W s)) (hq : a_rq a_tb h) : ∀ (f i : Nat), i ≤ mem → xq f xi_X10_beatsOf xmi_X10_beatsOf 5 [(0, .ref 39), (1, .int (nI x)), (2, .int (nI y)), (3, .int (nI (wp PL x y i))), (4, .int (nI i))] [] h (fun v h' => h = h' ∧ v = some (.int (bl (W (wp PL x y mem))))) := by
  have p12 : 2 ^ mem ≤ 4096 := show 2 ^ mem ≤ 2 ^ 12 from Nat.pow_le_pow_right (by decide) m12
  intro f
  induction f with
  | zero => intros; exact xq_0
  | succ f ih =>
    intro i il
    by_cases e : i = mem
    · have wl := wp_lt (PL := PL) (x := x) (y := y) mem
      refine xq_m 60 [] [] [.int (xg 0 h.2.1 53 (nI (wp PL x y i)).toNatClampNeg)] h [true] 9 hq rfl ⟨(show xe_c .ge (nI i) (xg 0 h.2.1 39 4) = true by rw [e4, e]; exact decide_eq_true (Int32.le_refl _)), trivial⟩ (fun _ => ?_)
      rw [e, nI_clamp (by omega), hW _ wl]
      exact xq_ret rfl rfl rfl ⟨rfl, rfl⟩
    · have il : i < mem := by omega
      have g0 : xe_c .ge (nI i) (xg 0 h.2.1 39 4) = false := by rw [e4]; exact nge_f (by omega) (by omega) il
      have k1 : xg 0 h.2.1 62 (7 * nI i + nI x).toNatClampNeg = PL (7 * i + x) := by rw [i7_b, nI_clamp (by omega)]; exact hP _ (by omega)
      have k2 : xg 0 h.2.1 62 (7 * nI i + nI y).toNatClampNeg = PL (7 * i + y) := by rw [i7_b, nI_clamp (by omega)]; exact hP _ (by omega)
      have nx : nI i + Int32.ofInt 1 = nI (i + 1) := nI_1 i
      have ew : wp PL x y (i + 1) = if xe_c .ge (PL (7 * i + x)) (PL (7 * i + y)) = true then wp PL x y i else wp PL x y i ||| 2 ^ i := rfl
      cases c1 : xe_c .ge (PL (7 * i + x)) (PL (7 * i + y)) with
      | true =>
        refine xq_m 5 [0, 1, 2, 3, 4] [(0, .ref 39), (1, .int (nI x)), (2, .int (nI y)), (3, .int (nI (wp PL x y i))), (4, .int ((nI i) + Int32.ofInt 1))] [] h [false, true] 25 hq rfl ⟨g0, (show xe_c .ge (xg 0 h.2.1 62 (7 * nI i + nI x).toNatClampNeg) (xg 0 h.2.1 62 (7 * nI i + nI y).toNatClampNeg) = true by rw [k1, k2]; exact c1), trivial⟩ (fun _ => ?_)
        rw [nx, show wp PL x y i = wp PL x y (i + 1) by rw [ew, if_pos c1]]
        exact ih (i + 1) il
      | false =>
        refine xq_m 5 [0, 1, 2, 3, 4] [(0, .ref 39), (1, .int (nI x)), (2, .int (nI y)), (3, .int ((nI (wp PL x y i)) ||| ((Int32.ofInt 1) <<< ((nI i) &&& 31)))), (4, .int ((nI i) + Int32.ofInt 1))] [] h [false, false] 31 hq rfl ⟨g0, (show xe_c .ge (xg 0 h.2.1 62 (7 * nI i + nI x).toNatClampNeg) (xg 0 h.2.1 62 (7 * nI i + nI y).toNatClampNeg) = false by rw [k1, k2]; exact c1), trivial⟩ (fun _ => ?_)
        rw [nx, nI_o1 (by omega), show wp PL x y i ||| 2 ^ i = wp PL x y (i + 1) by rw [ew, if_neg (by rw [c1]; decide)]]
        exact ih (i + 1) il
set_option maxRecDepth 100000 in
/-- X10.beatsOf -/
theorem bto_q {f mem x y : Nat} {PL : Nat → Int32} {W : Nat → Bool} {h : xh_H} (m12 : mem ≤ 12) (hx : x < 7) (hy : y < 7) (e4 : xg 0 h.2.1 39 4 = nI mem) (hP : ∀ k, k < 84 → xg 0 h.2.1 62 k = PL k) (hW : ∀ s, s < 2 ^ mem → xg 0 h.2.1 53 s = bl (W s)) (hq : a_rq a_tb h) : xq f xi_X10_beatsOf xmi_X10_beatsOf 0 [(0, .ref 39), (1, .int (nI x)), (2, .int (nI y))] [] h (fun v h' => h = h' ∧ v = some (.int (bl (W (wp PL x y mem))))) := by
  refine xq_n 5 [0, 1, 2, 3, 4] [(0, .ref 39), (1, .int (nI x)), (2, .int (nI y)), (3, .int (Int32.ofInt 0)), (4, .int (Int32.ofInt 0))] [] h [] 6 hq rfl trivial (fun _ => ?_)
  exact bto_lp m12 hx hy e4 hP hW hq f 0 (Nat.zero_le _)
end XLA
end
section
section XOP
/-- a row of bits -/
def msk (f : Nat → Bool) : Nat → Nat
  | 0 => 0
  | n + 1 => if f n = true then msk f n ||| 2 ^ n else msk f n
theorem msk_lt {f : Nat → Bool} : ∀ n, msk f n < 2 ^ n := by
  intro n
  induction n with
  | zero => exact Nat.one_pos
  | succ n ih =>
    unfold msk
    have : 2 ^ (n + 1) = 2 * 2 ^ n := by rw [Nat.pow_succ]; omega
    split
    · exact Nat.or_lt_two_pow (by omega) (by omega)
    · omega
theorem msk_tb {f : Nat → Bool} {k : Nat} : ∀ n, (msk f n).testBit k = (decide (k < n) && f k) := by
  intro n
  induction n with
  | zero =>
    show (0 : Nat).testBit k = _
    rw [Nat.zero_testBit, decide_eq_false (Nat.not_lt_zero k), Bool.false_and]
  | succ n ih =>
    unfold msk
    by_cases e : k = n
    · subst e
      have h0 : (msk f k).testBit k = false := Nat.testBit_lt_two_pow (msk_lt k)
      rw [decide_eq_true (Nat.lt_succ_self k), Bool.true_and]
      split
      · rename_i h; rw [Nat.testBit_or, Nat.testBit_two_pow_self, h, Bool.or_true]
      · rename_i h; rw [h0]; exact (Bool.eq_false_iff.mpr h).symm
    · have hd : decide (k < n + 1) = decide (k < n) := by
        by_cases z : k < n
        · rw [decide_eq_true z, decide_eq_true (by omega)]
        · rw [decide_eq_false z, decide_eq_false (by omega)]
      rw [hd]
      split
      · rw [Nat.testBit_or, ih, Nat.testBit_two_pow, show decide (n = k) = false from decide_eq_false (fun z => e z.symm), Bool.or_false]
      · exact ih
theorem msk_x {a b : Nat} (ha : a < 2 ^ 7) (hb : b < 2 ^ 7) (h : ∀ k, k < 7 → a.testBit k = b.testBit k) : a = b := by
  apply Nat.eq_of_testBit_eq
  intro k
  by_cases z : k < 7
  · exact h k z
  · rw [Nat.testBit_lt_two_pow (Nat.lt_of_lt_of_le ha (Nat.pow_le_pow_right (by decide) (by omega))), Nat.testBit_lt_two_pow (Nat.lt_of_lt_of_le hb (Nat.pow_le_pow_right (by decide) (by omega)))]
theorem msk_c {f g : Nat → Bool} : ∀ n, (∀ k, k < n → f k = g k) → msk f n = msk g n := by
  intro n
  induction n with
  | zero => intro _; rfl
  | succ n ih =>
    intro e
    unfold msk
    rw [ih (fun k hk' => e k (by omega)), e n (by omega)]
theorem msk_or {f g : Nat → Bool} : nI (msk f 7) ||| nI (msk g 7) = nI (msk (fun k => f k || g k) 7) := by
  rw [nI_or]
  congr 1
  refine msk_x (Nat.or_lt_two_pow (msk_lt 7) (msk_lt 7)) (msk_lt 7) (fun k hk' => ?_)
  rw [Nat.testBit_or, msk_tb, msk_tb, msk_tb, decide_eq_true hk', Bool.true_and, Bool.true_and, Bool.true_and]
theorem msk_b {f : Nat → Bool} {k : Nat} (hk : k < 7) : ((nI (msk f 7) >>> (nI k &&& 31)) &&& Int32.ofInt 1) = bl (f k) := by
  have := msk_lt (f := f) 7
  rw [nI_b0 (by omega) (by omega), msk_tb, decide_eq_true hk, Bool.true_and, bl_nI]
theorem msk_s {f : Nat → Bool} {n : Nat} (h : n ≤ 11) : nI (msk f n) ||| (Int32.ofInt 1 <<< (nI n &&& 31)) = nI (msk f n ||| 2 ^ n) := nI_o1 h
/-- what beats what -/
def BT (PL : Nat → Int32) (W : Nat → Bool) (mem x y : Nat) : Bool := !decide (x = y) && W (wp PL x y mem)
def S31 (c _k : Nat) : Bool := Nat.beq c 31
section
variable {Q r mem : Nat} {PL : Nat → Int32} {W : Nat → Bool} {h0 : xh_H}
set_option maxRecDepth 100000 in
set_option maxHeartbeats 4000000 in
theorem mat_in (m12 : mem ≤ 12) (hs : h0.1[Q]? = some (0, 7)) (hg : xg none h0.2.2.2 Q 1 = some r) (hr : h0.1[r]? = some (4, 64)) (hW : ∀ s, s < 2 ^ mem → hv h0 r s = W s) (hP : ∀ k, k < 84 → xg 0 h0.2.1 30 k = PL k) {x : Nat} (hx : x < 7) {Qr : Option Value → xh_H → Prop} (K : ∀ (f : Nat) (h : xh_H), a_rq a_tb h → fx S31 fN h0 h → (∀ x', x' < x + 1 → xg 0 h.2.1 31 x' = nI (msk (BT PL W mem x') 7)) → xq f xi_X0_match xmi_X0_match 2 [(0, .ref 28), (1, .ref Q), (2, .int (nI mem)), (3, .int (nI (x + 1)))] [] h Qr) : ∀ (f y : Nat) (h : xh_H), a_rq a_tb h → fx S31 fN h0 h → y ≤ 7 → (∀ x', x' < x → xg 0 h.2.1 31 x' = nI (msk (BT PL W mem x') 7)) → xg 0 h.2.1 31 x = nI (msk (BT PL W mem x) y) → xq f xi_X0_match xmi_X0_match 18 [(0, .ref 28), (1, .ref Q), (2, .int (nI mem)), (3, .int (nI x)), (4, .int (nI y))] [] h Qr := by
  have p12 : 2 ^ mem ≤ 4096 := show 2 ^ mem ≤ 2 ^ 12 from Nat.pow_le_pow_right (by decide) m12
  intro f
  induction f with
  | zero => intros; exact xq_0
  | succ f ih =>
    intro y h hq ge y6 w wx
    have nx : nI y + Int32.ofInt 1 = nI (y + 1) := nI_1 y
    have ek : (nI x).toNatClampNeg = x := nI_clamp (by omega)
    by_cases e : y = 7
    · refine xq_m 2 [0, 1, 2, 3] [(0, .ref 28), (1, .ref Q), (2, .int (nI mem)), (3, .int ((nI x) + Int32.ofInt 1))] [] h [true] 7 hq rfl ⟨(show xe_c .ge (nI y) 7 = true by rw [e]; rfl), trivial⟩ (fun _ => ?_)
      rw [show nI x + Int32.ofInt 1 = nI (x + 1) from nI_1 x]
      refine K f h hq ge (fun x' hx' => ?_)
      by_cases z : x' = x
      · rw [z, wx, e]
      · exact w x' (by omega)
    · have yl : y < 7 := by omega
      have g0 : xe_c .ge (nI y) 7 = false := nge_f (b := 7) (by omega) (by decide) yl
      by_cases exy : x = y
      · refine xq_m 18 [0, 1, 2, 3, 4] [(0, .ref 28), (1, .ref Q), (2, .int (nI mem)), (3, .int (nI x)), (4, .int ((nI y) + Int32.ofInt 1))] [] h [false, true] 10 hq rfl ⟨g0, decide_eq_true (by rw [exy]), trivial⟩ (fun _ => ?_)
        rw [nx]
        refine ih (y + 1) h hq ge (by omega) w ?_
        rw [wx]
        show nI (msk _ y) = nI (if BT PL W mem x y = true then _ else msk _ y)
        rw [if_neg (by unfold BT; rw [decide_eq_true exy]; simp)]
      · have n1 : xe_c .eq (nI x) (nI y) = false := decide_eq_false (fun z => exy (by have z2 := congrArg Int32.toInt z; rw [nI_toInt (by omega), nI_toInt (by omega)] at z2; omega))
        have wl := wp_lt (PL := PL) (x := x) (y := y) mem
        refine xq_m 37 [0, 1, 2, 3, 4] [(0, .ref 28), (1, .ref Q), (2, .int (nI mem)), (3, .int (nI x)), (4, .int (nI y))] [.int (nI mem), .int (nI y), .int (nI x), .ref 28, .ref Q] h [false, false] 13 hq rfl ⟨g0, n1, trivial⟩ (fun _ => ?_)
        refine xq_run hq rfl rfl (who_q (PL := PL) m12 hx yl (fun k hk' => (fx_i ge rfl).trans (hP k hk')) hq) ?_
        rintro v h1 ⟨rfl, rfl⟩
        refine xq_cr (As := [.ref Q, .int (nI (wp PL x y mem))]) (mj := xmi_X7_holds) (q := []) rfl rfl (fun _ _ => rfl) (xa_cs_ok (d := 0) (pc := 0) (lv := []) (nL := 0) (show h.1[Q]? = some (0, 7) by rw [ge.1]; exact hs) rfl).1 (fun f => xq_of (d := 0) ⟨_, rfl⟩ (ho_run hq (by rw [ge.1]; exact hs) (by rw [ge.2.1]; exact hg) (by rw [ge.1]; exact hr) (by omega))) ?_
        rintro v h1 ⟨rfl, rfl⟩
        rw [hv_f ge (fun _ => rfl), hW _ wl]
        have eB : BT PL W mem x y = W (wp PL x y mem) := by unfold BT; rw [decide_eq_false exy]; rfl
        cases cW : W (wp PL x y mem) with
        | false =>
          refine xq_n 18 [0, 1, 2, 3, 4] [(0, .ref 28), (1, .ref Q), (2, .int (nI mem)), (3, .int (nI x)), (4, .int ((nI y) + Int32.ofInt 1))] [] h [true] 5 hq rfl ⟨rfl, trivial⟩ (fun _ => ?_)
          rw [nx]
          refine ih (y + 1) h hq ge (by omega) w ?_
          rw [wx]
          show nI (msk _ y) = nI (if BT PL W mem x y = true then _ else msk _ y)
          rw [if_neg (by rw [eB, cW]; decide)]
        | true =>
          refine xq_n 18 [0, 1, 2, 3, 4] [(0, .ref 28), (1, .ref Q), (2, .int (nI mem)), (3, .int (nI x)), (4, .int ((nI y) + Int32.ofInt 1))] [] (xh_ui h 31 (nI x).toNatClampNeg ((xg 0 h.2.1 31 (nI x).toNatClampNeg) ||| ((Int32.ofInt 1) <<< ((nI y) &&& 31)))) [false] 15 hq rfl ⟨rfl, trivial⟩ (fun _ => ?_)
          rw [nx, ek, wx, nI_o1 (by omega)]
          refine ih (y + 1) _ (a_rq_ui hq) (fx_ui ge rfl) (by omega) (fun x' hx' => (gx_k (by omega)).trans (w x' hx')) ?_
          rw [gx_s]
          show nI (msk _ y ||| 2 ^ y) = nI (if BT PL W mem x y = true then _ else msk _ y)
          rw [if_pos (by rw [eB, cW])]
set_option maxRecDepth 100000 in
set_option maxHeartbeats 4000000 in
theorem mat_out (m12 : mem ≤ 12) (hs : h0.1[Q]? = some (0, 7)) (hg : xg none h0.2.2.2 Q 1 = some r) (hr : h0.1[r]? = some (4, 64)) (hW : ∀ s, s < 2 ^ mem → hv h0 r s = W s) (hP : ∀ k, k < 84 → xg 0 h0.2.1 30 k = PL k) : ∀ (n f x : Nat) (h : xh_H), x + n = 7 → a_rq a_tb h → fx S31 fN h0 h → (∀ x', x' < x → xg 0 h.2.1 31 x' = nI (msk (BT PL W mem x') 7)) → xq f xi_X0_match xmi_X0_match 2 [(0, .ref 28), (1, .ref Q), (2, .int (nI mem)), (3, .int (nI x))] [] h (fun v h' => v = none ∧ fx S31 fN h0 h' ∧ ∀ x, x < 7 → xg 0 h'.2.1 31 x = nI (msk (BT PL W mem x) 7)) := by
  intro n
  induction n with
  | zero =>
    intro f x h hn hq ge w
    have e : x = 7 := by omega
    subst e
    refine xq_n 71 [] [] [] h [true] 5 hq rfl ⟨rfl, trivial⟩ (fun _ => ?_)
    exact xq_ret rfl rfl rfl ⟨rfl, ge, w⟩
  | succ n ih =>
    intro f x h hn hq ge w
    refine xq_n 18 [0, 1, 2, 3, 4] [(0, .ref 28), (1, .ref Q), (2, .int (nI mem)), (3, .int (nI x)), (4, .int (Int32.ofInt 0))] [] (xh_ui h 31 (nI x).toNatClampNeg (Int32.ofInt 0)) [false] 12 hq rfl ⟨(show xe_c .ge (nI x) 7 = false from nge_f (b := 7) (by omega) (by decide) (by omega)), trivial⟩ (fun _ => ?_)
    rw [show (nI x).toNatClampNeg = x from nI_clamp (by omega)]
    exact mat_in m12 hs hg hr hW hP (x := x) (by omega) (fun f h hq ge w => ih f (x + 1) h (by omega) hq ge w) f 0 _ (a_rq_ui hq) (fx_ui ge rfl) (by omega) (fun x' hx' => (gx_k (by omega)).trans (w x' hx')) gx_s
set_option maxRecDepth 100000 in
/-- Ballot.match -/
theorem mat_q {f : Nat} (m12 : mem ≤ 12) (hs : h0.1[Q]? = some (0, 7)) (hg : xg none h0.2.2.2 Q 1 = some r) (hr : h0.1[r]? = some (4, 64)) (hW : ∀ s, s < 2 ^ mem → hv h0 r s = W s) (hP : ∀ k, k < 84 → xg 0 h0.2.1 30 k = PL k) (hq : a_rq a_tb h0) : xq f xi_X0_match xmi_X0_match 0 [(0, .ref 28), (1, .ref Q), (2, .int (nI mem))] [] h0 (fun v h' => v = none ∧ fx S31 fN h0 h' ∧ ∀ x, x < 7 → xg 0 h'.2.1 31 x = nI (msk (BT PL W mem x) 7)) := by
  refine xq_n 2 [0, 1, 2, 3] [(0, .ref 28), (1, .ref Q), (2, .int (nI mem)), (3, .int (Int32.ofInt 0))] [] h0 [] 4 hq rfl trivial (fun _ => ?_)
  exact mat_out m12 hs hg hr hW hP 7 f 0 h0 (by omega) hq fx_0 (fun x hx => absurd hx (Nat.not_lt_zero x))
end
end XOP
end
section
section XLO2
/-- a row of the matrix of what comes behind what, while it is made greater -/
def upr (C : Nat → Nat → Bool) (m y j : Nat) : Nat → Nat → Bool := fun y' x' => if y' = y ∧ x' < j then (C y x' || (C y m && C m x')) else C y' x'
/-- .. row by row -/
def clo (C : Nat → Nat → Bool) : Nat → Nat → Nat → Bool
  | 0 => C
  | n + 1 => upr (clo C n) (n / 7) (n % 7) 7
theorem upr_0 {C : Nat → Nat → Bool} {m y y' x' : Nat} : upr C m y 0 y' x' = C y' x' := by
  unfold upr
  rw [if_neg (by omega)]
theorem upr_m {C : Nat → Nat → Bool} {m y j : Nat} : upr C m y j y m = C y m := by
  unfold upr
  split
  · cases C y m <;> cases C m m <;> rfl
  · rfl
theorem upr_n {C : Nat → Nat → Bool} {m y j : Nat} : upr C m y j m j = C m j := by
  unfold upr
  rw [if_neg (by omega)]
def S634 (c _k : Nat) : Bool := Nat.beq c 63 || Nat.beq c 64
section
variable {mem : Nat} {PL : Nat → Int32} {W : Nat → Bool} {hb : xh_H}
/-- the matrices up to a place -/
def lI (B : Nat → Nat → Bool) (x y : Nat) (h : xh_H) : Prop := ∀ x' y', x' < 7 → y' < 7 → (x' < x ∨ (x' = x ∧ y' < y)) → xg 0 h.2.1 63 (7 * x' + y') = bl (B x' y') ∧ xg 0 h.2.1 64 (7 * y' + x') = bl (B x' y')
set_option maxRecDepth 100000 in
set_option maxHeartbeats 4000000 in
theorem lo_49 {f x y : Nat} {b : Bool} {B : Nat → Nat → Bool} {h : xh_H} {Q : Option Value → xh_H → Prop} (hx : x < 7) (hy : y < 7) (hq : a_rq a_tb h) (ge : fx S634 fN hb h) (I : lI B x y h) (eb : B x y = b) (K : ∀ h', a_rq a_tb h' → fx S634 fN hb h' → lI B x (y + 1) h' → xq f xi_X10_layOptions xmi_X10_layOptions 14 [(0, .ref 39), (1, .int (nI x)), (2, .int (nI (y + 1)))] [] h' Q) : xq f xi_X10_layOptions xmi_X10_layOptions 49 [(0, .ref 39), (1, .int (nI x)), (2, .int (nI y))] [.int (bl b), .int (7 * nI x + nI y), .ref 63] h Q := by
  have e1 : (7 * nI x + nI y).toNatClampNeg = 7 * x + y := by rw [i7_b]; exact nI_clamp (by omega)
  have e2 : (7 * nI y + nI x).toNatClampNeg = 7 * y + x := by rw [i7_b]; exact nI_clamp (by omega)
  refine xq_n 14 [0, 1, 2] [(0, .ref 39), (1, .int (nI x)), (2, .int ((nI y) + Int32.ofInt 1))] [] (xh_ui (xh_ui h 63 (7 * nI x + nI y).toNatClampNeg (vp_nar .boolean (bl b))) 64 (7 * nI y + nI x).toNatClampNeg (vp_nar .boolean (xg 0 (xh_ui h 63 (7 * nI x + nI y).toNatClampNeg (vp_nar .boolean (bl b))).2.1 63 (7 * nI x + nI y).toNatClampNeg))) [] 22 hq rfl trivial (fun _ => ?_)
  rw [e1, e2, gx_s, bl_n, bl_n, show nI y + Int32.ofInt 1 = nI (y + 1) from nI_1 y]
  refine K _ (a_rq_ui (a_rq_ui hq)) (fx_ui (fx_ui ge rfl) rfl) (fun x' y' hx' hy' z => ?_)
  by_cases e : x' = x ∧ y' = y
  · obtain ⟨rfl, rfl⟩ := e
    exact ⟨by rw [gx_o (by decide), gx_s, eb], by rw [gx_s, eb]⟩
  · obtain ⟨i1, i2⟩ := I x' y' hx' hy' (by omega)
    exact ⟨by rw [gx_o (by decide), gx_k (by omega)]; exact i1, by rw [gx_k (by omega), gx_o (by decide)]; exact i2⟩
set_option maxRecDepth 100000 in
set_option maxHeartbeats 4000000 in
theorem lo_in (m12 : mem ≤ 12) (e4 : xg 0 hb.2.1 39 4 = nI mem) (hP : ∀ k, k < 84 → xg 0 hb.2.1 62 k = PL k) (hW : ∀ s, s < 2 ^ mem → xg 0 hb.2.1 53 s = bl (W s)) {x : Nat} (hx : x < 7) {Q : Option Value → xh_H → Prop} (K : ∀ (f : Nat) (h : xh_H), a_rq a_tb h → fx S634 fN hb h → lI (BT PL W mem) (x + 1) 0 h → xq f xi_X10_layOptions xmi_X10_layOptions 6 [(0, .ref 39), (1, .int (nI (x + 1)))] [] h Q) : ∀ (n f y : Nat) (h : xh_H), y + n = 7 → a_rq a_tb h → fx S634 fN hb h → lI (BT PL W mem) x y h → xq f xi_X10_layOptions xmi_X10_layOptions 14 [(0, .ref 39), (1, .int (nI x)), (2, .int (nI y))] [] h Q := by
  intro n
  induction n with
  | zero =>
    intro f y h hn hq ge I
    have e : y = 7 := by omega
    subst e
    refine xq_n 6 [0, 1] [(0, .ref 39), (1, .int ((nI x) + Int32.ofInt 1))] [] h [true] 7 hq rfl ⟨rfl, trivial⟩ (fun _ => ?_)
    rw [show nI x + Int32.ofInt 1 = nI (x + 1) from nI_1 x]
    exact K f h hq ge (fun x' y' hx' hy' z => I x' y' hx' hy' (by omega))
  | succ n ih =>
    intro f y h hn hq ge I
    have yl : y < 7 := by omega
    have g0 : xe_c .ge (nI y) 7 = false := nge_f (b := 7) (by omega) (by decide) yl
    have KK := fun (h' : xh_H) (hq' : a_rq a_tb h') (ge' : fx S634 fN hb h') (I' : lI (BT PL W mem) x (y + 1) h') => ih f (y + 1) h' (by omega) hq' ge' I'
    by_cases exy : x = y
    · refine xq_n 49 [0, 1, 2] [(0, .ref 39), (1, .int (nI x)), (2, .int (nI y))] [.int (Int32.ofInt 0), .int (7 * nI x + nI y), .ref 63] h [false, true] 17 hq rfl ⟨g0, decide_eq_true (by rw [exy]), trivial⟩ (fun _ => ?_)
      exact lo_49 (b := false) hx yl hq ge I (by unfold BT; rw [decide_eq_true exy]; rfl) KK
    · have n1 : xe_c .eq (nI x) (nI y) = false := decide_eq_false (fun z => exy (by have z2 := congrArg Int32.toInt z; rw [nI_toInt (by omega), nI_toInt (by omega)] at z2; omega))
      refine xq_n 38 [0, 1, 2] [(0, .ref 39), (1, .int (nI x)), (2, .int (nI y))] [.int (nI y), .int (nI x), .ref 39, .int (7 * nI x + nI y), .ref 63] h [false, false] 19 hq rfl ⟨g0, n1, trivial⟩ (fun _ => ?_)
      refine xq_run hq rfl rfl (bto_q (PL := PL) (W := W) m12 hx yl ((fx_i ge rfl).trans e4) (fun k hk' => (fx_i ge rfl).trans (hP k hk')) (fun s hs => (fx_i ge rfl).trans (hW s hs)) hq) ?_
      rintro v h1 ⟨rfl, rfl⟩
      have eB : BT PL W mem x y = W (wp PL x y mem) := by unfold BT; rw [decide_eq_false exy]; rfl
      cases cW : W (wp PL x y mem) with
      | false =>
        refine xq_n 49 [0, 1, 2] [(0, .ref 39), (1, .int (nI x)), (2, .int (nI y))] [.int (Int32.ofInt 0), .int (7 * nI x + nI y), .ref 63] h [true] 4 hq rfl ⟨rfl, trivial⟩ (fun _ => ?_)
        exact lo_49 (b := false) hx yl hq ge I (by rw [eB, cW]) KK
      | true =>
        refine xq_n 49 [0, 1, 2] [(0, .ref 39), (1, .int (nI x)), (2, .int (nI y))] [.int (Int32.ofInt 1), .int (7 * nI x + nI y), .ref 63] h [false] 5 hq rfl ⟨rfl, trivial⟩ (fun _ => ?_)
        exact lo_49 (b := true) hx yl hq ge I (by rw [eB, cW]) KK
def mC (C : Nat → Nat → Bool) (h : xh_H) : Prop := ∀ y' x', y' < 7 → x' < 7 → xg 0 h.2.1 64 (7 * y' + x') = bl (C y' x')
def S64 (c _k : Nat) : Bool := Nat.beq c 64
set_option maxRecDepth 100000 in
set_option maxHeartbeats 4000000 in
theorem cl_x {C : Nat → Nat → Bool} {m y : Nat} (hm : m < 7) (hy : y < 7) {Q : Option Value → xh_H → Prop} (K : ∀ (f : Nat) (h : xh_H), a_rq a_tb h → fx S64 fN hb h → mC (upr C m y 7) h → xq f xi_X10_layOptions xmi_X10_layOptions 94 [(0, .ref 39), (1, .int (nI m)), (2, .int (nI (y + 1)))] [] h Q) : ∀ (n f j : Nat) (h : xh_H), j + n = 7 → a_rq a_tb h → fx S64 fN hb h → mC (upr C m y j) h → xq f xi_X10_layOptions xmi_X10_layOptions 102 [(0, .ref 39), (1, .int (nI m)), (2, .int (nI y)), (3, .int (nI j))] [] h Q := by
  intro n
  induction n with
  | zero =>
    intro f j h hn hq ge I
    have e : j = 7 := by omega
    subst e
    refine xq_n 94 [0, 1, 2] [(0, .ref 39), (1, .int (nI m)), (2, .int ((nI y) + Int32.ofInt 1))] [] h [true] 7 hq rfl ⟨rfl, trivial⟩ (fun _ => ?_)
    rw [show nI y + Int32.ofInt 1 = nI (y + 1) from nI_1 y]
    exact K f h hq ge I
  | succ n ih =>
    intro f j h hn hq ge I
    have jl : j < 7 := by omega
    have g0 : xe_c .ge (nI j) 7 = false := nge_f (b := 7) (by omega) (by decide) jl
    have a1 : xg 0 h.2.1 64 (7 * nI y + nI m).toNatClampNeg = bl (C y m) := by rw [i7_b, nI_clamp (by omega), I y m hy hm, upr_m]
    have a2 : xg 0 h.2.1 64 (7 * nI m + nI j).toNatClampNeg = bl (C m j) := by rw [i7_b, nI_clamp (by omega), I m j hm jl, upr_n]
    have e3 : (7 * nI y + nI j).toNatClampNeg = 7 * y + j := by rw [i7_b]; exact nI_clamp (by omega)
    have nx : nI j + Int32.ofInt 1 = nI (j + 1) := nI_1 j
    have same : (C y m && C m j) = false → mC (upr C m y (j + 1)) h := fun z y' x' hy' hx' => by
      rw [I y' x' hy' hx']
      unfold upr
      by_cases u : y' = y ∧ x' < j
      · rw [if_pos u, if_pos ⟨u.1, by omega⟩]
      · rw [if_neg u]
        by_cases w : y' = y ∧ x' < j + 1
        · rw [if_pos w, show x' = j by omega, z, Bool.or_false, w.1]
        · rw [if_neg w]
    cases c1 : C y m with
    | false =>
      rw [c1] at same
      refine xq_n 102 [0, 1, 2, 3] [(0, .ref 39), (1, .int (nI m)), (2, .int (nI y)), (3, .int ((nI j) + Int32.ofInt 1))] [] h [false, true] 15 hq rfl ⟨g0, (show xe_c .eq (xg 0 h.2.1 64 (7 * nI y + nI m).toNatClampNeg) 0 = true by rw [a1, c1]; rfl), trivial⟩ (fun _ => ?_)
      rw [nx]
      exact ih f (j + 1) h (by omega) hq ge (same rfl)
    | true =>
      cases c2 : C m j with
      | false =>
        rw [c2, Bool.and_false] at same
        refine xq_n 102 [0, 1, 2, 3] [(0, .ref 39), (1, .int (nI m)), (2, .int (nI y)), (3, .int ((nI j) + Int32.ofInt 1))] [] h [false, false, true] 24 hq rfl ⟨g0, (show xe_c .eq (xg 0 h.2.1 64 (7 * nI y + nI m).toNatClampNeg) 0 = false by rw [a1, c1]; rfl), (show xe_c .eq (xg 0 h.2.1 64 (7 * nI m + nI j).toNatClampNeg) 0 = true by rw [a2, c2]; rfl), trivial⟩ (fun _ => ?_)
        rw [nx]
        exact ih f (j + 1) h (by omega) hq ge (same rfl)
      | true =>
        refine xq_n 102 [0, 1, 2, 3] [(0, .ref 39), (1, .int (nI m)), (2, .int (nI y)), (3, .int ((nI j) + Int32.ofInt 1))] [] (xh_ui h 64 (7 * nI y + nI j).toNatClampNeg (vp_nar .boolean (Int32.ofInt 1))) [false, false, false] 33 hq rfl ⟨g0, (show xe_c .eq (xg 0 h.2.1 64 (7 * nI y + nI m).toNatClampNeg) 0 = false by rw [a1, c1]; rfl), (show xe_c .eq (xg 0 h.2.1 64 (7 * nI m + nI j).toNatClampNeg) 0 = false by rw [a2, c2]; rfl), trivial⟩ (fun _ => ?_)
        rw [nx, e3]
        refine ih f (j + 1) _ (by omega) (a_rq_ui hq) (fx_ui ge rfl) (fun y' x' hy' hx' => ?_)
        by_cases e : y' = y ∧ x' = j
        · obtain ⟨rfl, rfl⟩ := e
          rw [gx_s]
          unfold upr
          rw [if_pos ⟨rfl, by omega⟩, c1, c2, Bool.true_and, Bool.or_true]
          rfl
        · rw [gx_k (by omega), I y' x' hy' hx']
          unfold upr
          by_cases u : y' = y ∧ x' < j
          · rw [if_pos u, if_pos ⟨u.1, by omega⟩]
          · rw [if_neg u, if_neg (by omega)]
set_option maxRecDepth 100000 in
set_option maxHeartbeats 4000000 in
theorem cl_y {C : Nat → Nat → Bool} {m : Nat} (hm : m < 7) {Q : Option Value → xh_H → Prop} (K : ∀ (f : Nat) (h : xh_H), a_rq a_tb h → fx S64 fN hb h → mC (clo C (7 * (m + 1))) h → xq f xi_X10_layOptions xmi_X10_layOptions 86 [(0, .ref 39), (1, .int (nI (m + 1)))] [] h Q) : ∀ (n f y : Nat) (h : xh_H), y + n = 7 → a_rq a_tb h → fx S64 fN hb h → mC (clo C (7 * m + y)) h → xq f xi_X10_layOptions xmi_X10_layOptions 94 [(0, .ref 39), (1, .int (nI m)), (2, .int (nI y))] [] h Q := by
  intro n
  induction n with
  | zero =>
    intro f y h hn hq ge I
    have e : y = 7 := by omega
    subst e
    refine xq_n 86 [0, 1] [(0, .ref 39), (1, .int ((nI m) + Int32.ofInt 1))] [] h [true] 7 hq rfl ⟨rfl, trivial⟩ (fun _ => ?_)
    rw [show nI m + Int32.ofInt 1 = nI (m + 1) from nI_1 m]
    exact K f h hq ge (by rw [show 7 * (m + 1) = 7 * m + 7 by omega]; exact I)
  | succ n ih =>
    intro f y h hn hq ge I
    refine xq_n 102 [0, 1, 2, 3] [(0, .ref 39), (1, .int (nI m)), (2, .int (nI y)), (3, .int (Int32.ofInt 0))] [] h [false] 7 hq rfl ⟨(show xe_c .ge (nI y) 7 = false from nge_f (b := 7) (by omega) (by decide) (by omega)), trivial⟩ (fun _ => ?_)
    refine cl_x hm (y := y) (by omega) (fun f h hq ge J => ih f (y + 1) h (by omega) hq ge ?_) 7 f 0 h (by omega) hq ge (fun y' x' hy' hx' => by rw [upr_0]; exact I y' x' hy' hx')
    rw [show 7 * m + (y + 1) = (7 * m + y) + 1 by omega]
    show mC (upr (clo C (7 * m + y)) ((7 * m + y) / 7) ((7 * m + y) % 7) 7) h
    rw [show (7 * m + y) / 7 = m by omega, show (7 * m + y) % 7 = y by omega]
    exact J
set_option maxRecDepth 100000 in
set_option maxHeartbeats 4000000 in
theorem cl_m {C : Nat → Nat → Bool} : ∀ (n f m : Nat) (h : xh_H), m + n = 7 → a_rq a_tb h → fx S64 fN hb h → mC (clo C (7 * m)) h → xq f xi_X10_layOptions xmi_X10_layOptions 86 [(0, .ref 39), (1, .int (nI m))] [] h (fun v h' => v = none ∧ fx S64 fN hb h' ∧ mC (clo C 49) h') := by
  intro n
  induction n with
  | zero =>
    intro f m h hn hq ge I
    have e : m = 7 := by omega
    subst e
    refine xq_n 166 [] [] [] h [true] 5 hq rfl ⟨rfl, trivial⟩ (fun _ => ?_)
    exact xq_ret rfl rfl rfl ⟨rfl, ge, I⟩
  | succ n ih =>
    intro f m h hn hq ge I
    refine xq_n 94 [0, 1, 2] [(0, .ref 39), (1, .int (nI m)), (2, .int (Int32.ofInt 0))] [] h [false] 7 hq rfl ⟨(show xe_c .ge (nI m) 7 = false from nge_f (b := 7) (by omega) (by decide) (by omega)), trivial⟩ (fun _ => ?_)
    exact cl_y (m := m) (by omega) (fun f h hq ge J => ih f (m + 1) h (by omega) hq ge J) 7 f 0 h (by omega) hq ge (by rw [Nat.add_zero]; exact I)
end
def SLO (c k : Nat) : Bool := S53 c k || S634 c k
/-- what the options' matrices hold -/
def loQ (PL : Nat → Int32) (W : Nat → Bool) (mem : Nat) (h h' : xh_H) : Prop := fx SLO fN h h' ∧ (∀ s, s < 2 ^ mem → xg 0 h'.2.1 53 s = bl (W s)) ∧ (∀ x y, x < 7 → y < 7 → xg 0 h'.2.1 63 (7 * x + y) = bl (BT PL W mem x y)) ∧ mC (clo (fun y x => BT PL W mem x y) 49) h'
set_option maxRecDepth 100000 in
set_option maxHeartbeats 4000000 in
theorem lo_out {mem : Nat} {PL : Nat → Int32} {W : Nat → Bool} {hb : xh_H} (m12 : mem ≤ 12) (e4 : xg 0 hb.2.1 39 4 = nI mem) (hP : ∀ k, k < 84 → xg 0 hb.2.1 62 k = PL k) (hW : ∀ s, s < 2 ^ mem → xg 0 hb.2.1 53 s = bl (W s)) : ∀ (n f x : Nat) (h : xh_H), x + n = 7 → a_rq a_tb h → fx S634 fN hb h → lI (BT PL W mem) x 0 h → xq f xi_X10_layOptions xmi_X10_layOptions 6 [(0, .ref 39), (1, .int (nI x))] [] h (fun v h' => v = none ∧ loQ PL W mem hb h') := by
  intro n
  induction n with
  | zero =>
    intro f x h hn hq ge I
    have e : x = 7 := by omega
    subst e
    refine xq_n 86 [0, 1] [(0, .ref 39), (1, .int (Int32.ofInt 0))] [] h [true] 6 hq rfl ⟨rfl, trivial⟩ (fun _ => ?_)
    refine xq_mono (cl_m (C := fun y x => BT PL W mem x y) (hb := h) 7 f 0 h (by omega) hq fx_0 (fun y' x' hy' hx' => (I x' y' hx' hy' (by omega)).2)) (fun v h' e => ?_)
    obtain ⟨e1, e2, e3⟩ := e
    refine ⟨e1, fx_t (fx_w ge (fun _ _ z => (or_f z).2) (fun _ _ z => z)) (fx_w e2 (fun c k z => (or_f (or_f z).2).2) (fun _ _ z => z)), fun s hs => (fx_i e2 rfl).trans ((fx_i ge rfl).trans (hW s hs)), fun x y hx hy => (fx_i e2 rfl).trans (I x y hx hy (by omega)).1, e3⟩
  | succ n ih =>
    intro f x h hn hq ge I
    refine xq_n 14 [0, 1, 2] [(0, .ref 39), (1, .int (nI x)), (2, .int (Int32.ofInt 0))] [] h [false] 7 hq rfl ⟨(show xe_c .ge (nI x) 7 = false from nge_f (b := 7) (by omega) (by decide) (by omega)), trivial⟩ (fun _ => ?_)
    exact lo_in m12 e4 hP hW (x := x) (by omega) (fun f h hq ge J => ih f (x + 1) h (by omega) hq ge J) 7 f 0 h (by omega) hq ge I
set_option maxRecDepth 100000 in
set_option maxHeartbeats 4000000 in
/-- X10.layOptions -/
theorem lop_q {f mem sc : Nat} {FR RW PL : Nat → Int32} {d : Int32} {h : xh_H} (m12 : mem ≤ 12) (e4 : xg 0 h.2.1 39 4 = nI mem) (e33 : xg 0 h.2.1 39 33 = nI sc) (sc8 : sc ≤ 8) (e3 : xg 0 h.2.1 39 3 = d) (hF : ∀ k, k < sc → xg 0 h.2.1 51 k = FR k) (hT : ∀ k, k < sc → (xg 0 h.2.1 52 k).toInt ≤ 999) (hR : ∀ k s, k < sc → s < 2 ^ mem → ∃ b : Bool, RW (4096 * k + s) = bl b ∧ xg 0 h.2.1 44 (4096 * k + s) = bl b) (hP : ∀ k, k < 84 → xg 0 h.2.1 62 k = PL k) (hq : a_rq a_tb h) : xq f xi_X10_layOptions xmi_X10_layOptions 0 [(0, .ref 39)] [] h (fun v h' => v = none ∧ loQ PL (cvB FR RW mem sc d) mem h h') := by
  refine xq_n 1 [0] [(0, .ref 39)] [.ref 39] h [] 3 hq rfl trivial (fun _ => ?_)
  refine xq_run hq rfl rfl (lay_q m12 e4 e33 sc8 e3 hF hT hR hq) ?_
  rintro v h1 ⟨rfl, g1, w35, w53⟩
  have hq := fx_q g1 hq
  refine xq_n 6 [0, 1] [(0, .ref 39), (1, .int (Int32.ofInt 0))] [] h1 [] 4 hq rfl trivial (fun _ => ?_)
  refine xq_mono (lo_out (PL := PL) (W := cvB FR RW mem sc d) m12 ((fx_i g1 rfl).trans e4) (fun k hk' => (fx_i g1 rfl).trans (hP k hk')) w53 7 f 0 h1 (by omega) hq fx_0 (fun x' y' hx' hy' z => absurd z (by omega))) (fun v h' e => ?_)
  exact ⟨e.1, fx_t (fx_w g1 (fun _ _ z => (or_f z).1) (fun _ _ z => z)) e.2.1, e.2.2⟩
end XLO2
end
section
section XFR
set_option maxRecDepth 100000 in
theorem iop9_q {f : Nat} {x : Int32} {h : xh_H} (hq : a_rq a_tb h) : xq f xi_X0_isOption xmi_X0_isOption 0 [(0, .int x)] [] h (fun v h' => h = h' ∧ v = some (.int (bl (!xe_c .lt x 0 && !xe_c .ge x 7)))) := by
  cases c1 : xe_c .lt x 0 with
  | true =>
    refine xq_n 15 [] [] [.int (Int32.ofInt 0)] h [true] 5 hq rfl ⟨c1, trivial⟩ (fun _ => ?_)
    exact xq_ret rfl rfl rfl ⟨rfl, rfl⟩
  | false =>
    cases c2 : xe_c .ge x 7 with
    | true =>
      refine xq_n 15 [] [] [.int (Int32.ofInt 0)] h [false, true] 8 hq rfl ⟨c1, c2, trivial⟩ (fun _ => ?_)
      exact xq_ret rfl rfl rfl ⟨rfl, rfl⟩
    | false =>
      refine xq_n 15 [] [] [.int (Int32.ofInt 1)] h [false, false] 9 hq rfl ⟨c1, c2, trivial⟩ (fun _ => ?_)
      exact xq_ret rfl rfl rfl ⟨rfl, rfl⟩
set_option maxRecDepth 100000 in
theorem iop10_q {f : Nat} {x : Int32} {h : xh_H} (hq : a_rq a_tb h) : xq f xi_X10_isOption xmi_X10_isOption 0 [(0, .int x)] [] h (fun v h' => h = h' ∧ v = some (.int (bl (!xe_c .lt x 0 && !xe_c .ge x 7)))) := by
  cases c1 : xe_c .lt x 0 with
  | true =>
    refine xq_n 15 [] [] [.int (Int32.ofInt 0)] h [true] 5 hq rfl ⟨c1, trivial⟩ (fun _ => ?_)
    exact xq_ret rfl rfl rfl ⟨rfl, rfl⟩
  | false =>
    cases c2 : xe_c .ge x 7 with
    | true =>
      refine xq_n 15 [] [] [.int (Int32.ofInt 0)] h [false, true] 8 hq rfl ⟨c1, c2, trivial⟩ (fun _ => ?_)
      exact xq_ret rfl rfl rfl ⟨rfl, rfl⟩
    | false =>
      refine xq_n 15 [] [] [.int (Int32.ofInt 1)] h [false, false] 9 hq rfl ⟨c1, c2, trivial⟩ (fun _ => ?_)
      exact xq_ret rfl rfl rfl ⟨rfl, rfl⟩
theorem iop_n {x : Int32} (h : (!xe_c .lt x 0 && !xe_c .ge x 7) = true) : ∃ s, x = nI s ∧ s < 7 ∧ x.toInt.toNat = s := by
  simp only [Bool.and_eq_true, Bool.not_eq_true'] at h
  have b1 : (0 : Int) ≤ x.toInt := a_ce (a_neg_ok h.1)
  have b2 : x.toInt < (7 : Int) := a_ce (a_neg_ok h.2)
  exact ⟨x.toInt.toNat, en_n (t := 0) (by omega), by omega, rfl⟩
/-- what beats answers -/
def beA (B : Nat → Nat → Bool) (x y : Int32) : Int32 := cond ((!xe_c .lt x 0 && !xe_c .ge x 7) && ((!xe_c .lt y 0 && !xe_c .ge y 7) && xe_c .ne x y)) (bl (B x.toInt.toNat y.toInt.toNat)) (Int32.ofInt (-1))
set_option maxRecDepth 100000 in
set_option maxHeartbeats 4000000 in
theorem be9_q {f mem sc : Nat} {x y : Int32} {PL : Nat → Int32} {d : Int32} {h : xh_H} (hi : a_inv a_tb h) (e9 : xg 0 h.2.1 0 9 = nI mem) (m12 : mem ≤ 12) (e8 : xg 0 h.2.1 0 8 = nI sc) (sc8 : sc ≤ 8) (e10 : xg 0 h.2.1 0 10 = d) (si : SI h) (hP : ∀ k, k < 84 → xg 0 h.2.1 30 k = PL k) (hq : a_rq a_tb h) : xq f xi_X9_beats xmi_X9_beats 0 [(0, .ref 0), (1, .int x), (2, .int y)] [] h (fun v h' => v = some (.int (beA (BT PL (cvB (fun k => xg 0 h.2.1 51 k) (fun k => xg 0 h.2.1 44 k) mem sc d) mem) x y))) := by
  obtain ⟨⟨u1, u2, u3⟩, si⟩ := si
  obtain ⟨SS, un⟩ := si mem sc e9 m12 e8 sc8
  have p12 : 2 ^ mem ≤ 4096 := show 2 ^ mem ≤ 2 ^ 12 from Nat.pow_le_pow_right (by decide) m12
  unfold beA
  refine xq_n 1 [0, 1, 2] [(0, .ref 0), (1, .int x), (2, .int y)] [.int x] h [] 3 hq rfl trivial (fun _ => ?_)
  refine xq_run hq rfl rfl (iop9_q hq) ?_
  rintro v h1 ⟨rfl, rfl⟩
  cases hx : (!xe_c .lt x 0 && !xe_c .ge x 7) with
  | false =>
    refine xq_n 20 [] [] [.int (Int32.ofInt (-1))] h [true] 4 hq rfl ⟨rfl, trivial⟩ (fun _ => ?_)
    exact xq_ret rfl rfl rfl rfl
  | true =>
    refine xq_n 8 [0, 1, 2] [(0, .ref 0), (1, .int x), (2, .int y)] [.int y] h [false] 4 hq rfl ⟨rfl, trivial⟩ (fun _ => ?_)
    refine xq_run hq rfl rfl (iop9_q hq) ?_
    rintro v h1 ⟨rfl, rfl⟩
    cases hy : (!xe_c .lt y 0 && !xe_c .ge y 7) with
    | false =>
      refine xq_n 20 [] [] [.int (Int32.ofInt (-1))] h [true] 4 hq rfl ⟨rfl, trivial⟩ (fun _ => ?_)
      exact xq_ret rfl rfl rfl rfl
    | true =>
      cases hn : xe_c .ne x y with
      | false =>
        refine xq_n 20 [] [] [.int (Int32.ofInt (-1))] h [false, false] 7 hq rfl ⟨rfl, hn, trivial⟩ (fun _ => ?_)
        exact xq_ret rfl rfl rfl rfl
      | true =>
        obtain ⟨a, rfl, ha, ea⟩ := iop_n hx
        obtain ⟨b, rfl, hb, eb⟩ := iop_n hy
        rw [ea, eb]
        have nab : a ≠ b := fun z => by rw [z] at hn; exact absurd hn (by show ¬ (!decide (nI b = nI b)) = true; rw [decide_eq_true rfl]; decide)
        refine xq_n 26 [0, 1, 2] [(0, .ref 0), (1, .int (nI a)), (2, .int (nI b))] [.int (xg 0 h.2.1 0 10), .ref 0] h [false, true] 8 hq rfl ⟨rfl, hn, trivial⟩ (fun _ => ?_)
        rw [e10]
        refine xq_run hq rfl rfl (if9_q hi e8 sc8 u1 u2 SS hq) ?_
        rintro v h1 ⟨rfl, Q, rfl, fd⟩
        refine xq_n 39 [] [] [.int (xg 0 h.2.1 0 9), .int (nI b), .int (nI a), .ref 28, .ref Q] h [] 8 hq rfl trivial (fun _ => ?_)
        rw [e9]
        refine xq_run hq rfl rfl (who_q (PL := PL) m12 ha hb hP hq) ?_
        rintro v h1 ⟨rfl, rfl⟩
        have wl := wp_lt (PL := PL) (x := a) (y := b) mem
        obtain ⟨r, g1, g2, g3⟩ := hv_cv hi m12 SS un u3 hq wl fd
        refine xq_cr (As := [.ref Q, .int (nI (wp PL a b mem))]) (mj := xmi_X7_holds) (q := []) rfl rfl (fun _ _ => rfl) (xa_cs_ok (d := 0) (pc := 0) (lv := []) (nL := 0) fd.1 rfl).1 (fun f => xq_of (d := 0) ⟨_, rfl⟩ (ho_run hq fd.1 g1 g2 (by omega))) ?_
        rintro v h1 ⟨rfl, rfl⟩
        rw [g3]
        unfold BT
        rw [decide_eq_false nab]
        cases cvB (fun k => xg 0 h.2.1 51 k) (fun k => xg 0 h.2.1 44 k) mem sc d (wp PL a b mem) with
        | true =>
          refine xq_n 53 [] [] [.int (Int32.ofInt 1)] h [false] 5 hq rfl ⟨rfl, trivial⟩ (fun _ => ?_)
          exact xq_ret rfl rfl rfl rfl
        | false =>
          refine xq_n 53 [] [] [.int (Int32.ofInt 0)] h [true] 5 hq rfl ⟨rfl, trivial⟩ (fun _ => ?_)
          exact xq_ret rfl rfl rfl rfl
section
variable {f mem sc : Nat} {FR RW PL : Nat → Int32} {d : Int32} {h : xh_H}
set_option maxRecDepth 100000 in
set_option maxHeartbeats 4000000 in
theorem be10_q {x y : Int32} (m12 : mem ≤ 12) (e4 : xg 0 h.2.1 39 4 = nI mem) (e33 : xg 0 h.2.1 39 33 = nI sc) (sc8 : sc ≤ 8) (e3 : xg 0 h.2.1 39 3 = d) (hF : ∀ k, k < sc → xg 0 h.2.1 51 k = FR k) (hT : ∀ k, k < sc → (xg 0 h.2.1 52 k).toInt ≤ 999) (hR : ∀ k s, k < sc → s < 2 ^ mem → ∃ b : Bool, RW (4096 * k + s) = bl b ∧ xg 0 h.2.1 44 (4096 * k + s) = bl b) (hP : ∀ k, k < 84 → xg 0 h.2.1 62 k = PL k) (hq : a_rq a_tb h) : xq f xi_X10_beats xmi_X10_beats 0 [(0, .ref 39), (1, .int x), (2, .int y)] [] h (fun v h' => v = some (.int (beA (BT PL (cvB FR RW mem sc d) mem) x y))) := by
  unfold beA
  refine xq_n 6 [0, 1, 2] [(0, .ref 39), (1, .int x), (2, .int y)] [.int x] (xh_ui h 39 0 (Int32.ofInt 0)) [] 6 hq rfl trivial (fun _ => ?_)
  have hq : a_rq a_tb (xh_ui h 39 0 (Int32.ofInt 0)) := a_rq_ui hq
  have L := lop_q (f := f) (FR := FR) (RW := RW) (PL := PL) (h := xh_ui h 39 0 (Int32.ofInt 0)) m12 ((gx_k (by decide)).trans e4) ((gx_k (by decide)).trans e33) sc8 ((gx_k (by decide)).trans e3) (fun k hk' => (gx_o (by decide)).trans (hF k hk')) (fun k hk' => by rw [gx_o (by decide)]; exact hT k hk') (fun k s h1 h2 => by obtain ⟨b, b1, b2⟩ := hR k s h1 h2; exact ⟨b, b1, (gx_o (by decide)).trans b2⟩) (fun k hk' => (gx_o (by decide)).trans (hP k hk')) hq
  generalize xh_ui h 39 0 (Int32.ofInt 0) = h0 at hq L ⊢
  refine xq_run hq rfl rfl (iop10_q hq) ?_
  rintro v h1 ⟨rfl, rfl⟩
  cases hx : (!xe_c .lt x 0 && !xe_c .ge x 7) with
  | false =>
    refine xq_n 25 [] [] [.int (Int32.ofInt (-1))] h0 [true] 4 hq rfl ⟨rfl, trivial⟩ (fun _ => ?_)
    exact xq_ret rfl rfl rfl rfl
  | true =>
    refine xq_n 13 [0, 1, 2] [(0, .ref 39), (1, .int x), (2, .int y)] [.int y] h0 [false] 4 hq rfl ⟨rfl, trivial⟩ (fun _ => ?_)
    refine xq_run hq rfl rfl (iop10_q hq) ?_
    rintro v h1 ⟨rfl, rfl⟩
    cases hy : (!xe_c .lt y 0 && !xe_c .ge y 7) with
    | false =>
      refine xq_n 25 [] [] [.int (Int32.ofInt (-1))] h0 [true] 4 hq rfl ⟨rfl, trivial⟩ (fun _ => ?_)
      exact xq_ret rfl rfl rfl rfl
    | true =>
      cases hn : xe_c .ne x y with
      | false =>
        refine xq_n 25 [] [] [.int (Int32.ofInt (-1))] h0 [false, false] 7 hq rfl ⟨rfl, hn, trivial⟩ (fun _ => ?_)
        exact xq_ret rfl rfl rfl rfl
      | true =>
        obtain ⟨a, rfl, ha, ea⟩ := iop_n hx
        obtain ⟨b, rfl, hb, eb⟩ := iop_n hy
        rw [ea, eb]
        refine xq_n 27 [0, 1, 2] [(0, .ref 39), (1, .int (nI a)), (2, .int (nI b))] [.ref 39] h0 [false, true] 6 hq rfl ⟨rfl, hn, trivial⟩ (fun _ => ?_)
        refine xq_run hq rfl rfl L ?_
        rintro v h1 ⟨rfl, g1, w53, w63, w64⟩
        have hq := fx_q g1 hq
        have e1 : xg 0 h1.2.1 63 (7 * nI a + nI b).toNatClampNeg = bl (BT PL (cvB FR RW mem sc d) mem a b) := by rw [i7_b, nI_clamp (by omega)]; exact w63 a b ha hb
        cases cB : BT PL (cvB FR RW mem sc d) mem a b with
        | true =>
          refine xq_n 49 [] [] [.int (Int32.ofInt 1)] h1 [false] 12 hq rfl ⟨(show xe_c .eq (xg 0 h1.2.1 63 (7 * nI a + nI b).toNatClampNeg) 0 = false by rw [e1, cB]; rfl), trivial⟩ (fun _ => ?_)
          exact xq_ret rfl rfl rfl rfl
        | false =>
          refine xq_n 49 [] [] [.int (Int32.ofInt 0)] h1 [true] 12 hq rfl ⟨(show xe_c .eq (xg 0 h1.2.1 63 (7 * nI a + nI b).toNatClampNeg) 0 = true by rw [e1, cB]; rfl), trivial⟩ (fun _ => ?_)
          exact xq_ret rfl rfl rfl rfl
end
/-- nothing below x beats y -/
def nb (B : Nat → Nat → Bool) (y : Nat) : Nat → Bool
  | 0 => true
  | x + 1 => nb B y x && !B x y
theorem nb_step {B : Nat → Nat → Bool} {x : Nat} : nI (msk (fun y => nb B y x) 7) &&& (nI (msk (B x) 7) ^^^ Int32.ofInt (-1)) = nI (msk (fun y => nb B y (x + 1)) 7) := nI_andn (fun i hi => by
  rw [msk_tb, msk_tb, msk_tb]
  show ((decide (i < 7) && nb B i x) && !(decide (i < 7) && B x i)) = (decide (i < 7) && (nb B i x && !B x i))
  cases decide (i < 7) <;> cases nb B i x <;> cases B x i <;> rfl)
set_option maxRecDepth 100000 in
set_option maxHeartbeats 4000000 in
theorem unb_lp {B : Nat → Nat → Bool} {h : xh_H} (hB : ∀ x, x < 7 → xg 0 h.2.1 31 x = nI (msk (B x) 7)) (hq : a_rq a_tb h) : ∀ (n f x : Nat), x + n = 7 → xq f xi_X0_unbeaten xmi_X0_unbeaten 5 [(0, .ref 28), (1, .int (nI (msk (fun y => nb B y x) 7))), (2, .int (nI x))] [] h (fun v h' => h = h' ∧ v = some (.int (nI (msk (fun y => nb B y 7) 7)))) := by
  intro n
  induction n with
  | zero =>
    intro f x hn
    have e : x = 7 := by omega
    subst e
    refine xq_n 29 [] [] [.int (nI (msk (fun y => nb B y 7) 7))] h [true] 6 hq rfl ⟨rfl, trivial⟩ (fun _ => ?_)
    exact xq_ret rfl rfl rfl ⟨rfl, rfl⟩
  | succ n ih =>
    intro f x hn
    refine xq_n 5 [0, 1, 2] [(0, .ref 28), (1, .int ((nI (msk (fun y => nb B y x) 7)) &&& ((xg 0 h.2.1 31 (nI x).toNatClampNeg) ^^^ (Int32.ofInt (-1))))), (2, .int ((nI x) + Int32.ofInt 1))] [] h [false] 16 hq rfl ⟨(show xe_c .ge (nI x) 7 = false from nge_f (b := 7) (by omega) (by decide) (by omega)), trivial⟩ (fun _ => ?_)
    rw [show (nI x).toNatClampNeg = x from nI_clamp (by omega), hB x (by omega), nb_step, show nI x + Int32.ofInt 1 = nI (x + 1) from nI_1 x]
    exact ih f (x + 1) (by omega)
set_option maxRecDepth 100000 in
theorem unb_q {f : Nat} {B : Nat → Nat → Bool} {h : xh_H} (hB : ∀ x, x < 7 → xg 0 h.2.1 31 x = nI (msk (B x) 7)) (hq : a_rq a_tb h) : xq f xi_X0_unbeaten xmi_X0_unbeaten 0 [(0, .ref 28)] [] h (fun v h' => h = h' ∧ v = some (.int (nI (msk (fun y => nb B y 7) 7)))) := by
  refine xq_n 5 [0, 1, 2] [(0, .ref 28), (1, .int 127), (2, .int (Int32.ofInt 0))] [] h [] 6 hq rfl trivial (fun _ => ?_)
  have e : msk (fun y => nb B y 0) 7 = 127 := by
    show msk (fun _ => true) 7 = 127
    decide
  have r := unb_lp hB hq 7 f 0 (by omega)
  rw [e] at r
  exact r
set_option maxRecDepth 100000 in
set_option maxHeartbeats 4000000 in
theorem fr9_q {f mem sc : Nat} {PL : Nat → Int32} {d : Int32} {h : xh_H} (hi : a_inv a_tb h) (e9 : xg 0 h.2.1 0 9 = nI mem) (m12 : mem ≤ 12) (e8 : xg 0 h.2.1 0 8 = nI sc) (sc8 : sc ≤ 8) (e10 : xg 0 h.2.1 0 10 = d) (si : SI h) (hP : ∀ k, k < 84 → xg 0 h.2.1 30 k = PL k) (hq : a_rq a_tb h) : xq f xi_X9_free xmi_X9_free 0 [(0, .ref 0)] [] h (fun v h' => v = some (.int (nI (msk (fun y => nb (BT PL (cvB (fun k => xg 0 h.2.1 51 k) (fun k => xg 0 h.2.1 44 k) mem sc d) mem) y 7) 7)))) := by
  obtain ⟨⟨u1, u2, u3⟩, si⟩ := si
  obtain ⟨SS, un⟩ := si mem sc e9 m12 e8 sc8
  refine xq_n 9 [0] [(0, .ref 0)] [.int (xg 0 h.2.1 0 10), .ref 0, .ref 28] h [] 7 hq rfl trivial (fun _ => ?_)
  rw [e10]
  refine xq_run hq rfl rfl (if9_q hi e8 sc8 u1 u2 SS hq) ?_
  rintro v h1 ⟨rfl, Q, rfl, fd⟩
  refine xq_n 16 [0] [(0, .ref 0)] [.int (xg 0 h.2.1 0 9), .ref Q, .ref 28] h [] 4 hq rfl trivial (fun _ => ?_)
  rw [e9]
  obtain ⟨r, g1, g2, -⟩ := hv_cv hi m12 SS un u3 hq (s := 0) (Nat.two_pow_pos mem) fd
  refine xq_run hq rfl rfl (mat_q (PL := PL) (W := cvB (fun k => xg 0 h.2.1 51 k) (fun k => xg 0 h.2.1 44 k) mem sc d) m12 fd.1 g1 g2 (fun s hs => by
    obtain ⟨r', g1', -, g3⟩ := hv_cv hi m12 SS un u3 hq hs fd
    rw [g1] at g1'
    cases g1'
    exact g3) hP hq) ?_
  rintro v h1 ⟨rfl, g4, w31⟩
  have hq := fx_q g4 hq
  refine xq_n 23 [] [] [.ref 28] h1 [] 4 hq rfl trivial (fun _ => ?_)
  refine xq_run hq rfl rfl (unb_q (B := BT PL (cvB (fun k => xg 0 h.2.1 51 k) (fun k => xg 0 h.2.1 44 k) mem sc d) mem) w31 hq) ?_
  rintro v h2 ⟨rfl, rfl⟩
  exact xq_ret rfl rfl rfl rfl
set_option maxRecDepth 100000 in
set_option maxHeartbeats 4000000 in
theorem fr_in {B : Nat → Nat → Bool} {h : xh_H} (hB : ∀ x y, x < 7 → y < 7 → xg 0 h.2.1 63 (7 * x + y) = bl (B x y)) (hq : a_rq a_tb h) {y : Nat} {v1 : Int32} (hy : y < 7) {Q : Option Value → xh_H → Prop} (K : ∀ (f : Nat), xq f xi_X10_free xmi_X10_free 54 [(0, .ref 39), (1, .int v1), (2, .int (nI y)), (3, .int (bl (nb B y 7)))] [] h Q) : ∀ (n f x : Nat), x + n = 7 → xq f xi_X10_free xmi_X10_free 24 [(0, .ref 39), (1, .int v1), (2, .int (nI y)), (3, .int (bl (nb B y x))), (4, .int (nI x))] [] h Q := by
  intro n
  induction n with
  | zero =>
    intro f x hn
    have e : x = 7 := by omega
    subst e
    refine xq_n 54 [0, 1, 2, 3] [(0, .ref 39), (1, .int v1), (2, .int (nI y)), (3, .int (bl (nb B y 7)))] [] h [true] 5 hq rfl ⟨rfl, trivial⟩ (fun _ => ?_)
    exact K f
  | succ n ih =>
    intro f x hn
    have g0 : xe_c .ge (nI x) 7 = false := nge_f (b := 7) (by omega) (by decide) (by omega)
    have a1 : xg 0 h.2.1 63 (7 * nI x + nI y).toNatClampNeg = bl (B x y) := by rw [i7_b, nI_clamp (by omega)]; exact hB x y (by omega) hy
    have nx : nI x + Int32.ofInt 1 = nI (x + 1) := nI_1 x
    cases c : B x y with
    | false =>
      refine xq_n 24 [0, 1, 2, 3, 4] [(0, .ref 39), (1, .int v1), (2, .int (nI y)), (3, .int (bl (nb B y x))), (4, .int ((nI x) + Int32.ofInt 1))] [] h [false, true] 15 hq rfl ⟨g0, (show xe_c .eq (xg 0 h.2.1 63 (7 * nI x + nI y).toNatClampNeg) 0 = true by rw [a1, c]; rfl), trivial⟩ (fun _ => ?_)
      rw [nx, show nb B y x = nb B y (x + 1) by show nb B y x = (nb B y x && !B x y); rw [c]; cases nb B y x <;> rfl]
      exact ih f (x + 1) (by omega)
    | true =>
      refine xq_n 24 [0, 1, 2, 3, 4] [(0, .ref 39), (1, .int v1), (2, .int (nI y)), (3, .int (Int32.ofInt 0)), (4, .int ((nI x) + Int32.ofInt 1))] [] h [false, false] 17 hq rfl ⟨g0, (show xe_c .eq (xg 0 h.2.1 63 (7 * nI x + nI y).toNatClampNeg) 0 = false by rw [a1, c]; rfl), trivial⟩ (fun _ => ?_)
      have e2 : nb B y (x + 1) = false := by show (nb B y x && !B x y) = false; rw [c]; cases nb B y x <;> rfl
      have r := ih f (x + 1) (by omega)
      rw [e2] at r
      rw [nx]
      exact r
set_option maxRecDepth 100000 in
set_option maxHeartbeats 4000000 in
theorem fr_out {B : Nat → Nat → Bool} {h : xh_H} (hB : ∀ x y, x < 7 → y < 7 → xg 0 h.2.1 63 (7 * x + y) = bl (B x y)) (hq : a_rq a_tb h) : ∀ (n f y : Nat), y + n = 7 → xq f xi_X10_free xmi_X10_free 13 [(0, .ref 39), (1, .int (nI (msk (fun y => nb B y 7) y))), (2, .int (nI y))] [] h (fun v h' => h = h' ∧ v = some (.int (nI (msk (fun y => nb B y 7) 7)))) := by
  intro n
  induction n with
  | zero =>
    intro f y hn
    have e : y = 7 := by omega
    subst e
    refine xq_n 71 [] [] [.int (nI (msk (fun y => nb B y 7) 7))] h [true] 6 hq rfl ⟨rfl, trivial⟩ (fun _ => ?_)
    exact xq_ret rfl rfl rfl ⟨rfl, rfl⟩
  | succ n ih =>
    intro f y hn
    have g0 : xe_c .ge (nI y) 7 = false := nge_f (b := 7) (by omega) (by decide) (by omega)
    have nx : nI y + Int32.ofInt 1 = nI (y + 1) := nI_1 y
    refine xq_n 24 [0, 1, 2, 3, 4] [(0, .ref 39), (1, .int (nI (msk (fun y => nb B y 7) y))), (2, .int (nI y)), (3, .int (Int32.ofInt 1)), (4, .int (Int32.ofInt 0))] [] h [false] 9 hq rfl ⟨g0, trivial⟩ (fun _ => ?_)
    refine fr_in hB hq (y := y) (by omega) (fun f => ?_) 7 f 0 (by omega)
    have es : msk (fun y => nb B y 7) (y + 1) = if nb B y 7 = true then msk (fun y => nb B y 7) y ||| 2 ^ y else msk (fun y => nb B y 7) y := rfl
    cases c : nb B y 7 with
    | false =>
      refine xq_n 13 [0, 1, 2] [(0, .ref 39), (1, .int (nI (msk (fun y => nb B y 7) y))), (2, .int ((nI y) + Int32.ofInt 1))] [] h [true] 6 hq rfl ⟨rfl, trivial⟩ (fun _ => ?_)
      have r := ih f (y + 1) (by omega)
      rw [es, c, if_neg (by decide)] at r
      rw [nx]
      exact r
    | true =>
      refine xq_n 13 [0, 1, 2] [(0, .ref 39), (1, .int ((nI (msk (fun y => nb B y 7) y)) ||| ((Int32.ofInt 1) <<< ((nI y) &&& 31)))), (2, .int ((nI y) + Int32.ofInt 1))] [] h [false] 12 hq rfl ⟨rfl, trivial⟩ (fun _ => ?_)
      have r := ih f (y + 1) (by omega)
      rw [es, c, if_pos rfl] at r
      rw [nx, nI_o1 (by omega)]
      exact r
set_option maxRecDepth 100000 in
set_option maxHeartbeats 4000000 in
theorem fr10_q {f mem sc : Nat} {FR RW PL : Nat → Int32} {d : Int32} {h : xh_H} (m12 : mem ≤ 12) (e4 : xg 0 h.2.1 39 4 = nI mem) (e33 : xg 0 h.2.1 39 33 = nI sc) (sc8 : sc ≤ 8) (e3 : xg 0 h.2.1 39 3 = d) (hF : ∀ k, k < sc → xg 0 h.2.1 51 k = FR k) (hT : ∀ k, k < sc → (xg 0 h.2.1 52 k).toInt ≤ 999) (hR : ∀ k s, k < sc → s < 2 ^ mem → ∃ b : Bool, RW (4096 * k + s) = bl b ∧ xg 0 h.2.1 44 (4096 * k + s) = bl b) (hP : ∀ k, k < 84 → xg 0 h.2.1 62 k = PL k) (hq : a_rq a_tb h) : xq f xi_X10_free xmi_X10_free 0 [(0, .ref 39)] [] h (fun v h' => v = some (.int (nI (msk (fun y => nb (BT PL (cvB FR RW mem sc d) mem) y 7) 7)))) := by
  refine xq_n 6 [0] [(0, .ref 39)] [.ref 39] (xh_ui h 39 0 (Int32.ofInt 0)) [] 6 hq rfl trivial (fun _ => ?_)
  have hq : a_rq a_tb (xh_ui h 39 0 (Int32.ofInt 0)) := a_rq_ui hq
  refine xq_run hq rfl rfl (lop_q (FR := FR) (RW := RW) (PL := PL) (h := xh_ui h 39 0 (Int32.ofInt 0)) m12 ((gx_k (by decide)).trans e4) ((gx_k (by decide)).trans e33) sc8 ((gx_k (by decide)).trans e3) (fun k hk' => (gx_o (by decide)).trans (hF k hk')) (fun k hk' => by rw [gx_o (by decide)]; exact hT k hk') (fun k s h1 h2 => by obtain ⟨b, b1, b2⟩ := hR k s h1 h2; exact ⟨b, b1, (gx_o (by decide)).trans b2⟩) (fun k hk' => (gx_o (by decide)).trans (hP k hk')) hq) ?_
  rintro v h1 ⟨rfl, g1, w53, w63, w64⟩
  have hq := fx_q g1 hq
  refine xq_n 13 [0, 1, 2] [(0, .ref 39), (1, .int (Int32.ofInt 0)), (2, .int (Int32.ofInt 0))] [] h1 [] 6 hq rfl trivial (fun _ => ?_)
  exact xq_mono (fr_out w63 hq 7 f 0 (by omega)) (fun v h' e => e.2)
end XFR
end
section
section XTO
set_option maxRecDepth 100000 in
set_option maxHeartbeats 4000000 in
/-- Ballot.wins -/
theorem wins_q {f x y : Nat} {B : Nat → Nat → Bool} {h : xh_H} (hx : x < 7) (hy : y < 7) (hB : ∀ x, x < 7 → xg 0 h.2.1 31 x = nI (msk (B x) 7)) (hq : a_rq a_tb h) : xq f xi_X0_wins xmi_X0_wins 0 [(0, .ref 28), (1, .int (nI x)), (2, .int (nI y))] [] h (fun v h' => h = h' ∧ v = some (.int (bl (B x y)))) := by
  have e : ((xg 0 h.2.1 31 (nI x).toNatClampNeg >>> (nI y &&& 31)) &&& Int32.ofInt 1) = bl (B x y) := by rw [nI_clamp (by omega), hB x hx, msk_b hy]
  cases c : B x y with
  | false =>
    refine xq_n 18 [] [] [.int (Int32.ofInt 0)] h [true] 12 hq rfl ⟨(show xe_c .eq ((xg 0 h.2.1 31 (nI x).toNatClampNeg >>> (nI y &&& 31)) &&& Int32.ofInt 1) 0 = true by rw [e, c]; rfl), trivial⟩ (fun _ => ?_)
    exact xq_ret rfl rfl rfl ⟨rfl, rfl⟩
  | true =>
    refine xq_n 18 [] [] [.int (Int32.ofInt 1)] h [false] 12 hq rfl ⟨(show xe_c .eq ((xg 0 h.2.1 31 (nI x).toNatClampNeg >>> (nI y &&& 31)) &&& Int32.ofInt 1) 0 = false by rw [e, c]; rfl), trivial⟩ (fun _ => ?_)
    exact xq_ret rfl rfl rfl ⟨rfl, rfl⟩
def S32 (c _k : Nat) : Bool := Nat.beq c 32
section
variable {B : Nat → Nat → Bool} {hb : xh_H}
/-- the rows of what comes behind what -/
def rC (C : Nat → Nat → Bool) (n : Nat) (h : xh_H) : Prop := ∀ y, y < n → xg 0 h.2.1 32 y = nI (msk (C y) 7)
set_option maxRecDepth 100000 in
set_option maxHeartbeats 4000000 in
theorem re_in (hB : ∀ x, x < 7 → xg 0 hb.2.1 31 x = nI (msk (B x) 7)) {y : Nat} (hy : y < 7) {Q : Option Value → xh_H → Prop} (K : ∀ (f : Nat) (h : xh_H), a_rq a_tb h → fx S32 fN hb h → rC (fun y x => B x y) (y + 1) h → xq f xi_X0_findReach xmi_X0_findReach 2 [(0, .ref 28), (1, .int (nI (y + 1)))] [] h Q) : ∀ (n f x : Nat) (h : xh_H), x + n = 7 → a_rq a_tb h → fx S32 fN hb h → rC (fun y x => B x y) y h → xg 0 h.2.1 32 y = nI (msk (fun x => B x y) x) → xq f xi_X0_findReach xmi_X0_findReach 17 [(0, .ref 28), (1, .int (nI y)), (2, .int (nI x))] [] h Q := by
  intro n
  induction n with
  | zero =>
    intro f x h hn hq ge R w
    have e : x = 7 := by omega
    subst e
    refine xq_n 2 [0, 1] [(0, .ref 28), (1, .int ((nI y) + Int32.ofInt 1))] [] h [true] 7 hq rfl ⟨rfl, trivial⟩ (fun _ => ?_)
    rw [show nI y + Int32.ofInt 1 = nI (y + 1) from nI_1 y]
    refine K f h hq ge (fun y' hy' => ?_)
    by_cases z : y' = y
    · rw [z]; exact w
    · exact R y' (by omega)
  | succ n ih =>
    intro f x h hn hq ge R w
    have xl : x < 7 := by omega
    have g0 : xe_c .ge (nI x) 7 = false := nge_f (b := 7) (by omega) (by decide) xl
    have nx : nI x + Int32.ofInt 1 = nI (x + 1) := nI_1 x
    have es : msk (fun x => B x y) (x + 1) = if B x y = true then msk (fun x => B x y) x ||| 2 ^ x else msk (fun x => B x y) x := rfl
    refine xq_n 26 [0, 1, 2] [(0, .ref 28), (1, .int (nI y)), (2, .int (nI x))] [.int (nI y), .int (nI x), .ref 28] h [false] 8 hq rfl ⟨g0, trivial⟩ (fun _ => ?_)
    refine xq_run hq rfl rfl (wins_q (B := B) xl hy (fun x hx => (fx_i ge rfl).trans (hB x hx)) hq) ?_
    rintro v h1 ⟨rfl, rfl⟩
    cases c : B x y with
    | false =>
      refine xq_n 17 [0, 1, 2] [(0, .ref 28), (1, .int (nI y)), (2, .int ((nI x) + Int32.ofInt 1))] [] h [true] 5 hq rfl ⟨rfl, trivial⟩ (fun _ => ?_)
      rw [nx]
      exact ih f (x + 1) h (by omega) hq ge R (by rw [es, c, if_neg (by decide)]; exact w)
    | true =>
      refine xq_n 17 [0, 1, 2] [(0, .ref 28), (1, .int (nI y)), (2, .int ((nI x) + Int32.ofInt 1))] [] (xh_ui h 32 (nI y).toNatClampNeg ((xg 0 h.2.1 32 (nI y).toNatClampNeg) ||| ((Int32.ofInt 1) <<< ((nI x) &&& 31)))) [false] 15 hq rfl ⟨rfl, trivial⟩ (fun _ => ?_)
      rw [nx, show (nI y).toNatClampNeg = y from nI_clamp (by omega), w, nI_o1 (by omega)]
      exact ih f (x + 1) _ (by omega) (a_rq_ui hq) (fx_ui ge rfl) (fun y' hy' => (gx_k (by omega)).trans (R y' hy')) (by rw [gx_s, es, c, if_pos rfl])
set_option maxRecDepth 100000 in
set_option maxHeartbeats 4000000 in
theorem rm_y {C : Nat → Nat → Bool} {m : Nat} (hm : m < 7) {Q : Option Value → xh_H → Prop} (K : ∀ (f : Nat) (h : xh_H), a_rq a_tb h → fx S32 fN hb h → rC (clo C (7 * (m + 1))) 7 h → xq f xi_X0_findReach xmi_X0_findReach 58 [(0, .ref 28), (1, .int (nI (m + 1)))] [] h Q) : ∀ (n f y : Nat) (h : xh_H), y + n = 7 → a_rq a_tb h → fx S32 fN hb h → rC (clo C (7 * m + y)) 7 h → xq f xi_X0_findReach xmi_X0_findReach 66 [(0, .ref 28), (1, .int (nI m)), (2, .int (nI y))] [] h Q := by
  intro n
  induction n with
  | zero =>
    intro f y h hn hq ge R
    have e : y = 7 := by omega
    subst e
    refine xq_n 58 [0, 1] [(0, .ref 28), (1, .int ((nI m) + Int32.ofInt 1))] [] h [true] 7 hq rfl ⟨rfl, trivial⟩ (fun _ => ?_)
    rw [show nI m + Int32.ofInt 1 = nI (m + 1) from nI_1 m]
    exact K f h hq ge (by rw [show 7 * (m + 1) = 7 * m + 7 by omega]; exact R)
  | succ n ih =>
    intro f y h hn hq ge R
    have yl : y < 7 := by omega
    have g0 : xe_c .ge (nI y) 7 = false := nge_f (b := 7) (by omega) (by decide) yl
    have nx : nI y + Int32.ofInt 1 = nI (y + 1) := nI_1 y
    have ec : clo C (7 * m + (y + 1)) = upr (clo C (7 * m + y)) m y 7 := by
      rw [show 7 * m + (y + 1) = (7 * m + y) + 1 by omega]
      show upr (clo C (7 * m + y)) ((7 * m + y) / 7) ((7 * m + y) % 7) 7 = _
      rw [show (7 * m + y) / 7 = m by omega, show (7 * m + y) % 7 = y by omega]
    have ek : (nI y).toNatClampNeg = y := nI_clamp (by omega)
    have em : (nI m).toNatClampNeg = m := nI_clamp (by omega)
    have e1 : ((xg 0 h.2.1 32 (nI y).toNatClampNeg >>> (nI m &&& 31)) &&& Int32.ofInt 1) = bl (clo C (7 * m + y) y m) := by rw [ek, R y yl, msk_b hm]
    generalize hD : clo C (7 * m + y) = D at R ec e1
    cases c : D y m with
    | false =>
      refine xq_n 66 [0, 1, 2] [(0, .ref 28), (1, .int (nI m)), (2, .int ((nI y) + Int32.ofInt 1))] [] h [false, true] 16 hq rfl ⟨g0, (show xe_c .eq ((xg 0 h.2.1 32 (nI y).toNatClampNeg >>> (nI m &&& 31)) &&& Int32.ofInt 1) 0 = true by rw [e1, c]; rfl), trivial⟩ (fun _ => ?_)
      rw [nx]
      refine ih f (y + 1) h (by omega) hq ge ?_
      rw [ec]
      intro y' hy'
      rw [R y' hy']
      congr 1
      refine msk_c 7 (fun x hx => ?_)
      unfold upr
      by_cases z : y' = y ∧ x < 7
      · rw [if_pos z, c, Bool.false_and, Bool.or_false, z.1]
      · rw [if_neg z]
    | true =>
      refine xq_n 66 [0, 1, 2] [(0, .ref 28), (1, .int (nI m)), (2, .int ((nI y) + Int32.ofInt 1))] [] (xh_ui h 32 (nI y).toNatClampNeg ((xg 0 h.2.1 32 (nI y).toNatClampNeg) ||| (xg 0 h.2.1 32 (nI m).toNatClampNeg))) [false, false] 28 hq rfl ⟨g0, (show xe_c .eq ((xg 0 h.2.1 32 (nI y).toNatClampNeg >>> (nI m &&& 31)) &&& Int32.ofInt 1) 0 = false by rw [e1, c]; rfl), trivial⟩ (fun _ => ?_)
      rw [nx, ek, em, R y yl, R m hm, msk_or]
      refine ih f (y + 1) _ (by omega) (a_rq_ui hq) (fx_ui ge rfl) ?_
      rw [ec]
      intro y' hy'
      by_cases z : y' = y
      · subst z
        rw [gx_s]
        congr 1
        refine msk_c 7 (fun x hx => ?_)
        unfold upr
        rw [if_pos ⟨rfl, hx⟩, c, Bool.true_and]
      · rw [gx_k z, R y' hy']
        congr 1
        refine msk_c 7 (fun x hx => ?_)
        unfold upr
        rw [if_neg (fun w => z w.1)]
set_option maxRecDepth 100000 in
set_option maxHeartbeats 4000000 in
theorem rm_m {C : Nat → Nat → Bool} : ∀ (n f m : Nat) (h : xh_H), m + n = 7 → a_rq a_tb h → fx S32 fN hb h → rC (clo C (7 * m)) 7 h → xq f xi_X0_findReach xmi_X0_findReach 58 [(0, .ref 28), (1, .int (nI m))] [] h (fun v h' => v = none ∧ fx S32 fN hb h' ∧ rC (clo C 49) 7 h') := by
  intro n
  induction n with
  | zero =>
    intro f m h hn hq ge R
    have e : m = 7 := by omega
    subst e
    refine xq_n 112 [] [] [] h [true] 5 hq rfl ⟨rfl, trivial⟩ (fun _ => ?_)
    exact xq_ret rfl rfl rfl ⟨rfl, ge, R⟩
  | succ n ih =>
    intro f m h hn hq ge R
    refine xq_n 66 [0, 1, 2] [(0, .ref 28), (1, .int (nI m)), (2, .int (Int32.ofInt 0))] [] h [false] 7 hq rfl ⟨(show xe_c .ge (nI m) 7 = false from nge_f (b := 7) (by omega) (by decide) (by omega)), trivial⟩ (fun _ => ?_)
    exact rm_y (m := m) (by omega) (fun f h hq ge J => ih f (m + 1) h (by omega) hq ge J) 7 f 0 h (by omega) hq ge (by rw [Nat.add_zero]; exact R)
set_option maxRecDepth 100000 in
set_option maxHeartbeats 4000000 in
theorem re_out (hB : ∀ x, x < 7 → xg 0 hb.2.1 31 x = nI (msk (B x) 7)) : ∀ (n f y : Nat) (h : xh_H), y + n = 7 → a_rq a_tb h → fx S32 fN hb h → rC (fun y x => B x y) y h → xq f xi_X0_findReach xmi_X0_findReach 2 [(0, .ref 28), (1, .int (nI y))] [] h (fun v h' => v = none ∧ fx S32 fN hb h' ∧ rC (clo (fun y x => B x y) 49) 7 h') := by
  intro n
  induction n with
  | zero =>
    intro f y h hn hq ge R
    have e : y = 7 := by omega
    subst e
    refine xq_n 58 [0, 1] [(0, .ref 28), (1, .int (Int32.ofInt 0))] [] h [true] 6 hq rfl ⟨rfl, trivial⟩ (fun _ => ?_)
    exact rm_m 7 f 0 h (by omega) hq ge R
  | succ n ih =>
    intro f y h hn hq ge R
    refine xq_n 17 [0, 1, 2] [(0, .ref 28), (1, .int (nI y)), (2, .int (Int32.ofInt 0))] [] (xh_ui h 32 (nI y).toNatClampNeg (Int32.ofInt 0)) [false] 12 hq rfl ⟨(show xe_c .ge (nI y) 7 = false from nge_f (b := 7) (by omega) (by decide) (by omega)), trivial⟩ (fun _ => ?_)
    rw [show (nI y).toNatClampNeg = y from nI_clamp (by omega)]
    exact re_in hB (y := y) (by omega) (fun f h hq ge J => ih f (y + 1) h (by omega) hq ge J) 7 f 0 _ (by omega) (a_rq_ui hq) (fx_ui ge rfl) (fun y' hy' => (gx_k (by omega)).trans (R y' hy')) gx_s
set_option maxRecDepth 100000 in
/-- Ballot.findReach -/
theorem re_q {f : Nat} (hB : ∀ x, x < 7 → xg 0 hb.2.1 31 x = nI (msk (B x) 7)) (hq : a_rq a_tb hb) : xq f xi_X0_findReach xmi_X0_findReach 0 [(0, .ref 28)] [] hb (fun v h' => v = none ∧ fx S32 fN hb h' ∧ rC (clo (fun y x => B x y) 49) 7 h') := by
  refine xq_n 2 [0, 1] [(0, .ref 28), (1, .int (Int32.ofInt 0))] [] hb [] 4 hq rfl trivial (fun _ => ?_)
  exact re_out hB 7 f 0 hb (by omega) hq fx_0 (fun y hy => absurd hy (Nat.not_lt_zero y))
end
/-- nothing below y comes behind x for which x doesn't come -/
def tpg (C : Nat → Nat → Bool) (x : Nat) : Nat → Bool
  | 0 => true
  | y + 1 => tpg C x y && !(C x y && !C y x)
theorem tpg_t {C : Nat → Nat → Bool} {x y : Nat} (h : (C x y && !C y x) = false) : tpg C x (y + 1) = tpg C x y := by
  show (tpg C x y && !(C x y && !C y x)) = _
  rw [h]
  cases tpg C x y <;> rfl
theorem tpg_f {C : Nat → Nat → Bool} {x y : Nat} (h : (C x y && !C y x) = true) : tpg C x (y + 1) = false := by
  show (tpg C x y && !(C x y && !C y x)) = _
  rw [h]
  cases tpg C x y <;> rfl
section
variable {C : Nat → Nat → Bool} {h : xh_H}
set_option maxRecDepth 100000 in
set_option maxHeartbeats 4000000 in
theorem be_in (R : rC C 7 h) (hq : a_rq a_tb h) {x : Nat} {v1 : Int32} (hx : x < 7) {Q : Option Value → xh_H → Prop} (K : ∀ (f : Nat), xq f xi_X0_best xmi_X0_best 62 [(0, .ref 28), (1, .int v1), (2, .int (nI x)), (3, .int (bl (tpg C x 7)))] [] h Q) : ∀ (n f y : Nat), y + n = 7 → xq f xi_X0_best xmi_X0_best 19 [(0, .ref 28), (1, .int v1), (2, .int (nI x)), (3, .int (bl (tpg C x y))), (4, .int (nI y))] [] h Q := by
  intro n
  induction n with
  | zero =>
    intro f y hn
    have e : y = 7 := by omega
    subst e
    refine xq_n 62 [0, 1, 2, 3] [(0, .ref 28), (1, .int v1), (2, .int (nI x)), (3, .int (bl (tpg C x 7)))] [] h [true] 5 hq rfl ⟨rfl, trivial⟩ (fun _ => ?_)
    exact K f
  | succ n ih =>
    intro f y hn
    have yl : y < 7 := by omega
    have g0 : xe_c .ge (nI y) 7 = false := nge_f (b := 7) (by omega) (by decide) yl
    have nx : nI y + Int32.ofInt 1 = nI (y + 1) := nI_1 y
    have e1 : ((xg 0 h.2.1 32 (nI x).toNatClampNeg >>> (nI y &&& 31)) &&& Int32.ofInt 1) = bl (C x y) := by rw [nI_clamp (by omega), R x hx, msk_b yl]
    have e2 : ((xg 0 h.2.1 32 (nI y).toNatClampNeg >>> (nI x &&& 31)) &&& Int32.ofInt 1) = bl (C y x) := by rw [nI_clamp (by omega), R y yl, msk_b hx]
    cases c1 : C x y with
    | false =>
      refine xq_n 19 [0, 1, 2, 3, 4] [(0, .ref 28), (1, .int v1), (2, .int (nI x)), (3, .int (bl (tpg C x y))), (4, .int ((nI y) + Int32.ofInt 1))] [] h [false, true] 16 hq rfl ⟨g0, (show xe_c .eq ((xg 0 h.2.1 32 (nI x).toNatClampNeg >>> (nI y &&& 31)) &&& Int32.ofInt 1) 0 = true by rw [e1, c1]; rfl), trivial⟩ (fun _ => ?_)
      rw [nx, ← tpg_t (by rw [c1]; rfl)]
      exact ih f (y + 1) (by omega)
    | true =>
      cases c2 : C y x with
      | true =>
        refine xq_n 19 [0, 1, 2, 3, 4] [(0, .ref 28), (1, .int v1), (2, .int (nI x)), (3, .int (bl (tpg C x y))), (4, .int ((nI y) + Int32.ofInt 1))] [] h [false, false, true] 26 hq rfl ⟨g0, (show xe_c .eq ((xg 0 h.2.1 32 (nI x).toNatClampNeg >>> (nI y &&& 31)) &&& Int32.ofInt 1) 0 = false by rw [e1, c1]; rfl), (show xe_c .ne ((xg 0 h.2.1 32 (nI y).toNatClampNeg >>> (nI x &&& 31)) &&& Int32.ofInt 1) 0 = true by rw [e2, c2]; rfl), trivial⟩ (fun _ => ?_)
        rw [nx, ← tpg_t (by rw [c1, c2]; rfl)]
        exact ih f (y + 1) (by omega)
      | false =>
        refine xq_n 19 [0, 1, 2, 3, 4] [(0, .ref 28), (1, .int v1), (2, .int (nI x)), (3, .int (Int32.ofInt 0)), (4, .int ((nI y) + Int32.ofInt 1))] [] h [false, false, false] 28 hq rfl ⟨g0, (show xe_c .eq ((xg 0 h.2.1 32 (nI x).toNatClampNeg >>> (nI y &&& 31)) &&& Int32.ofInt 1) 0 = false by rw [e1, c1]; rfl), (show xe_c .ne ((xg 0 h.2.1 32 (nI y).toNatClampNeg >>> (nI x &&& 31)) &&& Int32.ofInt 1) 0 = false by rw [e2, c2]; rfl), trivial⟩ (fun _ => ?_)
        have r := ih f (y + 1) (by omega)
        rw [tpg_f (by rw [c1, c2]; rfl)] at r
        rw [nx]
        exact r
set_option maxRecDepth 100000 in
set_option maxHeartbeats 4000000 in
theorem be_out (R : rC C 7 h) (hq : a_rq a_tb h) : ∀ (n f x : Nat), x + n = 7 → xq f xi_X0_best xmi_X0_best 8 [(0, .ref 28), (1, .int (nI (msk (fun x => tpg C x 7) x))), (2, .int (nI x))] [] h (fun v h' => v = some (.int (nI (msk (fun x => tpg C x 7) 7)))) := by
  intro n
  induction n with
  | zero =>
    intro f x hn
    have e : x = 7 := by omega
    subst e
    refine xq_n 79 [] [] [.int (nI (msk (fun x => tpg C x 7) 7))] h [true] 6 hq rfl ⟨rfl, trivial⟩ (fun _ => ?_)
    exact xq_ret rfl rfl rfl rfl
  | succ n ih =>
    intro f x hn
    have g0 : xe_c .ge (nI x) 7 = false := nge_f (b := 7) (by omega) (by decide) (by omega)
    have nx : nI x + Int32.ofInt 1 = nI (x + 1) := nI_1 x
    refine xq_n 19 [0, 1, 2, 3, 4] [(0, .ref 28), (1, .int (nI (msk (fun x => tpg C x 7) x))), (2, .int (nI x)), (3, .int (Int32.ofInt 1)), (4, .int (Int32.ofInt 0))] [] h [false] 9 hq rfl ⟨g0, trivial⟩ (fun _ => ?_)
    refine be_in R hq (x := x) (by omega) (fun f => ?_) 7 f 0 (by omega)
    have es : msk (fun x => tpg C x 7) (x + 1) = if tpg C x 7 = true then msk (fun x => tpg C x 7) x ||| 2 ^ x else msk (fun x => tpg C x 7) x := rfl
    cases c : tpg C x 7 with
    | false =>
      refine xq_n 8 [0, 1, 2] [(0, .ref 28), (1, .int (nI (msk (fun x => tpg C x 7) x))), (2, .int ((nI x) + Int32.ofInt 1))] [] h [true] 6 hq rfl ⟨rfl, trivial⟩ (fun _ => ?_)
      have r := ih f (x + 1) (by omega)
      rw [es, c, if_neg (by decide)] at r
      rw [nx]
      exact r
    | true =>
      refine xq_n 8 [0, 1, 2] [(0, .ref 28), (1, .int ((nI (msk (fun x => tpg C x 7) x)) ||| ((Int32.ofInt 1) <<< ((nI x) &&& 31)))), (2, .int ((nI x) + Int32.ofInt 1))] [] h [false] 12 hq rfl ⟨rfl, trivial⟩ (fun _ => ?_)
      have r := ih f (x + 1) (by omega)
      rw [es, c, if_pos rfl] at r
      rw [nx, nI_o1 (by omega)]
      exact r
set_option maxRecDepth 100000 in
set_option maxHeartbeats 4000000 in
theorem to_in (M : mC C h) (hq : a_rq a_tb h) {x : Nat} {v1 : Int32} (hx : x < 7) {Q : Option Value → xh_H → Prop} (K : ∀ (f : Nat), xq f xi_X10_top xmi_X10_top 69 [(0, .ref 39), (1, .int v1), (2, .int (nI x)), (3, .int (bl (tpg C x 7)))] [] h Q) : ∀ (n f y : Nat), y + n = 7 → xq f xi_X10_top xmi_X10_top 24 [(0, .ref 39), (1, .int v1), (2, .int (nI x)), (3, .int (bl (tpg C x y))), (4, .int (nI y))] [] h Q := by
  intro n
  induction n with
  | zero =>
    intro f y hn
    have e : y = 7 := by omega
    subst e
    refine xq_n 69 [0, 1, 2, 3] [(0, .ref 39), (1, .int v1), (2, .int (nI x)), (3, .int (bl (tpg C x 7)))] [] h [true] 5 hq rfl ⟨rfl, trivial⟩ (fun _ => ?_)
    exact K f
  | succ n ih =>
    intro f y hn
    have yl : y < 7 := by omega
    have g0 : xe_c .ge (nI y) 7 = false := nge_f (b := 7) (by omega) (by decide) yl
    have nx : nI y + Int32.ofInt 1 = nI (y + 1) := nI_1 y
    have e1 : xg 0 h.2.1 64 (7 * nI x + nI y).toNatClampNeg = bl (C x y) := by rw [i7_b, nI_clamp (by omega)]; exact M x y hx yl
    have e2 : xg 0 h.2.1 64 (7 * nI y + nI x).toNatClampNeg = bl (C y x) := by rw [i7_b, nI_clamp (by omega)]; exact M y x yl hx
    cases c1 : C x y with
    | false =>
      refine xq_n 24 [0, 1, 2, 3, 4] [(0, .ref 39), (1, .int v1), (2, .int (nI x)), (3, .int (bl (tpg C x y))), (4, .int ((nI y) + Int32.ofInt 1))] [] h [false, true] 15 hq rfl ⟨g0, (show xe_c .eq (xg 0 h.2.1 64 (7 * nI x + nI y).toNatClampNeg) 0 = true by rw [e1, c1]; rfl), trivial⟩ (fun _ => ?_)
      rw [nx, ← tpg_t (by rw [c1]; rfl)]
      exact ih f (y + 1) (by omega)
    | true =>
      cases c2 : C y x with
      | true =>
        refine xq_n 24 [0, 1, 2, 3, 4] [(0, .ref 39), (1, .int v1), (2, .int (nI x)), (3, .int (bl (tpg C x y))), (4, .int ((nI y) + Int32.ofInt 1))] [] h [false, false, true] 24 hq rfl ⟨g0, (show xe_c .eq (xg 0 h.2.1 64 (7 * nI x + nI y).toNatClampNeg) 0 = false by rw [e1, c1]; rfl), (show xe_c .ne (xg 0 h.2.1 64 (7 * nI y + nI x).toNatClampNeg) 0 = true by rw [e2, c2]; rfl), trivial⟩ (fun _ => ?_)
        rw [nx, ← tpg_t (by rw [c1, c2]; rfl)]
        exact ih f (y + 1) (by omega)
      | false =>
        refine xq_n 24 [0, 1, 2, 3, 4] [(0, .ref 39), (1, .int v1), (2, .int (nI x)), (3, .int (Int32.ofInt 0)), (4, .int ((nI y) + Int32.ofInt 1))] [] h [false, false, false] 26 hq rfl ⟨g0, (show xe_c .eq (xg 0 h.2.1 64 (7 * nI x + nI y).toNatClampNeg) 0 = false by rw [e1, c1]; rfl), (show xe_c .ne (xg 0 h.2.1 64 (7 * nI y + nI x).toNatClampNeg) 0 = false by rw [e2, c2]; rfl), trivial⟩ (fun _ => ?_)
        have r := ih f (y + 1) (by omega)
        rw [tpg_f (by rw [c1, c2]; rfl)] at r
        rw [nx]
        exact r
set_option maxRecDepth 100000 in
set_option maxHeartbeats 4000000 in
theorem to_out (M : mC C h) (hq : a_rq a_tb h) : ∀ (n f x : Nat), x + n = 7 → xq f xi_X10_top xmi_X10_top 13 [(0, .ref 39), (1, .int (nI (msk (fun x => tpg C x 7) x))), (2, .int (nI x))] [] h (fun v h' => v = some (.int (nI (msk (fun x => tpg C x 7) 7)))) := by
  intro n
  induction n with
  | zero =>
    intro f x hn
    have e : x = 7 := by omega
    subst e
    refine xq_n 86 [] [] [.int (nI (msk (fun x => tpg C x 7) 7))] h [true] 6 hq rfl ⟨rfl, trivial⟩ (fun _ => ?_)
    exact xq_ret rfl rfl rfl rfl
  | succ n ih =>
    intro f x hn
    have g0 : xe_c .ge (nI x) 7 = false := nge_f (b := 7) (by omega) (by decide) (by omega)
    have nx : nI x + Int32.ofInt 1 = nI (x + 1) := nI_1 x
    refine xq_n 24 [0, 1, 2, 3, 4] [(0, .ref 39), (1, .int (nI (msk (fun x => tpg C x 7) x))), (2, .int (nI x)), (3, .int (Int32.ofInt 1)), (4, .int (Int32.ofInt 0))] [] h [false] 9 hq rfl ⟨g0, trivial⟩ (fun _ => ?_)
    refine to_in M hq (x := x) (by omega) (fun f => ?_) 7 f 0 (by omega)
    have es : msk (fun x => tpg C x 7) (x + 1) = if tpg C x 7 = true then msk (fun x => tpg C x 7) x ||| 2 ^ x else msk (fun x => tpg C x 7) x := rfl
    cases c : tpg C x 7 with
    | false =>
      refine xq_n 13 [0, 1, 2] [(0, .ref 39), (1, .int (nI (msk (fun x => tpg C x 7) x))), (2, .int ((nI x) + Int32.ofInt 1))] [] h [true] 6 hq rfl ⟨rfl, trivial⟩ (fun _ => ?_)
      have r := ih f (x + 1) (by omega)
      rw [es, c, if_neg (by decide)] at r
      rw [nx]
      exact r
    | true =>
      refine xq_n 13 [0, 1, 2] [(0, .ref 39), (1, .int ((nI (msk (fun x => tpg C x 7) x)) ||| ((Int32.ofInt 1) <<< ((nI x) &&& 31)))), (2, .int ((nI x) + Int32.ofInt 1))] [] h [false] 12 hq rfl ⟨rfl, trivial⟩ (fun _ => ?_)
      have r := ih f (x + 1) (by omega)
      rw [es, c, if_pos rfl] at r
      rw [nx, nI_o1 (by omega)]
      exact r
end
/-- what top answers -/
def toA (B : Nat → Nat → Bool) : Int32 := nI (msk (fun x => tpg (clo (fun y x => B x y) 49) x 7) 7)
set_option maxRecDepth 100000 in
set_option maxHeartbeats 4000000 in
theorem to9_q {f mem sc : Nat} {PL : Nat → Int32} {d : Int32} {h : xh_H} (hi : a_inv a_tb h) (e9 : xg 0 h.2.1 0 9 = nI mem) (m12 : mem ≤ 12) (e8 : xg 0 h.2.1 0 8 = nI sc) (sc8 : sc ≤ 8) (e10 : xg 0 h.2.1 0 10 = d) (si : SI h) (hP : ∀ k, k < 84 → xg 0 h.2.1 30 k = PL k) (hq : a_rq a_tb h) : xq f xi_X9_top xmi_X9_top 0 [(0, .ref 0)] [] h (fun v h' => v = some (.int (toA (BT PL (cvB (fun k => xg 0 h.2.1 51 k) (fun k => xg 0 h.2.1 44 k) mem sc d) mem)))) := by
  obtain ⟨⟨u1, u2, u3⟩, si⟩ := si
  obtain ⟨SS, un⟩ := si mem sc e9 m12 e8 sc8
  refine xq_n 9 [0] [(0, .ref 0)] [.int (xg 0 h.2.1 0 10), .ref 0, .ref 28] h [] 7 hq rfl trivial (fun _ => ?_)
  rw [e10]
  refine xq_run hq rfl rfl (if9_q hi e8 sc8 u1 u2 SS hq) ?_
  rintro v h1 ⟨rfl, Q, rfl, fd⟩
  refine xq_n 16 [0] [(0, .ref 0)] [.int (xg 0 h.2.1 0 9), .ref Q, .ref 28] h [] 4 hq rfl trivial (fun _ => ?_)
  rw [e9]
  obtain ⟨r, g1, g2, -⟩ := hv_cv hi m12 SS un u3 hq (s := 0) (Nat.two_pow_pos mem) fd
  refine xq_run hq rfl rfl (mat_q (PL := PL) (W := cvB (fun k => xg 0 h.2.1 51 k) (fun k => xg 0 h.2.1 44 k) mem sc d) m12 fd.1 g1 g2 (fun s hs => by
    obtain ⟨r', g1', -, g3⟩ := hv_cv hi m12 SS un u3 hq hs fd
    rw [g1] at g1'
    cases g1'
    exact g3) hP hq) ?_
  rintro v h1 ⟨rfl, g4, w31⟩
  have hq := fx_q g4 hq
  refine xq_n 23 [] [] [.ref 28] h1 [] 4 hq rfl trivial (fun _ => ?_)
  refine xq_run (Q1 := fun v h' => v = some (.int (toA (BT PL (cvB (fun k => xg 0 h.2.1 51 k) (fun k => xg 0 h.2.1 44 k) mem sc d) mem)))) hq rfl rfl ?_ ?_
  · refine xq_n 1 [0] [(0, .ref 28)] [.ref 28] h1 [] 3 hq rfl trivial (fun _ => ?_)
    refine xq_run hq rfl rfl (re_q (B := BT PL (cvB (fun k => xg 0 h.2.1 51 k) (fun k => xg 0 h.2.1 44 k) mem sc d) mem) w31 hq) ?_
    rintro v h2 ⟨rfl, g5, R⟩
    have hq := fx_q g5 hq
    refine xq_n 8 [0, 1, 2] [(0, .ref 28), (1, .int (Int32.ofInt 0)), (2, .int (Int32.ofInt 0))] [] h2 [] 6 hq rfl trivial (fun _ => ?_)
    exact be_out R hq 7 f 0 (by omega)
  · rintro v h2 rfl
    exact xq_ret rfl rfl rfl rfl
set_option maxRecDepth 100000 in
set_option maxHeartbeats 4000000 in
theorem to10_q {f mem sc : Nat} {FR RW PL : Nat → Int32} {d : Int32} {h : xh_H} (m12 : mem ≤ 12) (e4 : xg 0 h.2.1 39 4 = nI mem) (e33 : xg 0 h.2.1 39 33 = nI sc) (sc8 : sc ≤ 8) (e3 : xg 0 h.2.1 39 3 = d) (hF : ∀ k, k < sc → xg 0 h.2.1 51 k = FR k) (hT : ∀ k, k < sc → (xg 0 h.2.1 52 k).toInt ≤ 999) (hR : ∀ k s, k < sc → s < 2 ^ mem → ∃ b : Bool, RW (4096 * k + s) = bl b ∧ xg 0 h.2.1 44 (4096 * k + s) = bl b) (hP : ∀ k, k < 84 → xg 0 h.2.1 62 k = PL k) (hq : a_rq a_tb h) : xq f xi_X10_top xmi_X10_top 0 [(0, .ref 39)] [] h (fun v h' => v = some (.int (toA (BT PL (cvB FR RW mem sc d) mem)))) := by
  refine xq_n 6 [0] [(0, .ref 39)] [.ref 39] (xh_ui h 39 0 (Int32.ofInt 0)) [] 6 hq rfl trivial (fun _ => ?_)
  have hq : a_rq a_tb (xh_ui h 39 0 (Int32.ofInt 0)) := a_rq_ui hq
  refine xq_run hq rfl rfl (lop_q (FR := FR) (RW := RW) (PL := PL) (h := xh_ui h 39 0 (Int32.ofInt 0)) m12 ((gx_k (by decide)).trans e4) ((gx_k (by decide)).trans e33) sc8 ((gx_k (by decide)).trans e3) (fun k hk' => (gx_o (by decide)).trans (hF k hk')) (fun k hk' => by rw [gx_o (by decide)]; exact hT k hk') (fun k s h1 h2 => by obtain ⟨b, b1, b2⟩ := hR k s h1 h2; exact ⟨b, b1, (gx_o (by decide)).trans b2⟩) (fun k hk' => (gx_o (by decide)).trans (hP k hk')) hq) ?_
  rintro v h1 ⟨rfl, g1, w53, w63, w64⟩
  have hq := fx_q g1 hq
  refine xq_n 13 [0, 1, 2] [(0, .ref 39), (1, .int (Int32.ofInt 0)), (2, .int (Int32.ofInt 0))] [] h1 [] 6 hq rfl trivial (fun _ => ?_)
  exact to_out w64 hq 7 f 0 (by omega)
end XTO
end
section
section XLE
/-- what stands once another comes -/
def sd (B : Nat → Nat → Bool) (s c : Nat) : Nat := if B c s = true then c else s
/-- what a row comes to as it comes -/
def fo (B : Nat → Nat → Bool) (T : Nat → Nat) : Nat → Nat
  | 0 => T 0
  | n + 1 => sd B (fo B T n) (T (n + 1))
/-- what is come to from s with j of the row still to come -/
def th (B : Nat → Nat → Bool) (T : Nat → Nat) (n : Nat) : Nat → Nat → Nat
  | 0, s => s
  | j + 1, s => sd B (th B T n j s) (th B T n j (T (n - (j + 1))))
theorem sd_lt {B : Nat → Nat → Bool} {s c : Nat} (hs : s < 7) (hc : c < 7) : sd B s c < 7 := by
  unfold sd
  split <;> assumption
theorem fo_lt {B : Nat → Nat → Bool} {T : Nat → Nat} : ∀ n, (∀ k, k ≤ n → T k < 7) → fo B T n < 7 := by
  intro n
  induction n with
  | zero => intro h; exact h 0 (by omega)
  | succ n ih => intro h; exact sd_lt (ih (fun k hk' => h k (by omega))) (h (n + 1) (by omega))
theorem th_lt {B : Nat → Nat → Bool} {T : Nat → Nat} {n : Nat} (n0 : 0 < n) (h : ∀ k, k < n → T k < 7) : ∀ j s, s < 7 → th B T n j s < 7 := by
  intro j
  induction j with
  | zero => intro s hs; exact hs
  | succ j ih => intro s hs; exact sd_lt (ih s hs) (ih _ (h _ (by omega)))
theorem ro_s {T : Nat → Nat} : ∀ (j i m : Nat), m < 128 → ro T j i (nI m) = true → (∀ k, i ≤ k → k < i + j → T k < 7 ∧ m.testBit (T k) = false) ∧ ∀ k l, i ≤ k → k < l → l < i + j → T k ≠ T l := by
  intro j
  induction j with
  | zero => intro i m _ _; exact ⟨fun k h1 h2 => absurd h2 (by omega), fun k l h1 h2 h3 => absurd h3 (by omega)⟩
  | succ j ih =>
    intro i m m1 h
    have hR : ro T (j + 1) i (nI m) = (decide (T i < 7) && (xe_c .eq ((nI m >>> (nI (T i) &&& 31)) &&& Int32.ofInt 1) 0 && ro T j (i + 1) (nI m ||| (Int32.ofInt 1 <<< (nI (T i) &&& 31))))) := rfl
    rw [hR, Bool.and_eq_true, Bool.and_eq_true] at h
    obtain ⟨a, b, c⟩ := h
    have t7 := of_decide_eq_true a
    rw [nI_b0 (by omega) (by omega)] at b
    have b' : m.testBit (T i) = false := by
      cases z : m.testBit (T i) with
      | false => rfl
      | true => rw [z] at b; exact absurd b (by decide)
    rw [nI_o1 (by omega)] at c
    have p7 : 2 ^ T i < 2 ^ 7 := Nat.pow_lt_pow_right (by decide) t7
    obtain ⟨d1, d2⟩ := ih (i + 1) (m ||| 2 ^ T i) (Nat.or_lt_two_pow (n := 7) m1 p7) c
    have ne : ∀ k, i + 1 ≤ k → k < i + 1 + j → T i ≠ T k ∧ m.testBit (T k) = false := fun k k1 k2 => by
      have e := (d1 k k1 k2).2
      rw [Nat.testBit_or, Bool.or_eq_false_iff, Nat.testBit_two_pow] at e
      exact ⟨of_decide_eq_false e.2, e.1⟩
    refine ⟨fun k k1 k2 => ?_, fun k l k1 k2 k3 => ?_⟩
    · by_cases z : k = i
      · rw [z]; exact ⟨t7, b'⟩
      · exact ⟨(d1 k (by omega) (by omega)).1, (ne k (by omega) (by omega)).2⟩
    · by_cases z : k = i
      · rw [z]; exact (ne l (by omega) (by omega)).1
      · exact d2 k l (by omega) k2 (by omega)
theorem ro_t {T : Nat → Nat} {n : Nat} (h : ro T n 0 (Int32.ofInt 0) = true) : (∀ k, k < n → T k < 7) ∧ ∀ k l, k < n → l < n → T k = T l → k = l := by
  obtain ⟨a, b⟩ := ro_s n 0 0 (by decide) h
  refine ⟨fun k hk' => (a k (by omega) (by omega)).1, fun k l h1 h2 e => ?_⟩
  rcases Nat.lt_trichotomy k l with z | z | z
  · exact absurd e (b k l (by omega) z (by omega))
  · exact z
  · exact absurd e.symm (b l k (by omega) z (by omega))
set_option maxRecDepth 100000 in
set_option maxHeartbeats 4000000 in
theorem sta_q {f s c : Nat} {B : Nat → Nat → Bool} {h : xh_H} (hs : s < 7) (hc : c < 7) (hB : ∀ x, x < 7 → xg 0 h.2.1 31 x = nI (msk (B x) 7)) (hq : a_rq a_tb h) : xq f xi_X0_stands xmi_X0_stands 0 [(0, .ref 28), (1, .int (nI s)), (2, .int (nI c))] [] h (fun v h' => h = h' ∧ v = some (.int (nI (sd B s c)))) := by
  refine xq_n 3 [1, 2] [(1, .int (nI s)), (2, .int (nI c))] [.int (nI s), .int (nI c), .ref 28] h [] 60 hq rfl trivial (fun _ => ?_)
  refine xq_run hq rfl rfl (wins_q hc hs hB hq) ?_
  rintro v h1 ⟨rfl, rfl⟩
  unfold sd
  cases c1 : B c s with
  | true =>
    refine xq_n 14 [] [] [.int (nI c)] h [false] 60 hq rfl ⟨rfl, trivial⟩ (fun _ => ?_)
    exact xq_ret rfl rfl rfl ⟨rfl, by rw [if_pos rfl]⟩
  | false =>
    refine xq_n 14 [] [] [.int (nI s)] h [true] 60 hq rfl ⟨rfl, trivial⟩ (fun _ => ?_)
    exact xq_ret rfl rfl rfl ⟨rfl, by rw [if_neg (by decide)]⟩
set_option maxRecDepth 100000 in
set_option maxHeartbeats 4000000 in
theorem fol_l {n : Nat} {T : Nat → Nat} {B : Nat → Nat → Bool} {h : xh_H} (hc : ct h T n) (tl : ∀ k, k < n → T k < 7) (hB : ∀ x, x < 7 → xg 0 h.2.1 31 x = nI (msk (B x) 7)) (hq : a_rq a_tb h) : ∀ (j f i : Nat), i + j + 1 = n → xq f xi_X0_follow xmi_X0_follow 8 [(0, .ref 28), (1, .ref 1), (2, .int (nI (fo B T i))), (3, .int (nI (i + 1)))] [] h (fun v h' => h = h' ∧ v = some (.int (nI (fo B T (n - 1))))) := by
  have n6 := hc.2.1
  intro j
  induction j with
  | zero =>
    intro f i ij
    refine xq_n 34 [] [] [.int (nI (fo B T i))] h [true] 60 hq rfl ⟨(show xe_c .ge (nI (i + 1)) (xg 0 h.2.1 1 1) = true by rw [show xg 0 h.2.1 1 1 = nI n from hc.1]; exact nge_t (by omega) (by omega) (by omega)), trivial⟩ (fun _ => ?_)
    exact xq_ret rfl rfl rfl ⟨rfl, by rw [show n - 1 = i by omega]⟩
  | succ j ih =>
    intro f i ij
    refine xq_n 20 [0, 1, 2, 3] [(0, .ref 28), (1, .ref 1), (2, .int (nI (fo B T i))), (3, .int (nI (i + 1)))] [.int (nI (i + 1)), .ref 1, .int (nI (fo B T i)), .ref 28] h [false] 60 hq rfl ⟨(show xe_c .ge (nI (i + 1)) (xg 0 h.2.1 1 1) = false by rw [show xg 0 h.2.1 1 1 = nI n from hc.1]; exact nge_f (by omega) (by omega) (by omega)), trivial⟩ (fun _ => ?_)
    refine xq_run hq rfl rfl (at_q hc (p := i + 1) (by omega) hq) ?_
    rintro v h1 ⟨rfl, rfl⟩
    refine xq_run hq rfl rfl (sta_q (s := fo B T i) (c := T (i + 1)) (fo_lt i (fun k hk' => tl k (by omega))) (tl _ (by omega)) hB hq) ?_
    rintro v h1 ⟨rfl, rfl⟩
    refine xq_n 8 [0, 1, 2, 3] [(0, .ref 28), (1, .ref 1), (2, .int (nI (sd B (fo B T i) (T (i + 1))))), (3, .int (nI (i + 1) + Int32.ofInt 1))] [] h [] 60 hq rfl trivial (fun _ => ?_)
    rw [show nI (i + 1) + Int32.ofInt 1 = nI (i + 1 + 1) from nI_1 _]
    exact ih f (i + 1) (by omega)
set_option maxRecDepth 100000 in
set_option maxHeartbeats 4000000 in
theorem fol_q {f n : Nat} {T : Nat → Nat} {B : Nat → Nat → Bool} {h : xh_H} (n1 : 1 ≤ n) (hc : ct h T n) (tl : ∀ k, k < n → T k < 7) (hB : ∀ x, x < 7 → xg 0 h.2.1 31 x = nI (msk (B x) 7)) (hq : a_rq a_tb h) : xq f xi_X0_follow xmi_X0_follow 0 [(0, .ref 28), (1, .ref 1)] [] h (fun v h' => h = h' ∧ v = some (.int (nI (fo B T (n - 1))))) := by
  refine xq_n 2 [0, 1] [(0, .ref 28), (1, .ref 1)] [.int (Int32.ofInt 0), .ref 1] h [] 60 hq rfl trivial (fun _ => ?_)
  refine xq_run hq rfl rfl (at_q hc (p := 0) (by omega) hq) ?_
  rintro v h1 ⟨rfl, rfl⟩
  refine xq_n 8 [0, 1, 2, 3] [(0, .ref 28), (1, .ref 1), (2, .int (nI (T 0))), (3, .int (Int32.ofInt 1))] [] h [] 60 hq rfl trivial (fun _ => ?_)
  exact fol_l hc tl hB hq (n - 1) f 0 (by omega)
def S33 (c _k : Nat) : Bool := Nat.beq c 33
section
variable {n : Nat} {T : Nat → Nat} {B : Nat → Nat → Bool} {hb : xh_H}
set_option maxRecDepth 100000 in
set_option maxHeartbeats 4000000 in
theorem fse_in (hc : ct hb T n) (tl : ∀ k, k < n → T k < 7) (inj : ∀ k l, k < n → l < n → T k = T l → k = l) (hB : ∀ x, x < 7 → xg 0 hb.2.1 31 x = nI (msk (B x) 7)) {i j : Nat} (ij : i + j + 2 = n) {Q : Option Value → xh_H → Prop} (K : ∀ (f : Nat) (h : xh_H), a_rq a_tb h → fx S33 fN hb h → (∀ a, a ≤ i → xg 0 h.2.1 33 (T a) = nI (th B T n (j + 1) (T a))) → xq f xi_X0_foresee xmi_X0_foresee 28 [(0, .ref 28), (1, .ref 1), (2, .int (nI i))] [] h Q) : ∀ (m f a : Nat) (h : xh_H), a + m = i + 1 → a_rq a_tb h → fx S33 fN hb h → (∀ b, b < a → xg 0 h.2.1 33 (T b) = nI (th B T n (j + 1) (T b))) → (∀ b, a ≤ b → b ≤ i → xg 0 h.2.1 33 (T b) = nI (th B T n j (T b))) → xq f xi_X0_foresee xmi_X0_foresee 46 [(0, .ref 28), (1, .ref 1), (2, .int (nI (i + 1))), (3, .int (nI (th B T n j (T (i + 1))))), (4, .int (nI a))] [] h Q := by
  have n6 := hc.2.1
  intro m
  induction m with
  | zero =>
    intro f a h am hq ge w1 w2
    refine xq_n 28 [0, 1, 2] [(0, .ref 28), (1, .ref 1), (2, .int (nI (i + 1) + Int32.ofInt (-1)))] [] h [true] 60 hq rfl ⟨nge_t (by omega) (by omega) (by omega), trivial⟩ (fun _ => ?_)
    rw [nI_dec i]
    exact K f h hq ge (fun b hb' => w1 b (by omega))
  | succ m ih =>
    intro f a h am hq ge w1 w2
    have ta := tl a (by omega)
    refine xq_n 55 [0, 1, 2, 3, 4] [(0, .ref 28), (1, .ref 1), (2, .int (nI (i + 1))), (3, .int (nI (th B T n j (T (i + 1))))), (4, .int (nI a))] [.int (nI a), .ref 1] h [false] 60 hq rfl ⟨nge_f (by omega) (by omega) (by omega), trivial⟩ (fun _ => ?_)
    refine xq_run hq rfl rfl (at_q (ct_f hc ge rfl (fun _ => rfl)) (p := a) (by omega) hq) ?_
    rintro v h1 ⟨rfl, rfl⟩
    refine xq_n 75 [0, 1, 2, 3, 4] [(0, .ref 28), (1, .ref 1), (2, .int (nI (i + 1))), (3, .int (nI (th B T n j (T (i + 1))))), (4, .int (nI a))] [.int (nI (th B T n j (T (i + 1)))), .int (xg 0 h.2.1 33 (nI (T a)).toNatClampNeg), .ref 28, .int (nI (T a)), .ref 33] h [] 60 hq rfl trivial (fun _ => ?_)
    rw [nI_clamp (by omega), w2 a (by omega) (by omega)]
    refine xq_run hq rfl rfl (sta_q (s := th B T n j (T a)) (c := th B T n j (T (i + 1))) (B := B) (th_lt (by omega) tl j _ ta) (th_lt (by omega) tl j _ (tl _ (by omega))) (fun x hx => (fx_i ge rfl).trans (hB x hx)) hq) ?_
    rintro v h1 ⟨rfl, rfl⟩
    refine xq_n 46 [0, 1, 2, 3, 4] [(0, .ref 28), (1, .ref 1), (2, .int (nI (i + 1))), (3, .int (nI (th B T n j (T (i + 1))))), (4, .int (nI a + Int32.ofInt 1))] [] (xh_ui h 33 (nI (T a)).toNatClampNeg (nI (sd B (th B T n j (T a)) (th B T n j (T (i + 1)))))) [] 60 hq rfl trivial (fun _ => ?_)
    rw [show nI a + Int32.ofInt 1 = nI (a + 1) from nI_1 _, show (nI (T a)).toNatClampNeg = T a from nI_clamp (by omega)]
    refine ih f (a + 1) _ (by omega) (a_rq_ui hq) (fx_ui ge rfl) (fun b hb' => ?_) (fun b h1 h2 => ?_)
    · by_cases z : b = a
      · rw [z, gx_s]
        show _ = nI (sd B (th B T n j (T a)) (th B T n j (T (n - (j + 1)))))
        rw [show n - (j + 1) = i + 1 by omega]
      · have := fun e => z (inj b a (by omega) (by omega) e)
        exact (gx_k (by omega)).trans (w1 b (by omega))
    · have := fun e => (show ¬ b = a by omega) (inj b a (by omega) (by omega) e)
      exact (gx_k (by omega)).trans (w2 b (by omega) h2)
set_option maxRecDepth 100000 in
set_option maxHeartbeats 4000000 in
theorem fse_out (hc : ct hb T n) (tl : ∀ k, k < n → T k < 7) (inj : ∀ k l, k < n → l < n → T k = T l → k = l) (hB : ∀ x, x < 7 → xg 0 hb.2.1 31 x = nI (msk (B x) 7)) : ∀ (i f j : Nat) (h : xh_H), i + j + 1 = n → a_rq a_tb h → fx S33 fN hb h → (∀ a, a ≤ i → xg 0 h.2.1 33 (T a) = nI (th B T n j (T a))) → xq f xi_X0_foresee xmi_X0_foresee 28 [(0, .ref 28), (1, .ref 1), (2, .int (nI i))] [] h (fun v h' => fx S33 fN hb h' ∧ v = some (.int (nI (th B T n (n - 1) (T 0))))) := by
  have n6 := hc.2.1
  intro i
  induction i with
  | zero =>
    intro f j h ij hq ge w
    have t0 := tl 0 (by omega)
    refine xq_n 97 [0] [(0, .ref 28)] [.int (Int32.ofInt 0), .ref 1, .ref 33] h [true] 60 hq rfl ⟨rfl, trivial⟩ (fun _ => ?_)
    refine xq_run hq rfl rfl (at_q (ct_f hc ge rfl (fun _ => rfl)) (p := 0) (by omega) hq) ?_
    rintro v h1 ⟨rfl, rfl⟩
    refine xq_n 101 [] [] [.int (xg 0 h.2.1 33 (nI (T 0)).toNatClampNeg)] h [] 60 hq rfl trivial (fun _ => ?_)
    exact xq_ret rfl rfl rfl ⟨ge, by rw [nI_clamp (by omega), w 0 (by omega), show n - 1 = j by omega]⟩
  | succ i ih =>
    intro f j h ij hq ge w
    have t1 := tl (i + 1) (by omega)
    refine xq_n 38 [0, 1, 2] [(0, .ref 28), (1, .ref 1), (2, .int (nI (i + 1)))] [.int (nI (i + 1)), .ref 1, .ref 33] h [false] 60 hq rfl ⟨xle_f (by rw [nI_toInt (by omega)]; show (0 : Int) < _; omega), trivial⟩ (fun _ => ?_)
    refine xq_run hq rfl rfl (at_q (ct_f hc ge rfl (fun _ => rfl)) (p := i + 1) (by omega) hq) ?_
    rintro v h1 ⟨rfl, rfl⟩
    refine xq_n 46 [0, 1, 2, 3, 4] [(0, .ref 28), (1, .ref 1), (2, .int (nI (i + 1))), (3, .int (xg 0 h.2.1 33 (nI (T (i + 1))).toNatClampNeg)), (4, .int (Int32.ofInt 0))] [] h [] 60 hq rfl trivial (fun _ => ?_)
    rw [nI_clamp (by omega), w (i + 1) (by omega)]
    exact fse_in hc tl inj hB (i := i) (j := j) (by omega) (fun f h hq ge w => ih f (j + 1) h (by omega) hq ge w) (i + 1) f 0 h (by omega) hq ge (fun b hb' => absurd hb' (Nat.not_lt_zero b)) (fun b _ h2 => w b (by omega))
set_option maxRecDepth 100000 in
set_option maxHeartbeats 4000000 in
theorem fse_0 (n1 : 1 ≤ n) (hc : ct hb T n) (tl : ∀ k, k < n → T k < 7) (inj : ∀ k l, k < n → l < n → T k = T l → k = l) (hB : ∀ x, x < 7 → xg 0 hb.2.1 31 x = nI (msk (B x) 7)) : ∀ (m f x : Nat) (h : xh_H), x + m = 7 → a_rq a_tb h → fx S33 fN hb h → (∀ y, y < x → xg 0 h.2.1 33 y = nI y) → xq f xi_X0_foresee xmi_X0_foresee 2 [(0, .ref 28), (1, .ref 1), (2, .int (nI x))] [] h (fun v h' => fx S33 fN hb h' ∧ v = some (.int (nI (th B T n (n - 1) (T 0))))) := by
  have n6 := hc.2.1
  intro m
  induction m with
  | zero =>
    intro f x h xm hq ge w
    have e : x = 7 := by omega
    subst e
    refine xq_n 28 [0, 1, 2] [(0, .ref 28), (1, .ref 1), (2, .int (xg 0 h.2.1 1 1 - Int32.ofInt 1))] [] h [true] 60 hq rfl ⟨rfl, trivial⟩ (fun _ => ?_)
    rw [show xg 0 h.2.1 1 1 = nI n from (fx_i ge rfl).trans hc.1, show nI n - Int32.ofInt 1 = nI (n - 1) from nI_sub (b := 1) n1]
    exact fse_out hc tl inj hB (n - 1) f 0 h (by omega) hq ge (fun a ha => w _ (tl a (by omega)))
  | succ m ih =>
    intro f x h xm hq ge w
    refine xq_n 2 [0, 1, 2] [(0, .ref 28), (1, .ref 1), (2, .int (nI x + Int32.ofInt 1))] [] (xh_ui h 33 (nI x).toNatClampNeg (nI x)) [false] 60 hq rfl ⟨nge_f (b := 7) (by omega) (by decide) (by omega), trivial⟩ (fun _ => ?_)
    rw [show nI x + Int32.ofInt 1 = nI (x + 1) from nI_1 _, show (nI x).toNatClampNeg = x from nI_clamp (by omega)]
    refine ih f (x + 1) _ (by omega) (a_rq_ui hq) (fx_ui ge rfl) (fun y hy => ?_)
    by_cases z : y = x
    · rw [z, gx_s]
    · exact (gx_k (by omega)).trans (w y (by omega))
theorem fse_q {f : Nat} (n1 : 1 ≤ n) (hc : ct hb T n) (tl : ∀ k, k < n → T k < 7) (inj : ∀ k l, k < n → l < n → T k = T l → k = l) (hB : ∀ x, x < 7 → xg 0 hb.2.1 31 x = nI (msk (B x) 7)) (hq : a_rq a_tb hb) : xq f xi_X0_foresee xmi_X0_foresee 0 [(0, .ref 28), (1, .ref 1)] [] hb (fun v h' => fx S33 fN hb h' ∧ v = some (.int (nI (th B T n (n - 1) (T 0))))) := by
  refine xq_n 2 [0, 1, 2] [(0, .ref 28), (1, .ref 1), (2, .int (Int32.ofInt 0))] [] hb [] 60 hq rfl trivial (fun _ => ?_)
  exact fse_0 n1 hc tl inj hB 7 f 0 hb (by omega) hq fx_0 (fun y hy => absurd hy (Nat.not_lt_zero y))
end
/-- what leads answers -/
def ldA (B : Nat → Nat → Bool) (T : Nat → Nat) (n : Nat) (b : Int32) : Int32 := cond (decide (1 ≤ n ∧ n ≤ 7) && ro T n 0 (Int32.ofInt 0)) (cond (xe_c .eq b 0) (nI (fo B T (n - 1))) (nI (th B T n (n - 1) (T 0)))) (Int32.ofInt (-1))
set_option maxRecDepth 100000 in
set_option maxHeartbeats 4000000 in
theorem ld9_q {f mem sc n : Nat} {T : Nat → Nat} {b : Int32} {PL : Nat → Int32} {d : Int32} {h : xh_H} (hc : ct h T n) (hi : a_inv a_tb h) (e9 : xg 0 h.2.1 0 9 = nI mem) (m12 : mem ≤ 12) (e8 : xg 0 h.2.1 0 8 = nI sc) (sc8 : sc ≤ 8) (e10 : xg 0 h.2.1 0 10 = d) (si : SI h) (hP : ∀ k, k < 84 → xg 0 h.2.1 30 k = PL k) (hq : a_rq a_tb h) : xq f xi_X9_leads xmi_X9_leads 0 [(0, .ref 0), (1, .int b)] [] h (fun v h' => v = some (.int (ldA (BT PL (cvB (fun k => xg 0 h.2.1 51 k) (fun k => xg 0 h.2.1 44 k) mem sc d) mem) T n b))) := by
  obtain ⟨⟨u1, u2, u3⟩, si⟩ := si
  obtain ⟨SS, un⟩ := si mem sc e9 m12 e8 sc8
  unfold ldA
  refine xq_n 10 [0, 1, 2] [(0, .ref 0), (1, .int b), (2, .int (Int32.ofInt (-1)))] [.ref 1, .ref 28] h [] 60 hq rfl trivial (fun _ => ?_)
  refine xq_run hq rfl rfl (row_q hc hq) ?_
  rintro v h1 ⟨rfl, rfl⟩
  cases c1 : (decide (1 ≤ n ∧ n ≤ 7) && ro T n 0 (Int32.ofInt 0)) with
  | false =>
    refine xq_n 74 [] [] [.int (Int32.ofInt (-1))] (xh_ui h 1 1 (Int32.ofInt 0)) [true] 60 hq rfl ⟨rfl, trivial⟩ (fun _ => ?_)
    exact xq_ret rfl rfl rfl rfl
  | true =>
    rw [Bool.and_eq_true] at c1
    obtain ⟨c1, c2⟩ := c1
    have c1 := of_decide_eq_true c1
    obtain ⟨tl, inj⟩ := ro_t c2
    refine xq_n 25 [0, 1, 2] [(0, .ref 0), (1, .int b), (2, .int (Int32.ofInt (-1)))] [.int (xg 0 h.2.1 0 10), .ref 0, .ref 28] h [false] 60 hq rfl ⟨rfl, trivial⟩ (fun _ => ?_)
    rw [e10]
    refine xq_run hq rfl rfl (if9_q hi e8 sc8 u1 u2 SS hq) ?_
    rintro v h1 ⟨rfl, Q, rfl, fd⟩
    refine xq_n 32 [0, 1, 2] [(0, .ref 0), (1, .int b), (2, .int (Int32.ofInt (-1)))] [.int (xg 0 h.2.1 0 9), .ref Q, .ref 28] h [] 60 hq rfl trivial (fun _ => ?_)
    rw [e9]
    obtain ⟨r, g1, g2, -⟩ := hv_cv hi m12 SS un u3 hq (s := 0) (Nat.two_pow_pos mem) fd
    refine xq_run hq rfl rfl (mat_q (PL := PL) (W := cvB (fun k => xg 0 h.2.1 51 k) (fun k => xg 0 h.2.1 44 k) mem sc d) m12 fd.1 g1 g2 (fun s hs => by
      obtain ⟨r', g1', -, g3⟩ := hv_cv hi m12 SS un u3 hq hs fd
      rw [g1] at g1'
      cases g1'
      exact g3) hP hq) ?_
    rintro v h1 ⟨rfl, g4, w31⟩
    have hq := fx_q g4 hq
    have hc1 := ct_f hc g4 rfl (fun _ => rfl)
    cases c3 : xe_c .eq b 0 with
    | true =>
      refine xq_n 61 [0, 1, 2] [(0, .ref 0), (1, .int b), (2, .int (Int32.ofInt (-1)))] [.ref 1, .ref 28] h1 [true] 60 hq rfl ⟨c3, trivial⟩ (fun _ => ?_)
      refine xq_run hq rfl rfl (fol_q c1.1 hc1 tl w31 hq) ?_
      rintro v h2 ⟨rfl, rfl⟩
      refine xq_n 74 [] [] [.int (nI (fo (BT PL (cvB (fun k => xg 0 h.2.1 51 k) (fun k => xg 0 h.2.1 44 k) mem sc d) mem) T (n - 1)))] (xh_ui h1 1 1 (Int32.ofInt 0)) [] 60 hq rfl trivial (fun _ => ?_)
      exact xq_ret rfl rfl rfl rfl
    | false =>
      refine xq_n 47 [0, 1, 2] [(0, .ref 0), (1, .int b), (2, .int (Int32.ofInt (-1)))] [.ref 1, .ref 28] h1 [false] 60 hq rfl ⟨c3, trivial⟩ (fun _ => ?_)
      refine xq_run hq rfl rfl (fse_q c1.1 hc1 tl inj w31 hq) ?_
      rintro v h2 ⟨g5, rfl⟩
      have hq := fx_q g5 hq
      refine xq_n 74 [] [] [.int (nI (th (BT PL (cvB (fun k => xg 0 h.2.1 51 k) (fun k => xg 0 h.2.1 44 k) mem sc d) mem) T n (n - 1) (T 0)))] (xh_ui h2 1 1 (Int32.ofInt 0)) [] 60 hq rfl trivial (fun _ => ?_)
      exact xq_ret rfl rfl rfl rfl
section
variable {n : Nat} {T : Nat → Nat} {B : Nat → Nat → Bool} {hb : xh_H}
def S65 (c _k : Nat) : Bool := Nat.beq c 65
/-- what is come to, laid out -/
def tI (B : Nat → Nat → Bool) (T : Nat → Nat) (n k : Nat) (h : xh_H) : Prop := ∀ k' s, k < k' → k' ≤ n → s < 7 → xg 0 h.2.1 65 (7 * k' + s) = nI (th B T n (n - k') s)
theorem sd_e {s : Nat} : sd B s s = s := by unfold sd; split <;> rfl
theorem i7_c {k x : Nat} : 7 * nI k + 7 + nI x = nI (7 * (k + 1) + x) := by
  have e : 7 * nI k = nI (7 * k) := by
    have z := i7_b (m := k) (x := 0)
    rw [show (7 * nI k + nI 0 : Int32) = 7 * nI k from Int32.add_zero _] at z
    exact z
  rw [e, show (7 : Int32) = nI 7 from rfl, nI_add, nI_add]
  congr 1
set_option maxRecDepth 100000 in
set_option maxHeartbeats 4000000 in
theorem tn_in (n7 : n ≤ 7) (hT : ∀ k, k < n → T k < 256 ∧ xg 0 hb.2.1 40 k = nI (T k)) (tl : ∀ k, k < n → T k < 7) (hB : ∀ x y, x < 7 → y < 7 → xg 0 hb.2.1 63 (7 * x + y) = bl (B x y)) {v1 : Value} {k j : Nat} (kj : k + j + 2 = n) {Q : Option Value → xh_H → Prop} (K : ∀ (f : Nat) (h : xh_H), a_rq a_tb h → fx S65 fN hb h → tI B T n k h → xq f xi_X10_leads xmi_X10_leads 99 [(0, .ref 39), (2, .int (nI n)), (3, .int (nI k))] [] h Q) : ∀ (m f s : Nat) (h : xh_H), s + m = 7 → a_rq a_tb h → fx S65 fN hb h → tI B T n (k + 1) h → (∀ s', s' < s → xg 0 h.2.1 65 (7 * (k + 1) + s') = nI (th B T n (j + 1) s')) → xq f xi_X10_leads xmi_X10_leads 106 [(0, .ref 39), (2, .int (nI n)), (3, .int (nI (k + 1))), (4, .int (nI s))] [] h Q := by
  have nj : n - (j + 1) = k + 1 := by omega
  intro m
  induction m with
  | zero =>
    intro f s h sm hq ge I w
    have e : s = 7 := by omega
    subst e
    refine xq_n 99 [0, 2, 3] [(0, .ref 39), (2, .int (nI n)), (3, .int (nI (k + 1) + Int32.ofInt (-1)))] [] h [true] 60 hq rfl ⟨rfl, trivial⟩ (fun _ => ?_)
    rw [nI_dec k]
    refine K f h hq ge (fun k' s h1 h2 h3 => ?_)
    by_cases z : k' = k + 1
    · rw [z, show n - (k + 1) = j + 1 by omega]; exact w s h3
    · exact I k' s (by omega) h2 h3
  | succ m ih =>
    intro f s h sm hq ge I w
    have tk := tl (k + 1) (by omega)
    have wl : th B T n j (T (k + 1)) < 7 := th_lt (by omega) tl j _ tk
    have sl : th B T n j s < 7 := th_lt (by omega) tl j _ (by omega)
    refine xq_n 162 [0, 2, 3, 4, 5, 6] [(0, .ref 39), (2, .int (nI n)), (3, .int (nI (k + 1))), (4, .int (nI s)), (5, .int (xg 0 h.2.1 65 (7 * nI (k + 1) + 7 + xg 0 h.2.1 40 (nI (k + 1)).toNatClampNeg).toNatClampNeg)), (6, .int (xg 0 h.2.1 65 (7 * nI (k + 1) + 7 + nI s).toNatClampNeg))] [.int (7 * nI (k + 1) + nI s), .ref 65] h [false] 60 hq rfl ⟨nge_f (b := 7) (by omega) (by decide) (by omega), trivial⟩ (fun _ => ?_)
    rw [show (nI (k + 1)).toNatClampNeg = k + 1 from nI_clamp (by omega), show xg 0 h.2.1 40 (k + 1) = nI (T (k + 1)) from (fx_i ge rfl).trans (hT _ (by omega)).2, i7_c, i7_c, i7_b, show (nI (7 * (k + 1 + 1) + T (k + 1))).toNatClampNeg = 7 * (k + 1 + 1) + T (k + 1) from nI_clamp (by omega), show (nI (7 * (k + 1 + 1) + s)).toNatClampNeg = 7 * (k + 1 + 1) + s from nI_clamp (by omega), I (k + 1 + 1) _ (by omega) (by omega) tk, I (k + 1 + 1) s (by omega) (by omega) (by omega), show n - (k + 1 + 1) = j by omega]
    have go : ∀ (f : Nat) (y : Nat), sd B (th B T n j s) (th B T n j (T (k + 1))) = y → xq f xi_X10_leads xmi_X10_leads 106 [(0, .ref 39), (2, .int (nI n)), (3, .int (nI (k + 1))), (4, .int (nI s + Int32.ofInt 1))] [] (xh_ui h 65 (nI (7 * (k + 1) + s)).toNatClampNeg (nI y)) Q := fun f y hy => by
      rw [show nI s + Int32.ofInt 1 = nI (s + 1) from nI_1 _, show (nI (7 * (k + 1) + s)).toNatClampNeg = 7 * (k + 1) + s from nI_clamp (by omega)]
      refine ih f (s + 1) _ (by omega) (a_rq_ui hq) (fx_ui ge rfl) (fun k' s' h1 h2 h3 => (gx_k (by omega)).trans (I k' s' h1 h2 h3)) (fun s' hs' => ?_)
      by_cases z : s' = s
      · rw [z, gx_s, ← hy]
        show _ = nI (sd B (th B T n j s) (th B T n j (T (n - (j + 1)))))
        rw [nj]
      · exact (gx_k (by omega)).trans (w s' (by omega))
    cases c1 : xe_c .eq (nI (th B T n j (T (k + 1)))) (nI (th B T n j s)) with
    | true =>
      have z1 := nq_eqt (by omega) (by omega) c1
      refine xq_n 106 [0, 2, 3, 4] [(0, .ref 39), (2, .int (nI n)), (3, .int (nI (k + 1))), (4, .int (nI s + Int32.ofInt 1))] [] (xh_ui h 65 (nI (7 * (k + 1) + s)).toNatClampNeg (nI (th B T n j s))) [true] 60 hq rfl ⟨c1, trivial⟩ (fun _ => ?_)
      exact go f _ (by rw [z1]; exact sd_e)
    | false =>
      have a1 : xg 0 h.2.1 63 (7 * nI (th B T n j (T (k + 1))) + nI (th B T n j s)).toNatClampNeg = bl (B (th B T n j (T (k + 1))) (th B T n j s)) := by
        rw [i7_b, nI_clamp (by omega)]; exact (fx_i ge rfl).trans (hB _ _ wl sl)
      cases c2 : B (th B T n j (T (k + 1))) (th B T n j s) with
      | false =>
        refine xq_n 106 [0, 2, 3, 4] [(0, .ref 39), (2, .int (nI n)), (3, .int (nI (k + 1))), (4, .int (nI s + Int32.ofInt 1))] [] (xh_ui h 65 (nI (7 * (k + 1) + s)).toNatClampNeg (nI (th B T n j s))) [false, true] 60 hq rfl ⟨c1, (show xe_c .eq (xg 0 h.2.1 63 (7 * nI (th B T n j (T (k + 1))) + nI (th B T n j s)).toNatClampNeg) 0 = true by rw [a1, c2]; rfl), trivial⟩ (fun _ => ?_)
        exact go f _ (by unfold sd; rw [c2, if_neg (by decide)])
      | true =>
        refine xq_n 106 [0, 2, 3, 4] [(0, .ref 39), (2, .int (nI n)), (3, .int (nI (k + 1))), (4, .int (nI s + Int32.ofInt 1))] [] (xh_ui h 65 (nI (7 * (k + 1) + s)).toNatClampNeg (nI (th B T n j (T (k + 1))))) [false, false] 60 hq rfl ⟨c1, (show xe_c .eq (xg 0 h.2.1 63 (7 * nI (th B T n j (T (k + 1))) + nI (th B T n j s)).toNatClampNeg) 0 = false by rw [a1, c2]; rfl), trivial⟩ (fun _ => ?_)
        exact go f _ (by unfold sd; rw [c2, if_pos rfl])
set_option maxRecDepth 100000 in
set_option maxHeartbeats 4000000 in
theorem tn_out (n7 : n ≤ 7) (hT : ∀ k, k < n → T k < 256 ∧ xg 0 hb.2.1 40 k = nI (T k)) (tl : ∀ k, k < n → T k < 7) (hB : ∀ x y, x < 7 → y < 7 → xg 0 hb.2.1 63 (7 * x + y) = bl (B x y)) : ∀ (k f j : Nat) (h : xh_H), k + j + 1 = n → a_rq a_tb h → fx S65 fN hb h → tI B T n k h → xq f xi_X10_leads xmi_X10_leads 99 [(0, .ref 39), (2, .int (nI n)), (3, .int (nI k))] [] h (fun v h' => v = some (.int (nI (th B T n (n - 1) (T 0))))) := by
  intro k
  induction k with
  | zero =>
    intro f j h kj hq ge I
    have t0 := tl 0 (by omega)
    refine xq_n 219 [] [] [.int (xg 0 h.2.1 65 (7 + xg 0 h.2.1 40 0).toNatClampNeg)] h [true] 60 hq rfl ⟨rfl, trivial⟩ (fun _ => ?_)
    refine xq_ret rfl rfl rfl ?_
    rw [show xg 0 h.2.1 40 0 = nI (T 0) from (fx_i ge rfl).trans (hT _ (by omega)).2, show (7 : Int32) = nI 7 from rfl, nI_add, nI_clamp (by omega)]
    exact congrArg (fun z => some (Value.int z)) (I 1 (T 0) (by omega) (by omega) t0)
  | succ k ih =>
    intro f j h kj hq ge I
    refine xq_n 106 [0, 2, 3, 4] [(0, .ref 39), (2, .int (nI n)), (3, .int (nI (k + 1))), (4, .int (Int32.ofInt 0))] [] h [false] 60 hq rfl ⟨xle_f (by rw [nI_toInt (by omega)]; show (0 : Int) < _; omega), trivial⟩ (fun _ => ?_)
    exact tn_in n7 hT tl hB (v1 := .ref 0) (k := k) (j := j) (by omega) (fun f h hq ge I => ih f (j + 1) h (by omega) hq ge I) 7 f 0 h (by omega) hq ge I (fun s' hs' => absurd hs' (Nat.not_lt_zero s'))
set_option maxRecDepth 100000 in
set_option maxHeartbeats 4000000 in
theorem tn_0 (n1 : 1 ≤ n) (n7 : n ≤ 7) (hT : ∀ k, k < n → T k < 256 ∧ xg 0 hb.2.1 40 k = nI (T k)) (tl : ∀ k, k < n → T k < 7) (hB : ∀ x y, x < 7 → y < 7 → xg 0 hb.2.1 63 (7 * x + y) = bl (B x y)) : ∀ (m f s : Nat) (h : xh_H), s + m = 7 → a_rq a_tb h → fx S65 fN hb h → (∀ s', s' < s → xg 0 h.2.1 65 (7 * n + s') = nI s') → xq f xi_X10_leads xmi_X10_leads 71 [(0, .ref 39), (2, .int (nI n)), (3, .int (nI s))] [] h (fun v h' => v = some (.int (nI (th B T n (n - 1) (T 0))))) := by
  intro m
  induction m with
  | zero =>
    intro f s h sm hq ge w
    have e : s = 7 := by omega
    subst e
    refine xq_n 99 [0, 2, 3] [(0, .ref 39), (2, .int (nI n)), (3, .int (nI n - Int32.ofInt 1))] [] h [true] 60 hq rfl ⟨rfl, trivial⟩ (fun _ => ?_)
    rw [show nI n - Int32.ofInt 1 = nI (n - 1) from nI_sub (b := 1) n1]
    refine tn_out n7 hT tl hB (n - 1) f 0 h (by omega) hq ge (fun k' s h1 h2 h3 => ?_)
    have e : k' = n := by omega
    rw [e, Nat.sub_self]
    exact w s h3
  | succ m ih =>
    intro f s h sm hq ge w
    refine xq_n 71 [0, 2, 3] [(0, .ref 39), (2, .int (nI n)), (3, .int (nI s + Int32.ofInt 1))] [] (xh_ui h 65 (7 * nI n + nI s).toNatClampNeg (nI s)) [false] 60 hq rfl ⟨nge_f (b := 7) (by omega) (by decide) (by omega), trivial⟩ (fun _ => ?_)
    rw [show nI s + Int32.ofInt 1 = nI (s + 1) from nI_1 _, i7_b, show (nI (7 * n + s)).toNatClampNeg = 7 * n + s from nI_clamp (by omega)]
    refine ih f (s + 1) _ (by omega) (a_rq_ui hq) (fx_ui ge rfl) (fun y hy => ?_)
    by_cases z : y = s
    · rw [z, gx_s]
    · exact (gx_k (by omega)).trans (w y (by omega))
set_option maxRecDepth 100000 in
set_option maxHeartbeats 4000000 in
/-- X10.endOf -/
theorem eo_l {h : xh_H} (n7 : n ≤ 7) (hO : ∀ k, k < n → xg 0 h.2.1 66 k = nI (T k)) (tl : ∀ k, k < n → T k < 7) (hB : ∀ x y, x < 7 → y < 7 → xg 0 h.2.1 63 (7 * x + y) = bl (B x y)) (hq : a_rq a_tb h) : ∀ (j f i : Nat), i + j + 1 = n → xq f xi_X10_endOf xmi_X10_endOf 9 [(0, .ref 39), (1, .int (nI n)), (2, .int (nI (fo B T i))), (3, .int (nI (i + 1)))] [] h (fun v h' => h = h' ∧ v = some (.int (nI (fo B T (n - 1))))) := by
  intro j
  induction j with
  | zero =>
    intro f i ij
    refine xq_n 47 [] [] [.int (nI (fo B T i))] h [true] 60 hq rfl ⟨nge_t (by omega) (by omega) (by omega), trivial⟩ (fun _ => ?_)
    exact xq_ret rfl rfl rfl ⟨rfl, by rw [show n - 1 = i by omega]⟩
  | succ j ih =>
    intro f i ij
    have fl : fo B T i < 7 := fo_lt i (fun k hk' => tl k (by omega))
    have t1 := tl (i + 1) (by omega)
    have a0 : xg 0 h.2.1 66 (nI (i + 1)).toNatClampNeg = nI (T (i + 1)) := by rw [nI_clamp (by omega)]; exact hO _ (by omega)
    have a1 : xg 0 h.2.1 63 (7 * xg 0 h.2.1 66 (nI (i + 1)).toNatClampNeg + nI (fo B T i)).toNatClampNeg = bl (B (T (i + 1)) (fo B T i)) := by
      rw [a0, i7_b, nI_clamp (by omega)]; exact hB _ _ t1 fl
    have e : fo B T (i + 1) = sd B (fo B T i) (T (i + 1)) := rfl
    have r := ih f (i + 1) (by omega)
    rw [e] at r
    unfold sd at r
    cases c : B (T (i + 1)) (fo B T i) with
    | false =>
      rw [c, if_neg (by decide)] at r
      refine xq_n 9 [0, 1, 2, 3] [(0, .ref 39), (1, .int (nI n)), (2, .int (nI (fo B T i))), (3, .int (nI (i + 1) + Int32.ofInt 1))] [] h [false, true] 60 hq rfl ⟨nge_f (by omega) (by omega) (by omega), (show xe_c .eq (xg 0 h.2.1 63 (7 * xg 0 h.2.1 66 (nI (i + 1)).toNatClampNeg + nI (fo B T i)).toNatClampNeg) 0 = true by rw [a1, c]; rfl), trivial⟩ (fun _ => ?_)
      rw [show nI (i + 1) + Int32.ofInt 1 = nI (i + 1 + 1) from nI_1 _]
      exact r
    | true =>
      rw [c, if_pos rfl] at r
      refine xq_n 9 [0, 1, 2, 3] [(0, .ref 39), (1, .int (nI n)), (2, .int (xg 0 h.2.1 66 (nI (i + 1)).toNatClampNeg)), (3, .int (nI (i + 1) + Int32.ofInt 1))] [] h [false, false] 60 hq rfl ⟨nge_f (by omega) (by omega) (by omega), (show xe_c .eq (xg 0 h.2.1 63 (7 * xg 0 h.2.1 66 (nI (i + 1)).toNatClampNeg + nI (fo B T i)).toNatClampNeg) 0 = false by rw [a1, c]; rfl), trivial⟩ (fun _ => ?_)
      rw [show nI (i + 1) + Int32.ofInt 1 = nI (i + 1 + 1) from nI_1 _, a0]
      exact r
set_option maxRecDepth 100000 in
set_option maxHeartbeats 4000000 in
theorem eo_q {f : Nat} {h : xh_H} (n1 : 1 ≤ n) (n7 : n ≤ 7) (hO : ∀ k, k < n → xg 0 h.2.1 66 k = nI (T k)) (tl : ∀ k, k < n → T k < 7) (hB : ∀ x y, x < 7 → y < 7 → xg 0 h.2.1 63 (7 * x + y) = bl (B x y)) (hq : a_rq a_tb h) : xq f xi_X10_endOf xmi_X10_endOf 0 [(0, .ref 39), (1, .int (nI n))] [] h (fun v h' => h = h' ∧ v = some (.int (nI (fo B T (n - 1))))) := by
  refine xq_n 9 [0, 1, 2, 3] [(0, .ref 39), (1, .int (nI n)), (2, .int (xg 0 h.2.1 66 0)), (3, .int (Int32.ofInt 1))] [] h [] 60 hq rfl trivial (fun _ => ?_)
  rw [hO 0 (by omega)]
  exact eo_l n7 hO tl hB hq (n - 1) f 0 (by omega)
def S66 (c _k : Nat) : Bool := Nat.beq c 66
set_option maxRecDepth 100000 in
set_option maxHeartbeats 4000000 in
theorem or_l (n1 : 1 ≤ n) (n7 : n ≤ 7) (hT : ∀ k, k < n → T k < 256 ∧ xg 0 hb.2.1 40 k = nI (T k)) (tl : ∀ k, k < n → T k < 7) (hB : ∀ x y, x < 7 → y < 7 → xg 0 hb.2.1 63 (7 * x + y) = bl (B x y)) : ∀ (m f i : Nat) (h : xh_H), i + m = n → a_rq a_tb h → fx S66 fN hb h → (∀ k, k < i → xg 0 h.2.1 66 k = nI (T k)) → xq f xi_X10_leads xmi_X10_leads 40 [(0, .ref 39), (2, .int (nI n)), (3, .int (nI i))] [] h (fun v h' => v = some (.int (nI (fo B T (n - 1))))) := by
  intro m
  induction m with
  | zero =>
    intro f i h im hq ge w
    refine xq_n 65 [] [] [.int (nI n), .ref 39] h [true] 60 hq rfl ⟨nge_t (by omega) (by omega) (by omega), trivial⟩ (fun _ => ?_)
    refine xq_run hq rfl rfl (eo_q n1 n7 (fun k hk' => w k (by omega)) tl (fun x y hx hy => (fx_i ge rfl).trans (hB x y hx hy)) hq) ?_
    rintro v h1 ⟨rfl, rfl⟩
    exact xq_ret rfl rfl rfl rfl
  | succ m ih =>
    intro f i h im hq ge w
    refine xq_n 40 [0, 2, 3] [(0, .ref 39), (2, .int (nI n)), (3, .int (nI i + Int32.ofInt 1))] [] (xh_ui h 66 (nI i).toNatClampNeg (xg 0 h.2.1 40 (nI i).toNatClampNeg)) [false] 60 hq rfl ⟨nge_f (by omega) (by omega) (by omega), trivial⟩ (fun _ => ?_)
    rw [show nI i + Int32.ofInt 1 = nI (i + 1) from nI_1 _, show (nI i).toNatClampNeg = i from nI_clamp (by omega), show xg 0 h.2.1 40 i = nI (T i) from (fx_i ge rfl).trans (hT _ (by omega)).2]
    refine ih f (i + 1) _ (by omega) (a_rq_ui hq) (fx_ui ge rfl) (fun y hy => ?_)
    by_cases z : y = i
    · rw [z, gx_s]
    · exact (gx_k (by omega)).trans (w y (by omega))
end
set_option maxRecDepth 100000 in
set_option maxHeartbeats 4000000 in
theorem ld10_q {f mem sc n : Nat} {T : Nat → Nat} {b : Int32} {FR RW PL : Nat → Int32} {d : Int32} {h : xh_H} (n6 : n ≤ 640) (e2 : xg 0 h.2.1 39 2 = nI n) (hT : ∀ k, k < n → T k < 256 ∧ xg 0 h.2.1 40 k = nI (T k)) (m12 : mem ≤ 12) (e4 : xg 0 h.2.1 39 4 = nI mem) (e33 : xg 0 h.2.1 39 33 = nI sc) (sc8 : sc ≤ 8) (e3 : xg 0 h.2.1 39 3 = d) (hF : ∀ k, k < sc → xg 0 h.2.1 51 k = FR k) (hTd : ∀ k, k < sc → (xg 0 h.2.1 52 k).toInt ≤ 999) (hR : ∀ k s, k < sc → s < 2 ^ mem → ∃ b : Bool, RW (4096 * k + s) = bl b ∧ xg 0 h.2.1 44 (4096 * k + s) = bl b) (hP : ∀ k, k < 84 → xg 0 h.2.1 62 k = PL k) (hq : a_rq a_tb h) : xq f xi_X10_leads xmi_X10_leads 0 [(0, .ref 39), (1, .int b)] [] h (fun v h' => v = some (.int (ldA (BT PL (cvB FR RW mem sc d) mem) T n b))) := by
  unfold ldA
  refine xq_n 6 [0, 1] [(0, .ref 39), (1, .int b)] [.ref 39] (xh_ui h 39 0 (Int32.ofInt 0)) [] 60 hq rfl trivial (fun _ => ?_)
  have hq : a_rq a_tb (xh_ui h 39 0 (Int32.ofInt 0)) := a_rq_ui hq
  refine xq_run hq rfl rfl (take_q hq) ?_
  rintro v h1 ⟨rfl, rfl⟩
  rw [show xg 0 (xh_ui h 39 0 (Int32.ofInt 0)).2.1 39 2 = nI n from (gx_k (by decide)).trans e2]
  generalize hh : xh_ui (xh_ui h 39 0 (Int32.ofInt 0)) 39 2 (Int32.ofInt 0) = h1
  have hq : a_rq a_tb h1 := by rw [← hh]; exact a_rq_ui hq
  have hk : ∀ c k, (c = 39 → k ≠ 0 ∧ k ≠ 2) → xg 0 h1.2.1 c k = xg 0 h.2.1 c k := fun c k z => by
    rw [← hh]
    by_cases y : c = 39
    · subst y
      obtain ⟨z1, z2⟩ := z rfl
      exact (gx_k (by omega)).trans (gx_k (by omega))
    · exact (gx_o (by omega)).trans (gx_o (by omega))
  refine xq_n 14 [0, 1, 2] [(0, .ref 39), (1, .int b), (2, .int (nI n))] [.int 7, .int (Int32.ofInt 1), .int (nI n)] h1 [] 60 hq rfl trivial (fun _ => ?_)
  refine xq_run hq rfl rfl (isIn_q hq) ?_
  rintro v h2 ⟨rfl, rfl⟩
  rw [show decide ((Int32.ofInt 1).toInt ≤ (nI n).toInt ∧ (nI n).toInt ≤ (7 : Int32).toInt) = decide (1 ≤ n ∧ n ≤ 7) by rw [nI_toInt (by omega)]; refine decide_eq_decide.mpr ?_; show ((1 : Int) ≤ _ ∧ _ ≤ (7 : Int)) ↔ _; omega]
  cases c1 : decide (1 ≤ n ∧ n ≤ 7) with
  | false =>
    refine xq_n 29 [] [] [.int (Int32.ofInt (-1))] h1 [true] 60 hq rfl ⟨rfl, trivial⟩ (fun _ => ?_)
    exact xq_ret rfl rfl rfl rfl
  | true =>
    have c1 := of_decide_eq_true c1
    refine xq_n 22 [0, 1, 2] [(0, .ref 39), (1, .int b), (2, .int (nI n))] [.int (nI n), .ref 39] h1 [false] 60 hq rfl ⟨rfl, trivial⟩ (fun _ => ?_)
    have hT1 : ∀ k, k < n → T k < 256 ∧ xg 0 h1.2.1 40 k = nI (T k) := fun k hk' => ⟨(hT k hk').1, (hk 40 k (fun z => absurd z (by decide))).trans (hT k hk').2⟩
    refine xq_run hq rfl rfl (are_q n6 hT1 hq) ?_
    rintro v h2 ⟨rfl, rfl⟩
    cases c2 : ro T n 0 (Int32.ofInt 0) with
    | false =>
      refine xq_n 29 [] [] [.int (Int32.ofInt (-1))] h1 [false] 60 hq rfl ⟨rfl, trivial⟩ (fun _ => ?_)
      exact xq_ret rfl rfl rfl rfl
    | true =>
      obtain ⟨tl, -⟩ := ro_t c2
      refine xq_n 31 [0, 1, 2] [(0, .ref 39), (1, .int b), (2, .int (nI n))] [.ref 39] h1 [true] 60 hq rfl ⟨rfl, trivial⟩ (fun _ => ?_)
      refine xq_run hq rfl rfl (lop_q (FR := FR) (RW := RW) (PL := PL) (d := d) m12 ((hk 39 4 (fun _ => by decide)).trans e4) ((hk 39 33 (fun _ => by decide)).trans e33) sc8 ((hk 39 3 (fun _ => by decide)).trans e3) (fun k hk' => (hk 51 k (fun z => absurd z (by decide))).trans (hF k hk')) (fun k hk' => by rw [hk 52 k (fun z => absurd z (by decide))]; exact hTd k hk') (fun k s h1 h2 => by obtain ⟨b, b1, b2⟩ := hR k s h1 h2; exact ⟨b, b1, (hk 44 _ (fun z => absurd z (by decide))).trans b2⟩) (fun k hk' => (hk 62 k (fun z => absurd z (by decide))).trans (hP k hk')) hq) ?_
      rintro v h2 ⟨rfl, g1, w53, w63, w64⟩
      have hq := fx_q g1 hq
      have hT2 : ∀ k, k < n → T k < 256 ∧ xg 0 h2.2.1 40 k = nI (T k) := fun k hk' => ⟨(hT k hk').1, (fx_i g1 rfl).trans (hT1 k hk').2⟩
      cases c3 : xe_c .eq b 0 with
      | true =>
        refine xq_n 40 [0, 2, 3] [(0, .ref 39), (2, .int (nI n)), (3, .int (Int32.ofInt 0))] [] h2 [false] 60 hq rfl ⟨(show (!xe_c .eq b 0) = false by rw [c3]; rfl), trivial⟩ (fun _ => ?_)
        exact or_l c1.1 c1.2 hT2 tl w63 n f 0 h2 (by omega) hq fx_0 (fun k hk' => absurd hk' (Nat.not_lt_zero k))
      | false =>
        refine xq_n 71 [0, 2, 3] [(0, .ref 39), (2, .int (nI n)), (3, .int (Int32.ofInt 0))] [] h2 [true] 60 hq rfl ⟨(show (!xe_c .eq b 0) = true by rw [c3]; rfl), trivial⟩ (fun _ => ?_)
        exact tn_0 c1.1 c1.2 hT2 tl w63 7 f 0 h2 (by omega) hq fx_0 (fun k hk' => absurd hk' (Nat.not_lt_zero k))
end XLE
end
section
section XPW
/-- what Powers looks at: the statute q with its row r, of m members, carries as W -/
def LA (W : Nat → Bool) (m q r : Nat) (h : xh_H) : Prop := xg none h.2.2.2 14 6 = some q ∧ h.1[q]? = some (0, 7) ∧ xg none h.2.2.2 q 1 = some r ∧ h.1[r]? = some (4, 64) ∧ xg 0 h.2.1 14 7 = nI m ∧ xg 0 h.2.1 14 8 = nI (2 ^ m - 1) ∧ ∀ s, s < 2 ^ m → hv h r s = W s
theorem hv_ee {h h' : xh_H} {r s : Nat} (e : ∀ k, xg 0 h'.2.2.1 r k = xg 0 h.2.2.1 r k) : hv h' r s = hv h r s := by rw [hv_lb, hv_lb, e]
theorem LA_f {W : Nat → Bool} {m q r : Nat} {S : Nat → Nat → Bool} {h h' : xh_H} (A : LA W m q r h) (g : fx S fN h h') (e7 : S 14 7 = false) (e8 : S 14 8 = false) : LA W m q r h' := by
  obtain ⟨a1, a2, a3, a4, a5, a6, a7⟩ := A
  refine ⟨by rw [g.2.1]; exact a1, by rw [g.1]; exact a2, by rw [g.2.1]; exact a3, by rw [g.1]; exact a4, (fx_i g e7).trans a5, (fx_i g e8).trans a6, fun s hs => (hv_ee (fun k => g.2.2.2 r k rfl)).trans (a7 s hs)⟩
theorem nI_1' {k : Nat} : nI k + Int32.ofInt 1 = nI (k + 1) := nI_1 k
/-- how many below n -/
def cnt (P : Nat → Bool) : Nat → Nat
  | 0 => 0
  | n + 1 => if P n = true then cnt P n + 1 else cnt P n
theorem cnt_t {P : Nat → Bool} {n : Nat} (h : P n = true) : cnt P (n + 1) = cnt P n + 1 := if_pos h
theorem cnt_f {P : Nat → Bool} {n : Nat} (h : P n = false) : cnt P (n + 1) = cnt P n := if_neg (by rw [h]; decide)
theorem cnt_le {P : Nat → Bool} : ∀ n, cnt P n ≤ n := by
  intro n
  induction n with
  | zero => exact Nat.le_refl _
  | succ n ih => unfold cnt; split <;> omega
theorem cnt_c {P P' : Nat → Bool} : ∀ n, (∀ k, k < n → P k = P' k) → cnt P n = cnt P' n := by
  intro n
  induction n with
  | zero => intro _; rfl
  | succ n ih => intro h; unfold cnt; rw [h n (by omega), ih (fun k hk' => h k (by omega))]
/-- all below n -/
def aln (P : Nat → Bool) : Nat → Bool
  | 0 => true
  | n + 1 => aln P n && P n
theorem aln_f {P : Nat → Bool} {k : Nat} (h : P k = false) : ∀ n, k < n → aln P n = false := by
  intro n
  induction n with
  | zero => intro h; omega
  | succ n ih =>
    intro hk'
    show (aln P n && P n) = false
    by_cases z : k = n
    · rw [← z, h]; exact Bool.and_false _
    · rw [ih (by omega)]; rfl
theorem aln_s {P : Nat → Bool} {n : Nat} (h : aln P n = true) (hp : P n = true) : aln P (n + 1) = true := by show (aln P n && P n) = true; rw [h, hp]; rfl
theorem aln_c {P P' : Nat → Bool} : ∀ n, (∀ k, k < n → P k = P' k) → aln P n = aln P' n := by
  intro n
  induction n with
  | zero => intro _; rfl
  | succ n ih => intro h; show (aln P n && P n) = (aln P' n && P' n); rw [h n (by omega), ih (fun k hk' => h k (by omega))]
/-- a turns the set -/
def tw (W : Nat → Bool) (a s : Nat) : Bool := !s.testBit a && (!W s && W (s ||| 2 ^ a))
/-- a and b turn it together -/
def tg (W : Nat → Bool) (a b s : Nat) : Bool := (!s.testBit a && !s.testBit b) && (W ((s ||| 2 ^ a) ||| 2 ^ b) && (!W (s ||| 2 ^ a) && !W (s ||| 2 ^ b)))
/-- with a it does no less than with b -/
def gp (W : Nat → Bool) (a b s : Nat) : Bool := !((!s.testBit a && !s.testBit b) && (W (s ||| 2 ^ b) && !W (s ||| 2 ^ a)))
theorem or_p {s a m : Nat} (hs : s < 2 ^ m) (ha : a < m) : s ||| 2 ^ a < 2 ^ m := Nat.or_lt_two_pow hs (Nat.pow_lt_pow_right (by decide) ha)
theorem and2 {s a b : Nat} (ha : a ≤ 11) (hb : b ≤ 11) (hs : s < 4096) : xe_c .ne (nI s &&& (((Int32.ofInt 1) <<< (nI a &&& 31)) ||| ((Int32.ofInt 1) <<< (nI b &&& 31)))) 0 = !(!s.testBit a && !s.testBit b) := by
  have pa : 2 ^ a ≤ 2048 := show 2 ^ a ≤ 2 ^ 11 from Nat.pow_le_pow_right (by decide) ha
  have pb : 2 ^ b ≤ 2048 := show 2 ^ b ≤ 2 ^ 11 from Nat.pow_le_pow_right (by decide) hb
  rw [sh1 a (by omega), sh1 b (by omega), nI_or, nI_and]
  have lt : s &&& (2 ^ a ||| 2 ^ b) < 2 ^ 31 := Nat.lt_of_le_of_lt Nat.and_le_left (by omega)
  cases c : (!s.testBit a && !s.testBit b) with
  | true =>
    rw [Bool.and_eq_true, Bool.not_eq_true', Bool.not_eq_true'] at c
    have e : s &&& (2 ^ a ||| 2 ^ b) = 0 := by
      refine Nat.eq_of_testBit_eq (fun i => ?_)
      rw [Nat.testBit_and, Nat.testBit_or, Nat.testBit_two_pow, Nat.testBit_two_pow, Nat.zero_testBit]
      by_cases z : a = i
      · rw [← z, c.1, Bool.false_and]
      · by_cases y : b = i
        · rw [← y, c.2, Bool.false_and]
        · rw [decide_eq_false z, decide_eq_false y, Bool.or_false, Bool.and_false]
    rw [e]
    rfl
  | false =>
    show xe_c .ne _ 0 = true
    cases z : xe_c .ne (nI (s &&& (2 ^ a ||| 2 ^ b))) 0 with
    | true => rfl
    | false =>
      have e : s &&& (2 ^ a ||| 2 ^ b) = 0 := nq_nef (b := 0) lt (by decide) z
      have ta := congrArg (fun n => Nat.testBit n a) e
      have tb := congrArg (fun n => Nat.testBit n b) e
      simp only [Nat.testBit_and, Nat.testBit_or, Nat.testBit_two_pow_self, Nat.zero_testBit, Bool.true_or, Bool.or_true, Bool.and_true] at ta tb
      rw [ta, tb] at c
      exact absurd c (by decide)
section
variable {W : Nat → Bool} {m q r : Nat} {h : xh_H}
theorem hl_q {f s : Nat} (A : LA W m q r h) (m12 : m ≤ 12) (hs : s < 2 ^ m) (hq : a_rq a_tb h) : xq f xi_X7_holds xmi_X7_holds 0 [(0, .ref q), (1, .int (nI s))] [] h (fun v h' => h = h' ∧ v = some (.int (bl (W s)))) := by
  have p12 : 2 ^ m ≤ 4096 := show 2 ^ m ≤ 2 ^ 12 from Nat.pow_le_pow_right (by decide) m12
  refine xq_mono (xq_of (d := 0) ⟨_, rfl⟩ (ho_run hq A.2.1 A.2.2.1 A.2.2.2.1 (by omega))) (fun v h' e => ⟨e.1, ?_⟩)
  rw [e.2, A.2.2.2.2.2.2 s hs]
  rfl
theorem gtf {s : Nat} (A : LA W m q r h) (m12 : m ≤ 12) (hs : s < 2 ^ m) : xe_c .gt (nI s) (xg 0 h.2.1 14 8) = false := by
  have p12 : 2 ^ m ≤ 4096 := show 2 ^ m ≤ 2 ^ 12 from Nat.pow_le_pow_right (by decide) m12
  rw [A.2.2.2.2.2.1]
  exact xgt_f (by rw [nI_toInt (by omega), nI_toInt (by omega)]; omega)
theorem gtt (A : LA W m q r h) (m12 : m ≤ 12) : xe_c .gt (nI (2 ^ m)) (xg 0 h.2.1 14 8) = true := by
  have p12 : 2 ^ m ≤ 4096 := show 2 ^ m ≤ 2 ^ 12 from Nat.pow_le_pow_right (by decide) m12
  have p0 := Nat.two_pow_pos m
  rw [A.2.2.2.2.2.1]
  exact xgt_t (by rw [nI_toInt (by omega), nI_toInt (by omega)]; omega)
set_option maxRecDepth 100000 in
set_option maxHeartbeats 4000000 in
/-- Powers.turnsBy -/
theorem tb_q {f s a : Nat} (A : LA W m q r h) (m12 : m ≤ 12) (hs : s < 2 ^ m) (ha : a < m) (hq : a_rq a_tb h) : xq f xi_X2_turnsBy xmi_X2_turnsBy 0 [(0, .ref 14), (1, .int (nI s)), (2, .int (nI a))] [] h (fun v h' => h = h' ∧ v = some (.int (bl (tw W a s)))) := by
  have p12 : 2 ^ m ≤ 4096 := show 2 ^ m ≤ 2 ^ 12 from Nat.pow_le_pow_right (by decide) m12
  have e0 : (nI s >>> (nI a &&& 31)) &&& Int32.ofInt 1 = nI ((s.testBit a).toNat) := nI_b0 (by omega) (by omega)
  unfold tw
  cases c1 : s.testBit a with
  | true =>
    refine xq_n 39 [] [] [.int (Int32.ofInt 0)] h [true] 60 hq rfl ⟨(show xe_c .ne ((nI s >>> (nI a &&& 31)) &&& Int32.ofInt 1) 0 = true by rw [e0, c1]; rfl), trivial⟩ (fun _ => ?_)
    exact xq_ret rfl rfl rfl ⟨rfl, rfl⟩
  | false =>
    refine xq_n 13 [0, 1, 2] [(0, .ref 14), (1, .int (nI s)), (2, .int (nI a))] [.int (nI s), va_rf (xg none h.2.2.2 14 6)] h [false] 60 hq rfl ⟨(show xe_c .ne ((nI s >>> (nI a &&& 31)) &&& Int32.ofInt 1) 0 = false by rw [e0, c1]; rfl), trivial⟩ (fun _ => ?_)
    rw [A.1]
    refine xq_cr (As := [.ref q, .int (nI (s))]) (mj := xmi_X7_holds) (q := []) rfl rfl (fun _ _ => rfl) (xa_cs_ok (d := 0) (pc := 0) (lv := []) (nL := 0) A.2.1 rfl).1 (fun f => hl_q A m12 (hs) hq) ?_
    rintro v h1 ⟨rfl, rfl⟩
    cases c2 : W s with
    | true =>
      refine xq_n 39 [] [] [.int (Int32.ofInt 0)] h [true] 60 hq rfl ⟨rfl, trivial⟩ (fun _ => ?_)
      exact xq_ret rfl rfl rfl ⟨rfl, rfl⟩
    | false =>
      refine xq_n 28 [] [] [.int (nI s ||| (Int32.ofInt 1 <<< (nI a &&& 31))), va_rf (xg none h.2.2.2 14 6)] h [false] 60 hq rfl ⟨rfl, trivial⟩ (fun _ => ?_)
      rw [A.1, nI_o1 (by omega)]
      refine xq_cr (As := [.ref q, .int (nI (s ||| 2 ^ a))]) (mj := xmi_X7_holds) (q := []) rfl rfl (fun _ _ => rfl) (xa_cs_ok (d := 0) (pc := 0) (lv := []) (nL := 0) A.2.1 rfl).1 (fun f => hl_q A m12 (or_p hs ha) hq) ?_
      rintro v h1 ⟨rfl, rfl⟩
      cases c3 : W (s ||| 2 ^ a) with
      | true =>
        refine xq_n 39 [] [] [.int (Int32.ofInt 1)] h [false] 60 hq rfl ⟨rfl, trivial⟩ (fun _ => ?_)
        exact xq_ret rfl rfl rfl ⟨rfl, rfl⟩
      | false =>
        refine xq_n 39 [] [] [.int (Int32.ofInt 0)] h [true] 60 hq rfl ⟨rfl, trivial⟩ (fun _ => ?_)
        exact xq_ret rfl rfl rfl ⟨rfl, rfl⟩
set_option maxRecDepth 100000 in
set_option maxHeartbeats 4000000 in
/-- Powers.countSwings -/
theorem csw_l {a : Nat} (A : LA W m q r h) (m12 : m ≤ 12) (ha : a < m) (hq : a_rq a_tb h) : ∀ (n f s : Nat), s + n = 2 ^ m → xq f xi_X2_countSwings xmi_X2_countSwings 4 [(0, .ref 14), (1, .int (nI a)), (2, .int (nI (cnt (tw W a) s))), (3, .int (nI s))] [] h (fun v h' => h = h' ∧ v = some (.int (nI (cnt (tw W a) (2 ^ m))))) := by
  intro n
  induction n with
  | zero =>
    intro f s sn
    have e : s = 2 ^ m := by omega
    subst e
    refine xq_n 31 [] [] [.int (nI (cnt (tw W a) (2 ^ m)))] h [true] 60 hq rfl ⟨gtt A m12, trivial⟩ (fun _ => ?_)
    exact xq_ret rfl rfl rfl ⟨rfl, rfl⟩
  | succ n ih =>
    intro f s sn
    refine xq_n 15 [0, 1, 2, 3] [(0, .ref 14), (1, .int (nI a)), (2, .int (nI (cnt (tw W a) s))), (3, .int (nI s))] [.int (nI a), .int (nI s), .ref 14] h [false] 60 hq rfl ⟨gtf A m12 (by omega), trivial⟩ (fun _ => ?_)
    refine xq_run hq rfl rfl (tb_q A m12 (by omega) ha hq) ?_
    rintro v h1 ⟨rfl, rfl⟩
    have r := ih f (s + 1) (by omega)
    cases c : tw W a s with
    | true =>
      rw [cnt_t c] at r
      refine xq_n 4 [0, 1, 2, 3] [(0, .ref 14), (1, .int (nI a)), (2, .int (nI (cnt (tw W a) s) + Int32.ofInt 1)), (3, .int (nI s + Int32.ofInt 1))] [] h [false] 60 hq rfl ⟨rfl, trivial⟩ (fun _ => ?_)
      rw [nI_1', nI_1']
      exact r
    | false =>
      rw [cnt_f c] at r
      refine xq_n 4 [0, 1, 2, 3] [(0, .ref 14), (1, .int (nI a)), (2, .int (nI (cnt (tw W a) s))), (3, .int (nI s + Int32.ofInt 1))] [] h [true] 60 hq rfl ⟨rfl, trivial⟩ (fun _ => ?_)
      rw [nI_1']
      exact r
theorem csw_q {f a : Nat} (A : LA W m q r h) (m12 : m ≤ 12) (ha : a < m) (hq : a_rq a_tb h) : xq f xi_X2_countSwings xmi_X2_countSwings 0 [(0, .ref 14), (1, .int (nI a))] [] h (fun v h' => h = h' ∧ v = some (.int (nI (cnt (tw W a) (2 ^ m))))) := by
  refine xq_n 4 [0, 1, 2, 3] [(0, .ref 14), (1, .int (nI a)), (2, .int (Int32.ofInt 0)), (3, .int (Int32.ofInt 0))] [] h [] 60 hq rfl trivial (fun _ => ?_)
  exact csw_l A m12 ha hq (2 ^ m) f 0 (by omega)
set_option maxRecDepth 100000 in
set_option maxHeartbeats 4000000 in
/-- Powers.countTogether -/
theorem ctg_l {a b : Nat} (A : LA W m q r h) (m12 : m ≤ 12) (ha : a < m) (hb : b < m) (hq : a_rq a_tb h) : ∀ (n f s : Nat), s + n = 2 ^ m → xq f xi_X2_countTogether xmi_X2_countTogether 14 [(0, .ref 14), (1, .int (nI a)), (2, .int (nI b)), (3, .int (((Int32.ofInt 1) <<< (nI a &&& 31)) ||| ((Int32.ofInt 1) <<< (nI b &&& 31)))), (4, .int (nI (cnt (tg W a b) s))), (5, .int (nI s))] [] h (fun v h' => h = h' ∧ v = some (.int (nI (cnt (tg W a b) (2 ^ m))))) := by
  have p12 : 2 ^ m ≤ 4096 := show 2 ^ m ≤ 2 ^ 12 from Nat.pow_le_pow_right (by decide) m12
  intro n
  induction n with
  | zero =>
    intro f s sn
    have e : s = 2 ^ m := by omega
    subst e
    refine xq_n 87 [] [] [.int (nI (cnt (tg W a b) (2 ^ m)))] h [true] 60 hq rfl ⟨gtt A m12, trivial⟩ (fun _ => ?_)
    exact xq_ret rfl rfl rfl ⟨rfl, rfl⟩
  | succ n ih =>
    intro f s sn
    have r := ih f (s + 1) (by omega)
    have hs : s < 2 ^ m := by omega
    have g2 := and2 (s := s) (a := a) (b := b) (by omega) (by omega) (by omega)
    cases c1 : (!s.testBit a && !s.testBit b) with
    | false =>
      have z : tg W a b s = false := by unfold tg; rw [c1]; rfl
      rw [c1] at g2
      rw [cnt_f z] at r
      refine xq_n 14 [0, 1, 2, 3, 4, 5] [(0, .ref 14), (1, .int (nI a)), (2, .int (nI b)), (3, .int (((Int32.ofInt 1) <<< (nI a &&& 31)) ||| ((Int32.ofInt 1) <<< (nI b &&& 31)))), (4, .int (nI (cnt (tg W a b) s))), (5, .int (nI s + Int32.ofInt 1))] [] h [false, true] 60 hq rfl ⟨gtf A m12 hs, g2, trivial⟩ (fun _ => ?_)
      rw [nI_1']
      exact r
    | true =>
      rw [c1] at g2
      refine xq_n 38 [0, 1, 2, 3, 4, 5] [(0, .ref 14), (1, .int (nI a)), (2, .int (nI b)), (3, .int (((Int32.ofInt 1) <<< (nI a &&& 31)) ||| ((Int32.ofInt 1) <<< (nI b &&& 31)))), (4, .int (nI (cnt (tg W a b) s))), (5, .int (nI s))] [.int (nI s ||| (((Int32.ofInt 1) <<< (nI a &&& 31)) ||| ((Int32.ofInt 1) <<< (nI b &&& 31)))), va_rf (xg none h.2.2.2 14 6)] h [false, false] 60 hq rfl ⟨gtf A m12 hs, g2, trivial⟩ (fun _ => ?_)
      rw [A.1, show nI s ||| (((Int32.ofInt 1) <<< (nI a &&& 31)) ||| ((Int32.ofInt 1) <<< (nI b &&& 31))) = nI ((s ||| 2 ^ a) ||| 2 ^ b) by rw [sh1 a (by omega), sh1 b (by omega), nI_or, nI_or, Nat.or_assoc]]
      refine xq_cr (As := [.ref q, .int (nI ((s ||| 2 ^ a) ||| 2 ^ b))]) (mj := xmi_X7_holds) (q := []) rfl rfl (fun _ _ => rfl) (xa_cs_ok (d := 0) (pc := 0) (lv := []) (nL := 0) A.2.1 rfl).1 (fun f => hl_q A m12 (or_p (or_p hs ha) hb) hq) ?_
      rintro v h1 ⟨rfl, rfl⟩
      cases c2 : W ((s ||| 2 ^ a) ||| 2 ^ b) with
      | false =>
        have z : tg W a b s = false := by unfold tg; rw [c1, c2]; rfl
        rw [cnt_f z] at r
        refine xq_n 14 [0, 1, 2, 3, 4, 5] [(0, .ref 14), (1, .int (nI a)), (2, .int (nI b)), (3, .int (((Int32.ofInt 1) <<< (nI a &&& 31)) ||| ((Int32.ofInt 1) <<< (nI b &&& 31)))), (4, .int (nI (cnt (tg W a b) s))), (5, .int (nI s + Int32.ofInt 1))] [] h [true] 60 hq rfl ⟨rfl, trivial⟩ (fun _ => ?_)
        rw [nI_1']
        exact r
      | true =>
        refine xq_n 54 [0, 1, 2, 3, 4, 5] [(0, .ref 14), (1, .int (nI a)), (2, .int (nI b)), (3, .int (((Int32.ofInt 1) <<< (nI a &&& 31)) ||| ((Int32.ofInt 1) <<< (nI b &&& 31)))), (4, .int (nI (cnt (tg W a b) s))), (5, .int (nI s))] [.int (nI s ||| (Int32.ofInt 1 <<< (nI a &&& 31))), va_rf (xg none h.2.2.2 14 6)] h [false] 60 hq rfl ⟨rfl, trivial⟩ (fun _ => ?_)
        rw [A.1, show nI s ||| (Int32.ofInt 1 <<< (nI a &&& 31)) = nI (s ||| 2 ^ a) from nI_o1 (by omega)]
        refine xq_cr (As := [.ref q, .int (nI (s ||| 2 ^ a))]) (mj := xmi_X7_holds) (q := []) rfl rfl (fun _ _ => rfl) (xa_cs_ok (d := 0) (pc := 0) (lv := []) (nL := 0) A.2.1 rfl).1 (fun f => hl_q A m12 (or_p hs ha) hq) ?_
        rintro v h1 ⟨rfl, rfl⟩
        cases c3 : W (s ||| 2 ^ a) with
        | true =>
          have z : tg W a b s = false := by unfold tg; rw [c1, c2, c3]; rfl
          rw [cnt_f z] at r
          refine xq_n 14 [0, 1, 2, 3, 4, 5] [(0, .ref 14), (1, .int (nI a)), (2, .int (nI b)), (3, .int (((Int32.ofInt 1) <<< (nI a &&& 31)) ||| ((Int32.ofInt 1) <<< (nI b &&& 31)))), (4, .int (nI (cnt (tg W a b) s))), (5, .int (nI s + Int32.ofInt 1))] [] h [true] 60 hq rfl ⟨rfl, trivial⟩ (fun _ => ?_)
          rw [nI_1']
          exact r
        | false =>
          refine xq_n 70 [0, 1, 2, 3, 4, 5] [(0, .ref 14), (1, .int (nI a)), (2, .int (nI b)), (3, .int (((Int32.ofInt 1) <<< (nI a &&& 31)) ||| ((Int32.ofInt 1) <<< (nI b &&& 31)))), (4, .int (nI (cnt (tg W a b) s))), (5, .int (nI s))] [.int (nI s ||| (Int32.ofInt 1 <<< (nI b &&& 31))), va_rf (xg none h.2.2.2 14 6)] h [false] 60 hq rfl ⟨rfl, trivial⟩ (fun _ => ?_)
          rw [A.1, show nI s ||| (Int32.ofInt 1 <<< (nI b &&& 31)) = nI (s ||| 2 ^ b) from nI_o1 (by omega)]
          refine xq_cr (As := [.ref q, .int (nI (s ||| 2 ^ b))]) (mj := xmi_X7_holds) (q := []) rfl rfl (fun _ _ => rfl) (xa_cs_ok (d := 0) (pc := 0) (lv := []) (nL := 0) A.2.1 rfl).1 (fun f => hl_q A m12 (or_p hs hb) hq) ?_
          rintro v h1 ⟨rfl, rfl⟩
          cases c4 : W (s ||| 2 ^ b) with
          | true =>
            have z : tg W a b s = false := by unfold tg; rw [c1, c2, c3, c4]; rfl
            rw [cnt_f z] at r
            refine xq_n 14 [0, 1, 2, 3, 4, 5] [(0, .ref 14), (1, .int (nI a)), (2, .int (nI b)), (3, .int (((Int32.ofInt 1) <<< (nI a &&& 31)) ||| ((Int32.ofInt 1) <<< (nI b &&& 31)))), (4, .int (nI (cnt (tg W a b) s))), (5, .int (nI s + Int32.ofInt 1))] [] h [true] 60 hq rfl ⟨rfl, trivial⟩ (fun _ => ?_)
            rw [nI_1']
            exact r
          | false =>
            have z : tg W a b s = true := by unfold tg; rw [c1, c2, c3, c4]; rfl
            rw [cnt_t z] at r
            refine xq_n 14 [0, 1, 2, 3, 4, 5] [(0, .ref 14), (1, .int (nI a)), (2, .int (nI b)), (3, .int (((Int32.ofInt 1) <<< (nI a &&& 31)) ||| ((Int32.ofInt 1) <<< (nI b &&& 31)))), (4, .int (nI (cnt (tg W a b) s) + Int32.ofInt 1)), (5, .int (nI s + Int32.ofInt 1))] [] h [false] 60 hq rfl ⟨rfl, trivial⟩ (fun _ => ?_)
            rw [nI_1', nI_1']
            exact r
theorem ctg_q {f a b : Nat} (A : LA W m q r h) (m12 : m ≤ 12) (ha : a < m) (hb : b < m) (hq : a_rq a_tb h) : xq f xi_X2_countTogether xmi_X2_countTogether 0 [(0, .ref 14), (1, .int (nI a)), (2, .int (nI b))] [] h (fun v h' => h = h' ∧ v = some (.int (nI (cnt (tg W a b) (2 ^ m))))) := by
  refine xq_n 14 [0, 1, 2, 3, 4, 5] [(0, .ref 14), (1, .int (nI a)), (2, .int (nI b)), (3, .int (((Int32.ofInt 1) <<< (nI a &&& 31)) ||| ((Int32.ofInt 1) <<< (nI b &&& 31)))), (4, .int (Int32.ofInt 0)), (5, .int (Int32.ofInt 0))] [] h [] 60 hq rfl trivial (fun _ => ?_)
  exact ctg_l A m12 ha hb hq (2 ^ m) f 0 (by omega)
/-- the best ally so far, and how often -/
def alf (F : Nat → Nat) (a : Nat) : Nat → Int32 × Int32
  | 0 => (Int32.ofInt (-1), Int32.ofInt (-1))
  | n + 1 => if n = a then alf F a n else cond (xe_c .gt (nI (F n)) (alf F a n).2) (nI n, nI (F n)) (alf F a n)
theorem alf_lo {F : Nat → Nat} {a : Nat} : ∀ n, (∀ k, F k < 2 ^ 31) → (-1 : Int) ≤ (alf F a n).2.toInt := by
  intro n
  induction n with
  | zero => intro _; exact Int.le_refl _
  | succ n ih =>
    intro hF
    unfold alf
    split
    · exact ih hF
    · cases xe_c .gt (nI (F n)) (alf F a n).2 with
      | true => show (-1 : Int) ≤ (nI (F n)).toInt; rw [nI_toInt (hF n)]; omega
      | false => exact ih hF
theorem le_gt {x y : Int32} : xe_c .le x y = !xe_c .gt x y := by
  rcases Int.lt_or_le y.toInt x.toInt with z | z
  · rw [xle_f z, xgt_t z]; rfl
  · rw [xle_t z, xgt_f z]; rfl
theorem alf_s {F : Nat → Nat} {a n : Nat} : alf F a (n + 1) = if n = a then alf F a n else cond (xe_c .gt (nI (F n)) (alf F a n).2) (nI n, nI (F n)) (alf F a n) := rfl
theorem nne_t {a b : Nat} (ha : a < 2 ^ 31) (hb : b < 2 ^ 31) (z : a ≠ b) : xe_c .ne (nI a) (nI b) = true := by
  cases y : xe_c .ne (nI a) (nI b) with
  | true => rfl
  | false => exact absurd (nq_nef ha hb y) z
theorem nne_f {a b : Nat} (ha : a < 2 ^ 31) (hb : b < 2 ^ 31) (z : a = b) : xe_c .ne (nI a) (nI b) = false := by
  cases y : xe_c .ne (nI a) (nI b) with
  | false => rfl
  | true => exact absurd z (nq_net ha hb y)
set_option maxRecDepth 100000 in
set_option maxHeartbeats 4000000 in
/-- Powers.allyOf -/
theorem alo_l {a : Nat} {F : Nat → Nat} (hF : F = fun b => cnt (tg W a b) (2 ^ m)) (A : LA W m q r h) (m12 : m ≤ 12) (ha : a < m) (hq : a_rq a_tb h) : ∀ (j f n : Nat), n + j = m → xq f xi_X2_allyOf xmi_X2_allyOf 7 [(0, .ref 14), (1, .int (nI a)), (2, .int (alf F a n).1), (3, .int (alf F a n).2), (4, .int (nI n))] [] h (fun v h' => h = h' ∧ v = some (.int (alf F a m).1)) := by
  have p12 : 2 ^ m ≤ 4096 := show 2 ^ m ≤ 2 ^ 12 from Nat.pow_le_pow_right (by decide) m12
  have lo := fun n => alf_lo (F := F) (a := a) n (fun k => by rw [hF]; exact Nat.lt_of_le_of_lt (cnt_le _) (by omega))
  intro j
  induction j with
  | zero =>
    intro f n nj
    have e : n = m := by omega
    subst e
    refine xq_n 54 [] [] [.int (alf F a n).1] h [true] 60 hq rfl ⟨(show xe_c .ge (nI n) (xg 0 h.2.1 14 7) = true by rw [A.2.2.2.2.1]; exact nge_t (by omega) (by omega) (Nat.le_refl _)), trivial⟩ (fun _ => ?_)
    exact xq_ret rfl rfl rfl ⟨rfl, rfl⟩
  | succ j ih =>
    intro f n nj
    have c0 : xe_c .ge (nI n) (xg 0 h.2.1 14 7) = false := by rw [A.2.2.2.2.1]; exact nge_f (by omega) (by omega) (by omega)
    have r := ih f (n + 1) (by omega)
    rw [alf_s] at r
    by_cases z : n = a
    · rw [if_pos z] at r
      refine xq_n 7 [0, 1, 2, 3, 4] [(0, .ref 14), (1, .int (nI a)), (2, .int (alf F a n).1), (3, .int (alf F a n).2), (4, .int (nI n + Int32.ofInt 1))] [] h [false, false, true] 60 hq rfl ⟨c0, nne_f (by omega) (by omega) z, xle_t (lo n), trivial⟩ (fun _ => ?_)
      rw [nI_1']
      exact r
    · rw [if_neg z] at r
      refine xq_n 30 [0, 1, 2, 3, 4] [(0, .ref 14), (1, .int (nI a)), (2, .int (alf F a n).1), (3, .int (alf F a n).2), (4, .int (nI n))] [.int (nI n), .int (nI a), .ref 14] h [false, true] 60 hq rfl ⟨c0, nne_t (by omega) (by omega) z, trivial⟩ (fun _ => ?_)
      refine xq_run hq rfl rfl (ctg_q A m12 ha (by omega) hq) ?_
      rintro v h1 ⟨rfl, rfl⟩
      have eF : cnt (tg W a n) (2 ^ m) = F n := by rw [hF]
      rw [eF]
      cases c : xe_c .gt (nI (F n)) (alf F a n).2 with
      | true =>
        rw [c] at r
        refine xq_n 7 [0, 1, 2, 3, 4] [(0, .ref 14), (1, .int (nI a)), (2, .int (nI n)), (3, .int (nI (F n))), (4, .int (nI n + Int32.ofInt 1))] [] h [false] 60 hq rfl ⟨(show xe_c .le (nI (F n)) (alf F a n).2 = false by rw [le_gt, c]; rfl), trivial⟩ (fun _ => ?_)
        rw [nI_1']
        exact r
      | false =>
        rw [c] at r
        refine xq_n 7 [0, 1, 2, 3, 4] [(0, .ref 14), (1, .int (nI a)), (2, .int (alf F a n).1), (3, .int (alf F a n).2), (4, .int (nI n + Int32.ofInt 1))] [] h [true] 60 hq rfl ⟨(show xe_c .le (nI (F n)) (alf F a n).2 = true by rw [le_gt, c]; rfl), trivial⟩ (fun _ => ?_)
        rw [nI_1']
        exact r
theorem alo_q {f a : Nat} (A : LA W m q r h) (m12 : m ≤ 12) (ha : a < m) (hq : a_rq a_tb h) : xq f xi_X2_allyOf xmi_X2_allyOf 0 [(0, .ref 14), (1, .int (nI a))] [] h (fun v h' => h = h' ∧ v = some (.int (alf (fun b => cnt (tg W a b) (2 ^ m)) a m).1)) := by
  refine xq_n 7 [0, 1, 2, 3, 4] [(0, .ref 14), (1, .int (nI a)), (2, .int (Int32.ofInt (-1))), (3, .int (Int32.ofInt (-1))), (4, .int (Int32.ofInt 0))] [] h [] 60 hq rfl trivial (fun _ => ?_)
  exact alo_l rfl A m12 ha hq m f 0 (by omega)
end
end XPW
end
section
section XPR
/-- what the reference has laid out -/
def RA (W : Nat → Bool) (m : Nat) (h : xh_H) : Prop := xg 0 h.2.1 39 4 = nI m ∧ xg 0 h.2.1 39 35 = nI (2 ^ m) ∧ ∀ s, s < 2 ^ m → xg 0 h.2.1 53 s = bl (W s)
section
variable {W : Nat → Bool} {m : Nat} {h : xh_H}
theorem rgf {s : Nat} (A : RA W m h) (m12 : m ≤ 12) (hs : s < 2 ^ m) : xe_c .ge (nI s) (xg 0 h.2.1 39 35) = false := by
  have p12 : 2 ^ m ≤ 4096 := show 2 ^ m ≤ 2 ^ 12 from Nat.pow_le_pow_right (by decide) m12
  rw [A.2.1]
  exact nge_f (by omega) (by omega) hs
theorem rgt (A : RA W m h) (m12 : m ≤ 12) : xe_c .ge (nI (2 ^ m)) (xg 0 h.2.1 39 35) = true := by
  have p12 : 2 ^ m ≤ 4096 := show 2 ^ m ≤ 2 ^ 12 from Nat.pow_le_pow_right (by decide) m12
  rw [A.2.1]
  exact nge_t (by omega) (by omega) (Nat.le_refl _)
theorem rb0 {s a : Nat} (m12 : m ≤ 12) (hs : s < 2 ^ m) (ha : a < m) : (nI s >>> (nI a &&& 31)) &&& Int32.ofInt 1 = bl (s.testBit a) := by
  have p12 : 2 ^ m ≤ 4096 := show 2 ^ m ≤ 2 ^ 12 from Nat.pow_le_pow_right (by decide) m12
  rw [nI_b0 (by omega) (by omega), bl_nI]
theorem rw0 {s : Nat} (A : RA W m h) (m12 : m ≤ 12) (hs : s < 2 ^ m) : xg 0 h.2.1 53 (nI s).toNatClampNeg = bl (W s) := by
  have p12 : 2 ^ m ≤ 4096 := show 2 ^ m ≤ 2 ^ 12 from Nat.pow_le_pow_right (by decide) m12
  rw [nI_clamp (by omega)]
  exact A.2.2 s hs
theorem rw1 {s a : Nat} (A : RA W m h) (m12 : m ≤ 12) (hs : s < 2 ^ m) (ha : a < m) : xg 0 h.2.1 53 (nI s ||| (Int32.ofInt 1 <<< (nI a &&& 31))).toNatClampNeg = bl (W (s ||| 2 ^ a)) := by
  rw [nI_o1 (by omega)]
  exact rw0 A m12 (or_p hs ha)
theorem rw2 {s a b : Nat} (A : RA W m h) (m12 : m ≤ 12) (hs : s < 2 ^ m) (ha : a < m) (hb : b < m) : xg 0 h.2.1 53 ((nI s ||| (Int32.ofInt 1 <<< (nI a &&& 31))) ||| (Int32.ofInt 1 <<< (nI b &&& 31))).toNatClampNeg = bl (W ((s ||| 2 ^ a) ||| 2 ^ b)) := by
  rw [nI_o1 (by omega)]
  exact rw1 A m12 (or_p hs ha) hb
theorem bn {b : Bool} {x : Int32} (e : x = bl b) : xe_c .ne x 0 = b := by rw [e]; cases b <;> rfl
theorem be' {b : Bool} {x : Int32} (e : x = bl b) : xe_c .eq x 0 = !b := by rw [e]; cases b <;> rfl
set_option maxRecDepth 100000 in
set_option maxHeartbeats 4000000 in
/-- X10.turnsOf -/
theorem tno_l {a : Nat} (A : RA W m h) (m12 : m ≤ 12) (ha : a < m) (hq : a_rq a_tb h) : ∀ (n f s : Nat), s + n = 2 ^ m → xq f xi_X10_turnsOf xmi_X10_turnsOf 4 [(0, .ref 39), (1, .int (nI a)), (2, .int (nI (cnt (tw W a) s))), (3, .int (nI s))] [] h (fun v h' => h = h' ∧ v = some (.int (nI (cnt (tw W a) (2 ^ m))))) := by
  intro n
  induction n with
  | zero =>
    intro f s sn
    have e : s = 2 ^ m := by omega
    subst e
    refine xq_n 52 [] [] [.int (nI (cnt (tw W a) (2 ^ m)))] h [true] 60 hq rfl ⟨rgt A m12, trivial⟩ (fun _ => ?_)
    exact xq_ret rfl rfl rfl ⟨rfl, rfl⟩
  | succ n ih =>
    intro f s sn
    have r := ih f (s + 1) (by omega)
    have hs : s < 2 ^ m := by omega
    have g0 := rgf A m12 hs
    have g1 := bn (rb0 m12 hs ha)
    have g2 := bn (rw0 A m12 hs)
    have g3 := be' (rw1 A m12 hs ha)
    cases c1 : s.testBit a with
    | true =>
      rw [c1] at g1
      have z : tw W a s = false := by unfold tw; rw [c1]; rfl
      rw [cnt_f z] at r
      refine xq_n 4 [0, 1, 2, 3] [(0, .ref 39), (1, .int (nI a)), (2, .int (nI (cnt (tw W a) s))), (3, .int (nI s + Int32.ofInt 1))] [] h [false, true] 60 hq rfl ⟨g0, g1, trivial⟩ (fun _ => ?_)
      rw [nI_1']
      exact r
    | false =>
      rw [c1] at g1
      cases c2 : W s with
      | true =>
        rw [c2] at g2
        have z : tw W a s = false := by unfold tw; rw [c1, c2]; rfl
        rw [cnt_f z] at r
        refine xq_n 4 [0, 1, 2, 3] [(0, .ref 39), (1, .int (nI a)), (2, .int (nI (cnt (tw W a) s))), (3, .int (nI s + Int32.ofInt 1))] [] h [false, false, true] 60 hq rfl ⟨g0, g1, g2, trivial⟩ (fun _ => ?_)
        rw [nI_1']
        exact r
      | false =>
        rw [c2] at g2
        cases c3 : W (s ||| 2 ^ a) with
        | false =>
          rw [c3] at g3
          have z : tw W a s = false := by unfold tw; rw [c1, c2, c3]; rfl
          rw [cnt_f z] at r
          refine xq_n 4 [0, 1, 2, 3] [(0, .ref 39), (1, .int (nI a)), (2, .int (nI (cnt (tw W a) s))), (3, .int (nI s + Int32.ofInt 1))] [] h [false, false, false, true] 60 hq rfl ⟨g0, g1, g2, g3, trivial⟩ (fun _ => ?_)
          rw [nI_1']
          exact r
        | true =>
          rw [c3] at g3
          have z : tw W a s = true := by unfold tw; rw [c1, c2, c3]; rfl
          rw [cnt_t z] at r
          refine xq_n 4 [0, 1, 2, 3] [(0, .ref 39), (1, .int (nI a)), (2, .int (nI (cnt (tw W a) s) + Int32.ofInt 1)), (3, .int (nI s + Int32.ofInt 1))] [] h [false, false, false, false] 60 hq rfl ⟨g0, g1, g2, g3, trivial⟩ (fun _ => ?_)
          rw [nI_1', nI_1']
          exact r
theorem tno_q {f a : Nat} (A : RA W m h) (m12 : m ≤ 12) (ha : a < m) (hq : a_rq a_tb h) : xq f xi_X10_turnsOf xmi_X10_turnsOf 0 [(0, .ref 39), (1, .int (nI a))] [] h (fun v h' => h = h' ∧ v = some (.int (nI (cnt (tw W a) (2 ^ m))))) := by
  refine xq_n 4 [0, 1, 2, 3] [(0, .ref 39), (1, .int (nI a)), (2, .int (Int32.ofInt 0)), (3, .int (Int32.ofInt 0))] [] h [] 60 hq rfl trivial (fun _ => ?_)
  exact tno_l A m12 ha hq (2 ^ m) f 0 (by omega)
set_option maxRecDepth 100000 in
set_option maxHeartbeats 4000000 in
/-- X10.ally, how often with one other -/
theorem al_in {a b : Nat} {x2 x3 : Int32} (A : RA W m h) (m12 : m ≤ 12) (ha : a < m) (hb : b < m) (hq : a_rq a_tb h) {Q : Option Value → xh_H → Prop} (K : ∀ f, xq f xi_X10_ally xmi_X10_ally 135 [(0, .ref 39), (1, .int (nI a)), (2, .int x2), (3, .int x3), (4, .int (nI b)), (5, .int (nI (cnt (tg W a b) (2 ^ m))))] [] h Q) : ∀ (n f s : Nat), s + n = 2 ^ m → xq f xi_X10_ally xmi_X10_ally 50 [(0, .ref 39), (1, .int (nI a)), (2, .int x2), (3, .int x3), (4, .int (nI b)), (5, .int (nI (cnt (tg W a b) s))), (6, .int (nI s))] [] h Q := by
  intro n
  induction n with
  | zero =>
    intro f s sn
    have e : s = 2 ^ m := by omega
    subst e
    refine xq_n 135 [0, 1, 2, 3, 4, 5] [(0, .ref 39), (1, .int (nI a)), (2, .int x2), (3, .int x3), (4, .int (nI b)), (5, .int (nI (cnt (tg W a b) (2 ^ m))))] [] h [true] 60 hq rfl ⟨rgt A m12, trivial⟩ (fun _ => ?_)
    exact K f
  | succ n ih =>
    intro f s sn
    have r := ih f (s + 1) (by omega)
    have hs : s < 2 ^ m := by omega
    have g0 := rgf A m12 hs
    have g1 := bn (rb0 m12 hs ha)
    have g2 := bn (rb0 m12 hs hb)
    have g3 := bn (rw1 A m12 hs ha)
    have g4 := bn (rw1 A m12 hs hb)
    have g5 := be' (rw2 A m12 hs ha hb)
    cases c1 : s.testBit a with
    | true =>
      rw [c1] at g1
      have z : tg W a b s = false := by unfold tg; rw [c1]; rfl
      rw [cnt_f z] at r
      refine xq_n 50 [0, 1, 2, 3, 4, 5, 6] [(0, .ref 39), (1, .int (nI a)), (2, .int x2), (3, .int x3), (4, .int (nI b)), (5, .int (nI (cnt (tg W a b) s))), (6, .int (nI s + Int32.ofInt 1))] [] h [false, true] 80 hq rfl ⟨g0, g1, trivial⟩ (fun _ => ?_)
      rw [nI_1']
      exact r
    | false =>
      rw [c1] at g1
      cases c2 : s.testBit b with
      | true =>
        rw [c2] at g2
        have z : tg W a b s = false := by unfold tg; rw [c1, c2]; rfl
        rw [cnt_f z] at r
        refine xq_n 50 [0, 1, 2, 3, 4, 5, 6] [(0, .ref 39), (1, .int (nI a)), (2, .int x2), (3, .int x3), (4, .int (nI b)), (5, .int (nI (cnt (tg W a b) s))), (6, .int (nI s + Int32.ofInt 1))] [] h [false, false, true] 80 hq rfl ⟨g0, g1, g2, trivial⟩ (fun _ => ?_)
        rw [nI_1']
        exact r
      | false =>
        rw [c2] at g2
        cases c3 : W (s ||| 2 ^ a) with
        | true =>
          rw [c3] at g3
          have z : tg W a b s = false := by unfold tg; rw [c1, c2, c3]; cases W ((s ||| 2 ^ a) ||| 2 ^ b) <;> rfl
          rw [cnt_f z] at r
          refine xq_n 50 [0, 1, 2, 3, 4, 5, 6] [(0, .ref 39), (1, .int (nI a)), (2, .int x2), (3, .int x3), (4, .int (nI b)), (5, .int (nI (cnt (tg W a b) s))), (6, .int (nI s + Int32.ofInt 1))] [] h [false, false, false, true] 80 hq rfl ⟨g0, g1, g2, g3, trivial⟩ (fun _ => ?_)
          rw [nI_1']
          exact r
        | false =>
          rw [c3] at g3
          cases c4 : W (s ||| 2 ^ b) with
          | true =>
            rw [c4] at g4
            have z : tg W a b s = false := by unfold tg; rw [c1, c2, c3, c4]; cases W ((s ||| 2 ^ a) ||| 2 ^ b) <;> rfl
            rw [cnt_f z] at r
            refine xq_n 50 [0, 1, 2, 3, 4, 5, 6] [(0, .ref 39), (1, .int (nI a)), (2, .int x2), (3, .int x3), (4, .int (nI b)), (5, .int (nI (cnt (tg W a b) s))), (6, .int (nI s + Int32.ofInt 1))] [] h [false, false, false, false, true] 80 hq rfl ⟨g0, g1, g2, g3, g4, trivial⟩ (fun _ => ?_)
            rw [nI_1']
            exact r
          | false =>
            rw [c4] at g4
            cases c5 : W ((s ||| 2 ^ a) ||| 2 ^ b) with
            | false =>
              rw [c5] at g5
              have z : tg W a b s = false := by unfold tg; rw [c1, c2, c3, c4, c5]; rfl
              rw [cnt_f z] at r
              refine xq_n 50 [0, 1, 2, 3, 4, 5, 6] [(0, .ref 39), (1, .int (nI a)), (2, .int x2), (3, .int x3), (4, .int (nI b)), (5, .int (nI (cnt (tg W a b) s))), (6, .int (nI s + Int32.ofInt 1))] [] h [false, false, false, false, false, true] 80 hq rfl ⟨g0, g1, g2, g3, g4, g5, trivial⟩ (fun _ => ?_)
              rw [nI_1']
              exact r
            | true =>
              rw [c5] at g5
              have z : tg W a b s = true := by unfold tg; rw [c1, c2, c3, c4, c5]; rfl
              rw [cnt_t z] at r
              refine xq_n 50 [0, 1, 2, 3, 4, 5, 6] [(0, .ref 39), (1, .int (nI a)), (2, .int x2), (3, .int x3), (4, .int (nI b)), (5, .int (nI (cnt (tg W a b) s) + Int32.ofInt 1)), (6, .int (nI s + Int32.ofInt 1))] [] h [false, false, false, false, false, false] 80 hq rfl ⟨g0, g1, g2, g3, g4, g5, trivial⟩ (fun _ => ?_)
              rw [nI_1', nI_1']
              exact r
set_option maxRecDepth 100000 in
set_option maxHeartbeats 4000000 in
theorem al_out {a : Nat} {F : Nat → Nat} (hF : F = fun b => cnt (tg W a b) (2 ^ m)) (A : RA W m h) (m12 : m ≤ 12) (ha : a < m) (hq : a_rq a_tb h) : ∀ (j f n : Nat), n + j = m → xq f xi_X10_ally xmi_X10_ally 26 [(0, .ref 39), (1, .int (nI a)), (2, .int (alf F a n).1), (3, .int (alf F a n).2), (4, .int (nI n))] [] h (fun v h' => v = some (.int (alf F a m).1)) := by
  intro j
  induction j with
  | zero =>
    intro f n nj
    have e : n = m := by omega
    subst e
    refine xq_n 157 [] [] [.int (alf F a n).1] h [true] 60 hq rfl ⟨(show xe_c .ge (nI n) (xg 0 h.2.1 39 4) = true by rw [A.1]; exact nge_t (by omega) (by omega) (Nat.le_refl _)), trivial⟩ (fun _ => ?_)
    exact xq_ret rfl rfl rfl rfl
  | succ j ih =>
    intro f n nj
    have c0 : xe_c .ge (nI n) (xg 0 h.2.1 39 4) = false := by rw [A.1]; exact nge_f (by omega) (by omega) (by omega)
    have r := fun f => ih f (n + 1) (by omega)
    rw [alf_s] at r
    by_cases z : n = a
    · rw [if_pos z] at r
      refine xq_n 26 [0, 1, 2, 3, 4] [(0, .ref 39), (1, .int (nI a)), (2, .int (alf F a n).1), (3, .int (alf F a n).2), (4, .int (nI n + Int32.ofInt 1))] [] h [false, false] 60 hq rfl ⟨c0, nne_f (by omega) (by omega) z, trivial⟩ (fun _ => ?_)
      rw [nI_1']
      exact r f
    · rw [if_neg z] at r
      refine xq_n 50 [0, 1, 2, 3, 4, 5, 6] [(0, .ref 39), (1, .int (nI a)), (2, .int (alf F a n).1), (3, .int (alf F a n).2), (4, .int (nI n)), (5, .int (Int32.ofInt 0)), (6, .int (Int32.ofInt 0))] [] h [false, true] 60 hq rfl ⟨c0, nne_t (by omega) (by omega) z, trivial⟩ (fun _ => ?_)
      refine al_in A m12 ha (show n < m by omega) hq (fun f => ?_) (2 ^ m) f 0 (by omega)
      have eF : cnt (tg W a n) (2 ^ m) = F n := by rw [hF]
      rw [eF]
      cases c : xe_c .gt (nI (F n)) (alf F a n).2 with
      | true =>
        rw [c] at r
        refine xq_n 26 [0, 1, 2, 3, 4] [(0, .ref 39), (1, .int (nI a)), (2, .int (nI n)), (3, .int (nI (F n))), (4, .int (nI n + Int32.ofInt 1))] [] h [true] 60 hq rfl ⟨c, trivial⟩ (fun _ => ?_)
        rw [nI_1']
        exact r f
      | false =>
        rw [c] at r
        refine xq_n 26 [0, 1, 2, 3, 4] [(0, .ref 39), (1, .int (nI a)), (2, .int (alf F a n).1), (3, .int (alf F a n).2), (4, .int (nI n + Int32.ofInt 1))] [] h [false] 60 hq rfl ⟨c, trivial⟩ (fun _ => ?_)
        rw [nI_1']
        exact r f
/-- held -/
def hdv (x y : Bool) : Int32 := cond x (cond y 3 1) (cond y 2 0)
theorem hdv_2 {x y : Bool} : hdv x y &&& Int32.ofInt 2 = hdv false y := by cases x <;> cases y <;> decide
theorem hdv_1 {x y : Bool} : hdv x y &&& Int32.ofInt 1 = hdv x false := by cases x <;> cases y <;> decide
theorem be1 {b : Bool} {x : Int32} (e : x = bl b) : xe_c .eq x (Int32.ofInt 1) = b := by rw [e]; cases b <;> rfl
theorem bn1 {b : Bool} {x : Int32} (e : x = bl b) : xe_c .ne x (Int32.ofInt 1) = !b := by rw [e]; cases b <;> rfl
theorem aln_1 {P : Nat → Bool} {n : Nat} (h : P n = true) : aln P (n + 1) = aln P n := by show (aln P n && P n) = _; rw [h, Bool.and_true]
theorem aln_0 {P : Nat → Bool} {n : Nat} (h : P n = false) : aln P (n + 1) = false := by show (aln P n && P n) = _; rw [h, Bool.and_false]
set_option maxRecDepth 100000 in
set_option maxHeartbeats 4000000 in
/-- X10.held -/
theorem hel_l {a b : Nat} (A : RA W m h) (m12 : m ≤ 12) (ha : a < m) (hb : b < m) (hq : a_rq a_tb h) : ∀ (n f s : Nat), s + n = 2 ^ m → xq f xi_X10_held xmi_X10_held 5 [(0, .ref 39), (1, .int (nI a)), (2, .int (nI b)), (3, .int (hdv (aln (gp W a b) s) (aln (gp W b a) s))), (4, .int (nI s))] [] h (fun v h' => h = h' ∧ v = some (.int (hdv (aln (gp W a b) (2 ^ m)) (aln (gp W b a) (2 ^ m))))) := by
  intro n
  induction n with
  | zero =>
    intro f s sn
    have e : s = 2 ^ m := by omega
    subst e
    refine xq_n 98 [] [] [.int (hdv (aln (gp W a b) (2 ^ m)) (aln (gp W b a) (2 ^ m)))] h [true] 60 hq rfl ⟨rgt A m12, trivial⟩ (fun _ => ?_)
    exact xq_ret rfl rfl rfl ⟨rfl, rfl⟩
  | succ n ih =>
    intro f s sn
    have r := ih f (s + 1) (by omega)
    have hs : s < 2 ^ m := by omega
    have g0 := rgf A m12 hs
    have g1 := be1 (rb0 m12 hs ha)
    have g2 := bn1 (rb0 m12 hs hb)
    have ea := rw1 A m12 hs ha
    have eb := rw1 A m12 hs hb
    cases c1 : s.testBit a with
    | true =>
      rw [c1] at g1
      rw [aln_1 (show gp W a b s = true by unfold gp; rw [c1]; rfl), aln_1 (show gp W b a s = true by unfold gp; rw [c1]; cases s.testBit b <;> rfl)] at r
      refine xq_n 5 [0, 1, 2, 3, 4] [(0, .ref 39), (1, .int (nI a)), (2, .int (nI b)), (3, .int (hdv (aln (gp W a b) s) (aln (gp W b a) s))), (4, .int (nI s + Int32.ofInt 1))] [] h [false, true] 60 hq rfl ⟨g0, g1, trivial⟩ (fun _ => ?_)
      rw [nI_1']
      exact r
    | false =>
      rw [c1] at g1
      cases c2 : s.testBit b with
      | true =>
        rw [c2] at g2
        rw [aln_1 (show gp W a b s = true by unfold gp; rw [c1, c2]; rfl), aln_1 (show gp W b a s = true by unfold gp; rw [c2]; rfl)] at r
        refine xq_n 5 [0, 1, 2, 3, 4] [(0, .ref 39), (1, .int (nI a)), (2, .int (nI b)), (3, .int (hdv (aln (gp W a b) s) (aln (gp W b a) s))), (4, .int (nI s + Int32.ofInt 1))] [] h [false, false, false] 60 hq rfl ⟨g0, g1, g2, trivial⟩ (fun _ => ?_)
        rw [nI_1']
        exact r
      | false =>
        rw [c2] at g2
        refine xq_n 63 [0, 1, 2, 3, 4, 5, 6] [(0, .ref 39), (1, .int (nI a)), (2, .int (nI b)), (3, .int (hdv (aln (gp W a b) s) (aln (gp W b a) s))), (4, .int (nI s)), (5, .int (xg 0 h.2.1 53 (nI s ||| (Int32.ofInt 1 <<< (nI a &&& 31))).toNatClampNeg)), (6, .int (xg 0 h.2.1 53 (nI s ||| (Int32.ofInt 1 <<< (nI b &&& 31))).toNatClampNeg))] [] h [false, false, true] 60 hq rfl ⟨g0, g1, g2, trivial⟩ (fun _ => ?_)
        rw [ea, eb]
        cases ca : W (s ||| 2 ^ a) with
        | true =>
          cases cb : W (s ||| 2 ^ b) with
          | true =>
            rw [aln_1 (show gp W a b s = true by unfold gp; rw [c1, c2, ca, cb]; rfl), aln_1 (show gp W b a s = true by unfold gp; rw [c1, c2, ca, cb]; rfl)] at r
            refine xq_n 5 [0, 1, 2, 3, 4] [(0, .ref 39), (1, .int (nI a)), (2, .int (nI b)), (3, .int (hdv (aln (gp W a b) s) (aln (gp W b a) s))), (4, .int (nI s + Int32.ofInt 1))] [] h [false, true, false, true] 60 hq rfl ⟨rfl, rfl, rfl, rfl, trivial⟩ (fun _ => ?_)
            rw [nI_1']
            exact r
          | false =>
            rw [aln_1 (show gp W a b s = true by unfold gp; rw [c1, c2, ca, cb]; rfl), aln_0 (show gp W b a s = false by unfold gp; rw [c1, c2, ca, cb]; rfl)] at r
            refine xq_n 5 [0, 1, 2, 3, 4] [(0, .ref 39), (1, .int (nI a)), (2, .int (nI b)), (3, .int (hdv (aln (gp W a b) s) (aln (gp W b a) s) &&& Int32.ofInt 1)), (4, .int (nI s + Int32.ofInt 1))] [] h [true, false, false] 60 hq rfl ⟨rfl, rfl, rfl, trivial⟩ (fun _ => ?_)
            rw [nI_1', hdv_1]
            exact r
        | false =>
          cases cb : W (s ||| 2 ^ b) with
          | true =>
            rw [aln_0 (show gp W a b s = false by unfold gp; rw [c1, c2, ca, cb]; rfl), aln_1 (show gp W b a s = true by unfold gp; rw [c1, c2, ca, cb]; rfl)] at r
            refine xq_n 5 [0, 1, 2, 3, 4] [(0, .ref 39), (1, .int (nI a)), (2, .int (nI b)), (3, .int (hdv (aln (gp W a b) s) (aln (gp W b a) s) &&& Int32.ofInt 2)), (4, .int (nI s + Int32.ofInt 1))] [] h [false, false, true] 60 hq rfl ⟨rfl, rfl, rfl, trivial⟩ (fun _ => ?_)
            rw [nI_1', hdv_2]
            exact r
          | false =>
            rw [aln_1 (show gp W a b s = true by unfold gp; rw [c1, c2, ca, cb]; rfl), aln_1 (show gp W b a s = true by unfold gp; rw [c1, c2, ca, cb]; rfl)] at r
            refine xq_n 5 [0, 1, 2, 3, 4] [(0, .ref 39), (1, .int (nI a)), (2, .int (nI b)), (3, .int (hdv (aln (gp W a b) s) (aln (gp W b a) s))), (4, .int (nI s + Int32.ofInt 1))] [] h [true, true] 60 hq rfl ⟨rfl, rfl, trivial⟩ (fun _ => ?_)
            rw [nI_1']
            exact r
theorem hel_q {f a b : Nat} (A : RA W m h) (m12 : m ≤ 12) (ha : a < m) (hb : b < m) (hq : a_rq a_tb h) : xq f xi_X10_held xmi_X10_held 0 [(0, .ref 39), (1, .int (nI a)), (2, .int (nI b))] [] h (fun v h' => h = h' ∧ v = some (.int (hdv (aln (gp W a b) (2 ^ m)) (aln (gp W b a) (2 ^ m))))) := by
  refine xq_n 5 [0, 1, 2, 3, 4] [(0, .ref 39), (1, .int (nI a)), (2, .int (nI b)), (3, .int (Int32.ofInt 3)), (4, .int (Int32.ofInt 0))] [] h [] 60 hq rfl trivial (fun _ => ?_)
  exact hel_l A m12 ha hb hq (2 ^ m) f 0 (by omega)
end
/-- one of the members -/
theorem mb_n {x : Int32} {mem : Nat} (m12 : mem ≤ 12) (h : (!xe_c .lt x 0 && !xe_c .ge x (nI mem)) = true) : ∃ a, x = nI a ∧ a < mem ∧ x.toInt.toNat = a := by
  rw [Bool.and_eq_true, Bool.not_eq_true', Bool.not_eq_true'] at h
  have b1 : (0 : Int) ≤ x.toInt := a_ce (a_neg_ok h.1)
  have b2 : x.toInt < (nI mem).toInt := a_ce (a_neg_ok h.2)
  rw [nI_toInt (by omega)] at b2
  obtain ⟨k, e, k1, k2⟩ := a_nk (x := x) (m := 12) b1 (by omega)
  have t : x.toInt.toNat = k := by rw [e, nI_toInt (by omega)]; omega
  exact ⟨k, e, by omega, t⟩
def isM (x : Int32) (mem : Nat) : Bool := !xe_c .lt x 0 && !xe_c .ge x (nI mem)
def tuA (W : Nat → Bool) (mem : Nat) (x : Int32) : Int32 := cond (isM x mem) (nI (cnt (tw W x.toInt.toNat) (2 ^ mem))) (Int32.ofInt (-1))
def alA (W : Nat → Bool) (mem : Nat) (x : Int32) : Int32 := cond (isM x mem) (alf (fun b => cnt (tg W x.toInt.toNat b) (2 ^ mem)) x.toInt.toNat mem).1 (Int32.ofInt (-1))
def cmv (o u : Bool) : Int32 := cond o (cond u (Int32.ofInt 0) (Int32.ofInt 1)) (cond u (Int32.ofInt (-1)) (Int32.ofInt 2))
def srA (W : Nat → Bool) (mem : Nat) (x y : Int32) : Int32 := cond (isM x mem) (cond (isM y mem) (cmv (aln (gp W x.toInt.toNat y.toInt.toNat) (2 ^ mem)) (aln (gp W y.toInt.toNat x.toInt.toNat) (2 ^ mem))) (-2)) (-2)
theorem gp_s {W : Nat → Bool} {a s : Nat} : gp W a a s = true := by unfold gp; cases W (s ||| 2 ^ a) <;> cases s.testBit a <;> rfl
theorem aln_a {P : Nat → Bool} : ∀ n, (∀ k, P k = true) → aln P n = true := by
  intro n
  induction n with
  | zero => intro _; rfl
  | succ n ih => intro h; rw [aln_1 (h n)]; exact ih h
section
variable {mem sc : Nat} {FR RW : Nat → Int32} {d : Int32} {h : xh_H}
/-- lay, behind the answer's first write -/
theorem ly_q {f : Nat} (m12 : mem ≤ 12) (e4 : xg 0 h.2.1 39 4 = nI mem) (e33 : xg 0 h.2.1 39 33 = nI sc) (sc8 : sc ≤ 8) (e3 : xg 0 h.2.1 39 3 = d) (hF : ∀ k, k < sc → xg 0 h.2.1 51 k = FR k) (hT : ∀ k, k < sc → (xg 0 h.2.1 52 k).toInt ≤ 999) (hR : ∀ k s, k < sc → s < 2 ^ mem → ∃ b : Bool, RW (4096 * k + s) = bl b ∧ xg 0 h.2.1 44 (4096 * k + s) = bl b) (hq : a_rq a_tb (xh_ui h 39 0 (Int32.ofInt 0))) : xq f xi_X10_lay xmi_X10_lay 0 [(0, .ref 39)] [] (xh_ui h 39 0 (Int32.ofInt 0)) (fun v h' => v = none ∧ fx S53 fN (xh_ui h 39 0 (Int32.ofInt 0)) h' ∧ RA (cvB FR RW mem sc d) mem h') := by
  refine xq_mono (lay_q (FR := FR) (RW := RW) (d := d) m12 ((gx_k (by decide)).trans e4) ((gx_k (by decide)).trans e33) sc8 ((gx_k (by decide)).trans e3) (fun k hk' => (gx_o (by decide)).trans (hF k hk')) (fun k hk' => by rw [gx_o (by decide)]; exact hT k hk') (fun k s h1 h2 => by obtain ⟨b, b1, b2⟩ := hR k s h1 h2; exact ⟨b, b1, (gx_o (by decide)).trans b2⟩) hq) (fun v h' e => ?_)
  obtain ⟨e1, g1, w35, w53⟩ := e
  exact ⟨e1, g1, (fx_i g1 rfl).trans ((gx_k (by decide)).trans e4), w35, w53⟩
set_option maxRecDepth 100000 in
set_option maxHeartbeats 4000000 in
theorem tu10_q {f : Nat} {x : Int32} (m12 : mem ≤ 12) (e4 : xg 0 h.2.1 39 4 = nI mem) (e33 : xg 0 h.2.1 39 33 = nI sc) (sc8 : sc ≤ 8) (e3 : xg 0 h.2.1 39 3 = d) (hF : ∀ k, k < sc → xg 0 h.2.1 51 k = FR k) (hT : ∀ k, k < sc → (xg 0 h.2.1 52 k).toInt ≤ 999) (hR : ∀ k s, k < sc → s < 2 ^ mem → ∃ b : Bool, RW (4096 * k + s) = bl b ∧ xg 0 h.2.1 44 (4096 * k + s) = bl b) (hq : a_rq a_tb h) : xq f xi_X10_turns xmi_X10_turns 0 [(0, .ref 39), (1, .int x)] [] h (fun v h' => v = some (.int (tuA (cvB FR RW mem sc d) mem x))) := by
  refine xq_n 7 [0, 1] [(0, .ref 39), (1, .int x)] [.int x, .ref 39] (xh_ui h 39 0 (Int32.ofInt 0)) [] 60 hq rfl trivial (fun _ => ?_)
  have hq : a_rq a_tb (xh_ui h 39 0 (Int32.ofInt 0)) := a_rq_ui hq
  refine xq_run hq rfl rfl (mem10_q (z := nI mem) ((gx_k (by decide)).trans e4) hq) ?_
  rintro v h1 ⟨rfl, rfl⟩
  unfold tuA isM
  cases c1 : (!xe_c .lt x 0 && !xe_c .ge x (nI mem)) with
  | false =>
    refine xq_n 14 [] [] [.int (Int32.ofInt (-1))] (xh_ui h 39 0 (Int32.ofInt 0)) [false] 60 hq rfl ⟨rfl, trivial⟩ (fun _ => ?_)
    exact xq_ret rfl rfl rfl rfl
  | true =>
    obtain ⟨a, rfl, al, ea⟩ := mb_n m12 c1
    rw [ea]
    refine xq_n 16 [0, 1] [(0, .ref 39), (1, .int (nI a))] [.ref 39] (xh_ui h 39 0 (Int32.ofInt 0)) [true] 60 hq rfl ⟨rfl, trivial⟩ (fun _ => ?_)
    refine xq_run hq rfl rfl (ly_q m12 e4 e33 sc8 e3 hF hT hR hq) ?_
    rintro v h1 ⟨rfl, g1, A⟩
    have hq := fx_q g1 hq
    refine xq_n 21 [] [] [.int (nI a), .ref 39] h1 [] 60 hq rfl trivial (fun _ => ?_)
    refine xq_run hq rfl rfl (tno_q A m12 al hq) ?_
    rintro v h2 ⟨rfl, rfl⟩
    exact xq_ret rfl rfl rfl rfl
set_option maxRecDepth 100000 in
set_option maxHeartbeats 4000000 in
theorem al10_q {f : Nat} {x : Int32} (m12 : mem ≤ 12) (e4 : xg 0 h.2.1 39 4 = nI mem) (e33 : xg 0 h.2.1 39 33 = nI sc) (sc8 : sc ≤ 8) (e3 : xg 0 h.2.1 39 3 = d) (hF : ∀ k, k < sc → xg 0 h.2.1 51 k = FR k) (hT : ∀ k, k < sc → (xg 0 h.2.1 52 k).toInt ≤ 999) (hR : ∀ k s, k < sc → s < 2 ^ mem → ∃ b : Bool, RW (4096 * k + s) = bl b ∧ xg 0 h.2.1 44 (4096 * k + s) = bl b) (hq : a_rq a_tb h) : xq f xi_X10_ally xmi_X10_ally 0 [(0, .ref 39), (1, .int x)] [] h (fun v h' => v = some (.int (alA (cvB FR RW mem sc d) mem x))) := by
  refine xq_n 7 [0, 1] [(0, .ref 39), (1, .int x)] [.int x, .ref 39] (xh_ui h 39 0 (Int32.ofInt 0)) [] 60 hq rfl trivial (fun _ => ?_)
  have hq : a_rq a_tb (xh_ui h 39 0 (Int32.ofInt 0)) := a_rq_ui hq
  refine xq_run hq rfl rfl (mem10_q (z := nI mem) ((gx_k (by decide)).trans e4) hq) ?_
  rintro v h1 ⟨rfl, rfl⟩
  unfold alA isM
  cases c1 : (!xe_c .lt x 0 && !xe_c .ge x (nI mem)) with
  | false =>
    refine xq_n 14 [] [] [.int (Int32.ofInt (-1))] (xh_ui h 39 0 (Int32.ofInt 0)) [false] 60 hq rfl ⟨rfl, trivial⟩ (fun _ => ?_)
    exact xq_ret rfl rfl rfl rfl
  | true =>
    obtain ⟨a, rfl, al, ea⟩ := mb_n m12 c1
    rw [ea]
    refine xq_n 16 [0, 1] [(0, .ref 39), (1, .int (nI a))] [.ref 39] (xh_ui h 39 0 (Int32.ofInt 0)) [true] 60 hq rfl ⟨rfl, trivial⟩ (fun _ => ?_)
    refine xq_run hq rfl rfl (ly_q m12 e4 e33 sc8 e3 hF hT hR hq) ?_
    rintro v h1 ⟨rfl, g1, A⟩
    have hq := fx_q g1 hq
    refine xq_n 26 [0, 1, 2, 3, 4] [(0, .ref 39), (1, .int (nI a)), (2, .int (Int32.ofInt (-1))), (3, .int (Int32.ofInt (-1))), (4, .int (Int32.ofInt 0))] [] h1 [] 60 hq rfl trivial (fun _ => ?_)
    exact al_out rfl A m12 al hq mem f 0 (by omega)
set_option maxRecDepth 100000 in
set_option maxHeartbeats 4000000 in
theorem sr10_q {f : Nat} {x y : Int32} (m12 : mem ≤ 12) (e4 : xg 0 h.2.1 39 4 = nI mem) (e33 : xg 0 h.2.1 39 33 = nI sc) (sc8 : sc ≤ 8) (e3 : xg 0 h.2.1 39 3 = d) (hF : ∀ k, k < sc → xg 0 h.2.1 51 k = FR k) (hT : ∀ k, k < sc → (xg 0 h.2.1 52 k).toInt ≤ 999) (hR : ∀ k s, k < sc → s < 2 ^ mem → ∃ b : Bool, RW (4096 * k + s) = bl b ∧ xg 0 h.2.1 44 (4096 * k + s) = bl b) (hq : a_rq a_tb h) : xq f xi_X10_stronger xmi_X10_stronger 0 [(0, .ref 39), (1, .int x), (2, .int y)] [] h (fun v h' => v = some (.int (srA (cvB FR RW mem sc d) mem x y))) := by
  refine xq_n 7 [0, 1, 2] [(0, .ref 39), (1, .int x), (2, .int y)] [.int x, .ref 39] (xh_ui h 39 0 (Int32.ofInt 0)) [] 60 hq rfl trivial (fun _ => ?_)
  have hq : a_rq a_tb (xh_ui h 39 0 (Int32.ofInt 0)) := a_rq_ui hq
  refine xq_run hq rfl rfl (mem10_q (z := nI mem) ((gx_k (by decide)).trans e4) hq) ?_
  rintro v h1 ⟨rfl, rfl⟩
  unfold srA
  cases c1 : isM x mem with
  | false =>
    unfold isM at c1
    rw [c1]
    refine xq_n 23 [] [] [.int (-2)] (xh_ui h 39 0 (Int32.ofInt 0)) [true] 60 hq rfl ⟨rfl, trivial⟩ (fun _ => ?_)
    exact xq_ret rfl rfl rfl rfl
  | true =>
    unfold isM at c1
    obtain ⟨a, rfl, al, ea⟩ := mb_n m12 c1
    rw [ea, c1]
    refine xq_n 15 [0, 1, 2] [(0, .ref 39), (1, .int (nI a)), (2, .int y)] [.int y, .ref 39] (xh_ui h 39 0 (Int32.ofInt 0)) [false] 60 hq rfl ⟨rfl, trivial⟩ (fun _ => ?_)
    refine xq_run hq rfl rfl (mem10_q (z := nI mem) ((gx_k (by decide)).trans e4) hq) ?_
    rintro v h1 ⟨rfl, rfl⟩
    cases c2 : isM y mem with
    | false =>
      unfold isM at c2
      rw [c2]
      refine xq_n 23 [] [] [.int (-2)] (xh_ui h 39 0 (Int32.ofInt 0)) [false] 60 hq rfl ⟨rfl, trivial⟩ (fun _ => ?_)
      exact xq_ret rfl rfl rfl rfl
    | true =>
      unfold isM at c2
      obtain ⟨b, rfl, bm, eb⟩ := mb_n m12 c2
      rw [eb, c2]
      by_cases z : a = b
      · refine xq_n 30 [] [] [.int (Int32.ofInt 0)] (xh_ui h 39 0 (Int32.ofInt 0)) [true, false] 60 hq rfl ⟨rfl, nne_f (by omega) (by omega) z, trivial⟩ (fun _ => ?_)
        refine xq_ret rfl rfl rfl ?_
        rw [← z, aln_a (P := gp (cvB FR RW mem sc d) a a) (2 ^ mem) (fun _ => gp_s)]
        rfl
      · refine xq_n 32 [0, 1, 2] [(0, .ref 39), (1, .int (nI a)), (2, .int (nI b))] [.ref 39] (xh_ui h 39 0 (Int32.ofInt 0)) [true, true] 60 hq rfl ⟨rfl, nne_t (by omega) (by omega) z, trivial⟩ (fun _ => ?_)
        refine xq_run hq rfl rfl (ly_q m12 e4 e33 sc8 e3 hF hT hR hq) ?_
        rintro v h1 ⟨rfl, g1, A⟩
        have hq := fx_q g1 hq
        refine xq_n 38 [] [] [.int (nI b), .int (nI a), .ref 39] h1 [] 60 hq rfl trivial (fun _ => ?_)
        refine xq_run hq rfl rfl (hel_q A m12 al bm hq) ?_
        rintro v h2 ⟨rfl, rfl⟩
        cases aln (gp (cvB FR RW mem sc d) a b) (2 ^ mem) with
        | true =>
          cases aln (gp (cvB FR RW mem sc d) b a) (2 ^ mem) with
          | true =>
            refine xq_n 70 [] [] [.int (Int32.ofInt 0)] h1 [false] 60 hq rfl ⟨rfl, trivial⟩ (fun _ => ?_)
            exact xq_ret rfl rfl rfl rfl
          | false =>
            refine xq_n 70 [] [] [.int (Int32.ofInt 1)] h1 [true, false] 60 hq rfl ⟨rfl, rfl, trivial⟩ (fun _ => ?_)
            exact xq_ret rfl rfl rfl rfl
        | false =>
          cases aln (gp (cvB FR RW mem sc d) b a) (2 ^ mem) with
          | true =>
            refine xq_n 70 [] [] [.int (Int32.ofInt (-1))] h1 [true, true, false] 60 hq rfl ⟨rfl, rfl, rfl, trivial⟩ (fun _ => ?_)
            exact xq_ret rfl rfl rfl rfl
          | false =>
            refine xq_n 70 [] [] [.int (Int32.ofInt 2)] h1 [true, true, true] 60 hq rfl ⟨rfl, rfl, rfl, trivial⟩ (fun _ => ?_)
            exact xq_ret rfl rfl rfl rfl
end
end XPR
end
section
section XPL
/-- all others -/
def co (m s : Nat) : Nat := 2 ^ m - (s + 1)
theorem co_lt {m s : Nat} : co m s < 2 ^ m := by have := Nat.two_pow_pos m; unfold co; omega
theorem co_tb {m s i : Nat} (hs : s < 2 ^ m) : (co m s).testBit i = (decide (i < m) && !s.testBit i) := Nat.testBit_two_pow_sub_succ hs i
theorem coc_n {m s : Nat} (m12 : m ≤ 12) (hs : s < 2 ^ m) : nI (2 ^ m - 1) &&& (nI s ^^^ Int32.ofInt (-1)) = nI (co m s) := nI_andn (fun i _ => by
  rw [co_tb hs, Nat.testBit_two_pow_sub_one])
/-- without one -/
def rmb (s a : Nat) : Nat := s ^^^ (s &&& 2 ^ a)
theorem rmb_tb {s a i : Nat} : (rmb s a).testBit i = (s.testBit i && !decide (a = i)) := by
  unfold rmb
  rw [Nat.testBit_xor, Nat.testBit_and, Nat.testBit_two_pow]
  cases s.testBit i <;> cases decide (a = i) <;> rfl
theorem rmb_lt {s a m : Nat} (hs : s < 2 ^ m) : rmb s a < 2 ^ m := Nat.xor_lt_two_pow hs (Nat.lt_of_le_of_lt Nat.and_le_left hs)
theorem rmb_n {s a : Nat} (ha : a ≤ 11) : nI s &&& ((Int32.ofInt 1 <<< (nI a &&& 31)) ^^^ Int32.ofInt (-1)) = nI (rmb s a) := by
  rw [sh1 a (by omega)]
  exact nI_andn (fun i _ => by rw [rmb_tb, Nat.testBit_two_pow])
/-- carries, or hinders -/
def dz (W : Nat → Bool) (m : Nat) (hd : Bool) (s : Nat) : Bool := cond hd (!W (co m s)) (W s)
/-- .. and no less does -/
def mi (W : Nat → Bool) (m : Nat) (hd : Bool) (s : Nat) : Bool := dz W m hd s && aln (fun a => !(s.testBit a && dz W m hd (rmb s a))) m
/-- how many members -/
def sz (s : Nat) : Nat := cnt (fun i => s.testBit i) 12
theorem sz_le {s : Nat} : sz s ≤ 12 := cnt_le 12
theorem pc_sz {s : Nat} : ∀ j, pcr s j = cnt (fun i => s.testBit i) j := by
  intro j
  induction j with
  | zero => rfl
  | succ j ih =>
    show pcr s j + (s.testBit j).toNat = if s.testBit j = true then cnt (fun i => s.testBit i) j + 1 else cnt (fun i => s.testBit i) j
    rw [ih]
    cases s.testBit j <;> rfl
theorem bc_sz : ((List.range 4096).all fun k => decide (bc (nI k) = nI (sz k))) = true := List.all_eq_true.mpr (fun k hk => decide_eq_true (by
  have e := of_decide_eq_true (List.all_eq_true.mp bc_pc k hk)
  rw [e, pc_sz]
  rfl))
theorem bit_q {f s : Nat} {h : xh_H} (hs : s < 4096) (hq : a_rq a_tb h) : xq f xi_J6_bitCount_0f7a4 xmi_J6_bitCount_0f7a4 0 [(0, .int (nI s))] [] h (fun v h' => h = h' ∧ v = some (.int (nI (sz s)))) := by
  have e := of_decide_eq_true (List.all_eq_true.mp bc_sz s (List.mem_range.mpr hs))
  refine xq_of (d := 0) ⟨_, rfl⟩ ⟨some (.int (bc (nI s))), h, bc_run 0 (nI s) h, rfl, by rw [e]⟩
section
variable {W : Nat → Bool} {m q r : Nat} {h : xh_H}
set_option maxRecDepth 100000 in
set_option maxHeartbeats 4000000 in
/-- Powers.does -/
theorem does_q {f s : Nat} {hd : Bool} (A : LA W m q r h) (m12 : m ≤ 12) (hs : s < 2 ^ m) (hq : a_rq a_tb h) : xq f xi_X2_does xmi_X2_does 0 [(0, .ref 14), (1, .int (nI s)), (2, .int (bl hd))] [] h (fun v h' => h = h' ∧ v = some (.int (bl (dz W m hd s)))) := by
  cases hd with
  | false =>
    refine xq_n 35 [] [] [.int (nI s), va_rf (xg none h.2.2.2 14 6)] h [true] 60 hq rfl ⟨rfl, trivial⟩ (fun _ => ?_)
    rw [A.1]
    refine xq_cr (As := [.ref q, .int (nI (s))]) (mj := xmi_X7_holds) (q := []) rfl rfl (fun _ _ => rfl) (xa_cs_ok (d := 0) (pc := 0) (lv := []) (nL := 0) A.2.1 rfl).1 (fun f => hl_q A m12 (hs) hq) ?_
    rintro v h1 ⟨rfl, rfl⟩
    exact xq_ret rfl rfl rfl ⟨rfl, rfl⟩
  | true =>
    refine xq_n 16 [] [] [.int (xg 0 h.2.1 14 8 &&& (nI s ^^^ Int32.ofInt (-1))), va_rf (xg none h.2.2.2 14 6)] h [false] 60 hq rfl ⟨rfl, trivial⟩ (fun _ => ?_)
    rw [A.1, A.2.2.2.2.2.1, coc_n m12 hs]
    refine xq_cr (As := [.ref q, .int (nI (co m s))]) (mj := xmi_X7_holds) (q := []) rfl rfl (fun _ _ => rfl) (xa_cs_ok (d := 0) (pc := 0) (lv := []) (nL := 0) A.2.1 rfl).1 (fun f => hl_q A m12 (co_lt) hq) ?_
    rintro v h1 ⟨rfl, rfl⟩
    show xq f _ _ _ _ _ _ (fun v h' => h = h' ∧ v = some (.int (bl (!W (co m s)))))
    cases W (co m s) with
    | true =>
      refine xq_n 38 [] [] [.int (Int32.ofInt 0)] h [true] 60 hq rfl ⟨rfl, trivial⟩ (fun _ => ?_)
      exact xq_ret rfl rfl rfl ⟨rfl, rfl⟩
    | false =>
      refine xq_n 38 [] [] [.int (Int32.ofInt 1)] h [false] 60 hq rfl ⟨rfl, trivial⟩ (fun _ => ?_)
      exact xq_ret rfl rfl rfl ⟨rfl, rfl⟩
set_option maxRecDepth 100000 in
set_option maxHeartbeats 4000000 in
/-- Powers.isMinimal -/
theorem ism_l {s : Nat} {hd : Bool} (A : LA W m q r h) (m12 : m ≤ 12) (hs : s < 2 ^ m) (c0 : dz W m hd s = true) (hq : a_rq a_tb h) : ∀ (j f a : Nat), a + j = m → aln (fun a => !(s.testBit a && dz W m hd (rmb s a))) a = true → xq f xi_X2_isMinimal xmi_X2_isMinimal 13 [(0, .ref 14), (1, .int (nI s)), (2, .int (bl hd)), (3, .int (nI a))] [] h (fun v h' => h = h' ∧ v = some (.int (bl (mi W m hd s)))) := by
  have p12 : 2 ^ m ≤ 4096 := show 2 ^ m ≤ 2 ^ 12 from Nat.pow_le_pow_right (by decide) m12
  intro j
  induction j with
  | zero =>
    intro f a aj w
    have e : a = m := by omega
    subst e
    refine xq_n 53 [] [] [.int (Int32.ofInt 1)] h [true] 60 hq rfl ⟨(show xe_c .ge (nI a) (xg 0 h.2.1 14 7) = true by rw [A.2.2.2.2.1]; exact nge_t (by omega) (by omega) (Nat.le_refl _)), trivial⟩ (fun _ => ?_)
    exact xq_ret rfl rfl rfl ⟨rfl, by unfold mi; rw [c0, w]; rfl⟩
  | succ j ih =>
    intro f a aj w
    have g0 : xe_c .ge (nI a) (xg 0 h.2.1 14 7) = false := by rw [A.2.2.2.2.1]; exact nge_f (by omega) (by omega) (by omega)
    have g1 := be' (rb0 m12 hs (show a < m by omega))
    cases c1 : s.testBit a with
    | false =>
      rw [c1] at g1
      refine xq_n 13 [0, 1, 2, 3] [(0, .ref 14), (1, .int (nI s)), (2, .int (bl hd)), (3, .int (nI a + Int32.ofInt 1))] [] h [false, true] 60 hq rfl ⟨g0, g1, trivial⟩ (fun _ => ?_)
      rw [nI_1']
      exact ih f (a + 1) (by omega) (aln_s w (by rw [c1]; rfl))
    | true =>
      rw [c1] at g1
      refine xq_n 38 [0, 1, 2, 3] [(0, .ref 14), (1, .int (nI s)), (2, .int (bl hd)), (3, .int (nI a))] [.int (bl hd), .int (nI s &&& ((Int32.ofInt 1 <<< (nI a &&& 31)) ^^^ Int32.ofInt (-1))), .ref 14] h [false, false] 60 hq rfl ⟨g0, g1, trivial⟩ (fun _ => ?_)
      rw [rmb_n (by omega)]
      refine xq_run hq rfl rfl (does_q A m12 (rmb_lt hs) hq) ?_
      rintro v h1 ⟨rfl, rfl⟩
      cases c2 : dz W m hd (rmb s a) with
      | true =>
        refine xq_n 45 [] [] [.int (Int32.ofInt 0)] h [false] 60 hq rfl ⟨rfl, trivial⟩ (fun _ => ?_)
        exact xq_ret rfl rfl rfl ⟨rfl, by unfold mi; rw [aln_f (k := a) (by rw [c1, c2]; rfl) m (by omega), Bool.and_false]; rfl⟩
      | false =>
        refine xq_n 13 [0, 1, 2, 3] [(0, .ref 14), (1, .int (nI s)), (2, .int (bl hd)), (3, .int (nI a + Int32.ofInt 1))] [] h [true] 60 hq rfl ⟨rfl, trivial⟩ (fun _ => ?_)
        rw [nI_1']
        exact ih f (a + 1) (by omega) (aln_s w (by rw [c1, c2]; rfl))
set_option maxRecDepth 100000 in
set_option maxHeartbeats 4000000 in
theorem ism_q {f s : Nat} {hd : Bool} (A : LA W m q r h) (m12 : m ≤ 12) (hs : s < 2 ^ m) (hq : a_rq a_tb h) : xq f xi_X2_isMinimal xmi_X2_isMinimal 0 [(0, .ref 14), (1, .int (nI s)), (2, .int (bl hd))] [] h (fun v h' => h = h' ∧ v = some (.int (bl (mi W m hd s)))) := by
  refine xq_n 3 [0, 1, 2] [(0, .ref 14), (1, .int (nI s)), (2, .int (bl hd))] [.int (bl hd), .int (nI s), .ref 14] h [] 60 hq rfl trivial (fun _ => ?_)
  refine xq_run hq rfl rfl (does_q A m12 hs hq) ?_
  rintro v h1 ⟨rfl, rfl⟩
  cases c0 : dz W m hd s with
  | false =>
    refine xq_n 10 [] [] [.int (Int32.ofInt 0)] h [false] 60 hq rfl ⟨rfl, trivial⟩ (fun _ => ?_)
    exact xq_ret rfl rfl rfl ⟨rfl, by unfold mi; rw [c0]; rfl⟩
  | true =>
    refine xq_n 13 [0, 1, 2, 3] [(0, .ref 14), (1, .int (nI s)), (2, .int (bl hd)), (3, .int (Int32.ofInt 0))] [] h [true] 60 hq rfl ⟨rfl, trivial⟩ (fun _ => ?_)
    exact ism_l A m12 hs c0 hq m f 0 (by omega) rfl
end
/-- those of one size -/
def qk (P : Nat → Bool) (k t : Nat) : Bool := P t && decide (sz t = k)
/-- how many are smaller -/
def cum (P : Nat → Bool) (N : Nat) : Nat → Nat
  | 0 => 0
  | j + 1 => cum P N j + cnt (qk P j) N
/-- where a set goes -/
def rk (P : Nat → Bool) (N t : Nat) : Nat := cum P N (sz t) + cnt (qk P (sz t)) t
theorem cnt_m {P : Nat → Bool} : ∀ {a b : Nat}, a ≤ b → cnt P a ≤ cnt P b := by
  intro a b h
  induction b with
  | zero => rw [show a = 0 by omega]; exact Nat.le_refl _
  | succ b ih =>
    by_cases z : a = b + 1
    · rw [z]; exact Nat.le_refl _
    · have := ih (by omega)
      show _ ≤ if P b = true then cnt P b + 1 else cnt P b
      split <;> omega
theorem cnt_lt {P : Nat → Bool} {a b : Nat} (hp : P a = true) (h : a < b) : cnt P a < cnt P b := by
  have := cnt_m (P := P) (show a + 1 ≤ b by omega)
  rw [cnt_t hp] at this
  omega
theorem cum_m {P : Nat → Bool} {N : Nat} : ∀ {a b : Nat}, a ≤ b → cum P N a ≤ cum P N b := by
  intro a b h
  induction b with
  | zero => rw [show a = 0 by omega]; exact Nat.le_refl _
  | succ b ih =>
    by_cases z : a = b + 1
    · rw [z]; exact Nat.le_refl _
    · have := ih (by omega)
      show _ ≤ cum P N b + cnt (qk P b) N
      omega
theorem qk_s {P : Nat → Bool} {t : Nat} (h : P t = true) : qk P (sz t) t = true := by unfold qk; rw [h, decide_eq_true rfl]; rfl
theorem rk_lt {P : Nat → Bool} {N t : Nat} (h : P t = true) (ht : t < N) : rk P N t < cum P N (sz t + 1) := by
  have := cnt_lt (qk_s h) ht
  show _ < cum P N (sz t) + cnt (qk P (sz t)) N
  unfold rk
  omega
theorem rk_ij {P : Nat → Bool} {N t t' : Nat} (h : P t = true) (h' : P t' = true) (ht : t < N) (ht' : t' < N) (e : rk P N t = rk P N t') : t = t' := by
  have a := rk_lt h ht
  have b := rk_lt h' ht'
  rcases Nat.lt_trichotomy (sz t) (sz t') with z | z | z
  · have c := cum_m (P := P) (N := N) (show sz t + 1 ≤ sz t' by omega)
    unfold rk at *
    omega
  · unfold rk at e
    rw [z] at e
    have q := qk_s h
    have q' := qk_s h'
    rw [z] at q
    rcases Nat.lt_trichotomy t t' with y | y | y
    · have := cnt_lt q y; omega
    · exact y
    · have := cnt_lt q' y; omega
  · have c := cum_m (P := P) (N := N) (show sz t' + 1 ≤ sz t by omega)
    unfold rk at *
    omega
theorem xq_sd {f mid : Nat} {mi : xm_M} {pc pc1 : Nat} {lv : List (Nat × Value)} {st st1 : List Value} {h h1 : xh_H} {Q : Option Value → xh_H → Prop} {r : xr_R} (hr : xC mid pc = some r) (hi : xe_isr r.1 = false) (h2 : ∀ d lw, xe_2 none mi.2.2.2.1 r (d + 1) pc lw st h 0 0 = some (pc1, lw, st1, h1, 0, 0)) (h0 : ∀ lw, xe_2 none mi.2.2.2.1 r 0 pc lw st h 0 0 = none) (k : xq f mid mi pc1 lv st1 h1 Q) : xq f mid mi pc lv st h Q := by
  intro d lw w h' c s hs hx
  obtain ⟨g, eg, ⟨o', e2, e3⟩ | ⟨e2, d', -, -, -, -, -, -, -, e, -⟩⟩ := xq_s hr hi hx
  · cases d with
    | zero => rw [h0] at e2; cases e2
    | succ d =>
      rw [h2] at e2
      cases e2
      exact k (d + 1) lw w h' c s hs (xe_x_le (by omega) e3)
  · rw [e, h2] at e2
    cases e2
theorem cum_b {P : Nat → Bool} {N : Nat} : ∀ j, cum P N j ≤ N * j := by
  intro j
  induction j with
  | zero => exact Nat.le_refl _
  | succ j ih =>
    have := cnt_le (P := qk P j) N
    show cum P N j + cnt (qk P j) N ≤ N * (j + 1)
    rw [Nat.mul_succ]
    omega
/-- no more than the row holds -/
def mn (n : Nat) : Int32 := if (924 : Int32) < nI n then 924 else nI n
def SL15 (c _k : Nat) : Bool := Nat.beq c 18 || Nat.beq c 15
set_option maxRecDepth 100000 in
set_option maxHeartbeats 4000000 in
theorem lz15_1 {hd : Bool} {hb : xh_H} {Q : Option Value → xh_H → Prop} (K : ∀ (f : Nat) (h : xh_H), a_rq a_tb h → fx SL15 fN hb h → (∀ j, j < 14 → xg 0 h.2.1 18 j = nI 0) → xq f xi_X2_list xmi_X2_list 26 [(0, .ref 14), (1, .ref 15), (2, .int (bl hd)), (3, .int (nI 0))] [] h Q) : ∀ (n f i : Nat) (h : xh_H), i + n = 14 → a_rq a_tb h → fx SL15 fN hb h → (∀ j, j < i → xg 0 h.2.1 18 j = nI 0) → xq f xi_X2_list xmi_X2_list 2 [(0, .ref 14), (1, .ref 15), (2, .int (bl hd)), (3, .int (nI i))] [] h Q := by
  intro n
  induction n with
  | zero =>
    intro f i h hn hq ge w
    have e : i = 14 := by omega
    subst e
    refine xq_n 26 [0, 1, 2, 3] [(0, .ref 14), (1, .ref 15), (2, .int (bl hd)), (3, .int (Int32.ofInt 0))] [] h [true] 60 hq rfl ⟨rfl, trivial⟩ (fun _ => ?_)
    exact K f h hq ge w
  | succ n ih =>
    intro f i h hn hq ge w
    refine xq_n 2 [0, 1, 2, 3] [(0, .ref 14), (1, .ref 15), (2, .int (bl hd)), (3, .int (nI i + Int32.ofInt 1))] [] (xh_ui h 18 (nI i).toNatClampNeg (Int32.ofInt 0)) [false] 60 hq rfl ⟨nge_f (b := 14) (by omega) (by decide) (by omega), trivial⟩ (fun _ => ?_)
    rw [nI_1', show (nI i).toNatClampNeg = i from nI_clamp (by omega)]
    refine ih f (i + 1) _ (by omega) (a_rq_ui hq) (fx_ui ge rfl) (fun j hj => ?_)
    by_cases z : j = i
    · rw [z, gx_s]; rfl
    · exact (gx_k (by omega)).trans (w j (by omega))
set_option maxRecDepth 100000 in
set_option maxHeartbeats 4000000 in
theorem lz15_2 {W : Nat → Bool} {m q r : Nat} {hd : Bool} {hb : xh_H} {Q : Option Value → xh_H → Prop} (A : LA W m q r hb) (m12 : m ≤ 12) (K : ∀ (f : Nat) (h : xh_H), a_rq a_tb h → fx SL15 fN hb h → xg 0 h.2.1 18 0 = nI 0 → (∀ k, k ≤ 12 → xg 0 h.2.1 18 (k + 1) = nI (cnt (qk (mi W m hd) k) (2 ^ m))) → xq f xi_X2_list xmi_X2_list 66 [(0, .ref 14), (1, .ref 15), (2, .int (bl hd)), (3, .int (nI 1))] [] h Q) : ∀ (n f s : Nat) (h : xh_H), s + n = 2 ^ m → a_rq a_tb h → fx SL15 fN hb h → xg 0 h.2.1 18 0 = nI 0 → (∀ k, k ≤ 12 → xg 0 h.2.1 18 (k + 1) = nI (cnt (qk (mi W m hd) k) s)) → xq f xi_X2_list xmi_X2_list 26 [(0, .ref 14), (1, .ref 15), (2, .int (bl hd)), (3, .int (nI s))] [] h Q := by
  have p12 : 2 ^ m ≤ 4096 := show 2 ^ m ≤ 2 ^ 12 from Nat.pow_le_pow_right (by decide) m12
  intro n
  induction n with
  | zero =>
    intro f s h hn hq ge w0 w
    have e : s = 2 ^ m := by omega
    subst e
    refine xq_n 66 [0, 1, 2, 3] [(0, .ref 14), (1, .ref 15), (2, .int (bl hd)), (3, .int (Int32.ofInt 1))] [] h [true] 60 hq rfl ⟨gtt (LA_f A ge rfl rfl) m12, trivial⟩ (fun _ => ?_)
    exact K f h hq ge w0 w
  | succ n ih =>
    intro f s h hn hq ge w0 w
    have hs : s < 2 ^ m := by omega
    have A' := LA_f A ge rfl rfl
    refine xq_n 37 [0, 1, 2, 3] [(0, .ref 14), (1, .ref 15), (2, .int (bl hd)), (3, .int (nI s))] [.int (bl hd), .int (nI s), .ref 14] h [false] 60 hq rfl ⟨gtf A' m12 hs, trivial⟩ (fun _ => ?_)
    refine xq_run hq rfl rfl (ism_q A' m12 hs hq) ?_
    rintro v h1 ⟨rfl, rfl⟩
    cases c : mi W m hd s with
    | false =>
      refine xq_n 26 [0, 1, 2, 3] [(0, .ref 14), (1, .ref 15), (2, .int (bl hd)), (3, .int (nI s + Int32.ofInt 1))] [] h [true] 60 hq rfl ⟨rfl, trivial⟩ (fun _ => ?_)
      rw [nI_1']
      exact ih f (s + 1) h (by omega) hq ge w0 (fun k hk' => by rw [cnt_f (show qk (mi W m hd) k s = false by unfold qk; rw [c]; rfl)]; exact w k hk')
    | true =>
      refine xq_n 48 [0, 1, 2, 3] [(0, .ref 14), (1, .ref 15), (2, .int (bl hd)), (3, .int (nI s))] [.int (nI s), .ref 18] h [false] 60 hq rfl ⟨rfl, trivial⟩ (fun _ => ?_)
      refine xq_run hq rfl rfl (bit_q (by omega) hq) ?_
      rintro v h1 ⟨rfl, rfl⟩
      have sl := sz_le (s := s)
      refine xq_n 26 [0, 1, 2, 3] [(0, .ref 14), (1, .ref 15), (2, .int (bl hd)), (3, .int (nI s + Int32.ofInt 1))] [] (xh_ui h 18 (nI (sz s) + Int32.ofInt 1).toNatClampNeg (xg 0 h.2.1 18 (nI (sz s) + Int32.ofInt 1).toNatClampNeg + Int32.ofInt 1)) [] 60 hq rfl trivial (fun _ => ?_)
      rw [show nI s + Int32.ofInt 1 = nI (s + 1) from nI_1', show (nI (sz s) + Int32.ofInt 1).toNatClampNeg = sz s + 1 by rw [nI_1']; exact nI_clamp (by omega), w (sz s) sl, show nI (cnt (qk (mi W m hd) (sz s)) s) + Int32.ofInt 1 = nI (cnt (qk (mi W m hd) (sz s)) s + 1) from nI_1']
      refine ih f (s + 1) _ (by omega) (a_rq_ui hq) (fx_ui ge rfl) ((gx_k (by omega)).trans w0) (fun k hk' => ?_)
      by_cases z : k = sz s
      · rw [z, gx_s, cnt_t (qk_s c)]
      · rw [gx_k (by omega), cnt_f (show qk (mi W m hd) k s = false by unfold qk; rw [decide_eq_false (fun e => z e.symm), Bool.and_false])]
        exact w k hk'
set_option maxRecDepth 100000 in
set_option maxHeartbeats 4000000 in
theorem lz15_3 {P : Nat → Bool} {N : Nat} {hd : Bool} {hb : xh_H} {Q : Option Value → xh_H → Prop} (K : ∀ (f : Nat) (h : xh_H), a_rq a_tb h → fx SL15 fN hb h → (∀ k, k < 14 → xg 0 h.2.1 18 k = nI (cum P N k)) → xq f xi_X2_list xmi_X2_list 103 [(0, .ref 14), (1, .ref 15), (2, .int (bl hd)), (3, .int (nI 0)), (4, .int (nI 0))] [] h Q) : ∀ (n f i : Nat) (h : xh_H), i + n = 13 → a_rq a_tb h → fx SL15 fN hb h → (∀ k, k < i + 1 → xg 0 h.2.1 18 k = nI (cum P N k)) → (∀ k, i ≤ k → k ≤ 12 → xg 0 h.2.1 18 (k + 1) = nI (cnt (qk P k) N)) → xq f xi_X2_list xmi_X2_list 66 [(0, .ref 14), (1, .ref 15), (2, .int (bl hd)), (3, .int (nI (i + 1)))] [] h Q := by
  intro n
  induction n with
  | zero =>
    intro f i h hn hq ge w0 w
    have e : i = 13 := by omega
    subst e
    refine xq_n 103 [0, 1, 2, 3, 4] [(0, .ref 14), (1, .ref 15), (2, .int (bl hd)), (3, .int (Int32.ofInt 0)), (4, .int (Int32.ofInt 0))] [] h [true] 60 hq rfl ⟨rfl, trivial⟩ (fun _ => ?_)
    exact K f h hq ge w0
  | succ n ih =>
    intro f i h hn hq ge w0 w
    refine xq_n 66 [0, 1, 2, 3] [(0, .ref 14), (1, .ref 15), (2, .int (bl hd)), (3, .int (nI (i + 1) + Int32.ofInt 1))] [] (xh_ui h 18 (nI (i + 1)).toNatClampNeg (xg 0 h.2.1 18 (nI (i + 1)).toNatClampNeg + xg 0 h.2.1 18 (nI (i + 1) - Int32.ofInt 1).toNatClampNeg)) [false] 60 hq rfl ⟨nge_f (b := 14) (by omega) (by decide) (by omega), trivial⟩ (fun _ => ?_)
    rw [nI_1', show (nI (i + 1)).toNatClampNeg = i + 1 from nI_clamp (by omega), show (nI (i + 1) - Int32.ofInt 1).toNatClampNeg = i by rw [nI_sub1]; exact nI_clamp (by omega), w i (Nat.le_refl _) (by omega), w0 i (by omega), nI_add]
    refine ih f (i + 1) _ (by omega) (a_rq_ui hq) (fx_ui ge rfl) (fun k hk' => ?_) (fun k h1 h2 => (gx_k (by omega)).trans (w k (by omega) h2))
    by_cases z : k = i + 1
    · rw [z, gx_s]
      show _ = nI (cum P N i + cnt (qk P i) N)
      rw [Nat.add_comm]
    · exact (gx_k (by omega)).trans (w0 k (by omega))
set_option maxRecDepth 100000 in
set_option maxHeartbeats 4000000 in
theorem lz15_4 {W : Nat → Bool} {m q r : Nat} {hd : Bool} {hb : xh_H} {Q : Option Value → xh_H → Prop} (A : LA W m q r hb) (m12 : m ≤ 12) (K : ∀ (f : Nat) (h : xh_H), a_rq a_tb h → fx SL15 fN hb h → (∀ t, t < 2 ^ m → mi W m hd t = true → rk (mi W m hd) (2 ^ m) t < 924 → xg 0 h.2.1 15 (rk (mi W m hd) (2 ^ m) t) = nI t) → xq f xi_X2_list xmi_X2_list 164 [] [.int 924, .int (nI (cnt (mi W m hd) (2 ^ m)))] h Q) : ∀ (n f s : Nat) (h : xh_H), s + n = 2 ^ m → a_rq a_tb h → fx SL15 fN hb h → (∀ k, k ≤ 12 → xg 0 h.2.1 18 k = nI (cum (mi W m hd) (2 ^ m) k + cnt (qk (mi W m hd) k) s)) → (∀ t, t < s → mi W m hd t = true → rk (mi W m hd) (2 ^ m) t < 924 → xg 0 h.2.1 15 (rk (mi W m hd) (2 ^ m) t) = nI t) → xq f xi_X2_list xmi_X2_list 103 [(0, .ref 14), (1, .ref 15), (2, .int (bl hd)), (3, .int (nI (cnt (mi W m hd) s))), (4, .int (nI s))] [] h Q := by
  have p12 : 2 ^ m ≤ 4096 := show 2 ^ m ≤ 2 ^ 12 from Nat.pow_le_pow_right (by decide) m12
  intro n
  induction n with
  | zero =>
    intro f s h hn hq ge w0 w
    have e : s = 2 ^ m := by omega
    subst e
    refine xq_n 164 [] [] [.int 924, .int (nI (cnt (mi W m hd) (2 ^ m)))] h [true] 60 hq rfl ⟨gtt (LA_f A ge rfl rfl) m12, trivial⟩ (fun _ => ?_)
    exact K f h hq ge w
  | succ n ih =>
    intro f s h hn hq ge w0 w
    have hs : s < 2 ^ m := by omega
    have A' := LA_f A ge rfl rfl
    refine xq_n 116 [0, 1, 2, 3, 4] [(0, .ref 14), (1, .ref 15), (2, .int (bl hd)), (3, .int (nI (cnt (mi W m hd) s))), (4, .int (nI s))] [.int (bl hd), .int (nI s), .ref 14] h [false] 60 hq rfl ⟨gtf A' m12 hs, trivial⟩ (fun _ => ?_)
    refine xq_run hq rfl rfl (ism_q A' m12 hs hq) ?_
    rintro v h1 ⟨rfl, rfl⟩
    have r := ih f (s + 1)
    cases c : mi W m hd s with
    | false =>
      rw [cnt_f c] at r
      refine xq_n 103 [0, 1, 2, 3, 4] [(0, .ref 14), (1, .ref 15), (2, .int (bl hd)), (3, .int (nI (cnt (mi W m hd) s))), (4, .int (nI s + Int32.ofInt 1))] [] h [true] 60 hq rfl ⟨rfl, trivial⟩ (fun _ => ?_)
      rw [nI_1']
      refine r h (by omega) hq ge (fun k hk' => by rw [cnt_f (show qk (mi W m hd) k s = false by unfold qk; rw [c]; rfl)]; exact w0 k hk') (fun t ht hp hr => w t ?_ hp hr)
      by_cases z : t = s
      · rw [z, c] at hp; cases hp
      · omega
    | true =>
      rw [cnt_t c] at r
      refine xq_n 128 [0, 1, 2, 3, 4] [(0, .ref 14), (1, .ref 15), (2, .int (bl hd)), (3, .int (nI (cnt (mi W m hd) s))), (4, .int (nI s))] [.int (nI s), .ref 18] h [false] 60 hq rfl ⟨rfl, trivial⟩ (fun _ => ?_)
      refine xq_run hq rfl rfl (bit_q (by omega) hq) ?_
      rintro v h1 ⟨rfl, rfl⟩
      have sl := sz_le (s := s)
      have e18 : xg 0 h.2.1 18 (nI (sz s)).toNatClampNeg = nI (rk (mi W m hd) (2 ^ m) s) := by rw [nI_clamp (by omega)]; exact w0 (sz s) sl
      have rl : rk (mi W m hd) (2 ^ m) s < 2 ^ 31 := by
        have b := cum_b (P := mi W m hd) (N := 2 ^ m) (sz s)
        have b2 := cnt_le (P := qk (mi W m hd) (sz s)) s
        have b3 : 2 ^ m * sz s ≤ 4096 * 12 := Nat.mul_le_mul p12 sl
        unfold rk
        omega
      have w1 : ∀ k, k ≤ 12 → xg 0 (xh_ui h 18 (sz s) (nI (rk (mi W m hd) (2 ^ m) s + 1))).2.1 18 k = nI (cum (mi W m hd) (2 ^ m) k + cnt (qk (mi W m hd) k) (s + 1)) := fun k hk' => by
        by_cases z : k = sz s
        · rw [z, gx_s, cnt_t (qk_s c)]; rfl
        · rw [gx_k (by omega), cnt_f (show qk (mi W m hd) k s = false by unfold qk; rw [decide_eq_false (fun e => z e.symm), Bool.and_false])]
          exact w0 k hk'
      cases cg : xe_c .ge (nI (rk (mi W m hd) (2 ^ m) s)) 924 with
      | true =>
        have z2 : 924 ≤ rk (mi W m hd) (2 ^ m) s := nq_get (b := 924) rl (by decide) cg
        refine xq_n 103 [0, 1, 2, 3, 4] [(0, .ref 14), (1, .ref 15), (2, .int (bl hd)), (3, .int (nI (cnt (mi W m hd) s) + Int32.ofInt 1)), (4, .int (nI s + Int32.ofInt 1))] [] (xh_ui h 18 (nI (sz s)).toNatClampNeg (xg 0 h.2.1 18 (nI (sz s)).toNatClampNeg + Int32.ofInt 1)) [true] 80 hq rfl ⟨(show xe_c .ge (xg 0 h.2.1 18 (nI (sz s)).toNatClampNeg) 924 = true by rw [e18]; exact cg), trivial⟩ (fun _ => ?_)
        rw [e18, nI_1', nI_1', nI_1', show (nI (sz s)).toNatClampNeg = sz s from nI_clamp (by omega)]
        refine r _ (by omega) (a_rq_ui hq) (fx_ui ge rfl) w1 (fun t ht hp hr => (gx_o (by decide)).trans (w t ?_ hp hr))
        by_cases z : t = s
        · rw [z] at hr; omega
        · omega
      | false =>
        have z2 : rk (mi W m hd) (2 ^ m) s < 924 := nq_gef (b := 924) rl (by decide) cg
        refine xq_n 103 [0, 1, 2, 3, 4] [(0, .ref 14), (1, .ref 15), (2, .int (bl hd)), (3, .int (nI (cnt (mi W m hd) s) + Int32.ofInt 1)), (4, .int (nI s + Int32.ofInt 1))] [] (xh_ui (xh_ui h 18 (nI (sz s)).toNatClampNeg (xg 0 h.2.1 18 (nI (sz s)).toNatClampNeg + Int32.ofInt 1)) 15 (xg 0 h.2.1 18 (nI (sz s)).toNatClampNeg).toNatClampNeg (nI s)) [false] 80 hq rfl ⟨(show xe_c .ge (xg 0 h.2.1 18 (nI (sz s)).toNatClampNeg) 924 = false by rw [e18]; exact cg), trivial⟩ (fun _ => ?_)
        rw [e18, nI_1', nI_1', nI_1', show (nI (sz s)).toNatClampNeg = sz s from nI_clamp (by omega), show (nI (rk (mi W m hd) (2 ^ m) s)).toNatClampNeg = rk (mi W m hd) (2 ^ m) s from nI_clamp (by omega)]
        refine r _ (by omega) (a_rq_ui (a_rq_ui hq)) (fx_ui (fx_ui ge rfl) rfl) (fun k hk' => (gx_o (by decide)).trans (w1 k hk')) (fun t ht hp hr => ?_)
        by_cases z : t = s
        · rw [z, gx_s]
        · have ne : rk (mi W m hd) (2 ^ m) t ≠ rk (mi W m hd) (2 ^ m) s := fun e => z (rk_ij hp c (by omega) hs e)
          exact (gx_k ne).trans ((gx_o (by decide)).trans (w t (by omega) hp hr))
set_option maxRecDepth 100000 in
set_option maxHeartbeats 4000000 in
/-- Powers.list -/
theorem lz15_q {f : Nat} {W : Nat → Bool} {m q r : Nat} {hd : Bool} {hb : xh_H} (A : LA W m q r hb) (m12 : m ≤ 12) (hq : a_rq a_tb hb) : xq f xi_X2_list xmi_X2_list 0 [(0, .ref 14), (1, .ref 15), (2, .int (bl hd))] [] hb (fun v h' => v = some (.int (mn (cnt (mi W m hd) (2 ^ m)))) ∧ fx SL15 fN hb h' ∧ ∀ t, t < 2 ^ m → mi W m hd t = true → rk (mi W m hd) (2 ^ m) t < 924 → xg 0 h'.2.1 15 (rk (mi W m hd) (2 ^ m) t) = nI t) := by
  refine xq_n 2 [0, 1, 2, 3] [(0, .ref 14), (1, .ref 15), (2, .int (bl hd)), (3, .int (Int32.ofInt 0))] [] hb [] 60 hq rfl trivial (fun _ => ?_)
  refine lz15_1 (hb := hb) (fun f h hq ge w => ?_) 14 f 0 hb (by omega) hq fx_0 (fun j hj => absurd hj (Nat.not_lt_zero j))
  refine lz15_2 A m12 (fun f h hq ge w0 w => ?_) (2 ^ m) f 0 h (by omega) hq ge (w 0 (by decide)) (fun k hk' => w (k + 1) (by omega))
  refine lz15_3 (P := mi W m hd) (N := 2 ^ m) (fun f h hq ge w => ?_) 13 f 0 h (by omega) hq ge (fun k hk' => by rw [show k = 0 by omega]; exact w0) (fun k _ h2 => w k h2)
  refine lz15_4 A m12 (fun f h hq ge w => ?_) (2 ^ m) f 0 h (by omega) hq ge (fun k hk' => w k (by omega)) (fun t ht => absurd ht (Nat.not_lt_zero t))
  refine xq_sd (pc1 := 167) (st1 := [.int (mn (cnt (mi W m hd) (2 ^ m)))]) (h1 := h) rfl rfl (fun _ _ => rfl) (fun _ => rfl) ?_
  exact xq_ret rfl rfl rfl ⟨rfl, ge, w⟩
def SL16 (c _k : Nat) : Bool := Nat.beq c 18 || Nat.beq c 16
set_option maxRecDepth 100000 in
set_option maxHeartbeats 4000000 in
theorem lz16_1 {hd : Bool} {hb : xh_H} {Q : Option Value → xh_H → Prop} (K : ∀ (f : Nat) (h : xh_H), a_rq a_tb h → fx SL16 fN hb h → (∀ j, j < 14 → xg 0 h.2.1 18 j = nI 0) → xq f xi_X2_list xmi_X2_list 26 [(0, .ref 14), (1, .ref 16), (2, .int (bl hd)), (3, .int (nI 0))] [] h Q) : ∀ (n f i : Nat) (h : xh_H), i + n = 14 → a_rq a_tb h → fx SL16 fN hb h → (∀ j, j < i → xg 0 h.2.1 18 j = nI 0) → xq f xi_X2_list xmi_X2_list 2 [(0, .ref 14), (1, .ref 16), (2, .int (bl hd)), (3, .int (nI i))] [] h Q := by
  intro n
  induction n with
  | zero =>
    intro f i h hn hq ge w
    have e : i = 14 := by omega
    subst e
    refine xq_n 26 [0, 1, 2, 3] [(0, .ref 14), (1, .ref 16), (2, .int (bl hd)), (3, .int (Int32.ofInt 0))] [] h [true] 60 hq rfl ⟨rfl, trivial⟩ (fun _ => ?_)
    exact K f h hq ge w
  | succ n ih =>
    intro f i h hn hq ge w
    refine xq_n 2 [0, 1, 2, 3] [(0, .ref 14), (1, .ref 16), (2, .int (bl hd)), (3, .int (nI i + Int32.ofInt 1))] [] (xh_ui h 18 (nI i).toNatClampNeg (Int32.ofInt 0)) [false] 60 hq rfl ⟨nge_f (b := 14) (by omega) (by decide) (by omega), trivial⟩ (fun _ => ?_)
    rw [nI_1', show (nI i).toNatClampNeg = i from nI_clamp (by omega)]
    refine ih f (i + 1) _ (by omega) (a_rq_ui hq) (fx_ui ge rfl) (fun j hj => ?_)
    by_cases z : j = i
    · rw [z, gx_s]; rfl
    · exact (gx_k (by omega)).trans (w j (by omega))
set_option maxRecDepth 100000 in
set_option maxHeartbeats 4000000 in
theorem lz16_2 {W : Nat → Bool} {m q r : Nat} {hd : Bool} {hb : xh_H} {Q : Option Value → xh_H → Prop} (A : LA W m q r hb) (m12 : m ≤ 12) (K : ∀ (f : Nat) (h : xh_H), a_rq a_tb h → fx SL16 fN hb h → xg 0 h.2.1 18 0 = nI 0 → (∀ k, k ≤ 12 → xg 0 h.2.1 18 (k + 1) = nI (cnt (qk (mi W m hd) k) (2 ^ m))) → xq f xi_X2_list xmi_X2_list 66 [(0, .ref 14), (1, .ref 16), (2, .int (bl hd)), (3, .int (nI 1))] [] h Q) : ∀ (n f s : Nat) (h : xh_H), s + n = 2 ^ m → a_rq a_tb h → fx SL16 fN hb h → xg 0 h.2.1 18 0 = nI 0 → (∀ k, k ≤ 12 → xg 0 h.2.1 18 (k + 1) = nI (cnt (qk (mi W m hd) k) s)) → xq f xi_X2_list xmi_X2_list 26 [(0, .ref 14), (1, .ref 16), (2, .int (bl hd)), (3, .int (nI s))] [] h Q := by
  have p12 : 2 ^ m ≤ 4096 := show 2 ^ m ≤ 2 ^ 12 from Nat.pow_le_pow_right (by decide) m12
  intro n
  induction n with
  | zero =>
    intro f s h hn hq ge w0 w
    have e : s = 2 ^ m := by omega
    subst e
    refine xq_n 66 [0, 1, 2, 3] [(0, .ref 14), (1, .ref 16), (2, .int (bl hd)), (3, .int (Int32.ofInt 1))] [] h [true] 60 hq rfl ⟨gtt (LA_f A ge rfl rfl) m12, trivial⟩ (fun _ => ?_)
    exact K f h hq ge w0 w
  | succ n ih =>
    intro f s h hn hq ge w0 w
    have hs : s < 2 ^ m := by omega
    have A' := LA_f A ge rfl rfl
    refine xq_n 37 [0, 1, 2, 3] [(0, .ref 14), (1, .ref 16), (2, .int (bl hd)), (3, .int (nI s))] [.int (bl hd), .int (nI s), .ref 14] h [false] 60 hq rfl ⟨gtf A' m12 hs, trivial⟩ (fun _ => ?_)
    refine xq_run hq rfl rfl (ism_q A' m12 hs hq) ?_
    rintro v h1 ⟨rfl, rfl⟩
    cases c : mi W m hd s with
    | false =>
      refine xq_n 26 [0, 1, 2, 3] [(0, .ref 14), (1, .ref 16), (2, .int (bl hd)), (3, .int (nI s + Int32.ofInt 1))] [] h [true] 60 hq rfl ⟨rfl, trivial⟩ (fun _ => ?_)
      rw [nI_1']
      exact ih f (s + 1) h (by omega) hq ge w0 (fun k hk' => by rw [cnt_f (show qk (mi W m hd) k s = false by unfold qk; rw [c]; rfl)]; exact w k hk')
    | true =>
      refine xq_n 48 [0, 1, 2, 3] [(0, .ref 14), (1, .ref 16), (2, .int (bl hd)), (3, .int (nI s))] [.int (nI s), .ref 18] h [false] 60 hq rfl ⟨rfl, trivial⟩ (fun _ => ?_)
      refine xq_run hq rfl rfl (bit_q (by omega) hq) ?_
      rintro v h1 ⟨rfl, rfl⟩
      have sl := sz_le (s := s)
      refine xq_n 26 [0, 1, 2, 3] [(0, .ref 14), (1, .ref 16), (2, .int (bl hd)), (3, .int (nI s + Int32.ofInt 1))] [] (xh_ui h 18 (nI (sz s) + Int32.ofInt 1).toNatClampNeg (xg 0 h.2.1 18 (nI (sz s) + Int32.ofInt 1).toNatClampNeg + Int32.ofInt 1)) [] 60 hq rfl trivial (fun _ => ?_)
      rw [show nI s + Int32.ofInt 1 = nI (s + 1) from nI_1', show (nI (sz s) + Int32.ofInt 1).toNatClampNeg = sz s + 1 by rw [nI_1']; exact nI_clamp (by omega), w (sz s) sl, show nI (cnt (qk (mi W m hd) (sz s)) s) + Int32.ofInt 1 = nI (cnt (qk (mi W m hd) (sz s)) s + 1) from nI_1']
      refine ih f (s + 1) _ (by omega) (a_rq_ui hq) (fx_ui ge rfl) ((gx_k (by omega)).trans w0) (fun k hk' => ?_)
      by_cases z : k = sz s
      · rw [z, gx_s, cnt_t (qk_s c)]
      · rw [gx_k (by omega), cnt_f (show qk (mi W m hd) k s = false by unfold qk; rw [decide_eq_false (fun e => z e.symm), Bool.and_false])]
        exact w k hk'
set_option maxRecDepth 100000 in
set_option maxHeartbeats 4000000 in
theorem lz16_3 {P : Nat → Bool} {N : Nat} {hd : Bool} {hb : xh_H} {Q : Option Value → xh_H → Prop} (K : ∀ (f : Nat) (h : xh_H), a_rq a_tb h → fx SL16 fN hb h → (∀ k, k < 14 → xg 0 h.2.1 18 k = nI (cum P N k)) → xq f xi_X2_list xmi_X2_list 103 [(0, .ref 14), (1, .ref 16), (2, .int (bl hd)), (3, .int (nI 0)), (4, .int (nI 0))] [] h Q) : ∀ (n f i : Nat) (h : xh_H), i + n = 13 → a_rq a_tb h → fx SL16 fN hb h → (∀ k, k < i + 1 → xg 0 h.2.1 18 k = nI (cum P N k)) → (∀ k, i ≤ k → k ≤ 12 → xg 0 h.2.1 18 (k + 1) = nI (cnt (qk P k) N)) → xq f xi_X2_list xmi_X2_list 66 [(0, .ref 14), (1, .ref 16), (2, .int (bl hd)), (3, .int (nI (i + 1)))] [] h Q := by
  intro n
  induction n with
  | zero =>
    intro f i h hn hq ge w0 w
    have e : i = 13 := by omega
    subst e
    refine xq_n 103 [0, 1, 2, 3, 4] [(0, .ref 14), (1, .ref 16), (2, .int (bl hd)), (3, .int (Int32.ofInt 0)), (4, .int (Int32.ofInt 0))] [] h [true] 60 hq rfl ⟨rfl, trivial⟩ (fun _ => ?_)
    exact K f h hq ge w0
  | succ n ih =>
    intro f i h hn hq ge w0 w
    refine xq_n 66 [0, 1, 2, 3] [(0, .ref 14), (1, .ref 16), (2, .int (bl hd)), (3, .int (nI (i + 1) + Int32.ofInt 1))] [] (xh_ui h 18 (nI (i + 1)).toNatClampNeg (xg 0 h.2.1 18 (nI (i + 1)).toNatClampNeg + xg 0 h.2.1 18 (nI (i + 1) - Int32.ofInt 1).toNatClampNeg)) [false] 60 hq rfl ⟨nge_f (b := 14) (by omega) (by decide) (by omega), trivial⟩ (fun _ => ?_)
    rw [nI_1', show (nI (i + 1)).toNatClampNeg = i + 1 from nI_clamp (by omega), show (nI (i + 1) - Int32.ofInt 1).toNatClampNeg = i by rw [nI_sub1]; exact nI_clamp (by omega), w i (Nat.le_refl _) (by omega), w0 i (by omega), nI_add]
    refine ih f (i + 1) _ (by omega) (a_rq_ui hq) (fx_ui ge rfl) (fun k hk' => ?_) (fun k h1 h2 => (gx_k (by omega)).trans (w k (by omega) h2))
    by_cases z : k = i + 1
    · rw [z, gx_s]
      show _ = nI (cum P N i + cnt (qk P i) N)
      rw [Nat.add_comm]
    · exact (gx_k (by omega)).trans (w0 k (by omega))
set_option maxRecDepth 100000 in
set_option maxHeartbeats 4000000 in
theorem lz16_4 {W : Nat → Bool} {m q r : Nat} {hd : Bool} {hb : xh_H} {Q : Option Value → xh_H → Prop} (A : LA W m q r hb) (m12 : m ≤ 12) (K : ∀ (f : Nat) (h : xh_H), a_rq a_tb h → fx SL16 fN hb h → (∀ t, t < 2 ^ m → mi W m hd t = true → rk (mi W m hd) (2 ^ m) t < 924 → xg 0 h.2.1 16 (rk (mi W m hd) (2 ^ m) t) = nI t) → xq f xi_X2_list xmi_X2_list 164 [] [.int 924, .int (nI (cnt (mi W m hd) (2 ^ m)))] h Q) : ∀ (n f s : Nat) (h : xh_H), s + n = 2 ^ m → a_rq a_tb h → fx SL16 fN hb h → (∀ k, k ≤ 12 → xg 0 h.2.1 18 k = nI (cum (mi W m hd) (2 ^ m) k + cnt (qk (mi W m hd) k) s)) → (∀ t, t < s → mi W m hd t = true → rk (mi W m hd) (2 ^ m) t < 924 → xg 0 h.2.1 16 (rk (mi W m hd) (2 ^ m) t) = nI t) → xq f xi_X2_list xmi_X2_list 103 [(0, .ref 14), (1, .ref 16), (2, .int (bl hd)), (3, .int (nI (cnt (mi W m hd) s))), (4, .int (nI s))] [] h Q := by
  have p12 : 2 ^ m ≤ 4096 := show 2 ^ m ≤ 2 ^ 12 from Nat.pow_le_pow_right (by decide) m12
  intro n
  induction n with
  | zero =>
    intro f s h hn hq ge w0 w
    have e : s = 2 ^ m := by omega
    subst e
    refine xq_n 164 [] [] [.int 924, .int (nI (cnt (mi W m hd) (2 ^ m)))] h [true] 60 hq rfl ⟨gtt (LA_f A ge rfl rfl) m12, trivial⟩ (fun _ => ?_)
    exact K f h hq ge w
  | succ n ih =>
    intro f s h hn hq ge w0 w
    have hs : s < 2 ^ m := by omega
    have A' := LA_f A ge rfl rfl
    refine xq_n 116 [0, 1, 2, 3, 4] [(0, .ref 14), (1, .ref 16), (2, .int (bl hd)), (3, .int (nI (cnt (mi W m hd) s))), (4, .int (nI s))] [.int (bl hd), .int (nI s), .ref 14] h [false] 60 hq rfl ⟨gtf A' m12 hs, trivial⟩ (fun _ => ?_)
    refine xq_run hq rfl rfl (ism_q A' m12 hs hq) ?_
    rintro v h1 ⟨rfl, rfl⟩
    have r := ih f (s + 1)
    cases c : mi W m hd s with
    | false =>
      rw [cnt_f c] at r
      refine xq_n 103 [0, 1, 2, 3, 4] [(0, .ref 14), (1, .ref 16), (2, .int (bl hd)), (3, .int (nI (cnt (mi W m hd) s))), (4, .int (nI s + Int32.ofInt 1))] [] h [true] 60 hq rfl ⟨rfl, trivial⟩ (fun _ => ?_)
      rw [nI_1']
      refine r h (by omega) hq ge (fun k hk' => by rw [cnt_f (show qk (mi W m hd) k s = false by unfold qk; rw [c]; rfl)]; exact w0 k hk') (fun t ht hp hr => w t ?_ hp hr)
      by_cases z : t = s
      · rw [z, c] at hp; cases hp
      · omega
    | true =>
      rw [cnt_t c] at r
      refine xq_n 128 [0, 1, 2, 3, 4] [(0, .ref 14), (1, .ref 16), (2, .int (bl hd)), (3, .int (nI (cnt (mi W m hd) s))), (4, .int (nI s))] [.int (nI s), .ref 18] h [false] 60 hq rfl ⟨rfl, trivial⟩ (fun _ => ?_)
      refine xq_run hq rfl rfl (bit_q (by omega) hq) ?_
      rintro v h1 ⟨rfl, rfl⟩
      have sl := sz_le (s := s)
      have e18 : xg 0 h.2.1 18 (nI (sz s)).toNatClampNeg = nI (rk (mi W m hd) (2 ^ m) s) := by rw [nI_clamp (by omega)]; exact w0 (sz s) sl
      have rl : rk (mi W m hd) (2 ^ m) s < 2 ^ 31 := by
        have b := cum_b (P := mi W m hd) (N := 2 ^ m) (sz s)
        have b2 := cnt_le (P := qk (mi W m hd) (sz s)) s
        have b3 : 2 ^ m * sz s ≤ 4096 * 12 := Nat.mul_le_mul p12 sl
        unfold rk
        omega
      have w1 : ∀ k, k ≤ 12 → xg 0 (xh_ui h 18 (sz s) (nI (rk (mi W m hd) (2 ^ m) s + 1))).2.1 18 k = nI (cum (mi W m hd) (2 ^ m) k + cnt (qk (mi W m hd) k) (s + 1)) := fun k hk' => by
        by_cases z : k = sz s
        · rw [z, gx_s, cnt_t (qk_s c)]; rfl
        · rw [gx_k (by omega), cnt_f (show qk (mi W m hd) k s = false by unfold qk; rw [decide_eq_false (fun e => z e.symm), Bool.and_false])]
          exact w0 k hk'
      cases cg : xe_c .ge (nI (rk (mi W m hd) (2 ^ m) s)) 924 with
      | true =>
        have z2 : 924 ≤ rk (mi W m hd) (2 ^ m) s := nq_get (b := 924) rl (by decide) cg
        refine xq_n 103 [0, 1, 2, 3, 4] [(0, .ref 14), (1, .ref 16), (2, .int (bl hd)), (3, .int (nI (cnt (mi W m hd) s) + Int32.ofInt 1)), (4, .int (nI s + Int32.ofInt 1))] [] (xh_ui h 18 (nI (sz s)).toNatClampNeg (xg 0 h.2.1 18 (nI (sz s)).toNatClampNeg + Int32.ofInt 1)) [true] 80 hq rfl ⟨(show xe_c .ge (xg 0 h.2.1 18 (nI (sz s)).toNatClampNeg) 924 = true by rw [e18]; exact cg), trivial⟩ (fun _ => ?_)
        rw [e18, nI_1', nI_1', nI_1', show (nI (sz s)).toNatClampNeg = sz s from nI_clamp (by omega)]
        refine r _ (by omega) (a_rq_ui hq) (fx_ui ge rfl) w1 (fun t ht hp hr => (gx_o (by decide)).trans (w t ?_ hp hr))
        by_cases z : t = s
        · rw [z] at hr; omega
        · omega
      | false =>
        have z2 : rk (mi W m hd) (2 ^ m) s < 924 := nq_gef (b := 924) rl (by decide) cg
        refine xq_n 103 [0, 1, 2, 3, 4] [(0, .ref 14), (1, .ref 16), (2, .int (bl hd)), (3, .int (nI (cnt (mi W m hd) s) + Int32.ofInt 1)), (4, .int (nI s + Int32.ofInt 1))] [] (xh_ui (xh_ui h 18 (nI (sz s)).toNatClampNeg (xg 0 h.2.1 18 (nI (sz s)).toNatClampNeg + Int32.ofInt 1)) 16 (xg 0 h.2.1 18 (nI (sz s)).toNatClampNeg).toNatClampNeg (nI s)) [false] 80 hq rfl ⟨(show xe_c .ge (xg 0 h.2.1 18 (nI (sz s)).toNatClampNeg) 924 = false by rw [e18]; exact cg), trivial⟩ (fun _ => ?_)
        rw [e18, nI_1', nI_1', nI_1', show (nI (sz s)).toNatClampNeg = sz s from nI_clamp (by omega), show (nI (rk (mi W m hd) (2 ^ m) s)).toNatClampNeg = rk (mi W m hd) (2 ^ m) s from nI_clamp (by omega)]
        refine r _ (by omega) (a_rq_ui (a_rq_ui hq)) (fx_ui (fx_ui ge rfl) rfl) (fun k hk' => (gx_o (by decide)).trans (w1 k hk')) (fun t ht hp hr => ?_)
        by_cases z : t = s
        · rw [z, gx_s]
        · have ne : rk (mi W m hd) (2 ^ m) t ≠ rk (mi W m hd) (2 ^ m) s := fun e => z (rk_ij hp c (by omega) hs e)
          exact (gx_k ne).trans ((gx_o (by decide)).trans (w t (by omega) hp hr))
set_option maxRecDepth 100000 in
set_option maxHeartbeats 4000000 in
/-- Powers.list -/
theorem lz16_q {f : Nat} {W : Nat → Bool} {m q r : Nat} {hd : Bool} {hb : xh_H} (A : LA W m q r hb) (m12 : m ≤ 12) (hq : a_rq a_tb hb) : xq f xi_X2_list xmi_X2_list 0 [(0, .ref 14), (1, .ref 16), (2, .int (bl hd))] [] hb (fun v h' => v = some (.int (mn (cnt (mi W m hd) (2 ^ m)))) ∧ fx SL16 fN hb h' ∧ ∀ t, t < 2 ^ m → mi W m hd t = true → rk (mi W m hd) (2 ^ m) t < 924 → xg 0 h'.2.1 16 (rk (mi W m hd) (2 ^ m) t) = nI t) := by
  refine xq_n 2 [0, 1, 2, 3] [(0, .ref 14), (1, .ref 16), (2, .int (bl hd)), (3, .int (Int32.ofInt 0))] [] hb [] 60 hq rfl trivial (fun _ => ?_)
  refine lz16_1 (hb := hb) (fun f h hq ge w => ?_) 14 f 0 hb (by omega) hq fx_0 (fun j hj => absurd hj (Nat.not_lt_zero j))
  refine lz16_2 A m12 (fun f h hq ge w0 w => ?_) (2 ^ m) f 0 h (by omega) hq ge (w 0 (by decide)) (fun k hk' => w (k + 1) (by omega))
  refine lz16_3 (P := mi W m hd) (N := 2 ^ m) (fun f h hq ge w => ?_) 13 f 0 h (by omega) hq ge (fun k hk' => by rw [show k = 0 by omega]; exact w0) (fun k _ h2 => w k h2)
  refine lz16_4 A m12 (fun f h hq ge w => ?_) (2 ^ m) f 0 h (by omega) hq ge (fun k hk' => w k (by omega)) (fun t ht => absurd ht (Nat.not_lt_zero t))
  refine xq_sd (pc1 := 167) (st1 := [.int (mn (cnt (mi W m hd) (2 ^ m)))]) (h1 := h) rfl rfl (fun _ _ => rfl) (fun _ => rfl) ?_
  exact xq_ret rfl rfl rfl ⟨rfl, ge, w⟩
end XPL
end
section
section XPS
/-- in all of a row, or in none -/
def nf (R : Nat → Int32) (x : Int32) : Nat → Int32
  | 0 => x
  | k + 1 => nf R x k &&& R k
def idf (R : Nat → Int32) (x : Int32) : Nat → Int32
  | 0 => x
  | k + 1 => idf R x k &&& (R k ^^^ Int32.ofInt (-1))
def SM (c k : Nat) : Bool := Nat.beq c 14 && (Nat.beq k 11 || Nat.beq k 12)
section
variable {W : Nat → Bool} {m q r : Nat}
set_option maxRecDepth 100000 in
set_option maxHeartbeats 4000000 in
/-- Powers.markNeeded -/
theorem mkn_l {L : Nat} {x0 y0 : Int32} {hb : xh_H} (L9 : L ≤ 924) (e9 : xg 0 hb.2.1 14 9 = nI L) : ∀ (n f i : Nat) (h : xh_H), i + n = L → a_rq a_tb h → fx SM fN hb h → xg 0 h.2.1 14 11 = nf (fun k => xg 0 hb.2.1 15 k) x0 i → xg 0 h.2.1 14 12 = idf (fun k => xg 0 hb.2.1 15 k) y0 i → xq f xi_X2_markNeeded xmi_X2_markNeeded 29 [(0, .ref 14), (1, .int (nI i))] [] h (fun v h' => v = none ∧ fx SM fN hb h' ∧ xg 0 h'.2.1 14 11 = nf (fun k => xg 0 hb.2.1 15 k) x0 L ∧ xg 0 h'.2.1 14 12 = idf (fun k => xg 0 hb.2.1 15 k) y0 L) := by
  intro n
  induction n with
  | zero =>
    intro f i h hn hq ge w1 w2
    have e : i = L := by omega
    subst e
    refine xq_n 75 [] [] [] h [true] 60 hq rfl ⟨(show xe_c .ge (nI i) (xg 0 h.2.1 14 9) = true by rw [fx_i ge rfl, e9]; exact nge_t (by omega) (by omega) (Nat.le_refl _)), trivial⟩ (fun _ => ?_)
    exact xq_ret rfl rfl rfl ⟨rfl, ge, w1, w2⟩
  | succ n ih =>
    intro f i h hn hq ge w1 w2
    refine xq_n 29 [0, 1] [(0, .ref 14), (1, .int (nI i + Int32.ofInt 1))] [] (xh_ui (xh_ui h 14 11 (xg 0 h.2.1 14 11 &&& xg 0 h.2.1 15 (nI i).toNatClampNeg)) 14 12 (xg 0 (xh_ui h 14 11 (xg 0 h.2.1 14 11 &&& xg 0 h.2.1 15 (nI i).toNatClampNeg)).2.1 14 12 &&& (xg 0 (xh_ui h 14 11 (xg 0 h.2.1 14 11 &&& xg 0 h.2.1 15 (nI i).toNatClampNeg)).2.1 15 (nI i).toNatClampNeg ^^^ Int32.ofInt (-1)))) [false] 60 hq rfl ⟨(show xe_c .ge (nI i) (xg 0 h.2.1 14 9) = false by rw [fx_i ge rfl, e9]; exact nge_f (by omega) (by omega) (by omega)), trivial⟩ (fun _ => ?_)
    rw [nI_1', show (nI i).toNatClampNeg = i from nI_clamp (by omega), gx_k (k := 11) (k' := 12) (by decide), gx_o (c := 14) (c' := 15) (by decide), show xg 0 h.2.1 15 i = xg 0 hb.2.1 15 i from fx_i ge rfl, w1, w2]
    refine ih f (i + 1) _ (by omega) (a_rq_ui (a_rq_ui hq)) (fx_ui (fx_ui ge rfl) rfl) ?_ ?_
    · rw [gx_k (by decide), gx_s]; rfl
    · rw [gx_s]; rfl
set_option maxRecDepth 100000 in
set_option maxHeartbeats 4000000 in
theorem mkn_q {f L : Nat} {hb : xh_H} (L9 : L ≤ 924) (e9 : xg 0 hb.2.1 14 9 = nI L) (hq : a_rq a_tb hb) : xq f xi_X2_markNeeded xmi_X2_markNeeded 0 [(0, .ref 14)] [] hb (fun v h' => v = none ∧ fx SM fN hb h' ∧ xg 0 h'.2.1 14 11 = nf (fun k => xg 0 hb.2.1 15 k) (cond (xe_c .le (nI L) 0) 0 (xg 0 hb.2.1 14 8)) L ∧ xg 0 h'.2.1 14 12 = idf (fun k => xg 0 hb.2.1 15 k) (xg 0 hb.2.1 14 8) L) := by
  cases c : xe_c .le (nI L) 0 with
  | true =>
    refine xq_n 29 [0, 1] [(0, .ref 14), (1, .int (Int32.ofInt 0))] [] (xh_ui (xh_ui hb 14 11 (Int32.ofInt 0)) 14 12 (xg 0 (xh_ui hb 14 11 (Int32.ofInt 0)).2.1 14 8)) [true] 60 hq rfl ⟨(show xe_c .le (xg 0 hb.2.1 14 9) 0 = true by rw [e9]; exact c), trivial⟩ (fun _ => ?_)
    rw [gx_k (k := 11) (k' := 8) (by decide)]
    exact mkn_l L9 e9 L f 0 _ (by omega) (a_rq_ui (a_rq_ui hq)) (fx_ui (fx_ui fx_0 rfl) rfl) (by rw [gx_k (by decide), gx_s]; rfl) (by rw [gx_s]; rfl)
  | false =>
    refine xq_n 29 [0, 1] [(0, .ref 14), (1, .int (Int32.ofInt 0))] [] (xh_ui (xh_ui hb 14 11 (xg 0 hb.2.1 14 8)) 14 12 (xg 0 (xh_ui hb 14 11 (xg 0 hb.2.1 14 8)).2.1 14 8)) [false] 60 hq rfl ⟨(show xe_c .le (xg 0 hb.2.1 14 9) 0 = false by rw [e9]; exact c), trivial⟩ (fun _ => ?_)
    rw [gx_k (k := 11) (k' := 8) (by decide)]
    exact mkn_l L9 e9 L f 0 _ (by omega) (a_rq_ui (a_rq_ui hq)) (fx_ui (fx_ui fx_0 rfl) rfl) (by rw [gx_k (by decide), gx_s]; rfl) (by rw [gx_s]; rfl)
set_option maxRecDepth 100000 in
set_option maxHeartbeats 4000000 in
/-- Powers.isAtLeast -/
theorem ial_l {a b : Nat} {h : xh_H} (A : LA W m q r h) (m12 : m ≤ 12) (ha : a < m) (hb : b < m) (hq : a_rq a_tb h) : ∀ (n f s : Nat), s + n = 2 ^ m → aln (gp W a b) s = true → xq f xi_X2_isAtLeast xmi_X2_isAtLeast 11 [(0, .ref 14), (1, .int (nI a)), (2, .int (nI b)), (3, .int (((Int32.ofInt 1) <<< (nI a &&& 31)) ||| ((Int32.ofInt 1) <<< (nI b &&& 31)))), (4, .int (nI s))] [] h (fun v h' => h = h' ∧ v = some (.int (bl (aln (gp W a b) (2 ^ m))))) := by
  have p12 : 2 ^ m ≤ 4096 := show 2 ^ m ≤ 2 ^ 12 from Nat.pow_le_pow_right (by decide) m12
  intro n
  induction n with
  | zero =>
    intro f s sn w
    have e : s = 2 ^ m := by omega
    subst e
    refine xq_n 68 [] [] [.int (Int32.ofInt 1)] h [true] 60 hq rfl ⟨gtt A m12, trivial⟩ (fun _ => ?_)
    exact xq_ret rfl rfl rfl ⟨rfl, by rw [w]; rfl⟩
  | succ n ih =>
    intro f s sn w
    have hs : s < 2 ^ m := by omega
    have g2 := and2 (s := s) (a := a) (b := b) (by omega) (by omega) (by omega)
    cases c1 : (!s.testBit a && !s.testBit b) with
    | false =>
      have z : gp W a b s = true := by unfold gp; rw [c1]; rfl
      rw [c1] at g2
      refine xq_n 11 [0, 1, 2, 3, 4] [(0, .ref 14), (1, .int (nI a)), (2, .int (nI b)), (3, .int (((Int32.ofInt 1) <<< (nI a &&& 31)) ||| ((Int32.ofInt 1) <<< (nI b &&& 31)))), (4, .int (nI s + Int32.ofInt 1))] [] h [false, true] 60 hq rfl ⟨gtf A m12 hs, g2, trivial⟩ (fun _ => ?_)
      rw [nI_1']
      exact ih f (s + 1) (by omega) (aln_s w z)
    | true =>
      rw [c1] at g2
      refine xq_n 37 [0, 1, 2, 3, 4] [(0, .ref 14), (1, .int (nI a)), (2, .int (nI b)), (3, .int (((Int32.ofInt 1) <<< (nI a &&& 31)) ||| ((Int32.ofInt 1) <<< (nI b &&& 31)))), (4, .int (nI s))] [.int (nI s ||| (Int32.ofInt 1 <<< (nI b &&& 31))), va_rf (xg none h.2.2.2 14 6)] h [false, false] 60 hq rfl ⟨gtf A m12 hs, g2, trivial⟩ (fun _ => ?_)
      rw [A.1, show nI s ||| (Int32.ofInt 1 <<< (nI b &&& 31)) = nI (s ||| 2 ^ b) from nI_o1 (by omega)]
      refine xq_cr (As := [.ref q, .int (nI (s ||| 2 ^ b))]) (mj := xmi_X7_holds) (q := []) rfl rfl (fun _ _ => rfl) (xa_cs_ok (d := 0) (pc := 0) (lv := []) (nL := 0) A.2.1 rfl).1 (fun f => hl_q A m12 (or_p hs hb) hq) ?_
      rintro v h1 ⟨rfl, rfl⟩
      cases c2 : W (s ||| 2 ^ b) with
      | false =>
        have z : gp W a b s = true := by unfold gp; rw [c1, c2]; rfl
        refine xq_n 11 [0, 1, 2, 3, 4] [(0, .ref 14), (1, .int (nI a)), (2, .int (nI b)), (3, .int (((Int32.ofInt 1) <<< (nI a &&& 31)) ||| ((Int32.ofInt 1) <<< (nI b &&& 31)))), (4, .int (nI s + Int32.ofInt 1))] [] h [true] 60 hq rfl ⟨rfl, trivial⟩ (fun _ => ?_)
        rw [nI_1']
        exact ih f (s + 1) (by omega) (aln_s w z)
      | true =>
        refine xq_n 53 [0, 1, 2, 3, 4] [(0, .ref 14), (1, .int (nI a)), (2, .int (nI b)), (3, .int (((Int32.ofInt 1) <<< (nI a &&& 31)) ||| ((Int32.ofInt 1) <<< (nI b &&& 31)))), (4, .int (nI s))] [.int (nI s ||| (Int32.ofInt 1 <<< (nI a &&& 31))), va_rf (xg none h.2.2.2 14 6)] h [false] 60 hq rfl ⟨rfl, trivial⟩ (fun _ => ?_)
        rw [A.1, show nI s ||| (Int32.ofInt 1 <<< (nI a &&& 31)) = nI (s ||| 2 ^ a) from nI_o1 (by omega)]
        refine xq_cr (As := [.ref q, .int (nI (s ||| 2 ^ a))]) (mj := xmi_X7_holds) (q := []) rfl rfl (fun _ _ => rfl) (xa_cs_ok (d := 0) (pc := 0) (lv := []) (nL := 0) A.2.1 rfl).1 (fun f => hl_q A m12 (or_p hs ha) hq) ?_
        rintro v h1 ⟨rfl, rfl⟩
        cases c3 : W (s ||| 2 ^ a) with
        | true =>
          have z : gp W a b s = true := by unfold gp; rw [c1, c2, c3]; rfl
          refine xq_n 11 [0, 1, 2, 3, 4] [(0, .ref 14), (1, .int (nI a)), (2, .int (nI b)), (3, .int (((Int32.ofInt 1) <<< (nI a &&& 31)) ||| ((Int32.ofInt 1) <<< (nI b &&& 31)))), (4, .int (nI s + Int32.ofInt 1))] [] h [true] 60 hq rfl ⟨rfl, trivial⟩ (fun _ => ?_)
          rw [nI_1']
          exact ih f (s + 1) (by omega) (aln_s w z)
        | false =>
          have z : gp W a b s = false := by unfold gp; rw [c1, c2, c3]; rfl
          refine xq_n 60 [] [] [.int (Int32.ofInt 0)] h [false] 60 hq rfl ⟨rfl, trivial⟩ (fun _ => ?_)
          exact xq_ret rfl rfl rfl ⟨rfl, by rw [aln_f z (2 ^ m) hs]; rfl⟩
theorem ial_q {f a b : Nat} {h : xh_H} (A : LA W m q r h) (m12 : m ≤ 12) (ha : a < m) (hb : b < m) (hq : a_rq a_tb h) : xq f xi_X2_isAtLeast xmi_X2_isAtLeast 0 [(0, .ref 14), (1, .int (nI a)), (2, .int (nI b))] [] h (fun v h' => h = h' ∧ v = some (.int (bl (aln (gp W a b) (2 ^ m))))) := by
  refine xq_n 11 [0, 1, 2, 3, 4] [(0, .ref 14), (1, .int (nI a)), (2, .int (nI b)), (3, .int (((Int32.ofInt 1) <<< (nI a &&& 31)) ||| ((Int32.ofInt 1) <<< (nI b &&& 31)))), (4, .int (Int32.ofInt 0))] [] h [] 60 hq rfl trivial (fun _ => ?_)
  exact ial_l A m12 ha hb hq (2 ^ m) f 0 (by omega) rfl
def S19 (c _k : Nat) : Bool := Nat.beq c 19
set_option maxRecDepth 100000 in
set_option maxHeartbeats 4000000 in
/-- Powers.compareAll -/
theorem cal_in {hb : xh_H} (A : LA W m q r hb) (m12 : m ≤ 12) {a : Nat} (ha : a < m) {Q : Option Value → xh_H → Prop} (K : ∀ (f : Nat) (h : xh_H), a_rq a_tb h → fx S19 fN hb h → (∀ a', a' < a + 1 → xg 0 h.2.1 19 a' = nI (msk (fun b => aln (gp W a' b) (2 ^ m)) m)) → xq f xi_X2_compareAll xmi_X2_compareAll 2 [(0, .ref 14), (1, .int (nI (a + 1)))] [] h Q) : ∀ (n f b : Nat) (h : xh_H), b + n = m → a_rq a_tb h → fx S19 fN hb h → (∀ a', a' < a → xg 0 h.2.1 19 a' = nI (msk (fun b => aln (gp W a' b) (2 ^ m)) m)) → xg 0 h.2.1 19 a = nI (msk (fun b => aln (gp W a b) (2 ^ m)) b) → xq f xi_X2_compareAll xmi_X2_compareAll 19 [(0, .ref 14), (1, .int (nI a)), (2, .int (nI b))] [] h Q := by
  intro n
  induction n with
  | zero =>
    intro f b h hn hq ge w w1
    have e : b = m := by omega
    subst e
    have A' := LA_f A ge rfl rfl
    refine xq_n 2 [0, 1] [(0, .ref 14), (1, .int (nI a + Int32.ofInt 1))] [] h [true] 60 hq rfl ⟨(show xe_c .ge (nI b) (xg 0 h.2.1 14 7) = true by rw [A'.2.2.2.2.1]; exact nge_t (by omega) (by omega) (Nat.le_refl _)), trivial⟩ (fun _ => ?_)
    rw [nI_1']
    refine K f h hq ge (fun a' ha' => ?_)
    by_cases z : a' = a
    · rw [z]; exact w1
    · exact w a' (by omega)
  | succ n ih =>
    intro f b h hn hq ge w w1
    have A' := LA_f A ge rfl rfl
    have es : msk (fun b => aln (gp W a b) (2 ^ m)) (b + 1) = if aln (gp W a b) (2 ^ m) = true then msk (fun b => aln (gp W a b) (2 ^ m)) b ||| 2 ^ b else msk (fun b => aln (gp W a b) (2 ^ m)) b := rfl
    refine xq_n 30 [0, 1, 2] [(0, .ref 14), (1, .int (nI a)), (2, .int (nI b))] [.int (nI b), .int (nI a), .ref 14] h [false] 60 hq rfl ⟨(show xe_c .ge (nI b) (xg 0 h.2.1 14 7) = false by rw [A'.2.2.2.2.1]; exact nge_f (by omega) (by omega) (by omega)), trivial⟩ (fun _ => ?_)
    refine xq_run hq rfl rfl (ial_q A' m12 ha (by omega) hq) ?_
    rintro v h1 ⟨rfl, rfl⟩
    cases c : aln (gp W a b) (2 ^ m) with
    | false =>
      refine xq_n 19 [0, 1, 2] [(0, .ref 14), (1, .int (nI a)), (2, .int (nI b + Int32.ofInt 1))] [] h [true] 60 hq rfl ⟨rfl, trivial⟩ (fun _ => ?_)
      rw [nI_1']
      exact ih f (b + 1) h (by omega) hq ge w (by rw [es, c, if_neg (by decide)]; exact w1)
    | true =>
      refine xq_n 19 [0, 1, 2] [(0, .ref 14), (1, .int (nI a)), (2, .int (nI b + Int32.ofInt 1))] [] (xh_ui h 19 (nI a).toNatClampNeg (xg 0 h.2.1 19 (nI a).toNatClampNeg ||| (Int32.ofInt 1 <<< (nI b &&& 31)))) [false] 60 hq rfl ⟨rfl, trivial⟩ (fun _ => ?_)
      rw [nI_1', show (nI a).toNatClampNeg = a from nI_clamp (by omega), w1, nI_o1 (by omega)]
      exact ih f (b + 1) _ (by omega) (a_rq_ui hq) (fx_ui ge rfl) (fun a' ha' => (gx_k (by omega)).trans (w a' ha')) (by rw [gx_s, es, c, if_pos rfl])
set_option maxRecDepth 100000 in
set_option maxHeartbeats 4000000 in
theorem cal_l {hb : xh_H} (A : LA W m q r hb) (m12 : m ≤ 12) : ∀ (n f a : Nat) (h : xh_H), a + n = m → a_rq a_tb h → fx S19 fN hb h → (∀ a', a' < a → xg 0 h.2.1 19 a' = nI (msk (fun b => aln (gp W a' b) (2 ^ m)) m)) → xq f xi_X2_compareAll xmi_X2_compareAll 2 [(0, .ref 14), (1, .int (nI a))] [] h (fun v h' => v = none ∧ fx S19 fN hb h' ∧ ∀ a', a' < m → xg 0 h'.2.1 19 a' = nI (msk (fun b => aln (gp W a' b) (2 ^ m)) m)) := by
  intro n
  induction n with
  | zero =>
    intro f a h hn hq ge w
    have e : a = m := by omega
    subst e
    have A' := LA_f A ge rfl rfl
    refine xq_n 60 [] [] [] h [true] 60 hq rfl ⟨(show xe_c .ge (nI a) (xg 0 h.2.1 14 7) = true by rw [A'.2.2.2.2.1]; exact nge_t (by omega) (by omega) (Nat.le_refl _)), trivial⟩ (fun _ => ?_)
    exact xq_ret rfl rfl rfl ⟨rfl, ge, w⟩
  | succ n ih =>
    intro f a h hn hq ge w
    have A' := LA_f A ge rfl rfl
    refine xq_n 19 [0, 1, 2] [(0, .ref 14), (1, .int (nI a)), (2, .int (Int32.ofInt 0))] [] (xh_ui h 19 (nI a).toNatClampNeg (Int32.ofInt 0)) [false] 60 hq rfl ⟨(show xe_c .ge (nI a) (xg 0 h.2.1 14 7) = false by rw [A'.2.2.2.2.1]; exact nge_f (by omega) (by omega) (by omega)), trivial⟩ (fun _ => ?_)
    rw [show (nI a).toNatClampNeg = a from nI_clamp (by omega)]
    exact cal_in A m12 (show a < m by omega) (fun f h hq ge w => ih f (a + 1) h (by omega) hq ge w) m f 0 _ (by omega) (a_rq_ui hq) (fx_ui ge rfl) (fun a' ha' => (gx_k (by omega)).trans (w a' ha')) (by rw [gx_s]; rfl)
theorem cal_q {f : Nat} {hb : xh_H} (A : LA W m q r hb) (m12 : m ≤ 12) (hq : a_rq a_tb hb) : xq f xi_X2_compareAll xmi_X2_compareAll 0 [(0, .ref 14)] [] hb (fun v h' => v = none ∧ fx S19 fN hb h' ∧ ∀ a', a' < m → xg 0 h'.2.1 19 a' = nI (msk (fun b => aln (gp W a' b) (2 ^ m)) m)) := by
  refine xq_n 2 [0, 1] [(0, .ref 14), (1, .int (Int32.ofInt 0))] [] hb [] 60 hq rfl trivial (fun _ => ?_)
  exact cal_l A m12 m f 0 hb (by omega) hq fx_0 (fun a' ha' => absurd ha' (Nat.not_lt_zero a'))
end
/-- how many least ones are told -/
def lcn (P : Nat → Bool) (N : Nat) : Nat := min (cnt P N) 924
theorem mn_e {n : Nat} (h : n < 2 ^ 31) : mn n = nI (min n 924) := by
  unfold mn
  by_cases z : n ≤ 924
  · rw [if_neg (fun y => by have := Int32.lt_iff_toInt_lt.mp y; rw [nI_toInt h] at this; have e : (924 : Int32).toInt = 924 := rfl; omega), Nat.min_eq_left z]
  · rw [if_pos (Int32.lt_iff_toInt_lt.mpr (by rw [nI_toInt h]; show (924 : Int) < _; omega)), Nat.min_eq_right (by omega)]
    rfl
/-- a row of sets -/
def rwQ (P : Nat → Bool) (N c : Nat) (h : xh_H) : Prop := ∀ t, t < N → P t = true → rk P N t < 924 → xg 0 h.2.1 c (rk P N t) = nI t
/-- what Powers has told fits what it looks at -/
def PD (W : Nat → Bool) (m : Nat) (h : xh_H) : Prop := (∀ a, a < m → xg 0 h.2.1 17 a = nI (cnt (tw W a) (2 ^ m))) ∧ (∀ a, a < m → xg 0 h.2.1 19 a = nI (msk (fun b => aln (gp W a b) (2 ^ m)) m)) ∧ (xg 0 h.2.1 14 9 = nI (lcn (mi W m false) (2 ^ m)) ∧ rwQ (mi W m false) (2 ^ m) 15 h) ∧ (xg 0 h.2.1 14 10 = nI (lcn (mi W m true) (2 ^ m)) ∧ rwQ (mi W m true) (2 ^ m) 16 h) ∧ xg 0 h.2.1 14 11 = nf (fun k => xg 0 h.2.1 15 k) (cond (xe_c .le (nI (lcn (mi W m false) (2 ^ m))) 0) 0 (nI (2 ^ m - 1))) (lcn (mi W m false) (2 ^ m)) ∧ xg 0 h.2.1 14 12 = idf (fun k => xg 0 h.2.1 15 k) (nI (2 ^ m - 1)) (lcn (mi W m false) (2 ^ m))
theorem PD_c {W : Nat → Bool} {m : Nat} {h h' : xh_H} (e : ∀ c k, (c = 14 ∧ 9 ≤ k ∧ k ≤ 12) ∨ c = 15 ∨ c = 16 ∨ c = 17 ∨ c = 19 → xg 0 h'.2.1 c k = xg 0 h.2.1 c k) (P : PD W m h) : PD W m h' := by
  obtain ⟨p1, p2, ⟨p3, p4⟩, ⟨p5, p6⟩, p7, p8⟩ := P
  have e15 : (fun k => xg 0 h'.2.1 15 k) = fun k => xg 0 h.2.1 15 k := funext (fun k => e 15 k (by omega))
  refine ⟨fun a ha => (e 17 a (by omega)).trans (p1 a ha), fun a ha => (e 19 a (by omega)).trans (p2 a ha), ⟨(e 14 9 (by omega)).trans p3, fun t h1 h2 h3 => (e 15 _ (by omega)).trans (p4 t h1 h2 h3)⟩, ⟨(e 14 10 (by omega)).trans p5, fun t h1 h2 h3 => (e 16 _ (by omega)).trans (p6 t h1 h2 h3)⟩, ?_, ?_⟩
  · rw [e15]; exact (e 14 11 (by omega)).trans p7
  · rw [e15]; exact (e 14 12 (by omega)).trans p8
/-- what study may change -/
def SY (c k : Nat) : Bool := (Nat.beq c 14 && Nat.ble 7 k) || (Nat.ble 15 c && Nat.ble c 19)
theorem SY_w {S : Nat → Nat → Bool} {h h1 h2 : xh_H} (hS : ∀ c k, SY c k = false → S c k = false) (g : fx SY fN h h1) (g2 : fx S fN h1 h2) : fx SY fN h h2 := fx_t g (fx_w g2 hS (fun _ _ z => z))
theorem SY_o {c k : Nat} (h : SY c k = false) : ¬ (c = 14 ∧ 7 ≤ k) ∧ ¬ (15 ≤ c ∧ c ≤ 19) := by
  unfold SY at h
  rw [Bool.or_eq_false_iff] at h
  refine ⟨fun z => ?_, fun z => ?_⟩
  · rw [z.1, Nat.ble_eq_true_of_le z.2] at h; exact absurd h.1 (by decide)
  · rw [Nat.ble_eq_true_of_le z.1, Nat.ble_eq_true_of_le z.2] at h; exact absurd h.2 (by decide)
theorem nbeq_f {a b : Nat} (h : a ≠ b) : Nat.beq a b = false := by
  cases z : Nat.beq a b with
  | false => rfl
  | true => exact absurd (Nat.eq_of_beq_eq_true z) h
theorem SY_15 {c k : Nat} (h : SY c k = false) : SL15 c k = false := by
  have := SY_o h
  unfold SL15
  rw [nbeq_f (by omega), nbeq_f (by omega)]; rfl
theorem SY_16 {c k : Nat} (h : SY c k = false) : SL16 c k = false := by
  have := SY_o h
  unfold SL16
  rw [nbeq_f (by omega), nbeq_f (by omega)]; rfl
theorem SY_19 {c k : Nat} (h : SY c k = false) : S19 c k = false := by
  have := SY_o h
  exact nbeq_f (by omega)
theorem SY_M {c k : Nat} (h : SY c k = false) : SM c k = false := by
  have := SY_o h
  unfold SM
  by_cases z : c = 14
  · rw [nbeq_f (show k ≠ 11 by omega), nbeq_f (show k ≠ 12 by omega)]; cases Nat.beq c 14 <;> rfl
  · rw [nbeq_f z]; rfl
/-- what study leaves -/
def Yf (h h' : xh_H) : Prop := h'.1 = h.1 ∧ (∀ c k, SY c k = false → xg 0 h'.2.1 c k = xg 0 h.2.1 c k) ∧ (∀ c k, xg 0 h'.2.2.1 c k = xg 0 h.2.2.1 c k) ∧ ∀ c k, (c ≠ 14 ∨ k ≠ 6) → xg none h'.2.2.2 c k = xg none h.2.2.2 c k
def S17 (c _k : Nat) : Bool := Nat.beq c 17
theorem SY_17 {c k : Nat} (h : SY c k = false) : S17 c k = false := by
  have := SY_o h
  exact nbeq_f (by omega)
set_option maxRecDepth 100000 in
set_option maxHeartbeats 4000000 in
theorem syl_q {W : Nat → Bool} {m q r : Nat} {hb : xh_H} (A : LA W m q r hb) (m12 : m ≤ 12) {Q : Option Value → xh_H → Prop} (K : ∀ (f : Nat) (h : xh_H), a_rq a_tb h → fx S17 fN hb h → (∀ a', a' < m → xg 0 h.2.1 17 a' = nI (cnt (tw W a') (2 ^ m))) → xq f xi_X2_study xmi_X2_study 87 [] [.ref 14] h Q) : ∀ (n f a : Nat) (h : xh_H), a + n = m → a_rq a_tb h → fx S17 fN hb h → (∀ a', a' < a → xg 0 h.2.1 17 a' = nI (cnt (tw W a') (2 ^ m))) → xq f xi_X2_study xmi_X2_study 61 [(0, .ref 14), (3, .int (nI a))] [] h Q := by
  intro n
  induction n with
  | zero =>
    intro f a h hn hq ge w
    have e : a = m := by omega
    subst e
    have A' := LA_f A ge rfl rfl
    refine xq_n 87 [] [] [.ref 14] h [true] 60 hq rfl ⟨(show xe_c .ge (nI a) (xg 0 h.2.1 14 7) = true by rw [A'.2.2.2.2.1]; exact nge_t (by omega) (by omega) (Nat.le_refl _)), trivial⟩ (fun _ => ?_)
    exact K f h hq ge w
  | succ n ih =>
    intro f a h hn hq ge w
    have A' := LA_f A ge rfl rfl
    refine xq_n 76 [0, 3] [(0, .ref 14), (3, .int (nI a))] [.int (nI a), .ref 14, .int (nI a), .ref 17] h [false] 60 hq rfl ⟨(show xe_c .ge (nI a) (xg 0 h.2.1 14 7) = false by rw [A'.2.2.2.2.1]; exact nge_f (by omega) (by omega) (by omega)), trivial⟩ (fun _ => ?_)
    refine xq_run hq rfl rfl (csw_q A' m12 (show a < m by omega) hq) ?_
    rintro v h1 ⟨rfl, rfl⟩
    refine xq_n 61 [0, 3] [(0, .ref 14), (3, .int (nI a + Int32.ofInt 1))] [] (xh_ui h 17 (nI a).toNatClampNeg (nI (cnt (tw W a) (2 ^ m)))) [] 60 hq rfl trivial (fun _ => ?_)
    rw [nI_1', show (nI a).toNatClampNeg = a from nI_clamp (by omega)]
    refine ih f (a + 1) _ (by omega) (a_rq_ui hq) (fx_ui ge rfl) (fun a' ha' => ?_)
    by_cases z : a' = a
    · rw [z, gx_s]
    · exact (gx_k (by omega)).trans (w a' (by omega))
set_option maxRecDepth 100000 in
set_option maxHeartbeats 4000000 in
/-- Powers.study -/
theorem stu_q {f : Nat} {W : Nat → Bool} {m q r l : Nat} {h : xh_H} (hi : a_inv a_tb h) (hn : 72 ≤ h.1.length) (hl : xg none h.2.2.2 14 6 = some l) (hq2 : a_r h.1.length 11 q) (hs : h.1[q]? = some (0, 7)) (hg : xg none h.2.2.2 q 1 = some r) (hr : h.1[r]? = some (4, 64)) (m1 : 1 ≤ m) (m12 : m ≤ 12) (hW : ∀ s, s < 2 ^ m → hv h r s = W s) (hP : l = q → xg 0 h.2.1 14 7 = nI m → xg 0 h.2.1 14 8 = nI (2 ^ m - 1) ∧ PD W m h) : xq f xi_X2_study xmi_X2_study 0 [(0, .ref 14), (1, .ref q), (2, .int (nI m))] [] h (fun v h' => v = none ∧ LA W m q r h' ∧ PD W m h' ∧ Yf h h') := by
  have hq := a_rq_of hi.1 hn
  have p12 : 2 ^ m ≤ 4096 := show 2 ^ m ≤ 2 ^ 12 from Nat.pow_le_pow_right (by decide) m12
  have hs14 : h.1[14]? = some (0, 2) := hq.2.1 14 _ rfl
  have q14 : q ≠ 14 := fun e => by rw [e, hs14] at hs; cases hs
  obtain ⟨l', l1, l2⟩ : ∃ l, xg none h.2.2.2 14 6 = some l ∧ a_r h.1.length 11 l := (hi.1 14 _ hs14).2 6 (by decide)
  rw [hl] at l1
  cases l1
  refine xq_n 3 [0, 1, 2] [(0, .ref 14), (1, .ref q), (2, .int (nI m))] [.int (nI m), .ref q, .ref 14] h [] 60 hq rfl trivial (fun _ => ?_)
  refine xq_run hq rfl rfl (xq_of (d := 0) ⟨_, rfl⟩ (io_run (d := 0) hi.1 hn hl l2.1 hq2.1 m12)) ?_
  rintro v h1 ⟨rfl, p, rfl, hp⟩
  have ur : ∀ c k, (c ≠ 14 ∨ k ≠ 6) → xg none (xh_ur h 14 6 (some q)).2.2.2 c k = xg none h.2.2.2 c k := fun c k z => by
    by_cases y : c = 14
    · subst y; exact xh_up_k (by omega)
    · exact congrFun (xh_up_o y) k
  cases p with
  | true =>
    obtain ⟨rfl, e7⟩ := hp.mp rfl
    obtain ⟨e8, PP⟩ := hP rfl e7
    refine xq_n 9 [] [] [] h [false] 60 hq rfl ⟨rfl, trivial⟩ (fun _ => ?_)
    refine xq_ret rfl rfl rfl ⟨rfl, ⟨hl, hs, hg, hr, e7, e8, hW⟩, PP, rfl, fun _ _ _ => rfl, fun _ _ => rfl, fun _ _ _ => rfl⟩
  | false =>
    refine xq_n 12 [0, 1, 2] [(0, .ref 14), (1, .ref q), (2, .int (nI m))] [.ref q, .ref 14] h [true] 60 hq rfl ⟨rfl, trivial⟩ (fun _ => ?_)
    refine xq_st rfl rfl (fun _ _ => xe_pr hs14 rfl) ?_
    have hi1 : a_inv a_tb (xh_ur h 14 6 (some q)) := a_inv_ur (e := (2, 11, 0)) hi hs14 (by rw [a_tg_lt (by decide)]; rfl) (Or.inl rfl) hq2
    have q1 : a_rq a_tb (xh_ur h 14 6 (some q)) := a_rq_of hi1.1 hn
    have ef : ((Int32.ofInt 1) <<< ((nI m) &&& 31)) - (Int32.ofInt 1) = nI (2 ^ m - 1) := by
      rw [sh1 m (by omega)]
      exact nI_sub (b := 1) (Nat.two_pow_pos m)
    refine xq_n 29 [0, 1, 2] [(0, .ref 14), (1, .ref q), (2, .int (nI m))] [] (xh_ui (xh_ui (xh_ur h 14 6 (some q)) 14 7 (nI m)) 14 8 (((Int32.ofInt 1) <<< ((nI m) &&& 31)) - (Int32.ofInt 1))) [] 60 q1 rfl trivial (fun _ => ?_)
    rw [ef]
    generalize hh : xh_ur h 14 6 (some q) = h0 at q1 ur
    have q3 : a_rq a_tb (xh_ui (xh_ui h0 14 7 (nI m)) 14 8 (nI (2 ^ m - 1))) := a_rq_ui (a_rq_ui q1)
    have g3 : fx SY fN h0 (xh_ui (xh_ui h0 14 7 (nI m)) 14 8 (nI (2 ^ m - 1))) := fx_ui (fx_ui fx_0 rfl) rfl
    have A3 : LA W m q r (xh_ui (xh_ui h0 14 7 (nI m)) 14 8 (nI (2 ^ m - 1))) := by
      refine ⟨?_, ?_, ?_, ?_, by rw [gx_k (by decide), gx_s], gx_s, fun s hs' => ?_⟩
      · show xg none h0.2.2.2 14 6 = some q
        rw [← hh]; exact xh_up_s
      · show h0.1[q]? = _
        rw [← hh]; exact hs
      · exact (ur q 1 (Or.inl q14)).trans hg
      · show h0.1[r]? = _
        rw [← hh]; exact hr
      · have e : ∀ k, xg 0 (xh_ui (xh_ui h0 14 7 (nI m)) 14 8 (nI (2 ^ m - 1))).2.2.1 r k = xg 0 h.2.2.1 r k := fun k => by
          show xg 0 h0.2.2.1 r k = _
          rw [← hh]; rfl
        exact (hv_ee e).trans (hW s hs')
    generalize xh_ui (xh_ui h0 14 7 (nI m)) 14 8 (nI (2 ^ m - 1)) = h3 at q3 g3 A3
    refine xq_n 36 [0] [(0, .ref 14)] [.int (Int32.ofInt 0), .ref 15, .ref 14, .ref 14] h3 [] 60 q3 rfl trivial (fun _ => ?_)
    refine xq_run q3 rfl rfl (lz15_q (hd := false) A3 m12 q3) ?_
    rintro v h4 ⟨rfl, g4, w15⟩
    have q4 := fx_q g4 q3
    have A4 := LA_f A3 g4 rfl rfl
    have cl : ∀ hd, cnt (mi W m hd) (2 ^ m) < 2 ^ 31 := fun hd => Nat.lt_of_le_of_lt (cnt_le _) (by omega)
    rw [mn_e (cl false)]
    refine xq_n 49 [0] [(0, .ref 14)] [.int (Int32.ofInt 1), .ref 16, .ref 14, .ref 14] (xh_ui h4 14 9 (nI (lcn (mi W m false) (2 ^ m)))) [] 60 q4 rfl trivial (fun _ => ?_)
    have q5 : a_rq a_tb (xh_ui h4 14 9 (nI (lcn (mi W m false) (2 ^ m)))) := a_rq_ui q4
    have g5 : fx SY fN h0 (xh_ui h4 14 9 (nI (lcn (mi W m false) (2 ^ m)))) := fx_ui (SY_w (fun _ _ => SY_15) g3 g4) rfl
    have A5 : LA W m q r (xh_ui h4 14 9 (nI (lcn (mi W m false) (2 ^ m)))) := LA_f (S := fun c k => Nat.beq c 14 && Nat.beq k 9) A4 (fx_ui fx_0 rfl) rfl rfl
    have e9 : xg 0 (xh_ui h4 14 9 (nI (lcn (mi W m false) (2 ^ m)))).2.1 14 9 = nI (lcn (mi W m false) (2 ^ m)) := gx_s
    have w15 : rwQ (mi W m false) (2 ^ m) 15 (xh_ui h4 14 9 (nI (lcn (mi W m false) (2 ^ m)))) := fun t h1 h2 h3 => (gx_o (by decide)).trans (w15 t h1 h2 h3)
    generalize xh_ui h4 14 9 (nI (lcn (mi W m false) (2 ^ m))) = h5 at q5 g5 A5 e9 w15
    refine xq_run q5 rfl rfl (lz16_q (hd := true) A5 m12 q5) ?_
    rintro v h6 ⟨rfl, g6, w16⟩
    have q6 := fx_q g6 q5
    have A6 := LA_f A5 g6 rfl rfl
    rw [mn_e (cl true)]
    refine xq_n 56 [0] [(0, .ref 14)] [.ref 14] (xh_ui h6 14 10 (nI (lcn (mi W m true) (2 ^ m)))) [] 60 q6 rfl trivial (fun _ => ?_)
    have q7 : a_rq a_tb (xh_ui h6 14 10 (nI (lcn (mi W m true) (2 ^ m)))) := a_rq_ui q6
    have g7 : fx SY fN h0 (xh_ui h6 14 10 (nI (lcn (mi W m true) (2 ^ m)))) := fx_ui (SY_w (fun _ _ => SY_16) g5 g6) rfl
    have A7 : LA W m q r (xh_ui h6 14 10 (nI (lcn (mi W m true) (2 ^ m)))) := LA_f (S := fun c k => Nat.beq c 14 && Nat.beq k 10) A6 (fx_ui fx_0 rfl) rfl rfl
    have e9 : xg 0 (xh_ui h6 14 10 (nI (lcn (mi W m true) (2 ^ m)))).2.1 14 9 = nI (lcn (mi W m false) (2 ^ m)) := (gx_k (by decide)).trans ((fx_i g6 rfl).trans e9)
    have e10 : xg 0 (xh_ui h6 14 10 (nI (lcn (mi W m true) (2 ^ m)))).2.1 14 10 = nI (lcn (mi W m true) (2 ^ m)) := gx_s
    have w15 : rwQ (mi W m false) (2 ^ m) 15 (xh_ui h6 14 10 (nI (lcn (mi W m true) (2 ^ m)))) := fun t h1 h2 h3 => (gx_o (by decide)).trans ((fx_i g6 rfl).trans (w15 t h1 h2 h3))
    have w16 : rwQ (mi W m true) (2 ^ m) 16 (xh_ui h6 14 10 (nI (lcn (mi W m true) (2 ^ m)))) := fun t h1 h2 h3 => (gx_o (by decide)).trans (w16 t h1 h2 h3)
    generalize xh_ui h6 14 10 (nI (lcn (mi W m true) (2 ^ m))) = h7 at q7 g7 A7 e9 e10 w15 w16
    refine xq_run q7 rfl rfl (mkn_q (L := lcn (mi W m false) (2 ^ m)) (Nat.min_le_right _ _) e9 q7) ?_
    rintro v h8 ⟨rfl, g8, w11, w12⟩
    have q8 := fx_q g8 q7
    have A8 := LA_f A7 g8 rfl rfl
    refine xq_n 61 [0, 3] [(0, .ref 14), (3, .int (Int32.ofInt 0))] [] h8 [] 60 q8 rfl trivial (fun _ => ?_)
    refine syl_q A8 m12 (fun f h9 q9 g9 w17 => ?_) m f 0 h8 (by omega) q8 fx_0 (fun a' ha' => absurd ha' (Nat.not_lt_zero a'))
    have A9 := LA_f A8 g9 rfl rfl
    refine xq_run q9 rfl rfl (cal_q A9 m12 q9) ?_
    rintro v h10 ⟨rfl, g10, w19⟩
    have k8 : ∀ c k, SM c k = false → S17 c k = false → S19 c k = false → xg 0 h10.2.1 c k = xg 0 h7.2.1 c k := fun c k z1 z2 z3 => (fx_i g10 z3).trans ((fx_i g9 z2).trans (fx_i g8 z1))
    have e15 : (fun k => xg 0 h10.2.1 15 k) = fun k => xg 0 h7.2.1 15 k := funext (fun k => k8 15 k rfl rfl rfl)
    have gg : fx SY fN h0 h10 := SY_w (fun _ _ => SY_19) (SY_w (fun _ _ => SY_17) (SY_w (fun _ _ => SY_M) g7 g8) g9) g10
    refine xq_ret rfl rfl rfl ⟨rfl, LA_f A9 g10 rfl rfl, ⟨fun a ha => (fx_i g10 rfl).trans (w17 a ha), w19, ⟨(k8 14 9 rfl rfl rfl).trans e9, fun t h1 h2 h3 => (k8 15 _ rfl rfl rfl).trans (w15 t h1 h2 h3)⟩, ⟨(k8 14 10 rfl rfl rfl).trans e10, fun t h1 h2 h3 => (k8 16 _ rfl rfl rfl).trans (w16 t h1 h2 h3)⟩, ?_, ?_⟩, gg.1.trans (by rw [← hh]; rfl), fun c k z => (fx_i gg z).trans (by rw [← hh]; rfl), fun c k => (gg.2.2.2 c k rfl).trans (by rw [← hh]; rfl), fun c k z => by rw [gg.2.1]; exact ur c k z⟩
    · rw [e15, ← A7.2.2.2.2.2.1, ← w11]; exact (fx_i g10 rfl).trans (fx_i g9 rfl)
    · rw [e15, ← A7.2.2.2.2.2.1, ← w12]; exact (fx_i g10 rfl).trans (fx_i g9 rfl)
end XPS
end
section
section XPT
/-- the same, if it carries the same -/
theorem tw_c {W W' : Nat → Bool} {m a s : Nat} (e : ∀ s, s < 2 ^ m → W s = W' s) (ha : a < m) (hs : s < 2 ^ m) : tw W a s = tw W' a s := by
  unfold tw
  rw [e s hs, e _ (or_p hs ha)]
theorem tg_c {W W' : Nat → Bool} {m a b s : Nat} (e : ∀ s, s < 2 ^ m → W s = W' s) (ha : a < m) (hb : b < m) (hs : s < 2 ^ m) : tg W a b s = tg W' a b s := by
  unfold tg
  rw [e _ (or_p (or_p hs ha) hb), e _ (or_p hs ha), e _ (or_p hs hb)]
theorem gp_c {W W' : Nat → Bool} {m a b s : Nat} (e : ∀ s, s < 2 ^ m → W s = W' s) (ha : a < m) (hb : b < m) (hs : s < 2 ^ m) : gp W a b s = gp W' a b s := by
  unfold gp
  rw [e _ (or_p hs ha), e _ (or_p hs hb)]
theorem dz_c {W W' : Nat → Bool} {m s : Nat} {hd : Bool} (e : ∀ s, s < 2 ^ m → W s = W' s) (hs : s < 2 ^ m) : dz W m hd s = dz W' m hd s := by
  unfold dz
  rw [e s hs, e _ co_lt]
theorem mi_c {W W' : Nat → Bool} {m s : Nat} {hd : Bool} (e : ∀ s, s < 2 ^ m → W s = W' s) (hs : s < 2 ^ m) : mi W m hd s = mi W' m hd s := by
  unfold mi
  rw [dz_c e hs]
  congr 1
  exact aln_c m (fun a _ => by rw [dz_c e (rmb_lt hs)])
theorem qk_c {P P' : Nat → Bool} {k t : Nat} (e : P t = P' t) : qk P k t = qk P' k t := by unfold qk; rw [e]
theorem cum_c {P P' : Nat → Bool} {N : Nat} (e : ∀ s, s < N → P s = P' s) : ∀ j, cum P N j = cum P' N j := by
  intro j
  induction j with
  | zero => rfl
  | succ j ih =>
    show cum P N j + cnt (qk P j) N = cum P' N j + cnt (qk P' j) N
    rw [ih, cnt_c N (fun k hk' => qk_c (e k hk'))]
theorem rk_c {P P' : Nat → Bool} {N t : Nat} (e : ∀ s, s < N → P s = P' s) (ht : t < N) : rk P N t = rk P' N t := by
  unfold rk
  rw [cum_c e, cnt_c t (fun k hk' => qk_c (e k (by omega)))]
theorem lcn_c {P P' : Nat → Bool} {N : Nat} (e : ∀ s, s < N → P s = P' s) : lcn P N = lcn P' N := by unfold lcn; rw [cnt_c N e]
theorem rwQ_c {P P' : Nat → Bool} {N c : Nat} {h : xh_H} (e : ∀ s, s < N → P s = P' s) (R : rwQ P N c h) : rwQ P' N c h := fun t h1 h2 h3 => by
  rw [← rk_c e h1] at h3 ⊢
  exact R t h1 ((e t h1).trans h2) h3
theorem PD_W {W W' : Nat → Bool} {m : Nat} {h : xh_H} (e : ∀ s, s < 2 ^ m → W s = W' s) (P : PD W m h) : PD W' m h := by
  obtain ⟨p1, p2, ⟨p3, p4⟩, ⟨p5, p6⟩, p7, p8⟩ := P
  have l0 : ∀ hd, lcn (mi W m hd) (2 ^ m) = lcn (mi W' m hd) (2 ^ m) := fun hd => lcn_c (fun s hs => mi_c e hs)
  rw [l0] at p3 p5 p7 p8
  refine ⟨fun a ha => ?_, fun a ha => ?_, ⟨p3, rwQ_c (fun s hs => mi_c e hs) p4⟩, ⟨p5, rwQ_c (fun s hs => mi_c e hs) p6⟩, p7, p8⟩
  · rw [← cnt_c (2 ^ m) (fun s hs => tw_c e ha hs)]; exact p1 a ha
  · rw [p2 a ha, msk_c m (fun b hb => aln_c (2 ^ m) (fun s hs => gp_c e ha hb hs))]
theorem Yf_q {h h' : xh_H} (hi : a_inv a_tb h) (hn : 72 ≤ h.1.length) (Y : Yf h h') : a_rq a_tb h' := by
  have hq := a_rq_of hi.1 hn
  refine ⟨by rw [Y.1]; exact hq.1, fun c s hs => by rw [Y.1]; exact hq.2.1 c s hs, fun c k ci t h1 h2 => ?_⟩
  by_cases z : c = 14 ∧ k = 6
  · obtain ⟨rfl, rfl⟩ := z
    cases h1
    cases h2
  · rw [Y.2.2.2 c k (by omega)]; exact hq.2.2 c k ci t h1 h2
/-- what a statute carries with m members -/
def lw (h : xh_H) (q m s : Nat) : Bool := if q = 11 then decide (s = 2 ^ m - 1) else hv h ((xg none h.2.2.2 q 1).getD 0) s
/-- Powers fits its statute and its members -/
def PI (h : xh_H) : Prop := (∀ q, xg none h.2.2.2 14 6 = some q → q ≠ 11 → ∃ r, xg none h.2.2.2 q 1 = some r ∧ r ≠ 12) ∧ ∀ q m, xg none h.2.2.2 14 6 = some q → xg 0 h.2.1 14 7 = nI m → 1 ≤ m → m ≤ 12 → PD (lw h q m) m h
theorem PI_s {h h' : xh_H} (i : a_inv a_tb h) (l : 72 ≤ h.1.length) (F3 : ∀ c k, h.1[c]? = some (4, 64) → c ≠ 12 → xg 0 h'.2.2.1 c k = xg 0 h.2.2.1 c k) (F5 : ∀ c k, h.1[c]? = some (0, 7) → xg none h'.2.2.2 c k = xg none h.2.2.2 c k) (e6 : xg none h'.2.2.2 14 6 = xg none h.2.2.2 14 6) (e : ∀ c k, (c = 14 ∧ (k = 7 ∨ (9 ≤ k ∧ k ≤ 12))) ∨ c = 15 ∨ c = 16 ∨ c = 17 ∨ c = 19 → xg 0 h'.2.1 c k = xg 0 h.2.1 c k) (P : PI h) : PI h' := by
  have hq := a_rq_of i.1 l
  obtain ⟨q', e', rq⟩ : a_e h 14 6 (2, 11, 0) := ((i.1 14 (0, 2) (hq.2.1 14 (0, 2) rfl)).2 6 (by decide))
  obtain ⟨s1, r, s2, s3⟩ := law_sh i.1 rq
  refine ⟨fun q h1 z => ?_, fun q m h1 h2 m1 m12 => ?_⟩
  · rw [e6, e'] at h1
    cases h1
    rw [F5 _ 1 s1]
    exact P.1 _ e' z
  rw [e6, e'] at h1
  cases h1
  rw [e 14 7 (by omega)] at h2
  have p := PD_c (h' := h') (fun c k z => e c k (by omega)) (P.2 q' m e' h2 m1 m12)
  refine PD_W (fun s hs => ?_) p
  unfold lw
  by_cases z : q' = 11
  · rw [if_pos z, if_pos z]
  · obtain ⟨r', y1, y2⟩ := P.1 q' e' z
    rw [s2] at y1
    cases y1
    rw [if_neg z, if_neg z, F5 q' 1 s1, s2]
    exact (hv_ee (fun k => F3 r k s3 y2)).symm
theorem PI_of {W : Nat → Bool} {m q r : Nat} {h : xh_H} (A : LA W m q r h) (P : PD W m h) (m1 : 1 ≤ m) (m12 : m ≤ 12) (r12 : q ≠ 11 → r ≠ 12) (u : q = 11 → ∀ s, s < 2 ^ m → W s = decide (s = 2 ^ m - 1)) : PI h := by
  refine ⟨fun q' h1 z => ?_, fun q' m' h1 h2 _ m12' => ?_⟩
  · rw [A.1] at h1
    cases h1
    exact ⟨r, A.2.2.1, r12 z⟩
  rw [A.1] at h1
  cases h1
  rw [A.2.2.2.2.1] at h2
  have := congrArg Int32.toInt h2
  rw [nI_toInt (by omega), nI_toInt (by omega)] at this
  have e : m' = m := by omega
  subst e
  refine PD_W (fun s hs => ?_) P
  unfold lw
  by_cases z : q = 11
  · rw [if_pos z]; exact u z s hs
  · rw [if_neg z, A.2.2.1]
    exact (A.2.2.2.2.2.2 s hs).symm
/-- the cells of Powers are not among these -/
def pwM (md : List (Nat × Nat)) : Bool := !a_mb md 14 7 && (!a_mb md 14 9 && (!a_mb md 14 10 && (!a_mb md 14 11 && (!a_mb md 14 12 && (!a_mb md 15 0 && (!a_mb md 16 0 && (!a_mb md 17 0 && !a_mb md 19 0)))))))
theorem pw_e {md : List (Nat × Nat)} {h h' : xh_H} (f : a_fr md h h') (m : pwM md = true) : ∀ c k, (c = 14 ∧ (k = 7 ∨ (9 ≤ k ∧ k ≤ 12))) ∨ c = 15 ∨ c = 16 ∨ c = 17 ∨ c = 19 → xg 0 h'.2.1 c k = xg 0 h.2.1 c k := by
  unfold pwM at m
  simp only [Bool.and_eq_true, Bool.not_eq_true'] at m
  obtain ⟨m1, m2, m3, m4, m5, m6, m7, m8, m9⟩ := m
  intro c k z
  rcases z with ⟨rfl, z⟩ | rfl | rfl | rfl | rfl
  · have : k = 7 ∨ k = 9 ∨ k = 10 ∨ k = 11 ∨ k = 12 := by omega
    rcases this with rfl | rfl | rfl | rfl | rfl
    · exact fr_g f rfl m1
    · exact fr_g f rfl m2
    · exact fr_g f rfl m3
    · exact fr_g f rfl m4
    · exact fr_g f rfl m5
  · exact fr_g f rfl m6
  · exact fr_g f rfl m7
  · exact fr_g f rfl m8
  · exact fr_g f rfl m9
theorem PI_t {md : List (Nat × Nat)} {h h' : xh_H} (i : a_inv a_tb h) (l : 72 ≤ h.1.length) (F : Fs 8 h h') (Z : Qz h h') (f : a_fr md h h') (m : pwM md = true) (P : PI h) : PI h' := PI_s i l (fun c k e _ => F.2.2.1 c k e) F.2.2.2.2.1 (Z.2 14 6 (by rw [(a_rq_of i.1 l).2.1 14 _ rfl]; decide)) (pw_e f m) P
theorem PI_2 {md1 md2 : List (Nat × Nat)} {h h1 h2 : xh_H} (i : a_inv a_tb h) (l : 72 ≤ h.1.length) (i1 : a_inv a_tb h1) (l1 : 72 ≤ h1.1.length) (F1 : Fz h h1) (Z1 : Qz h h1) (f1 : a_fr md1 h h1) (m1 : pwM md1 = true) (F2 : Fz h1 h2) (Z2 : Qz h1 h2) (f2 : a_fr md2 h1 h2) (m2 : pwM md2 = true) (P : PI h) : PI h2 := PI_t i1 l1 (Fs_z (a_rq_of i1.1 l1) F2) Z2 f2 m2 (PI_t i l (Fs_z (a_rq_of i.1 l) F1) Z1 f1 m1 P)
/-- behind a new statute -/
theorem PI_c {md : List (Nat × Nat)} {sc : Nat} {h h' : xh_H} (i : a_inv a_tb h) (l : 72 ≤ h.1.length) (c : cst h h' sc) (f : a_fr md h h') (m : pwM md = true) (P : PI h) : PI h' := by
  have F := Fs_c (a_rq_of i.1 l) c
  exact PI_s i l (fun c k e _ => F.2.2.1 c k e) F.2.2.2.2.1 (c.2.1 14 6 (by omega) (fun z => absurd z (by decide))) (pw_e f m) P
/-- behind members -/
theorem PI_m {b : Bool} {R : Prop} {h h' : xh_H} (i : a_inv a_tb h) (l : 72 ≤ h.1.length) (q : (b = false → h' = h) ∧ (b = true → fx m09 (Lr 12) h h' ∧ R)) (P : PI h) : PI h' := by
  cases b with
  | false => rw [q.1 rfl]; exact P
  | true =>
    obtain ⟨g, -⟩ := q.2 rfl
    refine PI_s i l (fun c k _ z => g.2.2.2 c k ?_) (fun c k _ => by rw [g.2.1]) (by rw [g.2.1]) (fun c k z => fx_i g ?_) P
    · exact nbeq_f z
    · unfold m09
      rw [nbeq_f (by omega)]
      rfl
set_option maxRecDepth 100000 in
set_option maxHeartbeats 4000000 in
/-- X9.powersToday -/
theorem pt9_q {f mem sc : Nat} {d : Int32} {h : xh_H} (hi : a_inv a_tb h) (hn : 72 ≤ h.1.length) (e9 : xg 0 h.2.1 0 9 = nI mem) (m1 : 1 ≤ mem) (m12 : mem ≤ 12) (e8 : xg 0 h.2.1 0 8 = nI sc) (sc8 : sc ≤ 8) (e10 : xg 0 h.2.1 0 10 = d) (si : SI h) (pi : PI h) : xq f xi_X9_powersToday xmi_X9_powersToday 0 [(0, .ref 0)] [] h (fun v h' => v = some (.ref 14) ∧ Yf h h' ∧ PI h' ∧ ∃ q r, LA (cvB (fun k => xg 0 h.2.1 51 k) (fun k => xg 0 h.2.1 44 k) mem sc d) mem q r h' ∧ PD (cvB (fun k => xg 0 h.2.1 51 k) (fun k => xg 0 h.2.1 44 k) mem sc d) mem h') := by
  have hq := a_rq_of hi.1 hn
  have p12 : 2 ^ mem ≤ 4096 := show 2 ^ mem ≤ 2 ^ 12 from Nat.pow_le_pow_right (by decide) m12
  obtain ⟨⟨u1, u2, u3⟩, si⟩ := si
  obtain ⟨SS, un⟩ := si mem sc e9 m12 e8 sc8
  refine xq_n 9 [0] [(0, .ref 0)] [.int (xg 0 h.2.1 0 10), .ref 0, .ref 14] h [] 60 hq rfl trivial (fun _ => ?_)
  rw [e10]
  refine xq_run hq rfl rfl (if9_q hi e8 sc8 u1 u2 SS hq) ?_
  rintro v h1 ⟨rfl, Q, rfl, fd⟩
  refine xq_n 16 [0] [(0, .ref 0)] [.int (xg 0 h.2.1 0 9), .ref Q, .ref 14] h [] 60 hq rfl trivial (fun _ => ?_)
  rw [e9]
  obtain ⟨l, hl, l2⟩ : a_e h 14 6 (2, 11, 0) := ((hi.1 14 (0, 2) (hq.2.1 14 (0, 2) rfl)).2 6 (by decide))
  obtain ⟨r, g1, g2, -⟩ := hv_cv hi m12 SS un u3 hq (s := 0) (Nat.two_pow_pos mem) fd
  have hW : ∀ s, s < 2 ^ mem → hv h r s = cvB (fun k => xg 0 h.2.1 51 k) (fun k => xg 0 h.2.1 44 k) mem sc d s := fun s hs => by
    obtain ⟨r', g1', -, g3⟩ := hv_cv hi m12 SS un u3 hq hs fd
    rw [g1] at g1'
    cases g1'
    exact g3
  have hu : Q = 11 → ∀ s, s < 2 ^ mem → cvB (fun k => xg 0 h.2.1 51 k) (fun k => xg 0 h.2.1 44 k) mem sc d s = decide (s = 2 ^ mem - 1) := fun z s hs => by
    rw [z, u3] at g1
    cases g1
    rw [← hW s hs]
    exact un s (by omega)
  have r12 : Q ≠ 11 → r ≠ 12 := fun z => by
    rcases fd with ⟨f0, ⟨f1, f2, f3⟩ | ⟨j, f1, f2, f3⟩⟩
    · exact absurd f2 z
    · obtain ⟨q, q72, qe, ql, q1, q2, -⟩ := SS j (iF_lt f1)
      rw [q1] at f2
      obtain rfl : q = Q := Option.some.inj f2
      rw [g1] at q2
      have := Option.some.inj q2
      omega
  have rQ : a_r h.1.length 11 Q := by
    rcases fd with ⟨f0, ⟨f1, f2, f3⟩ | ⟨j, f1, f2, f3⟩⟩
    · rw [f2]; exact ⟨by omega, rfl⟩
    · obtain ⟨q, q72, qe, ql, q1, -⟩ := SS j (iF_lt f1)
      rw [q1] at f2
      obtain rfl : q = Q := Option.some.inj f2
      refine ⟨by omega, ?_⟩
      unfold a_tg
      rw [show Nat.blt q 72 = false by cases y : Nat.blt q 72 with | false => rfl | true => (have := Nat.le_of_ble_eq_true y; omega), qe]
      rfl
  refine xq_run hq rfl rfl (stu_q (r := r) hi hn hl rQ fd.1 g1 g2 m1 m12 hW (fun e e7 => ?_)) ?_
  · subst e
    have J := hi.2.1
    rw [e7, nI_toInt (by omega)] at J
    refine ⟨Int32.toInt_inj.mp ?_, PD_W (fun s hs => ?_) (pi.2 l mem hl e7 m1 m12)⟩
    · have := Nat.two_pow_pos mem
      rw [J, nI_toInt (by omega)]
      show ((2 ^ (mem : Int).toNat : Nat) : Int) - 1 = _
      rw [Int.toNat_natCast]
      omega
    · unfold lw
      by_cases z : l = 11
      · rw [if_pos z]; exact (hu z s hs).symm
      · rw [if_neg z, g1]; exact hW s hs
  · rintro v h2 ⟨rfl, A, P, Y⟩
    have hq2 : a_rq a_tb h2 := Yf_q hi hn Y
    refine xq_n 23 [] [] [.ref 14] h2 [] 60 hq2 rfl trivial (fun _ => ?_)
    exact xq_ret rfl rfl rfl ⟨rfl, Y, PI_of A P m1 m12 r12 hu, Q, r, A, P⟩
set_option maxRecDepth 100000 in
set_option maxHeartbeats 4000000 in
theorem tu9_q {f mem sc : Nat} {x d : Int32} {h : xh_H} (hi : a_inv a_tb h) (hn : 72 ≤ h.1.length) (e9 : xg 0 h.2.1 0 9 = nI mem) (m1 : 1 ≤ mem) (m12 : mem ≤ 12) (e8 : xg 0 h.2.1 0 8 = nI sc) (sc8 : sc ≤ 8) (e10 : xg 0 h.2.1 0 10 = d) (si : SI h) (pi : PI h) : xq f xi_X9_turns xmi_X9_turns 0 [(0, .ref 0), (1, .int x)] [] h (fun v h' => v = some (.int (tuA (cvB (fun k => xg 0 h.2.1 51 k) (fun k => xg 0 h.2.1 44 k) mem sc d) mem x)) ∧ PI h') := by
  have hq := a_rq_of hi.1 hn
  refine xq_n 2 [0, 1] [(0, .ref 0), (1, .int x)] [.int x, .ref 0] h [] 60 hq rfl trivial (fun _ => ?_)
  refine xq_run hq rfl rfl (mem9_q (z := nI mem) e9 hq) ?_
  rintro v h1 ⟨rfl, rfl⟩
  unfold tuA isM
  cases c1 : (!xe_c .lt x 0 && !xe_c .ge x (nI mem)) with
  | false =>
    refine xq_n 21 [] [] [.int (Int32.ofInt (-1))] h [true] 60 hq rfl ⟨rfl, trivial⟩ (fun _ => ?_)
    exact xq_ret rfl rfl rfl ⟨rfl, pi⟩
  | true =>
    obtain ⟨a, rfl, al, ea⟩ := mb_n m12 c1
    rw [ea]
    refine xq_n 9 [1] [(1, .int (nI a))] [.ref 0] h [false] 60 hq rfl ⟨rfl, trivial⟩ (fun _ => ?_)
    refine xq_run hq rfl rfl (pt9_q hi hn e9 m1 m12 e8 sc8 e10 si pi) ?_
    rintro v h1 ⟨rfl, Y, PP, q, r, A, P⟩
    have hq1 := Yf_q hi hn Y
    refine xq_n 21 [] [] [.int (xg 0 h1.2.1 17 (nI a).toNatClampNeg)] h1 [] 60 hq1 rfl trivial (fun _ => ?_)
    exact xq_ret rfl rfl rfl ⟨by rw [nI_clamp (by omega), P.1 a al]; rfl, PP⟩
set_option maxRecDepth 100000 in
set_option maxHeartbeats 4000000 in
theorem al9_q {f mem sc : Nat} {x d : Int32} {h : xh_H} (hi : a_inv a_tb h) (hn : 72 ≤ h.1.length) (e9 : xg 0 h.2.1 0 9 = nI mem) (m1 : 1 ≤ mem) (m12 : mem ≤ 12) (e8 : xg 0 h.2.1 0 8 = nI sc) (sc8 : sc ≤ 8) (e10 : xg 0 h.2.1 0 10 = d) (si : SI h) (pi : PI h) : xq f xi_X9_ally xmi_X9_ally 0 [(0, .ref 0), (1, .int x)] [] h (fun v h' => v = some (.int (alA (cvB (fun k => xg 0 h.2.1 51 k) (fun k => xg 0 h.2.1 44 k) mem sc d) mem x)) ∧ PI h') := by
  have hq := a_rq_of hi.1 hn
  refine xq_n 2 [0, 1] [(0, .ref 0), (1, .int x)] [.int x, .ref 0] h [] 60 hq rfl trivial (fun _ => ?_)
  refine xq_run hq rfl rfl (mem9_q (z := nI mem) e9 hq) ?_
  rintro v h1 ⟨rfl, rfl⟩
  unfold alA isM
  cases c1 : (!xe_c .lt x 0 && !xe_c .ge x (nI mem)) with
  | false =>
    refine xq_n 20 [] [] [.int (Int32.ofInt (-1))] h [true] 60 hq rfl ⟨rfl, trivial⟩ (fun _ => ?_)
    exact xq_ret rfl rfl rfl ⟨rfl, pi⟩
  | true =>
    obtain ⟨a, rfl, al, ea⟩ := mb_n m12 c1
    rw [ea]
    refine xq_n 9 [1] [(1, .int (nI a))] [.ref 0] h [false] 60 hq rfl ⟨rfl, trivial⟩ (fun _ => ?_)
    refine xq_run hq rfl rfl (pt9_q hi hn e9 m1 m12 e8 sc8 e10 si pi) ?_
    rintro v h1 ⟨rfl, Y, PP, q, r, A, P⟩
    have hq1 := Yf_q hi hn Y
    refine xq_n 13 [] [] [.int (nI a), .ref 14] h1 [] 60 hq1 rfl trivial (fun _ => ?_)
    refine xq_run hq1 rfl rfl (alo_q A m12 al hq1) ?_
    rintro v h2 ⟨rfl, rfl⟩
    refine xq_n 20 [] [] [.int (alf (fun b => cnt (tg (cvB (fun k => xg 0 h.2.1 51 k) (fun k => xg 0 h.2.1 44 k) mem sc d) a b) (2 ^ mem)) a mem).1] h1 [] 60 hq1 rfl trivial (fun _ => ?_)
    exact xq_ret rfl rfl rfl ⟨rfl, PP⟩
set_option maxRecDepth 100000 in
set_option maxHeartbeats 4000000 in
/-- Powers.compare -/
theorem cmp_q {f a b m : Nat} {W : Nat → Bool} {h : xh_H} (m12 : m ≤ 12) (P : PD W m h) (ha : a < m) (hb : b < m) (hq : a_rq a_tb h) : xq f xi_X2_compare xmi_X2_compare 0 [(0, .ref 14), (1, .int (nI a)), (2, .int (nI b))] [] h (fun v h' => h = h' ∧ v = some (.int (cmv (aln (gp W a b) (2 ^ m)) (aln (gp W b a) (2 ^ m))))) := by
  have bt : ∀ x y, x < m → y < m → (xg 0 h.2.1 19 (nI x).toNatClampNeg >>> (nI y &&& 31)) &&& Int32.ofInt 1 = bl (aln (gp W x y) (2 ^ m)) := fun x y hx hy => by
    rw [nI_clamp (by omega), P.2.1 x hx]
    have l := msk_lt (f := fun b => aln (gp W x b) (2 ^ m)) m
    have p12 : 2 ^ m ≤ 4096 := show 2 ^ m ≤ 2 ^ 12 from Nat.pow_le_pow_right (by decide) m12
    rw [nI_b0 (by omega) (by omega), msk_tb, decide_eq_true hy, Bool.true_and, bl_nI]
  have g1 := be' (bt a b ha hb)
  have g2 := be' (bt b a hb ha)
  cases c1 : aln (gp W a b) (2 ^ m) with
  | true =>
    rw [c1] at g1
    cases c2 : aln (gp W b a) (2 ^ m) with
    | true =>
      rw [c2] at g2
      refine xq_n 53 [] [] [.int (Int32.ofInt 0)] h [false, false, false, false] 60 hq rfl ⟨g1, g2, rfl, rfl, trivial⟩ (fun _ => ?_)
      exact xq_ret rfl rfl rfl ⟨rfl, rfl⟩
    | false =>
      rw [c2] at g2
      refine xq_n 53 [] [] [.int (Int32.ofInt 1)] h [false, true, false, true] 60 hq rfl ⟨g1, g2, rfl, rfl, trivial⟩ (fun _ => ?_)
      exact xq_ret rfl rfl rfl ⟨rfl, rfl⟩
  | false =>
    rw [c1] at g1
    cases c2 : aln (gp W b a) (2 ^ m) with
    | true =>
      rw [c2] at g2
      refine xq_n 64 [] [] [.int (Int32.ofInt (-1))] h [true, false, true, false] 60 hq rfl ⟨g1, g2, rfl, rfl, trivial⟩ (fun _ => ?_)
      exact xq_ret rfl rfl rfl ⟨rfl, rfl⟩
    | false =>
      rw [c2] at g2
      refine xq_n 64 [] [] [.int (Int32.ofInt 2)] h [true, true, true, true] 60 hq rfl ⟨g1, g2, rfl, rfl, trivial⟩ (fun _ => ?_)
      exact xq_ret rfl rfl rfl ⟨rfl, rfl⟩
set_option maxRecDepth 100000 in
set_option maxHeartbeats 4000000 in
theorem sr9_q {f mem sc : Nat} {x y d : Int32} {h : xh_H} (hi : a_inv a_tb h) (hn : 72 ≤ h.1.length) (e9 : xg 0 h.2.1 0 9 = nI mem) (m1 : 1 ≤ mem) (m12 : mem ≤ 12) (e8 : xg 0 h.2.1 0 8 = nI sc) (sc8 : sc ≤ 8) (e10 : xg 0 h.2.1 0 10 = d) (si : SI h) (pi : PI h) : xq f xi_X9_stronger xmi_X9_stronger 0 [(0, .ref 0), (1, .int x), (2, .int y)] [] h (fun v h' => v = some (.int (srA (cvB (fun k => xg 0 h.2.1 51 k) (fun k => xg 0 h.2.1 44 k) mem sc d) mem x y)) ∧ PI h') := by
  have hq := a_rq_of hi.1 hn
  refine xq_n 2 [0, 1, 2] [(0, .ref 0), (1, .int x), (2, .int y)] [.int x, .ref 0] h [] 60 hq rfl trivial (fun _ => ?_)
  refine xq_run hq rfl rfl (mem9_q (z := nI mem) e9 hq) ?_
  rintro v h1 ⟨rfl, rfl⟩
  unfold srA
  cases c1 : isM x mem with
  | false =>
    unfold isM at c1
    rw [c1]
    refine xq_n 18 [] [] [.int (-2)] h [true] 60 hq rfl ⟨rfl, trivial⟩ (fun _ => ?_)
    exact xq_ret rfl rfl rfl ⟨rfl, pi⟩
  | true =>
    unfold isM at c1
    obtain ⟨a, rfl, al, ea⟩ := mb_n m12 c1
    rw [ea, c1]
    refine xq_n 10 [0, 1, 2] [(0, .ref 0), (1, .int (nI a)), (2, .int y)] [.int y, .ref 0] h [false] 60 hq rfl ⟨rfl, trivial⟩ (fun _ => ?_)
    refine xq_run hq rfl rfl (mem9_q (z := nI mem) e9 hq) ?_
    rintro v h1 ⟨rfl, rfl⟩
    cases c2 : isM y mem with
    | false =>
      unfold isM at c2
      rw [c2]
      refine xq_n 18 [] [] [.int (-2)] h [false] 60 hq rfl ⟨rfl, trivial⟩ (fun _ => ?_)
      exact xq_ret rfl rfl rfl ⟨rfl, pi⟩
    | true =>
      unfold isM at c2
      obtain ⟨b, rfl, bm, eb⟩ := mb_n m12 c2
      rw [eb, c2]
      refine xq_n 20 [1, 2] [(1, .int (nI a)), (2, .int (nI b))] [.ref 0] h [true] 60 hq rfl ⟨rfl, trivial⟩ (fun _ => ?_)
      refine xq_run hq rfl rfl (pt9_q hi hn e9 m1 m12 e8 sc8 e10 si pi) ?_
      rintro v h1 ⟨rfl, Y, PP, q, r, A, P⟩
      have hq1 := Yf_q hi hn Y
      refine xq_n 25 [] [] [.int (nI b), .int (nI a), .ref 14] h1 [] 60 hq1 rfl trivial (fun _ => ?_)
      refine xq_run hq1 rfl rfl (cmp_q m12 P al bm hq1) ?_
      rintro v h2 ⟨rfl, rfl⟩
      exact xq_ret rfl rfl rfl ⟨rfl, PP⟩
end XPT
end
