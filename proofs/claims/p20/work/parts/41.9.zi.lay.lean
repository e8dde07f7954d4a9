section XLA
def S53 (c k : Nat) : Bool := (Nat.beq c 39 && Nat.beq k 35) || Nat.beq c 53
set_option maxRecDepth 100000 in
set_option maxHeartbeats 4000000 in
theorem lay_lp {mem sc : Nat} {FR RW : Nat → Int32} {d : Int32} {hb : xh_H} (m12 : mem ≤ 12) (sc8 : sc ≤ 8) (e4 : xg 0 hb.2.1 39 4 = nI mem) (e35 : xg 0 hb.2.1 39 35 = nI (2 ^ mem)) (hR : ∀ k s, k < sc → s < 2 ^ mem → ∃ b : Bool, RW (4096 * k + s) = bl b ∧ xg 0 hb.2.1 44 (4096 * k + s) = bl b) : ∀ (f i : Nat) (h : xh_H), a_rq a_tb h → fx (fun c _ => Nat.beq c 53) fN hb h → i ≤ 2 ^ mem → (∀ s, s < i → xg 0 h.2.1 53 s = bl (cvB FR RW mem sc d s)) → xq f xi_X10_lay xmi_X10_lay 24 [(0, .ref 39), (1, .int (oN (iF FR (fun _ => true) d sc))), (2, .int (nI i))] [] h (fun v h' => v = none ∧ fx (fun c _ => Nat.beq c 53) fN hb h' ∧ ∀ s, s < 2 ^ mem → xg 0 h'.2.1 53 s = bl (cvB FR RW mem sc d s)) := by
  have p12 : 2 ^ mem ≤ 4096 := show 2 ^ mem ≤ 2 ^ 12 from Nat.pow_le_pow_right (by decide) m12
  intro f
  induction f with
  | zero => intros; exact xq_0
  | succ f ih =>
    intro i h hq ge i6 w
    have d35 : xg 0 h.2.1 39 35 = nI (2 ^ mem) := (fx_i ge rfl).trans e35
    have d4 : xg 0 h.2.1 39 4 = nI mem := (fx_i ge rfl).trans e4
    by_cases e : i = 2 ^ mem
    · refine xq_m 50 [] [] [] h [true] 6 hq rfl ⟨(show xe_c .ge (nI i) (xg 0 h.2.1 39 35) = true by rw [d35, e]; exact decide_eq_true (Int32.le_refl _)), trivial⟩ (fun _ => ?_)
      rw [e] at w
      exact xq_ret rfl rfl rfl ⟨rfl, ge, w⟩
    · have il : i < 2 ^ mem := by omega
      refine xq_m 40 [0, 1, 2] [(0, .ref 39), (1, .int (oN (iF FR (fun _ => true) d sc))), (2, .int (nI i))] [.int (nI i), .int (oN (iF FR (fun _ => true) d sc)), .ref 39, .int (nI i), .ref 53] h [false] 12 hq rfl ⟨(show xe_c .ge (nI i) (xg 0 h.2.1 39 35) = false by rw [d35]; exact nge_f (by omega) (by omega) il), trivial⟩ (fun _ => ?_)
      refine xq_run hq rfl rfl (cb10_q (RW := RW) d4 m12 (by omega) (fun k e => ⟨by have := iF_lt e; omega, by
        obtain ⟨b, b1, b2⟩ := hR k i (iF_lt e) il
        exact ⟨b, b1, (fx_i ge rfl).trans b2⟩⟩) hq) ?_
      rintro v h1 ⟨rfl, rfl⟩
      rw [show cvo RW mem i (iF FR (fun _ => true) d sc) = cvB FR RW mem sc d i from rfl]
      refine xq_n 24 [0, 1, 2] [(0, .ref 39), (1, .int (oN (iF FR (fun _ => true) d sc))), (2, .int ((nI i) + Int32.ofInt 1))] [] (xh_ui h 53 (nI i).toNatClampNeg (vp_nar .boolean (bl (cvB FR RW mem sc d i)))) [] 5 hq rfl trivial (fun _ => ?_)
      rw [show nI i + Int32.ofInt 1 = nI (i + 1) from nI_1 _, show (nI i).toNatClampNeg = i from nI_clamp (by omega), bl_n]
      refine ih (i + 1) _ (a_rq_ui hq) (fx_ui ge rfl) il (fun s hs => ?_)
      by_cases z : s = i
      · rw [z]; exact gx_s
      · rw [gx_k z]; exact w s (by omega)
set_option maxRecDepth 100000 in
set_option maxHeartbeats 4000000 in
/-- X10.lay -/
theorem lay_q {f mem sc : Nat} {FR RW : Nat → Int32} {d : Int32} {h : xh_H} (m12 : mem ≤ 12) (e4 : xg 0 h.2.1 39 4 = nI mem) (e33 : xg 0 h.2.1 39 33 = nI sc) (sc8 : sc ≤ 8) (e3 : xg 0 h.2.1 39 3 = d) (hF : ∀ k, k < sc → xg 0 h.2.1 51 k = FR k) (hT : ∀ k, k < sc → (xg 0 h.2.1 52 k).toInt ≤ 999) (hR : ∀ k s, k < sc → s < 2 ^ mem → ∃ b : Bool, RW (4096 * k + s) = bl b ∧ xg 0 h.2.1 44 (4096 * k + s) = bl b) (hq : a_rq a_tb h) : xq f xi_X10_lay xmi_X10_lay 0 [(0, .ref 39)] [] h (fun v h' => v = none ∧ fx S53 fN h h' ∧ xg 0 h'.2.1 39 35 = nI (2 ^ mem) ∧ ∀ s, s < 2 ^ mem → xg 0 h'.2.1 53 s = bl (cvB FR RW mem sc d s)) := by
  refine xq_n 8 [0] [(0, .ref 39)] [.int 999, .int (xg 0 h.2.1 39 3), .ref 39] h [] 6 hq rfl trivial (fun _ => ?_)
  rw [e3]
  refine xq_run hq rfl rfl (if10_q (d := d) (t := 999) (TD := fun k => xg 0 h.2.1 52 k) e33 sc8 hF (fun _ _ => rfl) hq) ?_
  rintro v h1 ⟨rfl, rfl⟩
  rw [iF_td hT]
  refine xq_n 24 [0, 1, 2] [(0, .ref 39), (1, .int (oN (iF FR (fun _ => true) d sc))), (2, .int (Int32.ofInt 0))] [] (xh_ui h 39 35 (Int32.ofInt 1 <<< ((xg 0 h.2.1 39 4) &&& 31))) [] 11 hq rfl trivial (fun _ => ?_)
  rw [e4, sh1 mem (by omega)]
  have g1 : fx S53 fN h (xh_ui h 39 35 (nI (2 ^ mem))) := fx_ui fx_0 rfl
  refine xq_mono (lay_lp m12 sc8 (FR := FR) (d := d) (hb := xh_ui h 39 35 (nI (2 ^ mem))) ((gx_k (by decide)).trans e4) gx_s (fun k s h1 h2 => by
    obtain ⟨b, b1, b2⟩ := hR k s h1 h2
    exact ⟨b, b1, (gx_o (by decide)).trans b2⟩) f 0 _ (a_rq_ui hq) fx_0 (Nat.zero_le _) (fun s hs => absurd hs (Nat.not_lt_zero s))) (fun v h' e => ?_)
  exact ⟨e.1, fx_t g1 (fx_w e.2.1 (fun c k z => (or_f z).2) (fun _ _ z => z)), (fx_i e.2.1 rfl).trans gx_s, e.2.2⟩
/-- who prefers x to y -/
def wp (PL : Nat → Int32) (x y : Nat) : Nat → Nat
  | 0 => 0
  | m + 1 => if xe_c .ge (PL (7 * m + x)) (PL (7 * m + y)) = true then wp PL x y m else wp PL x y m ||| 2 ^ m
theorem wp_lt {PL : Nat → Int32} {x y : Nat} : ∀ m, wp PL x y m < 2 ^ m := by
  intro m
  induction m with
  | zero => exact Nat.one_pos
  | succ m ih =>
    unfold wp
    have : 2 ^ (m + 1) = 2 * 2 ^ m := by rw [Nat.pow_succ]; omega
    split
    · omega
    · exact Nat.or_lt_two_pow (by omega) (by omega)
theorem wp_c {PL PL' : Nat → Int32} {x y : Nat} (hx : x < 7) (hy : y < 7) : ∀ m, (∀ k, k < 7 * m → PL k = PL' k) → wp PL x y m = wp PL' x y m := by
  intro m
  induction m with
  | zero => intro _; rfl
  | succ m ih =>
    intro e
    unfold wp
    rw [ih (fun k hk' => e k (by omega)), e _ (by omega), e _ (by omega)]
theorem i7_a {m x : Nat} : nI m * 7 + nI x = nI (7 * m + x) := by
  show nI m * nI 7 + nI x = nI (7 * m + x)
  rw [← nI_mul2, nI_add, Nat.mul_comm]
theorem i7_b {m x : Nat} : 7 * nI m + nI x = nI (7 * m + x) := by
  show nI 7 * nI m + nI x = nI (7 * m + x)
  rw [← nI_mul2, nI_add]
set_option maxRecDepth 100000 in
set_option maxHeartbeats 4000000 in
theorem who_lp {mem x y : Nat} {PL : Nat → Int32} {h : xh_H} (m12 : mem ≤ 12) (hx : x < 7) (hy : y < 7) (hP : ∀ k, k < 84 → xg 0 h.2.1 30 k = PL k) (hq : a_rq a_tb h) : ∀ (f i : Nat), i ≤ mem → xq f xi_X0_whoPrefer xmi_X0_whoPrefer 6 [(0, .ref 28), (1, .int (nI x)), (2, .int (nI y)), (3, .int (nI mem)), (4, .int (nI (wp PL x y i))), (5, .int (nI i))] [] h (fun v h' => h = h' ∧ v = some (.int (nI (wp PL x y mem)))) := by
  intro f
  induction f with
  | zero => intros; exact xq_0
  | succ f ih =>
    intro i il
    by_cases e : i = mem
    · refine xq_m 56 [] [] [.int (nI (wp PL x y i))] h [true] 6 hq rfl ⟨(show xe_c .ge (nI i) (nI mem) = true by rw [e]; exact decide_eq_true (Int32.le_refl _)), trivial⟩ (fun _ => ?_)
      rw [e]
      exact xq_ret rfl rfl rfl ⟨rfl, rfl⟩
    · have il : i < mem := by omega
      have g0 : xe_c .ge (nI i) (nI mem) = false := nge_f (by omega) (by omega) il
      have k1 : xg 0 h.2.1 30 (nI i * 7 + nI x).toNatClampNeg = PL (7 * i + x) := by rw [i7_a, nI_clamp (by omega)]; exact hP _ (by omega)
      have k2 : xg 0 h.2.1 30 (nI i * 7 + nI y).toNatClampNeg = PL (7 * i + y) := by rw [i7_a, nI_clamp (by omega)]; exact hP _ (by omega)
      have nx : nI i + Int32.ofInt 1 = nI (i + 1) := nI_1 i
      have ew : wp PL x y (i + 1) = if xe_c .ge (PL (7 * i + x)) (PL (7 * i + y)) = true then wp PL x y i else wp PL x y i ||| 2 ^ i := rfl
      cases c1 : xe_c .ge (PL (7 * i + x)) (PL (7 * i + y)) with
      | true =>
        refine xq_m 6 [0, 1, 2, 3, 4, 5] [(0, .ref 28), (1, .int (nI x)), (2, .int (nI y)), (3, .int (nI mem)), (4, .int (nI (wp PL x y i))), (5, .int ((nI i) + Int32.ofInt 1))] [] h [false, true] 24 hq rfl ⟨g0, (show xe_c .ge (xg 0 h.2.1 30 (nI i * 7 + nI x).toNatClampNeg) (xg 0 h.2.1 30 (nI i * 7 + nI y).toNatClampNeg) = true by rw [k1, k2]; exact c1), trivial⟩ (fun _ => ?_)
        rw [nx, show wp PL x y i = wp PL x y (i + 1) by rw [ew, if_pos c1]]
        exact ih (i + 1) il
      | false =>
        refine xq_m 6 [0, 1, 2, 3, 4, 5] [(0, .ref 28), (1, .int (nI x)), (2, .int (nI y)), (3, .int (nI mem)), (4, .int ((nI (wp PL x y i)) ||| ((Int32.ofInt 1) <<< ((nI i) &&& 31)))), (5, .int ((nI i) + Int32.ofInt 1))] [] h [false, false] 30 hq rfl ⟨g0, (show xe_c .ge (xg 0 h.2.1 30 (nI i * 7 + nI x).toNatClampNeg) (xg 0 h.2.1 30 (nI i * 7 + nI y).toNatClampNeg) = false by rw [k1, k2]; exact c1), trivial⟩ (fun _ => ?_)
        rw [nx, nI_o1 (by omega), show wp PL x y i ||| 2 ^ i = wp PL x y (i + 1) by rw [ew, if_neg (by rw [c1]; decide)]]
        exact ih (i + 1) il
set_option maxRecDepth 100000 in
/-- Ballot.whoPrefer -/
theorem who_q {f mem x y : Nat} {PL : Nat → Int32} {h : xh_H} (m12 : mem ≤ 12) (hx : x < 7) (hy : y < 7) (hP : ∀ k, k < 84 → xg 0 h.2.1 30 k = PL k) (hq : a_rq a_tb h) : xq f xi_X0_whoPrefer xmi_X0_whoPrefer 0 [(0, .ref 28), (1, .int (nI x)), (2, .int (nI y)), (3, .int (nI mem))] [] h (fun v h' => h = h' ∧ v = some (.int (nI (wp PL x y mem)))) := by
  refine xq_n 6 [0, 1, 2, 3, 4, 5] [(0, .ref 28), (1, .int (nI x)), (2, .int (nI y)), (3, .int (nI mem)), (4, .int (Int32.ofInt 0)), (5, .int (Int32.ofInt 0))] [] h [] 6 hq rfl trivial (fun _ => ?_)
  exact who_lp m12 hx hy hP hq f 0 (Nat.zero_le _)
set_option maxRecDepth 100000 in
set_option maxHeartbeats 4000000 in
theorem bto_lp {mem x y : Nat} {PL : Nat → Int32} {W : Nat → Bool} {h : xh_H} (m12 : mem ≤ 12) (hx : x < 7) (hy : y < 7) (e4 : xg 0 h.2.1 39 4 = nI mem) (hP : ∀ k, k < 84 → xg 0 h.2.1 62 k = PL k) (hW : ∀ s, s < 2 ^ mem → xg 0 h.2.1 53 s = bl (W s)) (hq : a_rq a_tb h) : ∀ (f i : Nat), i ≤ mem → xq f xi_X10_beatsOf xmi_X10_beatsOf 5 [(0, .ref 39), (1, .int (nI x)), (2, .int (nI y)), (3, .int (nI (wp PL x y i))), (4, .int (nI i))] [] h (fun v h' => h = h' ∧ v = some (.int (bl (W (wp PL x y mem))))) := by
  have p12 : 2 ^ mem ≤ 4096 := show 2 ^ mem ≤ 2 ^ 12 from Nat.pow_le_pow_right (by decide) m12
  intro f
  induction f with
  | zero => intros; exact xq_0
  | succ f ih =>
    intro i il
    by_cases e : i = mem
    · have wl := wp_lt (PL := PL) (x := x) (y := y) mem
      refine xq_m 60 [] [] [.int (xg 0 h.2.1 53 (nI (wp PL x y i)).toNatClampNeg)] h [true] 9 hq rfl ⟨(show xe_c .ge (nI i) (xg 0 h.2.1 39 4) = true by rw [e4, e]; exact decide_eq_true (Int32.le_refl _)), trivial⟩ (fun _ => ?_)
      rw [e, nI_clamp (by omega), hW _ wl]
      exact xq_ret rfl rfl rfl ⟨rfl, rfl⟩
    · have il : i < mem := by omega
      have g0 : xe_c .ge (nI i) (xg 0 h.2.1 39 4) = false := by rw [e4]; exact nge_f (by omega) (by omega) il
      have k1 : xg 0 h.2.1 62 (7 * nI i + nI x).toNatClampNeg = PL (7 * i + x) := by rw [i7_b, nI_clamp (by omega)]; exact hP _ (by omega)
      have k2 : xg 0 h.2.1 62 (7 * nI i + nI y).toNatClampNeg = PL (7 * i + y) := by rw [i7_b, nI_clamp (by omega)]; exact hP _ (by omega)
      have nx : nI i + Int32.ofInt 1 = nI (i + 1) := nI_1 i
      have ew : wp PL x y (i + 1) = if xe_c .ge (PL (7 * i + x)) (PL (7 * i + y)) = true then wp PL x y i else wp PL x y i ||| 2 ^ i := rfl
      cases c1 : xe_c .ge (PL (7 * i + x)) (PL (7 * i + y)) with
      | true =>
        refine xq_m 5 [0, 1, 2, 3, 4] [(0, .ref 39), (1, .int (nI x)), (2, .int (nI y)), (3, .int (nI (wp PL x y i))), (4, .int ((nI i) + Int32.ofInt 1))] [] h [false, true] 25 hq rfl ⟨g0, (show xe_c .ge (xg 0 h.2.1 62 (7 * nI i + nI x).toNatClampNeg) (xg 0 h.2.1 62 (7 * nI i + nI y).toNatClampNeg) = true by rw [k1, k2]; exact c1), trivial⟩ (fun _ => ?_)
        rw [nx, show wp PL x y i = wp PL x y (i + 1) by rw [ew, if_pos c1]]
        exact ih (i + 1) il
      | false =>
        refine xq_m 5 [0, 1, 2, 3, 4] [(0, .ref 39), (1, .int (nI x)), (2, .int (nI y)), (3, .int ((nI (wp PL x y i)) ||| ((Int32.ofInt 1) <<< ((nI i) &&& 31)))), (4, .int ((nI i) + Int32.ofInt 1))] [] h [false, false] 31 hq rfl ⟨g0, (show xe_c .ge (xg 0 h.2.1 62 (7 * nI i + nI x).toNatClampNeg) (xg 0 h.2.1 62 (7 * nI i + nI y).toNatClampNeg) = false by rw [k1, k2]; exact c1), trivial⟩ (fun _ => ?_)
        rw [nx, nI_o1 (by omega), show wp PL x y i ||| 2 ^ i = wp PL x y (i + 1) by rw [ew, if_neg (by rw [c1]; decide)]]
        exact ih (i + 1) il
set_option maxRecDepth 100000 in
/-- X10.beatsOf -/
theorem bto_q {f mem x y : Nat} {PL : Nat → Int32} {W : Nat → Bool} {h : xh_H} (m12 : mem ≤ 12) (hx : x < 7) (hy : y < 7) (e4 : xg 0 h.2.1 39 4 = nI mem) (hP : ∀ k, k < 84 → xg 0 h.2.1 62 k = PL k) (hW : ∀ s, s < 2 ^ mem → xg 0 h.2.1 53 s = bl (W s)) (hq : a_rq a_tb h) : xq f xi_X10_beatsOf xmi_X10_beatsOf 0 [(0, .ref 39), (1, .int (nI x)), (2, .int (nI y))] [] h (fun v h' => h = h' ∧ v = some (.int (bl (W (wp PL x y mem))))) := by
  refine xq_n 5 [0, 1, 2, 3, 4] [(0, .ref 39), (1, .int (nI x)), (2, .int (nI y)), (3, .int (Int32.ofInt 0)), (4, .int (Int32.ofInt 0))] [] h [] 6 hq rfl trivial (fun _ => ?_)
  exact bto_lp m12 hx hy e4 hP hW hq f 0 (Nat.zero_le _)
end XLA
