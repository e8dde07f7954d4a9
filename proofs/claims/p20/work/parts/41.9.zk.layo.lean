section XLO2
/-- a row of the matrix of what comes behind what, while it is made greater -/
def upr (C : Nat → Nat → Bool) (m y j : Nat) : Nat → Nat → Bool := fun y' x' => if y' = y ∧ x' < j then (C y x' || (C y m && C m x')) else C y' x'
/-- .. row by row -/
def clo (C : Nat → Nat → Bool) : Nat → Nat → Nat → Bool
  | 0 => C
  | n + 1 => upr (clo C n) (n / 7) (n % 7) 7
theorem upr_0 {C : Nat → Nat → Bool} {m y y' x' : Nat} : upr C m y 0 y' x' = C y' x' := by
  unfold upr
  rw [if_neg (by omega)]
theorem upr_m {C : Nat → Nat → Bool} {m y j : Nat} : upr C m y j y m = C y m := by
  unfold upr
  split
  · cases C y m <;> cases C m m <;> rfl
  · rfl
theorem upr_n {C : Nat → Nat → Bool} {m y j : Nat} : upr C m y j m j = C m j := by
  unfold upr
  rw [if_neg (by omega)]
def S634 (c _k : Nat) : Bool := Nat.beq c 63 || Nat.beq c 64
section
variable {mem : Nat} {PL : Nat → Int32} {W : Nat → Bool} {hb : xh_H}
/-- the matrices up to a place -/
def lI (B : Nat → Nat → Bool) (x y : Nat) (h : xh_H) : Prop := ∀ x' y', x' < 7 → y' < 7 → (x' < x ∨ (x' = x ∧ y' < y)) → xg 0 h.2.1 63 (7 * x' + y') = bl (B x' y') ∧ xg 0 h.2.1 64 (7 * y' + x') = bl (B x' y')
set_option maxRecDepth 100000 in
set_option maxHeartbeats 4000000 in
theorem lo_49 {f x y : Nat} {b : Bool} {B : Nat → Nat → Bool} {h : xh_H} {Q : Option Value → xh_H → Prop} (hx : x < 7) (hy : y < 7) (hq : a_rq a_tb h) (ge : fx S634 fN hb h) (I : lI B x y h) (eb : B x y = b) (K : ∀ h', a_rq a_tb h' → fx S634 fN hb h' → lI B x (y + 1) h' → xq f xi_X10_layOptions xmi_X10_layOptions 14 [(0, .ref 39), (1, .int (nI x)), (2, .int (nI (y + 1)))] [] h' Q) : xq f xi_X10_layOptions xmi_X10_layOptions 49 [(0, .ref 39), (1, .int (nI x)), (2, .int (nI y))] [.int (bl b), .int (7 * nI x + nI y), .ref 63] h Q := by
  have e1 : (7 * nI x + nI y).toNatClampNeg = 7 * x + y := by rw [i7_b]; exact nI_clamp (by omega)
  have e2 : (7 * nI y + nI x).toNatClampNeg = 7 * y + x := by rw [i7_b]; exact nI_clamp (by omega)
  refine xq_n 14 [0, 1, 2] [(0, .ref 39), (1, .int (nI x)), (2, .int ((nI y) + Int32.ofInt 1))] [] (xh_ui (xh_ui h 63 (7 * nI x + nI y).toNatClampNeg (vp_nar .boolean (bl b))) 64 (7 * nI y + nI x).toNatClampNeg (vp_nar .boolean (xg 0 (xh_ui h 63 (7 * nI x + nI y).toNatClampNeg (vp_nar .boolean (bl b))).2.1 63 (7 * nI x + nI y).toNatClampNeg))) [] 22 hq rfl trivial (fun _ => ?_)
  rw [e1, e2, gx_s, bl_n, bl_n, show nI y + Int32.ofInt 1 = nI (y + 1) from nI_1 y]
  refine K _ (a_rq_ui (a_rq_ui hq)) (fx_ui (fx_ui ge rfl) rfl) (fun x' y' hx' hy' z => ?_)
  by_cases e : x' = x ∧ y' = y
  · obtain ⟨rfl, rfl⟩ := e
    exact ⟨by rw [gx_o (by decide), gx_s, eb], by rw [gx_s, eb]⟩
  · obtain ⟨i1, i2⟩ := I x' y' hx' hy' (by omega)
    exact ⟨by rw [gx_o (by decide), gx_k (by omega)]; exact i1, by rw [gx_k (by omega), gx_o (by decide)]; exact i2⟩
set_option maxRecDepth 100000 in
set_option maxHeartbeats 4000000 in
theorem lo_in (m12 : mem ≤ 12) (e4 : xg 0 hb.2.1 39 4 = nI mem) (hP : ∀ k, k < 84 → xg 0 hb.2.1 62 k = PL k) (hW : ∀ s, s < 2 ^ mem → xg 0 hb.2.1 53 s = bl (W s)) {x : Nat} (hx : x < 7) {Q : Option Value → xh_H → Prop} (K : ∀ (f : Nat) (h : xh_H), a_rq a_tb h → fx S634 fN hb h → lI (BT PL W mem) (x + 1) 0 h → xq f xi_X10_layOptions xmi_X10_layOptions 6 [(0, .ref 39), (1, .int (nI (x + 1)))] [] h Q) : ∀ (n f y : Nat) (h : xh_H), y + n = 7 → a_rq a_tb h → fx S634 fN hb h → lI (BT PL W mem) x y h → xq f xi_X10_layOptions xmi_X10_layOptions 14 [(0, .ref 39), (1, .int (nI x)), (2, .int (nI y))] [] h Q := by
  intro n
  induction n with
  | zero =>
    intro f y h hn hq ge I
    have e : y = 7 := by omega
    subst e
    refine xq_n 6 [0, 1] [(0, .ref 39), (1, .int ((nI x) + Int32.ofInt 1))] [] h [true] 7 hq rfl ⟨rfl, trivial⟩ (fun _ => ?_)
    rw [show nI x + Int32.ofInt 1 = nI (x + 1) from nI_1 x]
    exact K f h hq ge (fun x' y' hx' hy' z => I x' y' hx' hy' (by omega))
  | succ n ih =>
    intro f y h hn hq ge I
    have yl : y < 7 := by omega
    have g0 : xe_c .ge (nI y) 7 = false := nge_f (b := 7) (by omega) (by decide) yl
    have KK := fun (h' : xh_H) (hq' : a_rq a_tb h') (ge' : fx S634 fN hb h') (I' : lI (BT PL W mem) x (y + 1) h') => ih f (y + 1) h' (by omega) hq' ge' I'
    by_cases exy : x = y
    · refine xq_n 49 [0, 1, 2] [(0, .ref 39), (1, .int (nI x)), (2, .int (nI y))] [.int (Int32.ofInt 0), .int (7 * nI x + nI y), .ref 63] h [false, true] 17 hq rfl ⟨g0, decide_eq_true (by rw [exy]), trivial⟩ (fun _ => ?_)
      exact lo_49 (b := false) hx yl hq ge I (by unfold BT; rw [decide_eq_true exy]; rfl) KK
    · have n1 : xe_c .eq (nI x) (nI y) = false := decide_eq_false (fun z => exy (by have z2 := congrArg Int32.toInt z; rw [nI_toInt (by omega), nI_toInt (by omega)] at z2; omega))
      refine xq_n 38 [0, 1, 2] [(0, .ref 39), (1, .int (nI x)), (2, .int (nI y))] [.int (nI y), .int (nI x), .ref 39, .int (7 * nI x + nI y), .ref 63] h [false, false] 19 hq rfl ⟨g0, n1, trivial⟩ (fun _ => ?_)
      refine xq_run hq rfl rfl (bto_q (PL := PL) (W := W) m12 hx yl ((fx_i ge rfl).trans e4) (fun k hk' => (fx_i ge rfl).trans (hP k hk')) (fun s hs => (fx_i ge rfl).trans (hW s hs)) hq) ?_
      rintro v h1 ⟨rfl, rfl⟩
      have eB : BT PL W mem x y = W (wp PL x y mem) := by unfold BT; rw [decide_eq_false exy]; rfl
      cases cW : W (wp PL x y mem) with
      | false =>
        refine xq_n 49 [0, 1, 2] [(0, .ref 39), (1, .int (nI x)), (2, .int (nI y))] [.int (Int32.ofInt 0), .int (7 * nI x + nI y), .ref 63] h [true] 4 hq rfl ⟨rfl, trivial⟩ (fun _ => ?_)
        exact lo_49 (b := false) hx yl hq ge I (by rw [eB, cW]) KK
      | true =>
        refine xq_n 49 [0, 1, 2] [(0, .ref 39), (1, .int (nI x)), (2, .int (nI y))] [.int (Int32.ofInt 1), .int (7 * nI x + nI y), .ref 63] h [false] 5 hq rfl ⟨rfl, trivial⟩ (fun _ => ?_)
        exact lo_49 (b := true) hx yl hq ge I (by rw [eB, cW]) KK
def mC (C : Nat → Nat → Bool) (h : xh_H) : Prop := ∀ y' x', y' < 7 → x' < 7 → xg 0 h.2.1 64 (7 * y' + x') = bl (C y' x')
def S64 (c _k : Nat) : Bool := Nat.beq c 64
set_option maxRecDepth 100000 in
set_option maxHeartbeats 4000000 in
theorem cl_x {C : Nat → Nat → Bool} {m y : Nat} (hm : m < 7) (hy : y < 7) {Q : Option Value → xh_H → Prop} (K : ∀ (f : Nat) (h : xh_H), a_rq a_tb h → fx S64 fN hb h → mC (upr C m y 7) h → xq f xi_X10_layOptions xmi_X10_layOptions 94 [(0, .ref 39), (1, .int (nI m)), (2, .int (nI (y + 1)))] [] h Q) : ∀ (n f j : Nat) (h : xh_H), j + n = 7 → a_rq a_tb h → fx S64 fN hb h → mC (upr C m y j) h → xq f xi_X10_layOptions xmi_X10_layOptions 102 [(0, .ref 39), (1, .int (nI m)), (2, .int (nI y)), (3, .int (nI j))] [] h Q := by
  intro n
  induction n with
  | zero =>
    intro f j h hn hq ge I
    have e : j = 7 := by omega
    subst e
    refine xq_n 94 [0, 1, 2] [(0, .ref 39), (1, .int (nI m)), (2, .int ((nI y) + Int32.ofInt 1))] [] h [true] 7 hq rfl ⟨rfl, trivial⟩ (fun _ => ?_)
    rw [show nI y + Int32.ofInt 1 = nI (y + 1) from nI_1 y]
    exact K f h hq ge I
  | succ n ih =>
    intro f j h hn hq ge I
    have jl : j < 7 := by omega
    have g0 : xe_c .ge (nI j) 7 = false := nge_f (b := 7) (by omega) (by decide) jl
    have a1 : xg 0 h.2.1 64 (7 * nI y + nI m).toNatClampNeg = bl (C y m) := by rw [i7_b, nI_clamp (by omega), I y m hy hm, upr_m]
    have a2 : xg 0 h.2.1 64 (7 * nI m + nI j).toNatClampNeg = bl (C m j) := by rw [i7_b, nI_clamp (by omega), I m j hm jl, upr_n]
    have e3 : (7 * nI y + nI j).toNatClampNeg = 7 * y + j := by rw [i7_b]; exact nI_clamp (by omega)
    have nx : nI j + Int32.ofInt 1 = nI (j + 1) := nI_1 j
    have same : (C y m && C m j) = false → mC (upr C m y (j + 1)) h := fun z y' x' hy' hx' => by
      rw [I y' x' hy' hx']
      unfold upr
      by_cases u : y' = y ∧ x' < j
      · rw [if_pos u, if_pos ⟨u.1, by omega⟩]
      · rw [if_neg u]
        by_cases w : y' = y ∧ x' < j + 1
        · rw [if_pos w, show x' = j by omega, z, Bool.or_false, w.1]
        · rw [if_neg w]
    cases c1 : C y m with
    | false =>
      rw [c1] at same
      refine xq_n 102 [0, 1, 2, 3] [(0, .ref 39), (1, .int (nI m)), (2, .int (nI y)), (3, .int ((nI j) + Int32.ofInt 1))] [] h [false, true] 15 hq rfl ⟨g0, (show xe_c .eq (xg 0 h.2.1 64 (7 * nI y + nI m).toNatClampNeg) 0 = true by rw [a1, c1]; rfl), trivial⟩ (fun _ => ?_)
      rw [nx]
      exact ih f (j + 1) h (by omega) hq ge (same rfl)
    | true =>
      cases c2 : C m j with
      | false =>
        rw [c2, Bool.and_false] at same
        refine xq_n 102 [0, 1, 2, 3] [(0, .ref 39), (1, .int (nI m)), (2, .int (nI y)), (3, .int ((nI j) + Int32.ofInt 1))] [] h [false, false, true] 24 hq rfl ⟨g0, (show xe_c .eq (xg 0 h.2.1 64 (7 * nI y + nI m).toNatClampNeg) 0 = false by rw [a1, c1]; rfl), (show xe_c .eq (xg 0 h.2.1 64 (7 * nI m + nI j).toNatClampNeg) 0 = true by rw [a2, c2]; rfl), trivial⟩ (fun _ => ?_)
        rw [nx]
        exact ih f (j + 1) h (by omega) hq ge (same rfl)
      | true =>
        refine xq_n 102 [0, 1, 2, 3] [(0, .ref 39), (1, .int (nI m)), (2, .int (nI y)), (3, .int ((nI j) + Int32.ofInt 1))] [] (xh_ui h 64 (7 * nI y + nI j).toNatClampNeg (vp_nar .boolean (Int32.ofInt 1))) [false, false, false] 33 hq rfl ⟨g0, (show xe_c .eq (xg 0 h.2.1 64 (7 * nI y + nI m).toNatClampNeg) 0 = false by rw [a1, c1]; rfl), (show xe_c .eq (xg 0 h.2.1 64 (7 * nI m + nI j).toNatClampNeg) 0 = false by rw [a2, c2]; rfl), trivial⟩ (fun _ => ?_)
        rw [nx, e3]
        refine ih f (j + 1) _ (by omega) (a_rq_ui hq) (fx_ui ge rfl) (fun y' x' hy' hx' => ?_)
        by_cases e : y' = y ∧ x' = j
        · obtain ⟨rfl, rfl⟩ := e
          rw [gx_s]
          unfold upr
          rw [if_pos ⟨rfl, by omega⟩, c1, c2, Bool.true_and, Bool.or_true]
          rfl
        · rw [gx_k (by omega), I y' x' hy' hx']
          unfold upr
          by_cases u : y' = y ∧ x' < j
          · rw [if_pos u, if_pos ⟨u.1, by omega⟩]
          · rw [if_neg u, if_neg (by omega)]
set_option maxRecDepth 100000 in
set_option maxHeartbeats 4000000 in
theorem cl_y {C : Nat → Nat → Bool} {m : Nat} (hm : m < 7) {Q : Option Value → xh_H → Prop} (K : ∀ (f : Nat) (h : xh_H), a_rq a_tb h → fx S64 fN hb h → mC (clo C (7 * (m + 1))) h → xq f xi_X10_layOptions xmi_X10_layOptions 86 [(0, .ref 39), (1, .int (nI (m + 1)))] [] h Q) : ∀ (n f y : Nat) (h : xh_H), y + n = 7 → a_rq a_tb h → fx S64 fN hb h → mC (clo C (7 * m + y)) h → xq f xi_X10_layOptions xmi_X10_layOptions 94 [(0, .ref 39), (1, .int (nI m)), (2, .int (nI y))] [] h Q := by
  intro n
  induction n with
  | zero =>
    intro f y h hn hq ge I
    have e : y = 7 := by omega
    subst e
    refine xq_n 86 [0, 1] [(0, .ref 39), (1, .int ((nI m) + Int32.ofInt 1))] [] h [true] 7 hq rfl ⟨rfl, trivial⟩ (fun _ => ?_)
    rw [show nI m + Int32.ofInt 1 = nI (m + 1) from nI_1 m]
    exact K f h hq ge (by rw [show 7 * (m + 1) = 7 * m + 7 by omega]; exact I)
  | succ n ih =>
    intro f y h hn hq ge I
    refine xq_n 102 [0, 1, 2, 3] [(0, .ref 39), (1, .int (nI m)), (2, .int (nI y)), (3, .int (Int32.ofInt 0))] [] h [false] 7 hq rfl ⟨(show xe_c .ge (nI y) 7 = false from nge_f (b := 7) (by omega) (by decide) (by omega)), trivial⟩ (fun _ => ?_)
    refine cl_x hm (y := y) (by omega) (fun f h hq ge J => ih f (y + 1) h (by omega) hq ge ?_) 7 f 0 h (by omega) hq ge (fun y' x' hy' hx' => by rw [upr_0]; exact I y' x' hy' hx')
    rw [show 7 * m + (y + 1) = (7 * m + y) + 1 by omega]
    show mC (upr (clo C (7 * m + y)) ((7 * m + y) / 7) ((7 * m + y) % 7) 7) h
    rw [show (7 * m + y) / 7 = m by omega, show (7 * m + y) % 7 = y by omega]
    exact J
set_option maxRecDepth 100000 in
set_option maxHeartbeats 4000000 in
theorem cl_m {C : Nat → Nat → Bool} : ∀ (n f m : Nat) (h : xh_H), m + n = 7 → a_rq a_tb h → fx S64 fN hb h → mC (clo C (7 * m)) h → xq f xi_X10_layOptions xmi_X10_layOptions 86 [(0, .ref 39), (1, .int (nI m))] [] h (fun v h' => v = none ∧ fx S64 fN hb h' ∧ mC (clo C 49) h') := by
  intro n
  induction n with
  | zero =>
    intro f m h hn hq ge I
    have e : m = 7 := by omega
    subst e
    refine xq_n 166 [] [] [] h [true] 5 hq rfl ⟨rfl, trivial⟩ (fun _ => ?_)
    exact xq_ret rfl rfl rfl ⟨rfl, ge, I⟩
  | succ n ih =>
    intro f m h hn hq ge I
    refine xq_n 94 [0, 1, 2] [(0, .ref 39), (1, .int (nI m)), (2, .int (Int32.ofInt 0))] [] h [false] 7 hq rfl ⟨(show xe_c .ge (nI m) 7 = false from nge_f (b := 7) (by omega) (by decide) (by omega)), trivial⟩ (fun _ => ?_)
    exact cl_y (m := m) (by omega) (fun f h hq ge J => ih f (m + 1) h (by omega) hq ge J) 7 f 0 h (by omega) hq ge (by rw [Nat.add_zero]; exact I)
end
def SLO (c k : Nat) : Bool := S53 c k || S634 c k
/-- what the options' matrices hold -/
def loQ (PL : Nat → Int32) (W : Nat → Bool) (mem : Nat) (h h' : xh_H) : Prop := fx SLO fN h h' ∧ (∀ s, s < 2 ^ mem → xg 0 h'.2.1 53 s = bl (W s)) ∧ (∀ x y, x < 7 → y < 7 → xg 0 h'.2.1 63 (7 * x + y) = bl (BT PL W mem x y)) ∧ mC (clo (fun y x => BT PL W mem x y) 49) h'
set_option maxRecDepth 100000 in
set_option maxHeartbeats 4000000 in
theorem lo_out {mem : Nat} {PL : Nat → Int32} {W : Nat → Bool} {hb : xh_H} (m12 : mem ≤ 12) (e4 : xg 0 hb.2.1 39 4 = nI mem) (hP : ∀ k, k < 84 → xg 0 hb.2.1 62 k = PL k) (hW : ∀ s, s < 2 ^ mem → xg 0 hb.2.1 53 s = bl (W s)) : ∀ (n f x : Nat) (h : xh_H), x + n = 7 → a_rq a_tb h → fx S634 fN hb h → lI (BT PL W mem) x 0 h → xq f xi_X10_layOptions xmi_X10_layOptions 6 [(0, .ref 39), (1, .int (nI x))] [] h (fun v h' => v = none ∧ loQ PL W mem hb h') := by
  intro n
  induction n with
  | zero =>
    intro f x h hn hq ge I
    have e : x = 7 := by omega
    subst e
    refine xq_n 86 [0, 1] [(0, .ref 39), (1, .int (Int32.ofInt 0))] [] h [true] 6 hq rfl ⟨rfl, trivial⟩ (fun _ => ?_)
    refine xq_mono (cl_m (C := fun y x => BT PL W mem x y) (hb := h) 7 f 0 h (by omega) hq fx_0 (fun y' x' hy' hx' => (I x' y' hx' hy' (by omega)).2)) (fun v h' e => ?_)
    obtain ⟨e1, e2, e3⟩ := e
    refine ⟨e1, fx_t (fx_w ge (fun _ _ z => (or_f z).2) (fun _ _ z => z)) (fx_w e2 (fun c k z => (or_f (or_f z).2).2) (fun _ _ z => z)), fun s hs => (fx_i e2 rfl).trans ((fx_i ge rfl).trans (hW s hs)), fun x y hx hy => (fx_i e2 rfl).trans (I x y hx hy (by omega)).1, e3⟩
  | succ n ih =>
    intro f x h hn hq ge I
    refine xq_n 14 [0, 1, 2] [(0, .ref 39), (1, .int (nI x)), (2, .int (Int32.ofInt 0))] [] h [false] 7 hq rfl ⟨(show xe_c .ge (nI x) 7 = false from nge_f (b := 7) (by omega) (by decide) (by omega)), trivial⟩ (fun _ => ?_)
    exact lo_in m12 e4 hP hW (x := x) (by omega) (fun f h hq ge J => ih f (x + 1) h (by omega) hq ge J) 7 f 0 h (by omega) hq ge I
set_option maxRecDepth 100000 in
set_option maxHeartbeats 4000000 in
/-- X10.layOptions -/
theorem lop_q {f mem sc : Nat} {FR RW PL : Nat → Int32} {d : Int32} {h : xh_H} (m12 : mem ≤ 12) (e4 : xg 0 h.2.1 39 4 = nI mem) (e33 : xg 0 h.2.1 39 33 = nI sc) (sc8 : sc ≤ 8) (e3 : xg 0 h.2.1 39 3 = d) (hF : ∀ k, k < sc → xg 0 h.2.1 51 k = FR k) (hT : ∀ k, k < sc → (xg 0 h.2.1 52 k).toInt ≤ 999) (hR : ∀ k s, k < sc → s < 2 ^ mem → ∃ b : Bool, RW (4096 * k + s) = bl b ∧ xg 0 h.2.1 44 (4096 * k + s) = bl b) (hP : ∀ k, k < 84 → xg 0 h.2.1 62 k = PL k) (hq : a_rq a_tb h) : xq f xi_X10_layOptions xmi_X10_layOptions 0 [(0, .ref 39)] [] h (fun v h' => v = none ∧ loQ PL (cvB FR RW mem sc d) mem h h') := by
  refine xq_n 1 [0] [(0, .ref 39)] [.ref 39] h [] 3 hq rfl trivial (fun _ => ?_)
  refine xq_run hq rfl rfl (lay_q m12 e4 e33 sc8 e3 hF hT hR hq) ?_
  rintro v h1 ⟨rfl, g1, w35, w53⟩
  have hq := fx_q g1 hq
  refine xq_n 6 [0, 1] [(0, .ref 39), (1, .int (Int32.ofInt 0))] [] h1 [] 4 hq rfl trivial (fun _ => ?_)
  refine xq_mono (lo_out (PL := PL) (W := cvB FR RW mem sc d) m12 ((fx_i g1 rfl).trans e4) (fun k hk' => (fx_i g1 rfl).trans (hP k hk')) w53 7 f 0 h1 (by omega) hq fx_0 (fun x' y' hx' hy' z => absurd z (by omega))) (fun v h' e => ?_)
  exact ⟨e.1, fx_t (fx_w g1 (fun _ _ z => (or_f z).1) (fun _ _ z => z)) e.2.1, e.2.2⟩
end XLO2
