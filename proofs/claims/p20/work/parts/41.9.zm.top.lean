section XTO
set_option maxRecDepth 100000 in
set_option maxHeartbeats 4000000 in
/-- Ballot.wins -/
theorem wins_q {f x y : Nat} {B : Nat → Nat → Bool} {h : xh_H} (hx : x < 7) (hy : y < 7) (hB : ∀ x, x < 7 → xg 0 h.2.1 31 x = nI (msk (B x) 7)) (hq : a_rq a_tb h) : xq f xi_X0_wins xmi_X0_wins 0 [(0, .ref 28), (1, .int (nI x)), (2, .int (nI y))] [] h (fun v h' => h = h' ∧ v = some (.int (bl (B x y)))) := by
  have e : ((xg 0 h.2.1 31 (nI x).toNatClampNeg >>> (nI y &&& 31)) &&& Int32.ofInt 1) = bl (B x y) := by rw [nI_clamp (by omega), hB x hx, msk_b hy]
  cases c : B x y with
  | false =>
    refine xq_n 18 [] [] [.int (Int32.ofInt 0)] h [true] 12 hq rfl ⟨(show xe_c .eq ((xg 0 h.2.1 31 (nI x).toNatClampNeg >>> (nI y &&& 31)) &&& Int32.ofInt 1) 0 = true by rw [e, c]; rfl), trivial⟩ (fun _ => ?_)
    exact xq_ret rfl rfl rfl ⟨rfl, rfl⟩
  | true =>
    refine xq_n 18 [] [] [.int (Int32.ofInt 1)] h [false] 12 hq rfl ⟨(show xe_c .eq ((xg 0 h.2.1 31 (nI x).toNatClampNeg >>> (nI y &&& 31)) &&& Int32.ofInt 1) 0 = false by rw [e, c]; rfl), trivial⟩ (fun _ => ?_)
    exact xq_ret rfl rfl rfl ⟨rfl, rfl⟩
def S32 (c _k : Nat) : Bool := Nat.beq c 32
section
variable {B : Nat → Nat → Bool} {hb : xh_H}
/-- the rows of what comes behind what -/
def rC (C : Nat → Nat → Bool) (n : Nat) (h : xh_H) : Prop := ∀ y, y < n → xg 0 h.2.1 32 y = nI (msk (C y) 7)
set_option maxRecDepth 100000 in
set_option maxHeartbeats 4000000 in
theorem re_in (hB : ∀ x, x < 7 → xg 0 hb.2.1 31 x = nI (msk (B x) 7)) {y : Nat} (hy : y < 7) {Q : Option Value → xh_H → Prop} (K : ∀ (f : Nat) (h : xh_H), a_rq a_tb h → fx S32 fN hb h → rC (fun y x => B x y) (y + 1) h → xq f xi_X0_findReach xmi_X0_findReach 2 [(0, .ref 28), (1, .int (nI (y + 1)))] [] h Q) : ∀ (n f x : Nat) (h : xh_H), x + n = 7 → a_rq a_tb h → fx S32 fN hb h → rC (fun y x => B x y) y h → xg 0 h.2.1 32 y = nI (msk (fun x => B x y) x) → xq f xi_X0_findReach xmi_X0_findReach 17 [(0, .ref 28), (1, .int (nI y)), (2, .int (nI x))] [] h Q := by
  intro n
  induction n with
  | zero =>
    intro f x h hn hq ge R w
    have e : x = 7 := by omega
    subst e
    refine xq_n 2 [0, 1] [(0, .ref 28), (1, .int ((nI y) + Int32.ofInt 1))] [] h [true] 7 hq rfl ⟨rfl, trivial⟩ (fun _ => ?_)
    rw [show nI y + Int32.ofInt 1 = nI (y + 1) from nI_1 y]
    refine K f h hq ge (fun y' hy' => ?_)
    by_cases z : y' = y
    · rw [z]; exact w
    · exact R y' (by omega)
  | succ n ih =>
    intro f x h hn hq ge R w
    have xl : x < 7 := by omega
    have g0 : xe_c .ge (nI x) 7 = false := nge_f (b := 7) (by omega) (by decide) xl
    have nx : nI x + Int32.ofInt 1 = nI (x + 1) := nI_1 x
    have es : msk (fun x => B x y) (x + 1) = if B x y = true then msk (fun x => B x y) x ||| 2 ^ x else msk (fun x => B x y) x := rfl
    refine xq_n 26 [0, 1, 2] [(0, .ref 28), (1, .int (nI y)), (2, .int (nI x))] [.int (nI y), .int (nI x), .ref 28] h [false] 8 hq rfl ⟨g0, trivial⟩ (fun _ => ?_)
    refine xq_run hq rfl rfl (wins_q (B := B) xl hy (fun x hx => (fx_i ge rfl).trans (hB x hx)) hq) ?_
    rintro v h1 ⟨rfl, rfl⟩
    cases c : B x y with
    | false =>
      refine xq_n 17 [0, 1, 2] [(0, .ref 28), (1, .int (nI y)), (2, .int ((nI x) + Int32.ofInt 1))] [] h [true] 5 hq rfl ⟨rfl, trivial⟩ (fun _ => ?_)
      rw [nx]
      exact ih f (x + 1) h (by omega) hq ge R (by rw [es, c, if_neg (by decide)]; exact w)
    | true =>
      refine xq_n 17 [0, 1, 2] [(0, .ref 28), (1, .int (nI y)), (2, .int ((nI x) + Int32.ofInt 1))] [] (xh_ui h 32 (nI y).toNatClampNeg ((xg 0 h.2.1 32 (nI y).toNatClampNeg) ||| ((Int32.ofInt 1) <<< ((nI x) &&& 31)))) [false] 15 hq rfl ⟨rfl, trivial⟩ (fun _ => ?_)
      rw [nx, show (nI y).toNatClampNeg = y from nI_clamp (by omega), w, nI_o1 (by omega)]
      exact ih f (x + 1) _ (by omega) (a_rq_ui hq) (fx_ui ge rfl) (fun y' hy' => (gx_k (by omega)).trans (R y' hy')) (by rw [gx_s, es, c, if_pos rfl])
set_option maxRecDepth 100000 in
set_option maxHeartbeats 4000000 in
theorem rm_y {C : Nat → Nat → Bool} {m : Nat} (hm : m < 7) {Q : Option Value → xh_H → Prop} (K : ∀ (f : Nat) (h : xh_H), a_rq a_tb h → fx S32 fN hb h → rC (clo C (7 * (m + 1))) 7 h → xq f xi_X0_findReach xmi_X0_findReach 58 [(0, .ref 28), (1, .int (nI (m + 1)))] [] h Q) : ∀ (n f y : Nat) (h : xh_H), y + n = 7 → a_rq a_tb h → fx S32 fN hb h → rC (clo C (7 * m + y)) 7 h → xq f xi_X0_findReach xmi_X0_findReach 66 [(0, .ref 28), (1, .int (nI m)), (2, .int (nI y))] [] h Q := by
  intro n
  induction n with
  | zero =>
    intro f y h hn hq ge R
    have e : y = 7 := by omega
    subst e
    refine xq_n 58 [0, 1] [(0, .ref 28), (1, .int ((nI m) + Int32.ofInt 1))] [] h [true] 7 hq rfl ⟨rfl, trivial⟩ (fun _ => ?_)
    rw [show nI m + Int32.ofInt 1 = nI (m + 1) from nI_1 m]
    exact K f h hq ge (by rw [show 7 * (m + 1) = 7 * m + 7 by omega]; exact R)
  | succ n ih =>
    intro f y h hn hq ge R
    have yl : y < 7 := by omega
    have g0 : xe_c .ge (nI y) 7 = false := nge_f (b := 7) (by omega) (by decide) yl
    have nx : nI y + Int32.ofInt 1 = nI (y + 1) := nI_1 y
    have ec : clo C (7 * m + (y + 1)) = upr (clo C (7 * m + y)) m y 7 := by
      rw [show 7 * m + (y + 1) = (7 * m + y) + 1 by omega]
      show upr (clo C (7 * m + y)) ((7 * m + y) / 7) ((7 * m + y) % 7) 7 = _
      rw [show (7 * m + y) / 7 = m by omega, show (7 * m + y) % 7 = y by omega]
    have ek : (nI y).toNatClampNeg = y := nI_clamp (by omega)
    have em : (nI m).toNatClampNeg = m := nI_clamp (by omega)
    have e1 : ((xg 0 h.2.1 32 (nI y).toNatClampNeg >>> (nI m &&& 31)) &&& Int32.ofInt 1) = bl (clo C (7 * m + y) y m) := by rw [ek, R y yl, msk_b hm]
    generalize hD : clo C (7 * m + y) = D at R ec e1
    cases c : D y m with
    | false =>
      refine xq_n 66 [0, 1, 2] [(0, .ref 28), (1, .int (nI m)), (2, .int ((nI y) + Int32.ofInt 1))] [] h [false, true] 16 hq rfl ⟨g0, (show xe_c .eq ((xg 0 h.2.1 32 (nI y).toNatClampNeg >>> (nI m &&& 31)) &&& Int32.ofInt 1) 0 = true by rw [e1, c]; rfl), trivial⟩ (fun _ => ?_)
      rw [nx]
      refine ih f (y + 1) h (by omega) hq ge ?_
      rw [ec]
      intro y' hy'
      rw [R y' hy']
      congr 1
      refine msk_c 7 (fun x hx => ?_)
      unfold upr
      by_cases z : y' = y ∧ x < 7
      · rw [if_pos z, c, Bool.false_and, Bool.or_false, z.1]
      · rw [if_neg z]
    | true =>
      refine xq_n 66 [0, 1, 2] [(0, .ref 28), (1, .int (nI m)), (2, .int ((nI y) + Int32.ofInt 1))] [] (xh_ui h 32 (nI y).toNatClampNeg ((xg 0 h.2.1 32 (nI y).toNatClampNeg) ||| (xg 0 h.2.1 32 (nI m).toNatClampNeg))) [false, false] 28 hq rfl ⟨g0, (show xe_c .eq ((xg 0 h.2.1 32 (nI y).toNatClampNeg >>> (nI m &&& 31)) &&& Int32.ofInt 1) 0 = false by rw [e1, c]; rfl), trivial⟩ (fun _ => ?_)
      rw [nx, ek, em, R y yl, R m hm, msk_or]
      refine ih f (y + 1) _ (by omega) (a_rq_ui hq) (fx_ui ge rfl) ?_
      rw [ec]
      intro y' hy'
      by_cases z : y' = y
      · subst z
        rw [gx_s]
        congr 1
        refine msk_c 7 (fun x hx => ?_)
        unfold upr
        rw [if_pos ⟨rfl, hx⟩, c, Bool.true_and]
      · rw [gx_k z, R y' hy']
        congr 1
        refine msk_c 7 (fun x hx => ?_)
        unfold upr
        rw [if_neg (fun w => z w.1)]
set_option maxRecDepth 100000 in
set_option maxHeartbeats 4000000 in
theorem rm_m {C : Nat → Nat → Bool} : ∀ (n f m : Nat) (h : xh_H), m + n = 7 → a_rq a_tb h → fx S32 fN hb h → rC (clo C (7 * m)) 7 h → xq f xi_X0_findReach xmi_X0_findReach 58 [(0, .ref 28), (1, .int (nI m))] [] h (fun v h' => v = none ∧ fx S32 fN hb h' ∧ rC (clo C 49) 7 h') := by
  intro n
  induction n with
  | zero =>
    intro f m h hn hq ge R
    have e : m = 7 := by omega
    subst e
    refine xq_n 112 [] [] [] h [true] 5 hq rfl ⟨rfl, trivial⟩ (fun _ => ?_)
    exact xq_ret rfl rfl rfl ⟨rfl, ge, R⟩
  | succ n ih =>
    intro f m h hn hq ge R
    refine xq_n 66 [0, 1, 2] [(0, .ref 28), (1, .int (nI m)), (2, .int (Int32.ofInt 0))] [] h [false] 7 hq rfl ⟨(show xe_c .ge (nI m) 7 = false from nge_f (b := 7) (by omega) (by decide) (by omega)), trivial⟩ (fun _ => ?_)
    exact rm_y (m := m) (by omega) (fun f h hq ge J => ih f (m + 1) h (by omega) hq ge J) 7 f 0 h (by omega) hq ge (by rw [Nat.add_zero]; exact R)
set_option maxRecDepth 100000 in
set_option maxHeartbeats 4000000 in
theorem re_out (hB : ∀ x, x < 7 → xg 0 hb.2.1 31 x = nI (msk (B x) 7)) : ∀ (n f y : Nat) (h : xh_H), y + n = 7 → a_rq a_tb h → fx S32 fN hb h → rC (fun y x => B x y) y h → xq f xi_X0_findReach xmi_X0_findReach 2 [(0, .ref 28), (1, .int (nI y))] [] h (fun v h' => v = none ∧ fx S32 fN hb h' ∧ rC (clo (fun y x => B x y) 49) 7 h') := by
  intro n
  induction n with
  | zero =>
    intro f y h hn hq ge R
    have e : y = 7 := by omega
    subst e
    refine xq_n 58 [0, 1] [(0, .ref 28), (1, .int (Int32.ofInt 0))] [] h [true] 6 hq rfl ⟨rfl, trivial⟩ (fun _ => ?_)
    exact rm_m 7 f 0 h (by omega) hq ge R
  | succ n ih =>
    intro f y h hn hq ge R
    refine xq_n 17 [0, 1, 2] [(0, .ref 28), (1, .int (nI y)), (2, .int (Int32.ofInt 0))] [] (xh_ui h 32 (nI y).toNatClampNeg (Int32.ofInt 0)) [false] 12 hq rfl ⟨(show xe_c .ge (nI y) 7 = false from nge_f (b := 7) (by omega) (by decide) (by omega)), trivial⟩ (fun _ => ?_)
    rw [show (nI y).toNatClampNeg = y from nI_clamp (by omega)]
    exact re_in hB (y := y) (by omega) (fun f h hq ge J => ih f (y + 1) h (by omega) hq ge J) 7 f 0 _ (by omega) (a_rq_ui hq) (fx_ui ge rfl) (fun y' hy' => (gx_k (by omega)).trans (R y' hy')) gx_s
set_option maxRecDepth 100000 in
/-- Ballot.findReach -/
theorem re_q {f : Nat} (hB : ∀ x, x < 7 → xg 0 hb.2.1 31 x = nI (msk (B x) 7)) (hq : a_rq a_tb hb) : xq f xi_X0_findReach xmi_X0_findReach 0 [(0, .ref 28)] [] hb (fun v h' => v = none ∧ fx S32 fN hb h' ∧ rC (clo (fun y x => B x y) 49) 7 h') := by
  refine xq_n 2 [0, 1] [(0, .ref 28), (1, .int (Int32.ofInt 0))] [] hb [] 4 hq rfl trivial (fun _ => ?_)
  exact re_out hB 7 f 0 hb (by omega) hq fx_0 (fun y hy => absurd hy (Nat.not_lt_zero y))
end
/-- nothing below y comes behind x for which x doesn't come -/
def tpg (C : Nat → Nat → Bool) (x : Nat) : Nat → Bool
  | 0 => true
  | y + 1 => tpg C x y && !(C x y && !C y x)
theorem tpg_t {C : Nat → Nat → Bool} {x y : Nat} (h : (C x y && !C y x) = false) : tpg C x (y + 1) = tpg C x y := by
  show (tpg C x y && !(C x y && !C y x)) = _
  rw [h]
  cases tpg C x y <;> rfl
theorem tpg_f {C : Nat → Nat → Bool} {x y : Nat} (h : (C x y && !C y x) = true) : tpg C x (y + 1) = false := by
  show (tpg C x y && !(C x y && !C y x)) = _
  rw [h]
  cases tpg C x y <;> rfl
section
variable {C : Nat → Nat → Bool} {h : xh_H}
set_option maxRecDepth 100000 in
set_option maxHeartbeats 4000000 in
theorem be_in (R : rC C 7 h) (hq : a_rq a_tb h) {x : Nat} {v1 : Int32} (hx : x < 7) {Q : Option Value → xh_H → Prop} (K : ∀ (f : Nat), xq f xi_X0_best xmi_X0_best 62 [(0, .ref 28), (1, .int v1), (2, .int (nI x)), (3, .int (bl (tpg C x 7)))] [] h Q) : ∀ (n f y : Nat), y + n = 7 → xq f xi_X0_best xmi_X0_best 19 [(0, .ref 28), (1, .int v1), (2, .int (nI x)), (3, .int (bl (tpg C x y))), (4, .int (nI y))] [] h Q := by
  intro n
  induction n with
  | zero =>
    intro f y hn
    have e : y = 7 := by omega
    subst e
    refine xq_n 62 [0, 1, 2, 3] [(0, .ref 28), (1, .int v1), (2, .int (nI x)), (3, .int (bl (tpg C x 7)))] [] h [true] 5 hq rfl ⟨rfl, trivial⟩ (fun _ => ?_)
    exact K f
  | succ n ih =>
    intro f y hn
    have yl : y < 7 := by omega
    have g0 : xe_c .ge (nI y) 7 = false := nge_f (b := 7) (by omega) (by decide) yl
    have nx : nI y + Int32.ofInt 1 = nI (y + 1) := nI_1 y
    have e1 : ((xg 0 h.2.1 32 (nI x).toNatClampNeg >>> (nI y &&& 31)) &&& Int32.ofInt 1) = bl (C x y) := by rw [nI_clamp (by omega), R x hx, msk_b yl]
    have e2 : ((xg 0 h.2.1 32 (nI y).toNatClampNeg >>> (nI x &&& 31)) &&& Int32.ofInt 1) = bl (C y x) := by rw [nI_clamp (by omega), R y yl, msk_b hx]
    cases c1 : C x y with
    | false =>
      refine xq_n 19 [0, 1, 2, 3, 4] [(0, .ref 28), (1, .int v1), (2, .int (nI x)), (3, .int (bl (tpg C x y))), (4, .int ((nI y) + Int32.ofInt 1))] [] h [false, true] 16 hq rfl ⟨g0, (show xe_c .eq ((xg 0 h.2.1 32 (nI x).toNatClampNeg >>> (nI y &&& 31)) &&& Int32.ofInt 1) 0 = true by rw [e1, c1]; rfl), trivial⟩ (fun _ => ?_)
      rw [nx, ← tpg_t (by rw [c1]; rfl)]
      exact ih f (y + 1) (by omega)
    | true =>
      cases c2 : C y x with
      | true =>
        refine xq_n 19 [0, 1, 2, 3, 4] [(0, .ref 28), (1, .int v1), (2, .int (nI x)), (3, .int (bl (tpg C x y))), (4, .int ((nI y) + Int32.ofInt 1))] [] h [false, false, true] 26 hq rfl ⟨g0, (show xe_c .eq ((xg 0 h.2.1 32 (nI x).toNatClampNeg >>> (nI y &&& 31)) &&& Int32.ofInt 1) 0 = false by rw [e1, c1]; rfl), (show xe_c .ne ((xg 0 h.2.1 32 (nI y).toNatClampNeg >>> (nI x &&& 31)) &&& Int32.ofInt 1) 0 = true by rw [e2, c2]; rfl), trivial⟩ (fun _ => ?_)
        rw [nx, ← tpg_t (by rw [c1, c2]; rfl)]
        exact ih f (y + 1) (by omega)
      | false =>
        refine xq_n 19 [0, 1, 2, 3, 4] [(0, .ref 28), (1, .int v1), (2, .int (nI x)), (3, .int (Int32.ofInt 0)), (4, .int ((nI y) + Int32.ofInt 1))] [] h [false, false, false] 28 hq rfl ⟨g0, (show xe_c .eq ((xg 0 h.2.1 32 (nI x).toNatClampNeg >>> (nI y &&& 31)) &&& Int32.ofInt 1) 0 = false by rw [e1, c1]; rfl), (show xe_c .ne ((xg 0 h.2.1 32 (nI y).toNatClampNeg >>> (nI x &&& 31)) &&& Int32.ofInt 1) 0 = false by rw [e2, c2]; rfl), trivial⟩ (fun _ => ?_)
        have r := ih f (y + 1) (by omega)
        rw [tpg_f (by rw [c1, c2]; rfl)] at r
        rw [nx]
        exact r
set_option maxRecDepth 100000 in
set_option maxHeartbeats 4000000 in
theorem be_out (R : rC C 7 h) (hq : a_rq a_tb h) : ∀ (n f x : Nat), x + n = 7 → xq f xi_X0_best xmi_X0_best 8 [(0, .ref 28), (1, .int (nI (msk (fun x => tpg C x 7) x))), (2, .int (nI x))] [] h (fun v h' => v = some (.int (nI (msk (fun x => tpg C x 7) 7)))) := by
  intro n
  induction n with
  | zero =>
    intro f x hn
    have e : x = 7 := by omega
    subst e
    refine xq_n 79 [] [] [.int (nI (msk (fun x => tpg C x 7) 7))] h [true] 6 hq rfl ⟨rfl, trivial⟩ (fun _ => ?_)
    exact xq_ret rfl rfl rfl rfl
  | succ n ih =>
    intro f x hn
    have g0 : xe_c .ge (nI x) 7 = false := nge_f (b := 7) (by omega) (by decide) (by omega)
    have nx : nI x + Int32.ofInt 1 = nI (x + 1) := nI_1 x
    refine xq_n 19 [0, 1, 2, 3, 4] [(0, .ref 28), (1, .int (nI (msk (fun x => tpg C x 7) x))), (2, .int (nI x)), (3, .int (Int32.ofInt 1)), (4, .int (Int32.ofInt 0))] [] h [false] 9 hq rfl ⟨g0, trivial⟩ (fun _ => ?_)
    refine be_in R hq (x := x) (by omega) (fun f => ?_) 7 f 0 (by omega)
    have es : msk (fun x => tpg C x 7) (x + 1) = if tpg C x 7 = true then msk (fun x => tpg C x 7) x ||| 2 ^ x else msk (fun x => tpg C x 7) x := rfl
    cases c : tpg C x 7 with
    | false =>
      refine xq_n 8 [0, 1, 2] [(0, .ref 28), (1, .int (nI (msk (fun x => tpg C x 7) x))), (2, .int ((nI x) + Int32.ofInt 1))] [] h [true] 6 hq rfl ⟨rfl, trivial⟩ (fun _ => ?_)
      have r := ih f (x + 1) (by omega)
      rw [es, c, if_neg (by decide)] at r
      rw [nx]
      exact r
    | true =>
      refine xq_n 8 [0, 1, 2] [(0, .ref 28), (1, .int ((nI (msk (fun x => tpg C x 7) x)) ||| ((Int32.ofInt 1) <<< ((nI x) &&& 31)))), (2, .int ((nI x) + Int32.ofInt 1))] [] h [false] 12 hq rfl ⟨rfl, trivial⟩ (fun _ => ?_)
      have r := ih f (x + 1) (by omega)
      rw [es, c, if_pos rfl] at r
      rw [nx, nI_o1 (by omega)]
      exact r
set_option maxRecDepth 100000 in
set_option maxHeartbeats 4000000 in
theorem to_in (M : mC C h) (hq : a_rq a_tb h) {x : Nat} {v1 : Int32} (hx : x < 7) {Q : Option Value → xh_H → Prop} (K : ∀ (f : Nat), xq f xi_X10_top xmi_X10_top 69 [(0, .ref 39), (1, .int v1), (2, .int (nI x)), (3, .int (bl (tpg C x 7)))] [] h Q) : ∀ (n f y : Nat), y + n = 7 → xq f xi_X10_top xmi_X10_top 24 [(0, .ref 39), (1, .int v1), (2, .int (nI x)), (3, .int (bl (tpg C x y))), (4, .int (nI y))] [] h Q := by
  intro n
  induction n with
  | zero =>
    intro f y hn
    have e : y = 7 := by omega
    subst e
    refine xq_n 69 [0, 1, 2, 3] [(0, .ref 39), (1, .int v1), (2, .int (nI x)), (3, .int (bl (tpg C x 7)))] [] h [true] 5 hq rfl ⟨rfl, trivial⟩ (fun _ => ?_)
    exact K f
  | succ n ih =>
    intro f y hn
    have yl : y < 7 := by omega
    have g0 : xe_c .ge (nI y) 7 = false := nge_f (b := 7) (by omega) (by decide) yl
    have nx : nI y + Int32.ofInt 1 = nI (y + 1) := nI_1 y
    have e1 : xg 0 h.2.1 64 (7 * nI x + nI y).toNatClampNeg = bl (C x y) := by rw [i7_b, nI_clamp (by omega)]; exact M x y hx yl
    have e2 : xg 0 h.2.1 64 (7 * nI y + nI x).toNatClampNeg = bl (C y x) := by rw [i7_b, nI_clamp (by omega)]; exact M y x yl hx
    cases c1 : C x y with
    | false =>
      refine xq_n 24 [0, 1, 2, 3, 4] [(0, .ref 39), (1, .int v1), (2, .int (nI x)), (3, .int (bl (tpg C x y))), (4, .int ((nI y) + Int32.ofInt 1))] [] h [false, true] 15 hq rfl ⟨g0, (show xe_c .eq (xg 0 h.2.1 64 (7 * nI x + nI y).toNatClampNeg) 0 = true by rw [e1, c1]; rfl), trivial⟩ (fun _ => ?_)
      rw [nx, ← tpg_t (by rw [c1]; rfl)]
      exact ih f (y + 1) (by omega)
    | true =>
      cases c2 : C y x with
      | true =>
        refine xq_n 24 [0, 1, 2, 3, 4] [(0, .ref 39), (1, .int v1), (2, .int (nI x)), (3, .int (bl (tpg C x y))), (4, .int ((nI y) + Int32.ofInt 1))] [] h [false, false, true] 24 hq rfl ⟨g0, (show xe_c .eq (xg 0 h.2.1 64 (7 * nI x + nI y).toNatClampNeg) 0 = false by rw [e1, c1]; rfl), (show xe_c .ne (xg 0 h.2.1 64 (7 * nI y + nI x).toNatClampNeg) 0 = true by rw [e2, c2]; rfl), trivial⟩ (fun _ => ?_)
        rw [nx, ← tpg_t (by rw [c1, c2]; rfl)]
        exact ih f (y + 1) (by omega)
      | false =>
        refine xq_n 24 [0, 1, 2, 3, 4] [(0, .ref 39), (1, .int v1), (2, .int (nI x)), (3, .int (Int32.ofInt 0)), (4, .int ((nI y) + Int32.ofInt 1))] [] h [false, false, false] 26 hq rfl ⟨g0, (show xe_c .eq (xg 0 h.2.1 64 (7 * nI x + nI y).toNatClampNeg) 0 = false by rw [e1, c1]; rfl), (show xe_c .ne (xg 0 h.2.1 64 (7 * nI y + nI x).toNatClampNeg) 0 = false by rw [e2, c2]; rfl), trivial⟩ (fun _ => ?_)
        have r := ih f (y + 1) (by omega)
        rw [tpg_f (by rw [c1, c2]; rfl)] at r
        rw [nx]
        exact r
set_option maxRecDepth 100000 in
set_option maxHeartbeats 4000000 in
theorem to_out (M : mC C h) (hq : a_rq a_tb h) : ∀ (n f x : Nat), x + n = 7 → xq f xi_X10_top xmi_X10_top 13 [(0, .ref 39), (1, .int (nI (msk (fun x => tpg C x 7) x))), (2, .int (nI x))] [] h (fun v h' => v = some (.int (nI (msk (fun x => tpg C x 7) 7)))) := by
  intro n
  induction n with
  | zero =>
    intro f x hn
    have e : x = 7 := by omega
    subst e
    refine xq_n 86 [] [] [.int (nI (msk (fun x => tpg C x 7) 7))] h [true] 6 hq rfl ⟨rfl, trivial⟩ (fun _ => ?_)
    exact xq_ret rfl rfl rfl rfl
  | succ n ih =>
    intro f x hn
    have g0 : xe_c .ge (nI x) 7 = false := nge_f (b := 7) (by omega) (by decide) (by omega)
    have nx : nI x + Int32.ofInt 1 = nI (x + 1) := nI_1 x
    refine xq_n 24 [0, 1, 2, 3, 4] [(0, .ref 39), (1, .int (nI (msk (fun x => tpg C x 7) x))), (2, .int (nI x)), (3, .int (Int32.ofInt 1)), (4, .int (Int32.ofInt 0))] [] h [false] 9 hq rfl ⟨g0, trivial⟩ (fun _ => ?_)
    refine to_in M hq (x := x) (by omega) (fun f => ?_) 7 f 0 (by omega)
    have es : msk (fun x => tpg C x 7) (x + 1) = if tpg C x 7 = true then msk (fun x => tpg C x 7) x ||| 2 ^ x else msk (fun x => tpg C x 7) x := rfl
    cases c : tpg C x 7 with
    | false =>
      refine xq_n 13 [0, 1, 2] [(0, .ref 39), (1, .int (nI (msk (fun x => tpg C x 7) x))), (2, .int ((nI x) + Int32.ofInt 1))] [] h [true] 6 hq rfl ⟨rfl, trivial⟩ (fun _ => ?_)
      have r := ih f (x + 1) (by omega)
      rw [es, c, if_neg (by decide)] at r
      rw [nx]
      exact r
    | true =>
      refine xq_n 13 [0, 1, 2] [(0, .ref 39), (1, .int ((nI (msk (fun x => tpg C x 7) x)) ||| ((Int32.ofInt 1) <<< ((nI x) &&& 31)))), (2, .int ((nI x) + Int32.ofInt 1))] [] h [false] 12 hq rfl ⟨rfl, trivial⟩ (fun _ => ?_)
      have r := ih f (x + 1) (by omega)
      rw [es, c, if_pos rfl] at r
      rw [nx, nI_o1 (by omega)]
      exact r
end
/-- what top answers -/
def toA (B : Nat → Nat → Bool) : Int32 := nI (msk (fun x => tpg (clo (fun y x => B x y) 49) x 7) 7)
set_option maxRecDepth 100000 in
set_option maxHeartbeats 4000000 in
theorem to9_q {f mem sc : Nat} {PL : Nat → Int32} {d : Int32} {h : xh_H} (hi : a_inv a_tb h) (e9 : xg 0 h.2.1 0 9 = nI mem) (m12 : mem ≤ 12) (e8 : xg 0 h.2.1 0 8 = nI sc) (sc8 : sc ≤ 8) (e10 : xg 0 h.2.1 0 10 = d) (si : SI h) (hP : ∀ k, k < 84 → xg 0 h.2.1 30 k = PL k) (hq : a_rq a_tb h) : xq f xi_X9_top xmi_X9_top 0 [(0, .ref 0)] [] h (fun v h' => v = some (.int (toA (BT PL (cvB (fun k => xg 0 h.2.1 51 k) (fun k => xg 0 h.2.1 44 k) mem sc d) mem)))) := by
  obtain ⟨⟨u1, u2, u3⟩, si⟩ := si
  obtain ⟨SS, un⟩ := si mem sc e9 m12 e8 sc8
  refine xq_n 9 [0] [(0, .ref 0)] [.int (xg 0 h.2.1 0 10), .ref 0, .ref 28] h [] 7 hq rfl trivial (fun _ => ?_)
  rw [e10]
  refine xq_run hq rfl rfl (if9_q hi e8 sc8 u1 u2 SS hq) ?_
  rintro v h1 ⟨rfl, Q, rfl, fd⟩
  refine xq_n 16 [0] [(0, .ref 0)] [.int (xg 0 h.2.1 0 9), .ref Q, .ref 28] h [] 4 hq rfl trivial (fun _ => ?_)
  rw [e9]
  obtain ⟨r, g1, g2, -⟩ := hv_cv hi m12 SS un u3 hq (s := 0) (Nat.two_pow_pos mem) fd
  refine xq_run hq rfl rfl (mat_q (PL := PL) (W := cvB (fun k => xg 0 h.2.1 51 k) (fun k => xg 0 h.2.1 44 k) mem sc d) m12 fd.1 g1 g2 (fun s hs => by
    obtain ⟨r', g1', -, g3⟩ := hv_cv hi m12 SS un u3 hq hs fd
    rw [g1] at g1'
    cases g1'
    exact g3) hP hq) ?_
  rintro v h1 ⟨rfl, g4, w31⟩
  have hq := fx_q g4 hq
  refine xq_n 23 [] [] [.ref 28] h1 [] 4 hq rfl trivial (fun _ => ?_)
  refine xq_run (Q1 := fun v h' => v = some (.int (toA (BT PL (cvB (fun k => xg 0 h.2.1 51 k) (fun k => xg 0 h.2.1 44 k) mem sc d) mem)))) hq rfl rfl ?_ ?_
  · refine xq_n 1 [0] [(0, .ref 28)] [.ref 28] h1 [] 3 hq rfl trivial (fun _ => ?_)
    refine xq_run hq rfl rfl (re_q (B := BT PL (cvB (fun k => xg 0 h.2.1 51 k) (fun k => xg 0 h.2.1 44 k) mem sc d) mem) w31 hq) ?_
    rintro v h2 ⟨rfl, g5, R⟩
    have hq := fx_q g5 hq
    refine xq_n 8 [0, 1, 2] [(0, .ref 28), (1, .int (Int32.ofInt 0)), (2, .int (Int32.ofInt 0))] [] h2 [] 6 hq rfl trivial (fun _ => ?_)
    exact be_out R hq 7 f 0 (by omega)
  · rintro v h2 rfl
    exact xq_ret rfl rfl rfl rfl
set_option maxRecDepth 100000 in
set_option maxHeartbeats 4000000 in
theorem to10_q {f mem sc : Nat} {FR RW PL : Nat → Int32} {d : Int32} {h : xh_H} (m12 : mem ≤ 12) (e4 : xg 0 h.2.1 39 4 = nI mem) (e33 : xg 0 h.2.1 39 33 = nI sc) (sc8 : sc ≤ 8) (e3 : xg 0 h.2.1 39 3 = d) (hF : ∀ k, k < sc → xg 0 h.2.1 51 k = FR k) (hT : ∀ k, k < sc → (xg 0 h.2.1 52 k).toInt ≤ 999) (hR : ∀ k s, k < sc → s < 2 ^ mem → ∃ b : Bool, RW (4096 * k + s) = bl b ∧ xg 0 h.2.1 44 (4096 * k + s) = bl b) (hP : ∀ k, k < 84 → xg 0 h.2.1 62 k = PL k) (hq : a_rq a_tb h) : xq f xi_X10_top xmi_X10_top 0 [(0, .ref 39)] [] h (fun v h' => v = some (.int (toA (BT PL (cvB FR RW mem sc d) mem)))) := by
  refine xq_n 6 [0] [(0, .ref 39)] [.ref 39] (xh_ui h 39 0 (Int32.ofInt 0)) [] 6 hq rfl trivial (fun _ => ?_)
  have hq : a_rq a_tb (xh_ui h 39 0 (Int32.ofInt 0)) := a_rq_ui hq
  refine xq_run hq rfl rfl (lop_q (FR := FR) (RW := RW) (PL := PL) (h := xh_ui h 39 0 (Int32.ofInt 0)) m12 ((gx_k (by decide)).trans e4) ((gx_k (by decide)).trans e33) sc8 ((gx_k (by decide)).trans e3) (fun k hk' => (gx_o (by decide)).trans (hF k hk')) (fun k hk' => by rw [gx_o (by decide)]; exact hT k hk') (fun k s h1 h2 => by obtain ⟨b, b1, b2⟩ := hR k s h1 h2; exact ⟨b, b1, (gx_o (by decide)).trans b2⟩) (fun k hk' => (gx_o (by decide)).trans (hP k hk')) hq) ?_
  rintro v h1 ⟨rfl, g1, w53, w63, w64⟩
  have hq := fx_q g1 hq
  refine xq_n 13 [0, 1, 2] [(0, .ref 39), (1, .int (Int32.ofInt 0)), (2, .int (Int32.ofInt 0))] [] h1 [] 6 hq rfl trivial (fun _ => ?_)
  exact to_out w64 hq 7 f 0 (by omega)
end XTO
