section XPR
/-- what the reference has laid out -/
def RA (W : Nat → Bool) (m : Nat) (h : xh_H) : Prop := xg 0 h.2.1 39 4 = nI m ∧ xg 0 h.2.1 39 35 = nI (2 ^ m) ∧ ∀ s, s < 2 ^ m → xg 0 h.2.1 53 s = bl (W s)
section
variable {W : Nat → Bool} {m : Nat} {h : xh_H}
theorem rgf {s : Nat} (A : RA W m h) (m12 : m ≤ 12) (hs : s < 2 ^ m) : xe_c .ge (nI s) (xg 0 h.2.1 39 35) = false := by
  have p12 : 2 ^ m ≤ 4096 := show 2 ^ m ≤ 2 ^ 12 from Nat.pow_le_pow_right (by decide) m12
  rw [A.2.1]
  exact nge_f (by omega) (by omega) hs
theorem rgt (A : RA W m h) (m12 : m ≤ 12) : xe_c .ge (nI (2 ^ m)) (xg 0 h.2.1 39 35) = true := by
  have p12 : 2 ^ m ≤ 4096 := show 2 ^ m ≤ 2 ^ 12 from Nat.pow_le_pow_right (by decide) m12
  rw [A.2.1]
  exact nge_t (by omega) (by omega) (Nat.le_refl _)
theorem rb0 {s a : Nat} (m12 : m ≤ 12) (hs : s < 2 ^ m) (ha : a < m) : (nI s >>> (nI a &&& 31)) &&& Int32.ofInt 1 = bl (s.testBit a) := by
  have p12 : 2 ^ m ≤ 4096 := show 2 ^ m ≤ 2 ^ 12 from Nat.pow_le_pow_right (by decide) m12
  rw [nI_b0 (by omega) (by omega), bl_nI]
theorem rw0 {s : Nat} (A : RA W m h) (m12 : m ≤ 12) (hs : s < 2 ^ m) : xg 0 h.2.1 53 (nI s).toNatClampNeg = bl (W s) := by
  have p12 : 2 ^ m ≤ 4096 := show 2 ^ m ≤ 2 ^ 12 from Nat.pow_le_pow_right (by decide) m12
  rw [nI_clamp (by omega)]
  exact A.2.2 s hs
theorem rw1 {s a : Nat} (A : RA W m h) (m12 : m ≤ 12) (hs : s < 2 ^ m) (ha : a < m) : xg 0 h.2.1 53 (nI s ||| (Int32.ofInt 1 <<< (nI a &&& 31))).toNatClampNeg = bl (W (s ||| 2 ^ a)) := by
  rw [nI_o1 (by omega)]
  exact rw0 A m12 (or_p hs ha)
theorem rw2 {s a b : Nat} (A : RA W m h) (m12 : m ≤ 12) (hs : s < 2 ^ m) (ha : a < m) (hb : b < m) : xg 0 h.2.1 53 ((nI s ||| (Int32.ofInt 1 <<< (nI a &&& 31))) ||| (Int32.ofInt 1 <<< (nI b &&& 31))).toNatClampNeg = bl (W ((s ||| 2 ^ a) ||| 2 ^ b)) := by
  rw [nI_o1 (by omega)]
  exact rw1 A m12 (or_p hs ha) hb
theorem bn {b : Bool} {x : Int32} (e : x = bl b) : xe_c .ne x 0 = b := by rw [e]; cases b <;> rfl
theorem be' {b : Bool} {x : Int32} (e : x = bl b) : xe_c .eq x 0 = !b := by rw [e]; cases b <;> rfl
set_option maxRecDepth 100000 in
set_option maxHeartbeats 4000000 in
/-- X10.turnsOf -/
theorem tno_l {a : Nat} (A : RA W m h) (m12 : m ≤ 12) (ha : a < m) (hq : a_rq a_tb h) : ∀ (n f s : Nat), s + n = 2 ^ m → xq f xi_X10_turnsOf xmi_X10_turnsOf 4 [(0, .ref 39), (1, .int (nI a)), (2, .int (nI (cnt (tw W a) s))), (3, .int (nI s))] [] h (fun v h' => h = h' ∧ v = some (.int (nI (cnt (tw W a) (2 ^ m))))) := by
  intro n
  induction n with
  | zero =>
    intro f s sn
    have e : s = 2 ^ m := by omega
    subst e
    refine xq_n 52 [] [] [.int (nI (cnt (tw W a) (2 ^ m)))] h [true] 60 hq rfl ⟨rgt A m12, trivial⟩ (fun _ => ?_)
    exact xq_ret rfl rfl rfl ⟨rfl, rfl⟩
  | succ n ih =>
    intro f s sn
    have r := ih f (s + 1) (by omega)
    have hs : s < 2 ^ m := by omega
    have g0 := rgf A m12 hs
    have g1 := bn (rb0 m12 hs ha)
    have g2 := bn (rw0 A m12 hs)
    have g3 := be' (rw1 A m12 hs ha)
    cases c1 : s.testBit a with
    | true =>
      rw [c1] at g1
      have z : tw W a s = false := by unfold tw; rw [c1]; rfl
      rw [cnt_f z] at r
      refine xq_n 4 [0, 1, 2, 3] [(0, .ref 39), (1, .int (nI a)), (2, .int (nI (cnt (tw W a) s))), (3, .int (nI s + Int32.ofInt 1))] [] h [false, true] 60 hq rfl ⟨g0, g1, trivial⟩ (fun _ => ?_)
      rw [nI_1']
      exact r
    | false =>
      rw [c1] at g1
      cases c2 : W s with
      | true =>
        rw [c2] at g2
        have z : tw W a s = false := by unfold tw; rw [c1, c2]; rfl
        rw [cnt_f z] at r
        refine xq_n 4 [0, 1, 2, 3] [(0, .ref 39), (1, .int (nI a)), (2, .int (nI (cnt (tw W a) s))), (3, .int (nI s + Int32.ofInt 1))] [] h [false, false, true] 60 hq rfl ⟨g0, g1, g2, trivial⟩ (fun _ => ?_)
        rw [nI_1']
        exact r
      | false =>
        rw [c2] at g2
        cases c3 : W (s ||| 2 ^ a) with
        | false =>
          rw [c3] at g3
          have z : tw W a s = false := by unfold tw; rw [c1, c2, c3]; rfl
          rw [cnt_f z] at r
          refine xq_n 4 [0, 1, 2, 3] [(0, .ref 39), (1, .int (nI a)), (2, .int (nI (cnt (tw W a) s))), (3, .int (nI s + Int32.ofInt 1))] [] h [false, false, false, true] 60 hq rfl ⟨g0, g1, g2, g3, trivial⟩ (fun _ => ?_)
          rw [nI_1']
          exact r
        | true =>
          rw [c3] at g3
          have z : tw W a s = true := by unfold tw; rw [c1, c2, c3]; rfl
          rw [cnt_t z] at r
          refine xq_n 4 [0, 1, 2, 3] [(0, .ref 39), (1, .int (nI a)), (2, .int (nI (cnt (tw W a) s) + Int32.ofInt 1)), (3, .int (nI s + Int32.ofInt 1))] [] h [false, false, false, false] 60 hq rfl ⟨g0, g1, g2, g3, trivial⟩ (fun _ => ?_)
          rw [nI_1', nI_1']
          exact r
theorem tno_q {f a : Nat} (A : RA W m h) (m12 : m ≤ 12) (ha : a < m) (hq : a_rq a_tb h) : xq f xi_X10_turnsOf xmi_X10_turnsOf 0 [(0, .ref 39), (1, .int (nI a))] [] h (fun v h' => h = h' ∧ v = some (.int (nI (cnt (tw W a) (2 ^ m))))) := by
  refine xq_n 4 [0, 1, 2, 3] [(0, .ref 39), (1, .int (nI a)), (2, .int (Int32.ofInt 0)), (3, .int (Int32.ofInt 0))] [] h [] 60 hq rfl trivial (fun _ => ?_)
  exact tno_l A m12 ha hq (2 ^ m) f 0 (by omega)
set_option maxRecDepth 100000 in
set_option maxHeartbeats 4000000 in
/-- X10.ally, how often with one other -/
theorem al_in {a b : Nat} {x2 x3 : Int32} (A : RA W m h) (m12 : m ≤ 12) (ha : a < m) (hb : b < m) (hq : a_rq a_tb h) {Q : Option Value → xh_H → Prop} (K : ∀ f, xq f xi_X10_ally xmi_X10_ally 135 [(0, .ref 39), (1, .int (nI a)), (2, .int x2), (3, .int x3), (4, .int (nI b)), (5, .int (nI (cnt (tg W a b) (2 ^ m))))] [] h Q) : ∀ (n f s : Nat), s + n = 2 ^ m → xq f xi_X10_ally xmi_X10_ally 50 [(0, .ref 39), (1, .int (nI a)), (2, .int x2), (3, .int x3), (4, .int (nI b)), (5, .int (nI (cnt (tg W a b) s))), (6, .int (nI s))] [] h Q := by
  intro n
  induction n with
  | zero =>
    intro f s sn
    have e : s = 2 ^ m := by omega
    subst e
    refine xq_n 135 [0, 1, 2, 3, 4, 5] [(0, .ref 39), (1, .int (nI a)), (2, .int x2), (3, .int x3), (4, .int (nI b)), (5, .int (nI (cnt (tg W a b) (2 ^ m))))] [] h [true] 60 hq rfl ⟨rgt A m12, trivial⟩ (fun _ => ?_)
    exact K f
  | succ n ih =>
    intro f s sn
    have r := ih f (s + 1) (by omega)
    have hs : s < 2 ^ m := by omega
    have g0 := rgf A m12 hs
    have g1 := bn (rb0 m12 hs ha)
    have g2 := bn (rb0 m12 hs hb)
    have g3 := bn (rw1 A m12 hs ha)
    have g4 := bn (rw1 A m12 hs hb)
    have g5 := be' (rw2 A m12 hs ha hb)
    cases c1 : s.testBit a with
    | true =>
      rw [c1] at g1
      have z : tg W a b s = false := by unfold tg; rw [c1]; rfl
      rw [cnt_f z] at r
      refine xq_n 50 [0, 1, 2, 3, 4, 5, 6] [(0, .ref 39), (1, .int (nI a)), (2, .int x2), (3, .int x3), (4, .int (nI b)), (5, .int (nI (cnt (tg W a b) s))), (6, .int (nI s + Int32.ofInt 1))] [] h [false, true] 80 hq rfl ⟨g0, g1, trivial⟩ (fun _ => ?_)
      rw [nI_1']
      exact r
    | false =>
      rw [c1] at g1
      cases c2 : s.testBit b with
      | true =>
        rw [c2] at g2
        have z : tg W a b s = false := by unfold tg; rw [c1, c2]; rfl
        rw [cnt_f z] at r
        refine xq_n 50 [0, 1, 2, 3, 4, 5, 6] [(0, .ref 39), (1, .int (nI a)), (2, .int x2), (3, .int x3), (4, .int (nI b)), (5, .int (nI (cnt (tg W a b) s))), (6, .int (nI s + Int32.ofInt 1))] [] h [false, false, true] 80 hq rfl ⟨g0, g1, g2, trivial⟩ (fun _ => ?_)
        rw [nI_1']
        exact r
      | false =>
        rw [c2] at g2
        cases c3 : W (s ||| 2 ^ a) with
        | true =>
          rw [c3] at g3
          have z : tg W a b s = false := by unfold tg; rw [c1, c2, c3]; cases W ((s ||| 2 ^ a) ||| 2 ^ b) <;> rfl
          rw [cnt_f z] at r
          refine xq_n 50 [0, 1, 2, 3, 4, 5, 6] [(0, .ref 39), (1, .int (nI a)), (2, .int x2), (3, .int x3), (4, .int (nI b)), (5, .int (nI (cnt (tg W a b) s))), (6, .int (nI s + Int32.ofInt 1))] [] h [false, false, false, true] 80 hq rfl ⟨g0, g1, g2, g3, trivial⟩ (fun _ => ?_)
          rw [nI_1']
          exact r
        | false =>
          rw [c3] at g3
          cases c4 : W (s ||| 2 ^ b) with
          | true =>
            rw [c4] at g4
            have z : tg W a b s = false := by unfold tg; rw [c1, c2, c3, c4]; cases W ((s ||| 2 ^ a) ||| 2 ^ b) <;> rfl
            rw [cnt_f z] at r
            refine xq_n 50 [0, 1, 2, 3, 4, 5, 6] [(0, .ref 39), (1, .int (nI a)), (2, .int x2), (3, .int x3), (4, .int (nI b)), (5, .int (nI (cnt (tg W a b) s))), (6, .int (nI s + Int32.ofInt 1))] [] h [false, false, false, false, true] 80 hq rfl ⟨g0, g1, g2, g3, g4, trivial⟩ (fun _ => ?_)
            rw [nI_1']
            exact r
          | false =>
            rw [c4] at g4
            cases c5 : W ((s ||| 2 ^ a) ||| 2 ^ b) with
            | false =>
              rw [c5] at g5
              have z : tg W a b s = false := by unfold tg; rw [c1, c2, c3, c4, c5]; rfl
              rw [cnt_f z] at r
              refine xq_n 50 [0, 1, 2, 3, 4, 5, 6] [(0, .ref 39), (1, .int (nI a)), (2, .int x2), (3, .int x3), (4, .int (nI b)), (5, .int (nI (cnt (tg W a b) s))), (6, .int (nI s + Int32.ofInt 1))] [] h [false, false, false, false, false, true] 80 hq rfl ⟨g0, g1, g2, g3, g4, g5, trivial⟩ (fun _ => ?_)
              rw [nI_1']
              exact r
            | true =>
              rw [c5] at g5
              have z : tg W a b s = true := by unfold tg; rw [c1, c2, c3, c4, c5]; rfl
              rw [cnt_t z] at r
              refine xq_n 50 [0, 1, 2, 3, 4, 5, 6] [(0, .ref 39), (1, .int (nI a)), (2, .int x2), (3, .int x3), (4, .int (nI b)), (5, .int (nI (cnt (tg W a b) s) + Int32.ofInt 1)), (6, .int (nI s + Int32.ofInt 1))] [] h [false, false, false, false, false, false] 80 hq rfl ⟨g0, g1, g2, g3, g4, g5, trivial⟩ (fun _ => ?_)
              rw [nI_1', nI_1']
              exact r
set_option maxRecDepth 100000 in
set_option maxHeartbeats 4000000 in
theorem al_out {a : Nat} {F : Nat → Nat} (hF : F = fun b => cnt (tg W a b) (2 ^ m)) (A : RA W m h) (m12 : m ≤ 12) (ha : a < m) (hq : a_rq a_tb h) : ∀ (j f n : Nat), n + j = m → xq f xi_X10_ally xmi_X10_ally 26 [(0, .ref 39), (1, .int (nI a)), (2, .int (alf F a n).1), (3, .int (alf F a n).2), (4, .int (nI n))] [] h (fun v h' => v = some (.int (alf F a m).1)) := by
  intro j
  induction j with
  | zero =>
    intro f n nj
    have e : n = m := by omega
    subst e
    refine xq_n 157 [] [] [.int (alf F a n).1] h [true] 60 hq rfl ⟨(show xe_c .ge (nI n) (xg 0 h.2.1 39 4) = true by rw [A.1]; exact nge_t (by omega) (by omega) (Nat.le_refl _)), trivial⟩ (fun _ => ?_)
    exact xq_ret rfl rfl rfl rfl
  | succ j ih =>
    intro f n nj
    have c0 : xe_c .ge (nI n) (xg 0 h.2.1 39 4) = false := by rw [A.1]; exact nge_f (by omega) (by omega) (by omega)
    have r := fun f => ih f (n + 1) (by omega)
    rw [alf_s] at r
    by_cases z : n = a
    · rw [if_pos z] at r
      refine xq_n 26 [0, 1, 2, 3, 4] [(0, .ref 39), (1, .int (nI a)), (2, .int (alf F a n).1), (3, .int (alf F a n).2), (4, .int (nI n + Int32.ofInt 1))] [] h [false, false] 60 hq rfl ⟨c0, nne_f (by omega) (by omega) z, trivial⟩ (fun _ => ?_)
      rw [nI_1']
      exact r f
    · rw [if_neg z] at r
      refine xq_n 50 [0, 1, 2, 3, 4, 5, 6] [(0, .ref 39), (1, .int (nI a)), (2, .int (alf F a n).1), (3, .int (alf F a n).2), (4, .int (nI n)), (5, .int (Int32.ofInt 0)), (6, .int (Int32.ofInt 0))] [] h [false, true] 60 hq rfl ⟨c0, nne_t (by omega) (by omega) z, trivial⟩ (fun _ => ?_)
      refine al_in A m12 ha (show n < m by omega) hq (fun f => ?_) (2 ^ m) f 0 (by omega)
      have eF : cnt (tg W a n) (2 ^ m) = F n := by rw [hF]
      rw [eF]
      cases c : xe_c .gt (nI (F n)) (alf F a n).2 with
      | true =>
        rw [c] at r
        refine xq_n 26 [0, 1, 2, 3, 4] [(0, .ref 39), (1, .int (nI a)), (2, .int (nI n)), (3, .int (nI (F n))), (4, .int (nI n + Int32.ofInt 1))] [] h [true] 60 hq rfl ⟨c, trivial⟩ (fun _ => ?_)
        rw [nI_1']
        exact r f
      | false =>
        rw [c] at r
        refine xq_n 26 [0, 1, 2, 3, 4] [(0, .ref 39), (1, .int (nI a)), (2, .int (alf F a n).1), (3, .int (alf F a n).2), (4, .int (nI n + Int32.ofInt 1))] [] h [false] 60 hq rfl ⟨c, trivial⟩ (fun _ => ?_)
        rw [nI_1']
        exact r f
/-- held -/
def hdv (x y : Bool) : Int32 := cond x (cond y 3 1) (cond y 2 0)
theorem hdv_2 {x y : Bool} : hdv x y &&& Int32.ofInt 2 = hdv false y := by cases x <;> cases y <;> decide
theorem hdv_1 {x y : Bool} : hdv x y &&& Int32.ofInt 1 = hdv x false := by cases x <;> cases y <;> decide
theorem be1 {b : Bool} {x : Int32} (e : x = bl b) : xe_c .eq x (Int32.ofInt 1) = b := by rw [e]; cases b <;> rfl
theorem bn1 {b : Bool} {x : Int32} (e : x = bl b) : xe_c .ne x (Int32.ofInt 1) = !b := by rw [e]; cases b <;> rfl
theorem aln_1 {P : Nat → Bool} {n : Nat} (h : P n = true) : aln P (n + 1) = aln P n := by show (aln P n && P n) = _; rw [h, Bool.and_true]
theorem aln_0 {P : Nat → Bool} {n : Nat} (h : P n = false) : aln P (n + 1) = false := by show (aln P n && P n) = _; rw [h, Bool.and_false]
set_option maxRecDepth 100000 in
set_option maxHeartbeats 4000000 in
/-- X10.held -/
theorem hel_l {a b : Nat} (A : RA W m h) (m12 : m ≤ 12) (ha : a < m) (hb : b < m) (hq : a_rq a_tb h) : ∀ (n f s : Nat), s + n = 2 ^ m → xq f xi_X10_held xmi_X10_held 5 [(0, .ref 39), (1, .int (nI a)), (2, .int (nI b)), (3, .int (hdv (aln (gp W a b) s) (aln (gp W b a) s))), (4, .int (nI s))] [] h (fun v h' => h = h' ∧ v = some (.int (hdv (aln (gp W a b) (2 ^ m)) (aln (gp W b a) (2 ^ m))))) := by
  intro n
  induction n with
  | zero =>
    intro f s sn
    have e : s = 2 ^ m := by omega
    subst e
    refine xq_n 98 [] [] [.int (hdv (aln (gp W a b) (2 ^ m)) (aln (gp W b a) (2 ^ m)))] h [true] 60 hq rfl ⟨rgt A m12, trivial⟩ (fun _ => ?_)
    exact xq_ret rfl rfl rfl ⟨rfl, rfl⟩
  | succ n ih =>
    intro f s sn
    have r := ih f (s + 1) (by omega)
    have hs : s < 2 ^ m := by omega
    have g0 := rgf A m12 hs
    have g1 := be1 (rb0 m12 hs ha)
    have g2 := bn1 (rb0 m12 hs hb)
    have ea := rw1 A m12 hs ha
    have eb := rw1 A m12 hs hb
    cases c1 : s.testBit a with
    | true =>
      rw [c1] at g1
      rw [aln_1 (show gp W a b s = true by unfold gp; rw [c1]; rfl), aln_1 (show gp W b a s = true by unfold gp; rw [c1]; cases s.testBit b <;> rfl)] at r
      refine xq_n 5 [0, 1, 2, 3, 4] [(0, .ref 39), (1, .int (nI a)), (2, .int (nI b)), (3, .int (hdv (aln (gp W a b) s) (aln (gp W b a) s))), (4, .int (nI s + Int32.ofInt 1))] [] h [false, true] 60 hq rfl ⟨g0, g1, trivial⟩ (fun _ => ?_)
      rw [nI_1']
      exact r
    | false =>
      rw [c1] at g1
      cases c2 : s.testBit b with
      | true =>
        rw [c2] at g2
        rw [aln_1 (show gp W a b s = true by unfold gp; rw [c1, c2]; rfl), aln_1 (show gp W b a s = true by unfold gp; rw [c2]; rfl)] at r
        refine xq_n 5 [0, 1, 2, 3, 4] [(0, .ref 39), (1, .int (nI a)), (2, .int (nI b)), (3, .int (hdv (aln (gp W a b) s) (aln (gp W b a) s))), (4, .int (nI s + Int32.ofInt 1))] [] h [false, false, false] 60 hq rfl ⟨g0, g1, g2, trivial⟩ (fun _ => ?_)
        rw [nI_1']
        exact r
      | false =>
        rw [c2] at g2
        refine xq_n 63 [0, 1, 2, 3, 4, 5, 6] [(0, .ref 39), (1, .int (nI a)), (2, .int (nI b)), (3, .int (hdv (aln (gp W a b) s) (aln (gp W b a) s))), (4, .int (nI s)), (5, .int (xg 0 h.2.1 53 (nI s ||| (Int32.ofInt 1 <<< (nI a &&& 31))).toNatClampNeg)), (6, .int (xg 0 h.2.1 53 (nI s ||| (Int32.ofInt 1 <<< (nI b &&& 31))).toNatClampNeg))] [] h [false, false, true] 60 hq rfl ⟨g0, g1, g2, trivial⟩ (fun _ => ?_)
        rw [ea, eb]
        cases ca : W (s ||| 2 ^ a) with
        | true =>
          cases cb : W (s ||| 2 ^ b) with
          | true =>
            rw [aln_1 (show gp W a b s = true by unfold gp; rw [c1, c2, ca, cb]; rfl), aln_1 (show gp W b a s = true by unfold gp; rw [c1, c2, ca, cb]; rfl)] at r
            refine xq_n 5 [0, 1, 2, 3, 4] [(0, .ref 39), (1, .int (nI a)), (2, .int (nI b)), (3, .int (hdv (aln (gp W a b) s) (aln (gp W b a) s))), (4, .int (nI s + Int32.ofInt 1))] [] h [false, true, false, true] 60 hq rfl ⟨rfl, rfl, rfl, rfl, trivial⟩ (fun _ => ?_)
            rw [nI_1']
            exact r
          | false =>
            rw [aln_1 (show gp W a b s = true by unfold gp; rw [c1, c2, ca, cb]; rfl), aln_0 (show gp W b a s = false by unfold gp; rw [c1, c2, ca, cb]; rfl)] at r
            refine xq_n 5 [0, 1, 2, 3, 4] [(0, .ref 39), (1, .int (nI a)), (2, .int (nI b)), (3, .int (hdv (aln (gp W a b) s) (aln (gp W b a) s) &&& Int32.ofInt 1)), (4, .int (nI s + Int32.ofInt 1))] [] h [true, false, false] 60 hq rfl ⟨rfl, rfl, rfl, trivial⟩ (fun _ => ?_)
            rw [nI_1', hdv_1]
            exact r
        | false =>
          cases cb : W (s ||| 2 ^ b) with
          | true =>
            rw [aln_0 (show gp W a b s = false by unfold gp; rw [c1, c2, ca, cb]; rfl), aln_1 (show gp W b a s = true by unfold gp; rw [c1, c2, ca, cb]; rfl)] at r
            refine xq_n 5 [0, 1, 2, 3, 4] [(0, .ref 39), (1, .int (nI a)), (2, .int (nI b)), (3, .int (hdv (aln (gp W a b) s) (aln (gp W b a) s) &&& Int32.ofInt 2)), (4, .int (nI s + Int32.ofInt 1))] [] h [false, false, true] 60 hq rfl ⟨rfl, rfl, rfl, trivial⟩ (fun _ => ?_)
            rw [nI_1', hdv_2]
            exact r
          | false =>
            rw [aln_1 (show gp W a b s = true by unfold gp; rw [c1, c2, ca, cb]; rfl), aln_1 (show gp W b a s = true by unfold gp; rw [c1, c2, ca, cb]; rfl)] at r
            refine xq_n 5 [0, 1, 2, 3, 4] [(0, .ref 39), (1, .int (nI a)), (2, .int (nI b)), (3, .int (hdv (aln (gp W a b) s) (aln (gp W b a) s))), (4, .int (nI s + Int32.ofInt 1))] [] h [true, true] 60 hq rfl ⟨rfl, rfl, trivial⟩ (fun _ => ?_)
            rw [nI_1']
            exact r
theorem hel_q {f a b : Nat} (A : RA W m h) (m12 : m ≤ 12) (ha : a < m) (hb : b < m) (hq : a_rq a_tb h) : xq f xi_X10_held xmi_X10_held 0 [(0, .ref 39), (1, .int (nI a)), (2, .int (nI b))] [] h (fun v h' => h = h' ∧ v = some (.int (hdv (aln (gp W a b) (2 ^ m)) (aln (gp W b a) (2 ^ m))))) := by
  refine xq_n 5 [0, 1, 2, 3, 4] [(0, .ref 39), (1, .int (nI a)), (2, .int (nI b)), (3, .int (Int32.ofInt 3)), (4, .int (Int32.ofInt 0))] [] h [] 60 hq rfl trivial (fun _ => ?_)
  exact hel_l A m12 ha hb hq (2 ^ m) f 0 (by omega)
end
/-- one of the members -/
theorem mb_n {x : Int32} {mem : Nat} (m12 : mem ≤ 12) (h : (!xe_c .lt x 0 && !xe_c .ge x (nI mem)) = true) : ∃ a, x = nI a ∧ a < mem ∧ x.toInt.toNat = a := by
  rw [Bool.and_eq_true, Bool.not_eq_true', Bool.not_eq_true'] at h
  have b1 : (0 : Int) ≤ x.toInt := a_ce (a_neg_ok h.1)
  have b2 : x.toInt < (nI mem).toInt := a_ce (a_neg_ok h.2)
  rw [nI_toInt (by omega)] at b2
  obtain ⟨k, e, k1, k2⟩ := a_nk (x := x) (m := 12) b1 (by omega)
  have t : x.toInt.toNat = k := by rw [e, nI_toInt (by omega)]; omega
  exact ⟨k, e, by omega, t⟩
def isM (x : Int32) (mem : Nat) : Bool := !xe_c .lt x 0 && !xe_c .ge x (nI mem)
def tuA (W : Nat → Bool) (mem : Nat) (x : Int32) : Int32 := cond (isM x mem) (nI (cnt (tw W x.toInt.toNat) (2 ^ mem))) (Int32.ofInt (-1))
def alA (W : Nat → Bool) (mem : Nat) (x : Int32) : Int32 := cond (isM x mem) (alf (fun b => cnt (tg W x.toInt.toNat b) (2 ^ mem)) x.toInt.toNat mem).1 (Int32.ofInt (-1))
def cmv (o u : Bool) : Int32 := cond o (cond u (Int32.ofInt 0) (Int32.ofInt 1)) (cond u (Int32.ofInt (-1)) (Int32.ofInt 2))
def srA (W : Nat → Bool) (mem : Nat) (x y : Int32) : Int32 := cond (isM x mem) (cond (isM y mem) (cmv (aln (gp W x.toInt.toNat y.toInt.toNat) (2 ^ mem)) (aln (gp W y.toInt.toNat x.toInt.toNat) (2 ^ mem))) (-2)) (-2)
theorem gp_s {W : Nat → Bool} {a s : Nat} : gp W a a s = true := by unfold gp; cases W (s ||| 2 ^ a) <;> cases s.testBit a <;> rfl
theorem aln_a {P : Nat → Bool} : ∀ n, (∀ k, P k = true) → aln P n = true := by
  intro n
  induction n with
  | zero => intro _; rfl
  | succ n ih => intro h; rw [aln_1 (h n)]; exact ih h
section
variable {mem sc : Nat} {FR RW : Nat → Int32} {d : Int32} {h : xh_H}
/-- lay, behind the answer's first write -/
theorem ly_q {f : Nat} (m12 : mem ≤ 12) (e4 : xg 0 h.2.1 39 4 = nI mem) (e33 : xg 0 h.2.1 39 33 = nI sc) (sc8 : sc ≤ 8) (e3 : xg 0 h.2.1 39 3 = d) (hF : ∀ k, k < sc → xg 0 h.2.1 51 k = FR k) (hT : ∀ k, k < sc → (xg 0 h.2.1 52 k).toInt ≤ 999) (hR : ∀ k s, k < sc → s < 2 ^ mem → ∃ b : Bool, RW (4096 * k + s) = bl b ∧ xg 0 h.2.1 44 (4096 * k + s) = bl b) (hq : a_rq a_tb (xh_ui h 39 0 (Int32.ofInt 0))) : xq f xi_X10_lay xmi_X10_lay 0 [(0, .ref 39)] [] (xh_ui h 39 0 (Int32.ofInt 0)) (fun v h' => v = none ∧ fx S53 fN (xh_ui h 39 0 (Int32.ofInt 0)) h' ∧ RA (cvB FR RW mem sc d) mem h') := by
  refine xq_mono (lay_q (FR := FR) (RW := RW) (d := d) m12 ((gx_k (by decide)).trans e4) ((gx_k (by decide)).trans e33) sc8 ((gx_k (by decide)).trans e3) (fun k hk' => (gx_o (by decide)).trans (hF k hk')) (fun k hk' => by rw [gx_o (by decide)]; exact hT k hk') (fun k s h1 h2 => by obtain ⟨b, b1, b2⟩ := hR k s h1 h2; exact ⟨b, b1, (gx_o (by decide)).trans b2⟩) hq) (fun v h' e => ?_)
  obtain ⟨e1, g1, w35, w53⟩ := e
  exact ⟨e1, g1, (fx_i g1 rfl).trans ((gx_k (by decide)).trans e4), w35, w53⟩
set_option maxRecDepth 100000 in
set_option maxHeartbeats 4000000 in
theorem tu10_q {f : Nat} {x : Int32} (m12 : mem ≤ 12) (e4 : xg 0 h.2.1 39 4 = nI mem) (e33 : xg 0 h.2.1 39 33 = nI sc) (sc8 : sc ≤ 8) (e3 : xg 0 h.2.1 39 3 = d) (hF : ∀ k, k < sc → xg 0 h.2.1 51 k = FR k) (hT : ∀ k, k < sc → (xg 0 h.2.1 52 k).toInt ≤ 999) (hR : ∀ k s, k < sc → s < 2 ^ mem → ∃ b : Bool, RW (4096 * k + s) = bl b ∧ xg 0 h.2.1 44 (4096 * k + s) = bl b) (hq : a_rq a_tb h) : xq f xi_X10_turns xmi_X10_turns 0 [(0, .ref 39), (1, .int x)] [] h (fun v h' => v = some (.int (tuA (cvB FR RW mem sc d) mem x))) := by
  refine xq_n 7 [0, 1] [(0, .ref 39), (1, .int x)] [.int x, .ref 39] (xh_ui h 39 0 (Int32.ofInt 0)) [] 60 hq rfl trivial (fun _ => ?_)
  have hq : a_rq a_tb (xh_ui h 39 0 (Int32.ofInt 0)) := a_rq_ui hq
  refine xq_run hq rfl rfl (mem10_q (z := nI mem) ((gx_k (by decide)).trans e4) hq) ?_
  rintro v h1 ⟨rfl, rfl⟩
  unfold tuA isM
  cases c1 : (!xe_c .lt x 0 && !xe_c .ge x (nI mem)) with
  | false =>
    refine xq_n 14 [] [] [.int (Int32.ofInt (-1))] (xh_ui h 39 0 (Int32.ofInt 0)) [false] 60 hq rfl ⟨rfl, trivial⟩ (fun _ => ?_)
    exact xq_ret rfl rfl rfl rfl
  | true =>
    obtain ⟨a, rfl, al, ea⟩ := mb_n m12 c1
    rw [ea]
    refine xq_n 16 [0, 1] [(0, .ref 39), (1, .int (nI a))] [.ref 39] (xh_ui h 39 0 (Int32.ofInt 0)) [true] 60 hq rfl ⟨rfl, trivial⟩ (fun _ => ?_)
    refine xq_run hq rfl rfl (ly_q m12 e4 e33 sc8 e3 hF hT hR hq) ?_
    rintro v h1 ⟨rfl, g1, A⟩
    have hq := fx_q g1 hq
    refine xq_n 21 [] [] [.int (nI a), .ref 39] h1 [] 60 hq rfl trivial (fun _ => ?_)
    refine xq_run hq rfl rfl (tno_q A m12 al hq) ?_
    rintro v h2 ⟨rfl, rfl⟩
    exact xq_ret rfl rfl rfl rfl
set_option maxRecDepth 100000 in
set_option maxHeartbeats 4000000 in
theorem al10_q {f : Nat} {x : Int32} (m12 : mem ≤ 12) (e4 : xg 0 h.2.1 39 4 = nI mem) (e33 : xg 0 h.2.1 39 33 = nI sc) (sc8 : sc ≤ 8) (e3 : xg 0 h.2.1 39 3 = d) (hF : ∀ k, k < sc → xg 0 h.2.1 51 k = FR k) (hT : ∀ k, k < sc → (xg 0 h.2.1 52 k).toInt ≤ 999) (hR : ∀ k s, k < sc → s < 2 ^ mem → ∃ b : Bool, RW (4096 * k + s) = bl b ∧ xg 0 h.2.1 44 (4096 * k + s) = bl b) (hq : a_rq a_tb h) : xq f xi_X10_ally xmi_X10_ally 0 [(0, .ref 39), (1, .int x)] [] h (fun v h' => v = some (.int (alA (cvB FR RW mem sc d) mem x))) := by
  refine xq_n 7 [0, 1] [(0, .ref 39), (1, .int x)] [.int x, .ref 39] (xh_ui h 39 0 (Int32.ofInt 0)) [] 60 hq rfl trivial (fun _ => ?_)
  have hq : a_rq a_tb (xh_ui h 39 0 (Int32.ofInt 0)) := a_rq_ui hq
  refine xq_run hq rfl rfl (mem10_q (z := nI mem) ((gx_k (by decide)).trans e4) hq) ?_
  rintro v h1 ⟨rfl, rfl⟩
  unfold alA isM
  cases c1 : (!xe_c .lt x 0 && !xe_c .ge x (nI mem)) with
  | false =>
    refine xq_n 14 [] [] [.int (Int32.ofInt (-1))] (xh_ui h 39 0 (Int32.ofInt 0)) [false] 60 hq rfl ⟨rfl, trivial⟩ (fun _ => ?_)
    exact xq_ret rfl rfl rfl rfl
  | true =>
    obtain ⟨a, rfl, al, ea⟩ := mb_n m12 c1
    rw [ea]
    refine xq_n 16 [0, 1] [(0, .ref 39), (1, .int (nI a))] [.ref 39] (xh_ui h 39 0 (Int32.ofInt 0)) [true] 60 hq rfl ⟨rfl, trivial⟩ (fun _ => ?_)
    refine xq_run hq rfl rfl (ly_q m12 e4 e33 sc8 e3 hF hT hR hq) ?_
    rintro v h1 ⟨rfl, g1, A⟩
    have hq := fx_q g1 hq
    refine xq_n 26 [0, 1, 2, 3, 4] [(0, .ref 39), (1, .int (nI a)), (2, .int (Int32.ofInt (-1))), (3, .int (Int32.ofInt (-1))), (4, .int (Int32.ofInt 0))] [] h1 [] 60 hq rfl trivial (fun _ => ?_)
    exact al_out rfl A m12 al hq mem f 0 (by omega)
set_option maxRecDepth 100000 in
set_option maxHeartbeats 4000000 in
theorem sr10_q {f : Nat} {x y : Int32} (m12 : mem ≤ 12) (e4 : xg 0 h.2.1 39 4 = nI mem) (e33 : xg 0 h.2.1 39 33 = nI sc) (sc8 : sc ≤ 8) (e3 : xg 0 h.2.1 39 3 = d) (hF : ∀ k, k < sc → xg 0 h.2.1 51 k = FR k) (hT : ∀ k, k < sc → (xg 0 h.2.1 52 k).toInt ≤ 999) (hR : ∀ k s, k < sc → s < 2 ^ mem → ∃ b : Bool, RW (4096 * k + s) = bl b ∧ xg 0 h.2.1 44 (4096 * k + s) = bl b) (hq : a_rq a_tb h) : xq f xi_X10_stronger xmi_X10_stronger 0 [(0, .ref 39), (1, .int x), (2, .int y)] [] h (fun v h' => v = some (.int (srA (cvB FR RW mem sc d) mem x y))) := by
  refine xq_n 7 [0, 1, 2] [(0, .ref 39), (1, .int x), (2, .int y)] [.int x, .ref 39] (xh_ui h 39 0 (Int32.ofInt 0)) [] 60 hq rfl trivial (fun _ => ?_)
  have hq : a_rq a_tb (xh_ui h 39 0 (Int32.ofInt 0)) := a_rq_ui hq
  refine xq_run hq rfl rfl (mem10_q (z := nI mem) ((gx_k (by decide)).trans e4) hq) ?_
  rintro v h1 ⟨rfl, rfl⟩
  unfold srA
  cases c1 : isM x mem with
  | false =>
    unfold isM at c1
    rw [c1]
    refine xq_n 23 [] [] [.int (-2)] (xh_ui h 39 0 (Int32.ofInt 0)) [true] 60 hq rfl ⟨rfl, trivial⟩ (fun _ => ?_)
    exact xq_ret rfl rfl rfl rfl
  | true =>
    unfold isM at c1
    obtain ⟨a, rfl, al, ea⟩ := mb_n m12 c1
    rw [ea, c1]
    refine xq_n 15 [0, 1, 2] [(0, .ref 39), (1, .int (nI a)), (2, .int y)] [.int y, .ref 39] (xh_ui h 39 0 (Int32.ofInt 0)) [false] 60 hq rfl ⟨rfl, trivial⟩ (fun _ => ?_)
    refine xq_run hq rfl rfl (mem10_q (z := nI mem) ((gx_k (by decide)).trans e4) hq) ?_
    rintro v h1 ⟨rfl, rfl⟩
    cases c2 : isM y mem with
    | false =>
      unfold isM at c2
      rw [c2]
      refine xq_n 23 [] [] [.int (-2)] (xh_ui h 39 0 (Int32.ofInt 0)) [false] 60 hq rfl ⟨rfl, trivial⟩ (fun _ => ?_)
      exact xq_ret rfl rfl rfl rfl
    | true =>
      unfold isM at c2
      obtain ⟨b, rfl, bm, eb⟩ := mb_n m12 c2
      rw [eb, c2]
      by_cases z : a = b
      · refine xq_n 30 [] [] [.int (Int32.ofInt 0)] (xh_ui h 39 0 (Int32.ofInt 0)) [true, false] 60 hq rfl ⟨rfl, nne_f (by omega) (by omega) z, trivial⟩ (fun _ => ?_)
        refine xq_ret rfl rfl rfl ?_
        rw [← z, aln_a (P := gp (cvB FR RW mem sc d) a a) (2 ^ mem) (fun _ => gp_s)]
        rfl
      · refine xq_n 32 [0, 1, 2] [(0, .ref 39), (1, .int (nI a)), (2, .int (nI b))] [.ref 39] (xh_ui h 39 0 (Int32.ofInt 0)) [true, true] 60 hq rfl ⟨rfl, nne_t (by omega) (by omega) z, trivial⟩ (fun _ => ?_)
        refine xq_run hq rfl rfl (ly_q m12 e4 e33 sc8 e3 hF hT hR hq) ?_
        rintro v h1 ⟨rfl, g1, A⟩
        have hq := fx_q g1 hq
        refine xq_n 38 [] [] [.int (nI b), .int (nI a), .ref 39] h1 [] 60 hq rfl trivial (fun _ => ?_)
        refine xq_run hq rfl rfl (hel_q A m12 al bm hq) ?_
        rintro v h2 ⟨rfl, rfl⟩
        cases aln (gp (cvB FR RW mem sc d) a b) (2 ^ mem) with
        | true =>
          cases aln (gp (cvB FR RW mem sc d) b a) (2 ^ mem) with
          | true =>
            refine xq_n 70 [] [] [.int (Int32.ofInt 0)] h1 [false] 60 hq rfl ⟨rfl, trivial⟩ (fun _ => ?_)
            exact xq_ret rfl rfl rfl rfl
          | false =>
            refine xq_n 70 [] [] [.int (Int32.ofInt 1)] h1 [true, false] 60 hq rfl ⟨rfl, rfl, trivial⟩ (fun _ => ?_)
            exact xq_ret rfl rfl rfl rfl
        | false =>
          cases aln (gp (cvB FR RW mem sc d) b a) (2 ^ mem) with
          | true =>
            refine xq_n 70 [] [] [.int (Int32.ofInt (-1))] h1 [true, true, false] 60 hq rfl ⟨rfl, rfl, rfl, trivial⟩ (fun _ => ?_)
            exact xq_ret rfl rfl rfl rfl
          | false =>
            refine xq_n 70 [] [] [.int (Int32.ofInt 2)] h1 [true, true, true] 60 hq rfl ⟨rfl, rfl, rfl, trivial⟩ (fun _ => ?_)
            exact xq_ret rfl rfl rfl rfl
end
end XPR
